/-! a method's contract out of its pure run; calls out of contracts -/
theorem rx_args_tr (ad : Nat → Nat) : ∀ (n : Nat) (vs : List Value), rx_l ad (lv_args n vs) = lv_args n (vs.map (rx_v ad))
  | _, [] => rfl
  | n, v :: vs => by
    unfold lv_args
    simp only [rx_l, List.map_cons] at *
    rw [rx_cat]
    congr 1
    exact rx_args_tr ad _ vs
/-- the good words of the tables: every method's words -/
def rx_WT : List Cond := lw_tbl.filter goodWord
theorem rx_in {w : Cond} (n : Nat) (h : lw_tbl[n]? = some w) (hg : goodWord w = true) : w ∈ rx_WT := List.mem_filter.mpr ⟨List.mem_of_getElem? h, hg⟩
theorem rx_good (y : Cond) (hy : y ∈ rx_WT) {big : List Cond} (h : ∀ w ∈ rx_WT, w ∈ big) : GoodIn big (y :: rx_WT) := by
  intro w hw
  rcases List.mem_cons.mp hw with rfl | hw
  · exact ⟨h _ hy, good_of_word (List.mem_filter.mp hy).2⟩
  · exact ⟨h _ hw, good_of_word (List.mem_filter.mp hw).2⟩
/-- a method's end -/
def rx_Q (D : va_G) (ca : Nat → ClassId) (ad : Nat → Nat) (vh : rx_H) (rv : Option Value) (vh' : rx_H) (mc : Nat) (A : Nat → Prop) : Array Value → State → Outcome → State → Prop := fun _ st oc t =>
  (∃ ad' : Nat → Nat, (∀ k, k < vh.length ∨ 1000000 ≤ k → ad' k = ad k) ∧ (mc = 0 → ad' = ad) ∧ vh.length ≤ vh'.length ∧ vh'.length ≤ vh.length + mc ∧ oc = .returned (rv.map (rx_v ad')) ∧ va_P D vwCl (rx_w ad' ca vh') t.heap ∧ va_D A (rx_w ad' ca vh')) ∧ va_F A st t
/-- a method's start -/
def rx_P (D : va_G) (tys : List (ClassId × FieldType)) (ca : Nat → ClassId) (ad : Nat → Nat) (vh : rx_H) (As : List Value) (sz : Nat) : Array Value → State → Prop := va_Pc (As.map (rx_v ad)) (fun U => U.heap.size = sz ∧ va_P D vwCl (rx_w ad ca vh) U.heap ∧ va_K D vwCl tys U ∧ va_D (fun _ => True) (rx_w ad ca vh) ∧ rx_J ad (va_A (rx_w ad ca vh) sz) U U.heap)
/-- CONTRACT: what the function F answers, the method does -/
def rx_M (l : Launch) (y : MethodName) (ws : List Cond) (rm : Room) (F : rx_F) : Prop := ∀ (D : va_G) (tys : List (ClassId × FieldType)) (ca : Nat → ClassId) (ad : Nat → Nat) (vh : rx_H) (As : List Value) (rv : Option Value) (vh' : rx_H) (sz : Nat), rx_tyok tys ca → F vh As = some (rv, vh') →
  Met l y ws rm (rx_P D tys ca ad vh As sz) (rx_Q D ca ad vh rv vh' rm.cells (va_A (rx_w ad ca vh) sz)) rm.cells rm.slots (va_A (rx_w ad ca vh) sz)
/-- a call that can be made from the methods of own, with room R -/
def rx_CA (l : Launch) (own : String) (R : Room) (i : Instr) (C : rx_C) : Prop := ∀ (p : Program) (e : Env) (s : State) (m : MethodId) (args : Array Value) (below : List Frame) (meth : Method) (c : Code) (Q : State → Prop) (cc : ByteArray) (nL : Nat) (D : va_G) (tys : List (ClassId × FieldType)) (ca : Nat → ClassId) (A : Nat → Prop) (mc ms : Nat), p.tables.exec = Jvm.exec → c.code = cc → c.maxLocals = nL → s.vm.findClass own = some m.cls → (∀ w ∈ rx_WT, w.before args s = true) → va_K D vwCl tys s → rx_tyok tys ca → (∀ q, s.heap.size ≤ q → A q) → mc ≤ R.cells → ms ≤ R.slots → rx_CO p l e R s m args below meth c Q cc nL D vwCl ca A mc ms i C
def rx_fn (kc : Nat → Option Value) (fl fp : Nat → Option (Nat × Nat × FieldType)) (gs fg : Nat → Option Nat) (nw : Nat → Option (Nat × Nat × List Value)) (cf : Instr → Option rx_C) (rt : Option FieldType) (mc ms nL : Nat) (cd : List (Nat × List (Instr × Nat))) (n : Nat) : rx_F := fun vh As => bif Nat.ble ((As.map Value.category).sum) nL then rx_run kc fl fp gs fg nw cf rt mc ms cd n 0 (lv_args 0 As) [] vh 0 0 else none
def rx_kcw (kc : Nat → Option Value) (own : String) : Prop := ∀ k v, kc k = some v → (∃ x, v = .int x ∧ Jvm.Cond.constant own k x ∈ rx_WT) ∨ (∃ x, v = .long x ∧ Jvm.Cond.constantLong own k x ∈ rx_WT) ∨ (∃ q ∈ se_str, q.1 = own ∧ q.2.1 = k ∧ v = .ref (1000100 + q.2.2.2))
theorem rx_ofW {l : Launch} {y : MethodName} {ws ws' : List Cond} {rm : Room} {Pc : Array Value → State → Prop} {Qc : Array Value → State → Outcome → State → Prop} {mc ms : Nat} {free : Addr → Prop} {cc : ByteArray} {maxL : Nat} {ret : Option FieldType}
    (hy : plainFor y = true) (hw : ws = Cond.code y cc maxL ret :: ws')
    (body : ∀ p e s m args below meth c s₁, BodyLoose p l y (headSpec ws rm) cc maxL ret e s m args below meth c s₁ → c.maxLocals = maxL → Pc args s →
      W p l e (headSpec ws rm).room s m args below meth c s.heap [] 0 0 (MQ below Qc args s mc ms free) (entryFrame m args maxL)) : Met l y ws rm Pc Qc mc ms free := by
  refine MetFree.of_bodySF (code := cc) (maxLocals := maxL) (ret := ret) hy ?_ ?_
  · intro args s m h hn
    obtain ⟨meth, c, h1, h2, h3, h4, h5, h6, -, -⟩ := Cond.code_spec hn (atoms_spec (ws := ws) h _ (by rw [hw]; exact List.mem_cons_self))
    exact ⟨meth, c, h1, h2, h3, h4, h5, h6⟩
  · intro p e s m args below meth c s₁ B hml hP _
    have hh0 : s₁.heap = s.heap := by rw [B.state]; rfl
    obtain ⟨t, a1, o, b1, b2, b3⟩ := body p e s m args below meth c s₁ B hml hP s₁ hh0 (Stand.of_body B)
    exact ⟨t, o, a1, b1, b2, ⟨b3.1, b3.2⟩⟩
section RXM
variable {l : Launch} {y : MethodName} {cc : ByteArray} {nL : Nat} {rt : Option FieldType} {rm : Room}
set_option maxHeartbeats 1000000 in
theorem rx_met {kc : Nat → Option Value} {fl fp : Nat → Option (Nat × Nat × FieldType)} {gs fg : Nat → Option Nat} {nw : Nat → Option (Nat × Nat × List Value)} {cf : Instr → Option rx_C} {cd : List (Nat × List (Instr × Nat))} (n : Nat) (hy : plainFor y = true)
    (hkc : rx_kcw kc y.cls) (hgs : rx_gsok gs y.cls rx_WT) (hfg : rx_fgok fg y.cls rx_WT) (hfl : rx_flok fl y.cls rx_WT vwCl) (hfp : rx_fpok fp y.cls y.name rx_WT vwCl) (hnw : rx_nwok nw y.cls rx_WT vwCl) (har : ∀ t, rx_atn t ≠ none → Cond.arrayClass (newarray.typeOf t) ∈ rx_WT)
    (hcd : cd.all (fun q => rx_dec cc nL q.1 q.2) = true) (hcf : ∀ i C, cf i = some C → rx_CA l y.cls rm i C) :
    rx_M l y (Cond.code y cc nL rt :: rx_WT) rm (rx_fn kc fl fp gs fg nw cf rt rm.cells rm.slots nL cd n) := by
  intro D tys ca ad vh As rv vh' sz hty hF
  unfold rx_fn at hF
  have hsl : (As.map Value.category).sum ≤ nL := by
    cases hq : Nat.ble ((As.map Value.category).sum) nL with
    | false => rw [hq] at hF; cases hF
    | true => exact Nat.le_of_ble_eq_true hq
  rw [show Nat.ble ((As.map Value.category).sum) nL = true from Nat.ble_eq_true_of_le hsl] at hF
  refine rx_ofW (cc := cc) (maxL := nL) (ret := rt) hy rfl ?_
  intro p e s m args below meth c s₁ B hml hv
  obtain ⟨rfl, hsz, hP, hK, hD0, hJ⟩ := hv
  have hx := B.exec
  have hb := B.bytes
  have hr := B.returns
  have hts := atoms_spec (ws := Cond.code y cc nL rt :: rx_WT) B.pre
  have hown : s.vm.findClass y.cls = some m.cls := findClass_of_methodNamed B.named
  have hlocks := B.notSynchronized
  have hnm : meth.name = y.name := (name_of_methodNamed B.named B.method).1
  subst hsz
  have hD := hD0.self (sz := s.heap.size)
  generalize hAe : va_A (rx_w ad ca vh) s.heap.size = A at hD hJ ⊢
  have hA : ∀ q : Nat, s.heap.size ≤ q → A q := fun q h => by rw [← hAe]; exact Or.inr h
  have hlen : (lg_sl (As.map (rx_v ad))).length ≤ nL := by
    refine Nat.le_trans (Nat.le_of_eq ?_) hsl
    clear hF hP hD0 hD B hts hlocks hJ hsl
    induction As with
    | nil => rfl
    | cons v vs ih =>
      simp only [lg_sl, List.map_cons, List.flatMap_cons, List.length_append, List.sum_cons] at ih ⊢
      rw [ih]
      cases v <;> rfl
  have hl := lv_entry (As.map (rx_v ad)) (n := nL) hlen
  rw [lg_entry_eq]
  generalize (lg_sl (As.map (rx_v ad)) ++ List.replicate (nL - (lg_sl (As.map (rx_v ad))).length) Slot.unset).toArray = ls at hl ⊢
  rw [← rx_args_tr] at hl
  have X : rx_X p l e rm s m (As.map (rx_v ad)).toArray below meth c (MQ below (rx_Q D ca ad vh rv vh' rm.cells A) (As.map (rx_v ad)).toArray s rm.cells rm.slots A) cc nL D vwCl ca A ad rm.cells rm.slots tys y.cls y.name rx_WT kc fl fp gs fg nw cf := by
    refine ⟨hx, hb, hown, fun w hw => hts w (List.mem_cons_of_mem _ hw), hK, hA, hty, ⟨fun k x hk => ?_, fun k x hk => ?_⟩, hfl, hfp, hnm, hnw, fun t ht => Or.inl (har t ht), Nat.le_refl _, Nat.le_refl _, fun i C hi => ?_, hJ, fun k x hk => ?_, hgs, hfg⟩
    · rcases hkc k _ hk with ⟨z, hz, hw⟩ | ⟨z, hz, hw⟩ | ⟨q, -, -, -, hz⟩
      · cases hz; exact hts _ (List.mem_cons_of_mem _ hw)
      · cases hz
      · cases hz
    · rcases hkc k _ hk with ⟨z, hz, hw⟩ | ⟨z, hz, hw⟩ | ⟨q, -, -, -, hz⟩
      · cases hz
      · cases hz; exact hts _ (List.mem_cons_of_mem _ hw)
      · cases hz
    · exact hcf i C hi p e s m _ below meth c _ cc nL D tys ca A rm.cells rm.slots hx hb hml hown (fun w hw => hts w (List.mem_cons_of_mem _ hw)) hK hty hA (Nat.le_refl _) (Nat.le_refl _)
    · rcases hkc k _ hk with ⟨z, hz, hw⟩ | ⟨z, hz, hw⟩ | ⟨q, h1, h2, h3, hz⟩
      · cases hz
      · cases hz
      · cases hz; exact ⟨q, h1, h2, h3, rfl⟩
  refine rx_run_ok (ad0 := ad) (n0 := vh.length) (rs := (rv, vh')) X hcd ?_ n 0 (lv_args 0 As) [] vh 0 0 hF ad s.heap [] ls (fun _ _ => rfl) (fun _ => rfl) (Nat.le_refl _) (Nat.le_refl _) (Nat.zero_le _) (Nat.zero_le _) hP hD va_S.rf hl
  intro i len pc vls st nc ns hret hdg ad' H locs lsA h1 h2 h3 h4 h5 h6 hP' hD' hS' hl'
  refine W.widen h5 h6 ?_
  have hend : ∀ (o : Option Value) (t : State), o = rv.map (rx_v ad') → t.heap = H → rx_Q D ca ad vh rv vh' rm.cells A (As.map (rx_v ad)).toArray s (.returned o) t := by
    intro o t ho ht
    refine ⟨⟨ad', h1, fun z => h2 (by omega), h3, by simp only at h4; omega, by rw [ho], by rw [ht]; exact hP', hD'⟩, hS'.F ht⟩
  unfold rx_ret at hret
  split at hret
  · cases hret; exact W.vret hx hb hr (fun t ht hW => hend none t rfl ht) hS'.2.2 hdg
  · cases hret; exact W.iret hx hb hr (fun t ht hW => hend _ t rfl ht) hS'.2.2 hdg
  · rename_i x
    cases hq : (decide (x = 0) || decide (x = 1)) <;> simp only [hq, cond_true, cond_false, Option.some.injEq, reduceCtorEq] at hret
    subst hret
    rw [Bool.or_eq_true, decide_eq_true_eq, decide_eq_true_eq] at hq
    refine W.zret hx hb hr ?_ (fun t ht hW => hend _ t rfl ht) hS'.2.2 hdg
    rcases hq with rfl | rfl <;> decide
  · rename_i x
    cases hq : decide (narrow .byte (.int x) = .int x) <;> simp only [hq, cond_true, cond_false, Option.some.injEq, reduceCtorEq] at hret
    subst hret
    exact W.zret hx hb hr (of_decide_eq_true hq) (fun t ht hW => hend _ t rfl ht) hS'.2.2 hdg
  · rename_i x
    cases hq : decide (narrow .char (.int x) = .int x) <;> simp only [hq, cond_true, cond_false, Option.some.injEq, reduceCtorEq] at hret
    subst hret
    exact W.zret hx hb hr (of_decide_eq_true hq) (fun t ht hW => hend _ t rfl ht) hS'.2.2 hdg
  · cases hret; exact W.lret hx hb hr (fun t ht hW => hend _ t rfl ht) hS'.2.2 hdg
  · cases hret; exact W.aret hx hb hr (Or.inl ⟨_, rfl⟩) (Or.inr ⟨_, rfl⟩) (fun t ht hW => hend _ t rfl ht) hS'.2.2 hdg
  · cases hret
end RXM
