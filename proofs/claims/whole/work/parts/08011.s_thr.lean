/-! throwing: a run up to the place P, where an exception is made and thrown -/
noncomputable def rx_runS (kc : Nat → Option Value) (fl fp : Nat → Option (Nat × Nat × FieldType)) (gs fg : Nat → Option Nat) (nw : Nat → Option (Nat × Nat × List Value)) (cf : Instr → Option rx_C) (rt : Option FieldType) (mc ms : Nat) (cd : List (Nat × List (Instr × Nat))) (P : Nat) (St : rx_L → List Value → rx_H → Nat → Nat → Prop) : Nat → rx_K
  | 0, _, _, _, _, _, _ => none
  | n + 1, pc, ls, st, vh, nc, ns => bif Nat.beq pc P then @ite _ (St ls st vh nc ns) (Classical.propDecidable _) (some (none, vh)) none else match rx_lkb cd pc with
    | some is => rx_blk kc fl fp gs fg nw cf rt mc ms (rx_runS kc fl fp gs fg nw cf rt mc ms cd P St n) is pc ls st vh nc ns
    | none => none
noncomputable def rx_fnS (kc : Nat → Option Value) (fl fp : Nat → Option (Nat × Nat × FieldType)) (gs fg : Nat → Option Nat) (nw : Nat → Option (Nat × Nat × List Value)) (cf : Instr → Option rx_C) (rt : Option FieldType) (mc ms : Nat) (nL : Nat) (cd : List (Nat × List (Instr × Nat))) (P : Nat) (St : rx_L → List Value → rx_H → Nat → Nat → Prop) (n : Nat) : rx_F := fun vh As => bif Nat.ble ((As.map Value.category).sum) nL then rx_runS kc fl fp gs fg nw cf rt mc ms cd P St n 0 (lv_args 0 As) [] vh 0 0 else none
section RXT
variable {p : Program} {l : Launch} {e : Env} {R : Room} {s : State} {m : MethodId} {args : Array Value} {below : List Frame} {meth : Method} {c : Code} {Q : State → Prop} {cc : ByteArray} {nL : Nat} {D : va_G} {cl : List vw_C} {ca : Nat → ClassId} {A : Nat → Prop} {ad0 : Nat → Nat} {n0 mc ms : Nat}
variable {tys : List (ClassId × FieldType)} {own nm : String} {Ts : List Cond} {kc : Nat → Option Value} {fl fp : Nat → Option (Nat × Nat × FieldType)} {gs fg : Nat → Option Nat} {nw : Nat → Option (Nat × Nat × List Value)} {cf : Instr → Option rx_C}
theorem rx_runS_ok {rt : Option FieldType} {rs : Option Value × rx_H} {cd : List (Nat × List (Instr × Nat))} {P : Nat} {St : rx_L → List Value → rx_H → Nat → Nat → Prop} (X : rx_X p l e R s m args below meth c Q cc nL D cl ca A ad0 mc ms tys own nm Ts kc fl fp gs fg nw cf) (hcd : cd.all (fun q => rx_dec cc nL q.1 q.2) = true)
    (hE : ∀ i len pc ls st nc ns, rx_ret rt i len st = some rs.1 → decode cc pc = .ok (i, len) → rx_G p l e R s m args below meth c Q nL D cl ca A ad0 n0 mc ms pc ls st rs.2 nc ns)
    (hP : ∀ (ls : rx_L) (st : List Value) (vh : rx_H) (nc ns : Nat), rs = (none, vh) → St ls st vh nc ns → rx_G p l e R s m args below meth c Q nL D cl ca A ad0 n0 mc ms P ls st vh nc ns) :
    ∀ (n pc : Nat) (ls : rx_L) (st : List Value) (vh : rx_H) (nc ns : Nat), rx_runS kc fl fp gs fg nw cf rt mc ms cd P St n pc ls st vh nc ns = some rs → rx_G p l e R s m args below meth c Q nL D cl ca A ad0 n0 mc ms pc ls st vh nc ns
  | 0, _, _, _, _, _, _, h => by cases h
  | n + 1, pc, ls, st, vh, nc, ns, h => by
    unfold rx_runS at h
    cases hb : Nat.beq pc P with
    | true =>
      rw [hb, cond_true] at h
      split at h
      · rename_i hc
        cases h
        rw [Nat.eq_of_beq_eq_true hb]
        exact hP ls _ _ _ _ rfl hc
      · cases h
    | false =>
      rw [hb, cond_false] at h
      split at h
      · rename_i is hi
        exact rx_blk_ok X (rx_runS_ok X hcd hE hP n) hE is pc ls st vh nc ns (List.all_eq_true.mp hcd (pc, is) (rx_lkb_mem hi)) h
      · cases h
theorem rx_ret_i {i : Instr} {len : Nat} {st : List Value} (h : rx_ret (some .int) i len st = some none) : False := by
  unfold rx_ret at h
  split at h <;> simp_all
end RXT
/-! what throwing needs besides -/
abbrev StN : rx_L → List Value → rx_H → Nat → Nat → Prop := fun _ st _ nc ns => st = [] ∧ nc = 0 ∧ ns = 0
abbrev StW (S0 : List Value) : rx_L → List Value → rx_H → Nat → Nat → Prop := fun ls st vh nc ns => st = S0 ∧ nc = 0 ∧ ns = 0 ∧ ls.all (fun q => rx_wv vh.length q.2) = true
def xw_bad : List Cond := [.castable "java/lang/IndexOutOfBoundsException" "java/lang/IndexOutOfBoundsException", .castable "java/lang/IllegalArgumentException" "java/lang/IllegalArgumentException",
  .declares ⟨"java/lang/RuntimeException", "<init>", "(Ljava/lang/String;)V"⟩, .declares ⟨"java/lang/Exception", "<init>", "(Ljava/lang/String;)V"⟩, .declares ⟨"java/lang/Throwable", "<init>", "(Ljava/lang/String;)V"⟩]
def rx_ZX (A : Nat → Prop) (U : State) (H : Heap) : Prop := vx_Zq Bundle.tN "UNASSIGNED_STACK" Bundle.steD A U H ∧ vx_Zq Bundle.tN "SUPPRESSED_SENTINEL" Bundle.listD A U H ∧ (∀ w ∈ xw_bad, va_Nw w U) ∧ va_Nc "java/lang/IllegalArgumentException" "java/lang/IndexOutOfBoundsException" U
theorem rx_ZX.same {A : Nat → Prop} {u U : State} (h : rx_ZX A u u.heap) (hv : U.vm = u.vm) (hh : U.heap = u.heap) : rx_ZX A U U.heap := by
  have ha : u.vm.Alike U.vm := by rw [hv]; exact Vm.Alike.refl _
  rw [hh]
  refine ⟨vx_Zq.moved ha h.1, vx_Zq.moved ha h.2.1, fun w hw => va_Nw.same ?_ hv.symm (h.2.2.1 w hw), va_Nc.moved ha h.2.2.2⟩
  exact (by decide +kernel : ∀ w ∈ xw_bad, w.onTables = true) w hw
theorem rx_ZX.to {A B : Nat → Prop} {s U : State} {locs : List Loc} (h : rx_ZX A s s.heap) (hS : va_S A s.heap U.heap locs) (hB : ∀ q, B q → A q) (hW : s.WarmedH U.vm) : rx_ZX B U U.heap := by
  refine ⟨(vx_Zq.moved hW.alike (h.1.kept hS.2.1)).narrow hB, (vx_Zq.moved hW.alike (h.2.1.kept hS.2.1)).narrow hB, fun w hw => ?_, va_Nc.moved hW.alike h.2.2.2⟩
  have q := h.2.2.1 w hw
  unfold xw_bad at hw
  simp only [List.mem_cons, List.not_mem_nil, or_false] at hw
  rcases hw with rfl | rfl | rfl | rfl | rfl
  · exact va_Nw.warmC hW q
  · exact va_Nw.warmC hW q
  · exact va_Nw.warmD hW q
  · exact va_Nw.warmD hW q
  · exact va_Nw.warmD hW q
def rx_PX (D : va_G) (tys : List (ClassId × FieldType)) (ca : Nat → ClassId) (ad : Nat → Nat) (vh : rx_H) (As : List Value) (sz : Nat) : Array Value → State → Prop := fun a U => rx_P D tys ca ad vh As sz a U ∧ rx_ZX (va_A (rx_w ad ca vh) sz) U U.heap
/-- CONTRACT of a throw: where F comes to its place, the method throws cls, and the world is as it was -/
def rx_MX (l : Launch) (y : MethodName) (ws : List Cond) (rm : Room) (cls : String) (F : rx_F) : Prop := ∀ (D : va_G) (tys : List (ClassId × FieldType)) (ca : Nat → ClassId) (ad : Nat → Nat) (vh : rx_H) (As : List Value) (sz : Nat), rx_tyok tys ca → F vh As = some (none, vh) →
  vx_Met l y ws rm (rx_PX D tys ca ad vh As sz) (va_Qi (fun _ (_ : Unit) => False) (fun _ _ => True) (va_A (rx_w ad ca vh) sz)) (vx_X (fun _ : Unit => True) (fun E _ t => E = cls ∧ va_P D vwCl (rx_w ad ca vh) t.heap) (va_A (rx_w ad ca vh) sz)) rm.cells rm.slots (va_A (rx_w ad ca vh) sz)
section RXTM
variable {l : Launch} {y : MethodName} {cc : ByteArray} {nL : Nat} {rm : Room}
set_option maxHeartbeats 1000000 in
theorem rx_metX {kc : Nat → Option Value} {fl fp : Nat → Option (Nat × Nat × FieldType)} {gs fg : Nat → Option Nat} {nw : Nat → Option (Nat × Nat × List Value)} {cf : Instr → Option rx_C} {cd : List (Nat × List (Instr × Nat))} (n P : Nat) {cls text : String} {ik is ic si : Nat} {names : List String} (hl : l.stackTraces = false) (hy : plainName y.cls = true)
    (hkc : rx_kcw kc y.cls) (hgs : rx_gsok gs y.cls rx_WT) (hfg : rx_fgok fg y.cls rx_WT) (hfl : rx_flok fl y.cls rx_WT vwCl) (hfp : rx_fpok fp y.cls y.name rx_WT vwCl) (hnw : rx_nwok nw y.cls rx_WT vwCl) (har : ∀ t, rx_atn t ≠ none → Cond.arrayClass (newarray.typeOf t) ∈ rx_WT)
    (hcd : cd.all (fun q => rx_dec cc nL q.1 q.2) = true) (hcf : ∀ i C, cf i = some C → rx_CA l y.cls rm i C)
    (hcls : Bundle.fit cls = true) (hnames : ∀ n ∈ names, Bundle.fit n = true) (hk : Cond.classLink y.cls ik cls ∈ rx_WT) (hini : Cond.initialized cls ∈ rx_WT) (hstr : (y.cls, is, text, si) ∈ se_str)
    (hat : ∀ w ∈ (vx_atS y.cls ic cls names).filter goodWord, w ∈ rx_WT) (hbd : ∀ w ∈ (vx_atS y.cls ic cls names).filter (fun w => !goodWord w), w ∈ xw_bad)
    (d0 : decode cc P = .ok (.new ik, 3)) (d3 : decode cc (P + 3) = .ok (.dup, 1)) (d4 : decode cc (P + 4) = .ok (.ldc is, 2)) (d6 : decode cc (P + 6) = .ok (.invokespecial ic, 3)) (d9 : decode cc (P + 9) = .ok (.athrow, 1))
    (hfr : names.length + 3 < rm.frames) (hlo : 13 * (names.length + 1) + 43 ≤ rm.locals) (hc1 : 1 ≤ rm.cells) (hs6 : 6 ≤ rm.slots) :
    rx_MX l y (Cond.code y cc nL (some .int) :: rx_WT) rm cls (rx_fnS kc fl fp gs fg nw cf (some .int) rm.cells rm.slots nL cd P StN n) := by
  intro D tys ca ad vh As sz hty hF
  unfold rx_fnS at hF
  have hsl : (As.map Value.category).sum ≤ nL := by
    cases hq : Nat.ble ((As.map Value.category).sum) nL with
    | false => rw [hq] at hF; cases hF
    | true => exact Nat.le_of_ble_eq_true hq
  rw [show Nat.ble ((As.map Value.category).sum) nL = true from Nat.ble_eq_true_of_le hsl] at hF
  refine vx_ofW (cc := cc) (maxL := nL) (ret := some .int) hy rfl ?_
  intro p e s m args below meth c s₁ B hml htab hv
  obtain ⟨⟨rfl, hsz, hP, hK, hD0, hJ⟩, hZ⟩ := hv
  have hx := B.exec
  have hb := B.bytes
  have hts := atoms_spec (ws := Cond.code y cc nL (some .int) :: rx_WT) B.pre
  have hown : s.vm.findClass y.cls = some m.cls := findClass_of_methodNamed B.named
  have hlocks := B.notSynchronized
  have hnm : meth.name = y.name := (name_of_methodNamed B.named B.method).1
  subst hsz
  have hD := hD0.self (sz := s.heap.size)
  generalize hAe : va_A (rx_w ad ca vh) s.heap.size = A at hD hJ hZ ⊢
  have hA : ∀ q : Nat, s.heap.size ≤ q → A q := fun q h => by rw [← hAe]; exact Or.inr h
  have hlen : (lg_sl (As.map (rx_v ad))).length ≤ nL := by
    refine Nat.le_trans (Nat.le_of_eq ?_) hsl
    clear hF hP hD0 hD B hts hlocks hJ hsl hZ
    induction As with
    | nil => rfl
    | cons v vs ih =>
      simp only [lg_sl, List.map_cons, List.flatMap_cons, List.length_append, List.sum_cons] at ih ⊢
      rw [ih]
      cases v <;> rfl
  have hl9 := lv_entry (As.map (rx_v ad)) (n := nL) hlen
  rw [lg_entry_eq]
  generalize (lg_sl (As.map (rx_v ad)) ++ List.replicate (nL - (lg_sl (As.map (rx_v ad))).length) Slot.unset).toArray = ls at hl9 ⊢
  rw [← rx_args_tr] at hl9
  generalize hQ : vx_MQ below _ _ _ s rm.cells rm.slots A = Q9
  have X : rx_X p l e rm s m (As.map (rx_v ad)).toArray below meth c Q9 cc nL D vwCl ca A ad rm.cells rm.slots tys y.cls y.name rx_WT kc fl fp gs fg nw cf := by
    refine ⟨hx, hb, hown, fun w hw => hts w (List.mem_cons_of_mem _ hw), hK, hA, hty, ⟨fun k x hk => ?_, fun k x hk => ?_⟩, hfl, hfp, hnm, hnw, fun t ht => Or.inl (har t ht), Nat.le_refl _, Nat.le_refl _, fun i C hi => ?_, hJ, fun k x hk => ?_, hgs, hfg⟩
    · rcases hkc k _ hk with ⟨z, hz, hw⟩ | ⟨z, hz, hw⟩ | ⟨q, -, -, -, hz⟩
      · cases hz; exact hts _ (List.mem_cons_of_mem _ hw)
      · cases hz
      · cases hz
    · rcases hkc k _ hk with ⟨z, hz, hw⟩ | ⟨z, hz, hw⟩ | ⟨q, -, -, -, hz⟩
      · cases hz
      · cases hz; exact hts _ (List.mem_cons_of_mem _ hw)
      · cases hz
    · exact hcf i C hi p e s m _ below meth c _ cc nL D tys ca A rm.cells rm.slots hx hb hml hown (fun w hw => hts w (List.mem_cons_of_mem _ hw)) hK hty hA (Nat.le_refl _) (Nat.le_refl _)
    · rcases hkc k _ hk with ⟨z, hz, hw⟩ | ⟨z, hz, hw⟩ | ⟨q, h1, h2, h3, hz⟩
      · cases hz
      · cases hz
      · cases hz; exact ⟨q, h1, h2, h3, rfl⟩
  refine rx_runS_ok (ad0 := ad) (n0 := vh.length) (rs := (none, vh)) X hcd (fun i len pc ls st nc ns h => absurd h (fun h => rx_ret_i h)) ?_ n 0 (lv_args 0 As) [] vh 0 0 hF ad s.heap [] ls (fun _ _ => rfl) (fun _ => rfl) (Nat.le_refl _) (Nat.le_refl _) (Nat.zero_le _) (Nat.zero_le _) hP hD va_S.rf hl9
  intro vls st9 vh9 nc9 ns9 e9 hs9
  obtain ⟨rfl, rfl, rfl⟩ := hs9
  intro ad' H locs lsA h1 h2 h3 h4 h5 h6 hP' hD' hS' hl'
  obtain rfl : ad' = ad := h2 rfl
  obtain rfl : vh9 = vh := by cases e9; rfl
  rw [← hQ]
  have hst : vk_R y.cls is text (ad' (1000100 + si)) s := hJ.2.2.2.1 _ hstr
  refine vx_throwS (A := A) (own := y.cls) (cls := cls) (names := names) hx hb hl hown hcls hnames (hts _ (List.mem_cons_of_mem _ hk)) (hts _ (List.mem_cons_of_mem _ hini)) hst (vx_hat (B := xw_bad) (fun w hw => hts w (List.mem_cons_of_mem _ (hat w hw))) hbd (fun w hw => va_Nw.use ((by decide +kernel : ∀ w ∈ xw_bad, w.onTables = true) w hw) (hZ.2.2.1 w hw))) ?_ hZ.1 hZ.2.1 hS' (hl'.1.trans hml.symm) d0 d3 d4 d6 d9 (fun x hx => absurd (htab x hx) id) hfr ?_ (by omega) (by omega) hlocks ?_ hS'.2.2 (by omega) (by omega)
  · intro w hw
    unfold vx_ot
    rw [Bool.or_eq_true]
    rcases List.mem_cons.mp hw with rfl | hw
    · exact Or.inr (List.mem_filter.mp hk).2
    rcases List.mem_cons.mp hw with rfl | hw
    · exact Or.inr (List.mem_filter.mp hini).2
    cases hg : goodWord w with
    | true => exact Or.inr rfl
    | false => exact Or.inl ((by decide +kernel : ∀ w ∈ xw_bad, w.onTables = true) w (hbd w (List.mem_filter.mpr ⟨hw, by rw [hg]; rfl⟩)))
  · show ([] : List Nat).sum + _ ≤ rm.locals
    simp only [List.sum_nil, Nat.zero_add]
    exact hlo
  · intro t _ hz hk9
    refine ⟨(), trivial, ⟨rfl, ?_⟩, Nat.le_trans hS'.1 hz, fun q q1 q2 => ?_⟩
    · exact hP'.kept (fun k q hk => hk9 q.1 (vx_lt hP' hk))
    · rw [hk9 q (Nat.lt_of_lt_of_le q1 hS'.1)]
      exact hS'.2.1 q q1 q2
end RXTM
