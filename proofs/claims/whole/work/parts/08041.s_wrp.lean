/-! methods with a table of exceptions -/
theorem rx_ofWH {l : Launch} {y : MethodName} {ws ws' : List Cond} {rm : Room} {Pc : Array Value → State → Prop} {Qc : Array Value → State → Outcome → State → Prop} {mc ms : Nat} {free : Addr → Prop} {cc : ByteArray} {maxL : Nat} {ret : Option FieldType} {hh : List (Nat × Nat × Nat × Nat)}
    (hy : plainName y.cls = true) (hw : ws = Cond.codeWith y cc maxL ret hh :: ws')
    (body : ∀ p e s m args below meth c s₁, BodyLoose p l y (headSpec ws rm) cc maxL ret e s m args below meth c s₁ → c.maxLocals = maxL → Pc args s →
      W p l e (headSpec ws rm).room s m args below meth c s.heap [] 0 0 (MQ below Qc args s mc ms free) (entryFrame m args maxL)) : Met l y ws rm Pc Qc mc ms free := by
  refine MetFree.of_bodyS (code := cc) (maxLocals := maxL) (ret := ret) hy ?_ ?_
  · intro args s m h hn
    obtain ⟨m9, meth, c, hn9, h1, h2, h3, h4, -, h5, h6, -⟩ := Cond.codeWith_spec (atoms_spec (ws := ws) h _ (by rw [hw]; exact List.mem_cons_self))
    cases hn.symm.trans hn9
    exact ⟨meth, c, h1, h2, h3, h4, h5, h6⟩
  · intro p e s m args below meth c s₁ B hml hP _
    have hh0 : s₁.heap = s.heap := by rw [B.state]; rfl
    obtain ⟨t, a1, o, b1, b2, b3⟩ := body p e s m args below meth c s₁ B hml hP s₁ hh0 (Stand.of_body B)
    exact ⟨t, o, a1, b1, b2, ⟨b3.1, b3.2⟩⟩
section RXH
variable {l : Launch} {y : MethodName} {cc : ByteArray} {nL : Nat} {rt : Option FieldType} {rm : Room}
set_option maxHeartbeats 1000000 in
theorem rx_metH {hh : List (Nat × Nat × Nat × Nat)} {kc : Nat → Option Value} {fl fp : Nat → Option (Nat × Nat × FieldType)} {gs fg : Nat → Option Nat} {nw : Nat → Option (Nat × Nat × List Value)} {cf : Instr → Option rx_C} {cd : List (Nat × List (Instr × Nat))} (n : Nat) (hy : plainName y.cls = true)
    (hkc : rx_kcw kc y.cls) (hgs : rx_gsok gs y.cls rx_WT) (hfg : rx_fgok fg y.cls rx_WT) (hfl : rx_flok fl y.cls rx_WT vwCl) (hfp : rx_fpok fp y.cls y.name rx_WT vwCl) (hnw : rx_nwok nw y.cls rx_WT vwCl) (har : ∀ t, rx_atn t ≠ none → Cond.arrayClass (newarray.typeOf t) ∈ rx_WT)
    (hcd : cd.all (fun q => rx_dec cc nL q.1 q.2) = true) (hcf : ∀ i C, cf i = some C → rx_CA l y.cls rm i C) :
    rx_M l y (Cond.codeWith y cc nL rt hh :: rx_WT) rm (rx_fn kc fl fp gs fg nw cf rt rm.cells rm.slots nL cd n) := by
  intro D tys ca ad vh As rv vh' sz hty hF
  unfold rx_fn at hF
  have hsl : (As.map Value.category).sum ≤ nL := by
    cases hq : Nat.ble ((As.map Value.category).sum) nL with
    | false => rw [hq] at hF; cases hF
    | true => exact Nat.le_of_ble_eq_true hq
  rw [show Nat.ble ((As.map Value.category).sum) nL = true from Nat.ble_eq_true_of_le hsl] at hF
  refine rx_ofWH (hh := hh) (cc := cc) (maxL := nL) (ret := rt) hy rfl ?_
  intro p e s m args below meth c s₁ B hml hv
  obtain ⟨rfl, hsz, hP, hK, hD0, hJ⟩ := hv
  have hx := B.exec
  have hb := B.bytes
  have hr := B.returns
  have hts := atoms_spec (ws := Cond.codeWith y cc nL rt hh :: rx_WT) B.pre
  have hown : s.vm.findClass y.cls = some m.cls := findClass_of_methodNamed B.named
  have hlocks := B.notSynchronized
  have hnm : meth.name = y.name := (name_of_methodNamed B.named B.method).1
  subst hsz
  have hD := hD0.self (sz := s.heap.size)
  generalize hAe : va_A (rx_w ad ca vh) s.heap.size = A at hD hJ ⊢
  have hA : ∀ q : Nat, s.heap.size ≤ q → A q := fun q h => by rw [← hAe]; exact Or.inr h
  have hlen : (lg_sl (As.map (rx_v ad))).length ≤ nL := by
    refine Nat.le_trans (Nat.le_of_eq ?_) hsl
    clear hF hP hD0 hD B hts hlocks hJ hsl
    induction As with
    | nil => rfl
    | cons v vs ih =>
      simp only [lg_sl, List.map_cons, List.flatMap_cons, List.length_append, List.sum_cons] at ih ⊢
      rw [ih]
      cases v <;> rfl
  have hl := lv_entry (As.map (rx_v ad)) (n := nL) hlen
  rw [lg_entry_eq]
  generalize (lg_sl (As.map (rx_v ad)) ++ List.replicate (nL - (lg_sl (As.map (rx_v ad))).length) Slot.unset).toArray = ls at hl ⊢
  rw [← rx_args_tr] at hl
  have X : rx_X p l e rm s m (As.map (rx_v ad)).toArray below meth c (MQ below (rx_Q D ca ad vh rv vh' rm.cells A) (As.map (rx_v ad)).toArray s rm.cells rm.slots A) cc nL D vwCl ca A ad rm.cells rm.slots tys y.cls y.name rx_WT kc fl fp gs fg nw cf := by
    refine ⟨hx, hb, hown, fun w hw => hts w (List.mem_cons_of_mem _ hw), hK, hA, hty, ⟨fun k x hk => ?_, fun k x hk => ?_⟩, hfl, hfp, hnm, hnw, fun t ht => Or.inl (har t ht), Nat.le_refl _, Nat.le_refl _, fun i C hi => ?_, hJ, fun k x hk => ?_, hgs, hfg⟩
    · rcases hkc k _ hk with ⟨z, hz, hw⟩ | ⟨z, hz, hw⟩ | ⟨q, -, -, -, hz⟩
      · cases hz; exact hts _ (List.mem_cons_of_mem _ hw)
      · cases hz
      · cases hz
    · rcases hkc k _ hk with ⟨z, hz, hw⟩ | ⟨z, hz, hw⟩ | ⟨q, -, -, -, hz⟩
      · cases hz
      · cases hz; exact hts _ (List.mem_cons_of_mem _ hw)
      · cases hz
    · exact hcf i C hi p e s m _ below meth c _ cc nL D tys ca A rm.cells rm.slots hx hb hml hown (fun w hw => hts w (List.mem_cons_of_mem _ hw)) hK hty hA (Nat.le_refl _) (Nat.le_refl _)
    · rcases hkc k _ hk with ⟨z, hz, hw⟩ | ⟨z, hz, hw⟩ | ⟨q, h1, h2, h3, hz⟩
      · cases hz
      · cases hz
      · cases hz; exact ⟨q, h1, h2, h3, rfl⟩
  refine rx_run_ok (ad0 := ad) (n0 := vh.length) (rs := (rv, vh')) X hcd ?_ n 0 (lv_args 0 As) [] vh 0 0 hF ad s.heap [] ls (fun _ _ => rfl) (fun _ => rfl) (Nat.le_refl _) (Nat.le_refl _) (Nat.zero_le _) (Nat.zero_le _) hP hD va_S.rf hl
  intro i len pc vls st nc ns hret hdg ad' H locs lsA h1 h2 h3 h4 h5 h6 hP' hD' hS' hl'
  refine W.widen h5 h6 ?_
  have hend : ∀ (o : Option Value) (t : State), o = rv.map (rx_v ad') → t.heap = H → rx_Q D ca ad vh rv vh' rm.cells A (As.map (rx_v ad)).toArray s (.returned o) t := by
    intro o t ho ht
    refine ⟨⟨ad', h1, fun z => h2 (by omega), h3, by simp only at h4; omega, by rw [ho], by rw [ht]; exact hP', hD'⟩, hS'.F ht⟩
  unfold rx_ret at hret
  split at hret
  · cases hret; exact W.vret hx hb hr (fun t ht hW => hend none t rfl ht) hS'.2.2 hdg
  · cases hret; exact W.iret hx hb hr (fun t ht hW => hend _ t rfl ht) hS'.2.2 hdg
  · rename_i x
    cases hq : (decide (x = 0) || decide (x = 1)) <;> simp only [hq, cond_true, cond_false, Option.some.injEq, reduceCtorEq] at hret
    subst hret
    rw [Bool.or_eq_true, decide_eq_true_eq, decide_eq_true_eq] at hq
    refine W.zret hx hb hr ?_ (fun t ht hW => hend _ t rfl ht) hS'.2.2 hdg
    rcases hq with rfl | rfl <;> decide
  · rename_i x
    cases hq : decide (narrow .byte (.int x) = .int x) <;> simp only [hq, cond_true, cond_false, Option.some.injEq, reduceCtorEq] at hret
    subst hret
    exact W.zret hx hb hr (of_decide_eq_true hq) (fun t ht hW => hend _ t rfl ht) hS'.2.2 hdg
  · rename_i x
    cases hq : decide (narrow .char (.int x) = .int x) <;> simp only [hq, cond_true, cond_false, Option.some.injEq, reduceCtorEq] at hret
    subst hret
    exact W.zret hx hb hr (of_decide_eq_true hq) (fun t ht hW => hend _ t rfl ht) hS'.2.2 hdg
  · cases hret; exact W.lret hx hb hr (fun t ht hW => hend _ t rfl ht) hS'.2.2 hdg
  · cases hret; exact W.aret hx hb hr (Or.inl ⟨_, rfl⟩) (Or.inr ⟨_, rfl⟩) (fun t ht hW => hend _ t rfl ht) hS'.2.2 hdg
  · cases hret
end RXH
theorem vxmet_mono {l : Launch} {y : MethodName} {ws : List Cond} {rm : Room} {Pc Pc' : Array Value → State → Prop} {Qc Qc' : Array Value → State → Outcome → State → Prop} {XC XC' : String → State → State → Prop} {mc ms : Nat} {free free' : Addr → Prop} (h : vx_Met l y ws rm Pc Qc XC mc ms free) (hp : ∀ a s, Pc' a s → Pc a s) (hq : ∀ a s o t, Pc' a s → Qc a s o t → Qc' a s o t) (hx : ∀ a s E t, Pc' a s → XC E s t → XC' E s t) (hf : ∀ q, free q → free' q) : vx_Met l y ws rm Pc' Qc' XC' mc ms free' := by
  intro p e ha hc hk s m args below hfr happ hP _
  obtain ⟨n, o, h1, h2, h3, h4⟩ := h p e ha hc hk s m args below hfr happ (hp _ _ hP) trivial
  refine ⟨n, o, h1, h2, h3, ?_⟩
  rcases h4 with ⟨a1, L, a2, a3⟩ | ⟨q, a1, E, ce, L, a2, a3, a4, a5, a6, a7, a8⟩
  · exact Or.inl ⟨hq _ _ _ _ hP a1, L, a2, fun z hz => hf _ (a3 z hz)⟩
  · exact Or.inr ⟨q, a1, E, ce, L, hx _ _ _ _ hP a2, a3, a4, a5, a6, a7, fun z hz => hf _ (a8 z hz)⟩
/-- a throw, seen from a larger world whose first cells are the class's -/
noncomputable def lfX (n : Nat) (F : rx_F) : rx_F := fun vh As => match F (vh.take n) As with
  | some (none, a') => @ite _ (a' = vh.take n) (Classical.propDecidable _) (some (none, vh)) none
  | _ => none
theorem lfX_eq {n : Nat} {F : rx_F} {vh : rx_H} {As : List Value} (h : F (vh.take n) As = some (none, vh.take n)) : lfX n F vh As = some (none, vh) := by
  unfold lfX
  rw [h]
  exact if_pos rfl
theorem rv_id (As : List Value) : As.map (rx_v (fun k => k)) = As := by
  have e : rx_v (fun k => k) = id := by
    funext v
    cases v <;> rfl
  rw [e, List.map_id]
theorem em_take (n : Nat) (vh : rx_H) : em (fun k => k) (vh.take n) vh := by
  intro k ad ca q hq
  obtain ⟨e, he, rfl⟩ := rx_w_at hq
  rw [List.getElem?_take] at he
  split at he
  · exact rx_w_get he
  · cases he
theorem rx_MX.lift {l : Launch} {y : MethodName} {ws : List Cond} {rm : Room} {cls : String} {F : rx_F} (n : Nat) (h : rx_MX l y ws rm cls F) : rx_MX l y ws rm cls (lfX n F) := by
  intro D tys ca ad vh As sz hty hF
  have hFa : F (vh.take n) As = some (none, vh.take n) := by
    unfold lfX at hF
    split at hF
    · rename_i a' hFa
      by_cases c : a' = vh.take n
      · rw [← c]
        rw [c] at hFa ⊢
        exact hFa
      · rw [if_neg c] at hF
        cases hF
    · cases hF
  have hA : ∀ q, va_A (rx_w ad ca (vh.take n)) sz q → va_A (rx_w ad ca vh) sz q := by
    rintro q (⟨k, x, hk⟩ | hq)
    · exact Or.inl ⟨k, x, em_take n vh k ad ca _ hk⟩
    · exact Or.inr hq
  refine vxmet_mono (h D tys ca ad (vh.take n) As sz hty hFa) (fun b U hP => ⟨?_, ?_⟩) (fun b s o t _ hQ => ?_) (fun b s E t hP hX => ?_) hA
  · have q := em_P (D := D) (tys := tys) (ca := ca) (ad := ad) (As := As) (sz := sz) (g := fun k => k) (em_take n vh) (fun _ _ => rfl) (fun i j _ _ e => e) b U (by rw [rv_id]; exact hP.1)
    exact q
  · exact hP.2.to (locs := []) va_S.rf hA (State.WarmedH.refl U)
  · obtain ⟨⟨r, u, _, hf, _⟩, _⟩ := hQ
    exact absurd hf id
  · obtain ⟨u, _, ⟨hE, hP1⟩, hF1⟩ := hX
    obtain ⟨_, h1, hP0, _, hD, _⟩ := hP.1
    refine ⟨(), trivial, ⟨hE, fun j q hq => ?_⟩, hF1.1, fun q q1 q2 => hF1.2 q q1 (fun z => q2 (hA q z))⟩
    by_cases c : j < n
    · obtain ⟨e, he, rfl⟩ := rx_w_at hq
      refine hP1 j _ (rx_w_get ?_)
      rw [List.getElem?_take_of_lt c]
      exact he
    · have at0 := hP0 j q hq
      refine at0.kept (hF1.2 _ at0.lt ?_)
      rintro (⟨k, x, hk⟩ | hq9)
      · have e1 := em_take n vh k ad ca _ hk
        have e2 : j = k := hD.1 _ _ _ _ hq e1 rfl
        obtain ⟨e, he, _⟩ := rx_w_at hk
        have := (List.getElem?_eq_some_iff.mp he).1
        rw [List.length_take] at this
        omega
      · have := at0.lt
        rw [h1] at this
        omega
