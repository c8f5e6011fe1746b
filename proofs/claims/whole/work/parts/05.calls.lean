/-! calls out of contracts -/
section RXC
theorem rx_fin {p : Program} {l : Launch} {e : Env} {R : Room} {s : State} {m : MethodId} {args : Array Value} {below : List Frame} {meth : Method} {c : Code} {H : Heap} {locs : List Loc} {nc ns kc ks : Nat} {Q : State → Prop} {pc : Nat} {lsA : Array Slot} {st0 rest : List Value} {D : va_G} {ca : Nat → ClassId} {ad : Nat → Nat} {vh vh' : rx_H} {rv : Option Value} {A : Nat → Prop} {a : Array Value}
    (hr : va_Run p l e R s m args below meth c H locs nc ns kc ks (F0 m pc lsA st0) rest (rx_Q D ca ad vh rv vh' kc (va_A (rx_w ad ca vh) H.size) a) (va_A (rx_w ad ca vh) H.size)) (hD : va_D A (rx_w ad ca vh)) (hS : va_S A s.heap H locs) (hA : ∀ q, s.heap.size ≤ q → A q)
    (kk : ∀ (ad' : Nat → Nat) (H' : Heap) (locs' : List Loc), (∀ k, k < vh.length ∨ 1000000 ≤ k → ad' k = ad k) → (kc = 0 → ad' = ad) → vh.length ≤ vh'.length → vh'.length ≤ vh.length + kc → va_P D vwCl (rx_w ad' ca vh') H' → va_D A (rx_w ad' ca vh') → va_S A s.heap H' locs' → W p l e R s m args below meth c H' locs' (nc + kc) (ns + ks) Q (F0 m (pc + 3) lsA (rv.toList.map (rx_v ad') ++ rest))) :
    W p l e R s m args below meth c H locs nc ns Q (F0 m pc lsA st0) := by
  have hF : ∀ q, va_A (rx_w ad ca vh) H.size q → A q := by
    rintro q (⟨k, x, hk⟩ | hq)
    · exact hD.2 k _ hk
    · exact hA q (Nat.le_trans hS.1 hq)
  intro T hT X
  obtain ⟨v, st₀, t, T', L, h0, X', hL, e1, e2, ⟨⟨ad', g1, g2, g3, g4, ho, hP1, hD1⟩, hz, hk⟩, st⟩ := hr T hT X
  have hv : v = rv.map (rx_v ad') := by cases ho; rfl
  subst hv
  rw [h0] at hz hk
  have hS1 : va_S A s.heap t.heap (locs ++ L) := by
    refine ⟨Nat.le_trans hS.1 hz, fun q q1 q2 => ?_, fun q hq => ?_⟩
    · rw [hk q (Nat.lt_of_lt_of_le q1 hS.1) (fun z => q2 (hF q z))]
      exact hS.2.1 q q1 q2
    · rcases List.mem_append.mp hq with z | z
      · exact hS.2.2 q z
      · exact hF _ (hL q z)
  obtain ⟨t2, a1, b1⟩ := kk ad' t.heap (locs ++ L) g1 g2 g3 g4 hP1 (hD1.weaken (fun _ _ _ h => hF _ h)) hS1 T' e1 X'
  refine ⟨t2, st t2 ?_, b1⟩
  cases rv <;> exact a1
theorem rx_blind {D : va_G} {tys : List (ClassId × FieldType)} {ca : Nat → ClassId} {ad : Nat → Nat} {vh : rx_H} {As : List Value} {sz : Nat} : ∀ (a : Array Value) (U : State) (g : JFrame) (mk : MethodId), rx_P D tys ca ad vh As sz a U → rx_P D tys ca ad vh As sz a (U.calling g mk a) := by
  intro a U g mk q
  obtain ⟨q0, q1, qP, qK, qD, qJ⟩ := q
  exact ⟨q0, q1, qP, va_K.moved (u := U) (U := U.calling g mk a) (Vm.Alike.refl U.vm) qK, qD, rx_J.same (U := U.calling g mk a) qJ rfl rfl⟩
theorem rx_pre {s : State} {D : va_G} {tys : List (ClassId × FieldType)} {ca : Nat → ClassId} {ad : Nat → Nat} {vh : rx_H} {As : List Value} {H : Heap} {A : Nat → Prop} {locs : List Loc} (hK : va_K D vwCl tys s) (hP : va_P D vwCl (rx_w ad ca vh) H) (hD : va_D A (rx_w ad ca vh)) (hJ : rx_J ad A s s.heap) (hS : va_S A s.heap H locs) (hA : ∀ q, s.heap.size ≤ q → A q) : ∀ U : State, U.heap = H → s.WarmedH U.vm → rx_P D tys ca ad vh As H.size (As.map (rx_v ad)).toArray U :=
  fun U hU hW => ⟨rfl, by rw [hU], by rw [hU]; exact hP, va_K.moved hW.alike hK, hD.weaken (fun _ _ _ _ => trivial), hJ.to (locs := locs) (by rw [hU]; exact hS) (fun q hq => by
    rcases hq with ⟨k, x, hk⟩ | hq
    · exact hD.2 k _ hk
    · exact hA q (Nat.le_trans hS.1 hq)) hW⟩
variable {l : Launch} {own : String} {R : Room} {ix : Nat} {y : MethodName} {cc' : ByteArray} {nL' : Nat} {rt' : Option FieldType} {rm : Room} {F : rx_F}
theorem rx_caV (n ci : Nat) {T : u_T} {N : Nat} (hM : rx_M l y (Cond.code y cc' nL' rt' :: rx_WT) rm F) (hc : Cond.code y cc' nL' rt' ∈ rx_WT) (hin : Cond.initialized y.cls ∈ rx_WT) (hli : Cond.methodLink own ix y ∈ rx_WT) (hi : Cond.instanceMethod y ∈ rx_WT) (hs : Cond.selects y.cls y y ∈ rx_WT) (hd : y.cls ≠ "java/lang/invoke/MethodHandle" ∧ y.cls ≠ "java/lang/invoke/VarHandle" ∧ (parseMethodDescriptor y.desc).map (fun d => d.parameters.length) = some n) (hR : rm.frames + 1 ≤ R.frames ∧ 8 + (nL' + 11) + rm.locals ≤ R.locals) (hcl : vwCl[ci]? = some (y.cls, T, N)) (hci : Nat.beq ci 100 = false) :
    rx_CA l own R (.invokevirtual ix) (n + 1, some ci, rm.cells, rm.slots, F) := by
  intro p e s m args below meth c Q cc nL D tys ca A mc ms hx hb hml hown hts hK hty hA hmc hms
  intro ad vh As rv vh' rest H locs lsA pc nc ns hlen hrcv hF hcat hdg hsz hJ hP hD hS hc1 hs1 kk
  cases As with
  | nil => cases hrcv
  | cons v As' =>
    have hv : ∃ (a : Nat) (fs : List Value), v = .ref a ∧ vh[a]? = some (.inr (ci, fs)) := by
      cases v with
      | ref a =>
        simp only [rx_rcv] at hrcv
        split at hrcv
        · rename_i ci' fs hx9
          have := Nat.eq_of_beq_eq_true hrcv
          subst this
          exact ⟨a, fs, rfl, hx9⟩
        · cases hrcv
        · rw [hci] at hrcv
          cases hrcv
      | _ => cases hrcv
    obtain ⟨a, fs, rfl, ha⟩ := hv
    have hg : GoodIn rx_WT (wsV own ix y.cls y (Cond.code y cc' nL' rt' :: rx_WT)) := by
      intro w hw
      have hm : w ∈ rx_WT := by
        simp only [wsV, List.cons_append, List.nil_append, List.mem_cons] at hw
        rcases hw with rfl | rfl | rfl | rfl | rfl | hw
        · exact hli
        · exact hi
        · exact hs
        · exact hin
        · exact hc
        · exact hw
      exact ⟨hm, good_of_word (List.mem_filter.mp hm).2⟩
    have hcw : CallW R s args own y.cls ix y cc' nL' rt' (Cond.code y cc' nL' rt' :: rx_WT) rm rm.cells rm.slots n := cwV n hts hg rfl rfl rfl ⟨rfl, hd⟩ hR
    have hr := va_runV (e := e) (below := below) (meth := meth) (locs := locs) (cells := nc) (slots := ns) (b := ad a) (As := As'.map (rx_v ad)) (rest := rest) (g := F0 m pc lsA (((Value.ref a :: As').map (rx_v ad)).reverse ++ rest)) ⟨hx, hb, hml, hown, hts⟩ (hM D tys ca ad vh (.ref a :: As') rv vh' H.size hty hF) hcw ⟨rx_blind, va_recv hK hP hcl (rx_w_get ha), rx_pre hK hP hD hJ hS hA⟩ rfl (by simp at hlen ⊢; omega) hsz (by simp [rx_v]) (lv_room hcat) hdg ⟨Nat.le_trans hc1 hmc, Nat.le_trans hs1 hms⟩
    exact rx_fin hr hD hS hA kk
theorem rx_caS (n : Nat) (hM : rx_M l y (Cond.code y cc' nL' rt' :: rx_WT) rm F) (hc : Cond.code y cc' nL' rt' ∈ rx_WT) (hin : Cond.initialized y.cls ∈ rx_WT) (hli : Cond.methodLink own ix y ∈ rx_WT) (hi : Cond.static y ∈ rx_WT) (hd : y.cls ≠ "java/lang/invoke/MethodHandle" ∧ y.cls ≠ "java/lang/invoke/VarHandle" ∧ (parseMethodDescriptor y.desc).map (fun d => d.parameters.length) = some n) (hR : rm.frames + 1 ≤ R.frames ∧ 8 + (nL' + 11) + rm.locals ≤ R.locals) :
    rx_CA l own R (.invokestatic ix) (n, none, rm.cells, rm.slots, F) := by
  intro p e s m args below meth c Q cc nL D tys ca A mc ms hx hb hml hown hts hK hty hA hmc hms
  intro ad vh As rv vh' rest H locs lsA pc nc ns hlen hrcv hF hcat hdg hsz hJ hP hD hS hc1 hs1 kk
  have hcw : CallB R s args own ix y cc' nL' rt' (Cond.code y cc' nL' rt' :: rx_WT) rm rm.cells rm.slots n := callB_of n hts (rx_good _ hc (fun w h => h)) rfl rfl rfl (hts _ hin) (hts _ hli) hd hR
  have hr := va_runS (e := e) (below := below) (meth := meth) (locs := locs) (cells := nc) (slots := ns) (As := As.map (rx_v ad)) (rest := rest) (g := F0 m pc lsA ((As.map (rx_v ad)).reverse ++ rest)) ⟨hx, hb, hml, hown, hts⟩ (hM D tys ca ad vh As rv vh' H.size hty hF) ⟨hcw, hts _ hi⟩ ⟨rx_blind, rx_pre hK hP hD hJ hS hA⟩ rfl (by simp at hlen ⊢; omega) hsz rfl (lv_room hcat) hdg ⟨Nat.le_trans hc1 hmc, Nat.le_trans hs1 hms⟩
  exact rx_fin hr hD hS hA kk
theorem rx_caI (n : Nat) (hM : rx_M l y (Cond.code y cc' nL' none :: rx_WT) rm F) (hc : Cond.code y cc' nL' none ∈ rx_WT) (hin : Cond.initialized y.cls ∈ rx_WT) (hli : Cond.methodLink own ix y ∈ rx_WT) (hi : Cond.instanceMethod y ∈ rx_WT) (hnm : y.name = "<init>") (hd : y.cls ≠ "java/lang/invoke/MethodHandle" ∧ y.cls ≠ "java/lang/invoke/VarHandle" ∧ (parseMethodDescriptor y.desc).map (fun d => d.parameters.length) = some n) (hR : rm.frames + 1 ≤ R.frames ∧ 8 + (nL' + 11) + rm.locals ≤ R.locals) (ci : Nat) :
    rx_CA l own R (.invokespecial ix) (n + 1, some ci, rm.cells, rm.slots, F) := by
  intro p e s m args below meth c Q cc nL D tys ca A mc ms hx hb hml hown hts hK hty hA hmc hms
  intro ad vh As rv vh' rest H locs lsA pc nc ns hlen hrcv hF hcat hdg hsz hJ hP hD hS hc1 hs1 kk
  cases As with
  | nil => cases hrcv
  | cons v As' =>
    have hv : ∃ (a : Nat), v = .ref a := by
      cases v with
      | ref a => exact ⟨a, rfl⟩
      | _ => cases hrcv
    obtain ⟨a, rfl⟩ := hv
    have hcw := cwI n hts (rx_good _ hc (fun w h => h)) rfl rfl rfl (hts _ hin) (hts _ hli) (hts _ hi) hnm hd hR
    have hr := va_runI (e := e) (below := below) (meth := meth) (locs := locs) (cells := nc) (slots := ns) (b := ad a) (As := As'.map (rx_v ad)) (rest := rest) (g := F0 m pc lsA (((Value.ref a :: As').map (rx_v ad)).reverse ++ rest)) ⟨hx, hb, hml, hown, hts⟩ (hM D tys ca ad vh (.ref a :: As') rv vh' H.size hty hF) hcw ⟨rx_blind, rx_pre (As := .ref a :: As') hK hP hD hJ hS hA⟩ rfl (by simp at hlen ⊢; omega) hsz (by simp [rx_v]) (lv_room hcat) hdg ⟨Nat.le_trans hc1 hmc, Nat.le_trans hs1 hms⟩
    exact rx_fin hr hD hS hA kk
/-- a constructor of a nest mate -/
theorem rx_caN (n : Nat) {host : String} (hM : rx_M l y (Cond.code y cc' nL' none :: rx_WT) rm F) (hc : Cond.code y cc' nL' none ∈ rx_WT) (hin : Cond.initialized y.cls ∈ rx_WT) (hli : (own, ix, y, host) ∈ se_nest) (hi : Cond.instanceMethod y ∈ rx_WT) (hnm : y.name = "<init>") (hd : y.cls ≠ "java/lang/invoke/MethodHandle" ∧ y.cls ≠ "java/lang/invoke/VarHandle" ∧ (parseMethodDescriptor y.desc).map (fun d => d.parameters.length) = some n) (hR : rm.frames + 1 ≤ R.frames ∧ 8 + (nL' + 11) + rm.locals ≤ R.locals) (ci : Nat) :
    rx_CA l own R (.invokespecial ix) (n + 1, some ci, rm.cells, rm.slots, F) := by
  intro p e s m args below meth c Q cc nL D tys ca A mc ms hx hb hml hown hts hK hty hA hmc hms
  intro ad vh As rv vh' rest H locs lsA pc nc ns hlen hrcv hF hcat hdg hsz hJ hP hD hS hc1 hs1 kk
  cases As with
  | nil => cases hrcv
  | cons v As' =>
    have hv : ∃ (a : Nat), v = .ref a := by
      cases v with
      | ref a => exact ⟨a, rfl⟩
      | _ => cases hrcv
    obtain ⟨a, rfl⟩ := hv
    have hcw := va_cnB (args := args) (R := R) n hts (rx_good _ hc (fun w h => h)) rfl rfl rfl (hJ.2.2.2.2.1 _ hli) (hts _ hin) hd hR
    have hr := va_runIN (e := e) (below := below) (meth := meth) (locs := locs) (cells := nc) (slots := ns) (b := ad a) (As := As'.map (rx_v ad)) (rest := rest) (g := F0 m pc lsA (((Value.ref a :: As').map (rx_v ad)).reverse ++ rest)) ⟨hx, hb, hml, hown, hts⟩ (hM D tys ca ad vh (.ref a :: As') rv vh' H.size hty hF) ⟨hcw, hnm, hts _ hi⟩ ⟨rx_blind, rx_pre (As := .ref a :: As') hK hP hD hJ hS hA⟩ rfl (by simp at hlen ⊢; omega) hsz (by simp [rx_v]) (lv_room hcat) hdg ⟨Nat.le_trans hc1 hmc, Nat.le_trans hs1 hms⟩
    exact rx_fin hr hD hS hA kk
/-- a call of a String constant's method -/
theorem rx_caT (n : Nat) (hM : rx_M l y (Cond.code y cc' nL' rt' :: rx_WT) rm F) (hc : Cond.code y cc' nL' rt' ∈ rx_WT) (hin : Cond.initialized y.cls ∈ rx_WT) (hli : Cond.methodLink own ix y ∈ rx_WT) (hi : Cond.instanceMethod y ∈ rx_WT) (hs : Cond.selects y.cls y y ∈ rx_WT) (hd : y.cls ≠ "java/lang/invoke/MethodHandle" ∧ y.cls ≠ "java/lang/invoke/VarHandle" ∧ (parseMethodDescriptor y.desc).map (fun d => d.parameters.length) = some n) (hR : rm.frames + 1 ≤ R.frames ∧ 8 + (nL' + 11) + rm.locals ≤ R.locals) (hcl : y.cls = "java/lang/String") :
    rx_CA l own R (.invokevirtual ix) (n + 1, some 100, rm.cells, rm.slots, F) := by
  intro p e s m args below meth c Q cc nL D tys ca A mc ms hx hb hml hown hts hK hty hA hmc hms
  intro ad vh As rv vh' rest H locs lsA pc nc ns hlen hrcv hF hcat hdg hsz hJ hP hD hS hc1 hs1 kk
  cases As with
  | nil => cases hrcv
  | cons v As' =>
    have hv : ∃ (a : Nat), v = .ref a ∧ ((∃ fs, vh[a]? = some (.inr (100, fs))) ∨ ∃ i, i < se_n ∧ a = 1000100 + i) := by
      cases v with
      | ref a =>
        simp only [rx_rcv] at hrcv
        split at hrcv
        · rename_i ci' fs hx9
          have := Nat.eq_of_beq_eq_true hrcv
          subst this
          exact ⟨a, rfl, Or.inl ⟨fs, hx9⟩⟩
        · cases hrcv
        · simp only [Bool.and_eq_true] at hrcv
          have r1 := Nat.le_of_ble_eq_true hrcv.2.1
          have r2 := Nat.le_of_ble_eq_true hrcv.2.2
          exact ⟨a, rfl, Or.inr ⟨a - 1000100, by omega, (Nat.add_sub_cancel' r1).symm⟩⟩
      | _ => cases hrcv
    obtain ⟨a, rfl, ha⟩ := hv
    have hcell : ∃ cell : Cell, H[ad a]? = some cell ∧ cell.vm.isStatics = false ∧ s.vm.findClass y.cls = some cell.cls := by
      rcases ha with ⟨fs, ha⟩ | ⟨i, hi, rfl⟩
      · obtain ⟨r, h1, -⟩ := hP a _ (rx_w_get ha)
        simp [vwCl] at h1
      · obtain ⟨cell, h1, h2, h3, -⟩ := (hJ.2.1 i hi).1.kept hS.2.1
        exact ⟨cell, h1, h2, by rw [hcl]; exact h3⟩
    have hg : GoodIn rx_WT (wsV own ix y.cls y (Cond.code y cc' nL' rt' :: rx_WT)) := by
      intro w hw
      have hm : w ∈ rx_WT := by
        simp only [wsV, List.cons_append, List.nil_append, List.mem_cons] at hw
        rcases hw with rfl | rfl | rfl | rfl | rfl | hw
        · exact hli
        · exact hi
        · exact hs
        · exact hin
        · exact hc
        · exact hw
      exact ⟨hm, good_of_word (List.mem_filter.mp hm).2⟩
    have hcw : CallW R s args own y.cls ix y cc' nL' rt' (Cond.code y cc' nL' rt' :: rx_WT) rm rm.cells rm.slots n := cwV n hts hg rfl rfl rfl ⟨rfl, hd⟩ hR
    have hr := va_runV (e := e) (below := below) (meth := meth) (locs := locs) (cells := nc) (slots := ns) (b := ad a) (As := As'.map (rx_v ad)) (rest := rest) (g := F0 m pc lsA (((Value.ref a :: As').map (rx_v ad)).reverse ++ rest)) ⟨hx, hb, hml, hown, hts⟩ (hM D tys ca ad vh (.ref a :: As') rv vh' H.size hty hF) hcw ⟨rx_blind, hcell, rx_pre hK hP hD hJ hS hA⟩ rfl (by simp at hlen ⊢; omega) hsz (by simp [rx_v]) (lv_room hcat) hdg ⟨Nat.le_trans hc1 hmc, Nat.le_trans hs1 hms⟩
    exact rx_fin hr hD hS hA kk
/-- Object's own constructor does nothing -/
def rx_F0 : rx_F := fun vh As => match As with
  | [.ref _] => some (none, vh)
  | _ => none
theorem rx_caO (hli : Cond.methodLink own ix objectInit ∈ rx_WT) (hi : Cond.instanceMethod objectInit ∈ rx_WT) (hc : Cond.code objectInit ⟨#[0xb1]⟩ 1 none ∈ rx_WT) (hf : 1 ≤ R.frames) (hlo : 20 ≤ R.locals) : rx_CA l own R (.invokespecial ix) (1, none, 0, 0, rx_F0) := by
  intro p e s m args below meth c Q cc nL D tys ca A mc ms hx hb hml hown hts hK hty hA hmc hms
  intro ad vh As rv vh' rest H locs lsA pc nc ns hlen hrcv hF hcat hdg hsz hJ hP hD hS hc1 hs1 kk
  unfold rx_F0 at hF
  simp only at hF
  split at hF
  · rename_i a
    cases hF
    have kk' := kk ad H locs (fun _ _ => rfl) (fun _ => rfl) (Nat.le_refl _) (Nat.le_refl _) hP hD hS
    refine W.objInit hx hb hown (hts _ hli) (hts _ hi) (hts _ hc) rfl (by rw [hml]; exact hsz) rfl hdg hf ?_ kk'
    have h8 : (rest.map fun v => v.category).sum ≤ 8 := hcat
    show 2 * 0 + (rest.map fun v => v.category).sum + 12 ≤ R.locals
    omega
  · cases hF
end RXC
