/-! a wrapper's throw: up to the call, the callee throws, the handler answers -/
theorem rx_blindX {D : va_G} {tys : List (ClassId × FieldType)} {ca : Nat → ClassId} {ad : Nat → Nat} {vh : rx_H} {As : List Value} {sz : Nat} : ∀ (a : Array Value) (U : State) (g : JFrame) (mk : MethodId), rx_PX D tys ca ad vh As sz a U → rx_PX D tys ca ad vh As sz a (U.calling g mk a) := by
  intro a U g mk q
  exact ⟨rx_blind a U g mk q.1, rx_ZX.same (U := U.calling g mk a) q.2 rfl rfl⟩
section RXHX
variable {l : Launch} {y y' : MethodName} {cc cc' : ByteArray} {nL nL' : Nat} {rm rm' : Room} {hh : List (Nat × Nat × Nat × Nat)} {kc : Nat → Option Value} {fl fp : Nat → Option (Nat × Nat × FieldType)} {gs fg : Nat → Option Nat} {nw : Nat → Option (Nat × Nat × List Value)} {cf : Instr → Option rx_C} {cd ch : List (Nat × List (Instr × Nat))} {cls : String} {G : rx_F}
set_option maxHeartbeats 2000000 in
theorem rx_metHX (n P ix np ci : Nat) {T : u_T} {N : Nat} (hy : plainName y.cls = true)
    (hkc : rx_kcw kc y.cls) (hgs : rx_gsok gs y.cls rx_WT) (hfg : rx_fgok fg y.cls rx_WT) (hfl : rx_flok fl y.cls rx_WT vwCl) (hfp : rx_fpok fp y.cls y.name rx_WT vwCl) (hnw : rx_nwok nw y.cls rx_WT vwCl) (har : ∀ t, rx_atn t ≠ none → Cond.arrayClass (newarray.typeOf t) ∈ rx_WT)
    (hcd : cd.all (fun q => rx_dec cc nL q.1 q.2) = true) (hch : ch.all (fun q => rx_dec cc nL q.1 q.2) = true) (hcf : ∀ i C, cf i = some C → rx_CA l y.cls rm i C)
    (hM : rx_MX l y' (Cond.code y' cc' nL' (some .int) :: rx_WT) rm' cls G) (hc : Cond.code y' cc' nL' (some .int) ∈ rx_WT) (hin : Cond.initialized y'.cls ∈ rx_WT) (hli : Cond.methodLink y.cls ix y' ∈ rx_WT) (hi : Cond.instanceMethod y' ∈ rx_WT) (hs : Cond.selects y'.cls y' y' ∈ rx_WT) (hd : y'.cls ≠ "java/lang/invoke/MethodHandle" ∧ y'.cls ≠ "java/lang/invoke/VarHandle" ∧ (parseMethodDescriptor y'.desc).map (fun d => d.parameters.length) = some np) (hR : rm'.frames + 1 ≤ rm.frames ∧ 8 + (nL' + 11) + rm'.locals ≤ rm.locals) (hcl : vwCl[ci]? = some (y'.cls, T, N)) (hci : Nat.beq ci 100 = false)
    (hdg : decode cc P = .ok (.invokevirtual ix, 3)) (pre suf : List ExceptionTableEntry) (x : ExceptionTableEntry) (htab : tableOf hh = pre ++ x :: suf) (hpass : ∀ z ∈ pre, covers z P = false ∨ (z.catchType ≠ 0 ∧ Cond.classLink y.cls z.catchType "java/lang/IndexOutOfBoundsException" ∈ rx_WT ∧ cls = "java/lang/IllegalArgumentException")) (hcov : covers x P = true) (hx0 : x.catchType ≠ 0) (hlink : Cond.classLink y.cls x.catchType cls ∈ rx_WT) (hcast : Cond.castable cls cls ∈ xw_bad) (hrm : rm'.cells ≤ rm.cells ∧ rm'.slots ≤ rm.slots) (h1c : 1 ≤ rm'.cells)
    {D : va_G} {tys : List (ClassId × FieldType)} {ca : Nat → ClassId} {ad : Nat → Nat} {vh : rx_H} {As : List Value} {sz : Nat} (hty : rx_tyok tys ca) (a : Nat) (fs : List Value) (As' rest : List Value) {k : Int32}
    (hF : rx_fnS kc fl fp gs fg nw cf (some .int) rm.cells rm.slots nL cd P (StW (As'.reverse ++ .ref a :: rest)) n vh As = some (none, vh)) (ha : vh[a]? = some (.inr (ci, fs))) (hG : G vh (.ref a :: As') = some (none, vh)) (hlen' : As'.length = np) (hcat : (rest.map Value.category).sum ≤ 8) (hwf : vh.all (rx_we vh.length) = true) (hvl : vh.length < 1000000)
    (hH : ∀ ls : rx_L, rx_run kc fl fp gs fg nw cf (some .int) rm.cells rm.slots ch n x.handlerPc ls [.ref vh.length] vh rm'.cells rm'.slots = some (some (.int k), vh)) :
    Met l y (Cond.codeWith y cc nL (some .int) hh :: rx_WT) rm (rx_PX D tys ca ad vh As sz) (rx_Q D ca ad vh (some (.int k)) vh rm.cells (va_A (rx_w ad ca vh) sz)) rm.cells rm.slots (va_A (rx_w ad ca vh) sz) := by
  unfold rx_fnS at hF
  have hsl : (As.map Value.category).sum ≤ nL := by
    cases hq : Nat.ble ((As.map Value.category).sum) nL with
    | false => rw [hq] at hF; cases hF
    | true => exact Nat.le_of_ble_eq_true hq
  rw [show Nat.ble ((As.map Value.category).sum) nL = true from Nat.ble_eq_true_of_le hsl] at hF
  refine rx_ofWH (hh := hh) (cc := cc) (maxL := nL) (ret := some .int) hy rfl ?_
  intro p e s m args below meth c s₁ B hml hv
  obtain ⟨⟨rfl, hsz, hP, hK, hD0, hJ⟩, hZ⟩ := hv
  have hx := B.exec
  have hb := B.bytes
  have hr := B.returns
  have hts := atoms_spec (ws := Cond.codeWith y cc nL (some .int) hh :: rx_WT) B.pre
  have hts' : ∀ w ∈ rx_WT, w.before (As.map (rx_v ad)).toArray s = true := fun w hw => hts w (List.mem_cons_of_mem _ hw)
  have hown : s.vm.findClass y.cls = some m.cls := findClass_of_methodNamed B.named
  have hnm : meth.name = y.name := (name_of_methodNamed B.named B.method).1
  have htb := vx_table (x := y) B (hts _ List.mem_cons_self)
  subst hsz
  have hD := hD0.self (sz := s.heap.size)
  generalize hAe : va_A (rx_w ad ca vh) s.heap.size = A at hD hJ hZ ⊢
  have hA : ∀ q : Nat, s.heap.size ≤ q → A q := fun q h => by rw [← hAe]; exact Or.inr h
  have hlen : (lg_sl (As.map (rx_v ad))).length ≤ nL := by
    refine Nat.le_trans (Nat.le_of_eq ?_) hsl
    clear hF hP hD0 hD B hts hts' hJ hsl hZ htb hr hH hG
    induction As with
    | nil => rfl
    | cons v vs ih =>
      simp only [lg_sl, List.map_cons, List.flatMap_cons, List.length_append, List.sum_cons] at ih ⊢
      rw [ih]
      cases v <;> rfl
  have hl9 := lv_entry (As.map (rx_v ad)) (n := nL) hlen
  rw [lg_entry_eq]
  generalize (lg_sl (As.map (rx_v ad)) ++ List.replicate (nL - (lg_sl (As.map (rx_v ad))).length) Slot.unset).toArray = ls at hl9 ⊢
  rw [← rx_args_tr] at hl9
  have X : rx_X p l e rm s m (As.map (rx_v ad)).toArray below meth c (MQ below (rx_Q D ca ad vh (some (.int k)) vh rm.cells A) (As.map (rx_v ad)).toArray s rm.cells rm.slots A) cc nL D vwCl ca A ad rm.cells rm.slots tys y.cls y.name rx_WT kc fl fp gs fg nw cf := by
    refine ⟨hx, hb, hown, hts', hK, hA, hty, ⟨fun k x hk => ?_, fun k x hk => ?_⟩, hfl, hfp, hnm, hnw, fun t ht => Or.inl (har t ht), Nat.le_refl _, Nat.le_refl _, fun i C hi => ?_, hJ, fun k x hk => ?_, hgs, hfg⟩
    · rcases hkc k _ hk with ⟨z, hz, hw⟩ | ⟨z, hz, hw⟩ | ⟨q, -, -, -, hz⟩
      · cases hz; exact hts' _ hw
      · cases hz
      · cases hz
    · rcases hkc k _ hk with ⟨z, hz, hw⟩ | ⟨z, hz, hw⟩ | ⟨q, -, -, -, hz⟩
      · cases hz
      · cases hz; exact hts' _ hw
      · cases hz
    · exact hcf i C hi p e s m _ below meth c _ cc nL D tys ca A rm.cells rm.slots hx hb hml hown hts' hK hty hA (Nat.le_refl _) (Nat.le_refl _)
    · rcases hkc k _ hk with ⟨z, hz, hw⟩ | ⟨z, hz, hw⟩ | ⟨q, h1, h2, h3, hz⟩
      · cases hz
      · cases hz
      · cases hz; exact ⟨q, h1, h2, h3, rfl⟩
  have hE : ∀ i len pc vls st nc ns, rx_ret (some .int) i len st = some (some (.int k)) → decode cc pc = .ok (i, len) → rx_G p l e rm s m (As.map (rx_v ad)).toArray below meth c (MQ below (rx_Q D ca ad vh (some (.int k)) vh rm.cells A) (As.map (rx_v ad)).toArray s rm.cells rm.slots A) nL D vwCl ca A ad vh.length rm.cells rm.slots pc vls st vh nc ns := by
    intro i len pc vls st nc ns hret hdg ad' H locs lsA h1 h2 h3 h4 h5 h6 hP' hD' hS' hl'
    refine W.widen h5 h6 ?_
    have hend : ∀ (o : Option Value) (t : State), o = some (.int k) → t.heap = H → rx_Q D ca ad vh (some (.int k)) vh rm.cells A (As.map (rx_v ad)).toArray s (.returned o) t := by
      intro o t ho ht
      refine ⟨⟨ad', h1, fun z => h2 (by omega), h3, by omega, by rw [ho]; rfl, by rw [ht]; exact hP', hD'⟩, hS'.F ht⟩
    unfold rx_ret at hret
    split at hret <;> first | (cases hret; done) | skip
    · cases hret; exact W.iret hx hb hr (fun t ht hW => hend _ t rfl ht) hS'.2.2 hdg
    all_goals first | (simp at hret; done) | (exfalso; simp_all; done)
  refine rx_runS_ok (ad0 := ad) (n0 := vh.length) (rs := (none, vh)) X hcd (fun i len pc ls st nc ns h => absurd h (fun h => rx_ret_i h)) ?_ n 0 (lv_args 0 As) [] vh 0 0 hF ad s.heap [] ls (fun _ _ => rfl) (fun _ => rfl) (Nat.le_refl _) (Nat.le_refl _) (Nat.zero_le _) (Nat.zero_le _) hP hD va_S.rf hl9
  intro vls st9 vh9 nc9 ns9 e9 hs9
  obtain ⟨rfl, rfl, rfl, hwl⟩ := hs9
  intro ad' H locs lsA h1 h2 h3 h4 h5 h6 hP' hD' hS' hl'
  obtain rfl : ad' = ad := h2 rfl
  obtain rfl : vh9 = vh := by cases e9; rfl
  have hg : GoodIn rx_WT (wsV y.cls ix y'.cls y' (Cond.code y' cc' nL' (some .int) :: rx_WT)) := by
    intro w hw
    have hm : w ∈ rx_WT := by
      simp only [wsV, List.cons_append, List.nil_append, List.mem_cons] at hw
      rcases hw with rfl | rfl | rfl | rfl | rfl | hw
      · exact hli
      · exact hi
      · exact hs
      · exact hin
      · exact hc
      · exact hw
    exact ⟨hm, good_of_word (List.mem_filter.mp hm).2⟩
  have hcw : CallW rm s (As.map (rx_v ad')).toArray y.cls y'.cls ix y' cc' nL' (some .int) (Cond.code y' cc' nL' (some .int) :: rx_WT) rm' rm'.cells rm'.slots np := cwV np hts' hg rfl rfl rfl ⟨rfl, hd⟩ hR
  have hF9 : ∀ q, va_A (rx_w ad' ca vh9) H.size q → A q := by
    rintro q (⟨k, x, hk⟩ | hq)
    · exact hD'.2 k _ hk
    · exact hA q (Nat.le_trans hS'.1 hq)
  have hrun := vx_runV (e := e) (below := below) (meth := meth) (locs := locs) (cells := 0) (slots := 0) (b := ad' a) (As := As'.map (rx_v ad')) (rest := rest.map (rx_v ad')) (g := F0 m P lsA ((As'.reverse ++ .ref a :: rest).map (rx_v ad'))) ⟨hx, hb, hml, hown, hts'⟩ (hM D tys ca ad' vh9 (.ref a :: As') H.size hty hG) hcw ⟨rx_blindX, va_recv hK hP' hcl (rx_w_get ha), fun U hU hW => ⟨rx_pre (As := .ref a :: As') hK hP' hD' hJ hS' hA U hU hW, hZ.to (locs := locs) (by rw [hU]; exact hS') hF9 hW⟩⟩ rfl (by rw [List.length_map]; exact hlen') hl'.1 (by simp [rx_v, List.map_append, List.map_reverse]) (lv_room (by rw [← rx_cats (ad := ad')] at hcat; exact hcat)) hdg ⟨by omega, by omega⟩
  refine vx_calli (A0 := A) (H0 := s.heap) hrun hS' (fun q _ h => hF9 q h) hF9 (fun q _ h => hF9 q h) ?_ (fun r u t H1 locs1 _ _ hf _ _ _ _ => absurd hf id)
  intro E ce q9 u t H1 locs1 ht hal _ hBX hsz1 hk1 hS1 hce hcv hcle
  obtain ⟨rfl, hP1⟩ := hBX
  rw [ht] at hP1
  refine vx_catch (own := y.cls) (name := E) hown pre x suf (htb.trans htab) ?_ hcov hx0 (hts' _ hlink) (va_Nw.use ((by decide +kernel : ∀ w ∈ xw_bad, w.onTables = true) _ hcast) (hZ.2.2.1 _ hcast)) hce hcv hcle ?_
  · intro z hz
    rcases hpass z hz with h | ⟨g1, g2, g3⟩
    · exact Or.inl h
    · exact Or.inr ⟨g1, _, hts' _ g2, by rw [g3]; exact hZ.2.2.2⟩
  · have hadx : ∀ k, k < vh9.length ∨ 1000000 ≤ k → rx_ext ad' vh9.length q9 k = ad' k := fun k hk => rx_ext_lt hvl hk
    have hww : rx_w (rx_ext ad' vh9.length q9) ca vh9 = rx_w ad' ca vh9 := rx_ww_tr hadx hwf
    have hlx : rx_l (rx_ext ad' vh9.length q9) vls = rx_l ad' vls := rx_wl_tr hadx hwl
    have hG9 := rx_run_ok (ad0 := ad') (n0 := vh9.length) (rs := (some (.int k), vh9)) X hch hE n x.handlerPc vls [.ref vh9.length] vh9 rm'.cells rm'.slots (hH vls) (rx_ext ad' vh9.length q9) H1 locs1 lsA hadx (fun h => absurd h (by omega)) (Nat.le_refl _) (by omega) hrm.1 hrm.2 (by rw [hww]; exact hP1) (by rw [hww]; exact hD') hS1 (by rw [hlx]; exact hl')
    have e9 : rx_ext ad' vh9.length q9 vh9.length = q9 := by
      unfold rx_ext
      rw [if_pos rfl]
    simp only [List.map_cons, List.map_nil, rx_v, e9, Nat.zero_add] at hG9 ⊢
    exact hG9
end RXHX
