theorem t_thr {J : Nat → Int32} {S : Nat → Nat → Int32} {K : Nat → Int64} : f_X12_thrown (wr J S K) [.ref 0] = some (some (.int (J 0)), wr J S K) := ry_fn_eq rfl
theorem ble_0 {a b : Nat} (h : Nat.ble (a + 1) b = true) : Nat.ble (a + 0) b = true := Nat.ble_eq_true_of_le (Nat.le_of_succ_le (Nat.le_of_ble_eq_true h))
theorem ble_6 {a b : Nat} (h : Nat.ble (a + 6) b = true) : Nat.ble (a + 0) b = true := Nat.ble_eq_true_of_le (Nat.le_trans (Nat.le_add_right _ 6) (Nat.le_of_ble_eq_true h))
set_option maxRecDepth 100000 in
theorem law_A12 {F : rx_F} {I : Nat → Int32} {L : Nat → Int64} {T : Nat → Nat → Int32} {U : Nat → Nat → Int64} {J : Nat → Int32} {S : Nat → Nat → Int32} {K : Nat → Int64} (h : F [.inr (11, nB12)] [.ref 0] = some (none, wr J S K)) : lfA F (wc I L T U ++ ([.inr (11, nB12)] : rx_H)) [.ref 38] = some (none, wc I L T U ++ (wr J S K).map (rx_e shf (fun t => t))) := by
  have e1 : exA (wc I L T U ++ ([.inr (11, nB12)] : rx_H)) = [.inr (11, nB12)] := rfl
  have e2 : (wc I L T U ++ ([.inr (11, nB12)] : rx_H)).take 38 = wc I L T U := rfl
  have q := lfA_eq (F := F) (vh := wc I L T U ++ ([.inr (11, nB12)] : rx_H)) (a' := wr J S K) (As := [.ref 38]) (by rw [e1]; exact h) ⟨by rw [e1]; exact em_mid (wc I L T U) [.inr (11, nB12)] [] rfl (show 1 ≤ 1000 by decide), rfl, (show 38 ≤ 39 by decide), (show 39 ≤ 1000 by decide), (show 20 ≤ 1000 by decide), by rw [e2]; rfl, rfl⟩
  rw [e2] at q
  exact q
section LAWL
variable {p : Program} {l : Launch} {e : Env} {s : State} {m : MethodId} {below : List Frame} {meth : Method} {c : Code} {b Ls : Nat} {xs : Nat → Int32} {D : va_G} {tys : List (ClassId × FieldType)} {ca : Nat → ClassId} {ad0 : Nat → Nat}
theorem lo_type (B : LB p l s m meth c b Ls xs D tys ca ad0) {N : Nat → Nat} {I : Nat → Int32} {L : Nat → Int64} {T : Nat → Nat → Int32} {U : Nat → Nat → Int64} {J : Nat → Int32} {S : Nat → Nat → Int32} {K : Nat → Int64} {f : Nat → Int64} (hz : RZ N I T U J S) {k nc ns : Nat} (h0 : ¬ (Int32.ofNat Ls - 4 < nI (4 * k))) (hi : ¬ (nI (4 * k) < 0 ∨ Ls ≤ (nI (4 * k)).toNatClampNeg)) (g1 : ¬ (nI (4 * k) + 1 < 0 ∨ Ls ≤ (nI (4 * k) + 1).toNatClampNeg)) (g2 : ¬ (nI (4 * k) + 2 < 0 ∨ Ls ≤ (nI (4 * k) + 2).toNatClampNeg)) (g3 : ¬ (nI (4 * k) + 3 < 0 ∨ Ls ≤ (nI (4 * k) + 3).toNatClampNeg)) (hc : Nat.ble (nc + 1) 1095 = true) (hs : Nat.ble (ns + 6) 42951 = true) (nx : ∀ (N : Nat → Nat) (I : Nat → Int32) (L : Nat → Int64) (T : Nat → Nat → Int32) (U : Nat → Nat → Int64) (J : Nat → Int32) (S : Nat → Nat → Int32) (K : Nat → Int64) (f : Nat → Int64) (n1 n2 : Nat), RZ N I T U J S → n1 ≤ nc + 1 → n2 ≤ ns + 6 → rx_G p l e room_1 s m #[Value.ref b] below meth c (lw_Z below #[Value.ref b] s) 7 D vwCl ca (fun q => s.heap.size ≤ q) ad0 0 1095 42951 23 (LSw (nI (4 * k) + 4)) [] (wl I L T U J S K f) n1 n2) (hv : rx_tsw (xs (nI (4 * k)).toNatClampNeg &&& 15) 701 0 [57, 126, 182, 193, 249, 317, 385, 441, 521, 589, 645] = 57) : rx_G p l e room_1 s m #[Value.ref b] below meth c (lw_Z below #[Value.ref b] s) 7 D vwCl ca (fun q => s.heap.size ≤ q) ad0 0 1095 42951 23 (LSw (nI (4 * k))) [] (wl I L T U J S K f) nc ns := by
  obtain ⟨r, I', T', J', S', hC, hM, hz'⟩ := jz_type (L := L) (K := K) hz (wrd (xs (nI (4 * k) + 1).toNatClampNeg) (xs (nI (4 * k) + 2).toNatClampNeg)) (xs (nI (4 * k) + 3).toNatClampNeg)
  exact law_round B (cc_type B) cdl_type_ok (rd_type h0 hi hv g1 g2 g3 (ble_0 hc) (ble_6 hs) (lC_eq hC (fun _ _ => rfl)) (lR_eq hM rfl rfl (fun _ _ => rfl))) (nx _ _ _ _ _ _ _ _ _ _ _ hz' (by omega) (by omega))
theorem lo_reset (B : LB p l s m meth c b Ls xs D tys ca ad0) {N : Nat → Nat} {I : Nat → Int32} {L : Nat → Int64} {T : Nat → Nat → Int32} {U : Nat → Nat → Int64} {J : Nat → Int32} {S : Nat → Nat → Int32} {K : Nat → Int64} {f : Nat → Int64} (hz : RZ N I T U J S) {k nc ns : Nat} (h0 : ¬ (Int32.ofNat Ls - 4 < nI (4 * k))) (hi : ¬ (nI (4 * k) < 0 ∨ Ls ≤ (nI (4 * k)).toNatClampNeg)) (g1 : ¬ (nI (4 * k) + 1 < 0 ∨ Ls ≤ (nI (4 * k) + 1).toNatClampNeg)) (g2 : ¬ (nI (4 * k) + 2 < 0 ∨ Ls ≤ (nI (4 * k) + 2).toNatClampNeg)) (g3 : ¬ (nI (4 * k) + 3 < 0 ∨ Ls ≤ (nI (4 * k) + 3).toNatClampNeg)) (hc : Nat.ble (nc + 1) 1095 = true) (hs : Nat.ble (ns + 6) 42951 = true) (nx : ∀ (N : Nat → Nat) (I : Nat → Int32) (L : Nat → Int64) (T : Nat → Nat → Int32) (U : Nat → Nat → Int64) (J : Nat → Int32) (S : Nat → Nat → Int32) (K : Nat → Int64) (f : Nat → Int64) (n1 n2 : Nat), RZ N I T U J S → n1 ≤ nc + 1 → n2 ≤ ns + 6 → rx_G p l e room_1 s m #[Value.ref b] below meth c (lw_Z below #[Value.ref b] s) 7 D vwCl ca (fun q => s.heap.size ≤ q) ad0 0 1095 42951 23 (LSw (nI (4 * k) + 4)) [] (wl I L T U J S K f) n1 n2) (hv : rx_tsw (xs (nI (4 * k)).toNatClampNeg &&& 15) 701 0 [57, 126, 182, 193, 249, 317, 385, 441, 521, 589, 645] = 182) : rx_G p l e room_1 s m #[Value.ref b] below meth c (lw_Z below #[Value.ref b] s) 7 D vwCl ca (fun q => s.heap.size ≤ q) ad0 0 1095 42951 23 (LSw (nI (4 * k))) [] (wl I L T U J S K f) nc ns := by
  obtain ⟨I', T', J', S', hC, hM, hz'⟩ := jz_reset (L := L) (K := K) hz
  exact law_round B (cc_reset B) cdl_reset_ok (rd_reset h0 hi hv (ble_0 hc) (ble_6 hs) (lC_eq hC (fun _ _ => rfl)) (lR_eq hM rfl rfl (fun _ _ => rfl))) (nx _ _ _ _ _ _ _ _ _ _ _ hz' (by omega) (by omega))
theorem lo_none (B : LB p l s m meth c b Ls xs D tys ca ad0) {N : Nat → Nat} {I : Nat → Int32} {L : Nat → Int64} {T : Nat → Nat → Int32} {U : Nat → Nat → Int64} {J : Nat → Int32} {S : Nat → Nat → Int32} {K : Nat → Int64} {f : Nat → Int64} (hz : RZ N I T U J S) {k nc ns : Nat} (h0 : ¬ (Int32.ofNat Ls - 4 < nI (4 * k))) (hi : ¬ (nI (4 * k) < 0 ∨ Ls ≤ (nI (4 * k)).toNatClampNeg)) (g1 : ¬ (nI (4 * k) + 1 < 0 ∨ Ls ≤ (nI (4 * k) + 1).toNatClampNeg)) (g2 : ¬ (nI (4 * k) + 2 < 0 ∨ Ls ≤ (nI (4 * k) + 2).toNatClampNeg)) (g3 : ¬ (nI (4 * k) + 3 < 0 ∨ Ls ≤ (nI (4 * k) + 3).toNatClampNeg)) (hc : Nat.ble (nc + 1) 1095 = true) (hs : Nat.ble (ns + 6) 42951 = true) (nx : ∀ (N : Nat → Nat) (I : Nat → Int32) (L : Nat → Int64) (T : Nat → Nat → Int32) (U : Nat → Nat → Int64) (J : Nat → Int32) (S : Nat → Nat → Int32) (K : Nat → Int64) (f : Nat → Int64) (n1 n2 : Nat), RZ N I T U J S → n1 ≤ nc + 1 → n2 ≤ ns + 6 → rx_G p l e room_1 s m #[Value.ref b] below meth c (lw_Z below #[Value.ref b] s) 7 D vwCl ca (fun q => s.heap.size ≤ q) ad0 0 1095 42951 23 (LSw (nI (4 * k) + 4)) [] (wl I L T U J S K f) n1 n2) (hv : rx_tsw (xs (nI (4 * k)).toNatClampNeg &&& 15) 701 0 [57, 126, 182, 193, 249, 317, 385, 441, 521, 589, 645] = 701) : rx_G p l e room_1 s m #[Value.ref b] below meth c (lw_Z below #[Value.ref b] s) 7 D vwCl ca (fun q => s.heap.size ≤ q) ad0 0 1095 42951 23 (LSw (nI (4 * k))) [] (wl I L T U J S K f) nc ns := law_round B (law_no B) cdl_none_ok (rd_none h0 hi hv) (nx _ _ _ _ _ _ _ _ _ _ _ hz (by omega) (by omega))
theorem lo_run (B : LB p l s m meth c b Ls xs D tys ca ad0) {N : Nat → Nat} {I : Nat → Int32} {L : Nat → Int64} {T : Nat → Nat → Int32} {U : Nat → Nat → Int64} {J : Nat → Int32} {S : Nat → Nat → Int32} {K : Nat → Int64} {f : Nat → Int64} (hz : RZ N I T U J S) {k nc ns : Nat} (h0 : ¬ (Int32.ofNat Ls - 4 < nI (4 * k))) (hi : ¬ (nI (4 * k) < 0 ∨ Ls ≤ (nI (4 * k)).toNatClampNeg)) (g1 : ¬ (nI (4 * k) + 1 < 0 ∨ Ls ≤ (nI (4 * k) + 1).toNatClampNeg)) (g2 : ¬ (nI (4 * k) + 2 < 0 ∨ Ls ≤ (nI (4 * k) + 2).toNatClampNeg)) (g3 : ¬ (nI (4 * k) + 3 < 0 ∨ Ls ≤ (nI (4 * k) + 3).toNatClampNeg)) (hc : Nat.ble (nc + 1) 1095 = true) (hs : Nat.ble (ns + 6) 42951 = true) (nx : ∀ (N : Nat → Nat) (I : Nat → Int32) (L : Nat → Int64) (T : Nat → Nat → Int32) (U : Nat → Nat → Int64) (J : Nat → Int32) (S : Nat → Nat → Int32) (K : Nat → Int64) (f : Nat → Int64) (n1 n2 : Nat), RZ N I T U J S → n1 ≤ nc + 1 → n2 ≤ ns + 6 → rx_G p l e room_1 s m #[Value.ref b] below meth c (lw_Z below #[Value.ref b] s) 7 D vwCl ca (fun q => s.heap.size ≤ q) ad0 0 1095 42951 23 (LSw (nI (4 * k) + 4)) [] (wl I L T U J S K f) n1 n2) (hv : rx_tsw (xs (nI (4 * k)).toNatClampNeg &&& 15) 701 0 [57, 126, 182, 193, 249, 317, 385, 441, 521, 589, 645] = 126) : rx_G p l e room_1 s m #[Value.ref b] below meth c (lw_Z below #[Value.ref b] s) 7 D vwCl ca (fun q => s.heap.size ≤ q) ad0 0 1095 42951 23 (LSw (nI (4 * k))) [] (wl I L T U J S K f) nc ns := by
  have hl : l.stackTraces = false := B.2.2.2.2.2.2.2.2.2.2.2.2.2.2.1
  rcases neg_or (xs (nI (4 * k) + 1).toNatClampNeg) with hn | ⟨a, ha, ea⟩
  · have hm := t_runA (I := J) (T := S) (K := K) hn
    exact law_round B (cc_run B (mw_run_1 l hl)) cdl_run_ok (rt_run (k := 1) h0 hi hv g1 hc hs (by decide) (uI_at _ _ _) (wx_run_1 (I' := I) (L' := L) (T' := T) (U' := U) (x_run (Or.inl hn))) (lR_eq hm rfl rfl (fun _ _ => rfl)) (lR_eq t_thr rfl rfl (fun _ _ => rfl))) (nx _ _ _ _ _ _ _ _ _ _ _ (RZ_0 (L := L) (K := K) hz) (by omega) (by omega))
  · by_cases h9 : a ≤ 1000
    · obtain ⟨r, N', I', L', T', U', J', S', K', hC, hM, j0, hz'⟩ := jz_run (L := L) (K := K) jdo (jhtk jdo) hz h9
      rw [← ea] at hC hM
      exact law_round B (cc_run B (mw_run_0 l)) cdl_run_ok (rn_run (f2 := vp_updL f 0 _) h0 hi hv g1 hc hs vp_updL_at j0 (wn_run hC) (lR_eq hM rfl rfl (fun _ _ => rfl)) (lR_eq t_thr rfl rfl (fun _ _ => rfl))) (nx _ _ _ _ _ _ _ _ _ _ _ hz' (by omega) (by omega))
    · have hn : ¬ (xs (nI (4 * k) + 1).toNatClampNeg) < 0 := by
        rw [ea]
        exact nI_n0 ha
      have hg : ¬ (xs (nI (4 * k) + 1).toNatClampNeg) ≤ Int16.toInt32 (Int16.ofInt 1000) := by
        rw [ea, show Int16.toInt32 (Int16.ofInt 1000) = nI 1000 from by decide, nI_leI ha (by decide)]
        exact h9
      have hm := t_runB (I := J) (T := S) (K := K) hn hg
      exact law_round B (cc_run B (mw_run_1 l hl)) cdl_run_ok (rt_run (k := 1) h0 hi hv g1 hc hs (by decide) (uI_at _ _ _) (wx_run_1 (I' := I) (L' := L) (T' := T) (U' := U) (x_run (Or.inr hg))) (lR_eq hm rfl rfl (fun _ _ => rfl)) (lR_eq t_thr rfl rfl (fun _ _ => rfl))) (nx _ _ _ _ _ _ _ _ _ _ _ (RZ_0 (L := L) (K := K) hz) (by omega) (by omega))

theorem lo_count (B : LB p l s m meth c b Ls xs D tys ca ad0) {N : Nat → Nat} {I : Nat → Int32} {L : Nat → Int64} {T : Nat → Nat → Int32} {U : Nat → Nat → Int64} {J : Nat → Int32} {S : Nat → Nat → Int32} {K : Nat → Int64} {f : Nat → Int64} (hz : RZ N I T U J S) {k nc ns : Nat} (h0 : ¬ (Int32.ofNat Ls - 4 < nI (4 * k))) (hi : ¬ (nI (4 * k) < 0 ∨ Ls ≤ (nI (4 * k)).toNatClampNeg)) (g1 : ¬ (nI (4 * k) + 1 < 0 ∨ Ls ≤ (nI (4 * k) + 1).toNatClampNeg)) (g2 : ¬ (nI (4 * k) + 2 < 0 ∨ Ls ≤ (nI (4 * k) + 2).toNatClampNeg)) (g3 : ¬ (nI (4 * k) + 3 < 0 ∨ Ls ≤ (nI (4 * k) + 3).toNatClampNeg)) (hc : Nat.ble (nc + 1) 1095 = true) (hs : Nat.ble (ns + 6) 42951 = true) (nx : ∀ (N : Nat → Nat) (I : Nat → Int32) (L : Nat → Int64) (T : Nat → Nat → Int32) (U : Nat → Nat → Int64) (J : Nat → Int32) (S : Nat → Nat → Int32) (K : Nat → Int64) (f : Nat → Int64) (n1 n2 : Nat), RZ N I T U J S → n1 ≤ nc + 1 → n2 ≤ ns + 6 → rx_G p l e room_1 s m #[Value.ref b] below meth c (lw_Z below #[Value.ref b] s) 7 D vwCl ca (fun q => s.heap.size ≤ q) ad0 0 1095 42951 23 (LSw (nI (4 * k) + 4)) [] (wl I L T U J S K f) n1 n2) (hv : rx_tsw (xs (nI (4 * k)).toNatClampNeg &&& 15) 701 0 [57, 126, 182, 193, 249, 317, 385, 441, 521, 589, 645] = 193) : rx_G p l e room_1 s m #[Value.ref b] below meth c (lw_Z below #[Value.ref b] s) 7 D vwCl ca (fun q => s.heap.size ≤ q) ad0 0 1095 42951 23 (LSw (nI (4 * k))) [] (wl I L T U J S K f) nc ns := by
  have hl : l.stackTraces = false := B.2.2.2.2.2.2.2.2.2.2.2.2.2.2.1
  rcases jz_count (L := L) (K := K) hz (xs (nI (4 * k) + 1).toNatClampNeg) with ⟨r, hC, hM⟩ | ⟨hx, hm⟩
  · have j0 : uI J 0 0 0 = 0 := uI_at _ _ _
    exact law_round B (cc_count B (mw_count_0 l)) cdl_count_ok (rn_count (f2 := vp_updL f 0 _) h0 hi hv g1 hc hs vp_updL_at j0 (wn_count hC) (lR_eq hM rfl rfl (fun _ _ => rfl)) (lR_eq t_thr rfl rfl (fun _ _ => rfl))) (nx _ _ _ _ _ _ _ _ _ _ _ (RZ_0 (L := L) (K := K) hz) (by omega) (by omega))
  · skip
    exact law_round B (cc_count B (mw_count_1 l hl)) cdl_count_ok (rt_count (k := 1) h0 hi hv g1 hc hs (by decide) (uI_at _ _ _) (wx_count_1 (I' := I) (L' := L) (T' := T) (U' := U) (x_count hx)) (lR_eq hm rfl rfl (fun _ _ => rfl)) (lR_eq t_thr rfl rfl (fun _ _ => rfl))) (nx _ _ _ _ _ _ _ _ _ _ _ (RZ_0 (L := L) (K := K) hz) (by omega) (by omega))

theorem lo_at (B : LB p l s m meth c b Ls xs D tys ca ad0) {N : Nat → Nat} {I : Nat → Int32} {L : Nat → Int64} {T : Nat → Nat → Int32} {U : Nat → Nat → Int64} {J : Nat → Int32} {S : Nat → Nat → Int32} {K : Nat → Int64} {f : Nat → Int64} (hz : RZ N I T U J S) {k nc ns : Nat} (h0 : ¬ (Int32.ofNat Ls - 4 < nI (4 * k))) (hi : ¬ (nI (4 * k) < 0 ∨ Ls ≤ (nI (4 * k)).toNatClampNeg)) (g1 : ¬ (nI (4 * k) + 1 < 0 ∨ Ls ≤ (nI (4 * k) + 1).toNatClampNeg)) (g2 : ¬ (nI (4 * k) + 2 < 0 ∨ Ls ≤ (nI (4 * k) + 2).toNatClampNeg)) (g3 : ¬ (nI (4 * k) + 3 < 0 ∨ Ls ≤ (nI (4 * k) + 3).toNatClampNeg)) (hc : Nat.ble (nc + 1) 1095 = true) (hs : Nat.ble (ns + 6) 42951 = true) (nx : ∀ (N : Nat → Nat) (I : Nat → Int32) (L : Nat → Int64) (T : Nat → Nat → Int32) (U : Nat → Nat → Int64) (J : Nat → Int32) (S : Nat → Nat → Int32) (K : Nat → Int64) (f : Nat → Int64) (n1 n2 : Nat), RZ N I T U J S → n1 ≤ nc + 1 → n2 ≤ ns + 6 → rx_G p l e room_1 s m #[Value.ref b] below meth c (lw_Z below #[Value.ref b] s) 7 D vwCl ca (fun q => s.heap.size ≤ q) ad0 0 1095 42951 23 (LSw (nI (4 * k) + 4)) [] (wl I L T U J S K f) n1 n2) (hv : rx_tsw (xs (nI (4 * k)).toNatClampNeg &&& 15) 701 0 [57, 126, 182, 193, 249, 317, 385, 441, 521, 589, 645] = 249) : rx_G p l e room_1 s m #[Value.ref b] below meth c (lw_Z below #[Value.ref b] s) 7 D vwCl ca (fun q => s.heap.size ≤ q) ad0 0 1095 42951 23 (LSw (nI (4 * k))) [] (wl I L T U J S K f) nc ns := by
  have hl : l.stackTraces = false := B.2.2.2.2.2.2.2.2.2.2.2.2.2.2.1
  rcases jz_at (L := L) (K := K) hz (xs (nI (4 * k) + 1).toNatClampNeg) (xs (nI (4 * k) + 2).toNatClampNeg) with ⟨r, hC, hM⟩ | ⟨hx, hm⟩ | ⟨hx, hm⟩
  · have j0 : uI J 0 0 0 = 0 := uI_at _ _ _
    exact law_round B (cc_at B (mw_at_0 l)) cdl_at_ok (rn_at (f2 := vp_updL f 0 _) h0 hi hv g1 g2 hc hs vp_updL_at j0 (wn_at hC) (lR_eq hM rfl rfl (fun _ _ => rfl)) (lR_eq t_thr rfl rfl (fun _ _ => rfl))) (nx _ _ _ _ _ _ _ _ _ _ _ (RZ_0 (L := L) (K := K) hz) (by omega) (by omega))
  · skip
    exact law_round B (cc_at B (mw_at_1 l hl)) cdl_at_ok (rt_at (k := 1) h0 hi hv g1 g2 hc hs (by decide) (uI_at _ _ _) (wx_at_1 (I' := I) (L' := L) (T' := T) (U' := U) (x_at1 hx)) (lR_eq hm rfl rfl (fun _ _ => rfl)) (lR_eq t_thr rfl rfl (fun _ _ => rfl))) (nx _ _ _ _ _ _ _ _ _ _ _ (RZ_0 (L := L) (K := K) hz) (by omega) (by omega))
  · skip
    exact law_round B (cc_at B (mw_at_2 l hl)) cdl_at_ok (rt_at (k := 2) h0 hi hv g1 g2 hc hs (by decide) (uI_at _ _ _) (wx_at_2 (I' := I) (L' := L) (T' := T) (U' := U) (x_at2 hx)) (lR_eq hm rfl rfl (fun _ _ => rfl)) (lR_eq t_thr rfl rfl (fun _ _ => rfl))) (nx _ _ _ _ _ _ _ _ _ _ _ (RZ_0 (L := L) (K := K) hz) (by omega) (by omega))

theorem lo_value (B : LB p l s m meth c b Ls xs D tys ca ad0) {N : Nat → Nat} {I : Nat → Int32} {L : Nat → Int64} {T : Nat → Nat → Int32} {U : Nat → Nat → Int64} {J : Nat → Int32} {S : Nat → Nat → Int32} {K : Nat → Int64} {f : Nat → Int64} (hz : RZ N I T U J S) {k nc ns : Nat} (h0 : ¬ (Int32.ofNat Ls - 4 < nI (4 * k))) (hi : ¬ (nI (4 * k) < 0 ∨ Ls ≤ (nI (4 * k)).toNatClampNeg)) (g1 : ¬ (nI (4 * k) + 1 < 0 ∨ Ls ≤ (nI (4 * k) + 1).toNatClampNeg)) (g2 : ¬ (nI (4 * k) + 2 < 0 ∨ Ls ≤ (nI (4 * k) + 2).toNatClampNeg)) (g3 : ¬ (nI (4 * k) + 3 < 0 ∨ Ls ≤ (nI (4 * k) + 3).toNatClampNeg)) (hc : Nat.ble (nc + 1) 1095 = true) (hs : Nat.ble (ns + 6) 42951 = true) (nx : ∀ (N : Nat → Nat) (I : Nat → Int32) (L : Nat → Int64) (T : Nat → Nat → Int32) (U : Nat → Nat → Int64) (J : Nat → Int32) (S : Nat → Nat → Int32) (K : Nat → Int64) (f : Nat → Int64) (n1 n2 : Nat), RZ N I T U J S → n1 ≤ nc + 1 → n2 ≤ ns + 6 → rx_G p l e room_1 s m #[Value.ref b] below meth c (lw_Z below #[Value.ref b] s) 7 D vwCl ca (fun q => s.heap.size ≤ q) ad0 0 1095 42951 23 (LSw (nI (4 * k) + 4)) [] (wl I L T U J S K f) n1 n2) (hv : rx_tsw (xs (nI (4 * k)).toNatClampNeg &&& 15) 701 0 [57, 126, 182, 193, 249, 317, 385, 441, 521, 589, 645] = 317) : rx_G p l e room_1 s m #[Value.ref b] below meth c (lw_Z below #[Value.ref b] s) 7 D vwCl ca (fun q => s.heap.size ≤ q) ad0 0 1095 42951 23 (LSw (nI (4 * k))) [] (wl I L T U J S K f) nc ns := by
  have hl : l.stackTraces = false := B.2.2.2.2.2.2.2.2.2.2.2.2.2.2.1
  rcases jz_value (L := L) (K := K) hz (xs (nI (4 * k) + 1).toNatClampNeg) (xs (nI (4 * k) + 2).toNatClampNeg) with ⟨r, hC, hM⟩ | ⟨hx, hm⟩ | ⟨hx, hm⟩
  · have j0 : uI J 0 0 0 = 0 := uI_at _ _ _
    exact law_round B (cc_value B (mw_value_0 l)) cdl_value_ok (rn_value (f2 := vp_updL f 0 _) h0 hi hv g1 g2 hc hs vp_updL_at j0 (wn_value hC) (lR_eq hM rfl rfl (fun _ _ => rfl)) (lR_eq t_thr rfl rfl (fun _ _ => rfl))) (nx _ _ _ _ _ _ _ _ _ _ _ (RZ_0 (L := L) (K := K) hz) (by omega) (by omega))
  · skip
    exact law_round B (cc_value B (mw_value_1 l hl)) cdl_value_ok (rt_value (k := 1) h0 hi hv g1 g2 hc hs (by decide) (uI_at _ _ _) (wx_value_1 (I' := I) (L' := L) (T' := T) (U' := U) (x_value1 hx)) (lR_eq hm rfl rfl (fun _ _ => rfl)) (lR_eq t_thr rfl rfl (fun _ _ => rfl))) (nx _ _ _ _ _ _ _ _ _ _ _ (RZ_0 (L := L) (K := K) hz) (by omega) (by omega))
  · skip
    exact law_round B (cc_value B (mw_value_2 l hl)) cdl_value_ok (rt_value (k := 2) h0 hi hv g1 g2 hc hs (by decide) (uI_at _ _ _) (wx_value_2 (I' := I) (L' := L) (T' := T) (U' := U) (x_value2 hx)) (lR_eq hm rfl rfl (fun _ _ => rfl)) (lR_eq t_thr rfl rfl (fun _ _ => rfl))) (nx _ _ _ _ _ _ _ _ _ _ _ (RZ_0 (L := L) (K := K) hz) (by omega) (by omega))

theorem lo_octet (B : LB p l s m meth c b Ls xs D tys ca ad0) {N : Nat → Nat} {I : Nat → Int32} {L : Nat → Int64} {T : Nat → Nat → Int32} {U : Nat → Nat → Int64} {J : Nat → Int32} {S : Nat → Nat → Int32} {K : Nat → Int64} {f : Nat → Int64} (hz : RZ N I T U J S) {k nc ns : Nat} (h0 : ¬ (Int32.ofNat Ls - 4 < nI (4 * k))) (hi : ¬ (nI (4 * k) < 0 ∨ Ls ≤ (nI (4 * k)).toNatClampNeg)) (g1 : ¬ (nI (4 * k) + 1 < 0 ∨ Ls ≤ (nI (4 * k) + 1).toNatClampNeg)) (g2 : ¬ (nI (4 * k) + 2 < 0 ∨ Ls ≤ (nI (4 * k) + 2).toNatClampNeg)) (g3 : ¬ (nI (4 * k) + 3 < 0 ∨ Ls ≤ (nI (4 * k) + 3).toNatClampNeg)) (hc : Nat.ble (nc + 1) 1095 = true) (hs : Nat.ble (ns + 6) 42951 = true) (nx : ∀ (N : Nat → Nat) (I : Nat → Int32) (L : Nat → Int64) (T : Nat → Nat → Int32) (U : Nat → Nat → Int64) (J : Nat → Int32) (S : Nat → Nat → Int32) (K : Nat → Int64) (f : Nat → Int64) (n1 n2 : Nat), RZ N I T U J S → n1 ≤ nc + 1 → n2 ≤ ns + 6 → rx_G p l e room_1 s m #[Value.ref b] below meth c (lw_Z below #[Value.ref b] s) 7 D vwCl ca (fun q => s.heap.size ≤ q) ad0 0 1095 42951 23 (LSw (nI (4 * k) + 4)) [] (wl I L T U J S K f) n1 n2) (hv : rx_tsw (xs (nI (4 * k)).toNatClampNeg &&& 15) 701 0 [57, 126, 182, 193, 249, 317, 385, 441, 521, 589, 645] = 385) : rx_G p l e room_1 s m #[Value.ref b] below meth c (lw_Z below #[Value.ref b] s) 7 D vwCl ca (fun q => s.heap.size ≤ q) ad0 0 1095 42951 23 (LSw (nI (4 * k))) [] (wl I L T U J S K f) nc ns := by
  have hl : l.stackTraces = false := B.2.2.2.2.2.2.2.2.2.2.2.2.2.2.1
  rcases jz_octet (L := L) (K := K) hz (xs (nI (4 * k) + 1).toNatClampNeg) with ⟨r, hC, hM⟩ | ⟨hx, hm⟩
  · have j0 : uI J 0 0 0 = 0 := uI_at _ _ _
    exact law_round B (cc_octet B (mw_octet_0 l)) cdl_octet_ok (rn_octet (f2 := vp_updL f 0 _) h0 hi hv g1 hc hs vp_updL_at j0 (wn_octet hC) (lR_eq hM rfl rfl (fun _ _ => rfl)) (lR_eq t_thr rfl rfl (fun _ _ => rfl))) (nx _ _ _ _ _ _ _ _ _ _ _ (RZ_0 (L := L) (K := K) hz) (by omega) (by omega))
  · skip
    exact law_round B (cc_octet B (mw_octet_1 l hl)) cdl_octet_ok (rt_octet (k := 1) h0 hi hv g1 hc hs (by decide) (uI_at _ _ _) (wx_octet_1 (I' := I) (L' := L) (T' := T) (U' := U) (x_octet hx)) (lR_eq hm rfl rfl (fun _ _ => rfl)) (lR_eq t_thr rfl rfl (fun _ _ => rfl))) (nx _ _ _ _ _ _ _ _ _ _ _ (RZ_0 (L := L) (K := K) hz) (by omega) (by omega))

theorem lo_dictionary (B : LB p l s m meth c b Ls xs D tys ca ad0) {N : Nat → Nat} {I : Nat → Int32} {L : Nat → Int64} {T : Nat → Nat → Int32} {U : Nat → Nat → Int64} {J : Nat → Int32} {S : Nat → Nat → Int32} {K : Nat → Int64} {f : Nat → Int64} (hz : RZ N I T U J S) {k nc ns : Nat} (h0 : ¬ (Int32.ofNat Ls - 4 < nI (4 * k))) (hi : ¬ (nI (4 * k) < 0 ∨ Ls ≤ (nI (4 * k)).toNatClampNeg)) (g1 : ¬ (nI (4 * k) + 1 < 0 ∨ Ls ≤ (nI (4 * k) + 1).toNatClampNeg)) (g2 : ¬ (nI (4 * k) + 2 < 0 ∨ Ls ≤ (nI (4 * k) + 2).toNatClampNeg)) (g3 : ¬ (nI (4 * k) + 3 < 0 ∨ Ls ≤ (nI (4 * k) + 3).toNatClampNeg)) (hc : Nat.ble (nc + 1) 1095 = true) (hs : Nat.ble (ns + 6) 42951 = true) (nx : ∀ (N : Nat → Nat) (I : Nat → Int32) (L : Nat → Int64) (T : Nat → Nat → Int32) (U : Nat → Nat → Int64) (J : Nat → Int32) (S : Nat → Nat → Int32) (K : Nat → Int64) (f : Nat → Int64) (n1 n2 : Nat), RZ N I T U J S → n1 ≤ nc + 1 → n2 ≤ ns + 6 → rx_G p l e room_1 s m #[Value.ref b] below meth c (lw_Z below #[Value.ref b] s) 7 D vwCl ca (fun q => s.heap.size ≤ q) ad0 0 1095 42951 23 (LSw (nI (4 * k) + 4)) [] (wl I L T U J S K f) n1 n2) (hv : rx_tsw (xs (nI (4 * k)).toNatClampNeg &&& 15) 701 0 [57, 126, 182, 193, 249, 317, 385, 441, 521, 589, 645] = 441) : rx_G p l e room_1 s m #[Value.ref b] below meth c (lw_Z below #[Value.ref b] s) 7 D vwCl ca (fun q => s.heap.size ≤ q) ad0 0 1095 42951 23 (LSw (nI (4 * k))) [] (wl I L T U J S K f) nc ns := by
  have hl : l.stackTraces = false := B.2.2.2.2.2.2.2.2.2.2.2.2.2.2.1
  rcases jz_dictionary (L := L) (K := K) hz (xs (nI (4 * k) + 1).toNatClampNeg) (xs (nI (4 * k) + 2).toNatClampNeg) (xs (nI (4 * k) + 3).toNatClampNeg) with ⟨r, hC, hM⟩ | ⟨hx, hm⟩ | ⟨hx, hm⟩
  · have j0 : uI J 0 0 0 = 0 := uI_at _ _ _
    exact law_round B (cc_dictionary B (mw_dictionary_0 l)) cdl_dictionary_ok (rn_dictionary (f2 := vp_updL f 0 _) h0 hi hv g1 g2 g3 hc hs vp_updL_at j0 (wn_dictionary hC) (lR_eq hM rfl rfl (fun _ _ => rfl)) (lR_eq t_thr rfl rfl (fun _ _ => rfl))) (nx _ _ _ _ _ _ _ _ _ _ _ (RZ_0 (L := L) (K := K) hz) (by omega) (by omega))
  · skip
    exact law_round B (cc_dictionary B (mw_dictionary_1 l hl)) cdl_dictionary_ok (rt_dictionary (k := 1) h0 hi hv g1 g2 g3 hc hs (by decide) (uI_at _ _ _) (wx_dictionary_1 (I' := I) (L' := L) (T' := T) (U' := U) (x_dic1 hx)) (lR_eq hm rfl rfl (fun _ _ => rfl)) (lR_eq t_thr rfl rfl (fun _ _ => rfl))) (nx _ _ _ _ _ _ _ _ _ _ _ (RZ_0 (L := L) (K := K) hz) (by omega) (by omega))
  · skip
    exact law_round B (cc_dictionary B (mw_dictionary_2 l hl)) cdl_dictionary_ok (rt_dictionary (k := 2) h0 hi hv g1 g2 g3 hc hs (by decide) (uI_at _ _ _) (wx_dictionary_2 (I' := I) (L' := L) (T' := T) (U' := U) (x_dic2 hx)) (lR_eq hm rfl rfl (fun _ _ => rfl)) (lR_eq t_thr rfl rfl (fun _ _ => rfl))) (nx _ _ _ _ _ _ _ _ _ _ _ (RZ_0 (L := L) (K := K) hz) (by omega) (by omega))

theorem lo_name (B : LB p l s m meth c b Ls xs D tys ca ad0) {N : Nat → Nat} {I : Nat → Int32} {L : Nat → Int64} {T : Nat → Nat → Int32} {U : Nat → Nat → Int64} {J : Nat → Int32} {S : Nat → Nat → Int32} {K : Nat → Int64} {f : Nat → Int64} (hz : RZ N I T U J S) {k nc ns : Nat} (h0 : ¬ (Int32.ofNat Ls - 4 < nI (4 * k))) (hi : ¬ (nI (4 * k) < 0 ∨ Ls ≤ (nI (4 * k)).toNatClampNeg)) (g1 : ¬ (nI (4 * k) + 1 < 0 ∨ Ls ≤ (nI (4 * k) + 1).toNatClampNeg)) (g2 : ¬ (nI (4 * k) + 2 < 0 ∨ Ls ≤ (nI (4 * k) + 2).toNatClampNeg)) (g3 : ¬ (nI (4 * k) + 3 < 0 ∨ Ls ≤ (nI (4 * k) + 3).toNatClampNeg)) (hc : Nat.ble (nc + 1) 1095 = true) (hs : Nat.ble (ns + 6) 42951 = true) (nx : ∀ (N : Nat → Nat) (I : Nat → Int32) (L : Nat → Int64) (T : Nat → Nat → Int32) (U : Nat → Nat → Int64) (J : Nat → Int32) (S : Nat → Nat → Int32) (K : Nat → Int64) (f : Nat → Int64) (n1 n2 : Nat), RZ N I T U J S → n1 ≤ nc + 1 → n2 ≤ ns + 6 → rx_G p l e room_1 s m #[Value.ref b] below meth c (lw_Z below #[Value.ref b] s) 7 D vwCl ca (fun q => s.heap.size ≤ q) ad0 0 1095 42951 23 (LSw (nI (4 * k) + 4)) [] (wl I L T U J S K f) n1 n2) (hv : rx_tsw (xs (nI (4 * k)).toNatClampNeg &&& 15) 701 0 [57, 126, 182, 193, 249, 317, 385, 441, 521, 589, 645] = 521) : rx_G p l e room_1 s m #[Value.ref b] below meth c (lw_Z below #[Value.ref b] s) 7 D vwCl ca (fun q => s.heap.size ≤ q) ad0 0 1095 42951 23 (LSw (nI (4 * k))) [] (wl I L T U J S K f) nc ns := by
  have hl : l.stackTraces = false := B.2.2.2.2.2.2.2.2.2.2.2.2.2.2.1
  rcases jz_name (L := L) (K := K) hz (xs (nI (4 * k) + 1).toNatClampNeg) (xs (nI (4 * k) + 2).toNatClampNeg) with ⟨r, hC, hM⟩ | ⟨hx, hm⟩
  · have j0 : uI J 0 0 0 = 0 := uI_at _ _ _
    exact law_round B (cc_name B (mw_name_0 l)) cdl_name_ok (rn_name (f2 := vp_updL f 0 _) h0 hi hv g1 g2 hc hs vp_updL_at j0 (wn_name hC) (lR_eq hM rfl rfl (fun _ _ => rfl)) (lR_eq t_thr rfl rfl (fun _ _ => rfl))) (nx _ _ _ _ _ _ _ _ _ _ _ (RZ_0 (L := L) (K := K) hz) (by omega) (by omega))
  · skip
    exact law_round B (cc_name B (mw_name_1 l hl)) cdl_name_ok (rt_name (k := 1) h0 hi hv g1 g2 hc hs (by decide) (uI_at _ _ _) (wx_name_1 (I' := I) (L' := L) (T' := T) (U' := U) (x_name hx)) (lR_eq hm rfl rfl (fun _ _ => rfl)) (lR_eq t_thr rfl rfl (fun _ _ => rfl))) (nx _ _ _ _ _ _ _ _ _ _ _ (RZ_0 (L := L) (K := K) hz) (by omega) (by omega))

theorem lo_error (B : LB p l s m meth c b Ls xs D tys ca ad0) {N : Nat → Nat} {I : Nat → Int32} {L : Nat → Int64} {T : Nat → Nat → Int32} {U : Nat → Nat → Int64} {J : Nat → Int32} {S : Nat → Nat → Int32} {K : Nat → Int64} {f : Nat → Int64} (hz : RZ N I T U J S) {k nc ns : Nat} (h0 : ¬ (Int32.ofNat Ls - 4 < nI (4 * k))) (hi : ¬ (nI (4 * k) < 0 ∨ Ls ≤ (nI (4 * k)).toNatClampNeg)) (g1 : ¬ (nI (4 * k) + 1 < 0 ∨ Ls ≤ (nI (4 * k) + 1).toNatClampNeg)) (g2 : ¬ (nI (4 * k) + 2 < 0 ∨ Ls ≤ (nI (4 * k) + 2).toNatClampNeg)) (g3 : ¬ (nI (4 * k) + 3 < 0 ∨ Ls ≤ (nI (4 * k) + 3).toNatClampNeg)) (hc : Nat.ble (nc + 1) 1095 = true) (hs : Nat.ble (ns + 6) 42951 = true) (nx : ∀ (N : Nat → Nat) (I : Nat → Int32) (L : Nat → Int64) (T : Nat → Nat → Int32) (U : Nat → Nat → Int64) (J : Nat → Int32) (S : Nat → Nat → Int32) (K : Nat → Int64) (f : Nat → Int64) (n1 n2 : Nat), RZ N I T U J S → n1 ≤ nc + 1 → n2 ≤ ns + 6 → rx_G p l e room_1 s m #[Value.ref b] below meth c (lw_Z below #[Value.ref b] s) 7 D vwCl ca (fun q => s.heap.size ≤ q) ad0 0 1095 42951 23 (LSw (nI (4 * k) + 4)) [] (wl I L T U J S K f) n1 n2) (hv : rx_tsw (xs (nI (4 * k)).toNatClampNeg &&& 15) 701 0 [57, 126, 182, 193, 249, 317, 385, 441, 521, 589, 645] = 589) : rx_G p l e room_1 s m #[Value.ref b] below meth c (lw_Z below #[Value.ref b] s) 7 D vwCl ca (fun q => s.heap.size ≤ q) ad0 0 1095 42951 23 (LSw (nI (4 * k))) [] (wl I L T U J S K f) nc ns := by
  have hl : l.stackTraces = false := B.2.2.2.2.2.2.2.2.2.2.2.2.2.2.1
  rcases jz_error (L := L) (K := K) hz (xs (nI (4 * k) + 1).toNatClampNeg) with ⟨r, hC, hM⟩ | ⟨hx, hm⟩
  · have j0 : uI J 0 0 0 = 0 := uI_at _ _ _
    exact law_round B (cc_error B (mw_error_0 l)) cdl_error_ok (rn_error (f2 := vp_updL f 0 _) h0 hi hv g1 hc hs vp_updL_at j0 (wn_error hC) (lR_eq hM rfl rfl (fun _ _ => rfl)) (lR_eq t_thr rfl rfl (fun _ _ => rfl))) (nx _ _ _ _ _ _ _ _ _ _ _ (RZ_0 (L := L) (K := K) hz) (by omega) (by omega))
  · skip
    exact law_round B (cc_error B (mw_error_1 l hl)) cdl_error_ok (rt_error (k := 1) h0 hi hv g1 hc hs (by decide) (uI_at _ _ _) (wx_error_1 (I' := I) (L' := L) (T' := T) (U' := U) (x_error hx)) (lR_eq hm rfl rfl (fun _ _ => rfl)) (lR_eq t_thr rfl rfl (fun _ _ => rfl))) (nx _ _ _ _ _ _ _ _ _ _ _ (RZ_0 (L := L) (K := K) hz) (by omega) (by omega))

theorem lo_out (B : LB p l s m meth c b Ls xs D tys ca ad0) {N : Nat → Nat} {I : Nat → Int32} {L : Nat → Int64} {T : Nat → Nat → Int32} {U : Nat → Nat → Int64} {J : Nat → Int32} {S : Nat → Nat → Int32} {K : Nat → Int64} {f : Nat → Int64} (hz : RZ N I T U J S) {k nc ns : Nat} (h0 : ¬ (Int32.ofNat Ls - 4 < nI (4 * k))) (hi : ¬ (nI (4 * k) < 0 ∨ Ls ≤ (nI (4 * k)).toNatClampNeg)) (g1 : ¬ (nI (4 * k) + 1 < 0 ∨ Ls ≤ (nI (4 * k) + 1).toNatClampNeg)) (g2 : ¬ (nI (4 * k) + 2 < 0 ∨ Ls ≤ (nI (4 * k) + 2).toNatClampNeg)) (g3 : ¬ (nI (4 * k) + 3 < 0 ∨ Ls ≤ (nI (4 * k) + 3).toNatClampNeg)) (hc : Nat.ble (nc + 1) 1095 = true) (hs : Nat.ble (ns + 6) 42951 = true) (nx : ∀ (N : Nat → Nat) (I : Nat → Int32) (L : Nat → Int64) (T : Nat → Nat → Int32) (U : Nat → Nat → Int64) (J : Nat → Int32) (S : Nat → Nat → Int32) (K : Nat → Int64) (f : Nat → Int64) (n1 n2 : Nat), RZ N I T U J S → n1 ≤ nc + 1 → n2 ≤ ns + 6 → rx_G p l e room_1 s m #[Value.ref b] below meth c (lw_Z below #[Value.ref b] s) 7 D vwCl ca (fun q => s.heap.size ≤ q) ad0 0 1095 42951 23 (LSw (nI (4 * k) + 4)) [] (wl I L T U J S K f) n1 n2) (hv : rx_tsw (xs (nI (4 * k)).toNatClampNeg &&& 15) 701 0 [57, 126, 182, 193, 249, 317, 385, 441, 521, 589, 645] = 645) : rx_G p l e room_1 s m #[Value.ref b] below meth c (lw_Z below #[Value.ref b] s) 7 D vwCl ca (fun q => s.heap.size ≤ q) ad0 0 1095 42951 23 (LSw (nI (4 * k))) [] (wl I L T U J S K f) nc ns := by
  have hl : l.stackTraces = false := B.2.2.2.2.2.2.2.2.2.2.2.2.2.2.1
  rcases jz_out (L := L) (K := K) hz (xs (nI (4 * k) + 1).toNatClampNeg) with ⟨r, hC, hM⟩ | ⟨hx, hm⟩
  · have j0 : uI J 0 0 0 = 0 := uI_at _ _ _
    exact law_round B (cc_out B (mw_out_0 l)) cdl_out_ok (rn_out (f2 := vp_updL f 0 _) h0 hi hv g1 hc hs vp_updL_at j0 (wn_out hC) (lR_eq hM rfl rfl (fun _ _ => rfl)) (lR_eq t_thr rfl rfl (fun _ _ => rfl))) (nx _ _ _ _ _ _ _ _ _ _ _ (RZ_0 (L := L) (K := K) hz) (by omega) (by omega))
  · skip
    exact law_round B (cc_out B (mw_out_1 l hl)) cdl_out_ok (rt_out (k := 1) h0 hi hv g1 hc hs (by decide) (uI_at _ _ _) (wx_out_1 (I' := I) (L' := L) (T' := T) (U' := U) (x_out hx)) (lR_eq hm rfl rfl (fun _ _ => rfl)) (lR_eq t_thr rfl rfl (fun _ _ => rfl))) (nx _ _ _ _ _ _ _ _ _ _ _ (RZ_0 (L := L) (K := K) hz) (by omega) (by omega))

theorem and15 (x : Int32) : ∃ w, w < 16 ∧ x &&& 15 = nI w := by
  refine ⟨vN (x &&& 15), ?_, (nI_vN _).symm⟩
  show (x.toBitVec &&& 15#32).toNat < 16
  rw [BitVec.toNat_and]
  exact Nat.and_lt_two_pow _ (n := 4) (by decide)
theorem rg_ok {Ls k j : Nat} (h : 4 * k + j < Ls) (hL : Ls ≤ 2048) : ¬ (nI (4 * k) + nI j < 0 ∨ Ls ≤ (nI (4 * k) + nI j).toNatClampNeg) := by
  rw [nI_add, nI_clamp (by omega)]
  rintro (h1 | h1)
  · exact nI_n0 (by omega) h1
  · omega
theorem rg_end {Ls k : Nat} (hL : Ls ≤ 2048) (hk : k = 0 ∨ 4 * k ≤ Ls) (h : Ls < 4 * k + 4) : Int32.ofNat Ls - 4 < nI (4 * k) := by
  by_cases h4 : 4 ≤ Ls
  · rw [show Int32.ofNat Ls - 4 = nI (Ls - 4) from pk_sub (b := 4) h4, nI_ltI (by omega) (by omega)]
    omega
  · obtain rfl : k = 0 := by omega
    rcases (show Ls = 0 ∨ Ls = 1 ∨ Ls = 2 ∨ Ls = 3 by omega) with rfl | rfl | rfl | rfl <;> decide
theorem rg_no {Ls k : Nat} (hL : Ls ≤ 2048) (h : ¬ Ls < 4 * k + 4) : ¬ Int32.ofNat Ls - 4 < nI (4 * k) := by
  rw [show Int32.ofNat Ls - 4 = nI (Ls - 4) from pk_sub (b := 4) (by omega), nI_ltI (by omega) (by omega)]
  omega
theorem law_loop (B : LB p l s m meth c b Ls xs D tys ca ad0) : ∀ (d k : Nat) (N : Nat → Nat) (I : Nat → Int32) (L : Nat → Int64) (T : Nat → Nat → Int32) (U : Nat → Nat → Int64) (J : Nat → Int32) (S : Nat → Nat → Int32) (K : Nat → Int64) (f : Nat → Int64) (nc ns : Nat), k + d = 512 → (k = 0 ∨ 4 * k ≤ Ls) → RZ N I T U J S → nc ≤ 59 + k → ns ≤ 34687 + 6 * k → rx_G p l e room_1 s m #[Value.ref b] below meth c (lw_Z below #[Value.ref b] s) 7 D vwCl ca (fun q => s.heap.size ≤ q) ad0 0 1095 42951 23 (LSw (nI (4 * k))) [] (wl I L T U J S K f) nc ns := by
  intro d
  induction d with
  | zero =>
    intro k N I L T U J S K f nc ns hd hk hz hnc hns
    exact law_end B (rg_end B.2.2.2.2.2.2.2.2.2.2.2.2.2.2.2 hk (by have hL : Ls ≤ 2048 := B.2.2.2.2.2.2.2.2.2.2.2.2.2.2.2; omega))
  | succ d ih =>
    intro k N I L T U J S K f nc ns hd hk hz hnc hns
    have hL : Ls ≤ 2048 := B.2.2.2.2.2.2.2.2.2.2.2.2.2.2.2
    by_cases hlt : Ls < 4 * k + 4
    · exact law_end B (rg_end hL hk hlt)
    · have h0 := rg_no hL hlt
      have hi : ¬ (nI (4 * k) < 0 ∨ Ls ≤ (nI (4 * k)).toNatClampNeg) := by
        rw [nI_clamp (by omega)]
        rintro (h1 | h1)
        · exact nI_n0 (by omega) h1
        · omega
      have g1 : ¬ (nI (4 * k) + 1 < 0 ∨ Ls ≤ (nI (4 * k) + 1).toNatClampNeg) := rg_ok (j := 1) (by omega) hL
      have g2 : ¬ (nI (4 * k) + 2 < 0 ∨ Ls ≤ (nI (4 * k) + 2).toNatClampNeg) := rg_ok (j := 2) (by omega) hL
      have g3 : ¬ (nI (4 * k) + 3 < 0 ∨ Ls ≤ (nI (4 * k) + 3).toNatClampNeg) := rg_ok (j := 3) (by omega) hL
      have hc : Nat.ble (nc + 1) 1095 = true := Nat.ble_eq_true_of_le (by omega)
      have hs : Nat.ble (ns + 6) 42951 = true := Nat.ble_eq_true_of_le (by omega)
      have nx : ∀ (N : Nat → Nat) (I : Nat → Int32) (L : Nat → Int64) (T : Nat → Nat → Int32) (U : Nat → Nat → Int64) (J : Nat → Int32) (S : Nat → Nat → Int32) (K : Nat → Int64) (f : Nat → Int64) (n1 n2 : Nat), RZ N I T U J S → n1 ≤ nc + 1 → n2 ≤ ns + 6 → rx_G p l e room_1 s m #[Value.ref b] below meth c (lw_Z below #[Value.ref b] s) 7 D vwCl ca (fun q => s.heap.size ≤ q) ad0 0 1095 42951 23 (LSw (nI (4 * k) + 4)) [] (wl I L T U J S K f) n1 n2 := by
        intro N I L T U J S K f n1 n2 hz h1 h2
        have e : nI (4 * k) + 4 = nI (4 * (k + 1)) := nI_add (4 * k) 4
        rw [e]
        exact ih (k + 1) N I L T U J S K f n1 n2 (by omega) (Or.inr (by omega)) hz (by omega) (by omega)
      obtain ⟨w, h16, hw⟩ := and15 (xs (nI (4 * k)).toNatClampNeg)
      rcases (show w = 0 ∨ w = 1 ∨ w = 2 ∨ w = 3 ∨ w = 4 ∨ w = 5 ∨ w = 6 ∨ w = 7 ∨ w = 8 ∨ w = 9 ∨ w = 10 ∨ w = 11 ∨ w = 12 ∨ w = 13 ∨ w = 14 ∨ w = 15 by omega) with rfl | rfl | rfl | rfl | rfl | rfl | rfl | rfl | rfl | rfl | rfl | rfl | rfl | rfl | rfl | rfl
      · exact lo_type B hz h0 hi g1 g2 g3 hc hs nx (by rw [hw]; decide)
      · exact lo_run B hz h0 hi g1 g2 g3 hc hs nx (by rw [hw]; decide)
      · exact lo_reset B hz h0 hi g1 g2 g3 hc hs nx (by rw [hw]; decide)
      · exact lo_count B hz h0 hi g1 g2 g3 hc hs nx (by rw [hw]; decide)
      · exact lo_at B hz h0 hi g1 g2 g3 hc hs nx (by rw [hw]; decide)
      · exact lo_value B hz h0 hi g1 g2 g3 hc hs nx (by rw [hw]; decide)
      · exact lo_octet B hz h0 hi g1 g2 g3 hc hs nx (by rw [hw]; decide)
      · exact lo_dictionary B hz h0 hi g1 g2 g3 hc hs nx (by rw [hw]; decide)
      · exact lo_name B hz h0 hi g1 g2 g3 hc hs nx (by rw [hw]; decide)
      · exact lo_error B hz h0 hi g1 g2 g3 hc hs nx (by rw [hw]; decide)
      · exact lo_out B hz h0 hi g1 g2 g3 hc hs nx (by rw [hw]; decide)
      · exact lo_none B hz h0 hi g1 g2 g3 hc hs nx (by rw [hw]; decide)
      · exact lo_none B hz h0 hi g1 g2 g3 hc hs nx (by rw [hw]; decide)
      · exact lo_none B hz h0 hi g1 g2 g3 hc hs nx (by rw [hw]; decide)
      · exact lo_none B hz h0 hi g1 g2 g3 hc hs nx (by rw [hw]; decide)
      · exact lo_none B hz h0 hi g1 g2 g3 hc hs nx (by rw [hw]; decide)
def cdl_ini : List (Nat × List (Instr × Nat)) := [(0, [(.new 8, 3), (.dup, 1), (.invokespecial 43, 3), (.astore_n 1, 1), (.new 44, 3), (.dup, 1), (.invokespecial 46, 3), (.astore_n 2, 1), (.iconst 1, 1), (.newarray .long, 2), (.astore_n 3, 1), (.iconst 0, 1), (.istore 4, 2)])]
theorem cdl_ini_ok : cdl_ini.all (fun q => rx_dec code 7 q.1 q.2) = true := by decide +kernel
def cfl_ini (FC FM : rx_F) : Instr → Option rx_C := rx_lkc [] [] [(43, (1, some 10, 37, 8207, FC)), (46, (1, some 11, 19, 26430, FM))]
set_option maxRecDepth 100000 in
theorem rd_ini {FC FM : rx_F} {I : Nat → Int32} {L : Nat → Int64} {T : Nat → Nat → Int32} {U : Nat → Nat → Int64} {J : Nat → Int32} {S : Nat → Nat → Int32} {K : Nat → Int64} (h1 : FC [.inr (10, [.null, .null, .null, .null, .null, .null])] [.ref 0] = some (none, wc I L T U)) (h2 : FM (wc I L T U ++ [.inr (11, nB12)]) [.ref 38] = some (none, wc I L T U ++ (wr J S K).map (rx_e shf (fun t => t)))) : RLw (cfl_ini FC FM) cdl_ini Ls xs 23 (StL 0 59 34687) 40 0 [(0, .ref 1000050)] [] [] 0 0 = some (none, wl I L T U J S K (fun _ => 0)) := ry_b h1 (ry_b h2 (ry_t ⟨rfl, rfl, rfl, rfl, rfl, rfl, rfl, rfl⟩ rfl))
set_option maxRecDepth 100000 in
set_option maxHeartbeats 4000000 in
theorem law_go (B : LB p l s m meth c b Ls xs D tys ca ad0) : rx_G p l e room_1 s m #[Value.ref b] below meth c (lw_Z below #[Value.ref b] s) 7 D vwCl ca (fun q => s.heap.size ≤ q) ad0 0 1095 42951 0 [(0, .ref 1000050)] [] [] 0 0 := by
  obtain ⟨I, L, T, U, h1, i0, i2, i3, i4, i5, i6, i7, i8, i9, i10, i14, i15, i16, b1, b2, b3, b4, b5, b6, b7, b8, hN, hD⟩ := i11
  obtain ⟨J, S, K, h2, j0, j1, j4, j5, j6, j7, j8, j10, j11, j12, j13, j15, s1, s2, s3, s4, s5, s6, hM, hK⟩ := i12
  have hR : RZ N83 I T U J S := by
    refine ⟨R_83 i0 i2 i3 i4 i5 i6 i7 i8 b1 b2 b3 b4 b5 b6 b7 b8 hN.2 (fun i j hi hj => ?_) hD j4 j5 j6 j7 j8 j10 j11 s1 s2 s3 s4 s5 s6 hM hK, ⟨i15.trans j12.symm, i16.trans j13.symm⟩, ⟨0, i14, j15⟩, i10, 0, by decide, i9, j1, fun i hi => absurd hi (by omega)⟩
    obtain ⟨c1, c2, c3⟩ := hN.2 j hj
    exact NS_ne (I := fun _ => nI j) (j := j) ⟨rfl, fun i hi => hN.2 i (by omega)⟩ hj c2 c3 c1 i hi
  have hA := law_A12 (F := f_X12_init) (I := I) (L := L) (T := T) (U := U) h2
  refine law_run B (lkc_P rx_n0 rx_n0 (rx_n1 (law_co B (rx_caI 0 (m_X11_init l) w_X11_init_c w_X11_init_n (rx_in 219 (by decide +kernel) rfl) w_X11_init_i rfl w_X11_init_d (by decide) 10)) (rx_n1 (law_co B (rx_caI 0 (rx_M.liftA (m_X12_init l)) w_X12_init_c w_X12_init_n (rx_in 1606 (by decide +kernel) rfl) w_X12_init_i rfl w_X12_init_d (by decide) 11)) rx_n0))) cdl_ini_ok (fun _ _ _ _ _ _ _ h _ => (rx_ret_b h).elim) (fun ls st vh9 nc9 ns9 e9 hS => ?_) 40 0 _ [] [] 0 0 (rd_ini (FC := f_X11_init) (FM := lfA f_X12_init) h1 hA)
  obtain ⟨rfl, rfl, rfl, k4, k3, k2, k1, k0⟩ := hS
  cases e9
  exact law_can (law_loop B 512 0 N83 I L T U J S K (fun _ => 0) 59 34687 rfl (Or.inl rfl) hR (by decide) (by decide)) k4 k3 k2 k1 k0
end LAWL
theorem whole_go {p : Program} {e : Env} {s : State} {m : MethodId} {below : List Frame} {meth : Method} {c : Code} (l : Launch) (hl : l.stackTraces = false) {b L : Nat} {xs : Nat → Int32} (hL : L ≤ 2048) (C0 : lw_At p s m meth c b L xs) : W p l e room_1 s m #[Value.ref b] below meth c s.heap [] 0 0 (lw_Z below #[Value.ref b] s) (entryFrame m ([Value.ref b] : List Value).toArray 7) := by
  obtain ⟨hx, hb, hr, hml, hown, hts, hX, hbl, hlocks, hgv⟩ := id C0
  obtain ⟨ad0, had, hJ⟩ := law_J hts hgv
  obtain ⟨D, tys, ca, hK, hty⟩ := law_K hts
  have B : LB p l s m meth c b L xs D tys ca ad0 := ⟨hx, hb, hml, hown, fun w hw => hts w (List.mem_filter.mp hw).1, hK, hty, hJ, law_Z hts hgv, hX, hbl, had, hr, hlocks, hl, hL⟩
  have h0 := lv_entry ([.ref b]) (n := 7) (Nat.le_of_ble_eq_true rfl)
  rw [lg_entry_eq]
  generalize (lg_sl ([.ref b]) ++ List.replicate (7 - (lg_sl ([.ref b])).length) Slot.unset).toArray = ls at h0 ⊢
  have h0 : lv_has ls 7 [(0, .ref b)] := h0
  refine law_go (e := e) (below := below) B ad0 s.heap [] ls (fun _ _ => rfl) (fun _ => rfl) (Nat.le_refl _) (Nat.le_refl _) (Nat.zero_le _) (Nat.zero_le _) (fun k q h => by simp [rx_w] at h) ⟨fun i j p q h => by simp [rx_w] at h, fun k q h => by simp [rx_w] at h⟩ va_S.rf ?_
  show lv_has ls 7 [(0, .ref (ad0 1000050))]
  rw [had]
  exact h0
