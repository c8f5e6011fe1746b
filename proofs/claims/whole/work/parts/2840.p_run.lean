def cfv_X3_begin (F_X2_begin : rx_F) : Instr → Option rx_C := rx_lkc [(86, (1, some 2, 0, 0, F_X2_begin))] [] []
def fv_X3_begin (F_X2_begin : rx_F) : rx_F := rx_fn (rx_lkk kC_X3) (rx_lkf fL_X3) (rx_lkf fP_X3) (rx_lkg gS_X3) (rx_lkg fG_X3) (rx_lkw nW_X3) (cfv_X3_begin F_X2_begin) none 0 0 2 kd_X3_begin rx_fu
theorem fv_X3_begin_eq : f_X3_begin = fv_X3_begin f_X2_begin := rfl
noncomputable def z_X3_begin (F_X2_begin : rx_F) : Nat → List Value → List Value → rx_H → Nat → rx_R := rz_run (rx_lkk kC_X3) (rx_lkf fL_X3) (rx_lkf fP_X3) (rx_lkg gS_X3) (rx_lkg fG_X3) (cfv_X3_begin F_X2_begin) none kd_X3_begin
set_option maxRecDepth 100000 in
theorem p_X3_begin_1 (F_X2_begin : rx_F) (I : Nat → Int32) (L : Nat → Int64) (T : Nat → Nat → Int32) (U : Nat → Nat → Int64) (a1 : Int32) (I_1 : Nat → Int32) (L_1 : Nat → Int64) (T_1 : Nat → Nat → Int32) (U_1 : Nat → Nat → Int64) (h1 : F_X2_begin (wc (uI (uI (uI I 14 0) 17 a1) 18 (Int32.ofInt (-1))) (uL L 3 (-1)) T U) [.ref 25] = some (none, wc I_1 L_1 T_1 U_1)) : fv_X3_begin F_X2_begin (wc I L T U) [.ref 24, .int a1] = some (none, wc I_1 L_1 T_1 U_1) := rz_en 1 (by decide) rfl (ry_b (ry_w h1 rfl) rfl)
noncomputable def z_X7_discard  : Nat → List Value → List Value → rx_H → Nat → rx_R := rz_run (rx_lkk kC_X7) (rx_lkf fL_X7) (rx_lkf fP_X7) (rx_lkg gS_X7) (rx_lkg fG_X7) cf_X7_discard none kd_X7_discard
set_option maxRecDepth 100000 in
theorem p_X7_discard_1 (I : Nat → Int32) (L : Nat → Int64) (T : Nat → Nat → Int32) (U : Nat → Nat → Int64)  : f_X7_discard (wc I L T U) [.ref 19] = some (none, wc (uI (uI I 9 0) 10 0) L T U) := rz_en 1 (by decide) rfl rfl
set_option maxRecDepth 100000 in
theorem p_X12_run_5 (F_X12_nextToken : rx_F) (F_X12_nextValue : rx_F) (F_X12_isFull : rx_F) (F_X12_fail : rx_F) (F_X12_pushBool : rx_F) (F_X12_round : rx_F) (I : Nat → Int32) (T : Nat → Nat → Int32) (K : Nat → Int64) (a1 : Int32) (h1 : a1 < 0) (h2 : ¬ ((1 : Int32) ≤ 0)) : fv_X12_run F_X12_nextToken F_X12_nextValue F_X12_isFull F_X12_fail F_X12_pushBool F_X12_round (wr I T K) [.ref 0, .int a1] = some (some (.int 0), wr (uI I 0 1) T K) := rz_en 3 (by decide) rfl (ry_t h1 (ry_f h2 rfl))
set_option maxRecDepth 100000 in
theorem p_X12_run_1 (F_X12_nextToken : rx_F) (F_X12_nextValue : rx_F) (F_X12_isFull : rx_F) (F_X12_fail : rx_F) (F_X12_pushBool : rx_F) (F_X12_round : rx_F) (I : Nat → Int32) (T : Nat → Nat → Int32) (K : Nat → Int64) (a1 : Int32) (h1 : ¬ (a1 < 0)) (h2 : ¬ (a1 ≤ (Int16.toInt32 (Int16.ofInt 1000)))) (h3 : ¬ ((1 : Int32) ≤ 0)) : fv_X12_run F_X12_nextToken F_X12_nextValue F_X12_isFull F_X12_fail F_X12_pushBool F_X12_round (wr I T K) [.ref 0, .int a1] = some (some (.int 0), wr (uI I 0 1) T K) := rz_en 3 (by decide) rfl (ry_f h1 (ry_f h2 (ry_f h3 rfl)))
set_option maxRecDepth 100000 in
theorem q_X11_run_31_2 (F_X3_begin : rx_F) (F_X3_takeTurn : rx_F) (F_X7_discard : rx_F) (I : Nat → Int32) (L : Nat → Int64) (T : Nat → Nat → Int32) (U : Nat → Nat → Int64) (x2 : Int32) (I_1 : Nat → Int32) (L_1 : Nat → Int64) (T_1 : Nat → Nat → Int32) (U_1 : Nat → Nat → Int64) (h1 : ¬ (1000000 ≤ x2)) (h2 : ¬ ((I 18) = (Int32.ofInt (-1)))) (h3 : F_X7_discard (wc I L T U) [.ref 19] = some (none, wc I_1 L_1 T_1 U_1)) {m : Nat} : z_X11_run F_X3_begin F_X3_takeTurn F_X7_discard 31 [.ref 0, .null, .int x2] [] (wc I L T U) (m + 2) = some (some (.int (I_1 18)), wc I_1 L_1 T_1 U_1) := (ry_f h1 (ry_f h2 (ry_b h3 rfl)))
set_option maxRecDepth 100000 in
theorem p_X11_run_1 (F_X3_begin : rx_F) (F_X3_takeTurn : rx_F) (F_X7_discard : rx_F) (I : Nat → Int32) (L : Nat → Int64) (T : Nat → Nat → Int32) (U : Nat → Nat → Int64) (a1 : Int32) (I_1 : Nat → Int32) (L_1 : Nat → Int64) (T_1 : Nat → Nat → Int32) (U_1 : Nat → Nat → Int64) (h1 : ¬ (a1 < 0)) (h2 : a1 ≤ (Int16.toInt32 (Int16.ofInt 1000))) (h3 : F_X3_begin (wc I L T U) [.ref 24, .int a1] = some (none, wc I_1 L_1 T_1 U_1)) {rs : Option Value × rx_H} {m : Nat} (hm : m + 2 ≤ 1000000000) (hz : z_X11_run F_X3_begin F_X3_takeTurn F_X7_discard 31 [.ref 0, .null, .int 0] [] (wc I_1 L_1 T_1 U_1) m = some rs) : fv_X11_run F_X3_begin F_X3_takeTurn F_X7_discard (wc I L T U) [.ref 0, .int a1] = some rs := rz_en (m + 2) hm rfl (by
  refine ry_f h1 ?_
  refine ry_t h2 ?_
  refine ry_b h3 ?_
  refine Eq.trans (b := z_X11_run F_X3_begin F_X3_takeTurn F_X7_discard 31 [.ref 0, .int a1, .int 0] [] (wc I_1 L_1 T_1 U_1) m) rfl ?_
  exact rz_fg (a := [.ref 0, .int a1, .int 0]) [1] (Nat.le_refl _) hz)
set_option maxRecDepth 100000 in
theorem p_X12_run_4 (F_X12_nextToken : rx_F) (F_X12_nextValue : rx_F) (F_X12_isFull : rx_F) (F_X12_fail : rx_F) (F_X12_pushBool : rx_F) (F_X12_round : rx_F) (I : Nat → Int32) (T : Nat → Nat → Int32) (K : Nat → Int64) (a1 : Int32) (h1 : ¬ (a1 < 0)) (h2 : a1 ≤ (Int16.toInt32 (Int16.ofInt 1000))) (h3 : (0 : Int32) ≤ 0) {rs : Option Value × rx_H} {m : Nat} (hm : m + 4 ≤ 1000000000) (hz : z_X12_run F_X12_nextToken F_X12_nextValue F_X12_isFull F_X12_fail F_X12_pushBool F_X12_round 74 [.ref 0, .null, .null, .null] [] (wr (uI (uI (uI (uI (uI (uI (uI (uI I 0 0) 2 (I 1)) 1 0) 3 0) 15 0) 16 a1) 17 (Int32.ofInt (-1))) 14 1) (uT T 12 (upd (T 12) (0 : Int32).toNatClampNeg 0)) K) m = some rs) : fv_X12_run F_X12_nextToken F_X12_nextValue F_X12_isFull F_X12_fail F_X12_pushBool F_X12_round (wr I T K) [.ref 0, .int a1] = some rs := rz_en (m + 4) hm rfl (by
  refine ry_f h1 ?_
  refine ry_t h2 ?_
  refine ry_t h3 ?_
  refine ry_f (c := (0 : Int32) < 0 ∨ 300 ≤ (0 : Int32).toNatClampNeg) (by decide) ?_
  refine Eq.trans (b := z_X12_run F_X12_nextToken F_X12_nextValue F_X12_isFull F_X12_fail F_X12_pushBool F_X12_round 74 [.ref 0, .int a1, .null, .null] [] (wr (uI (uI (uI (uI (uI (uI (uI (uI I 0 0) 2 (I 1)) 1 0) 3 0) 15 0) 16 a1) 17 (Int32.ofInt (-1))) 14 1) (uT T 12 (upd (T 12) (0 : Int32).toNatClampNeg 0)) K) m) rfl ?_
  exact rz_fg (a := [.ref 0, .int a1, .null, .null]) [1] (Nat.le_refl _) hz)
