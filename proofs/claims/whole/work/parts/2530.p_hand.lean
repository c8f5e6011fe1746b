def cfv_X12_handle (F_X12_operate : rx_F) (F_X12_fail : rx_F) (F_X12_follow : rx_F) (F_X12_enter : rx_F) (F_X12_put : rx_F) : Instr → Option rx_C := rx_lkc [(445, (2, some 11, 0, 0, F_X12_operate)), (423, (3, some 11, 0, 0, F_X12_fail)), (448, (1, some 11, 0, 0, F_X12_follow)), (430, (3, some 11, 0, 0, F_X12_enter)), (437, (4, some 11, 0, 0, F_X12_put))] [] []
def fv_X12_handle (F_X12_operate : rx_F) (F_X12_fail : rx_F) (F_X12_follow : rx_F) (F_X12_enter : rx_F) (F_X12_put : rx_F) : rx_F := rx_fn (rx_lkk kC_X12) (rx_lkf fL_X12) (rx_lkf fP_X12) (rx_lkg gS_X12) (rx_lkg fG_X12) (rx_lkw nW_X12) (cfv_X12_handle F_X12_operate F_X12_fail F_X12_follow F_X12_enter F_X12_put) none 0 0 5 kd_X12_handle rx_fu
theorem fv_X12_handle_eq : f_X12_handle = fv_X12_handle f_X12_operate f_X12_fail f_X12_follow f_X12_enter f_X12_put := rfl
noncomputable def z_X12_handle (F_X12_operate : rx_F) (F_X12_fail : rx_F) (F_X12_follow : rx_F) (F_X12_enter : rx_F) (F_X12_put : rx_F) : Nat → List Value → List Value → rx_H → Nat → rx_R := rz_run (rx_lkk kC_X12) (rx_lkf fL_X12) (rx_lkf fP_X12) (rx_lkg gS_X12) (rx_lkg fG_X12) (cfv_X12_handle F_X12_operate F_X12_fail F_X12_follow F_X12_enter F_X12_put) none kd_X12_handle
set_option maxRecDepth 100000 in
theorem q_X12_handle_4_2 (F_X12_operate : rx_F) (F_X12_fail : rx_F) (F_X12_follow : rx_F) (F_X12_enter : rx_F) (F_X12_put : rx_F) (I : Nat → Int32) (T : Nat → Nat → Int32) (K : Nat → Int64) (x1 : Int32) (x2 : Int32) (I_1 : Nat → Int32) (T_1 : Nat → Nat → Int32) (K_1 : Nat → Int64) (r1 : Int32) (h1 : ¬ (x2 = 0)) (h2 : ((T 16) (0 : Int32).toNatClampNeg) = 8) (h3 : F_X12_operate (wr (uI I 21 0) T K) [.ref 0, .int ((T 16) (1 : Int32).toNatClampNeg)] = some (some (.int r1), wr I_1 T_1 K_1)) (h4 : r1 ≤ 0) {rs : Option Value × rx_H} {m : Nat} (hz : z_X12_handle F_X12_operate F_X12_fail F_X12_follow F_X12_enter F_X12_put 4 [.ref 0, .int 0, .int (I_1 21), .null, .null] [] (wr I_1 T_1 K_1) m = some rs) : z_X12_handle F_X12_operate F_X12_fail F_X12_follow F_X12_enter F_X12_put 4 [.ref 0, .int x1, .int x2, .null, .null] [] (wr I T K) (m + 3) = some rs := (by
  refine ry_f h1 ?_
  refine ry_f (c := (0 : Int32) < 0 ∨ 5 ≤ (0 : Int32).toNatClampNeg) (by decide) ?_
  refine ry_t h2 ?_
  refine ry_f (c := (1 : Int32) < 0 ∨ 5 ≤ (1 : Int32).toNatClampNeg) (by decide) ?_
  refine ry_t (c := (0 : Int32) = 0 ∨ (0 : Int32) = 1) (by decide) ?_
  refine ry_b h3 ?_
  refine ry_t h4 ?_
  refine Eq.trans (b := z_X12_handle F_X12_operate F_X12_fail F_X12_follow F_X12_enter F_X12_put 4 [.ref 0, .int 0, .int (I_1 21), .int ((T 16) (1 : Int32).toNatClampNeg), .int r1] [] (wr I_1 T_1 K_1) m) rfl ?_
  exact rz_fg (a := [.ref 0, .int 0, .int (I_1 21), .int ((T 16) (1 : Int32).toNatClampNeg), .int r1]) [3, 4] (Nat.le_refl _) hz)
set_option maxRecDepth 100000 in
theorem q_X12_handle_4_10 (F_X12_operate : rx_F) (F_X12_fail : rx_F) (F_X12_follow : rx_F) (F_X12_enter : rx_F) (F_X12_put : rx_F) (I : Nat → Int32) (T : Nat → Nat → Int32) (K : Nat → Int64) (x1 : Int32) (x2 : Int32) (h1 : x2 = 0) {m : Nat} : z_X12_handle F_X12_operate F_X12_fail F_X12_follow F_X12_enter F_X12_put 4 [.ref 0, .int x1, .int x2, .null, .null] [] (wr I T K) (m + 2) = some (none, wr I T K) := (ry_t h1 rfl)
set_option maxRecDepth 100000 in
theorem q_X12_handle_4_1 (F_X12_operate : rx_F) (F_X12_fail : rx_F) (F_X12_follow : rx_F) (F_X12_enter : rx_F) (F_X12_put : rx_F) (I : Nat → Int32) (T : Nat → Nat → Int32) (K : Nat → Int64) (x1 : Int32) (x2 : Int32) (I_1 : Nat → Int32) (T_1 : Nat → Nat → Int32) (K_1 : Nat → Int64) (r1 : Int32) (I_2 : Nat → Int32) (T_2 : Nat → Nat → Int32) (K_2 : Nat → Int64) (h1 : ¬ (x2 = 0)) (h2 : ((T 16) (0 : Int32).toNatClampNeg) = 8) (h3 : F_X12_operate (wr (uI I 21 0) T K) [.ref 0, .int ((T 16) (1 : Int32).toNatClampNeg)] = some (some (.int r1), wr I_1 T_1 K_1)) (h4 : ¬ (r1 ≤ 0)) (h5 : F_X12_fail (wr I_1 T_1 K_1) [.ref 0, .int r1, .int ((T 16) (1 : Int32).toNatClampNeg)] = some (none, wr I_2 T_2 K_2)) {rs : Option Value × rx_H} {m : Nat} (hz : z_X12_handle F_X12_operate F_X12_fail F_X12_follow F_X12_enter F_X12_put 4 [.ref 0, .int x1, .int 0, .null, .null] [] (wr I_2 T_2 K_2) m = some rs) : z_X12_handle F_X12_operate F_X12_fail F_X12_follow F_X12_enter F_X12_put 4 [.ref 0, .int x1, .int x2, .null, .null] [] (wr I T K) (m + 2) = some rs := (by
  refine ry_f h1 ?_
  refine ry_f (c := (0 : Int32) < 0 ∨ 5 ≤ (0 : Int32).toNatClampNeg) (by decide) ?_
  refine ry_t h2 ?_
  refine ry_f (c := (1 : Int32) < 0 ∨ 5 ≤ (1 : Int32).toNatClampNeg) (by decide) ?_
  refine ry_t (c := (0 : Int32) = 0 ∨ (0 : Int32) = 1) (by decide) ?_
  refine ry_b h3 ?_
  refine ry_f h4 ?_
  refine ry_b h5 ?_
  refine Eq.trans (b := z_X12_handle F_X12_operate F_X12_fail F_X12_follow F_X12_enter F_X12_put 4 [.ref 0, .int x1, .int 0, .int ((T 16) (1 : Int32).toNatClampNeg), .int r1] [] (wr I_2 T_2 K_2) m) rfl ?_
  exact rz_fg (a := [.ref 0, .int x1, .int 0, .int ((T 16) (1 : Int32).toNatClampNeg), .int r1]) [3, 4] (Nat.le_refl _) hz)
