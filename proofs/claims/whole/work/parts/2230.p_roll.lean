noncomputable def z_J9_floorMod_7cf53  : Nat → List Value → List Value → rx_H → Nat → rx_R := rz_run (rx_lkk kC_J9) (rx_lkf fL_J9) (rx_lkf fP_J9) (rx_lkg gS_J9) (rx_lkg fG_J9) cf_J9_floorMod_7cf53 (some .int) kd_J9_floorMod_7cf53
set_option maxRecDepth 100000 in
theorem p_J9_floorMod_7cf53_1 (I : Nat → Int32) (L : Nat → Int64) (T : Nat → Nat → Int32) (U : Nat → Nat → Int64) (a1 : Int32) (a2 : Int32) (h1 : ¬ a2 = 0) (h2 : ¬ (0 ≤ (a1 ^^^ a2))) (h3 : ¬ ((a1 - a1 / a2 * a2) = 0)) : f_J9_floorMod_7cf53 (wc I L T U) [.int a1, .int a2] = some (some (.int ((a1 - a1 / a2 * a2) + a2)), wc I L T U) := rz_en 1 (by decide) rfl (ry_f h1 (ry_f h2 (ry_f h3 rfl)))
set_option maxRecDepth 100000 in
theorem p_J9_floorMod_7cf53_2 (I : Nat → Int32) (L : Nat → Int64) (T : Nat → Nat → Int32) (U : Nat → Nat → Int64) (a1 : Int32) (a2 : Int32) (h1 : ¬ a2 = 0) (h2 : ¬ (0 ≤ (a1 ^^^ a2))) (h3 : (a1 - a1 / a2 * a2) = 0) : f_J9_floorMod_7cf53 (wc I L T U) [.int a1, .int a2] = some (some (.int (a1 - a1 / a2 * a2)), wc I L T U) := rz_en 2 (by decide) rfl (ry_f h1 (ry_f h2 (ry_t h3 rfl)))
set_option maxRecDepth 100000 in
theorem p_J9_floorMod_7cf53_3 (I : Nat → Int32) (L : Nat → Int64) (T : Nat → Nat → Int32) (U : Nat → Nat → Int64) (a1 : Int32) (a2 : Int32) (h1 : ¬ a2 = 0) (h2 : 0 ≤ (a1 ^^^ a2)) : f_J9_floorMod_7cf53 (wc I L T U) [.int a1, .int a2] = some (some (.int (a1 - a1 / a2 * a2)), wc I L T U) := rz_en 2 (by decide) rfl (ry_f h1 (ry_t h2 rfl))
def cfv_X5_roll (F_J9_floorMod_7cf53 : rx_F) : Instr → Option rx_C := rx_lkc [] [(32, (2, none, 0, 0, F_J9_floorMod_7cf53))] []
def fv_X5_roll (F_J9_floorMod_7cf53 : rx_F) : rx_F := rx_fn (rx_lkk kC_X5) (rx_lkf fL_X5) (rx_lkf fP_X5) (rx_lkg gS_X5) (rx_lkg fG_X5) (rx_lkw nW_X5) (cfv_X5_roll F_J9_floorMod_7cf53) none 0 0 7 kd_X5_roll rx_fu
theorem fv_X5_roll_eq : f_X5_roll = fv_X5_roll f_J9_floorMod_7cf53 := rfl
noncomputable def z_X5_roll (F_J9_floorMod_7cf53 : rx_F) : Nat → List Value → List Value → rx_H → Nat → rx_R := rz_run (rx_lkk kC_X5) (rx_lkf fL_X5) (rx_lkf fP_X5) (rx_lkg gS_X5) (rx_lkg fG_X5) (cfv_X5_roll F_J9_floorMod_7cf53) none kd_X5_roll
set_option maxRecDepth 100000 in
theorem q_X5_roll_39_1 (F_J9_floorMod_7cf53 : rx_F) (I : Nat → Int32) (L : Nat → Int64) (T : Nat → Nat → Int32) (U : Nat → Nat → Int64) (x1 : Int32) (x3 : Int32) (x4 : Int32) (x5 : Int32) (h1 : ¬ (x1 ≤ x5)) (h2 : ¬ (x1 ≤ (x5 + x4))) (h3 : ¬ ((x3 + x5) < 0 ∨ 60 ≤ ((x3 + x5) : Int32).toNatClampNeg)) (h4 : ¬ ((x5 + x4) < 0 ∨ 60 ≤ ((x5 + x4) : Int32).toNatClampNeg)) {rs : Option Value × rx_H} {m : Nat} (hz : z_X5_roll F_J9_floorMod_7cf53 39 [.ref 16, .int x1, .null, .int x3, .int x4, .int (x5 + 1), .null] [] (wc I L T (uU U 6 (vp_updL (U 6) ((x5 + x4) : Int32).toNatClampNeg ((U 5) ((x3 + x5) : Int32).toNatClampNeg)))) m = some rs) : z_X5_roll F_J9_floorMod_7cf53 39 [.ref 16, .int x1, .null, .int x3, .int x4, .int x5, .null] [] (wc I L T U) (m + 2) = some rs := (by
  refine ry_f h1 ?_
  refine ry_f h2 ?_
  refine ry_f h3 ?_
  refine ry_f h4 ?_
  refine Eq.trans (b := z_X5_roll F_J9_floorMod_7cf53 39 [.ref 16, .int x1, .null, .int x3, .int x4, .int (x5 + 1), .int (x5 + x4)] [] (wc I L T (uU U 6 (vp_updL (U 6) ((x5 + x4) : Int32).toNatClampNeg ((U 5) ((x3 + x5) : Int32).toNatClampNeg)))) m) rfl ?_
  exact rz_fg (a := [.ref 16, .int x1, .null, .int x3, .int x4, .int (x5 + 1), .int (x5 + x4)]) [6] (Nat.le_refl _) hz)
set_option maxRecDepth 100000 in
theorem q_X5_roll_39_2 (F_J9_floorMod_7cf53 : rx_F) (I : Nat → Int32) (L : Nat → Int64) (T : Nat → Nat → Int32) (U : Nat → Nat → Int64) (x1 : Int32) (x3 : Int32) (x4 : Int32) (x5 : Int32) (h1 : ¬ (x1 ≤ x5)) (h2 : x1 ≤ (x5 + x4)) (h3 : ¬ ((x3 + x5) < 0 ∨ 60 ≤ ((x3 + x5) : Int32).toNatClampNeg)) (h4 : ¬ (((x5 + x4) - x1) < 0 ∨ 60 ≤ (((x5 + x4) - x1) : Int32).toNatClampNeg)) {rs : Option Value × rx_H} {m : Nat} (hz : z_X5_roll F_J9_floorMod_7cf53 39 [.ref 16, .int x1, .null, .int x3, .int x4, .int (x5 + 1), .null] [] (wc I L T (uU U 6 (vp_updL (U 6) (((x5 + x4) - x1) : Int32).toNatClampNeg ((U 5) ((x3 + x5) : Int32).toNatClampNeg)))) m = some rs) : z_X5_roll F_J9_floorMod_7cf53 39 [.ref 16, .int x1, .null, .int x3, .int x4, .int x5, .null] [] (wc I L T U) (m + 3) = some rs := (by
  refine ry_f h1 ?_
  refine ry_t h2 ?_
  refine ry_f h3 ?_
  refine ry_f h4 ?_
  refine Eq.trans (b := z_X5_roll F_J9_floorMod_7cf53 39 [.ref 16, .int x1, .null, .int x3, .int x4, .int (x5 + 1), .int ((x5 + x4) - x1)] [] (wc I L T (uU U 6 (vp_updL (U 6) (((x5 + x4) - x1) : Int32).toNatClampNeg ((U 5) ((x3 + x5) : Int32).toNatClampNeg)))) m) rfl ?_
  exact rz_fg (a := [.ref 16, .int x1, .null, .int x3, .int x4, .int (x5 + 1), .int ((x5 + x4) - x1)]) [6] (Nat.le_refl _) hz)
set_option maxRecDepth 100000 in
theorem q_X5_roll_39_3 (F_J9_floorMod_7cf53 : rx_F) (I : Nat → Int32) (L : Nat → Int64) (T : Nat → Nat → Int32) (U : Nat → Nat → Int64) (x1 : Int32) (x3 : Int32) (x4 : Int32) (x5 : Int32) (h1 : x1 ≤ x5) {rs : Option Value × rx_H} {m : Nat} (hz : z_X5_roll F_J9_floorMod_7cf53 96 [.ref 16, .int x1, .null, .int x3, .null, .int 0, .null] [] (wc I L T U) m = some rs) : z_X5_roll F_J9_floorMod_7cf53 39 [.ref 16, .int x1, .null, .int x3, .int x4, .int x5, .null] [] (wc I L T U) (m + 2) = some rs := (by
  refine ry_t h1 ?_
  refine Eq.trans (b := z_X5_roll F_J9_floorMod_7cf53 96 [.ref 16, .int x1, .null, .int x3, .int x4, .int 0, .null] [] (wc I L T U) m) rfl ?_
  exact rz_fg (a := [.ref 16, .int x1, .null, .int x3, .int x4, .int 0, .null]) [4] (Nat.le_refl _) hz)
set_option maxRecDepth 100000 in
theorem q_X5_roll_96_1 (F_J9_floorMod_7cf53 : rx_F) (I : Nat → Int32) (L : Nat → Int64) (T : Nat → Nat → Int32) (U : Nat → Nat → Int64) (x1 : Int32) (x3 : Int32) (x5 : Int32) (h1 : ¬ (x1 ≤ x5)) (h2 : ¬ (x5 < 0 ∨ 60 ≤ (x5 : Int32).toNatClampNeg)) (h3 : ¬ ((x3 + x5) < 0 ∨ 60 ≤ ((x3 + x5) : Int32).toNatClampNeg)) {rs : Option Value × rx_H} {m : Nat} (hz : z_X5_roll F_J9_floorMod_7cf53 96 [.ref 16, .int x1, .null, .int x3, .null, .int (x5 + 1), .null] [] (wc I L T (uU U 5 (vp_updL (U 5) ((x3 + x5) : Int32).toNatClampNeg ((U 6) (x5 : Int32).toNatClampNeg)))) m = some rs) : z_X5_roll F_J9_floorMod_7cf53 96 [.ref 16, .int x1, .null, .int x3, .null, .int x5, .null] [] (wc I L T U) (m + 1) = some rs := (ry_f h1 (ry_f h2 (ry_f h3 hz)))
set_option maxRecDepth 100000 in
theorem q_X5_roll_96_2 (F_J9_floorMod_7cf53 : rx_F) (I : Nat → Int32) (L : Nat → Int64) (T : Nat → Nat → Int32) (U : Nat → Nat → Int64) (x1 : Int32) (x3 : Int32) (x5 : Int32) (h1 : x1 ≤ x5) {m : Nat} : z_X5_roll F_J9_floorMod_7cf53 96 [.ref 16, .int x1, .null, .int x3, .null, .int x5, .null] [] (wc I L T U) (m + 2) = some (none, wc I L T U) := (ry_t h1 rfl)
set_option maxRecDepth 100000 in
theorem p_X5_roll_2 (F_J9_floorMod_7cf53 : rx_F) (I : Nat → Int32) (L : Nat → Int64) (T : Nat → Nat → Int32) (U : Nat → Nat → Int64) (a1 : Int32) (a2 : Int32) (r1 : Int32) (h1 : ¬ (a1 ≤ 0)) (h2 : ¬ ((I 8) < a1)) (h3 : (I 8) ≤ 60) (h4 : F_J9_floorMod_7cf53 (wc I L T U) [.int a2, .int a1] = some (some (.int r1), wc I L T U)) {rs : Option Value × rx_H} {m : Nat} (hm : m + 2 ≤ 1000000000) (hz : z_X5_roll F_J9_floorMod_7cf53 39 [.ref 16, .int a1, .null, .int ((I 8) - a1), .int r1, .int 0, .null] [] (wc I L T U) m = some rs) : fv_X5_roll F_J9_floorMod_7cf53 (wc I L T U) [.ref 16, .int a1, .int a2] = some rs := rz_en (m + 2) hm rfl (by
  refine ry_f h1 ?_
  refine ry_f h2 ?_
  refine ry_t h3 ?_
  refine ry_b h4 ?_
  refine Eq.trans (b := z_X5_roll F_J9_floorMod_7cf53 39 [.ref 16, .int a1, .int a2, .int ((I 8) - a1), .int r1, .int 0, .null] [] (wc I L T U) m) rfl ?_
  exact rz_fg (a := [.ref 16, .int a1, .int a2, .int ((I 8) - a1), .int r1, .int 0, .null]) [2] (Nat.le_refl _) hz)
set_option maxRecDepth 100000 in
theorem p_X5_roll_4 (F_J9_floorMod_7cf53 : rx_F) (I : Nat → Int32) (L : Nat → Int64) (T : Nat → Nat → Int32) (U : Nat → Nat → Int64) (a1 : Int32) (a2 : Int32) (h1 : a1 ≤ 0) : fv_X5_roll F_J9_floorMod_7cf53 (wc I L T U) [.ref 16, .int a1, .int a2] = some (none, wc I L T U) := rz_en 2 (by decide) rfl (ry_t h1 rfl)
def cfv_X6_roll (F_X5_drop : rx_F) (F_X5_roll : rx_F) : Instr → Option rx_C := rx_lkc [(89, (2, some 5, 0, 0, F_X5_drop)), (131, (3, some 5, 0, 0, F_X5_roll))] [] []
def fv_X6_roll (F_X5_drop : rx_F) (F_X5_roll : rx_F) : rx_F := rx_fn (rx_lkk kC_X6) (rx_lkf fL_X6) (rx_lkf fP_X6) (rx_lkg gS_X6) (rx_lkg fG_X6) (rx_lkw nW_X6) (cfv_X6_roll F_X5_drop F_X5_roll) (some .int) 0 0 3 kd_X6_roll rx_fu
theorem fv_X6_roll_eq : f_X6_roll = fv_X6_roll f_X5_drop f_X5_roll := rfl
noncomputable def z_X6_roll (F_X5_drop : rx_F) (F_X5_roll : rx_F) : Nat → List Value → List Value → rx_H → Nat → rx_R := rz_run (rx_lkk kC_X6) (rx_lkf fL_X6) (rx_lkf fP_X6) (rx_lkg gS_X6) (rx_lkg fG_X6) (cfv_X6_roll F_X5_drop F_X5_roll) (some .int) kd_X6_roll
set_option maxRecDepth 100000 in
theorem p_X6_roll_1 (F_X5_drop : rx_F) (F_X5_roll : rx_F) (I : Nat → Int32) (L : Nat → Int64) (T : Nat → Nat → Int32) (U : Nat → Nat → Int64) (a1 : Int32) (a2 : Int32) (h1 : ¬ (0 ≤ a1)) : fv_X6_roll F_X5_drop F_X5_roll (wc I L T U) [.ref 33, .int a1, .int a2] = some (some (.int 6), wc I L T U) := rz_en 1 (by decide) rfl (ry_f h1 rfl)
set_option maxRecDepth 100000 in
theorem p_X6_roll_2 (F_X5_drop : rx_F) (F_X5_roll : rx_F) (I : Nat → Int32) (L : Nat → Int64) (T : Nat → Nat → Int32) (U : Nat → Nat → Int64) (a1 : Int32) (a2 : Int32) (h1 : 0 ≤ a1) (h2 : ¬ (a1 ≤ ((I 8) - 2))) : fv_X6_roll F_X5_drop F_X5_roll (wc I L T U) [.ref 33, .int a1, .int a2] = some (some (.int 3), wc I L T U) := rz_en 2 (by decide) rfl (ry_t h1 (ry_f h2 rfl))
set_option maxRecDepth 100000 in
theorem p_X6_roll_3 (F_X5_drop : rx_F) (F_X5_roll : rx_F) (I : Nat → Int32) (L : Nat → Int64) (T : Nat → Nat → Int32) (U : Nat → Nat → Int64) (a1 : Int32) (a2 : Int32) (I_1 : Nat → Int32) (L_1 : Nat → Int64) (T_1 : Nat → Nat → Int32) (U_1 : Nat → Nat → Int64) (I_2 : Nat → Int32) (L_2 : Nat → Int64) (T_2 : Nat → Nat → Int32) (U_2 : Nat → Nat → Int64) (h1 : 0 ≤ a1) (h2 : a1 ≤ ((I 8) - 2)) (h3 : F_X5_drop (wc I L T U) [.ref 16, .int 2] = some (none, wc I_1 L_1 T_1 U_1)) (h4 : F_X5_roll (wc I_1 L_1 T_1 U_1) [.ref 16, .int a1, .int a2] = some (none, wc I_2 L_2 T_2 U_2)) : fv_X6_roll F_X5_drop F_X5_roll (wc I L T U) [.ref 33, .int a1, .int a2] = some (some (.int 0), wc I_2 L_2 T_2 U_2) := rz_en 3 (by decide) rfl (ry_t h1 (ry_t h2 (ry_b h3 (ry_b h4 rfl))))
def cfv_X12_roll (F_X12_kindAt : rx_F) (F_X12_valueAt : rx_F) (F_X12_copy : rx_F) : Instr → Option rx_C := rx_lkc [(316, (2, some 11, 0, 0, F_X12_kindAt)), (510, (2, some 11, 0, 0, F_X12_valueAt))] [(374, (4, none, 0, 0, F_X12_copy))] []
def fv_X12_roll (F_X12_kindAt : rx_F) (F_X12_valueAt : rx_F) (F_X12_copy : rx_F) : rx_F := rx_fn (rx_lkk kC_X12) (rx_lkf fL_X12) (rx_lkf fP_X12) (rx_lkg gS_X12) (rx_lkg fG_X12) (rx_lkw nW_X12) (cfv_X12_roll F_X12_kindAt F_X12_valueAt F_X12_copy) (some .int) 0 0 6 kd_X12_roll rx_fu
theorem fv_X12_roll_eq : f_X12_roll = fv_X12_roll f_X12_kindAt f_X12_valueAt f_X12_copy := rfl
noncomputable def z_X12_roll (F_X12_kindAt : rx_F) (F_X12_valueAt : rx_F) (F_X12_copy : rx_F) : Nat → List Value → List Value → rx_H → Nat → rx_R := rz_run (rx_lkk kC_X12) (rx_lkf fL_X12) (rx_lkf fP_X12) (rx_lkg gS_X12) (rx_lkg fG_X12) (cfv_X12_roll F_X12_kindAt F_X12_valueAt F_X12_copy) (some .int) kd_X12_roll
set_option maxRecDepth 100000 in
theorem p_X12_roll_1 (F_X12_kindAt : rx_F) (F_X12_valueAt : rx_F) (F_X12_copy : rx_F) (I : Nat → Int32) (T : Nat → Nat → Int32) (K : Nat → Int64) (h1 : ¬ (2 ≤ (I 4))) : fv_X12_roll F_X12_kindAt F_X12_valueAt F_X12_copy (wr I T K) [.ref 0] = some (some (.int 3), wr I T K) := rz_en 1 (by decide) rfl (ry_f h1 rfl)
set_option maxRecDepth 100000 in
theorem p_X12_roll_7 (F_X12_kindAt : rx_F) (F_X12_valueAt : rx_F) (F_X12_copy : rx_F) (I : Nat → Int32) (T : Nat → Nat → Int32) (K : Nat → Int64) (r1 : Int32) (h1 : 2 ≤ (I 4)) (h2 : F_X12_kindAt (wr I T K) [.ref 0, .int 0] = some (some (.int r1), wr I T K)) (h3 : ¬ (r1 = 1)) : fv_X12_roll F_X12_kindAt F_X12_valueAt F_X12_copy (wr I T K) [.ref 0] = some (some (.int 4), wr I T K) := rz_en 3 (by decide) rfl (ry_t h1 (ry_b h2 (ry_f h3 rfl)))
set_option maxRecDepth 100000 in
theorem p_X12_roll_2 (F_X12_kindAt : rx_F) (F_X12_valueAt : rx_F) (F_X12_copy : rx_F) (I : Nat → Int32) (T : Nat → Nat → Int32) (K : Nat → Int64) (r1 : Int32) (r2 : Int32) (h1 : 2 ≤ (I 4)) (h2 : F_X12_kindAt (wr I T K) [.ref 0, .int 0] = some (some (.int r1), wr I T K)) (h3 : r1 = 1) (h4 : F_X12_kindAt (wr I T K) [.ref 0, .int 1] = some (some (.int r2), wr I T K)) (h5 : ¬ (r2 = 1)) : fv_X12_roll F_X12_kindAt F_X12_valueAt F_X12_copy (wr I T K) [.ref 0] = some (some (.int 4), wr I T K) := rz_en 3 (by decide) rfl (ry_t h1 (ry_b h2 (ry_t h3 (ry_b h4 (ry_f h5 rfl)))))
set_option maxRecDepth 100000 in
theorem p_X12_roll_3 (F_X12_kindAt : rx_F) (F_X12_valueAt : rx_F) (F_X12_copy : rx_F) (I : Nat → Int32) (T : Nat → Nat → Int32) (K : Nat → Int64) (r1 : Int32) (r2 : Int32) (r3 : Int32) (r4 : Int32) (h1 : 2 ≤ (I 4)) (h2 : F_X12_kindAt (wr I T K) [.ref 0, .int 0] = some (some (.int r1), wr I T K)) (h3 : r1 = 1) (h4 : F_X12_kindAt (wr I T K) [.ref 0, .int 1] = some (some (.int r2), wr I T K)) (h5 : r2 = 1) (h6 : F_X12_valueAt (wr I T K) [.ref 0, .int 0] = some (some (.int r3), wr I T K)) (h7 : F_X12_valueAt (wr I T K) [.ref 0, .int 1] = some (some (.int r4), wr I T K)) (h8 : ¬ (0 ≤ r4)) : fv_X12_roll F_X12_kindAt F_X12_valueAt F_X12_copy (wr I T K) [.ref 0] = some (some (.int 6), wr I T K) := rz_en 3 (by decide) rfl (ry_t h1 (ry_b h2 (ry_t h3 (ry_b h4 (ry_t h5 (ry_b h6 (ry_b h7 (ry_f h8 rfl))))))))
set_option maxRecDepth 100000 in
theorem p_X12_roll_4 (F_X12_kindAt : rx_F) (F_X12_valueAt : rx_F) (F_X12_copy : rx_F) (I : Nat → Int32) (T : Nat → Nat → Int32) (K : Nat → Int64) (r1 : Int32) (r2 : Int32) (r3 : Int32) (r4 : Int32) (h1 : 2 ≤ (I 4)) (h2 : F_X12_kindAt (wr I T K) [.ref 0, .int 0] = some (some (.int r1), wr I T K)) (h3 : r1 = 1) (h4 : F_X12_kindAt (wr I T K) [.ref 0, .int 1] = some (some (.int r2), wr I T K)) (h5 : r2 = 1) (h6 : F_X12_valueAt (wr I T K) [.ref 0, .int 0] = some (some (.int r3), wr I T K)) (h7 : F_X12_valueAt (wr I T K) [.ref 0, .int 1] = some (some (.int r4), wr I T K)) (h8 : 0 ≤ r4) (h9 : ¬ (r4 ≤ ((I 4) - 2))) : fv_X12_roll F_X12_kindAt F_X12_valueAt F_X12_copy (wr I T K) [.ref 0] = some (some (.int 3), wr I T K) := rz_en 4 (by decide) rfl (ry_t h1 (ry_b h2 (ry_t h3 (ry_b h4 (ry_t h5 (ry_b h6 (ry_b h7 (ry_t h8 (ry_f h9 rfl)))))))))
set_option maxRecDepth 100000 in
theorem p_X12_onStack_8 (F_X12_top : rx_F) (F_X12_swap : rx_F) (F_X12_isFull : rx_F) (F_X12_roll : rx_F) (F_X12_copyOrIndex : rx_F) (F_X12_topMark : rx_F) (F_X12_pushNumber : rx_F) (F_X12_push : rx_F) (F_X12_copy : rx_F) (I : Nat → Int32) (T : Nat → Nat → Int32) (K : Nat → Int64) (a1 : Int32) (I_1 : Nat → Int32) (T_1 : Nat → Nat → Int32) (K_1 : Nat → Int64) (r1 : Int32) (h1 : 3 ≤ a1) (h2 : ¬ (6 ≤ a1)) (h3 : a1 = 5) (h4 : F_X12_roll (wr I T K) [.ref 0] = some (some (.int r1), wr I_1 T_1 K_1)) : fv_X12_onStack F_X12_top F_X12_swap F_X12_isFull F_X12_roll F_X12_copyOrIndex F_X12_topMark F_X12_pushNumber F_X12_push F_X12_copy (wr I T K) [.ref 0, .int a1] = some (some (.int r1), wr I_1 T_1 K_1) := rz_en 3 (by decide) rfl (ry_t h1 (ry_f h2 (ry_t h3 (ry_b h4 rfl))))
set_option maxRecDepth 100000 in
theorem q_X12_roll_88_1 (F_X12_kindAt : rx_F) (F_X12_valueAt : rx_F) (F_X12_copy : rx_F) (I : Nat → Int32) (T : Nat → Nat → Int32) (K : Nat → Int64) (x2 : Int32) (x3 : Int32) (x4 : Int32) (x5 : Int32) (I_1 : Nat → Int32) (T_1 : Nat → Nat → Int32) (K_1 : Nat → Int64) (h1 : ¬ (x2 ≤ x5)) (h2 : ¬ x2 = 0) (h3 : F_X12_copy (wr I T K) [.ref 2, .int ((x3 - x2) + x5), .ref 16, .int ((x5 + x4) - (x5 + x4) / x2 * x2)] = some (none, wr I_1 T_1 K_1)) {rs : Option Value × rx_H} {m : Nat} (hz : z_X12_roll F_X12_kindAt F_X12_valueAt F_X12_copy 88 [.ref 0, .null, .int x2, .int x3, .int x4, .int (x5 + 1)] [] (wr I_1 T_1 K_1) m = some rs) : z_X12_roll F_X12_kindAt F_X12_valueAt F_X12_copy 88 [.ref 0, .null, .int x2, .int x3, .int x4, .int x5] [] (wr I T K) (m + 1) = some rs := (ry_f h1 (ry_f h2 (ry_b h3 hz)))
set_option maxRecDepth 100000 in
theorem q_X12_roll_88_2 (F_X12_kindAt : rx_F) (F_X12_valueAt : rx_F) (F_X12_copy : rx_F) (I : Nat → Int32) (T : Nat → Nat → Int32) (K : Nat → Int64) (x2 : Int32) (x3 : Int32) (x4 : Int32) (x5 : Int32) (h1 : x2 ≤ x5) {rs : Option Value × rx_H} {m : Nat} (hz : z_X12_roll F_X12_kindAt F_X12_valueAt F_X12_copy 127 [.ref 0, .null, .int x2, .int x3, .null, .int 0] [] (wr I T K) m = some rs) : z_X12_roll F_X12_kindAt F_X12_valueAt F_X12_copy 88 [.ref 0, .null, .int x2, .int x3, .int x4, .int x5] [] (wr I T K) (m + 2) = some rs := (by
  refine ry_t h1 ?_
  refine Eq.trans (b := z_X12_roll F_X12_kindAt F_X12_valueAt F_X12_copy 127 [.ref 0, .null, .int x2, .int x3, .int x4, .int 0] [] (wr I T K) m) rfl ?_
  exact rz_fg (a := [.ref 0, .null, .int x2, .int x3, .int x4, .int 0]) [4] (Nat.le_refl _) hz)
set_option maxRecDepth 100000 in
theorem q_X12_roll_127_1 (F_X12_kindAt : rx_F) (F_X12_valueAt : rx_F) (F_X12_copy : rx_F) (I : Nat → Int32) (T : Nat → Nat → Int32) (K : Nat → Int64) (x2 : Int32) (x3 : Int32) (x5 : Int32) (I_1 : Nat → Int32) (T_1 : Nat → Nat → Int32) (K_1 : Nat → Int64) (h1 : ¬ (x2 ≤ x5)) (h2 : F_X12_copy (wr I T K) [.ref 16, .int x5, .ref 2, .int ((x3 - x2) + x5)] = some (none, wr I_1 T_1 K_1)) {rs : Option Value × rx_H} {m : Nat} (hz : z_X12_roll F_X12_kindAt F_X12_valueAt F_X12_copy 127 [.ref 0, .null, .int x2, .int x3, .null, .int (x5 + 1)] [] (wr I_1 T_1 K_1) m = some rs) : z_X12_roll F_X12_kindAt F_X12_valueAt F_X12_copy 127 [.ref 0, .null, .int x2, .int x3, .null, .int x5] [] (wr I T K) (m + 1) = some rs := (ry_f h1 (ry_b h2 hz))
set_option maxRecDepth 100000 in
theorem q_X12_roll_127_2 (F_X12_kindAt : rx_F) (F_X12_valueAt : rx_F) (F_X12_copy : rx_F) (I : Nat → Int32) (T : Nat → Nat → Int32) (K : Nat → Int64) (x2 : Int32) (x3 : Int32) (x5 : Int32) (h1 : x2 ≤ x5) {m : Nat} : z_X12_roll F_X12_kindAt F_X12_valueAt F_X12_copy 127 [.ref 0, .null, .int x2, .int x3, .null, .int x5] [] (wr I T K) (m + 2) = some (some (.int 0), wr I T K) := (ry_t h1 rfl)
set_option maxRecDepth 100000 in
theorem p_X12_roll_5 (F_X12_kindAt : rx_F) (F_X12_valueAt : rx_F) (F_X12_copy : rx_F) (I : Nat → Int32) (T : Nat → Nat → Int32) (K : Nat → Int64) (r1 : Int32) (r2 : Int32) (r3 : Int32) (r4 : Int32) (h1 : 2 ≤ (I 4)) (h2 : F_X12_kindAt (wr I T K) [.ref 0, .int 0] = some (some (.int r1), wr I T K)) (h3 : r1 = 1) (h4 : F_X12_kindAt (wr I T K) [.ref 0, .int 1] = some (some (.int r2), wr I T K)) (h5 : r2 = 1) (h6 : F_X12_valueAt (wr I T K) [.ref 0, .int 0] = some (some (.int r3), wr I T K)) (h7 : F_X12_valueAt (wr I T K) [.ref 0, .int 1] = some (some (.int r4), wr I T K)) (h8 : 0 ≤ r4) (h9 : r4 ≤ ((I 4) - 2)) (h10 : r4 = 0) {rs : Option Value × rx_H} {m : Nat} (hm : m + 6 ≤ 1000000000) (hz : z_X12_roll F_X12_kindAt F_X12_valueAt F_X12_copy 88 [.ref 0, .null, .int r4, .int ((I 4) - 2), .int 0, .int 0] [] (wr (uI I 4 ((I 4) - 2)) T K) m = some rs) : fv_X12_roll F_X12_kindAt F_X12_valueAt F_X12_copy (wr I T K) [.ref 0] = some rs := rz_en (m + 6) hm rfl (by
  refine ry_t h1 ?_
  refine ry_b h2 ?_
  refine ry_t h3 ?_
  refine ry_b h4 ?_
  refine ry_t h5 ?_
  refine ry_b h6 ?_
  refine ry_b h7 ?_
  refine ry_t h8 ?_
  refine ry_t h9 ?_
  refine ry_t h10 ?_
  refine Eq.trans (b := z_X12_roll F_X12_kindAt F_X12_valueAt F_X12_copy 88 [.ref 0, .int r3, .int r4, .int ((I 4) - 2), .int 0, .int 0] [] (wr (uI I 4 ((I 4) - 2)) T K) m) rfl ?_
  exact rz_fg (a := [.ref 0, .int r3, .int r4, .int ((I 4) - 2), .int 0, .int 0]) [1] (Nat.le_refl _) hz)
set_option maxRecDepth 100000 in
theorem p_X12_roll_6 (F_X12_kindAt : rx_F) (F_X12_valueAt : rx_F) (F_X12_copy : rx_F) (I : Nat → Int32) (T : Nat → Nat → Int32) (K : Nat → Int64) (r1 : Int32) (r2 : Int32) (r3 : Int32) (r4 : Int32) (h1 : 2 ≤ (I 4)) (h2 : F_X12_kindAt (wr I T K) [.ref 0, .int 0] = some (some (.int r1), wr I T K)) (h3 : r1 = 1) (h4 : F_X12_kindAt (wr I T K) [.ref 0, .int 1] = some (some (.int r2), wr I T K)) (h5 : r2 = 1) (h6 : F_X12_valueAt (wr I T K) [.ref 0, .int 0] = some (some (.int r3), wr I T K)) (h7 : F_X12_valueAt (wr I T K) [.ref 0, .int 1] = some (some (.int r4), wr I T K)) (h8 : 0 ≤ r4) (h9 : r4 ≤ ((I 4) - 2)) (h10 : ¬ (r4 = 0)) (h11 : ¬ r4 = 0) (h12 : ¬ r4 = 0) {rs : Option Value × rx_H} {m : Nat} (hm : m + 7 ≤ 1000000000) (hz : z_X12_roll F_X12_kindAt F_X12_valueAt F_X12_copy 88 [.ref 0, .null, .int r4, .int ((I 4) - 2), .int (((r3 - r3 / r4 * r4) + r4) - ((r3 - r3 / r4 * r4) + r4) / r4 * r4), .int 0] [] (wr (uI I 4 ((I 4) - 2)) T K) m = some rs) : fv_X12_roll F_X12_kindAt F_X12_valueAt F_X12_copy (wr I T K) [.ref 0] = some rs := rz_en (m + 7) hm rfl (by
  refine ry_t h1 ?_
  refine ry_b h2 ?_
  refine ry_t h3 ?_
  refine ry_b h4 ?_
  refine ry_t h5 ?_
  refine ry_b h6 ?_
  refine ry_b h7 ?_
  refine ry_t h8 ?_
  refine ry_t h9 ?_
  refine ry_f h10 ?_
  refine ry_f h11 ?_
  refine ry_f h12 ?_
  refine Eq.trans (b := z_X12_roll F_X12_kindAt F_X12_valueAt F_X12_copy 88 [.ref 0, .int r3, .int r4, .int ((I 4) - 2), .int (((r3 - r3 / r4 * r4) + r4) - ((r3 - r3 / r4 * r4) + r4) / r4 * r4), .int 0] [] (wr (uI I 4 ((I 4) - 2)) T K) m) rfl ?_
  exact rz_fg (a := [.ref 0, .int r3, .int r4, .int ((I 4) - 2), .int (((r3 - r3 / r4 * r4) + r4) - ((r3 - r3 / r4 * r4) + r4) / r4 * r4), .int 0]) [1] (Nat.le_refl _) hz)
