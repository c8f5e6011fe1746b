noncomputable def z_X9_cell  : Nat → List Value → List Value → rx_H → Nat → rx_R := rz_run (rx_lkk kC_X9) (rx_lkf fL_X9) (rx_lkf fP_X9) (rx_lkg gS_X9) (rx_lkg fG_X9) cf_X9_cell (some .long) kd_X9_cell
set_option maxRecDepth 100000 in
theorem p_X9_cell_1 (I : Nat → Int32) (L : Nat → Int64) (T : Nat → Nat → Int32) (U : Nat → Nat → Int64) (a1 : Int32) (h1 : ¬ (a1 < 0)) (h2 : ¬ ((Int16.toInt32 (Int16.ofInt 600)) ≤ a1)) (h3 : ¬ (a1 < 0 ∨ 600 ≤ (a1 : Int32).toNatClampNeg)) : f_X9_cell (wc I L T U) [.ref 5, .int a1] = some (some (.long ((U 2) (a1 : Int32).toNatClampNeg)), wc I L T U) := rz_en 2 (by decide) rfl (ry_f h1 (ry_f h2 (ry_f h3 rfl)))
noncomputable def z_X9_setCell  : Nat → List Value → List Value → rx_H → Nat → rx_R := rz_run (rx_lkk kC_X9) (rx_lkf fL_X9) (rx_lkf fP_X9) (rx_lkg gS_X9) (rx_lkg fG_X9) cf_X9_setCell none kd_X9_setCell
set_option maxRecDepth 100000 in
theorem p_X9_setCell_1 (I : Nat → Int32) (L : Nat → Int64) (T : Nat → Nat → Int32) (U : Nat → Nat → Int64) (a1 : Int32) (a2 : Int64) (h1 : ¬ (a1 < 0)) (h2 : ¬ ((Int16.toInt32 (Int16.ofInt 600)) ≤ a1)) (h3 : ¬ (a1 < 0 ∨ 600 ≤ (a1 : Int32).toNatClampNeg)) : f_X9_setCell (wc I L T U) [.ref 5, .int a1, .long a2] = some (none, wc I L T (uU U 2 (vp_updL (U 2) (a1 : Int32).toNatClampNeg a2))) := rz_en 2 (by decide) rfl (ry_f h1 (ry_f h2 (ry_f h3 rfl)))
set_option maxRecDepth 100000 in
theorem p_X9_setCell_2 (I : Nat → Int32) (L : Nat → Int64) (T : Nat → Nat → Int32) (U : Nat → Nat → Int64) (a1 : Int32) (a2 : Int64) (h1 : ¬ (a1 < 0)) (h2 : (Int16.toInt32 (Int16.ofInt 600)) ≤ a1) : f_X9_setCell (wc I L T U) [.ref 5, .int a1, .long a2] = some (none, wc I L T U) := rz_en 2 (by decide) rfl (ry_f h1 (ry_t h2 rfl))
set_option maxRecDepth 100000 in
theorem p_X9_setCell_3 (I : Nat → Int32) (L : Nat → Int64) (T : Nat → Nat → Int32) (U : Nat → Nat → Int64) (a1 : Int32) (a2 : Int64) (h1 : a1 < 0) : f_X9_setCell (wc I L T U) [.ref 5, .int a1, .long a2] = some (none, wc I L T U) := rz_en 2 (by decide) rfl (ry_t h1 rfl)
noncomputable def z_X9_octetAt  : Nat → List Value → List Value → rx_H → Nat → rx_R := rz_run (rx_lkk kC_X9) (rx_lkf fL_X9) (rx_lkf fP_X9) (rx_lkg gS_X9) (rx_lkg fG_X9) cf_X9_octetAt (some .int) kd_X9_octetAt
set_option maxRecDepth 100000 in
theorem p_X9_octetAt_1 (I : Nat → Int32) (L : Nat → Int64) (T : Nat → Nat → Int32) (U : Nat → Nat → Int64) (a1 : Int32) (h1 : ¬ (a1 < 0)) (h2 : ¬ ((Int16.toInt32 (Int16.ofInt 600)) ≤ a1)) (h3 : ¬ (a1 < 0 ∨ 600 ≤ (a1 : Int32).toNatClampNeg)) : f_X9_octetAt (wc I L T U) [.ref 5, .int a1] = some (some (.int (((T 1) (a1 : Int32).toNatClampNeg) &&& (Int16.toInt32 (Int16.ofInt 255)))), wc I L T U) := rz_en 2 (by decide) rfl (ry_f h1 (ry_f h2 (ry_f h3 rfl)))
set_option maxRecDepth 100000 in
theorem p_X9_octetAt_2 (I : Nat → Int32) (L : Nat → Int64) (T : Nat → Nat → Int32) (U : Nat → Nat → Int64) (a1 : Int32) (h1 : ¬ (a1 < 0)) (h2 : (Int16.toInt32 (Int16.ofInt 600)) ≤ a1) : f_X9_octetAt (wc I L T U) [.ref 5, .int a1] = some (some (.int 0), wc I L T U) := rz_en 3 (by decide) rfl (ry_f h1 (ry_t h2 rfl))
set_option maxRecDepth 100000 in
theorem p_X9_octetAt_3 (I : Nat → Int32) (L : Nat → Int64) (T : Nat → Nat → Int32) (U : Nat → Nat → Int64) (a1 : Int32) (h1 : a1 < 0) : f_X9_octetAt (wc I L T U) [.ref 5, .int a1] = some (some (.int 0), wc I L T U) := rz_en 3 (by decide) rfl (ry_t h1 rfl)
noncomputable def z_X9_setOctet  : Nat → List Value → List Value → rx_H → Nat → rx_R := rz_run (rx_lkk kC_X9) (rx_lkf fL_X9) (rx_lkf fP_X9) (rx_lkg gS_X9) (rx_lkg fG_X9) cf_X9_setOctet none kd_X9_setOctet
set_option maxRecDepth 100000 in
theorem p_X9_setOctet_1 (I : Nat → Int32) (L : Nat → Int64) (T : Nat → Nat → Int32) (U : Nat → Nat → Int64) (a1 : Int32) (a2 : Int32) (h1 : ¬ (a1 < 0)) (h2 : ¬ ((Int16.toInt32 (Int16.ofInt 600)) ≤ a1)) (h3 : ¬ (a1 < 0 ∨ 600 ≤ (a1 : Int32).toNatClampNeg)) : f_X9_setOctet (wc I L T U) [.ref 5, .int a1, .int a2] = some (none, wc I L (uT T 1 (upd (T 1) (a1 : Int32).toNatClampNeg (vp_nar .byte (Int8.toInt32 (Int32.toInt8 a2))))) U) := rz_en 2 (by decide) rfl (ry_f h1 (ry_f h2 (ry_f h3 rfl)))
set_option maxRecDepth 100000 in
theorem p_X9_setOctet_2 (I : Nat → Int32) (L : Nat → Int64) (T : Nat → Nat → Int32) (U : Nat → Nat → Int64) (a1 : Int32) (a2 : Int32) (h1 : ¬ (a1 < 0)) (h2 : (Int16.toInt32 (Int16.ofInt 600)) ≤ a1) : f_X9_setOctet (wc I L T U) [.ref 5, .int a1, .int a2] = some (none, wc I L T U) := rz_en 2 (by decide) rfl (ry_f h1 (ry_t h2 rfl))
set_option maxRecDepth 100000 in
theorem p_X9_setOctet_3 (I : Nat → Int32) (L : Nat → Int64) (T : Nat → Nat → Int32) (U : Nat → Nat → Int64) (a1 : Int32) (a2 : Int32) (h1 : a1 < 0) : f_X9_setOctet (wc I L T U) [.ref 5, .int a1, .int a2] = some (none, wc I L T U) := rz_en 2 (by decide) rfl (ry_t h1 rfl)
noncomputable def z_X9_outAt  : Nat → List Value → List Value → rx_H → Nat → rx_R := rz_run (rx_lkk kC_X9) (rx_lkf fL_X9) (rx_lkf fP_X9) (rx_lkg gS_X9) (rx_lkg fG_X9) cf_X9_outAt (some .int) kd_X9_outAt
set_option maxRecDepth 100000 in
theorem p_X9_outAt_1 (I : Nat → Int32) (L : Nat → Int64) (T : Nat → Nat → Int32) (U : Nat → Nat → Int64) (a1 : Int32) (h1 : ¬ (a1 < 0)) (h2 : ¬ ((Int16.toInt32 (Int16.ofInt 1000)) ≤ a1)) (h3 : ¬ (a1 < 0 ∨ 1000 ≤ (a1 : Int32).toNatClampNeg)) : f_X9_outAt (wc I L T U) [.ref 5, .int a1] = some (some (.int (((T 2) (a1 : Int32).toNatClampNeg) &&& (Int16.toInt32 (Int16.ofInt 255)))), wc I L T U) := rz_en 2 (by decide) rfl (ry_f h1 (ry_f h2 (ry_f h3 rfl)))
set_option maxRecDepth 100000 in
theorem p_X9_outAt_2 (I : Nat → Int32) (L : Nat → Int64) (T : Nat → Nat → Int32) (U : Nat → Nat → Int64) (a1 : Int32) (h1 : ¬ (a1 < 0)) (h2 : (Int16.toInt32 (Int16.ofInt 1000)) ≤ a1) : f_X9_outAt (wc I L T U) [.ref 5, .int a1] = some (some (.int 0), wc I L T U) := rz_en 3 (by decide) rfl (ry_f h1 (ry_t h2 rfl))
set_option maxRecDepth 100000 in
theorem p_X9_outAt_3 (I : Nat → Int32) (L : Nat → Int64) (T : Nat → Nat → Int32) (U : Nat → Nat → Int64) (a1 : Int32) (h1 : a1 < 0) : f_X9_outAt (wc I L T U) [.ref 5, .int a1] = some (some (.int 0), wc I L T U) := rz_en 3 (by decide) rfl (ry_t h1 rfl)
noncomputable def z_X9_write  : Nat → List Value → List Value → rx_H → Nat → rx_R := rz_run (rx_lkk kC_X9) (rx_lkf fL_X9) (rx_lkf fP_X9) (rx_lkg gS_X9) (rx_lkg fG_X9) cf_X9_write (some .boolean) kd_X9_write
set_option maxRecDepth 100000 in
theorem p_X9_write_2 (I : Nat → Int32) (L : Nat → Int64) (T : Nat → Nat → Int32) (U : Nat → Nat → Int64) (a1 : Int32) (h1 : ¬ ((I 4) < 0)) (h2 : (I 4) < (Int16.toInt32 (Int16.ofInt 1000))) (h3 : ¬ ((I 4) < 0 ∨ 1000 ≤ ((I 4) : Int32).toNatClampNeg)) : f_X9_write (wc I L T U) [.ref 5, .int a1] = some (some (.int 1), wc (uI I 4 ((I 4) + 1)) L (uT T 2 (upd (T 2) ((I 4) : Int32).toNatClampNeg (vp_nar .byte (Int8.toInt32 (Int32.toInt8 a1))))) U) := rz_en 2 (by decide) rfl (ry_f h1 (ry_t h2 (ry_f h3 (ry_t (c := (1 : Int32) = 0 ∨ (1 : Int32) = 1) (by decide) rfl))))
set_option maxRecDepth 100000 in
theorem p_X9_write_1 (I : Nat → Int32) (L : Nat → Int64) (T : Nat → Nat → Int32) (U : Nat → Nat → Int64) (a1 : Int32) (h1 : ¬ ((I 4) < 0)) (h2 : ¬ ((I 4) < (Int16.toInt32 (Int16.ofInt 1000)))) : f_X9_write (wc I L T U) [.ref 5, .int a1] = some (some (.int 0), wc I L T U) := rz_en 2 (by decide) rfl (ry_f h1 (ry_f h2 (ry_t (c := (0 : Int32) = 0 ∨ (0 : Int32) = 1) (by decide) rfl)))
noncomputable def z_X9_forget  : Nat → List Value → List Value → rx_H → Nat → rx_R := rz_run (rx_lkk kC_X9) (rx_lkf fL_X9) (rx_lkf fP_X9) (rx_lkg gS_X9) (rx_lkg fG_X9) cf_X9_forget none kd_X9_forget
set_option maxRecDepth 100000 in
theorem p_X9_forget_1 (I : Nat → Int32) (L : Nat → Int64) (T : Nat → Nat → Int32) (U : Nat → Nat → Int64)  : f_X9_forget (wc I L T U) [.ref 5] = some (none, wc (uI (uI (uI I 2 0) 3 0) 4 0) L T U) := rz_en 1 (by decide) rfl rfl
def cfv_X9_makeArray (F_X9_setCell : rx_F) : Instr → Option rx_C := rx_lkc [(32, (3, some 9, 0, 0, F_X9_setCell))] [] []
def fv_X9_makeArray (F_X9_setCell : rx_F) : rx_F := rx_fn (rx_lkk kC_X9) (rx_lkf fL_X9) (rx_lkf fP_X9) (rx_lkg gS_X9) (rx_lkg fG_X9) (rx_lkw nW_X9) (cfv_X9_makeArray F_X9_setCell) (some .int) 0 0 4 kd_X9_makeArray rx_fu
theorem fv_X9_makeArray_eq : f_X9_makeArray = fv_X9_makeArray f_X9_setCell := rfl
noncomputable def z_X9_makeArray (F_X9_setCell : rx_F) : Nat → List Value → List Value → rx_H → Nat → rx_R := rz_run (rx_lkk kC_X9) (rx_lkf fL_X9) (rx_lkf fP_X9) (rx_lkg gS_X9) (rx_lkg fG_X9) (cfv_X9_makeArray F_X9_setCell) (some .int) kd_X9_makeArray
set_option maxRecDepth 100000 in
theorem p_X9_makeArray_1 (F_X9_setCell : rx_F) (I : Nat → Int32) (L : Nat → Int64) (T : Nat → Nat → Int32) (U : Nat → Nat → Int64) (a1 : Int32) (h1 : ¬ (a1 < 0)) (h2 : ¬ (a1 ≤ ((Int16.toInt32 (Int16.ofInt 600)) - (I 2)))) : fv_X9_makeArray F_X9_setCell (wc I L T U) [.ref 5, .int a1] = some (some (.int (Int32.ofInt (-1))), wc I L T U) := rz_en 2 (by decide) rfl (ry_f h1 (ry_f h2 rfl))
set_option maxRecDepth 100000 in
theorem q_X9_makeArray_35_1 (F_X9_setCell : rx_F) (I : Nat → Int32) (L : Nat → Int64) (T : Nat → Nat → Int32) (U : Nat → Nat → Int64) (x2 : Int32) (x3 : Int32) (I_1 : Nat → Int32) (L_1 : Nat → Int64) (T_1 : Nat → Nat → Int32) (U_1 : Nat → Nat → Int64) (h1 : ¬ ((I 2) ≤ x3)) (h2 : F_X9_setCell (wc I L T U) [.ref 5, .int x3, .long 0] = some (none, wc I_1 L_1 T_1 U_1)) {rs : Option Value × rx_H} {m : Nat} (hz : z_X9_makeArray F_X9_setCell 35 [.ref 5, .null, .int x2, .int (x3 + 1)] [] (wc I_1 L_1 T_1 U_1) m = some rs) : z_X9_makeArray F_X9_setCell 35 [.ref 5, .null, .int x2, .int x3] [] (wc I L T U) (m + 1) = some rs := (ry_f h1 (ry_b h2 hz))
set_option maxRecDepth 100000 in
theorem q_X9_makeArray_35_2 (F_X9_setCell : rx_F) (I : Nat → Int32) (L : Nat → Int64) (T : Nat → Nat → Int32) (U : Nat → Nat → Int64) (x2 : Int32) (x3 : Int32) (h1 : (I 2) ≤ x3) {m : Nat} : z_X9_makeArray F_X9_setCell 35 [.ref 5, .null, .int x2, .int x3] [] (wc I L T U) (m + 2) = some (some (.int x2), wc I L T U) := (ry_t h1 rfl)
set_option maxRecDepth 100000 in
theorem p_X9_makeArray_2 (F_X9_setCell : rx_F) (I : Nat → Int32) (L : Nat → Int64) (T : Nat → Nat → Int32) (U : Nat → Nat → Int64) (a1 : Int32) (h1 : ¬ (a1 < 0)) (h2 : a1 ≤ ((Int16.toInt32 (Int16.ofInt 600)) - (I 2))) {rs : Option Value × rx_H} {m : Nat} (hm : m + 2 ≤ 1000000000) (hz : z_X9_makeArray F_X9_setCell 35 [.ref 5, .null, .int (I 2), .int (I 2)] [] (wc (uI I 2 ((I 2) + a1)) L T U) m = some rs) : fv_X9_makeArray F_X9_setCell (wc I L T U) [.ref 5, .int a1] = some rs := rz_en (m + 2) hm rfl (by
  refine ry_f h1 ?_
  refine ry_t h2 ?_
  refine Eq.trans (b := z_X9_makeArray F_X9_setCell 35 [.ref 5, .int a1, .int (I 2), .int (I 2)] [] (wc (uI I 2 ((I 2) + a1)) L T U) m) rfl ?_
  exact rz_fg (a := [.ref 5, .int a1, .int (I 2), .int (I 2)]) [1] (Nat.le_refl _) hz)
def cfv_X9_makeString (F_X9_setOctet : rx_F) : Instr → Option rx_C := rx_lkc [(36, (3, some 9, 0, 0, F_X9_setOctet))] [] []
def fv_X9_makeString (F_X9_setOctet : rx_F) : rx_F := rx_fn (rx_lkk kC_X9) (rx_lkf fL_X9) (rx_lkf fP_X9) (rx_lkg gS_X9) (rx_lkg fG_X9) (rx_lkw nW_X9) (cfv_X9_makeString F_X9_setOctet) (some .int) 0 0 4 kd_X9_makeString rx_fu
theorem fv_X9_makeString_eq : f_X9_makeString = fv_X9_makeString f_X9_setOctet := rfl
noncomputable def z_X9_makeString (F_X9_setOctet : rx_F) : Nat → List Value → List Value → rx_H → Nat → rx_R := rz_run (rx_lkk kC_X9) (rx_lkf fL_X9) (rx_lkf fP_X9) (rx_lkg gS_X9) (rx_lkg fG_X9) (cfv_X9_makeString F_X9_setOctet) (some .int) kd_X9_makeString
set_option maxRecDepth 100000 in
theorem p_X9_makeString_1 (F_X9_setOctet : rx_F) (I : Nat → Int32) (L : Nat → Int64) (T : Nat → Nat → Int32) (U : Nat → Nat → Int64) (a1 : Int32) (h1 : ¬ (a1 < 0)) (h2 : ¬ (a1 ≤ ((Int16.toInt32 (Int16.ofInt 600)) - (I 3)))) : fv_X9_makeString F_X9_setOctet (wc I L T U) [.ref 5, .int a1] = some (some (.int (Int32.ofInt (-1))), wc I L T U) := rz_en 2 (by decide) rfl (ry_f h1 (ry_f h2 rfl))
set_option maxRecDepth 100000 in
theorem q_X9_makeString_35_1 (F_X9_setOctet : rx_F) (I : Nat → Int32) (L : Nat → Int64) (T : Nat → Nat → Int32) (U : Nat → Nat → Int64) (x2 : Int32) (x3 : Int32) (I_1 : Nat → Int32) (L_1 : Nat → Int64) (T_1 : Nat → Nat → Int32) (U_1 : Nat → Nat → Int64) (h1 : ¬ ((I 3) ≤ x3)) (h2 : F_X9_setOctet (wc I L T U) [.ref 5, .int x3, .int 0] = some (none, wc I_1 L_1 T_1 U_1)) {rs : Option Value × rx_H} {m : Nat} (hz : z_X9_makeString F_X9_setOctet 35 [.ref 5, .null, .int x2, .int (x3 + 1)] [] (wc I_1 L_1 T_1 U_1) m = some rs) : z_X9_makeString F_X9_setOctet 35 [.ref 5, .null, .int x2, .int x3] [] (wc I L T U) (m + 1) = some rs := (ry_f h1 (ry_b h2 hz))
set_option maxRecDepth 100000 in
theorem q_X9_makeString_35_2 (F_X9_setOctet : rx_F) (I : Nat → Int32) (L : Nat → Int64) (T : Nat → Nat → Int32) (U : Nat → Nat → Int64) (x2 : Int32) (x3 : Int32) (h1 : (I 3) ≤ x3) {m : Nat} : z_X9_makeString F_X9_setOctet 35 [.ref 5, .null, .int x2, .int x3] [] (wc I L T U) (m + 2) = some (some (.int x2), wc I L T U) := (ry_t h1 rfl)
set_option maxRecDepth 100000 in
theorem p_X9_makeString_2 (F_X9_setOctet : rx_F) (I : Nat → Int32) (L : Nat → Int64) (T : Nat → Nat → Int32) (U : Nat → Nat → Int64) (a1 : Int32) (h1 : ¬ (a1 < 0)) (h2 : a1 ≤ ((Int16.toInt32 (Int16.ofInt 600)) - (I 3))) {rs : Option Value × rx_H} {m : Nat} (hm : m + 2 ≤ 1000000000) (hz : z_X9_makeString F_X9_setOctet 35 [.ref 5, .null, .int (I 3), .int (I 3)] [] (wc (uI I 3 ((I 3) + a1)) L T U) m = some rs) : fv_X9_makeString F_X9_setOctet (wc I L T U) [.ref 5, .int a1] = some rs := rz_en (m + 2) hm rfl (by
  refine ry_f h1 ?_
  refine ry_t h2 ?_
  refine Eq.trans (b := z_X9_makeString F_X9_setOctet 35 [.ref 5, .int a1, .int (I 3), .int (I 3)] [] (wc (uI I 3 ((I 3) + a1)) L T U) m) rfl ?_
  exact rz_fg (a := [.ref 5, .int a1, .int (I 3), .int (I 3)]) [1] (Nat.le_refl _) hz)
