noncomputable def z_X12_putOut  : Nat → List Value → List Value → rx_H → Nat → rx_R := rz_run (rx_lkk kC_X12) (rx_lkf fL_X12) (rx_lkf fP_X12) (rx_lkg gS_X12) (rx_lkg fG_X12) cf_X12_putOut none kd_X12_putOut
set_option maxRecDepth 100000 in
theorem p_X12_putOut_1 (I : Nat → Int32) (T : Nat → Nat → Int32) (K : Nat → Int64) (a1 : Int32) (h1 : ¬ ((Int16.toInt32 (Int16.ofInt 1000)) ≤ (I 11))) (h2 : ¬ ((I 11) < 0 ∨ 1000 ≤ ((I 11) : Int32).toNatClampNeg)) : f_X12_putOut (wr I T K) [.ref 0, .int a1] = some (none, wr (uI I 11 ((I 11) + 1)) (uT T 11 (upd (T 11) ((I 11) : Int32).toNatClampNeg a1)) K) := rz_en 2 (by decide) rfl (ry_f h1 (ry_f h2 rfl))
set_option maxRecDepth 100000 in
theorem p_X12_putOut_2 (I : Nat → Int32) (T : Nat → Nat → Int32) (K : Nat → Int64) (a1 : Int32) (h1 : (Int16.toInt32 (Int16.ofInt 1000)) ≤ (I 11)) : f_X12_putOut (wr I T K) [.ref 0, .int a1] = some (none, wr (uI I 11 ((I 11) + 1)) T K) := rz_en 2 (by decide) rfl (ry_t h1 rfl)
def cfv_X6_writeName (F_X4_lengthOf : rx_F) (F_X4_octetOf : rx_F) (F_X9_write : rx_F) : Instr → Option rx_C := rx_lkc [(149, (2, some 4, 0, 0, F_X4_lengthOf)), (155, (3, some 4, 0, 0, F_X4_octetOf)), (171, (2, some 9, 0, 0, F_X9_write))] [] []
def fv_X6_writeName (F_X4_lengthOf : rx_F) (F_X4_octetOf : rx_F) (F_X9_write : rx_F) : rx_F := rx_fn (rx_lkk kC_X6) (rx_lkf fL_X6) (rx_lkf fP_X6) (rx_lkg gS_X6) (rx_lkg fG_X6) (rx_lkw nW_X6) (cfv_X6_writeName F_X4_lengthOf F_X4_octetOf F_X9_write) (some .boolean) 0 0 4 kd_X6_writeName rx_fu
theorem fv_X6_writeName_eq : f_X6_writeName = fv_X6_writeName f_X4_lengthOf f_X4_octetOf f_X9_write := rfl
noncomputable def z_X6_writeName (F_X4_lengthOf : rx_F) (F_X4_octetOf : rx_F) (F_X9_write : rx_F) : Nat → List Value → List Value → rx_H → Nat → rx_R := rz_run (rx_lkk kC_X6) (rx_lkf fL_X6) (rx_lkf fP_X6) (rx_lkg gS_X6) (rx_lkg fG_X6) (cfv_X6_writeName F_X4_lengthOf F_X4_octetOf F_X9_write) (some .boolean) kd_X6_writeName
set_option maxRecDepth 100000 in
theorem q_X6_writeName_4_1 (F_X4_lengthOf : rx_F) (F_X4_octetOf : rx_F) (F_X9_write : rx_F) (I : Nat → Int32) (L : Nat → Int64) (T : Nat → Nat → Int32) (U : Nat → Nat → Int64) (x1 : Int32) (x2 : Int32) (x3 : Int32) (r1 : Int32) (r2 : Int32) (I_3 : Nat → Int32) (L_3 : Nat → Int64) (T_3 : Nat → Nat → Int32) (U_3 : Nat → Nat → Int64) (r3 : Int32) (h1 : F_X4_lengthOf (wc I L T U) [.ref 1, .int x1] = some (some (.int r1), wc I L T U)) (h2 : ¬ (r1 ≤ x3)) (h3 : ¬ (x2 = 0)) (h4 : F_X4_octetOf (wc I L T U) [.ref 1, .int x1, .int x3] = some (some (.int r2), wc I L T U)) (h5 : F_X9_write (wc I L T U) [.ref 5, .int r2] = some (some (.int r3), wc I_3 L_3 T_3 U_3)) {rs : Option Value × rx_H} {m : Nat} (hz : z_X6_writeName F_X4_lengthOf F_X4_octetOf F_X9_write 4 [.ref 33, .int x1, .int r3, .int (x3 + 1)] [] (wc I_3 L_3 T_3 U_3) m = some rs) : z_X6_writeName F_X4_lengthOf F_X4_octetOf F_X9_write 4 [.ref 33, .int x1, .int x2, .int x3] [] (wc I L T U) (m + 1) = some rs := (ry_b h1 (ry_f h2 (ry_f h3 (ry_b h4 (ry_b h5 hz)))))
set_option maxRecDepth 100000 in
theorem q_X6_writeName_4_2 (F_X4_lengthOf : rx_F) (F_X4_octetOf : rx_F) (F_X9_write : rx_F) (I : Nat → Int32) (L : Nat → Int64) (T : Nat → Nat → Int32) (U : Nat → Nat → Int64) (x1 : Int32) (x2 : Int32) (x3 : Int32) (r1 : Int32) (h1 : F_X4_lengthOf (wc I L T U) [.ref 1, .int x1] = some (some (.int r1), wc I L T U)) (h2 : ¬ (r1 ≤ x3)) (h3 : x2 = 0) (h4 : x2 = 0 ∨ x2 = 1) {m : Nat} : z_X6_writeName F_X4_lengthOf F_X4_octetOf F_X9_write 4 [.ref 33, .int x1, .int x2, .int x3] [] (wc I L T U) (m + 2) = some (some (.int x2), wc I L T U) := (ry_b h1 (ry_f h2 (ry_t h3 (ry_t h4 rfl))))
set_option maxRecDepth 100000 in
theorem q_X6_writeName_4_3 (F_X4_lengthOf : rx_F) (F_X4_octetOf : rx_F) (F_X9_write : rx_F) (I : Nat → Int32) (L : Nat → Int64) (T : Nat → Nat → Int32) (U : Nat → Nat → Int64) (x1 : Int32) (x2 : Int32) (x3 : Int32) (r1 : Int32) (h1 : F_X4_lengthOf (wc I L T U) [.ref 1, .int x1] = some (some (.int r1), wc I L T U)) (h2 : r1 ≤ x3) (h3 : x2 = 0 ∨ x2 = 1) {m : Nat} : z_X6_writeName F_X4_lengthOf F_X4_octetOf F_X9_write 4 [.ref 33, .int x1, .int x2, .int x3] [] (wc I L T U) (m + 2) = some (some (.int x2), wc I L T U) := (ry_b h1 (ry_t h2 (ry_t h3 rfl)))
set_option maxRecDepth 100000 in
theorem p_X6_writeName_1 (F_X4_lengthOf : rx_F) (F_X4_octetOf : rx_F) (F_X9_write : rx_F) (I : Nat → Int32) (L : Nat → Int64) (T : Nat → Nat → Int32) (U : Nat → Nat → Int64) (a1 : Int32)  {rs : Option Value × rx_H} {m : Nat} (hm : m + 1 ≤ 1000000000) (hz : z_X6_writeName F_X4_lengthOf F_X4_octetOf F_X9_write 4 [.ref 33, .int a1, .int 1, .int 0] [] (wc I L T U) m = some rs) : fv_X6_writeName F_X4_lengthOf F_X4_octetOf F_X9_write (wc I L T U) [.ref 33, .int a1] = some rs := rz_en (m + 1) hm rfl hz
def cfv_X6_writeString (F_X9_octetAt : rx_F) (F_X9_write : rx_F) (F_X10_length : rx_F) : Instr → Option rx_C := rx_lkc [(158, (2, some 9, 0, 0, F_X9_octetAt)), (171, (2, some 9, 0, 0, F_X9_write))] [(152, (1, none, 0, 0, F_X10_length))] []
def fv_X6_writeString (F_X9_octetAt : rx_F) (F_X9_write : rx_F) (F_X10_length : rx_F) : rx_F := rx_fn (rx_lkk kC_X6) (rx_lkf fL_X6) (rx_lkf fP_X6) (rx_lkg gS_X6) (rx_lkg fG_X6) (rx_lkw nW_X6) (cfv_X6_writeString F_X9_octetAt F_X9_write F_X10_length) (some .boolean) 0 0 5 kd_X6_writeString rx_fu
theorem fv_X6_writeString_eq : f_X6_writeString = fv_X6_writeString f_X9_octetAt f_X9_write f_X10_length := rfl
noncomputable def z_X6_writeString (F_X9_octetAt : rx_F) (F_X9_write : rx_F) (F_X10_length : rx_F) : Nat → List Value → List Value → rx_H → Nat → rx_R := rz_run (rx_lkk kC_X6) (rx_lkf fL_X6) (rx_lkf fP_X6) (rx_lkg gS_X6) (rx_lkg fG_X6) (cfv_X6_writeString F_X9_octetAt F_X9_write F_X10_length) (some .boolean) kd_X6_writeString
set_option maxRecDepth 100000 in
theorem q_X6_writeString_5_1 (F_X9_octetAt : rx_F) (F_X9_write : rx_F) (F_X10_length : rx_F) (I : Nat → Int32) (L : Nat → Int64) (T : Nat → Nat → Int32) (U : Nat → Nat → Int64) (x1 : Int64) (x3 : Int32) (x4 : Int32) (r1 : Int32) (r2 : Int32) (I_3 : Nat → Int32) (L_3 : Nat → Int64) (T_3 : Nat → Nat → Int32) (U_3 : Nat → Nat → Int64) (r3 : Int32) (h1 : F_X10_length (wc I L T U) [.long x1] = some (some (.int r1), wc I L T U)) (h2 : ¬ (r1 ≤ x4)) (h3 : ¬ (x3 = 0)) (h4 : F_X9_octetAt (wc I L T U) [.ref 5, .int ((Int64.toInt32 x1) + x4)] = some (some (.int r2), wc I L T U)) (h5 : F_X9_write (wc I L T U) [.ref 5, .int r2] = some (some (.int r3), wc I_3 L_3 T_3 U_3)) {rs : Option Value × rx_H} {m : Nat} (hz : z_X6_writeString F_X9_octetAt F_X9_write F_X10_length 5 [.ref 33, .long x1, .null, .int r3, .int (x4 + 1)] [] (wc I_3 L_3 T_3 U_3) m = some rs) : z_X6_writeString F_X9_octetAt F_X9_write F_X10_length 5 [.ref 33, .long x1, .null, .int x3, .int x4] [] (wc I L T U) (m + 1) = some rs := (ry_b h1 (ry_f h2 (ry_f h3 (ry_b h4 (ry_b h5 hz)))))
set_option maxRecDepth 100000 in
theorem q_X6_writeString_5_2 (F_X9_octetAt : rx_F) (F_X9_write : rx_F) (F_X10_length : rx_F) (I : Nat → Int32) (L : Nat → Int64) (T : Nat → Nat → Int32) (U : Nat → Nat → Int64) (x1 : Int64) (x3 : Int32) (x4 : Int32) (r1 : Int32) (h1 : F_X10_length (wc I L T U) [.long x1] = some (some (.int r1), wc I L T U)) (h2 : ¬ (r1 ≤ x4)) (h3 : x3 = 0) (h4 : x3 = 0 ∨ x3 = 1) {m : Nat} : z_X6_writeString F_X9_octetAt F_X9_write F_X10_length 5 [.ref 33, .long x1, .null, .int x3, .int x4] [] (wc I L T U) (m + 2) = some (some (.int x3), wc I L T U) := (ry_b h1 (ry_f h2 (ry_t h3 (ry_t h4 rfl))))
set_option maxRecDepth 100000 in
theorem q_X6_writeString_5_3 (F_X9_octetAt : rx_F) (F_X9_write : rx_F) (F_X10_length : rx_F) (I : Nat → Int32) (L : Nat → Int64) (T : Nat → Nat → Int32) (U : Nat → Nat → Int64) (x1 : Int64) (x3 : Int32) (x4 : Int32) (r1 : Int32) (h1 : F_X10_length (wc I L T U) [.long x1] = some (some (.int r1), wc I L T U)) (h2 : r1 ≤ x4) (h3 : x3 = 0 ∨ x3 = 1) {m : Nat} : z_X6_writeString F_X9_octetAt F_X9_write F_X10_length 5 [.ref 33, .long x1, .null, .int x3, .int x4] [] (wc I L T U) (m + 2) = some (some (.int x3), wc I L T U) := (ry_b h1 (ry_t h2 (ry_t h3 rfl)))
set_option maxRecDepth 100000 in
theorem p_X6_writeString_1 (F_X9_octetAt : rx_F) (F_X9_write : rx_F) (F_X10_length : rx_F) (I : Nat → Int32) (L : Nat → Int64) (T : Nat → Nat → Int32) (U : Nat → Nat → Int64) (a1 : Int64)  {rs : Option Value × rx_H} {m : Nat} (hm : m + 1 ≤ 1000000000) (hz : z_X6_writeString F_X9_octetAt F_X9_write F_X10_length 5 [.ref 33, .long a1, .null, .int 1, .int 0] [] (wc I L T U) m = some rs) : fv_X6_writeString F_X9_octetAt F_X9_write F_X10_length (wc I L T U) [.ref 33, .long a1] = some rs := rz_en (m + 1) hm rfl hz
def cfv_X6_writeNoText (F_J0_length_8abf5 : rx_F) (F_J0_charAt_5068e : rx_F) (F_X9_write : rx_F) : Instr → Option rx_C := rx_lkc [(193, (1, some 100, 0, 0, F_J0_length_8abf5)), (197, (2, some 100, 0, 0, F_J0_charAt_5068e)), (171, (2, some 9, 0, 0, F_X9_write))] [] []
def fv_X6_writeNoText (F_J0_length_8abf5 : rx_F) (F_J0_charAt_5068e : rx_F) (F_X9_write : rx_F) : rx_F := rx_fn (rx_lkk kC_X6) (rx_lkf fL_X6) (rx_lkf fP_X6) (rx_lkg gS_X6) (rx_lkg fG_X6) (rx_lkw nW_X6) (cfv_X6_writeNoText F_J0_length_8abf5 F_J0_charAt_5068e F_X9_write) (some .boolean) 0 0 3 kd_X6_writeNoText rx_fu
theorem fv_X6_writeNoText_eq : f_X6_writeNoText = fv_X6_writeNoText f_J0_length_8abf5 f_J0_charAt_5068e f_X9_write := rfl
noncomputable def z_X6_writeNoText (F_J0_length_8abf5 : rx_F) (F_J0_charAt_5068e : rx_F) (F_X9_write : rx_F) : Nat → List Value → List Value → rx_H → Nat → rx_R := rz_run (rx_lkk kC_X6) (rx_lkf fL_X6) (rx_lkf fP_X6) (rx_lkg gS_X6) (rx_lkg fG_X6) (cfv_X6_writeNoText F_J0_length_8abf5 F_J0_charAt_5068e F_X9_write) (some .boolean) kd_X6_writeNoText
set_option maxRecDepth 100000 in
theorem q_noText_1 (F_J0_length_8abf5 : rx_F) (F_J0_charAt_5068e : rx_F) (F_X9_write : rx_F) (I : Nat → Int32) (L : Nat → Int64) (T : Nat → Nat → Int32) (U : Nat → Nat → Int64) (x1 : Int32) (x2 : Int32) (r1 r2 r3 : Int32) (I_3 : Nat → Int32) (L_3 : Nat → Int64) (T_3 : Nat → Nat → Int32) (U_3 : Nat → Nat → Int64) (h1 : F_J0_length_8abf5 (wc I L T U) [.ref 1000107] = some (some (.int r1), wc I L T U)) (h2 : ¬ (r1 ≤ x2)) (h3 : ¬ (x1 = 0)) (h4 : F_J0_charAt_5068e (wc I L T U) [.ref 1000107, .int x2] = some (some (.int r2), wc I L T U)) (h5 : F_X9_write (wc I L T U) [.ref 5, .int r2] = some (some (.int r3), wc I_3 L_3 T_3 U_3)) {rs : Option Value × rx_H} {m : Nat} (hz : z_X6_writeNoText F_J0_length_8abf5 F_J0_charAt_5068e F_X9_write 4 [.ref 33, .int r3, .int (x2 + 1)] [] (wc I_3 L_3 T_3 U_3) m = some rs) : z_X6_writeNoText F_J0_length_8abf5 F_J0_charAt_5068e F_X9_write 4 [.ref 33, .int x1, .int x2] [] (wc I L T U) (m + 1) = some rs := (ry_b h1 (ry_f h2 (ry_f h3 (ry_b h4 (ry_b h5 hz)))))
set_option maxRecDepth 100000 in
theorem q_noText_2 (F_J0_length_8abf5 : rx_F) (F_J0_charAt_5068e : rx_F) (F_X9_write : rx_F) (I : Nat → Int32) (L : Nat → Int64) (T : Nat → Nat → Int32) (U : Nat → Nat → Int64) (x1 : Int32) (x2 : Int32) (r1 : Int32) (h1 : F_J0_length_8abf5 (wc I L T U) [.ref 1000107] = some (some (.int r1), wc I L T U)) (h2 : ¬ (r1 ≤ x2)) (h3 : x1 = 0) (h4 : x1 = 0 ∨ x1 = 1) {m : Nat} : z_X6_writeNoText F_J0_length_8abf5 F_J0_charAt_5068e F_X9_write 4 [.ref 33, .int x1, .int x2] [] (wc I L T U) (m + 2) = some (some (.int x1), wc I L T U) := (ry_b h1 (ry_f h2 (ry_t h3 (ry_t h4 rfl))))
set_option maxRecDepth 100000 in
theorem q_noText_3 (F_J0_length_8abf5 : rx_F) (F_J0_charAt_5068e : rx_F) (F_X9_write : rx_F) (I : Nat → Int32) (L : Nat → Int64) (T : Nat → Nat → Int32) (U : Nat → Nat → Int64) (x1 : Int32) (x2 : Int32) (r1 : Int32) (h1 : F_J0_length_8abf5 (wc I L T U) [.ref 1000107] = some (some (.int r1), wc I L T U)) (h2 : r1 ≤ x2) (h3 : x1 = 0 ∨ x1 = 1) {m : Nat} : z_X6_writeNoText F_J0_length_8abf5 F_J0_charAt_5068e F_X9_write 4 [.ref 33, .int x1, .int x2] [] (wc I L T U) (m + 2) = some (some (.int x1), wc I L T U) := (ry_b h1 (ry_t h2 (ry_t h3 rfl)))
set_option maxRecDepth 100000 in
theorem s_strL (I : Nat → Int32) (L : Nat → Int64) (T : Nat → Nat → Int32) (U : Nat → Nat → Int64) : f_J0_length_8abf5 (wc I L T U) [.ref 1000107] = some (some (.int (nI 15)), wc I L T U) := rfl
def ntx (i : Nat) : Nat := if i < 15 then [45, 45, 110, 111, 115, 116, 114, 105, 110, 103, 118, 97, 108, 45, 45].getD i 0 else 0
set_option maxRecDepth 100000 in
theorem s_strC0 (I : Nat → Int32) (L : Nat → Int64) (T : Nat → Nat → Int32) (U : Nat → Nat → Int64) : f_J0_charAt_5068e (wc I L T U) [.ref 1000107, .int (nI 0)] = some (some (.int (nI 45)), wc I L T U) := rfl
set_option maxRecDepth 100000 in
theorem s_strC1 (I : Nat → Int32) (L : Nat → Int64) (T : Nat → Nat → Int32) (U : Nat → Nat → Int64) : f_J0_charAt_5068e (wc I L T U) [.ref 1000107, .int (nI 1)] = some (some (.int (nI 45)), wc I L T U) := rfl
set_option maxRecDepth 100000 in
theorem s_strC2 (I : Nat → Int32) (L : Nat → Int64) (T : Nat → Nat → Int32) (U : Nat → Nat → Int64) : f_J0_charAt_5068e (wc I L T U) [.ref 1000107, .int (nI 2)] = some (some (.int (nI 110)), wc I L T U) := rfl
set_option maxRecDepth 100000 in
theorem s_strC3 (I : Nat → Int32) (L : Nat → Int64) (T : Nat → Nat → Int32) (U : Nat → Nat → Int64) : f_J0_charAt_5068e (wc I L T U) [.ref 1000107, .int (nI 3)] = some (some (.int (nI 111)), wc I L T U) := rfl
set_option maxRecDepth 100000 in
theorem s_strC4 (I : Nat → Int32) (L : Nat → Int64) (T : Nat → Nat → Int32) (U : Nat → Nat → Int64) : f_J0_charAt_5068e (wc I L T U) [.ref 1000107, .int (nI 4)] = some (some (.int (nI 115)), wc I L T U) := rfl
set_option maxRecDepth 100000 in
theorem s_strC5 (I : Nat → Int32) (L : Nat → Int64) (T : Nat → Nat → Int32) (U : Nat → Nat → Int64) : f_J0_charAt_5068e (wc I L T U) [.ref 1000107, .int (nI 5)] = some (some (.int (nI 116)), wc I L T U) := rfl
set_option maxRecDepth 100000 in
theorem s_strC6 (I : Nat → Int32) (L : Nat → Int64) (T : Nat → Nat → Int32) (U : Nat → Nat → Int64) : f_J0_charAt_5068e (wc I L T U) [.ref 1000107, .int (nI 6)] = some (some (.int (nI 114)), wc I L T U) := rfl
set_option maxRecDepth 100000 in
theorem s_strC7 (I : Nat → Int32) (L : Nat → Int64) (T : Nat → Nat → Int32) (U : Nat → Nat → Int64) : f_J0_charAt_5068e (wc I L T U) [.ref 1000107, .int (nI 7)] = some (some (.int (nI 105)), wc I L T U) := rfl
set_option maxRecDepth 100000 in
theorem s_strC8 (I : Nat → Int32) (L : Nat → Int64) (T : Nat → Nat → Int32) (U : Nat → Nat → Int64) : f_J0_charAt_5068e (wc I L T U) [.ref 1000107, .int (nI 8)] = some (some (.int (nI 110)), wc I L T U) := rfl
set_option maxRecDepth 100000 in
theorem s_strC9 (I : Nat → Int32) (L : Nat → Int64) (T : Nat → Nat → Int32) (U : Nat → Nat → Int64) : f_J0_charAt_5068e (wc I L T U) [.ref 1000107, .int (nI 9)] = some (some (.int (nI 103)), wc I L T U) := rfl
set_option maxRecDepth 100000 in
theorem s_strC10 (I : Nat → Int32) (L : Nat → Int64) (T : Nat → Nat → Int32) (U : Nat → Nat → Int64) : f_J0_charAt_5068e (wc I L T U) [.ref 1000107, .int (nI 10)] = some (some (.int (nI 118)), wc I L T U) := rfl
set_option maxRecDepth 100000 in
theorem s_strC11 (I : Nat → Int32) (L : Nat → Int64) (T : Nat → Nat → Int32) (U : Nat → Nat → Int64) : f_J0_charAt_5068e (wc I L T U) [.ref 1000107, .int (nI 11)] = some (some (.int (nI 97)), wc I L T U) := rfl
set_option maxRecDepth 100000 in
theorem s_strC12 (I : Nat → Int32) (L : Nat → Int64) (T : Nat → Nat → Int32) (U : Nat → Nat → Int64) : f_J0_charAt_5068e (wc I L T U) [.ref 1000107, .int (nI 12)] = some (some (.int (nI 108)), wc I L T U) := rfl
set_option maxRecDepth 100000 in
theorem s_strC13 (I : Nat → Int32) (L : Nat → Int64) (T : Nat → Nat → Int32) (U : Nat → Nat → Int64) : f_J0_charAt_5068e (wc I L T U) [.ref 1000107, .int (nI 13)] = some (some (.int (nI 45)), wc I L T U) := rfl
set_option maxRecDepth 100000 in
theorem s_strC14 (I : Nat → Int32) (L : Nat → Int64) (T : Nat → Nat → Int32) (U : Nat → Nat → Int64) : f_J0_charAt_5068e (wc I L T U) [.ref 1000107, .int (nI 14)] = some (some (.int (nI 45)), wc I L T U) := rfl
theorem s_strC {I : Nat → Int32} {L : Nat → Int64} {T : Nat → Nat → Int32} {U : Nat → Nat → Int64} : ∀ i, i < 15 → f_J0_charAt_5068e (wc I L T U) [.ref 1000107, .int (nI i)] = some (some (.int (nI (ntx i))), wc I L T U)
  | 0, _ => s_strC0 I L T U
  | 1, _ => s_strC1 I L T U
  | 2, _ => s_strC2 I L T U
  | 3, _ => s_strC3 I L T U
  | 4, _ => s_strC4 I L T U
  | 5, _ => s_strC5 I L T U
  | 6, _ => s_strC6 I L T U
  | 7, _ => s_strC7 I L T U
  | 8, _ => s_strC8 I L T U
  | 9, _ => s_strC9 I L T U
  | 10, _ => s_strC10 I L T U
  | 11, _ => s_strC11 I L T U
  | 12, _ => s_strC12 I L T U
  | 13, _ => s_strC13 I L T U
  | 14, _ => s_strC14 I L T U
  | n + 15, h => absurd h (by omega)
theorem ntx_15 : ∀ i, i < 15 → ntx i < 256 := by decide
theorem ntx_lt : ∀ i, ntx i < 256 := by
  intro i
  by_cases h : i < 15
  · exact ntx_15 i h
  · unfold ntx
    rw [if_neg h]
    decide
set_option maxRecDepth 100000 in
theorem p_X6_writeNoText_1 (F_J0_length_8abf5 : rx_F) (F_J0_charAt_5068e : rx_F) (F_X9_write : rx_F) (I : Nat → Int32) (L : Nat → Int64) (T : Nat → Nat → Int32) (U : Nat → Nat → Int64)  {rs : Option Value × rx_H} {m : Nat} (hm : m + 1 ≤ 1000000000) (hz : z_X6_writeNoText F_J0_length_8abf5 F_J0_charAt_5068e F_X9_write 4 [.ref 33, .int 1, .int 0] [] (wc I L T U) m = some rs) : fv_X6_writeNoText F_J0_length_8abf5 F_J0_charAt_5068e F_X9_write (wc I L T U) [.ref 33] = some rs := rz_en (m + 1) hm rfl hz
