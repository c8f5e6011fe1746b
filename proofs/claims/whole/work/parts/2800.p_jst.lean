def cfv_X7_keepString (F_X9_makeString : rx_F) (F_X9_setOctet : rx_F) (F_X7_keep : rx_F) (F_X10_string : rx_F) : Instr → Option rx_C := rx_lkc [(112, (2, some 9, 0, 0, F_X9_makeString)), (115, (3, some 9, 0, 0, F_X9_setOctet)), (79, (2, some 7, 0, 0, F_X7_keep))] [(119, (2, none, 0, 0, F_X10_string))] []
def fv_X7_keepString (F_X9_makeString : rx_F) (F_X9_setOctet : rx_F) (F_X7_keep : rx_F) (F_X10_string : rx_F) : rx_F := rx_fn (rx_lkk kC_X7) (rx_lkf fL_X7) (rx_lkf fP_X7) (rx_lkg gS_X7) (rx_lkg fG_X7) (rx_lkw nW_X7) (cfv_X7_keepString F_X9_makeString F_X9_setOctet F_X7_keep F_X10_string) (some .int) 0 0 4 kd_X7_keepString rx_fu
theorem fv_X7_keepString_eq : f_X7_keepString = fv_X7_keepString f_X9_makeString f_X9_setOctet f_X7_keep f_X10_string := rfl
noncomputable def z_X7_keepString (F_X9_makeString : rx_F) (F_X9_setOctet : rx_F) (F_X7_keep : rx_F) (F_X10_string : rx_F) : Nat → List Value → List Value → rx_H → Nat → rx_R := rz_run (rx_lkk kC_X7) (rx_lkf fL_X7) (rx_lkf fP_X7) (rx_lkg gS_X7) (rx_lkg fG_X7) (cfv_X7_keepString F_X9_makeString F_X9_setOctet F_X7_keep F_X10_string) (some .int) kd_X7_keepString
set_option maxRecDepth 100000 in
theorem p_X7_keepString_1 (F_X9_makeString : rx_F) (F_X9_setOctet : rx_F) (F_X7_keep : rx_F) (F_X10_string : rx_F) (I : Nat → Int32) (L : Nat → Int64) (T : Nat → Nat → Int32) (U : Nat → Nat → Int64) (a1 : Int32) (I_1 : Nat → Int32) (L_1 : Nat → Int64) (T_1 : Nat → Nat → Int32) (U_1 : Nat → Nat → Int64) (r1 : Int32) (h1 : F_X9_makeString (wc I L T U) [.ref 5, .int a1] = some (some (.int r1), wc I_1 L_1 T_1 U_1)) (h2 : ¬ (0 ≤ r1)) : fv_X7_keepString F_X9_makeString F_X9_setOctet F_X7_keep F_X10_string (wc I L T U) [.ref 19, .int a1] = some (some (.int 2), wc I_1 L_1 T_1 U_1) := rz_en 1 (by decide) rfl (ry_b h1 (ry_f h2 rfl))
set_option maxRecDepth 100000 in
theorem q_X7_keepString_17_1 (F_X9_makeString : rx_F) (F_X9_setOctet : rx_F) (F_X7_keep : rx_F) (F_X10_string : rx_F) (I : Nat → Int32) (L : Nat → Int64) (T : Nat → Nat → Int32) (U : Nat → Nat → Int64) (x1 : Int32) (x2 : Int32) (x3 : Int32) (I_1 : Nat → Int32) (L_1 : Nat → Int64) (T_1 : Nat → Nat → Int32) (U_1 : Nat → Nat → Int64) (h1 : ¬ (x1 ≤ x3)) (h2 : ¬ ((Int16.toInt32 (Int16.ofInt 300)) ≤ x3)) (h3 : ¬ (x3 < 0 ∨ 300 ≤ (x3 : Int32).toNatClampNeg)) (h4 : F_X9_setOctet (wc I L T U) [.ref 5, .int (x2 + x3), .int ((T 8) (x3 : Int32).toNatClampNeg)] = some (none, wc I_1 L_1 T_1 U_1)) {rs : Option Value × rx_H} {m : Nat} (hz : z_X7_keepString F_X9_makeString F_X9_setOctet F_X7_keep F_X10_string 17 [.ref 19, .int x1, .int x2, .int (x3 + 1)] [] (wc I_1 L_1 T_1 U_1) m = some rs) : z_X7_keepString F_X9_makeString F_X9_setOctet F_X7_keep F_X10_string 17 [.ref 19, .int x1, .int x2, .int x3] [] (wc I L T U) (m + 1) = some rs := (ry_f h1 (ry_f h2 (ry_f h3 (ry_b h4 hz))))
set_option maxRecDepth 100000 in
theorem q_X7_keepString_17_3 (F_X9_makeString : rx_F) (F_X9_setOctet : rx_F) (F_X7_keep : rx_F) (F_X10_string : rx_F) (I : Nat → Int32) (L : Nat → Int64) (T : Nat → Nat → Int32) (U : Nat → Nat → Int64) (x1 : Int32) (x2 : Int32) (x3 : Int32) (r1 : Int64) (I_2 : Nat → Int32) (L_2 : Nat → Int64) (T_2 : Nat → Nat → Int32) (U_2 : Nat → Nat → Int64) (r2 : Int32) (h1 : x1 ≤ x3) (h2 : F_X10_string (wc I L T U) [.int x2, .int x1] = some (some (.long r1), wc I L T U)) (h3 : F_X7_keep (wc I L T U) [.ref 19, .long r1] = some (some (.int r2), wc I_2 L_2 T_2 U_2)) {m : Nat} : z_X7_keepString F_X9_makeString F_X9_setOctet F_X7_keep F_X10_string 17 [.ref 19, .int x1, .int x2, .int x3] [] (wc I L T U) (m + 2) = some (some (.int r2), wc I_2 L_2 T_2 U_2) := (ry_t h1 (ry_b h2 (ry_b h3 rfl)))
set_option maxRecDepth 100000 in
theorem p_X7_keepString_2 (F_X9_makeString : rx_F) (F_X9_setOctet : rx_F) (F_X7_keep : rx_F) (F_X10_string : rx_F) (I : Nat → Int32) (L : Nat → Int64) (T : Nat → Nat → Int32) (U : Nat → Nat → Int64) (a1 : Int32) (I_1 : Nat → Int32) (L_1 : Nat → Int64) (T_1 : Nat → Nat → Int32) (U_1 : Nat → Nat → Int64) (r1 : Int32) (h1 : F_X9_makeString (wc I L T U) [.ref 5, .int a1] = some (some (.int r1), wc I_1 L_1 T_1 U_1)) (h2 : 0 ≤ r1) {rs : Option Value × rx_H} {m : Nat} (hm : m + 2 ≤ 1000000000) (hz : z_X7_keepString F_X9_makeString F_X9_setOctet F_X7_keep F_X10_string 17 [.ref 19, .int a1, .int r1, .int 0] [] (wc I_1 L_1 T_1 U_1) m = some rs) : fv_X7_keepString F_X9_makeString F_X9_setOctet F_X7_keep F_X10_string (wc I L T U) [.ref 19, .int a1] = some rs := rz_en (m + 2) hm rfl (ry_b h1 (ry_t h2 hz))
set_option maxRecDepth 100000 in
theorem p_X12_readString_1 (F_X12_keep : rx_F) (I : Nat → Int32) (T : Nat → Nat → Int32) (K : Nat → Int64)  {rs : Option Value × rx_H} {m : Nat} (hm : m + 1 ≤ 1000000000) (hz : z_X12_readString F_X12_keep 22 [.ref 0, .int (I 8), .int 0, .null, .int 0, .null, .null, .null] [] (wr (uI I 3 ((I 3) + 1)) T K) m = some rs) : fv_X12_readString F_X12_keep (wr I T K) [.ref 0] = some rs := rz_en (m + 1) hm rfl (by
  refine Eq.trans (b := z_X12_readString F_X12_keep 22 [.ref 0, .int (I 8), .int 0, .int 1, .int 0, .null, .null, .null] [] (wr (uI I 3 ((I 3) + 1)) T K) m) rfl ?_
  exact rz_fg (a := [.ref 0, .int (I 8), .int 0, .int 1, .int 0, .null, .null, .null]) [3] (Nat.le_refl _) hz)
set_option maxRecDepth 100000 in
theorem q_X12_readString_22_1 (F_X12_keep : rx_F) (I : Nat → Int32) (T : Nat → Nat → Int32) (K : Nat → Int64) (x1 : Int32) (x2 : Int32) (x4 : Int32) (h1 : ¬ (2 ≤ x4)) {rs : Option Value × rx_H} {m : Nat} (hz : z_X12_readString F_X12_keep 38 [.ref 0, .int x1, .int 0, .int 1, .int x4, .int (I 3), .null, .null] [] (wr I T K) m = some rs) : z_X12_readString F_X12_keep 22 [.ref 0, .int x1, .int x2, .null, .int x4, .null, .null, .null] [] (wr I T K) (m + 1) = some rs := (ry_f h1 hz)
set_option maxRecDepth 100000 in
theorem q_X12_readString_38_18 (F_X12_keep : rx_F) (I : Nat → Int32) (T : Nat → Nat → Int32) (K : Nat → Int64) (x1 : Int32) (x2 : Int32) (x3 : Int32) (x4 : Int32) (x5 : Int32) (h1 : ¬ ((I 2) ≤ x5)) (h2 : x3 ≤ 0) (h3 : ((I 8) + x2) ≤ (Int16.toInt32 (Int16.ofInt 600))) (h4 : ¬ (x4 = 1)) {rs : Option Value × rx_H} {m : Nat} (hz : z_X12_readString F_X12_keep 22 [.ref 0, .int x1, .int x2, .null, .int (x4 + 1), .null, .null, .null] [] (wr (uI I 3 (I 3)) T K) m = some rs) : z_X12_readString F_X12_keep 38 [.ref 0, .int x1, .int x2, .int x3, .int x4, .int x5, .null, .null] [] (wr I T K) (m + 6) = some rs := (by
  refine ry_f h1 ?_
  refine ry_t h2 ?_
  refine ry_t h2 ?_
  refine ry_t h3 ?_
  refine ry_f h4 ?_
  refine Eq.trans (b := z_X12_readString F_X12_keep 22 [.ref 0, .int x1, .int x2, .int x3, .int (x4 + 1), .int x5, .null, .null] [] (wr (uI I 3 (I 3)) T K) m) rfl ?_
  exact rz_fg (a := [.ref 0, .int x1, .int x2, .int x3, .int (x4 + 1), .int x5, .null, .null]) [3, 5] (Nat.le_refl _) hz)
set_option maxRecDepth 100000 in
theorem q_X12_readString_38_22 (F_X12_keep : rx_F) (I : Nat → Int32) (T : Nat → Nat → Int32) (K : Nat → Int64) (x1 : Int32) (x2 : Int32) (x3 : Int32) (x4 : Int32) (x5 : Int32) (h1 : (I 2) ≤ x5) (h2 : x3 ≤ 0) (h3 : ((I 8) + x2) ≤ (Int16.toInt32 (Int16.ofInt 600))) (h4 : ¬ (x4 = 1)) {rs : Option Value × rx_H} {m : Nat} (hz : z_X12_readString F_X12_keep 22 [.ref 0, .int x1, .int x2, .null, .int (x4 + 1), .null, .null, .null] [] (wr (uI I 3 (I 3)) T K) m = some rs) : z_X12_readString F_X12_keep 38 [.ref 0, .int x1, .int x2, .int x3, .int x4, .int x5, .null, .null] [] (wr I T K) (m + 6) = some rs := (by
  refine ry_t h1 ?_
  refine ry_t h2 ?_
  refine ry_t h3 ?_
  refine ry_f h4 ?_
  refine Eq.trans (b := z_X12_readString F_X12_keep 22 [.ref 0, .int x1, .int x2, .int x3, .int (x4 + 1), .int x5, .null, .null] [] (wr (uI I 3 (I 3)) T K) m) rfl ?_
  exact rz_fg (a := [.ref 0, .int x1, .int x2, .int x3, .int (x4 + 1), .int x5, .null, .null]) [3, 5] (Nat.le_refl _) hz)
set_option maxRecDepth 100000 in
theorem q_X12_readString_38_16 (F_X12_keep : rx_F) (I : Nat → Int32) (T : Nat → Nat → Int32) (K : Nat → Int64) (x1 : Int32) (x2 : Int32) (x3 : Int32) (x4 : Int32) (x5 : Int32) (h1 : ¬ ((I 2) ≤ x5)) (h2 : x3 ≤ 0) (h3 : ¬ (((I 8) + x2) ≤ (Int16.toInt32 (Int16.ofInt 600)))) {m : Nat} : z_X12_readString F_X12_keep 38 [.ref 0, .int x1, .int x2, .int x3, .int x4, .int x5, .null, .null] [] (wr I T K) (m + 3) = some (none, wr (uI I 20 2) T K) := (ry_f h1 (ry_t h2 (ry_t h2 (ry_f h3 rfl))))
set_option maxRecDepth 100000 in
theorem q_X12_readString_38_20 (F_X12_keep : rx_F) (I : Nat → Int32) (T : Nat → Nat → Int32) (K : Nat → Int64) (x1 : Int32) (x2 : Int32) (x3 : Int32) (x4 : Int32) (x5 : Int32) (h1 : (I 2) ≤ x5) (h2 : x3 ≤ 0) (h3 : ¬ (((I 8) + x2) ≤ (Int16.toInt32 (Int16.ofInt 600)))) {m : Nat} : z_X12_readString F_X12_keep 38 [.ref 0, .int x1, .int x2, .int x3, .int x4, .int x5, .null, .null] [] (wr I T K) (m + 3) = some (none, wr (uI I 20 2) T K) := (ry_t h1 (ry_t h2 (ry_f h3 rfl)))
set_option maxRecDepth 100000 in
theorem q_X12_readString_22_2 (F_X12_keep : rx_F) (I : Nat → Int32) (T : Nat → Nat → Int32) (K : Nat → Int64) (x1 : Int32) (x2 : Int32) (x4 : Int32) (I_1 : Nat → Int32) (T_1 : Nat → Nat → Int32) (K_1 : Nat → Int64) (h1 : 2 ≤ x4) (h2 : F_X12_keep (wr (uI (uI I 8 ((I 8) + x2)) 9 ((I 9) + 1)) T K) [.ref 0, .int 6, .int x1, .int 0, .int x2, .int ((I 9) + 1)] = some (none, wr I_1 T_1 K_1)) {m : Nat} : z_X12_readString F_X12_keep 22 [.ref 0, .int x1, .int x2, .null, .int x4, .null, .null, .null] [] (wr I T K) (m + 2) = some (none, wr I_1 T_1 K_1) := (ry_t h1 (ry_b h2 rfl))
set_option maxRecDepth 100000 in
theorem q_X12_readString_38_17 (F_X12_keep : rx_F) (I : Nat → Int32) (T : Nat → Nat → Int32) (K : Nat → Int64) (x1 : Int32) (x2 : Int32) (x3 : Int32) (x4 : Int32) (x5 : Int32) (h1 : ¬ ((I 2) ≤ x5)) (h2 : x3 ≤ 0) (h3 : ((I 8) + x2) ≤ (Int16.toInt32 (Int16.ofInt 600))) (h4 : x4 = 1) {rs : Option Value × rx_H} {m : Nat} (hz : z_X12_readString F_X12_keep 22 [.ref 0, .int x1, .int x2, .null, .int (x4 + 1), .null, .null, .null] [] (wr (uI I 3 x5) T K) m = some rs) : z_X12_readString F_X12_keep 38 [.ref 0, .int x1, .int x2, .int x3, .int x4, .int x5, .null, .null] [] (wr I T K) (m + 5) = some rs := (by
  refine ry_f h1 ?_
  refine ry_t h2 ?_
  refine ry_t h2 ?_
  refine ry_t h3 ?_
  refine ry_t h4 ?_
  refine Eq.trans (b := z_X12_readString F_X12_keep 22 [.ref 0, .int x1, .int x2, .int x3, .int (x4 + 1), .int x5, .null, .null] [] (wr (uI I 3 x5) T K) m) rfl ?_
  exact rz_fg (a := [.ref 0, .int x1, .int x2, .int x3, .int (x4 + 1), .int x5, .null, .null]) [3, 5] (Nat.le_refl _) hz)
set_option maxRecDepth 100000 in
theorem q_X12_readString_38_21 (F_X12_keep : rx_F) (I : Nat → Int32) (T : Nat → Nat → Int32) (K : Nat → Int64) (x1 : Int32) (x2 : Int32) (x3 : Int32) (x4 : Int32) (x5 : Int32) (h1 : (I 2) ≤ x5) (h2 : x3 ≤ 0) (h3 : ((I 8) + x2) ≤ (Int16.toInt32 (Int16.ofInt 600))) (h4 : x4 = 1) {rs : Option Value × rx_H} {m : Nat} (hz : z_X12_readString F_X12_keep 22 [.ref 0, .int x1, .int x2, .null, .int (x4 + 1), .null, .null, .null] [] (wr (uI I 3 x5) T K) m = some rs) : z_X12_readString F_X12_keep 38 [.ref 0, .int x1, .int x2, .int x3, .int x4, .int x5, .null, .null] [] (wr I T K) (m + 5) = some rs := (by
  refine ry_t h1 ?_
  refine ry_t h2 ?_
  refine ry_t h3 ?_
  refine ry_t h4 ?_
  refine Eq.trans (b := z_X12_readString F_X12_keep 22 [.ref 0, .int x1, .int x2, .int x3, .int (x4 + 1), .int x5, .null, .null] [] (wr (uI I 3 x5) T K) m) rfl ?_
  exact rz_fg (a := [.ref 0, .int x1, .int x2, .int x3, .int (x4 + 1), .int x5, .null, .null]) [3, 5] (Nat.le_refl _) hz)
set_option maxRecDepth 100000 in
theorem p_X7_readString_1 (F_X7_byteAt : rx_F) (F_X7_keepString : rx_F) (I : Nat → Int32) (L : Nat → Int64) (T : Nat → Nat → Int32) (U : Nat → Nat → Int64)  {rs : Option Value × rx_H} {m : Nat} (hm : m + 1 ≤ 1000000000) (hz : z_X7_readString F_X7_byteAt F_X7_keepString 4 [.ref 19, .int 0, .int 1, .null] [] (wc I L T U) m = some rs) : fv_X7_readString F_X7_byteAt F_X7_keepString (wc I L T U) [.ref 19] = some rs := rz_en (m + 1) hm rfl hz
