def cfv_X12_readString (F_X12_keep : rx_F) : Instr → Option rx_C := rx_lkc [(352, (6, some 11, 0, 0, F_X12_keep))] [] []
def fv_X12_readString (F_X12_keep : rx_F) : rx_F := rx_fn (rx_lkk kC_X12) (rx_lkf fL_X12) (rx_lkf fP_X12) (rx_lkg gS_X12) (rx_lkg fG_X12) (rx_lkw nW_X12) (cfv_X12_readString F_X12_keep) none 0 0 8 kd_X12_readString rx_fu
theorem fv_X12_readString_eq : f_X12_readString = fv_X12_readString f_X12_keep := rfl
noncomputable def z_X12_readString (F_X12_keep : rx_F) : Nat → List Value → List Value → rx_H → Nat → rx_R := rz_run (rx_lkk kC_X12) (rx_lkf fL_X12) (rx_lkf fP_X12) (rx_lkg gS_X12) (rx_lkg fG_X12) (cfv_X12_readString F_X12_keep) none kd_X12_readString
set_option maxRecDepth 100000 in
theorem rs_a (F_X12_keep : rx_F) (I : Nat → Int32) (T : Nat → Nat → Int32) (K : Nat → Int64) (x1 x2 x3 x4 x5 : Int32) (h1 : ¬ ((I 2) ≤ x5)) (h2 : ¬ (x3 ≤ 0)) (h3 : ¬ (x5 < 0 ∨ 300 ≤ (x5 : Int32).toNatClampNeg)) (h4 : ((T 0) (x5 : Int32).toNatClampNeg) = 92) (h5 : ¬ ((I 2) ≤ (x5 + 1))) (h6 : ¬ ((x5 + 1) < 0 ∨ 300 ≤ ((x5 + 1) : Int32).toNatClampNeg)) {rs : Option Value × rx_H} {m : Nat} (hz : z_X12_readString F_X12_keep 104 [.ref 0, .int x1, .int x2, .int x3, .int x4, .int (x5 + 1), .int ((T 0) ((x5 + 1) : Int32).toNatClampNeg), .int 1] [] (wr I T K) m = some rs) : z_X12_readString F_X12_keep 38 [.ref 0, .int x1, .int x2, .int x3, .int x4, .int x5, .null, .null] [] (wr I T K) (m + 3) = some rs := (ry_f h1 (ry_f h2 (ry_f h3 (ry_t h4 (ry_f (c := (1 : Int32) = 0) (by decide) (ry_f h5 (ry_f h6 hz)))))))
set_option maxRecDepth 100000 in
theorem rs_b2 (F_X12_keep : rx_F) (I : Nat → Int32) (T : Nat → Nat → Int32) (K : Nat → Int64) (x1 x2 x3 x4 y c : Int32) (h2 : ¬ (x3 ≤ 0)) (h7 : ¬ (c = (Int32.ofInt (-1)))) (h8 : ¬ (x4 = 1)) {rs : Option Value × rx_H} {m : Nat} (hz : z_X12_readString F_X12_keep 38 [.ref 0, .int x1, .int (x2 + 1), .int x3, .int x4, .int (y + 1), .null, .null] [] (wr I T K) m = some rs) : z_X12_readString F_X12_keep 104 [.ref 0, .int x1, .int x2, .int x3, .int x4, .int y, .int c, .int 1] [] (wr I T K) (m + 4) = some rs := (by
  refine ry_f (c := (1 : Int32) = 0) (by decide) ?_
  refine ry_f h2 ?_
  refine ry_f h7 ?_
  refine ry_f h8 ?_
  refine Eq.trans (b := z_X12_readString F_X12_keep 38 [.ref 0, .int x1, .int (x2 + 1), .int x3, .int x4, .int (y + 1), .int c, .int 1] [] (wr I T K) m) rfl ?_
  exact rz_fg (a := [.ref 0, .int x1, .int (x2 + 1), .int x3, .int x4, .int (y + 1), .int c, .int 1]) [6, 7] (Nat.le_refl _) hz)
set_option maxRecDepth 100000 in
theorem rs_b1 (F_X12_keep : rx_F) (I : Nat → Int32) (T : Nat → Nat → Int32) (K : Nat → Int64) (x1 x2 x3 x4 y c : Int32) (h2 : ¬ (x3 ≤ 0)) (h7 : ¬ (c = (Int32.ofInt (-1)))) (h8 : x4 = 1) (h9 : ¬ ((x1 + x2) < 0 ∨ 600 ≤ ((x1 + x2) : Int32).toNatClampNeg)) {rs : Option Value × rx_H} {m : Nat} (hz : z_X12_readString F_X12_keep 38 [.ref 0, .int x1, .int (x2 + 1), .int x3, .int x4, .int (y + 1), .null, .null] [] (wr I (uT T 8 (upd (T 8) ((x1 + x2) : Int32).toNatClampNeg c)) K) m = some rs) : z_X12_readString F_X12_keep 104 [.ref 0, .int x1, .int x2, .int x3, .int x4, .int y, .int c, .int 1] [] (wr I T K) (m + 4) = some rs := (by
  refine ry_f (c := (1 : Int32) = 0) (by decide) ?_
  refine ry_f h2 ?_
  refine ry_f h7 ?_
  refine ry_t h8 ?_
  refine ry_f h9 ?_
  refine Eq.trans (b := z_X12_readString F_X12_keep 38 [.ref 0, .int x1, .int (x2 + 1), .int x3, .int x4, .int (y + 1), .int c, .int 1] [] (wr I (uT T 8 (upd (T 8) ((x1 + x2) : Int32).toNatClampNeg c)) K) m) rfl ?_
  exact rz_fg (a := [.ref 0, .int x1, .int (x2 + 1), .int x3, .int x4, .int (y + 1), .int c, .int 1]) [6, 7] (Nat.le_refl _) hz)
def cfv_X7_readString (F_X7_byteAt : rx_F) (F_X7_keepString : rx_F) : Instr → Option rx_C := rx_lkc [(45, (2, some 7, 0, 0, F_X7_byteAt)), (109, (2, some 7, 0, 0, F_X7_keepString))] [] []
def fv_X7_readString (F_X7_byteAt : rx_F) (F_X7_keepString : rx_F) : rx_F := rx_fn (rx_lkk kC_X7) (rx_lkf fL_X7) (rx_lkf fP_X7) (rx_lkg gS_X7) (rx_lkg fG_X7) (rx_lkw nW_X7) (cfv_X7_readString F_X7_byteAt F_X7_keepString) (some .int) 0 0 4 kd_X7_readString rx_fu
theorem fv_X7_readString_eq : f_X7_readString = fv_X7_readString f_X7_byteAt f_X7_keepString := rfl
noncomputable def z_X7_readString (F_X7_byteAt : rx_F) (F_X7_keepString : rx_F) : Nat → List Value → List Value → rx_H → Nat → rx_R := rz_run (rx_lkk kC_X7) (rx_lkf fL_X7) (rx_lkf fP_X7) (rx_lkg gS_X7) (rx_lkg fG_X7) (cfv_X7_readString F_X7_byteAt F_X7_keepString) (some .int) kd_X7_readString
set_option maxRecDepth 100000 in
theorem q_X7_readString_4_10 (F_X7_byteAt : rx_F) (F_X7_keepString : rx_F) (I : Nat → Int32) (L : Nat → Int64) (T : Nat → Nat → Int32) (U : Nat → Nat → Int64) (x1 : Int32) (x2 : Int32) (h1 : (I 9) ≤ (I 10)) {m : Nat} : z_X7_readString F_X7_byteAt F_X7_keepString 4 [.ref 19, .int x1, .int x2, .null] [] (wc I L T U) (m + 2) = some (some (.int 1), wc I L T U) := (ry_t h1 rfl)
set_option maxRecDepth 100000 in
theorem q_X12_readString_38_19 (F_X12_keep : rx_F) (I : Nat → Int32) (T : Nat → Nat → Int32) (K : Nat → Int64) (x1 : Int32) (x2 : Int32) (x3 : Int32) (x4 : Int32) (x5 : Int32) (h1 : (I 2) ≤ x5) (h2 : ¬ (x3 ≤ 0)) {m : Nat} : z_X12_readString F_X12_keep 38 [.ref 0, .int x1, .int x2, .int x3, .int x4, .int x5, .null, .null] [] (wr I T K) (m + 2) = some (none, wr (uI I 20 1) T K) := (ry_t h1 (ry_f h2 rfl))
set_option maxRecDepth 100000 in
theorem q_X7_readString_4_1 (F_X7_byteAt : rx_F) (F_X7_keepString : rx_F) (I : Nat → Int32) (L : Nat → Int64) (T : Nat → Nat → Int32) (U : Nat → Nat → Int64) (x1 : Int32) (x2 : Int32) (r1 : Int32) (r2 : Int32) (h1 : ¬ ((I 9) ≤ (I 10))) (h2 : F_X7_byteAt (wc I L T U) [.ref 19, .int (I 10)] = some (some (.int r1), wc I L T U)) (h3 : r1 = 92) (h4 : F_X7_byteAt (wc (uI I 10 ((I 10) + 1)) L T U) [.ref 19, .int ((I 10) + 1)] = some (some (.int r2), wc (uI I 10 ((I 10) + 1)) L T U)) (h5 : ¬ ((Int16.toInt32 (Int16.ofInt 300)) ≤ x1)) (h6 : ¬ (x1 < 0 ∨ 300 ≤ (x1 : Int32).toNatClampNeg)) {rs : Option Value × rx_H} {m : Nat} (hz : z_X7_readString F_X7_byteAt F_X7_keepString 4 [.ref 19, .int (x1 + 1), .int x2, .null] [] (wc (uI I 10 (((I 10) + 1) + 1)) L (uT T 8 (upd (T 8) (x1 : Int32).toNatClampNeg (vp_nar .byte (Int8.toInt32 (Int32.toInt8 r2))))) U) m = some rs) : z_X7_readString F_X7_byteAt F_X7_keepString 4 [.ref 19, .int x1, .int x2, .null] [] (wc I L T U) (m + 3) = some rs := (by
  refine ry_f h1 ?_
  refine ry_b h2 ?_
  refine ry_t h3 ?_
  refine ry_b (ry_ws h4 rfl) ?_
  refine ry_f h5 ?_
  refine ry_f h6 ?_
  refine Eq.trans (b := z_X7_readString F_X7_byteAt F_X7_keepString 4 [.ref 19, .int (x1 + 1), .int x2, .int r2] [] (wc (uI I 10 (((I 10) + 1) + 1)) L (uT T 8 (upd (T 8) (x1 : Int32).toNatClampNeg (vp_nar .byte (Int8.toInt32 (Int32.toInt8 r2))))) U) m) rfl ?_
  exact rz_fg (a := [.ref 19, .int (x1 + 1), .int x2, .int r2]) [3] (Nat.le_refl _) hz)
set_option maxRecDepth 100000 in
theorem q_X12_readString_38_2 (F_X12_keep : rx_F) (I : Nat → Int32) (T : Nat → Nat → Int32) (K : Nat → Int64) (x1 : Int32) (x2 : Int32) (x3 : Int32) (x4 : Int32) (x5 : Int32) (h1 : ¬ ((I 2) ≤ x5)) (h2 : ¬ (x3 ≤ 0)) (h3 : ¬ (x5 < 0 ∨ 300 ≤ (x5 : Int32).toNatClampNeg)) (h4 : ((T 0) (x5 : Int32).toNatClampNeg) = 92) (h5 : ¬ ((I 2) ≤ (x5 + 1))) (h6 : ¬ ((x5 + 1) < 0 ∨ 300 ≤ ((x5 + 1) : Int32).toNatClampNeg)) (h7 : ¬ (((T 0) ((x5 + 1) : Int32).toNatClampNeg) = (Int32.ofInt (-1)))) (h8 : ¬ (x4 = 1)) {rs : Option Value × rx_H} {m : Nat} (hz : z_X12_readString F_X12_keep 38 [.ref 0, .int x1, .int (x2 + 1), .int x3, .int x4, .int ((x5 + 1) + 1), .null, .null] [] (wr I T K) m = some rs) : z_X12_readString F_X12_keep 38 [.ref 0, .int x1, .int x2, .int x3, .int x4, .int x5, .null, .null] [] (wr I T K) (m + 7) = some rs := rs_a F_X12_keep I T K x1 x2 x3 x4 x5 h1 h2 h3 h4 h5 h6 (rs_b2 F_X12_keep I T K x1 x2 x3 x4 (x5 + 1) ((T 0) ((x5 + 1) : Int32).toNatClampNeg) h2 h7 h8 hz)
set_option maxRecDepth 100000 in
theorem q_X12_readString_38_1 (F_X12_keep : rx_F) (I : Nat → Int32) (T : Nat → Nat → Int32) (K : Nat → Int64) (x1 : Int32) (x2 : Int32) (x3 : Int32) (x4 : Int32) (x5 : Int32) (h1 : ¬ ((I 2) ≤ x5)) (h2 : ¬ (x3 ≤ 0)) (h3 : ¬ (x5 < 0 ∨ 300 ≤ (x5 : Int32).toNatClampNeg)) (h4 : ((T 0) (x5 : Int32).toNatClampNeg) = 92) (h5 : ¬ ((I 2) ≤ (x5 + 1))) (h6 : ¬ ((x5 + 1) < 0 ∨ 300 ≤ ((x5 + 1) : Int32).toNatClampNeg)) (h7 : ¬ (((T 0) ((x5 + 1) : Int32).toNatClampNeg) = (Int32.ofInt (-1)))) (h8 : x4 = 1) (h9 : ¬ ((x1 + x2) < 0 ∨ 600 ≤ ((x1 + x2) : Int32).toNatClampNeg)) {rs : Option Value × rx_H} {m : Nat} (hz : z_X12_readString F_X12_keep 38 [.ref 0, .int x1, .int (x2 + 1), .int x3, .int x4, .int ((x5 + 1) + 1), .null, .null] [] (wr I (uT T 8 (upd (T 8) ((x1 + x2) : Int32).toNatClampNeg ((T 0) ((x5 + 1) : Int32).toNatClampNeg))) K) m = some rs) : z_X12_readString F_X12_keep 38 [.ref 0, .int x1, .int x2, .int x3, .int x4, .int x5, .null, .null] [] (wr I T K) (m + 7) = some rs := rs_a F_X12_keep I T K x1 x2 x3 x4 x5 h1 h2 h3 h4 h5 h6 (rs_b1 F_X12_keep I T K x1 x2 x3 x4 (x5 + 1) ((T 0) ((x5 + 1) : Int32).toNatClampNeg) h2 h7 h8 h9 hz)
set_option maxRecDepth 100000 in
theorem q_X12_readString_38_4 (F_X12_keep : rx_F) (I : Nat → Int32) (T : Nat → Nat → Int32) (K : Nat → Int64) (x1 : Int32) (x2 : Int32) (x3 : Int32) (x4 : Int32) (x5 : Int32) (h1 : ¬ ((I 2) ≤ x5)) (h2 : ¬ (x3 ≤ 0)) (h3 : ¬ (x5 < 0 ∨ 300 ≤ (x5 : Int32).toNatClampNeg)) (h4 : ((T 0) (x5 : Int32).toNatClampNeg) = 92) (h5 : (I 2) ≤ (x5 + 1)) {rs : Option Value × rx_H} {m : Nat} (hz : z_X12_readString F_X12_keep 38 [.ref 0, .int x1, .int x2, .int x3, .int x4, .int ((x5 + 1) + 1), .null, .null] [] (wr I T K) m = some rs) : z_X12_readString F_X12_keep 38 [.ref 0, .int x1, .int x2, .int x3, .int x4, .int x5, .null, .null] [] (wr I T K) (m + 7) = some rs := (by
  refine ry_f h1 ?_
  refine ry_f h2 ?_
  refine ry_f h3 ?_
  refine ry_t h4 ?_
  refine ry_f (c := (1 : Int32) = 0) (by decide) ?_
  refine ry_t h5 ?_
  refine ry_f (c := (1 : Int32) = 0) (by decide) ?_
  refine ry_f h2 ?_
  refine ry_t (c := ((Int32.ofInt (-1)) : Int32) = (Int32.ofInt (-1))) (by decide) ?_
  refine Eq.trans (b := z_X12_readString F_X12_keep 38 [.ref 0, .int x1, .int x2, .int x3, .int x4, .int ((x5 + 1) + 1), .int (Int32.ofInt (-1)), .int 1] [] (wr I T K) m) rfl ?_
  exact rz_fg (a := [.ref 0, .int x1, .int x2, .int x3, .int x4, .int ((x5 + 1) + 1), .int (Int32.ofInt (-1)), .int 1]) [6, 7] (Nat.le_refl _) hz)
set_option maxRecDepth 100000 in
theorem q_X7_readString_4_3 (F_X7_byteAt : rx_F) (F_X7_keepString : rx_F) (I : Nat → Int32) (L : Nat → Int64) (T : Nat → Nat → Int32) (U : Nat → Nat → Int64) (x1 : Int32) (x2 : Int32) (r1 : Int32) (h1 : ¬ ((I 9) ≤ (I 10))) (h2 : F_X7_byteAt (wc I L T U) [.ref 19, .int (I 10)] = some (some (.int r1), wc I L T U)) (h3 : ¬ (r1 = 92)) (h4 : r1 = 40) (h5 : ¬ ((Int16.toInt32 (Int16.ofInt 300)) ≤ x1)) (h6 : ¬ (x1 < 0 ∨ 300 ≤ (x1 : Int32).toNatClampNeg)) {rs : Option Value × rx_H} {m : Nat} (hz : z_X7_readString F_X7_byteAt F_X7_keepString 4 [.ref 19, .int (x1 + 1), .int (x2 + 1), .null] [] (wc (uI I 10 ((I 10) + 1)) L (uT T 8 (upd (T 8) (x1 : Int32).toNatClampNeg (vp_nar .byte (Int8.toInt32 (Int32.toInt8 r1))))) U) m = some rs) : z_X7_readString F_X7_byteAt F_X7_keepString 4 [.ref 19, .int x1, .int x2, .null] [] (wc I L T U) (m + 4) = some rs := (by
  refine ry_f h1 ?_
  refine ry_b h2 ?_
  refine ry_f h3 ?_
  refine ry_t h4 ?_
  refine ry_f h5 ?_
  refine ry_f h6 ?_
  refine Eq.trans (b := z_X7_readString F_X7_byteAt F_X7_keepString 4 [.ref 19, .int (x1 + 1), .int (x2 + 1), .int r1] [] (wc (uI I 10 ((I 10) + 1)) L (uT T 8 (upd (T 8) (x1 : Int32).toNatClampNeg (vp_nar .byte (Int8.toInt32 (Int32.toInt8 r1))))) U) m) rfl ?_
  exact rz_fg (a := [.ref 19, .int (x1 + 1), .int (x2 + 1), .int r1]) [3] (Nat.le_refl _) hz)
set_option maxRecDepth 100000 in
theorem q_X12_readString_38_6 (F_X12_keep : rx_F) (I : Nat → Int32) (T : Nat → Nat → Int32) (K : Nat → Int64) (x1 : Int32) (x2 : Int32) (x3 : Int32) (x4 : Int32) (x5 : Int32) (h1 : ¬ ((I 2) ≤ x5)) (h2 : ¬ (x3 ≤ 0)) (h3 : ¬ (x5 < 0 ∨ 300 ≤ (x5 : Int32).toNatClampNeg)) (h4 : ¬ (((T 0) (x5 : Int32).toNatClampNeg) = 92)) (h5 : ((T 0) (x5 : Int32).toNatClampNeg) = 40) (h6 : ¬ ((x3 + 1) ≤ 0)) (h7 : ¬ (((T 0) (x5 : Int32).toNatClampNeg) = (Int32.ofInt (-1)))) (h8 : ¬ (x4 = 1)) {rs : Option Value × rx_H} {m : Nat} (hz : z_X12_readString F_X12_keep 38 [.ref 0, .int x1, .int (x2 + 1), .int (x3 + 1), .int x4, .int (x5 + 1), .null, .null] [] (wr I T K) m = some rs) : z_X12_readString F_X12_keep 38 [.ref 0, .int x1, .int x2, .int x3, .int x4, .int x5, .null, .null] [] (wr I T K) (m + 8) = some rs := (by
  refine ry_f h1 ?_
  refine ry_f h2 ?_
  refine ry_f h3 ?_
  refine ry_f h4 ?_
  refine ry_t (c := (0 : Int32) = 0) (by decide) ?_
  refine ry_t (c := (0 : Int32) = 0) (by decide) ?_
  refine ry_t h5 ?_
  refine ry_f h6 ?_
  refine ry_f h7 ?_
  refine ry_f h8 ?_
  refine Eq.trans (b := z_X12_readString F_X12_keep 38 [.ref 0, .int x1, .int (x2 + 1), .int (x3 + 1), .int x4, .int (x5 + 1), .int ((T 0) (x5 : Int32).toNatClampNeg), .int 0] [] (wr I T K) m) rfl ?_
  exact rz_fg (a := [.ref 0, .int x1, .int (x2 + 1), .int (x3 + 1), .int x4, .int (x5 + 1), .int ((T 0) (x5 : Int32).toNatClampNeg), .int 0]) [6, 7] (Nat.le_refl _) hz)
set_option maxRecDepth 100000 in
theorem q_X12_readString_38_5 (F_X12_keep : rx_F) (I : Nat → Int32) (T : Nat → Nat → Int32) (K : Nat → Int64) (x1 : Int32) (x2 : Int32) (x3 : Int32) (x4 : Int32) (x5 : Int32) (h1 : ¬ ((I 2) ≤ x5)) (h2 : ¬ (x3 ≤ 0)) (h3 : ¬ (x5 < 0 ∨ 300 ≤ (x5 : Int32).toNatClampNeg)) (h4 : ¬ (((T 0) (x5 : Int32).toNatClampNeg) = 92)) (h5 : ((T 0) (x5 : Int32).toNatClampNeg) = 40) (h6 : ¬ ((x3 + 1) ≤ 0)) (h7 : ¬ (((T 0) (x5 : Int32).toNatClampNeg) = (Int32.ofInt (-1)))) (h8 : x4 = 1) (h9 : ¬ ((x1 + x2) < 0 ∨ 600 ≤ ((x1 + x2) : Int32).toNatClampNeg)) {rs : Option Value × rx_H} {m : Nat} (hz : z_X12_readString F_X12_keep 38 [.ref 0, .int x1, .int (x2 + 1), .int (x3 + 1), .int x4, .int (x5 + 1), .null, .null] [] (wr I (uT T 8 (upd (T 8) ((x1 + x2) : Int32).toNatClampNeg ((T 0) (x5 : Int32).toNatClampNeg))) K) m = some rs) : z_X12_readString F_X12_keep 38 [.ref 0, .int x1, .int x2, .int x3, .int x4, .int x5, .null, .null] [] (wr I T K) (m + 8) = some rs := (by
  refine ry_f h1 ?_
  refine ry_f h2 ?_
  refine ry_f h3 ?_
  refine ry_f h4 ?_
  refine ry_t (c := (0 : Int32) = 0) (by decide) ?_
  refine ry_t (c := (0 : Int32) = 0) (by decide) ?_
  refine ry_t h5 ?_
  refine ry_f h6 ?_
  refine ry_f h7 ?_
  refine ry_t h8 ?_
  refine ry_f h9 ?_
  refine Eq.trans (b := z_X12_readString F_X12_keep 38 [.ref 0, .int x1, .int (x2 + 1), .int (x3 + 1), .int x4, .int (x5 + 1), .int ((T 0) (x5 : Int32).toNatClampNeg), .int 0] [] (wr I (uT T 8 (upd (T 8) ((x1 + x2) : Int32).toNatClampNeg ((T 0) (x5 : Int32).toNatClampNeg))) K) m) rfl ?_
  exact rz_fg (a := [.ref 0, .int x1, .int (x2 + 1), .int (x3 + 1), .int x4, .int (x5 + 1), .int ((T 0) (x5 : Int32).toNatClampNeg), .int 0]) [6, 7] (Nat.le_refl _) hz)
set_option maxRecDepth 100000 in
theorem q_X7_readString_4_5 (F_X7_byteAt : rx_F) (F_X7_keepString : rx_F) (I : Nat → Int32) (L : Nat → Int64) (T : Nat → Nat → Int32) (U : Nat → Nat → Int64) (x1 : Int32) (x2 : Int32) (r1 : Int32) (I_2 : Nat → Int32) (L_2 : Nat → Int64) (T_2 : Nat → Nat → Int32) (U_2 : Nat → Nat → Int64) (r2 : Int32) (h1 : ¬ ((I 9) ≤ (I 10))) (h2 : F_X7_byteAt (wc I L T U) [.ref 19, .int (I 10)] = some (some (.int r1), wc I L T U)) (h3 : ¬ (r1 = 92)) (h4 : ¬ (r1 = 40)) (h5 : r1 = 41) (h6 : (x2 + Int32.ofInt (-1)) = 0) (h7 : F_X7_keepString (wc (uI I 10 ((I 10) + 1)) L T U) [.ref 19, .int x1] = some (some (.int r2), wc I_2 L_2 T_2 U_2)) {m : Nat} : z_X7_readString F_X7_byteAt F_X7_keepString 4 [.ref 19, .int x1, .int x2, .null] [] (wc I L T U) (m + 3) = some (some (.int r2), wc I_2 L_2 T_2 U_2) := (ry_f h1 (ry_b h2 (ry_f h3 (ry_f h4 (ry_t h5 (ry_t h6 (ry_b (ry_w h7 rfl) rfl)))))))
set_option maxRecDepth 100000 in
theorem q_X12_readString_38_12 (F_X12_keep : rx_F) (I : Nat → Int32) (T : Nat → Nat → Int32) (K : Nat → Int64) (x1 : Int32) (x2 : Int32) (x3 : Int32) (x4 : Int32) (x5 : Int32) (h1 : ¬ ((I 2) ≤ x5)) (h2 : ¬ (x3 ≤ 0)) (h3 : ¬ (x5 < 0 ∨ 300 ≤ (x5 : Int32).toNatClampNeg)) (h4 : ¬ (((T 0) (x5 : Int32).toNatClampNeg) = 92)) (h5 : ¬ (((T 0) (x5 : Int32).toNatClampNeg) = 40)) (h6 : ((T 0) (x5 : Int32).toNatClampNeg) = 41) (h7 : (x3 - 1) ≤ 0) {rs : Option Value × rx_H} {m : Nat} (hz : z_X12_readString F_X12_keep 38 [.ref 0, .int x1, .int x2, .int (x3 - 1), .int x4, .int (x5 + 1), .null, .null] [] (wr I T K) m = some rs) : z_X12_readString F_X12_keep 38 [.ref 0, .int x1, .int x2, .int x3, .int x4, .int x5, .null, .null] [] (wr I T K) (m + 8) = some rs := (by
  refine ry_f h1 ?_
  refine ry_f h2 ?_
  refine ry_f h3 ?_
  refine ry_f h4 ?_
  refine ry_t (c := (0 : Int32) = 0) (by decide) ?_
  refine ry_t (c := (0 : Int32) = 0) (by decide) ?_
  refine ry_f h5 ?_
  refine ry_t h6 ?_
  refine ry_t h7 ?_
  refine Eq.trans (b := z_X12_readString F_X12_keep 38 [.ref 0, .int x1, .int x2, .int (x3 - 1), .int x4, .int (x5 + 1), .int ((T 0) (x5 : Int32).toNatClampNeg), .int 0] [] (wr I T K) m) rfl ?_
  exact rz_fg (a := [.ref 0, .int x1, .int x2, .int (x3 - 1), .int x4, .int (x5 + 1), .int ((T 0) (x5 : Int32).toNatClampNeg), .int 0]) [6, 7] (Nat.le_refl _) hz)
set_option maxRecDepth 100000 in
theorem q_X7_readString_4_6 (F_X7_byteAt : rx_F) (F_X7_keepString : rx_F) (I : Nat → Int32) (L : Nat → Int64) (T : Nat → Nat → Int32) (U : Nat → Nat → Int64) (x1 : Int32) (x2 : Int32) (r1 : Int32) (h1 : ¬ ((I 9) ≤ (I 10))) (h2 : F_X7_byteAt (wc I L T U) [.ref 19, .int (I 10)] = some (some (.int r1), wc I L T U)) (h3 : ¬ (r1 = 92)) (h4 : ¬ (r1 = 40)) (h5 : r1 = 41) (h6 : ¬ ((x2 + Int32.ofInt (-1)) = 0)) (h7 : ¬ ((Int16.toInt32 (Int16.ofInt 300)) ≤ x1)) (h8 : ¬ (x1 < 0 ∨ 300 ≤ (x1 : Int32).toNatClampNeg)) {rs : Option Value × rx_H} {m : Nat} (hz : z_X7_readString F_X7_byteAt F_X7_keepString 4 [.ref 19, .int (x1 + 1), .int (x2 + Int32.ofInt (-1)), .null] [] (wc (uI I 10 ((I 10) + 1)) L (uT T 8 (upd (T 8) (x1 : Int32).toNatClampNeg (vp_nar .byte (Int8.toInt32 (Int32.toInt8 r1))))) U) m = some rs) : z_X7_readString F_X7_byteAt F_X7_keepString 4 [.ref 19, .int x1, .int x2, .null] [] (wc I L T U) (m + 5) = some rs := (by
  refine ry_f h1 ?_
  refine ry_b h2 ?_
  refine ry_f h3 ?_
  refine ry_f h4 ?_
  refine ry_t h5 ?_
  refine ry_f h6 ?_
  refine ry_f h7 ?_
  refine ry_f h8 ?_
  refine Eq.trans (b := z_X7_readString F_X7_byteAt F_X7_keepString 4 [.ref 19, .int (x1 + 1), .int (x2 + Int32.ofInt (-1)), .int r1] [] (wc (uI I 10 ((I 10) + 1)) L (uT T 8 (upd (T 8) (x1 : Int32).toNatClampNeg (vp_nar .byte (Int8.toInt32 (Int32.toInt8 r1))))) U) m) rfl ?_
  exact rz_fg (a := [.ref 19, .int (x1 + 1), .int (x2 + Int32.ofInt (-1)), .int r1]) [3] (Nat.le_refl _) hz)
set_option maxRecDepth 100000 in
theorem q_X12_readString_38_10 (F_X12_keep : rx_F) (I : Nat → Int32) (T : Nat → Nat → Int32) (K : Nat → Int64) (x1 : Int32) (x2 : Int32) (x3 : Int32) (x4 : Int32) (x5 : Int32) (h1 : ¬ ((I 2) ≤ x5)) (h2 : ¬ (x3 ≤ 0)) (h3 : ¬ (x5 < 0 ∨ 300 ≤ (x5 : Int32).toNatClampNeg)) (h4 : ¬ (((T 0) (x5 : Int32).toNatClampNeg) = 92)) (h5 : ¬ (((T 0) (x5 : Int32).toNatClampNeg) = 40)) (h6 : ((T 0) (x5 : Int32).toNatClampNeg) = 41) (h7 : ¬ ((x3 - 1) ≤ 0)) (h8 : ¬ (((T 0) (x5 : Int32).toNatClampNeg) = (Int32.ofInt (-1)))) (h9 : ¬ (x4 = 1)) {rs : Option Value × rx_H} {m : Nat} (hz : z_X12_readString F_X12_keep 38 [.ref 0, .int x1, .int (x2 + 1), .int (x3 - 1), .int x4, .int (x5 + 1), .null, .null] [] (wr I T K) m = some rs) : z_X12_readString F_X12_keep 38 [.ref 0, .int x1, .int x2, .int x3, .int x4, .int x5, .null, .null] [] (wr I T K) (m + 9) = some rs := (by
  refine ry_f h1 ?_
  refine ry_f h2 ?_
  refine ry_f h3 ?_
  refine ry_f h4 ?_
  refine ry_t (c := (0 : Int32) = 0) (by decide) ?_
  refine ry_t (c := (0 : Int32) = 0) (by decide) ?_
  refine ry_f h5 ?_
  refine ry_t h6 ?_
  refine ry_f h7 ?_
  refine ry_f h8 ?_
  refine ry_f h9 ?_
  refine Eq.trans (b := z_X12_readString F_X12_keep 38 [.ref 0, .int x1, .int (x2 + 1), .int (x3 - 1), .int x4, .int (x5 + 1), .int ((T 0) (x5 : Int32).toNatClampNeg), .int 0] [] (wr I T K) m) rfl ?_
  exact rz_fg (a := [.ref 0, .int x1, .int (x2 + 1), .int (x3 - 1), .int x4, .int (x5 + 1), .int ((T 0) (x5 : Int32).toNatClampNeg), .int 0]) [6, 7] (Nat.le_refl _) hz)
set_option maxRecDepth 100000 in
theorem q_X12_readString_38_9 (F_X12_keep : rx_F) (I : Nat → Int32) (T : Nat → Nat → Int32) (K : Nat → Int64) (x1 : Int32) (x2 : Int32) (x3 : Int32) (x4 : Int32) (x5 : Int32) (h1 : ¬ ((I 2) ≤ x5)) (h2 : ¬ (x3 ≤ 0)) (h3 : ¬ (x5 < 0 ∨ 300 ≤ (x5 : Int32).toNatClampNeg)) (h4 : ¬ (((T 0) (x5 : Int32).toNatClampNeg) = 92)) (h5 : ¬ (((T 0) (x5 : Int32).toNatClampNeg) = 40)) (h6 : ((T 0) (x5 : Int32).toNatClampNeg) = 41) (h7 : ¬ ((x3 - 1) ≤ 0)) (h8 : ¬ (((T 0) (x5 : Int32).toNatClampNeg) = (Int32.ofInt (-1)))) (h9 : x4 = 1) (h10 : ¬ ((x1 + x2) < 0 ∨ 600 ≤ ((x1 + x2) : Int32).toNatClampNeg)) {rs : Option Value × rx_H} {m : Nat} (hz : z_X12_readString F_X12_keep 38 [.ref 0, .int x1, .int (x2 + 1), .int (x3 - 1), .int x4, .int (x5 + 1), .null, .null] [] (wr I (uT T 8 (upd (T 8) ((x1 + x2) : Int32).toNatClampNeg ((T 0) (x5 : Int32).toNatClampNeg))) K) m = some rs) : z_X12_readString F_X12_keep 38 [.ref 0, .int x1, .int x2, .int x3, .int x4, .int x5, .null, .null] [] (wr I T K) (m + 9) = some rs := (by
  refine ry_f h1 ?_
  refine ry_f h2 ?_
  refine ry_f h3 ?_
  refine ry_f h4 ?_
  refine ry_t (c := (0 : Int32) = 0) (by decide) ?_
  refine ry_t (c := (0 : Int32) = 0) (by decide) ?_
  refine ry_f h5 ?_
  refine ry_t h6 ?_
  refine ry_f h7 ?_
  refine ry_f h8 ?_
  refine ry_t h9 ?_
  refine ry_f h10 ?_
  refine Eq.trans (b := z_X12_readString F_X12_keep 38 [.ref 0, .int x1, .int (x2 + 1), .int (x3 - 1), .int x4, .int (x5 + 1), .int ((T 0) (x5 : Int32).toNatClampNeg), .int 0] [] (wr I (uT T 8 (upd (T 8) ((x1 + x2) : Int32).toNatClampNeg ((T 0) (x5 : Int32).toNatClampNeg))) K) m) rfl ?_
  exact rz_fg (a := [.ref 0, .int x1, .int (x2 + 1), .int (x3 - 1), .int x4, .int (x5 + 1), .int ((T 0) (x5 : Int32).toNatClampNeg), .int 0]) [6, 7] (Nat.le_refl _) hz)
set_option maxRecDepth 100000 in
theorem q_X7_readString_4_8 (F_X7_byteAt : rx_F) (F_X7_keepString : rx_F) (I : Nat → Int32) (L : Nat → Int64) (T : Nat → Nat → Int32) (U : Nat → Nat → Int64) (x1 : Int32) (x2 : Int32) (r1 : Int32) (h1 : ¬ ((I 9) ≤ (I 10))) (h2 : F_X7_byteAt (wc I L T U) [.ref 19, .int (I 10)] = some (some (.int r1), wc I L T U)) (h3 : ¬ (r1 = 92)) (h4 : ¬ (r1 = 40)) (h5 : ¬ (r1 = 41)) (h6 : ¬ ((Int16.toInt32 (Int16.ofInt 300)) ≤ x1)) (h7 : ¬ (x1 < 0 ∨ 300 ≤ (x1 : Int32).toNatClampNeg)) {rs : Option Value × rx_H} {m : Nat} (hz : z_X7_readString F_X7_byteAt F_X7_keepString 4 [.ref 19, .int (x1 + 1), .int x2, .null] [] (wc (uI I 10 ((I 10) + 1)) L (uT T 8 (upd (T 8) (x1 : Int32).toNatClampNeg (vp_nar .byte (Int8.toInt32 (Int32.toInt8 r1))))) U) m = some rs) : z_X7_readString F_X7_byteAt F_X7_keepString 4 [.ref 19, .int x1, .int x2, .null] [] (wc I L T U) (m + 5) = some rs := (by
  refine ry_f h1 ?_
  refine ry_b h2 ?_
  refine ry_f h3 ?_
  refine ry_f h4 ?_
  refine ry_f h5 ?_
  refine ry_f h6 ?_
  refine ry_f h7 ?_
  refine Eq.trans (b := z_X7_readString F_X7_byteAt F_X7_keepString 4 [.ref 19, .int (x1 + 1), .int x2, .int r1] [] (wc (uI I 10 ((I 10) + 1)) L (uT T 8 (upd (T 8) (x1 : Int32).toNatClampNeg (vp_nar .byte (Int8.toInt32 (Int32.toInt8 r1))))) U) m) rfl ?_
  exact rz_fg (a := [.ref 19, .int (x1 + 1), .int x2, .int r1]) [3] (Nat.le_refl _) hz)
set_option maxRecDepth 100000 in
theorem q_X12_readString_38_14 (F_X12_keep : rx_F) (I : Nat → Int32) (T : Nat → Nat → Int32) (K : Nat → Int64) (x1 : Int32) (x2 : Int32) (x3 : Int32) (x4 : Int32) (x5 : Int32) (h1 : ¬ ((I 2) ≤ x5)) (h2 : ¬ (x3 ≤ 0)) (h3 : ¬ (x5 < 0 ∨ 300 ≤ (x5 : Int32).toNatClampNeg)) (h4 : ¬ (((T 0) (x5 : Int32).toNatClampNeg) = 92)) (h5 : ¬ (((T 0) (x5 : Int32).toNatClampNeg) = 40)) (h6 : ¬ (((T 0) (x5 : Int32).toNatClampNeg) = 41)) (h7 : ¬ (((T 0) (x5 : Int32).toNatClampNeg) = (Int32.ofInt (-1)))) (h8 : ¬ (x4 = 1)) {rs : Option Value × rx_H} {m : Nat} (hz : z_X12_readString F_X12_keep 38 [.ref 0, .int x1, .int (x2 + 1), .int x3, .int x4, .int (x5 + 1), .null, .null] [] (wr I T K) m = some rs) : z_X12_readString F_X12_keep 38 [.ref 0, .int x1, .int x2, .int x3, .int x4, .int x5, .null, .null] [] (wr I T K) (m + 10) = some rs := (by
  refine ry_f h1 ?_
  refine ry_f h2 ?_
  refine ry_f h3 ?_
  refine ry_f h4 ?_
  refine ry_t (c := (0 : Int32) = 0) (by decide) ?_
  refine ry_t (c := (0 : Int32) = 0) (by decide) ?_
  refine ry_f h5 ?_
  refine ry_f h6 ?_
  refine ry_f h2 ?_
  refine ry_f h7 ?_
  refine ry_f h8 ?_
  refine Eq.trans (b := z_X12_readString F_X12_keep 38 [.ref 0, .int x1, .int (x2 + 1), .int x3, .int x4, .int (x5 + 1), .int ((T 0) (x5 : Int32).toNatClampNeg), .int 0] [] (wr I T K) m) rfl ?_
  exact rz_fg (a := [.ref 0, .int x1, .int (x2 + 1), .int x3, .int x4, .int (x5 + 1), .int ((T 0) (x5 : Int32).toNatClampNeg), .int 0]) [6, 7] (Nat.le_refl _) hz)
set_option maxRecDepth 100000 in
theorem q_X12_readString_38_13 (F_X12_keep : rx_F) (I : Nat → Int32) (T : Nat → Nat → Int32) (K : Nat → Int64) (x1 : Int32) (x2 : Int32) (x3 : Int32) (x4 : Int32) (x5 : Int32) (h1 : ¬ ((I 2) ≤ x5)) (h2 : ¬ (x3 ≤ 0)) (h3 : ¬ (x5 < 0 ∨ 300 ≤ (x5 : Int32).toNatClampNeg)) (h4 : ¬ (((T 0) (x5 : Int32).toNatClampNeg) = 92)) (h5 : ¬ (((T 0) (x5 : Int32).toNatClampNeg) = 40)) (h6 : ¬ (((T 0) (x5 : Int32).toNatClampNeg) = 41)) (h7 : ¬ (((T 0) (x5 : Int32).toNatClampNeg) = (Int32.ofInt (-1)))) (h8 : x4 = 1) (h9 : ¬ ((x1 + x2) < 0 ∨ 600 ≤ ((x1 + x2) : Int32).toNatClampNeg)) {rs : Option Value × rx_H} {m : Nat} (hz : z_X12_readString F_X12_keep 38 [.ref 0, .int x1, .int (x2 + 1), .int x3, .int x4, .int (x5 + 1), .null, .null] [] (wr I (uT T 8 (upd (T 8) ((x1 + x2) : Int32).toNatClampNeg ((T 0) (x5 : Int32).toNatClampNeg))) K) m = some rs) : z_X12_readString F_X12_keep 38 [.ref 0, .int x1, .int x2, .int x3, .int x4, .int x5, .null, .null] [] (wr I T K) (m + 10) = some rs := (by
  refine ry_f h1 ?_
  refine ry_f h2 ?_
  refine ry_f h3 ?_
  refine ry_f h4 ?_
  refine ry_t (c := (0 : Int32) = 0) (by decide) ?_
  refine ry_t (c := (0 : Int32) = 0) (by decide) ?_
  refine ry_f h5 ?_
  refine ry_f h6 ?_
  refine ry_f h2 ?_
  refine ry_f h7 ?_
  refine ry_t h8 ?_
  refine ry_f h9 ?_
  refine Eq.trans (b := z_X12_readString F_X12_keep 38 [.ref 0, .int x1, .int (x2 + 1), .int x3, .int x4, .int (x5 + 1), .int ((T 0) (x5 : Int32).toNatClampNeg), .int 0] [] (wr I (uT T 8 (upd (T 8) ((x1 + x2) : Int32).toNatClampNeg ((T 0) (x5 : Int32).toNatClampNeg))) K) m) rfl ?_
  exact rz_fg (a := [.ref 0, .int x1, .int (x2 + 1), .int x3, .int x4, .int (x5 + 1), .int ((T 0) (x5 : Int32).toNatClampNeg), .int 0]) [6, 7] (Nat.le_refl _) hz)
