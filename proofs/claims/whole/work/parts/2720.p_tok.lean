noncomputable def z_X7_byteAt  : Nat → List Value → List Value → rx_H → Nat → rx_R := rz_run (rx_lkk kC_X7) (rx_lkf fL_X7) (rx_lkf fP_X7) (rx_lkg gS_X7) (rx_lkg fG_X7) cf_X7_byteAt (some .int) kd_X7_byteAt
set_option maxRecDepth 100000 in
theorem p_X7_byteAt_1 (I : Nat → Int32) (L : Nat → Int64) (T : Nat → Nat → Int32) (U : Nat → Nat → Int64) (a1 : Int32) (h1 : ¬ (a1 < 0)) (h2 : ¬ ((I 9) ≤ a1)) (h3 : ¬ ((Int16.toInt32 (Int16.ofInt 300)) ≤ a1)) (h4 : ¬ (a1 < 0 ∨ 300 ≤ (a1 : Int32).toNatClampNeg)) : f_X7_byteAt (wc I L T U) [.ref 19, .int a1] = some (some (.int (((T 7) (a1 : Int32).toNatClampNeg) &&& (Int16.toInt32 (Int16.ofInt 255)))), wc I L T U) := rz_en 2 (by decide) rfl (ry_f h1 (ry_f h2 (ry_f h3 (ry_f h4 rfl))))
set_option maxRecDepth 100000 in
theorem p_X7_byteAt_3 (I : Nat → Int32) (L : Nat → Int64) (T : Nat → Nat → Int32) (U : Nat → Nat → Int64) (a1 : Int32) (h1 : ¬ (a1 < 0)) (h2 : (I 9) ≤ a1) : f_X7_byteAt (wc I L T U) [.ref 19, .int a1] = some (some (.int (Int32.ofInt (-1))), wc I L T U) := rz_en 3 (by decide) rfl (ry_f h1 (ry_t h2 rfl))
noncomputable def z_X7_isRegular  : Nat → List Value → List Value → rx_H → Nat → rx_R := rz_run (rx_lkk kC_X7) (rx_lkf fL_X7) (rx_lkf fP_X7) (rx_lkg gS_X7) (rx_lkg fG_X7) cf_X7_isRegular (some .boolean) kd_X7_isRegular
set_option maxRecDepth 100000 in
theorem p_reg (I : Nat → Int32) (L : Nat → Int64) (T : Nat → Nat → Int32) (U : Nat → Nat → Int64) (a1 : Int32) {v : Int} {r : Int32} (h1 : ¬ (a1 ≤ 32)) (h2 : a1 ≤ 126) (hs : rx_lsw a1 91 [(37, 89), (40, 89), (41, 89), (47, 89), (60, 89), (62, 89), (91, 89), (93, 89), (123, 89), (125, 89)] = v) (hv : (v = 91 ∧ r = 1) ∨ (v = 89 ∧ r = 0)) : f_X7_isRegular (wc I L T U) [.int a1] = some (some (.int r), wc I L T U) := rz_en 3 (by decide) rfl (ry_f h1 (ry_t h2 (by
  refine Eq.trans (b := z_X7_isRegular ((15 : Int) + rx_lsw a1 91 [(37, 89), (40, 89), (41, 89), (47, 89), (60, 89), (62, 89), (91, 89), (93, 89), (123, 89), (125, 89)]).toNat [.int a1] [] (wc I L T U) 1) rfl ?_
  rw [hs]
  rcases hv with ⟨e1, e2⟩ | ⟨e1, e2⟩
  · subst e1 e2
    exact (ry_t (c := (1 : Int32) = 0 ∨ (1 : Int32) = 1) (by decide) rfl)
  · subst e1 e2
    exact (ry_t (c := (0 : Int32) = 0 ∨ (0 : Int32) = 1) (by decide) rfl))))
set_option maxRecDepth 100000 in
theorem p_X7_isRegular_2 (I : Nat → Int32) (L : Nat → Int64) (T : Nat → Nat → Int32) (U : Nat → Nat → Int64) (a1 : Int32) (h1 : a1 ≤ 32) : f_X7_isRegular (wc I L T U) [.int a1] = some (some (.int 0), wc I L T U) := rz_en 2 (by decide) rfl (ry_t h1 (ry_t (c := (0 : Int32) = 0 ∨ (0 : Int32) = 1) (by decide) rfl))
set_option maxRecDepth 100000 in
theorem p_X7_isRegular_1 (I : Nat → Int32) (L : Nat → Int64) (T : Nat → Nat → Int32) (U : Nat → Nat → Int64) (a1 : Int32) (h1 : ¬ (a1 ≤ 32)) (h2 : ¬ (a1 ≤ 126)) : f_X7_isRegular (wc I L T U) [.int a1] = some (some (.int 0), wc I L T U) := rz_en 2 (by decide) rfl (ry_f h1 (ry_f h2 (ry_t (c := (0 : Int32) = 0 ∨ (0 : Int32) = 1) (by decide) rfl)))
noncomputable def z_X12_isRegular  : Nat → List Value → List Value → rx_H → Nat → rx_R := rz_run (rx_lkk kC_X12) (rx_lkf fL_X12) (rx_lkf fP_X12) (rx_lkg gS_X12) (rx_lkg fG_X12) cf_X12_isRegular (some .boolean) kd_X12_isRegular
set_option maxRecDepth 100000 in
theorem p_X12_isRegular_2 (I : Nat → Int32) (T : Nat → Nat → Int32) (K : Nat → Int64) (a1 : Int32) (h1 : ¬ (a1 ≤ 32)) (h2 : ¬ (127 ≤ a1)) (h3 : ¬ (a1 = 37)) (h4 : ¬ (a1 = 123)) (h5 : ¬ (a1 = 125)) (h6 : ¬ (a1 = 91)) (h7 : ¬ (a1 = 93)) (h8 : ¬ (a1 = 60)) (h9 : ¬ (a1 = 62)) (h10 : ¬ (a1 = 40)) (h11 : ¬ (a1 = 41)) (h12 : a1 = 47) : f_X12_isRegular (wr I T K) [.int a1] = some (some (.int 0), wr I T K) := rz_en 3 (by decide) rfl (ry_f h1 (ry_f h2 (ry_f h3 (ry_f h4 (ry_f h5 (ry_f h6 (ry_f h7 (ry_f h8 (ry_f h9 (ry_f h10 (ry_f h11 (ry_t h12 (ry_t (c := (0 : Int32) = 0 ∨ (0 : Int32) = 1) (by decide) rfl)))))))))))))
set_option maxRecDepth 100000 in
theorem p_X12_isRegular_3 (I : Nat → Int32) (T : Nat → Nat → Int32) (K : Nat → Int64) (a1 : Int32) (h1 : ¬ (a1 ≤ 32)) (h2 : ¬ (127 ≤ a1)) (h3 : ¬ (a1 = 37)) (h4 : ¬ (a1 = 123)) (h5 : ¬ (a1 = 125)) (h6 : ¬ (a1 = 91)) (h7 : ¬ (a1 = 93)) (h8 : ¬ (a1 = 60)) (h9 : ¬ (a1 = 62)) (h10 : ¬ (a1 = 40)) (h11 : a1 = 41) : f_X12_isRegular (wr I T K) [.int a1] = some (some (.int 0), wr I T K) := rz_en 3 (by decide) rfl (ry_f h1 (ry_f h2 (ry_f h3 (ry_f h4 (ry_f h5 (ry_f h6 (ry_f h7 (ry_f h8 (ry_f h9 (ry_f h10 (ry_t h11 (ry_t (c := (0 : Int32) = 0 ∨ (0 : Int32) = 1) (by decide) rfl))))))))))))
set_option maxRecDepth 100000 in
theorem p_X12_isRegular_4 (I : Nat → Int32) (T : Nat → Nat → Int32) (K : Nat → Int64) (a1 : Int32) (h1 : ¬ (a1 ≤ 32)) (h2 : ¬ (127 ≤ a1)) (h3 : ¬ (a1 = 37)) (h4 : ¬ (a1 = 123)) (h5 : ¬ (a1 = 125)) (h6 : ¬ (a1 = 91)) (h7 : ¬ (a1 = 93)) (h8 : ¬ (a1 = 60)) (h9 : ¬ (a1 = 62)) (h10 : a1 = 40) : f_X12_isRegular (wr I T K) [.int a1] = some (some (.int 0), wr I T K) := rz_en 3 (by decide) rfl (ry_f h1 (ry_f h2 (ry_f h3 (ry_f h4 (ry_f h5 (ry_f h6 (ry_f h7 (ry_f h8 (ry_f h9 (ry_t h10 (ry_t (c := (0 : Int32) = 0 ∨ (0 : Int32) = 1) (by decide) rfl)))))))))))
set_option maxRecDepth 100000 in
theorem p_X12_isRegular_5 (I : Nat → Int32) (T : Nat → Nat → Int32) (K : Nat → Int64) (a1 : Int32) (h1 : ¬ (a1 ≤ 32)) (h2 : ¬ (127 ≤ a1)) (h3 : ¬ (a1 = 37)) (h4 : ¬ (a1 = 123)) (h5 : ¬ (a1 = 125)) (h6 : ¬ (a1 = 91)) (h7 : ¬ (a1 = 93)) (h8 : ¬ (a1 = 60)) (h9 : a1 = 62) : f_X12_isRegular (wr I T K) [.int a1] = some (some (.int 0), wr I T K) := rz_en 3 (by decide) rfl (ry_f h1 (ry_f h2 (ry_f h3 (ry_f h4 (ry_f h5 (ry_f h6 (ry_f h7 (ry_f h8 (ry_t h9 (ry_t (c := (0 : Int32) = 0 ∨ (0 : Int32) = 1) (by decide) rfl))))))))))
set_option maxRecDepth 100000 in
theorem p_X12_isRegular_6 (I : Nat → Int32) (T : Nat → Nat → Int32) (K : Nat → Int64) (a1 : Int32) (h1 : ¬ (a1 ≤ 32)) (h2 : ¬ (127 ≤ a1)) (h3 : ¬ (a1 = 37)) (h4 : ¬ (a1 = 123)) (h5 : ¬ (a1 = 125)) (h6 : ¬ (a1 = 91)) (h7 : ¬ (a1 = 93)) (h8 : a1 = 60) : f_X12_isRegular (wr I T K) [.int a1] = some (some (.int 0), wr I T K) := rz_en 3 (by decide) rfl (ry_f h1 (ry_f h2 (ry_f h3 (ry_f h4 (ry_f h5 (ry_f h6 (ry_f h7 (ry_t h8 (ry_t (c := (0 : Int32) = 0 ∨ (0 : Int32) = 1) (by decide) rfl)))))))))
set_option maxRecDepth 100000 in
theorem p_X12_isRegular_7 (I : Nat → Int32) (T : Nat → Nat → Int32) (K : Nat → Int64) (a1 : Int32) (h1 : ¬ (a1 ≤ 32)) (h2 : ¬ (127 ≤ a1)) (h3 : ¬ (a1 = 37)) (h4 : ¬ (a1 = 123)) (h5 : ¬ (a1 = 125)) (h6 : ¬ (a1 = 91)) (h7 : a1 = 93) : f_X12_isRegular (wr I T K) [.int a1] = some (some (.int 0), wr I T K) := rz_en 3 (by decide) rfl (ry_f h1 (ry_f h2 (ry_f h3 (ry_f h4 (ry_f h5 (ry_f h6 (ry_t h7 (ry_t (c := (0 : Int32) = 0 ∨ (0 : Int32) = 1) (by decide) rfl))))))))
set_option maxRecDepth 100000 in
theorem p_X12_isRegular_8 (I : Nat → Int32) (T : Nat → Nat → Int32) (K : Nat → Int64) (a1 : Int32) (h1 : ¬ (a1 ≤ 32)) (h2 : ¬ (127 ≤ a1)) (h3 : ¬ (a1 = 37)) (h4 : ¬ (a1 = 123)) (h5 : ¬ (a1 = 125)) (h6 : a1 = 91) : f_X12_isRegular (wr I T K) [.int a1] = some (some (.int 0), wr I T K) := rz_en 3 (by decide) rfl (ry_f h1 (ry_f h2 (ry_f h3 (ry_f h4 (ry_f h5 (ry_t h6 (ry_t (c := (0 : Int32) = 0 ∨ (0 : Int32) = 1) (by decide) rfl)))))))
set_option maxRecDepth 100000 in
theorem p_X12_isRegular_9 (I : Nat → Int32) (T : Nat → Nat → Int32) (K : Nat → Int64) (a1 : Int32) (h1 : ¬ (a1 ≤ 32)) (h2 : ¬ (127 ≤ a1)) (h3 : ¬ (a1 = 37)) (h4 : ¬ (a1 = 123)) (h5 : a1 = 125) : f_X12_isRegular (wr I T K) [.int a1] = some (some (.int 0), wr I T K) := rz_en 3 (by decide) rfl (ry_f h1 (ry_f h2 (ry_f h3 (ry_f h4 (ry_t h5 (ry_t (c := (0 : Int32) = 0 ∨ (0 : Int32) = 1) (by decide) rfl))))))
set_option maxRecDepth 100000 in
theorem p_X12_isRegular_10 (I : Nat → Int32) (T : Nat → Nat → Int32) (K : Nat → Int64) (a1 : Int32) (h1 : ¬ (a1 ≤ 32)) (h2 : ¬ (127 ≤ a1)) (h3 : ¬ (a1 = 37)) (h4 : a1 = 123) : f_X12_isRegular (wr I T K) [.int a1] = some (some (.int 0), wr I T K) := rz_en 3 (by decide) rfl (ry_f h1 (ry_f h2 (ry_f h3 (ry_t h4 (ry_t (c := (0 : Int32) = 0 ∨ (0 : Int32) = 1) (by decide) rfl)))))
set_option maxRecDepth 100000 in
theorem p_X12_isRegular_11 (I : Nat → Int32) (T : Nat → Nat → Int32) (K : Nat → Int64) (a1 : Int32) (h1 : ¬ (a1 ≤ 32)) (h2 : ¬ (127 ≤ a1)) (h3 : a1 = 37) : f_X12_isRegular (wr I T K) [.int a1] = some (some (.int 0), wr I T K) := rz_en 3 (by decide) rfl (ry_f h1 (ry_f h2 (ry_t h3 (ry_t (c := (0 : Int32) = 0 ∨ (0 : Int32) = 1) (by decide) rfl))))
set_option maxRecDepth 100000 in
theorem p_X12_isRegular_13 (I : Nat → Int32) (T : Nat → Nat → Int32) (K : Nat → Int64) (a1 : Int32) (h1 : a1 ≤ 32) : f_X12_isRegular (wr I T K) [.int a1] = some (some (.int 0), wr I T K) := rz_en 3 (by decide) rfl (ry_t h1 (ry_t (c := (0 : Int32) = 0 ∨ (0 : Int32) = 1) (by decide) rfl))
set_option maxRecDepth 100000 in
theorem p_X12_isRegular_12 (I : Nat → Int32) (T : Nat → Nat → Int32) (K : Nat → Int64) (a1 : Int32) (h1 : ¬ (a1 ≤ 32)) (h2 : 127 ≤ a1) : f_X12_isRegular (wr I T K) [.int a1] = some (some (.int 0), wr I T K) := rz_en 3 (by decide) rfl (ry_f h1 (ry_t h2 (ry_t (c := (0 : Int32) = 0 ∨ (0 : Int32) = 1) (by decide) rfl)))
set_option maxRecDepth 100000 in
theorem p_X12_isRegular_1 (I : Nat → Int32) (T : Nat → Nat → Int32) (K : Nat → Int64) (a1 : Int32) (h1 : ¬ (a1 ≤ 32)) (h2 : ¬ (127 ≤ a1)) (h3 : ¬ (a1 = 37)) (h4 : ¬ (a1 = 123)) (h5 : ¬ (a1 = 125)) (h6 : ¬ (a1 = 91)) (h7 : ¬ (a1 = 93)) (h8 : ¬ (a1 = 60)) (h9 : ¬ (a1 = 62)) (h10 : ¬ (a1 = 40)) (h11 : ¬ (a1 = 41)) (h12 : ¬ (a1 = 47)) : f_X12_isRegular (wr I T K) [.int a1] = some (some (.int 1), wr I T K) := rz_en 2 (by decide) rfl (ry_f h1 (ry_f h2 (ry_f h3 (ry_f h4 (ry_f h5 (ry_f h6 (ry_f h7 (ry_f h8 (ry_f h9 (ry_f h10 (ry_f h11 (ry_f h12 (ry_t (c := (1 : Int32) = 0 ∨ (1 : Int32) = 1) (by decide) rfl)))))))))))))
def cfv_X7_findToken (F_X7_byteAt : rx_F) : Instr → Option rx_C := rx_lkc [(45, (2, some 7, 0, 0, F_X7_byteAt))] [] []
def fv_X7_findToken (F_X7_byteAt : rx_F) : rx_F := rx_fn (rx_lkk kC_X7) (rx_lkf fL_X7) (rx_lkf fP_X7) (rx_lkg gS_X7) (rx_lkg fG_X7) (rx_lkw nW_X7) (cfv_X7_findToken F_X7_byteAt) (some .boolean) 0 0 3 kd_X7_findToken rx_fu
theorem fv_X7_findToken_eq : f_X7_findToken = fv_X7_findToken f_X7_byteAt := rfl
noncomputable def z_X7_findToken (F_X7_byteAt : rx_F) : Nat → List Value → List Value → rx_H → Nat → rx_R := rz_run (rx_lkk kC_X7) (rx_lkf fL_X7) (rx_lkf fP_X7) (rx_lkg gS_X7) (rx_lkg fG_X7) (cfv_X7_findToken F_X7_byteAt) (some .boolean) kd_X7_findToken
noncomputable def z_X12_passBlanks  : Nat → List Value → List Value → rx_H → Nat → rx_R := rz_run (rx_lkk kC_X12) (rx_lkf fL_X12) (rx_lkf fP_X12) (rx_lkg gS_X12) (rx_lkg fG_X12) cf_X12_passBlanks none kd_X12_passBlanks
set_option maxRecDepth 100000 in
theorem q_X7_findToken_2_6 (F_X7_byteAt : rx_F) (I : Nat → Int32) (L : Nat → Int64) (T : Nat → Nat → Int32) (U : Nat → Nat → Int64) (x1 : Int32) (h1 : (I 9) ≤ (I 10)) {m : Nat} : z_X7_findToken F_X7_byteAt 2 [.ref 19, .int x1, .null] [] (wc I L T U) (m + 2) = some (some (.int 0), wc I L T U) := (ry_t h1 (ry_t (c := (0 : Int32) = 0 ∨ (0 : Int32) = 1) (by decide) rfl))
set_option maxRecDepth 100000 in
theorem q_X12_passBlanks_2_4 (I : Nat → Int32) (T : Nat → Nat → Int32) (K : Nat → Int64) (x1 : Int32) (h1 : ¬ (x1 = 0)) (h2 : (I 2) ≤ (I 3)) {m : Nat} : z_X12_passBlanks 2 [.ref 0, .int x1] [] (wr I T K) (m + 2) = some (none, wr I T K) := (ry_f h1 (ry_t h2 rfl))
set_option maxRecDepth 100000 in
theorem q_X12_passBlanks_31_3 (I : Nat → Int32) (T : Nat → Nat → Int32) (K : Nat → Int64) (x1 : Int32) (h1 : (I 2) ≤ (I 3)) {rs : Option Value × rx_H} {m : Nat} (hz : z_X12_passBlanks 2 [.ref 0, .int x1] [] (wr I T K) m = some rs) : z_X12_passBlanks 31 [.ref 0, .int x1] [] (wr I T K) (m + 1) = some rs := (ry_t h1 hz)
set_option maxRecDepth 100000 in
theorem q_X7_findToken_2_1 (F_X7_byteAt : rx_F) (I : Nat → Int32) (L : Nat → Int64) (T : Nat → Nat → Int32) (U : Nat → Nat → Int64) (x1 : Int32) (r1 : Int32) (h1 : ¬ ((I 9) ≤ (I 10))) (h2 : F_X7_byteAt (wc I L T U) [.ref 19, .int (I 10)] = some (some (.int r1), wc I L T U)) (h3 : r1 = 37) {rs : Option Value × rx_H} {m : Nat} (hz : z_X7_findToken F_X7_byteAt 2 [.ref 19, .int 1, .null] [] (wc (uI I 10 ((I 10) + 1)) L T U) m = some rs) : z_X7_findToken F_X7_byteAt 2 [.ref 19, .int x1, .null] [] (wc I L T U) (m + 2) = some rs := (by
  refine ry_f h1 ?_
  refine ry_b h2 ?_
  refine ry_t h3 ?_
  refine Eq.trans (b := z_X7_findToken F_X7_byteAt 2 [.ref 19, .int 1, .int r1] [] (wc (uI I 10 ((I 10) + 1)) L T U) m) rfl ?_
  exact rz_fg (a := [.ref 19, .int 1, .int r1]) [2] (Nat.le_refl _) hz)
set_option maxRecDepth 100000 in
theorem q_X12_passBlanks_2_1 (I : Nat → Int32) (T : Nat → Nat → Int32) (K : Nat → Int64) (x1 : Int32) (h1 : ¬ (x1 = 0)) (h2 : ¬ ((I 2) ≤ (I 3))) (h3 : ¬ ((I 3) < 0 ∨ 300 ≤ ((I 3) : Int32).toNatClampNeg)) (h4 : ((T 0) ((I 3) : Int32).toNatClampNeg) = 37) {rs : Option Value × rx_H} {m : Nat} (hz : z_X12_passBlanks 31 [.ref 0, .int x1] [] (wr I T K) m = some rs) : z_X12_passBlanks 2 [.ref 0, .int x1] [] (wr I T K) (m + 1) = some rs := (ry_f h1 (ry_f h2 (ry_f h3 (ry_t h4 hz))))
set_option maxRecDepth 100000 in
theorem q_X12_passBlanks_31_1 (I : Nat → Int32) (T : Nat → Nat → Int32) (K : Nat → Int64) (x1 : Int32) (h1 : ¬ ((I 2) ≤ (I 3))) (h2 : ¬ ((I 3) < 0 ∨ 300 ≤ ((I 3) : Int32).toNatClampNeg)) (h3 : ¬ (((T 0) ((I 3) : Int32).toNatClampNeg) = 10)) {rs : Option Value × rx_H} {m : Nat} (hz : z_X12_passBlanks 31 [.ref 0, .int x1] [] (wr (uI I 3 ((I 3) + 1)) T K) m = some rs) : z_X12_passBlanks 31 [.ref 0, .int x1] [] (wr I T K) (m + 1) = some rs := (ry_f h1 (ry_f h2 (ry_f h3 hz)))
set_option maxRecDepth 100000 in
theorem q_X7_findToken_2_2 (F_X7_byteAt : rx_F) (I : Nat → Int32) (L : Nat → Int64) (T : Nat → Nat → Int32) (U : Nat → Nat → Int64) (x1 : Int32) (r1 : Int32) (h1 : ¬ ((I 9) ≤ (I 10))) (h2 : F_X7_byteAt (wc I L T U) [.ref 19, .int (I 10)] = some (some (.int r1), wc I L T U)) (h3 : ¬ (r1 = 37)) (h4 : r1 = 10) {rs : Option Value × rx_H} {m : Nat} (hz : z_X7_findToken F_X7_byteAt 2 [.ref 19, .int 0, .null] [] (wc (uI I 10 ((I 10) + 1)) L T U) m = some rs) : z_X7_findToken F_X7_byteAt 2 [.ref 19, .int x1, .null] [] (wc I L T U) (m + 3) = some rs := (by
  refine ry_f h1 ?_
  refine ry_b h2 ?_
  refine ry_f h3 ?_
  refine ry_t h4 ?_
  refine Eq.trans (b := z_X7_findToken F_X7_byteAt 2 [.ref 19, .int 0, .int r1] [] (wc (uI I 10 ((I 10) + 1)) L T U) m) rfl ?_
  exact rz_fg (a := [.ref 19, .int 0, .int r1]) [2] (Nat.le_refl _) hz)
set_option maxRecDepth 100000 in
theorem q_X7_findToken_2_4 (F_X7_byteAt : rx_F) (I : Nat → Int32) (L : Nat → Int64) (T : Nat → Nat → Int32) (U : Nat → Nat → Int64) (x1 : Int32) (r1 : Int32) (h1 : ¬ ((I 9) ≤ (I 10))) (h2 : F_X7_byteAt (wc I L T U) [.ref 19, .int (I 10)] = some (some (.int r1), wc I L T U)) (h3 : ¬ (r1 = 37)) (h4 : ¬ (r1 = 10)) (h5 : x1 = 0) (h6 : r1 ≤ 32) {rs : Option Value × rx_H} {m : Nat} (hz : z_X7_findToken F_X7_byteAt 2 [.ref 19, .int x1, .null] [] (wc (uI I 10 ((I 10) + 1)) L T U) m = some rs) : z_X7_findToken F_X7_byteAt 2 [.ref 19, .int x1, .null] [] (wc I L T U) (m + 4) = some rs := (by
  refine ry_f h1 ?_
  refine ry_b h2 ?_
  refine ry_f h3 ?_
  refine ry_f h4 ?_
  refine ry_t h5 ?_
  refine ry_t h6 ?_
  refine Eq.trans (b := z_X7_findToken F_X7_byteAt 2 [.ref 19, .int x1, .int r1] [] (wc (uI I 10 ((I 10) + 1)) L T U) m) rfl ?_
  exact rz_fg (a := [.ref 19, .int x1, .int r1]) [2] (Nat.le_refl _) hz)
set_option maxRecDepth 100000 in
theorem q_X12_passBlanks_2_2 (I : Nat → Int32) (T : Nat → Nat → Int32) (K : Nat → Int64) (x1 : Int32) (h1 : ¬ (x1 = 0)) (h2 : ¬ ((I 2) ≤ (I 3))) (h3 : ¬ ((I 3) < 0 ∨ 300 ≤ ((I 3) : Int32).toNatClampNeg)) (h4 : ¬ (((T 0) ((I 3) : Int32).toNatClampNeg) = 37)) (h5 : ¬ (32 < ((T 0) ((I 3) : Int32).toNatClampNeg))) {rs : Option Value × rx_H} {m : Nat} (hz : z_X12_passBlanks 2 [.ref 0, .int x1] [] (wr (uI I 3 ((I 3) + 1)) T K) m = some rs) : z_X12_passBlanks 2 [.ref 0, .int x1] [] (wr I T K) (m + 2) = some rs := (ry_f h1 (ry_f h2 (ry_f h3 (ry_f h4 (ry_f h3 (ry_f h5 hz))))))
set_option maxRecDepth 100000 in
theorem q_X7_findToken_2_3 (F_X7_byteAt : rx_F) (I : Nat → Int32) (L : Nat → Int64) (T : Nat → Nat → Int32) (U : Nat → Nat → Int64) (x1 : Int32) (r1 : Int32) (h1 : ¬ ((I 9) ≤ (I 10))) (h2 : F_X7_byteAt (wc I L T U) [.ref 19, .int (I 10)] = some (some (.int r1), wc I L T U)) (h3 : ¬ (r1 = 37)) (h4 : ¬ (r1 = 10)) (h5 : x1 = 0) (h6 : ¬ (r1 ≤ 32)) {m : Nat} : z_X7_findToken F_X7_byteAt 2 [.ref 19, .int x1, .null] [] (wc I L T U) (m + 3) = some (some (.int 1), wc I L T U) := (ry_f h1 (ry_b h2 (ry_f h3 (ry_f h4 (ry_t h5 (ry_f h6 (ry_t (c := (1 : Int32) = 0 ∨ (1 : Int32) = 1) (by decide) rfl)))))))
set_option maxRecDepth 100000 in
theorem q_X12_passBlanks_2_5 (I : Nat → Int32) (T : Nat → Nat → Int32) (K : Nat → Int64) (x1 : Int32) (h1 : x1 = 0) {m : Nat} : z_X12_passBlanks 2 [.ref 0, .int x1] [] (wr I T K) (m + 2) = some (none, wr I T K) := (ry_t h1 rfl)
set_option maxRecDepth 100000 in
theorem q_X12_passBlanks_2_3 (I : Nat → Int32) (T : Nat → Nat → Int32) (K : Nat → Int64) (x1 : Int32) (h1 : ¬ (x1 = 0)) (h2 : ¬ ((I 2) ≤ (I 3))) (h3 : ¬ ((I 3) < 0 ∨ 300 ≤ ((I 3) : Int32).toNatClampNeg)) (h4 : ¬ (((T 0) ((I 3) : Int32).toNatClampNeg) = 37)) (h5 : 32 < ((T 0) ((I 3) : Int32).toNatClampNeg)) {rs : Option Value × rx_H} {m : Nat} (hz : z_X12_passBlanks 2 [.ref 0, .int 0] [] (wr I T K) m = some rs) : z_X12_passBlanks 2 [.ref 0, .int x1] [] (wr I T K) (m + 3) = some rs := (ry_f h1 (ry_f h2 (ry_f h3 (ry_f h4 (ry_f h3 (ry_t h5 hz))))))
set_option maxRecDepth 100000 in
theorem q_X12_passBlanks_31_2 (I : Nat → Int32) (T : Nat → Nat → Int32) (K : Nat → Int64) (x1 : Int32) (h1 : ¬ ((I 2) ≤ (I 3))) (h2 : ¬ ((I 3) < 0 ∨ 300 ≤ ((I 3) : Int32).toNatClampNeg)) (h3 : ((T 0) ((I 3) : Int32).toNatClampNeg) = 10) {rs : Option Value × rx_H} {m : Nat} (hz : z_X12_passBlanks 2 [.ref 0, .int x1] [] (wr I T K) m = some rs) : z_X12_passBlanks 31 [.ref 0, .int x1] [] (wr I T K) (m + 1) = some rs := (ry_f h1 (ry_f h2 (ry_t h3 hz)))
set_option maxRecDepth 100000 in
theorem q_X7_findToken_2_5 (F_X7_byteAt : rx_F) (I : Nat → Int32) (L : Nat → Int64) (T : Nat → Nat → Int32) (U : Nat → Nat → Int64) (x1 : Int32) (r1 : Int32) (h1 : ¬ ((I 9) ≤ (I 10))) (h2 : F_X7_byteAt (wc I L T U) [.ref 19, .int (I 10)] = some (some (.int r1), wc I L T U)) (h3 : ¬ (r1 = 37)) (h4 : ¬ (r1 = 10)) (h5 : ¬ (x1 = 0)) {rs : Option Value × rx_H} {m : Nat} (hz : z_X7_findToken F_X7_byteAt 2 [.ref 19, .int x1, .null] [] (wc (uI I 10 ((I 10) + 1)) L T U) m = some rs) : z_X7_findToken F_X7_byteAt 2 [.ref 19, .int x1, .null] [] (wc I L T U) (m + 4) = some rs := (by
  refine ry_f h1 ?_
  refine ry_b h2 ?_
  refine ry_f h3 ?_
  refine ry_f h4 ?_
  refine ry_f h5 ?_
  refine Eq.trans (b := z_X7_findToken F_X7_byteAt 2 [.ref 19, .int x1, .int r1] [] (wc (uI I 10 ((I 10) + 1)) L T U) m) rfl ?_
  exact rz_fg (a := [.ref 19, .int x1, .int r1]) [2] (Nat.le_refl _) hz)
set_option maxRecDepth 100000 in
theorem p_X7_findToken_1 (F_X7_byteAt : rx_F) (I : Nat → Int32) (L : Nat → Int64) (T : Nat → Nat → Int32) (U : Nat → Nat → Int64)  {rs : Option Value × rx_H} {m : Nat} (hm : m + 1 ≤ 1000000000) (hz : z_X7_findToken F_X7_byteAt 2 [.ref 19, .int 0, .null] [] (wc I L T U) m = some rs) : fv_X7_findToken F_X7_byteAt (wc I L T U) [.ref 19] = some rs := rz_en (m + 1) hm rfl hz
set_option maxRecDepth 100000 in
theorem p_X12_passBlanks_1 (I : Nat → Int32) (T : Nat → Nat → Int32) (K : Nat → Int64)  {rs : Option Value × rx_H} {m : Nat} (hm : m + 1 ≤ 1000000000) (hz : z_X12_passBlanks 2 [.ref 0, .int 1] [] (wr I T K) m = some rs) : f_X12_passBlanks (wr I T K) [.ref 0] = some rs := rz_en (m + 1) hm rfl hz
