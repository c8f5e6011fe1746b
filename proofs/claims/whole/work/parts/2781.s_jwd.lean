section
variable {I I1 I2 I3 : Nat → Int32} {L L1 L2 L3 : Nat → Int64} {T T1 T2 T3 : Nat → Nat → Int32} {U U1 U2 U3 : Nat → Nat → Int64} {J J1 : Nat → Int32} {S S1 : Nat → Nat → Int32} {K K1 : Nat → Int64} {z f k : Nat} {b : Nat → Nat}
theorem s_rrL (h : TA z b I T J S) (hr : RRun z b f k) {m : Nat} {rs : Option Value × rx_H} (hm : m ≤ 1000) (hz : (z_X7_readRegular f_X7_byteAt f_X7_isDecimal f_X7_isToBase f_X7_keep f_X7_readName f_X7_isRegular f_X10_number) 2 [.ref 19, .int (nI f), .int (nI (f + k))] [] (wc I L T U) m = some rs) {a : Int32} (ea : a = nI f) : f_X7_readRegular (wc I L T U) [.ref 19, .int a] = some rs := by
  obtain ⟨hz3, e9, e2, ht⟩ := h
  obtain ⟨r1, r2, r3⟩ := hr
  obtain ⟨_, m', hq, hm', hzz⟩ := lpc (fun j (_ : Unit) m => (z_X7_readRegular f_X7_byteAt f_X7_isDecimal f_X7_isToBase f_X7_keep f_X7_readName f_X7_isRegular f_X10_number) 2 [.ref 19, .int (nI f), .int (nI (f + j))] [] (wc I L T U) m) (fun _ m => (z_X7_readRegular f_X7_byteAt f_X7_isDecimal f_X7_isToBase f_X7_keep f_X7_readName f_X7_isRegular f_X10_number) 2 [.ref 19, .int (nI f), .int (nI (f + k))] [] (wc I L T U) m) (fun _ _ => True) (fun _ => True) k 1 0 (by
    rintro j _ hj _
    obtain ⟨hb1, t1, t2⟩ := ht (f + j) (by omega)
    have rg := s_isReg (I := I) (L := L) (T := T) (U := U) (a := nI (b (f + j))) rfl hb1
    rw [rgn_1 (r2 j hj)] at rg
    have c1 : ¬ (I 9 ≤ nI (f + j)) := by
      rw [e9]
      exact nn_le (by omega) (by omega) (by omega)
    have n10 : ¬ (nI 1 = 0) := by decide
    refine .inl ⟨(), 1, Nat.le_refl _, trivial, fun m rs hz' => ?_⟩
    rw [show f + (j + 1) = f + j + 1 by omega, ← nI_add (f + j) 1] at hz'
    exact (q_X7_readRegular_2_1 f_X7_byteAt f_X7_isDecimal f_X7_isToBase f_X7_keep f_X7_readName f_X7_isRegular f_X10_number _ _ _ _ _ _ _ _ (by first | with_reducible assumption | (simp (disch := omega) only [i_lit, i_m1, pk_sub, nI_add, nI_ml, nI_ltI, nI_leI, nI_eq, nI_clamp, nI_l, lN_i, lg_nI, lg_geI, lg_leI, lg_gtI, lg_ltI, c16_160, c16_200, c16_255, c16_300, c16_600, c16_616, c16_1000, Nat.add_eq, vp_updL_at, upd_at, Nat.add_sub_cancel, Nat.add_zero, Nat.zero_add, Nat.sub_zero, uU_uU, uT_uT, uI_uI, uL_uL, uU_at, uT_at, uI_at, uL_at, uU_ne, uT_ne, uI_ne, uL_ne, uU_sw, uT_sw, uI_sw, uL_sw] <;> first | with_reducible assumption | omega) | omega | decide) (s_byteAt e9 hz3 rfl (show f + j < z by omega) hb1 t1) (rg) (by first | with_reducible assumption | (simp (disch := omega) only [i_lit, i_m1, pk_sub, nI_add, nI_ml, nI_ltI, nI_leI, nI_eq, nI_clamp, nI_l, lN_i, lg_nI, lg_geI, lg_leI, lg_gtI, lg_ltI, c16_160, c16_200, c16_255, c16_300, c16_600, c16_616, c16_1000, Nat.add_eq, vp_updL_at, upd_at, Nat.add_sub_cancel, Nat.add_zero, Nat.zero_add, Nat.sub_zero, uU_uU, uT_uT, uI_uI, uL_uL, uU_at, uT_at, uI_at, uL_at, uU_ne, uT_ne, uI_ne, uL_ne, uU_sw, uT_sw, uI_sw, uL_sw] <;> first | with_reducible assumption | omega) | omega | decide) hz')) (by
    rintro _ _
    exact ⟨(), 0, Nat.le_refl _, trivial, fun m rs hz' => hz'⟩) k 0 () (by omega) trivial
  have y := hzz m rs hz
  have hk : 1 * k ≤ 1 * 300 := Nat.mul_le_mul_left _ (by omega)
  subst ea
  rw [fv_X7_readRegular_eq]
  exact (p_X7_readRegular_1 f_X7_byteAt f_X7_isDecimal f_X7_isToBase f_X7_keep f_X7_readName f_X7_isRegular f_X10_number _ _ _ _ _ (m := m + m') (by omega) y)
/-- the end of a word -/
theorem rr_end (h : TA z b I T J S) (hr : RRun z b f k) : (f + k = z ∧ I 9 ≤ nI (f + k)) ∨ (f + k < z ∧ ¬ (I 9 ≤ nI (f + k)) ∧ f_X7_byteAt (wc I L T U) [.ref 19, .int (nI (f + k))] = some (some (.int (nI (b (f + k)))), wc I L T U) ∧ f_X7_isRegular (wc I L T U) [.int (nI (b (f + k)))] = some (some (.int (nI 0)), wc I L T U)) := by
  obtain ⟨hz3, e9, e2, ht⟩ := h
  obtain ⟨r1, r2, r3⟩ := hr
  by_cases c : f + k = z
  · refine .inl ⟨c, ?_⟩
    rw [e9]
    exact yy_le (by omega) (by omega) (by omega)
  · obtain ⟨hb1, t1, t2⟩ := ht (f + k) (by omega)
    have rg := s_isReg (I := I) (L := L) (T := T) (U := U) (a := nI (b (f + k))) rfl hb1
    rw [rgn_0 (r3.resolve_left c)] at rg
    refine .inr ⟨by omega, ?_, s_byteAt e9 hz3 rfl (by omega) hb1 t1, rg⟩
    rw [e9]
    exact nn_le (by omega) (by omega) (by omega)
theorem s_rrD (h : TA z b I T J S) (hr : RRun z b f k) {a c : Int32} (ea : a = nI f) (h1 : f_X7_isDecimal (wc I L T U) [.ref 19, .int (nI f), .int (nI (f + k))] = some (some (.int 1), wc I1 L1 T1 U1)) (h2 : f_X7_keep (wc (uI I1 10 (nI (f + k))) L1 T1 U1) [.ref 19, .long (eV (1, 0, 0, I1 13))] = some (some (.int c), wc I2 L2 T2 U2)) : f_X7_readRegular (wc I L T U) [.ref 19, .int a] = some (some (.int c), wc I2 L2 T2 U2) := by
  have n10 : ¬ ((1 : Int32) = 0) := by decide
  have c3 : nI 0 = 0 := rfl
  rcases rr_end (L := L) (U := U) h hr with ⟨_, c1⟩ | ⟨_, c1, b1, g1⟩
  · exact s_rrL h hr (m := 0 + 3) (by decide) (q_X7_readRegular_2_7 f_X7_byteAt f_X7_isDecimal f_X7_isToBase f_X7_keep f_X7_readName f_X7_isRegular f_X10_number _ _ _ _ _ _ _ _ _ _ _ _ _ _ _ _ _ (by first | with_reducible assumption | (simp (disch := omega) only [i_lit, i_m1, pk_sub, nI_add, nI_ml, nI_ltI, nI_leI, nI_eq, nI_clamp, nI_l, lN_i, lg_nI, lg_geI, lg_leI, lg_gtI, lg_ltI, c16_160, c16_200, c16_255, c16_300, c16_600, c16_616, c16_1000, Nat.add_eq, vp_updL_at, upd_at, Nat.add_sub_cancel, Nat.add_zero, Nat.zero_add, Nat.sub_zero, uU_uU, uT_uT, uI_uI, uL_uL, uU_at, uT_at, uI_at, uL_at, uU_ne, uT_ne, uI_ne, uL_ne, uU_sw, uT_sw, uI_sw, uL_sw] <;> first | with_reducible assumption | omega) | omega | decide) (h1) (by first | with_reducible assumption | (simp (disch := omega) only [i_lit, i_m1, pk_sub, nI_add, nI_ml, nI_ltI, nI_leI, nI_eq, nI_clamp, nI_l, lN_i, lg_nI, lg_geI, lg_leI, lg_gtI, lg_ltI, c16_160, c16_200, c16_255, c16_300, c16_600, c16_616, c16_1000, Nat.add_eq, vp_updL_at, upd_at, Nat.add_sub_cancel, Nat.add_zero, Nat.zero_add, Nat.sub_zero, uU_uU, uT_uT, uI_uI, uL_uL, uU_at, uT_at, uI_at, uL_at, uU_ne, uT_ne, uI_ne, uL_ne, uU_sw, uT_sw, uI_sw, uL_sw] <;> first | with_reducible assumption | omega) | omega | decide) (s_number) (h2)) ea
  · exact s_rrL h hr (m := 0 + 3) (by decide) (q_X7_readRegular_2_4 f_X7_byteAt f_X7_isDecimal f_X7_isToBase f_X7_keep f_X7_readName f_X7_isRegular f_X10_number _ _ _ _ _ _ _ _ _ _ _ _ _ _ _ _ _ _ _ (by first | with_reducible assumption | (simp (disch := omega) only [i_lit, i_m1, pk_sub, nI_add, nI_ml, nI_ltI, nI_leI, nI_eq, nI_clamp, nI_l, lN_i, lg_nI, lg_geI, lg_leI, lg_gtI, lg_ltI, c16_160, c16_200, c16_255, c16_300, c16_600, c16_616, c16_1000, Nat.add_eq, vp_updL_at, upd_at, Nat.add_sub_cancel, Nat.add_zero, Nat.zero_add, Nat.sub_zero, uU_uU, uT_uT, uI_uI, uL_uL, uU_at, uT_at, uI_at, uL_at, uU_ne, uT_ne, uI_ne, uL_ne, uU_sw, uT_sw, uI_sw, uL_sw] <;> first | with_reducible assumption | omega) | omega | decide) (b1) (g1) (by first | with_reducible assumption | (simp (disch := omega) only [i_lit, i_m1, pk_sub, nI_add, nI_ml, nI_ltI, nI_leI, nI_eq, nI_clamp, nI_l, lN_i, lg_nI, lg_geI, lg_leI, lg_gtI, lg_ltI, c16_160, c16_200, c16_255, c16_300, c16_600, c16_616, c16_1000, Nat.add_eq, vp_updL_at, upd_at, Nat.add_sub_cancel, Nat.add_zero, Nat.zero_add, Nat.sub_zero, uU_uU, uT_uT, uI_uI, uL_uL, uU_at, uT_at, uI_at, uL_at, uU_ne, uT_ne, uI_ne, uL_ne, uU_sw, uT_sw, uI_sw, uL_sw] <;> first | with_reducible assumption | omega) | omega | decide) (h1) (by first | with_reducible assumption | (simp (disch := omega) only [i_lit, i_m1, pk_sub, nI_add, nI_ml, nI_ltI, nI_leI, nI_eq, nI_clamp, nI_l, lN_i, lg_nI, lg_geI, lg_leI, lg_gtI, lg_ltI, c16_160, c16_200, c16_255, c16_300, c16_600, c16_616, c16_1000, Nat.add_eq, vp_updL_at, upd_at, Nat.add_sub_cancel, Nat.add_zero, Nat.zero_add, Nat.sub_zero, uU_uU, uT_uT, uI_uI, uL_uL, uU_at, uT_at, uI_at, uL_at, uU_ne, uT_ne, uI_ne, uL_ne, uU_sw, uT_sw, uI_sw, uL_sw] <;> first | with_reducible assumption | omega) | omega | decide) (s_number) (h2)) ea
theorem s_rrB (h : TA z b I T J S) (hr : RRun z b f k) {a c : Int32} (ea : a = nI f) (h1 : f_X7_isDecimal (wc I L T U) [.ref 19, .int (nI f), .int (nI (f + k))] = some (some (.int 0), wc I1 L1 T1 U1)) (h2 : f_X7_isToBase (wc I1 L1 T1 U1) [.ref 19, .int (nI f), .int (nI (f + k))] = some (some (.int 1), wc I2 L2 T2 U2)) (h3 : f_X7_keep (wc (uI I2 10 (nI (f + k))) L2 T2 U2) [.ref 19, .long (eV (1, 0, 0, I2 13))] = some (some (.int c), wc I3 L3 T3 U3)) : f_X7_readRegular (wc I L T U) [.ref 19, .int a] = some (some (.int c), wc I3 L3 T3 U3) := by
  have n10 : ¬ ((1 : Int32) = 0) := by decide
  have z0 : (0 : Int32) = 0 := rfl
  have c3 : nI 0 = 0 := rfl
  rcases rr_end (L := L) (U := U) h hr with ⟨_, c1⟩ | ⟨_, c1, b1, g1⟩
  · exact s_rrL h hr (m := 0 + 3) (by decide) (q_X7_readRegular_2_5 f_X7_byteAt f_X7_isDecimal f_X7_isToBase f_X7_keep f_X7_readName f_X7_isRegular f_X10_number _ _ _ _ _ _ _ _ _ _ _ _ _ _ _ _ _ _ _ _ _ _ (by first | with_reducible assumption | (simp (disch := omega) only [i_lit, i_m1, pk_sub, nI_add, nI_ml, nI_ltI, nI_leI, nI_eq, nI_clamp, nI_l, lN_i, lg_nI, lg_geI, lg_leI, lg_gtI, lg_ltI, c16_160, c16_200, c16_255, c16_300, c16_600, c16_616, c16_1000, Nat.add_eq, vp_updL_at, upd_at, Nat.add_sub_cancel, Nat.add_zero, Nat.zero_add, Nat.sub_zero, uU_uU, uT_uT, uI_uI, uL_uL, uU_at, uT_at, uI_at, uL_at, uU_ne, uT_ne, uI_ne, uL_ne, uU_sw, uT_sw, uI_sw, uL_sw] <;> first | with_reducible assumption | omega) | omega | decide) (h1) (by first | with_reducible assumption | (simp (disch := omega) only [i_lit, i_m1, pk_sub, nI_add, nI_ml, nI_ltI, nI_leI, nI_eq, nI_clamp, nI_l, lN_i, lg_nI, lg_geI, lg_leI, lg_gtI, lg_ltI, c16_160, c16_200, c16_255, c16_300, c16_600, c16_616, c16_1000, Nat.add_eq, vp_updL_at, upd_at, Nat.add_sub_cancel, Nat.add_zero, Nat.zero_add, Nat.sub_zero, uU_uU, uT_uT, uI_uI, uL_uL, uU_at, uT_at, uI_at, uL_at, uU_ne, uT_ne, uI_ne, uL_ne, uU_sw, uT_sw, uI_sw, uL_sw] <;> first | with_reducible assumption | omega) | omega | decide) (h2) (by first | with_reducible assumption | (simp (disch := omega) only [i_lit, i_m1, pk_sub, nI_add, nI_ml, nI_ltI, nI_leI, nI_eq, nI_clamp, nI_l, lN_i, lg_nI, lg_geI, lg_leI, lg_gtI, lg_ltI, c16_160, c16_200, c16_255, c16_300, c16_600, c16_616, c16_1000, Nat.add_eq, vp_updL_at, upd_at, Nat.add_sub_cancel, Nat.add_zero, Nat.zero_add, Nat.sub_zero, uU_uU, uT_uT, uI_uI, uL_uL, uU_at, uT_at, uI_at, uL_at, uU_ne, uT_ne, uI_ne, uL_ne, uU_sw, uT_sw, uI_sw, uL_sw] <;> first | with_reducible assumption | omega) | omega | decide) (s_number) (h3)) ea
  · exact s_rrL h hr (m := 0 + 3) (by decide) (q_X7_readRegular_2_2 f_X7_byteAt f_X7_isDecimal f_X7_isToBase f_X7_keep f_X7_readName f_X7_isRegular f_X10_number _ _ _ _ _ _ _ _ _ _ _ _ _ _ _ _ _ _ _ _ _ _ _ _ (by first | with_reducible assumption | (simp (disch := omega) only [i_lit, i_m1, pk_sub, nI_add, nI_ml, nI_ltI, nI_leI, nI_eq, nI_clamp, nI_l, lN_i, lg_nI, lg_geI, lg_leI, lg_gtI, lg_ltI, c16_160, c16_200, c16_255, c16_300, c16_600, c16_616, c16_1000, Nat.add_eq, vp_updL_at, upd_at, Nat.add_sub_cancel, Nat.add_zero, Nat.zero_add, Nat.sub_zero, uU_uU, uT_uT, uI_uI, uL_uL, uU_at, uT_at, uI_at, uL_at, uU_ne, uT_ne, uI_ne, uL_ne, uU_sw, uT_sw, uI_sw, uL_sw] <;> first | with_reducible assumption | omega) | omega | decide) (b1) (g1) (by first | with_reducible assumption | (simp (disch := omega) only [i_lit, i_m1, pk_sub, nI_add, nI_ml, nI_ltI, nI_leI, nI_eq, nI_clamp, nI_l, lN_i, lg_nI, lg_geI, lg_leI, lg_gtI, lg_ltI, c16_160, c16_200, c16_255, c16_300, c16_600, c16_616, c16_1000, Nat.add_eq, vp_updL_at, upd_at, Nat.add_sub_cancel, Nat.add_zero, Nat.zero_add, Nat.sub_zero, uU_uU, uT_uT, uI_uI, uL_uL, uU_at, uT_at, uI_at, uL_at, uU_ne, uT_ne, uI_ne, uL_ne, uU_sw, uT_sw, uI_sw, uL_sw] <;> first | with_reducible assumption | omega) | omega | decide) (h1) (by first | with_reducible assumption | (simp (disch := omega) only [i_lit, i_m1, pk_sub, nI_add, nI_ml, nI_ltI, nI_leI, nI_eq, nI_clamp, nI_l, lN_i, lg_nI, lg_geI, lg_leI, lg_gtI, lg_ltI, c16_160, c16_200, c16_255, c16_300, c16_600, c16_616, c16_1000, Nat.add_eq, vp_updL_at, upd_at, Nat.add_sub_cancel, Nat.add_zero, Nat.zero_add, Nat.sub_zero, uU_uU, uT_uT, uI_uI, uL_uL, uU_at, uT_at, uI_at, uL_at, uU_ne, uT_ne, uI_ne, uL_ne, uU_sw, uT_sw, uI_sw, uL_sw] <;> first | with_reducible assumption | omega) | omega | decide) (h2) (by first | with_reducible assumption | (simp (disch := omega) only [i_lit, i_m1, pk_sub, nI_add, nI_ml, nI_ltI, nI_leI, nI_eq, nI_clamp, nI_l, lN_i, lg_nI, lg_geI, lg_leI, lg_gtI, lg_ltI, c16_160, c16_200, c16_255, c16_300, c16_600, c16_616, c16_1000, Nat.add_eq, vp_updL_at, upd_at, Nat.add_sub_cancel, Nat.add_zero, Nat.zero_add, Nat.sub_zero, uU_uU, uT_uT, uI_uI, uL_uL, uU_at, uT_at, uI_at, uL_at, uU_ne, uT_ne, uI_ne, uL_ne, uU_sw, uT_sw, uI_sw, uL_sw] <;> first | with_reducible assumption | omega) | omega | decide) (s_number) (h3)) ea
theorem s_rrN (h : TA z b I T J S) (hr : RRun z b f k) {a c : Int32} (ea : a = nI f) (h1 : f_X7_isDecimal (wc I L T U) [.ref 19, .int (nI f), .int (nI (f + k))] = some (some (.int 0), wc I1 L1 T1 U1)) (h2 : f_X7_isToBase (wc I1 L1 T1 U1) [.ref 19, .int (nI f), .int (nI (f + k))] = some (some (.int 0), wc I2 L2 T2 U2)) (h3 : f_X7_readName (wc I2 L2 T2 U2) [.ref 19, .int (nI f), .int 0] = some (some (.int c), wc I3 L3 T3 U3)) : f_X7_readRegular (wc I L T U) [.ref 19, .int a] = some (some (.int c), wc I3 L3 T3 U3) := by
  have z0 : (0 : Int32) = 0 := rfl
  have c3 : nI 0 = 0 := rfl
  rcases rr_end (L := L) (U := U) h hr with ⟨_, c1⟩ | ⟨_, c1, b1, g1⟩
  · exact s_rrL h hr (m := 0 + 3) (by decide) (q_X7_readRegular_2_6 f_X7_byteAt f_X7_isDecimal f_X7_isToBase f_X7_keep f_X7_readName f_X7_isRegular f_X10_number _ _ _ _ _ _ _ _ _ _ _ _ _ _ _ _ _ _ _ _ _ (by first | with_reducible assumption | (simp (disch := omega) only [i_lit, i_m1, pk_sub, nI_add, nI_ml, nI_ltI, nI_leI, nI_eq, nI_clamp, nI_l, lN_i, lg_nI, lg_geI, lg_leI, lg_gtI, lg_ltI, c16_160, c16_200, c16_255, c16_300, c16_600, c16_616, c16_1000, Nat.add_eq, vp_updL_at, upd_at, Nat.add_sub_cancel, Nat.add_zero, Nat.zero_add, Nat.sub_zero, uU_uU, uT_uT, uI_uI, uL_uL, uU_at, uT_at, uI_at, uL_at, uU_ne, uT_ne, uI_ne, uL_ne, uU_sw, uT_sw, uI_sw, uL_sw] <;> first | with_reducible assumption | omega) | omega | decide) (h1) (by first | with_reducible assumption | (simp (disch := omega) only [i_lit, i_m1, pk_sub, nI_add, nI_ml, nI_ltI, nI_leI, nI_eq, nI_clamp, nI_l, lN_i, lg_nI, lg_geI, lg_leI, lg_gtI, lg_ltI, c16_160, c16_200, c16_255, c16_300, c16_600, c16_616, c16_1000, Nat.add_eq, vp_updL_at, upd_at, Nat.add_sub_cancel, Nat.add_zero, Nat.zero_add, Nat.sub_zero, uU_uU, uT_uT, uI_uI, uL_uL, uU_at, uT_at, uI_at, uL_at, uU_ne, uT_ne, uI_ne, uL_ne, uU_sw, uT_sw, uI_sw, uL_sw] <;> first | with_reducible assumption | omega) | omega | decide) (h2) (by first | with_reducible assumption | (simp (disch := omega) only [i_lit, i_m1, pk_sub, nI_add, nI_ml, nI_ltI, nI_leI, nI_eq, nI_clamp, nI_l, lN_i, lg_nI, lg_geI, lg_leI, lg_gtI, lg_ltI, c16_160, c16_200, c16_255, c16_300, c16_600, c16_616, c16_1000, Nat.add_eq, vp_updL_at, upd_at, Nat.add_sub_cancel, Nat.add_zero, Nat.zero_add, Nat.sub_zero, uU_uU, uT_uT, uI_uI, uL_uL, uU_at, uT_at, uI_at, uL_at, uU_ne, uT_ne, uI_ne, uL_ne, uU_sw, uT_sw, uI_sw, uL_sw] <;> first | with_reducible assumption | omega) | omega | decide) (h3)) ea
  · exact s_rrL h hr (m := 0 + 3) (by decide) (q_X7_readRegular_2_3 f_X7_byteAt f_X7_isDecimal f_X7_isToBase f_X7_keep f_X7_readName f_X7_isRegular f_X10_number _ _ _ _ _ _ _ _ _ _ _ _ _ _ _ _ _ _ _ _ _ _ _ (by first | with_reducible assumption | (simp (disch := omega) only [i_lit, i_m1, pk_sub, nI_add, nI_ml, nI_ltI, nI_leI, nI_eq, nI_clamp, nI_l, lN_i, lg_nI, lg_geI, lg_leI, lg_gtI, lg_ltI, c16_160, c16_200, c16_255, c16_300, c16_600, c16_616, c16_1000, Nat.add_eq, vp_updL_at, upd_at, Nat.add_sub_cancel, Nat.add_zero, Nat.zero_add, Nat.sub_zero, uU_uU, uT_uT, uI_uI, uL_uL, uU_at, uT_at, uI_at, uL_at, uU_ne, uT_ne, uI_ne, uL_ne, uU_sw, uT_sw, uI_sw, uL_sw] <;> first | with_reducible assumption | omega) | omega | decide) (b1) (g1) (by first | with_reducible assumption | (simp (disch := omega) only [i_lit, i_m1, pk_sub, nI_add, nI_ml, nI_ltI, nI_leI, nI_eq, nI_clamp, nI_l, lN_i, lg_nI, lg_geI, lg_leI, lg_gtI, lg_ltI, c16_160, c16_200, c16_255, c16_300, c16_600, c16_616, c16_1000, Nat.add_eq, vp_updL_at, upd_at, Nat.add_sub_cancel, Nat.add_zero, Nat.zero_add, Nat.sub_zero, uU_uU, uT_uT, uI_uI, uL_uL, uU_at, uT_at, uI_at, uL_at, uU_ne, uT_ne, uI_ne, uL_ne, uU_sw, uT_sw, uI_sw, uL_sw] <;> first | with_reducible assumption | omega) | omega | decide) (h1) (by first | with_reducible assumption | (simp (disch := omega) only [i_lit, i_m1, pk_sub, nI_add, nI_ml, nI_ltI, nI_leI, nI_eq, nI_clamp, nI_l, lN_i, lg_nI, lg_geI, lg_leI, lg_gtI, lg_ltI, c16_160, c16_200, c16_255, c16_300, c16_600, c16_616, c16_1000, Nat.add_eq, vp_updL_at, upd_at, Nat.add_sub_cancel, Nat.add_zero, Nat.zero_add, Nat.sub_zero, uU_uU, uT_uT, uI_uI, uL_uL, uU_at, uT_at, uI_at, uL_at, uU_ne, uT_ne, uI_ne, uL_ne, uU_sw, uT_sw, uI_sw, uL_sw] <;> first | with_reducible assumption | omega) | omega | decide) (h2) (by first | with_reducible assumption | (simp (disch := omega) only [i_lit, i_m1, pk_sub, nI_add, nI_ml, nI_ltI, nI_leI, nI_eq, nI_clamp, nI_l, lN_i, lg_nI, lg_geI, lg_leI, lg_gtI, lg_ltI, c16_160, c16_200, c16_255, c16_300, c16_600, c16_616, c16_1000, Nat.add_eq, vp_updL_at, upd_at, Nat.add_sub_cancel, Nat.add_zero, Nat.zero_add, Nat.sub_zero, uU_uU, uT_uT, uI_uI, uL_uL, uU_at, uT_at, uI_at, uL_at, uU_ne, uT_ne, uI_ne, uL_ne, uU_sw, uT_sw, uI_sw, uL_sw] <;> first | with_reducible assumption | omega) | omega | decide) (h3)) ea
/-- the reference's word: into its block 34 -/
theorem t_rw0 (h : TA z b I T J S) (hr : RRun z b f k) (hf : f < z) (e3 : J 3 = nI f) {s m : Nat} (hs : s = if b f = 43 ∨ b f = 45 then f + 1 else f) {rs : Option Value × rx_H} (hm : m ≤ 1000) (hz : (z_X12_readWord f_X12_passRegular f_X12_areDigits f_X12_numberOf f_X12_keep f_X12_keepName) 34 [.ref 0, .int (nI f), .null, .null, .null] [.int (nI s)] (wr (uI J 3 (nI (f + k))) S K) m = some rs) : f_X12_readWord (wr J S K) [.ref 0] = some rs := by
  have hz3 := h.1
  have ps := t_pass (K := K) h hr e3
  obtain ⟨hb, t1, t2⟩ := h.2.2.2 f hf
  have c2 : ¬ (nI f < 0 ∨ 300 ≤ (nI f : Int32).toNatClampNeg) := by
    rw [nI_clamp (by omega), i_lit 0, nI_ltI (by omega) (by decide)]
    omega
  have tc : S 0 (nI f : Int32).toNatClampNeg = nI (b f) := by
    rw [nI_clamp (by omega)]
    exact t2
  rw [fv_X12_readWord_eq]
  by_cases c43 : b f = 43
  · rw [if_pos (.inl c43)] at hs
    rw [hs, ← nI_add f 1] at hz
    exact rw_0a f_X12_passRegular f_X12_areDigits f_X12_numberOf f_X12_keep f_X12_keepName _ _ _ _ _ _ _ ps c2 (by rw [tc, c43]; rfl) (by omega) hz
  · have n43 : ¬ (S 0 (nI f : Int32).toNatClampNeg = 43) := by
      rw [tc]
      exact nn_eq (b := 43) (by omega) (by decide) c43
    by_cases c45 : b f = 45
    · rw [if_pos (.inr c45)] at hs
      rw [hs, ← nI_add f 1] at hz
      exact rw_0b f_X12_passRegular f_X12_areDigits f_X12_numberOf f_X12_keep f_X12_keepName _ _ _ _ _ _ _ ps c2 n43 (by rw [tc, c45]; rfl) (by omega) hz
    · rw [if_neg (by omega)] at hs
      rw [hs] at hz
      have n45 : ¬ (S 0 (nI f : Int32).toNatClampNeg = 45) := by
        rw [tc]
        exact nn_eq (b := 45) (by omega) (by decide) c45
      exact rw_0c f_X12_passRegular f_X12_areDigits f_X12_numberOf f_X12_keep f_X12_keepName _ _ _ _ _ _ _ ps c2 n43 n45 (by omega) hz
theorem t_rwD (h : TA z b I T J S) (hr : RRun z b f k) (hf : f < z) (e3 : J 3 = nI f) {s : Nat} (hs : s = if b f = 43 ∨ b f = 45 then f + 1 else f) (ha : alld 10 b s (f + k)) (hk : f_X12_keep (wr (uI J 3 (nI (f + k))) S K) [.ref 0, .int 1, .int (if b f = 45 then - dval 10 b s (f + k - s) else dval 10 b s (f + k - s)), .int 0, .int 0, .int 0] = some (none, wr J1 S1 K1)) : f_X12_readWord (wr J S K) [.ref 0] = some (none, wr J1 S1 K1) := by
  have hz3 := h.1
  have hfk := hr.1
  obtain ⟨hb, t1, t2⟩ := h.2.2.2 f hf
  have hs2 : s ≤ f + 1 := by
    rw [hs]
    split <;> omega
  have h' : TA z b I T (uI J 3 (nI (f + k))) S := h
  have a1 := t_ad (K := K) (J := uI J 3 (nI (f + k))) h' (x := nI s) (y := uI J 3 (nI (f + k)) 3) (w := 10) rfl (uI_at _ _ _) (i_lit 10) hfk (by omega) (by decide) (.inl ⟨rfl, ha⟩)
  have a2 := t_no (K := K) (J := uI J 3 (nI (f + k))) h' (x := nI s) (y := uI J 3 (nI (f + k)) 3) (w := 10) rfl (uI_at _ _ _) (i_lit 10) hfk (by decide) ha
  have c2 : ¬ (nI f < 0 ∨ 300 ≤ (nI f : Int32).toNatClampNeg) := by
    rw [nI_clamp (by omega), i_lit 0, nI_ltI (by omega) (by decide)]
    omega
  have tc : S 0 (nI f : Int32).toNatClampNeg = nI (b f) := by
    rw [nI_clamp (by omega)]
    exact t2
  have n10 : ¬ (nI 1 = 0) := by decide
  by_cases c45 : b f = 45
  · rw [if_pos c45] at hk
    exact t_rw0 h hr hf e3 hs (m := 0 + 2) (by decide) (rw_1m f_X12_passRegular f_X12_areDigits f_X12_numberOf f_X12_keep f_X12_keepName _ _ _ _ _ _ _ _ _ _ a1 n10 a2 c2 (by rw [tc, c45]; rfl) hk)
  · rw [if_neg c45] at hk
    exact t_rw0 h hr hf e3 hs (m := 0 + 3) (by decide) (rw_1p f_X12_passRegular f_X12_areDigits f_X12_numberOf f_X12_keep f_X12_keepName _ _ _ _ _ _ _ _ _ _ a1 n10 a2 c2 (by rw [tc]; exact nn_eq (b := 45) (by omega) (by decide) c45) hk)
/-- into its block 146, with the base's end; or without one -/
theorem t_rw1 (h : TA z b I T J S) (hr : RRun z b f k) (hf : f < z) (e3 : J 3 = nI f) {s m : Nat} (hs : s = if b f = 43 ∨ b f = 45 then f + 1 else f) (ha : ¬ alld 10 b s (f + k)) {rs : Option Value × rx_H} {c : Int32} (hc : (∃ hh, WCut b f (f + k) hh ∧ c = nI hh) ∨ ((∀ hh, ¬ WCut b f (f + k) hh) ∧ c = Int32.ofInt (-1))) (hm : m ≤ 900) (hz : (z_X12_readWord f_X12_passRegular f_X12_areDigits f_X12_numberOf f_X12_keep f_X12_keepName) 146 [.ref 0, .int (nI f), .int (nI s), .null, .null] [.int c] (wr (uI J 3 (nI (f + k))) S K) m = some rs) : f_X12_readWord (wr J S K) [.ref 0] = some rs := by
  have hz3 := h.1
  have hfk := hr.1
  have hs2 : s ≤ f + 1 := by
    rw [hs]
    split <;> omega
  have h' : TA z b I T (uI J 3 (nI (f + k))) S := h
  have a1 := t_ad (K := K) (J := uI J 3 (nI (f + k))) h' (x := nI s) (y := uI J 3 (nI (f + k)) 3) (w := 10) rfl (uI_at _ _ _) (i_lit 10) hfk (by omega) (by decide) (.inr ⟨rfl, ha⟩)
  have c0 : nI 0 = 0 := rfl
  have key : ∃ m2, m2 ≤ 4 ∧ (z_X12_readWord f_X12_passRegular f_X12_areDigits f_X12_numberOf f_X12_keep f_X12_keepName) 87 [.ref 0, .int (nI f), .int (nI s), .null, .null] [] (wr (uI J 3 (nI (f + k))) S K) (m + m2) = some rs := by
    have n1 : nI f + 1 = nI (f + 1) := nI_add f 1
    have n2 : nI f + 2 = nI (f + 2) := nI_add f 2
    have b1 : ¬ ((nI f + 1) < 0 ∨ 300 ≤ ((nI f + 1) : Int32).toNatClampNeg) ∨ z ≤ f + 1 := by
      by_cases q : f + 1 < z
      · left
        rw [n1, nI_clamp (by omega), i_lit 0, nI_ltI (by omega) (by decide)]
        omega
      · exact .inr (by omega)
    have b2 : ¬ ((nI f + 2) < 0 ∨ 300 ≤ ((nI f + 2) : Int32).toNatClampNeg) ∨ z ≤ f + 2 := by
      by_cases q : f + 2 < z
      · left
        rw [n2, nI_clamp (by omega), i_lit 0, nI_ltI (by omega) (by decide)]
        omega
      · exact .inr (by omega)
    have l1 : f + 1 < f + k → ¬ (uI J 3 (nI (f + k)) 3 ≤ nI f + 1) := fun q => by
      rw [uI_at, n1]
      exact nn_le (by omega) (by omega) q
    have g1 : f + k ≤ f + 1 → uI J 3 (nI (f + k)) 3 ≤ nI f + 1 := fun q => by
      rw [uI_at, n1]
      exact yy_le (by omega) (by omega) q
    have l2 : f + 2 < f + k → ¬ (uI J 3 (nI (f + k)) 3 ≤ nI f + 2) := fun q => by
      rw [uI_at, n2]
      exact nn_le (by omega) (by omega) q
    have g2 : f + k ≤ f + 2 → uI J 3 (nI (f + k)) 3 ≤ nI f + 2 := fun q => by
      rw [uI_at, n2]
      exact yy_le (by omega) (by omega) q
    have t1 : f + 1 < z → S 0 ((nI f + 1) : Int32).toNatClampNeg = nI (b (f + 1)) := fun q => by
      rw [n1, nI_clamp (by omega)]
      exact (h.2.2.2 (f + 1) q).2.2
    have t2 : f + 2 < z → S 0 ((nI f + 2) : Int32).toNatClampNeg = nI (b (f + 2)) := fun q => by
      rw [n2, nI_clamp (by omega)]
      exact (h.2.2.2 (f + 2) q).2.2
    have v1 : f + 1 < z → b (f + 1) < 256 := fun q => (h.2.2.2 (f + 1) q).1
    have v2 : f + 2 < z → b (f + 2) < 256 := fun q => (h.2.2.2 (f + 2) q).1
    -- from 116 on
    have k116 : ((∃ hh, WCut b f (f + k) hh ∧ hh = f + 2 ∧ c = nI hh) ∨ ((∀ hh, ¬ WCut b f (f + k) hh) ∧ c = Int32.ofInt (-1))) → (f + 1 < f + k → b (f + 1) ≠ 35) → ∃ m2, m2 ≤ 3 ∧ (z_X12_readWord f_X12_passRegular f_X12_areDigits f_X12_numberOf f_X12_keep f_X12_keepName) 116 [.ref 0, .int (nI f), .int (nI s), .null, .null] [] (wr (uI J 3 (nI (f + k))) S K) (m + m2) = some rs := by
      intro q q1
      rcases q with ⟨hh, ⟨w1, w2, w3⟩, w4, w5⟩ | ⟨w1, w2⟩
      · subst w4
        refine ⟨1, by decide, ?_⟩
        rw [w5, ← n2] at hz
        exact rw_2a116 f_X12_passRegular f_X12_areDigits f_X12_numberOf f_X12_keep f_X12_keepName _ _ _ _ _ (l2 w2) (b2.resolve_right (by omega)) (by rw [t2 (by omega), w3]; rfl) hz
      · subst w2
        refine ⟨2, by decide, ?_⟩
        by_cases d : f + 2 < f + k
        · have n35 : b (f + 2) ≠ 35 := fun q => w1 (f + 2) ⟨.inr ⟨rfl, q1 (by omega)⟩, d, q⟩
          exact rw_2b116 f_X12_passRegular f_X12_areDigits f_X12_numberOf f_X12_keep f_X12_keepName _ _ _ _ _ (l2 d) (b2.resolve_right (by omega)) (by rw [t2 (by omega)]; have := v2 (by omega); exact nn_eq (b := 35) (by omega) (by decide) n35) hz
        · exact rw_2c116 f_X12_passRegular f_X12_areDigits f_X12_numberOf f_X12_keep f_X12_keepName _ _ _ _ _ (g2 (by omega)) hz
    by_cases d1 : f + 1 < f + k
    · by_cases d2 : b (f + 1) = 35
      · have hcut : WCut b f (f + k) (f + 1) := ⟨.inl rfl, d1, d2⟩
        rcases hc with ⟨hh, ⟨w1, w2, w3⟩, w5⟩ | ⟨w1, w2⟩
        · have hh1 : hh = f + 1 := by
            rcases w1 with x | ⟨x, y⟩
            · exact x
            · exact absurd d2 y
          subst hh1
          rw [w5, ← n1] at hz
          exact ⟨1, by decide, rw_2a87 f_X12_passRegular f_X12_areDigits f_X12_numberOf f_X12_keep f_X12_keepName _ _ _ _ _ (l1 d1) (b1.resolve_right (by omega)) (by rw [t1 (by omega), d2]; rfl) hz⟩
        · exact absurd hcut (w1 _)
      · have q : ((∃ hh, WCut b f (f + k) hh ∧ hh = f + 2 ∧ c = nI hh) ∨ ((∀ hh, ¬ WCut b f (f + k) hh) ∧ c = Int32.ofInt (-1))) := by
          rcases hc with ⟨hh, ⟨w1, w2, w3⟩, w5⟩ | w
          · rcases w1 with x | ⟨x, y⟩
            · rw [x] at w3
              exact absurd w3 d2
            · exact .inl ⟨hh, ⟨.inr ⟨x, y⟩, w2, w3⟩, x, w5⟩
          · exact .inr w
        obtain ⟨m2, x1, x2⟩ := k116 q (fun _ => d2)
        exact ⟨m2 + 1, by omega, rw_2b87 f_X12_passRegular f_X12_areDigits f_X12_numberOf f_X12_keep f_X12_keepName _ _ _ _ _ (l1 d1) (b1.resolve_right (by omega)) (by rw [t1 (by omega)]; have := v1 (by omega); exact nn_eq (b := 35) (by omega) (by decide) d2) x2⟩
    · have q : ((∃ hh, WCut b f (f + k) hh ∧ hh = f + 2 ∧ c = nI hh) ∨ ((∀ hh, ¬ WCut b f (f + k) hh) ∧ c = Int32.ofInt (-1))) := by
        rcases hc with ⟨hh, ⟨w1, w2, w3⟩, w5⟩ | w
        · exfalso
          rcases w1 with x | ⟨x, y⟩ <;> omega
        · exact .inr w
      obtain ⟨m2, x1, x2⟩ := k116 q (fun q => absurd q d1)
      exact ⟨m2 + 1, by omega, rw_2c87 f_X12_passRegular f_X12_areDigits f_X12_numberOf f_X12_keep f_X12_keepName _ _ _ _ _ (g1 (by omega)) x2⟩
  obtain ⟨m2, x1, x2⟩ := key
  exact t_rw0 h hr hf e3 hs (m := m + m2 + 1) (by omega) (rw_1n f_X12_passRegular f_X12_areDigits f_X12_numberOf f_X12_keep f_X12_keepName _ _ _ _ _ _ a1 c0 x2)
theorem t_rwN (h : TA z b I T J S) (hr : RRun z b f k) (hf : f < z) (e3 : J 3 = nI f) {s : Nat} (hs : s = if b f = 43 ∨ b f = 45 then f + 1 else f) (ha : ¬ alld 10 b s (f + k)) (hno : ¬ ∃ hh bs, WCut b f (f + k) hh ∧ alld 10 b f hh ∧ bs = dvn 10 b f (hh - f) ∧ 2 ≤ bs ∧ bs ≤ 36 ∧ alld bs b (hh + 1) (f + k)) (hk : f_X12_keepName (wr (uI J 3 (nI (f + k))) S K) [.ref 0, .int (nI f), .int (nI (f + k)), .int 1] = some (none, wr J1 S1 K1)) : f_X12_readWord (wr J S K) [.ref 0] = some (none, wr J1 S1 K1) := by
  have hz3 := h.1
  have hfk := hr.1
  have h' : TA z b I T (uI J 3 (nI (f + k))) S := h
  have e5 : ∀ x2 x3 x4 : Value, (z_X12_readWord f_X12_passRegular f_X12_areDigits f_X12_numberOf f_X12_keep f_X12_keepName) 224 [.ref 0, .int (nI f), x2, x3, x4] [] (wr (uI J 3 (nI (f + k))) S K) (0 + 1) = some (none, wr J1 S1 K1) := fun x2 x3 x4 => rw_5 f_X12_passRegular f_X12_areDigits f_X12_numberOf f_X12_keep f_X12_keepName _ _ _ _ _ _ _ _ _ _ (by rw [uI_at]; exact hk)
  rcases Classical.em (∃ hh, WCut b f (f + k) hh) with ⟨hh, hc⟩ | hn
  · have hcut := hc
    obtain ⟨w1, w2, w3⟩ := hc
    have hhf : f < hh ∧ hh ≤ f + 2 := by
      rcases w1 with x | ⟨x, _⟩ <;> omega
    have nm := ne_m1 (j := hh) (by omega)
    refine t_rw1 h hr hf e3 hs ha (c := nI hh) (.inl ⟨hh, hcut, rfl⟩) (m := 0 + 1 + 1) (by decide) ?_
    rcases ad_em 10 b f hh with ha2 | ha2
    · have a1 := t_ad (K := K) (J := uI J 3 (nI (f + k))) h' (x := nI f) (y := nI hh) (w := 10) rfl rfl (i_lit 10) (by omega) (by omega) (by decide) (.inl ⟨rfl, ha2⟩)
      have a2 := t_no (K := K) (J := uI J 3 (nI (f + k))) h' (x := nI f) (y := nI hh) (w := 10) rfl rfl (i_lit 10) (by omega) (by decide) ha2
      rw [dval_n] at a2
      have hb2 := dvn_2 (b := b) (p := f) (k := hh - f) (by omega) (fun i h1 h2 => ha2.2 i h1 (by omega))
      have q : ¬ (2 ≤ dvn 10 b f (hh - f) ∧ dvn 10 b f (hh - f) ≤ 36 ∧ alld (dvn 10 b f (hh - f)) b (hh + 1) (f + k)) := fun ⟨q3, q4, q5⟩ => hno ⟨hh, _, hcut, ha2, rfl, q3, q4, q5⟩
      generalize dvn 10 b f (hh - f) = bs at a2 hb2 q
      have n10 : ¬ (nI 1 = 0) := by decide
      by_cases l1 : bs < 2
      · exact rw_4b f_X12_passRegular f_X12_areDigits f_X12_numberOf f_X12_keep f_X12_keepName _ _ _ _ _ _ _ _ nm a1 n10 a2 (by rw [i_lit 2, nI_ltI (by omega) (by decide)]; exact l1) (e5 _ _ _)
      · have m1 : ¬ (nI bs < 2) := by
          rw [i_lit 2, nI_ltI (by omega) (by decide)]
          exact l1
        by_cases l2 : 36 < bs
        · exact rw_4c f_X12_passRegular f_X12_areDigits f_X12_numberOf f_X12_keep f_X12_keepName _ _ _ _ _ _ _ _ nm a1 n10 a2 m1 (by rw [i_lit 36, nI_ltI (by decide) (by omega)]; exact l2) (e5 _ _ _)
        · have m2 : ¬ (36 < nI bs) := by
            rw [i_lit 36, nI_ltI (by decide) (by omega)]
            exact l2
          have a3 := t_ad (K := K) (J := uI J 3 (nI (f + k))) h' (p := hh + 1) (bs := bs) (x := nI hh + 1) (y := uI J 3 (nI (f + k)) 3) (w := nI bs) (nI_add hh 1) (uI_at _ _ _) rfl hfk (by omega) (by omega) (.inr ⟨rfl, fun x => q ⟨by omega, by omega, x⟩⟩)
          exact rw_4d f_X12_passRegular f_X12_areDigits f_X12_numberOf f_X12_keep f_X12_keepName _ _ _ _ _ _ _ _ _ nm a1 n10 a2 m1 m2 a3 rfl (e5 _ _ _)
    · have a1 := t_ad (K := K) (J := uI J 3 (nI (f + k))) h' (x := nI f) (y := nI hh) (w := 10) rfl rfl (i_lit 10) (by omega) (by omega) (by decide) (.inr ⟨rfl, ha2⟩)
      exact rw_4a f_X12_passRegular f_X12_areDigits f_X12_numberOf f_X12_keep f_X12_keepName _ _ _ _ _ _ _ nm a1 rfl (e5 _ _ _)
  · exact t_rw1 h hr hf e3 hs ha (c := Int32.ofInt (-1)) (.inr ⟨fun hh q => hn ⟨hh, q⟩, rfl⟩) (m := 0 + 1 + 1) (by decide) (rw_4n f_X12_passRegular f_X12_areDigits f_X12_numberOf f_X12_keep f_X12_keepName _ _ _ _ _ _ rfl (e5 _ _ _))
theorem t_rwB (h : TA z b I T J S) (hr : RRun z b f k) (hf : f < z) (e3 : J 3 = nI f) {s : Nat} (hs : s = if b f = 43 ∨ b f = 45 then f + 1 else f) (ha : ¬ alld 10 b s (f + k)) {hh bs : Nat} (hcut : WCut b f (f + k) hh) (ha2 : alld 10 b f hh) (hbs : bs = dvn 10 b f (hh - f)) (l1 : 2 ≤ bs) (l2 : bs ≤ 36) (ha3 : alld bs b (hh + 1) (f + k)) (hk : f_X12_keep (wr (uI J 3 (nI (f + k))) S K) [.ref 0, .int 1, .int (dval bs b (hh + 1) (f + k - (hh + 1))), .int 0, .int 0, .int 0] = some (none, wr J1 S1 K1)) : f_X12_readWord (wr J S K) [.ref 0] = some (none, wr J1 S1 K1) := by
  have hz3 := h.1
  have hfk := hr.1
  have h' : TA z b I T (uI J 3 (nI (f + k))) S := h
  have hc := hcut
  obtain ⟨w1, w2, w3⟩ := hc
  have hhf : f < hh ∧ hh ≤ f + 2 := by
    rcases w1 with x | ⟨x, _⟩ <;> omega
  have nm := ne_m1 (j := hh) (by omega)
  have a1 := t_ad (K := K) (J := uI J 3 (nI (f + k))) h' (x := nI f) (y := nI hh) (w := 10) rfl rfl (i_lit 10) (by omega) (by omega) (by decide) (.inl ⟨rfl, ha2⟩)
  have a2 := t_no (K := K) (J := uI J 3 (nI (f + k))) h' (x := nI f) (y := nI hh) (w := 10) rfl rfl (i_lit 10) (by omega) (by decide) ha2
  rw [dval_n, ← hbs] at a2
  have n10 : ¬ (nI 1 = 0) := by decide
  have m1 : ¬ (nI bs < 2) := by
    rw [i_lit 2, nI_ltI (by omega) (by decide)]
    omega
  have m2 : ¬ (36 < nI bs) := by
    rw [i_lit 36, nI_ltI (by decide) (by omega)]
    omega
  have a3 := t_ad (K := K) (J := uI J 3 (nI (f + k))) h' (p := hh + 1) (bs := bs) (x := nI hh + 1) (y := uI J 3 (nI (f + k)) 3) (w := nI bs) (nI_add hh 1) (uI_at _ _ _) rfl hfk (by omega) l2 (.inl ⟨rfl, ha3⟩)
  have a4 := t_no (K := K) (J := uI J 3 (nI (f + k))) h' (p := hh + 1) (bs := bs) (x := nI hh + 1) (y := uI J 3 (nI (f + k)) 3) (w := nI bs) (nI_add hh 1) (uI_at _ _ _) rfl hfk l2 ha3
  exact t_rw1 h hr hf e3 hs ha (c := nI hh) (.inl ⟨hh, hcut, rfl⟩) (m := 0 + 1) (by decide) (rw_4e f_X12_passRegular f_X12_areDigits f_X12_numberOf f_X12_keep f_X12_keepName _ _ _ _ _ _ _ _ _ _ _ _ _ nm a1 n10 a2 m1 m2 a3 n10 a4 hk)
end
section
variable {N : Nat → Nat} {I : Nat → Int32} {L : Nat → Int64} {T : Nat → Nat → Int32} {U : Nat → Nat → Int64} {J : Nat → Int32} {S : Nat → Nat → Int32} {K : Nat → Int64} {z p o r : Nat} {b q : Nat → Nat}
/-- a number, kept -/
theorem jnumk {e : Nat} {x13 v : Int32} (hR : R N I T U J S) (hA : TA z b I T J S) (e20 : J 20 = 0) (hro : r + o ≤ p) (hQ : TQ N I T U J S o r q) (hpe : p < e) (hez : e ≤ z) :
    ∃ (I' : Nat → Int32) (U' : Nat → Nat → Int64) (J' : Nat → Int32) (S' : Nat → Nat → Int32), f_X7_keep (wc (uI (uI I 13 x13) 10 (nI e)) L T U) [.ref 19, .long (eV (1, 0, 0, v))] = some (some (.int 0), wc I' (uL L 2 (eV (1, 0, 0, v))) T U') ∧ f_X12_keep (wr (uI J 3 (nI e)) S K) [.ref 0, .int 1, .int v, .int 0, .int 0, .int 0] = some (none, wr J' S' K) ∧ PO 0 N I L T U J S N I' (uL L 2 (eV (1, 0, 0, v))) T U' J' S' z b p := by
  have hz := hA.1
  have f1 : FT I L T U (uI (uI I 13 x13) 10 (nI e)) L T U := ⟨fun i h1 h2 => by rw [uI_ne _ _ (by omega), uI_ne _ _ (by omega)], rfl, fun _ _ _ => rfl, fun _ _ _ => rfl⟩
  have f2 := FS_3 J S (nI e)
  have hR1 := R_kp hR f1 f2 rfl rfl rfl rfl rfl rfl rfl rfl rfl rfl rfl rfl rfl rfl rfl
  obtain ⟨I', U', k1, k2, k3, k4, k5, k6⟩ := jkeep (L := L) (K := K) (t := (1, 0, 0, v)) (y := 0) (a0 := 1) (a1 := v) (a2 := 0) (a3 := 0) hR1 (TA_f hA f1 f2) rfl rfl hez e20 (TQ_m hQ (NM_r N) rfl rfl rfl rfl rfl rfl rfl rfl) (by omega) (ok_num v) rfl rfl rfl rfl
  exact ⟨I', U', _, _, k1, k2, by decide, NE_r N, FT_t f1 k5, FS_t f2 k6, k3, e20, fun _ => ⟨e, hpe, k4⟩⟩
theorem pc_word (h : TK N I T U J S z b p o r q) (hp : p < z) (hreg : reg (b p) = true) : PC f_X7_readRegular [.ref 19, .int (nI p)] N I L T U J S K z b p := by
  have hA := h.2.1
  have hz := hA.1
  obtain ⟨hb, t1, t2⟩ := hA.2.2.2 p hp
  obtain ⟨hR, _, e10, e3, _, e20, hro, hQ⟩ := h
  obtain ⟨k, hr⟩ := rrun z b p (by omega)
  have hrz := hr.1
  have hk1 : 1 ≤ k := by
    rcases (show k = 0 ∨ 1 ≤ k by omega) with c | c
    · subst c
      rcases hr.2.2 with q | q
      · omega
      · rw [Nat.add_zero, hreg] at q
        cases q
    · exact c
  have hend : p + k = z ∨ b (p + k) ≠ 35 := by
    rcases hr.2.2 with q | q
    · exact .inl q
    · right
      intro q2
      rw [q2] at q
      exact absurd q (by decide)
  have f1 := FT_10 I L T U (nI (p + 1))
  have hA1 : TA z b (uI I 10 (nI (p + 1))) T J S := hA
  have hR1 := R_kp hR f1 (FS_r J S) rfl rfl rfl rfl rfl rfl rfl rfl rfl rfl rfl rfl rfl rfl rfl
  have hQ1 : TQ N (uI I 10 (nI (p + 1))) T U J S o r q := TQ_m hQ (NM_r N) rfl rfl rfl rfl rfl rfl rfl rfl
  obtain ⟨n0, n1, n2, n3, n4, n5, n6, n7, n8, n9, n10, n11⟩ := rg_1 (b p) hb hreg
  have g2 := t_isReg (I := J) (T := S) (K := K) (a := nI (b p)) rfl hb
  rw [rgn_1 hreg] at g2
  have part : ∀ {J1 : Nat → Int32} {S1 : Nat → Nat → Int32} {K1 : Nat → Int64}, f_X12_readWord (wr J S K) [.ref 0] = some (none, wr J1 S1 K1) → f_X12_readPart (wr J S K) [.ref 0] = some (none, wr J1 S1 K1) := fun hw => t_rpW e3 (by omega) t2 hb n3 n4 n9 n5 n6 n7 n8 n11 g2 hw
  obtain ⟨d1, d0⟩ := s_isDec (L := L) (U := U) (e := p + k) hA1 (by omega) hrz (s := if b p = 43 ∨ b p = 45 then p + 1 else p) rfl
  rcases ad_em 10 b (if b p = 43 ∨ b p = 45 then p + 1 else p) (p + k) with ha | ha
  · obtain ⟨I', U', J', S', k1, k2, k3⟩ := jnumk (L := L) (K := K) (x13 := if b p = 45 then - dval 10 b (if b p = 43 ∨ b p = 45 then p + 1 else p) (p + k - (if b p = 43 ∨ b p = 45 then p + 1 else p)) else dval 10 b (if b p = 43 ∨ b p = 45 then p + 1 else p) (p + k - (if b p = 43 ∨ b p = 45 then p + 1 else p))) (v := if b p = 45 then - dval 10 b (if b p = 43 ∨ b p = 45 then p + 1 else p) (p + k - (if b p = 43 ∨ b p = 45 then p + 1 else p)) else dval 10 b (if b p = 43 ∨ b p = 45 then p + 1 else p) (p + k - (if b p = 43 ∨ b p = 45 then p + 1 else p))) hR1 hA1 e20 hro hQ1 (show p < p + k by omega) hrz
    exact ⟨0, N, I', _, _, U', J', S', s_rrD hA1 hr rfl (d1 ha) k1, part (t_rwD hA hr hp e3 rfl ha k2), PO_w (Nat.le_refl _) f1 (FS_r J S) k3⟩
  · obtain ⟨g, hg⟩ := d0 ha
    have hA2 : TA z b (uI (uI I 10 (nI (p + 1))) 13 g) T J S := hA
    obtain ⟨b1, b0⟩ := s_isTB (L := L) (U := U) (f := p) (e := p + k) hA2 (by omega) hrz hend
    rcases Classical.em (∃ hh bs, WCut b p (p + k) hh ∧ alld 10 b p hh ∧ bs = dvn 10 b p (hh - p) ∧ 2 ≤ bs ∧ bs ≤ 36 ∧ alld bs b (hh + 1) (p + k)) with ⟨hh, bs, x1, x2, x3, x4, x5, x6⟩ | hno
    · obtain ⟨I', U', J', S', k1, k2, k3⟩ := jnumk (L := L) (K := K) (x13 := dval bs b (hh + 1) (p + k - (hh + 1))) (v := dval bs b (hh + 1) (p + k - (hh + 1))) hR1 hA1 e20 hro hQ1 (show p < p + k by omega) hrz
      have tb := b1 hh bs x1 x2 x3 x4 x5 x6
      rw [uI_uI] at tb
      exact ⟨0, N, I', _, _, U', J', S', s_rrB hA1 hr rfl hg tb k1, part (t_rwB hA hr hp e3 rfl ha x1 x2 x3 x4 x5 x6 k2), PO_w (Nat.le_refl _) f1 (FS_r J S) k3⟩
    · obtain ⟨g2', tb⟩ := b0 hno
      rw [uI_uI] at tb
      have f3 : FT I L T U (uI (uI I 10 (nI (p + 1))) 13 g2') L T U := ⟨fun i h1 h2 => by rw [uI_ne _ _ (by omega), uI_ne _ _ (by omega)], rfl, fun _ _ _ => rfl, fun _ _ _ => rfl⟩
      have hR2 := R_kp hR f3 (FS_r J S) rfl rfl rfl rfl rfl rfl rfl rfl rfl rfl rfl rfl rfl rfl rfl
      obtain ⟨e, N', I', L', T', U', J', S', a1, a2, a3⟩ := jnk (L := L) (K := K) (x := 1) (p := p) (a := nI p) hR2 (show TA z b (uI (uI I 10 (nI (p + 1))) 13 g2') T J S from hA) e20 hro (TQ_m hQ (NM_r N) rfl rfl rfl rfl rfl rfl rfl rfl) hr (by omega) (by decide) rfl
      exact ⟨e, N', I', L', T', U', J', S', s_rrN hA1 hr rfl hg tb a1, part (t_rwN hA hr hp e3 rfl ha hno a2), PO_w (Nat.le_refl _) f3 (FS_r J S) a3⟩
end
