section
variable {I I2 : Nat → Int32} {L L2 : Nat → Int64} {T T2 : Nat → Nat → Int32} {U U2 : Nat → Nat → Int64} {J J1 : Nat → Int32} {S S1 : Nat → Nat → Int32} {K K1 : Nat → Int64} {z fr n k : Nat} {b w : Nat → Nat} {a : Int32}
theorem s_ksF (e3 : I 3 = nI k) (hk : k ≤ 600) (hn : n ≤ 300) (hl : 600 < k + n) (ea : a = nI n) : f_X7_keepString (wc I L T U) [.ref 19, .int a] = some (some (.int 2), wc I L T U) := by
  have c1 : ¬ ((0 : Int32) ≤ Int32.ofInt (-1)) := by decide
  rw [fv_X7_keepString_eq]
  exact (p_X7_keepString_1 f_X9_makeString f_X9_setOctet f_X7_keep f_X10_string _ _ _ _ _ _ _ _ _ _ (s_makeString0 e3 hk ea (by omega) hl) (by first | with_reducible assumption | (simp (disch := omega) only [i_lit, i_m1, pk_sub, nI_add, nI_ml, nI_ltI, nI_leI, nI_eq, nI_clamp, nI_l, lN_i, lg_nI, lg_geI, lg_leI, lg_gtI, lg_ltI, c16_160, c16_200, c16_255, c16_300, c16_600, c16_616, c16_1000, Nat.add_eq, vp_updL_at, upd_at, Nat.add_sub_cancel, Nat.add_zero, Nat.zero_add, Nat.sub_zero, uU_uU, uT_uT, uI_uI, uL_uL, uU_at, uT_at, uI_at, uL_at, uU_ne, uT_ne, uI_ne, uL_ne, uU_sw, uT_sw, uI_sw, uL_sw] <;> first | with_reducible assumption | omega) | omega | decide))
theorem s_ks (e3 : I 3 = nI k) (hn : n ≤ 300) (hl : k + n ≤ 600) (ea : a = nI n) (hw : ∀ i, w i < 256) (ht : ∀ i, i < n → T 8 i = bt (w i)) : ∃ f, (∀ j, j < k → f j = T 1 j) ∧ (∀ j, j < n → f (k + j) = bt (w j)) ∧ ∀ (c : Int32) (I2 : Nat → Int32) (L2 : Nat → Int64) (T2 : Nat → Nat → Int32) (U2 : Nat → Nat → Int64), f_X7_keep (wc (uI I 3 (nI (k + n))) L (uT T 1 f) U) [.ref 19, .long (eV (6, 0, n, nI k))] = some (some (.int c), wc I2 L2 T2 U2) → f_X7_keepString (wc I L T U) [.ref 19, .int a] = some (some (.int c), wc I2 L2 T2 U2) := by
  obtain ⟨f0, g1, g2, g3⟩ := s_makeString (L := L) (T := T) (U := U) e3 hl ea
  obtain ⟨_, m', ⟨f, rfl, h1, h2⟩, hm', hz⟩ := lpc (fun i W m => (z_X7_keepString f_X9_makeString f_X9_setOctet f_X7_keep f_X10_string) 17 [.ref 19, .int (nI n), .int (nI k), .int (nI i)] [] W m) (fun W m => (z_X7_keepString f_X9_makeString f_X9_setOctet f_X7_keep f_X10_string) 17 [.ref 19, .int (nI n), .int (nI k), .int (nI n)] [] W m) (fun i W => ∃ f, W = wc (uI I 3 (nI (k + n))) L (uT T 1 f) U ∧ (∀ j, j < k → f j = T 1 j) ∧ (∀ j, j < i → f (k + j) = bt (w j))) (fun W => ∃ f, W = wc (uI I 3 (nI (k + n))) L (uT T 1 f) U ∧ (∀ j, j < k → f j = T 1 j) ∧ (∀ j, j < n → f (k + j) = bt (w j))) n 1 0 (by
    rintro i _ hi ⟨f, rfl, h1, h2⟩
    have c1 : ¬ (nI n ≤ nI i) := nn_le (by omega) (by omega) hi
    have c2 : ¬ ((Int16.toInt32 (Int16.ofInt 300)) ≤ nI i) := nn_le (a := 300) (by decide) (by omega) (by omega)
    have c3 : ¬ (nI i < 0 ∨ 300 ≤ (nI i : Int32).toNatClampNeg) := by
      rw [nI_clamp (by omega), i_lit 0, nI_ltI (by omega) (by decide)]
      omega
    have tx : uT T 1 f 8 (nI i : Int32).toNatClampNeg = bt (w i) := by
      rw [nI_clamp (by omega)]
      exact ht i hi
    have so := s_setOctetB (I := uI I 3 (nI (k + n))) (L := L) (T := uT T 1 f) (U := U) (i := k + i) (a := nI k + nI i) (nI_add k i) (by omega) (hw i) tx
    rw [uT_uT, uT_at] at so
    refine .inl ⟨_, 1, Nat.le_refl _, ⟨upd f (k + i) (bt (w i)), rfl, fun j hj => ?_, fun j hj => ?_⟩, fun m rs hz' => ?_⟩
    · rw [upd_ne (by omega), h1 j hj]
    · by_cases e : j = i
      · rw [e, upd_at]
      · rw [upd_ne (by omega), h2 j (by omega)]
    · rw [← nI_add i 1] at hz'
      exact (q_X7_keepString_17_1 f_X9_makeString f_X9_setOctet f_X7_keep f_X10_string _ _ _ _ _ _ _ _ _ _ _ (by first | with_reducible assumption | (simp (disch := omega) only [i_lit, i_m1, pk_sub, nI_add, nI_ml, nI_ltI, nI_leI, nI_eq, nI_clamp, nI_l, lN_i, lg_nI, lg_geI, lg_leI, lg_gtI, lg_ltI, c16_160, c16_200, c16_255, c16_300, c16_600, c16_616, c16_1000, Nat.add_eq, vp_updL_at, upd_at, Nat.add_sub_cancel, Nat.add_zero, Nat.zero_add, Nat.sub_zero, uU_uU, uT_uT, uI_uI, uL_uL, uU_at, uT_at, uI_at, uL_at, uU_ne, uT_ne, uI_ne, uL_ne, uU_sw, uT_sw, uI_sw, uL_sw] <;> first | with_reducible assumption | omega) | omega | decide) (by first | with_reducible assumption | (simp (disch := omega) only [i_lit, i_m1, pk_sub, nI_add, nI_ml, nI_ltI, nI_leI, nI_eq, nI_clamp, nI_l, lN_i, lg_nI, lg_geI, lg_leI, lg_gtI, lg_ltI, c16_160, c16_200, c16_255, c16_300, c16_600, c16_616, c16_1000, Nat.add_eq, vp_updL_at, upd_at, Nat.add_sub_cancel, Nat.add_zero, Nat.zero_add, Nat.sub_zero, uU_uU, uT_uT, uI_uI, uL_uL, uU_at, uT_at, uI_at, uL_at, uU_ne, uT_ne, uI_ne, uL_ne, uU_sw, uT_sw, uI_sw, uL_sw] <;> first | with_reducible assumption | omega) | omega | decide) (by first | with_reducible assumption | (simp (disch := omega) only [i_lit, i_m1, pk_sub, nI_add, nI_ml, nI_ltI, nI_leI, nI_eq, nI_clamp, nI_l, lN_i, lg_nI, lg_geI, lg_leI, lg_gtI, lg_ltI, c16_160, c16_200, c16_255, c16_300, c16_600, c16_616, c16_1000, Nat.add_eq, vp_updL_at, upd_at, Nat.add_sub_cancel, Nat.add_zero, Nat.zero_add, Nat.sub_zero, uU_uU, uT_uT, uI_uI, uL_uL, uU_at, uT_at, uI_at, uL_at, uU_ne, uT_ne, uI_ne, uL_ne, uU_sw, uT_sw, uI_sw, uL_sw] <;> first | with_reducible assumption | omega) | omega | decide) (so) hz')) (by
    rintro _ ⟨f, rfl, h1, h2⟩
    exact ⟨_, 0, Nat.le_refl _, ⟨f, rfl, h1, h2⟩, fun m rs hz' => hz'⟩) n 0 (wc (uI I 3 (nI (k + n))) L (uT T 1 f0) U) (by omega) ⟨f0, rfl, g2, fun j hj => by omega⟩
  refine ⟨f, h1, h2, fun c I2 L2 T2 U2 hk => ?_⟩
  have c1 : nI n ≤ nI n := yy_le (by omega) (by omega) (Nat.le_refl _)
  have y := hz (0 + 2) _ (q_X7_keepString_17_3 f_X9_makeString f_X9_setOctet f_X7_keep f_X10_string _ _ _ _ _ _ _ _ _ _ _ _ _ (by first | with_reducible assumption | (simp (disch := omega) only [i_lit, i_m1, pk_sub, nI_add, nI_ml, nI_ltI, nI_leI, nI_eq, nI_clamp, nI_l, lN_i, lg_nI, lg_geI, lg_leI, lg_gtI, lg_ltI, c16_160, c16_200, c16_255, c16_300, c16_600, c16_616, c16_1000, Nat.add_eq, vp_updL_at, upd_at, Nat.add_sub_cancel, Nat.add_zero, Nat.zero_add, Nat.sub_zero, uU_uU, uT_uT, uI_uI, uL_uL, uU_at, uT_at, uI_at, uL_at, uU_ne, uT_ne, uI_ne, uL_ne, uU_sw, uT_sw, uI_sw, uL_sw] <;> first | with_reducible assumption | omega) | omega | decide) (s_string rfl (by omega)) (hk))
  have c0 : (0 : Int32) ≤ nI k := yy_le (a := 0) (by decide) (by omega) (by omega)
  have hnn : 1 * n ≤ 1 * 300 := Nat.mul_le_mul_left _ (by omega)
  rw [fv_X7_keepString_eq]
  subst ea
  exact (p_X7_keepString_2 f_X9_makeString f_X9_setOctet f_X7_keep f_X10_string _ _ _ _ _ _ _ _ _ _ (g1) (by first | with_reducible assumption | (simp (disch := omega) only [i_lit, i_m1, pk_sub, nI_add, nI_ml, nI_ltI, nI_leI, nI_eq, nI_clamp, nI_l, lN_i, lg_nI, lg_geI, lg_leI, lg_gtI, lg_ltI, c16_160, c16_200, c16_255, c16_300, c16_600, c16_616, c16_1000, Nat.add_eq, vp_updL_at, upd_at, Nat.add_sub_cancel, Nat.add_zero, Nat.zero_add, Nat.sub_zero, uU_uU, uT_uT, uI_uI, uL_uL, uU_at, uT_at, uI_at, uL_at, uU_ne, uT_ne, uI_ne, uL_ne, uU_sw, uT_sw, uI_sw, uL_sw] <;> first | with_reducible assumption | omega) | omega | decide) (m := 0 + 2 + m') (by omega) y)
theorem t_rsF (e3 : J 3 = nI n) {m : Nat} {rs : Option Value × rx_H} (e8 : J 8 = nI fr) (hm : m ≤ 100000) (hz : (z_X12_readString f_X12_keep) 38 [.ref 0, .int (nI fr), .int (nI 0), .int (nI 1), .int (nI 0), .int (nI (n + 1)), .null, .null] [] (wr (uI J 3 (nI (n + 1))) S K) m = some rs) : f_X12_readString (wr J S K) [.ref 0] = some rs := by
  have c2 : ¬ ((2 : Int32) ≤ 0) := by decide
  have n1 : nI n + 1 = nI (n + 1) := nI_add n 1
  rw [fv_X12_readString_eq]
  refine (p_X12_readString_1 f_X12_keep _ _ _ (m := m + 1) (by omega) ?_)
  rw [e3, n1, e8]
  refine (q_X12_readString_22_1 f_X12_keep _ _ _ _ _ _ (by first | with_reducible assumption | (simp (disch := omega) only [i_lit, i_m1, pk_sub, nI_add, nI_ml, nI_ltI, nI_leI, nI_eq, nI_clamp, nI_l, lN_i, lg_nI, lg_geI, lg_leI, lg_gtI, lg_ltI, c16_160, c16_200, c16_255, c16_300, c16_600, c16_616, c16_1000, Nat.add_eq, vp_updL_at, upd_at, Nat.add_sub_cancel, Nat.add_zero, Nat.zero_add, Nat.sub_zero, uU_uU, uT_uT, uI_uI, uL_uL, uU_at, uT_at, uI_at, uL_at, uU_ne, uT_ne, uI_ne, uL_ne, uU_sw, uT_sw, uI_sw, uL_sw] <;> first | with_reducible assumption | omega) | omega | decide) ?_)
  rw [uI_at]
  exact hz
/-- the second reading, when there is room -/
theorem t_rs2 {q n' : Nat} {m : Nat} {rs : Option Value × rx_H} (e2 : J 2 = nI z) (hz3 : z ≤ 300) (hq : q ≤ z) (e8 : J 8 = nI fr) (hl : fr + n' ≤ 600) (e3 : J 3 = nI n) (hz : (z_X12_readString f_X12_keep) 38 [.ref 0, .int (nI fr), .int (nI 0), .int (nI 1), .int (nI 1), .int (nI n), .null, .null] [] (wr J S K) m = some rs) : ∃ x, x ≤ 20 ∧ (z_X12_readString f_X12_keep) 38 [.ref 0, .int (nI fr), .int (nI n'), .int (nI 0), .int (nI 0), .int (nI q), .null, .null] [] (wr J S K) (m + x) = some rs := by
  have c3 : nI 0 ≤ 0 := by decide
  have c4 : (J 8 + nI n') ≤ (Int16.toInt32 (Int16.ofInt 600)) := by
    rw [e8, nI_add]
    exact yy_le (b := 600) (by omega) (by decide) hl
  have c5 : ¬ (nI 0 = 1) := by decide
  have c2 : ¬ ((2 : Int32) ≤ nI 1) := by decide
  have y : (z_X12_readString f_X12_keep) 22 [.ref 0, .int (nI fr), .int (nI n'), .null, .int (nI 1), .null, .null, .null] [] (wr J S K) (m + 1) = some rs := by
    refine (q_X12_readString_22_1 f_X12_keep _ _ _ _ _ _ (by first | with_reducible assumption | (simp (disch := omega) only [i_lit, i_m1, pk_sub, nI_add, nI_ml, nI_ltI, nI_leI, nI_eq, nI_clamp, nI_l, lN_i, lg_nI, lg_geI, lg_leI, lg_gtI, lg_ltI, c16_160, c16_200, c16_255, c16_300, c16_600, c16_616, c16_1000, Nat.add_eq, vp_updL_at, upd_at, Nat.add_sub_cancel, Nat.add_zero, Nat.zero_add, Nat.sub_zero, uU_uU, uT_uT, uI_uI, uL_uL, uU_at, uT_at, uI_at, uL_at, uU_ne, uT_ne, uI_ne, uL_ne, uU_sw, uT_sw, uI_sw, uL_sw] <;> first | with_reducible assumption | omega) | omega | decide) ?_)
    rw [e3]
    exact hz
  have n01 : nI 0 + 1 = nI 1 := nI_add 0 1
  by_cases c : q < z
  · have c1 : ¬ (J 2 ≤ nI q) := by
      rw [e2]
      exact nn_le (by omega) (by omega) c
    refine ⟨1 + 6, by decide, ?_⟩
    rw [← Nat.add_assoc]
    refine (q_X12_readString_38_18 f_X12_keep _ _ _ _ _ _ _ _ (by first | with_reducible assumption | (simp (disch := omega) only [i_lit, i_m1, pk_sub, nI_add, nI_ml, nI_ltI, nI_leI, nI_eq, nI_clamp, nI_l, lN_i, lg_nI, lg_geI, lg_leI, lg_gtI, lg_ltI, c16_160, c16_200, c16_255, c16_300, c16_600, c16_616, c16_1000, Nat.add_eq, vp_updL_at, upd_at, Nat.add_sub_cancel, Nat.add_zero, Nat.zero_add, Nat.sub_zero, uU_uU, uT_uT, uI_uI, uL_uL, uU_at, uT_at, uI_at, uL_at, uU_ne, uT_ne, uI_ne, uL_ne, uU_sw, uT_sw, uI_sw, uL_sw] <;> first | with_reducible assumption | omega) | omega | decide) (by first | with_reducible assumption | (simp (disch := omega) only [i_lit, i_m1, pk_sub, nI_add, nI_ml, nI_ltI, nI_leI, nI_eq, nI_clamp, nI_l, lN_i, lg_nI, lg_geI, lg_leI, lg_gtI, lg_ltI, c16_160, c16_200, c16_255, c16_300, c16_600, c16_616, c16_1000, Nat.add_eq, vp_updL_at, upd_at, Nat.add_sub_cancel, Nat.add_zero, Nat.zero_add, Nat.sub_zero, uU_uU, uT_uT, uI_uI, uL_uL, uU_at, uT_at, uI_at, uL_at, uU_ne, uT_ne, uI_ne, uL_ne, uU_sw, uT_sw, uI_sw, uL_sw] <;> first | with_reducible assumption | omega) | omega | decide) (by first | with_reducible assumption | (simp (disch := omega) only [i_lit, i_m1, pk_sub, nI_add, nI_ml, nI_ltI, nI_leI, nI_eq, nI_clamp, nI_l, lN_i, lg_nI, lg_geI, lg_leI, lg_gtI, lg_ltI, c16_160, c16_200, c16_255, c16_300, c16_600, c16_616, c16_1000, Nat.add_eq, vp_updL_at, upd_at, Nat.add_sub_cancel, Nat.add_zero, Nat.zero_add, Nat.sub_zero, uU_uU, uT_uT, uI_uI, uL_uL, uU_at, uT_at, uI_at, uL_at, uU_ne, uT_ne, uI_ne, uL_ne, uU_sw, uT_sw, uI_sw, uL_sw] <;> first | with_reducible assumption | omega) | omega | decide) (by first | with_reducible assumption | (simp (disch := omega) only [i_lit, i_m1, pk_sub, nI_add, nI_ml, nI_ltI, nI_leI, nI_eq, nI_clamp, nI_l, lN_i, lg_nI, lg_geI, lg_leI, lg_gtI, lg_ltI, c16_160, c16_200, c16_255, c16_300, c16_600, c16_616, c16_1000, Nat.add_eq, vp_updL_at, upd_at, Nat.add_sub_cancel, Nat.add_zero, Nat.zero_add, Nat.sub_zero, uU_uU, uT_uT, uI_uI, uL_uL, uU_at, uT_at, uI_at, uL_at, uU_ne, uT_ne, uI_ne, uL_ne, uU_sw, uT_sw, uI_sw, uL_sw] <;> first | with_reducible assumption | omega) | omega | decide) ?_)
    rw [uI_self, n01]
    exact y
  · have c1 : J 2 ≤ nI q := by
      rw [e2]
      exact yy_le (by omega) (by omega) (by omega)
    refine ⟨1 + 6, by decide, ?_⟩
    rw [← Nat.add_assoc]
    refine (q_X12_readString_38_22 f_X12_keep _ _ _ _ _ _ _ _ (by first | with_reducible assumption | (simp (disch := omega) only [i_lit, i_m1, pk_sub, nI_add, nI_ml, nI_ltI, nI_leI, nI_eq, nI_clamp, nI_l, lN_i, lg_nI, lg_geI, lg_leI, lg_gtI, lg_ltI, c16_160, c16_200, c16_255, c16_300, c16_600, c16_616, c16_1000, Nat.add_eq, vp_updL_at, upd_at, Nat.add_sub_cancel, Nat.add_zero, Nat.zero_add, Nat.sub_zero, uU_uU, uT_uT, uI_uI, uL_uL, uU_at, uT_at, uI_at, uL_at, uU_ne, uT_ne, uI_ne, uL_ne, uU_sw, uT_sw, uI_sw, uL_sw] <;> first | with_reducible assumption | omega) | omega | decide) (by first | with_reducible assumption | (simp (disch := omega) only [i_lit, i_m1, pk_sub, nI_add, nI_ml, nI_ltI, nI_leI, nI_eq, nI_clamp, nI_l, lN_i, lg_nI, lg_geI, lg_leI, lg_gtI, lg_ltI, c16_160, c16_200, c16_255, c16_300, c16_600, c16_616, c16_1000, Nat.add_eq, vp_updL_at, upd_at, Nat.add_sub_cancel, Nat.add_zero, Nat.zero_add, Nat.sub_zero, uU_uU, uT_uT, uI_uI, uL_uL, uU_at, uT_at, uI_at, uL_at, uU_ne, uT_ne, uI_ne, uL_ne, uU_sw, uT_sw, uI_sw, uL_sw] <;> first | with_reducible assumption | omega) | omega | decide) (by first | with_reducible assumption | (simp (disch := omega) only [i_lit, i_m1, pk_sub, nI_add, nI_ml, nI_ltI, nI_leI, nI_eq, nI_clamp, nI_l, lN_i, lg_nI, lg_geI, lg_leI, lg_gtI, lg_ltI, c16_160, c16_200, c16_255, c16_300, c16_600, c16_616, c16_1000, Nat.add_eq, vp_updL_at, upd_at, Nat.add_sub_cancel, Nat.add_zero, Nat.zero_add, Nat.sub_zero, uU_uU, uT_uT, uI_uI, uL_uL, uU_at, uT_at, uI_at, uL_at, uU_ne, uT_ne, uI_ne, uL_ne, uU_sw, uT_sw, uI_sw, uL_sw] <;> first | with_reducible assumption | omega) | omega | decide) (by first | with_reducible assumption | (simp (disch := omega) only [i_lit, i_m1, pk_sub, nI_add, nI_ml, nI_ltI, nI_leI, nI_eq, nI_clamp, nI_l, lN_i, lg_nI, lg_geI, lg_leI, lg_gtI, lg_ltI, c16_160, c16_200, c16_255, c16_300, c16_600, c16_616, c16_1000, Nat.add_eq, vp_updL_at, upd_at, Nat.add_sub_cancel, Nat.add_zero, Nat.zero_add, Nat.sub_zero, uU_uU, uT_uT, uI_uI, uL_uL, uU_at, uT_at, uI_at, uL_at, uU_ne, uT_ne, uI_ne, uL_ne, uU_sw, uT_sw, uI_sw, uL_sw] <;> first | with_reducible assumption | omega) | omega | decide) ?_)
    rw [uI_self, n01]
    exact y
theorem t_rsL {q n' : Nat} (e2 : J 2 = nI z) (hz3 : z ≤ 300) (hq : q ≤ z) (e8 : J 8 = nI fr) (hf : fr ≤ 600) (hn : n' ≤ 300) (hl : 600 < fr + n') : ∃ x, x ≤ 20 ∧ (z_X12_readString f_X12_keep) 38 [.ref 0, .int (nI fr), .int (nI n'), .int (nI 0), .int (nI 0), .int (nI q), .null, .null] [] (wr J S K) x = some (none, wr (uI J 20 2) S K) := by
  have c3 : nI 0 ≤ 0 := by decide
  have c4 : ¬ ((J 8 + nI n') ≤ (Int16.toInt32 (Int16.ofInt 600))) := by
    rw [e8, nI_add]
    exact nn_le (b := 600) (by omega) (by decide) hl
  by_cases c : q < z
  · have c1 : ¬ (J 2 ≤ nI q) := by
      rw [e2]
      exact nn_le (by omega) (by omega) c
    exact ⟨0 + 3, by decide, (q_X12_readString_38_16 f_X12_keep _ _ _ _ _ _ _ _ (by first | with_reducible assumption | (simp (disch := omega) only [i_lit, i_m1, pk_sub, nI_add, nI_ml, nI_ltI, nI_leI, nI_eq, nI_clamp, nI_l, lN_i, lg_nI, lg_geI, lg_leI, lg_gtI, lg_ltI, c16_160, c16_200, c16_255, c16_300, c16_600, c16_616, c16_1000, Nat.add_eq, vp_updL_at, upd_at, Nat.add_sub_cancel, Nat.add_zero, Nat.zero_add, Nat.sub_zero, uU_uU, uT_uT, uI_uI, uL_uL, uU_at, uT_at, uI_at, uL_at, uU_ne, uT_ne, uI_ne, uL_ne, uU_sw, uT_sw, uI_sw, uL_sw] <;> first | with_reducible assumption | omega) | omega | decide) (by first | with_reducible assumption | (simp (disch := omega) only [i_lit, i_m1, pk_sub, nI_add, nI_ml, nI_ltI, nI_leI, nI_eq, nI_clamp, nI_l, lN_i, lg_nI, lg_geI, lg_leI, lg_gtI, lg_ltI, c16_160, c16_200, c16_255, c16_300, c16_600, c16_616, c16_1000, Nat.add_eq, vp_updL_at, upd_at, Nat.add_sub_cancel, Nat.add_zero, Nat.zero_add, Nat.sub_zero, uU_uU, uT_uT, uI_uI, uL_uL, uU_at, uT_at, uI_at, uL_at, uU_ne, uT_ne, uI_ne, uL_ne, uU_sw, uT_sw, uI_sw, uL_sw] <;> first | with_reducible assumption | omega) | omega | decide) (by first | with_reducible assumption | (simp (disch := omega) only [i_lit, i_m1, pk_sub, nI_add, nI_ml, nI_ltI, nI_leI, nI_eq, nI_clamp, nI_l, lN_i, lg_nI, lg_geI, lg_leI, lg_gtI, lg_ltI, c16_160, c16_200, c16_255, c16_300, c16_600, c16_616, c16_1000, Nat.add_eq, vp_updL_at, upd_at, Nat.add_sub_cancel, Nat.add_zero, Nat.zero_add, Nat.sub_zero, uU_uU, uT_uT, uI_uI, uL_uL, uU_at, uT_at, uI_at, uL_at, uU_ne, uT_ne, uI_ne, uL_ne, uU_sw, uT_sw, uI_sw, uL_sw] <;> first | with_reducible assumption | omega) | omega | decide))⟩
  · have c1 : J 2 ≤ nI q := by
      rw [e2]
      exact yy_le (by omega) (by omega) (by omega)
    exact ⟨0 + 3, by decide, (q_X12_readString_38_20 f_X12_keep _ _ _ _ _ _ _ _ (by first | with_reducible assumption | (simp (disch := omega) only [i_lit, i_m1, pk_sub, nI_add, nI_ml, nI_ltI, nI_leI, nI_eq, nI_clamp, nI_l, lN_i, lg_nI, lg_geI, lg_leI, lg_gtI, lg_ltI, c16_160, c16_200, c16_255, c16_300, c16_600, c16_616, c16_1000, Nat.add_eq, vp_updL_at, upd_at, Nat.add_sub_cancel, Nat.add_zero, Nat.zero_add, Nat.sub_zero, uU_uU, uT_uT, uI_uI, uL_uL, uU_at, uT_at, uI_at, uL_at, uU_ne, uT_ne, uI_ne, uL_ne, uU_sw, uT_sw, uI_sw, uL_sw] <;> first | with_reducible assumption | omega) | omega | decide) (by first | with_reducible assumption | (simp (disch := omega) only [i_lit, i_m1, pk_sub, nI_add, nI_ml, nI_ltI, nI_leI, nI_eq, nI_clamp, nI_l, lN_i, lg_nI, lg_geI, lg_leI, lg_gtI, lg_ltI, c16_160, c16_200, c16_255, c16_300, c16_600, c16_616, c16_1000, Nat.add_eq, vp_updL_at, upd_at, Nat.add_sub_cancel, Nat.add_zero, Nat.zero_add, Nat.sub_zero, uU_uU, uT_uT, uI_uI, uL_uL, uU_at, uT_at, uI_at, uL_at, uU_ne, uT_ne, uI_ne, uL_ne, uU_sw, uT_sw, uI_sw, uL_sw] <;> first | with_reducible assumption | omega) | omega | decide) (by first | with_reducible assumption | (simp (disch := omega) only [i_lit, i_m1, pk_sub, nI_add, nI_ml, nI_ltI, nI_leI, nI_eq, nI_clamp, nI_l, lN_i, lg_nI, lg_geI, lg_leI, lg_gtI, lg_ltI, c16_160, c16_200, c16_255, c16_300, c16_600, c16_616, c16_1000, Nat.add_eq, vp_updL_at, upd_at, Nat.add_sub_cancel, Nat.add_zero, Nat.zero_add, Nat.sub_zero, uU_uU, uT_uT, uI_uI, uL_uL, uU_at, uT_at, uI_at, uL_at, uU_ne, uT_ne, uI_ne, uL_ne, uU_sw, uT_sw, uI_sw, uL_sw] <;> first | with_reducible assumption | omega) | omega | decide))⟩
theorem t_rs3 {q n' : Nat} (e2 : J 2 = nI z) (hz3 : z ≤ 300) (hq : q ≤ z) (e8 : J 8 = nI fr) (hl : fr + n' ≤ 600) (hk : f_X12_keep (wr (uI (uI (uI J 3 (nI q)) 8 (nI (fr + n'))) 9 (J 9 + 1)) S K) [.ref 0, .int 6, .int (nI fr), .int 0, .int (nI n'), .int (J 9 + 1)] = some (none, wr J1 S1 K1)) : ∃ x, x ≤ 20 ∧ (z_X12_readString f_X12_keep) 38 [.ref 0, .int (nI fr), .int (nI n'), .int (nI 0), .int (nI 1), .int (nI q), .null, .null] [] (wr J S K) x = some (none, wr J1 S1 K1) := by
  have c3 : nI 0 ≤ 0 := by decide
  have c4 : (J 8 + nI n') ≤ (Int16.toInt32 (Int16.ofInt 600)) := by
    rw [e8, nI_add]
    exact yy_le (b := 600) (by omega) (by decide) hl
  have c5 : nI 1 = 1 := rfl
  have c2 : (2 : Int32) ≤ nI 2 := by decide
  have n12 : nI 1 + 1 = nI 2 := nI_add 1 1
  have hk' : f_X12_keep (wr (uI (uI (uI J 3 (nI q)) 8 (uI J 3 (nI q) 8 + nI n')) 9 (uI J 3 (nI q) 9 + 1)) S K) [.ref 0, .int 6, .int (nI fr), .int 0, .int (nI n'), .int (uI J 3 (nI q) 9 + 1)] = some (none, wr J1 S1 K1) := by
    rw [uI_ne _ _ (by decide), uI_ne _ _ (by decide), e8, nI_add]
    exact hk
  have y : (z_X12_readString f_X12_keep) 22 [.ref 0, .int (nI fr), .int (nI n'), .null, .int (nI 2), .null, .null, .null] [] (wr (uI J 3 (nI q)) S K) (0 + 2) = some (none, wr J1 S1 K1) := (q_X12_readString_22_2 f_X12_keep _ _ _ _ _ _ _ _ _ (by first | with_reducible assumption | (simp (disch := omega) only [i_lit, i_m1, pk_sub, nI_add, nI_ml, nI_ltI, nI_leI, nI_eq, nI_clamp, nI_l, lN_i, lg_nI, lg_geI, lg_leI, lg_gtI, lg_ltI, c16_160, c16_200, c16_255, c16_300, c16_600, c16_616, c16_1000, Nat.add_eq, vp_updL_at, upd_at, Nat.add_sub_cancel, Nat.add_zero, Nat.zero_add, Nat.sub_zero, uU_uU, uT_uT, uI_uI, uL_uL, uU_at, uT_at, uI_at, uL_at, uU_ne, uT_ne, uI_ne, uL_ne, uU_sw, uT_sw, uI_sw, uL_sw] <;> first | with_reducible assumption | omega) | omega | decide) (hk'))
  by_cases c : q < z
  · have c1 : ¬ (J 2 ≤ nI q) := by
      rw [e2]
      exact nn_le (by omega) (by omega) c
    refine ⟨0 + 2 + 5, by decide, ?_⟩
    refine (q_X12_readString_38_17 f_X12_keep _ _ _ _ _ _ _ _ (by first | with_reducible assumption | (simp (disch := omega) only [i_lit, i_m1, pk_sub, nI_add, nI_ml, nI_ltI, nI_leI, nI_eq, nI_clamp, nI_l, lN_i, lg_nI, lg_geI, lg_leI, lg_gtI, lg_ltI, c16_160, c16_200, c16_255, c16_300, c16_600, c16_616, c16_1000, Nat.add_eq, vp_updL_at, upd_at, Nat.add_sub_cancel, Nat.add_zero, Nat.zero_add, Nat.sub_zero, uU_uU, uT_uT, uI_uI, uL_uL, uU_at, uT_at, uI_at, uL_at, uU_ne, uT_ne, uI_ne, uL_ne, uU_sw, uT_sw, uI_sw, uL_sw] <;> first | with_reducible assumption | omega) | omega | decide) (by first | with_reducible assumption | (simp (disch := omega) only [i_lit, i_m1, pk_sub, nI_add, nI_ml, nI_ltI, nI_leI, nI_eq, nI_clamp, nI_l, lN_i, lg_nI, lg_geI, lg_leI, lg_gtI, lg_ltI, c16_160, c16_200, c16_255, c16_300, c16_600, c16_616, c16_1000, Nat.add_eq, vp_updL_at, upd_at, Nat.add_sub_cancel, Nat.add_zero, Nat.zero_add, Nat.sub_zero, uU_uU, uT_uT, uI_uI, uL_uL, uU_at, uT_at, uI_at, uL_at, uU_ne, uT_ne, uI_ne, uL_ne, uU_sw, uT_sw, uI_sw, uL_sw] <;> first | with_reducible assumption | omega) | omega | decide) (by first | with_reducible assumption | (simp (disch := omega) only [i_lit, i_m1, pk_sub, nI_add, nI_ml, nI_ltI, nI_leI, nI_eq, nI_clamp, nI_l, lN_i, lg_nI, lg_geI, lg_leI, lg_gtI, lg_ltI, c16_160, c16_200, c16_255, c16_300, c16_600, c16_616, c16_1000, Nat.add_eq, vp_updL_at, upd_at, Nat.add_sub_cancel, Nat.add_zero, Nat.zero_add, Nat.sub_zero, uU_uU, uT_uT, uI_uI, uL_uL, uU_at, uT_at, uI_at, uL_at, uU_ne, uT_ne, uI_ne, uL_ne, uU_sw, uT_sw, uI_sw, uL_sw] <;> first | with_reducible assumption | omega) | omega | decide) (by first | with_reducible assumption | (simp (disch := omega) only [i_lit, i_m1, pk_sub, nI_add, nI_ml, nI_ltI, nI_leI, nI_eq, nI_clamp, nI_l, lN_i, lg_nI, lg_geI, lg_leI, lg_gtI, lg_ltI, c16_160, c16_200, c16_255, c16_300, c16_600, c16_616, c16_1000, Nat.add_eq, vp_updL_at, upd_at, Nat.add_sub_cancel, Nat.add_zero, Nat.zero_add, Nat.sub_zero, uU_uU, uT_uT, uI_uI, uL_uL, uU_at, uT_at, uI_at, uL_at, uU_ne, uT_ne, uI_ne, uL_ne, uU_sw, uT_sw, uI_sw, uL_sw] <;> first | with_reducible assumption | omega) | omega | decide) ?_)
    rw [n12]
    exact y
  · have c1 : J 2 ≤ nI q := by
      rw [e2]
      exact yy_le (by omega) (by omega) (by omega)
    refine ⟨0 + 2 + 5, by decide, ?_⟩
    refine (q_X12_readString_38_21 f_X12_keep _ _ _ _ _ _ _ _ (by first | with_reducible assumption | (simp (disch := omega) only [i_lit, i_m1, pk_sub, nI_add, nI_ml, nI_ltI, nI_leI, nI_eq, nI_clamp, nI_l, lN_i, lg_nI, lg_geI, lg_leI, lg_gtI, lg_ltI, c16_160, c16_200, c16_255, c16_300, c16_600, c16_616, c16_1000, Nat.add_eq, vp_updL_at, upd_at, Nat.add_sub_cancel, Nat.add_zero, Nat.zero_add, Nat.sub_zero, uU_uU, uT_uT, uI_uI, uL_uL, uU_at, uT_at, uI_at, uL_at, uU_ne, uT_ne, uI_ne, uL_ne, uU_sw, uT_sw, uI_sw, uL_sw] <;> first | with_reducible assumption | omega) | omega | decide) (by first | with_reducible assumption | (simp (disch := omega) only [i_lit, i_m1, pk_sub, nI_add, nI_ml, nI_ltI, nI_leI, nI_eq, nI_clamp, nI_l, lN_i, lg_nI, lg_geI, lg_leI, lg_gtI, lg_ltI, c16_160, c16_200, c16_255, c16_300, c16_600, c16_616, c16_1000, Nat.add_eq, vp_updL_at, upd_at, Nat.add_sub_cancel, Nat.add_zero, Nat.zero_add, Nat.sub_zero, uU_uU, uT_uT, uI_uI, uL_uL, uU_at, uT_at, uI_at, uL_at, uU_ne, uT_ne, uI_ne, uL_ne, uU_sw, uT_sw, uI_sw, uL_sw] <;> first | with_reducible assumption | omega) | omega | decide) (by first | with_reducible assumption | (simp (disch := omega) only [i_lit, i_m1, pk_sub, nI_add, nI_ml, nI_ltI, nI_leI, nI_eq, nI_clamp, nI_l, lN_i, lg_nI, lg_geI, lg_leI, lg_gtI, lg_ltI, c16_160, c16_200, c16_255, c16_300, c16_600, c16_616, c16_1000, Nat.add_eq, vp_updL_at, upd_at, Nat.add_sub_cancel, Nat.add_zero, Nat.zero_add, Nat.sub_zero, uU_uU, uT_uT, uI_uI, uL_uL, uU_at, uT_at, uI_at, uL_at, uU_ne, uT_ne, uI_ne, uL_ne, uU_sw, uT_sw, uI_sw, uL_sw] <;> first | with_reducible assumption | omega) | omega | decide) (by first | with_reducible assumption | (simp (disch := omega) only [i_lit, i_m1, pk_sub, nI_add, nI_ml, nI_ltI, nI_leI, nI_eq, nI_clamp, nI_l, lN_i, lg_nI, lg_geI, lg_leI, lg_gtI, lg_ltI, c16_160, c16_200, c16_255, c16_300, c16_600, c16_616, c16_1000, Nat.add_eq, vp_updL_at, upd_at, Nat.add_sub_cancel, Nat.add_zero, Nat.zero_add, Nat.sub_zero, uU_uU, uT_uT, uI_uI, uL_uL, uU_at, uT_at, uI_at, uL_at, uU_ne, uT_ne, uI_ne, uL_ne, uU_sw, uT_sw, uI_sw, uL_sw] <;> first | with_reducible assumption | omega) | omega | decide) ?_)
    rw [n12]
    exact y
end
section
variable {N : Nat → Nat} {I : Nat → Int32} {L : Nat → Int64} {T : Nat → Nat → Int32} {U : Nat → Nat → Int64} {J : Nat → Int32} {S : Nat → Nat → Int32} {K : Nat → Int64} {z p o r : Nat} {b q : Nat → Nat}
theorem pc_str (h : TK N I T U J S z b p o r q) (hp : p < z) (hc : b p = 40) : PC f_X7_readString [.ref 19] N I L T U J S K z b p := by
  have hA := h.2.1
  have hz := hA.1
  obtain ⟨hb, t1, t2⟩ := hA.2.2.2 p hp
  obtain ⟨hR, _, e10, e3, _, e20, hro, hQ⟩ := h
  have e2 := hA.2.2.1
  obtain ⟨hN2, i3, e8, hB⟩ := hR.2.2.1
  have hA1 : TA z b I T (uI J 3 (nI (p + 1))) S := hA
  have part : ∀ {J1 : Nat → Int32} {S1 : Nat → Nat → Int32} {K1 : Nat → Int64}, f_X12_readString (wr J S K) [.ref 0] = some (none, wr J1 S1 K1) → f_X12_readPart (wr J S K) [.ref 0] = some (none, wr J1 S1 K1) := fun hw => t_rpS e3 (by omega) t2 hb hc hw
  have ent : ∀ {rs : Option Value × rx_H} {m : Nat}, m ≤ 20 * (z - p) + 40 → (z_X7_readString f_X7_byteAt f_X7_keepString) 4 [.ref 19, .int (nI 0), .int (nI 1), .null] [] (wc (uI I 10 (nI (p + 1))) L (uT T 8 (T 8)) U) m = some rs → f_X7_readString (wc (uI I 10 (nI (p + 1))) L T U) [.ref 19] = some rs := by
    intro rs m hm hy
    rw [uT_self] at hy
    rw [fv_X7_readString_eq]
    exact (p_X7_readString_1 f_X7_byteAt f_X7_keepString _ _ _ _ (m := m) (by omega) hy)
  rcases jso (L := L) (U := U) (K := K) (fr := N 2) hA1 (z - p) (p + 1) 0 1 (by omega) (by omega) (by decide) (by decide) (by omega) (by omega) with ⟨s1, m2, s2, s3⟩ | ⟨n', qq, w, w1, w2, w3, w4, w5, w6, ⟨x0, w7, w8⟩, w9⟩
  · obtain ⟨x, t', m, a1, a2⟩ := s1 (T 8)
    have ft : FT I L T U (uI I 10 x) L (uT T 8 t') U := ⟨fun i h1 h2 => uI_ne _ _ (by omega), rfl, fun k h1 h2 => uT_ne _ _ (by omega), fun _ _ _ => rfl⟩
    have fs : FS J S (uI (uI J 3 (nI (p + 1))) 20 1) S := FS_t (FS_3 J S _) (FS_20 _ S _)
    exact ⟨1, N, _, _, _, _, _, _, ent a1 a2, part (t_rsF e3 e8 (by omega) s3), by decide, NE_r N, ft, fs, R_kp hR ft fs rfl rfl rfl rfl rfl rfl rfl rfl rfl rfl rfl rfl rfl rfl rfl, rfl, fun h => absurd h (by decide)⟩
  · obtain ⟨t', g1, g2, g3⟩ := w6 (T 8)
    have hn3 : n' ≤ 300 := by omega
    by_cases hl : N 2 + n' ≤ 600
    · obtain ⟨f, k1, k2, k3⟩ := s_ks (I := uI I 10 (nI qq)) (L := L) (T := uT T 8 t') (U := U) (k := N 2) (n := n') (w := w) (a := nI n') i3 hn3 hl rfl w5 (fun i hi => g2 i (by omega) hi)
      obtain ⟨oc', o1, o2, x1, o3, o4⟩ := w9 hl (S 8)
      rw [uT_self] at o4
      have ne : NE N (uN N 2 (N 2 + n')) := ⟨⟨Nat.le_refl _, Nat.le_add_right _ _, Nat.le_refl _, Nat.le_refl _⟩, rfl, rfl, rfl, rfl⟩
      have ft : FT I L T U (uI (uI I 10 (nI qq)) 3 (nI (N 2 + n'))) L (uT (uT T 8 t') 1 f) U := ⟨fun i h1 h2 => by rw [uI_ne _ _ (by omega), uI_ne _ _ (by omega)], rfl, fun k h1 h2 => by rw [uT_ne _ _ (by omega), uT_ne _ _ (by omega)], fun _ _ _ => rfl⟩
      have fs : FS J S (uI (uI (uI J 3 (nI qq)) 8 (nI (N 2 + n'))) 9 (J 9 + 1)) (uT S 8 oc') := ⟨fun i h1 h2 h3 => by rw [uI_ne _ _ (by omega), uI_ne _ _ (by omega), uI_ne _ _ (by omega)], fun k h1 h2 => uT_ne _ _ (by omega)⟩
      have rb : RB (N 2 + n') 600 (nI (N 2 + n')) f (nI (N 2 + n')) oc' := by
        refine ⟨hl, rfl, rfl, fun i hi => ?_⟩
        by_cases c : i < N 2
        · obtain ⟨v, v1, v2, v3⟩ := hB i c
          exact ⟨v, v1, (k1 i c).trans v2, (o1 i (by omega)).trans v3⟩
        · refine ⟨w (i - N 2), w5 _, ?_, ?_⟩
          · have := k2 (i - N 2) (by omega)
            rw [show N 2 + (i - N 2) = i by omega] at this
            exact this
          · have := o2 (i - N 2) (by omega) (by omega)
            rw [show N 2 + (i - N 2) = i by omega] at this
            exact this
      have hR' : R (uN N 2 (N 2 + n')) (uI (uI I 10 (nI qq)) 3 (nI (N 2 + n'))) (uT (uT T 8 t') 1 f) U (uI (uI (uI J 3 (nI qq)) 8 (nI (N 2 + n'))) 9 (J 9 + 1)) (uT S 8 oc') := R_new hR ft fs ne (RO_mono ne.1 hR.2.1) rb hR.2.2.2.2.1
      obtain ⟨I', U', y1, y2, y3, y4, y5, y6⟩ := jkeep (L := L) (K := K) (t := (6, 0, n', nI (N 2))) (y := J 9 + 1) (a0 := 6) (a1 := nI (N 2)) (a2 := 0) (a3 := nI n') hR' (TA_f hA ft fs) rfl rfl w3 e20 (TQ_m hQ ne.1 rfl rfl rfl rfl rfl rfl rfl rfl) (by omega) (ok_str (Nat.le_refl _) hl) rfl rfl rfl rfl
      have cs := k3 _ _ _ _ _ y1
      obtain ⟨m, b1, b2⟩ := g3 0 _ cs _ _ _ _ rfl
      obtain ⟨x3, d1, d2⟩ := t_rs3 (J := uI J 3 (nI (p + 1))) (S := uT S 8 oc') (K := K) (z := z) (fr := N 2) (q := qq) (n' := n') e2 hz w3 e8 hl (by rw [uI_uI, uI_ne _ _ (by decide)]; exact y2)
      have d3 := o4 _ _ d2
      obtain ⟨x4, d4, d5⟩ := t_rs2 (J := uI J 3 (nI (p + 1))) (z := z) (n := p + 1) (q := qq) (n' := n') e2 hz w3 e8 hl rfl d3
      have d6 := w8 _ _ d5
      exact ⟨0, uN N 2 (N 2 + n'), I', _, _, U', _, _, ent b1 b2, part (t_rsF e3 e8 (by omega) d6), by decide, ne, FT_t ft y5, FS_t fs y6, y3, e20, fun _ => ⟨qq, by omega, y4⟩⟩
    · have ks := s_ksF (I := uI I 10 (nI qq)) (L := L) (T := uT T 8 t') (U := U) (k := N 2) (n := n') (a := nI n') i3 hN2 hn3 (by omega) rfl
      obtain ⟨m, b1, b2⟩ := g3 2 _ ks _ _ _ _ rfl
      obtain ⟨x3, d1, d2⟩ := t_rsL (J := uI J 3 (nI (p + 1))) (S := S) (K := K) (z := z) (fr := N 2) (q := qq) (n' := n') e2 hz w3 e8 hN2 hn3 (by omega)
      have d6 := w8 _ _ d2
      have ft : FT I L T U (uI I 10 (nI qq)) L (uT T 8 t') U := ⟨fun i h1 h2 => uI_ne _ _ (by omega), rfl, fun k h1 h2 => uT_ne _ _ (by omega), fun _ _ _ => rfl⟩
      have fs : FS J S (uI (uI J 3 (nI (p + 1))) 20 2) S := FS_t (FS_3 J S _) (FS_20 _ S _)
      exact ⟨2, N, _, _, _, _, _, _, ent b1 b2, part (t_rsF e3 e8 (by omega) d6), by decide, NE_r N, ft, fs, R_kp hR ft fs rfl rfl rfl rfl rfl rfl rfl rfl rfl rfl rfl rfl rfl rfl rfl, rfl, fun h => absurd h (by decide)⟩
end
