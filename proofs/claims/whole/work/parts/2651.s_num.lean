theorem dg_ex (v : Nat) (hv : v < 10000000000) : ∃ d, 1 ≤ d ∧ d ≤ 10 ∧ v < 10 ^ d ∧ (d = 1 ∨ 10 ^ (d - 1) ≤ v) := by
  by_cases h1 : v < 10
  · exact ⟨1, by decide, by decide, h1, .inl rfl⟩
  by_cases h2 : v < 100
  · exact ⟨2, by decide, by decide, h2, .inr (by have e : (10 : Nat) ^ (2 - 1) = 10 := rfl; omega)⟩
  by_cases h3 : v < 1000
  · exact ⟨3, by decide, by decide, h3, .inr (by have e : (10 : Nat) ^ (3 - 1) = 100 := rfl; omega)⟩
  by_cases h4 : v < 10000
  · exact ⟨4, by decide, by decide, h4, .inr (by have e : (10 : Nat) ^ (4 - 1) = 1000 := rfl; omega)⟩
  by_cases h5 : v < 100000
  · exact ⟨5, by decide, by decide, h5, .inr (by have e : (10 : Nat) ^ (5 - 1) = 10000 := rfl; omega)⟩
  by_cases h6 : v < 1000000
  · exact ⟨6, by decide, by decide, h6, .inr (by have e : (10 : Nat) ^ (6 - 1) = 100000 := rfl; omega)⟩
  by_cases h7 : v < 10000000
  · exact ⟨7, by decide, by decide, h7, .inr (by have e : (10 : Nat) ^ (7 - 1) = 1000000 := rfl; omega)⟩
  by_cases h8 : v < 100000000
  · exact ⟨8, by decide, by decide, h8, .inr (by have e : (10 : Nat) ^ (8 - 1) = 10000000 := rfl; omega)⟩
  by_cases h9 : v < 1000000000
  · exact ⟨9, by decide, by decide, h9, .inr (by have e : (10 : Nat) ^ (9 - 1) = 100000000 := rfl; omega)⟩
  exact ⟨10, by decide, by decide, hv, .inr (by have e : (10 : Nat) ^ (10 - 1) = 1000000000 := rfl; omega)⟩
theorem p10_b {e : Nat} (he : e ≤ 10) : 0 < 10 ^ e ∧ 10 ^ e ≤ 10000000000 := ⟨Nat.pow_pos (by decide), Nat.le_trans (Nat.pow_le_pow_right (by decide) he) (by decide)⟩
theorem p10_m {a b : Nat} (h : a ≤ b) : 10 ^ a ≤ 10 ^ b := Nat.pow_le_pow_right (by decide) h
theorem p10_d (e : Nat) : 10 ^ (e + 1) / 10 = 10 ^ e := by rw [Nat.pow_succ, Nat.mul_div_cancel _ (by decide)]
theorem dg_at (v e : Nat) : v % 10 ^ (e + 1) / 10 ^ e = v / 10 ^ e % 10 := by rw [Nat.pow_succ, Nat.mod_mul_right_div_self]
theorem dg_mm (v e : Nat) : v % 10 ^ (e + 1) % 10 ^ e = v % 10 ^ e := Nat.mod_mod_of_dvd v (by rw [Nat.pow_succ]; exact Nat.dvd_mul_right _ _)
theorem l_ten (n : Nat) (h : n < 2 ^ 63) : lN n / 10 = lN (n / 10) := pk_lDiv (b := 10) h (by decide) (by decide)
theorem l_pos {n : Nat} (h0 : 0 < n) (h : n < 2 ^ 63) : ¬ ((lg_cmp (lN n) 0) ≤ 0) := fun q => by
  have := (pk_lLE (a := n) (b := 0) h (by decide)).mp ((lg_cmp_le _ _).mp q)
  omega
theorem l_ne0 {n : Nat} (h0 : 0 < n) (h : n < 2 ^ 63) : ¬ lN n = 0 := fun q => by
  have := (pk_lEQ (a := n) (b := 0) h (by decide)).mp q
  omega
theorem l_ne1 {n : Nat} (h0 : 1 < n) (h : n < 2 ^ 63) : ¬ (lg_cmp (lN n) 1) = 0 := fun q => by
  have := (pk_lEQ (a := n) (b := 1) h (by decide)).mp (lg_cmp0.mp q)
  omega
theorem l_ge {a b : Nat} (ha : a < 2 ^ 63) (hb : b < 2 ^ 63) : (0 ≤ lg_cmp (lN a) (lN b)) ↔ b ≤ a := (lg_cmp_ge _ _).trans (pk_lLE hb ha)
theorem l_lt {a b : Nat} (ha : a < 2 ^ 63) (hb : b < 2 ^ 63) : (lg_cmp (lN a) (lN b) < 0) ↔ a < b := (lg_cmp_lt _ _).trans (pk_lLT ha hb)
/-- a number's size, and its sign -/
theorem n_abs (a : Int32) : (0 ≤ a ∧ ∃ v, v < 2147483648 ∧ a.toInt64 = lN v) ∨ (¬ 0 ≤ a ∧ ∃ v, v ≤ 2147483648 ∧ - a.toInt64 = lN v) := by
  have h1 := a.toInt_lt
  have h2 := a.le_toInt
  by_cases h : 0 ≤ a.toInt
  · refine .inl ⟨(Int32.le_iff_toInt_le).mpr (by simpa using h), a.toInt.toNat, by omega, ?_⟩
    apply Int64.toInt_inj.mp
    rw [Int32.toInt_toInt64, pk_lT (by omega)]
    omega
  · refine .inr ⟨fun q => h (by simpa using (Int32.le_iff_toInt_le).mp q), (-a.toInt).toNat, by omega, ?_⟩
    apply Int64.toInt_inj.mp
    rw [Int64.toInt_neg, Int32.toInt_toInt64, pk_lT (by omega), Int.bmod_eq_of_le (by omega) (by omega)]
    omega
/-- the digits of v, s places behind -/
def dgw (s d v : Nat) (i : Nat) : Nat := if i < s then 45 else 48 + v / 10 ^ (d - 1 - (i - s)) % 10
theorem dgw_lt (s d v i : Nat) : dgw s d v i < 256 := by
  unfold dgw
  split
  · decide
  · have := Nat.mod_lt (v / 10 ^ (d - 1 - (i - s))) (show 0 < 10 by decide)
    omega
theorem dgw_at {s d v e : Nat} (h : e + 1 ≤ d) : dgw s d v (s + (d - (e + 1))) = 48 + v / 10 ^ e % 10 := by
  unfold dgw
  rw [if_neg (by omega), show d - 1 - (s + (d - (e + 1)) - s) = e by omega]
def bgn (d k : Nat) : Nat := if d ≤ 10 - k then 0 else 1
theorem bgn_0 {d k : Nat} (h : d ≤ 10 - k) : bgn d k = 0 := if_pos h
theorem bgn_1 {d k : Nat} (h : 10 - k < d) : bgn d k = 1 := if_neg (by omega)
theorem s_wnL {I : Nat → Int32} {L : Nat → Int64} {T : Nat → Nat → Int32} {U : Nat → Nat → Int64} {o s d v : Nat} {f0 : Nat → Int32} (hd1 : 1 ≤ d) (hd2 : d ≤ 10) (hv : v < 10 ^ d) (hv2 : d = 1 ∨ 10 ^ (d - 1) ≤ v) (hf0 : WO o s (dgw s d v) (T 2) f0) {z0 : Int64} (ez : z0 = lN v) : ∃ f m, m ≤ 42 ∧ (z_X6_writeNumber f_X9_write) 44 [.ref 33, .null, .long z0, .null, .int (nI (wrm o s)), .int (nI 0), .long 1000000000, .null] [] (wc (uI I 4 (nI (wcap o s))) L (uT T 2 f0) U) m = some (some (.int (nI (wrm o (s + d)))), wc (uI I 4 (nI (wcap o (s + d)))) L (uT T 2 f) U) ∧ WO o (s + d) (dgw s d v) (T 2) f := by
  obtain ⟨rs, m', ⟨f, hq, hf⟩, hm', hz⟩ := lp (fun k W m => (z_X6_writeNumber f_X9_write) 44 [.ref 33, .null, .long (lN (v % 10 ^ (10 - k))), .null, .int (nI (wrm o (s + (d - (10 - k))))), .int (nI (bgn d k)), .long (lN (10 ^ (10 - k) / 10)), .null] [] W m) (fun k W => ∃ f, W = wc (uI I 4 (nI (wcap o (s + (d - (10 - k)))))) L (uT T 2 f) U ∧ WO o (s + (d - (10 - k))) (dgw s d v) (T 2) f) (fun rs => ∃ f, rs = (some (.int (nI (wrm o (s + d)))), wc (uI I 4 (nI (wcap o (s + d)))) L (uT T 2 f) U) ∧ WO o (s + d) (dgw s d v) (T 2) f) 10 4 2 (by
    rintro k _ hk ⟨f, rfl, hf⟩
    obtain ⟨e, he, rfl⟩ : ∃ e, e ≤ 9 ∧ k = 9 - e := ⟨9 - k, by omega, by omega⟩
    have k0 : 10 - (9 - e) = e + 1 := by omega
    have k1 : 10 - (9 - e + 1) = e := by omega
    rw [k0] at hf
    simp only [k0, k1, p10_d]
    have hP0 := (p10_b (e := e) (by omega)).1
    have hP1 := (p10_b (e := e) (by omega)).2
    have hP : 10 ^ e < 2 ^ 63 := by omega
    have hA0 : v % 10 ^ (e + 1) < 10 ^ (e + 1) := Nat.mod_lt _ (p10_b (e := e + 1) (by omega)).1
    have hA1 := (p10_b (e := e + 1) (by omega)).2
    have hA : v % 10 ^ (e + 1) < 2 ^ 63 := by omega
    have c6 := l_pos hP0 hP
    have c60 := l_ne0 hP0 hP
    by_cases hr : o + (s + (d - (e + 1))) ≤ 1000
    · rw [wrm_1 hr]
      have c4 : ¬ (nI 1 = 0) := by decide
      rcases (show d ≤ e ∨ d = e + 1 ∨ e + 1 < d by omega) with h | h | h
      · have hx : v < 10 ^ e := Nat.lt_of_lt_of_le hv (p10_m h)
        have hx1 : v % 10 ^ (e + 1) = v := Nat.mod_eq_of_lt (Nat.lt_of_lt_of_le hx (p10_m (by omega)))
        have hx2 : v % 10 ^ e = v := Nat.mod_eq_of_lt hx
        have c2 : ¬ (0 ≤ (lg_cmp (lN v) (lN (10 ^ e)))) := fun q => by
          have := (l_ge (by omega) hP).mp q
          omega
        have p1 : 1 < 10 ^ e := Nat.lt_of_lt_of_le (by decide : 1 < 10 ^ 1) (p10_m (by omega))
        have c1 := l_ne1 p1 hP
        have c0 : nI 0 = 0 := rfl
        have hf2 : WO o (s + (d - e)) (dgw s d v) (T 2) f := by
          rw [show s + (d - e) = s + (d - (e + 1)) by omega]
          exact hf
        refine .inl ⟨_, 4, by decide, ⟨f, rfl, hf2⟩, fun m rs hz => ?_⟩
        · rw [bgn_0 (by omega), show s + (d - e) = s + (d - (e + 1)) by omega, wrm_1 hr, hx2] at hz
          rw [bgn_0 (by omega), hx1]
          refine (q_X6_writeNumber_44_2 f_X9_write _ _ _ _ _ _ _ _ (by first | with_reducible assumption | (simp (disch := omega) only [i_lit, i_m1, pk_sub, nI_add, nI_ml, nI_ltI, nI_leI, nI_eq, nI_clamp, nI_l, lN_i, lg_nI, lg_geI, lg_leI, lg_gtI, lg_ltI, c16_160, c16_200, c16_255, c16_300, c16_600, c16_616, c16_1000, Nat.add_eq, vp_updL_at, upd_at, Nat.add_sub_cancel, Nat.add_zero, Nat.zero_add, Nat.sub_zero, uU_uU, uT_uT, uI_uI, uL_uL, uU_at, uT_at, uI_at, uL_at, uU_ne, uT_ne, uI_ne, uL_ne, uU_sw, uT_sw, uI_sw, uL_sw] <;> first | with_reducible assumption | omega) | omega | decide) (by first | with_reducible assumption | (simp (disch := omega) only [i_lit, i_m1, pk_sub, nI_add, nI_ml, nI_ltI, nI_leI, nI_eq, nI_clamp, nI_l, lN_i, lg_nI, lg_geI, lg_leI, lg_gtI, lg_ltI, c16_160, c16_200, c16_255, c16_300, c16_600, c16_616, c16_1000, Nat.add_eq, vp_updL_at, upd_at, Nat.add_sub_cancel, Nat.add_zero, Nat.zero_add, Nat.sub_zero, uU_uU, uT_uT, uI_uI, uL_uL, uU_at, uT_at, uI_at, uL_at, uU_ne, uT_ne, uI_ne, uL_ne, uU_sw, uT_sw, uI_sw, uL_sw] <;> first | with_reducible assumption | omega) | omega | decide) (by first | with_reducible assumption | (simp (disch := omega) only [i_lit, i_m1, pk_sub, nI_add, nI_ml, nI_ltI, nI_leI, nI_eq, nI_clamp, nI_l, lN_i, lg_nI, lg_geI, lg_leI, lg_gtI, lg_ltI, c16_160, c16_200, c16_255, c16_300, c16_600, c16_616, c16_1000, Nat.add_eq, vp_updL_at, upd_at, Nat.add_sub_cancel, Nat.add_zero, Nat.zero_add, Nat.sub_zero, uU_uU, uT_uT, uI_uI, uL_uL, uU_at, uT_at, uI_at, uL_at, uU_ne, uT_ne, uI_ne, uL_ne, uU_sw, uT_sw, uI_sw, uL_sw] <;> first | with_reducible assumption | omega) | omega | decide) (by first | with_reducible assumption | (simp (disch := omega) only [i_lit, i_m1, pk_sub, nI_add, nI_ml, nI_ltI, nI_leI, nI_eq, nI_clamp, nI_l, lN_i, lg_nI, lg_geI, lg_leI, lg_gtI, lg_ltI, c16_160, c16_200, c16_255, c16_300, c16_600, c16_616, c16_1000, Nat.add_eq, vp_updL_at, upd_at, Nat.add_sub_cancel, Nat.add_zero, Nat.zero_add, Nat.sub_zero, uU_uU, uT_uT, uI_uI, uL_uL, uU_at, uT_at, uI_at, uL_at, uU_ne, uT_ne, uI_ne, uL_ne, uU_sw, uT_sw, uI_sw, uL_sw] <;> first | with_reducible assumption | omega) | omega | decide) (by first | with_reducible assumption | (simp (disch := omega) only [i_lit, i_m1, pk_sub, nI_add, nI_ml, nI_ltI, nI_leI, nI_eq, nI_clamp, nI_l, lN_i, lg_nI, lg_geI, lg_leI, lg_gtI, lg_ltI, c16_160, c16_200, c16_255, c16_300, c16_600, c16_616, c16_1000, Nat.add_eq, vp_updL_at, upd_at, Nat.add_sub_cancel, Nat.add_zero, Nat.zero_add, Nat.sub_zero, uU_uU, uT_uT, uI_uI, uL_uL, uU_at, uT_at, uI_at, uL_at, uU_ne, uT_ne, uI_ne, uL_ne, uU_sw, uT_sw, uI_sw, uL_sw] <;> first | with_reducible assumption | omega) | omega | decide) ?_)
          rw [l_ten _ hP]
          exact hz
      · rw [bgn_0 (k := 9 - e) (by omega)]
        have c0 : nI 0 = 0 := rfl
        by_cases c2 : 0 ≤ (lg_cmp (lN (v % 10 ^ (e + 1))) (lN (10 ^ e)))
        · obtain ⟨f', hs, hf'⟩ := s_wr (I := I) (L := L) (U := U) hr hf (a := 48 + Int64.toInt32 (lN (v % 10 ^ (e + 1)) / lN (10 ^ e))) (by rw [pk_lDiv hA hP0 hP, dg_at, lN_i, dgw_at (by omega)]; exact nI_add 48 _)
          rw [show s + (d - (e + 1)) + 1 = s + (d - e) by omega] at hs hf'
          refine .inl ⟨_, 4, by decide, ⟨f', rfl, hf'⟩, fun m rs hz => ?_⟩
          rw [bgn_1 (by omega)] at hz
          refine (q_X6_writeNumber_44_3 f_X9_write _ _ _ _ _ _ _ _ _ _ _ _ _ (by first | with_reducible assumption | (simp (disch := omega) only [i_lit, i_m1, pk_sub, nI_add, nI_ml, nI_ltI, nI_leI, nI_eq, nI_clamp, nI_l, lN_i, lg_nI, lg_geI, lg_leI, lg_gtI, lg_ltI, c16_160, c16_200, c16_255, c16_300, c16_600, c16_616, c16_1000, Nat.add_eq, vp_updL_at, upd_at, Nat.add_sub_cancel, Nat.add_zero, Nat.zero_add, Nat.sub_zero, uU_uU, uT_uT, uI_uI, uL_uL, uU_at, uT_at, uI_at, uL_at, uU_ne, uT_ne, uI_ne, uL_ne, uU_sw, uT_sw, uI_sw, uL_sw] <;> first | with_reducible assumption | omega) | omega | decide) (by first | with_reducible assumption | (simp (disch := omega) only [i_lit, i_m1, pk_sub, nI_add, nI_ml, nI_ltI, nI_leI, nI_eq, nI_clamp, nI_l, lN_i, lg_nI, lg_geI, lg_leI, lg_gtI, lg_ltI, c16_160, c16_200, c16_255, c16_300, c16_600, c16_616, c16_1000, Nat.add_eq, vp_updL_at, upd_at, Nat.add_sub_cancel, Nat.add_zero, Nat.zero_add, Nat.sub_zero, uU_uU, uT_uT, uI_uI, uL_uL, uU_at, uT_at, uI_at, uL_at, uU_ne, uT_ne, uI_ne, uL_ne, uU_sw, uT_sw, uI_sw, uL_sw] <;> first | with_reducible assumption | omega) | omega | decide) (by first | with_reducible assumption | (simp (disch := omega) only [i_lit, i_m1, pk_sub, nI_add, nI_ml, nI_ltI, nI_leI, nI_eq, nI_clamp, nI_l, lN_i, lg_nI, lg_geI, lg_leI, lg_gtI, lg_ltI, c16_160, c16_200, c16_255, c16_300, c16_600, c16_616, c16_1000, Nat.add_eq, vp_updL_at, upd_at, Nat.add_sub_cancel, Nat.add_zero, Nat.zero_add, Nat.sub_zero, uU_uU, uT_uT, uI_uI, uL_uL, uU_at, uT_at, uI_at, uL_at, uU_ne, uT_ne, uI_ne, uL_ne, uU_sw, uT_sw, uI_sw, uL_sw] <;> first | with_reducible assumption | omega) | omega | decide) (by first | with_reducible assumption | (simp (disch := omega) only [i_lit, i_m1, pk_sub, nI_add, nI_ml, nI_ltI, nI_leI, nI_eq, nI_clamp, nI_l, lN_i, lg_nI, lg_geI, lg_leI, lg_gtI, lg_ltI, c16_160, c16_200, c16_255, c16_300, c16_600, c16_616, c16_1000, Nat.add_eq, vp_updL_at, upd_at, Nat.add_sub_cancel, Nat.add_zero, Nat.zero_add, Nat.sub_zero, uU_uU, uT_uT, uI_uI, uL_uL, uU_at, uT_at, uI_at, uL_at, uU_ne, uT_ne, uI_ne, uL_ne, uU_sw, uT_sw, uI_sw, uL_sw] <;> first | with_reducible assumption | omega) | omega | decide) (by first | with_reducible assumption | (simp (disch := omega) only [i_lit, i_m1, pk_sub, nI_add, nI_ml, nI_ltI, nI_leI, nI_eq, nI_clamp, nI_l, lN_i, lg_nI, lg_geI, lg_leI, lg_gtI, lg_ltI, c16_160, c16_200, c16_255, c16_300, c16_600, c16_616, c16_1000, Nat.add_eq, vp_updL_at, upd_at, Nat.add_sub_cancel, Nat.add_zero, Nat.zero_add, Nat.sub_zero, uU_uU, uT_uT, uI_uI, uL_uL, uU_at, uT_at, uI_at, uL_at, uU_ne, uT_ne, uI_ne, uL_ne, uU_sw, uT_sw, uI_sw, uL_sw] <;> first | with_reducible assumption | omega) | omega | decide) (hs) (by first | with_reducible assumption | (simp (disch := omega) only [i_lit, i_m1, pk_sub, nI_add, nI_ml, nI_ltI, nI_leI, nI_eq, nI_clamp, nI_l, lN_i, lg_nI, lg_geI, lg_leI, lg_gtI, lg_ltI, c16_160, c16_200, c16_255, c16_300, c16_600, c16_616, c16_1000, Nat.add_eq, vp_updL_at, upd_at, Nat.add_sub_cancel, Nat.add_zero, Nat.zero_add, Nat.sub_zero, uU_uU, uT_uT, uI_uI, uL_uL, uU_at, uT_at, uI_at, uL_at, uU_ne, uT_ne, uI_ne, uL_ne, uU_sw, uT_sw, uI_sw, uL_sw] <;> first | with_reducible assumption | omega) | omega | decide) ?_)
          rw [pk_lRem hA hP0 hP, dg_mm, l_ten _ hP]
          exact hz
        · have hx1 : v % 10 ^ (e + 1) = v := Nat.mod_eq_of_lt (h ▸ hv)
          have e0 : e = 0 := by
            rcases hv2 with q | q
            · omega
            · rw [show d - 1 = e by omega] at q
              exact absurd ((l_ge hA hP).mpr (by rw [hx1]; exact q)) c2
          subst e0
          have c1 : (lg_cmp (lN (10 ^ 0)) 1) = 0 := by decide
          obtain ⟨f', hs, hf'⟩ := s_wr (I := I) (L := L) (U := U) hr hf (a := 48 + Int64.toInt32 (lN (v % 10 ^ (0 + 1)) / lN (10 ^ 0))) (by rw [pk_lDiv hA hP0 hP, dg_at, lN_i, dgw_at (by omega)]; exact nI_add 48 _)
          rw [show s + (d - (0 + 1)) + 1 = s + (d - 0) by omega] at hs hf'
          refine .inl ⟨_, 4, by decide, ⟨f', rfl, hf'⟩, fun m rs hz => ?_⟩
          rw [bgn_1 (by omega)] at hz
          refine (q_X6_writeNumber_44_1 f_X9_write _ _ _ _ _ _ _ _ _ _ _ _ _ (by first | with_reducible assumption | (simp (disch := omega) only [i_lit, i_m1, pk_sub, nI_add, nI_ml, nI_ltI, nI_leI, nI_eq, nI_clamp, nI_l, lN_i, lg_nI, lg_geI, lg_leI, lg_gtI, lg_ltI, c16_160, c16_200, c16_255, c16_300, c16_600, c16_616, c16_1000, Nat.add_eq, vp_updL_at, upd_at, Nat.add_sub_cancel, Nat.add_zero, Nat.zero_add, Nat.sub_zero, uU_uU, uT_uT, uI_uI, uL_uL, uU_at, uT_at, uI_at, uL_at, uU_ne, uT_ne, uI_ne, uL_ne, uU_sw, uT_sw, uI_sw, uL_sw] <;> first | with_reducible assumption | omega) | omega | decide) (by first | with_reducible assumption | (simp (disch := omega) only [i_lit, i_m1, pk_sub, nI_add, nI_ml, nI_ltI, nI_leI, nI_eq, nI_clamp, nI_l, lN_i, lg_nI, lg_geI, lg_leI, lg_gtI, lg_ltI, c16_160, c16_200, c16_255, c16_300, c16_600, c16_616, c16_1000, Nat.add_eq, vp_updL_at, upd_at, Nat.add_sub_cancel, Nat.add_zero, Nat.zero_add, Nat.sub_zero, uU_uU, uT_uT, uI_uI, uL_uL, uU_at, uT_at, uI_at, uL_at, uU_ne, uT_ne, uI_ne, uL_ne, uU_sw, uT_sw, uI_sw, uL_sw] <;> first | with_reducible assumption | omega) | omega | decide) (by first | with_reducible assumption | (simp (disch := omega) only [i_lit, i_m1, pk_sub, nI_add, nI_ml, nI_ltI, nI_leI, nI_eq, nI_clamp, nI_l, lN_i, lg_nI, lg_geI, lg_leI, lg_gtI, lg_ltI, c16_160, c16_200, c16_255, c16_300, c16_600, c16_616, c16_1000, Nat.add_eq, vp_updL_at, upd_at, Nat.add_sub_cancel, Nat.add_zero, Nat.zero_add, Nat.sub_zero, uU_uU, uT_uT, uI_uI, uL_uL, uU_at, uT_at, uI_at, uL_at, uU_ne, uT_ne, uI_ne, uL_ne, uU_sw, uT_sw, uI_sw, uL_sw] <;> first | with_reducible assumption | omega) | omega | decide) (by first | with_reducible assumption | (simp (disch := omega) only [i_lit, i_m1, pk_sub, nI_add, nI_ml, nI_ltI, nI_leI, nI_eq, nI_clamp, nI_l, lN_i, lg_nI, lg_geI, lg_leI, lg_gtI, lg_ltI, c16_160, c16_200, c16_255, c16_300, c16_600, c16_616, c16_1000, Nat.add_eq, vp_updL_at, upd_at, Nat.add_sub_cancel, Nat.add_zero, Nat.zero_add, Nat.sub_zero, uU_uU, uT_uT, uI_uI, uL_uL, uU_at, uT_at, uI_at, uL_at, uU_ne, uT_ne, uI_ne, uL_ne, uU_sw, uT_sw, uI_sw, uL_sw] <;> first | with_reducible assumption | omega) | omega | decide) (by first | with_reducible assumption | (simp (disch := omega) only [i_lit, i_m1, pk_sub, nI_add, nI_ml, nI_ltI, nI_leI, nI_eq, nI_clamp, nI_l, lN_i, lg_nI, lg_geI, lg_leI, lg_gtI, lg_ltI, c16_160, c16_200, c16_255, c16_300, c16_600, c16_616, c16_1000, Nat.add_eq, vp_updL_at, upd_at, Nat.add_sub_cancel, Nat.add_zero, Nat.zero_add, Nat.sub_zero, uU_uU, uT_uT, uI_uI, uL_uL, uU_at, uT_at, uI_at, uL_at, uU_ne, uT_ne, uI_ne, uL_ne, uU_sw, uT_sw, uI_sw, uL_sw] <;> first | with_reducible assumption | omega) | omega | decide) (by first | with_reducible assumption | (simp (disch := omega) only [i_lit, i_m1, pk_sub, nI_add, nI_ml, nI_ltI, nI_leI, nI_eq, nI_clamp, nI_l, lN_i, lg_nI, lg_geI, lg_leI, lg_gtI, lg_ltI, c16_160, c16_200, c16_255, c16_300, c16_600, c16_616, c16_1000, Nat.add_eq, vp_updL_at, upd_at, Nat.add_sub_cancel, Nat.add_zero, Nat.zero_add, Nat.sub_zero, uU_uU, uT_uT, uI_uI, uL_uL, uU_at, uT_at, uI_at, uL_at, uU_ne, uT_ne, uI_ne, uL_ne, uU_sw, uT_sw, uI_sw, uL_sw] <;> first | with_reducible assumption | omega) | omega | decide) (hs) (by first | with_reducible assumption | (simp (disch := omega) only [i_lit, i_m1, pk_sub, nI_add, nI_ml, nI_ltI, nI_leI, nI_eq, nI_clamp, nI_l, lN_i, lg_nI, lg_geI, lg_leI, lg_gtI, lg_ltI, c16_160, c16_200, c16_255, c16_300, c16_600, c16_616, c16_1000, Nat.add_eq, vp_updL_at, upd_at, Nat.add_sub_cancel, Nat.add_zero, Nat.zero_add, Nat.sub_zero, uU_uU, uT_uT, uI_uI, uL_uL, uU_at, uT_at, uI_at, uL_at, uU_ne, uT_ne, uI_ne, uL_ne, uU_sw, uT_sw, uI_sw, uL_sw] <;> first | with_reducible assumption | omega) | omega | decide) ?_)
          rw [pk_lRem hA hP0 hP, dg_mm, l_ten _ hP]
          exact hz
      · rw [bgn_1 (k := 9 - e) (by omega)]
        have c5 : ¬ (nI 1 = 0) := by decide
        obtain ⟨f', hs, hf'⟩ := s_wr (I := I) (L := L) (U := U) hr hf (a := 48 + Int64.toInt32 (lN (v % 10 ^ (e + 1)) / lN (10 ^ e))) (by rw [pk_lDiv hA hP0 hP, dg_at, lN_i, dgw_at (by omega)]; exact nI_add 48 _)
        rw [show s + (d - (e + 1)) + 1 = s + (d - e) by omega] at hs hf'
        refine .inl ⟨_, 4, by decide, ⟨f', rfl, hf'⟩, fun m rs hz => ?_⟩
        rw [bgn_1 (by omega)] at hz
        refine (q_X6_writeNumber_44_4 f_X9_write _ _ _ _ _ _ _ _ _ _ _ _ _ (by first | with_reducible assumption | (simp (disch := omega) only [i_lit, i_m1, pk_sub, nI_add, nI_ml, nI_ltI, nI_leI, nI_eq, nI_clamp, nI_l, lN_i, lg_nI, lg_geI, lg_leI, lg_gtI, lg_ltI, c16_160, c16_200, c16_255, c16_300, c16_600, c16_616, c16_1000, Nat.add_eq, vp_updL_at, upd_at, Nat.add_sub_cancel, Nat.add_zero, Nat.zero_add, Nat.sub_zero, uU_uU, uT_uT, uI_uI, uL_uL, uU_at, uT_at, uI_at, uL_at, uU_ne, uT_ne, uI_ne, uL_ne, uU_sw, uT_sw, uI_sw, uL_sw] <;> first | with_reducible assumption | omega) | omega | decide) (by first | with_reducible assumption | (simp (disch := omega) only [i_lit, i_m1, pk_sub, nI_add, nI_ml, nI_ltI, nI_leI, nI_eq, nI_clamp, nI_l, lN_i, lg_nI, lg_geI, lg_leI, lg_gtI, lg_ltI, c16_160, c16_200, c16_255, c16_300, c16_600, c16_616, c16_1000, Nat.add_eq, vp_updL_at, upd_at, Nat.add_sub_cancel, Nat.add_zero, Nat.zero_add, Nat.sub_zero, uU_uU, uT_uT, uI_uI, uL_uL, uU_at, uT_at, uI_at, uL_at, uU_ne, uT_ne, uI_ne, uL_ne, uU_sw, uT_sw, uI_sw, uL_sw] <;> first | with_reducible assumption | omega) | omega | decide) (by first | with_reducible assumption | (simp (disch := omega) only [i_lit, i_m1, pk_sub, nI_add, nI_ml, nI_ltI, nI_leI, nI_eq, nI_clamp, nI_l, lN_i, lg_nI, lg_geI, lg_leI, lg_gtI, lg_ltI, c16_160, c16_200, c16_255, c16_300, c16_600, c16_616, c16_1000, Nat.add_eq, vp_updL_at, upd_at, Nat.add_sub_cancel, Nat.add_zero, Nat.zero_add, Nat.sub_zero, uU_uU, uT_uT, uI_uI, uL_uL, uU_at, uT_at, uI_at, uL_at, uU_ne, uT_ne, uI_ne, uL_ne, uU_sw, uT_sw, uI_sw, uL_sw] <;> first | with_reducible assumption | omega) | omega | decide) (by first | with_reducible assumption | (simp (disch := omega) only [i_lit, i_m1, pk_sub, nI_add, nI_ml, nI_ltI, nI_leI, nI_eq, nI_clamp, nI_l, lN_i, lg_nI, lg_geI, lg_leI, lg_gtI, lg_ltI, c16_160, c16_200, c16_255, c16_300, c16_600, c16_616, c16_1000, Nat.add_eq, vp_updL_at, upd_at, Nat.add_sub_cancel, Nat.add_zero, Nat.zero_add, Nat.sub_zero, uU_uU, uT_uT, uI_uI, uL_uL, uU_at, uT_at, uI_at, uL_at, uU_ne, uT_ne, uI_ne, uL_ne, uU_sw, uT_sw, uI_sw, uL_sw] <;> first | with_reducible assumption | omega) | omega | decide) (hs) (by first | with_reducible assumption | (simp (disch := omega) only [i_lit, i_m1, pk_sub, nI_add, nI_ml, nI_ltI, nI_leI, nI_eq, nI_clamp, nI_l, lN_i, lg_nI, lg_geI, lg_leI, lg_gtI, lg_ltI, c16_160, c16_200, c16_255, c16_300, c16_600, c16_616, c16_1000, Nat.add_eq, vp_updL_at, upd_at, Nat.add_sub_cancel, Nat.add_zero, Nat.zero_add, Nat.sub_zero, uU_uU, uT_uT, uI_uI, uL_uL, uU_at, uT_at, uI_at, uL_at, uU_ne, uT_ne, uI_ne, uL_ne, uU_sw, uT_sw, uI_sw, uL_sw] <;> first | with_reducible assumption | omega) | omega | decide) ?_)
        rw [pk_lRem hA hP0 hP, dg_mm, l_ten _ hP]
        exact hz
    · refine .inr ⟨_, 2, by decide, ⟨f, rfl, WO_f hf (by omega)⟩, ?_⟩
      rw [wrm_0 (i := s + d) (by omega), wrm_0 (by omega), wcap_0 (i := s + d) (by omega), wcap_0 (by omega)]
      have c0 : nI 0 = 0 := rfl
      have b01 : nI 0 = 0 ∨ nI 0 = 1 := .inl rfl
      exact (q_X6_writeNumber_44_5 f_X9_write _ _ _ _ _ _ _ _ (by first | with_reducible assumption | (simp (disch := omega) only [i_lit, i_m1, pk_sub, nI_add, nI_ml, nI_ltI, nI_leI, nI_eq, nI_clamp, nI_l, lN_i, lg_nI, lg_geI, lg_leI, lg_gtI, lg_ltI, c16_160, c16_200, c16_255, c16_300, c16_600, c16_616, c16_1000, Nat.add_eq, vp_updL_at, upd_at, Nat.add_sub_cancel, Nat.add_zero, Nat.zero_add, Nat.sub_zero, uU_uU, uT_uT, uI_uI, uL_uL, uU_at, uT_at, uI_at, uL_at, uU_ne, uT_ne, uI_ne, uL_ne, uU_sw, uT_sw, uI_sw, uL_sw] <;> first | with_reducible assumption | omega) | omega | decide) (by first | with_reducible assumption | (simp (disch := omega) only [i_lit, i_m1, pk_sub, nI_add, nI_ml, nI_ltI, nI_leI, nI_eq, nI_clamp, nI_l, lN_i, lg_nI, lg_geI, lg_leI, lg_gtI, lg_ltI, c16_160, c16_200, c16_255, c16_300, c16_600, c16_616, c16_1000, Nat.add_eq, vp_updL_at, upd_at, Nat.add_sub_cancel, Nat.add_zero, Nat.zero_add, Nat.sub_zero, uU_uU, uT_uT, uI_uI, uL_uL, uU_at, uT_at, uI_at, uL_at, uU_ne, uT_ne, uI_ne, uL_ne, uU_sw, uT_sw, uI_sw, uL_sw] <;> first | with_reducible assumption | omega) | omega | decide) (by first | with_reducible assumption | (simp (disch := omega) only [i_lit, i_m1, pk_sub, nI_add, nI_ml, nI_ltI, nI_leI, nI_eq, nI_clamp, nI_l, lN_i, lg_nI, lg_geI, lg_leI, lg_gtI, lg_ltI, c16_160, c16_200, c16_255, c16_300, c16_600, c16_616, c16_1000, Nat.add_eq, vp_updL_at, upd_at, Nat.add_sub_cancel, Nat.add_zero, Nat.zero_add, Nat.sub_zero, uU_uU, uT_uT, uI_uI, uL_uL, uU_at, uT_at, uI_at, uL_at, uU_ne, uT_ne, uI_ne, uL_ne, uU_sw, uT_sw, uI_sw, uL_sw] <;> first | with_reducible assumption | omega) | omega | decide))) (by
    rintro _ ⟨f, rfl, hf⟩
    rw [show d - (10 - 10) = d by omega] at hf
    have c6 : (lg_cmp (lN (10 ^ (10 - 10) / 10)) 0) ≤ 0 := by decide
    have b01 : nI (wrm o (s + d)) = 0 ∨ nI (wrm o (s + d)) = 1 := by
      unfold wrm
      split
      · exact .inr rfl
      · exact .inl rfl
    refine ⟨_, 2, by decide, ⟨f, rfl, hf⟩, ?_⟩
    rw [show d - (10 - 10) = d by omega]
    exact (q_X6_writeNumber_44_6 f_X9_write _ _ _ _ _ _ _ _ (by first | with_reducible assumption | (simp (disch := omega) only [i_lit, i_m1, pk_sub, nI_add, nI_ml, nI_ltI, nI_leI, nI_eq, nI_clamp, nI_l, lN_i, lg_nI, lg_geI, lg_leI, lg_gtI, lg_ltI, c16_160, c16_200, c16_255, c16_300, c16_600, c16_616, c16_1000, Nat.add_eq, vp_updL_at, upd_at, Nat.add_sub_cancel, Nat.add_zero, Nat.zero_add, Nat.sub_zero, uU_uU, uT_uT, uI_uI, uL_uL, uU_at, uT_at, uI_at, uL_at, uU_ne, uT_ne, uI_ne, uL_ne, uU_sw, uT_sw, uI_sw, uL_sw] <;> first | with_reducible assumption | omega) | omega | decide) (by first | with_reducible assumption | (simp (disch := omega) only [i_lit, i_m1, pk_sub, nI_add, nI_ml, nI_ltI, nI_leI, nI_eq, nI_clamp, nI_l, lN_i, lg_nI, lg_geI, lg_leI, lg_gtI, lg_ltI, c16_160, c16_200, c16_255, c16_300, c16_600, c16_616, c16_1000, Nat.add_eq, vp_updL_at, upd_at, Nat.add_sub_cancel, Nat.add_zero, Nat.zero_add, Nat.sub_zero, uU_uU, uT_uT, uI_uI, uL_uL, uU_at, uT_at, uI_at, uL_at, uU_ne, uT_ne, uI_ne, uL_ne, uU_sw, uT_sw, uI_sw, uL_sw] <;> first | with_reducible assumption | omega) | omega | decide))) 10 0 (wc (uI I 4 (nI (wcap o s))) L (uT T 2 f0) U) (by omega) ⟨f0, by rw [show s + (d - (10 - 0)) = s by omega], by rw [show s + (d - (10 - 0)) = s by omega]; exact hf0⟩
  subst hq
  refine ⟨f, m', hm', ?_, hf⟩
  rw [show s + (d - (10 - 0)) = s by omega, bgn_0 (by omega), Nat.mod_eq_of_lt (Nat.lt_of_lt_of_le hv (p10_m (by omega)))] at hz
  rw [ez]
  exact hz
theorem s_writeNumber {I : Nat → Int32} {L : Nat → Int64} {T : Nat → Nat → Int32} {U : Nat → Nat → Int64} {o : Nat} (e4 : I 4 = nI o) (ho : o ≤ 1000) (a : Int32) {s d v : Nat} (hd1 : 1 ≤ d) (hd2 : d ≤ 10) (hv : v < 10 ^ d) (hv2 : d = 1 ∨ 10 ^ (d - 1) ≤ v) (hs : (0 ≤ a ∧ s = 0 ∧ a.toInt64 = lN v) ∨ (¬ 0 ≤ a ∧ s = 1 ∧ - a.toInt64 = lN v)) : CWr f_X6_writeNumber [.ref 33, .int a] I L T U o (s + d) (dgw s d v) := by
  rcases hs with ⟨h0, rfl, e⟩ | ⟨h0, rfl, e⟩
  · obtain ⟨f, m', hm', hz, hf⟩ := s_wnL (I := I) (L := L) (U := U) hd1 hd2 hv hv2 (WO_0 (o := o) (f := T 2)) e
    refine ⟨f, ?_, hf⟩
    rw [wrm_1 (o := o) (i := 0) (by omega), wcap_1 (o := o) (i := 0) (by omega), Nat.add_zero, w_in e4, uT_self] at hz
    rw [fv_X6_writeNumber_eq]
    exact (p_X6_writeNumber_3 f_X9_write _ _ _ _ _ (by first | with_reducible assumption | (simp (disch := omega) only [i_lit, i_m1, pk_sub, nI_add, nI_ml, nI_ltI, nI_leI, nI_eq, nI_clamp, nI_l, lN_i, lg_nI, lg_geI, lg_leI, lg_gtI, lg_ltI, c16_160, c16_200, c16_255, c16_300, c16_600, c16_616, c16_1000, Nat.add_eq, vp_updL_at, upd_at, Nat.add_sub_cancel, Nat.add_zero, Nat.zero_add, Nat.sub_zero, uU_uU, uT_uT, uI_uI, uL_uL, uU_at, uT_at, uI_at, uL_at, uU_ne, uT_ne, uI_ne, uL_ne, uU_sw, uT_sw, uI_sw, uL_sw] <;> first | with_reducible assumption | omega) | omega | decide) (m := m') (by omega) hz)
  · obtain ⟨f0, hs, hf0⟩ := s_wr (I := I) (L := L) (T := T) (U := U) (o := o) (i := 0) (w := dgw 1 d v) (f := T 2) (by omega) WO_0 (a := 45) (by rw [show dgw 1 d v 0 = 45 from if_pos (by decide)]; rfl)
    rw [wcap_1 (o := o) (i := 0) (by omega), Nat.add_zero, w_in e4, uT_self] at hs
    obtain ⟨f, m', hm', hz, hf⟩ := s_wnL (I := I) (L := L) (U := U) hd1 hd2 hv hv2 hf0 e
    refine ⟨f, ?_, hf⟩
    rw [fv_X6_writeNumber_eq]
    by_cases hr : o + 1 ≤ 1000
    · have c1 : ¬ (nI (wrm o (0 + 1)) = 0) := by
        rw [wrm_1 (by omega)]
        decide
      rw [wrm_1 hr] at hz
      exact (p_X6_writeNumber_1 f_X9_write _ _ _ _ _ _ _ _ _ _ (by first | with_reducible assumption | (simp (disch := omega) only [i_lit, i_m1, pk_sub, nI_add, nI_ml, nI_ltI, nI_leI, nI_eq, nI_clamp, nI_l, lN_i, lg_nI, lg_geI, lg_leI, lg_gtI, lg_ltI, c16_160, c16_200, c16_255, c16_300, c16_600, c16_616, c16_1000, Nat.add_eq, vp_updL_at, upd_at, Nat.add_sub_cancel, Nat.add_zero, Nat.zero_add, Nat.sub_zero, uU_uU, uT_uT, uI_uI, uL_uL, uU_at, uT_at, uI_at, uL_at, uU_ne, uT_ne, uI_ne, uL_ne, uU_sw, uT_sw, uI_sw, uL_sw] <;> first | with_reducible assumption | omega) | omega | decide) (hs) (by first | with_reducible assumption | (simp (disch := omega) only [i_lit, i_m1, pk_sub, nI_add, nI_ml, nI_ltI, nI_leI, nI_eq, nI_clamp, nI_l, lN_i, lg_nI, lg_geI, lg_leI, lg_gtI, lg_ltI, c16_160, c16_200, c16_255, c16_300, c16_600, c16_616, c16_1000, Nat.add_eq, vp_updL_at, upd_at, Nat.add_sub_cancel, Nat.add_zero, Nat.zero_add, Nat.sub_zero, uU_uU, uT_uT, uI_uI, uL_uL, uU_at, uT_at, uI_at, uL_at, uU_ne, uT_ne, uI_ne, uL_ne, uU_sw, uT_sw, uI_sw, uL_sw] <;> first | with_reducible assumption | omega) | omega | decide) (m := m') (by omega) hz)
    · have c1 : nI (wrm o (0 + 1)) = 0 := by
        rw [wrm_0 (by omega)]
        rfl
      rw [wrm_0 (o := o) (i := 1) (by omega)] at hz
      exact (p_X6_writeNumber_2 f_X9_write _ _ _ _ _ _ _ _ _ _ (by first | with_reducible assumption | (simp (disch := omega) only [i_lit, i_m1, pk_sub, nI_add, nI_ml, nI_ltI, nI_leI, nI_eq, nI_clamp, nI_l, lN_i, lg_nI, lg_geI, lg_leI, lg_gtI, lg_ltI, c16_160, c16_200, c16_255, c16_300, c16_600, c16_616, c16_1000, Nat.add_eq, vp_updL_at, upd_at, Nat.add_sub_cancel, Nat.add_zero, Nat.zero_add, Nat.sub_zero, uU_uU, uT_uT, uI_uI, uL_uL, uU_at, uT_at, uI_at, uL_at, uU_ne, uT_ne, uI_ne, uL_ne, uU_sw, uT_sw, uI_sw, uL_sw] <;> first | with_reducible assumption | omega) | omega | decide) (hs) (by first | with_reducible assumption | (simp (disch := omega) only [i_lit, i_m1, pk_sub, nI_add, nI_ml, nI_ltI, nI_leI, nI_eq, nI_clamp, nI_l, lN_i, lg_nI, lg_geI, lg_leI, lg_gtI, lg_ltI, c16_160, c16_200, c16_255, c16_300, c16_600, c16_616, c16_1000, Nat.add_eq, vp_updL_at, upd_at, Nat.add_sub_cancel, Nat.add_zero, Nat.zero_add, Nat.sub_zero, uU_uU, uT_uT, uI_uI, uL_uL, uU_at, uT_at, uI_at, uL_at, uU_ne, uT_ne, uI_ne, uL_ne, uU_sw, uT_sw, uI_sw, uL_sw] <;> first | with_reducible assumption | omega) | omega | decide) (m := m') (by omega) hz)
theorem t_pnL {I : Nat → Int32} {T : Nat → Nat → Int32} {K : Nat → Int64} {o s d v : Nat} {f0 : Nat → Int32} (ho : o ≤ 1000) (hs1 : s ≤ 1) (hd1 : 1 ≤ d) (hd2 : d ≤ 10) (hv : v < 10 ^ d) (hv2 : d = 1 ∨ 10 ^ (d - 1) ≤ v) (hf0 : WQ o s (dgw s d v) (T 11) f0) {z0 : Int64} (ez : z0 = lN v) : ∃ f m, m ≤ 100 ∧ (z_X12_putNumber f_X12_putOut) 26 [.ref 0, .null, .long z0, .null, .long 1, .null] [] (wr (uI I 11 (nI (o + (s)))) (uT T 11 f0) K) m = some (none, wr (uI I 11 (nI (o + (s + d)))) (uT T 11 f) K) ∧ WQ o (s + d) (dgw s d v) (T 11) f := by
  subst ez
  obtain ⟨rs, m', ⟨f, hq, hf⟩, hm', hz⟩ := lp (fun k W m => (z_X12_putNumber f_X12_putOut) 48 [.ref 0, .null, .long (lN v), .null, .long (lN (10 ^ (d - k) / 10)), .null] [] W m) (fun k W => ∃ f, W = wr (uI I 11 (nI (o + (s + k)))) (uT T 11 f) K ∧ WQ o (s + k) (dgw s d v) (T 11) f) (fun rs => ∃ f, rs = (none, wr (uI I 11 (nI (o + (s + d)))) (uT T 11 f) K) ∧ WQ o (s + d) (dgw s d v) (T 11) f) d 1 2 (by
    rintro k _ hk ⟨f, rfl, hf⟩
    obtain ⟨e, he, rfl⟩ : ∃ e, e + 1 ≤ d ∧ k = d - (e + 1) := ⟨d - 1 - k, by omega, by omega⟩
    have k0 : d - (d - (e + 1)) = e + 1 := by omega
    have k1 : d - (d - (e + 1) + 1) = e := by omega
    have k2 : s + (d - (e + 1) + 1) = s + (d - (e + 1)) + 1 := by omega
    simp only [k0, k1, k2, p10_d]
    have hP0 := (p10_b (e := e) (by omega)).1
    have hP1 := (p10_b (e := e) (by omega)).2
    have hP : 10 ^ e < 2 ^ 63 := by omega
    have hv0 := (p10_b (e := d) hd2).2
    have hvb : v < 2 ^ 63 := by omega
    have hqb : v / 10 ^ e < 2 ^ 63 := Nat.lt_of_le_of_lt (Nat.div_le_self _ _) hvb
    have c6 := l_pos hP0 hP
    have c60 := l_ne0 hP0 hP
    obtain ⟨f', hs, hf'⟩ := t_wrO (I := I) (K := K) (show o + (s + (d - (e + 1))) < 100000 by omega) hf (a := Int64.toInt32 (48 + ((lN v / lN (10 ^ e)) - (lN v / lN (10 ^ e)) / 10 * 10))) (by
      rw [pk_lDiv hvb hP0 hP, show lN (v / 10 ^ e) - lN (v / 10 ^ e) / 10 * 10 = lN (v / 10 ^ e % 10) from pk_lRem (b := 10) hqb (by decide) (by decide), show (48 : Int64) + lN (v / 10 ^ e % 10) = lN (48 + v / 10 ^ e % 10) from lN_add 48 _, lN_i, dgw_at he])
    refine .inl ⟨_, 1, Nat.le_refl _, ⟨f', rfl, hf'⟩, fun m rs hz => ?_⟩
    refine (q_X12_putNumber_48_1 f_X12_putOut _ _ _ _ _ _ _ _ (by first | with_reducible assumption | (simp (disch := omega) only [i_lit, i_m1, pk_sub, nI_add, nI_ml, nI_ltI, nI_leI, nI_eq, nI_clamp, nI_l, lN_i, lg_nI, lg_geI, lg_leI, lg_gtI, lg_ltI, c16_160, c16_200, c16_255, c16_300, c16_600, c16_616, c16_1000, Nat.add_eq, vp_updL_at, upd_at, Nat.add_sub_cancel, Nat.add_zero, Nat.zero_add, Nat.sub_zero, uU_uU, uT_uT, uI_uI, uL_uL, uU_at, uT_at, uI_at, uL_at, uU_ne, uT_ne, uI_ne, uL_ne, uU_sw, uT_sw, uI_sw, uL_sw] <;> first | with_reducible assumption | omega) | omega | decide) (by first | with_reducible assumption | (simp (disch := omega) only [i_lit, i_m1, pk_sub, nI_add, nI_ml, nI_ltI, nI_leI, nI_eq, nI_clamp, nI_l, lN_i, lg_nI, lg_geI, lg_leI, lg_gtI, lg_ltI, c16_160, c16_200, c16_255, c16_300, c16_600, c16_616, c16_1000, Nat.add_eq, vp_updL_at, upd_at, Nat.add_sub_cancel, Nat.add_zero, Nat.zero_add, Nat.sub_zero, uU_uU, uT_uT, uI_uI, uL_uL, uU_at, uT_at, uI_at, uL_at, uU_ne, uT_ne, uI_ne, uL_ne, uU_sw, uT_sw, uI_sw, uL_sw] <;> first | with_reducible assumption | omega) | omega | decide) (hs) ?_)
    rw [l_ten _ hP]
    exact hz) (by
    rintro _ ⟨f, rfl, hf⟩
    have c6 : (lg_cmp (lN (10 ^ (d - d) / 10)) 0) ≤ 0 := by
      rw [Nat.sub_self]
      decide
    exact ⟨_, 2, Nat.le_refl _, ⟨f, rfl, hf⟩, (q_X12_putNumber_48_2 f_X12_putOut _ _ _ _ _ (by first | with_reducible assumption | (simp (disch := omega) only [i_lit, i_m1, pk_sub, nI_add, nI_ml, nI_ltI, nI_leI, nI_eq, nI_clamp, nI_l, lN_i, lg_nI, lg_geI, lg_leI, lg_gtI, lg_ltI, c16_160, c16_200, c16_255, c16_300, c16_600, c16_616, c16_1000, Nat.add_eq, vp_updL_at, upd_at, Nat.add_sub_cancel, Nat.add_zero, Nat.zero_add, Nat.sub_zero, uU_uU, uT_uT, uI_uI, uL_uL, uU_at, uT_at, uI_at, uL_at, uU_ne, uT_ne, uI_ne, uL_ne, uU_sw, uT_sw, uI_sw, uL_sw] <;> first | with_reducible assumption | omega) | omega | decide))⟩) d 0 (wr (uI I 11 (nI (o + (s)))) (uT T 11 f0) K) (by omega) ⟨f0, rfl, hf0⟩
  subst hq
  obtain ⟨_, m2, _, hm2, hz2⟩ := lpc (fun k (_ : Unit) m => (z_X12_putNumber f_X12_putOut) 26 [.ref 0, .null, .long (lN v), .null, .long (lN (10 ^ k)), .null] [] (wr (uI I 11 (nI (o + (s)))) (uT T 11 f0) K) m) (fun _ m => (z_X12_putNumber f_X12_putOut) 48 [.ref 0, .null, .long (lN v), .null, .long (lN (10 ^ (d - 1))), .null] [] (wr (uI I 11 (nI (o + (s)))) (uT T 11 f0) K) m) (fun _ _ => True) (fun _ => True) (d - 1) 1 1 (by
    intro k _ hk _
    have hP0 := (p10_b (e := k) (by omega)).1
    have hP1 := (p10_b (e := k) (by omega)).2
    have hP : 10 ^ k < 2 ^ 63 := by omega
    have hv0 := (p10_b (e := d) hd2).2
    have hvb : v < 2 ^ 63 := by omega
    have hqb : v / 10 ^ k < 2 ^ 63 := Nat.lt_of_le_of_lt (Nat.div_le_self _ _) hvb
    have c60 := l_ne0 hP0 hP
    have c1 : ¬ ((lg_cmp (lN v / lN (10 ^ k)) 10) < 0) := by
      rw [pk_lDiv hvb hP0 hP]
      intro q
      have q1 := (l_lt (b := 10) hqb (by decide)).mp q
      have q2 : 10 ^ (k + 1) ≤ v := by
        rcases hv2 with x | x
        · omega
        · exact Nat.le_trans (p10_m (by omega)) x
      rw [Nat.div_lt_iff_lt_mul hP0] at q1
      rw [Nat.pow_succ] at q2
      omega
    refine .inl ⟨(), 1, Nat.le_refl _, trivial, fun m rs hz => ?_⟩
    rw [Nat.pow_succ, Nat.mul_comm, ← lN_mul] at hz
    exact (q_X12_putNumber_26_1 f_X12_putOut _ _ _ _ _ (by first | with_reducible assumption | (simp (disch := omega) only [i_lit, i_m1, pk_sub, nI_add, nI_ml, nI_ltI, nI_leI, nI_eq, nI_clamp, nI_l, lN_i, lg_nI, lg_geI, lg_leI, lg_gtI, lg_ltI, c16_160, c16_200, c16_255, c16_300, c16_600, c16_616, c16_1000, Nat.add_eq, vp_updL_at, upd_at, Nat.add_sub_cancel, Nat.add_zero, Nat.zero_add, Nat.sub_zero, uU_uU, uT_uT, uI_uI, uL_uL, uU_at, uT_at, uI_at, uL_at, uU_ne, uT_ne, uI_ne, uL_ne, uU_sw, uT_sw, uI_sw, uL_sw] <;> first | with_reducible assumption | omega) | omega | decide) (by first | with_reducible assumption | (simp (disch := omega) only [i_lit, i_m1, pk_sub, nI_add, nI_ml, nI_ltI, nI_leI, nI_eq, nI_clamp, nI_l, lN_i, lg_nI, lg_geI, lg_leI, lg_gtI, lg_ltI, c16_160, c16_200, c16_255, c16_300, c16_600, c16_616, c16_1000, Nat.add_eq, vp_updL_at, upd_at, Nat.add_sub_cancel, Nat.add_zero, Nat.zero_add, Nat.sub_zero, uU_uU, uT_uT, uI_uI, uL_uL, uU_at, uT_at, uI_at, uL_at, uU_ne, uT_ne, uI_ne, uL_ne, uU_sw, uT_sw, uI_sw, uL_sw] <;> first | with_reducible assumption | omega) | omega | decide) hz)) (by
    intro _ _
    have hP0 := (p10_b (e := d - 1) (by omega)).1
    have hP1 := (p10_b (e := d - 1) (by omega)).2
    have hP : 10 ^ (d - 1) < 2 ^ 63 := by omega
    have hv0 := (p10_b (e := d) hd2).2
    have hvb : v < 2 ^ 63 := by omega
    have hqb : v / 10 ^ (d - 1) < 2 ^ 63 := Nat.lt_of_le_of_lt (Nat.div_le_self _ _) hvb
    have c60 := l_ne0 hP0 hP
    have c1 : (lg_cmp (lN v / lN (10 ^ (d - 1))) 10) < 0 := by
      rw [pk_lDiv hvb hP0 hP]
      refine (l_lt (b := 10) hqb (by decide)).mpr ?_
      rw [Nat.div_lt_iff_lt_mul hP0, ← Nat.pow_succ', show (d - 1).succ = d by omega]
      exact hv
    exact ⟨(), 1, Nat.le_refl _, trivial, fun m rs hz => (q_X12_putNumber_26_2 f_X12_putOut _ _ _ _ _ (by first | with_reducible assumption | (simp (disch := omega) only [i_lit, i_m1, pk_sub, nI_add, nI_ml, nI_ltI, nI_leI, nI_eq, nI_clamp, nI_l, lN_i, lg_nI, lg_geI, lg_leI, lg_gtI, lg_ltI, c16_160, c16_200, c16_255, c16_300, c16_600, c16_616, c16_1000, Nat.add_eq, vp_updL_at, upd_at, Nat.add_sub_cancel, Nat.add_zero, Nat.zero_add, Nat.sub_zero, uU_uU, uT_uT, uI_uI, uL_uL, uU_at, uT_at, uI_at, uL_at, uU_ne, uT_ne, uI_ne, uL_ne, uU_sw, uT_sw, uI_sw, uL_sw] <;> first | with_reducible assumption | omega) | omega | decide) (by first | with_reducible assumption | (simp (disch := omega) only [i_lit, i_m1, pk_sub, nI_add, nI_ml, nI_ltI, nI_leI, nI_eq, nI_clamp, nI_l, lN_i, lg_nI, lg_geI, lg_leI, lg_gtI, lg_ltI, c16_160, c16_200, c16_255, c16_300, c16_600, c16_616, c16_1000, Nat.add_eq, vp_updL_at, upd_at, Nat.add_sub_cancel, Nat.add_zero, Nat.zero_add, Nat.sub_zero, uU_uU, uT_uT, uI_uI, uL_uL, uU_at, uT_at, uI_at, uL_at, uU_ne, uT_ne, uI_ne, uL_ne, uU_sw, uT_sw, uI_sw, uL_sw] <;> first | with_reducible assumption | omega) | omega | decide) hz)⟩) (d - 1) 0 () (by omega) trivial
  rw [Nat.sub_zero, show 10 ^ d / 10 = 10 ^ (d - 1) by rw [← p10_d (d - 1), show d - 1 + 1 = d by omega]] at hz
  refine ⟨f, m' + m2, by omega, hz2 m' _ hz, hf⟩
theorem t_putNumber {I : Nat → Int32} {T : Nat → Nat → Int32} {K : Nat → Int64} {o : Nat} (e11 : I 11 = nI o) (ho : o ≤ 1000) (a : Int32) {s d v : Nat} (hd1 : 1 ≤ d) (hd2 : d ≤ 10) (hv : v < 10 ^ d) (hv2 : d = 1 ∨ 10 ^ (d - 1) ≤ v) (hs : (0 ≤ a ∧ s = 0 ∧ a.toInt64 = lN v) ∨ (¬ 0 ≤ a ∧ s = 1 ∧ - a.toInt64 = lN v)) : RWr f_X12_putNumber [.ref 0, .int a] I T K o (s + d) (dgw s d v) := by
  rcases hs with ⟨h0, rfl, e⟩ | ⟨h0, rfl, e⟩
  · obtain ⟨f, m', hm', hz, hf⟩ := t_pnL (I := I) (K := K) ho (by decide) hd1 hd2 hv hv2 (WQ_0 (o := o) (f := T 11)) e
    refine ⟨f, ?_, hf⟩
    rw [Nat.add_zero, w_in e11, uT_self] at hz
    rw [fv_X12_putNumber_eq]
    exact (p_X12_putNumber_2 f_X12_putOut _ _ _ _ (by first | with_reducible assumption | (simp (disch := omega) only [i_lit, i_m1, pk_sub, nI_add, nI_ml, nI_ltI, nI_leI, nI_eq, nI_clamp, nI_l, lN_i, lg_nI, lg_geI, lg_leI, lg_gtI, lg_ltI, c16_160, c16_200, c16_255, c16_300, c16_600, c16_616, c16_1000, Nat.add_eq, vp_updL_at, upd_at, Nat.add_sub_cancel, Nat.add_zero, Nat.zero_add, Nat.sub_zero, uU_uU, uT_uT, uI_uI, uL_uL, uU_at, uT_at, uI_at, uL_at, uU_ne, uT_ne, uI_ne, uL_ne, uU_sw, uT_sw, uI_sw, uL_sw] <;> first | with_reducible assumption | omega) | omega | decide) (m := m') (by omega) hz)
  · obtain ⟨f0, hs, hf0⟩ := t_wrO (I := I) (T := T) (K := K) (o := o) (i := 0) (w := dgw 1 d v) (f := T 11) (by omega) WQ_0 (a := 45) (by rw [show dgw 1 d v 0 = 45 from if_pos (by decide)]; rfl)
    rw [Nat.add_zero, w_in e11, uT_self] at hs
    obtain ⟨f, m', hm', hz, hf⟩ := t_pnL (I := I) (K := K) ho (by decide) hd1 hd2 hv hv2 hf0 e
    refine ⟨f, ?_, hf⟩
    rw [fv_X12_putNumber_eq]
    exact (p_X12_putNumber_1 f_X12_putOut _ _ _ _ _ _ _ (by first | with_reducible assumption | (simp (disch := omega) only [i_lit, i_m1, pk_sub, nI_add, nI_ml, nI_ltI, nI_leI, nI_eq, nI_clamp, nI_l, lN_i, lg_nI, lg_geI, lg_leI, lg_gtI, lg_ltI, c16_160, c16_200, c16_255, c16_300, c16_600, c16_616, c16_1000, Nat.add_eq, vp_updL_at, upd_at, Nat.add_sub_cancel, Nat.add_zero, Nat.zero_add, Nat.sub_zero, uU_uU, uT_uT, uI_uI, uL_uL, uU_at, uT_at, uI_at, uL_at, uU_ne, uT_ne, uI_ne, uL_ne, uU_sw, uT_sw, uI_sw, uL_sw] <;> first | with_reducible assumption | omega) | omega | decide) (hs) (m := m') (by omega) hz)
