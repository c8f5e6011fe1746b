section
variable {I I2 : Nat → Int32} {L L2 : Nat → Int64} {T T2 : Nat → Nat → Int32} {U U2 : Nat → Nat → Int64} {J J1 : Nat → Int32} {S S1 : Nat → Nat → Int32} {K K1 : Nat → Int64} {k f n o r : Nat}
theorem s_clF (e12 : I 12 = nI o) (ho : 0 < o) (ho8 : o ≤ 8) (e9 : T 9 (o - 1) = nI f) (e11 : I 11 = nI r) (hfr : f ≤ r) (hr : r ≤ 300) (e2 : I 2 = nI k) (hk : k ≤ 600) (hl : 600 < k + (r - f)) : f_X7_closeProcedure (wc I L T U) [.ref 19] = some (some (.int 2), wc I L T U) := by
  have i1 : I 12 - 1 = nI (o - 1) := by
    rw [e12]
    exact nI_p1 ho
  have i2 : (((I 12) - 1) : Int32).toNatClampNeg = o - 1 := by
    rw [i1, nI_clamp (by omega)]
  have c1 : ¬ (I 12 ≤ 0) := by
    rw [e12]
    exact nn_le (b := 0) (by omega) (by decide) ho
  have c2 : I 12 ≤ 8 := by
    rw [e12]
    exact yy_le (b := 8) (by omega) (by decide) ho8
  have c3 : ¬ ((I 12 - 1) < 0 ∨ 8 ≤ (((I 12) - 1) : Int32).toNatClampNeg) := by
    rw [i2, i1, i_lit 0, nI_ltI (by omega) (by decide)]
    omega
  have ln : I 11 - T 9 (((I 12) - 1) : Int32).toNatClampNeg = nI (r - f) := by
    rw [i2, e9, e11, pk_sub hfr]
  have c4 : ¬ ((0 : Int32) ≤ Int32.ofInt (-1)) := by decide
  rw [fv_X7_closeProcedure_eq]
  exact (p_X7_closeProcedure_2 f_X9_makeArray f_X9_setCell f_X7_keep f_X10_array _ _ _ _ _ _ _ _ _ (by first | with_reducible assumption | (simp (disch := omega) only [i_lit, i_m1, pk_sub, nI_add, nI_ml, nI_ltI, nI_leI, nI_eq, nI_clamp, nI_l, lN_i, lg_nI, lg_geI, lg_leI, lg_gtI, lg_ltI, c16_160, c16_200, c16_255, c16_300, c16_600, c16_616, c16_1000, Nat.add_eq, vp_updL_at, upd_at, Nat.add_sub_cancel, Nat.add_zero, Nat.zero_add, Nat.sub_zero, uU_uU, uT_uT, uI_uI, uL_uL, uU_at, uT_at, uI_at, uL_at, uU_ne, uT_ne, uI_ne, uL_ne, uU_sw, uT_sw, uI_sw, uL_sw] <;> first | with_reducible assumption | omega) | omega | decide) (by first | with_reducible assumption | (simp (disch := omega) only [i_lit, i_m1, pk_sub, nI_add, nI_ml, nI_ltI, nI_leI, nI_eq, nI_clamp, nI_l, lN_i, lg_nI, lg_geI, lg_leI, lg_gtI, lg_ltI, c16_160, c16_200, c16_255, c16_300, c16_600, c16_616, c16_1000, Nat.add_eq, vp_updL_at, upd_at, Nat.add_sub_cancel, Nat.add_zero, Nat.zero_add, Nat.sub_zero, uU_uU, uT_uT, uI_uI, uL_uL, uU_at, uT_at, uI_at, uL_at, uU_ne, uT_ne, uI_ne, uL_ne, uU_sw, uT_sw, uI_sw, uL_sw] <;> first | with_reducible assumption | omega) | omega | decide) (by first | with_reducible assumption | (simp (disch := omega) only [i_lit, i_m1, pk_sub, nI_add, nI_ml, nI_ltI, nI_leI, nI_eq, nI_clamp, nI_l, lN_i, lg_nI, lg_geI, lg_leI, lg_gtI, lg_ltI, c16_160, c16_200, c16_255, c16_300, c16_600, c16_616, c16_1000, Nat.add_eq, vp_updL_at, upd_at, Nat.add_sub_cancel, Nat.add_zero, Nat.zero_add, Nat.sub_zero, uU_uU, uT_uT, uI_uI, uL_uL, uU_at, uT_at, uI_at, uL_at, uU_ne, uT_ne, uI_ne, uL_ne, uU_sw, uT_sw, uI_sw, uL_sw] <;> first | with_reducible assumption | omega) | omega | decide) (s_makeArray0 e2 hk ln (by omega) hl) (by first | with_reducible assumption | (simp (disch := omega) only [i_lit, i_m1, pk_sub, nI_add, nI_ml, nI_ltI, nI_leI, nI_eq, nI_clamp, nI_l, lN_i, lg_nI, lg_geI, lg_leI, lg_gtI, lg_ltI, c16_160, c16_200, c16_255, c16_300, c16_600, c16_616, c16_1000, Nat.add_eq, vp_updL_at, upd_at, Nat.add_sub_cancel, Nat.add_zero, Nat.zero_add, Nat.sub_zero, uU_uU, uT_uT, uI_uI, uL_uL, uU_at, uT_at, uI_at, uL_at, uU_ne, uT_ne, uI_ne, uL_ne, uU_sw, uT_sw, uI_sw, uL_sw] <;> first | with_reducible assumption | omega) | omega | decide))
theorem s_cl (e12 : I 12 = nI o) (ho : 0 < o) (ho8 : o ≤ 8) (e9 : T 9 (o - 1) = nI f) (e11 : I 11 = nI r) (hfr : f + n = r) (hr : r ≤ 300) (e2 : I 2 = nI k) (hl : k + n ≤ 600) : ∃ g, (∀ j, j < k → g j = U 2 j) ∧ (∀ j, j < n → g (k + j) = U 7 (f + j)) ∧ ∀ (c : Int32) (I2 : Nat → Int32) (L2 : Nat → Int64) (T2 : Nat → Nat → Int32) (U2 : Nat → Nat → Int64), f_X7_keep (wc (uI (uI (uI I 2 (nI (k + n))) 11 (nI f)) 12 (nI (o - 1))) L T (uU U 2 g)) [.ref 19, .long (eV (5, 1, n, nI k))] = some (some (.int c), wc I2 L2 T2 U2) → f_X7_closeProcedure (wc I L T U) [.ref 19] = some (some (.int c), wc I2 L2 T2 U2) := by
  have i1 : I 12 - 1 = nI (o - 1) := by
    rw [e12]
    exact nI_p1 ho
  have i2 : (((I 12) - 1) : Int32).toNatClampNeg = o - 1 := by
    rw [i1, nI_clamp (by omega)]
  have c1 : ¬ (I 12 ≤ 0) := by
    rw [e12]
    exact nn_le (b := 0) (by omega) (by decide) ho
  have c2 : I 12 ≤ 8 := by
    rw [e12]
    exact yy_le (b := 8) (by omega) (by decide) ho8
  have c3 : ¬ ((I 12 - 1) < 0 ∨ 8 ≤ (((I 12) - 1) : Int32).toNatClampNeg) := by
    rw [i2, i1, i_lit 0, nI_ltI (by omega) (by decide)]
    omega
  have fx : T 9 (((I 12) - 1) : Int32).toNatClampNeg = nI f := by
    rw [i2, e9]
  have ln : I 11 - T 9 (((I 12) - 1) : Int32).toNatClampNeg = nI n := by
    rw [fx, e11, pk_sub (by omega), show r - f = n by omega]
  obtain ⟨f0, g1, g2, g3⟩ := s_makeArray (L := L) (T := T) (U := U) e2 hl ln
  obtain ⟨_, m', ⟨g, rfl, h1, h2⟩, hm', hz⟩ := lpc (fun i W m => (z_X7_closeProcedure f_X9_makeArray f_X9_setCell f_X7_keep f_X10_array) 55 [.ref 19, .int (nI f), .int (nI n), .int (nI k), .int (nI i)] [] W m) (fun W m => (z_X7_closeProcedure f_X9_makeArray f_X9_setCell f_X7_keep f_X10_array) 55 [.ref 19, .int (nI f), .int (nI n), .int (nI k), .int (nI n)] [] W m) (fun i W => ∃ g, W = wc (uI I 2 (nI (k + n))) L T (uU U 2 g) ∧ (∀ j, j < k → g j = U 2 j) ∧ (∀ j, j < i → g (k + j) = U 7 (f + j))) (fun W => ∃ g, W = wc (uI I 2 (nI (k + n))) L T (uU U 2 g) ∧ (∀ j, j < k → g j = U 2 j) ∧ (∀ j, j < n → g (k + j) = U 7 (f + j))) n 1 0 (by
    rintro i _ hi ⟨g, rfl, h1, h2⟩
    have d1 : ¬ (nI n ≤ nI i) := nn_le (by omega) (by omega) hi
    have n1 : nI f + nI i = nI (f + i) := nI_add f i
    have d2 : ¬ ((Int16.toInt32 (Int16.ofInt 300)) ≤ (nI f + nI i)) := by
      rw [n1]
      exact nn_le (a := 300) (by decide) (by omega) (by omega)
    have d3 : ¬ ((nI f + nI i) < 0 ∨ 300 ≤ ((nI f + nI i) : Int32).toNatClampNeg) := by
      rw [n1, nI_clamp (by omega), i_lit 0, nI_ltI (by omega) (by decide)]
      omega
    have sc := s_setCell (I := uI I 2 (nI (k + n))) (L := L) (T := T) (U := uU U 2 g) (i := k + i) (a := nI k + nI i) (z := uU U 2 g 7 ((nI f + nI i) : Int32).toNatClampNeg) (nI_add k i) (by omega)
    rw [uU_uU, uU_at] at sc
    have vx : uU U 2 g 7 ((nI f + nI i) : Int32).toNatClampNeg = U 7 (f + i) := by
      rw [n1, nI_clamp (by omega)]
      rfl
    refine .inl ⟨_, 1, Nat.le_refl _, ⟨vp_updL g (k + i) (U 7 (f + i)), rfl, fun j hj => ?_, fun j hj => ?_⟩, fun m rs hz' => ?_⟩
    · rw [vp_updL_ne (by omega), h1 j hj]
    · by_cases e : j = i
      · rw [e, vp_updL_at]
      · rw [vp_updL_ne (by omega), h2 j (by omega)]
    · rw [← nI_add i 1] at hz'
      refine (q_X7_closeProcedure_55_1 f_X9_makeArray f_X9_setCell f_X7_keep f_X10_array _ _ _ _ _ _ _ _ _ _ _ _ (by first | with_reducible assumption | (simp (disch := omega) only [i_lit, i_m1, pk_sub, nI_add, nI_ml, nI_ltI, nI_leI, nI_eq, nI_clamp, nI_l, lN_i, lg_nI, lg_geI, lg_leI, lg_gtI, lg_ltI, c16_160, c16_200, c16_255, c16_300, c16_600, c16_616, c16_1000, Nat.add_eq, vp_updL_at, upd_at, Nat.add_sub_cancel, Nat.add_zero, Nat.zero_add, Nat.sub_zero, uU_uU, uT_uT, uI_uI, uL_uL, uU_at, uT_at, uI_at, uL_at, uU_ne, uT_ne, uI_ne, uL_ne, uU_sw, uT_sw, uI_sw, uL_sw] <;> first | with_reducible assumption | omega) | omega | decide) (by first | with_reducible assumption | (simp (disch := omega) only [i_lit, i_m1, pk_sub, nI_add, nI_ml, nI_ltI, nI_leI, nI_eq, nI_clamp, nI_l, lN_i, lg_nI, lg_geI, lg_leI, lg_gtI, lg_ltI, c16_160, c16_200, c16_255, c16_300, c16_600, c16_616, c16_1000, Nat.add_eq, vp_updL_at, upd_at, Nat.add_sub_cancel, Nat.add_zero, Nat.zero_add, Nat.sub_zero, uU_uU, uT_uT, uI_uI, uL_uL, uU_at, uT_at, uI_at, uL_at, uU_ne, uT_ne, uI_ne, uL_ne, uU_sw, uT_sw, uI_sw, uL_sw] <;> first | with_reducible assumption | omega) | omega | decide) (by first | with_reducible assumption | (simp (disch := omega) only [i_lit, i_m1, pk_sub, nI_add, nI_ml, nI_ltI, nI_leI, nI_eq, nI_clamp, nI_l, lN_i, lg_nI, lg_geI, lg_leI, lg_gtI, lg_ltI, c16_160, c16_200, c16_255, c16_300, c16_600, c16_616, c16_1000, Nat.add_eq, vp_updL_at, upd_at, Nat.add_sub_cancel, Nat.add_zero, Nat.zero_add, Nat.sub_zero, uU_uU, uT_uT, uI_uI, uL_uL, uU_at, uT_at, uI_at, uL_at, uU_ne, uT_ne, uI_ne, uL_ne, uU_sw, uT_sw, uI_sw, uL_sw] <;> first | with_reducible assumption | omega) | omega | decide) (sc) ?_)
      rw [vx]
      exact hz') (by
    rintro _ ⟨g, rfl, h1, h2⟩
    exact ⟨_, 0, Nat.le_refl _, ⟨g, rfl, h1, h2⟩, fun m rs hz' => hz'⟩) n 0 (wc (uI I 2 (nI (k + n))) L T (uU U 2 f0)) (by omega) ⟨f0, rfl, g2, fun j hj => by omega⟩
  refine ⟨g, h1, h2, fun c I2 L2 T2 U2 hk => ?_⟩
  have d1 : nI n ≤ nI n := yy_le (by omega) (by omega) (Nat.le_refl _)
  have i3 : uI I 2 (nI (k + n)) 12 - 1 = nI (o - 1) := by
    rw [uI_ne _ _ (by decide)]
    exact i1
  have vw : w0 (5, 0, n, nI k) := ⟨show (5 : Nat) ≤ 8 by decide, show (0 : Nat) ≤ 1 by decide, by show n < 65536; omega⟩
  have ox : eV (5, 0, n, nI k) ||| 281474976710656 = eV (5, 1, n, nI k) := eV_orx vw
  have y : (z_X7_closeProcedure f_X9_makeArray f_X9_setCell f_X7_keep f_X10_array) 55 [.ref 19, .int (nI f), .int (nI n), .int (nI k), .int (nI n)] [] (wc (uI I 2 (nI (k + n))) L T (uU U 2 g)) (0 + 2) = some (some (.int c), wc I2 L2 T2 U2) := (q_X7_closeProcedure_55_3 f_X9_makeArray f_X9_setCell f_X7_keep f_X10_array _ _ _ _ _ _ _ _ _ _ _ _ _ _ (by first | with_reducible assumption | (simp (disch := omega) only [i_lit, i_m1, pk_sub, nI_add, nI_ml, nI_ltI, nI_leI, nI_eq, nI_clamp, nI_l, lN_i, lg_nI, lg_geI, lg_leI, lg_gtI, lg_ltI, c16_160, c16_200, c16_255, c16_300, c16_600, c16_616, c16_1000, Nat.add_eq, vp_updL_at, upd_at, Nat.add_sub_cancel, Nat.add_zero, Nat.zero_add, Nat.sub_zero, uU_uU, uT_uT, uI_uI, uL_uL, uU_at, uT_at, uI_at, uL_at, uU_ne, uT_ne, uI_ne, uL_ne, uU_sw, uT_sw, uI_sw, uL_sw] <;> first | with_reducible assumption | omega) | omega | decide) (s_array rfl (by omega)) ((by rw [i3, ox]; exact hk)))
  have y2 := hz _ _ y
  have c0 : (0 : Int32) ≤ nI k := yy_le (a := 0) (by decide) (by omega) (by omega)
  have hnn : 1 * n ≤ 1 * 300 := Nat.mul_le_mul_left _ (by omega)
  rw [fv_X7_closeProcedure_eq]
  refine (p_X7_closeProcedure_3 f_X9_makeArray f_X9_setCell f_X7_keep f_X10_array _ _ _ _ _ _ _ _ _ (by first | with_reducible assumption | (simp (disch := omega) only [i_lit, i_m1, pk_sub, nI_add, nI_ml, nI_ltI, nI_leI, nI_eq, nI_clamp, nI_l, lN_i, lg_nI, lg_geI, lg_leI, lg_gtI, lg_ltI, c16_160, c16_200, c16_255, c16_300, c16_600, c16_616, c16_1000, Nat.add_eq, vp_updL_at, upd_at, Nat.add_sub_cancel, Nat.add_zero, Nat.zero_add, Nat.sub_zero, uU_uU, uT_uT, uI_uI, uL_uL, uU_at, uT_at, uI_at, uL_at, uU_ne, uT_ne, uI_ne, uL_ne, uU_sw, uT_sw, uI_sw, uL_sw] <;> first | with_reducible assumption | omega) | omega | decide) (by first | with_reducible assumption | (simp (disch := omega) only [i_lit, i_m1, pk_sub, nI_add, nI_ml, nI_ltI, nI_leI, nI_eq, nI_clamp, nI_l, lN_i, lg_nI, lg_geI, lg_leI, lg_gtI, lg_ltI, c16_160, c16_200, c16_255, c16_300, c16_600, c16_616, c16_1000, Nat.add_eq, vp_updL_at, upd_at, Nat.add_sub_cancel, Nat.add_zero, Nat.zero_add, Nat.sub_zero, uU_uU, uT_uT, uI_uI, uL_uL, uU_at, uT_at, uI_at, uL_at, uU_ne, uT_ne, uI_ne, uL_ne, uU_sw, uT_sw, uI_sw, uL_sw] <;> first | with_reducible assumption | omega) | omega | decide) (by first | with_reducible assumption | (simp (disch := omega) only [i_lit, i_m1, pk_sub, nI_add, nI_ml, nI_ltI, nI_leI, nI_eq, nI_clamp, nI_l, lN_i, lg_nI, lg_geI, lg_leI, lg_gtI, lg_ltI, c16_160, c16_200, c16_255, c16_300, c16_600, c16_616, c16_1000, Nat.add_eq, vp_updL_at, upd_at, Nat.add_sub_cancel, Nat.add_zero, Nat.zero_add, Nat.sub_zero, uU_uU, uT_uT, uI_uI, uL_uL, uU_at, uT_at, uI_at, uL_at, uU_ne, uT_ne, uI_ne, uL_ne, uU_sw, uT_sw, uI_sw, uL_sw] <;> first | with_reducible assumption | omega) | omega | decide) (g1) (by first | with_reducible assumption | (simp (disch := omega) only [i_lit, i_m1, pk_sub, nI_add, nI_ml, nI_ltI, nI_leI, nI_eq, nI_clamp, nI_l, lN_i, lg_nI, lg_geI, lg_leI, lg_gtI, lg_ltI, c16_160, c16_200, c16_255, c16_300, c16_600, c16_616, c16_1000, Nat.add_eq, vp_updL_at, upd_at, Nat.add_sub_cancel, Nat.add_zero, Nat.zero_add, Nat.sub_zero, uU_uU, uT_uT, uI_uI, uL_uL, uU_at, uT_at, uI_at, uL_at, uU_ne, uT_ne, uI_ne, uL_ne, uU_sw, uT_sw, uI_sw, uL_sw] <;> first | with_reducible assumption | omega) | omega | decide) (m := 0 + 2 + m') (by omega) ?_)
  rw [ln, fx]
  exact y2
theorem t_clF (e19 : J 19 = nI o) (ho : 0 < o) (ho8 : o ≤ 8) (e15 : S 15 (o - 1) = nI f) (e18 : J 18 = nI r) (hfr : f ≤ r) (hr : r ≤ 300) (e7 : J 7 = nI k) (hk : k ≤ 600) (hl : 600 < k + (r - f)) : f_X12_closeProcedure (wr J S K) [.ref 0] = some (none, wr (uI (uI J 19 (nI (o - 1))) 20 2) S K) := by
  have i1 : J 19 - 1 = nI (o - 1) := by
    rw [e19]
    exact nI_p1 ho
  have i2 : (((J 19) - 1) : Int32).toNatClampNeg = o - 1 := by
    rw [i1, nI_clamp (by omega)]
  have c3 : ¬ ((J 19 - 1) < 0 ∨ 10 ≤ (((J 19) - 1) : Int32).toNatClampNeg) := by
    rw [i2, i1, i_lit 0, nI_ltI (by omega) (by decide)]
    omega
  have c4 : ¬ ((J 7 + (J 18 - S 15 (((J 19) - 1) : Int32).toNatClampNeg)) ≤ (Int16.toInt32 (Int16.ofInt 600))) := by
    rw [i2, e15, e18, pk_sub hfr, e7, nI_add]
    exact nn_le (b := 600) (by omega) (by decide) hl
  rw [← i1, fv_X12_closeProcedure_eq]
  exact (p_X12_closeProcedure_1 f_X12_keep f_X12_copy _ _ _ (by first | with_reducible assumption | (simp (disch := omega) only [i_lit, i_m1, pk_sub, nI_add, nI_ml, nI_ltI, nI_leI, nI_eq, nI_clamp, nI_l, lN_i, lg_nI, lg_geI, lg_leI, lg_gtI, lg_ltI, c16_160, c16_200, c16_255, c16_300, c16_600, c16_616, c16_1000, Nat.add_eq, vp_updL_at, upd_at, Nat.add_sub_cancel, Nat.add_zero, Nat.zero_add, Nat.sub_zero, uU_uU, uT_uT, uI_uI, uL_uL, uU_at, uT_at, uI_at, uL_at, uU_ne, uT_ne, uI_ne, uL_ne, uU_sw, uT_sw, uI_sw, uL_sw] <;> first | with_reducible assumption | omega) | omega | decide) (by first | with_reducible assumption | (simp (disch := omega) only [i_lit, i_m1, pk_sub, nI_add, nI_ml, nI_ltI, nI_leI, nI_eq, nI_clamp, nI_l, lN_i, lg_nI, lg_geI, lg_leI, lg_gtI, lg_ltI, c16_160, c16_200, c16_255, c16_300, c16_600, c16_616, c16_1000, Nat.add_eq, vp_updL_at, upd_at, Nat.add_sub_cancel, Nat.add_zero, Nat.zero_add, Nat.sub_zero, uU_uU, uT_uT, uI_uI, uL_uL, uU_at, uT_at, uI_at, uL_at, uU_ne, uT_ne, uI_ne, uL_ne, uU_sw, uT_sw, uI_sw, uL_sw] <;> first | with_reducible assumption | omega) | omega | decide))
theorem t_cl (e19 : J 19 = nI o) (ho : 0 < o) (ho8 : o ≤ 8) (e15 : S 15 (o - 1) = nI f) (e18 : J 18 = nI r) (hfr : f + n = r) (hr : r ≤ 300) (e7 : J 7 = nI k) (hl : k + n ≤ 600) : ∃ g, (∀ j t, j < k → r5 (S 7) j t → r5 g j t) ∧ (∀ j t, j < n → r5 (S 14) (f + j) t → r5 g (k + j) t) ∧ f_X12_closeProcedure (wr J S K) [.ref 0] = some (none, wr (uI (uI (uI (uI (uI J 19 (nI (o - 1))) 9 (J 9 + 1)) 18 (nI f)) 18 (nI (f + 1))) 7 (nI (k + n))) (uT (uT S 7 g) 14 (st5 (S 14) f 5 (nI k) 1 (nI n) (J 9 + 1))) K) := by
  have i1 : J 19 - 1 = nI (o - 1) := by
    rw [e19]
    exact nI_p1 ho
  have i2 : (((J 19) - 1) : Int32).toNatClampNeg = o - 1 := by
    rw [i1, nI_clamp (by omega)]
  have c3 : ¬ ((J 19 - 1) < 0 ∨ 10 ≤ (((J 19) - 1) : Int32).toNatClampNeg) := by
    rw [i2, i1, i_lit 0, nI_ltI (by omega) (by decide)]
    omega
  have fx : S 15 (((J 19) - 1) : Int32).toNatClampNeg = nI f := by
    rw [i2, e15]
  have ln : J 18 - S 15 (((J 19) - 1) : Int32).toNatClampNeg = nI n := by
    rw [fx, e18, pk_sub (by omega), show r - f = n by omega]
  have c4 : (J 7 + (J 18 - S 15 (((J 19) - 1) : Int32).toNatClampNeg)) ≤ (Int16.toInt32 (Int16.ofInt 600)) := by
    rw [ln, e7, nI_add]
    exact yy_le (b := 600) (by omega) (by decide) hl
  obtain ⟨_, m', ⟨g, rfl, h1, h2⟩, hm', hz⟩ := lpc (fun i W m => (z_X12_closeProcedure f_X12_keep f_X12_copy) 47 [.ref 0, .int (nI f), .int (nI n), .int (nI i)] [] W m) (fun W m => (z_X12_closeProcedure f_X12_keep f_X12_copy) 47 [.ref 0, .int (nI f), .int (nI n), .int (nI n)] [] W m) (fun i W => ∃ g, W = wr (uI J 19 (nI (o - 1))) (uT S 7 g) K ∧ (∀ j t, j < k → r5 (S 7) j t → r5 g j t) ∧ (∀ j t, j < i → r5 (S 14) (f + j) t → r5 g (k + j) t)) (fun W => ∃ g, W = wr (uI J 19 (nI (o - 1))) (uT S 7 g) K ∧ (∀ j t, j < k → r5 (S 7) j t → r5 g j t) ∧ (∀ j t, j < n → r5 (S 14) (f + j) t → r5 g (k + j) t)) n 1 0 (by
    rintro i _ hi ⟨g, rfl, h1, h2⟩
    have d1 : ¬ (nI n ≤ nI i) := nn_le (by omega) (by omega) hi
    have cp := t_copy_16_8 (I := uI J 19 (nI (o - 1))) (T := uT S 7 g) (K := K) (i := f + i) (j := k + i) (a := nI f + nI i) (b := uI J 19 (nI (o - 1)) 7 + nI i) (nI_add f i) (by rw [uI_ne _ _ (by decide), e7, nI_add]) (by omega) (by omega)
    rw [uT_uT, uT_at] at cp
    refine .inl ⟨_, 1, Nat.le_refl _, ⟨cp5 (S 14) (f + i) g (k + i), rfl, fun j t hj ht => r5_cp_ne (by omega) (h1 j t hj ht), fun j t hj ht => ?_⟩, fun m rs hz' => ?_⟩
    · by_cases e : j = i
      · subst e
        exact r5_cp ht
      · exact r5_cp_ne (by omega) (h2 j t (by omega) ht)
    · rw [← nI_add i 1] at hz'
      exact (q_X12_closeProcedure_47_1 f_X12_keep f_X12_copy _ _ _ _ _ _ _ _ _ (by first | with_reducible assumption | (simp (disch := omega) only [i_lit, i_m1, pk_sub, nI_add, nI_ml, nI_ltI, nI_leI, nI_eq, nI_clamp, nI_l, lN_i, lg_nI, lg_geI, lg_leI, lg_gtI, lg_ltI, c16_160, c16_200, c16_255, c16_300, c16_600, c16_616, c16_1000, Nat.add_eq, vp_updL_at, upd_at, Nat.add_sub_cancel, Nat.add_zero, Nat.zero_add, Nat.sub_zero, uU_uU, uT_uT, uI_uI, uL_uL, uU_at, uT_at, uI_at, uL_at, uU_ne, uT_ne, uI_ne, uL_ne, uU_sw, uT_sw, uI_sw, uL_sw] <;> first | with_reducible assumption | omega) | omega | decide) (cp) hz')) (by
    rintro _ ⟨g, rfl, h1, h2⟩
    exact ⟨_, 0, Nat.le_refl _, ⟨g, rfl, h1, h2⟩, fun m rs hz' => hz'⟩) n 0 (wr (uI J 19 (nI (o - 1))) S K) (by omega) ⟨S 7, by rw [uT_self], fun _ _ _ h => h, fun j t hj => by omega⟩
  refine ⟨g, h1, h2, ?_⟩
  have d1 : nI n ≤ nI n := yy_le (by omega) (by omega) (Nat.le_refl _)
  have kp := t_kp (I := uI (uI (uI J 19 (nI (o - 1))) 9 (uI J 19 (nI (o - 1)) 9 + 1)) 18 (nI f)) (T := uT S 7 g) (K := K) (r := f) (a := 5) (b := uI J 19 (nI (o - 1)) 7) (c := 1) (d := nI n) (e := uI J 19 (nI (o - 1)) 9 + 1) (uI_at _ _ _) (by omega)
  have y : (z_X12_closeProcedure f_X12_keep f_X12_copy) 47 [.ref 0, .int (nI f), .int (nI n), .int (nI n)] [] (wr (uI J 19 (nI (o - 1))) (uT S 7 g) K) (0 + 2) = some (none, wr (uI (uI (uI (uI (uI J 19 (nI (o - 1))) 9 (J 9 + 1)) 18 (nI f)) 18 (nI (f + 1))) 7 (nI (k + n))) (uT (uT S 7 g) 14 (st5 (S 14) f 5 (nI k) 1 (nI n) (J 9 + 1))) K) := by
    refine Eq.trans (q_X12_closeProcedure_47_2 f_X12_keep f_X12_copy _ _ _ _ _ _ _ _ _ (by first | with_reducible assumption | (simp (disch := omega) only [i_lit, i_m1, pk_sub, nI_add, nI_ml, nI_ltI, nI_leI, nI_eq, nI_clamp, nI_l, lN_i, lg_nI, lg_geI, lg_leI, lg_gtI, lg_ltI, c16_160, c16_200, c16_255, c16_300, c16_600, c16_616, c16_1000, Nat.add_eq, vp_updL_at, upd_at, Nat.add_sub_cancel, Nat.add_zero, Nat.zero_add, Nat.sub_zero, uU_uU, uT_uT, uI_uI, uL_uL, uU_at, uT_at, uI_at, uL_at, uU_ne, uT_ne, uI_ne, uL_ne, uU_sw, uT_sw, uI_sw, uL_sw] <;> first | with_reducible assumption | omega) | omega | decide) (kp)) ?_
    rw [uI_ne _ _ (show (7 : Nat) ≠ 18 by decide), uI_ne _ _ (show (7 : Nat) ≠ 18 by decide), uI_ne _ _ (show (7 : Nat) ≠ 9 by decide), uI_ne _ _ (show (7 : Nat) ≠ 19 by decide), uI_ne _ _ (show (9 : Nat) ≠ 19 by decide), e7, nI_add]
    rfl
  have y2 := hz _ _ y
  have hnn : 1 * n ≤ 1 * 300 := Nat.mul_le_mul_left _ (by omega)
  rw [fv_X12_closeProcedure_eq]
  refine (p_X12_closeProcedure_2 f_X12_keep f_X12_copy _ _ _ (by first | with_reducible assumption | (simp (disch := omega) only [i_lit, i_m1, pk_sub, nI_add, nI_ml, nI_ltI, nI_leI, nI_eq, nI_clamp, nI_l, lN_i, lg_nI, lg_geI, lg_leI, lg_gtI, lg_ltI, c16_160, c16_200, c16_255, c16_300, c16_600, c16_616, c16_1000, Nat.add_eq, vp_updL_at, upd_at, Nat.add_sub_cancel, Nat.add_zero, Nat.zero_add, Nat.sub_zero, uU_uU, uT_uT, uI_uI, uL_uL, uU_at, uT_at, uI_at, uL_at, uU_ne, uT_ne, uI_ne, uL_ne, uU_sw, uT_sw, uI_sw, uL_sw] <;> first | with_reducible assumption | omega) | omega | decide) (by first | with_reducible assumption | (simp (disch := omega) only [i_lit, i_m1, pk_sub, nI_add, nI_ml, nI_ltI, nI_leI, nI_eq, nI_clamp, nI_l, lN_i, lg_nI, lg_geI, lg_leI, lg_gtI, lg_ltI, c16_160, c16_200, c16_255, c16_300, c16_600, c16_616, c16_1000, Nat.add_eq, vp_updL_at, upd_at, Nat.add_sub_cancel, Nat.add_zero, Nat.zero_add, Nat.sub_zero, uU_uU, uT_uT, uI_uI, uL_uL, uU_at, uT_at, uI_at, uL_at, uU_ne, uT_ne, uI_ne, uL_ne, uU_sw, uT_sw, uI_sw, uL_sw] <;> first | with_reducible assumption | omega) | omega | decide) (m := 0 + 2 + m') (by omega) ?_)
  rw [ln, fx, i1]
  exact y2
end
section
variable {N : Nat → Nat} {I : Nat → Int32} {L : Nat → Int64} {T : Nat → Nat → Int32} {U : Nat → Nat → Int64} {J : Nat → Int32} {S : Nat → Nat → Int32} {K : Nat → Int64} {z p o r : Nat} {b q : Nat → Nat}
theorem pc_close (h : TK N I T U J S z b p o r q) (hp : p < z) (hc : b p = 125) (ho : 0 < o) : PC f_X7_closeProcedure [.ref 19] N I L T U J S K z b p := by
  have hA := h.2.1
  have hz := hA.1
  obtain ⟨hb, t1, t2⟩ := hA.2.2.2 p hp
  obtain ⟨hR, _, e10, e3, _, e20, hro, hQ⟩ := h
  obtain ⟨q1, q2, q3, q4, q5, q6, q7, q8, q9, q10⟩ := hQ
  obtain ⟨hN1, c2, r7, hO⟩ := hR.2.1
  obtain ⟨x9, x15, xle⟩ := q6 (o - 1) (by omega)
  by_cases hl : N 1 + (r - q (o - 1)) ≤ 600
  · obtain ⟨g, g1, g2, g3⟩ := s_cl (I := uI I 10 (nI (p + 1))) (L := L) (T := T) (U := U) (k := N 1) (f := q (o - 1)) (n := r - q (o - 1)) q1 ho q3 x9 q4 (by omega) (by omega) c2 hl
    obtain ⟨h, h1, h2, h3⟩ := t_cl (J := uI J 3 (nI (p + 1))) (S := S) (K := K) (k := N 1) (f := q (o - 1)) (n := r - q (o - 1)) q2 ho q3 x15 q5 (by omega) (by omega) r7 hl
    have ne : NE N (uN N 1 (N 1 + (r - q (o - 1)))) := ⟨⟨Nat.le_add_right _ _, Nat.le_refl _, Nat.le_refl _, Nat.le_refl _⟩, rfl, rfl, rfl, rfl⟩
    have ft : FT I L T U (uI (uI (uI (uI I 10 (nI (p + 1))) 2 (nI (N 1 + (r - q (o - 1))))) 11 (nI (q (o - 1)))) 12 (nI (o - 1))) L T (uU U 2 g) := ⟨fun i h1 h2 => by rw [uI_ne _ _ (by omega), uI_ne _ _ (by omega), uI_ne _ _ (by omega), uI_ne _ _ (by omega)], rfl, fun _ _ _ => rfl, fun k h1 h2 => uU_ne _ _ (by omega)⟩
    have fs : FS J S (uI (uI (uI (uI (uI J 3 (nI (p + 1))) 19 (nI (o - 1))) 9 (J 9 + 1)) 18 (nI (q (o - 1)))) 7 (nI (N 1 + (r - q (o - 1))))) (uT S 7 h) := ⟨fun i h1 h2 h3 => by rw [uI_ne _ _ (by omega), uI_ne _ _ (by omega), uI_ne _ _ (by omega), uI_ne _ _ (by omega), uI_ne _ _ (by omega)], fun k h1 h2 => uT_ne _ _ (by omega)⟩
    have ro : RO (uN N 1 (N 1 + (r - q (o - 1)))) (N 1 + (r - q (o - 1))) 600 (nI (N 1 + (r - q (o - 1)))) g (nI (N 1 + (r - q (o - 1)))) h := by
      refine ⟨hl, rfl, rfl, fun i hi => sl_mono ne.1.1 ne.1.2.1 ne.1.2.2.1 ne.1.2.2.2 ?_⟩
      by_cases c : i < N 1
      · obtain ⟨t, y1, y2, y3⟩ := hO i c
        exact ⟨t, (g1 i c).trans y1, h1 i t c y2, y3⟩
      · obtain ⟨t, y1, y2, y3⟩ := q10 (q (o - 1) + (i - N 1)) (by omega)
        have a1 := g2 (i - N 1) (by omega)
        have a2 := h2 (i - N 1) t (by omega) y2
        rw [show N 1 + (i - N 1) = i by omega] at a1 a2
        exact ⟨t, a1.trans y1, a2, y3⟩
    have hR' := R_new hR ft fs ne ro hR.2.2.1 hR.2.2.2.2.1
    have hQ' : TQ (uN N 1 (N 1 + (r - q (o - 1)))) (uI (uI (uI (uI I 10 (nI (p + 1))) 2 (nI (N 1 + (r - q (o - 1))))) 11 (nI (q (o - 1)))) 12 (nI (o - 1))) T (uU U 2 g) (uI (uI (uI (uI (uI J 3 (nI (p + 1))) 19 (nI (o - 1))) 9 (J 9 + 1)) 18 (nI (q (o - 1)))) 7 (nI (N 1 + (r - q (o - 1))))) (uT S 7 h) (o - 1) (q (o - 1)) q := by
      refine ⟨rfl, rfl, by omega, rfl, rfl, fun j hj => ⟨(q6 j (by omega)).1, (q6 j (by omega)).2.1, q7 j (o - 1) (by omega) (by omega)⟩, fun i j h1 h2 => q7 i j h1 (by omega), fun h => q8 (by omega), fun h => ?_, fun i hi => ?_⟩
      · rw [h]
        exact q8 ho
      · exact sl_mono ne.1.1 ne.1.2.1 ne.1.2.2.1 ne.1.2.2.2 (q10 i (by omega))
    obtain ⟨I', U', y1, y2, y3, y4, y5, y6⟩ := jkeep (L := L) (K := K) (t := (5, 1, r - q (o - 1), nI (N 1))) (y := J 9 + 1) (a0 := 5) (a1 := nI (N 1)) (a2 := 1) (a3 := nI (r - q (o - 1))) hR' (TA_f hA ft fs) rfl rfl (by omega) e20 hQ' (by omega) (ok_arr (by decide) (Nat.le_refl _) hl) rfl rfl rfl rfl
    have cl := g3 _ _ _ _ _ y1
    have rp := t_rpC e3 (by omega) t2 hb hc q2 ho q3 h3
    have ej : uI (uI (uI (uI (uI (uI J 3 (nI (p + 1))) 19 (nI (o - 1))) 9 (uI J 3 (nI (p + 1)) 9 + 1)) 18 (nI (q (o - 1)))) 18 (nI (q (o - 1) + 1))) 7 (nI (N 1 + (r - q (o - 1)))) = uI (uI (uI (uI (uI (uI J 3 (nI (p + 1))) 19 (nI (o - 1))) 9 (J 9 + 1)) 18 (nI (q (o - 1)))) 7 (nI (N 1 + (r - q (o - 1))))) 18 (nI (q (o - 1) + 1)) := by
      rw [uI_ne J _ (show (9 : Nat) ≠ 3 by decide), uI_cm _ _ _ (show (18 : Nat) ≠ 7 by decide)]
    rw [ej, uI_ne J _ (show (9 : Nat) ≠ 3 by decide)] at rp
    exact ⟨0, uN N 1 (N 1 + (r - q (o - 1))), I', _, _, U', _, _, cl, rp, by decide, ne, FT_t ft y5, FS_t fs y6, y3, e20, fun _ => ⟨p + 1, by omega, y4⟩⟩
  · have cl := s_clF (I := uI I 10 (nI (p + 1))) (L := L) (T := T) (U := U) (k := N 1) (f := q (o - 1)) q1 ho q3 x9 q4 xle (by omega) c2 hN1 (by omega)
    have rc := t_clF (J := uI J 3 (nI (p + 1))) (S := S) (K := K) (k := N 1) (f := q (o - 1)) q2 ho q3 x15 q5 xle (by omega) r7 hN1 (by omega)
    have ft := FT_10 I L T U (nI (p + 1))
    have fs : FS J S (uI (uI (uI J 3 (nI (p + 1))) 19 (nI (o - 1))) 20 2) S := ⟨fun i h1 h2 h3 => by rw [uI_ne _ _ (by omega), uI_ne _ _ (by omega), uI_ne _ _ (by omega)], fun _ _ _ => rfl⟩
    exact ⟨2, N, _, _, _, _, _, _, cl, t_rpC e3 (by omega) t2 hb hc q2 ho q3 rc, by decide, NE_r N, ft, fs, R_kp hR ft fs rfl rfl rfl rfl rfl rfl rfl rfl rfl rfl rfl rfl rfl rfl rfl, rfl, fun h => absurd h (by decide)⟩
end
