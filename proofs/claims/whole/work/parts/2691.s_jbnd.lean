section
variable {N : Nat → Nat} {I : Nat → Int32} {L : Nat → Int64} {T : Nat → Nat → Int32} {U : Nat → Nat → Int64} {J : Nat → Int32} {S : Nat → Nat → Int32} {K : Nat → Int64}
theorem jb_in (hR : R N I T U J S) {i e p l : Nat} (he : p + l = e) (heN : e ≤ N 1) : ∀ (d k m : Nat) (c fd : Nat → Int64) (s bd : Nat → Int32), k + d = e → p ≤ k → BI N (I 2) (J 7) m c fd s bd → i < m → bd (2 * i) = nI p → bd (2 * i + 1) = nI l →
    ∃ m' c' fd' s' bd', BI N (I 2) (J 7) m' c' fd' s' bd' ∧ BE m m' fd fd' bd bd' ∧
      (∃ x, x ≤ 3 * d ∧ ∀ mm rs, (z_X8_bindArray f_X9_cell f_X8_noteArray f_X0_lookUp f_X9_setCell f_X10_length f_X10_isProcedure f_X10_isExecutableName f_X10_literalName f_X10_kind) 12 [.ref 34, .null, .null, .int (nI e), .int (nI e), .null, .null, .null, .null] [] (wc (uI I 22 (nI m')) L T (uU (uU U 2 c') 15 fd')) mm = some rs → (z_X8_bindArray f_X9_cell f_X8_noteArray f_X0_lookUp f_X9_setCell f_X10_length f_X10_isProcedure f_X10_isExecutableName f_X10_literalName f_X10_kind) 12 [.ref 34, .null, .null, .int (nI e), .int (nI k), .null, .null, .null, .null] [] (wc (uI I 22 (nI m)) L T (uU (uU U 2 c) 15 fd)) (mm + x) = some rs) ∧
      (∃ x, x ≤ 5 * d ∧ ∀ mm rs, (z_X12_bindAll f_X12_find f_X12_isIn f_X12_copy) 36 [.ref 0, .null, .null, .int (nI m'), .int (nI i), .int (nI e), .null, .null, .null] [] (wr J (uT (uT S 7 s') 17 bd') K) mm = some rs → (z_X12_bindAll f_X12_find f_X12_isIn f_X12_copy) 36 [.ref 0, .null, .null, .int (nI m), .int (nI i), .int (nI k), .null, .null, .null] [] (wr J (uT (uT S 7 s) 17 bd) K) (mm + x) = some rs) := by
  intro d
  induction d with
  | zero =>
    intro k m c fd s bd hk _ hB _ _ _
    have hk : k = e := by omega
    subst hk
    exact ⟨m, c, fd, s, bd, hB, BE_r m fd bd, ⟨0, Nat.zero_le _, fun mm rs hz => hz⟩, ⟨0, Nat.zero_le _, fun mm rs hz => hz⟩⟩
  | succ d ih =>
    intro k m c fd s bd hk hpk hB hi g1 g2
    obtain ⟨m1, c1, fd1, s1, bd1, a1, a2, ⟨x1, a3, a4⟩, ⟨y1, a5, a6⟩⟩ := jb_1 (K := K) (L := L) hR hB hi g1 g2 he (by omega) hpk heN
    obtain ⟨m2, c2, fd2, s2, bd2, b1, b2, ⟨x2, b3, b4⟩, ⟨y2, b5, b6⟩⟩ := ih (k + 1) m1 c1 fd1 s1 bd1 (by omega) (by omega) a1 (Nat.lt_of_lt_of_le hi a2.1) ((a2.2 i hi).2.1.trans g1) ((a2.2 i hi).2.2.trans g2)
    refine ⟨m2, c2, fd2, s2, bd2, b1, BE_t a2 b2, ⟨x2 + x1, by rw [Nat.mul_add, Nat.mul_one]; omega, fun mm rs hz => ?_⟩, ⟨y2 + y1, by rw [Nat.mul_add, Nat.mul_one]; omega, fun mm rs hz => ?_⟩⟩
    · have := a4 _ _ (b4 mm rs hz)
      rw [Nat.add_assoc] at this
      exact this
    · have := a6 _ _ (b6 mm rs hz)
      rw [Nat.add_assoc] at this
      exact this
theorem jb_out (hR : R N I T U J S) : ∀ (D i m : Nat) (c fd : Nat → Int64) (s bd : Nat → Int32), i + D = 602 → i ≤ m → BI N (I 2) (J 7) m c fd s bd →
    ∃ m' c' fd' s' bd', BI N (I 2) (J 7) m' c' fd' s' bd' ∧
      (∃ x, x ≤ 10 * D + 10 ∧ (z_X8_bind f_X5_top f_X8_noteArray f_X8_bindArray) 19 [.ref 34, .int (nI i)] [] (wc (uI I 22 (nI m)) L T (uU (uU U 2 c) 15 fd)) x = some (some (.int 0), wc (uI I 22 (nI m')) L T (uU (uU U 2 c') 15 fd'))) ∧
      (∃ x, x ≤ 20000 * D + 10 ∧ (z_X12_bindAll f_X12_find f_X12_isIn f_X12_copy) 19 [.ref 0, .null, .null, .int (nI m), .int (nI i), .null, .null, .null, .null] [] (wr J (uT (uT S 7 s) 17 bd) K) x = some (none, wr J (uT (uT S 7 s') 17 bd') K)) := by
  intro D
  induction D with
  | zero =>
    intro i m c fd s bd hi him hB
    have := BI_m hB
    have := hB.1.1
    omega
  | succ D ih =>
    intro i m c fd s bd hi him hB
    have hm1 := BI_m hB
    have hN1 := hB.1.1
    by_cases e : i = m
    · subst e
      have c1 : nI i ≤ nI i := by
        rw [nI_leI (by omega) (by omega)]
        omega
      exact ⟨i, c, fd, s, bd, hB, ⟨0 + 2, by omega, (q_X8_bind_19_3 f_X5_top f_X8_noteArray f_X8_bindArray _ _ _ _ _ (by first | with_reducible assumption | (simp (disch := omega) only [i_lit, i_m1, pk_sub, nI_add, nI_ml, nI_ltI, nI_leI, nI_eq, nI_clamp, nI_l, lN_i, lg_nI, lg_geI, lg_leI, lg_gtI, lg_ltI, c16_160, c16_200, c16_255, c16_300, c16_600, c16_616, c16_1000, Nat.add_eq, vp_updL_at, upd_at, Nat.add_sub_cancel, Nat.add_zero, Nat.zero_add, Nat.sub_zero, uU_uU, uT_uT, uI_uI, uL_uL, uU_at, uT_at, uI_at, uL_at, uU_ne, uT_ne, uI_ne, uL_ne, uU_sw, uT_sw, uI_sw, uL_sw] <;> first | with_reducible assumption | omega) | omega | decide))⟩, ⟨0 + 2, by omega, (q_X12_bindAll_19_2 f_X12_find f_X12_isIn f_X12_copy _ _ _ _ _ (by first | with_reducible assumption | (simp (disch := omega) only [i_lit, i_m1, pk_sub, nI_add, nI_ml, nI_ltI, nI_leI, nI_eq, nI_clamp, nI_l, lN_i, lg_nI, lg_geI, lg_leI, lg_gtI, lg_ltI, c16_160, c16_200, c16_255, c16_300, c16_600, c16_616, c16_1000, Nat.add_eq, vp_updL_at, upd_at, Nat.add_sub_cancel, Nat.add_zero, Nat.zero_add, Nat.sub_zero, uU_uU, uT_uT, uI_uI, uL_uL, uU_at, uT_at, uI_at, uL_at, uU_ne, uT_ne, uI_ne, uL_ne, uU_sw, uT_sw, uI_sw, uL_sw] <;> first | with_reducible assumption | omega) | omega | decide))⟩⟩
    · obtain ⟨p, l, f1, f2, f3, f4⟩ := hB.2.2.1 i (by omega)
      obtain ⟨m1, c1, fd1, s1, bd1, a1, a2, ⟨x1, a3, a4⟩, ⟨y1, a5, a6⟩⟩ := jb_in (L := L) (K := K) (i := i) hR rfl f4 l p m c fd s bd rfl (Nat.le_refl _) hB (by omega) f2 f3
      obtain ⟨m2, c2, fd2, s2, bd2, b1, ⟨x2, b3, b4⟩, ⟨y2, b5, b6⟩⟩ := ih (i + 1) m1 c1 fd1 s1 bd1 (by omega) (by have := a2.1; omega) a1
      have hm2 := BI_m a1
      have lx : 3 * l ≤ 3 * 600 := Nat.mul_le_mul_left _ (by omega)
      have ly : 5 * l ≤ 5 * 600 := Nat.mul_le_mul_left _ (by omega)
      have vw : w0 (5, 1, l, nI p) := ⟨show (5 : Nat) ≤ 8 by decide, show (1 : Nat) ≤ 1 by decide, by show l < 65536; omega⟩
      have cend : nI (p + l) ≤ nI (p + l) := by
        rw [nI_leI (by omega) (by omega)]
        omega
      have y := a4 (0 + 2) _ (q_X8_bindArray_12_5 f_X9_cell f_X8_noteArray f_X0_lookUp f_X9_setCell f_X10_length f_X10_isProcedure f_X10_isExecutableName f_X10_literalName f_X10_kind _ _ _ _ _ _ (by first | with_reducible assumption | (simp (disch := omega) only [i_lit, i_m1, pk_sub, nI_add, nI_ml, nI_ltI, nI_leI, nI_eq, nI_clamp, nI_l, lN_i, lg_nI, lg_geI, lg_leI, lg_gtI, lg_ltI, c16_160, c16_200, c16_255, c16_300, c16_600, c16_616, c16_1000, Nat.add_eq, vp_updL_at, upd_at, Nat.add_sub_cancel, Nat.add_zero, Nat.zero_add, Nat.sub_zero, uU_uU, uT_uT, uI_uI, uL_uL, uU_at, uT_at, uI_at, uL_at, uU_ne, uT_ne, uI_ne, uL_ne, uU_sw, uT_sw, uI_sw, uL_sw] <;> first | with_reducible assumption | omega) | omega | decide))
      have ba : f_X8_bindArray (wc (uI I 22 (nI m)) L T (uU (uU U 2 c) 15 fd)) [.ref 34, .long (fd i)] = some (none, wc (uI I 22 (nI m1)) L T (uU (uU U 2 c1) 15 fd1)) := by
        rw [f1]
        rw [fv_X8_bindArray_eq]
        refine (p_X8_bindArray_1 f_X9_cell f_X8_noteArray f_X0_lookUp f_X9_setCell f_X10_length f_X10_isProcedure f_X10_isExecutableName f_X10_literalName f_X10_kind _ _ _ _ _ _ (s_length rfl vw) (m := 0 + 2 + x1) (by omega) ?_)
        rw [eV_num, nI_add]
        exact y
      refine ⟨m2, c2, fd2, s2, bd2, b1, ⟨x2 + 1, by omega, ?_⟩, ?_⟩
      · rw [← nI_add i 1] at b4
        have c1 : ¬ (nI m ≤ nI i) := by
          rw [nI_leI (by omega) (by omega)]
          omega
        refine (q_X8_bind_19_1 f_X5_top f_X8_noteArray f_X8_bindArray _ _ _ _ _ _ _ _ _ (by first | with_reducible assumption | (simp (disch := omega) only [i_lit, i_m1, pk_sub, nI_add, nI_ml, nI_ltI, nI_leI, nI_eq, nI_clamp, nI_l, lN_i, lg_nI, lg_geI, lg_leI, lg_gtI, lg_ltI, c16_160, c16_200, c16_255, c16_300, c16_600, c16_616, c16_1000, Nat.add_eq, vp_updL_at, upd_at, Nat.add_sub_cancel, Nat.add_zero, Nat.zero_add, Nat.sub_zero, uU_uU, uT_uT, uI_uI, uL_uL, uU_at, uT_at, uI_at, uL_at, uU_ne, uT_ne, uI_ne, uL_ne, uU_sw, uT_sw, uI_sw, uL_sw] <;> first | with_reducible assumption | omega) | omega | decide) (by first | with_reducible assumption | (simp (disch := omega) only [i_lit, i_m1, pk_sub, nI_add, nI_ml, nI_ltI, nI_leI, nI_eq, nI_clamp, nI_l, lN_i, lg_nI, lg_geI, lg_leI, lg_gtI, lg_ltI, c16_160, c16_200, c16_255, c16_300, c16_600, c16_616, c16_1000, Nat.add_eq, vp_updL_at, upd_at, Nat.add_sub_cancel, Nat.add_zero, Nat.zero_add, Nat.sub_zero, uU_uU, uT_uT, uI_uI, uL_uL, uU_at, uT_at, uI_at, uL_at, uU_ne, uT_ne, uI_ne, uL_ne, uU_sw, uT_sw, uI_sw, uL_sw] <;> first | with_reducible assumption | omega) | omega | decide) (by first | with_reducible assumption | (simp (disch := omega) only [i_lit, i_m1, pk_sub, nI_add, nI_ml, nI_ltI, nI_leI, nI_eq, nI_clamp, nI_l, lN_i, lg_nI, lg_geI, lg_leI, lg_gtI, lg_ltI, c16_160, c16_200, c16_255, c16_300, c16_600, c16_616, c16_1000, Nat.add_eq, vp_updL_at, upd_at, Nat.add_sub_cancel, Nat.add_zero, Nat.zero_add, Nat.sub_zero, uU_uU, uT_uT, uI_uI, uL_uL, uU_at, uT_at, uI_at, uL_at, uU_ne, uT_ne, uI_ne, uL_ne, uU_sw, uT_sw, uI_sw, uL_sw] <;> first | with_reducible assumption | omega) | omega | decide) ((by rw [nI_clamp (by omega)]; exact ba)) ?_)
        exact b4
      · have g1 := (a2.2 i (by omega)).2.1.trans f2
        have g2 := (a2.2 i (by omega)).2.2.trans f3
        rw [← nI_add i 1] at b6
        have z1 : (z_X12_bindAll f_X12_find f_X12_isIn f_X12_copy) 36 [.ref 0, .null, .null, .int (nI m1), .int (nI i), .int (nI (p + l)), .null, .null, .null] [] (wr J (uT (uT S 7 s1) 17 bd1) K) (y2 + 2) = some (none, wr J (uT (uT S 7 s2) 17 bd2) K) := by
          refine (q_X12_bindAll_36_8 f_X12_find f_X12_isIn f_X12_copy _ _ _ _ _ _ (by first | with_reducible assumption | (simp (disch := omega) only [g1, g2, i_lit, i_m1, pk_sub, nI_add, nI_ml, nI_ltI, nI_leI, nI_eq, nI_clamp, nI_l, lN_i, lg_nI, lg_geI, lg_leI, lg_gtI, lg_ltI, c16_160, c16_200, c16_255, c16_300, c16_600, c16_616, c16_1000, Nat.add_eq, vp_updL_at, upd_at, Nat.add_sub_cancel, Nat.add_zero, Nat.zero_add, Nat.sub_zero, uU_uU, uT_uT, uI_uI, uL_uL, uU_at, uT_at, uI_at, uL_at, uU_ne, uT_ne, uI_ne, uL_ne, uU_sw, uT_sw, uI_sw, uL_sw] <;> first | with_reducible assumption | omega) | omega | decide) (by first | with_reducible assumption | (simp (disch := omega) only [g1, g2, i_lit, i_m1, pk_sub, nI_add, nI_ml, nI_ltI, nI_leI, nI_eq, nI_clamp, nI_l, lN_i, lg_nI, lg_geI, lg_leI, lg_gtI, lg_ltI, c16_160, c16_200, c16_255, c16_300, c16_600, c16_616, c16_1000, Nat.add_eq, vp_updL_at, upd_at, Nat.add_sub_cancel, Nat.add_zero, Nat.zero_add, Nat.sub_zero, uU_uU, uT_uT, uI_uI, uL_uL, uU_at, uT_at, uI_at, uL_at, uU_ne, uT_ne, uI_ne, uL_ne, uU_sw, uT_sw, uI_sw, uL_sw] <;> first | with_reducible assumption | omega) | omega | decide) (by first | with_reducible assumption | (simp (disch := omega) only [g1, g2, i_lit, i_m1, pk_sub, nI_add, nI_ml, nI_ltI, nI_leI, nI_eq, nI_clamp, nI_l, lN_i, lg_nI, lg_geI, lg_leI, lg_gtI, lg_ltI, c16_160, c16_200, c16_255, c16_300, c16_600, c16_616, c16_1000, Nat.add_eq, vp_updL_at, upd_at, Nat.add_sub_cancel, Nat.add_zero, Nat.zero_add, Nat.sub_zero, uU_uU, uT_uT, uI_uI, uL_uL, uU_at, uT_at, uI_at, uL_at, uU_ne, uT_ne, uI_ne, uL_ne, uU_sw, uT_sw, uI_sw, uL_sw] <;> first | with_reducible assumption | omega) | omega | decide) ?_)
          exact b6
        have z2 := a6 _ _ z1
        refine ⟨y2 + 2 + y1 + 1, by omega, ?_⟩
        refine (q_X12_bindAll_19_1 f_X12_find f_X12_isIn f_X12_copy _ _ _ _ _ (by first | with_reducible assumption | (simp (disch := omega) only [i_lit, i_m1, pk_sub, nI_add, nI_ml, nI_ltI, nI_leI, nI_eq, nI_clamp, nI_l, lN_i, lg_nI, lg_geI, lg_leI, lg_gtI, lg_ltI, c16_160, c16_200, c16_255, c16_300, c16_600, c16_616, c16_1000, Nat.add_eq, vp_updL_at, upd_at, Nat.add_sub_cancel, Nat.add_zero, Nat.zero_add, Nat.sub_zero, uU_uU, uT_uT, uI_uI, uL_uL, uU_at, uT_at, uI_at, uL_at, uU_ne, uT_ne, uI_ne, uL_ne, uU_sw, uT_sw, uI_sw, uL_sw] <;> first | with_reducible assumption | omega) | omega | decide) (by first | with_reducible assumption | (simp (disch := omega) only [i_lit, i_m1, pk_sub, nI_add, nI_ml, nI_ltI, nI_leI, nI_eq, nI_clamp, nI_l, lN_i, lg_nI, lg_geI, lg_leI, lg_gtI, lg_ltI, c16_160, c16_200, c16_255, c16_300, c16_600, c16_616, c16_1000, Nat.add_eq, vp_updL_at, upd_at, Nat.add_sub_cancel, Nat.add_zero, Nat.zero_add, Nat.sub_zero, uU_uU, uT_uT, uI_uI, uL_uL, uU_at, uT_at, uI_at, uL_at, uU_ne, uT_ne, uI_ne, uL_ne, uU_sw, uT_sw, uI_sw, uL_sw] <;> first | with_reducible assumption | omega) | omega | decide) ?_)
        rw [show (2 * nI i : Int32) = nI (2 * i) from nI_ml 2 i, nI_clamp (by omega)]
        rw [show uT (uT S 7 s) 17 bd 17 (2 * i) = nI p from f2]
        exact z2
theorem R_bnd {m : Nat} {c fd : Nat → Int64} {s bd : Nat → Int32} {x : Int32} (h : R N I T U J S) (hB : BI N (I 2) (J 7) m c fd s bd) : R N (uI I 22 x) T (uU (uU U 2 c) 15 fd) J (uT (uT S 7 s) 17 bd) := by
  obtain ⟨a0, a1, a2, a3, a4, a5, a6⟩ := h
  exact ⟨a0, hB.1, a2, a3, a4, a5, a6⟩
end

theorem e_67z {I : Nat → Int32} {L : Nat → Int64} {T : Nat → Nat → Int32} {U : Nat → Nat → Int64} {r : Int32} {I1 : Nat → Int32} {L1 : Nat → Int64} {T1 : Nat → Nat → Int32} {U1 : Nat → Nat → Int64} (hc : f_X8_bind (wc I L T U) [.ref 34] = some (some (.int r), wc I1 L1 T1 U1)) : f_X8_perform (wc I L T U) [.ref 34, .int 67] = some (some (.int r), wc I1 L1 T1 U1) := by
  rw [fv_X8_perform_eq]; (refine Eq.trans (p_X8_perform_1 f_X5_numberAt f_X8_makeArray f_X8_makeString f_X8_measure f_X8_fetch f_X8_put f_X8_takeInterval f_X8_putInterval f_X8_load f_X8_store f_X8_closeArray f_X8_bind _ _ _ _ _ _ _ _ _ (hc)) ?_; first | with_reducible rfl | (simp (disch := omega) only [i_lit, i_m1, pk_sub, nI_add, nI_ml, nI_ltI, nI_leI, nI_eq, nI_clamp, nI_l, lN_i, lg_nI, lg_geI, lg_leI, lg_gtI, lg_ltI, c16_160, c16_200, c16_255, c16_300, c16_600, c16_616, c16_1000]; done))
theorem d_67u {I : Nat → Int32} {T : Nat → Nat → Int32} {K : Nat → Int64} {n : Nat} (e4 : I 4 = nI n) (hn : n ≤ 60) (h : n = 0) : f_X12_tell (wr I T K) [.ref 0, .int 67] = some (some (.int 3), wr I T K) := by
  rw [fv_X12_tell_eq]; (refine Eq.trans (p_X12_tell_1 f_X12_kindAt f_X12_top f_X12_isProcedure f_X12_valueAt f_X12_lengthAt f_X12_bindAll f_X12_pushBool f_X12_push f_X12_write _ _ _ _ (by first | with_reducible assumption | (simp (disch := omega) only [e4, i_lit, i_m1, pk_sub, nI_add, nI_ml, nI_ltI, nI_leI, nI_eq, nI_clamp, nI_l, lN_i, lg_nI, lg_geI, lg_leI, lg_gtI, lg_ltI, c16_160, c16_200, c16_255, c16_300, c16_600, c16_616, c16_1000, Nat.add_eq, vp_updL_at, upd_at, Nat.add_sub_cancel, Nat.add_zero, Nat.zero_add, Nat.sub_zero, uU_uU, uT_uT, uI_uI, uL_uL, uU_at, uT_at, uI_at, uL_at, uU_ne, uT_ne, uI_ne, uL_ne, uU_sw, uT_sw, uI_sw, uL_sw] <;> first | with_reducible assumption | omega) | omega | decide)) ?_; first | with_reducible rfl | (simp (disch := omega) only [e4, i_lit, i_m1, pk_sub, nI_add, nI_ml, nI_ltI, nI_leI, nI_eq, nI_clamp, nI_l, lN_i, lg_nI, lg_geI, lg_leI, lg_gtI, lg_ltI, c16_160, c16_200, c16_255, c16_300, c16_600, c16_616, c16_1000, Nat.add_eq, vp_updL_at, upd_at, Nat.add_sub_cancel, Nat.add_zero, Nat.zero_add, Nat.sub_zero, uU_uU, uT_uT, uI_uI, uL_uL, uU_at, uT_at, uI_at, uL_at, uU_ne, uT_ne, uI_ne, uL_ne, uU_sw, uT_sw, uI_sw, uL_sw]; done))
theorem d_67t {I : Nat → Int32} {T : Nat → Nat → Int32} {K : Nat → Int64} {n : Nat} (e4 : I 4 = nI n) (hn : n ≤ 60) {t0 : V} (r0 : r5 (T 1) (n - 1) t0) (v0 : w0 t0) (h : 1 ≤ n) (hk : ¬ (t0.1 = 5 ∧ t0.2.1 = 1)) : f_X12_tell (wr I T K) [.ref 0, .int 67] = some (some (.int 4), wr I T K) := by
  rw [fv_X12_tell_eq]; (refine Eq.trans (p_X12_tell_2 f_X12_kindAt f_X12_top f_X12_isProcedure f_X12_valueAt f_X12_lengthAt f_X12_bindAll f_X12_pushBool f_X12_push f_X12_write _ _ _ _ _ _ _ (by first | with_reducible assumption | (simp (disch := omega) only [e4, i_lit, i_m1, pk_sub, nI_add, nI_ml, nI_ltI, nI_leI, nI_eq, nI_clamp, nI_l, lN_i, lg_nI, lg_geI, lg_leI, lg_gtI, lg_ltI, c16_160, c16_200, c16_255, c16_300, c16_600, c16_616, c16_1000, Nat.add_eq, vp_updL_at, upd_at, Nat.add_sub_cancel, Nat.add_zero, Nat.zero_add, Nat.sub_zero, uU_uU, uT_uT, uI_uI, uL_uL, uU_at, uT_at, uI_at, uL_at, uU_ne, uT_ne, uI_ne, uL_ne, uU_sw, uT_sw, uI_sw, uL_sw] <;> first | with_reducible assumption | omega) | omega | decide) (t_kindAtV e4 hn (i_lit 0) (by omega) r0 (by omega)) (t_top e4 (i_lit 0) (by omega)) (by first | with_reducible assumption | (simp (disch := omega) only [e4, i_lit, i_m1, pk_sub, nI_add, nI_ml, nI_ltI, nI_leI, nI_eq, nI_clamp, nI_l, lN_i, lg_nI, lg_geI, lg_leI, lg_gtI, lg_ltI, c16_160, c16_200, c16_255, c16_300, c16_600, c16_616, c16_1000, Nat.add_eq, vp_updL_at, upd_at, Nat.add_sub_cancel, Nat.add_zero, Nat.zero_add, Nat.sub_zero, uU_uU, uT_uT, uI_uI, uL_uL, uU_at, uT_at, uI_at, uL_at, uU_ne, uT_ne, uI_ne, uL_ne, uU_sw, uT_sw, uI_sw, uL_sw] <;> first | with_reducible assumption | omega) | omega | decide) (t_isProcedure0V e4 hn (i_lit 0) (by omega) r0 (by omega) v0 hk) (by first | with_reducible assumption | (simp (disch := omega) only [e4, i_lit, i_m1, pk_sub, nI_add, nI_ml, nI_ltI, nI_leI, nI_eq, nI_clamp, nI_l, lN_i, lg_nI, lg_geI, lg_leI, lg_gtI, lg_ltI, c16_160, c16_200, c16_255, c16_300, c16_600, c16_616, c16_1000, Nat.add_eq, vp_updL_at, upd_at, Nat.add_sub_cancel, Nat.add_zero, Nat.zero_add, Nat.sub_zero, uU_uU, uT_uT, uI_uI, uL_uL, uU_at, uT_at, uI_at, uL_at, uU_ne, uT_ne, uI_ne, uL_ne, uU_sw, uT_sw, uI_sw, uL_sw] <;> first | with_reducible assumption | omega) | omega | decide)) ?_; first | with_reducible rfl | (simp (disch := omega) only [e4, i_lit, i_m1, pk_sub, nI_add, nI_ml, nI_ltI, nI_leI, nI_eq, nI_clamp, nI_l, lN_i, lg_nI, lg_geI, lg_leI, lg_gtI, lg_ltI, c16_160, c16_200, c16_255, c16_300, c16_600, c16_616, c16_1000]; done))
theorem d_67 {I : Nat → Int32} {T : Nat → Nat → Int32} {K : Nat → Int64} {n : Nat} (e4 : I 4 = nI n) (hn : n ≤ 60) {t0 : V} (r0 : r5 (T 1) (n - 1) t0) (v0 : w0 t0) (h : 1 ≤ n) (hk : t0.1 = 5) (hx : t0.2.1 = 1) {I1 : Nat → Int32} {T1 : Nat → Nat → Int32} {K1 : Nat → Int64} (hc : f_X12_bindAll (wr I T K) [.ref 0, .int t0.2.2.2, .int (nI t0.2.2.1)] = some (none, wr I1 T1 K1)) : f_X12_tell (wr I T K) [.ref 0, .int 67] = some (some (.int 0), wr I1 T1 K1) := by
  rw [fv_X12_tell_eq]; (refine Eq.trans (p_X12_tell_3 f_X12_kindAt f_X12_top f_X12_isProcedure f_X12_valueAt f_X12_lengthAt f_X12_bindAll f_X12_pushBool f_X12_push f_X12_write _ _ _ _ _ _ _ _ _ _ _ _ (by first | with_reducible assumption | (simp (disch := omega) only [e4, i_lit, i_m1, pk_sub, nI_add, nI_ml, nI_ltI, nI_leI, nI_eq, nI_clamp, nI_l, lN_i, lg_nI, lg_geI, lg_leI, lg_gtI, lg_ltI, c16_160, c16_200, c16_255, c16_300, c16_600, c16_616, c16_1000, Nat.add_eq, vp_updL_at, upd_at, Nat.add_sub_cancel, Nat.add_zero, Nat.zero_add, Nat.sub_zero, uU_uU, uT_uT, uI_uI, uL_uL, uU_at, uT_at, uI_at, uL_at, uU_ne, uT_ne, uI_ne, uL_ne, uU_sw, uT_sw, uI_sw, uL_sw] <;> first | with_reducible assumption | omega) | omega | decide) (t_kindAtV e4 hn (i_lit 0) (by omega) r0 (by omega)) (t_top e4 (i_lit 0) (by omega)) (by first | with_reducible assumption | (simp (disch := omega) only [e4, i_lit, i_m1, pk_sub, nI_add, nI_ml, nI_ltI, nI_leI, nI_eq, nI_clamp, nI_l, lN_i, lg_nI, lg_geI, lg_leI, lg_gtI, lg_ltI, c16_160, c16_200, c16_255, c16_300, c16_600, c16_616, c16_1000, Nat.add_eq, vp_updL_at, upd_at, Nat.add_sub_cancel, Nat.add_zero, Nat.zero_add, Nat.sub_zero, uU_uU, uT_uT, uI_uI, uL_uL, uU_at, uT_at, uI_at, uL_at, uU_ne, uT_ne, uI_ne, uL_ne, uU_sw, uT_sw, uI_sw, uL_sw] <;> first | with_reducible assumption | omega) | omega | decide) (t_isProcedure1V e4 hn (i_lit 0) (by omega) r0 (by omega) hk hx) (by first | with_reducible assumption | (simp (disch := omega) only [e4, i_lit, i_m1, pk_sub, nI_add, nI_ml, nI_ltI, nI_leI, nI_eq, nI_clamp, nI_l, lN_i, lg_nI, lg_geI, lg_leI, lg_gtI, lg_ltI, c16_160, c16_200, c16_255, c16_300, c16_600, c16_616, c16_1000, Nat.add_eq, vp_updL_at, upd_at, Nat.add_sub_cancel, Nat.add_zero, Nat.zero_add, Nat.sub_zero, uU_uU, uT_uT, uI_uI, uL_uL, uU_at, uT_at, uI_at, uL_at, uU_ne, uT_ne, uI_ne, uL_ne, uU_sw, uT_sw, uI_sw, uL_sw] <;> first | with_reducible assumption | omega) | omega | decide) (t_valueAtV e4 hn (i_lit 0) (by omega) r0 (by omega)) (t_lengthAtV e4 hn (i_lit 0) (by omega) r0 (by omega)) (hc)) ?_; first | with_reducible rfl | (simp (disch := omega) only [e4, i_lit, i_m1, pk_sub, nI_add, nI_ml, nI_ltI, nI_leI, nI_eq, nI_clamp, nI_l, lN_i, lg_nI, lg_geI, lg_leI, lg_gtI, lg_ltI, c16_160, c16_200, c16_255, c16_300, c16_600, c16_616, c16_1000]; done))
theorem j_67 : OJ 67 f_X8_perform 34 := by
  intro N I L T U J S K g hR hg
  obtain ⟨hn, e8, e4, hO⟩ := hR.1
  by_cases hu : N 0 < 1
  · have hc : chk 67 (N 0) g = 3 := chk_u (c := 1) (by decide +kernel) hu
    exact OJ_same hR 3 (by decide) (fun h => absurd (h.symm.trans hc) (by decide)) (fun _ => hc.symm) (d_tell rfl (by decide) (by decide) (d_67u e4 hn (by omega)))
  obtain ⟨u0, r0, o0⟩ := hg (N 0 - 1) (by omega)
  have v0 := ok_w0 o0
  have hc : chk 67 (N 0) g = if tk 4 (g (N 0 - 1)) = true then 0 else 4 := chk_1 (by decide +kernel) (by decide +kernel) (by omega)
  by_cases hk : (g (N 0 - 1)).1 = 5 ∧ (g (N 0 - 1)).2.1 = 1
  · rw [if_pos (tk_4.mpr hk)] at hc
    generalize g (N 0 - 1) = t at u0 r0 o0 v0 hk hc
    obtain ⟨x, l, p, q1, q2, q3, et⟩ := ok_5 o0 hk.1
    have ex : x = 1 := by
      have := hk.2
      rw [et] at this
      exact this
    subst ex
    have hB : BI N (I 2) (J 7) 1 (U 2) (vp_updL (U 15) 0 (eV t)) (S 7) (upd (upd (S 17) 0 (nI p)) 1 (nI l)) := by
      refine ⟨hR.2.1, Nat.le_refl _, fun i hi => ?_, fun i j h1 h2 => by omega, fun i h1 h2 => by omega⟩
      have : i = 0 := by omega
      subst this
      exact ⟨p, l, by rw [vp_updL_at, et], by rw [upd_ne (by decide), upd_at], by rw [upd_at], q2⟩
    obtain ⟨m', c', fd', s', bd', b1, ⟨x1, b3, b4⟩, ⟨x2, b5, b6⟩⟩ := jb_out (L := L) (K := K) hR 602 0 1 _ _ _ _ rfl (by decide) hB
    have tp : f_X5_top (wc (uI I 22 0) L T U) [.ref 16, .int 0] = some (some (.long (eV t)), wc (uI I 22 0) L T U) := s_topV (I := uI I 22 0) (show uI I 22 0 8 = nI (N 0) from e8) hn (i_lit 0) (by omega) u0 (by omega)
    have nt0 := s_noteN (I := uI I 22 0) (L := L) (T := T) (U := U) (m := 0) (z := eV t) rfl (by decide) (fun i hi => absurd hi (by omega))
    rw [uI_uI] at nt0
    rw [uU_self] at b4
    rw [uT_self] at b6
    have cb : f_X8_bind (wc I L T U) [.ref 34] = some (some (.int 0), wc (uI I 22 (nI m')) L T (uU (uU U 2 c') 15 fd')) := by
      rw [fv_X8_bind_eq]
      exact (p_X8_bind_1 f_X5_top f_X8_noteArray f_X8_bindArray _ _ _ _ _ _ _ _ _ (tp) (nt0) (by omega) b4)
    have rb : f_X12_bindAll (wr J S K) [.ref 0, .int t.2.2.2, .int (nI t.2.2.1)] = some (none, wr J (uT (uT S 7 s') 17 bd') K) := by
      rw [et]
      rw [fv_X12_bindAll_eq]
      exact (p_X12_bindAll_1 f_X12_find f_X12_isIn f_X12_copy _ _ _ _ _ (by omega) b6)
    exact ⟨0, N, _, _, _, _, _, _, fun _ => e_67z cb, fun h => absurd hc h, d_tell rfl (by decide) (by decide) (d_67 e4 hn r0 v0 (by omega) hk.1 hk.2 rb), by decide, R_bnd hR b1, ⟨fun i h1 h2 => uI_ne _ _ (by omega), rfl, rfl, rfl, rfl, fun i h1 h2 => by rw [uU_ne _ _ (by omega), uU_ne _ _ (by omega)]⟩, ⟨fun _ _ => rfl, fun _ _ _ => rfl, rfl, rfl, rfl, rfl⟩, NM_r N⟩
  · rw [if_neg (fun q => hk (tk_4.mp q))] at hc
    exact OJ_same hR 4 (by decide) (fun h => absurd (h.symm.trans hc) (by decide)) (fun _ => hc.symm) (d_tell rfl (by decide) (by decide) (d_67t e4 hn r0 v0 (by omega) hk))
