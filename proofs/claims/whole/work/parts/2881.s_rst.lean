theorem s_mfor {I : Nat → Int32} {L : Nat → Int64} {T : Nat → Nat → Int32} {U : Nat → Nat → Int64}  : f_X3_forget (wc I L T U) [.ref 24] = some (none, wc (uI (uI (uI I 14 0) 15 0) 16 (Int32.ofInt (-1))) L T U) := by
  (refine Eq.trans (p_X3_forget_1 _ _ _ _) ?_; first | with_reducible rfl | (simp (disch := omega) only [i_lit, i_m1, pk_sub, nI_add, nI_ml, nI_ltI, nI_leI, nI_eq, nI_clamp, nI_l, lN_i, lg_nI, lg_geI, lg_leI, lg_gtI, lg_ltI, c16_160, c16_200, c16_255, c16_300, c16_600, c16_616, c16_1000]; done))
theorem s_dfor {I : Nat → Int32} {L : Nat → Int64} {T : Nat → Nat → Int32} {U : Nat → Nat → Int64} : ∃ (I' : Nat → Int32) (T' : Nat → Nat → Int32), f_X0_forget (wc I L T U) [.ref 9] = some (none, wc I' L T' U) ∧ I' 5 = nI 94 ∧ I' 6 = nI 2 ∧ I' 7 = nI 2 ∧ (∀ x, x ≠ 5 → x ≠ 6 → x ≠ 7 → I' x = I x) ∧ T' 3 0 = nI 0 ∧ T' 3 1 = nI 74 ∧ T' 4 0 = nI 74 ∧ T' 4 1 = nI 20 ∧ T' 5 0 = nI 74 ∧ T' 5 1 = nI 0 ∧ T' 6 0 = nI 0 ∧ T' 6 1 = nI 1 ∧ (∀ k, k ≠ 3 → k ≠ 4 → k ≠ 5 → k ≠ 6 → T' k = T k) := by
  have h1 := s_make (I := uI (uI I 6 0) 5 0) (L := L) (T := T) (U := U) (d := 0) (p := 0) (r := 74) (a := 74) rfl rfl (by decide) rfl (by decide)
  have h2 := s_make (I := uI (uI (uI (uI I 6 0) 5 0) 5 (nI (0 + 74))) 6 (nI (0 + 1))) (L := L) (T := uT (uT (uT T 3 (upd (T 3) 0 (nI 0))) 4 (upd (T 4) 0 (nI 74))) 5 (upd (T 5) 0 (nI 0))) (U := U) (d := 1) (p := 74) (r := 20) (a := 20) rfl rfl (by decide) rfl (by decide)
  generalize eI : uI (uI (uI (uI (uI (uI I 6 0) 5 0) 5 (nI (0 + 74))) 6 (nI (0 + 1))) 5 (nI (74 + 20))) 6 (nI (1 + 1)) = I2 at h2
  generalize eT : uT (uT (uT (uT (uT (uT T 3 (upd (T 3) 0 (nI 0))) 4 (upd (T 4) 0 (nI 74))) 5 (upd (T 5) 0 (nI 0))) 3 _) 4 _) 5 _ = T2 at h2
  have h3 := s_begin1 (I := uI I2 7 0) (L := L) (T := uT T2 5 (upd (T2 5) (0 : Int32).toNatClampNeg 74)) (U := U) (h := 0) (a := 0) rfl (by decide)
  have h4 := s_begin1 (I := uI (uI I2 7 0) 7 (nI (0 + 1))) (L := L) (T := uT (uT T2 5 (upd (T2 5) (0 : Int32).toNatClampNeg 74)) 6 (upd (uT T2 5 (upd (T2 5) (0 : Int32).toNatClampNeg 74) 6) 0 0)) (U := U) (h := 1) (a := 1) rfl (by decide)
  refine ⟨_, _, by rw [fv_X0_forget_eq]; exact (p_X0_forget_1 f_X0_make f_X0_begin _ _ _ _ _ _ _ _ _ _ _ _ _ _ _ _ _ _ _ _ _ _ _ _ (h1) (h2) (h3) (h4)), ?_, ?_, ?_, ?_, ?_, ?_, ?_, ?_, ?_, ?_, ?_, ?_, ?_⟩
  · subst eI
    rfl
  · subst eI
    rfl
  · rfl
  · intro x h5 h6 h7
    subst eI
    simp only [uI_ne _ _ h5, uI_ne _ _ h6, uI_ne _ _ h7]
  · subst eT
    rfl
  · subst eT
    rfl
  · subst eT
    rfl
  · subst eT
    rfl
  · subst eT
    rfl
  · subst eT
    rfl
  · rfl
  · rfl
  · intro k g3 g4 g5 g6
    subst eT
    simp only [uT_ne _ _ g3, uT_ne _ _ g4, uT_ne _ _ g5, uT_ne _ _ g6]
theorem s_reset {I : Nat → Int32} {L : Nat → Int64} {T : Nat → Nat → Int32} {U : Nat → Nat → Int64} : ∃ (I' : Nat → Int32) (T' : Nat → Nat → Int32), f_X11_reset (wc I L T U) [.ref 0] = some (none, wc I' L T' U) ∧ I' 0 = nI 83 ∧ I' 2 = nI 0 ∧ I' 3 = nI 0 ∧ I' 4 = nI 0 ∧ I' 5 = nI 94 ∧ I' 6 = nI 2 ∧ I' 7 = nI 2 ∧ I' 8 = nI 0 ∧ I' 9 = I 9 ∧ I' 10 = I 10 ∧ I' 14 = nI 0 ∧ I' 15 = nI 0 ∧ I' 16 = Int32.ofInt (-1) ∧ T' 3 0 = nI 0 ∧ T' 3 1 = nI 74 ∧ T' 4 0 = nI 74 ∧ T' 4 1 = nI 20 ∧ T' 5 0 = nI 74 ∧ T' 5 1 = nI 0 ∧ T' 6 0 = nI 0 ∧ T' 6 1 = nI 1 ∧ (∀ k, k ≠ 3 → k ≠ 4 → k ≠ 5 → k ≠ 6 → T' k = T k) := by
  obtain ⟨I1, T1, h1, a5, a6, a7, ax, b1, b2, b3, b4, b5, b6, b7, b8, bx⟩ := s_dfor (I := uI (uI (uI (uI I 0 83) 2 0) 3 0) 4 0) (L := L) (T := T) (U := U)
  refine ⟨uI (uI (uI (uI I1 8 0) 14 0) 15 0) 16 (Int32.ofInt (-1)), T1, by rw [fv_X11_reset_eq]; exact (p_X11_reset_1 f_X4_forget f_X9_forget f_X0_forget f_X5_forget f_X3_forget _ _ _ _ _ _ _ _ _ _ _ _ _ _ _ _ _ _ _ _ _ _ _ _ (s_nforget) (s_sforget) (h1) (s_oforget) (s_mfor)), ?_, ?_, ?_, ?_, a5, a6, a7, rfl, ?_, ?_, rfl, rfl, rfl, b1, b2, b3, b4, b5, b6, b7, b8, bx⟩
  · exact ax 0 (by decide) (by decide) (by decide)
  · exact ax 2 (by decide) (by decide) (by decide)
  · exact ax 3 (by decide) (by decide) (by decide)
  · exact ax 4 (by decide) (by decide) (by decide)
  · exact ax 9 (by decide) (by decide) (by decide)
  · exact ax 10 (by decide) (by decide) (by decide)
/-! the reference's names -/
theorem bw8 (x : Int64) {i : Nat} (h8 : 8 ≤ i) (hi : i < 16) : Int64.toInt32 ((x >>> (Int32.toInt64 (8 * (nI i - 8)) &&& 63)) &&& 255) = nI (by8 x (i - 8)) := by
  rw [show nI i - 8 = nI (i - 8) from pk_sub (b := 8) h8]
  exact bw x (by omega)
theorem t_adn {I : Nat → Int32} {T : Nat → Nat → Int32} {K : Nat → Int64} {j n : Nat} {x y : Int64} (e10 : I 10 = nI j) (hj : j < 160) (hn : n ≤ 16) : ∃ f : Nat → Int32, f_X12_addName (wr I T K) [.ref 0, .long x, .long y, .int (nI n)] = some (none, wr (uI I 10 (nI (j + 1))) (uT (uT T 10 f) 9 (upd (T 9) j (nI n))) K) ∧ (∀ k, k < 16 * j → f k = T 10 k) ∧ ∀ i, i < n → f (16 * j + i) = nI (if i < 8 then by8 x i else by8 y (i - 8)) := by
  obtain ⟨rs, m, ⟨f, g1, g2, g3⟩, hm, hz⟩ := lp (fun i w m => z_X12_addName 3 [.ref 0, .long x, .null, .long y, .null, .int (nI n), .int (nI i)] [] w m) (fun i w => ∃ f : Nat → Int32, w = wr I (uT T 10 f) K ∧ (∀ k, k < 16 * j → f k = T 10 k) ∧ ∀ k, k < i → f (16 * j + k) = nI (if k < 8 then by8 x k else by8 y (k - 8))) (fun rs => ∃ f : Nat → Int32, rs = (none, wr (uI I 10 (nI (j + 1))) (uT (uT T 10 f) 9 (upd (T 9) j (nI n))) K) ∧ (∀ k, k < 16 * j → f k = T 10 k) ∧ ∀ k, k < n → f (16 * j + k) = nI (if k < 8 then by8 x k else by8 y (k - 8))) n 3 2 (by
    rintro i _ hi ⟨f, rfl, g1, g2⟩
    have p1 : ∀ k, k < 16 * j → upd f (16 * j + i) (nI (if i < 8 then by8 x i else by8 y (i - 8))) k = T 10 k := fun k hk => (upd_ne (by omega)).trans (g1 k hk)
    have p2 : ∀ k, k < i + 1 → upd f (16 * j + i) (nI (if i < 8 then by8 x i else by8 y (i - 8))) (16 * j + k) = nI (if k < 8 then by8 x k else by8 y (k - 8)) := by
      intro k hk
      by_cases e : k = i
      · rw [e, upd_at]
      · rw [upd_ne (by omega), g2 k (by omega)]
    by_cases h8 : i < 8
    · refine .inl ⟨_, 2, by omega, ⟨_, rfl, p1, p2⟩, fun m rs hz => ?_⟩
      rw [if_pos h8] at hz
      refine (q_X12_addName_3_1 _ _ _ _ _ _ _ (by first | with_reducible assumption | (simp (disch := omega) only [e10, i_lit, i_m1, pk_sub, nI_add, nI_ml, nI_ltI, nI_leI, nI_eq, nI_clamp, nI_l, lN_i, lg_nI, lg_geI, lg_leI, lg_gtI, lg_ltI, c16_160, c16_200, c16_255, c16_300, c16_600, c16_616, c16_1000, Nat.add_eq, vp_updL_at, upd_at, Nat.add_sub_cancel, Nat.add_zero, Nat.zero_add, Nat.sub_zero, uU_uU, uT_uT, uI_uI, uL_uL, uU_at, uT_at, uI_at, uL_at, uU_ne, uT_ne, uI_ne, uL_ne, uU_sw, uT_sw, uI_sw, uL_sw] <;> first | with_reducible assumption | omega) | omega | decide) (by first | with_reducible assumption | (simp (disch := omega) only [e10, i_lit, i_m1, pk_sub, nI_add, nI_ml, nI_ltI, nI_leI, nI_eq, nI_clamp, nI_l, lN_i, lg_nI, lg_geI, lg_leI, lg_gtI, lg_ltI, c16_160, c16_200, c16_255, c16_300, c16_600, c16_616, c16_1000, Nat.add_eq, vp_updL_at, upd_at, Nat.add_sub_cancel, Nat.add_zero, Nat.zero_add, Nat.sub_zero, uU_uU, uT_uT, uI_uI, uL_uL, uU_at, uT_at, uI_at, uL_at, uU_ne, uT_ne, uI_ne, uL_ne, uU_sw, uT_sw, uI_sw, uL_sw] <;> first | with_reducible assumption | omega) | omega | decide) (by first | with_reducible assumption | (simp (disch := omega) only [e10, i_lit, i_m1, pk_sub, nI_add, nI_ml, nI_ltI, nI_leI, nI_eq, nI_clamp, nI_l, lN_i, lg_nI, lg_geI, lg_leI, lg_gtI, lg_ltI, c16_160, c16_200, c16_255, c16_300, c16_600, c16_616, c16_1000, Nat.add_eq, vp_updL_at, upd_at, Nat.add_sub_cancel, Nat.add_zero, Nat.zero_add, Nat.sub_zero, uU_uU, uT_uT, uI_uI, uL_uL, uU_at, uT_at, uI_at, uL_at, uU_ne, uT_ne, uI_ne, uL_ne, uU_sw, uT_sw, uI_sw, uL_sw] <;> first | with_reducible assumption | omega) | omega | decide) ?_)
      rw [bw x h8]
      (first | with_reducible exact hz | (simp (disch := omega) only [e10, i_lit, i_m1, pk_sub, nI_add, nI_ml, nI_ltI, nI_leI, nI_eq, nI_clamp, nI_l, lN_i, lg_nI, lg_geI, lg_leI, lg_gtI, lg_ltI, c16_160, c16_200, c16_255, c16_300, c16_600, c16_616, c16_1000, Nat.add_eq, vp_updL_at, upd_at, Nat.add_sub_cancel, Nat.add_zero, Nat.zero_add, Nat.sub_zero, uU_uU, uT_uT, uI_uI, uL_uL, uU_at, uT_at, uI_at, uL_at, uU_ne, uT_ne, uI_ne, uL_ne, uU_sw, uT_sw, uI_sw, uL_sw]; first | with_reducible exact hz | (simp only [i_lit, Nat.add_zero, Nat.sub_zero] at hz ⊢; with_reducible exact hz)))
    · refine .inl ⟨_, 3, by omega, ⟨_, rfl, p1, p2⟩, fun m rs hz => ?_⟩
      rw [if_neg h8] at hz
      refine (q_X12_addName_3_2 _ _ _ _ _ _ _ (by first | with_reducible assumption | (simp (disch := omega) only [e10, i_lit, i_m1, pk_sub, nI_add, nI_ml, nI_ltI, nI_leI, nI_eq, nI_clamp, nI_l, lN_i, lg_nI, lg_geI, lg_leI, lg_gtI, lg_ltI, c16_160, c16_200, c16_255, c16_300, c16_600, c16_616, c16_1000, Nat.add_eq, vp_updL_at, upd_at, Nat.add_sub_cancel, Nat.add_zero, Nat.zero_add, Nat.sub_zero, uU_uU, uT_uT, uI_uI, uL_uL, uU_at, uT_at, uI_at, uL_at, uU_ne, uT_ne, uI_ne, uL_ne, uU_sw, uT_sw, uI_sw, uL_sw] <;> first | with_reducible assumption | omega) | omega | decide) (by first | with_reducible assumption | (simp (disch := omega) only [e10, i_lit, i_m1, pk_sub, nI_add, nI_ml, nI_ltI, nI_leI, nI_eq, nI_clamp, nI_l, lN_i, lg_nI, lg_geI, lg_leI, lg_gtI, lg_ltI, c16_160, c16_200, c16_255, c16_300, c16_600, c16_616, c16_1000, Nat.add_eq, vp_updL_at, upd_at, Nat.add_sub_cancel, Nat.add_zero, Nat.zero_add, Nat.sub_zero, uU_uU, uT_uT, uI_uI, uL_uL, uU_at, uT_at, uI_at, uL_at, uU_ne, uT_ne, uI_ne, uL_ne, uU_sw, uT_sw, uI_sw, uL_sw] <;> first | with_reducible assumption | omega) | omega | decide) (by first | with_reducible assumption | (simp (disch := omega) only [e10, i_lit, i_m1, pk_sub, nI_add, nI_ml, nI_ltI, nI_leI, nI_eq, nI_clamp, nI_l, lN_i, lg_nI, lg_geI, lg_leI, lg_gtI, lg_ltI, c16_160, c16_200, c16_255, c16_300, c16_600, c16_616, c16_1000, Nat.add_eq, vp_updL_at, upd_at, Nat.add_sub_cancel, Nat.add_zero, Nat.zero_add, Nat.sub_zero, uU_uU, uT_uT, uI_uI, uL_uL, uU_at, uT_at, uI_at, uL_at, uU_ne, uT_ne, uI_ne, uL_ne, uU_sw, uT_sw, uI_sw, uL_sw] <;> first | with_reducible assumption | omega) | omega | decide) ?_)
      rw [bw8 y (by omega) (by omega)]
      (first | with_reducible exact hz | (simp (disch := omega) only [e10, i_lit, i_m1, pk_sub, nI_add, nI_ml, nI_ltI, nI_leI, nI_eq, nI_clamp, nI_l, lN_i, lg_nI, lg_geI, lg_leI, lg_gtI, lg_ltI, c16_160, c16_200, c16_255, c16_300, c16_600, c16_616, c16_1000, Nat.add_eq, vp_updL_at, upd_at, Nat.add_sub_cancel, Nat.add_zero, Nat.zero_add, Nat.sub_zero, uU_uU, uT_uT, uI_uI, uL_uL, uU_at, uT_at, uI_at, uL_at, uU_ne, uT_ne, uI_ne, uL_ne, uU_sw, uT_sw, uI_sw, uL_sw]; first | with_reducible exact hz | (simp only [i_lit, Nat.add_zero, Nat.sub_zero] at hz ⊢; with_reducible exact hz)))) (by
    rintro _ ⟨f, rfl, g1, g2⟩
    exact ⟨_, 2, Nat.le_refl _, ⟨f, rfl, g1, g2⟩, by (refine Eq.trans (q_X12_addName_3_3 _ _ _ _ _ _ _ (by first | with_reducible assumption | (simp (disch := omega) only [e10, i_lit, i_m1, pk_sub, nI_add, nI_ml, nI_ltI, nI_leI, nI_eq, nI_clamp, nI_l, lN_i, lg_nI, lg_geI, lg_leI, lg_gtI, lg_ltI, c16_160, c16_200, c16_255, c16_300, c16_600, c16_616, c16_1000, Nat.add_eq, vp_updL_at, upd_at, Nat.add_sub_cancel, Nat.add_zero, Nat.zero_add, Nat.sub_zero, uU_uU, uT_uT, uI_uI, uL_uL, uU_at, uT_at, uI_at, uL_at, uU_ne, uT_ne, uI_ne, uL_ne, uU_sw, uT_sw, uI_sw, uL_sw] <;> first | with_reducible assumption | omega) | omega | decide) (by first | with_reducible assumption | (simp (disch := omega) only [e10, i_lit, i_m1, pk_sub, nI_add, nI_ml, nI_ltI, nI_leI, nI_eq, nI_clamp, nI_l, lN_i, lg_nI, lg_geI, lg_leI, lg_gtI, lg_ltI, c16_160, c16_200, c16_255, c16_300, c16_600, c16_616, c16_1000, Nat.add_eq, vp_updL_at, upd_at, Nat.add_sub_cancel, Nat.add_zero, Nat.zero_add, Nat.sub_zero, uU_uU, uT_uT, uI_uI, uL_uL, uU_at, uT_at, uI_at, uL_at, uU_ne, uT_ne, uI_ne, uL_ne, uU_sw, uT_sw, uI_sw, uL_sw] <;> first | with_reducible assumption | omega) | omega | decide)) ?_; first | with_reducible rfl | (simp (disch := omega) only [e10, i_lit, i_m1, pk_sub, nI_add, nI_ml, nI_ltI, nI_leI, nI_eq, nI_clamp, nI_l, lN_i, lg_nI, lg_geI, lg_leI, lg_gtI, lg_ltI, c16_160, c16_200, c16_255, c16_300, c16_600, c16_616, c16_1000, Nat.add_eq, vp_updL_at, upd_at, Nat.add_sub_cancel, Nat.add_zero, Nat.zero_add, Nat.sub_zero, uU_uU, uT_uT, uI_uI, uL_uL, uU_at, uT_at, uI_at, uL_at, uU_ne, uT_ne, uI_ne, uL_ne, uU_sw, uT_sw, uI_sw, uL_sw]; done))⟩) n 0 (wr I T K) (by omega) ⟨T 10, by rw [uT_self], fun _ _ => rfl, fun _ h => absurd h (by omega)⟩
  subst g1
  exact ⟨f, (p_X12_addName_1 _ _ _ _ _ _ (m := m) (by omega) hz), g2, g3⟩
def fxb (j k : Nat) : Nat := if k < 8 then fxl j / 256 ^ k % 256 else fxh j / 256 ^ (k - 8) % 256
theorem fxb_lt (j k : Nat) : fxb j k < 256 := by
  unfold fxb
  split <;> exact Nat.mod_lt _ (by decide)
theorem fx_ok : ∀ j, j < 83 → fxn j ≤ 16 ∧ fxl j < 2 ^ 64 ∧ fxh j < 2 ^ 64 := by decide +kernel
theorem fx_pk : ∀ j, j < 83 → pkl (fxb j) (fxn j) = fxl j ∧ pkh (fxb j) (fxn j) = fxh j := by decide +kernel
def NMS (j : Nat) (T : Nat → Nat → Int32) : Prop := ∀ i, i < j → T 9 i = nI (fxn i) ∧ ∀ k, k < fxn i → T 10 (16 * i + k) = nI (fxb i k)
def ADN (j : Nat) (I : Nat → Int32) (T : Nat → Nat → Int32) (I' : Nat → Int32) (T' : Nat → Nat → Int32) : Prop := I' 10 = nI j ∧ (∀ x, x ≠ 10 → I' x = I x) ∧ NMS j T' ∧ ∀ x, x ≠ 9 → x ≠ 10 → T' x = T x
theorem ad_step {I : Nat → Int32} {T : Nat → Nat → Int32} {K : Nat → Int64} {I1 : Nat → Int32} {T1 : Nat → Nat → Int32} {j : Nat} (h : ADN j I T I1 T1) (hj : j < 83) {a b : Int64} {n : Int32} (ha : a = lN (fxl j)) (hb : b = lN (fxh j)) (hn : n = nI (fxn j)) : ∃ (I2 : Nat → Int32) (T2 : Nat → Nat → Int32), f_X12_addName (wr I1 T1 K) [.ref 0, .long a, .long b, .int n] = some (none, wr I2 T2 K) ∧ ADN (j + 1) I T I2 T2 := by
  obtain ⟨h1, h2, h3, h4⟩ := h
  obtain ⟨o1, o2, o3⟩ := fx_ok j hj
  subst ha hb hn
  obtain ⟨f, f1, f2, f3⟩ := t_adn (T := T1) (K := K) (n := fxn j) (x := lN (fxl j)) (y := lN (fxh j)) h1 (by omega) o1
  refine ⟨_, _, f1, rfl, fun x hx => (uI_ne _ _ hx).trans (h2 x hx), fun i hi => ?_, fun x h9 h10 => by rw [uT_ne _ _ h9, uT_ne _ _ h10]; exact h4 x h9 h10⟩
  show upd (T1 9) j (nI (fxn j)) i = _ ∧ ∀ k, k < fxn i → f (16 * i + k) = _
  by_cases e : i = j
  · subst e
    refine ⟨upd_at, fun k hk => ?_⟩
    rw [f3 k hk, by8_lN o2, by8_lN o3]
    rfl
  · obtain ⟨c1, c2⟩ := h3 i (by omega)
    refine ⟨(upd_ne e).trans c1, fun k hk => ?_⟩
    have := (fx_ok i (by omega)).1
    rw [f2 _ (by omega)]
    exact c2 k hk
theorem t_addFirst {I : Nat → Int32} {T : Nat → Nat → Int32} {K : Nat → Int64} {I0 : Nat → Int32} {T0 : Nat → Nat → Int32} (h : ADN 0 I0 T0 I T) : ∃ (I' : Nat → Int32) (T' : Nat → Nat → Int32), f_X12_addFirst (wr I T K) [.ref 0] = some (none, wr I' T' K) ∧ ADN 28 I0 T0 I' T' := by
  obtain ⟨I1, T1, c1, h1⟩ := ad_step (K := K) h (by decide) (a := 7368560) (b := 0) (n := 3) (by decide +kernel) (by decide +kernel) (by decide +kernel)
  obtain ⟨I2, T2, c2, h2⟩ := ad_step (K := K) h1 (by decide) (a := 1751349349) (b := 0) (n := 4) (by decide +kernel) (by decide +kernel) (by decide +kernel)
  obtain ⟨I3, T3, c3, h3⟩ := ad_step (K := K) h2 (by decide) (a := 7370084) (b := 0) (n := 3) (by decide +kernel) (by decide +kernel) (by decide +kernel)
  obtain ⟨I4, T4, c4, h4⟩ := ad_step (K := K) h3 (by decide) (a := 2037411683) (b := 0) (n := 4) (by decide +kernel) (by decide +kernel) (by decide +kernel)
  obtain ⟨I5, T5, c5, h5⟩ := ad_step (K := K) h4 (by decide) (a := 517097156201) (b := 0) (n := 5) (by decide +kernel) (by decide +kernel) (by decide +kernel)
  obtain ⟨I6, T6, c6, h6⟩ := ad_step (K := K) h5 (by decide) (a := 1819045746) (b := 0) (n := 4) (by decide +kernel) (by decide +kernel) (by decide +kernel)
  obtain ⟨I7, T7, c7, h7⟩ := ad_step (K := K) h6 (by decide) (a := 491260308579) (b := 0) (n := 5) (by decide +kernel) (by decide +kernel) (by decide +kernel)
  obtain ⟨I8, T8, c8, h8⟩ := ad_step (K := K) h7 (by decide) (a := 500069396323) (b := 0) (n := 5) (by decide +kernel) (by decide +kernel) (by decide +kernel)
  obtain ⟨I9, T9, c9, h9⟩ := ad_step (K := K) h8 (by decide) (a := 1802658157) (b := 0) (n := 4) (by decide +kernel) (by decide +kernel) (by decide +kernel)
  obtain ⟨I10, T10, c10, h10⟩ := ad_step (K := K) h9 (by decide) (a := 91) (b := 0) (n := 1) (by decide +kernel) (by decide +kernel) (by decide +kernel)
  obtain ⟨I11, T11, c11, h11⟩ := ad_step (K := K) h10 (by decide) (a := 15420) (b := 0) (n := 2) (by decide +kernel) (by decide +kernel) (by decide +kernel)
  obtain ⟨I12, T12, c12, h12⟩ := ad_step (K := K) h11 (by decide) (a := 7885649507158158435) (b := 7041633) (n := 11) (by decide +kernel) (by decide +kernel) (by decide +kernel)
  obtain ⟨I13, T13, c13, h13⟩ := ad_step (K := K) h12 (by decide) (a := 7885649515967246179) (b := 7041633) (n := 11) (by decide +kernel) (by decide +kernel) (by decide +kernel)
  obtain ⟨I14, T14, c14, h14⟩ := ad_step (K := K) h13 (by decide) (a := 6579297) (b := 0) (n := 3) (by decide +kernel) (by decide +kernel) (by decide +kernel)
  obtain ⟨I15, T15, c15, h15⟩ := ad_step (K := K) h14 (by decide) (a := 6452595) (b := 0) (n := 3) (by decide +kernel) (by decide +kernel) (by decide +kernel)
  obtain ⟨I16, T16, c16, h16⟩ := ad_step (K := K) h15 (by decide) (a := 7107949) (b := 0) (n := 3) (by decide +kernel) (by decide +kernel) (by decide +kernel)
  obtain ⟨I17, T17, c17, h17⟩ := ad_step (K := K) h16 (by decide) (a := 1986618473) (b := 0) (n := 4) (by decide +kernel) (by decide +kernel) (by decide +kernel)
  obtain ⟨I18, T18, c18, h18⟩ := ad_step (K := K) h17 (by decide) (a := 6582125) (b := 0) (n := 3) (by decide +kernel) (by decide +kernel) (by decide +kernel)
  obtain ⟨I19, T19, c19, h19⟩ := ad_step (K := K) h18 (by decide) (a := 6776174) (b := 0) (n := 3) (by decide +kernel) (by decide +kernel) (by decide +kernel)
  obtain ⟨I20, T20, c20, h20⟩ := ad_step (K := K) h19 (by decide) (a := 7561825) (b := 0) (n := 3) (by decide +kernel) (by decide +kernel) (by decide +kernel)
  obtain ⟨I21, T21, c21, h21⟩ := ad_step (K := K) h20 (by decide) (a := 29029) (b := 0) (n := 2) (by decide +kernel) (by decide +kernel) (by decide +kernel)
  obtain ⟨I22, T22, c22, h22⟩ := ad_step (K := K) h21 (by decide) (a := 25966) (b := 0) (n := 2) (by decide +kernel) (by decide +kernel) (by decide +kernel)
  obtain ⟨I23, T23, c23, h23⟩ := ad_step (K := K) h22 (by decide) (a := 29804) (b := 0) (n := 2) (by decide +kernel) (by decide +kernel) (by decide +kernel)
  obtain ⟨I24, T24, c24, h24⟩ := ad_step (K := K) h23 (by decide) (a := 25964) (b := 0) (n := 2) (by decide +kernel) (by decide +kernel) (by decide +kernel)
  obtain ⟨I25, T25, c25, h25⟩ := ad_step (K := K) h24 (by decide) (a := 29799) (b := 0) (n := 2) (by decide +kernel) (by decide +kernel) (by decide +kernel)
  obtain ⟨I26, T26, c26, h26⟩ := ad_step (K := K) h25 (by decide) (a := 25959) (b := 0) (n := 2) (by decide +kernel) (by decide +kernel) (by decide +kernel)
  obtain ⟨I27, T27, c27, h27⟩ := ad_step (K := K) h26 (by decide) (a := 6581857) (b := 0) (n := 3) (by decide +kernel) (by decide +kernel) (by decide +kernel)
  obtain ⟨I28, T28, c28, h28⟩ := ad_step (K := K) h27 (by decide) (a := 29295) (b := 0) (n := 2) (by decide +kernel) (by decide +kernel) (by decide +kernel)
  refine ⟨_, _, ?_, h28⟩
  rw [fv_X12_addFirst_eq]
  exact (p_X12_addFirst_1 f_X12_addName _ _ _ _ _ _ _ _ _ _ _ _ _ _ _ _ _ _ _ _ _ _ _ _ _ _ _ _ _ _ _ _ _ _ _ _ _ _ _ _ _ _ _ _ _ _ _ _ _ _ _ _ _ _ _ _ _ _ _ _ _ _ _ _ _ _ _ _ _ _ _ _ _ _ _ _ _ _ _ _ _ _ _ _ _ _ _ (c1) (c2) (c3) (c4) (c5) (c6) (c7) (c8) (c9) (c10) (c11) (c12) (c13) (c14) (c15) (c16) (c17) (c18) (c19) (c20) (c21) (c22) (c23) (c24) (c25) (c26) (c27) (c28))
theorem t_addSecond {I : Nat → Int32} {T : Nat → Nat → Int32} {K : Nat → Int64} {I0 : Nat → Int32} {T0 : Nat → Nat → Int32} (h : ADN 28 I0 T0 I T) : ∃ (I' : Nat → Int32) (T' : Nat → Nat → Int32), f_X12_addSecond (wr I T K) [.ref 0] = some (none, wr I' T' K) ∧ ADN 56 I0 T0 I' T' := by
  obtain ⟨I1, T1, c1, h1⟩ := ad_step (K := K) h (by decide) (a := 7499640) (b := 0) (n := 3) (by decide +kernel) (by decide +kernel) (by decide +kernel)
  obtain ⟨I2, T2, c2, h2⟩ := ad_step (K := K) h1 (by decide) (a := 7630702) (b := 0) (n := 3) (by decide +kernel) (by decide +kernel) (by decide +kernel)
  obtain ⟨I3, T3, c3, h3⟩ := ad_step (K := K) h2 (by decide) (a := 1702195828) (b := 0) (n := 4) (by decide +kernel) (by decide +kernel) (by decide +kernel)
  obtain ⟨I4, T4, c4, h4⟩ := ad_step (K := K) h3 (by decide) (a := 435728179558) (b := 0) (n := 5) (by decide +kernel) (by decide +kernel) (by decide +kernel)
  obtain ⟨I5, T5, c5, h5⟩ := ad_step (K := K) h4 (by decide) (a := 1819047278) (b := 0) (n := 4) (by decide +kernel) (by decide +kernel) (by decide +kernel)
  obtain ⟨I6, T6, c6, h6⟩ := ad_step (K := K) h5 (by decide) (a := 521325933153) (b := 0) (n := 5) (by decide +kernel) (by decide +kernel) (by decide +kernel)
  obtain ⟨I7, T7, c7, h7⟩ := ad_step (K := K) h6 (by decide) (a := 113723913172083) (b := 0) (n := 6) (by decide +kernel) (by decide +kernel) (by decide +kernel)
  obtain ⟨I8, T8, c8, h8⟩ := ad_step (K := K) h7 (by decide) (a := 114849160783212) (b := 0) (n := 6) (by decide +kernel) (by decide +kernel) (by decide +kernel)
  obtain ⟨I9, T9, c9, h9⟩ := ad_step (K := K) h8 (by decide) (a := 7628135) (b := 0) (n := 3) (by decide +kernel) (by decide +kernel) (by decide +kernel)
  obtain ⟨I10, T10, c10, h10⟩ := ad_step (K := K) h9 (by decide) (a := 7632240) (b := 0) (n := 3) (by decide +kernel) (by decide +kernel) (by decide +kernel)
  obtain ⟨I11, T11, c11, h11⟩ := ad_step (K := K) h10 (by decide) (a := 8243122710536021351) (b := 7102838) (n := 11) (by decide +kernel) (by decide +kernel) (by decide +kernel)
  obtain ⟨I12, T12, c12, h12⟩ := ad_step (K := K) h11 (by decide) (a := 8243122710536025456) (b := 7102838) (n := 11) (by decide +kernel) (by decide +kernel) (by decide +kernel)
  obtain ⟨I13, T13, c13, h13⟩ := ad_step (K := K) h12 (by decide) (a := 431131421793) (b := 0) (n := 5) (by decide +kernel) (by decide +kernel) (by decide +kernel)
  obtain ⟨I14, T14, c14, h14⟩ := ad_step (K := K) h13 (by decide) (a := 111542170579809) (b := 0) (n := 6) (by decide +kernel) (by decide +kernel) (by decide +kernel)
  obtain ⟨I15, T15, c15, h15⟩ := ad_step (K := K) h14 (by decide) (a := 93) (b := 0) (n := 1) (by decide +kernel) (by decide +kernel) (by decide +kernel)
  obtain ⟨I16, T16, c16, h16⟩ := ad_step (K := K) h15 (by decide) (a := 15934) (b := 0) (n := 2) (by decide +kernel) (by decide +kernel) (by decide +kernel)
  obtain ⟨I17, T17, c17, h17⟩ := ad_step (K := K) h16 (by decide) (a := 1952672100) (b := 0) (n := 4) (by decide +kernel) (by decide +kernel) (by decide +kernel)
  obtain ⟨I18, T18, c18, h18⟩ := ad_step (K := K) h17 (by decide) (a := 474214786402) (b := 0) (n := 5) (by decide +kernel) (by decide +kernel) (by decide +kernel)
  obtain ⟨I19, T19, c19, h19⟩ := ad_step (K := K) h18 (by decide) (a := 6581861) (b := 0) (n := 3) (by decide +kernel) (by decide +kernel) (by decide +kernel)
  obtain ⟨I20, T20, c20, h20⟩ := ad_step (K := K) h19 (by decide) (a := 6710628) (b := 0) (n := 3) (by decide +kernel) (by decide +kernel) (by decide +kernel)
  obtain ⟨I21, T21, c21, h21⟩ := ad_step (K := K) h20 (by decide) (a := 1684107116) (b := 0) (n := 4) (by decide +kernel) (by decide +kernel) (by decide +kernel)
  obtain ⟨I22, T22, c22, h22⟩ := ad_step (K := K) h21 (by decide) (a := 435711603827) (b := 0) (n := 5) (by decide +kernel) (by decide +kernel) (by decide +kernel)
  obtain ⟨I23, T23, c23, h23⟩ := ad_step (K := K) h22 (by decide) (a := 474450194027) (b := 0) (n := 5) (by decide +kernel) (by decide +kernel) (by decide +kernel)
  obtain ⟨I24, T24, c24, h24⟩ := ad_step (K := K) h23 (by decide) (a := 435710945399) (b := 0) (n := 5) (by decide +kernel) (by decide +kernel) (by decide +kernel)
  obtain ⟨I25, T25, c25, h25⟩ := ad_step (K := K) h24 (by decide) (a := 439787744885) (b := 0) (n := 5) (by decide +kernel) (by decide +kernel) (by decide +kernel)
  obtain ⟨I26, T26, c26, h26⟩ := ad_step (K := K) h25 (by decide) (a := 7238531883082085731) (b := 7627625) (n := 11) (by decide +kernel) (by decide +kernel) (by decide +kernel)
  obtain ⟨I27, T27, c27, h27⟩ := ad_step (K := K) h26 (by decide) (a := 7163367133541658467) (b := 118074580956020) (n := 14) (by decide +kernel) (by decide +kernel) (by decide +kernel)
  obtain ⟨I28, T28, c28, h28⟩ := ad_step (K := K) h27 (by decide) (a := 8387794212891418989) (b := 104) (n := 9) (by decide +kernel) (by decide +kernel) (by decide +kernel)
  refine ⟨_, _, ?_, h28⟩
  rw [fv_X12_addSecond_eq]
  exact (p_X12_addSecond_1 f_X12_addName _ _ _ _ _ _ _ _ _ _ _ _ _ _ _ _ _ _ _ _ _ _ _ _ _ _ _ _ _ _ _ _ _ _ _ _ _ _ _ _ _ _ _ _ _ _ _ _ _ _ _ _ _ _ _ _ _ _ _ _ _ _ _ _ _ _ _ _ _ _ _ _ _ _ _ _ _ _ _ _ _ _ _ _ _ _ _ (c1) (c2) (c3) (c4) (c5) (c6) (c7) (c8) (c9) (c10) (c11) (c12) (c13) (c14) (c15) (c16) (c17) (c18) (c19) (c20) (c21) (c22) (c23) (c24) (c25) (c26) (c27) (c28))
theorem t_addThird {I : Nat → Int32} {T : Nat → Nat → Int32} {K : Nat → Int64} {I0 : Nat → Int32} {T0 : Nat → Nat → Int32} (h : ADN 56 I0 T0 I T) : ∃ (I' : Nat → Int32) (T' : Nat → Nat → Int32), f_X12_addThird (wr I T K) [.ref 0] = some (none, wr I' T' K) ∧ ADN 83 I0 T0 I' T' := by
  obtain ⟨I1, T1, c1, h1⟩ := ad_step (K := K) h (by decide) (a := 1667594341) (b := 0) (n := 4) (by decide +kernel) (by decide +kernel) (by decide +kernel)
  obtain ⟨I2, T2, c2, h2⟩ := ad_step (K := K) h1 (by decide) (a := 26217) (b := 0) (n := 2) (by decide +kernel) (by decide +kernel) (by decide +kernel)
  obtain ⟨I3, T3, c3, h3⟩ := ad_step (K := K) h2 (by decide) (a := 111546414229097) (b := 0) (n := 6) (by decide +kernel) (by decide +kernel) (by decide +kernel)
  obtain ⟨I4, T4, c4, h4⟩ := ad_step (K := K) h3 (by decide) (a := 7499622) (b := 0) (n := 3) (by decide +kernel) (by decide +kernel) (by decide +kernel)
  obtain ⟨I5, T5, c5, h5⟩ := ad_step (K := K) h4 (by decide) (a := 127961662514546) (b := 0) (n := 6) (by decide +kernel) (by decide +kernel) (by decide +kernel)
  obtain ⟨I6, T6, c6, h6⟩ := ad_step (K := K) h5 (by decide) (a := 1886351212) (b := 0) (n := 4) (by decide +kernel) (by decide +kernel) (by decide +kernel)
  obtain ⟨I7, T7, c7, h7⟩ := ad_step (K := K) h6 (by decide) (a := 119212747157350) (b := 0) (n := 6) (by decide +kernel) (by decide +kernel) (by decide +kernel)
  obtain ⟨I8, T8, c8, h8⟩ := ad_step (K := K) h7 (by decide) (a := 1953069157) (b := 0) (n := 4) (by decide +kernel) (by decide +kernel) (by decide +kernel)
  obtain ⟨I9, T9, c9, h9⟩ := ad_step (K := K) h8 (by decide) (a := 1886352499) (b := 0) (n := 4) (by decide +kernel) (by decide +kernel) (by decide +kernel)
  obtain ⟨I10, T10, c10, h10⟩ := ad_step (K := K) h9 (by decide) (a := 28259031268160627) (b := 0) (n := 7) (by decide +kernel) (by decide +kernel) (by decide +kernel)
  obtain ⟨I11, T11, c11, h11⟩ := ad_step (K := K) h10 (by decide) (a := 1953068401) (b := 0) (n := 4) (by decide +kernel) (by decide +kernel) (by decide +kernel)
  obtain ⟨I12, T12, c12, h12⟩ := ad_step (K := K) h11 (by decide) (a := 1684957538) (b := 0) (n := 4) (by decide +kernel) (by decide +kernel) (by decide +kernel)
  obtain ⟨I13, T13, c13, h13⟩ := ad_step (K := K) h12 (by decide) (a := 7894627) (b := 0) (n := 3) (by decide +kernel) (by decide +kernel) (by decide +kernel)
  obtain ⟨I14, T14, c14, h14⟩ := ad_step (K := K) h13 (by decide) (a := 499984922211) (b := 0) (n := 5) (by decide +kernel) (by decide +kernel) (by decide +kernel)
  obtain ⟨I15, T15, c15, h15⟩ := ad_step (K := K) h14 (by decide) (a := 118074647274360) (b := 0) (n := 6) (by decide +kernel) (by decide +kernel) (by decide +kernel)
  obtain ⟨I16, T16, c16, h16⟩ := ad_step (K := K) h15 (by decide) (a := 1701869940) (b := 0) (n := 4) (by decide +kernel) (by decide +kernel) (by decide +kernel)
  obtain ⟨I17, T17, c17, h17⟩ := ad_step (K := K) h16 (by decide) (a := 61) (b := 0) (n := 1) (by decide +kernel) (by decide +kernel) (by decide +kernel)
  obtain ⟨I18, T18, c18, h18⟩ := ad_step (K := K) h17 (by decide) (a := 500068610672) (b := 0) (n := 5) (by decide +kernel) (by decide +kernel) (by decide +kernel)
  obtain ⟨I19, T19, c19, h19⟩ := ad_step (K := K) h18 (by decide) (a := 7309475736164529518) (b := 0) (n := 8) (by decide +kernel) (by decide +kernel) (by decide +kernel)
  obtain ⟨I20, T20, c20, h20⟩ := ad_step (K := K) h19 (by decide) (a := 8390880550502821481) (b := 6647929) (n := 11) (by decide +kernel) (by decide +kernel) (by decide +kernel)
  obtain ⟨I21, T21, c21, h21⟩ := ad_step (K := K) h20 (by decide) (a := 8389750244076646242) (b := 6647929) (n := 11) (by decide +kernel) (by decide +kernel) (by decide +kernel)
  obtain ⟨I22, T22, c22, h22⟩ := ad_step (K := K) h21 (by decide) (a := 7309475736148140397) (b := 0) (n := 8) (by decide +kernel) (by decide +kernel) (by decide +kernel)
  obtain ⟨I23, T23, c23, h23⟩ := ad_step (K := K) h22 (by decide) (a := 7309475736047149422) (b := 0) (n := 8) (by decide +kernel) (by decide +kernel) (by decide +kernel)
  obtain ⟨I24, T24, c24, h24⟩ := ad_step (K := K) h23 (by decide) (a := 8104637069104673377) (b := 101) (n := 9) (by decide +kernel) (by decide +kernel) (by decide +kernel)
  obtain ⟨I25, T25, c25, h25⟩ := ad_step (K := K) h24 (by decide) (a := 8751733699800888435) (b := 25968) (n := 10) (by decide +kernel) (by decide +kernel) (by decide +kernel)
  obtain ⟨I26, T26, c26, h26⟩ := ad_step (K := K) h25 (by decide) (a := 7309475736298154340) (b := 0) (n := 8) (by decide +kernel) (by decide +kernel) (by decide +kernel)
  obtain ⟨I27, T27, c27, h27⟩ := ad_step (K := K) h26 (by decide) (a := 8245937404618567791) (b := 1701869940) (n := 12) (by decide +kernel) (by decide +kernel) (by decide +kernel)
  refine ⟨_, _, ?_, h27⟩
  rw [fv_X12_addThird_eq]
  exact (p_X12_addThird_1 f_X12_addName _ _ _ _ _ _ _ _ _ _ _ _ _ _ _ _ _ _ _ _ _ _ _ _ _ _ _ _ _ _ _ _ _ _ _ _ _ _ _ _ _ _ _ _ _ _ _ _ _ _ _ _ _ _ _ _ _ _ _ _ _ _ _ _ _ _ _ _ _ _ _ _ _ _ _ _ _ _ _ _ _ _ _ _ (c1) (c2) (c3) (c4) (c5) (c6) (c7) (c8) (c9) (c10) (c11) (c12) (c13) (c14) (c15) (c16) (c17) (c18) (c19) (c20) (c21) (c22) (c23) (c24) (c25) (c26) (c27))
theorem t_clearAll {I : Nat → Int32} {T : Nat → Nat → Int32} {K : Nat → Int64} : ∃ (I' : Nat → Int32) (T' : Nat → Nat → Int32), f_X12_clearAll (wr I T K) [.ref 0] = some (none, wr I' T' K) ∧ I' 0 = I 0 ∧ I' 1 = I 1 ∧ I' 4 = nI 0 ∧ I' 5 = nI 2 ∧ I' 6 = nI 2 ∧ I' 7 = nI 0 ∧ I' 8 = nI 0 ∧ I' 10 = nI 83 ∧ I' 11 = nI 0 ∧ I' 12 = nI 0 ∧ I' 13 = Int32.ofInt (-1) ∧ I' 15 = nI 0 ∧ T' 0 = T 0 ∧ T' 3 0 = nI 74 ∧ T' 3 1 = nI 20 ∧ T' 4 0 = nI 74 ∧ T' 4 1 = nI 0 ∧ T' 2 0 = nI 0 ∧ T' 2 1 = nI 1 ∧ NMS 83 T' ∧ ∀ k, k < 74 → T' 5 (2 * k) = nI 4 ∧ T' 5 (2 * k + 1) = nI k ∧ r5 (T' 6) k (8, 1, 0, nI k) := by
  obtain ⟨I1, T1, c1, h1⟩ := t_addFirst (I := (uI (uI (uI (uI (uI (uI (uI (uI (uI (uI I 4 0) 7 0) 8 0) 9 0) 10 0) 11 0) 12 0) 13 (Int32.ofInt (-1))) 15 0) 14 0)) (T := T) (K := K) (I0 := (uI (uI (uI (uI (uI (uI (uI (uI (uI (uI I 4 0) 7 0) 8 0) 9 0) 10 0) 11 0) 12 0) 13 (Int32.ofInt (-1))) 15 0) 14 0)) (T0 := T) ⟨rfl, fun _ _ => rfl, fun _ h => absurd h (by omega), fun _ _ _ => rfl⟩
  obtain ⟨I2, T2, c2, h2⟩ := t_addSecond (K := K) h1
  obtain ⟨I3, T3, c3, ⟨i1, i2, i3, i4⟩⟩ := t_addThird (K := K) h2
  have k0 : (0 : Int32).toNatClampNeg = 0 := by decide
  have k1 : (1 : Int32).toNatClampNeg = 1 := by decide
  obtain ⟨rs, m, ⟨f, g, g1, g2⟩, hm, hz⟩ := lp (fun i w m => (z_X12_clearAll f_X12_addFirst f_X12_addSecond f_X12_addThird f_X12_set) 100 [.ref 0, .int (nI i)] [] w m) (fun i w => ∃ f g : Nat → Int32, w = wr (uI I3 5 2) (uT (uT (uT (uT T3 3 (upd (upd (T3 3) (0 : Int32).toNatClampNeg 74) (1 : Int32).toNatClampNeg 20)) 4 (upd (upd (T3 4) (0 : Int32).toNatClampNeg 74) (1 : Int32).toNatClampNeg 0)) 5 f) 6 g) K ∧ ∀ k, k < i → f (2 * k) = nI 4 ∧ f (2 * k + 1) = nI k ∧ r5 g k (8, 1, 0, nI k)) (fun rs => ∃ f g : Nat → Int32, rs = (none, wr (uI (uI I3 5 2) 6 2) (uT (uT (uT (uT (uT T3 3 (upd (upd (T3 3) (0 : Int32).toNatClampNeg 74) (1 : Int32).toNatClampNeg 20)) 4 (upd (upd (T3 4) (0 : Int32).toNatClampNeg 74) (1 : Int32).toNatClampNeg 0)) 5 f) 6 g) 2 (upd (upd (T3 2) (0 : Int32).toNatClampNeg 0) (1 : Int32).toNatClampNeg 1)) K) ∧ ∀ k, k < 74 → f (2 * k) = nI 4 ∧ f (2 * k + 1) = nI k ∧ r5 g k (8, 1, 0, nI k)) 74 1 2 (by
    rintro i _ hi ⟨f, g, rfl, g2⟩
    refine .inl ⟨_, 1, Nat.le_refl _, ⟨upd (upd f (2 * i) (nI 4)) (2 * i + 1) (nI i), st5 g i (nI 8) (nI i) (nI 1) (nI 0) (nI 0), rfl, fun k hk => ?_⟩, fun m rs hz => ?_⟩
    · by_cases e : k = i
      · subst e
        exact ⟨(upd_ne (by omega)).trans upd_at, upd_at, r5_st rfl rfl rfl rfl⟩
      · obtain ⟨q1, q2, q3⟩ := g2 k (by omega)
        exact ⟨(upd_ne (by omega)).trans ((upd_ne (by omega)).trans q1), (upd_ne (by omega)).trans ((upd_ne (by omega)).trans q2), r5_st_ne e q3⟩
    · have e5 : uT (uT (uT (uT (uT T3 3 (upd (upd (T3 3) (0 : Int32).toNatClampNeg 74) (1 : Int32).toNatClampNeg 20)) 4 (upd (upd (T3 4) (0 : Int32).toNatClampNeg 74) (1 : Int32).toNatClampNeg 0)) 5 f) 6 g) 5 (upd (upd f (2 * i) (nI 4)) (2 * i + 1) (nI i)) = uT (uT (uT (uT T3 3 (upd (upd (T3 3) (0 : Int32).toNatClampNeg 74) (1 : Int32).toNatClampNeg 20)) 4 (upd (upd (T3 4) (0 : Int32).toNatClampNeg 74) (1 : Int32).toNatClampNeg 0)) 5 (upd (upd f (2 * i) (nI 4)) (2 * i + 1) (nI i))) 6 g := by
        funext y
        by_cases y5 : y = 5
        · rw [y5]
          rfl
        · rw [uT_ne _ _ y5]
          by_cases y6 : y = 6
          · rw [y6]
            rfl
          · rw [uT_ne _ _ y6, uT_ne _ _ y5, uT_ne _ _ y6, uT_ne _ _ y5]
      have q := t_set_7 (I := uI I3 5 2) (T := uT (uT (uT (uT T3 3 (upd (upd (T3 3) (0 : Int32).toNatClampNeg 74) (1 : Int32).toNatClampNeg 20)) 4 (upd (upd (T3 4) (0 : Int32).toNatClampNeg 74) (1 : Int32).toNatClampNeg 0)) 5 (upd (upd f (2 * i) (nI 4)) (2 * i + 1) (nI i))) 6 g) (K := K) (j := i) (x := nI i) (a := 8) (b := nI i) (c := 1) (d := 0) (e := 0) rfl (by omega)
      rw [uT_uT, ← e5] at q
      have k2 : ((2 : Int32) * nI i).toNatClampNeg = 2 * i := by
        rw [show (2 : Int32) * nI i = nI (2 * i) from nI_ml 2 i, nI_clamp (by omega)]
      have k3 : ((2 : Int32) * nI i + 1).toNatClampNeg = 2 * i + 1 := by
        rw [show (2 : Int32) * nI i = nI (2 * i) from nI_ml 2 i, show nI (2 * i) + 1 = nI (2 * i + 1) from nI_add (2 * i) 1, nI_clamp (by omega)]
      refine (q_X12_clearAll_100_1 f_X12_addFirst f_X12_addSecond f_X12_addThird f_X12_set _ _ _ _ _ _ _ (by first | with_reducible assumption | (simp (disch := omega) only [i_lit, i_m1, pk_sub, nI_add, nI_ml, nI_ltI, nI_leI, nI_eq, nI_clamp, nI_l, lN_i, lg_nI, lg_geI, lg_leI, lg_gtI, lg_ltI, c16_160, c16_200, c16_255, c16_300, c16_600, c16_616, c16_1000, Nat.add_eq, vp_updL_at, upd_at, Nat.add_sub_cancel, Nat.add_zero, Nat.zero_add, Nat.sub_zero, uU_uU, uT_uT, uI_uI, uL_uL, uU_at, uT_at, uI_at, uL_at, uU_ne, uT_ne, uI_ne, uL_ne, uU_sw, uT_sw, uI_sw, uL_sw] <;> first | with_reducible assumption | omega) | omega | decide) (by first | with_reducible assumption | (simp (disch := omega) only [i_lit, i_m1, pk_sub, nI_add, nI_ml, nI_ltI, nI_leI, nI_eq, nI_clamp, nI_l, lN_i, lg_nI, lg_geI, lg_leI, lg_gtI, lg_ltI, c16_160, c16_200, c16_255, c16_300, c16_600, c16_616, c16_1000, Nat.add_eq, vp_updL_at, upd_at, Nat.add_sub_cancel, Nat.add_zero, Nat.zero_add, Nat.sub_zero, uU_uU, uT_uT, uI_uI, uL_uL, uU_at, uT_at, uI_at, uL_at, uU_ne, uT_ne, uI_ne, uL_ne, uU_sw, uT_sw, uI_sw, uL_sw] <;> first | with_reducible assumption | omega) | omega | decide) (by first | with_reducible assumption | (simp (disch := omega) only [i_lit, i_m1, pk_sub, nI_add, nI_ml, nI_ltI, nI_leI, nI_eq, nI_clamp, nI_l, lN_i, lg_nI, lg_geI, lg_leI, lg_gtI, lg_ltI, c16_160, c16_200, c16_255, c16_300, c16_600, c16_616, c16_1000, Nat.add_eq, vp_updL_at, upd_at, Nat.add_sub_cancel, Nat.add_zero, Nat.zero_add, Nat.sub_zero, uU_uU, uT_uT, uI_uI, uL_uL, uU_at, uT_at, uI_at, uL_at, uU_ne, uT_ne, uI_ne, uL_ne, uU_sw, uT_sw, uI_sw, uL_sw] <;> first | with_reducible assumption | omega) | omega | decide) (by rw [k3, k2]; exact q) ?_)
      rw [show nI i + 1 = nI (i + 1) from nI_add i 1]
      exact hz) (by
    rintro _ ⟨f, g, rfl, g2⟩
    exact ⟨_, 2, Nat.le_refl _, ⟨f, g, rfl, g2⟩, (q_X12_clearAll_100_2 f_X12_addFirst f_X12_addSecond f_X12_addThird f_X12_set _ _ _ _ (by first | with_reducible assumption | (simp (disch := omega) only [i_lit, i_m1, pk_sub, nI_add, nI_ml, nI_ltI, nI_leI, nI_eq, nI_clamp, nI_l, lN_i, lg_nI, lg_geI, lg_leI, lg_gtI, lg_ltI, c16_160, c16_200, c16_255, c16_300, c16_600, c16_616, c16_1000, Nat.add_eq, vp_updL_at, upd_at, Nat.add_sub_cancel, Nat.add_zero, Nat.zero_add, Nat.sub_zero, uU_uU, uT_uT, uI_uI, uL_uL, uU_at, uT_at, uI_at, uL_at, uU_ne, uT_ne, uI_ne, uL_ne, uU_sw, uT_sw, uI_sw, uL_sw] <;> first | with_reducible assumption | omega) | omega | decide))⟩) 74 0 (wr (uI I3 5 2) (uT (uT T3 3 (upd (upd (T3 3) (0 : Int32).toNatClampNeg 74) (1 : Int32).toNatClampNeg 20)) 4 (upd (upd (T3 4) (0 : Int32).toNatClampNeg 74) (1 : Int32).toNatClampNeg 0)) K) (by omega) ⟨(uT (uT T3 3 (upd (upd (T3 3) (0 : Int32).toNatClampNeg 74) (1 : Int32).toNatClampNeg 20)) 4 (upd (upd (T3 4) (0 : Int32).toNatClampNeg 74) (1 : Int32).toNatClampNeg 0)) 5, (uT (uT T3 3 (upd (upd (T3 3) (0 : Int32).toNatClampNeg 74) (1 : Int32).toNatClampNeg 20)) 4 (upd (upd (T3 4) (0 : Int32).toNatClampNeg 74) (1 : Int32).toNatClampNeg 0)) 6, by rw [uT_self, uT_self], fun _ h => absurd h (by omega)⟩
  subst g1
  refine ⟨_, _, by rw [fv_X12_clearAll_eq]; exact (p_X12_clearAll_1 f_X12_addFirst f_X12_addSecond f_X12_addThird f_X12_set _ _ _ _ _ _ _ _ _ _ _ _ (c1) (c2) (c3) (m := m) (by omega) hz), ?_⟩
  have i0 := i2 0 (by decide)
  refine ⟨i2 0 (by decide), i2 1 (by decide), i2 4 (by decide), rfl, rfl, i2 7 (by decide), i2 8 (by decide), i1, i2 11 (by decide), i2 12 (by decide), i2 13 (by decide), i2 15 (by decide), i4 0 (by decide) (by decide), ?_, ?_, ?_, ?_, ?_, ?_, i3, g2⟩
  · show upd (upd (T3 3) (0 : Int32).toNatClampNeg 74) (1 : Int32).toNatClampNeg 20 0 = nI 74
    rw [k0, k1, upd_ne (by decide), upd_at]
    rfl
  · show upd (upd (T3 3) (0 : Int32).toNatClampNeg 74) (1 : Int32).toNatClampNeg 20 1 = nI 20
    rw [k1, upd_at]
    rfl
  · show upd (upd (T3 4) (0 : Int32).toNatClampNeg 74) (1 : Int32).toNatClampNeg 0 0 = nI 74
    rw [k0, k1, upd_ne (by decide), upd_at]
    rfl
  · show upd (upd (T3 4) (0 : Int32).toNatClampNeg 74) (1 : Int32).toNatClampNeg 0 1 = nI 0
    rw [k1, upd_at]
    rfl
  · show upd (upd (T3 2) (0 : Int32).toNatClampNeg 0) (1 : Int32).toNatClampNeg 1 0 = nI 0
    rw [k0, k1, upd_ne (by decide), upd_at]
    rfl
  · show upd (upd (T3 2) (0 : Int32).toNatClampNeg 0) (1 : Int32).toNatClampNeg 1 1 = nI 1
    rw [k1, upd_at]
    rfl
theorem t_reset {I : Nat → Int32} {T : Nat → Nat → Int32} {K : Nat → Int64} {I1 : Nat → Int32} {T1 : Nat → Nat → Int32} {K1 : Nat → Int64} (h : f_X12_clearAll (wr (uI I 0 0) T K) [.ref 0] = some (none, wr I1 T1 K1)) : f_X12_reset (wr I T K) [.ref 0] = some (none, wr I1 T1 K1) := by
  rw [fv_X12_reset_eq]
  exact (p_X12_reset_1 f_X12_clearAll _ _ _ _ _ _ (h))
/-! after a reset, or at the start -/
def N83 : Nat → Nat := fun k => if k = 4 then 83 else if k = 5 ∨ k = 6 then 2 else 0
theorem R_83 {I : Nat → Int32} {T : Nat → Nat → Int32} {U : Nat → Nat → Int64} {J : Nat → Int32} {S : Nat → Nat → Int32}
    (i0 : I 0 = nI 83) (i2 : I 2 = nI 0) (i3 : I 3 = nI 0) (i4 : I 4 = nI 0) (i5 : I 5 = nI 94) (i6 : I 6 = nI 2) (i7 : I 7 = nI 2) (i8 : I 8 = nI 0)
    (b1 : T 3 0 = nI 0) (b2 : T 3 1 = nI 74) (b3 : T 4 0 = nI 74) (b4 : T 4 1 = nI 20) (b5 : T 5 0 = nI 74) (b6 : T 5 1 = nI 0) (b7 : T 6 0 = nI 0) (b8 : T 6 1 = nI 1)
    (hN : ∀ j, j < 83 → T 0 j = nI (fxn j) ∧ U 0 j = lN (fxl j) ∧ U 1 j = lN (fxh j)) (hU : ∀ i j, i < j → j < 83 → ¬ (U 0 i = U 0 j ∧ U 1 i = U 1 j ∧ T 0 i = T 0 j))
    (hD : ∀ k, k < 74 → U 3 k = eV (4, 0, 0, nI k) ∧ U 4 k = eV (8, 1, 0, nI k))
    (j4 : J 4 = nI 0) (j5 : J 5 = nI 2) (j6 : J 6 = nI 2) (j7 : J 7 = nI 0) (j8 : J 8 = nI 0) (j10 : J 10 = nI 83) (j11 : J 11 = nI 0)
    (s1 : S 3 0 = nI 74) (s2 : S 3 1 = nI 20) (s3 : S 4 0 = nI 74) (s4 : S 4 1 = nI 0) (s5 : S 2 0 = nI 0) (s6 : S 2 1 = nI 1) (hM : NMS 83 S)
    (hK : ∀ k, k < 74 → S 5 (2 * k) = nI 4 ∧ S 5 (2 * k + 1) = nI k ∧ r5 (S 6) k (8, 1, 0, nI k)) : R N83 I T U J S := by
  refine ⟨⟨by decide, i8, j4, fun i hi => absurd hi (by show ¬ i < 0; omega)⟩, ⟨by decide, i2, j7, fun i hi => absurd hi (by show ¬ i < 0; omega)⟩, ⟨by decide, i3, j8, fun i hi => absurd hi (by show ¬ i < 0; omega)⟩, ⟨by decide, i4, j11, fun i hi => absurd hi (by show ¬ i < 0; omega)⟩, ⟨by decide, by decide, i0, j10, fun j hj => ?_, hU, hN⟩, ⟨by decide, by decide, i6, j5, 94, fun j => if j = 0 then 0 else 74, fun j => if j = 0 then 74 else 20, fun j => if j = 0 then 74 else 0, i5, by decide, fun j hj => ?_, fun i j hi hj => ?_, ⟨rfl, rfl, rfl⟩, fun j hj k hk => ?_, fun j hj k hk => ?_, fun j hj k k' h1 h2 => ?_, hD⟩, ⟨by decide, by decide, i7, j6, fun i hi => ?_⟩⟩
  · have hj : j < 83 := hj
    obtain ⟨n1, n2, n3⟩ := hN j hj
    obtain ⟨m1, m2⟩ := hM j hj
    obtain ⟨k1, k2⟩ := fx_pk j hj
    exact ⟨fxn j, fxb j, (fx_ok j hj).1, fxb_lt j, n1, m1, by rw [k1]; exact n2, by rw [k2]; exact n3, m2⟩
  · have hj : j < 2 := hj
    rcases (show j = 0 ∨ j = 1 by omega) with rfl | rfl
    · exact ⟨b1, b3, b5, s1, s3, Nat.le_refl _, by decide, fun h => absurd h (by decide)⟩
    · exact ⟨b2, b4, b6, s2, s4, by decide, by decide, fun _ => by decide⟩
  · have hj : j < 2 := hj
    obtain rfl : i = 0 := by omega
    obtain rfl : j = 1 := by omega
    decide
  · have hj : j < 2 := hj
    rcases (show j = 0 ∨ j = 1 by omega) with rfl | rfl
    · have hk : k < 74 := hk
      obtain ⟨q1, q2, q3⟩ := hK k hk
      refine ⟨(4, 0, 0, nI k), ?_, ?_, ?_, ⟨.inr (.inr (.inr (.inr (.inl ⟨0, k, by decide, ?_, by omega, rfl⟩)))), .inr (.inr rfl), rfl⟩⟩
      · rw [show (if (0 : Nat) = 0 then 0 else 74) + k = k by simp]
        exact (hD k hk).1
      · rw [show 2 * (80 * 0 + k) = 2 * k by omega]
        exact q1
      · rw [show 2 * (80 * 0 + k) + 1 = 2 * k + 1 by omega]
        exact q2
      · show k < 83
        omega
    · exact absurd hk (by show ¬ k < 0; omega)
  · have hj : j < 2 := hj
    rcases (show j = 0 ∨ j = 1 by omega) with rfl | rfl
    · have hk : k < 74 := hk
      refine ⟨(8, 1, 0, nI k), ?_, ?_, .inr (.inr (.inr (.inr (.inr (.inr (.inr (.inr ⟨k, hk, rfl⟩)))))))⟩
      · rw [show (if (0 : Nat) = 0 then 0 else 74) + k = k by simp]
        exact (hD k hk).2
      · rw [show 80 * 0 + k = k by omega]
        exact (hK k hk).2.2
    · exact absurd hk (by show ¬ k < 0; omega)
  · have hj : j < 2 := hj
    rcases (show j = 0 ∨ j = 1 by omega) with rfl | rfl
    · have h2 : k' < 74 := h2
      rw [show (if (0 : Nat) = 0 then 0 else 74) + k = k by simp, show (if (0 : Nat) = 0 then 0 else 74) + k' = k' by simp, (hD k (by omega)).1, (hD k' h2).1]
      intro e
      have q := congrArg Int64.toInt32 e
      rw [eV_num, eV_num] at q
      exact absurd ((nI_eq (by omega) (by omega)).mp q) (by omega)
    · exact absurd h2 (by show ¬ k' < 0; omega)
  · have hi : i < 2 := hi
    rcases (show i = 0 ∨ i = 1 by omega) with rfl | rfl
    · exact ⟨0, by decide, b7, s5⟩
    · exact ⟨1, by decide, b8, s6⟩
theorem jz_reset {N : Nat → Nat} {I : Nat → Int32} {L : Nat → Int64} {T : Nat → Nat → Int32} {U : Nat → Nat → Int64} {J : Nat → Int32} {S : Nat → Nat → Int32} {K : Nat → Int64} (h : RZ N I T U J S) : ∃ (I' : Nat → Int32) (T' : Nat → Nat → Int32) (J' : Nat → Int32) (S' : Nat → Nat → Int32), f_X11_reset (wc I L T U) [.ref 0] = some (none, wc I' L T' U) ∧ f_X12_reset (wr J S K) [.ref 0] = some (none, wr J' S' K) ∧ RZ N83 I' T' U J' S' := by
  obtain ⟨⟨_, _, _, _, ⟨m1, m2, _, _, _, m3, m4⟩, ⟨_, _, _, _, p, s, r, q, _, _, _, _, _, _, _, _, d1⟩, _⟩, hE, _, p0, z, z1, z2, z3, z4⟩ := h
  obtain ⟨I', T', h1, i0, i2, i3, i4, i5, i6, i7, i8, i9, i10, i14, i15, i16, b1, b2, b3, b4, b5, b6, b7, b8, bx⟩ := s_reset (I := I) (L := L) (T := T) (U := U)
  obtain ⟨J', S', h2, j0, j1, j4, j5, j6, j7, j8, j10, j11, j12, j13, j15, s0, s1, s2, s3, s4, s5, s6, hM, hK⟩ := t_clearAll (I := uI J 0 0) (T := S) (K := K)
  have t0 := bx 0 (by decide) (by decide) (by decide) (by decide)
  have t7 := bx 7 (by decide) (by decide) (by decide) (by decide)
  refine ⟨I', T', J', S', h1, t_reset h2, R_83 i0 i2 i3 i4 i5 i6 i7 i8 b1 b2 b3 b4 b5 b6 b7 b8 (fun j hj => ?_) (fun i j hi hj => ?_) d1 j4 j5 j6 j7 j8 j10 j11 s1 s2 s3 s4 s5 s6 hM hK, ⟨i15.trans j12.symm, i16.trans j13.symm⟩, ⟨0, i14, j15⟩, i10.trans p0, z, z1, i9.trans z2, j1.trans z3, fun i hi => ?_⟩
  · rw [t0]
    exact m4 j hj
  · rw [t0]
    exact m3 i j hi (by omega)
  · rw [t7, s0]
    exact z4 i hi
