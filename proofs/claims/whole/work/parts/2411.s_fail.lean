theorem z_unwindR {S : Nat → Nat → Int32} {K : Nat → Int64} {v : Int32} : ∀ (n : Nat), n ≤ 24 → ∀ (J : Nat → Int32), J 14 = nI n → J 4 = nI 60 → (∀ i, i < n → ∃ k, k ≤ 7 ∧ S 12 (12 * i) = nI k) → ∃ J' m, m ≤ 4 * n + 2 ∧ (z_X12_unwind f_X12_isFull f_X12_pushBool) 6 [.ref 0, .int v, .null] [] (wr J S K) m = some (none, wr J' S K) ∧ J' 17 = v ∧ (∀ x, x ≠ 12 → x ≠ 13 → x ≠ 14 → x ≠ 17 → J' x = J x) ∧ (((∀ x, x < n → S 12 (12 * x) ≠ nI 2) ∧ J' 12 = J 12 ∧ J' 13 = J 13) ∨ ((∃ x, x < n ∧ S 12 (12 * x) = nI 2) ∧ J' 12 = nI 13 ∧ J' 13 = nI 65)) := by
  intro n
  induction n with
  | zero =>
    intro _ J e14 e4 _
    exact ⟨uI J 17 v, 0 + 2, by omega, (q_X12_unwind_6_5 f_X12_isFull f_X12_pushBool _ _ _ _ (by first | with_reducible assumption | (simp (disch := omega) only [e14, i_lit, i_m1, pk_sub, nI_add, nI_ml, nI_ltI, nI_leI, nI_eq, nI_clamp, nI_l, lN_i, lg_nI, lg_geI, lg_leI, lg_gtI, lg_ltI, c16_160, c16_200, c16_255, c16_300, c16_600, c16_616, c16_1000, Nat.add_eq, vp_updL_at, upd_at, Nat.add_sub_cancel, Nat.add_zero, Nat.zero_add, Nat.sub_zero, uU_uU, uT_uT, uI_uI, uL_uL, uU_at, uT_at, uI_at, uL_at, uU_ne, uT_ne, uI_ne, uL_ne, uU_sw, uT_sw, uI_sw, uL_sw] <;> first | with_reducible assumption | omega) | omega | decide) (by first | with_reducible assumption | (simp (disch := omega) only [e14, i_lit, i_m1, pk_sub, nI_add, nI_ml, nI_ltI, nI_leI, nI_eq, nI_clamp, nI_l, lN_i, lg_nI, lg_geI, lg_leI, lg_gtI, lg_ltI, c16_160, c16_200, c16_255, c16_300, c16_600, c16_616, c16_1000, Nat.add_eq, vp_updL_at, upd_at, Nat.add_sub_cancel, Nat.add_zero, Nat.zero_add, Nat.sub_zero, uU_uU, uT_uT, uI_uI, uL_uL, uU_at, uT_at, uI_at, uL_at, uU_ne, uT_ne, uI_ne, uL_ne, uU_sw, uT_sw, uI_sw, uL_sw] <;> first | with_reducible assumption | omega) | omega | decide)), rfl, fun x _ _ _ a => uI_ne _ _ a, .inl ⟨fun x hx => absurd hx (by omega), rfl, rfl⟩⟩
  | succ n ih =>
    intro h24 J e14 e4 hs
    obtain ⟨k, k7, hk⟩ := hs n (by omega)
    by_cases k2 : k = 2
    · subst k2
      obtain ⟨J', m, m1, m2, m3, m4, m5⟩ := ih (by omega) (uI (uI (uI J 14 (nI n)) 12 13) 13 65) rfl e4 (fun i hi => hs i (by omega))
      refine ⟨J', m + 1 + 3, by omega, ?_, m3, fun x a1 a2 a3 a4 => ?_, .inr ⟨⟨n, by omega, hk⟩, ?_⟩⟩
      · refine (q_X12_unwind_6_3 f_X12_isFull f_X12_pushBool _ _ _ _ _ (by first | with_reducible assumption | (simp (disch := omega) only [e14, hk, i_lit, i_m1, pk_sub, nI_add, nI_ml, nI_ltI, nI_leI, nI_eq, nI_clamp, nI_l, lN_i, lg_nI, lg_geI, lg_leI, lg_gtI, lg_ltI, c16_160, c16_200, c16_255, c16_300, c16_600, c16_616, c16_1000, Nat.add_eq, vp_updL_at, upd_at, Nat.add_sub_cancel, Nat.add_zero, Nat.zero_add, Nat.sub_zero, uU_uU, uT_uT, uI_uI, uL_uL, uU_at, uT_at, uI_at, uL_at, uU_ne, uT_ne, uI_ne, uL_ne, uU_sw, uT_sw, uI_sw, uL_sw] <;> first | with_reducible assumption | omega) | omega | decide) (by first | with_reducible assumption | (simp (disch := omega) only [e14, hk, i_lit, i_m1, pk_sub, nI_add, nI_ml, nI_ltI, nI_leI, nI_eq, nI_clamp, nI_l, lN_i, lg_nI, lg_geI, lg_leI, lg_gtI, lg_ltI, c16_160, c16_200, c16_255, c16_300, c16_600, c16_616, c16_1000, Nat.add_eq, vp_updL_at, upd_at, Nat.add_sub_cancel, Nat.add_zero, Nat.zero_add, Nat.sub_zero, uU_uU, uT_uT, uI_uI, uL_uL, uU_at, uT_at, uI_at, uL_at, uU_ne, uT_ne, uI_ne, uL_ne, uU_sw, uT_sw, uI_sw, uL_sw] <;> first | with_reducible assumption | omega) | omega | decide) (by first | with_reducible assumption | (simp (disch := omega) only [e14, hk, i_lit, i_m1, pk_sub, nI_add, nI_ml, nI_ltI, nI_leI, nI_eq, nI_clamp, nI_l, lN_i, lg_nI, lg_geI, lg_leI, lg_gtI, lg_ltI, c16_160, c16_200, c16_255, c16_300, c16_600, c16_616, c16_1000, Nat.add_eq, vp_updL_at, upd_at, Nat.add_sub_cancel, Nat.add_zero, Nat.zero_add, Nat.sub_zero, uU_uU, uT_uT, uI_uI, uL_uL, uU_at, uT_at, uI_at, uL_at, uU_ne, uT_ne, uI_ne, uL_ne, uU_sw, uT_sw, uI_sw, uL_sw] <;> first | with_reducible assumption | omega) | omega | decide) (by first | with_reducible assumption | (simp (disch := omega) only [e14, hk, i_lit, i_m1, pk_sub, nI_add, nI_ml, nI_ltI, nI_leI, nI_eq, nI_clamp, nI_l, lN_i, lg_nI, lg_geI, lg_leI, lg_gtI, lg_ltI, c16_160, c16_200, c16_255, c16_300, c16_600, c16_616, c16_1000, Nat.add_eq, vp_updL_at, upd_at, Nat.add_sub_cancel, Nat.add_zero, Nat.zero_add, Nat.sub_zero, uU_uU, uT_uT, uI_uI, uL_uL, uU_at, uT_at, uI_at, uL_at, uU_ne, uT_ne, uI_ne, uL_ne, uU_sw, uT_sw, uI_sw, uL_sw] <;> first | with_reducible assumption | omega) | omega | decide) (t_isFull1 (n := 60) (show uI J 14 _ 4 = nI 60 from e4) (by omega) (i_lit 1) (by omega) (by omega)) (by first | with_reducible assumption | (simp (disch := omega) only [e14, hk, i_lit, i_m1, pk_sub, nI_add, nI_ml, nI_ltI, nI_leI, nI_eq, nI_clamp, nI_l, lN_i, lg_nI, lg_geI, lg_leI, lg_gtI, lg_ltI, c16_160, c16_200, c16_255, c16_300, c16_600, c16_616, c16_1000, Nat.add_eq, vp_updL_at, upd_at, Nat.add_sub_cancel, Nat.add_zero, Nat.zero_add, Nat.sub_zero, uU_uU, uT_uT, uI_uI, uL_uL, uU_at, uT_at, uI_at, uL_at, uU_ne, uT_ne, uI_ne, uL_ne, uU_sw, uT_sw, uI_sw, uL_sw] <;> first | with_reducible assumption | omega) | omega | decide) ?_)
        refine (q_X12_unwind_2_1 f_X12_isFull f_X12_pushBool _ _ _ _ _ (by first | with_reducible assumption | (simp (disch := omega) only [i_lit, i_m1, pk_sub, nI_add, nI_ml, nI_ltI, nI_leI, nI_eq, nI_clamp, nI_l, lN_i, lg_nI, lg_geI, lg_leI, lg_gtI, lg_ltI, c16_160, c16_200, c16_255, c16_300, c16_600, c16_616, c16_1000, Nat.add_eq, vp_updL_at, upd_at, Nat.add_sub_cancel, Nat.add_zero, Nat.zero_add, Nat.sub_zero, uU_uU, uT_uT, uI_uI, uL_uL, uU_at, uT_at, uI_at, uL_at, uU_ne, uT_ne, uI_ne, uL_ne, uU_sw, uT_sw, uI_sw, uL_sw] <;> first | with_reducible assumption | omega) | omega | decide) ?_)
        rw [e14, nI_pred]
        exact m2
      · rw [m4 x a1 a2 a3 a4, uI_ne _ _ a2, uI_ne _ _ a1, uI_ne _ _ a3]
      · rcases m5 with ⟨_, q1, q2⟩ | ⟨_, q1, q2⟩
        · exact ⟨q1, q2⟩
        · exact ⟨q1, q2⟩
    · obtain ⟨J', m, m1, m2, m3, m4, m5⟩ := ih (by omega) (uI J 14 (nI n)) rfl e4 (fun i hi => hs i (by omega))
      refine ⟨J', m + 1, by omega, ?_, m3, fun x a1 a2 a3 a4 => ?_, ?_⟩
      · refine (q_X12_unwind_6_1 f_X12_isFull f_X12_pushBool _ _ _ _ (by first | with_reducible assumption | (simp (disch := omega) only [e14, hk, i_lit, i_m1, pk_sub, nI_add, nI_ml, nI_ltI, nI_leI, nI_eq, nI_clamp, nI_l, lN_i, lg_nI, lg_geI, lg_leI, lg_gtI, lg_ltI, c16_160, c16_200, c16_255, c16_300, c16_600, c16_616, c16_1000, Nat.add_eq, vp_updL_at, upd_at, Nat.add_sub_cancel, Nat.add_zero, Nat.zero_add, Nat.sub_zero, uU_uU, uT_uT, uI_uI, uL_uL, uU_at, uT_at, uI_at, uL_at, uU_ne, uT_ne, uI_ne, uL_ne, uU_sw, uT_sw, uI_sw, uL_sw] <;> first | with_reducible assumption | omega) | omega | decide) (by first | with_reducible assumption | (simp (disch := omega) only [e14, hk, i_lit, i_m1, pk_sub, nI_add, nI_ml, nI_ltI, nI_leI, nI_eq, nI_clamp, nI_l, lN_i, lg_nI, lg_geI, lg_leI, lg_gtI, lg_ltI, c16_160, c16_200, c16_255, c16_300, c16_600, c16_616, c16_1000, Nat.add_eq, vp_updL_at, upd_at, Nat.add_sub_cancel, Nat.add_zero, Nat.zero_add, Nat.sub_zero, uU_uU, uT_uT, uI_uI, uL_uL, uU_at, uT_at, uI_at, uL_at, uU_ne, uT_ne, uI_ne, uL_ne, uU_sw, uT_sw, uI_sw, uL_sw] <;> first | with_reducible assumption | omega) | omega | decide) (by first | with_reducible assumption | (simp (disch := omega) only [e14, hk, i_lit, i_m1, pk_sub, nI_add, nI_ml, nI_ltI, nI_leI, nI_eq, nI_clamp, nI_l, lN_i, lg_nI, lg_geI, lg_leI, lg_gtI, lg_ltI, c16_160, c16_200, c16_255, c16_300, c16_600, c16_616, c16_1000, Nat.add_eq, vp_updL_at, upd_at, Nat.add_sub_cancel, Nat.add_zero, Nat.zero_add, Nat.sub_zero, uU_uU, uT_uT, uI_uI, uL_uL, uU_at, uT_at, uI_at, uL_at, uU_ne, uT_ne, uI_ne, uL_ne, uU_sw, uT_sw, uI_sw, uL_sw] <;> first | with_reducible assumption | omega) | omega | decide) ?_)
        rw [e14, nI_pred]
        exact m2
      · rw [m4 x a1 a2 a3 a4, uI_ne _ _ a3]
      · rcases m5 with ⟨q0, q1, q2⟩ | ⟨⟨x, x1, x2⟩, q1, q2⟩
        · refine .inl ⟨fun x hx => ?_, q1, q2⟩
          by_cases e : x = n
          · rw [e, hk]
            exact fun h => k2 ((nI_eq (by omega) (by omega)).mp h)
          · exact q0 x (by omega)
        · exact .inr ⟨⟨x, by omega, x2⟩, q1, q2⟩
/-! the error that both note -/
def ER (I J : Nat → Int32) : Prop := I 15 = J 12 ∧ I 16 = J 13
theorem R_st {N : Nat → Nat} {I : Nat → Int32} {T : Nat → Nat → Int32} {U : Nat → Nat → Int64} {J : Nat → Int32} {S : Nat → Nat → Int32} {I' J' : Nat → Int32} (h : R N I T U J S) (hi : ∀ x, x ≤ 8 → I' x = I x) (hj : ∀ x, 4 ≤ x → x ≤ 11 → J' x = J x) : R N I' T U J' S := by
  obtain ⟨h0, h1, h2, h3, h4, h5, h6⟩ := h
  unfold R
  rw [hi 8 (by decide), hi 2 (by decide), hi 3 (by decide), hi 4 (by decide), hi 0 (by decide), hi 5 (by decide), hi 6 (by decide), hi 7 (by decide), hj 4 (by decide) (by decide), hj 7 (by decide) (by decide), hj 8 (by decide) (by decide), hj 11 (by decide) (by decide), hj 10 (by decide) (by decide), hj 5 (by decide) (by decide), hj 6 (by decide) (by decide)]
  exact ⟨h0, h1, h2, h3, h4, h5, h6⟩
theorem RE_same {N : Nat → Nat} {n : Nat} {x y : Int32} {T T' : Nat → Nat → Int32} {U U' : Nat → Nat → Int64} {S S' : Nat → Nat → Int32} {K : Nat → Int64} (h : RE N n x T U y S K) (ht : T' 10 = T 10) (hu : ∀ i, 8 ≤ i → i ≤ 13 → U' i = U i) (h12 : S' 12 = S 12) (h13 : S' 13 = S 13) : RE N n x T' U' y S' K := by
  obtain ⟨a1, a2, a3, a4, ⟨a5, a6⟩, a7⟩ := h
  refine ⟨a1, a2, a3, a4, ⟨by rw [ht]; exact a5, by rw [h12]; exact a6⟩, fun i h0 hi => ?_⟩
  have q := a7 i h0 hi
  unfold FR FRp FRs FRf FRr FRl FRa FRd at q ⊢
  rw [ht, hu 8 (by decide) (by decide), hu 9 (by decide) (by decide), hu 10 (by decide) (by decide), hu 11 (by decide) (by decide), hu 12 (by decide) (by decide), hu 13 (by decide) (by decide), h12, h13]
  exact q
theorem true_long : (1125899906842625 : Int64) = eV (2, 0, 0, nI 1) := by decide +kernel
/-- unwind, jointly: caught, or the run has ended -/
theorem jun {N : Nat → Nat} {I : Nat → Int32} {L : Nat → Int64} {T : Nat → Nat → Int32} {U : Nat → Nat → Int64} {J : Nat → Int32} {S : Nat → Nat → Int32} {K : Nat → Int64} {n : Nat} (hR : R N I T U J S) (hE : RE N n (I 21) T U (J 14) S K) (he : ER I J) (v : Int32) :
    ∃ (N' : Nat → Nat) (I' : Nat → Int32) (U' : Nat → Nat → Int64) (J' : Nat → Int32) (S' : Nat → Nat → Int32), f_X3_unwind (wc I L T U) [.ref 24, .int v] = some (none, wc I' L T U') ∧ f_X12_unwind (wr J S K) [.ref 0, .int v] = some (none, wr J' S' K) ∧ R N' I' T U' J' S' ∧ ER I' J' ∧ (∀ x, x ≤ 20 → x ≠ 8 → x ≠ 15 → x ≠ 16 → x ≠ 18 → I' x = I x) ∧ (∀ x, x ≠ 4 → x ≠ 12 → x ≠ 13 → x ≠ 14 → x ≠ 17 → J' x = J x) ∧ (∀ k, k ≠ 1 → S' k = S k) ∧ NM N N' ∧
    ((I' 18 = I 18 ∧ J' 17 = J 17 ∧ ∃ n', n' < n ∧ RE N' n' (I' 21) T U' (J' 14) S' K) ∨ (I' 18 = v ∧ J' 17 = v)) := by
  obtain ⟨h1, h24, e21, e14, ⟨p0, p1⟩, hF⟩ := id hE
  obtain ⟨hn, e8, e4, hO⟩ := hR.1
  have srt : ∀ i, 0 < i → i < n → ∃ a b, 1 ≤ a ∧ a ≤ 6 ∧ b ≤ 7 ∧ T 10 i = nI a ∧ S 12 (12 * i) = nI b ∧ (a = b ∨ (a = 6 ∧ b = 7)) := fun i h0 hi => FR_srt (hF i h0 hi)
  have iff2 : ∀ i, 0 < i → i < n → (T 10 i = nI 2 ↔ S 12 (12 * i) = nI 2) := by
    intro i h0 hi
    obtain ⟨a, b, a1, a2, a3, a4, a5, a6⟩ := srt i h0 hi
    rw [a4, a5, nI_eq (by omega) (by omega), nI_eq (by omega) (by omega)]
    omega
  have sk : ∀ i, i < n → ∃ k, k ≤ 7 ∧ S 12 (12 * i) = nI k := by
    intro i hi
    by_cases i0 : i = 0
    · rw [i0]
      exact ⟨0, by decide, p1⟩
    · obtain ⟨a, b, a1, a2, a3, a4, a5, a6⟩ := srt i (by omega) hi
      exact ⟨b, a3, a5⟩
  have s0 : S 12 (12 * 0) ≠ nI 2 := by
    rw [show 12 * 0 = 0 from rfl, p1]
    decide
  by_cases full : N 0 = 60
  · rw [full] at e8 e4
    obtain ⟨I', m, m1, m2, m3, m4, m5⟩ := z_unwindC (L := L) (T := T) (U := U) (v := v) n n (Nat.le_refl _) h24 h1 0 I (by omega) e21 e8
    obtain ⟨J', m', m1', m2', m3', m4', m5'⟩ := z_unwindR (S := S) (K := K) (v := v) n h24 J e14 e4 sk
    refine ⟨N, I', U, J', S, ?_, ?_, R_st hR (fun x hx => m4 x (by omega) (by omega) (by omega) (by omega)) (fun x a b => m4' x (by omega) (by omega) (by omega) (by omega)), ?_, fun x a0 a1 a2 a3 a4 => m4 x a2 a3 a4 (by omega), fun x a0 a1 a2 a3 a4 => m4' x a1 a2 a3 a4, fun _ _ => rfl, NM_r N, .inr ⟨m3, m3'⟩⟩
    · (rw [fv_X3_unwind_eq]; refine (p_X3_unwind_1 f_X2_leaveStopped f_X5_push _ _ _ _ _ (m := m) (by omega) ?_); first | with_reducible exact m2 | (simp (disch := omega) only [i_lit, i_m1, pk_sub, nI_add, nI_ml, nI_ltI, nI_leI, nI_eq, nI_clamp, nI_l, lN_i, lg_nI, lg_geI, lg_leI, lg_gtI, lg_ltI, c16_160, c16_200, c16_255, c16_300, c16_600, c16_616, c16_1000, Nat.add_eq, vp_updL_at, upd_at, Nat.add_sub_cancel, Nat.add_zero, Nat.zero_add, Nat.sub_zero, uU_uU, uT_uT, uI_uI, uL_uL, uU_at, uT_at, uI_at, uL_at, uU_ne, uT_ne, uI_ne, uL_ne, uU_sw, uT_sw, uI_sw, uL_sw]; first | with_reducible exact m2 | (simp only [i_lit, Nat.add_zero, Nat.sub_zero] at m2; with_reducible exact m2)))
    · have hz' : (z_X12_unwind f_X12_isFull f_X12_pushBool) 2 [.ref 0, .int v, .int 1] [] (wr J S K) (m' + 1) = some (none, wr J' S K) := by
        (refine (q_X12_unwind_2_1 f_X12_isFull f_X12_pushBool _ _ _ _ _ (by first | with_reducible assumption | (simp (disch := omega) only [i_lit, i_m1, pk_sub, nI_add, nI_ml, nI_ltI, nI_leI, nI_eq, nI_clamp, nI_l, lN_i, lg_nI, lg_geI, lg_leI, lg_gtI, lg_ltI, c16_160, c16_200, c16_255, c16_300, c16_600, c16_616, c16_1000, Nat.add_eq, vp_updL_at, upd_at, Nat.add_sub_cancel, Nat.add_zero, Nat.zero_add, Nat.sub_zero, uU_uU, uT_uT, uI_uI, uL_uL, uU_at, uT_at, uI_at, uL_at, uU_ne, uT_ne, uI_ne, uL_ne, uU_sw, uT_sw, uI_sw, uL_sw] <;> first | with_reducible assumption | omega) | omega | decide) ?_); first | with_reducible exact m2' | (simp (disch := omega) only [i_lit, i_m1, pk_sub, nI_add, nI_ml, nI_ltI, nI_leI, nI_eq, nI_clamp, nI_l, lN_i, lg_nI, lg_geI, lg_leI, lg_gtI, lg_ltI, c16_160, c16_200, c16_255, c16_300, c16_600, c16_616, c16_1000, Nat.add_eq, vp_updL_at, upd_at, Nat.add_sub_cancel, Nat.add_zero, Nat.zero_add, Nat.sub_zero, uU_uU, uT_uT, uI_uI, uL_uL, uU_at, uT_at, uI_at, uL_at, uU_ne, uT_ne, uI_ne, uL_ne, uU_sw, uT_sw, uI_sw, uL_sw]; first | with_reducible exact m2' | (simp only [i_lit, Nat.add_zero, Nat.sub_zero] at m2'; with_reducible exact m2')))
      (rw [fv_X12_unwind_eq]; refine (p_X12_unwind_1 f_X12_isFull f_X12_pushBool _ _ _ _ (m := m' + 1) (by omega) ?_); first | with_reducible exact hz' | (simp (disch := omega) only [i_lit, i_m1, pk_sub, nI_add, nI_ml, nI_ltI, nI_leI, nI_eq, nI_clamp, nI_l, lN_i, lg_nI, lg_geI, lg_leI, lg_gtI, lg_ltI, c16_160, c16_200, c16_255, c16_300, c16_600, c16_616, c16_1000, Nat.add_eq, vp_updL_at, upd_at, Nat.add_sub_cancel, Nat.add_zero, Nat.zero_add, Nat.sub_zero, uU_uU, uT_uT, uI_uI, uL_uL, uU_at, uT_at, uI_at, uL_at, uU_ne, uT_ne, uI_ne, uL_ne, uU_sw, uT_sw, uI_sw, uL_sw]; first | with_reducible exact hz' | (simp only [i_lit, Nat.add_zero, Nat.sub_zero] at hz'; with_reducible exact hz')))
    · rcases m5 with ⟨no, q1, q2⟩ | ⟨⟨x, x1, x2, x3⟩, q1, q2⟩
      · rcases m5' with ⟨_, q1', q2'⟩ | ⟨⟨y, y1, y2⟩, _⟩
        · exact ⟨q1.trans (he.1.trans q1'.symm), q2.trans (he.2.trans q2'.symm)⟩
        · exfalso
          by_cases y0 : y = 0
          · rw [y0] at y2
            exact s0 y2
          · exact no y (by omega) y1 ((iff2 y (by omega) y1).mpr y2)
      · rcases m5' with ⟨no, _⟩ | ⟨_, q1', q2'⟩
        · exact absurd ((iff2 x x1 x2).mp x3) (no x x2)
        · exact ⟨q1.trans q1'.symm, q2.trans q2'.symm⟩
  · rcases last_or (fun x => 0 < x ∧ T 10 x = nI 2) n with ⟨j, j1, ⟨j2, j3⟩, j4⟩ | j4
    · have ab : ∀ i, j < i → i < n → T 10 i ≠ nI 2 := fun i i1 i2 e => j4 i i1 i2 ⟨by omega, e⟩
      have hr2 : RO N (N 0 + 1) 60 (nI (N 0 + 1)) (vp_updL (U 5) (N 0) (eV (2, 0, 0, nI 1))) (nI (N 0 + 1)) (st5 (S 1) (N 0) 2 1 0 0 0) := RO_ans (n' := N 0 + 1) (j := N 0) hR.1 (Nat.le_refl _) rfl (by omega) rfl rfl (ok_bool (by decide)) (ps_st rfl rfl rfl rfl)
      refine ⟨uN N 0 (N 0 + 1), uI (uI I 21 (nI j)) 8 (nI (N 0 + 1)), uU U 5 (vp_updL (U 5) (N 0) (eV (2, 0, 0, nI 1))), uI (uI J 14 (nI j)) 4 (nI (N 0 + 1)), uT S 1 (st5 (S 1) (N 0) 2 1 0 0 0), ?_, ?_, ?_, he, ?_, ?_, ?_, NM_r N, .inl ⟨rfl, rfl, j, j1, ?_⟩⟩
      · rw [← true_long]
        exact s_unwindA e21 h24 j2 j1 j3 ab e8 (by omega)
      · exact t_unwindA e14 h24 j1 ((iff2 j j2 j1).mp j3) (fun i i1 i2 => by
          obtain ⟨a, b, a1, a2, a3, a4, a5, a6⟩ := srt i (by omega) i2
          refine ⟨b, a3, a5, fun e => ?_⟩
          rw [e] at a5
          exact ab i i1 i2 ((iff2 i (by omega) i2).mpr a5)) e4 (by omega)
      · have := R_ops (n' := N 0 + 1) hR hr2
        exact ⟨this.1, this.2.1, this.2.2.1, this.2.2.2.1, this.2.2.2.2.1, this.2.2.2.2.2.1, this.2.2.2.2.2.2⟩
      · exact fun x a0 a1 a2 a3 a4 => by rw [uI_ne _ _ a1, uI_ne _ _ (by omega)]
      · exact fun x a0 a1 a2 a3 a4 => by rw [uI_ne _ _ a0, uI_ne _ _ a3]
      · exact fun k hk => uT_ne _ _ hk
      · exact RE_same (RE_mono (NM_r N) (RE_cut hE (by omega) (by omega))) rfl (fun i i1 i2 => uU_ne _ _ (by omega)) rfl rfl
    · have no : ∀ x, 0 < x → x < n → T 10 x ≠ nI 2 := fun x x1 x2 e => j4 x x2 ⟨x1, e⟩
      refine ⟨N, uI I 18 v, U, uI (uI J 14 (nI 0)) 17 v, S, s_unwindB e21 h24 h1 no, t_unwindB e14 h24 (fun i _ hi => ?_), R_st hR (fun x hx => uI_ne _ _ (by omega)) (fun x a b => by rw [uI_ne _ _ (by omega), uI_ne _ _ (by omega)]), he, fun x a0 a1 a2 a3 a4 => uI_ne _ _ a4, fun x a0 a1 a2 a3 a4 => by rw [uI_ne _ _ a4, uI_ne _ _ a3], fun _ _ => rfl, NM_r N, .inr ⟨rfl, rfl⟩⟩
      obtain ⟨k, k7, hk⟩ := sk i hi
      refine ⟨k, k7, hk, fun e => ?_⟩
      rw [e] at hk
      by_cases i0 : i = 0
      · rw [i0] at hk
        exact s0 hk
      · exact no i (by omega) hi ((iff2 i (by omega) hi).mpr hk)
theorem s_fail {I : Nat → Int32} {L : Nat → Int64} {T : Nat → Nat → Int32} {U : Nat → Nat → Int64} {a b : Int32} {I1 : Nat → Int32} {L1 : Nat → Int64} {T1 : Nat → Nat → Int32} {U1 : Nat → Nat → Int64} (hc : f_X3_unwind (wc (uI (uI I 15 a) 16 b) L T U) [.ref 24, .int (nI 2)] = some (none, wc I1 L1 T1 U1)) : f_X3_fail (wc I L T U) [.ref 24, .int a, .int b] = some (none, wc I1 L1 T1 U1) := by
  rw [fv_X3_fail_eq]; (refine Eq.trans (p_X3_fail_1 f_X3_unwind _ _ _ _ _ _ _ _ _ _ (hc)) ?_; first | with_reducible rfl | (simp (disch := omega) only [i_lit, i_m1, pk_sub, nI_add, nI_ml, nI_ltI, nI_leI, nI_eq, nI_clamp, nI_l, lN_i, lg_nI, lg_geI, lg_leI, lg_gtI, lg_ltI, c16_160, c16_200, c16_255, c16_300, c16_600, c16_616, c16_1000]; done))
theorem t_fail {I : Nat → Int32} {T : Nat → Nat → Int32} {K : Nat → Int64} {a b : Int32} {I1 : Nat → Int32} {T1 : Nat → Nat → Int32} {K1 : Nat → Int64} (hc : f_X12_unwind (wr (uI (uI I 12 a) 13 b) T K) [.ref 0, .int (nI 2)] = some (none, wr I1 T1 K1)) : f_X12_fail (wr I T K) [.ref 0, .int a, .int b] = some (none, wr I1 T1 K1) := by
  rw [fv_X12_fail_eq]; (refine Eq.trans (p_X12_fail_1 f_X12_unwind _ _ _ _ _ _ _ _ (hc)) ?_; first | with_reducible rfl | (simp (disch := omega) only [i_lit, i_m1, pk_sub, nI_add, nI_ml, nI_ltI, nI_leI, nI_eq, nI_clamp, nI_l, lN_i, lg_nI, lg_geI, lg_leI, lg_gtI, lg_ltI, c16_160, c16_200, c16_255, c16_300, c16_600, c16_616, c16_1000]; done))
theorem jfl {N : Nat → Nat} {I : Nat → Int32} {L : Nat → Int64} {T : Nat → Nat → Int32} {U : Nat → Nat → Int64} {J : Nat → Int32} {S : Nat → Nat → Int32} {K : Nat → Int64} {n : Nat} (hR : R N I T U J S) (hE : RE N n (I 21) T U (J 14) S K) (a b : Int32) :
    ∃ (N' : Nat → Nat) (I' : Nat → Int32) (U' : Nat → Nat → Int64) (J' : Nat → Int32) (S' : Nat → Nat → Int32), f_X3_fail (wc I L T U) [.ref 24, .int a, .int b] = some (none, wc I' L T U') ∧ f_X12_fail (wr J S K) [.ref 0, .int a, .int b] = some (none, wr J' S' K) ∧ R N' I' T U' J' S' ∧ ER I' J' ∧ (∀ x, x ≤ 20 → x ≠ 8 → x ≠ 15 → x ≠ 16 → x ≠ 18 → I' x = I x) ∧ (∀ x, x ≠ 4 → x ≠ 12 → x ≠ 13 → x ≠ 14 → x ≠ 17 → J' x = J x) ∧ (∀ k, k ≠ 1 → S' k = S k) ∧ NM N N' ∧
    ((I' 18 = I 18 ∧ J' 17 = J 17 ∧ ∃ n', n' < n ∧ RE N' n' (I' 21) T U' (J' 14) S' K) ∨ (I' 18 = nI 2 ∧ J' 17 = nI 2)) := by
  obtain ⟨N', I', U', J', S', a1, a2, a3, a4, a5, a6, a7, a8, a9⟩ := jun (L := L) (I := uI (uI I 15 a) 16 b) (J := uI (uI J 12 a) 13 b) (R_st hR (fun x hx => by rw [uI_ne _ _ (by omega), uI_ne _ _ (by omega)]) (fun x h1 h2 => by rw [uI_ne _ _ (by omega), uI_ne _ _ (by omega)])) hE ⟨rfl, rfl⟩ (nI 2)
  exact ⟨N', I', U', J', S', s_fail a1, t_fail a2, a3, a4, fun x b0 b1 b2 b3 b4 => by rw [a5 x b0 b1 b2 b3 b4, uI_ne _ _ b3, uI_ne _ _ b2], fun x b0 b1 b2 b3 b4 => by rw [a6 x b0 b1 b2 b3 b4, uI_ne _ _ b2, uI_ne _ _ b1], a7, a8, a9⟩
/-- an error when no operand has room: nobody catches it -/
theorem jff {N : Nat → Nat} {I : Nat → Int32} {L : Nat → Int64} {T : Nat → Nat → Int32} {U : Nat → Nat → Int64} {J : Nat → Int32} {S : Nat → Nat → Int32} {K : Nat → Int64} {n m : Nat} (hR : R N I T U J S) (full : N 0 = 60) (h1 : 1 ≤ n) (h24 : n ≤ 24) (m24 : m ≤ 24) (e21 : I 21 = nI n) (e14 : J 14 = nI m) (sk : ∀ i, i < m → ∃ k, k ≤ 7 ∧ S 12 (12 * i) = nI k) (a b : Int32) (hab : (a = nI 13 ∧ b = nI 65) ∨ ((∃ x, 0 < x ∧ x < n ∧ T 10 x = nI 2) ↔ (∃ x, x < m ∧ S 12 (12 * x) = nI 2))) :
    ∃ (I' : Nat → Int32) (J' : Nat → Int32), f_X3_fail (wc I L T U) [.ref 24, .int a, .int b] = some (none, wc I' L T U) ∧ f_X12_fail (wr J S K) [.ref 0, .int a, .int b] = some (none, wr J' S K) ∧ R N I' T U J' S ∧ ER I' J' ∧ (∀ x, x ≤ 20 → x ≠ 8 → x ≠ 15 → x ≠ 16 → x ≠ 18 → I' x = I x) ∧ (∀ x, x ≠ 4 → x ≠ 12 → x ≠ 13 → x ≠ 14 → x ≠ 17 → J' x = J x) ∧ I' 18 = nI 2 ∧ J' 17 = nI 2 := by
  obtain ⟨hn, e8, e4, hO⟩ := hR.1
  rw [full] at e8 e4
  obtain ⟨I', p, m1, m2, m3, m4, m5⟩ := z_unwindC (L := L) (T := T) (U := U) (v := nI 2) n n (Nat.le_refl _) h24 h1 0 (uI (uI I 15 a) 16 b) (by omega) e21 e8
  obtain ⟨J', p', m1', m2', m3', m4', m5'⟩ := z_unwindR (S := S) (K := K) (v := nI 2) m m24 (uI (uI J 12 a) 13 b) e14 e4 sk
  refine ⟨I', J', s_fail ?_, t_fail ?_, R_st hR (fun x hx => by rw [m4 x (by omega) (by omega) (by omega) (by omega), uI_ne _ _ (by omega), uI_ne _ _ (by omega)]) (fun x a b => by rw [m4' x (by omega) (by omega) (by omega) (by omega), uI_ne _ _ (by omega), uI_ne _ _ (by omega)]), ?_, fun x a0 a1 a2 a3 a4 => by rw [m4 x a2 a3 a4 (by omega), uI_ne _ _ a3, uI_ne _ _ a2], fun x a0 a1 a2 a3 a4 => by rw [m4' x a1 a2 a3 a4, uI_ne _ _ a2, uI_ne _ _ a1], m3, m3'⟩
  · (rw [fv_X3_unwind_eq]; refine (p_X3_unwind_1 f_X2_leaveStopped f_X5_push _ _ _ _ _ (m := p) (by omega) ?_); first | with_reducible exact m2 | (simp (disch := omega) only [i_lit, i_m1, pk_sub, nI_add, nI_ml, nI_ltI, nI_leI, nI_eq, nI_clamp, nI_l, lN_i, lg_nI, lg_geI, lg_leI, lg_gtI, lg_ltI, c16_160, c16_200, c16_255, c16_300, c16_600, c16_616, c16_1000, Nat.add_eq, vp_updL_at, upd_at, Nat.add_sub_cancel, Nat.add_zero, Nat.zero_add, Nat.sub_zero, uU_uU, uT_uT, uI_uI, uL_uL, uU_at, uT_at, uI_at, uL_at, uU_ne, uT_ne, uI_ne, uL_ne, uU_sw, uT_sw, uI_sw, uL_sw]; first | with_reducible exact m2 | (simp only [i_lit, Nat.add_zero, Nat.sub_zero] at m2; with_reducible exact m2)))
  · have hz' : (z_X12_unwind f_X12_isFull f_X12_pushBool) 2 [.ref 0, .int (nI 2), .int 1] [] (wr (uI (uI J 12 a) 13 b) S K) (p' + 1) = some (none, wr J' S K) := by
      (refine (q_X12_unwind_2_1 f_X12_isFull f_X12_pushBool _ _ _ _ _ (by first | with_reducible assumption | (simp (disch := omega) only [i_lit, i_m1, pk_sub, nI_add, nI_ml, nI_ltI, nI_leI, nI_eq, nI_clamp, nI_l, lN_i, lg_nI, lg_geI, lg_leI, lg_gtI, lg_ltI, c16_160, c16_200, c16_255, c16_300, c16_600, c16_616, c16_1000, Nat.add_eq, vp_updL_at, upd_at, Nat.add_sub_cancel, Nat.add_zero, Nat.zero_add, Nat.sub_zero, uU_uU, uT_uT, uI_uI, uL_uL, uU_at, uT_at, uI_at, uL_at, uU_ne, uT_ne, uI_ne, uL_ne, uU_sw, uT_sw, uI_sw, uL_sw] <;> first | with_reducible assumption | omega) | omega | decide) ?_); first | with_reducible exact m2' | (simp (disch := omega) only [i_lit, i_m1, pk_sub, nI_add, nI_ml, nI_ltI, nI_leI, nI_eq, nI_clamp, nI_l, lN_i, lg_nI, lg_geI, lg_leI, lg_gtI, lg_ltI, c16_160, c16_200, c16_255, c16_300, c16_600, c16_616, c16_1000, Nat.add_eq, vp_updL_at, upd_at, Nat.add_sub_cancel, Nat.add_zero, Nat.zero_add, Nat.sub_zero, uU_uU, uT_uT, uI_uI, uL_uL, uU_at, uT_at, uI_at, uL_at, uU_ne, uT_ne, uI_ne, uL_ne, uU_sw, uT_sw, uI_sw, uL_sw]; first | with_reducible exact m2' | (simp only [i_lit, Nat.add_zero, Nat.sub_zero] at m2'; with_reducible exact m2')))
    (rw [fv_X12_unwind_eq]; refine (p_X12_unwind_1 f_X12_isFull f_X12_pushBool _ _ _ _ (m := p' + 1) (by omega) ?_); first | with_reducible exact hz' | (simp (disch := omega) only [i_lit, i_m1, pk_sub, nI_add, nI_ml, nI_ltI, nI_leI, nI_eq, nI_clamp, nI_l, lN_i, lg_nI, lg_geI, lg_leI, lg_gtI, lg_ltI, c16_160, c16_200, c16_255, c16_300, c16_600, c16_616, c16_1000, Nat.add_eq, vp_updL_at, upd_at, Nat.add_sub_cancel, Nat.add_zero, Nat.zero_add, Nat.sub_zero, uU_uU, uT_uT, uI_uI, uL_uL, uU_at, uT_at, uI_at, uL_at, uU_ne, uT_ne, uI_ne, uL_ne, uU_sw, uT_sw, uI_sw, uL_sw]; first | with_reducible exact hz' | (simp only [i_lit, Nat.add_zero, Nat.sub_zero] at hz'; with_reducible exact hz')))
  · have c15 : I' 15 = a ∧ I' 16 = b ∨ (∃ x, 0 < x ∧ x < n ∧ T 10 x = nI 2) ∧ I' 15 = nI 13 ∧ I' 16 = nI 65 := by
      rcases m5 with ⟨_, q1, q2⟩ | q
      · exact .inl ⟨q1, q2⟩
      · exact .inr q
    have c12 : J' 12 = a ∧ J' 13 = b ∨ (∃ x, x < m ∧ S 12 (12 * x) = nI 2) ∧ J' 12 = nI 13 ∧ J' 13 = nI 65 := by
      rcases m5' with ⟨_, q1, q2⟩ | q
      · exact .inl ⟨q1, q2⟩
      · exact .inr q
    rcases hab with ⟨ha, hb⟩ | hx
    · rcases c15 with ⟨q1, q2⟩ | ⟨_, q1, q2⟩
      · rcases c12 with ⟨p1, p2⟩ | ⟨_, p1, p2⟩
        · exact ⟨q1.trans p1.symm, q2.trans p2.symm⟩
        · exact ⟨q1.trans (ha.trans p1.symm), q2.trans (hb.trans p2.symm)⟩
      · rcases c12 with ⟨p1, p2⟩ | ⟨_, p1, p2⟩
        · exact ⟨q1.trans (ha.symm.trans p1.symm), q2.trans (hb.symm.trans p2.symm)⟩
        · exact ⟨q1.trans p1.symm, q2.trans p2.symm⟩
    · rcases m5 with ⟨no, q1, q2⟩ | ⟨ex, q1, q2⟩
      · rcases m5' with ⟨_, p1, p2⟩ | ⟨ex, _⟩
        · exact ⟨q1.trans p1.symm, q2.trans p2.symm⟩
        · obtain ⟨x, x1, x2, x3⟩ := hx.mpr ex
          exact absurd x3 (no x x1 x2)
      · rcases m5' with ⟨no, _⟩ | ⟨_, p1, p2⟩
        · obtain ⟨x, x1, x2⟩ := hx.mp ex
          exact absurd x2 (no x x1)
        · exact ⟨q1.trans p1.symm, q2.trans p2.symm⟩
theorem RE_srt {N : Nat → Nat} {n : Nat} {x y : Int32} {T : Nat → Nat → Int32} {U : Nat → Nat → Int64} {S : Nat → Nat → Int32} {K : Nat → Int64} (h : RE N n x T U y S K) : (∀ i, i < n → ∃ k, k ≤ 7 ∧ S 12 (12 * i) = nI k) ∧ ((∃ x, 0 < x ∧ x < n ∧ T 10 x = nI 2) ↔ (∃ x, x < n ∧ S 12 (12 * x) = nI 2)) := by
  obtain ⟨h1, h24, e21, e14, ⟨p0, p1⟩, hF⟩ := h
  have srt : ∀ i, 0 < i → i < n → ∃ a b, 1 ≤ a ∧ a ≤ 6 ∧ b ≤ 7 ∧ T 10 i = nI a ∧ S 12 (12 * i) = nI b ∧ (a = b ∨ (a = 6 ∧ b = 7)) := fun i h0 hi => FR_srt (hF i h0 hi)
  have iff2 : ∀ i, 0 < i → i < n → (T 10 i = nI 2 ↔ S 12 (12 * i) = nI 2) := by
    intro i h0 hi
    obtain ⟨a, b, a1, a2, a3, a4, a5, a6⟩ := srt i h0 hi
    rw [a4, a5, nI_eq (by omega) (by omega), nI_eq (by omega) (by omega)]
    omega
  refine ⟨fun i hi => ?_, fun ⟨x, x1, x2, x3⟩ => ⟨x, x2, (iff2 x x1 x2).mp x3⟩, fun ⟨x, x1, x2⟩ => ?_⟩
  · by_cases i0 : i = 0
    · rw [i0]
      exact ⟨0, by decide, p1⟩
    · obtain ⟨a, b, a1, a2, a3, a4, a5, a6⟩ := srt i (by omega) hi
      exact ⟨b, a3, a5⟩
  · by_cases x0 : x = 0
    · rw [x0, show 12 * 0 = 0 from rfl, p1] at x2
      exact absurd x2 (by decide)
    · exact ⟨x, by omega, x1, (iff2 x (by omega) x1).mpr x2⟩
