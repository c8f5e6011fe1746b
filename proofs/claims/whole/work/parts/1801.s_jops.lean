theorem tk_2 {t : V} (h : w0 t) : tk 2 t = true ↔ t.1 = 1 := by
  have q : ∀ k, k < 9 → (Nat.beq (tkn 2 k) 1 = true ↔ k = 1) := by decide +kernel
  exact q t.1 (by have := h.1; omega)
theorem tk_3 {t : V} (h : w0 t) : tk 3 t = true ↔ t.1 = 2 := by
  have q : ∀ k, k < 9 → (Nat.beq (tkn 3 k) 1 = true ↔ k = 2) := by decide +kernel
  exact q t.1 (by have := h.1; omega)
theorem tk_5 {t : V} (h : w0 t) : tk 5 t = true ↔ t.1 = 5 := by
  have q : ∀ k, k < 9 → (Nat.beq (tkn 5 k) 1 = true ↔ k = 5) := by decide +kernel
  exact q t.1 (by have := h.1; omega)
theorem tk_6 {t : V} (h : w0 t) : tk 6 t = true ↔ t.1 = 6 := by
  have q : ∀ k, k < 9 → (Nat.beq (tkn 6 k) 1 = true ↔ k = 6) := by decide +kernel
  exact q t.1 (by have := h.1; omega)
theorem tk_7 {t : V} (h : w0 t) : tk 7 t = true ↔ t.1 = 7 := by
  have q : ∀ k, k < 9 → (Nat.beq (tkn 7 k) 1 = true ↔ k = 7) := by decide +kernel
  exact q t.1 (by have := h.1; omega)
theorem tk_8 {t : V} (h : w0 t) : tk 8 t = true ↔ (t.1 = 1 ∨ t.1 = 2 ∨ t.1 = 4 ∨ t.1 = 6) := by
  have q : ∀ k, k < 9 → (Nat.beq (tkn 8 k) 1 = true ↔ (k = 1 ∨ k = 2 ∨ k = 4 ∨ k = 6)) := by decide +kernel
  exact q t.1 (by have := h.1; omega)
theorem tk_9 {t : V} (h : w0 t) : tk 9 t = true ↔ (t.1 = 5 ∨ t.1 = 6) := by
  have q : ∀ k, k < 9 → (Nat.beq (tkn 9 k) 1 = true ↔ (k = 5 ∨ k = 6)) := by decide +kernel
  exact q t.1 (by have := h.1; omega)
theorem tk_10 {t : V} (h : w0 t) : tk 10 t = true ↔ (t.1 = 5 ∨ t.1 = 6 ∨ t.1 = 7) := by
  have q : ∀ k, k < 9 → (Nat.beq (tkn 10 k) 1 = true ↔ (k = 5 ∨ k = 6 ∨ k = 7)) := by decide +kernel
  exact q t.1 (by have := h.1; omega)
theorem tk_11 {t : V} (h : w0 t) : tk 11 t = true ↔ (t.1 = 4 ∨ t.1 = 5 ∨ t.1 = 6 ∨ t.1 = 7) := by
  have q : ∀ k, k < 9 → (Nat.beq (tkn 11 k) 1 = true ↔ (k = 4 ∨ k = 5 ∨ k = 6 ∨ k = 7)) := by decide +kernel
  exact q t.1 (by have := h.1; omega)
theorem tk_12 {t : V} (h : w0 t) : tk 12 t = true ↔ (t.1 = 1 ∨ t.1 = 2) := by
  have q : ∀ k, k < 9 → (Nat.beq (tkn 12 k) 1 = true ↔ (k = 1 ∨ k = 2)) := by decide +kernel
  exact q t.1 (by have := h.1; omega)
theorem tk_13 {t : V} (h : w0 t) : tk 13 t = true ↔ (t.1 = 1 ∨ t.1 = 6) := by
  have q : ∀ k, k < 9 → (Nat.beq (tkn 13 k) 1 = true ↔ (k = 1 ∨ k = 6)) := by decide +kernel
  exact q t.1 (by have := h.1; omega)
theorem tk_1 {t : V} (h : w0 t) : tk 1 t = true := by
  have q : ∀ k, k < 9 → Nat.beq (tkn 1 k) 1 = true := by decide +kernel
  exact q t.1 (by have := h.1; omega)
theorem tk_4 {t : V} : tk 4 t = true ↔ t.1 = 5 ∧ t.2.1 = 1 := by
  show (Nat.beq t.1 5 && Nat.beq t.2.1 1) = true ↔ _
  rw [Bool.and_eq_true]
  exact ⟨fun h => ⟨Nat.eq_of_beq_eq_true h.1, Nat.eq_of_beq_eq_true h.2⟩, fun h => ⟨by rw [h.1]; rfl, by rw [h.2]; rfl⟩⟩
theorem OJ_cnt {op : Nat} {F : rx_F} {o : Nat} {N : Nat → Nat} {I : Nat → Int32} {L : Nat → Int64} {T : Nat → Nat → Int32} {U : Nat → Nat → Int64} {J : Nat → Int32} {S : Nat → Nat → Int32} {K : Nat → Int64} {g : Nat → V} (hR : R N I T U J S) {n' : Nat} {x' y' : Int32} (h0 : chk op (N 0) g = 0) (h1 : F (wc I L T U) [.ref o, .int (nI op)] = some (some (.int 0), wc (uI I 8 x') L T U)) (h3 : f_X12_operate (wr J S K) [.ref 0, .int (nI op)] = some (some (.int 0), wr (uI J 4 y') S K)) (hn : n' ≤ N 0) (ex : x' = nI n') (ey : y' = nI n') :
  ∃ (e : Nat) (N' : Nat → Nat) (I' : Nat → Int32) (L' : Nat → Int64) (T' : Nat → Nat → Int32) (U' : Nat → Nat → Int64) (J' : Nat → Int32) (S' : Nat → Nat → Int32),
    (chk op (N 0) g = 0 → F (wc I L T U) [.ref o, .int (nI op)] = some (some (.int (nI e)), wc I' L' T' U')) ∧
    (chk op (N 0) g ≠ 0 → e = chk op (N 0) g ∧ I' = I ∧ L' = L ∧ T' = T ∧ U' = U) ∧
    f_X12_operate (wr J S K) [.ref 0, .int (nI op)] = some (some (.int (nI e)), wr J' S' K) ∧
    e ≤ 13 ∧ R N' I' T' U' J' S' ∧ FC I L T U I' L' T' U' ∧ FQ J S J' S' ∧ NM N N' := by
  have q := RO_drop (x' := x') (y' := y') hR.1 hn ex ey
  refine OJ_ops (u' := U 5) (s' := S 1) hR h0 ?_ ?_ q
  · rw [uU_self]
    exact h1
  · rw [uT_self]
    exact h3
theorem j_0 : OJ 0 f_X6_perform 33 := by
  intro N I L T U J S K g hR hg
  obtain ⟨hn, e8, e4, hO⟩ := hR.1
  by_cases hu : N 0 < 1
  · have hc : chk 0 (N 0) g = 3 := chk_u (c := 1) (by decide +kernel) hu
    exact OJ_same hR 3 (by decide) (fun h => absurd (h.symm.trans hc) (by decide)) (fun _ => hc.symm) (d_onStack rfl (by decide) (by decide) (d_0u e4 hn (by omega)))
  obtain ⟨u0, r0, o0⟩ := hg (N 0 - 1) (by omega)
  have v0 := ok_w0 o0
  have hc : chk 0 (N 0) g = if tk 1 (g (N 0 - 1)) = true then 0 else 4 := chk_1 (by decide +kernel) (by decide +kernel) (by omega)
  rw [if_pos (tk_1 v0)] at hc
  exact OJ_cnt (n' := N 0 - 1) hR hc (c_arr rfl (by decide) (c_0 e8 hn (by omega))) (d_onStack rfl (by decide) (by decide) (d_0 e4 hn (by omega))) (by omega) rfl rfl
theorem j_1 : OJ 1 f_X6_perform 33 := by
  intro N I L T U J S K g hR hg
  obtain ⟨hn, e8, e4, hO⟩ := hR.1
  by_cases hu : N 0 < 2
  · have hc : chk 1 (N 0) g = 3 := chk_u (c := 2) (by decide +kernel) hu
    exact OJ_same hR 3 (by decide) (fun h => absurd (h.symm.trans hc) (by decide)) (fun _ => hc.symm) (d_onStack rfl (by decide) (by decide) (d_1u e4 hn (by omega)))
  obtain ⟨u0, r0, o0⟩ := hg (N 0 - 1) (by omega)
  have v0 := ok_w0 o0
  obtain ⟨u1, r1, o1⟩ := hg (N 0 - 2) (by omega)
  have v1 := ok_w0 o1
  have hc : chk 1 (N 0) g = if tk 1 (g (N 0 - 1)) = true ∧ tk 1 (g (N 0 - 2)) = true then 0 else 4 := chk_2 (by decide +kernel) (by decide +kernel) (by decide +kernel) (by omega)
  rw [if_pos ⟨tk_1 v0, tk_1 v1⟩] at hc
  refine OJ_ops (n' := N 0) (x' := I 8) (y' := J 4) (u' := vp_updL (vp_updL (U 5) (N 0 - 1) (U 5 (N 0 - 2))) (N 0 - 2) (U 5 (N 0 - 1))) (s' := sw5 (S 1) (N 0 - 1 - 0) (N 0 - 1 - 1) 5) hR hc ?_ ?_ ⟨hn, e8, e4, fun i hi => ?_⟩
  · rw [uI_self]
    exact c_arr rfl (by decide) (c_1 e8 hn (by omega))
  · rw [uI_self]
    exact d_onStack rfl (by decide) (by decide) (d_1 e4 hn (by omega))
  · by_cases c1 : i = N 0 - 2
    · subst c1
      refine ⟨_, vp_updL_at.trans u0, r5_sw (by omega) ?_, o0⟩
      rw [if_neg (by omega), if_pos (by omega)]
      exact r0
    · by_cases c2 : i = N 0 - 1
      · subst c2
        refine ⟨_, (vp_updL_ne c1).trans (vp_updL_at.trans u1), r5_sw (by omega) ?_, o1⟩
        rw [if_pos (by omega)]
        exact r1
      · obtain ⟨a, b, c⟩ := hg i hi
        refine ⟨_, (vp_updL_ne c1).trans ((vp_updL_ne c2).trans a), r5_sw (by omega) ?_, c⟩
        rw [if_neg (by omega), if_neg (by omega)]
        exact b
theorem j_2 : OJ 2 f_X6_perform 33 := by
  intro N I L T U J S K g hR hg
  obtain ⟨hn, e8, e4, hO⟩ := hR.1
  by_cases hu : N 0 < 1
  · have hc : chk 2 (N 0) g = 3 := chk_u (c := 1) (by decide +kernel) hu
    exact OJ_same hR 3 (by decide) (fun h => absurd (h.symm.trans hc) (by decide)) (fun _ => hc.symm) (d_onStack rfl (by decide) (by decide) (d_2u e4 hn (by omega)))
  obtain ⟨u0, r0, o0⟩ := hg (N 0 - 1) (by omega)
  have v0 := ok_w0 o0
  have hc : chk 2 (N 0) g = if tk 1 (g (N 0 - 1)) = true then 0 else 4 := chk_1 (by decide +kernel) (by decide +kernel) (by omega)
  rw [if_pos (tk_1 v0)] at hc
  by_cases hf : N 0 = 60
  · exact OJ_same hR 13 (by decide) (fun _ => c_arr rfl (by decide) (c_2o e8 hn u0 v0 hf)) (fun h => absurd hc h) (d_onStack rfl (by decide) (by decide) (d_2o e4 hn hf))
  · exact OJ_ops hR hc (c_arr rfl (by decide) (c_2 e8 hn u0 v0 (by omega) (by omega))) (d_onStack rfl (by decide) (by decide) (d_2 e4 hn (by omega) (by omega))) (RO_ans hR.1 (j := N 0) (Nat.le_refl _) rfl (by omega) rfl rfl (o0) (ps_cp r0))

theorem j_6 : OJ 6 f_X6_perform 33 := by
  intro N I L T U J S K g hR hg
  obtain ⟨hn, e8, e4, hO⟩ := hR.1
  have hc : chk 6 (N 0) g = 0 := chk_0 (by decide +kernel)
  exact OJ_cnt (n' := 0) hR hc (c_arr rfl (by decide) (c_6 e8 hn)) (d_onStack rfl (by decide) (by decide) (d_6 e4 hn)) (by omega) rfl rfl
theorem j_7 : OJ 7 f_X6_perform 33 := by
  intro N I L T U J S K g hR hg
  obtain ⟨hn, e8, e4, hO⟩ := hR.1
  have hc : chk 7 (N 0) g = 0 := chk_0 (by decide +kernel)
  by_cases hf : N 0 = 60
  · exact OJ_same hR 13 (by decide) (fun _ => c_arr rfl (by decide) (c_7o e8 hn hf)) (fun h => absurd hc h) (d_onStack rfl (by decide) (by decide) (d_7o e4 hn hf))
  · exact OJ_ops hR hc (c_arr rfl (by decide) (c_7 e8 hn (by omega))) (d_onStack rfl (by decide) (by decide) (d_7 e4 hn (by omega))) (RO_ans hR.1 (j := N 0) (Nat.le_refl _) rfl (by omega) rfl rfl (ok_num _) (ps_st rfl rfl rfl rfl))

theorem j_8 : OJ 8 f_X6_perform 33 := by
  intro N I L T U J S K g hR hg
  obtain ⟨hn, e8, e4, hO⟩ := hR.1
  have hc : chk 8 (N 0) g = 0 := chk_0 (by decide +kernel)
  have em : (1688849860263936 : Int64) = eV (3, 0, 0, nI 0) := eV_mark
  by_cases hf : N 0 = 60
  · exact OJ_same hR 13 (by decide) (fun _ => c_arr rfl (by decide) (c_8o e8 hn hf)) (fun h => absurd hc h) (d_onStack rfl (by decide) (by decide) (d_8o e4 hn hf))
  · exact OJ_ops hR hc (by rw [← em]; exact c_arr rfl (by decide) (c_8 e8 hn (by omega))) (d_onStack rfl (by decide) (by decide) (d_8 e4 hn (by omega))) (RO_ans hR.1 (j := N 0) (Nat.le_refl _) rfl (by omega) rfl rfl (ok_mark) (ps_st rfl rfl rfl rfl))

theorem j_9 : OJ 9 f_X6_perform 33 := by
  intro N I L T U J S K g hR hg
  obtain ⟨hn, e8, e4, hO⟩ := hR.1
  have hc : chk 9 (N 0) g = 0 := chk_0 (by decide +kernel)
  have em : (1688849860263936 : Int64) = eV (3, 0, 0, nI 0) := eV_mark
  by_cases hf : N 0 = 60
  · exact OJ_same hR 13 (by decide) (fun _ => c_arr rfl (by decide) (c_9o e8 hn hf)) (fun h => absurd hc h) (d_onStack rfl (by decide) (by decide) (d_9o e4 hn hf))
  · exact OJ_ops hR hc (by rw [← em]; exact c_arr rfl (by decide) (c_9 e8 hn (by omega))) (d_onStack rfl (by decide) (by decide) (d_9 e4 hn (by omega))) (RO_ans hR.1 (j := N 0) (Nat.le_refl _) rfl (by omega) rfl rfl (ok_mark) (ps_st rfl rfl rfl rfl))

theorem j_10 : OJ 10 f_X6_perform 33 := by
  intro N I L T U J S K g hR hg
  obtain ⟨hn, e8, e4, hO⟩ := hR.1
  have hc : chk 10 (N 0) g = 0 := chk_0 (by decide +kernel)
  have em : (1688849860263936 : Int64) = eV (3, 0, 0, nI 0) := eV_mark
  by_cases hf : N 0 = 60
  · exact OJ_same hR 13 (by decide) (fun _ => c_arr rfl (by decide) (c_10o e8 hn hf)) (fun h => absurd hc h) (d_onStack rfl (by decide) (by decide) (d_10o e4 hn hf))
  · exact OJ_ops hR hc (by rw [← em]; exact c_arr rfl (by decide) (c_10 e8 hn (by omega))) (d_onStack rfl (by decide) (by decide) (d_10 e4 hn (by omega))) (RO_ans hR.1 (j := N 0) (Nat.le_refl _) rfl (by omega) rfl rfl (ok_mark) (ps_st rfl rfl rfl rfl))

theorem j_13 : OJ 13 f_X6_perform 33 := by
  intro N I L T U J S K g hR hg
  obtain ⟨hn, e8, e4, hO⟩ := hR.1
  by_cases hu : N 0 < 2
  · have hc : chk 13 (N 0) g = 3 := chk_u (c := 2) (by decide +kernel) hu
    exact OJ_same hR 3 (by decide) (fun h => absurd (h.symm.trans hc) (by decide)) (fun _ => hc.symm) (d_twoNumbers rfl (by decide) (by decide) (d_13u e4 hn (by omega)))
  obtain ⟨u0, r0, o0⟩ := hg (N 0 - 1) (by omega)
  have v0 := ok_w0 o0
  obtain ⟨u1, r1, o1⟩ := hg (N 0 - 2) (by omega)
  have v1 := ok_w0 o1
  have hc : chk 13 (N 0) g = if tk 2 (g (N 0 - 1)) = true ∧ tk 2 (g (N 0 - 2)) = true then 0 else 4 := chk_2 (by decide +kernel) (by decide +kernel) (by decide +kernel) (by omega)
  by_cases k0 : (g (N 0 - 1)).1 = 1
  · by_cases k1 : (g (N 0 - 2)).1 = 1
    · rw [if_pos ⟨(tk_2 v0).mpr k0, (tk_2 v1).mpr k1⟩] at hc
      exact OJ_ops hR hc (c_calc rfl (by decide) (by decide) (s_numV e8 hn (i_lit 1) (by omega) u1 (by omega)) (s_numV e8 hn (i_lit 0) (by omega) u0 (by omega)) (c_13 e8 hn (by omega))) (d_twoNumbers rfl (by decide) (by decide) (d_13 e4 hn r0 v0 r1 v1 (by omega) k0 k1)) (RO_ans hR.1 (j := N 0 - 2) (by omega) rfl (by omega) rfl rfl (ok_num _) (ps_st rfl rfl rfl rfl))
    · rw [if_neg (fun h => k1 ((tk_2 v1).mp h.2))] at hc
      exact OJ_same hR 4 (by decide) (fun h => absurd (h.symm.trans hc) (by decide)) (fun _ => hc.symm) (d_twoNumbers rfl (by decide) (by decide) (d_13tb e4 hn r0 v0 r1 v1 (by omega) k0 k1))
  · rw [if_neg (fun h => k0 ((tk_2 v0).mp h.1))] at hc
    exact OJ_same hR 4 (by decide) (fun h => absurd (h.symm.trans hc) (by decide)) (fun _ => hc.symm) (d_twoNumbers rfl (by decide) (by decide) (d_13ta e4 hn r0 v0 r1 v1 (by omega) k0))

theorem j_14 : OJ 14 f_X6_perform 33 := by
  intro N I L T U J S K g hR hg
  obtain ⟨hn, e8, e4, hO⟩ := hR.1
  by_cases hu : N 0 < 2
  · have hc : chk 14 (N 0) g = 3 := chk_u (c := 2) (by decide +kernel) hu
    exact OJ_same hR 3 (by decide) (fun h => absurd (h.symm.trans hc) (by decide)) (fun _ => hc.symm) (d_twoNumbers rfl (by decide) (by decide) (d_14u e4 hn (by omega)))
  obtain ⟨u0, r0, o0⟩ := hg (N 0 - 1) (by omega)
  have v0 := ok_w0 o0
  obtain ⟨u1, r1, o1⟩ := hg (N 0 - 2) (by omega)
  have v1 := ok_w0 o1
  have hc : chk 14 (N 0) g = if tk 2 (g (N 0 - 1)) = true ∧ tk 2 (g (N 0 - 2)) = true then 0 else 4 := chk_2 (by decide +kernel) (by decide +kernel) (by decide +kernel) (by omega)
  by_cases k0 : (g (N 0 - 1)).1 = 1
  · by_cases k1 : (g (N 0 - 2)).1 = 1
    · rw [if_pos ⟨(tk_2 v0).mpr k0, (tk_2 v1).mpr k1⟩] at hc
      exact OJ_ops hR hc (c_calc rfl (by decide) (by decide) (s_numV e8 hn (i_lit 1) (by omega) u1 (by omega)) (s_numV e8 hn (i_lit 0) (by omega) u0 (by omega)) (c_14 e8 hn (by omega))) (d_twoNumbers rfl (by decide) (by decide) (d_14 e4 hn r0 v0 r1 v1 (by omega) k0 k1)) (RO_ans hR.1 (j := N 0 - 2) (by omega) rfl (by omega) rfl rfl (ok_num _) (ps_st rfl rfl rfl rfl))
    · rw [if_neg (fun h => k1 ((tk_2 v1).mp h.2))] at hc
      exact OJ_same hR 4 (by decide) (fun h => absurd (h.symm.trans hc) (by decide)) (fun _ => hc.symm) (d_twoNumbers rfl (by decide) (by decide) (d_14tb e4 hn r0 v0 r1 v1 (by omega) k0 k1))
  · rw [if_neg (fun h => k0 ((tk_2 v0).mp h.1))] at hc
    exact OJ_same hR 4 (by decide) (fun h => absurd (h.symm.trans hc) (by decide)) (fun _ => hc.symm) (d_twoNumbers rfl (by decide) (by decide) (d_14ta e4 hn r0 v0 r1 v1 (by omega) k0))

theorem j_15 : OJ 15 f_X6_perform 33 := by
  intro N I L T U J S K g hR hg
  obtain ⟨hn, e8, e4, hO⟩ := hR.1
  by_cases hu : N 0 < 2
  · have hc : chk 15 (N 0) g = 3 := chk_u (c := 2) (by decide +kernel) hu
    exact OJ_same hR 3 (by decide) (fun h => absurd (h.symm.trans hc) (by decide)) (fun _ => hc.symm) (d_twoNumbers rfl (by decide) (by decide) (d_15u e4 hn (by omega)))
  obtain ⟨u0, r0, o0⟩ := hg (N 0 - 1) (by omega)
  have v0 := ok_w0 o0
  obtain ⟨u1, r1, o1⟩ := hg (N 0 - 2) (by omega)
  have v1 := ok_w0 o1
  have hc : chk 15 (N 0) g = if tk 2 (g (N 0 - 1)) = true ∧ tk 2 (g (N 0 - 2)) = true then 0 else 4 := chk_2 (by decide +kernel) (by decide +kernel) (by decide +kernel) (by omega)
  by_cases k0 : (g (N 0 - 1)).1 = 1
  · by_cases k1 : (g (N 0 - 2)).1 = 1
    · rw [if_pos ⟨(tk_2 v0).mpr k0, (tk_2 v1).mpr k1⟩] at hc
      exact OJ_ops hR hc (c_calc rfl (by decide) (by decide) (s_numV e8 hn (i_lit 1) (by omega) u1 (by omega)) (s_numV e8 hn (i_lit 0) (by omega) u0 (by omega)) (c_15 e8 hn (by omega))) (d_twoNumbers rfl (by decide) (by decide) (d_15 e4 hn r0 v0 r1 v1 (by omega) k0 k1)) (RO_ans hR.1 (j := N 0 - 2) (by omega) rfl (by omega) rfl rfl (ok_num _) (ps_st rfl rfl rfl rfl))
    · rw [if_neg (fun h => k1 ((tk_2 v1).mp h.2))] at hc
      exact OJ_same hR 4 (by decide) (fun h => absurd (h.symm.trans hc) (by decide)) (fun _ => hc.symm) (d_twoNumbers rfl (by decide) (by decide) (d_15tb e4 hn r0 v0 r1 v1 (by omega) k0 k1))
  · rw [if_neg (fun h => k0 ((tk_2 v0).mp h.1))] at hc
    exact OJ_same hR 4 (by decide) (fun h => absurd (h.symm.trans hc) (by decide)) (fun _ => hc.symm) (d_twoNumbers rfl (by decide) (by decide) (d_15ta e4 hn r0 v0 r1 v1 (by omega) k0))

theorem j_16 : OJ 16 f_X6_perform 33 := by
  intro N I L T U J S K g hR hg
  obtain ⟨hn, e8, e4, hO⟩ := hR.1
  by_cases hu : N 0 < 2
  · have hc : chk 16 (N 0) g = 3 := chk_u (c := 2) (by decide +kernel) hu
    exact OJ_same hR 3 (by decide) (fun h => absurd (h.symm.trans hc) (by decide)) (fun _ => hc.symm) (d_twoNumbers rfl (by decide) (by decide) (d_16u e4 hn (by omega)))
  obtain ⟨u0, r0, o0⟩ := hg (N 0 - 1) (by omega)
  have v0 := ok_w0 o0
  obtain ⟨u1, r1, o1⟩ := hg (N 0 - 2) (by omega)
  have v1 := ok_w0 o1
  have hc : chk 16 (N 0) g = if tk 2 (g (N 0 - 1)) = true ∧ tk 2 (g (N 0 - 2)) = true then 0 else 4 := chk_2 (by decide +kernel) (by decide +kernel) (by decide +kernel) (by omega)
  by_cases k0 : (g (N 0 - 1)).1 = 1
  · by_cases k1 : (g (N 0 - 2)).1 = 1
    · rw [if_pos ⟨(tk_2 v0).mpr k0, (tk_2 v1).mpr k1⟩] at hc
      by_cases hz : (g (N 0 - 1)).2.2.2 = 0
      · exact OJ_same hR 7 (by decide) (fun _ => c_calc rfl (by decide) (by decide) (s_numV e8 hn (i_lit 1) (by omega) u1 (by omega)) (s_numV e8 hn (i_lit 0) (by omega) u0 (by omega)) (c_16z e8 hn hz)) (fun h => absurd hc h) (d_twoNumbers rfl (by decide) (by decide) (d_16z e4 hn r0 v0 r1 v1 (by omega) k0 k1 hz))
      · exact OJ_ops hR hc (c_calc rfl (by decide) (by decide) (s_numV e8 hn (i_lit 1) (by omega) u1 (by omega)) (s_numV e8 hn (i_lit 0) (by omega) u0 (by omega)) (c_16 e8 hn (by omega) hz)) (d_twoNumbers rfl (by decide) (by decide) (d_16 e4 hn r0 v0 r1 v1 (by omega) k0 k1 hz)) (RO_ans hR.1 (j := N 0 - 2) (by omega) rfl (by omega) rfl rfl (ok_num _) (ps_st rfl rfl rfl rfl))
    · rw [if_neg (fun h => k1 ((tk_2 v1).mp h.2))] at hc
      exact OJ_same hR 4 (by decide) (fun h => absurd (h.symm.trans hc) (by decide)) (fun _ => hc.symm) (d_twoNumbers rfl (by decide) (by decide) (d_16tb e4 hn r0 v0 r1 v1 (by omega) k0 k1))
  · rw [if_neg (fun h => k0 ((tk_2 v0).mp h.1))] at hc
    exact OJ_same hR 4 (by decide) (fun h => absurd (h.symm.trans hc) (by decide)) (fun _ => hc.symm) (d_twoNumbers rfl (by decide) (by decide) (d_16ta e4 hn r0 v0 r1 v1 (by omega) k0))

theorem j_17 : OJ 17 f_X6_perform 33 := by
  intro N I L T U J S K g hR hg
  obtain ⟨hn, e8, e4, hO⟩ := hR.1
  by_cases hu : N 0 < 2
  · have hc : chk 17 (N 0) g = 3 := chk_u (c := 2) (by decide +kernel) hu
    exact OJ_same hR 3 (by decide) (fun h => absurd (h.symm.trans hc) (by decide)) (fun _ => hc.symm) (d_twoNumbers rfl (by decide) (by decide) (d_17u e4 hn (by omega)))
  obtain ⟨u0, r0, o0⟩ := hg (N 0 - 1) (by omega)
  have v0 := ok_w0 o0
  obtain ⟨u1, r1, o1⟩ := hg (N 0 - 2) (by omega)
  have v1 := ok_w0 o1
  have hc : chk 17 (N 0) g = if tk 2 (g (N 0 - 1)) = true ∧ tk 2 (g (N 0 - 2)) = true then 0 else 4 := chk_2 (by decide +kernel) (by decide +kernel) (by decide +kernel) (by omega)
  by_cases k0 : (g (N 0 - 1)).1 = 1
  · by_cases k1 : (g (N 0 - 2)).1 = 1
    · rw [if_pos ⟨(tk_2 v0).mpr k0, (tk_2 v1).mpr k1⟩] at hc
      by_cases hz : (g (N 0 - 1)).2.2.2 = 0
      · exact OJ_same hR 7 (by decide) (fun _ => c_calc rfl (by decide) (by decide) (s_numV e8 hn (i_lit 1) (by omega) u1 (by omega)) (s_numV e8 hn (i_lit 0) (by omega) u0 (by omega)) (c_17z e8 hn hz)) (fun h => absurd hc h) (d_twoNumbers rfl (by decide) (by decide) (d_17z e4 hn r0 v0 r1 v1 (by omega) k0 k1 hz))
      · exact OJ_ops hR hc (c_calc rfl (by decide) (by decide) (s_numV e8 hn (i_lit 1) (by omega) u1 (by omega)) (s_numV e8 hn (i_lit 0) (by omega) u0 (by omega)) (c_17 e8 hn (by omega) hz)) (d_twoNumbers rfl (by decide) (by decide) (d_17 e4 hn r0 v0 r1 v1 (by omega) k0 k1 hz)) (RO_ans hR.1 (j := N 0 - 2) (by omega) rfl (by omega) rfl rfl (ok_num _) (ps_st rfl rfl rfl rfl))
    · rw [if_neg (fun h => k1 ((tk_2 v1).mp h.2))] at hc
      exact OJ_same hR 4 (by decide) (fun h => absurd (h.symm.trans hc) (by decide)) (fun _ => hc.symm) (d_twoNumbers rfl (by decide) (by decide) (d_17tb e4 hn r0 v0 r1 v1 (by omega) k0 k1))
  · rw [if_neg (fun h => k0 ((tk_2 v0).mp h.1))] at hc
    exact OJ_same hR 4 (by decide) (fun h => absurd (h.symm.trans hc) (by decide)) (fun _ => hc.symm) (d_twoNumbers rfl (by decide) (by decide) (d_17ta e4 hn r0 v0 r1 v1 (by omega) k0))

theorem j_18 : OJ 18 f_X6_perform 33 := by
  intro N I L T U J S K g hR hg
  obtain ⟨hn, e8, e4, hO⟩ := hR.1
  by_cases hu : N 0 < 1
  · have hc : chk 18 (N 0) g = 3 := chk_u (c := 1) (by decide +kernel) hu
    exact OJ_same hR 3 (by decide) (fun h => absurd (h.symm.trans hc) (by decide)) (fun _ => hc.symm) (d_oneNumber rfl (by decide) (by decide) (d_18u e4 hn (by omega)))
  obtain ⟨u0, r0, o0⟩ := hg (N 0 - 1) (by omega)
  have v0 := ok_w0 o0
  have hc : chk 18 (N 0) g = if tk 2 (g (N 0 - 1)) = true then 0 else 4 := chk_1 (by decide +kernel) (by decide +kernel) (by omega)
  have n1 : ∃ x, f_X5_numberAt (wc I L T U) [.ref 16, .int 1] = some (some (.int x), wc I L T U) := by
    by_cases h1 : 1 < N 0
    · exact ⟨_, s_numberAt e8 hn (i_lit 1) h1⟩
    · exact ⟨_, s_numO e8 hn (i_lit 1) h1 (by decide)⟩
  obtain ⟨x, n1⟩ := n1
  by_cases k0 : (g (N 0 - 1)).1 = 1
  · rw [if_pos ((tk_2 v0).mpr k0)] at hc
    exact OJ_ops hR hc (c_calc rfl (by decide) (by decide) n1 (s_numV e8 hn (i_lit 0) (by omega) u0 (by omega)) (c_18 e8 hn (by omega))) (d_oneNumber rfl (by decide) (by decide) (d_18 e4 hn r0 v0 (by omega) k0)) (RO_ans hR.1 (j := N 0 - 1) (by omega) rfl (by omega) rfl rfl (ok_num _) (ps_st rfl rfl rfl rfl))
  · rw [if_neg (fun h => k0 ((tk_2 v0).mp h))] at hc
    exact OJ_same hR 4 (by decide) (fun h => absurd (h.symm.trans hc) (by decide)) (fun _ => hc.symm) (d_oneNumber rfl (by decide) (by decide) (d_18t e4 hn r0 v0 (by omega) k0))

theorem j_19 : OJ 19 f_X6_perform 33 := by
  intro N I L T U J S K g hR hg
  obtain ⟨hn, e8, e4, hO⟩ := hR.1
  by_cases hu : N 0 < 1
  · have hc : chk 19 (N 0) g = 3 := chk_u (c := 1) (by decide +kernel) hu
    exact OJ_same hR 3 (by decide) (fun h => absurd (h.symm.trans hc) (by decide)) (fun _ => hc.symm) (d_oneNumber rfl (by decide) (by decide) (d_19u e4 hn (by omega)))
  obtain ⟨u0, r0, o0⟩ := hg (N 0 - 1) (by omega)
  have v0 := ok_w0 o0
  have hc : chk 19 (N 0) g = if tk 2 (g (N 0 - 1)) = true then 0 else 4 := chk_1 (by decide +kernel) (by decide +kernel) (by omega)
  have n1 : ∃ x, f_X5_numberAt (wc I L T U) [.ref 16, .int 1] = some (some (.int x), wc I L T U) := by
    by_cases h1 : 1 < N 0
    · exact ⟨_, s_numberAt e8 hn (i_lit 1) h1⟩
    · exact ⟨_, s_numO e8 hn (i_lit 1) h1 (by decide)⟩
  obtain ⟨x, n1⟩ := n1
  by_cases k0 : (g (N 0 - 1)).1 = 1
  · rw [if_pos ((tk_2 v0).mpr k0)] at hc
    by_cases hv : 0 ≤ (g (N 0 - 1)).2.2.2
    · exact OJ_ops hR hc (c_calc rfl (by decide) (by decide) n1 (s_numV e8 hn (i_lit 0) (by omega) u0 (by omega)) (c_19b e8 hn (by omega) hv)) (d_oneNumber rfl (by decide) (by decide) (d_19b e4 hn r0 v0 (by omega) k0 hv)) (RO_ans hR.1 (j := N 0 - 1) (by omega) rfl (by omega) rfl rfl (ok_num _) (ps_st rfl rfl rfl rfl))
    · exact OJ_ops hR hc (c_calc rfl (by decide) (by decide) n1 (s_numV e8 hn (i_lit 0) (by omega) u0 (by omega)) (c_19a e8 hn (by omega) hv)) (d_oneNumber rfl (by decide) (by decide) (d_19a e4 hn r0 v0 (by omega) k0 hv)) (RO_ans hR.1 (j := N 0 - 1) (by omega) rfl (by omega) rfl rfl (ok_num _) (ps_st rfl rfl rfl rfl))
  · rw [if_neg (fun h => k0 ((tk_2 v0).mp h))] at hc
    exact OJ_same hR 4 (by decide) (fun h => absurd (h.symm.trans hc) (by decide)) (fun _ => hc.symm) (d_oneNumber rfl (by decide) (by decide) (d_19t e4 hn r0 v0 (by omega) k0))

theorem j_30 : OJ 30 f_X6_perform 33 := by
  intro N I L T U J S K g hR hg
  obtain ⟨hn, e8, e4, hO⟩ := hR.1
  have hc : chk 30 (N 0) g = 0 := chk_0 (by decide +kernel)
  have em : (1125899906842625 : Int64) = eV (2, 0, 0, nI 1) := eV_true
  by_cases hf : N 0 = 60
  · exact OJ_same hR 13 (by decide) (fun _ => c_30o e8 hn hf) (fun h => absurd hc h) (d_constant rfl (by decide) (by decide) (d_30o e4 hn hf))
  · exact OJ_ops hR hc (by rw [← em]; exact c_30 e8 hn (by omega)) (d_constant rfl (by decide) (by decide) (d_30 e4 hn (by omega))) (RO_ans hR.1 (j := N 0) (Nat.le_refl _) rfl (by omega) rfl rfl (ok_bool (by decide)) (ps_st rfl rfl rfl rfl))

theorem j_31 : OJ 31 f_X6_perform 33 := by
  intro N I L T U J S K g hR hg
  obtain ⟨hn, e8, e4, hO⟩ := hR.1
  have hc : chk 31 (N 0) g = 0 := chk_0 (by decide +kernel)
  have em : (1125899906842624 : Int64) = eV (2, 0, 0, nI 0) := eV_false
  by_cases hf : N 0 = 60
  · exact OJ_same hR 13 (by decide) (fun _ => c_31o e8 hn hf) (fun h => absurd hc h) (d_constant rfl (by decide) (by decide) (d_31o e4 hn hf))
  · exact OJ_ops hR hc (by rw [← em]; exact c_31 e8 hn (by omega)) (d_constant rfl (by decide) (by decide) (d_31 e4 hn (by omega))) (RO_ans hR.1 (j := N 0) (Nat.le_refl _) rfl (by omega) rfl rfl (ok_bool (by decide)) (ps_st rfl rfl rfl rfl))

theorem j_32 : OJ 32 f_X6_perform 33 := by
  intro N I L T U J S K g hR hg
  obtain ⟨hn, e8, e4, hO⟩ := hR.1
  have hc : chk 32 (N 0) g = 0 := chk_0 (by decide +kernel)
  have em : (0 : Int64) = eV (0, 0, 0, nI 0) := eV_0
  by_cases hf : N 0 = 60
  · exact OJ_same hR 13 (by decide) (fun _ => c_32o e8 hn hf) (fun h => absurd hc h) (d_constant rfl (by decide) (by decide) (d_32o e4 hn hf))
  · exact OJ_ops hR hc (by rw [← em]; exact c_32 e8 hn (by omega)) (d_constant rfl (by decide) (by decide) (d_32 e4 hn (by omega))) (RO_ans hR.1 (j := N 0) (Nat.le_refl _) rfl (by omega) rfl rfl (ok_null) (ps_st rfl rfl rfl rfl))

theorem j_71 : OJ 71 f_X6_perform 33 := by
  intro N I L T U J S K g hR hg
  obtain ⟨hn, e8, e4, hO⟩ := hR.1
  by_cases hu : N 0 < 1
  · have hc : chk 71 (N 0) g = 3 := chk_u (c := 1) (by decide +kernel) hu
    exact OJ_same hR 3 (by decide) (fun h => absurd (h.symm.trans hc) (by decide)) (fun _ => hc.symm) (d_tell rfl (by decide) (by decide) (d_71u e4 hn (by omega)))
  obtain ⟨u0, r0, o0⟩ := hg (N 0 - 1) (by omega)
  have v0 := ok_w0 o0
  have hc : chk 71 (N 0) g = if tk 1 (g (N 0 - 1)) = true then 0 else 4 := chk_1 (by decide +kernel) (by decide +kernel) (by omega)
  rw [if_pos (tk_1 v0)] at hc
  have q0 := v0.1
  have hm := hR.2.2.2.2.1.1
  exact OJ_ops hR hc (c_71 e8 hn u0 v0 (by omega)) (d_tell rfl (by decide) (by decide) (d_71 e4 hn r0 v0 (by omega))) (RO_ans hR.1 (j := N 0 - 1) (by omega) rfl (by omega) rfl rfl (ok_name (by decide) (by omega) (by omega)) (ps_st rfl rfl rfl rfl))

theorem j_70 : OJ 70 f_X6_perform 33 := by
  intro N I L T U J S K g hR hg
  obtain ⟨hn, e8, e4, hO⟩ := hR.1
  by_cases hu : N 0 < 1
  · have hc : chk 70 (N 0) g = 3 := chk_u (c := 1) (by decide +kernel) hu
    exact OJ_same hR 3 (by decide) (fun h => absurd (h.symm.trans hc) (by decide)) (fun _ => hc.symm) (d_tell rfl (by decide) (by decide) (d_70u e4 hn (by omega)))
  obtain ⟨u0, r0, o0⟩ := hg (N 0 - 1) (by omega)
  have v0 := ok_w0 o0
  have hc : chk 70 (N 0) g = if tk 1 (g (N 0 - 1)) = true then 0 else 4 := chk_1 (by decide +kernel) (by decide +kernel) (by omega)
  rw [if_pos (tk_1 v0)] at hc
  have q0 := v0.2.1
  by_cases hx : (g (N 0 - 1)).2.1 = 1
  · exact OJ_ops hR hc (by have q7 := c_70 (L := L) (T := T) e8 hn u0 v0 (by omega); rw [hx] at q7; exact q7) (d_tell rfl (by decide) (by decide) (d_70_1 e4 hn r0 v0 (by omega) hx)) (RO_ans hR.1 (j := N 0 - 1) (by omega) rfl (by omega) rfl rfl (ok_bool (b := 1) (by decide)) (ps_st rfl rfl rfl rfl))
  · have hx : (g (N 0 - 1)).2.1 = 0 := by omega
    exact OJ_ops hR hc (by have q7 := c_70 (L := L) (T := T) e8 hn u0 v0 (by omega); rw [hx] at q7; exact q7) (d_tell rfl (by decide) (by decide) (d_70_0 e4 hn r0 v0 (by omega) hx)) (RO_ans hR.1 (j := N 0 - 1) (by omega) rfl (by omega) rfl rfl (ok_bool (b := 0) (by decide)) (ps_st rfl rfl rfl rfl))

theorem last_or (P : Nat → Prop) : ∀ n, (∃ j, j < n ∧ P j ∧ ∀ i, j < i → i < n → ¬ P i) ∨ (∀ i, i < n → ¬ P i) := by
  intro n
  induction n with
  | zero => exact .inr (fun i hi => absurd hi (by omega))
  | succ n ih =>
    by_cases h : P n
    · exact .inl ⟨n, by omega, h, fun i h1 h2 => absurd h1 (by omega)⟩
    · rcases ih with ⟨j, h1, h2, h3⟩ | h1
      · refine .inl ⟨j, by omega, h2, fun i q1 q2 => ?_⟩
        by_cases e : i = n
        · rw [e]
          exact h
        · exact h3 i q1 (by omega)
      · refine .inr (fun i hi => ?_)
        by_cases e : i = n
        · rw [e]
          exact h
        · exact h1 i (by omega)
theorem mk_no {N : Nat → Nat} {t : V} (h : ok N t) (hk : t.1 ≠ 3) : eV t ≠ 1688849860263936 := by
  intro e
  rw [eV_mark] at e
  have := eV_inj (ok_w0 h) ⟨by decide, by decide, by decide⟩ e
  exact hk (by rw [this])
theorem mk_top {N : Nat → Nat} {n : Nat} {I : Nat → Int32} {L : Nat → Int64} {T : Nat → Nat → Int32} {U : Nat → Nat → Int64} {J : Nat → Int32} {S : Nat → Nat → Int32} {K : Nat → Int64} {g : Nat → V} (e8 : I 8 = nI n) (e4 : J 4 = nI n) (hn : n ≤ 60) (hg : GG N n g (U 5) (S 1)) :
    (∃ j, j < n ∧ (g j).1 = 3 ∧ (∀ i, j < i → i < n → (g i).1 ≠ 3) ∧ f_X5_aboveMark (wc I L T U) [.ref 16] = some (some (.int (nI (n - 1 - j))), wc I L T U) ∧ f_X12_topMark (wr J S K) [.ref 0] = some (some (.int (nI j)), wr J S K)) ∨
    (f_X5_aboveMark (wc I L T U) [.ref 16] = some (some (.int (Int32.ofInt (-1))), wc I L T U) ∧ f_X12_topMark (wr J S K) [.ref 0] = some (some (.int (Int32.ofInt (-1))), wr J S K)) := by
  rcases last_or (fun i => (g i).1 = 3) n with ⟨j, h1, h2, h3⟩ | h1
  · obtain ⟨a, b, c⟩ := hg j h1
    refine .inl ⟨j, h1, h2, h3, s_aboveMark1 e8 hn ?_ h1 (fun i q1 q2 => ?_), t_topMark1 e4 hn h1 ?_ (fun i q1 q2 => ?_)⟩
    · rw [a, ok_3 c h2]
      exact eV_mark.symm
    · obtain ⟨a, b, c⟩ := hg i q2
      rw [a]
      exact mk_no c (h3 i q1 q2)
    · rw [b.1, h2]
    · obtain ⟨a, b, c⟩ := hg i q2
      exact ⟨(g i).1, (ok_w0 c).1, h3 i q1 q2, b.1⟩
  · refine .inr ⟨s_aboveMark0 e8 hn (fun i q2 => ?_), t_topMark0 e4 hn (fun i q1 q2 => ?_)⟩
    · obtain ⟨a, b, c⟩ := hg i q2
      rw [a]
      exact mk_no c (h1 i q2)
    · obtain ⟨a, b, c⟩ := hg i q2
      exact ⟨(g i).1, (ok_w0 c).1, h1 i q2, b.1⟩
theorem j_11 : OJ 11 f_X6_perform 33 := by
  intro N I L T U J S K g hR hg
  obtain ⟨hn, e8, e4, hO⟩ := hR.1
  have hc : chk 11 (N 0) g = 0 := chk_0 (by decide +kernel)
  rcases mk_top (L := L) (T := T) (K := K) e8 e4 hn hg with ⟨j, h1, h2, h3, h4, h5⟩ | ⟨h4, h5⟩
  · exact OJ_cnt (n' := j) hR hc (c_arr rfl (by decide) (c_11 (c_11a e8 hn (by omega) h4))) (d_onStack rfl (by decide) (by decide) (d_11 e4 hn h1 h5)) (by omega) (congrArg nI (by omega)) rfl
  · exact OJ_same hR 8 (by decide) (fun _ => c_arr rfl (by decide) (c_11 (c_11b e8 hn h4))) (fun h => absurd hc h) (d_onStack rfl (by decide) (by decide) (d_11m e4 hn h5))

theorem j_12 : OJ 12 f_X6_perform 33 := by
  intro N I L T U J S K g hR hg
  obtain ⟨hn, e8, e4, hO⟩ := hR.1
  have hc : chk 12 (N 0) g = 0 := chk_0 (by decide +kernel)
  rcases mk_top (L := L) (T := T) (K := K) e8 e4 hn hg with ⟨j, h1, h2, h3, h4, h5⟩ | ⟨h4, h5⟩
  · by_cases hf : N 0 = 60
    · exact OJ_same hR 13 (by decide) (fun _ => c_arr rfl (by decide) (c_12 (c_12o e8 hn (by omega) h4 hf))) (fun h => absurd hc h) (d_onStack rfl (by decide) (by decide) (d_12o e4 hn h1 h5 hf))
    · exact OJ_ops hR hc (c_arr rfl (by decide) (c_12 (c_12a e8 hn (by omega) h4 (by omega)))) (d_onStack rfl (by decide) (by decide) (d_12 e4 hn h1 h5 (by omega))) (RO_ans hR.1 (j := N 0) (Nat.le_refl _) rfl (by omega) rfl rfl (ok_num _) (ps_st rfl rfl rfl rfl))
  · exact OJ_same hR 8 (by decide) (fun _ => c_arr rfl (by decide) (c_12 (c_12b e8 hn h4))) (fun h => absurd hc h) (d_onStack rfl (by decide) (by decide) (d_12m e4 hn h5))

theorem j_4 : OJ 4 f_X6_perform 33 := by
  intro N I L T U J S K g hR hg
  obtain ⟨hn, e8, e4, hO⟩ := hR.1
  by_cases hu : N 0 < 1
  · have hc : chk 4 (N 0) g = 3 := chk_u (c := 1) (by decide +kernel) hu
    exact OJ_same hR 3 (by decide) (fun h => absurd (h.symm.trans hc) (by decide)) (fun _ => hc.symm) (d_onStack rfl (by decide) (by decide) (d_4 (d_4u e4 hn (by omega))))
  obtain ⟨u0, r0, o0⟩ := hg (N 0 - 1) (by omega)
  have v0 := ok_w0 o0
  have hc : chk 4 (N 0) g = if tk 2 (g (N 0 - 1)) = true then 0 else 4 := chk_1 (by decide +kernel) (by decide +kernel) (by omega)
  by_cases k0 : (g (N 0 - 1)).1 = 1
  · rw [if_pos ((tk_2 v0).mpr k0)] at hc
    by_cases hv : 0 ≤ (g (N 0 - 1)).2.2.2
    · obtain ⟨k, hb, ek⟩ := nI_of (x := (g (N 0 - 1)).2.2.2) (fun h => absurd hv (by rw [Int32.le_iff_toInt_le]; rw [Int32.lt_iff_toInt_lt] at h; omega))
      by_cases hu2 : k < N 0 - 1
      · obtain ⟨uk, rk, ok'⟩ := hg (N 0 - 1 - (k + 1)) (by omega)
        refine OJ_ops (n' := N 0 - 1 + 1) (y' := J 4) hR hc (c_arr rfl (by decide) (c_4x e8 hn u0 v0 (by omega) (c_4a e8 hn ek hb hu2 uk rfl))) (s' := cp5 (S 1) (N 0 - 1 - 1 - k) (S 1) (N 0 - 1)) ?_ ?_
        · rw [uI_self]
          exact d_onStack rfl (by decide) (by decide) (d_4 (d_4a e4 hn r0 v0 ek hb (by omega) k0 hu2))
        · exact RO_ans hR.1 (j := N 0 - 1) (by omega) rfl (by omega) rfl (e4.trans (congrArg nI (by omega))) ok' (ps_cp (by rw [show N 0 - 1 - 1 - k = N 0 - 1 - (k + 1) by omega]; exact rk))
      · exact OJ_same hR 3 (by decide) (fun _ => c_arr rfl (by decide) (c_4x e8 hn u0 v0 (by omega) (c_4u e8 hn ek hb (by omega) (by omega)))) (fun h => absurd hc h) (d_onStack rfl (by decide) (by decide) (d_4 (d_4v e4 hn r0 v0 ek hb (by omega) k0 (by omega))))
    · exact OJ_same hR 6 (by decide) (fun _ => c_arr rfl (by decide) (c_4x e8 hn u0 v0 (by omega) (c_4r e8 hn hv))) (fun h => absurd hc h) (d_onStack rfl (by decide) (by decide) (d_4 (d_4r e4 hn r0 v0 (by omega) k0 hv)))
  · rw [if_neg (fun h => k0 ((tk_2 v0).mp h))] at hc
    exact OJ_same hR 4 (by decide) (fun h => absurd (h.symm.trans hc) (by decide)) (fun _ => hc.symm) (d_onStack rfl (by decide) (by decide) (d_4 (d_4t e4 hn r0 v0 (by omega) k0)))

theorem j_3 : OJ 3 f_X6_perform 33 := by
  intro N I L T U J S K g hR hg
  obtain ⟨hn, e8, e4, hO⟩ := hR.1
  by_cases hu : N 0 < 1
  · have hc : chk 3 (N 0) g = 3 := chk_u (c := 1) (by decide +kernel) hu
    exact OJ_same hR 3 (by decide) (fun h => absurd (h.symm.trans hc) (by decide)) (fun _ => hc.symm) (d_onStack rfl (by decide) (by decide) (d_3 (d_3u e4 hn (by omega))))
  obtain ⟨u0, r0, o0⟩ := hg (N 0 - 1) (by omega)
  have v0 := ok_w0 o0
  have hc : chk 3 (N 0) g = if tk 2 (g (N 0 - 1)) = true then 0 else 4 := chk_1 (by decide +kernel) (by decide +kernel) (by omega)
  by_cases k0 : (g (N 0 - 1)).1 = 1
  · rw [if_pos ((tk_2 v0).mpr k0)] at hc
    by_cases hv : 0 ≤ (g (N 0 - 1)).2.2.2
    · obtain ⟨k, hb, ek⟩ := nI_of (x := (g (N 0 - 1)).2.2.2) (fun h => absurd hv (by rw [Int32.le_iff_toInt_le]; rw [Int32.lt_iff_toInt_lt] at h; omega))
      by_cases hu2 : k ≤ N 0 - 1
      · by_cases ho : N 0 - 1 + k ≤ 60
        · obtain ⟨f, q1, q2, q3⟩ := c_3 (L := L) (T := T) (U := U) e8 hn ek hb (by omega) hu2 ho
          obtain ⟨f', p1, p2, p3⟩ := d_3a (K := K) e4 hn r0 v0 ek hb (by omega) k0 hu2 ho
          refine OJ_ops (n' := N 0 - 1 + k) hR hc (c_arr rfl (by decide) (c_3x e8 hn u0 v0 (by omega) q1)) (d_onStack rfl (by decide) (by decide) (d_3 p1)) ⟨ho, rfl, rfl, fun i hi => ?_⟩
          by_cases c : i < N 0 - 1
          · obtain ⟨a, b, d⟩ := hg i (by omega)
            exact ⟨g i, (q2 i c).trans a, p2 i _ c b, d⟩
          · obtain ⟨x, rfl⟩ : ∃ x, i = N 0 - 1 + x := ⟨i - (N 0 - 1), by omega⟩
            obtain ⟨a, b, d⟩ := hg (N 0 - 1 - k + x) (by omega)
            exact ⟨_, (q3 x (by omega)).trans a, p3 x _ (by omega) b, d⟩
        · exact OJ_same hR 13 (by decide) (fun _ => c_arr rfl (by decide) (c_3x e8 hn u0 v0 (by omega) (c_3o e8 hn ek hb (by omega) hu2 (by omega)))) (fun h => absurd hc h) (d_onStack rfl (by decide) (by decide) (d_3 (d_3o e4 hn r0 v0 ek hb (by omega) k0 hu2 (by omega))))
      · exact OJ_same hR 3 (by decide) (fun _ => c_arr rfl (by decide) (c_3x e8 hn u0 v0 (by omega) (c_3u e8 hn ek hb (by omega) (by omega)))) (fun h => absurd hc h) (d_onStack rfl (by decide) (by decide) (d_3 (d_3v e4 hn r0 v0 ek hb (by omega) k0 (by omega))))
    · exact OJ_same hR 6 (by decide) (fun _ => c_arr rfl (by decide) (c_3x e8 hn u0 v0 (by omega) (c_3r e8 hn hv))) (fun h => absurd hc h) (d_onStack rfl (by decide) (by decide) (d_3 (d_3r e4 hn r0 v0 (by omega) k0 hv)))
  · rw [if_neg (fun h => k0 ((tk_2 v0).mp h))] at hc
    exact OJ_same hR 4 (by decide) (fun h => absurd (h.symm.trans hc) (by decide)) (fun _ => hc.symm) (d_onStack rfl (by decide) (by decide) (d_3 (d_3t e4 hn r0 v0 (by omega) k0)))

theorem bo_26 : ∀ b, b < 2 → ∀ c, c < 2 → (nI b &&& nI c = 1 ∨ (¬ (nI b &&& nI c = 1) ∧ nI b &&& nI c = nI 0)) := by decide +kernel
theorem j_26 : OJ 26 f_X6_perform 33 := by
  intro N I L T U J S K g hR hg
  obtain ⟨hn, e8, e4, hO⟩ := hR.1
  by_cases hu : N 0 < 2
  · have hc : chk 26 (N 0) g = 3 := chk_u (c := 2) (by decide +kernel) hu
    exact OJ_same hR 3 (by decide) (fun h => absurd (h.symm.trans hc) (by decide)) (fun _ => hc.symm) (d_logic rfl (by decide) (by decide) (d_26u e4 hn (by omega)))
  obtain ⟨u0, r0, o0⟩ := hg (N 0 - 1) (by omega)
  have v0 := ok_w0 o0
  obtain ⟨u1, r1, o1⟩ := hg (N 0 - 2) (by omega)
  have v1 := ok_w0 o1
  have hc : chk 26 (N 0) g = if tk 12 (g (N 0 - 1)) = true ∧ tk 12 (g (N 0 - 2)) = true then 0 else 4 := chk_2 (by decide +kernel) (by decide +kernel) (by decide +kernel) (by omega)
  by_cases a0 : (g (N 0 - 1)).1 = 1 ∨ (g (N 0 - 1)).1 = 2
  · by_cases a1 : (g (N 0 - 2)).1 = 1 ∨ (g (N 0 - 2)).1 = 2
    · rw [if_pos ⟨(tk_12 v0).mpr a0, (tk_12 v1).mpr a1⟩] at hc
      by_cases same : (g (N 0 - 2)).1 = (g (N 0 - 1)).1
      · rcases a0 with k0 | k0
        · have k1 : (g (N 0 - 2)).1 = 1 := same.trans k0
          exact OJ_ops hR hc (c_26 (c_26n e8 hn u0 v0 u1 v1 (by omega) k0 k1)) (d_logic rfl (by decide) (by decide) (d_26n e4 hn r0 v0 r1 v1 (by omega) k0 k1)) (RO_ans hR.1 (j := N 0 - 2) (by omega) rfl (by omega) rfl rfl (ok_num _) (ps_st rfl rfl rfl rfl))
        · have k1 : (g (N 0 - 2)).1 = 2 := same.trans k0
          obtain ⟨b0, hb0, eb0⟩ := ok_2 o0 k0
          obtain ⟨b1, hb1, eb1⟩ := ok_2 o1 k1
          have f0 : (g (N 0 - 1)).2.2.2 = nI b0 := by rw [eb0]
          have f1 : (g (N 0 - 2)).2.2.2 = nI b1 := by rw [eb1]
          rcases bo_26 b1 (by omega) b0 (by omega) with hv | ⟨hv, hw⟩
          · rw [← f0, ← f1] at hv
            exact OJ_ops hR hc (c_26 (c_26b1 e8 hn u0 v0 u1 v1 (by omega) k0 k1 hv)) (d_logic rfl (by decide) (by decide) (d_26b e4 hn r0 v0 r1 v1 (by omega) k0 k1)) (RO_ans hR.1 (j := N 0 - 2) (by omega) rfl (by omega) rfl rfl (ok_bool (b := 1) (by decide)) (ps_st rfl hv rfl rfl))
          · rw [← f0, ← f1] at hv hw
            exact OJ_ops hR hc (c_26 (c_26b0 e8 hn u0 v0 u1 v1 (by omega) k0 k1 hv)) (d_logic rfl (by decide) (by decide) (d_26b e4 hn r0 v0 r1 v1 (by omega) k0 k1)) (RO_ans hR.1 (j := N 0 - 2) (by omega) rfl (by omega) rfl rfl (ok_bool (b := 0) (by decide)) (ps_st rfl hw rfl rfl))
      · rcases a0 with k0 | k0
        · exact OJ_same hR 4 (by decide) (fun _ => c_26 (c_26t e8 hn u0 v0 u1 v1 (by omega) same)) (fun h => absurd hc h) (d_logic rfl (by decide) (by decide) (d_26tb e4 hn r0 v0 r1 v1 (by omega) k0 same))
        · exact OJ_same hR 4 (by decide) (fun _ => c_26 (c_26t e8 hn u0 v0 u1 v1 (by omega) same)) (fun h => absurd hc h) (d_logic rfl (by decide) (by decide) (d_26tc e4 hn r0 v0 r1 v1 (by omega) k0 same))
    · rw [if_neg (fun h => a1 ((tk_12 v1).mp h.2))] at hc
      have same : ¬ (g (N 0 - 2)).1 = (g (N 0 - 1)).1 := fun e => a1 (by rw [e]; exact a0)
      rcases a0 with k0 | k0
      · exact OJ_same hR 4 (by decide) (fun h => absurd (h.symm.trans hc) (by decide)) (fun _ => hc.symm) (d_logic rfl (by decide) (by decide) (d_26tb e4 hn r0 v0 r1 v1 (by omega) k0 same))
      · exact OJ_same hR 4 (by decide) (fun h => absurd (h.symm.trans hc) (by decide)) (fun _ => hc.symm) (d_logic rfl (by decide) (by decide) (d_26tc e4 hn r0 v0 r1 v1 (by omega) k0 same))
  · rw [if_neg (fun h => a0 ((tk_12 v0).mp h.1))] at hc
    exact OJ_same hR 4 (by decide) (fun h => absurd (h.symm.trans hc) (by decide)) (fun _ => hc.symm) (d_logic rfl (by decide) (by decide) (d_26ta e4 hn r0 v0 r1 v1 (by omega) (fun e => a0 (.inl e)) (fun e => a0 (.inr e))))

theorem bo_27 : ∀ b, b < 2 → ∀ c, c < 2 → (nI b ||| nI c = 1 ∨ (¬ (nI b ||| nI c = 1) ∧ nI b ||| nI c = nI 0)) := by decide +kernel
theorem j_27 : OJ 27 f_X6_perform 33 := by
  intro N I L T U J S K g hR hg
  obtain ⟨hn, e8, e4, hO⟩ := hR.1
  by_cases hu : N 0 < 2
  · have hc : chk 27 (N 0) g = 3 := chk_u (c := 2) (by decide +kernel) hu
    exact OJ_same hR 3 (by decide) (fun h => absurd (h.symm.trans hc) (by decide)) (fun _ => hc.symm) (d_logic rfl (by decide) (by decide) (d_27u e4 hn (by omega)))
  obtain ⟨u0, r0, o0⟩ := hg (N 0 - 1) (by omega)
  have v0 := ok_w0 o0
  obtain ⟨u1, r1, o1⟩ := hg (N 0 - 2) (by omega)
  have v1 := ok_w0 o1
  have hc : chk 27 (N 0) g = if tk 12 (g (N 0 - 1)) = true ∧ tk 12 (g (N 0 - 2)) = true then 0 else 4 := chk_2 (by decide +kernel) (by decide +kernel) (by decide +kernel) (by omega)
  by_cases a0 : (g (N 0 - 1)).1 = 1 ∨ (g (N 0 - 1)).1 = 2
  · by_cases a1 : (g (N 0 - 2)).1 = 1 ∨ (g (N 0 - 2)).1 = 2
    · rw [if_pos ⟨(tk_12 v0).mpr a0, (tk_12 v1).mpr a1⟩] at hc
      by_cases same : (g (N 0 - 2)).1 = (g (N 0 - 1)).1
      · rcases a0 with k0 | k0
        · have k1 : (g (N 0 - 2)).1 = 1 := same.trans k0
          exact OJ_ops hR hc (c_27 (c_27n e8 hn u0 v0 u1 v1 (by omega) k0 k1)) (d_logic rfl (by decide) (by decide) (d_27n e4 hn r0 v0 r1 v1 (by omega) k0 k1)) (RO_ans hR.1 (j := N 0 - 2) (by omega) rfl (by omega) rfl rfl (ok_num _) (ps_st rfl rfl rfl rfl))
        · have k1 : (g (N 0 - 2)).1 = 2 := same.trans k0
          obtain ⟨b0, hb0, eb0⟩ := ok_2 o0 k0
          obtain ⟨b1, hb1, eb1⟩ := ok_2 o1 k1
          have f0 : (g (N 0 - 1)).2.2.2 = nI b0 := by rw [eb0]
          have f1 : (g (N 0 - 2)).2.2.2 = nI b1 := by rw [eb1]
          rcases bo_27 b1 (by omega) b0 (by omega) with hv | ⟨hv, hw⟩
          · rw [← f0, ← f1] at hv
            exact OJ_ops hR hc (c_27 (c_27b1 e8 hn u0 v0 u1 v1 (by omega) k0 k1 hv)) (d_logic rfl (by decide) (by decide) (d_27b e4 hn r0 v0 r1 v1 (by omega) k0 k1)) (RO_ans hR.1 (j := N 0 - 2) (by omega) rfl (by omega) rfl rfl (ok_bool (b := 1) (by decide)) (ps_st rfl hv rfl rfl))
          · rw [← f0, ← f1] at hv hw
            exact OJ_ops hR hc (c_27 (c_27b0 e8 hn u0 v0 u1 v1 (by omega) k0 k1 hv)) (d_logic rfl (by decide) (by decide) (d_27b e4 hn r0 v0 r1 v1 (by omega) k0 k1)) (RO_ans hR.1 (j := N 0 - 2) (by omega) rfl (by omega) rfl rfl (ok_bool (b := 0) (by decide)) (ps_st rfl hw rfl rfl))
      · rcases a0 with k0 | k0
        · exact OJ_same hR 4 (by decide) (fun _ => c_27 (c_27t e8 hn u0 v0 u1 v1 (by omega) same)) (fun h => absurd hc h) (d_logic rfl (by decide) (by decide) (d_27tb e4 hn r0 v0 r1 v1 (by omega) k0 same))
        · exact OJ_same hR 4 (by decide) (fun _ => c_27 (c_27t e8 hn u0 v0 u1 v1 (by omega) same)) (fun h => absurd hc h) (d_logic rfl (by decide) (by decide) (d_27tc e4 hn r0 v0 r1 v1 (by omega) k0 same))
    · rw [if_neg (fun h => a1 ((tk_12 v1).mp h.2))] at hc
      have same : ¬ (g (N 0 - 2)).1 = (g (N 0 - 1)).1 := fun e => a1 (by rw [e]; exact a0)
      rcases a0 with k0 | k0
      · exact OJ_same hR 4 (by decide) (fun h => absurd (h.symm.trans hc) (by decide)) (fun _ => hc.symm) (d_logic rfl (by decide) (by decide) (d_27tb e4 hn r0 v0 r1 v1 (by omega) k0 same))
      · exact OJ_same hR 4 (by decide) (fun h => absurd (h.symm.trans hc) (by decide)) (fun _ => hc.symm) (d_logic rfl (by decide) (by decide) (d_27tc e4 hn r0 v0 r1 v1 (by omega) k0 same))
  · rw [if_neg (fun h => a0 ((tk_12 v0).mp h.1))] at hc
    exact OJ_same hR 4 (by decide) (fun h => absurd (h.symm.trans hc) (by decide)) (fun _ => hc.symm) (d_logic rfl (by decide) (by decide) (d_27ta e4 hn r0 v0 r1 v1 (by omega) (fun e => a0 (.inl e)) (fun e => a0 (.inr e))))

theorem bo_28 : ∀ b, b < 2 → ∀ c, c < 2 → (nI b ^^^ nI c = 1 ∨ (¬ (nI b ^^^ nI c = 1) ∧ nI b ^^^ nI c = nI 0)) := by decide +kernel
theorem j_28 : OJ 28 f_X6_perform 33 := by
  intro N I L T U J S K g hR hg
  obtain ⟨hn, e8, e4, hO⟩ := hR.1
  by_cases hu : N 0 < 2
  · have hc : chk 28 (N 0) g = 3 := chk_u (c := 2) (by decide +kernel) hu
    exact OJ_same hR 3 (by decide) (fun h => absurd (h.symm.trans hc) (by decide)) (fun _ => hc.symm) (d_logic rfl (by decide) (by decide) (d_28u e4 hn (by omega)))
  obtain ⟨u0, r0, o0⟩ := hg (N 0 - 1) (by omega)
  have v0 := ok_w0 o0
  obtain ⟨u1, r1, o1⟩ := hg (N 0 - 2) (by omega)
  have v1 := ok_w0 o1
  have hc : chk 28 (N 0) g = if tk 12 (g (N 0 - 1)) = true ∧ tk 12 (g (N 0 - 2)) = true then 0 else 4 := chk_2 (by decide +kernel) (by decide +kernel) (by decide +kernel) (by omega)
  by_cases a0 : (g (N 0 - 1)).1 = 1 ∨ (g (N 0 - 1)).1 = 2
  · by_cases a1 : (g (N 0 - 2)).1 = 1 ∨ (g (N 0 - 2)).1 = 2
    · rw [if_pos ⟨(tk_12 v0).mpr a0, (tk_12 v1).mpr a1⟩] at hc
      by_cases same : (g (N 0 - 2)).1 = (g (N 0 - 1)).1
      · rcases a0 with k0 | k0
        · have k1 : (g (N 0 - 2)).1 = 1 := same.trans k0
          exact OJ_ops hR hc (c_28 (c_28n e8 hn u0 v0 u1 v1 (by omega) k0 k1)) (d_logic rfl (by decide) (by decide) (d_28n e4 hn r0 v0 r1 v1 (by omega) k0 k1)) (RO_ans hR.1 (j := N 0 - 2) (by omega) rfl (by omega) rfl rfl (ok_num _) (ps_st rfl rfl rfl rfl))
        · have k1 : (g (N 0 - 2)).1 = 2 := same.trans k0
          obtain ⟨b0, hb0, eb0⟩ := ok_2 o0 k0
          obtain ⟨b1, hb1, eb1⟩ := ok_2 o1 k1
          have f0 : (g (N 0 - 1)).2.2.2 = nI b0 := by rw [eb0]
          have f1 : (g (N 0 - 2)).2.2.2 = nI b1 := by rw [eb1]
          rcases bo_28 b1 (by omega) b0 (by omega) with hv | ⟨hv, hw⟩
          · rw [← f0, ← f1] at hv
            exact OJ_ops hR hc (c_28 (c_28b1 e8 hn u0 v0 u1 v1 (by omega) k0 k1 hv)) (d_logic rfl (by decide) (by decide) (d_28b e4 hn r0 v0 r1 v1 (by omega) k0 k1)) (RO_ans hR.1 (j := N 0 - 2) (by omega) rfl (by omega) rfl rfl (ok_bool (b := 1) (by decide)) (ps_st rfl hv rfl rfl))
          · rw [← f0, ← f1] at hv hw
            exact OJ_ops hR hc (c_28 (c_28b0 e8 hn u0 v0 u1 v1 (by omega) k0 k1 hv)) (d_logic rfl (by decide) (by decide) (d_28b e4 hn r0 v0 r1 v1 (by omega) k0 k1)) (RO_ans hR.1 (j := N 0 - 2) (by omega) rfl (by omega) rfl rfl (ok_bool (b := 0) (by decide)) (ps_st rfl hw rfl rfl))
      · rcases a0 with k0 | k0
        · exact OJ_same hR 4 (by decide) (fun _ => c_28 (c_28t e8 hn u0 v0 u1 v1 (by omega) same)) (fun h => absurd hc h) (d_logic rfl (by decide) (by decide) (d_28tb e4 hn r0 v0 r1 v1 (by omega) k0 same))
        · exact OJ_same hR 4 (by decide) (fun _ => c_28 (c_28t e8 hn u0 v0 u1 v1 (by omega) same)) (fun h => absurd hc h) (d_logic rfl (by decide) (by decide) (d_28tc e4 hn r0 v0 r1 v1 (by omega) k0 same))
    · rw [if_neg (fun h => a1 ((tk_12 v1).mp h.2))] at hc
      have same : ¬ (g (N 0 - 2)).1 = (g (N 0 - 1)).1 := fun e => a1 (by rw [e]; exact a0)
      rcases a0 with k0 | k0
      · exact OJ_same hR 4 (by decide) (fun h => absurd (h.symm.trans hc) (by decide)) (fun _ => hc.symm) (d_logic rfl (by decide) (by decide) (d_28tb e4 hn r0 v0 r1 v1 (by omega) k0 same))
      · exact OJ_same hR 4 (by decide) (fun h => absurd (h.symm.trans hc) (by decide)) (fun _ => hc.symm) (d_logic rfl (by decide) (by decide) (d_28tc e4 hn r0 v0 r1 v1 (by omega) k0 same))
  · rw [if_neg (fun h => a0 ((tk_12 v0).mp h.1))] at hc
    exact OJ_same hR 4 (by decide) (fun h => absurd (h.symm.trans hc) (by decide)) (fun _ => hc.symm) (d_logic rfl (by decide) (by decide) (d_28ta e4 hn r0 v0 r1 v1 (by omega) (fun e => a0 (.inl e)) (fun e => a0 (.inr e))))

theorem j_29 : OJ 29 f_X6_perform 33 := by
  intro N I L T U J S K g hR hg
  obtain ⟨hn, e8, e4, hO⟩ := hR.1
  by_cases hu : N 0 < 1
  · have hc : chk 29 (N 0) g = 3 := chk_u (c := 1) (by decide +kernel) hu
    exact OJ_same hR 3 (by decide) (fun h => absurd (h.symm.trans hc) (by decide)) (fun _ => hc.symm) (d_logic rfl (by decide) (by decide) (d_29u e4 hn (by omega)))
  obtain ⟨u0, r0, o0⟩ := hg (N 0 - 1) (by omega)
  have v0 := ok_w0 o0
  have hc : chk 29 (N 0) g = if tk 12 (g (N 0 - 1)) = true then 0 else 4 := chk_1 (by decide +kernel) (by decide +kernel) (by omega)
  by_cases a0 : (g (N 0 - 1)).1 = 1 ∨ (g (N 0 - 1)).1 = 2
  · rw [if_pos ((tk_12 v0).mpr a0)] at hc
    rcases a0 with k0 | k0
    · exact OJ_ops hR hc (c_29 (c_29n e8 hn u0 v0 (by omega) k0)) (d_logic rfl (by decide) (by decide) (d_29n e4 hn r0 v0 (by omega) k0)) (RO_ans hR.1 (j := N 0 - 1) (by omega) rfl (by omega) rfl rfl (ok_num _) (ps_st rfl rfl rfl rfl))
    · obtain ⟨b0, hb0, eb0⟩ := ok_2 o0 k0
      have f0 : (g (N 0 - 1)).2.2.2 = nI b0 := by rw [eb0]
      rcases (show b0 = 0 ∨ b0 = 1 by omega) with e | e
      · rw [e] at f0
        exact OJ_ops hR hc (c_29 (c_29f e8 hn u0 v0 (by omega) k0 f0)) (d_logic rfl (by decide) (by decide) (d_29b e4 hn r0 v0 (by omega) k0)) (RO_ans hR.1 (j := N 0 - 1) (by omega) rfl (by omega) rfl rfl (ok_bool (b := 1) (by decide)) (ps_st rfl (by rw [f0]; rfl) rfl rfl))
      · rw [e] at f0
        have f1 : ¬ (g (N 0 - 1)).2.2.2 = 0 := by rw [f0]; decide
        exact OJ_ops hR hc (c_29 (c_29t e8 hn u0 v0 (by omega) k0 f1)) (d_logic rfl (by decide) (by decide) (d_29b e4 hn r0 v0 (by omega) k0)) (RO_ans hR.1 (j := N 0 - 1) (by omega) rfl (by omega) rfl rfl (ok_bool (b := 0) (by decide)) (ps_st rfl (by rw [f0]; rfl) rfl rfl))
  · rw [if_neg (fun h => a0 ((tk_12 v0).mp h))] at hc
    exact OJ_same hR 4 (by decide) (fun h => absurd (h.symm.trans hc) (by decide)) (fun _ => hc.symm) (d_logic rfl (by decide) (by decide) (d_29t e4 hn r0 v0 (by omega) (fun e => a0 (.inl e)) (fun e => a0 (.inr e))))

theorem j_68 : OJ 68 f_X6_perform 33 := by
  intro N I L T U J S K g hR hg
  obtain ⟨hn, e8, e4, hO⟩ := hR.1
  by_cases hu : N 0 < 1
  · have hc : chk 68 (N 0) g = 3 := chk_u (c := 1) (by decide +kernel) hu
    exact OJ_same hR 3 (by decide) (fun h => absurd (h.symm.trans hc) (by decide)) (fun _ => hc.symm) (d_tell rfl (by decide) (by decide) (d_68u e4 hn (by omega)))
  obtain ⟨u0, r0, o0⟩ := hg (N 0 - 1) (by omega)
  have v0 := ok_w0 o0
  have hc : chk 68 (N 0) g = if tk 1 (g (N 0 - 1)) = true then 0 else 4 := chk_1 (by decide +kernel) (by decide +kernel) (by omega)
  rw [if_pos (tk_1 v0)] at hc
  by_cases k4 : (g (N 0 - 1)).1 = 4
  · obtain ⟨x, j, h1, h2, h3, e⟩ := ok_4 o0 k4
    have ho : ok N ((g (N 0 - 1)).1, 1, (g (N 0 - 1)).2.2.1, (g (N 0 - 1)).2.2.2) := by rw [e]; exact ok_name (by decide) h2 h3
    exact OJ_ops (n' := N 0 - 1 + 1) (y' := J 4) hR hc (c_68 e8 hn (by omega) (c_68_4 e8 hn u0 v0 (by omega) k4)) (s' := upd (S 1) (5 * (N 0 - 1 - 0) + 2) 1) (by rw [uI_self]; exact d_tell rfl (by decide) (by decide) (d_68_4 e4 hn r0 v0 (by omega) k4)) (RO_ans hR.1 (j := N 0 - 1) (by omega) rfl (by omega) rfl (e4.trans (congrArg nI (by omega))) (ho) (ps_ex (e := 1) rfl r0))
  · by_cases k5 : (g (N 0 - 1)).1 = 5
    · obtain ⟨x, l, p, h1, h2, h3, e⟩ := ok_5 o0 k5
      have ho : ok N ((g (N 0 - 1)).1, 1, (g (N 0 - 1)).2.2.1, (g (N 0 - 1)).2.2.2) := by rw [e]; exact ok_arr (by decide) h2 h3
      exact OJ_ops (n' := N 0 - 1 + 1) (y' := J 4) hR hc (c_68 e8 hn (by omega) (c_68_5 e8 hn u0 v0 (by omega) k5)) (s' := upd (S 1) (5 * (N 0 - 1 - 0) + 2) 1) (by rw [uI_self]; exact d_tell rfl (by decide) (by decide) (d_68_5 e4 hn r0 v0 (by omega) k5)) (RO_ans hR.1 (j := N 0 - 1) (by omega) rfl (by omega) rfl (e4.trans (congrArg nI (by omega))) (ho) (ps_ex (e := 1) rfl r0))
    · exact OJ_ops (n' := N 0 - 1 + 1) (y' := J 4) (s' := S 1) hR hc (c_68 e8 hn (by omega) (c_68_x e8 hn u0 v0 (by omega) k4 k5)) (by rw [uI_self, uT_self]; exact d_tell rfl (by decide) (by decide) (d_68_x e4 hn r0 v0 (by omega) k4 k5)) (RO_ans hR.1 (j := N 0 - 1) (by omega) rfl (by omega) rfl (e4.trans (congrArg nI (by omega))) o0 ⟨r0, fun _ _ _ h => h⟩)
theorem j_69 : OJ 69 f_X6_perform 33 := by
  intro N I L T U J S K g hR hg
  obtain ⟨hn, e8, e4, hO⟩ := hR.1
  by_cases hu : N 0 < 1
  · have hc : chk 69 (N 0) g = 3 := chk_u (c := 1) (by decide +kernel) hu
    exact OJ_same hR 3 (by decide) (fun h => absurd (h.symm.trans hc) (by decide)) (fun _ => hc.symm) (d_tell rfl (by decide) (by decide) (d_69u e4 hn (by omega)))
  obtain ⟨u0, r0, o0⟩ := hg (N 0 - 1) (by omega)
  have v0 := ok_w0 o0
  have hc : chk 69 (N 0) g = if tk 1 (g (N 0 - 1)) = true then 0 else 4 := chk_1 (by decide +kernel) (by decide +kernel) (by omega)
  rw [if_pos (tk_1 v0)] at hc
  by_cases k4 : (g (N 0 - 1)).1 = 4
  · obtain ⟨x, j, h1, h2, h3, e⟩ := ok_4 o0 k4
    have ho : ok N ((g (N 0 - 1)).1, 0, (g (N 0 - 1)).2.2.1, (g (N 0 - 1)).2.2.2) := by rw [e]; exact ok_name (by decide) h2 h3
    exact OJ_ops (n' := N 0 - 1 + 1) (y' := J 4) hR hc (c_69 e8 hn (by omega) (c_69_4 e8 hn u0 v0 (by omega) k4)) (s' := upd (S 1) (5 * (N 0 - 1 - 0) + 2) 0) (by rw [uI_self]; exact d_tell rfl (by decide) (by decide) (d_69_4 e4 hn r0 v0 (by omega) k4)) (RO_ans hR.1 (j := N 0 - 1) (by omega) rfl (by omega) rfl (e4.trans (congrArg nI (by omega))) (ho) (ps_ex (e := 0) rfl r0))
  · by_cases k5 : (g (N 0 - 1)).1 = 5
    · obtain ⟨x, l, p, h1, h2, h3, e⟩ := ok_5 o0 k5
      have ho : ok N ((g (N 0 - 1)).1, 0, (g (N 0 - 1)).2.2.1, (g (N 0 - 1)).2.2.2) := by rw [e]; exact ok_arr (by decide) h2 h3
      exact OJ_ops (n' := N 0 - 1 + 1) (y' := J 4) hR hc (c_69 e8 hn (by omega) (c_69_5 e8 hn u0 v0 (by omega) k5)) (s' := upd (S 1) (5 * (N 0 - 1 - 0) + 2) 0) (by rw [uI_self]; exact d_tell rfl (by decide) (by decide) (d_69_5 e4 hn r0 v0 (by omega) k5)) (RO_ans hR.1 (j := N 0 - 1) (by omega) rfl (by omega) rfl (e4.trans (congrArg nI (by omega))) (ho) (ps_ex (e := 0) rfl r0))
    · exact OJ_ops (n' := N 0 - 1 + 1) (y' := J 4) (s' := S 1) hR hc (c_69 e8 hn (by omega) (c_69_x e8 hn u0 v0 (by omega) k4 k5)) (by rw [uI_self, uT_self]; exact d_tell rfl (by decide) (by decide) (d_69_x e4 hn r0 v0 (by omega) k4 k5)) (RO_ans hR.1 (j := N 0 - 1) (by omega) rfl (by omega) rfl (e4.trans (congrArg nI (by omega))) o0 ⟨r0, fun _ _ _ h => h⟩)
