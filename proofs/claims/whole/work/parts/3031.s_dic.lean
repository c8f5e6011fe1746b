set_option maxRecDepth 100000 in
theorem pd_X0_make_2 (I : Nat → Int32) (L : Nat → Int64) (T : Nat → Nat → Int32) (U : Nat → Nat → Int64) (a1 : Int32) (h1 : ¬ ((I 6) < 0)) (h2 : ¬ (20 ≤ (I 6))) (h3 : ¬ (a1 < 0)) (h4 : a1 ≤ ((Int16.toInt32 (Int16.ofInt 616)) - (I 5))) (h5 : ¬ ((I 6) < 0 ∨ 20 ≤ ((I 6) : Int32).toNatClampNeg)) : f_X0_make (wd I L T U) [.ref 9, .int a1] = some (some (.int (((I 6) + 1) - 1)), wd (uI (uI I 5 ((I 5) + a1)) 6 ((I 6) + 1)) L (uT (uT (uT T 3 (upd (T 3) ((I 6) : Int32).toNatClampNeg (I 5))) 4 (upd (T 4) ((I 6) : Int32).toNatClampNeg a1)) 5 (upd (T 5) ((I 6) : Int32).toNatClampNeg 0)) U) := rz_en 2 (by decide) rfl (ry_f h1 (ry_f h2 (ry_f h3 (ry_t h4 (ry_f h5 (ry_f h5 (ry_f h5 rfl)))))))
theorem sd_make {I : Nat → Int32} {L : Nat → Int64} {T : Nat → Nat → Int32} {U : Nat → Nat → Int64} {d p r : Nat} {a : Int32} (e6 : I 6 = nI d) (e5 : I 5 = nI p) (hd : d < 20) (ea : a = nI r) (hr : p + r ≤ 616) : f_X0_make (wd I L T U) [.ref 9, .int a] = some (some (.int (nI d)), wd (uI (uI I 5 (nI (p + r))) 6 (nI (d + 1))) L (uT (uT (uT T 3 (upd (T 3) d (nI p))) 4 (upd (T 4) d (nI r))) 5 (upd (T 5) d (nI 0))) U) := by
  (refine Eq.trans (pd_X0_make_2 _ _ _ _ _ (by first | with_reducible assumption | (simp (disch := omega) only [e6, e5, ea, i_lit, i_m1, pk_sub, nI_add, nI_ml, nI_ltI, nI_leI, nI_eq, nI_clamp, nI_l, lN_i, lg_nI, lg_geI, lg_leI, lg_gtI, lg_ltI, c16_160, c16_200, c16_255, c16_300, c16_600, c16_616, c16_1000, Nat.add_eq, vp_updL_at, upd_at, Nat.add_sub_cancel, Nat.add_zero, Nat.zero_add, Nat.sub_zero, uU_uU, uT_uT, uI_uI, uL_uL, uU_at, uT_at, uI_at, uL_at, uU_ne, uT_ne, uI_ne, uL_ne, uU_sw, uT_sw, uI_sw, uL_sw] <;> first | with_reducible assumption | omega) | omega | decide) (by first | with_reducible assumption | (simp (disch := omega) only [e6, e5, ea, i_lit, i_m1, pk_sub, nI_add, nI_ml, nI_ltI, nI_leI, nI_eq, nI_clamp, nI_l, lN_i, lg_nI, lg_geI, lg_leI, lg_gtI, lg_ltI, c16_160, c16_200, c16_255, c16_300, c16_600, c16_616, c16_1000, Nat.add_eq, vp_updL_at, upd_at, Nat.add_sub_cancel, Nat.add_zero, Nat.zero_add, Nat.sub_zero, uU_uU, uT_uT, uI_uI, uL_uL, uU_at, uT_at, uI_at, uL_at, uU_ne, uT_ne, uI_ne, uL_ne, uU_sw, uT_sw, uI_sw, uL_sw] <;> first | with_reducible assumption | omega) | omega | decide) (by first | with_reducible assumption | (simp (disch := omega) only [e6, e5, ea, i_lit, i_m1, pk_sub, nI_add, nI_ml, nI_ltI, nI_leI, nI_eq, nI_clamp, nI_l, lN_i, lg_nI, lg_geI, lg_leI, lg_gtI, lg_ltI, c16_160, c16_200, c16_255, c16_300, c16_600, c16_616, c16_1000, Nat.add_eq, vp_updL_at, upd_at, Nat.add_sub_cancel, Nat.add_zero, Nat.zero_add, Nat.sub_zero, uU_uU, uT_uT, uI_uI, uL_uL, uU_at, uT_at, uI_at, uL_at, uU_ne, uT_ne, uI_ne, uL_ne, uU_sw, uT_sw, uI_sw, uL_sw] <;> first | with_reducible assumption | omega) | omega | decide) (by first | with_reducible assumption | (simp (disch := omega) only [e6, e5, ea, i_lit, i_m1, pk_sub, nI_add, nI_ml, nI_ltI, nI_leI, nI_eq, nI_clamp, nI_l, lN_i, lg_nI, lg_geI, lg_leI, lg_gtI, lg_ltI, c16_160, c16_200, c16_255, c16_300, c16_600, c16_616, c16_1000, Nat.add_eq, vp_updL_at, upd_at, Nat.add_sub_cancel, Nat.add_zero, Nat.zero_add, Nat.sub_zero, uU_uU, uT_uT, uI_uI, uL_uL, uU_at, uT_at, uI_at, uL_at, uU_ne, uT_ne, uI_ne, uL_ne, uU_sw, uT_sw, uI_sw, uL_sw] <;> first | with_reducible assumption | omega) | omega | decide) (by first | with_reducible assumption | (simp (disch := omega) only [e6, e5, ea, i_lit, i_m1, pk_sub, nI_add, nI_ml, nI_ltI, nI_leI, nI_eq, nI_clamp, nI_l, lN_i, lg_nI, lg_geI, lg_leI, lg_gtI, lg_ltI, c16_160, c16_200, c16_255, c16_300, c16_600, c16_616, c16_1000, Nat.add_eq, vp_updL_at, upd_at, Nat.add_sub_cancel, Nat.add_zero, Nat.zero_add, Nat.sub_zero, uU_uU, uT_uT, uI_uI, uL_uL, uU_at, uT_at, uI_at, uL_at, uU_ne, uT_ne, uI_ne, uL_ne, uU_sw, uT_sw, uI_sw, uL_sw] <;> first | with_reducible assumption | omega) | omega | decide)) ?_; first | with_reducible rfl | (simp (disch := omega) only [e6, e5, ea, i_lit, i_m1, pk_sub, nI_add, nI_ml, nI_ltI, nI_leI, nI_eq, nI_clamp, nI_l, lN_i, lg_nI, lg_geI, lg_leI, lg_gtI, lg_ltI, c16_160, c16_200, c16_255, c16_300, c16_600, c16_616, c16_1000, Nat.add_sub_cancel]; done))
set_option maxRecDepth 100000 in
theorem pd_X0_begin_2 (I : Nat → Int32) (L : Nat → Int64) (T : Nat → Nat → Int32) (U : Nat → Nat → Int64) (a1 : Int32) (h1 : ¬ ((I 7) < 0)) (h2 : (I 7) < 10) (h3 : ¬ ((I 7) < 0 ∨ 10 ≤ ((I 7) : Int32).toNatClampNeg)) : f_X0_begin (wd I L T U) [.ref 9, .int a1] = some (some (.int 1), wd (uI I 7 ((I 7) + 1)) L (uT T 6 (upd (T 6) ((I 7) : Int32).toNatClampNeg a1)) U) := rz_en 2 (by decide) rfl (ry_f h1 (ry_t h2 (ry_f h3 (ry_t (c := (1 : Int32) = 0 ∨ (1 : Int32) = 1) (by decide) rfl))))
theorem sd_begin1 {I : Nat → Int32} {L : Nat → Int64} {T : Nat → Nat → Int32} {U : Nat → Nat → Int64} {h : Nat} {a : Int32} (e7 : I 7 = nI h) (hh : h < 10) : f_X0_begin (wd I L T U) [.ref 9, .int a] = some (some (.int 1), wd (uI I 7 (nI (h + 1))) L (uT T 6 (upd (T 6) h a)) U) := by
  (refine Eq.trans (pd_X0_begin_2 _ _ _ _ _ (by first | with_reducible assumption | (simp (disch := omega) only [e7, i_lit, i_m1, pk_sub, nI_add, nI_ml, nI_ltI, nI_leI, nI_eq, nI_clamp, nI_l, lN_i, lg_nI, lg_geI, lg_leI, lg_gtI, lg_ltI, c16_160, c16_200, c16_255, c16_300, c16_600, c16_616, c16_1000, Nat.add_eq, vp_updL_at, upd_at, Nat.add_sub_cancel, Nat.add_zero, Nat.zero_add, Nat.sub_zero, uU_uU, uT_uT, uI_uI, uL_uL, uU_at, uT_at, uI_at, uL_at, uU_ne, uT_ne, uI_ne, uL_ne, uU_sw, uT_sw, uI_sw, uL_sw] <;> first | with_reducible assumption | omega) | omega | decide) (by first | with_reducible assumption | (simp (disch := omega) only [e7, i_lit, i_m1, pk_sub, nI_add, nI_ml, nI_ltI, nI_leI, nI_eq, nI_clamp, nI_l, lN_i, lg_nI, lg_geI, lg_leI, lg_gtI, lg_ltI, c16_160, c16_200, c16_255, c16_300, c16_600, c16_616, c16_1000, Nat.add_eq, vp_updL_at, upd_at, Nat.add_sub_cancel, Nat.add_zero, Nat.zero_add, Nat.sub_zero, uU_uU, uT_uT, uI_uI, uL_uL, uU_at, uT_at, uI_at, uL_at, uU_ne, uT_ne, uI_ne, uL_ne, uU_sw, uT_sw, uI_sw, uL_sw] <;> first | with_reducible assumption | omega) | omega | decide) (by first | with_reducible assumption | (simp (disch := omega) only [e7, i_lit, i_m1, pk_sub, nI_add, nI_ml, nI_ltI, nI_leI, nI_eq, nI_clamp, nI_l, lN_i, lg_nI, lg_geI, lg_leI, lg_gtI, lg_ltI, c16_160, c16_200, c16_255, c16_300, c16_600, c16_616, c16_1000, Nat.add_eq, vp_updL_at, upd_at, Nat.add_sub_cancel, Nat.add_zero, Nat.zero_add, Nat.sub_zero, uU_uU, uT_uT, uI_uI, uL_uL, uU_at, uT_at, uI_at, uL_at, uU_ne, uT_ne, uI_ne, uL_ne, uU_sw, uT_sw, uI_sw, uL_sw] <;> first | with_reducible assumption | omega) | omega | decide)) ?_; first | with_reducible rfl | (simp (disch := omega) only [e7, i_lit, i_m1, pk_sub, nI_add, nI_ml, nI_ltI, nI_leI, nI_eq, nI_clamp, nI_l, lN_i, lg_nI, lg_geI, lg_leI, lg_gtI, lg_ltI, c16_160, c16_200, c16_255, c16_300, c16_600, c16_616, c16_1000]; done))
set_option maxRecDepth 100000 in
theorem pd_X0_forget_1 (F_X0_make : rx_F) (F_X0_begin : rx_F) (I : Nat → Int32) (L : Nat → Int64) (T : Nat → Nat → Int32) (U : Nat → Nat → Int64) (I_1 : Nat → Int32) (L_1 : Nat → Int64) (T_1 : Nat → Nat → Int32) (U_1 : Nat → Nat → Int64) (r1 : Int32) (I_2 : Nat → Int32) (L_2 : Nat → Int64) (T_2 : Nat → Nat → Int32) (U_2 : Nat → Nat → Int64) (r2 : Int32) (I_3 : Nat → Int32) (L_3 : Nat → Int64) (T_3 : Nat → Nat → Int32) (U_3 : Nat → Nat → Int64) (r3 : Int32) (I_4 : Nat → Int32) (L_4 : Nat → Int64) (T_4 : Nat → Nat → Int32) (U_4 : Nat → Nat → Int64) (r4 : Int32) (h1 : F_X0_make (wd (uI (uI I 6 0) 5 0) L T U) [.ref 9, .int 74] = some (some (.int r1), wd I_1 L_1 T_1 U_1)) (h2 : F_X0_make (wd I_1 L_1 T_1 U_1) [.ref 9, .int 20] = some (some (.int r2), wd I_2 L_2 T_2 U_2)) (h3 : F_X0_begin (wd (uI I_2 7 0) L_2 (uT T_2 5 (upd (T_2 5) (0 : Int32).toNatClampNeg 74)) U_2) [.ref 9, .int 0] = some (some (.int r3), wd I_3 L_3 T_3 U_3)) (h4 : F_X0_begin (wd I_3 L_3 T_3 U_3) [.ref 9, .int 1] = some (some (.int r4), wd I_4 L_4 T_4 U_4)) : fv_X0_forget F_X0_make F_X0_begin (wd I L T U) [.ref 9] = some (none, wd I_4 L_4 T_4 U_4) := rz_en 1 (by decide) rfl (ry_b (ry_w h1 rfl) (ry_b h2 (ry_f (c := (0 : Int32) < 0 ∨ 20 ≤ (0 : Int32).toNatClampNeg) (by decide) (ry_b (ry_w h3 rfl) (ry_b h4 rfl)))))
theorem sd_dfor {I : Nat → Int32} {L : Nat → Int64} {T : Nat → Nat → Int32} {U : Nat → Nat → Int64} : ∃ (I' : Nat → Int32) (T' : Nat → Nat → Int32), f_X0_forget (wd I L T U) [.ref 9] = some (none, wd I' L T' U) ∧ I' 5 = nI 94 ∧ I' 6 = nI 2 ∧ I' 7 = nI 2 ∧ (∀ x, x ≠ 5 → x ≠ 6 → x ≠ 7 → I' x = I x) ∧ T' 3 0 = nI 0 ∧ T' 3 1 = nI 74 ∧ T' 4 0 = nI 74 ∧ T' 4 1 = nI 20 ∧ T' 5 0 = nI 74 ∧ T' 5 1 = nI 0 ∧ T' 6 0 = nI 0 ∧ T' 6 1 = nI 1 ∧ (∀ k, k ≠ 3 → k ≠ 4 → k ≠ 5 → k ≠ 6 → T' k = T k) := by
  have h1 := sd_make (I := uI (uI I 6 0) 5 0) (L := L) (T := T) (U := U) (d := 0) (p := 0) (r := 74) (a := 74) rfl rfl (by decide) rfl (by decide)
  have h2 := sd_make (I := uI (uI (uI (uI I 6 0) 5 0) 5 (nI (0 + 74))) 6 (nI (0 + 1))) (L := L) (T := uT (uT (uT T 3 (upd (T 3) 0 (nI 0))) 4 (upd (T 4) 0 (nI 74))) 5 (upd (T 5) 0 (nI 0))) (U := U) (d := 1) (p := 74) (r := 20) (a := 20) rfl rfl (by decide) rfl (by decide)
  generalize eI : uI (uI (uI (uI (uI (uI I 6 0) 5 0) 5 (nI (0 + 74))) 6 (nI (0 + 1))) 5 (nI (74 + 20))) 6 (nI (1 + 1)) = I2 at h2
  generalize eT : uT (uT (uT (uT (uT (uT T 3 (upd (T 3) 0 (nI 0))) 4 (upd (T 4) 0 (nI 74))) 5 (upd (T 5) 0 (nI 0))) 3 _) 4 _) 5 _ = T2 at h2
  have h3 := sd_begin1 (I := uI I2 7 0) (L := L) (T := uT T2 5 (upd (T2 5) (0 : Int32).toNatClampNeg 74)) (U := U) (h := 0) (a := 0) rfl (by decide)
  have h4 := sd_begin1 (I := uI (uI I2 7 0) 7 (nI (0 + 1))) (L := L) (T := uT (uT T2 5 (upd (T2 5) (0 : Int32).toNatClampNeg 74)) 6 (upd (uT T2 5 (upd (T2 5) (0 : Int32).toNatClampNeg 74) 6) 0 0)) (U := U) (h := 1) (a := 1) rfl (by decide)
  refine ⟨_, _, by rw [fv_X0_forget_eq]; exact (pd_X0_forget_1 f_X0_make f_X0_begin _ _ _ _ _ _ _ _ _ _ _ _ _ _ _ _ _ _ _ _ _ _ _ _ (h1) (h2) (h3) (h4)), ?_, ?_, ?_, ?_, ?_, ?_, ?_, ?_, ?_, ?_, ?_, ?_, ?_⟩
  · subst eI
    rfl
  · subst eI
    rfl
  · rfl
  · intro x h5 h6 h7
    subst eI
    simp only [uI_ne _ _ h5, uI_ne _ _ h6, uI_ne _ _ h7]
  · subst eT
    rfl
  · subst eT
    rfl
  · subst eT
    rfl
  · subst eT
    rfl
  · subst eT
    rfl
  · subst eT
    rfl
  · rfl
  · rfl
  · intro k g3 g4 g5 g6
    subst eT
    simp only [uT_ne _ _ g3, uT_ne _ _ g4, uT_ne _ _ g5, uT_ne _ _ g6]
def ww_38 (I : Nat → Int32) (L : Nat → Int64) (U : Nat → Nat → Int64) (T : Nat → Nat → Int32) : rx_H := [.inr (10, [.ref 1, .ref 5, .null, .null, .null, .null]),
    .inr (4, [.ref 2, .ref 3, .ref 4, .int (I 0), .long (L 0), .long (L 1), .int (I 1)]),
    .inl (1, 160, .inr (.inl (U 0))),
    .inl (1, 160, .inr (.inl (U 1))),
    .inl (0, 160, .inl (T 0)),
    .inr (9, [.ref 6, .ref 7, .ref 8, .int (I 2), .int (I 3), .int (I 4)]),
    .inl (1, 600, .inr (.inl (U 2))),
    .inl (2, 600, .inl (T 1)),
    .inl (2, 1000, .inl (T 2)),
    .inr (0, [.null, .null, .null, .null, .null, .null, .int 0, .int 0, .int 0]),
    .inl (1, 616, .inr (.inl (fun _ => 0)))]
def ww_39 (I : Nat → Int32) (L : Nat → Int64) (U : Nat → Nat → Int64) (T : Nat → Nat → Int32) : rx_H := [.inr (10, [.ref 1, .ref 5, .null, .null, .null, .null]),
    .inr (4, [.ref 2, .ref 3, .ref 4, .int (I 0), .long (L 0), .long (L 1), .int (I 1)]),
    .inl (1, 160, .inr (.inl (U 0))),
    .inl (1, 160, .inr (.inl (U 1))),
    .inl (0, 160, .inl (T 0)),
    .inr (9, [.ref 6, .ref 7, .ref 8, .int (I 2), .int (I 3), .int (I 4)]),
    .inl (1, 600, .inr (.inl (U 2))),
    .inl (2, 600, .inl (T 1)),
    .inl (2, 1000, .inl (T 2)),
    .inr (0, [.ref 10, .null, .null, .null, .null, .null, .int 0, .int 0, .int 0]),
    .inl (1, 616, .inr (.inl (fun _ => 0))),
    .inl (1, 616, .inr (.inl (fun _ => 0)))]
def ww_40 (I : Nat → Int32) (L : Nat → Int64) (U : Nat → Nat → Int64) (T : Nat → Nat → Int32) : rx_H := [.inr (10, [.ref 1, .ref 5, .null, .null, .null, .null]),
    .inr (4, [.ref 2, .ref 3, .ref 4, .int (I 0), .long (L 0), .long (L 1), .int (I 1)]),
    .inl (1, 160, .inr (.inl (U 0))),
    .inl (1, 160, .inr (.inl (U 1))),
    .inl (0, 160, .inl (T 0)),
    .inr (9, [.ref 6, .ref 7, .ref 8, .int (I 2), .int (I 3), .int (I 4)]),
    .inl (1, 600, .inr (.inl (U 2))),
    .inl (2, 600, .inl (T 1)),
    .inl (2, 1000, .inl (T 2)),
    .inr (0, [.ref 10, .ref 11, .null, .null, .null, .null, .int 0, .int 0, .int 0]),
    .inl (1, 616, .inr (.inl (fun _ => 0))),
    .inl (1, 616, .inr (.inl (fun _ => 0))),
    .inl (0, 20, .inl (fun _ => 0))]
def ww_41 (I : Nat → Int32) (L : Nat → Int64) (U : Nat → Nat → Int64) (T : Nat → Nat → Int32) : rx_H := [.inr (10, [.ref 1, .ref 5, .null, .null, .null, .null]),
    .inr (4, [.ref 2, .ref 3, .ref 4, .int (I 0), .long (L 0), .long (L 1), .int (I 1)]),
    .inl (1, 160, .inr (.inl (U 0))),
    .inl (1, 160, .inr (.inl (U 1))),
    .inl (0, 160, .inl (T 0)),
    .inr (9, [.ref 6, .ref 7, .ref 8, .int (I 2), .int (I 3), .int (I 4)]),
    .inl (1, 600, .inr (.inl (U 2))),
    .inl (2, 600, .inl (T 1)),
    .inl (2, 1000, .inl (T 2)),
    .inr (0, [.ref 10, .ref 11, .ref 12, .null, .null, .null, .int 0, .int 0, .int 0]),
    .inl (1, 616, .inr (.inl (fun _ => 0))),
    .inl (1, 616, .inr (.inl (fun _ => 0))),
    .inl (0, 20, .inl (fun _ => 0)),
    .inl (0, 20, .inl (fun _ => 0))]
def ww_42 (I : Nat → Int32) (L : Nat → Int64) (U : Nat → Nat → Int64) (T : Nat → Nat → Int32) : rx_H := [.inr (10, [.ref 1, .ref 5, .null, .null, .null, .null]),
    .inr (4, [.ref 2, .ref 3, .ref 4, .int (I 0), .long (L 0), .long (L 1), .int (I 1)]),
    .inl (1, 160, .inr (.inl (U 0))),
    .inl (1, 160, .inr (.inl (U 1))),
    .inl (0, 160, .inl (T 0)),
    .inr (9, [.ref 6, .ref 7, .ref 8, .int (I 2), .int (I 3), .int (I 4)]),
    .inl (1, 600, .inr (.inl (U 2))),
    .inl (2, 600, .inl (T 1)),
    .inl (2, 1000, .inl (T 2)),
    .inr (0, [.ref 10, .ref 11, .ref 12, .ref 13, .null, .null, .int 0, .int 0, .int 0]),
    .inl (1, 616, .inr (.inl (fun _ => 0))),
    .inl (1, 616, .inr (.inl (fun _ => 0))),
    .inl (0, 20, .inl (fun _ => 0)),
    .inl (0, 20, .inl (fun _ => 0)),
    .inl (0, 20, .inl (fun _ => 0))]
def ww_43 (I : Nat → Int32) (L : Nat → Int64) (U : Nat → Nat → Int64) (T : Nat → Nat → Int32) : rx_H := [.inr (10, [.ref 1, .ref 5, .null, .null, .null, .null]),
    .inr (4, [.ref 2, .ref 3, .ref 4, .int (I 0), .long (L 0), .long (L 1), .int (I 1)]),
    .inl (1, 160, .inr (.inl (U 0))),
    .inl (1, 160, .inr (.inl (U 1))),
    .inl (0, 160, .inl (T 0)),
    .inr (9, [.ref 6, .ref 7, .ref 8, .int (I 2), .int (I 3), .int (I 4)]),
    .inl (1, 600, .inr (.inl (U 2))),
    .inl (2, 600, .inl (T 1)),
    .inl (2, 1000, .inl (T 2)),
    .inr (0, [.ref 10, .ref 11, .ref 12, .ref 13, .ref 14, .null, .int 0, .int 0, .int 0]),
    .inl (1, 616, .inr (.inl (fun _ => 0))),
    .inl (1, 616, .inr (.inl (fun _ => 0))),
    .inl (0, 20, .inl (fun _ => 0)),
    .inl (0, 20, .inl (fun _ => 0)),
    .inl (0, 20, .inl (fun _ => 0)),
    .inl (0, 10, .inl (fun _ => 0))]
def ww_44 (I : Nat → Int32) (L : Nat → Int64) (U : Nat → Nat → Int64) (T : Nat → Nat → Int32) : rx_H := [.inr (10, [.ref 1, .ref 5, .null, .null, .null, .null]),
    .inr (4, [.ref 2, .ref 3, .ref 4, .int (I 0), .long (L 0), .long (L 1), .int (I 1)]),
    .inl (1, 160, .inr (.inl (U 0))),
    .inl (1, 160, .inr (.inl (U 1))),
    .inl (0, 160, .inl (T 0)),
    .inr (9, [.ref 6, .ref 7, .ref 8, .int (I 2), .int (I 3), .int (I 4)]),
    .inl (1, 600, .inr (.inl (U 2))),
    .inl (2, 600, .inl (T 1)),
    .inl (2, 1000, .inl (T 2)),
    .inr (0, [.null, .null, .null, .null, .null, .null, .int 0, .int 0, .int 0])]
set_option maxRecDepth 100000 in
theorem i0_r (G_X0_forget : rx_F) (G_X10_literalName : rx_F) (G_X10_operator : rx_F) {I : Nat → Int32} {L : Nat → Int64} {T : Nat → Nat → Int32} {U : Nat → Nat → Int64} {n : Nat} {x : Int32} {a b : Int64} {rs : Option Value × rx_H} (h1 : ¬ 74 ≤ x) (hl : G_X10_literalName (wd I L T U) [.int x] = some (some (.long a), wd I L T U)) (hc : ¬ (x < 0 ∨ 616 ≤ x.toNatClampNeg)) (ho : G_X10_operator (wd I L T (uU U 3 (vp_updL (U 3) x.toNatClampNeg a))) [.int x] = some (some (.long b), wd I L T (uU U 3 (vp_updL (U 3) x.toNatClampNeg a)))) (hz : ry_run (rx_lkk kC_X0) (rx_lkf fL_X0) (rx_lkf fI_X0) (rx_lkg gS_X0) (rx_lkg fG_X0) (rx_lkw nW_X0) (rx_lkc [(40, (1, some 0, 0, 0, G_X0_forget))] [(31, (1, none, 0, 0, G_X10_literalName)), (37, (1, none, 0, 0, G_X10_operator))] [(5, (1, none, 0, 0, rx_F0))]) none 6 1302 kd_X0_init n 56 [(1, .int (x + 1)), (0, .ref 9)] [] (wd I L T (uU (uU U 3 (vp_updL (U 3) x.toNatClampNeg a)) 4 (vp_updL (U 4) x.toNatClampNeg b))) 6 1302 = some rs) : ry_run (rx_lkk kC_X0) (rx_lkf fL_X0) (rx_lkf fI_X0) (rx_lkg gS_X0) (rx_lkg fG_X0) (rx_lkw nW_X0) (rx_lkc [(40, (1, some 0, 0, 0, G_X0_forget))] [(31, (1, none, 0, 0, G_X10_literalName)), (37, (1, none, 0, 0, G_X10_operator))] [(5, (1, none, 0, 0, rx_F0))]) none 6 1302 kd_X0_init (n + 1) 56 [(1, .int x), (0, .ref 9)] [] (wd I L T U) 6 1302 = some rs := ry_f h1 (ry_b hl (ry_f hc (ry_b ho (ry_f hc hz))))
set_option maxRecDepth 100000 in
theorem i0_e (G_X0_forget : rx_F) (G_X10_literalName : rx_F) (G_X10_operator : rx_F) {I : Nat → Int32} {L : Nat → Int64} {T : Nat → Nat → Int32} {U : Nat → Nat → Int64} {I' : Nat → Int32} {L' : Nat → Int64} {T' : Nat → Nat → Int32} {U' : Nat → Nat → Int64} {n : Nat} {x : Int32} (h1 : 74 ≤ x) (hf : G_X0_forget (wd I L T U) [.ref 9] = some (none, wd I' L' T' U')) : ry_run (rx_lkk kC_X0) (rx_lkf fL_X0) (rx_lkf fI_X0) (rx_lkg gS_X0) (rx_lkg fG_X0) (rx_lkw nW_X0) (rx_lkc [(40, (1, some 0, 0, 0, G_X0_forget))] [(31, (1, none, 0, 0, G_X10_literalName)), (37, (1, none, 0, 0, G_X10_operator))] [(5, (1, none, 0, 0, rx_F0))]) none 6 1302 kd_X0_init (n + 2) 56 [(1, .int x), (0, .ref 9)] [] (wd I L T U) 6 1302 = some (none, wd I' L' T' U') := ry_t h1 (ry_b hf rfl)
theorem i0_l {I : Nat → Int32} {L : Nat → Int64} {T : Nat → Nat → Int32} {U : Nat → Nat → Int64} : ∀ (d i n : Nat) (f g : Nat → Int64), i + d = 74 → d + 2 ≤ n → (∀ k, k < i → f k = eV (4, 0, 0, nI k) ∧ g k = eV (8, 1, 0, nI k)) → ∃ (f' g' : Nat → Int64), (∀ k, k < 74 → f' k = eV (4, 0, 0, nI k) ∧ g' k = eV (8, 1, 0, nI k)) ∧ ∀ I' L' T' U', f_X0_forget (wd I L T (uU (uU U 3 f') 4 g')) [.ref 9] = some (none, wd I' L' T' U') → ry_run (rx_lkk kC_X0) (rx_lkf fL_X0) (rx_lkf fI_X0) (rx_lkg gS_X0) (rx_lkg fG_X0) (rx_lkw nW_X0) (rx_lkc [(40, (1, some 0, 0, 0, f_X0_forget))] [(31, (1, none, 0, 0, f_X10_literalName)), (37, (1, none, 0, 0, f_X10_operator))] [(5, (1, none, 0, 0, rx_F0))]) none 6 1302 kd_X0_init n 56 [(1, .int (nI i)), (0, .ref 9)] [] (wd I L T (uU (uU U 3 f) 4 g)) 6 1302 = some (none, wd I' L' T' U')
  | 0, i, n, f, g, hi, hn, h => by
    obtain rfl : i = 74 := by omega
    obtain ⟨m, rfl⟩ : ∃ m, n = m + 2 := ⟨n - 2, by omega⟩
    exact ⟨f, g, h, fun I' L' T' U' hf => i0_e f_X0_forget f_X10_literalName f_X10_operator (by decide) hf⟩
  | d + 1, i, n, f, g, hi, hn, h => by
    obtain ⟨m, rfl⟩ : ∃ m, n = m + 1 := ⟨n - 1, by omega⟩
    obtain ⟨f', g', a1, a2⟩ := i0_l d (i + 1) m (vp_updL f i (eV (4, 0, 0, nI i))) (vp_updL g i (eV (8, 1, 0, nI i))) (by omega) (by omega) (fun k hk => by
      by_cases e : k = i
      · rw [e, vp_updL_at, vp_updL_at]
        exact ⟨rfl, rfl⟩
      · rw [vp_updL_ne e, vp_updL_ne e]
        exact h k (by omega))
    refine ⟨f', g', a1, fun I' L' T' U' hf => ?_⟩
    have hc : (nI i).toNatClampNeg = i := nI_clamp (by omega)
    have h74 : ¬ (74 : Int32) ≤ nI i := by
      rw [show (74 : Int32) = nI 74 from rfl, nI_leI (by omega) (by omega)]
      omega
    have hr : ¬ (nI i < 0 ∨ 616 ≤ (nI i).toNatClampNeg) := by
      rintro (h | h)
      · exact nI_n0 (by omega) h
      · rw [hc] at h
        omega
    have q := i0_r f_X0_forget f_X10_literalName f_X10_operator (I := I) (L := L) (T := T) (U := uU (uU U 3 f) 4 g) (n := m) (x := nI i) (rs := (none, wd I' L' T' U')) h74 s_literalName hr s_operator
    rw [hc] at q
    have e : uU (uU (uU (uU U 3 f) 4 g) 3 (vp_updL (uU (uU U 3 f) 4 g 3) i (eV (4, 0, 0, nI i)))) 4 (vp_updL (uU (uU U 3 f) 4 g 4) i (eV (8, 1, 0, nI i))) = uU (uU U 3 (vp_updL f i (eV (4, 0, 0, nI i)))) 4 (vp_updL g i (eV (8, 1, 0, nI i))) := by
      funext y
      by_cases y4 : y = 4
      · rw [y4]
        rfl
      · rw [uU_ne _ _ y4, uU_ne _ _ y4]
        by_cases y3 : y = 3
        · rw [y3]
          rfl
        · rw [uU_ne _ _ y3, uU_ne _ _ y4, uU_ne _ _ y3, uU_ne _ _ y3]
    rw [show nI i + 1 = nI (i + 1) from nI_add i 1, e] at q
    exact q (a2 I' L' T' U' hf)
set_option maxRecDepth 100000 in
theorem i0_f (FO : rx_F) (hO : ∀ (vh : rx_H) (a : Nat), FO vh [.ref a] = some (none, vh)) (MC : Nat) (hm : ∀ k, k ≤ 6 → Nat.ble k MC = true) (G_X0_forget : rx_F) (G_X10_literalName : rx_F) (G_X10_operator : rx_F) {I : Nat → Int32} {L : Nat → Int64} {T : Nat → Nat → Int32} {U : Nat → Nat → Int64} {n : Nat} {rs : Option Value × rx_H} (h : ry_run (rx_lkk kC_X0) (rx_lkf fL_X0) (rx_lkf fI_X0) (rx_lkg gS_X0) (rx_lkg fG_X0) (rx_lkw nW_X0) (rx_lkc [(40, (1, some 0, 0, 0, G_X0_forget))] [(31, (1, none, 0, 0, G_X10_literalName)), (37, (1, none, 0, 0, G_X10_operator))] [(5, (1, none, 0, 0, FO))]) none MC 1302 kd_X0_init n 56 [(1, .int (nI 0)), (0, .ref 9)] [] (wd (uI (uI (uI I 5 0) 6 0) 7 0) L (uT (uT (uT (uT T 3 (fun _ => 0)) 4 (fun _ => 0)) 5 (fun _ => 0)) 6 (fun _ => 0)) (uU (uU U 3 (fun _ => 0)) 4 (fun _ => 0))) 6 1302 = some rs) : ry_fn (rx_lkk kC_X0) (rx_lkf fL_X0) (rx_lkf fI_X0) (rx_lkg gS_X0) (rx_lkg fG_X0) (rx_lkw nW_X0) (rx_lkc [(40, (1, some 0, 0, 0, G_X0_forget))] [(31, (1, none, 0, 0, G_X10_literalName)), (37, (1, none, 0, 0, G_X10_operator))] [(5, (1, none, 0, 0, FO))]) none MC 1302 2 kd_X0_init (n + 1) (ww_44 I L U T) [.ref 9] = some rs := by
  refine ry_b (hO _ _) ?_
  refine ry_ms (W := (ww_38 I L U T)) ?_ ?_ ?_
  · first | exact band (hm _ (Nat.le_of_ble_eq_true rfl)) rfl | exact band rfl (band (hm _ (Nat.le_of_ble_eq_true rfl)) rfl)
  · exact rfl
  refine ry_ms (W := (ww_39 I L U T)) ?_ ?_ ?_
  · first | exact band (hm _ (Nat.le_of_ble_eq_true rfl)) rfl | exact band rfl (band (hm _ (Nat.le_of_ble_eq_true rfl)) rfl)
  · exact rfl
  refine ry_ms (W := (ww_40 I L U T)) ?_ ?_ ?_
  · first | exact band (hm _ (Nat.le_of_ble_eq_true rfl)) rfl | exact band rfl (band (hm _ (Nat.le_of_ble_eq_true rfl)) rfl)
  · exact rfl
  refine ry_ms (W := (ww_41 I L U T)) ?_ ?_ ?_
  · first | exact band (hm _ (Nat.le_of_ble_eq_true rfl)) rfl | exact band rfl (band (hm _ (Nat.le_of_ble_eq_true rfl)) rfl)
  · exact rfl
  refine ry_ms (W := (ww_42 I L U T)) ?_ ?_ ?_
  · first | exact band (hm _ (Nat.le_of_ble_eq_true rfl)) rfl | exact band rfl (band (hm _ (Nat.le_of_ble_eq_true rfl)) rfl)
  · exact rfl
  refine ry_ms (W := (ww_43 I L U T)) ?_ ?_ ?_
  · first | exact band (hm _ (Nat.le_of_ble_eq_true rfl)) rfl | exact band rfl (band (hm _ (Nat.le_of_ble_eq_true rfl)) rfl)
  · exact rfl
  exact h
theorem i0 {I : Nat → Int32} {L : Nat → Int64} {T : Nat → Nat → Int32} {U : Nat → Nat → Int64} : ∃ (I' : Nat → Int32) (T' : Nat → Nat → Int32) (U' : Nat → Nat → Int64), f_X0_init (ww_44 I L U T) [.ref 9] = some (none, wd I' L T' U') ∧ I' 5 = nI 94 ∧ I' 6 = nI 2 ∧ I' 7 = nI 2 ∧ (∀ x, x < 5 → I' x = I x) ∧ T' 3 0 = nI 0 ∧ T' 3 1 = nI 74 ∧ T' 4 0 = nI 74 ∧ T' 4 1 = nI 20 ∧ T' 5 0 = nI 74 ∧ T' 5 1 = nI 0 ∧ T' 6 0 = nI 0 ∧ T' 6 1 = nI 1 ∧ (∀ k, k < 3 → T' k = T k) ∧ (∀ k, k < 3 → U' k = U k) ∧ ∀ k, k < 74 → U' 3 k = eV (4, 0, 0, nI k) ∧ U' 4 k = eV (8, 1, 0, nI k) := by
  obtain ⟨f', g', a1, a2⟩ := i0_l (I := uI (uI (uI I 5 0) 6 0) 7 0) (L := L) (T := uT (uT (uT (uT T 3 (fun _ => 0)) 4 (fun _ => 0)) 5 (fun _ => 0)) 6 (fun _ => 0)) (U := U) 74 0 999999999 (fun _ => 0) (fun _ => 0) rfl (by decide) (fun k hk => absurd hk (by omega))
  obtain ⟨I', T', h, b5, b6, b7, bx, c1, c2, c3, c4, c5, c6, c7, c8, cx⟩ := sd_dfor (I := uI (uI (uI I 5 0) 6 0) 7 0) (L := L) (T := uT (uT (uT (uT T 3 (fun _ => 0)) 4 (fun _ => 0)) 5 (fun _ => 0)) 6 (fun _ => 0)) (U := uU (uU U 3 f') 4 g')
  refine ⟨I', T', uU (uU U 3 f') 4 g', ?_, b5, b6, b7, fun x hx => ?_, c1, c2, c3, c4, c5, c6, c7, c8, fun k hk => ?_, fun k hk => ?_, a1⟩
  · exact ry_fn_eq (i0_f rx_F0 (fun _ _ => rfl) 6 (fun k hk => Nat.ble_eq_true_of_le hk) f_X0_forget f_X10_literalName f_X10_operator (n := 999999999) (a2 _ _ _ _ h))
  · rw [bx x (by omega) (by omega) (by omega), uI_ne _ _ (by omega), uI_ne _ _ (by omega), uI_ne _ _ (by omega)]
  · rw [cx k (by omega) (by omega) (by omega) (by omega), uT_ne _ _ (by omega), uT_ne _ _ (by omega), uT_ne _ _ (by omega), uT_ne _ _ (by omega)]
  · rw [uU_ne _ _ (by omega), uU_ne _ _ (by omega)]
