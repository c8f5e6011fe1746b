/-! reading a token: what stays -/
def FT (I : Nat → Int32) (L : Nat → Int64) (T : Nat → Nat → Int32) (U : Nat → Nat → Int64) (I' : Nat → Int32) (L' : Nat → Int64) (T' : Nat → Nat → Int32) (U' : Nat → Nat → Int64) : Prop :=
  (∀ i, 4 ≤ i → (i ≤ 9 ∨ 14 ≤ i) → I' i = I i) ∧ L' 3 = L 3 ∧ (∀ k, 2 ≤ k → (k ≤ 7 ∨ 10 ≤ k) → T' k = T k) ∧ (∀ k, 3 ≤ k → (k ≤ 6 ∨ 8 ≤ k) → U' k = U k)
def FS (J : Nat → Int32) (S : Nat → Nat → Int32) (J' : Nat → Int32) (S' : Nat → Nat → Int32) : Prop :=
  (∀ x, (x ≤ 2 ∨ 4 ≤ x) → (x ≤ 6 ∨ 11 ≤ x) → (x ≤ 17 ∨ 21 ≤ x) → J' x = J x) ∧ (∀ k, (k ≤ 6 ∨ 11 ≤ k) → (k ≤ 13 ∨ 16 ≤ k) → S' k = S k)
def NE (N M : Nat → Nat) : Prop := NM N M ∧ M 0 = N 0 ∧ M 3 = N 3 ∧ M 5 = N 5 ∧ M 6 = N 6
theorem NE_r (N : Nat → Nat) : NE N N := ⟨NM_r N, rfl, rfl, rfl, rfl⟩
theorem NE_t {N M P : Nat → Nat} (a : NE N M) (b : NE M P) : NE N P := ⟨NM_t a.1 b.1, b.2.1.trans a.2.1, b.2.2.1.trans a.2.2.1, b.2.2.2.1.trans a.2.2.2.1, b.2.2.2.2.trans a.2.2.2.2⟩
theorem FT_t {I I' I2 : Nat → Int32} {L L' L2 : Nat → Int64} {T T' T2 : Nat → Nat → Int32} {U U' U2 : Nat → Nat → Int64} (a : FT I L T U I' L' T' U') (b : FT I' L' T' U' I2 L2 T2 U2) : FT I L T U I2 L2 T2 U2 := ⟨fun i h1 h2 => (b.1 i h1 h2).trans (a.1 i h1 h2), b.2.1.trans a.2.1, fun k h1 h2 => (b.2.2.1 k h1 h2).trans (a.2.2.1 k h1 h2), fun k h1 h2 => (b.2.2.2 k h1 h2).trans (a.2.2.2 k h1 h2)⟩
theorem FS_t {J J' J2 : Nat → Int32} {S S' S2 : Nat → Nat → Int32} (a : FS J S J' S') (b : FS J' S' J2 S2) : FS J S J2 S2 := ⟨fun x h1 h2 h3 => (b.1 x h1 h2 h3).trans (a.1 x h1 h2 h3), fun k h1 h2 => (b.2 k h1 h2).trans (a.2 k h1 h2)⟩
theorem FT_r (I : Nat → Int32) (L : Nat → Int64) (T : Nat → Nat → Int32) (U : Nat → Nat → Int64) : FT I L T U I L T U := ⟨fun _ _ _ => rfl, rfl, fun _ _ _ => rfl, fun _ _ _ => rfl⟩
theorem FS_r (J : Nat → Int32) (S : Nat → Nat → Int32) : FS J S J S := ⟨fun _ _ _ _ => rfl, fun _ _ _ => rfl⟩
section
variable {N M : Nat → Nat} {I I' : Nat → Int32} {L L' : Nat → Int64} {T T' : Nat → Nat → Int32} {U U' : Nat → Nat → Int64} {J J' : Nat → Int32} {S S' : Nat → Nat → Int32} {K : Nat → Int64} {z p o r : Nat} {b q : Nat → Nat}
theorem TA_f (h : TA z b I T J S) (f : FT I L T U I' L' T' U') (g : FS J S J' S') : TA z b I' T' J' S' := by
  obtain ⟨h1, h2, h3, h4⟩ := h
  refine ⟨h1, (f.1 9 (by decide) (by decide)).trans h2, (g.1 2 (by decide) (by decide) (by decide)).trans h3, fun i hi => ?_⟩
  rw [f.2.2.1 7 (by decide) (by decide), g.2 0 (by decide) (by decide)]
  exact h4 i hi
theorem R_new (h : R N I T U J S) (f : FT I L T U I' L' T' U') (g : FS J S J' S') (hm : NE N M) (h1 : RO M (M 1) 600 (I' 2) (U' 2) (J' 7) (S' 7)) (h2 : RB (M 2) 600 (I' 3) (T' 1) (J' 8) (S' 8)) (h4 : RN (M 4) (I' 0) (T' 0) (U' 0) (U' 1) (J' 10) (S' 9) (S' 10)) : R M I' T' U' J' S' := by
  obtain ⟨a0, a1, a2, a3, a4, a5, a6⟩ := h
  obtain ⟨m, m0, m3, m5, m6⟩ := hm
  obtain ⟨f1, f2, f3, f4⟩ := f
  obtain ⟨g1, g2⟩ := g
  refine ⟨?_, h1, h2, ?_, h4, ?_, ?_⟩
  · rw [m0, f1 8 (by decide) (by decide), f4 5 (by decide) (by decide), g1 4 (by decide) (by decide) (by decide), g2 1 (by decide) (by decide)]
    exact RO_mono m a0
  · rw [m3, f1 4 (by decide) (by decide), f3 2 (by decide) (by decide), g1 11 (by decide) (by decide) (by decide), g2 11 (by decide) (by decide)]
    exact a3
  · rw [m5, f1 5 (by decide) (by decide), f1 6 (by decide) (by decide), f3 3 (by decide) (by decide), f3 4 (by decide) (by decide), f3 5 (by decide) (by decide), f4 3 (by decide) (by decide), f4 4 (by decide) (by decide), g1 5 (by decide) (by decide) (by decide), g2 3 (by decide) (by decide), g2 4 (by decide) (by decide), g2 5 (by decide) (by decide), g2 6 (by decide) (by decide)]
    exact RD_mono m a5
  · rw [m5, m6, f1 7 (by decide) (by decide), f3 6 (by decide) (by decide), g1 6 (by decide) (by decide) (by decide), g2 2 (by decide) (by decide)]
    exact a6
theorem R_kp (h : R N I T U J S) (f : FT I L T U I' L' T' U') (g : FS J S J' S') (i0 : I' 0 = I 0) (i2 : I' 2 = I 2) (i3 : I' 3 = I 3) (t0 : T' 0 = T 0) (t1 : T' 1 = T 1) (u0 : U' 0 = U 0) (u1 : U' 1 = U 1) (u2 : U' 2 = U 2) (j7 : J' 7 = J 7) (j8 : J' 8 = J 8) (j10 : J' 10 = J 10) (s7 : S' 7 = S 7) (s8 : S' 8 = S 8) (s9 : S' 9 = S 9) (s10 : S' 10 = S 10) : R N I' T' U' J' S' := by
  refine R_new h f g (NE_r N) ?_ ?_ ?_
  · rw [i2, u2, j7, s7]
    exact h.2.1
  · rw [i3, t1, j8, s8]
    exact h.2.2.1
  · rw [i0, t0, u0, u1, j10, s9, s10]
    exact h.2.2.2.2.1
/-- what is open: o procedures, r values of theirs -/
def TQ (N : Nat → Nat) (I : Nat → Int32) (T : Nat → Nat → Int32) (U : Nat → Nat → Int64) (J : Nat → Int32) (S : Nat → Nat → Int32) (o r : Nat) (q : Nat → Nat) : Prop :=
  I 12 = nI o ∧ J 19 = nI o ∧ o ≤ 8 ∧ I 11 = nI r ∧ J 18 = nI r ∧ (∀ j, j < o → T 9 j = nI (q j) ∧ S 15 j = nI (q j) ∧ q j ≤ r) ∧ (∀ i j, i ≤ j → j < o → q i ≤ q j) ∧ (0 < o → q 0 = 0) ∧ (o = 0 → r = 0) ∧ ∀ i, i < r → sl N (U 7) i (S 14) i
def TK (N : Nat → Nat) (I : Nat → Int32) (T : Nat → Nat → Int32) (U : Nat → Nat → Int64) (J : Nat → Int32) (S : Nat → Nat → Int32) (z : Nat) (b : Nat → Nat) (p o r : Nat) (q : Nat → Nat) : Prop :=
  R N I T U J S ∧ TA z b I T J S ∧ I 10 = nI p ∧ J 3 = nI p ∧ p ≤ z ∧ J 20 = 0 ∧ r + o ≤ p ∧ TQ N I T U J S o r q
/-- behind a piece that went well -/
def TO (N : Nat → Nat) (I : Nat → Int32) (L : Nat → Int64) (T : Nat → Nat → Int32) (U : Nat → Nat → Int64) (J : Nat → Int32) (S : Nat → Nat → Int32) (z : Nat) (b : Nat → Nat) (p : Nat) : Prop :=
  (∃ o r q, 0 < o ∧ TK N I T U J S z b p o r q) ∨ (R N I T U J S ∧ TA z b I T J S ∧ I 10 = nI p ∧ J 3 = nI p ∧ p ≤ z ∧ J 20 = 0 ∧ I 12 = 0 ∧ J 19 = 0 ∧ ∃ t, L 2 = eV t ∧ r5 (S 14) 0 t ∧ ok N t)
end
theorem TQ_m {N M : Nat → Nat} {I I' : Nat → Int32} {T T' : Nat → Nat → Int32} {U U' : Nat → Nat → Int64} {J J' : Nat → Int32} {S S' : Nat → Nat → Int32} {o r : Nat} {q : Nat → Nat} (h : TQ N I T U J S o r q) (hm : NM N M) (i11 : I' 11 = I 11) (i12 : I' 12 = I 12) (t9 : T' 9 = T 9) (u7 : U' 7 = U 7) (j18 : J' 18 = J 18) (j19 : J' 19 = J 19) (s14 : S' 14 = S 14) (s15 : S' 15 = S 15) : TQ M I' T' U' J' S' o r q := by
  obtain ⟨h1, h2, h3, h4, h5, h6, h7, h8, h9, h10⟩ := h
  refine ⟨i12.trans h1, j19.trans h2, h3, i11.trans h4, j18.trans h5, fun j hj => ?_, h7, h8, h9, fun i hi => ?_⟩
  · rw [t9, s15]
    exact h6 j hj
  · rw [u7, s14]
    exact sl_mono hm.1 hm.2.1 hm.2.2.1 hm.2.2.2 (h10 i hi)
theorem s_keep0 {I : Nat → Int32} {L : Nat → Int64} {T : Nat → Nat → Int32} {U : Nat → Nat → Int64} (e12 : I 12 = nI 0) {v : Int64} : f_X7_keep (wc I L T U) [.ref 19, .long v] = some (some (.int 0), wc I (uL L 2 v) T U) := by
  (refine Eq.trans (p_X7_keep_4 _ _ _ _ _ (by first | with_reducible assumption | (simp (disch := omega) only [e12, i_lit, i_m1, pk_sub, nI_add, nI_ml, nI_ltI, nI_leI, nI_eq, nI_clamp, nI_l, lN_i, lg_nI, lg_geI, lg_leI, lg_gtI, lg_ltI, c16_160, c16_200, c16_255, c16_300, c16_600, c16_616, c16_1000, Nat.add_eq, vp_updL_at, upd_at, Nat.add_sub_cancel, Nat.add_zero, Nat.zero_add, Nat.sub_zero, uU_uU, uT_uT, uI_uI, uL_uL, uU_at, uT_at, uI_at, uL_at, uU_ne, uT_ne, uI_ne, uL_ne, uU_sw, uT_sw, uI_sw, uL_sw] <;> first | with_reducible assumption | omega) | omega | decide)) ?_; first | with_reducible rfl | (simp (disch := omega) only [e12, i_lit, i_m1, pk_sub, nI_add, nI_ml, nI_ltI, nI_leI, nI_eq, nI_clamp, nI_l, lN_i, lg_nI, lg_geI, lg_leI, lg_gtI, lg_ltI, c16_160, c16_200, c16_255, c16_300, c16_600, c16_616, c16_1000]; done))
theorem s_keep1 {I : Nat → Int32} {L : Nat → Int64} {T : Nat → Nat → Int32} {U : Nat → Nat → Int64} {o r : Nat} (e12 : I 12 = nI o) (ho : 0 < o) (ho2 : o ≤ 8) (e11 : I 11 = nI r) (hr : r < 300) {v : Int64} : f_X7_keep (wc I L T U) [.ref 19, .long v] = some (some (.int 0), wc (uI I 11 (nI (r + 1))) (uL L 2 v) T (uU U 7 (vp_updL (U 7) r v))) := by
  (refine Eq.trans (p_X7_keep_1 _ _ _ _ _ (by first | with_reducible assumption | (simp (disch := omega) only [e12, e11, i_lit, i_m1, pk_sub, nI_add, nI_ml, nI_ltI, nI_leI, nI_eq, nI_clamp, nI_l, lN_i, lg_nI, lg_geI, lg_leI, lg_gtI, lg_ltI, c16_160, c16_200, c16_255, c16_300, c16_600, c16_616, c16_1000, Nat.add_eq, vp_updL_at, upd_at, Nat.add_sub_cancel, Nat.add_zero, Nat.zero_add, Nat.sub_zero, uU_uU, uT_uT, uI_uI, uL_uL, uU_at, uT_at, uI_at, uL_at, uU_ne, uT_ne, uI_ne, uL_ne, uU_sw, uT_sw, uI_sw, uL_sw] <;> first | with_reducible assumption | omega) | omega | decide) (by first | with_reducible assumption | (simp (disch := omega) only [e12, e11, i_lit, i_m1, pk_sub, nI_add, nI_ml, nI_ltI, nI_leI, nI_eq, nI_clamp, nI_l, lN_i, lg_nI, lg_geI, lg_leI, lg_gtI, lg_ltI, c16_160, c16_200, c16_255, c16_300, c16_600, c16_616, c16_1000, Nat.add_eq, vp_updL_at, upd_at, Nat.add_sub_cancel, Nat.add_zero, Nat.zero_add, Nat.sub_zero, uU_uU, uT_uT, uI_uI, uL_uL, uU_at, uT_at, uI_at, uL_at, uU_ne, uT_ne, uI_ne, uL_ne, uU_sw, uT_sw, uI_sw, uL_sw] <;> first | with_reducible assumption | omega) | omega | decide) (by first | with_reducible assumption | (simp (disch := omega) only [e12, e11, i_lit, i_m1, pk_sub, nI_add, nI_ml, nI_ltI, nI_leI, nI_eq, nI_clamp, nI_l, lN_i, lg_nI, lg_geI, lg_leI, lg_gtI, lg_ltI, c16_160, c16_200, c16_255, c16_300, c16_600, c16_616, c16_1000, Nat.add_eq, vp_updL_at, upd_at, Nat.add_sub_cancel, Nat.add_zero, Nat.zero_add, Nat.sub_zero, uU_uU, uT_uT, uI_uI, uL_uL, uU_at, uT_at, uI_at, uL_at, uU_ne, uT_ne, uI_ne, uL_ne, uU_sw, uT_sw, uI_sw, uL_sw] <;> first | with_reducible assumption | omega) | omega | decide) (by first | with_reducible assumption | (simp (disch := omega) only [e12, e11, i_lit, i_m1, pk_sub, nI_add, nI_ml, nI_ltI, nI_leI, nI_eq, nI_clamp, nI_l, lN_i, lg_nI, lg_geI, lg_leI, lg_gtI, lg_ltI, c16_160, c16_200, c16_255, c16_300, c16_600, c16_616, c16_1000, Nat.add_eq, vp_updL_at, upd_at, Nat.add_sub_cancel, Nat.add_zero, Nat.zero_add, Nat.sub_zero, uU_uU, uT_uT, uI_uI, uL_uL, uU_at, uT_at, uI_at, uL_at, uU_ne, uT_ne, uI_ne, uL_ne, uU_sw, uT_sw, uI_sw, uL_sw] <;> first | with_reducible assumption | omega) | omega | decide)) ?_; first | with_reducible rfl | (simp (disch := omega) only [e12, e11, i_lit, i_m1, pk_sub, nI_add, nI_ml, nI_ltI, nI_leI, nI_eq, nI_clamp, nI_l, lN_i, lg_nI, lg_geI, lg_leI, lg_gtI, lg_ltI, c16_160, c16_200, c16_255, c16_300, c16_600, c16_616, c16_1000]; done))
theorem t_kp {I : Nat → Int32} {T : Nat → Nat → Int32} {K : Nat → Int64} {r : Nat} (e18 : I 18 = nI r) (hr : r < 320) {a b c d e : Int32} : f_X12_keep (wr I T K) [.ref 0, .int a, .int b, .int c, .int d, .int e] = some (none, wr (uI I 18 (nI (r + 1))) (uT T 14 (st5 (T 14) r a b c d e)) K) := by
  rw [fv_X12_keep_eq]; (refine Eq.trans (p_X12_keep_1 f_X12_set _ _ _ _ _ _ _ _ _ _ _ (t_set_16 e18 (by omega))) ?_; first | with_reducible rfl | (simp (disch := omega) only [e18, i_lit, i_m1, pk_sub, nI_add, nI_ml, nI_ltI, nI_leI, nI_eq, nI_clamp, nI_l, lN_i, lg_nI, lg_geI, lg_leI, lg_gtI, lg_ltI, c16_160, c16_200, c16_255, c16_300, c16_600, c16_616, c16_1000]; done))
theorem jkeep {N : Nat → Nat} {I : Nat → Int32} {L : Nat → Int64} {T : Nat → Nat → Int32} {U : Nat → Nat → Int64} {J : Nat → Int32} {S : Nat → Nat → Int32} {K : Nat → Int64} {z p o r : Nat} {b q : Nat → Nat} {t : V} {y a0 a1 a2 a3 : Int32} (hR : R N I T U J S) (hA : TA z b I T J S) (e10 : I 10 = nI p) (e3 : J 3 = nI p) (hp : p ≤ z) (e20 : J 20 = 0) (hQ : TQ N I T U J S o r q) (hr : r + o + 1 ≤ p) (ht : ok N t) (b0 : a0 = nI t.1) (b1 : a1 = t.2.2.2) (b2 : a2 = nI t.2.1) (b3 : a3 = nI t.2.2.1) :
    ∃ (I' : Nat → Int32) (U' : Nat → Nat → Int64), f_X7_keep (wc I L T U) [.ref 19, .long (eV t)] = some (some (.int 0), wc I' (uL L 2 (eV t)) T U') ∧ f_X12_keep (wr J S K) [.ref 0, .int a0, .int a1, .int a2, .int a3, .int y] = some (none, wr (uI J 18 (nI (r + 1))) (uT S 14 (st5 (S 14) r a0 a1 a2 a3 y)) K) ∧ R N I' T U' (uI J 18 (nI (r + 1))) (uT S 14 (st5 (S 14) r a0 a1 a2 a3 y)) ∧ TO N I' (uL L 2 (eV t)) T U' (uI J 18 (nI (r + 1))) (uT S 14 (st5 (S 14) r a0 a1 a2 a3 y)) z b p ∧ FT I L T U I' (uL L 2 (eV t)) T U' ∧ FS J S (uI J 18 (nI (r + 1))) (uT S 14 (st5 (S 14) r a0 a1 a2 a3 y)) := by
  have hz := hA.1
  obtain ⟨q1, q2, q3, q4, q5, q6, q7, q8, q9, q10⟩ := hQ
  have hps : ps (S 14) r t (st5 (S 14) r a0 a1 a2 a3 y) := ps_st b0 b1 b2 b3
  have rk := t_kp (T := S) (K := K) (a := a0) (b := a1) (c := a2) (d := a3) (e := y) q5 (by omega)
  have fs : FS J S (uI J 18 (nI (r + 1))) (uT S 14 (st5 (S 14) r a0 a1 a2 a3 y)) := ⟨fun x h1 h2 h3 => uI_ne _ _ (by omega), fun k h1 h2 => uT_ne _ _ (by omega)⟩
  by_cases o0 : o = 0
  · subst o0
    have r0 : r = 0 := q9 rfl
    subst r0
    have ft : FT I L T U I (uL L 2 (eV t)) T U := ⟨fun _ _ _ => rfl, rfl, fun _ _ _ => rfl, fun _ _ _ => rfl⟩
    have hR' := R_kp hR ft fs rfl rfl rfl rfl rfl rfl rfl rfl rfl rfl rfl rfl rfl rfl rfl
    exact ⟨I, U, s_keep0 q1, rk, hR', .inr ⟨hR', TA_f hA ft fs, e10, e3, hp, e20, q1, q2, t, rfl, hps.1, ht⟩, ft, fs⟩
  · have ft : FT I L T U (uI I 11 (nI (r + 1))) (uL L 2 (eV t)) T (uU U 7 (vp_updL (U 7) r (eV t))) := ⟨fun i h1 h2 => uI_ne _ _ (by omega), rfl, fun _ _ _ => rfl, fun k h1 h2 => uU_ne _ _ (by omega)⟩
    have hR' := R_kp hR ft fs rfl rfl rfl rfl rfl rfl rfl rfl rfl rfl rfl rfl rfl rfl rfl
    refine ⟨_, _, s_keep1 q1 (by omega) q3 q4 (by omega), rk, hR', .inl ⟨o, r + 1, q, by omega, hR', TA_f hA ft fs, e10, e3, hp, e20, by omega, q1, q2, q3, rfl, rfl, fun j hj => ⟨(q6 j hj).1, (q6 j hj).2.1, by have := (q6 j hj).2.2; omega⟩, q7, q8, fun h => absurd h o0, fun i hi => ?_⟩, ft, fs⟩
    show sl N (vp_updL (U 7) r (eV t)) i (st5 (S 14) r a0 a1 a2 a3 y) i
    by_cases ei : i = r
    · subst ei
      exact ⟨t, vp_updL_at, hps.1, ht⟩
    · obtain ⟨t', x1, x2, x3⟩ := q10 i (by omega)
      exact ⟨t', (vp_updL_ne ei).trans x1, hps.2 i t' ei x2, x3⟩
/-- what a piece of a token leaves; e: the fault -/
def PO (e : Nat) (N : Nat → Nat) (I : Nat → Int32) (L : Nat → Int64) (T : Nat → Nat → Int32) (U : Nat → Nat → Int64) (J : Nat → Int32) (S : Nat → Nat → Int32) (N' : Nat → Nat) (I' : Nat → Int32) (L' : Nat → Int64) (T' : Nat → Nat → Int32) (U' : Nat → Nat → Int64) (J' : Nat → Int32) (S' : Nat → Nat → Int32) (z : Nat) (b : Nat → Nat) (p : Nat) : Prop :=
  e ≤ 2 ∧ NE N N' ∧ FT I L T U I' L' T' U' ∧ FS J S J' S' ∧ R N' I' T' U' J' S' ∧ J' 20 = nI e ∧ (e = 0 → ∃ p', p < p' ∧ TO N' I' L' T' U' J' S' z b p')
/-- a piece: the class's call behind its first byte, the reference's part -/
def PC (F : rx_F) (as : List Value) (N : Nat → Nat) (I : Nat → Int32) (L : Nat → Int64) (T : Nat → Nat → Int32) (U : Nat → Nat → Int64) (J : Nat → Int32) (S : Nat → Nat → Int32) (K : Nat → Int64) (z : Nat) (b : Nat → Nat) (p : Nat) : Prop :=
  ∃ (e : Nat) (N' : Nat → Nat) (I' : Nat → Int32) (L' : Nat → Int64) (T' : Nat → Nat → Int32) (U' : Nat → Nat → Int64) (J' : Nat → Int32) (S' : Nat → Nat → Int32),
    F (wc (uI I 10 (nI (p + 1))) L T U) as = some (some (.int (nI e)), wc I' L' T' U') ∧ f_X12_readPart (wr J S K) [.ref 0] = some (none, wr J' S' K) ∧ PO e N I L T U J S N' I' L' T' U' J' S' z b p
