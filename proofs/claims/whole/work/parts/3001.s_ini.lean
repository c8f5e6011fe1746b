/-! the fixed names are met in their order -/
def NS (j : Nat) (I : Nat → Int32) (T : Nat → Nat → Int32) (U : Nat → Nat → Int64) : Prop := I 0 = nI j ∧ ∀ i, i < j → T 0 i = nI (fxn i) ∧ U 0 i = lN (fxl i) ∧ U 1 i = lN (fxh i)
theorem fx_ne : ∀ j, j < 83 → ∀ i, i < j → ¬ (fxl i = fxl j ∧ fxh i = fxh j ∧ fxn i = fxn j) := by decide +kernel
theorem NS_ne {I : Nat → Int32} {T : Nat → Nat → Int32} {U : Nat → Nat → Int64} {j : Nat} (h : NS j I T U) (hj : j < 83) {x y : Int64} {z : Int32} (hx : x = lN (fxl j)) (hy : y = lN (fxh j)) (hz : z = nI (fxn j)) : ∀ i, i < j → ¬ (U 0 i = x ∧ U 1 i = y ∧ T 0 i = z) := by
  intro i hi ⟨e1, e2, e3⟩
  obtain ⟨a1, a2, a3⟩ := h.2 i hi
  obtain ⟨o1, o2, o3⟩ := fx_ok i (by omega)
  obtain ⟨p1, p2, p3⟩ := fx_ok j hj
  refine fx_ne j hj i hi ⟨lN_inj o2 p2 ?_, lN_inj o3 p3 ?_, ?_⟩
  · rw [← a2, e1, hx]
  · rw [← a3, e2, hy]
  · exact (nI_eq (by omega) (by omega)).mp (by rw [← a1, e3, hz])
def DR (j t : Nat) (I : Nat → Int32) (L : Nat → Int64) : Prop := I 1 = nI t ∧ L 0 = lN (pkl (fxb j) t) ∧ L 1 = lN (pkh (fxb j) t)
theorem lN_pk0 (b : Nat → Nat) : (0 : Int64) = lN (pkl b 0) ∧ (0 : Int64) = lN (pkh b 0) := ⟨rfl, rfl⟩
/-- a letter of the draft -/
theorem nm_chr {I : Nat → Int32} {L : Nat → Int64} {T : Nat → Nat → Int32} {U : Nat → Nat → Int64} {j t : Nat} (h : NS j I T U) (hd : DR j t I L) (ht : t < 16) {c : Nat} (hc : c = fxb j t) : ∃ (I' : Nat → Int32) (L' : Nat → Int64), f_X4_addToDraft (wn I L T U) [.ref 1, .int (nI c)] = some (none, wn I' L' T U) ∧ NS j I' T U ∧ DR j (t + 1) I' L' := by
  obtain ⟨d1, d2, d3⟩ := hd
  refine ⟨_, _, sn_addToDraft (b := fxb j) d1 (by omega) (fun i _ => fxb_lt j i) d2 d3 (by rw [hc]), ⟨?_, h.2⟩, ?_, ?_, ?_⟩
  · exact (uI_ne _ _ (by decide)).trans h.1
  · exact uI_at _ _ _
  · exact (uL_ne _ _ (by decide)).trans (uL_at _ _ _)
  · exact uL_at _ _ _
/-- the blank behind a word: it is met, the next draft begins -/
theorem nm_spc {I : Nat → Int32} {L : Nat → Int64} {T : Nat → Nat → Int32} {U : Nat → Nat → Int64} {j : Nat} (h : NS j I T U) (hd : DR j (fxn j) I L) (hj : j < 83) : ∃ (I' : Nat → Int32) (L' : Nat → Int64) (T' : Nat → Nat → Int32) (U' : Nat → Nat → Int64) (I2 : Nat → Int32) (L2 : Nat → Int64), f_X4_meetDraft (wn I L T U) [.ref 1] = some (some (.int (nI j)), wn I' L' T' U') ∧ f_X4_startDraft (wn I' L' T' U') [.ref 1] = some (none, wn I2 L2 T' U') ∧ NS (j + 1) I2 T' U' ∧ ∀ b, I2 1 = nI 0 ∧ L2 0 = lN (pkl b 0) ∧ L2 1 = lN (pkh b 0) := by
  obtain ⟨d1, d2, d3⟩ := hd
  obtain ⟨k1, k2⟩ := fx_pk j hj
  obtain ⟨o1, o2, o3⟩ := fx_ok j hj
  rw [k1] at d2
  rw [k2] at d3
  refine ⟨_, _, _, _, _, _, sn_meetN h.1 (by omega) d1 o1 (by omega) (NS_ne h hj d2 d3 d1), sn_startDraft, ⟨?_, fun i hi => ?_⟩, fun b => ⟨?_, ?_, ?_⟩⟩
  · exact (uI_ne _ _ (by decide)).trans (uI_at _ _ _)
  · show upd (T 0) j (nI (fxn j)) i = _ ∧ vp_updL (U 0) j (L 0) i = _ ∧ vp_updL (U 1) j (L 1) i = _
    by_cases e : i = j
    · rw [e, upd_at, vp_updL_at, vp_updL_at]
      exact ⟨rfl, d2, d3⟩
    · obtain ⟨a1, a2, a3⟩ := h.2 i (by omega)
      rw [upd_ne e, vp_updL_ne e, vp_updL_ne e]
      exact ⟨a1, a2, a3⟩
  · exact (uI_at _ _ _).trans rfl
  · exact ((uL_ne _ _ (by decide)).trans (uL_at _ _ _)).trans (lN_pk0 b).1
  · exact (uL_at _ _ _).trans (lN_pk0 b).2
def nj_0 (k : Nat) : Nat := [0, 0, 0, 0, 1, 1, 1, 1, 1, 2, 2, 2, 2, 3, 3, 3, 3, 3, 4, 4, 4, 4, 4, 4, 5, 5, 5, 5, 5, 6, 6, 6, 6, 6, 6, 7, 7, 7, 7, 7, 7, 8, 8, 8, 8, 8, 9, 9, 10, 10, 10, 11, 11, 11, 11, 11, 11, 11, 11, 11, 11, 11, 11, 12, 12, 12, 12, 12, 12, 12, 12, 12, 12, 12, 12, 13].getD k 0
def tj_0 (k : Nat) : Nat := [0, 1, 2, 3, 0, 1, 2, 3, 4, 0, 1, 2, 3, 0, 1, 2, 3, 4, 0, 1, 2, 3, 4, 5, 0, 1, 2, 3, 4, 0, 1, 2, 3, 4, 5, 0, 1, 2, 3, 4, 5, 0, 1, 2, 3, 4, 0, 1, 0, 1, 2, 0, 1, 2, 3, 4, 5, 6, 7, 8, 9, 10, 11, 0, 1, 2, 3, 4, 5, 6, 7, 8, 9, 10, 11, 0].getD k 0
theorem wk_0 : ∀ k, k < 75 → (ch_0 k ≠ 32 ∧ ch_0 k < 256 ∧ nj_0 (k + 1) = nj_0 k ∧ tj_0 (k + 1) = tj_0 k + 1 ∧ tj_0 k < 16 ∧ ch_0 k = fxb (nj_0 k) (tj_0 k)) ∨ (ch_0 k = 32 ∧ nj_0 (k + 1) = nj_0 k + 1 ∧ tj_0 (k + 1) = 0 ∧ nj_0 k < 83 ∧ tj_0 k = fxn (nj_0 k)) := by decide +kernel
theorem sn_meetAll0 {I : Nat → Int32} {L : Nat → Int64} {T : Nat → Nat → Int32} {U : Nat → Nat → Int64} (h : NS 0 I T U) : ∃ (I' : Nat → Int32) (L' : Nat → Int64) (T' : Nat → Nat → Int32) (U' : Nat → Nat → Int64), f_X4_meetAll (wn I L T U) [.ref 1, .ref 1000100] = some (none, wn I' L' T' U') ∧ NS 13 I' T' U' := by
  obtain ⟨rs, m, ⟨I', L', T', U', g1, g2⟩, hm, hz⟩ := lp (fun k (w : Value × rx_H) m => z_X4_meetAll f_X4_startDraft f_J0_length_8abf5 f_J0_charAt_5068e f_X4_meetDraft f_X4_addToDraft 6 [.ref 1, .ref 1000100, .int (nI k), w.1] [] w.2 m) (fun k w => ∃ (I' : Nat → Int32) (L' : Nat → Int64) (T' : Nat → Nat → Int32) (U' : Nat → Nat → Int64), w.2 = wn I' L' T' U' ∧ NS (nj_0 k) I' T' U' ∧ DR (nj_0 k) (tj_0 k) I' L') (fun rs => ∃ (I' : Nat → Int32) (L' : Nat → Int64) (T' : Nat → Nat → Int32) (U' : Nat → Nat → Int64), rs = (none, wn I' L' T' U') ∧ NS 13 I' T' U') 75 3 2 (by
    rintro k ⟨v, w⟩ hk ⟨I1, L1, T1, U1, g0, g1, g2⟩
    have g0 : w = wn I1 L1 T1 U1 := g0
    subst g0
    have hlt : ¬ nI 75 ≤ nI k := by
      rw [nI_leI (by omega) (by omega)]
      omega
    have e1 : nI k + 1 = nI (k + 1) := nI_add k 1
    rcases wk_0 k hk with ⟨a1, a2, a3, a4, a5, a6⟩ | ⟨a1, a2, a3, a4, a5⟩
    · obtain ⟨I2, L2, b1, b2, b3⟩ := nm_chr g1 g2 a5 a6
      refine .inl ⟨(.int (nI (ch_0 k)), wn I2 L2 T1 U1), 3, Nat.le_refl _, ⟨I2, L2, T1, U1, rfl, by rw [a3]; exact b2, by rw [a3, a4]; exact b3⟩, fun m rs hz => ?_⟩
      refine qa_0 _ _ _ _ _ _ _ _ _ _ _ _ _ _ _ _ _ (sl_0 _ _ _ _) hlt (sc_0 k hk) (fun e => a1 ((nI_eq (b := 32) (by omega) (by omega)).mp e)) b1 ?_
      rw [e1]
      exact hz
    · rw [a5] at g2
      obtain ⟨I2, L2, T2, U2, I3, L3, b1, b2, b3, b4⟩ := nm_spc g1 g2 a4
      refine .inl ⟨(.int (nI (ch_0 k)), wn I3 L3 T2 U2), 2, by decide, ⟨I3, L3, T2, U2, rfl, by rw [a2]; exact b3, by rw [a3]; exact b4 _⟩, fun m rs hz => ?_⟩
      refine qs_0 _ _ _ _ _ _ _ _ _ _ _ _ _ _ _ _ _ _ _ _ _ _ (sl_0 _ _ _ _) hlt (sc_0 k hk) (by rw [a1]; rfl) b1 b2 ?_
      rw [e1]
      exact hz) (by
    rintro ⟨v, w⟩ ⟨I1, L1, T1, U1, g0, g1, g2⟩
    have g0 : w = wn I1 L1 T1 U1 := g0
    subst g0
    exact ⟨_, 2, Nat.le_refl _, ⟨I1, L1, T1, U1, rfl, g1⟩, qe_0 (m := 0) _ _ _ _ _ _ _ _ _ _ _ _ (sl_0 _ _ _ _) (by decide)⟩) 75 0 (.null, wn (uI I 1 0) (uL (uL L 0 0) 1 0) T U) (by omega) ⟨uI I 1 0, uL (uL L 0 0) 1 0, T, U, rfl, ⟨(uI_ne _ _ (by decide)).trans h.1, h.2⟩, (uI_at _ _ _).trans rfl, ((uL_ne _ _ (by decide)).trans (uL_at _ _ _)).trans (lN_pk0 _).1, (uL_at _ _ _).trans (lN_pk0 _).2⟩
  refine ⟨I', L', T', U', ?_, g2⟩
  rw [fv_X4_meetAll_eq, ← g1]
  exact pm_0 _ _ _ _ _ _ _ _ _ _ _ _ _ sn_startDraft (m := m) (by omega) hz
def nj_1 (k : Nat) : Nat := [13, 13, 13, 13, 14, 14, 14, 14, 15, 15, 15, 15, 16, 16, 16, 16, 16, 17, 17, 17, 17, 18, 18, 18, 18, 19, 19, 19, 19, 20, 20, 20, 21, 21, 21, 22, 22, 22, 23, 23, 23, 24, 24, 24, 25, 25, 25, 26, 26, 26, 26, 27, 27, 27, 28, 28, 28, 28, 29, 29, 29, 29, 30].getD k 0
def tj_1 (k : Nat) : Nat := [0, 1, 2, 3, 0, 1, 2, 3, 0, 1, 2, 3, 0, 1, 2, 3, 4, 0, 1, 2, 3, 0, 1, 2, 3, 0, 1, 2, 3, 0, 1, 2, 0, 1, 2, 0, 1, 2, 0, 1, 2, 0, 1, 2, 0, 1, 2, 0, 1, 2, 3, 0, 1, 2, 0, 1, 2, 3, 0, 1, 2, 3, 0].getD k 0
theorem wk_1 : ∀ k, k < 62 → (ch_1 k ≠ 32 ∧ ch_1 k < 256 ∧ nj_1 (k + 1) = nj_1 k ∧ tj_1 (k + 1) = tj_1 k + 1 ∧ tj_1 k < 16 ∧ ch_1 k = fxb (nj_1 k) (tj_1 k)) ∨ (ch_1 k = 32 ∧ nj_1 (k + 1) = nj_1 k + 1 ∧ tj_1 (k + 1) = 0 ∧ nj_1 k < 83 ∧ tj_1 k = fxn (nj_1 k)) := by decide +kernel
theorem sn_meetAll1 {I : Nat → Int32} {L : Nat → Int64} {T : Nat → Nat → Int32} {U : Nat → Nat → Int64} (h : NS 13 I T U) : ∃ (I' : Nat → Int32) (L' : Nat → Int64) (T' : Nat → Nat → Int32) (U' : Nat → Nat → Int64), f_X4_meetAll (wn I L T U) [.ref 1, .ref 1000101] = some (none, wn I' L' T' U') ∧ NS 30 I' T' U' := by
  obtain ⟨rs, m, ⟨I', L', T', U', g1, g2⟩, hm, hz⟩ := lp (fun k (w : Value × rx_H) m => z_X4_meetAll f_X4_startDraft f_J0_length_8abf5 f_J0_charAt_5068e f_X4_meetDraft f_X4_addToDraft 6 [.ref 1, .ref 1000101, .int (nI k), w.1] [] w.2 m) (fun k w => ∃ (I' : Nat → Int32) (L' : Nat → Int64) (T' : Nat → Nat → Int32) (U' : Nat → Nat → Int64), w.2 = wn I' L' T' U' ∧ NS (nj_1 k) I' T' U' ∧ DR (nj_1 k) (tj_1 k) I' L') (fun rs => ∃ (I' : Nat → Int32) (L' : Nat → Int64) (T' : Nat → Nat → Int32) (U' : Nat → Nat → Int64), rs = (none, wn I' L' T' U') ∧ NS 30 I' T' U') 62 3 2 (by
    rintro k ⟨v, w⟩ hk ⟨I1, L1, T1, U1, g0, g1, g2⟩
    have g0 : w = wn I1 L1 T1 U1 := g0
    subst g0
    have hlt : ¬ nI 62 ≤ nI k := by
      rw [nI_leI (by omega) (by omega)]
      omega
    have e1 : nI k + 1 = nI (k + 1) := nI_add k 1
    rcases wk_1 k hk with ⟨a1, a2, a3, a4, a5, a6⟩ | ⟨a1, a2, a3, a4, a5⟩
    · obtain ⟨I2, L2, b1, b2, b3⟩ := nm_chr g1 g2 a5 a6
      refine .inl ⟨(.int (nI (ch_1 k)), wn I2 L2 T1 U1), 3, Nat.le_refl _, ⟨I2, L2, T1, U1, rfl, by rw [a3]; exact b2, by rw [a3, a4]; exact b3⟩, fun m rs hz => ?_⟩
      refine qa_1 _ _ _ _ _ _ _ _ _ _ _ _ _ _ _ _ _ (sl_1 _ _ _ _) hlt (sc_1 k hk) (fun e => a1 ((nI_eq (b := 32) (by omega) (by omega)).mp e)) b1 ?_
      rw [e1]
      exact hz
    · rw [a5] at g2
      obtain ⟨I2, L2, T2, U2, I3, L3, b1, b2, b3, b4⟩ := nm_spc g1 g2 a4
      refine .inl ⟨(.int (nI (ch_1 k)), wn I3 L3 T2 U2), 2, by decide, ⟨I3, L3, T2, U2, rfl, by rw [a2]; exact b3, by rw [a3]; exact b4 _⟩, fun m rs hz => ?_⟩
      refine qs_1 _ _ _ _ _ _ _ _ _ _ _ _ _ _ _ _ _ _ _ _ _ _ (sl_1 _ _ _ _) hlt (sc_1 k hk) (by rw [a1]; rfl) b1 b2 ?_
      rw [e1]
      exact hz) (by
    rintro ⟨v, w⟩ ⟨I1, L1, T1, U1, g0, g1, g2⟩
    have g0 : w = wn I1 L1 T1 U1 := g0
    subst g0
    exact ⟨_, 2, Nat.le_refl _, ⟨I1, L1, T1, U1, rfl, g1⟩, qe_1 (m := 0) _ _ _ _ _ _ _ _ _ _ _ _ (sl_1 _ _ _ _) (by decide)⟩) 62 0 (.null, wn (uI I 1 0) (uL (uL L 0 0) 1 0) T U) (by omega) ⟨uI I 1 0, uL (uL L 0 0) 1 0, T, U, rfl, ⟨(uI_ne _ _ (by decide)).trans h.1, h.2⟩, (uI_at _ _ _).trans rfl, ((uL_ne _ _ (by decide)).trans (uL_at _ _ _)).trans (lN_pk0 _).1, (uL_at _ _ _).trans (lN_pk0 _).2⟩
  refine ⟨I', L', T', U', ?_, g2⟩
  rw [fv_X4_meetAll_eq, ← g1]
  exact pm_1 _ _ _ _ _ _ _ _ _ _ _ _ _ sn_startDraft (m := m) (by omega) hz
def nj_2 (k : Nat) : Nat := [30, 30, 30, 30, 30, 31, 31, 31, 31, 31, 31, 32, 32, 32, 32, 32, 33, 33, 33, 33, 33, 33, 34, 34, 34, 34, 34, 34, 34, 35, 35, 35, 35, 35, 35, 35, 36, 36, 36, 36, 37, 37, 37, 37, 38, 38, 38, 38, 38, 38, 38, 38, 38, 38, 38, 38, 39, 39, 39, 39, 39, 39, 39, 39, 39, 39, 39, 39, 40, 40, 40, 40, 40, 40, 41, 41, 41, 41, 41, 41, 41, 42].getD k 0
def tj_2 (k : Nat) : Nat := [0, 1, 2, 3, 4, 0, 1, 2, 3, 4, 5, 0, 1, 2, 3, 4, 0, 1, 2, 3, 4, 5, 0, 1, 2, 3, 4, 5, 6, 0, 1, 2, 3, 4, 5, 6, 0, 1, 2, 3, 0, 1, 2, 3, 0, 1, 2, 3, 4, 5, 6, 7, 8, 9, 10, 11, 0, 1, 2, 3, 4, 5, 6, 7, 8, 9, 10, 11, 0, 1, 2, 3, 4, 5, 0, 1, 2, 3, 4, 5, 6, 0].getD k 0
theorem wk_2 : ∀ k, k < 81 → (ch_2 k ≠ 32 ∧ ch_2 k < 256 ∧ nj_2 (k + 1) = nj_2 k ∧ tj_2 (k + 1) = tj_2 k + 1 ∧ tj_2 k < 16 ∧ ch_2 k = fxb (nj_2 k) (tj_2 k)) ∨ (ch_2 k = 32 ∧ nj_2 (k + 1) = nj_2 k + 1 ∧ tj_2 (k + 1) = 0 ∧ nj_2 k < 83 ∧ tj_2 k = fxn (nj_2 k)) := by decide +kernel
theorem sn_meetAll2 {I : Nat → Int32} {L : Nat → Int64} {T : Nat → Nat → Int32} {U : Nat → Nat → Int64} (h : NS 30 I T U) : ∃ (I' : Nat → Int32) (L' : Nat → Int64) (T' : Nat → Nat → Int32) (U' : Nat → Nat → Int64), f_X4_meetAll (wn I L T U) [.ref 1, .ref 1000102] = some (none, wn I' L' T' U') ∧ NS 42 I' T' U' := by
  obtain ⟨rs, m, ⟨I', L', T', U', g1, g2⟩, hm, hz⟩ := lp (fun k (w : Value × rx_H) m => z_X4_meetAll f_X4_startDraft f_J0_length_8abf5 f_J0_charAt_5068e f_X4_meetDraft f_X4_addToDraft 6 [.ref 1, .ref 1000102, .int (nI k), w.1] [] w.2 m) (fun k w => ∃ (I' : Nat → Int32) (L' : Nat → Int64) (T' : Nat → Nat → Int32) (U' : Nat → Nat → Int64), w.2 = wn I' L' T' U' ∧ NS (nj_2 k) I' T' U' ∧ DR (nj_2 k) (tj_2 k) I' L') (fun rs => ∃ (I' : Nat → Int32) (L' : Nat → Int64) (T' : Nat → Nat → Int32) (U' : Nat → Nat → Int64), rs = (none, wn I' L' T' U') ∧ NS 42 I' T' U') 81 3 2 (by
    rintro k ⟨v, w⟩ hk ⟨I1, L1, T1, U1, g0, g1, g2⟩
    have g0 : w = wn I1 L1 T1 U1 := g0
    subst g0
    have hlt : ¬ nI 81 ≤ nI k := by
      rw [nI_leI (by omega) (by omega)]
      omega
    have e1 : nI k + 1 = nI (k + 1) := nI_add k 1
    rcases wk_2 k hk with ⟨a1, a2, a3, a4, a5, a6⟩ | ⟨a1, a2, a3, a4, a5⟩
    · obtain ⟨I2, L2, b1, b2, b3⟩ := nm_chr g1 g2 a5 a6
      refine .inl ⟨(.int (nI (ch_2 k)), wn I2 L2 T1 U1), 3, Nat.le_refl _, ⟨I2, L2, T1, U1, rfl, by rw [a3]; exact b2, by rw [a3, a4]; exact b3⟩, fun m rs hz => ?_⟩
      refine qa_2 _ _ _ _ _ _ _ _ _ _ _ _ _ _ _ _ _ (sl_2 _ _ _ _) hlt (sc_2 k hk) (fun e => a1 ((nI_eq (b := 32) (by omega) (by omega)).mp e)) b1 ?_
      rw [e1]
      exact hz
    · rw [a5] at g2
      obtain ⟨I2, L2, T2, U2, I3, L3, b1, b2, b3, b4⟩ := nm_spc g1 g2 a4
      refine .inl ⟨(.int (nI (ch_2 k)), wn I3 L3 T2 U2), 2, by decide, ⟨I3, L3, T2, U2, rfl, by rw [a2]; exact b3, by rw [a3]; exact b4 _⟩, fun m rs hz => ?_⟩
      refine qs_2 _ _ _ _ _ _ _ _ _ _ _ _ _ _ _ _ _ _ _ _ _ _ (sl_2 _ _ _ _) hlt (sc_2 k hk) (by rw [a1]; rfl) b1 b2 ?_
      rw [e1]
      exact hz) (by
    rintro ⟨v, w⟩ ⟨I1, L1, T1, U1, g0, g1, g2⟩
    have g0 : w = wn I1 L1 T1 U1 := g0
    subst g0
    exact ⟨_, 2, Nat.le_refl _, ⟨I1, L1, T1, U1, rfl, g1⟩, qe_2 (m := 0) _ _ _ _ _ _ _ _ _ _ _ _ (sl_2 _ _ _ _) (by decide)⟩) 81 0 (.null, wn (uI I 1 0) (uL (uL L 0 0) 1 0) T U) (by omega) ⟨uI I 1 0, uL (uL L 0 0) 1 0, T, U, rfl, ⟨(uI_ne _ _ (by decide)).trans h.1, h.2⟩, (uI_at _ _ _).trans rfl, ((uL_ne _ _ (by decide)).trans (uL_at _ _ _)).trans (lN_pk0 _).1, (uL_at _ _ _).trans (lN_pk0 _).2⟩
  refine ⟨I', L', T', U', ?_, g2⟩
  rw [fv_X4_meetAll_eq, ← g1]
  exact pm_2 _ _ _ _ _ _ _ _ _ _ _ _ _ sn_startDraft (m := m) (by omega) hz
def nj_3 (k : Nat) : Nat := [42, 42, 43, 43, 43, 44, 44, 44, 44, 44, 45, 45, 45, 45, 45, 45, 46, 46, 46, 46, 47, 47, 47, 47, 48, 48, 48, 48, 48, 49, 49, 49, 49, 49, 49, 50, 50, 50, 50, 50, 50, 51, 51, 51, 51, 51, 51, 52, 52, 52, 52, 52, 52, 53, 53, 53, 53, 53, 53, 53, 53, 53, 53, 53, 53, 54, 54, 54, 54, 54, 54, 54, 54, 54, 54, 54, 54, 54, 54, 54, 55].getD k 0
def tj_3 (k : Nat) : Nat := [0, 1, 0, 1, 2, 0, 1, 2, 3, 4, 0, 1, 2, 3, 4, 5, 0, 1, 2, 3, 0, 1, 2, 3, 0, 1, 2, 3, 4, 0, 1, 2, 3, 4, 5, 0, 1, 2, 3, 4, 5, 0, 1, 2, 3, 4, 5, 0, 1, 2, 3, 4, 5, 0, 1, 2, 3, 4, 5, 6, 7, 8, 9, 10, 11, 0, 1, 2, 3, 4, 5, 6, 7, 8, 9, 10, 11, 12, 13, 14, 0].getD k 0
theorem wk_3 : ∀ k, k < 80 → (ch_3 k ≠ 32 ∧ ch_3 k < 256 ∧ nj_3 (k + 1) = nj_3 k ∧ tj_3 (k + 1) = tj_3 k + 1 ∧ tj_3 k < 16 ∧ ch_3 k = fxb (nj_3 k) (tj_3 k)) ∨ (ch_3 k = 32 ∧ nj_3 (k + 1) = nj_3 k + 1 ∧ tj_3 (k + 1) = 0 ∧ nj_3 k < 83 ∧ tj_3 k = fxn (nj_3 k)) := by decide +kernel
theorem sn_meetAll3 {I : Nat → Int32} {L : Nat → Int64} {T : Nat → Nat → Int32} {U : Nat → Nat → Int64} (h : NS 42 I T U) : ∃ (I' : Nat → Int32) (L' : Nat → Int64) (T' : Nat → Nat → Int32) (U' : Nat → Nat → Int64), f_X4_meetAll (wn I L T U) [.ref 1, .ref 1000103] = some (none, wn I' L' T' U') ∧ NS 55 I' T' U' := by
  obtain ⟨rs, m, ⟨I', L', T', U', g1, g2⟩, hm, hz⟩ := lp (fun k (w : Value × rx_H) m => z_X4_meetAll f_X4_startDraft f_J0_length_8abf5 f_J0_charAt_5068e f_X4_meetDraft f_X4_addToDraft 6 [.ref 1, .ref 1000103, .int (nI k), w.1] [] w.2 m) (fun k w => ∃ (I' : Nat → Int32) (L' : Nat → Int64) (T' : Nat → Nat → Int32) (U' : Nat → Nat → Int64), w.2 = wn I' L' T' U' ∧ NS (nj_3 k) I' T' U' ∧ DR (nj_3 k) (tj_3 k) I' L') (fun rs => ∃ (I' : Nat → Int32) (L' : Nat → Int64) (T' : Nat → Nat → Int32) (U' : Nat → Nat → Int64), rs = (none, wn I' L' T' U') ∧ NS 55 I' T' U') 80 3 2 (by
    rintro k ⟨v, w⟩ hk ⟨I1, L1, T1, U1, g0, g1, g2⟩
    have g0 : w = wn I1 L1 T1 U1 := g0
    subst g0
    have hlt : ¬ nI 80 ≤ nI k := by
      rw [nI_leI (by omega) (by omega)]
      omega
    have e1 : nI k + 1 = nI (k + 1) := nI_add k 1
    rcases wk_3 k hk with ⟨a1, a2, a3, a4, a5, a6⟩ | ⟨a1, a2, a3, a4, a5⟩
    · obtain ⟨I2, L2, b1, b2, b3⟩ := nm_chr g1 g2 a5 a6
      refine .inl ⟨(.int (nI (ch_3 k)), wn I2 L2 T1 U1), 3, Nat.le_refl _, ⟨I2, L2, T1, U1, rfl, by rw [a3]; exact b2, by rw [a3, a4]; exact b3⟩, fun m rs hz => ?_⟩
      refine qa_3 _ _ _ _ _ _ _ _ _ _ _ _ _ _ _ _ _ (sl_3 _ _ _ _) hlt (sc_3 k hk) (fun e => a1 ((nI_eq (b := 32) (by omega) (by omega)).mp e)) b1 ?_
      rw [e1]
      exact hz
    · rw [a5] at g2
      obtain ⟨I2, L2, T2, U2, I3, L3, b1, b2, b3, b4⟩ := nm_spc g1 g2 a4
      refine .inl ⟨(.int (nI (ch_3 k)), wn I3 L3 T2 U2), 2, by decide, ⟨I3, L3, T2, U2, rfl, by rw [a2]; exact b3, by rw [a3]; exact b4 _⟩, fun m rs hz => ?_⟩
      refine qs_3 _ _ _ _ _ _ _ _ _ _ _ _ _ _ _ _ _ _ _ _ _ _ (sl_3 _ _ _ _) hlt (sc_3 k hk) (by rw [a1]; rfl) b1 b2 ?_
      rw [e1]
      exact hz) (by
    rintro ⟨v, w⟩ ⟨I1, L1, T1, U1, g0, g1, g2⟩
    have g0 : w = wn I1 L1 T1 U1 := g0
    subst g0
    exact ⟨_, 2, Nat.le_refl _, ⟨I1, L1, T1, U1, rfl, g1⟩, qe_3 (m := 0) _ _ _ _ _ _ _ _ _ _ _ _ (sl_3 _ _ _ _) (by decide)⟩) 80 0 (.null, wn (uI I 1 0) (uL (uL L 0 0) 1 0) T U) (by omega) ⟨uI I 1 0, uL (uL L 0 0) 1 0, T, U, rfl, ⟨(uI_ne _ _ (by decide)).trans h.1, h.2⟩, (uI_at _ _ _).trans rfl, ((uL_ne _ _ (by decide)).trans (uL_at _ _ _)).trans (lN_pk0 _).1, (uL_at _ _ _).trans (lN_pk0 _).2⟩
  refine ⟨I', L', T', U', ?_, g2⟩
  rw [fv_X4_meetAll_eq, ← g1]
  exact pm_3 _ _ _ _ _ _ _ _ _ _ _ _ _ sn_startDraft (m := m) (by omega) hz
def nj_4 (k : Nat) : Nat := [55, 55, 55, 55, 55, 55, 55, 55, 55, 55, 56, 56, 56, 56, 56, 57, 57, 57, 58, 58, 58, 58, 58, 58, 58, 59, 59, 59, 59, 60, 60, 60, 60, 60, 60, 60, 61, 61, 61, 61, 61, 62, 62, 62, 62, 62, 62, 62, 63, 63, 63, 63, 63, 64, 64, 64, 64, 64, 65, 65, 65, 65, 65, 65, 65, 65, 66, 66, 66, 66, 66, 67].getD k 0
def tj_4 (k : Nat) : Nat := [0, 1, 2, 3, 4, 5, 6, 7, 8, 9, 0, 1, 2, 3, 4, 0, 1, 2, 0, 1, 2, 3, 4, 5, 6, 0, 1, 2, 3, 0, 1, 2, 3, 4, 5, 6, 0, 1, 2, 3, 4, 0, 1, 2, 3, 4, 5, 6, 0, 1, 2, 3, 4, 0, 1, 2, 3, 4, 0, 1, 2, 3, 4, 5, 6, 7, 0, 1, 2, 3, 4, 0].getD k 0
theorem wk_4 : ∀ k, k < 71 → (ch_4 k ≠ 32 ∧ ch_4 k < 256 ∧ nj_4 (k + 1) = nj_4 k ∧ tj_4 (k + 1) = tj_4 k + 1 ∧ tj_4 k < 16 ∧ ch_4 k = fxb (nj_4 k) (tj_4 k)) ∨ (ch_4 k = 32 ∧ nj_4 (k + 1) = nj_4 k + 1 ∧ tj_4 (k + 1) = 0 ∧ nj_4 k < 83 ∧ tj_4 k = fxn (nj_4 k)) := by decide +kernel
theorem sn_meetAll4 {I : Nat → Int32} {L : Nat → Int64} {T : Nat → Nat → Int32} {U : Nat → Nat → Int64} (h : NS 55 I T U) : ∃ (I' : Nat → Int32) (L' : Nat → Int64) (T' : Nat → Nat → Int32) (U' : Nat → Nat → Int64), f_X4_meetAll (wn I L T U) [.ref 1, .ref 1000104] = some (none, wn I' L' T' U') ∧ NS 67 I' T' U' := by
  obtain ⟨rs, m, ⟨I', L', T', U', g1, g2⟩, hm, hz⟩ := lp (fun k (w : Value × rx_H) m => z_X4_meetAll f_X4_startDraft f_J0_length_8abf5 f_J0_charAt_5068e f_X4_meetDraft f_X4_addToDraft 6 [.ref 1, .ref 1000104, .int (nI k), w.1] [] w.2 m) (fun k w => ∃ (I' : Nat → Int32) (L' : Nat → Int64) (T' : Nat → Nat → Int32) (U' : Nat → Nat → Int64), w.2 = wn I' L' T' U' ∧ NS (nj_4 k) I' T' U' ∧ DR (nj_4 k) (tj_4 k) I' L') (fun rs => ∃ (I' : Nat → Int32) (L' : Nat → Int64) (T' : Nat → Nat → Int32) (U' : Nat → Nat → Int64), rs = (none, wn I' L' T' U') ∧ NS 67 I' T' U') 71 3 2 (by
    rintro k ⟨v, w⟩ hk ⟨I1, L1, T1, U1, g0, g1, g2⟩
    have g0 : w = wn I1 L1 T1 U1 := g0
    subst g0
    have hlt : ¬ nI 71 ≤ nI k := by
      rw [nI_leI (by omega) (by omega)]
      omega
    have e1 : nI k + 1 = nI (k + 1) := nI_add k 1
    rcases wk_4 k hk with ⟨a1, a2, a3, a4, a5, a6⟩ | ⟨a1, a2, a3, a4, a5⟩
    · obtain ⟨I2, L2, b1, b2, b3⟩ := nm_chr g1 g2 a5 a6
      refine .inl ⟨(.int (nI (ch_4 k)), wn I2 L2 T1 U1), 3, Nat.le_refl _, ⟨I2, L2, T1, U1, rfl, by rw [a3]; exact b2, by rw [a3, a4]; exact b3⟩, fun m rs hz => ?_⟩
      refine qa_4 _ _ _ _ _ _ _ _ _ _ _ _ _ _ _ _ _ (sl_4 _ _ _ _) hlt (sc_4 k hk) (fun e => a1 ((nI_eq (b := 32) (by omega) (by omega)).mp e)) b1 ?_
      rw [e1]
      exact hz
    · rw [a5] at g2
      obtain ⟨I2, L2, T2, U2, I3, L3, b1, b2, b3, b4⟩ := nm_spc g1 g2 a4
      refine .inl ⟨(.int (nI (ch_4 k)), wn I3 L3 T2 U2), 2, by decide, ⟨I3, L3, T2, U2, rfl, by rw [a2]; exact b3, by rw [a3]; exact b4 _⟩, fun m rs hz => ?_⟩
      refine qs_4 _ _ _ _ _ _ _ _ _ _ _ _ _ _ _ _ _ _ _ _ _ _ (sl_4 _ _ _ _) hlt (sc_4 k hk) (by rw [a1]; rfl) b1 b2 ?_
      rw [e1]
      exact hz) (by
    rintro ⟨v, w⟩ ⟨I1, L1, T1, U1, g0, g1, g2⟩
    have g0 : w = wn I1 L1 T1 U1 := g0
    subst g0
    exact ⟨_, 2, Nat.le_refl _, ⟨I1, L1, T1, U1, rfl, g1⟩, qe_4 (m := 0) _ _ _ _ _ _ _ _ _ _ _ _ (sl_4 _ _ _ _) (by decide)⟩) 71 0 (.null, wn (uI I 1 0) (uL (uL L 0 0) 1 0) T U) (by omega) ⟨uI I 1 0, uL (uL L 0 0) 1 0, T, U, rfl, ⟨(uI_ne _ _ (by decide)).trans h.1, h.2⟩, (uI_at _ _ _).trans rfl, ((uL_ne _ _ (by decide)).trans (uL_at _ _ _)).trans (lN_pk0 _).1, (uL_at _ _ _).trans (lN_pk0 _).2⟩
  refine ⟨I', L', T', U', ?_, g2⟩
  rw [fv_X4_meetAll_eq, ← g1]
  exact pm_4 _ _ _ _ _ _ _ _ _ _ _ _ _ sn_startDraft (m := m) (by omega) hz
def nj_5 (k : Nat) : Nat := [67, 67, 67, 67, 67, 68, 68, 68, 68, 69, 69, 69, 69, 69, 69, 70, 70, 70, 70, 70, 70, 70, 71, 71, 71, 71, 71, 72, 72, 73, 73, 73, 73, 73, 73, 74, 74, 74, 74, 74, 74, 74, 74, 74, 75, 75, 75, 75, 75, 75, 75, 75, 75, 75, 75, 75, 76, 76, 76, 76, 76, 76, 76, 76, 76, 76, 76, 76, 77].getD k 0
def tj_5 (k : Nat) : Nat := [0, 1, 2, 3, 4, 0, 1, 2, 3, 0, 1, 2, 3, 4, 5, 0, 1, 2, 3, 4, 5, 6, 0, 1, 2, 3, 4, 0, 1, 0, 1, 2, 3, 4, 5, 0, 1, 2, 3, 4, 5, 6, 7, 8, 0, 1, 2, 3, 4, 5, 6, 7, 8, 9, 10, 11, 0, 1, 2, 3, 4, 5, 6, 7, 8, 9, 10, 11, 0].getD k 0
theorem wk_5 : ∀ k, k < 68 → (ch_5 k ≠ 32 ∧ ch_5 k < 256 ∧ nj_5 (k + 1) = nj_5 k ∧ tj_5 (k + 1) = tj_5 k + 1 ∧ tj_5 k < 16 ∧ ch_5 k = fxb (nj_5 k) (tj_5 k)) ∨ (ch_5 k = 32 ∧ nj_5 (k + 1) = nj_5 k + 1 ∧ tj_5 (k + 1) = 0 ∧ nj_5 k < 83 ∧ tj_5 k = fxn (nj_5 k)) := by decide +kernel
theorem sn_meetAll5 {I : Nat → Int32} {L : Nat → Int64} {T : Nat → Nat → Int32} {U : Nat → Nat → Int64} (h : NS 67 I T U) : ∃ (I' : Nat → Int32) (L' : Nat → Int64) (T' : Nat → Nat → Int32) (U' : Nat → Nat → Int64), f_X4_meetAll (wn I L T U) [.ref 1, .ref 1000105] = some (none, wn I' L' T' U') ∧ NS 77 I' T' U' := by
  obtain ⟨rs, m, ⟨I', L', T', U', g1, g2⟩, hm, hz⟩ := lp (fun k (w : Value × rx_H) m => z_X4_meetAll f_X4_startDraft f_J0_length_8abf5 f_J0_charAt_5068e f_X4_meetDraft f_X4_addToDraft 6 [.ref 1, .ref 1000105, .int (nI k), w.1] [] w.2 m) (fun k w => ∃ (I' : Nat → Int32) (L' : Nat → Int64) (T' : Nat → Nat → Int32) (U' : Nat → Nat → Int64), w.2 = wn I' L' T' U' ∧ NS (nj_5 k) I' T' U' ∧ DR (nj_5 k) (tj_5 k) I' L') (fun rs => ∃ (I' : Nat → Int32) (L' : Nat → Int64) (T' : Nat → Nat → Int32) (U' : Nat → Nat → Int64), rs = (none, wn I' L' T' U') ∧ NS 77 I' T' U') 68 3 2 (by
    rintro k ⟨v, w⟩ hk ⟨I1, L1, T1, U1, g0, g1, g2⟩
    have g0 : w = wn I1 L1 T1 U1 := g0
    subst g0
    have hlt : ¬ nI 68 ≤ nI k := by
      rw [nI_leI (by omega) (by omega)]
      omega
    have e1 : nI k + 1 = nI (k + 1) := nI_add k 1
    rcases wk_5 k hk with ⟨a1, a2, a3, a4, a5, a6⟩ | ⟨a1, a2, a3, a4, a5⟩
    · obtain ⟨I2, L2, b1, b2, b3⟩ := nm_chr g1 g2 a5 a6
      refine .inl ⟨(.int (nI (ch_5 k)), wn I2 L2 T1 U1), 3, Nat.le_refl _, ⟨I2, L2, T1, U1, rfl, by rw [a3]; exact b2, by rw [a3, a4]; exact b3⟩, fun m rs hz => ?_⟩
      refine qa_5 _ _ _ _ _ _ _ _ _ _ _ _ _ _ _ _ _ (sl_5 _ _ _ _) hlt (sc_5 k hk) (fun e => a1 ((nI_eq (b := 32) (by omega) (by omega)).mp e)) b1 ?_
      rw [e1]
      exact hz
    · rw [a5] at g2
      obtain ⟨I2, L2, T2, U2, I3, L3, b1, b2, b3, b4⟩ := nm_spc g1 g2 a4
      refine .inl ⟨(.int (nI (ch_5 k)), wn I3 L3 T2 U2), 2, by decide, ⟨I3, L3, T2, U2, rfl, by rw [a2]; exact b3, by rw [a3]; exact b4 _⟩, fun m rs hz => ?_⟩
      refine qs_5 _ _ _ _ _ _ _ _ _ _ _ _ _ _ _ _ _ _ _ _ _ _ (sl_5 _ _ _ _) hlt (sc_5 k hk) (by rw [a1]; rfl) b1 b2 ?_
      rw [e1]
      exact hz) (by
    rintro ⟨v, w⟩ ⟨I1, L1, T1, U1, g0, g1, g2⟩
    have g0 : w = wn I1 L1 T1 U1 := g0
    subst g0
    exact ⟨_, 2, Nat.le_refl _, ⟨I1, L1, T1, U1, rfl, g1⟩, qe_5 (m := 0) _ _ _ _ _ _ _ _ _ _ _ _ (sl_5 _ _ _ _) (by decide)⟩) 68 0 (.null, wn (uI I 1 0) (uL (uL L 0 0) 1 0) T U) (by omega) ⟨uI I 1 0, uL (uL L 0 0) 1 0, T, U, rfl, ⟨(uI_ne _ _ (by decide)).trans h.1, h.2⟩, (uI_at _ _ _).trans rfl, ((uL_ne _ _ (by decide)).trans (uL_at _ _ _)).trans (lN_pk0 _).1, (uL_at _ _ _).trans (lN_pk0 _).2⟩
  refine ⟨I', L', T', U', ?_, g2⟩
  rw [fv_X4_meetAll_eq, ← g1]
  exact pm_5 _ _ _ _ _ _ _ _ _ _ _ _ _ sn_startDraft (m := m) (by omega) hz
def nj_6 (k : Nat) : Nat := [77, 77, 77, 77, 77, 77, 77, 77, 77, 78, 78, 78, 78, 78, 78, 78, 78, 78, 79, 79, 79, 79, 79, 79, 79, 79, 79, 79, 80, 80, 80, 80, 80, 80, 80, 80, 80, 80, 80, 81, 81, 81, 81, 81, 81, 81, 81, 81, 82, 82, 82, 82, 82, 82, 82, 82, 82, 82, 82, 82, 82, 83].getD k 0
def tj_6 (k : Nat) : Nat := [0, 1, 2, 3, 4, 5, 6, 7, 8, 0, 1, 2, 3, 4, 5, 6, 7, 8, 0, 1, 2, 3, 4, 5, 6, 7, 8, 9, 0, 1, 2, 3, 4, 5, 6, 7, 8, 9, 10, 0, 1, 2, 3, 4, 5, 6, 7, 8, 0, 1, 2, 3, 4, 5, 6, 7, 8, 9, 10, 11, 12, 0].getD k 0
theorem wk_6 : ∀ k, k < 61 → (ch_6 k ≠ 32 ∧ ch_6 k < 256 ∧ nj_6 (k + 1) = nj_6 k ∧ tj_6 (k + 1) = tj_6 k + 1 ∧ tj_6 k < 16 ∧ ch_6 k = fxb (nj_6 k) (tj_6 k)) ∨ (ch_6 k = 32 ∧ nj_6 (k + 1) = nj_6 k + 1 ∧ tj_6 (k + 1) = 0 ∧ nj_6 k < 83 ∧ tj_6 k = fxn (nj_6 k)) := by decide +kernel
theorem sn_meetAll6 {I : Nat → Int32} {L : Nat → Int64} {T : Nat → Nat → Int32} {U : Nat → Nat → Int64} (h : NS 77 I T U) : ∃ (I' : Nat → Int32) (L' : Nat → Int64) (T' : Nat → Nat → Int32) (U' : Nat → Nat → Int64), f_X4_meetAll (wn I L T U) [.ref 1, .ref 1000106] = some (none, wn I' L' T' U') ∧ NS 83 I' T' U' := by
  obtain ⟨rs, m, ⟨I', L', T', U', g1, g2⟩, hm, hz⟩ := lp (fun k (w : Value × rx_H) m => z_X4_meetAll f_X4_startDraft f_J0_length_8abf5 f_J0_charAt_5068e f_X4_meetDraft f_X4_addToDraft 6 [.ref 1, .ref 1000106, .int (nI k), w.1] [] w.2 m) (fun k w => ∃ (I' : Nat → Int32) (L' : Nat → Int64) (T' : Nat → Nat → Int32) (U' : Nat → Nat → Int64), w.2 = wn I' L' T' U' ∧ NS (nj_6 k) I' T' U' ∧ DR (nj_6 k) (tj_6 k) I' L') (fun rs => ∃ (I' : Nat → Int32) (L' : Nat → Int64) (T' : Nat → Nat → Int32) (U' : Nat → Nat → Int64), rs = (none, wn I' L' T' U') ∧ NS 83 I' T' U') 61 3 2 (by
    rintro k ⟨v, w⟩ hk ⟨I1, L1, T1, U1, g0, g1, g2⟩
    have g0 : w = wn I1 L1 T1 U1 := g0
    subst g0
    have hlt : ¬ nI 61 ≤ nI k := by
      rw [nI_leI (by omega) (by omega)]
      omega
    have e1 : nI k + 1 = nI (k + 1) := nI_add k 1
    rcases wk_6 k hk with ⟨a1, a2, a3, a4, a5, a6⟩ | ⟨a1, a2, a3, a4, a5⟩
    · obtain ⟨I2, L2, b1, b2, b3⟩ := nm_chr g1 g2 a5 a6
      refine .inl ⟨(.int (nI (ch_6 k)), wn I2 L2 T1 U1), 3, Nat.le_refl _, ⟨I2, L2, T1, U1, rfl, by rw [a3]; exact b2, by rw [a3, a4]; exact b3⟩, fun m rs hz => ?_⟩
      refine qa_6 _ _ _ _ _ _ _ _ _ _ _ _ _ _ _ _ _ (sl_6 _ _ _ _) hlt (sc_6 k hk) (fun e => a1 ((nI_eq (b := 32) (by omega) (by omega)).mp e)) b1 ?_
      rw [e1]
      exact hz
    · rw [a5] at g2
      obtain ⟨I2, L2, T2, U2, I3, L3, b1, b2, b3, b4⟩ := nm_spc g1 g2 a4
      refine .inl ⟨(.int (nI (ch_6 k)), wn I3 L3 T2 U2), 2, by decide, ⟨I3, L3, T2, U2, rfl, by rw [a2]; exact b3, by rw [a3]; exact b4 _⟩, fun m rs hz => ?_⟩
      refine qs_6 _ _ _ _ _ _ _ _ _ _ _ _ _ _ _ _ _ _ _ _ _ _ (sl_6 _ _ _ _) hlt (sc_6 k hk) (by rw [a1]; rfl) b1 b2 ?_
      rw [e1]
      exact hz) (by
    rintro ⟨v, w⟩ ⟨I1, L1, T1, U1, g0, g1, g2⟩
    have g0 : w = wn I1 L1 T1 U1 := g0
    subst g0
    exact ⟨_, 2, Nat.le_refl _, ⟨I1, L1, T1, U1, rfl, g1⟩, qe_6 (m := 0) _ _ _ _ _ _ _ _ _ _ _ _ (sl_6 _ _ _ _) (by decide)⟩) 61 0 (.null, wn (uI I 1 0) (uL (uL L 0 0) 1 0) T U) (by omega) ⟨uI I 1 0, uL (uL L 0 0) 1 0, T, U, rfl, ⟨(uI_ne _ _ (by decide)).trans h.1, h.2⟩, (uI_at _ _ _).trans rfl, ((uL_ne _ _ (by decide)).trans (uL_at _ _ _)).trans (lN_pk0 _).1, (uL_at _ _ _).trans (lN_pk0 _).2⟩
  refine ⟨I', L', T', U', ?_, g2⟩
  rw [fv_X4_meetAll_eq, ← g1]
  exact pm_6 _ _ _ _ _ _ _ _ _ _ _ _ _ sn_startDraft (m := m) (by omega) hz
