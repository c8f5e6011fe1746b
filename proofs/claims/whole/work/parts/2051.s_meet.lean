theorem pkl_congr {b c : Nat → Nat} {k : Nat} (hk : k ≤ 16) (h : ∀ i, i < k → b i = c i) : pkl b k = pkl c k ∧ pkh b k = pkh c k := by
  unfold pkl pkh
  constructor
  · refine qk_congr (fun i hi => h i ?_)
    split at hi <;> omega
  · refine qk_congr (fun i hi => h (i + 8) ?_)
    split at hi
    · omega
    · split at hi <;> omega
theorem pkl_inj {b c : Nat → Nat} {k : Nat} (hk : k ≤ 16) (hb : ∀ i, b i < 256) (hc : ∀ i, c i < 256) (h0 : lN (pkl b k) = lN (pkl c k)) (h1 : lN (pkh b k) = lN (pkh c k)) : ∀ i, i < k → b i = c i := by
  have e0 := lN_inj (qk_64 (fun i _ => hb i) (by split <;> omega)) (qk_64 (fun i _ => hc i) (by split <;> omega)) h0
  have e1 := lN_inj (qk_64 (fun i _ => hb (i + 8)) (by split <;> (try split) <;> omega)) (qk_64 (fun i _ => hc (i + 8)) (by split <;> (try split) <;> omega)) h1
  intro i hi
  by_cases h : i < 8
  · exact qk_inj (fun i _ => hb i) (fun i _ => hc i) e0 i (by split <;> omega)
  · have q := qk_inj (fun i _ => hb (i + 8)) (fun i _ => hc (i + 8)) e1 (i - 8) (by rw [if_neg (by omega)]; split <;> omega)
    rw [show i - 8 + 8 = i by omega] at q
    exact q
theorem me_1 {m k fr : Nat} {I : Nat → Int32} {L : Nat → Int64} {T : Nat → Nat → Int32} {U : Nat → Nat → Int64} {J : Nat → Int32} {S : Nat → Nat → Int32} {K : Nat → Int64} {x y : Int32} {b : Nat → Nat} (hR : RN m (I 0) (T 0) (U 0) (U 1) (J 10) (S 9) (S 10)) (e1 : I 1 = nI k) (hk : k ≤ 600) (hb : ∀ i, b i < 256) (eL0 : L 0 = lN (pkl b k)) (eL1 : L 1 = lN (pkh b k)) (ex : x = nI fr) (ey : y = nI k) (hf : fr + k ≤ 300) (hs : ∀ i, i < k → S 0 (fr + i) = nI (b i)) :
    (f_X4_meetDraft (wc I L T U) [.ref 1] = some (some (.int (Int32.ofInt (-1))), wc I L T U) ∧ f_X12_nameOf (wr J S K) [.ref 0, .ref 1, .int x, .int y] = some (some (.int (Int32.ofInt (-1))), wr J S K) ∧ (16 < k ∨ ∀ j, j < m → ¬ (U 0 j = L 0 ∧ U 1 j = L 1 ∧ T 0 j = I 1))) ∨
    (∃ j, j < m ∧ f_X4_meetDraft (wc I L T U) [.ref 1] = some (some (.int (nI j)), wc I L T U) ∧ f_X12_nameOf (wr J S K) [.ref 0, .ref 1, .int x, .int y] = some (some (.int (nI j)), wr J S K) ∧ k ≤ 16 ∧ (U 0 j = L 0 ∧ U 1 j = L 1 ∧ T 0 j = I 1)) ∨
    (∃ f, m < 160 ∧ f_X4_meetDraft (wc I L T U) [.ref 1] = some (some (.int (nI m)), wc (uI I 0 (nI (m + 1))) L (uT T 0 (upd (T 0) m (nI k))) (uU (uU U 0 (vp_updL (U 0) m (L 0))) 1 (vp_updL (U 1) m (L 1)))) ∧ f_X12_nameOf (wr J S K) [.ref 0, .ref 1, .int x, .int y] = some (some (.int (nI m)), wr (uI J 10 (nI (m + 1))) (uT (uT S 10 f) 9 (upd (S 9) m (nI k))) K) ∧ RN (m + 1) (nI (m + 1)) (upd (T 0) m (nI k)) (vp_updL (U 0) m (L 0)) (vp_updL (U 1) m (L 1)) (nI (m + 1)) (upd (S 9) m (nI k)) f ∧ k ≤ 16) := by
  obtain ⟨h83, h160, e0, e10, hn, hd, hx⟩ := hR
  by_cases hk16 : 16 < k
  · exact .inl ⟨s_meetL e1 hk16 (by omega), t_nameOfL_1 ey hk16 (by omega), .inl hk16⟩
  have eqv : ∀ j, j < m → ((U 0 j = L 0 ∧ U 1 j = L 1 ∧ T 0 j = I 1) ↔ (S 9 j = nI k ∧ ∀ i, i < k → S 10 (16 * j + i) = S 0 (fr + i))) := by
    intro j hj
    obtain ⟨l, c, a1, a2, a3, a4, a5, a6, a7⟩ := hn j hj
    constructor
    · rintro ⟨q0, q1, q2⟩
      rw [a3, e1] at q2
      have hl : l = k := (nI_eq (by omega) (by omega)).mp q2
      subst hl
      refine ⟨a4, fun i hi => ?_⟩
      rw [a5, eL0] at q0
      rw [a6, eL1] at q1
      rw [a7 i hi, hs i hi, pkl_inj a1 a2 hb q0 q1 i hi]
    · rintro ⟨q0, q1⟩
      rw [a4] at q0
      have hl : l = k := (nI_eq (by omega) (by omega)).mp q0
      subst hl
      have hbc : ∀ i, i < l → c i = b i := by
        intro i hi
        have q := q1 i hi
        rw [a7 i hi, hs i hi] at q
        exact (nI_eq (by have := a2 i; omega) (by have := hb i; omega)).mp q
      obtain ⟨z0, z1⟩ := pkl_congr a1 hbc
      exact ⟨by rw [a5, eL0, z0], by rw [a6, eL1, z1], by rw [a3, e1]⟩
  by_cases hm : ∃ j, j < m ∧ (U 0 j = L 0 ∧ U 1 j = L 1 ∧ T 0 j = I 1)
  · obtain ⟨j, hj, hjm⟩ := hm
    have un : ∀ i, i < m → (U 0 i = L 0 ∧ U 1 i = L 1 ∧ T 0 i = I 1) → i = j := by
      intro i hi hq
      rcases Nat.lt_trichotomy i j with c | c | c
      · exact absurd ⟨hq.1.trans hjm.1.symm, hq.2.1.trans hjm.2.1.symm, hq.2.2.trans hjm.2.2.symm⟩ (hd i j c hj)
      · exact c
      · exact absurd ⟨hjm.1.trans hq.1.symm, hjm.2.1.trans hq.2.1.symm, hjm.2.2.trans hq.2.2.symm⟩ (hd j i c hi)
    refine .inr (.inl ⟨j, hj, s_meet1 e0 h160 e1 (by omega) hj hjm (fun i hi q => ?_), t_nameOf1_1 e10 h160 ex ey hf (by omega) hj ((eqv j hj).mp hjm) (fun i hi q => un i hi ((eqv i hi).mpr q)), by omega, hjm⟩)
    have := un i (by omega) q
    omega
  · have no : ∀ i, i < m → ¬ (U 0 i = L 0 ∧ U 1 i = L 1 ∧ T 0 i = I 1) := fun i hi q => hm ⟨i, hi, q⟩
    have no' : ∀ j, j < m → ¬ (S 9 j = nI k ∧ ∀ i, i < k → S 10 (16 * j + i) = S 0 (fr + i)) := fun j hj q => no j hj ((eqv j hj).mpr q)
    by_cases h16 : m = 160
    · exact .inl ⟨s_meet0 e0 h160 e1 (by omega) h16 no, t_nameOf0_1 e10 h160 ex ey hf (by omega) h16 no', .inr no⟩
    · obtain ⟨f, q1, q2, q3⟩ := t_nameOfN_1 (K := K) e10 h160 ex ey hf (by omega) (by omega) no'
      refine .inr (.inr ⟨f, by omega, s_meetN e0 h160 e1 (by omega) (by omega) no, q1, ⟨by omega, by omega, rfl, rfl, fun j hj => ?_, fun i j h1 h2 => ?_, fun j hj => ?_⟩, by omega⟩)
      · by_cases e : j = m
        · subst e
          refine ⟨k, b, by omega, hb, upd_at, upd_at, vp_updL_at.trans eL0, vp_updL_at.trans eL1, fun i hi => ?_⟩
          rw [q3 i hi, hs i hi]
        · obtain ⟨l, c, a1, a2, a3, a4, a5, a6, a7⟩ := hn j (by omega)
          refine ⟨l, c, a1, a2, (upd_ne e).trans a3, (upd_ne e).trans a4, (vp_updL_ne e).trans a5, (vp_updL_ne e).trans a6, fun i hi => ?_⟩
          rw [q2 _ (by omega), a7 i hi]
      · have hi : i ≠ m := by omega
        rw [vp_updL_ne (f := U 0) (j := i) hi, vp_updL_ne (f := U 1) (j := i) hi, upd_ne (j := i) hi]
        by_cases e : j = m
        · subst e
          rw [vp_updL_at, vp_updL_at, upd_at, ← e1]
          exact no i (by omega)
        · rw [vp_updL_ne e, vp_updL_ne e, upd_ne e]
          exact hd i j h1 (by omega)
      · rw [upd_ne (by omega), vp_updL_ne (by omega), vp_updL_ne (by omega)]
        exact hx j hj
theorem me_9 {m k fr : Nat} {I : Nat → Int32} {L : Nat → Int64} {T : Nat → Nat → Int32} {U : Nat → Nat → Int64} {J : Nat → Int32} {S : Nat → Nat → Int32} {K : Nat → Int64} {x y : Int32} {b : Nat → Nat} (hR : RN m (I 0) (T 0) (U 0) (U 1) (J 10) (S 9) (S 10)) (e1 : I 1 = nI k) (hk : k ≤ 600) (hb : ∀ i, b i < 256) (eL0 : L 0 = lN (pkl b k)) (eL1 : L 1 = lN (pkh b k)) (ex : x = nI fr) (ey : y = nI k) (hf : fr + k ≤ 600) (hs : ∀ i, i < k → S 8 (fr + i) = nI (b i)) :
    (f_X4_meetDraft (wc I L T U) [.ref 1] = some (some (.int (Int32.ofInt (-1))), wc I L T U) ∧ f_X12_nameOf (wr J S K) [.ref 0, .ref 9, .int x, .int y] = some (some (.int (Int32.ofInt (-1))), wr J S K) ∧ (16 < k ∨ ∀ j, j < m → ¬ (U 0 j = L 0 ∧ U 1 j = L 1 ∧ T 0 j = I 1))) ∨
    (∃ j, j < m ∧ f_X4_meetDraft (wc I L T U) [.ref 1] = some (some (.int (nI j)), wc I L T U) ∧ f_X12_nameOf (wr J S K) [.ref 0, .ref 9, .int x, .int y] = some (some (.int (nI j)), wr J S K) ∧ k ≤ 16 ∧ (U 0 j = L 0 ∧ U 1 j = L 1 ∧ T 0 j = I 1)) ∨
    (∃ f, m < 160 ∧ f_X4_meetDraft (wc I L T U) [.ref 1] = some (some (.int (nI m)), wc (uI I 0 (nI (m + 1))) L (uT T 0 (upd (T 0) m (nI k))) (uU (uU U 0 (vp_updL (U 0) m (L 0))) 1 (vp_updL (U 1) m (L 1)))) ∧ f_X12_nameOf (wr J S K) [.ref 0, .ref 9, .int x, .int y] = some (some (.int (nI m)), wr (uI J 10 (nI (m + 1))) (uT (uT S 10 f) 9 (upd (S 9) m (nI k))) K) ∧ RN (m + 1) (nI (m + 1)) (upd (T 0) m (nI k)) (vp_updL (U 0) m (L 0)) (vp_updL (U 1) m (L 1)) (nI (m + 1)) (upd (S 9) m (nI k)) f ∧ k ≤ 16) := by
  obtain ⟨h83, h160, e0, e10, hn, hd, hx⟩ := hR
  by_cases hk16 : 16 < k
  · exact .inl ⟨s_meetL e1 hk16 (by omega), t_nameOfL_9 ey hk16 (by omega), .inl hk16⟩
  have eqv : ∀ j, j < m → ((U 0 j = L 0 ∧ U 1 j = L 1 ∧ T 0 j = I 1) ↔ (S 9 j = nI k ∧ ∀ i, i < k → S 10 (16 * j + i) = S 8 (fr + i))) := by
    intro j hj
    obtain ⟨l, c, a1, a2, a3, a4, a5, a6, a7⟩ := hn j hj
    constructor
    · rintro ⟨q0, q1, q2⟩
      rw [a3, e1] at q2
      have hl : l = k := (nI_eq (by omega) (by omega)).mp q2
      subst hl
      refine ⟨a4, fun i hi => ?_⟩
      rw [a5, eL0] at q0
      rw [a6, eL1] at q1
      rw [a7 i hi, hs i hi, pkl_inj a1 a2 hb q0 q1 i hi]
    · rintro ⟨q0, q1⟩
      rw [a4] at q0
      have hl : l = k := (nI_eq (by omega) (by omega)).mp q0
      subst hl
      have hbc : ∀ i, i < l → c i = b i := by
        intro i hi
        have q := q1 i hi
        rw [a7 i hi, hs i hi] at q
        exact (nI_eq (by have := a2 i; omega) (by have := hb i; omega)).mp q
      obtain ⟨z0, z1⟩ := pkl_congr a1 hbc
      exact ⟨by rw [a5, eL0, z0], by rw [a6, eL1, z1], by rw [a3, e1]⟩
  by_cases hm : ∃ j, j < m ∧ (U 0 j = L 0 ∧ U 1 j = L 1 ∧ T 0 j = I 1)
  · obtain ⟨j, hj, hjm⟩ := hm
    have un : ∀ i, i < m → (U 0 i = L 0 ∧ U 1 i = L 1 ∧ T 0 i = I 1) → i = j := by
      intro i hi hq
      rcases Nat.lt_trichotomy i j with c | c | c
      · exact absurd ⟨hq.1.trans hjm.1.symm, hq.2.1.trans hjm.2.1.symm, hq.2.2.trans hjm.2.2.symm⟩ (hd i j c hj)
      · exact c
      · exact absurd ⟨hjm.1.trans hq.1.symm, hjm.2.1.trans hq.2.1.symm, hjm.2.2.trans hq.2.2.symm⟩ (hd j i c hi)
    refine .inr (.inl ⟨j, hj, s_meet1 e0 h160 e1 (by omega) hj hjm (fun i hi q => ?_), t_nameOf1_9 e10 h160 ex ey hf (by omega) hj ((eqv j hj).mp hjm) (fun i hi q => un i hi ((eqv i hi).mpr q)), by omega, hjm⟩)
    have := un i (by omega) q
    omega
  · have no : ∀ i, i < m → ¬ (U 0 i = L 0 ∧ U 1 i = L 1 ∧ T 0 i = I 1) := fun i hi q => hm ⟨i, hi, q⟩
    have no' : ∀ j, j < m → ¬ (S 9 j = nI k ∧ ∀ i, i < k → S 10 (16 * j + i) = S 8 (fr + i)) := fun j hj q => no j hj ((eqv j hj).mpr q)
    by_cases h16 : m = 160
    · exact .inl ⟨s_meet0 e0 h160 e1 (by omega) h16 no, t_nameOf0_9 e10 h160 ex ey hf (by omega) h16 no', .inr no⟩
    · obtain ⟨f, q1, q2, q3⟩ := t_nameOfN_9 (K := K) e10 h160 ex ey hf (by omega) (by omega) no'
      refine .inr (.inr ⟨f, by omega, s_meetN e0 h160 e1 (by omega) (by omega) no, q1, ⟨by omega, by omega, rfl, rfl, fun j hj => ?_, fun i j h1 h2 => ?_, fun j hj => ?_⟩, by omega⟩)
      · by_cases e : j = m
        · subst e
          refine ⟨k, b, by omega, hb, upd_at, upd_at, vp_updL_at.trans eL0, vp_updL_at.trans eL1, fun i hi => ?_⟩
          rw [q3 i hi, hs i hi]
        · obtain ⟨l, c, a1, a2, a3, a4, a5, a6, a7⟩ := hn j (by omega)
          refine ⟨l, c, a1, a2, (upd_ne e).trans a3, (upd_ne e).trans a4, (vp_updL_ne e).trans a5, (vp_updL_ne e).trans a6, fun i hi => ?_⟩
          rw [q2 _ (by omega), a7 i hi]
      · have hi : i ≠ m := by omega
        rw [vp_updL_ne (f := U 0) (j := i) hi, vp_updL_ne (f := U 1) (j := i) hi, upd_ne (j := i) hi]
        by_cases e : j = m
        · subst e
          rw [vp_updL_at, vp_updL_at, upd_at, ← e1]
          exact no i (by omega)
        · rw [vp_updL_ne e, vp_updL_ne e, upd_ne e]
          exact hd i j h1 (by omega)
      · rw [upd_ne (by omega), vp_updL_ne (by omega), vp_updL_ne (by omega)]
        exact hx j hj
