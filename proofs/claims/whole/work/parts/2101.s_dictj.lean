theorem okk_ext {N : Nat → Nat} {t t' : V} (h : okk N t) (h' : okk N t') (e1 : t.1 = t'.1) (e2 : t.2.2.2 = t'.2.2.2) : t = t' := by
  have len : ∀ {u : V}, okk N u → u.2.2.1 = 0 := by
    intro u hu
    obtain ⟨a, b, c⟩ := hu
    rcases b with k | k | k
    · obtain ⟨v, e⟩ := ok_1 a k
      rw [e]
    · obtain ⟨v, _, e⟩ := ok_2 a k
      rw [e]
    · obtain ⟨x, j, _, _, _, e⟩ := ok_4 a k
      rw [e]
  exact Prod.ext e1 (Prod.ext (h.2.2.trans h'.2.2.symm) (Prod.ext ((len h).trans (len h').symm) e2))
theorem okk_4 {N : Nat → Nat} {t : V} (h : okk N t) (k : t.1 = 4) : ∃ j, j < N 4 ∧ j < 160 ∧ t = (4, 0, 0, nI j) := by
  obtain ⟨x, j, h1, h2, h3, e⟩ := ok_4 h.1 k
  have := h.2.2
  rw [e] at this
  have hx : x = 0 := this
  subst hx
  exact ⟨j, h2, h3, e⟩
theorem okk_lo {N : Nat → Nat} {t : V} (h : okk N t) (k : t.1 = 1 ∨ t.1 = 2) : ∃ x v, x ≤ 3 ∧ t = (x, 0, 0, v) := by
  rcases k with k | k
  · obtain ⟨v, e⟩ := ok_1 h.1 k
    exact ⟨1, v, by decide, e⟩
  · obtain ⟨v, _, e⟩ := ok_2 h.1 k
    exact ⟨2, nI v, by decide, e⟩
/-! a dictionary's facts, its places given -/
def DX (N : Nat → Nat) (d p : Nat) (s r q : Nat → Nat) (T : Nat → Nat → Int32) (U : Nat → Nat → Int64) (S : Nat → Nat → Int32) : Prop :=
  (∀ j, j < d → T 3 j = nI (s j) ∧ T 4 j = nI (r j) ∧ T 5 j = nI (q j) ∧ S 3 j = nI (r j) ∧ S 4 j = nI (q j) ∧ q j ≤ r j ∧ s j + r j ≤ p ∧ (0 < j → r j ≤ 29)) ∧
  (∀ i j, i < j → j < d → s i + r i ≤ s j) ∧ (s 0 = 0 ∧ r 0 = 74 ∧ q 0 = 74) ∧
  (∀ j, j < d → ∀ k, k < q j → ∃ t, U 3 (s j + k) = eV t ∧ S 5 (2 * (80 * j + k)) = nI t.1 ∧ S 5 (2 * (80 * j + k) + 1) = t.2.2.2 ∧ okk N t) ∧
  (∀ j, j < d → ∀ k, k < q j → sl N (U 4) (s j + k) (S 6) (80 * j + k)) ∧
  (∀ j, j < d → ∀ k k', k < k' → k' < q j → U 3 (s j + k) ≠ U 3 (s j + k')) ∧
  (∀ k, k < 74 → U 3 k = eV (4, 0, 0, nI k) ∧ U 4 k = eV (8, 1, 0, nI k))
theorem R_DX {N : Nat → Nat} {I : Nat → Int32} {T : Nat → Nat → Int32} {U : Nat → Nat → Int64} {J : Nat → Int32} {S : Nat → Nat → Int32} (h : R N I T U J S) : N 5 ≤ 20 ∧ 2 ≤ N 5 ∧ I 6 = nI (N 5) ∧ J 5 = nI (N 5) ∧ ∃ p s r q, I 5 = nI p ∧ p ≤ 94 + 29 * (N 5 - 2) ∧ DX N (N 5) p s r q T U S := by
  obtain ⟨h1, h2, h3, h4, p, s, r, q, h5, h6, h7⟩ := h.2.2.2.2.2.1
  exact ⟨h2, h1, h3, h4, p, s, r, q, h5, h6, h7⟩
theorem nI_le8 {t : V} {k : Nat} (hk : k ≤ 8) (ht : t.1 ≤ 8) (e : nI t.1 = nI k) : t.1 = k := (nI_eq (by omega) (by omega)).mp e
theorem jf {N : Nat → Nat} {I : Nat → Int32} {L : Nat → Int64} {T : Nat → Nat → Int32} {U : Nat → Nat → Int64} {J : Nat → Int32} {S : Nat → Nat → Int32} {K : Nat → Int64} {d p : Nat} {s r q : Nat → Nat} (hd : d ≤ 20) (hp : p ≤ 616) (hX : DX N d p s r q T U S) {j : Nat} (hj : j < d) {key : V} (hk : okk N key) {a z : Int32} {b c : Int32} (ea : a = nI j) (ez : z = nI j) (eb : b = nI key.1) (ec : c = key.2.2.2) :
    (f_X0_find (wc I L T U) [.ref 9, .int a, .long (eV key)] = some (some (.int (Int32.ofInt (-1))), wc I L T U) ∧ f_X12_pairOf (wr J S K) [.ref 0, .int z, .int b, .int c] = some (some (.int (Int32.ofInt (-1))), wr J S K)) ∨
    (∃ k, k < q j ∧ U 3 (s j + k) = eV key ∧ f_X0_find (wc I L T U) [.ref 9, .int a, .long (eV key)] = some (some (.int (nI k)), wc I L T U) ∧ f_X12_pairOf (wr J S K) [.ref 0, .int z, .int b, .int c] = some (some (.int (nI (80 * j + k))), wr J S K)) := by
  obtain ⟨x1, x2, x3, x4, x5, x6, x7⟩ := hX
  obtain ⟨y1, y2, y3, y4, y5, y6, y7, y8⟩ := x1 j hj
  have hq80 : q j ≤ 80 := by
    by_cases h0 : j = 0
    · rw [h0, x3.2.2]
      decide
    · have := y8 (by omega)
      omega
  have eqv : ∀ k, k < q j → (U 3 (s j + k) = eV key ↔ (S 5 (2 * (80 * j + k)) = b ∧ S 5 (2 * (80 * j + k) + 1) = c)) := by
    intro k hk2
    obtain ⟨t, a1, a2, a3, a4⟩ := x4 j hj k hk2
    constructor
    · intro e
      rw [a1] at e
      have := eV_inj (ok_w0 a4.1) (ok_w0 hk.1) e
      subst this
      exact ⟨a2.trans eb.symm, a3.trans ec.symm⟩
    · rintro ⟨e1, e2⟩
      rw [a2, eb] at e1
      rw [a3, ec] at e2
      rw [a1, okk_ext a4 hk (nI_le8 (ok_w0 hk.1).1 (ok_w0 a4.1).1 e1) e2]
  by_cases hm : ∃ k, k < q j ∧ U 3 (s j + k) = eV key
  · obtain ⟨k, hkq, hkm⟩ := hm
    have un : ∀ i, i < q j → U 3 (s j + i) = eV key → i = k := by
      intro i hi e
      rcases Nat.lt_trichotomy i k with h | h | h
      · exact absurd (e.trans hkm.symm) (x6 j hj i k h hkq)
      · exact h
      · exact absurd (hkm.trans e.symm) (x6 j hj k i h hi)
    refine .inr ⟨k, hkq, hkm, ?_, t_pairOf1 ez (by omega) y5 hq80 hkq ((eqv k hkq).mp hkm) (fun i hi e => un i hi ((eqv i hi).mpr e))⟩
    by_cases h0 : j = 0
    · subst h0
      have hk74 : k < 74 := by rw [x3.2.2] at hkq; exact hkq
      have e := (x7 k hk74).1
      rw [x3.1, Nat.zero_add, e] at hkm
      exact s_findS1 ea hk74 hkm.symm
    · exact s_find1 ea (by omega) y1 y3 (by omega) h0 hkq hkm (fun i hi e => by have := un i (by omega) e; omega)
  · have no : ∀ i, i < q j → U 3 (s j + i) ≠ eV key := fun i hi e => hm ⟨i, hi, e⟩
    refine .inl ⟨?_, t_pairOf0 ez (by omega) y5 hq80 (fun i hi e => no i hi ((eqv i hi).mpr e))⟩
    by_cases h0 : j = 0
    · subst h0
      by_cases k4 : key.1 = 4
      · obtain ⟨o, o1, o2, oe⟩ := okk_4 hk k4
        by_cases o74 : o < 74
        · have := no o (by rw [x3.2.2]; exact o74)
          rw [x3.1, Nat.zero_add, (x7 o o74).1, oe] at this
          exact absurd rfl this
        · exact s_findS0a ea (o := o) (by omega) (by omega) (by rw [oe])
      · obtain ⟨x, v, h3, e⟩ := okk_lo hk (by have := hk.2.1; omega)
        exact s_findS0b ea h3 (by rw [e])
    · exact s_find0 ea (by omega) y1 y3 (by omega) h0 no
/-! along the stack of dictionaries -/
theorem jl {N : Nat → Nat} {I : Nat → Int32} {L : Nat → Int64} {T : Nat → Nat → Int32} {U : Nat → Nat → Int64} {J : Nat → Int32} {S : Nat → Nat → Int32} {K : Nat → Int64} {d p h : Nat} {s r q : Nat → Nat} (hd : d ≤ 20) (hp : p ≤ 616) (hX : DX N d p s r q T U S) (hS : RS d h (I 7) (T 6) (J 6) (S 2)) {key : V} (hk : okk N key) {b c : Int32} (eb : b = nI key.1) (ec : c = key.2.2.2) :
    (f_X0_holder (wc I L T U) [.ref 9, .long (eV key)] = some (some (.int (Int32.ofInt (-1))), wc I L T U) ∧ f_X0_lookUp (wc I L T U) [.ref 9, .long (eV key)] = some (some (.long (-1)), wc I L T U) ∧ f_X12_find (wr J S K) [.ref 0, .int b, .int c] = some (some (.int (Int32.ofInt (-1))), wr J S K)) ∨
    (∃ j k, j < d ∧ k < q j ∧ U 3 (s j + k) = eV key ∧ f_X0_holder (wc I L T U) [.ref 9, .long (eV key)] = some (some (.int (nI j)), wc I L T U) ∧ f_X0_lookUp (wc I L T U) [.ref 9, .long (eV key)] = some (some (.long (U 4 (s j + k))), wc I L T U) ∧ f_X12_find (wr J S K) [.ref 0, .int b, .int c] = some (some (.int (nI (80 * j + k))), wr J S K)) := by
  obtain ⟨h1, h2, h3, h4, h5⟩ := hS
  have one : ∀ i, i < h → ∃ j, j < d ∧ T 6 i = nI j ∧ ((f_X0_find (wc I L T U) [.ref 9, .int (T 6 i), .long (eV key)] = some (some (.int (Int32.ofInt (-1))), wc I L T U) ∧ f_X12_pairOf (wr J S K) [.ref 0, .int (S 2 i), .int b, .int c] = some (some (.int (Int32.ofInt (-1))), wr J S K)) ∨
    (∃ k, k < q j ∧ U 3 (s j + k) = eV key ∧ f_X0_find (wc I L T U) [.ref 9, .int (T 6 i), .long (eV key)] = some (some (.int (nI k)), wc I L T U) ∧ f_X12_pairOf (wr J S K) [.ref 0, .int (S 2 i), .int b, .int c] = some (some (.int (nI (80 * j + k))), wr J S K))) := by
    intro i hi
    obtain ⟨j, j1, j2, j3⟩ := h5 i hi
    exact ⟨j, j1, j2, jf hd hp hX j1 hk j2 j3 eb ec⟩
  rcases last_or (fun i => ∃ k, f_X0_find (wc I L T U) [.ref 9, .int (T 6 i), .long (eV key)] = some (some (.int (nI k)), wc I L T U) ∧ k < 80) h with ⟨i, i1, ⟨k', i2, i2'⟩, i3⟩ | i1
  · have above : ∀ x, i < x → x < h → f_X0_find (wc I L T U) [.ref 9, .int (T 6 x), .long (eV key)] = some (some (.int (Int32.ofInt (-1))), wc I L T U) ∧ f_X12_pairOf (wr J S K) [.ref 0, .int (S 2 x), .int b, .int c] = some (some (.int (Int32.ofInt (-1))), wr J S K) := by
      intro x x1 x2
      obtain ⟨j, j1, j2, j3⟩ := one x x2
      rcases j3 with j3 | ⟨k, k1, k2, k3, k4⟩
      · exact j3
      · refine absurd ⟨k, k3, ?_⟩ (i3 x x1 x2)
        obtain ⟨_, _, _, _, _, z1, _, z2⟩ := hX.1 j j1
        by_cases j0 : j = 0
        · have := hX.2.2.1.2.2
          rw [j0] at k1
          omega
        · have := z2 (by omega)
          omega
    obtain ⟨j, j1, j2, j3⟩ := one i i1
    rcases j3 with ⟨j3, _⟩ | ⟨k, k1, k2, k3, k4⟩
    · rw [i2] at j3
      have := congrArg Prod.fst (Option.some.inj j3)
      have := Value.int.inj (Option.some.inj this)
      exact absurd this (ne_m1 (by omega))
    · have hk80 : k < 80 := by
        obtain ⟨_, _, _, _, _, z1, _, z2⟩ := hX.1 j j1
        by_cases j0 : j = 0
        · have := hX.2.2.1.2.2
          rw [j0] at k1
          omega
        · have := z2 (by omega)
          omega
      refine .inr ⟨j, k, j1, k1, k2, ?_, ?_, t_find1 h4 h2 i1 (by omega) k4 (fun x x1 x2 => (above x x1 x2).2)⟩
      · rw [← j2]
        exact s_holder1 h3 h2 i1 (by omega) k3 (fun x x1 x2 => (above x x1 x2).1)
      · refine s_lookUp1 h3 h2 i1 (k := k) (by omega) k3 (fun x x1 x2 => (above x x1 x2).1) ?_
        obtain ⟨z0, _, _, _, _, z1, z3, z2⟩ := hX.1 j j1
        exact s_valueAt j2 (by omega) z0 rfl (by omega)
  · have none : ∀ x, x < h → f_X0_find (wc I L T U) [.ref 9, .int (T 6 x), .long (eV key)] = some (some (.int (Int32.ofInt (-1))), wc I L T U) ∧ f_X12_pairOf (wr J S K) [.ref 0, .int (S 2 x), .int b, .int c] = some (some (.int (Int32.ofInt (-1))), wr J S K) := by
      intro x x2
      obtain ⟨j, j1, j2, j3⟩ := one x x2
      rcases j3 with j3 | ⟨k, k1, k2, k3, k4⟩
      · exact j3
      · refine absurd ⟨k, k3, ?_⟩ (i1 x x2)
        obtain ⟨_, _, _, _, _, z1, _, z2⟩ := hX.1 j j1
        by_cases j0 : j = 0
        · have := hX.2.2.1.2.2
          rw [j0] at k1
          omega
        · have := z2 (by omega)
          omega
    exact .inl ⟨s_holder0 h3 h2 (fun x _ x2 => (none x x2).1), s_lookUp0 h3 h2 (fun x _ x2 => (none x x2).1), t_find0 h4 h2 (fun x _ x2 => (none x x2).2)⟩
theorem dv80 : ∀ j, j < 20 → ∀ k, k < 80 → nI (80 * j + k) / 80 = nI j := by decide +kernel
