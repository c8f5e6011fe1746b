/-! the frames of both sides -/
def it5 (s : Nat → Int32) (i : Nat) (t : V) : Prop := s (12 * i + 1) = nI t.1 ∧ s (12 * i + 2) = t.2.2.2 ∧ s (12 * i + 3) = nI t.2.1 ∧ s (12 * i + 4) = nI t.2.2.1
def FRp (N : Nat → Nat) (T : Nat → Nat → Int32) (U : Nat → Nat → Int64) (S : Nat → Nat → Int32) (i : Nat) : Prop := ∃ l p x, x < l ∧ p + l ≤ N 1 ∧ p + l ≤ 600 ∧ T 10 i = nI 1 ∧ U 8 i = eV (5, 1, l, nI p) ∧ U 9 i = lN x ∧ S 12 (12 * i) = nI 1 ∧ S 12 (12 * i + 1) = nI p ∧ S 12 (12 * i + 2) = nI l ∧ S 12 (12 * i + 3) = nI x
def FRs (T : Nat → Nat → Int32) (S : Nat → Nat → Int32) (i : Nat) : Prop := T 10 i = nI 2 ∧ S 12 (12 * i) = nI 2
def FRf (T : Nat → Nat → Int32) (U : Nat → Nat → Int64) (S : Nat → Nat → Int32) (K : Nat → Int64) (i : Nat) : Prop := ∃ st la : Int32, T 10 i = nI 3 ∧ S 12 (12 * i) = nI 3 ∧ ¬ st = 0 ∧ U 9 i = K i ∧ U 11 i = st.toInt64 ∧ S 12 (12 * i + 6) = st ∧ U 10 i = la.toInt64 ∧ S 12 (12 * i + 7) = la
def FRr (T : Nat → Nat → Int32) (U : Nat → Nat → Int64) (S : Nat → Nat → Int32) (K : Nat → Int64) (i : Nat) : Prop := ∃ x, x < 2 ^ 31 ∧ T 10 i = nI 4 ∧ S 12 (12 * i) = nI 4 ∧ U 9 i = lN x ∧ K i = lN x
def FRl (T : Nat → Nat → Int32) (S : Nat → Nat → Int32) (i : Nat) : Prop := T 10 i = nI 5 ∧ S 12 (12 * i) = nI 5
def FRa (N : Nat → Nat) (T : Nat → Nat → Int32) (U : Nat → Nat → Int64) (S : Nat → Nat → Int32) (K : Nat → Int64) (i : Nat) : Prop := ∃ (s : V) (x : Nat), (s.1 = 5 ∨ s.1 = 6) ∧ ok N s ∧ x ≤ s.2.2.1 ∧ T 10 i = nI 6 ∧ S 12 (12 * i) = nI 6 ∧ U 12 i = eV s ∧ U 9 i = lN x ∧ K i = lN x ∧ U 10 i = lN s.2.2.1 ∧ S 12 (12 * i + 6) = nI s.1 ∧ S 12 (12 * i + 7) = s.2.2.2 ∧ S 12 (12 * i + 8) = nI s.2.2.1
def FRd (N : Nat → Nat) (T : Nat → Nat → Int32) (U : Nat → Nat → Int64) (S : Nat → Nat → Int32) (K : Nat → Int64) (i : Nat) : Prop := ∃ j r x, j < N 5 ∧ j < 20 ∧ r ≤ 74 ∧ x ≤ r ∧ T 10 i = nI 6 ∧ S 12 (12 * i) = nI 7 ∧ U 12 i = eV (7, 0, 0, nI j) ∧ U 9 i = lN x ∧ K i = lN x ∧ U 10 i = lN r ∧ S 12 (12 * i + 6) = nI 7 ∧ S 12 (12 * i + 7) = nI j ∧ S 12 (12 * i + 8) = nI r ∧ ∀ y, y < r → ∃ key, okk N key ∧ U 13 (i * 74 + y) = eV key ∧ S 13 (160 * i + 2 * y) = nI key.1 ∧ S 13 (160 * i + 2 * y + 1) = key.2.2.2
def FR (N : Nat → Nat) (T : Nat → Nat → Int32) (U : Nat → Nat → Int64) (S : Nat → Nat → Int32) (K : Nat → Int64) (i : Nat) : Prop :=
  FRp N T U S i ∨ FRs T S i ∨ (∃ t, i < 23 ∧ t.1 = 5 ∧ t.2.1 = 1 ∧ ok N t ∧ U 8 i = eV t ∧ it5 (S 12) i t ∧ (FRf T U S K i ∨ FRr T U S K i ∨ FRl T S i ∨ FRa N T U S K i ∨ FRd N T U S K i))
def RE (N : Nat → Nat) (n : Nat) (x : Int32) (T : Nat → Nat → Int32) (U : Nat → Nat → Int64) (y : Int32) (S : Nat → Nat → Int32) (K : Nat → Int64) : Prop := 1 ≤ n ∧ n ≤ 24 ∧ x = nI n ∧ y = nI n ∧ (T 10 0 = nI 0 ∧ S 12 0 = nI 0) ∧ ∀ i, 0 < i → i < n → FR N T U S K i
theorem okk_mono {N M : Nat → Nat} {t : V} (hm : NM N M) (h : okk N t) : okk M t := ⟨ok_mono hm.1 hm.2.1 hm.2.2.1 hm.2.2.2 h.1, h.2⟩
theorem FR_mono {N M : Nat → Nat} {T : Nat → Nat → Int32} {U : Nat → Nat → Int64} {S : Nat → Nat → Int32} {K : Nat → Int64} {i : Nat} (hm : NM N M) (h : FR N T U S K i) : FR M T U S K i := by
  rcases h with ⟨l, p, x, h1, h2, h3⟩ | h | ⟨t, h0, h1, h2, h3, h4, h5, h6⟩
  · exact .inl ⟨l, p, x, h1, Nat.le_trans h2 hm.1, h3⟩
  · exact .inr (.inl h)
  · refine .inr (.inr ⟨t, h0, h1, h2, ok_mono hm.1 hm.2.1 hm.2.2.1 hm.2.2.2 h3, h4, h5, ?_⟩)
    rcases h6 with h | h | h | ⟨s, x, a1, a2, a3⟩ | ⟨j, r, x, a1, a2, a3, a4, a5, a6, a7, a8, a9, b1, b2, b3, b4, b5⟩
    · exact .inl h
    · exact .inr (.inl h)
    · exact .inr (.inr (.inl h))
    · exact .inr (.inr (.inr (.inl ⟨s, x, a1, ok_mono hm.1 hm.2.1 hm.2.2.1 hm.2.2.2 a2, a3⟩)))
    · refine .inr (.inr (.inr (.inr ⟨j, r, x, Nat.lt_of_lt_of_le a1 hm.2.2.2, a2, a3, a4, a5, a6, a7, a8, a9, b1, b2, b3, b4, fun y hy => ?_⟩)))
      obtain ⟨key, k1, k2⟩ := b5 y hy
      exact ⟨key, okk_mono hm k1, k2⟩
theorem RE_mono {N M : Nat → Nat} {n : Nat} {x y : Int32} {T : Nat → Nat → Int32} {U : Nat → Nat → Int64} {S : Nat → Nat → Int32} {K : Nat → Int64} (hm : NM N M) (h : RE N n x T U y S K) : RE M n x T U y S K := ⟨h.1, h.2.1, h.2.2.1, h.2.2.2.1, h.2.2.2.2.1, fun i h0 hi => FR_mono hm (h.2.2.2.2.2 i h0 hi)⟩
theorem RE_cut {N : Nat → Nat} {n j : Nat} {x y : Int32} {T : Nat → Nat → Int32} {U : Nat → Nat → Int64} {S : Nat → Nat → Int32} {K : Nat → Int64} (h : RE N n x T U y S K) (h1 : 1 ≤ j) (hj : j ≤ n) : RE N j (nI j) T U (nI j) S K := ⟨h1, Nat.le_trans hj h.2.1, rfl, rfl, h.2.2.2.2.1, fun i h0 hi => h.2.2.2.2.2 i h0 (by omega)⟩
/-- the sorts of a frame: the reference's 7 is the class's 6 -/
theorem FR_srt {N : Nat → Nat} {T : Nat → Nat → Int32} {U : Nat → Nat → Int64} {S : Nat → Nat → Int32} {K : Nat → Int64} {i : Nat} (h : FR N T U S K i) : ∃ a b, 1 ≤ a ∧ a ≤ 6 ∧ b ≤ 7 ∧ T 10 i = nI a ∧ S 12 (12 * i) = nI b ∧ (a = b ∨ (a = 6 ∧ b = 7)) := by
  rcases h with ⟨l, p, x, h1, h2, h3, h4, h5, h6, h7, h8⟩ | h | ⟨t, h0, h1, h2, h3, h4, h5, h6⟩
  · exact ⟨1, 1, by decide, by decide, by decide, h4, h7, .inl rfl⟩
  · exact ⟨2, 2, by decide, by decide, by decide, h.1, h.2, .inl rfl⟩
  · rcases h6 with ⟨st, la, a1, a2, a3⟩ | ⟨x, a0, a1, a2, a3⟩ | ⟨a1, a2⟩ | ⟨s, x, c1, c2, c3, a1, a2, a3⟩ | ⟨j, r, x, c1, c2, c3, c4, a1, a2, a3⟩
    · exact ⟨3, 3, by decide, by decide, by decide, a1, a2, .inl rfl⟩
    · exact ⟨4, 4, by decide, by decide, by decide, a1, a2, .inl rfl⟩
    · exact ⟨5, 5, by decide, by decide, by decide, a1, a2, .inl rfl⟩
    · exact ⟨6, 6, by decide, by decide, by decide, a1, a2, .inl rfl⟩
    · exact ⟨6, 7, by decide, by decide, by decide, a1, a2, .inr ⟨rfl, rfl⟩⟩
