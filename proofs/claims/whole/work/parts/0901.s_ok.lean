/-! values that may stand: N 1 cells, N 2 octets, N 4 names, N 5 dictionaries -/
def ok (N : Nat → Nat) (t : V) : Prop :=
  t = (0, 0, 0, nI 0) ∨ (∃ v, t = (1, 0, 0, v)) ∨ (∃ b, b ≤ 1 ∧ t = (2, 0, 0, nI b)) ∨ t = (3, 0, 0, nI 0) ∨
  (∃ x j, x ≤ 1 ∧ j < N 4 ∧ j < 160 ∧ t = (4, x, 0, nI j)) ∨ (∃ x l p, x ≤ 1 ∧ p + l ≤ N 1 ∧ p + l ≤ 600 ∧ t = (5, x, l, nI p)) ∨
  (∃ l p, p + l ≤ N 2 ∧ p + l ≤ 600 ∧ t = (6, 0, l, nI p)) ∨ (∃ j, j < N 5 ∧ j < 20 ∧ t = (7, 0, 0, nI j)) ∨ (∃ j, j < 74 ∧ t = (8, 1, 0, nI j))
theorem ok_w0 {N : Nat → Nat} {t : V} (h : ok N t) : w0 t := by
  rcases h with rfl | ⟨v, rfl⟩ | ⟨b, h1, rfl⟩ | rfl | ⟨x, j, h1, h2, h3, rfl⟩ | ⟨x, l, p, h1, h2, h3, rfl⟩ | ⟨l, p, h2, h3, rfl⟩ | ⟨j, h1, h2, rfl⟩ | ⟨j, h1, rfl⟩ <;> exact ⟨by simp, by simp <;> omega, by simp <;> omega⟩
theorem ok_mono {N M : Nat → Nat} {t : V} (h1 : N 1 ≤ M 1) (h2 : N 2 ≤ M 2) (h4 : N 4 ≤ M 4) (h5 : N 5 ≤ M 5) (h : ok N t) : ok M t := by
  rcases h with h | h | h | h | ⟨x, j, q1, q2, q3, e⟩ | ⟨x, l, p, q1, q2, q3, e⟩ | ⟨l, p, q2, q3, e⟩ | ⟨j, q1, q2, e⟩ | h
  · exact .inl h
  · exact .inr (.inl h)
  · exact .inr (.inr (.inl h))
  · exact .inr (.inr (.inr (.inl h)))
  · exact .inr (.inr (.inr (.inr (.inl ⟨x, j, q1, by omega, q3, e⟩))))
  · exact .inr (.inr (.inr (.inr (.inr (.inl ⟨x, l, p, q1, by omega, q3, e⟩)))))
  · exact .inr (.inr (.inr (.inr (.inr (.inr (.inl ⟨l, p, by omega, q3, e⟩))))))
  · exact .inr (.inr (.inr (.inr (.inr (.inr (.inr (.inl ⟨j, by omega, q2, e⟩)))))))
  · exact .inr (.inr (.inr (.inr (.inr (.inr (.inr (.inr h)))))))
theorem ok_null {N : Nat → Nat} : ok N (0, 0, 0, nI 0) := .inl rfl
theorem ok_num {N : Nat → Nat} (v : Int32) : ok N (1, 0, 0, v) := .inr (.inl ⟨v, rfl⟩)
theorem ok_bool {N : Nat → Nat} {b : Nat} (h : b ≤ 1) : ok N (2, 0, 0, nI b) := .inr (.inr (.inl ⟨b, h, rfl⟩))
theorem ok_mark {N : Nat → Nat} : ok N (3, 0, 0, nI 0) := .inr (.inr (.inr (.inl rfl)))
theorem ok_name {N : Nat → Nat} {x j : Nat} (h : x ≤ 1) (h1 : j < N 4) (h2 : j < 160) : ok N (4, x, 0, nI j) := .inr (.inr (.inr (.inr (.inl ⟨x, j, h, h1, h2, rfl⟩))))
theorem ok_arr {N : Nat → Nat} {x l p : Nat} (h : x ≤ 1) (h1 : p + l ≤ N 1) (h2 : p + l ≤ 600) : ok N (5, x, l, nI p) := .inr (.inr (.inr (.inr (.inr (.inl ⟨x, l, p, h, h1, h2, rfl⟩)))))
theorem ok_str {N : Nat → Nat} {l p : Nat} (h1 : p + l ≤ N 2) (h2 : p + l ≤ 600) : ok N (6, 0, l, nI p) := .inr (.inr (.inr (.inr (.inr (.inr (.inl ⟨l, p, h1, h2, rfl⟩))))))
theorem ok_dict {N : Nat → Nat} {j : Nat} (h1 : j < N 5) (h2 : j < 20) : ok N (7, 0, 0, nI j) := .inr (.inr (.inr (.inr (.inr (.inr (.inr (.inl ⟨j, h1, h2, rfl⟩)))))))
theorem ok_op {N : Nat → Nat} {j : Nat} (h1 : j < 74) : ok N (8, 1, 0, nI j) := .inr (.inr (.inr (.inr (.inr (.inr (.inr (.inr ⟨j, h1, rfl⟩)))))))
theorem ok_1 {N : Nat → Nat} {t : V} (h : ok N t) (k : t.1 = 1) : ∃ v, t = (1, 0, 0, v) := by
  rcases h with rfl | ⟨v, rfl⟩ | ⟨b, h1, rfl⟩ | rfl | ⟨x, j, h1, h2, h3, rfl⟩ | ⟨x, l, p, h1, h2, h3, rfl⟩ | ⟨l, p, h2, h3, rfl⟩ | ⟨j, h1, h2, rfl⟩ | ⟨j, h1, rfl⟩ <;> first | exact ⟨_, rfl⟩ | (simp at k; done)
theorem ok_2 {N : Nat → Nat} {t : V} (h : ok N t) (k : t.1 = 2) : ∃ b, b ≤ 1 ∧ t = (2, 0, 0, nI b) := by
  rcases h with rfl | ⟨v, rfl⟩ | ⟨b, h1, rfl⟩ | rfl | ⟨x, j, h1, h2, h3, rfl⟩ | ⟨x, l, p, h1, h2, h3, rfl⟩ | ⟨l, p, h2, h3, rfl⟩ | ⟨j, h1, h2, rfl⟩ | ⟨j, h1, rfl⟩ <;> first | exact ⟨_, h1, rfl⟩ | (simp at k; done)
theorem ok_3 {N : Nat → Nat} {t : V} (h : ok N t) (k : t.1 = 3) : t = (3, 0, 0, nI 0) := by
  rcases h with rfl | ⟨v, rfl⟩ | ⟨b, h1, rfl⟩ | rfl | ⟨x, j, h1, h2, h3, rfl⟩ | ⟨x, l, p, h1, h2, h3, rfl⟩ | ⟨l, p, h2, h3, rfl⟩ | ⟨j, h1, h2, rfl⟩ | ⟨j, h1, rfl⟩ <;> first | rfl | (simp at k; done)
theorem ok_4 {N : Nat → Nat} {t : V} (h : ok N t) (k : t.1 = 4) : ∃ x j, x ≤ 1 ∧ j < N 4 ∧ j < 160 ∧ t = (4, x, 0, nI j) := by
  rcases h with rfl | ⟨v, rfl⟩ | ⟨b, h1, rfl⟩ | rfl | ⟨x, j, h1, h2, h3, rfl⟩ | ⟨x, l, p, h1, h2, h3, rfl⟩ | ⟨l, p, h2, h3, rfl⟩ | ⟨j, h1, h2, rfl⟩ | ⟨j, h1, rfl⟩ <;> first | exact ⟨x, j, h1, h2, h3, rfl⟩ | (simp at k; done)
theorem ok_5 {N : Nat → Nat} {t : V} (h : ok N t) (k : t.1 = 5) : ∃ x l p, x ≤ 1 ∧ p + l ≤ N 1 ∧ p + l ≤ 600 ∧ t = (5, x, l, nI p) := by
  rcases h with rfl | ⟨v, rfl⟩ | ⟨b, h1, rfl⟩ | rfl | ⟨x, j, h1, h2, h3, rfl⟩ | ⟨x, l, p, h1, h2, h3, rfl⟩ | ⟨l, p, h2, h3, rfl⟩ | ⟨j, h1, h2, rfl⟩ | ⟨j, h1, rfl⟩ <;> first | exact ⟨x, l, p, h1, h2, h3, rfl⟩ | (simp at k; done)
theorem ok_6 {N : Nat → Nat} {t : V} (h : ok N t) (k : t.1 = 6) : ∃ l p, p + l ≤ N 2 ∧ p + l ≤ 600 ∧ t = (6, 0, l, nI p) := by
  rcases h with rfl | ⟨v, rfl⟩ | ⟨b, h1, rfl⟩ | rfl | ⟨x, j, h1, h2, h3, rfl⟩ | ⟨x, l, p, h1, h2, h3, rfl⟩ | ⟨l, p, h2, h3, rfl⟩ | ⟨j, h1, h2, rfl⟩ | ⟨j, h1, rfl⟩ <;> first | exact ⟨l, p, h2, h3, rfl⟩ | (simp at k; done)
theorem ok_7 {N : Nat → Nat} {t : V} (h : ok N t) (k : t.1 = 7) : ∃ j, j < N 5 ∧ j < 20 ∧ t = (7, 0, 0, nI j) := by
  rcases h with rfl | ⟨v, rfl⟩ | ⟨b, h1, rfl⟩ | rfl | ⟨x, j, h1, h2, h3, rfl⟩ | ⟨x, l, p, h1, h2, h3, rfl⟩ | ⟨l, p, h2, h3, rfl⟩ | ⟨j, h1, h2, rfl⟩ | ⟨j, h1, rfl⟩ <;> first | exact ⟨j, h1, h2, rfl⟩ | (simp at k; done)
theorem ok_8 {N : Nat → Nat} {t : V} (h : ok N t) (k : t.1 = 8) : ∃ j, j < 74 ∧ t = (8, 1, 0, nI j) := by
  rcases h with rfl | ⟨v, rfl⟩ | ⟨b, h1, rfl⟩ | rfl | ⟨x, j, h1, h2, h3, rfl⟩ | ⟨x, l, p, h1, h2, h3, rfl⟩ | ⟨l, p, h2, h3, rfl⟩ | ⟨j, h1, h2, rfl⟩ | ⟨j, h1, rfl⟩ <;> first | exact ⟨j, h1, rfl⟩ | (simp at k; done)
/-! a place of both sides that holds the same value -/
def sl (N : Nat → Nat) (u : Nat → Int64) (i : Nat) (s : Nat → Int32) (j : Nat) : Prop := ∃ t, u i = eV t ∧ r5 s j t ∧ ok N t
def RO (N : Nat → Nat) (n m : Nat) (x : Int32) (u : Nat → Int64) (y : Int32) (s : Nat → Int32) : Prop := n ≤ m ∧ x = nI n ∧ y = nI n ∧ ∀ i, i < n → sl N u i s i
