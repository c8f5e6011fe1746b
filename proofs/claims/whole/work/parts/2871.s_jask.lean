theorem jz_count {N : Nat → Nat} {I : Nat → Int32} {L : Nat → Int64} {T : Nat → Nat → Int32} {U : Nat → Nat → Int64} {J : Nat → Int32} {S : Nat → Nat → Int32} {K : Nat → Int64} (h : RZ N I T U J S) (a : Int32) : (∃ r : Int32, f_X11_count (wc I L T U) [.ref 0, .int a] = some (some (.int r), wc I L T U) ∧ f_X12_count (wr J S K) [.ref 0, .int a] = some (some (.int r), wr (uI J 0 0) S K)) ∨ ((∀ w, w < 8 → a ≠ nI w) ∧ f_X12_count (wr J S K) [.ref 0, .int a] = some (some (.int 0), wr (uI J 0 1) S K)) := by
  obtain ⟨hR, hE, ⟨s, s1, s2⟩, _⟩ := h
  obtain ⟨⟨_, a1, a2, _⟩, ⟨_, b1, b2, _⟩, ⟨_, c1, c2, _⟩, ⟨_, d1, d2, _⟩, ⟨_, _, e1, e2, _⟩, ⟨_, _, f1, f2, _⟩, ⟨_, _, g1, g2, _⟩⟩ := hR
  rcases neg_or a with hn | ⟨w, hw, rfl⟩
  · exact .inr ⟨fun w hw e => absurd (e ▸ hn) (nI_n0 (by omega)), t_cntA hn⟩
  by_cases h8 : w < 8
  · left
    rcases (show w = 0 ∨ w = 1 ∨ w = 2 ∨ w = 3 ∨ w = 4 ∨ w = 5 ∨ w = 6 ∨ w = 7 by omega) with rfl | rfl | rfl | rfl | rfl | rfl | rfl | rfl
    · exact ⟨I 8, s_cnt0, by rw [a1, ← a2]; exact t_cnt0 rfl⟩
    · exact ⟨I 7, s_cnt1, by rw [g1, ← g2]; exact t_cnt1 rfl⟩
    · exact ⟨I 4, s_cnt2, by rw [d1, ← d2]; exact t_cnt2 rfl⟩
    · exact ⟨I 14, s_cnt3, by rw [s1, ← s2]; exact t_cnt3 rfl⟩
    · exact ⟨I 0, s_cnt4, by rw [e1, ← e2]; exact t_cnt4 rfl⟩
    · exact ⟨I 2, s_cnt5, by rw [b1, ← b2]; exact t_cnt5 rfl⟩
    · exact ⟨I 3, s_cnt6, by rw [c1, ← c2]; exact t_cnt6 rfl⟩
    · exact ⟨I 6, s_cnt7, by rw [f1, ← f2]; exact t_cnt7 rfl⟩
  · exact .inr ⟨fun x hx e => absurd ((nI_eq hw (by omega)).mp e) (by omega), t_cntB (nI_n0 hw) (by rw [i_lit 7, nI_leI hw (by decide)]; omega)⟩
theorem jz_error {N : Nat → Nat} {I : Nat → Int32} {L : Nat → Int64} {T : Nat → Nat → Int32} {U : Nat → Nat → Int64} {J : Nat → Int32} {S : Nat → Nat → Int32} {K : Nat → Int64} (h : RZ N I T U J S) (a : Int32) : (∃ r : Int32, f_X11_error (wc I L T U) [.ref 0, .int a] = some (some (.int r), wc I L T U) ∧ f_X12_error (wr J S K) [.ref 0, .int a] = some (some (.int r), wr (uI J 0 0) S K)) ∨ ((¬ a = 0 ∧ ¬ a = 1) ∧ f_X12_error (wr J S K) [.ref 0, .int a] = some (some (.int 0), wr (uI J 0 1) S K)) := by
  obtain ⟨hR, ⟨e1, e2⟩, _⟩ := h
  by_cases h0 : a = 0
  · exact .inl ⟨I 15, s_err0 h0, by rw [e1]; exact t_err0 h0⟩
  by_cases h1 : a = 1
  · exact .inl ⟨I 16, s_err1 h1, by rw [e2]; exact t_err1 h1⟩
  refine .inr ⟨⟨h0, h1⟩, ?_⟩
  rcases neg_or a with hn | ⟨w, hw, rfl⟩
  · exact t_errA hn
  · rw [i_lit 0, nI_eq hw (by decide)] at h0
    rw [i_lit 1, nI_eq hw (by decide)] at h1
    exact t_errB (nI_n0 hw) (by rw [i_lit 1, nI_leI hw (by decide)]; omega)
theorem jz_octet {N : Nat → Nat} {I : Nat → Int32} {L : Nat → Int64} {T : Nat → Nat → Int32} {U : Nat → Nat → Int64} {J : Nat → Int32} {S : Nat → Nat → Int32} {K : Nat → Int64} (h : RZ N I T U J S) (a : Int32) : (∃ r : Int32, f_X11_octet (wc I L T U) [.ref 0, .int a] = some (some (.int r), wc I L T U) ∧ f_X12_octet (wr J S K) [.ref 0, .int a] = some (some (.int r), wr (uI J 0 0) S K)) ∨ ((a < 0 ∨ ¬ a < I 3) ∧ f_X12_octet (wr J S K) [.ref 0, .int a] = some (some (.int 0), wr (uI J 0 1) S K)) := by
  obtain ⟨⟨_, _, ⟨a0, a1, a2, a3⟩, _⟩, _⟩ := h
  rcases neg_or a with hn | ⟨i, hi, rfl⟩
  · exact .inr ⟨.inl hn, t_zoctetA hn⟩
  by_cases c : i < N 2
  · obtain ⟨b, b1, b2, b3⟩ := a3 i c
    exact .inl ⟨nI b, s_zoctet a1 rfl c a0 b1 b2, t_zoctet a2 rfl c a0 b3⟩
  · exact .inr ⟨.inr (by rw [a1, nI_ltI hi (by omega)]; exact c), t_zoctetB (nI_n0 hi) (by rw [a2, nI_ltI hi (by omega)]; exact c)⟩
theorem jz_out {N : Nat → Nat} {I : Nat → Int32} {L : Nat → Int64} {T : Nat → Nat → Int32} {U : Nat → Nat → Int64} {J : Nat → Int32} {S : Nat → Nat → Int32} {K : Nat → Int64} (h : RZ N I T U J S) (a : Int32) : (∃ r : Int32, f_X11_out (wc I L T U) [.ref 0, .int a] = some (some (.int r), wc I L T U) ∧ f_X12_out (wr J S K) [.ref 0, .int a] = some (some (.int r), wr (uI J 0 0) S K)) ∨ ((a < 0 ∨ ¬ a < I 4) ∧ f_X12_out (wr J S K) [.ref 0, .int a] = some (some (.int 0), wr (uI J 0 1) S K)) := by
  obtain ⟨⟨_, _, _, ⟨a0, a1, a2, a3⟩, _⟩, _⟩ := h
  rcases neg_or a with hn | ⟨i, hi, rfl⟩
  · exact .inr ⟨.inl hn, t_zoutA hn⟩
  by_cases c : i < N 3
  · obtain ⟨b, b1, b2, b3⟩ := a3 i c
    exact .inl ⟨nI b, s_zout a1 rfl c a0 b1 b2, t_zout a2 rfl c a0 b3⟩
  · exact .inr ⟨.inr (by rw [a1, nI_ltI hi (by omega)]; exact c), t_zoutB (nI_n0 hi) (by rw [a2, nI_ltI hi (by omega)]; exact c)⟩
theorem jz_at {N : Nat → Nat} {I : Nat → Int32} {L : Nat → Int64} {T : Nat → Nat → Int32} {U : Nat → Nat → Int64} {J : Nat → Int32} {S : Nat → Nat → Int32} {K : Nat → Int64} (h : RZ N I T U J S) (a b : Int32) : (∃ r : Int32, f_X11_at (wc I L T U) [.ref 0, .int a, .int b] = some (some (.int r), wc I L T U) ∧ f_X12_at (wr J S K) [.ref 0, .int a, .int b] = some (some (.int r), wr (uI J 0 0) S K)) ∨ ((a < 0 ∨ ¬ a < I 8) ∧ f_X12_at (wr J S K) [.ref 0, .int a, .int b] = some (some (.int 0), wr (uI J 0 1) S K)) ∨ ((¬ a < 0 ∧ a < I 8 ∧ (b < 0 ∨ ¬ b ≤ 3)) ∧ f_X12_at (wr J S K) [.ref 0, .int a, .int b] = some (some (.int 0), wr (uI J 0 2) S K)) := by
  obtain ⟨⟨⟨a0, a1, a2, a3⟩, _⟩, _⟩ := h
  rcases neg_or a with hn | ⟨i, hi, rfl⟩
  · exact .inr (.inl ⟨.inl hn, t_zatA hn⟩)
  by_cases c : i < N 0
  · have c1 : nI i < I 8 := by rw [a1, nI_ltI hi (by omega)]; exact c
    have c2 : nI i < J 4 := by rw [a2, nI_ltI hi (by omega)]; exact c
    rcases neg_or b with hb | ⟨w, hw, rfl⟩
    · exact .inr (.inr ⟨⟨nI_n0 hi, c1, .inl hb⟩, t_zatC (nI_n0 hi) c2 hb⟩)
    by_cases w3 : w ≤ 3
    · obtain ⟨t, t1, t2, t3⟩ := a3 (N 0 - 1 - i) (by omega)
      exact .inl ⟨pv t w, s_zat rfl rfl c w3 a1 a0 t1 (ok_w0 t3), t_zat rfl rfl c w3 a2 a0 t2 t3⟩
    · have c3 : ¬ nI w ≤ 3 := by rw [i_lit 3, nI_leI hw (by decide)]; exact w3
      exact .inr (.inr ⟨⟨nI_n0 hi, c1, .inr c3⟩, t_zatD (nI_n0 hi) c2 (nI_n0 hw) c3⟩)
  · exact .inr (.inl ⟨.inr (by rw [a1, nI_ltI hi (by omega)]; exact c), t_zatB (nI_n0 hi) (by rw [a2, nI_ltI hi (by omega)]; exact c)⟩)
theorem jz_value {N : Nat → Nat} {I : Nat → Int32} {L : Nat → Int64} {T : Nat → Nat → Int32} {U : Nat → Nat → Int64} {J : Nat → Int32} {S : Nat → Nat → Int32} {K : Nat → Int64} (h : RZ N I T U J S) (a b : Int32) : (∃ r : Int32, f_X11_value (wc I L T U) [.ref 0, .int a, .int b] = some (some (.int r), wc I L T U) ∧ f_X12_value (wr J S K) [.ref 0, .int a, .int b] = some (some (.int r), wr (uI J 0 0) S K)) ∨ ((a < 0 ∨ ¬ a < I 2) ∧ f_X12_value (wr J S K) [.ref 0, .int a, .int b] = some (some (.int 0), wr (uI J 0 1) S K)) ∨ ((¬ a < 0 ∧ a < I 2 ∧ (b < 0 ∨ ¬ b ≤ 3)) ∧ f_X12_value (wr J S K) [.ref 0, .int a, .int b] = some (some (.int 0), wr (uI J 0 2) S K)) := by
  obtain ⟨⟨_, ⟨a0, a1, a2, a3⟩, _⟩, _⟩ := h
  rcases neg_or a with hn | ⟨i, hi, rfl⟩
  · exact .inr (.inl ⟨.inl hn, t_zvalueA hn⟩)
  by_cases c : i < N 1
  · have c1 : nI i < I 2 := by rw [a1, nI_ltI hi (by omega)]; exact c
    have c2 : nI i < J 7 := by rw [a2, nI_ltI hi (by omega)]; exact c
    rcases neg_or b with hb | ⟨w, hw, rfl⟩
    · exact .inr (.inr ⟨⟨nI_n0 hi, c1, .inl hb⟩, t_zvalueC (nI_n0 hi) c2 hb⟩)
    by_cases w3 : w ≤ 3
    · obtain ⟨t, t1, t2, t3⟩ := a3 i c
      exact .inl ⟨pv t w, s_zval rfl rfl c w3 a1 a0 t1 (ok_w0 t3), t_zval rfl rfl c w3 a2 a0 t2 t3⟩
    · have c3 : ¬ nI w ≤ 3 := by rw [i_lit 3, nI_leI hw (by decide)]; exact w3
      exact .inr (.inr ⟨⟨nI_n0 hi, c1, .inr c3⟩, t_zvalueD (nI_n0 hi) c2 (nI_n0 hw) c3⟩)
  · exact .inr (.inl ⟨.inr (by rw [a1, nI_ltI hi (by omega)]; exact c), t_zvalueB (nI_n0 hi) (by rw [a2, nI_ltI hi (by omega)]; exact c)⟩)
theorem jz_name {N : Nat → Nat} {I : Nat → Int32} {L : Nat → Int64} {T : Nat → Nat → Int32} {U : Nat → Nat → Int64} {J : Nat → Int32} {S : Nat → Nat → Int32} {K : Nat → Int64} (h : RZ N I T U J S) (a b : Int32) : (∃ r : Int32, f_X11_name (wc I L T U) [.ref 0, .int a, .int b] = some (some (.int r), wc I L T U) ∧ f_X12_name (wr J S K) [.ref 0, .int a, .int b] = some (some (.int r), wr (uI J 0 0) S K)) ∨ ((a < 0 ∨ (¬ a < 0 ∧ I 0 ≤ a) ∨ (¬ a < 0 ∧ ¬ I 0 ≤ a ∧ b < Int32.ofInt (-1)) ∨ (∃ j, a = nI j ∧ j < 160 ∧ ¬ I 0 ≤ nI j ∧ ¬ b < Int32.ofInt (-1) ∧ ¬ b < T 0 j)) ∧ f_X12_name (wr J S K) [.ref 0, .int a, .int b] = some (some (.int 0), wr (uI J 0 1) S K)) := by
  obtain ⟨⟨_, _, _, _, ⟨a0, a1, a2, a3, a4, _⟩, _⟩, _⟩ := h
  rcases neg_or a with hn | ⟨j, hi, rfl⟩
  · exact .inr ⟨.inl hn, t_znmA hn⟩
  by_cases c : j < N 4
  · have c1 : ¬ I 0 ≤ nI j := by rw [a2, nI_leI (by omega) hi]; omega
    have c2 : ¬ J 10 ≤ nI j := by rw [a3, nI_leI (by omega) hi]; omega
    obtain ⟨l, bs, l1, l2, l3, l4, l5, l6, l7⟩ := a4 j c
    by_cases b1 : b < Int32.ofInt (-1)
    · exact .inr ⟨.inr (.inr (.inl ⟨nI_n0 hi, c1, b1⟩)), t_znmC (nI_n0 hi) c2 b1⟩
    rcases m_cases1 b1 with rfl | ⟨i, i1, rfl⟩
    · exact .inl ⟨nI l, s_znm0 (b := 0) rfl c a1 a2 l3 l1, t_znm0 (b := 0) rfl c a1 a3 l4 l1⟩
    · by_cases d : i < l
      · exact .inl ⟨nI (bs i), s_znm1 rfl c a1 a2 l3 l1 rfl d (s_nmO l2 (by omega) l1 l5 l6 rfl d rfl), t_znm1 rfl c a1 a3 l4 l1 rfl d (l7 i d)⟩
      · exact .inr ⟨.inr (.inr (.inr ⟨j, rfl, by omega, c1, b1, by rw [l3, nI_ltI i1 (by omega)]; exact d⟩)), t_znmD rfl (by omega) c2 b1 (by rw [l4, nI_ltI i1 (by omega)]; exact d)⟩
  · exact .inr ⟨.inr (.inl ⟨nI_n0 hi, by rw [a2, nI_leI (by omega) hi]; omega⟩), t_znmB (nI_n0 hi) (by rw [a3, nI_leI (by omega) hi]; omega)⟩
def DB1 (I : Nat → Int32) (T : Nat → Nat → Int32) (a b : Int32) : Prop := a < 0 ∨ (¬ a < 0 ∧ I 6 ≤ a) ∨ (¬ a < 0 ∧ ¬ I 6 ≤ a ∧ b < Int8.toInt32 (Int8.ofInt (-2))) ∨ (∃ j, a = nI j ∧ j < 20 ∧ ¬ I 6 ≤ nI j ∧ ¬ b < Int8.toInt32 (Int8.ofInt (-2)) ∧ ¬ b < T 5 j)
def DB2 (I : Nat → Int32) (T : Nat → Nat → Int32) (a b c : Int32) : Prop := ∃ j k, a = nI j ∧ j < 20 ∧ ¬ I 6 ≤ nI j ∧ b = nI k ∧ k < 2 ^ 31 ∧ nI k < T 5 j ∧ (c < 0 ∨ ¬ c ≤ 3)
theorem jz_dictionary {N : Nat → Nat} {I : Nat → Int32} {L : Nat → Int64} {T : Nat → Nat → Int32} {U : Nat → Nat → Int64} {J : Nat → Int32} {S : Nat → Nat → Int32} {K : Nat → Int64} (h : RZ N I T U J S) (a b c : Int32) : (∃ r : Int32, f_X11_dictionary (wc I L T U) [.ref 0, .int a, .int b, .int c] = some (some (.int r), wc I L T U) ∧ f_X12_dictionary (wr J S K) [.ref 0, .int a, .int b, .int c] = some (some (.int r), wr (uI J 0 0) S K)) ∨ (DB1 I T a b ∧ f_X12_dictionary (wr J S K) [.ref 0, .int a, .int b, .int c] = some (some (.int 0), wr (uI J 0 1) S K)) ∨ (DB2 I T a b c ∧ f_X12_dictionary (wr J S K) [.ref 0, .int a, .int b, .int c] = some (some (.int 0), wr (uI J 0 2) S K)) := by
  obtain ⟨⟨_, _, _, _, _, ⟨a0, a1, a2, a3, p, s, r, q, a4, a5, a6, a7, ⟨y1, y2, y3⟩, a8, a9, b1, b2⟩, _⟩, _⟩ := h
  rcases neg_or a with hn | ⟨j, hi, rfl⟩
  · exact .inr (.inl ⟨.inl hn, t_zdA hn⟩)
  by_cases cj : j < N 5
  · have c1 : ¬ I 6 ≤ nI j := by rw [a2, nI_leI (by omega) hi]; omega
    have c2 : ¬ J 5 ≤ nI j := by rw [a3, nI_leI (by omega) hi]; omega
    obtain ⟨l1, l2, l3, l4, l5, l6, l7, l8⟩ := a6 j cj
    have q74 : q j ≤ 74 := by
      by_cases e : j = 0
      · rw [e, y3]
        exact Nat.le_refl _
      · have := l8 (by omega)
        omega
    by_cases bb : b < Int8.toInt32 (Int8.ofInt (-2))
    · exact .inr (.inl ⟨.inr (.inr (.inl ⟨nI_n0 hi, c1, bb⟩)), t_zdC (nI_n0 hi) c2 bb⟩)
    rcases m_cases bb with rfl | rfl | ⟨k, k1, rfl⟩
    · exact .inl ⟨nI (q j), s_zdm2 (r := 0) rfl cj a1 a2 l3 (by omega), t_zdm2 (r := 0) rfl cj a1 a3 l5 (by omega)⟩
    · exact .inl ⟨nI (r j), s_zdm1 rfl cj a1 a2 l3 (by omega) l2, t_zdm1 rfl cj a1 a3 l5 (by omega) l4⟩
    · by_cases ck : k < q j
      · have d1 : nI k < T 5 j := by rw [l3, nI_ltI k1 (by omega)]; exact ck
        have d2 : ¬ S 4 j ≤ nI k := by rw [l5, nI_leI (by omega) k1]; omega
        rcases neg_or c with hc | ⟨w, hw, rfl⟩
        · exact .inr (.inr ⟨⟨j, k, rfl, by omega, c1, rfl, k1, d1, .inl hc⟩, t_zdE rfl (by omega) c2 bb d2 (nI_n0 k1) hc⟩)
        by_cases w3 : w ≤ 3
        · by_cases w1 : w ≤ 1
          · obtain ⟨t, t1, t2, t3, t4⟩ := a8 j cj k ck
            refine .inl ⟨pv t (w % 2), s_zdk (r := 0) rfl cj a1 a2 l3 (by omega) rfl rfl ck w1 l1 (by omega) t1 (ok_w0 t4.1), t_zdk (r := 0) (t := t) rfl cj a1 a3 l5 (by omega) rfl rfl ck (by omega) w1 ?_⟩
            rcases (show w = 0 ∨ w = 1 by omega) with rfl | rfl
            · exact t2
            · exact t3
          · obtain ⟨t, t1, t2, t3⟩ := a9 j cj k ck
            have e : pv t (w - 2) = pv t (w % 2) := congrArg (pv t) (by omega)
            exact .inl ⟨pv t (w % 2), s_zdv (r := 0) rfl cj a1 a2 l3 (by omega) rfl rfl ck (by omega) w3 l1 (by omega) t1 (ok_w0 t3), by rw [← e]; exact t_zdv (r := 0) rfl cj a1 a3 l5 (by omega) rfl rfl ck (by omega) (by omega) w3 t2 t3⟩
        · have c3 : ¬ nI w ≤ 3 := by rw [i_lit 3, nI_leI hw (by decide)]; exact w3
          exact .inr (.inr ⟨⟨j, k, rfl, by omega, c1, rfl, k1, d1, .inr c3⟩, t_zdF rfl (by omega) c2 bb d2 (nI_n0 k1) (nI_n0 hw) c3⟩)
      · exact .inr (.inl ⟨.inr (.inr (.inr ⟨j, rfl, by omega, c1, bb, by rw [l3, nI_ltI k1 (by omega)]; exact ck⟩)), t_zdD rfl (by omega) c2 bb (by rw [l5, nI_leI (by omega) k1]; omega)⟩)
  · exact .inr (.inl ⟨.inr (.inl ⟨nI_n0 hi, by rw [a2, nI_leI (by omega) hi]; omega⟩), t_zdB (nI_n0 hi) (by rw [a3, nI_leI (by omega) hi]; omega)⟩)
