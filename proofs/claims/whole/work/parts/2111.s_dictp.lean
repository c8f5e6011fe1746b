theorem DX_sep {N : Nat → Nat} {d p : Nat} {s r q : Nat → Nat} {T : Nat → Nat → Int32} {U : Nat → Nat → Int64} {S : Nat → Nat → Int32} (h : DX N d p s r q T U S) {i j k m : Nat} (hi : i < d) (hj : j < d) (hij : i ≠ j) (hk : k < r i) (hm : m < r j) : s i + k ≠ s j + m := by
  rcases Nat.lt_or_gt_of_ne hij with c | c
  · have := h.2.1 i j c hj
    omega
  · have := h.2.1 j i c hi
    omega
theorem DX_q80 {N : Nat → Nat} {d p : Nat} {s r q : Nat → Nat} {T : Nat → Nat → Int32} {U : Nat → Nat → Int64} {S : Nat → Nat → Int32} (h : DX N d p s r q T U S) {j : Nat} (hj : j < d) : r j ≤ 74 ∧ q j ≤ r j := by
  obtain ⟨_, _, _, _, _, z1, _, z2⟩ := h.1 j hj
  refine ⟨?_, z1⟩
  by_cases j0 : j = 0
  · rw [j0, h.2.2.1.2.1]
    decide
  · have := z2 (by omega)
    omega
theorem DX_put {N : Nat → Nat} {d p : Nat} {s r q q' : Nat → Nat} {T T' : Nat → Nat → Int32} {U U' : Nat → Nat → Int64} {S S' : Nat → Nat → Int32} (h : DX N d p s r q T U S) {j k : Nat} {key t : V} (hj : j < d) (h0 : 0 < j) (hk : k ≤ q j) (hkr : k < r j) (hq : ∀ x, q' x = if x = j then (if k = q j then q j + 1 else q j) else q x) (hkey : okk N key) (ht : ok N t) (hno : ∀ i, i < q j → i ≠ k → U 3 (s j + i) ≠ eV key)
    (t3 : T' 3 = T 3) (t4 : T' 4 = T 4) (t5 : ∀ x, x < d → T' 5 x = nI (q' x)) (u3 : U' 3 = vp_updL (U 3) (s j + k) (eV key)) (u4 : U' 4 = vp_updL (U 4) (s j + k) (eV t)) (s3 : S' 3 = S 3) (s4 : ∀ x, x < d → S' 4 x = nI (q' x)) (s5a : S' 5 (2 * (80 * j + k)) = nI key.1) (s5b : S' 5 (2 * (80 * j + k) + 1) = key.2.2.2) (s5 : ∀ x, x ≠ 2 * (80 * j + k) → x ≠ 2 * (80 * j + k) + 1 → S' 5 x = S 5 x) (s6 : ps (S 6) (80 * j + k) t (S' 6)) : DX N d p s r q' T' U' S' := by
  obtain ⟨x1, x2, x3, x4, x5, x6, x7⟩ := id h
  have hq' : ∀ x, x < d → q' x ≤ r x := by
    intro x hx
    have := (DX_q80 h hx).2
    rw [hq x]
    split
    · rename_i e
      subst e
      split <;> omega
    · exact this
  have old : ∀ x m, x < d → m < q' x → ¬ (x = j ∧ m = k) → m < q x := by
    intro x m hx hm hne
    rw [hq x] at hm
    split at hm
    · rename_i e
      subst e
      split at hm
      · rename_i e2
        have : m ≠ k := fun e3 => hne ⟨rfl, e3⟩
        omega
      · exact hm
    · exact hm
  have ne3 : ∀ x m, x < d → m < q x → ¬ (x = j ∧ m = k) → s x + m ≠ s j + k := by
    intro x m hx hm hne
    by_cases e : x = j
    · subst e
      have : m ≠ k := fun e3 => hne ⟨rfl, e3⟩
      omega
    · exact DX_sep h hx hj e (by have := (DX_q80 h hx).2; omega) hkr
  have ne6 : ∀ x m, x < d → m < q x → ¬ (x = j ∧ m = k) → 80 * x + m ≠ 80 * j + k := by
    intro x m hx hm hne
    have a1 := DX_q80 h hx
    have a2 := DX_q80 h hj
    by_cases e : x = j
    · subst e
      have : m ≠ k := fun e3 => hne ⟨rfl, e3⟩
      omega
    · omega
  have hs0 : 74 ≤ s j := by
    have := x2 0 j h0 hj
    rw [x3.1, x3.2.1] at this
    omega
  refine ⟨?_, x2, ⟨x3.1, x3.2.1, ?_⟩, ?_, ?_, ?_, ?_⟩
  · intro x hx
    obtain ⟨y1, y2, y3, y4, y5, y6, y7, y8⟩ := x1 x hx
    exact ⟨by rw [t3]; exact y1, by rw [t4]; exact y2, t5 x hx, by rw [s3]; exact y4, s4 x hx, hq' x hx, y7, y8⟩
  · rw [hq 0, if_neg (by omega)]
    exact x3.2.2
  · intro x hx m hm
    by_cases e : x = j ∧ m = k
    · obtain ⟨e1, e2⟩ := e
      subst e1 e2
      exact ⟨key, by rw [u3]; exact vp_updL_at, s5a, s5b, hkey⟩
    · have hm2 := old x m hx hm e
      obtain ⟨t', a1, a2, a3, a4⟩ := x4 x hx m hm2
      have n1 := ne3 x m hx hm2 e
      have n2 := ne6 x m hx hm2 e
      exact ⟨t', by rw [u3, vp_updL_ne n1]; exact a1, (s5 _ (by omega) (by omega)).trans a2, (s5 _ (by omega) (by omega)).trans a3, a4⟩
  · intro x hx m hm
    by_cases e : x = j ∧ m = k
    · obtain ⟨e1, e2⟩ := e
      subst e1 e2
      exact ⟨t, by rw [u4]; exact vp_updL_at, s6.1, ht⟩
    · have hm2 := old x m hx hm e
      obtain ⟨t', a1, a2, a3⟩ := x5 x hx m hm2
      exact ⟨t', by rw [u4, vp_updL_ne (ne3 x m hx hm2 e)]; exact a1, s6.2 _ t' (ne6 x m hx hm2 e) a2, a3⟩
  · intro x hx m m' h1 h2
    rw [u3]
    by_cases e : x = j ∧ m = k
    · obtain ⟨e1, e2⟩ := e
      subst e1 e2
      have hm2 := old x m' hx h2 (by omega)
      rw [vp_updL_at, vp_updL_ne (ne3 x m' hx hm2 (by omega))]
      exact fun e => hno m' hm2 (by omega) e.symm
    · have hm1 := old x m hx (by omega) e
      by_cases e' : x = j ∧ m' = k
      · obtain ⟨e1, e2⟩ := e'
        subst e1 e2
        rw [vp_updL_at, vp_updL_ne (ne3 x m hx hm1 e)]
        exact hno m hm1 (by omega)
      · have hm2 := old x m' hx h2 e'
        rw [vp_updL_ne (ne3 x m hx hm1 e), vp_updL_ne (ne3 x m' hx hm2 e')]
        exact x6 x hx m m' h1 hm2
  · intro m hm
    rw [u3, u4, vp_updL_ne (by omega), vp_updL_ne (by omega)]
    exact x7 m hm
theorem R_dict {N : Nat → Nat} {I : Nat → Int32} {T : Nat → Nat → Int32} {U : Nat → Nat → Int64} {J : Nat → Int32} {S : Nat → Nat → Int32} {p : Nat} {s r q : Nat → Nat} {T' : Nat → Nat → Int32} {U' : Nat → Nat → Int64} {S' : Nat → Nat → Int32} (hR : R N I T U J S) (h5 : I 5 = nI p) (h6 : p ≤ 94 + 29 * (N 5 - 2)) (hX : DX N (N 5) p s r q T' U' S') (ht : ∀ k, k ≠ 5 → T' k = T k) (hu : ∀ k, k ≠ 3 → k ≠ 4 → U' k = U k) (hs : ∀ k, k ≠ 4 → k ≠ 5 → k ≠ 6 → S' k = S k) : R N I T' U' J S' := by
  obtain ⟨h0, h1, h2, h3, h4, hd, h7⟩ := hR
  refine ⟨?_, ?_, ?_, ?_, ?_, ⟨hd.1, hd.2.1, hd.2.2.1, hd.2.2.2.1, p, s, r, q, h5, h6, hX⟩, ?_⟩
  · rw [hu 5 (by decide) (by decide), hs 1 (by decide) (by decide) (by decide)]
    exact h0
  · rw [hu 2 (by decide) (by decide), hs 7 (by decide) (by decide) (by decide)]
    exact h1
  · rw [ht 1 (by decide), hs 8 (by decide) (by decide) (by decide)]
    exact h2
  · rw [ht 2 (by decide), hs 11 (by decide) (by decide) (by decide)]
    exact h3
  · rw [ht 0 (by decide), hu 0 (by decide) (by decide), hu 1 (by decide) (by decide), hs 9 (by decide) (by decide) (by decide), hs 10 (by decide) (by decide) (by decide)]
    exact h4
  · rw [ht 6 (by decide), hs 2 (by decide) (by decide) (by decide)]
    exact h7
theorem jp2 {N : Nat → Nat} {I : Nat → Int32} {L : Nat → Int64} {T : Nat → Nat → Int32} {U : Nat → Nat → Int64} {J : Nat → Int32} {S : Nat → Nat → Int32} {K : Nat → Int64} (hR : R N I T U J S) {key : V} (hk : okk N key) (e22 : J 22 = nI key.1) (e23 : J 23 = key.2.2.2) {j : Nat} (hj : j < N 5) {t : V} {i : Nat} (ht : ok N t) (hr : r5 (S 1) i t) (hi : i < 60) :
    ((∀ a, a = nI j → f_X0_put (wc I L T U) [.ref 9, .int a, .long (eV key), .long (eV t)] = some (some (.int 9), wc I L T U)) ∧ (∀ a, a = nI j → f_X12_hasRoom (wr J S K) [.ref 0, .int a] = some (some (.int 0), wr J S K)) ∧ (j = 0 ∨ T 5 j = T 4 j)) ∨
    (∃ T' U' S', (∀ a, a = nI j → f_X0_put (wc I L T U) [.ref 9, .int a, .long (eV key), .long (eV t)] = some (some (.int 0), wc I L T' U')) ∧ (∀ a, a = nI j → f_X12_hasRoom (wr J S K) [.ref 0, .int a] = some (some (.int 1), wr J S K)) ∧ (∀ a b, a = nI j → b = nI i → f_X12_define (wr J S K) [.ref 0, .int a, .ref 2, .int b] = some (none, wr J S' K)) ∧ R N I T' U' J S' ∧ (∀ k, k ≠ 5 → T' k = T k) ∧ (∀ k, k ≠ 3 → k ≠ 4 → U' k = U k) ∧ (∀ k, k ≠ 4 → k ≠ 5 → k ≠ 6 → S' k = S k) ∧ (T' 5 j = T 5 j ∨ ∃ x, T 5 j = nI x ∧ T' 5 j = nI (x + 1) ∧ x < 29)) := by
  obtain ⟨hd, hd2, h6, h5, p, s, r, q, hp5, hp, hX⟩ := R_DX hR
  by_cases j0 : j = 0
  · subst j0
    exact .inl ⟨fun a ea => s_put0 ea, fun a ea => t_hasRoomS ea, .inl rfl⟩
  · obtain ⟨y1, y2, y3, y4, y5, y6, y7, y8⟩ := hX.1 j hj
    have hr29 := y8 (by omega)
    rcases jf (I := I) (L := L) (K := K) hd (by omega) hX hj hk (a := nI j) (z := nI j) rfl rfl e22 e23 with ⟨f1, f2⟩ | ⟨k, k1, k2, f1, f2⟩
    · by_cases full : q j = r j
      · exact .inl ⟨fun a ea => by subst ea; exact s_put9 rfl (by omega) (by omega) y1 y3 y2 (by omega) (by omega) y6 f1 full, fun a ea => by subst ea; exact t_hasRoom0 rfl (by omega) y5 y4 (by omega) f2 (by omega) full, .inr (by rw [y3, y2, full])⟩
      · have no : ∀ i, i < q j → i ≠ q j → U 3 (s j + i) ≠ eV key := by
          intro i hi _ e
          rcases jf (I := I) (L := L) (J := J) (K := K) hd (by omega) hX hj hk (a := nI j) (z := nI j) rfl rfl rfl rfl with ⟨f1', _⟩ | ⟨k, k1, k2, f1', f2'⟩
          · obtain ⟨x1, x2, x3, x4, x5, x6, x7⟩ := hX
            have : f_X0_find (wc I L T U) [.ref 9, .int (nI j), .long (eV key)] = some (some (.int (nI i)), wc I L T U) := s_find1 rfl (by omega) y1 y3 (by omega) (by omega) hi e (fun m hm e' => absurd (e'.trans e.symm) (x6 j hj m i hm hi))
            rw [this] at f1'
            exact absurd (Value.int.inj (Option.some.inj (congrArg Prod.fst (Option.some.inj f1')))) (ne_m1 (by omega))
          · rw [f1'] at f1
            exact absurd (Value.int.inj (Option.some.inj (congrArg Prod.fst (Option.some.inj f1)))) (ne_m1 (by omega))
        refine .inr ⟨_, _, _, fun a ea => by subst ea; exact s_putN rfl (by omega) (by omega) y1 y3 y2 (by omega) (by omega) y6 f1 (by omega), fun a ea => by subst ea; exact t_hasRoom1 rfl (by omega) y5 y4 (by omega) f2 (by omega) (by omega), fun a b ea eb => by subst ea; exact t_defineN rfl (by omega) y5 (by omega) eb hi f2, ?_, fun k hk => uT_ne _ _ hk, fun k h3 h4 => by rw [uU_ne _ _ h4, uU_ne _ _ h3], fun k h4 h5 h6 => by rw [uT_ne _ _ h6, uT_ne _ _ h5, uT_ne _ _ h4], .inr ⟨q j, y3, by rw [uT_at, upd_at], by omega⟩⟩
        refine R_dict (q := fun x => if x = j then (if q j = q j then q j + 1 else q j) else q x) hR hp5 hp (DX_put (k := q j) (t := t) hX hj (by omega) (Nat.le_refl _) (by omega) (fun _ => rfl) hk ht no rfl rfl (fun x hx => ?_) rfl rfl rfl (fun x hx => ?_) ?_ ?_ (fun x h1 h2 => ?_) (ps_cp hr)) (fun k hk => uT_ne _ _ hk) (fun k h3 h4 => by rw [uU_ne _ _ h4, uU_ne _ _ h3]) (fun k h4 h5 h6 => by rw [uT_ne _ _ h6, uT_ne _ _ h5, uT_ne _ _ h4])
        · show upd (T 5) j (nI (q j + 1)) x = _
          by_cases e : x = j
          · subst e
            rw [upd_at, if_pos rfl, if_pos rfl]
          · rw [upd_ne e, if_neg e, (hX.1 x hx).2.2.1]
        · show upd (S 4) j (nI (q j + 1)) x = _
          by_cases e : x = j
          · subst e
            rw [upd_at, if_pos rfl, if_pos rfl]
          · rw [upd_ne e, if_neg e, (hX.1 x hx).2.2.2.2.1]
        · show upd (upd (S 5) (2 * (80 * j + q j)) (J 22)) (2 * (80 * j + q j) + 1) (J 23) _ = _
          rw [upd_ne (by omega), upd_at, e22]
        · show upd (upd (S 5) (2 * (80 * j + q j)) (J 22)) (2 * (80 * j + q j) + 1) (J 23) _ = _
          rw [upd_at, e23]
        · show upd (upd (S 5) (2 * (80 * j + q j)) (J 22)) (2 * (80 * j + q j) + 1) (J 23) x = _
          rw [upd_ne h2, upd_ne h1]
    · have no : ∀ i, i < q j → i ≠ k → U 3 (s j + i) ≠ eV key := by
        intro i hi hik e
        rcases Nat.lt_or_gt_of_ne hik with c | c
        · exact hX.2.2.2.2.2.1 j hj i k c k1 (e.trans k2.symm)
        · exact hX.2.2.2.2.2.1 j hj k i c hi (k2.trans e.symm)
      refine .inr ⟨_, _, _, fun a ea => by subst ea; exact s_putY rfl (by omega) (by omega) y1 y3 y2 (by omega) (by omega) y6 k1 f1, fun a ea => by subst ea; exact t_hasRoomY rfl (by omega) (by omega) (x := 80 * j + k) (by omega) f2, fun a b ea eb => by subst ea; exact t_defineY eb hi (x := 80 * j + k) (by omega) f2, ?_, fun k hk => rfl, fun k h3 h4 => by rw [uU_ne _ _ h4, uU_ne _ _ h3], fun k h4 h5 h6 => by rw [uT_ne _ _ h6], .inl rfl⟩
      obtain ⟨t', a1, a2, a3, a4⟩ := hX.2.2.2.1 j hj k k1
      have et : t' = key := eV_inj (ok_w0 a4.1) (ok_w0 hk.1) (a1.symm.trans k2)
      subst et
      refine R_dict (q := fun x => if x = j then (if k = q j then q j + 1 else q j) else q x) hR hp5 hp (DX_put (k := k) (t := t) hX hj (by omega) (by omega) (by omega) (fun _ => rfl) hk ht no rfl rfl (fun x hx => ?_) rfl rfl rfl (fun x hx => ?_) a2 a3 (fun x h1 h2 => rfl) (ps_cp hr)) (fun k hk => rfl) (fun k h3 h4 => by rw [uU_ne _ _ h4, uU_ne _ _ h3]) (fun k h4 h5 h6 => by rw [uT_ne _ _ h6])
      · by_cases e : x = j
        · subst e
          rw [if_pos rfl, if_neg (by omega)]
          exact y3
        · rw [if_neg e]
          exact (hX.1 x hx).2.2.1
      · by_cases e : x = j
        · subst e
          rw [if_pos rfl, if_neg (by omega)]
          exact y5
        · rw [if_neg e]
          exact (hX.1 x hx).2.2.2.2.1
theorem jp {N : Nat → Nat} {I : Nat → Int32} {L : Nat → Int64} {T : Nat → Nat → Int32} {U : Nat → Nat → Int64} {J : Nat → Int32} {S : Nat → Nat → Int32} {K : Nat → Int64} (hR : R N I T U J S) {key : V} (hk : okk N key) (e22 : J 22 = nI key.1) (e23 : J 23 = key.2.2.2) {j : Nat} (hj : j < N 5) {t : V} {i : Nat} (ht : ok N t) (hr : r5 (S 1) i t) (hi : i < 60) :
    ((∀ a, a = nI j → f_X0_put (wc I L T U) [.ref 9, .int a, .long (eV key), .long (eV t)] = some (some (.int 9), wc I L T U)) ∧ (∀ a, a = nI j → f_X12_hasRoom (wr J S K) [.ref 0, .int a] = some (some (.int 0), wr J S K))) ∨
    (∃ T' U' S', (∀ a, a = nI j → f_X0_put (wc I L T U) [.ref 9, .int a, .long (eV key), .long (eV t)] = some (some (.int 0), wc I L T' U')) ∧ (∀ a, a = nI j → f_X12_hasRoom (wr J S K) [.ref 0, .int a] = some (some (.int 1), wr J S K)) ∧ (∀ a b, a = nI j → b = nI i → f_X12_define (wr J S K) [.ref 0, .int a, .ref 2, .int b] = some (none, wr J S' K)) ∧ R N I T' U' J S' ∧ (∀ k, k ≠ 5 → T' k = T k) ∧ (∀ k, k ≠ 3 → k ≠ 4 → U' k = U k) ∧ (∀ k, k ≠ 4 → k ≠ 5 → k ≠ 6 → S' k = S k)) := by
  rcases jp2 (I := I) (L := L) (K := K) hR hk e22 e23 hj ht hr hi with ⟨a1, a2, _⟩ | ⟨T', U', S', a1, a2, a3, a4, a5, a6, a7, _⟩
  · exact .inl ⟨a1, a2⟩
  · exact .inr ⟨T', U', S', a1, a2, a3, a4, a5, a6, a7⟩
theorem DX_rem {N : Nat → Nat} {d p : Nat} {s r q q' : Nat → Nat} {T T' : Nat → Nat → Int32} {U U' : Nat → Nat → Int64} {S S' : Nat → Nat → Int32} (h : DX N d p s r q T U S) {j k : Nat} (hj : j < d) (h0 : 0 < j) (hk : k < q j) (hq : ∀ x, q' x = if x = j then q j - 1 else q x)
    (t3 : T' 3 = T 3) (t4 : T' 4 = T 4) (t5 : ∀ x, x < d → T' 5 x = nI (q' x)) (u3 : U' 3 = shfu (U 3) (s j + k) (q j - 1 - k)) (u4 : U' 4 = shfu (U 4) (s j + k) (q j - 1 - k)) (s3 : S' 3 = S 3) (s4 : ∀ x, x < d → S' 4 x = nI (q' x))
    (s5 : ∀ x, (S' 5 (2 * x) = if 80 * j + k ≤ x ∧ x < 80 * j + q j - 1 then S 5 (2 * (x + 1)) else S 5 (2 * x)) ∧ (S' 5 (2 * x + 1) = if 80 * j + k ≤ x ∧ x < 80 * j + q j - 1 then S 5 (2 * (x + 1) + 1) else S 5 (2 * x + 1)))
    (s6 : ∀ x t, r5 (S 6) (if 80 * j + k ≤ x ∧ x < 80 * j + q j - 1 then x + 1 else x) t → r5 (S' 6) x t) : DX N d p s r q' T' U' S' := by
  obtain ⟨x1, x2, x3, x4, x5, x6, x7⟩ := id h
  have hjr := DX_q80 h hj
  have old : ∀ x m, x < d → m < q' x → m < q x := by
    intro x m hx hm
    rw [hq x] at hm
    split at hm
    · rename_i e
      subst e
      omega
    · exact hm
  -- where the pair m of x stood before
  have wh : ∀ x m, x < d → m < q' x → ∃ m', m' < q x ∧ (∀ f, shfu f (s j + k) (q j - 1 - k) (s x + m) = f (s x + m')) ∧ (if 80 * j + k ≤ 80 * x + m ∧ 80 * x + m < 80 * j + q j - 1 then 80 * x + m + 1 else 80 * x + m) = 80 * x + m' ∧ (x = j → (m < k → m' = m) ∧ (k ≤ m → m' = m + 1)) ∧ (x ≠ j → m' = m) := by
    intro x m hx hm
    have hm2 := old x m hx hm
    have hxr := DX_q80 h hx
    by_cases e : x = j
    · subst e
      rw [hq x, if_pos rfl] at hm
      by_cases c : m < k
      · refine ⟨m, hm2, fun f => if_neg (by omega), if_neg (by omega), fun _ => ⟨fun _ => rfl, fun _ => by omega⟩, fun h => absurd rfl h⟩
      · refine ⟨m + 1, by omega, fun f => ?_, ?_, fun _ => ⟨fun _ => by omega, fun _ => rfl⟩, fun h => absurd rfl h⟩
        · exact (if_pos ⟨by omega, by omega⟩).trans (congrArg f (by omega))
        · rw [if_pos ⟨by omega, by omega⟩]
          omega
    · refine ⟨m, hm2, fun f => ?_, if_neg (by omega), fun h => absurd h e, fun _ => rfl⟩
      refine if_neg (fun hh => ?_)
      obtain ⟨g1, g2⟩ := hh
      obtain ⟨y, hy⟩ : ∃ y, s x + m = s j + y := ⟨s x + m - s j, by omega⟩
      exact DX_sep h hx hj e (by omega) (show y < r j by omega) hy
  have hs0 : 74 ≤ s j := by
    have := x2 0 j h0 hj
    rw [x3.1, x3.2.1] at this
    omega
  refine ⟨?_, x2, ⟨x3.1, x3.2.1, ?_⟩, ?_, ?_, ?_, ?_⟩
  · intro x hx
    obtain ⟨y1, y2, y3, y4, y5, y6, y7, y8⟩ := x1 x hx
    refine ⟨by rw [t3]; exact y1, by rw [t4]; exact y2, t5 x hx, by rw [s3]; exact y4, s4 x hx, ?_, y7, y8⟩
    rw [hq x]
    split
    · rename_i e
      subst e
      omega
    · exact y6
  · rw [hq 0, if_neg (by omega)]
    exact x3.2.2
  · intro x hx m hm
    obtain ⟨m', w1, w2, w3, w4, w5⟩ := wh x m hx hm
    obtain ⟨t', a1, a2, a3, a4⟩ := x4 x hx m' w1
    refine ⟨t', by rw [u3, w2]; exact a1, ?_, ?_, a4⟩
    · rw [(s5 (80 * x + m)).1]
      by_cases c : 80 * j + k ≤ 80 * x + m ∧ 80 * x + m < 80 * j + q j - 1
      · rw [if_pos c] at w3 ⊢
        rw [w3]
        exact a2
      · rw [if_neg c] at w3 ⊢
        rw [w3]
        exact a2
    · rw [(s5 (80 * x + m)).2]
      by_cases c : 80 * j + k ≤ 80 * x + m ∧ 80 * x + m < 80 * j + q j - 1
      · rw [if_pos c] at w3 ⊢
        rw [w3]
        exact a3
      · rw [if_neg c] at w3 ⊢
        rw [w3]
        exact a3
  · intro x hx m hm
    obtain ⟨m', w1, w2, w3, w4, w5⟩ := wh x m hx hm
    obtain ⟨t', a1, a2, a3⟩ := x5 x hx m' w1
    exact ⟨t', by rw [u4, w2]; exact a1, s6 _ t' (by rw [w3]; exact a2), a3⟩
  · intro x hx m n h1 h2
    obtain ⟨m', w1, w2, w3, w4, w5⟩ := wh x m hx (by omega)
    obtain ⟨n', w1', w2', w3', w4', w5'⟩ := wh x n hx h2
    rw [u3, w2, w2']
    refine x6 x hx m' n' ?_ w1'
    by_cases e : x = j
    · have := w4 e
      have := w4' e
      omega
    · rw [w5 e, w5' e]
      exact h1
  · intro m hm
    rw [u3, u4, show shfu (U 3) (s j + k) (q j - 1 - k) m = U 3 m from if_neg (by omega), show shfu (U 4) (s j + k) (q j - 1 - k) m = U 4 m from if_neg (by omega)]
    exact x7 m hm
theorem jr {N : Nat → Nat} {I : Nat → Int32} {L : Nat → Int64} {T : Nat → Nat → Int32} {U : Nat → Nat → Int64} {J : Nat → Int32} {S : Nat → Nat → Int32} {K : Nat → Int64} (hR : R N I T U J S) {key : V} (hk : okk N key) (e22 : J 22 = nI key.1) (e23 : J 23 = key.2.2.2) {j : Nat} (hj : j < N 5) (j0 : 0 < j) :
    ∃ T' U' S', (∀ a, a = nI j → f_X0_remove (wc I L T U) [.ref 9, .int a, .long (eV key)] = some (some (.int 0), wc I L T' U')) ∧ (∀ a, a = nI j → f_X12_remove (wr J S K) [.ref 0, .int a] = some (none, wr J S' K)) ∧ R N I T' U' J S' ∧ (∀ k, k ≠ 5 → T' k = T k) ∧ (∀ k, k ≠ 3 → k ≠ 4 → U' k = U k) ∧ (∀ k, k ≠ 4 → k ≠ 5 → k ≠ 6 → S' k = S k) := by
  obtain ⟨hd, hd2, h6, h5, p, s, r, q, hp5, hp, hX⟩ := R_DX hR
  obtain ⟨y1, y2, y3, y4, y5, y6, y7, y8⟩ := hX.1 j hj
  have hr29 := y8 (by omega)
  rcases jf (I := I) (L := L) (K := K) hd (by omega) hX hj hk (a := nI j) (z := nI j) rfl rfl e22 e23 with ⟨f1, f2⟩ | ⟨k, k1, k2, f1, f2⟩
  · exact ⟨T, U, S, fun a ea => by subst ea; exact s_removeN rfl (by omega) j0 f1, fun a ea => by subst ea; exact t_removeN f2, hR, fun _ _ => rfl, fun _ _ _ => rfl, fun _ _ _ _ => rfl⟩
  · obtain ⟨f, g, q1, q2, q3⟩ := t_removeY rfl (by omega) y5 (by omega) k1 f2
    refine ⟨_, _, _, fun a ea => by subst ea; exact s_removeY rfl (by omega) j0 y1 y3 y2 (by omega) (by omega) y6 k1 f1, fun a ea => by subst ea; exact q1, ?_, fun k hk => uT_ne _ _ hk, fun k h3 h4 => by rw [uU_ne _ _ h4, uU_ne _ _ h3], fun k h4 h5 h6 => by rw [uT_ne _ _ h6, uT_ne _ _ h5, uT_ne _ _ h4]⟩
    refine R_dict (q := fun x => if x = j then q j - 1 else q x) hR hp5 hp (DX_rem hX hj j0 k1 (fun _ => rfl) rfl rfl (fun x hx => ?_) rfl rfl rfl (fun x hx => ?_) q2 q3) (fun k hk => uT_ne _ _ hk) (fun k h3 h4 => by rw [uU_ne _ _ h4, uU_ne _ _ h3]) (fun k h4 h5 h6 => by rw [uT_ne _ _ h6, uT_ne _ _ h5, uT_ne _ _ h4])
    · show upd (T 5) j (nI (q j - 1)) x = _
      by_cases e : x = j
      · subst e
        rw [upd_at, if_pos rfl]
      · rw [upd_ne e, if_neg e, (hX.1 x hx).2.2.1]
    · show upd (S 4) j (nI (q j - 1)) x = _
      by_cases e : x = j
      · subst e
        rw [upd_at, if_pos rfl]
      · rw [upd_ne e, if_neg e, (hX.1 x hx).2.2.2.2.1]
