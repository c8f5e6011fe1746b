theorem R_cnt2 {N : Nat → Nat} {I : Nat → Int32} {T : Nat → Nat → Int32} {U : Nat → Nat → Int64} {J : Nat → Int32} {S : Nat → Nat → Int32} {n' : Nat} {I' : Nat → Int32} {T' : Nat → Nat → Int32} {U' : Nat → Nat → Int64} {J' : Nat → Int32} {S' : Nat → Nat → Int32} (h : R N I T U J S) (hn : n' ≤ N 0) (hi8 : I' 8 = nI n') (hi : ∀ x, x ≤ 7 → I' x = I x) (hT : ∀ k, k ≤ 6 → T' k = T k) (hU : ∀ k, k ≤ 5 → U' k = U k) (hj4 : J' 4 = nI n') (hj : ∀ x, 5 ≤ x → x ≤ 11 → J' x = J x) (hS : ∀ k, 1 ≤ k → k ≤ 11 → S' k = S k) : R (uN N 0 n') I' T' U' J' S' := by
  have q := R_cnt h hn
  unfold R at q ⊢
  rw [hi8, hj4, hi 2 (by decide), hi 3 (by decide), hi 4 (by decide), hi 0 (by decide), hi 5 (by decide), hi 6 (by decide), hi 7 (by decide), hj 7 (by decide) (by decide), hj 8 (by decide) (by decide), hj 11 (by decide) (by decide), hj 10 (by decide) (by decide), hj 5 (by decide) (by decide), hj 6 (by decide) (by decide), hT 0 (by decide), hT 1 (by decide), hT 2 (by decide), hT 3 (by decide), hT 4 (by decide), hT 5 (by decide), hT 6 (by decide), hU 0 (by decide), hU 1 (by decide), hU 2 (by decide), hU 3 (by decide), hU 4 (by decide), hU 5 (by decide), hS 1 (by decide) (by decide), hS 2 (by decide) (by decide), hS 3 (by decide) (by decide), hS 4 (by decide) (by decide), hS 5 (by decide) (by decide), hS 6 (by decide) (by decide), hS 7 (by decide) (by decide), hS 8 (by decide) (by decide), hS 9 (by decide) (by decide), hS 10 (by decide) (by decide), hS 11 (by decide) (by decide)]
  exact q
theorem R_fr {N : Nat → Nat} {I : Nat → Int32} {T : Nat → Nat → Int32} {U : Nat → Nat → Int64} {J : Nat → Int32} {S : Nat → Nat → Int32} {I' : Nat → Int32} {T' : Nat → Nat → Int32} {U' : Nat → Nat → Int64} {J' : Nat → Int32} {S' : Nat → Nat → Int32} (h : R N I T U J S) (hi : ∀ x, x ≤ 8 → I' x = I x) (hT : ∀ k, k ≤ 6 → T' k = T k) (hU : ∀ k, k ≤ 5 → U' k = U k) (hj : ∀ x, 4 ≤ x → x ≤ 11 → J' x = J x) (hS : ∀ k, 1 ≤ k → k ≤ 11 → S' k = S k) : R N I' T' U' J' S' := by
  have q := h
  unfold R at q ⊢
  rw [hi 8 (by decide), hj 4 (by decide) (by decide), hi 2 (by decide), hi 3 (by decide), hi 4 (by decide), hi 0 (by decide), hi 5 (by decide), hi 6 (by decide), hi 7 (by decide), hj 7 (by decide) (by decide), hj 8 (by decide) (by decide), hj 11 (by decide) (by decide), hj 10 (by decide) (by decide), hj 5 (by decide) (by decide), hj 6 (by decide) (by decide), hT 0 (by decide), hT 1 (by decide), hT 2 (by decide), hT 3 (by decide), hT 4 (by decide), hT 5 (by decide), hT 6 (by decide), hU 0 (by decide), hU 1 (by decide), hU 2 (by decide), hU 3 (by decide), hU 4 (by decide), hU 5 (by decide), hS 1 (by decide) (by decide), hS 2 (by decide) (by decide), hS 3 (by decide) (by decide), hS 4 (by decide) (by decide), hS 5 (by decide) (by decide), hS 6 (by decide) (by decide), hS 7 (by decide) (by decide), hS 8 (by decide) (by decide), hS 9 (by decide) (by decide), hS 10 (by decide) (by decide), hS 11 (by decide) (by decide)]
  exact q
theorem FR_cong {N : Nat → Nat} {T T' : Nat → Nat → Int32} {U U' : Nat → Nat → Int64} {S S' : Nat → Nat → Int32} {K K' : Nat → Int64} {i : Nat} (h : FR N T U S K i) (ht : T' 10 i = T 10 i) (hu : ∀ k, 8 ≤ k → k ≤ 12 → U' k i = U k i) (h13 : ∀ y, y < 74 → U' 13 (i * 74 + y) = U 13 (i * 74 + y)) (hs : ∀ y, y < 12 → S' 12 (12 * i + y) = S 12 (12 * i + y)) (hs13 : ∀ y, y < 160 → S' 13 (160 * i + y) = S 13 (160 * i + y)) (hk : K' i = K i) : FR N T' U' S' K' i := by
  have s0 : S' 12 (12 * i) = S 12 (12 * i) := hs 0 (by decide)
  have u8 := hu 8 (by decide) (by decide)
  have u9 := hu 9 (by decide) (by decide)
  have u10 := hu 10 (by decide) (by decide)
  have u11 := hu 11 (by decide) (by decide)
  have u12 := hu 12 (by decide) (by decide)
  have s1 := hs 1 (by decide)
  have s2 := hs 2 (by decide)
  have s3 := hs 3 (by decide)
  have s4 := hs 4 (by decide)
  have s6 := hs 6 (by decide)
  have s7 := hs 7 (by decide)
  have s8 := hs 8 (by decide)
  rcases h with h | h | ⟨t, h0, h1, h2, h3, h4, h5, h6⟩
  · refine .inl ?_
    unfold FRp at h ⊢
    rw [ht, u8, u9, s0, s1, s2, s3]
    exact h
  · refine .inr (.inl ?_)
    unfold FRs at h ⊢
    rw [ht, s0]
    exact h
  · refine .inr (.inr ⟨t, h0, h1, h2, h3, u8.trans h4, ?_, ?_⟩)
    · unfold it5 at h5 ⊢
      rw [s1, s2, s3, s4]
      exact h5
    · rcases h6 with h | h | h | h | ⟨j, r, x, a1, a2, a3, a4, a5, a6, a7, a8, a9, b1, b2, b3, b4, b5⟩
      · refine .inl ?_
        unfold FRf at h ⊢
        rw [ht, s0, u9, hk, u11, s6, u10, s7]
        exact h
      · refine .inr (.inl ?_)
        unfold FRr at h ⊢
        rw [ht, s0, u9, hk]
        exact h
      · refine .inr (.inr (.inl ?_))
        unfold FRl at h ⊢
        rw [ht, s0]
        exact h
      · refine .inr (.inr (.inr (.inl ?_)))
        unfold FRa at h ⊢
        rw [ht, s0, u12, u9, hk, u10, s6, s7, s8]
        exact h
      · refine .inr (.inr (.inr (.inr ⟨j, r, x, a1, a2, a3, a4, ht.trans a5, s0.trans a6, u12.trans a7, u9.trans a8, hk.trans a9, u10.trans b1, s6.trans b2, s7.trans b3, s8.trans b4, fun y hy => ?_⟩)))
        obtain ⟨key, k1, k2, k3, k4⟩ := b5 y hy
        exact ⟨key, k1, (h13 y (by omega)).trans k2, (hs13 (2 * y) (by omega)).trans k3, (hs13 (2 * y + 1) (by omega)).trans k4⟩
theorem RE_push {N : Nat → Nat} {n : Nat} {x y : Int32} {T T' : Nat → Nat → Int32} {U U' : Nat → Nat → Int64} {S S' : Nat → Nat → Int32} {K K' : Nat → Int64} (h : RE N n x T U y S K) (hn : n < 24) (hT : ∀ i, i < n → T' 10 i = T 10 i) (hU : ∀ k, 8 ≤ k → k ≤ 12 → ∀ i, i < n → U' k i = U k i) (h13 : ∀ i, i < n * 74 → U' 13 i = U 13 i) (hS : ∀ i, i < 12 * n → S' 12 i = S 12 i) (hs13 : ∀ i, i < 160 * n → S' 13 i = S 13 i) (hK : ∀ i, i < n → K' i = K i) (new : FR N T' U' S' K' n) : RE N (n + 1) (nI (n + 1)) T' U' (nI (n + 1)) S' K' := by
  obtain ⟨a1, a2, a3, a4, ⟨a5, a6⟩, a7⟩ := h
  refine ⟨by omega, by omega, rfl, rfl, ⟨(hT 0 (by omega)).trans a5, (hS 0 (by omega)).trans a6⟩, fun i h0 hi => ?_⟩
  by_cases e : i = n
  · rw [e]
    exact new
  · exact FR_cong (a7 i h0 (by omega)) (hT i (by omega)) (fun k k1 k2 => hU k k1 k2 i (by omega)) (fun y hy => h13 _ (by omega)) (fun y hy => hS _ (by omega)) (fun y hy => hs13 _ (by omega)) (hK i (by omega))
/-! the relation of the machines between two values; x: the class has one more frame, an empty procedure's -/
def SR (N : Nat → Nat) (n x : Nat) (I : Nat → Int32) (T : Nat → Nat → Int32) (U : Nat → Nat → Int64) (J : Nat → Int32) (S : Nat → Nat → Int32) (K : Nat → Int64) : Prop :=
  R N I T U J S ∧ RE N n (nI n) T U (J 14) S K ∧ I 21 = nI (n + x) ∧ (x = 0 ∨ (x = 1 ∧ n < 24 ∧ T 10 n = nI 1 ∧ U 9 n = lN 0 ∧ ∃ p, U 8 n = eV (5, 1, 0, nI p))) ∧ ER I J
theorem SR_E {N : Nat → Nat} {I : Nat → Int32} {T : Nat → Nat → Int32} {U : Nat → Nat → Int64} {J : Nat → Int32} {S : Nat → Nat → Int32} {n : Nat} {K : Nat → Int64} (h : SR N n 0 I T U J S K) : RE N n (I 21) T U (J 14) S K := by
  rw [h.2.2.1]
  exact h.2.1
theorem SR_mk {N : Nat → Nat} {I : Nat → Int32} {T : Nat → Nat → Int32} {U : Nat → Nat → Int64} {J : Nat → Int32} {S : Nat → Nat → Int32} {n : Nat} {K : Nat → Int64} (h : R N I T U J S) (hE : RE N n (I 21) T U (J 14) S K) (he : ER I J) : SR N n 0 I T U J S K := by
  have e := hE.2.2.1
  rw [e] at hE
  exact ⟨h, hE, e, .inl rfl, he⟩
/-! what neither an operator nor an error touches -/
def FK (I : Nat → Int32) (L : Nat → Int64) (T : Nat → Nat → Int32) (J : Nat → Int32) (S : Nat → Nat → Int32) (I' : Nat → Int32) (L' : Nat → Int64) (T' : Nat → Nat → Int32) (J' : Nat → Int32) (S' : Nat → Nat → Int32) : Prop :=
  (∀ x, 9 ≤ x → x ≤ 14 → I' x = I x) ∧ I' 17 = I 17 ∧ L' 2 = L 2 ∧ T' 7 = T 7 ∧ (∀ x, x ≤ 3 → J' x = J x) ∧ J' 15 = J 15 ∧ J' 16 = J 16 ∧ S' 0 = S 0
theorem FK_r (I : Nat → Int32) (L : Nat → Int64) (T : Nat → Nat → Int32) (J : Nat → Int32) (S : Nat → Nat → Int32) : FK I L T J S I L T J S := ⟨fun _ _ _ => rfl, rfl, rfl, rfl, fun _ _ => rfl, rfl, rfl, rfl⟩
theorem FK_t {I I' I2 : Nat → Int32} {L L' L2 : Nat → Int64} {T T' T2 : Nat → Nat → Int32} {J J' J2 : Nat → Int32} {S S' S2 : Nat → Nat → Int32} (a : FK I L T J S I' L' T' J' S') (b : FK I' L' T' J' S' I2 L2 T2 J2 S2) : FK I L T J S I2 L2 T2 J2 S2 := ⟨fun x h h' => (b.1 x h h').trans (a.1 x h h'), b.2.1.trans a.2.1, b.2.2.1.trans a.2.2.1, b.2.2.2.1.trans a.2.2.2.1, fun x h => (b.2.2.2.2.1 x h).trans (a.2.2.2.2.1 x h), b.2.2.2.2.2.1.trans a.2.2.2.2.2.1, b.2.2.2.2.2.2.1.trans a.2.2.2.2.2.2.1, b.2.2.2.2.2.2.2.trans a.2.2.2.2.2.2.2⟩
/-! an operator of any sort -/
def COU (op : Nat) (F : rx_F) (o : Nat) (N : Nat → Nat) (n : Nat) (I : Nat → Int32) (L : Nat → Int64) (T : Nat → Nat → Int32) (U : Nat → Nat → Int64) (J : Nat → Int32) (S : Nat → Nat → Int32) (K : Nat → Int64) (g : Nat → V) : Prop :=
  ∃ (e : Nat) (N' : Nat → Nat) (I' : Nat → Int32) (L' : Nat → Int64) (T' : Nat → Nat → Int32) (U' : Nat → Nat → Int64) (J' : Nat → Int32) (S' : Nat → Nat → Int32) (K' : Nat → Int64),
    (chk op (N 0) g = 0 → F (wc I L T U) [.ref o, .int (nI op)] = some (some (.int (nI e)), wc I' L' T' U')) ∧
    (chk op (N 0) g ≠ 0 → e = chk op (N 0) g ∧ I' = I ∧ L' = L ∧ T' = T ∧ U' = U) ∧
    f_X12_operate (wr J S K) [.ref 0, .int (nI op)] = some (some (.int (nI e)), wr J' S' K') ∧
    e ≤ 13 ∧ NM N N' ∧ FK I L T J S I' L' T' J' S' ∧
    ((∃ n' x, n' + x ≤ n + 1 ∧ SR N' n' x I' T' U' J' S' K' ∧ (e ≠ 0 → x = 0 ∧ n' ≤ n) ∧ I' 18 = I 18 ∧ J' 17 = J 17 ∧ L' 3 = L 3 ∧ J' 21 = J 21) ∨
     (e = 0 ∧ ∃ n' t, n' ≤ n + 1 ∧ SR N' n' 0 I' T' U' J' S' K' ∧ I' 18 = I 18 ∧ J' 17 = J 17 ∧ ok N' t ∧ L' 3 = eV t ∧ I' 19 = 0 ∧ r5 (S' 16) 0 t ∧ J' 21 = 1 ∧ N' 0 + 1 = N 0 ∧ (t.1 = 5 → t.2.1 = 1 → n' < 24)) ∨
     (e = 0 ∧ R N' I' T' U' J' S' ∧ ER I' J' ∧ I' 18 = J' 17 ∧ I' 18 ≠ Int32.ofInt (-1) ∧ J' 21 = J 21))
theorem CO_oj {op : Nat} {F : rx_F} {o : Nat} (h : OJ op F o) {N : Nat → Nat} {I : Nat → Int32} {L : Nat → Int64} {T : Nat → Nat → Int32} {U : Nat → Nat → Int64} {J : Nat → Int32} {S : Nat → Nat → Int32} {K : Nat → Int64} {n : Nat} {g : Nat → V} (hS : SR N n 0 I T U J S K) (hg : GG N (N 0) g (U 5) (S 1)) : COU op F o N n I L T U J S K g := by
  obtain ⟨e, N', I', L', T', U', J', S', a1, a2, a3, a4, a5, a6, a7, a8⟩ := h N I L T U J S K g hS.1 hg
  obtain ⟨c1, c2, c3, c4, c5, c6⟩ := a6
  obtain ⟨q1, q2, q3, q4, q5, q6⟩ := a7
  refine ⟨e, N', I', L', T', U', J', S', K, a1, a2, a3, a4, a8, ⟨fun x h1 h2 => c1 x h1 (by omega), c1 17 (by decide) (by decide), c2, c4, q1, q2 15 (by decide) (by decide), q2 16 (by decide) (by decide), q3⟩, .inl ⟨n, 0, by omega, ⟨a5, ?_, (c1 21 (by decide) (by decide)).trans hS.2.2.1, .inl rfl, ?_⟩, fun _ => ⟨rfl, Nat.le_refl _⟩, c1 18 (by decide) (by decide), q2 17 (by decide) (by decide), c3, q2 21 (by decide) (by decide)⟩⟩
  · rw [q2 14 (by decide) (by decide)]
    exact RE_mono a8 (RE_same hS.2.1 c5 c6 q4 q5)
  · exact ⟨(c1 15 (by decide) (by decide)).trans (hS.2.2.2.2.1.trans (q2 12 (by decide) (by decide)).symm), (c1 16 (by decide) (by decide)).trans (hS.2.2.2.2.2.trans (q2 13 (by decide) (by decide)).symm)⟩
theorem CO_same {op : Nat} {F : rx_F} {o : Nat} {N : Nat → Nat} {I : Nat → Int32} {L : Nat → Int64} {T : Nat → Nat → Int32} {U : Nat → Nat → Int64} {J : Nat → Int32} {S : Nat → Nat → Int32} {K : Nat → Int64} {n : Nat} {g : Nat → V} (hS : SR N n 0 I T U J S K) (e : Nat) (he : e ≤ 13) (h1 : chk op (N 0) g = 0 → F (wc I L T U) [.ref o, .int (nI op)] = some (some (.int (nI e)), wc I L T U)) (h2 : chk op (N 0) g ≠ 0 → e = chk op (N 0) g) (h3 : f_X12_operate (wr J S K) [.ref 0, .int (nI op)] = some (some (.int (nI e)), wr J S K)) : COU op F o N n I L T U J S K g :=
  ⟨e, N, I, L, T, U, J, S, K, h1, fun h => ⟨h2 h, rfl, rfl, rfl, rfl⟩, h3, he, NM_r N, FK_r I L T J S, .inl ⟨n, 0, by omega, hS, fun _ => ⟨rfl, Nat.le_refl _⟩, rfl, rfl, rfl, rfl⟩⟩
theorem chk_4 {op n d e f k : Nat} {g : Nat → V} (h : sgc op = 4) (hd : sgd op 0 = d) (he : sgd op 1 = e) (hf : sgd op 2 = f) (hk : sgd op 3 = k) (hn : 4 ≤ n) : chk op n g = if tk d (g (n - 1)) = true ∧ tk e (g (n - 2)) = true ∧ tk f (g (n - 3)) = true ∧ tk k (g (n - 4)) = true then 0 else 4 := by
  unfold chk
  rw [h, if_neg (by omega)]
  by_cases c : tk d (g (n - 1)) = true ∧ tk e (g (n - 2)) = true ∧ tk f (g (n - 3)) = true ∧ tk k (g (n - 4)) = true
  · rw [if_pos c, if_pos]
    intro i hi
    rcases (show i = 0 ∨ i = 1 ∨ i = 2 ∨ i = 3 by omega) with e | e | e | e
    · subst e
      rw [hd]
      exact c.1
    · subst e
      rw [he]
      exact c.2.1
    · subst e
      rw [hf]
      exact c.2.2.1
    · subst e
      rw [hk]
      exact c.2.2.2
  · rw [if_neg c, if_neg]
    intro q
    exact c ⟨by rw [← hd]; exact q 0 (by omega), by rw [← he]; exact q 1 (by omega), by rw [← hf]; exact q 2 (by omega), by rw [← hk]; exact q 3 (by omega)⟩
/-- a procedure is entered: the reference passes over an empty one -/
theorem SR_ent {N : Nat → Nat} {I : Nat → Int32} {T : Nat → Nat → Int32} {U : Nat → Nat → Int64} {J : Nat → Int32} {S : Nat → Nat → Int32} {n : Nat} {K : Nat → Int64} {t : V} (h : SR N n 0 I T U J S K) (hn : n < 24) (ht : ok N t) (k5 : t.1 = 5) (x1 : t.2.1 = 1) :
    (t.2.2.1 = 0 → SR N n 1 (uI I 21 (nI (n + 1))) (uT T 10 (upd (T 10) n 1)) (EU U n (eV t)) J S K) ∧
    (0 < t.2.2.1 → SR N (n + 1) 0 (uI I 21 (nI (n + 1))) (uT T 10 (upd (T 10) n 1)) (EU U n (eV t)) (uI J 14 (nI (n + 1))) (uT S 12 (upd (upd (upd (upd (S 12) (12 * n) (nI 1)) (12 * n + 1) t.2.2.2) (12 * n + 2) (nI t.2.2.1)) (12 * n + 3) (nI 0))) K) := by
  obtain ⟨hR, hE, e21, _, he⟩ := h
  obtain ⟨x, l, p, o1, o2, o3, e⟩ := ok_5 ht k5
  rw [e] at x1
  have xe : x = 1 := x1
  subst xe
  subst e
  constructor
  · intro l0
    have l0' : l = 0 := l0
    subst l0'
    refine ⟨R_fr hR (fun x hx => uI_ne _ _ (by omega)) (fun k hk => uT_ne _ _ (by omega)) (fun k hk => EU_o (by omega)) (fun _ _ _ => rfl) (fun _ _ _ => rfl), ?_, rfl, .inr ⟨rfl, hn, ?_, ?_, p, ?_⟩, he⟩
    · obtain ⟨a1, a2, a3, a4, ⟨a5, a6⟩, a7⟩ := hE
      refine ⟨a1, a2, a3, a4, ⟨?_, a6⟩, fun i h0 hi => ?_⟩
      · rw [uT_at, upd_ne (by omega)]
        exact a5
      · exact FR_cong (a7 i h0 hi) (by rw [uT_at, upd_ne (by omega)]) (fun k k1 k2 => EU_lt hi) (fun y hy => by rw [EU_o (by omega)]) (fun _ _ => rfl) (fun _ _ => rfl) rfl
    · rw [uT_at, upd_at]
      rfl
    · exact vp_updL_at
    · exact vp_updL_at
  · intro l0
    refine ⟨R_fr hR (fun x hx => uI_ne _ _ (by omega)) (fun k hk => uT_ne _ _ (by omega)) (fun k hk => EU_o (by omega)) (fun x h1 h2 => uI_ne _ _ (by omega)) (fun k h1 h2 => uT_ne _ _ (by omega)), ?_, rfl, .inl rfl, he⟩
    refine RE_push hE hn (fun i hi => by rw [uT_at, upd_ne (by omega)]) (fun k k1 k2 i hi => EU_lt hi) (fun i hi => by rw [EU_o (by omega)]) (fun i hi => by rw [uT_at, upd_ne (by omega), upd_ne (by omega), upd_ne (by omega), upd_ne (by omega)]) (fun i hi => rfl) (fun i hi => rfl) (.inl ⟨l, p, 0, l0, o2, o3, ?_, vp_updL_at, vp_updL_at, ?_, ?_, ?_, ?_⟩)
    · rw [uT_at, upd_at]
      rfl
    · rw [uT_at, upd_ne (by omega), upd_ne (by omega), upd_ne (by omega), upd_at]
    · rw [uT_at, upd_ne (by omega), upd_ne (by omega), upd_at]
    · rw [uT_at, upd_ne (by omega), upd_at]
    · rw [uT_at, upd_at]
