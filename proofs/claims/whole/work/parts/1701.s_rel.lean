/-! names that are there from the first -/
def fxs : List (Nat × Nat × Nat) := [(7368560, 0, 3), (1751349349, 0, 4), (7370084, 0, 3), (2037411683, 0, 4), (517097156201, 0, 5), (1819045746, 0, 4), (491260308579, 0, 5), (500069396323, 0, 5), (1802658157, 0, 4), (91, 0, 1), (15420, 0, 2), (7885649507158158435, 7041633, 11), (7885649515967246179, 7041633, 11), (6579297, 0, 3), (6452595, 0, 3), (7107949, 0, 3), (1986618473, 0, 4), (6582125, 0, 3), (6776174, 0, 3), (7561825, 0, 3), (29029, 0, 2), (25966, 0, 2), (29804, 0, 2), (25964, 0, 2), (29799, 0, 2), (25959, 0, 2), (6581857, 0, 3), (29295, 0, 2), (7499640, 0, 3), (7630702, 0, 3), (1702195828, 0, 4), (435728179558, 0, 5), (1819047278, 0, 4), (521325933153, 0, 5), (113723913172083, 0, 6), (114849160783212, 0, 6), (7628135, 0, 3), (7632240, 0, 3), (8243122710536021351, 7102838, 11), (8243122710536025456, 7102838, 11), (431131421793, 0, 5), (111542170579809, 0, 6), (93, 0, 1), (15934, 0, 2), (1952672100, 0, 4), (474214786402, 0, 5), (6581861, 0, 3), (6710628, 0, 3), (1684107116, 0, 4), (435711603827, 0, 5), (474450194027, 0, 5), (435710945399, 0, 5), (439787744885, 0, 5), (7238531883082085731, 7627625, 11), (7163367133541658467, 118074580956020, 14), (8387794212891418989, 104, 9), (1667594341, 0, 4), (26217, 0, 2), (111546414229097, 0, 6), (7499622, 0, 3), (127961662514546, 0, 6), (1886351212, 0, 4), (119212747157350, 0, 6), (1953069157, 0, 4), (1886352499, 0, 4), (28259031268160627, 0, 7), (1953068401, 0, 4), (1684957538, 0, 4), (7894627, 0, 3), (499984922211, 0, 5), (118074647274360, 0, 6), (1701869940, 0, 4), (61, 0, 1), (500068610672, 0, 5), (7309475736164529518, 0, 8), (8390880550502821481, 6647929, 11), (8389750244076646242, 6647929, 11), (7309475736148140397, 0, 8), (7309475736047149422, 0, 8), (8104637069104673377, 101, 9), (8751733699800888435, 25968, 10), (7309475736298154340, 0, 8), (8245937404618567791, 1701869940, 12)]
def fxl (j : Nat) : Nat := (fxs.getD j (0, 0, 0)).1
def fxh (j : Nat) : Nat := (fxs.getD j (0, 0, 0)).2.1
def fxn (j : Nat) : Nat := (fxs.getD j (0, 0, 0)).2.2
/-! the relation of the two states -/
def RN (m : Nat) (x : Int32) (ln : Nat → Int32) (lo hi : Nat → Int64) (y : Int32) (sz nb : Nat → Int32) : Prop :=
  83 ≤ m ∧ m ≤ 160 ∧ x = nI m ∧ y = nI m ∧
  (∀ j, j < m → ∃ l b, l ≤ 16 ∧ (∀ i, b i < 256) ∧ ln j = nI l ∧ sz j = nI l ∧ lo j = lN (pkl b l) ∧ hi j = lN (pkh b l) ∧ ∀ i, i < l → nb (16 * j + i) = nI (b i)) ∧
  (∀ i j, i < j → j < m → ¬ (lo i = lo j ∧ hi i = hi j ∧ ln i = ln j)) ∧
  (∀ j, j < 83 → ln j = nI (fxn j) ∧ lo j = lN (fxl j) ∧ hi j = lN (fxh j))
def okk (N : Nat → Nat) (t : V) : Prop := ok N t ∧ (t.1 = 1 ∨ t.1 = 2 ∨ t.1 = 4) ∧ t.2.1 = 0
def RD (N : Nat → Nat) (d : Nat) (xp xd : Int32) (st rm pr : Nat → Int32) (ky vl : Nat → Int64) (yd : Int32) (rrm rpr rk rv : Nat → Int32) : Prop :=
  2 ≤ d ∧ d ≤ 20 ∧ xd = nI d ∧ yd = nI d ∧ ∃ (p : Nat) (s r q : Nat → Nat), xp = nI p ∧ p ≤ 94 + 29 * (d - 2) ∧
  (∀ j, j < d → st j = nI (s j) ∧ rm j = nI (r j) ∧ pr j = nI (q j) ∧ rrm j = nI (r j) ∧ rpr j = nI (q j) ∧ q j ≤ r j ∧ s j + r j ≤ p ∧ (0 < j → r j ≤ 29)) ∧
  (∀ i j, i < j → j < d → s i + r i ≤ s j) ∧ (s 0 = 0 ∧ r 0 = 74 ∧ q 0 = 74) ∧
  (∀ j, j < d → ∀ k, k < q j → ∃ t, ky (s j + k) = eV t ∧ rk (2 * (80 * j + k)) = nI t.1 ∧ rk (2 * (80 * j + k) + 1) = t.2.2.2 ∧ okk N t) ∧
  (∀ j, j < d → ∀ k, k < q j → sl N vl (s j + k) rv (80 * j + k)) ∧
  (∀ j, j < d → ∀ k k', k < k' → k' < q j → ky (s j + k) ≠ ky (s j + k')) ∧
  (∀ k, k < 74 → ky k = eV (4, 0, 0, nI k) ∧ vl k = eV (8, 1, 0, nI k))
def RS (d h : Nat) (x : Int32) (st : Nat → Int32) (y : Int32) (rs : Nat → Int32) : Prop :=
  2 ≤ h ∧ h ≤ 10 ∧ x = nI h ∧ y = nI h ∧ ∀ i, i < h → ∃ j, j < d ∧ st i = nI j ∧ rs i = nI j
def R (N : Nat → Nat) (I : Nat → Int32) (T : Nat → Nat → Int32) (U : Nat → Nat → Int64) (J : Nat → Int32) (S : Nat → Nat → Int32) : Prop :=
  RO N (N 0) 60 (I 8) (U 5) (J 4) (S 1) ∧ RO N (N 1) 600 (I 2) (U 2) (J 7) (S 7) ∧
  RB (N 2) 600 (I 3) (T 1) (J 8) (S 8) ∧ RB (N 3) 1000 (I 4) (T 2) (J 11) (S 11) ∧
  RN (N 4) (I 0) (T 0) (U 0) (U 1) (J 10) (S 9) (S 10) ∧
  RD N (N 5) (I 5) (I 6) (T 3) (T 4) (T 5) (U 3) (U 4) (J 5) (S 3) (S 4) (S 5) (S 6) ∧
  RS (N 5) (N 6) (I 7) (T 6) (J 6) (S 2)
def uN (N : Nat → Nat) (k v : Nat) : Nat → Nat := fun j => bif Nat.beq j k then v else N j
theorem sl_mono {N M : Nat → Nat} {u : Nat → Int64} {i : Nat} {s : Nat → Int32} {j : Nat} (h1 : N 1 ≤ M 1) (h2 : N 2 ≤ M 2) (h4 : N 4 ≤ M 4) (h5 : N 5 ≤ M 5) (h : sl N u i s j) : sl M u i s j := by
  obtain ⟨t, a, b, c⟩ := h
  exact ⟨t, a, b, ok_mono h1 h2 h4 h5 c⟩
/-! frames: what an operator leaves as it was -/
def FC (I : Nat → Int32) (L : Nat → Int64) (T : Nat → Nat → Int32) (U : Nat → Nat → Int64) (I' : Nat → Int32) (L' : Nat → Int64) (T' : Nat → Nat → Int32) (U' : Nat → Nat → Int64) : Prop :=
  (∀ i, 9 ≤ i → i ≤ 21 → I' i = I i) ∧ L' 2 = L 2 ∧ L' 3 = L 3 ∧ T' 7 = T 7 ∧ T' 10 = T 10 ∧ (∀ i, 8 ≤ i → i ≤ 13 → U' i = U i)
def FQ (J : Nat → Int32) (S : Nat → Nat → Int32) (J' : Nat → Int32) (S' : Nat → Nat → Int32) : Prop :=
  (∀ i, i ≤ 3 → J' i = J i) ∧ (∀ i, 12 ≤ i → i ≤ 21 → J' i = J i) ∧ S' 0 = S 0 ∧ S' 12 = S 12 ∧ S' 13 = S 13 ∧ S' 16 = S 16
def NM (N M : Nat → Nat) : Prop := N 1 ≤ M 1 ∧ N 2 ≤ M 2 ∧ N 4 ≤ M 4 ∧ N 5 ≤ M 5
theorem NM_r (N : Nat → Nat) : NM N N := ⟨Nat.le_refl _, Nat.le_refl _, Nat.le_refl _, Nat.le_refl _⟩
theorem FC_r (I : Nat → Int32) (L : Nat → Int64) (T : Nat → Nat → Int32) (U : Nat → Nat → Int64) : FC I L T U I L T U := ⟨fun _ _ _ => rfl, rfl, rfl, rfl, rfl, fun _ _ _ => rfl⟩
theorem FQ_r (J : Nat → Int32) (S : Nat → Nat → Int32) : FQ J S J S := ⟨fun _ _ => rfl, fun _ _ _ => rfl, rfl, rfl, rfl, rfl⟩
def GG (N : Nat → Nat) (n : Nat) (g : Nat → V) (u : Nat → Int64) (s : Nat → Int32) : Prop := ∀ i, i < n → u i = eV (g i) ∧ r5 s i (g i) ∧ ok N (g i)
theorem RO_g {N : Nat → Nat} {n m : Nat} {x y : Int32} {u : Nat → Int64} {s : Nat → Int32} (h : RO N n m x u y s) : ∃ g, GG N n g u s := by
  refine ⟨fun i => if hi : i < n then Classical.choose (h.2.2.2 i hi) else (0, 0, 0, 0), fun i hi => ?_⟩
  have q := Classical.choose_spec (h.2.2.2 i hi)
  show u i = eV (dite _ _ _) ∧ r5 s i (dite _ _ _) ∧ ok N (dite _ _ _)
  rw [dif_pos hi]
  exact q
/-! an operator's theorem -/
def OJ (op : Nat) (F : rx_F) (o : Nat) : Prop := ∀ (N : Nat → Nat) (I : Nat → Int32) (L : Nat → Int64) (T : Nat → Nat → Int32) (U : Nat → Nat → Int64) (J : Nat → Int32) (S : Nat → Nat → Int32) (K : Nat → Int64) (g : Nat → V), R N I T U J S → GG N (N 0) g (U 5) (S 1) →
  ∃ (e : Nat) (N' : Nat → Nat) (I' : Nat → Int32) (L' : Nat → Int64) (T' : Nat → Nat → Int32) (U' : Nat → Nat → Int64) (J' : Nat → Int32) (S' : Nat → Nat → Int32),
    (chk op (N 0) g = 0 → F (wc I L T U) [.ref o, .int (nI op)] = some (some (.int (nI e)), wc I' L' T' U')) ∧
    (chk op (N 0) g ≠ 0 → e = chk op (N 0) g ∧ I' = I ∧ L' = L ∧ T' = T ∧ U' = U) ∧
    f_X12_operate (wr J S K) [.ref 0, .int (nI op)] = some (some (.int (nI e)), wr J' S' K) ∧
    e ≤ 13 ∧ R N' I' T' U' J' S' ∧ FC I L T U I' L' T' U' ∧ FQ J S J' S' ∧ NM N N'
/-! the operands alone -/
def ps (s : Nat → Int32) (j : Nat) (t : V) (s' : Nat → Int32) : Prop := r5 s' j t ∧ ∀ i t', i ≠ j → r5 s i t' → r5 s' i t'
theorem ps_st {s : Nat → Int32} {j : Nat} {a b c d e : Int32} {t : V} (h1 : a = nI t.1) (h2 : b = t.2.2.2) (h3 : c = nI t.2.1) (h4 : d = nI t.2.2.1) : ps s j t (st5 s j a b c d e) := ⟨r5_st h1 h2 h3 h4, fun i t' hi hr => r5_st_ne hi hr⟩
theorem ps_cp {f s : Nat → Int32} {i j : Nat} {t : V} (h : r5 f i t) : ps s j t (cp5 f i s j) := ⟨r5_cp h, fun m t' hm hr => r5_cp_ne hm hr⟩
theorem ps_ex {s : Nat → Int32} {j : Nat} {x : Int32} {e : Nat} {t : V} (ex : x = nI e) (h : r5 s j t) : ps s j (t.1, e, t.2.2.1, t.2.2.2) (upd s (5 * j + 2) x) := by
  subst ex
  refine ⟨⟨(upd_ne (by omega)).trans h.1, (upd_ne (by omega)).trans h.2.1, upd_at, (upd_ne (by omega)).trans h.2.2.2⟩, fun i t' hi hr => ⟨(upd_ne (by omega)).trans hr.1, (upd_ne (by omega)).trans hr.2.1, (upd_ne (by omega)).trans hr.2.2.1, (upd_ne (by omega)).trans hr.2.2.2⟩⟩
theorem RO_ans {N : Nat → Nat} {n j n' m : Nat} {x y x' y' : Int32} {u : Nat → Int64} {s s' : Nat → Int32} {t : V} (h : RO N n m x u y s) (hj : j ≤ n) (hn' : n' = j + 1) (hm : n' ≤ m) (ex : x' = nI n') (ey : y' = nI n') (ht : ok N t) (hp : ps s j t s') : RO N n' m x' (vp_updL u j (eV t)) y' s' := by
  refine ⟨hm, ex, ey, fun i hi => ?_⟩
  by_cases e : i = j
  · subst e
    exact ⟨t, vp_updL_at, hp.1, ht⟩
  · obtain ⟨t', a, b, c⟩ := h.2.2.2 i (by omega)
    exact ⟨t', (vp_updL_ne e).trans a, hp.2 i t' e b, c⟩
theorem RO_drop {N : Nat → Nat} {n n' m : Nat} {x y x' y' : Int32} {u : Nat → Int64} {s : Nat → Int32} (h : RO N n m x u y s) (hn : n' ≤ n) (ex : x' = nI n') (ey : y' = nI n') : RO N n' m x' u y' s := ⟨Nat.le_trans hn h.1, ex, ey, fun i hi => h.2.2.2 i (by omega)⟩
theorem R_ops {N : Nat → Nat} {n' : Nat} {I : Nat → Int32} {T : Nat → Nat → Int32} {U : Nat → Nat → Int64} {J : Nat → Int32} {S : Nat → Nat → Int32} {x' y' : Int32} {u' : Nat → Int64} {s' : Nat → Int32} (h : R N I T U J S) (ho : RO N n' 60 x' u' y' s') : R (uN N 0 n') (uI I 8 x') T (uU U 5 u') (uI J 4 y') (uT S 1 s') := by
  obtain ⟨h0, h1, h2, h3, h4, h5, h6⟩ := h
  exact ⟨ho, h1, h2, h3, h4, h5, h6⟩
theorem FC_ops {I : Nat → Int32} {L : Nat → Int64} {T : Nat → Nat → Int32} {U : Nat → Nat → Int64} {x' : Int32} {u' : Nat → Int64} : FC I L T U (uI I 8 x') L T (uU U 5 u') := ⟨fun i h1 h2 => uI_ne _ _ (by omega), rfl, rfl, rfl, rfl, fun i h1 h2 => uU_ne _ _ (by omega)⟩
theorem FQ_ops {J : Nat → Int32} {S : Nat → Nat → Int32} {y' : Int32} {s' : Nat → Int32} : FQ J S (uI J 4 y') (uT S 1 s') := ⟨fun i h1 => uI_ne _ _ (by omega), fun i h1 h2 => uI_ne _ _ (by omega), rfl, rfl, rfl, rfl⟩
/-! what checkOperands tells -/
theorem chk_0 {op n : Nat} {g : Nat → V} (h : sgc op = 0) : chk op n g = 0 := by
  unfold chk
  rw [h, if_neg (by omega), if_pos (fun i hi => absurd hi (by omega))]
theorem chk_u {op n c : Nat} {g : Nat → V} (h : sgc op = c) (hn : n < c) : chk op n g = 3 := by
  unfold chk
  rw [h, if_pos hn]
theorem chk_1 {op n d : Nat} {g : Nat → V} (h : sgc op = 1) (hd : sgd op 0 = d) (hn : 1 ≤ n) : chk op n g = if tk d (g (n - 1)) = true then 0 else 4 := by
  unfold chk
  rw [h, if_neg (by omega)]
  by_cases c : tk d (g (n - 1)) = true
  · rw [if_pos c, if_pos]
    intro i hi
    have : i = 0 := by omega
    subst this
    rw [hd]
    exact c
  · rw [if_neg c, if_neg]
    intro q
    exact c (by rw [← hd]; exact q 0 (by omega))
theorem chk_2 {op n d e : Nat} {g : Nat → V} (h : sgc op = 2) (hd : sgd op 0 = d) (he : sgd op 1 = e) (hn : 2 ≤ n) : chk op n g = if tk d (g (n - 1)) = true ∧ tk e (g (n - 2)) = true then 0 else 4 := by
  unfold chk
  rw [h, if_neg (by omega)]
  by_cases c : tk d (g (n - 1)) = true ∧ tk e (g (n - 2)) = true
  · rw [if_pos c, if_pos]
    intro i hi
    rcases (show i = 0 ∨ i = 1 by omega) with e | e
    · subst e
      rw [hd]
      exact c.1
    · subst e
      rw [he]
      exact c.2
  · rw [if_neg c, if_neg]
    intro q
    exact c ⟨by rw [← hd]; exact q 0 (by omega), by rw [← he]; exact q 1 (by omega)⟩
theorem chk_3 {op n d e f : Nat} {g : Nat → V} (h : sgc op = 3) (hd : sgd op 0 = d) (he : sgd op 1 = e) (hf : sgd op 2 = f) (hn : 3 ≤ n) : chk op n g = if tk d (g (n - 1)) = true ∧ tk e (g (n - 2)) = true ∧ tk f (g (n - 3)) = true then 0 else 4 := by
  unfold chk
  rw [h, if_neg (by omega)]
  by_cases c : tk d (g (n - 1)) = true ∧ tk e (g (n - 2)) = true ∧ tk f (g (n - 3)) = true
  · rw [if_pos c, if_pos]
    intro i hi
    rcases (show i = 0 ∨ i = 1 ∨ i = 2 by omega) with e | e | e
    · subst e
      rw [hd]
      exact c.1
    · subst e
      rw [he]
      exact c.2.1
    · subst e
      rw [hf]
      exact c.2.2
  · rw [if_neg c, if_neg]
    intro q
    exact c ⟨by rw [← hd]; exact q 0 (by omega), by rw [← he]; exact q 1 (by omega), by rw [← hf]; exact q 2 (by omega)⟩
theorem OJ_same {op : Nat} {F : rx_F} {o : Nat} {N : Nat → Nat} {I : Nat → Int32} {L : Nat → Int64} {T : Nat → Nat → Int32} {U : Nat → Nat → Int64} {J : Nat → Int32} {S : Nat → Nat → Int32} {K : Nat → Int64} {g : Nat → V} (hR : R N I T U J S) (e : Nat) (he : e ≤ 13) (h1 : chk op (N 0) g = 0 → F (wc I L T U) [.ref o, .int (nI op)] = some (some (.int (nI e)), wc I L T U)) (h2 : chk op (N 0) g ≠ 0 → e = chk op (N 0) g) (h3 : f_X12_operate (wr J S K) [.ref 0, .int (nI op)] = some (some (.int (nI e)), wr J S K)) :
  ∃ (e : Nat) (N' : Nat → Nat) (I' : Nat → Int32) (L' : Nat → Int64) (T' : Nat → Nat → Int32) (U' : Nat → Nat → Int64) (J' : Nat → Int32) (S' : Nat → Nat → Int32),
    (chk op (N 0) g = 0 → F (wc I L T U) [.ref o, .int (nI op)] = some (some (.int (nI e)), wc I' L' T' U')) ∧
    (chk op (N 0) g ≠ 0 → e = chk op (N 0) g ∧ I' = I ∧ L' = L ∧ T' = T ∧ U' = U) ∧
    f_X12_operate (wr J S K) [.ref 0, .int (nI op)] = some (some (.int (nI e)), wr J' S' K) ∧
    e ≤ 13 ∧ R N' I' T' U' J' S' ∧ FC I L T U I' L' T' U' ∧ FQ J S J' S' ∧ NM N N' :=
  ⟨e, N, I, L, T, U, J, S, h1, fun h => ⟨h2 h, rfl, rfl, rfl, rfl⟩, h3, he, hR, FC_r I L T U, FQ_r J S, NM_r N⟩
theorem OJ_ops {op : Nat} {F : rx_F} {o : Nat} {N : Nat → Nat} {I : Nat → Int32} {L : Nat → Int64} {T : Nat → Nat → Int32} {U : Nat → Nat → Int64} {J : Nat → Int32} {S : Nat → Nat → Int32} {K : Nat → Int64} {g : Nat → V} (hR : R N I T U J S) {n' : Nat} {x' y' : Int32} {u' : Nat → Int64} {s' : Nat → Int32} (h0 : chk op (N 0) g = 0) (h1 : F (wc I L T U) [.ref o, .int (nI op)] = some (some (.int 0), wc (uI I 8 x') L T (uU U 5 u'))) (h3 : f_X12_operate (wr J S K) [.ref 0, .int (nI op)] = some (some (.int 0), wr (uI J 4 y') (uT S 1 s') K)) (hO : RO N n' 60 x' u' y' s') :
  ∃ (e : Nat) (N' : Nat → Nat) (I' : Nat → Int32) (L' : Nat → Int64) (T' : Nat → Nat → Int32) (U' : Nat → Nat → Int64) (J' : Nat → Int32) (S' : Nat → Nat → Int32),
    (chk op (N 0) g = 0 → F (wc I L T U) [.ref o, .int (nI op)] = some (some (.int (nI e)), wc I' L' T' U')) ∧
    (chk op (N 0) g ≠ 0 → e = chk op (N 0) g ∧ I' = I ∧ L' = L ∧ T' = T ∧ U' = U) ∧
    f_X12_operate (wr J S K) [.ref 0, .int (nI op)] = some (some (.int (nI e)), wr J' S' K) ∧
    e ≤ 13 ∧ R N' I' T' U' J' S' ∧ FC I L T U I' L' T' U' ∧ FQ J S J' S' ∧ NM N N' :=
  ⟨0, uN N 0 n', uI I 8 x', L, T, uU U 5 u', uI J 4 y', uT S 1 s', fun _ => h1, fun h => absurd h0 h, h3, by decide, R_ops hR hO, FC_ops, FQ_ops, NM_r N⟩
