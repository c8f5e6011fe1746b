def OJC (op : Nat) (F : rx_F) (o : Nat) (C : Nat → (Nat → V) → Prop) : Prop := ∀ (N : Nat → Nat) (I : Nat → Int32) (L : Nat → Int64) (T : Nat → Nat → Int32) (U : Nat → Nat → Int64) (J : Nat → Int32) (S : Nat → Nat → Int32) (K : Nat → Int64) (g : Nat → V), R N I T U J S → GG N (N 0) g (U 5) (S 1) → C (N 0) g →
  ∃ (e : Nat) (N' : Nat → Nat) (I' : Nat → Int32) (L' : Nat → Int64) (T' : Nat → Nat → Int32) (U' : Nat → Nat → Int64) (J' : Nat → Int32) (S' : Nat → Nat → Int32),
    (chk op (N 0) g = 0 → F (wc I L T U) [.ref o, .int (nI op)] = some (some (.int (nI e)), wc I' L' T' U')) ∧
    (chk op (N 0) g ≠ 0 → e = chk op (N 0) g ∧ I' = I ∧ L' = L ∧ T' = T ∧ U' = U) ∧
    f_X12_operate (wr J S K) [.ref 0, .int (nI op)] = some (some (.int (nI e)), wr J' S' K) ∧
    e ≤ 13 ∧ R N' I' T' U' J' S' ∧ FC I L T U I' L' T' U' ∧ FQ J S J' S' ∧ NM N N'
theorem RO_mono {N M : Nat → Nat} {n m : Nat} {x y : Int32} {u : Nat → Int64} {s : Nat → Int32} (hm : NM N M) (h : RO N n m x u y s) : RO M n m x u y s := ⟨h.1, h.2.1, h.2.2.1, fun i hi => sl_mono hm.1 hm.2.1 hm.2.2.1 hm.2.2.2 (h.2.2.2 i hi)⟩
theorem RD_mono {N M : Nat → Nat} {d : Nat} {xp xd : Int32} {st rm pr : Nat → Int32} {ky vl : Nat → Int64} {yd : Int32} {rrm rpr rk rv : Nat → Int32} (hm : NM N M) (h : RD N d xp xd st rm pr ky vl yd rrm rpr rk rv) : RD M d xp xd st rm pr ky vl yd rrm rpr rk rv := by
  obtain ⟨h1, h2, h3, h4, p, s, r, q, h5, h6, h7, h8, h9, h10, h11, h12, h13⟩ := h
  refine ⟨h1, h2, h3, h4, p, s, r, q, h5, h6, h7, h8, h9, fun j hj k hk => ?_, fun j hj k hk => ?_, h12, h13⟩
  · obtain ⟨t, a, b, c, d1, d2⟩ := h10 j hj k hk
    exact ⟨t, a, b, c, ok_mono hm.1 hm.2.1 hm.2.2.1 hm.2.2.2 d1, d2⟩
  · exact sl_mono hm.1 hm.2.1 hm.2.2.1 hm.2.2.2 (h11 j hj k hk)
theorem GG_mono {N M : Nat → Nat} {n : Nat} {g : Nat → V} {u : Nat → Int64} {s : Nat → Int32} (hm : NM N M) (h : GG N n g u s) : GG M n g u s := fun i hi => ⟨(h i hi).1, (h i hi).2.1, ok_mono hm.1 hm.2.1 hm.2.2.1 hm.2.2.2 (h i hi).2.2⟩
theorem RO_grow {N M : Nat → Nat} {c c' m : Nat} {x y : Int32} {u u' : Nat → Int64} {s s' : Nat → Int32} (h : RO N c m x u y s) (hm : NM N M) (hb : c' ≤ m) (h1 : ∀ j, j < c → u' j = u j) (h2 : ∀ j t, j < c → r5 s j t → r5 s' j t) (h3 : ∀ j, c ≤ j → j < c' → sl M u' j s' j) : RO M c' m (nI c') u' (nI c') s' := by
  refine ⟨hb, rfl, rfl, fun i hi => ?_⟩
  by_cases q : i < c
  · obtain ⟨t, a, b, d⟩ := h.2.2.2 i q
    exact ⟨t, (h1 i q).trans a, h2 i t q b, ok_mono hm.1 hm.2.1 hm.2.2.1 hm.2.2.2 d⟩
  · exact h3 i (by omega) hi
theorem RB_grow {c c' m : Nat} {x y : Int32} {u u' s s' : Nat → Int32} (h : RB c m x u y s) (hb : c' ≤ m) (h1 : ∀ j, j < c → u' j = u j) (h2 : ∀ j, j < c → s' j = s j) (h3 : ∀ j, c ≤ j → j < c' → ∃ b, b < 256 ∧ u' j = bt b ∧ s' j = nI b) : RB c' m (nI c') u' (nI c') s' := by
  refine ⟨hb, rfl, rfl, fun i hi => ?_⟩
  by_cases q : i < c
  · obtain ⟨b, a1, a2, a3⟩ := h.2.2.2 i q
    exact ⟨b, a1, (h1 i q).trans a2, (h2 i q).trans a3⟩
  · exact h3 i (by omega) hi
theorem RO_upd {N : Nat → Nat} {c m j : Nat} {x y : Int32} {u : Nat → Int64} {s s' : Nat → Int32} {t : V} (h : RO N c m x u y s) (ht : ok N t) (hp : ps s j t s') : RO N c m x (vp_updL u j (eV t)) y s' := by
  refine ⟨h.1, h.2.1, h.2.2.1, fun i hi => ?_⟩
  by_cases e : i = j
  · subst e
    exact ⟨t, vp_updL_at, hp.1, ht⟩
  · obtain ⟨t', a, b, c⟩ := h.2.2.2 i hi
    exact ⟨t', (vp_updL_ne e).trans a, hp.2 i t' e b, c⟩
theorem RB_upd {c m j v : Nat} {x y : Int32} {u s : Nat → Int32} (h : RB c m x u y s) (hv : v < 256) : RB c m x (upd u j (bt v)) y (upd s j (nI v)) := by
  refine ⟨h.1, h.2.1, h.2.2.1, fun i hi => ?_⟩
  by_cases e : i = j
  · subst e
    exact ⟨v, hv, upd_at, upd_at⟩
  · obtain ⟨b, a1, a2, a3⟩ := h.2.2.2 i hi
    exact ⟨b, a1, (upd_ne e).trans a2, (upd_ne e).trans a3⟩
theorem neg_or (v : Int32) : v < 0 ∨ ∃ k, k < 2 ^ 31 ∧ v = nI k := by
  by_cases h : v < 0
  · exact .inl h
  · exact .inr (nI_of h)
theorem j_33 : OJ 33 f_X8_perform 34 := by
  intro N I L T U J S K g hR hg
  obtain ⟨hn, e8, e4, hO⟩ := hR.1
  by_cases hu : N 0 < 1
  · have hc : chk 33 (N 0) g = 3 := chk_u (c := 1) (by decide +kernel) hu
    exact OJ_same hR 3 (by decide) (fun h => absurd (h.symm.trans hc) (by decide)) (fun _ => hc.symm) (d_make rfl (by decide) (by decide) (g_33u e4 hn (by omega)))
  obtain ⟨u0, r0, o0⟩ := hg (N 0 - 1) (by omega)
  have v0 := ok_w0 o0
  have hc : chk 33 (N 0) g = if tk 2 (g (N 0 - 1)) = true then 0 else 4 := chk_1 (by decide +kernel) (by decide +kernel) (by omega)
  by_cases k0 : (g (N 0 - 1)).1 = 1
  · rw [if_pos ((tk_2 v0).mpr k0)] at hc
    obtain ⟨hc6, ec, ec', hCs⟩ := hR.2.1
    rcases neg_or (g (N 0 - 1)).2.2.2 with hv | ⟨k, hb, ek⟩
    · exact OJ_same hR 6 (by decide) (fun _ => e_33 e8 hn u0 v0 (by omega) (e_33n hv)) (fun h => absurd hc h) (d_make rfl (by decide) (by decide) (g_33n e4 hn r0 v0 (by omega) k0 hv))
    · by_cases hg2 : 200 < k
      · exact OJ_same hR 6 (by decide) (fun _ => e_33 e8 hn u0 v0 (by omega) (e_33b ek hb hg2)) (fun h => absurd hc h) (d_make rfl (by decide) (by decide) (g_33b e4 hn r0 v0 ek hb (by omega) k0 hg2))
      · by_cases hf : 600 < N 1 + k
        · exact OJ_same hR 2 (by decide) (fun _ => e_33 e8 hn u0 v0 (by omega) (e_33f ek (by omega) ec hc6 hf)) (fun h => absurd hc h) (d_make rfl (by decide) (by decide) (g_33f e4 hn r0 v0 ek hb ec' hc6 (by omega) k0 (by omega) hf))
        · obtain ⟨f, q1, q2, q3⟩ := e_33a (L := L) (T := T) (U := U) e8 hn ek (by omega) ec (by omega) (by omega)
          obtain ⟨f', p1, p2, p3⟩ := g_33a (K := K) e4 hn r0 v0 ek hb ec' (by omega) k0 (by omega) (by omega)
          have hM : (NM N (uN (uN N 1 (N 1 + k)) 0 (N 0 - 1 + 1))) := ⟨Nat.le_add_right _ _, Nat.le_refl _, Nat.le_refl _, Nat.le_refl _⟩
          exact ⟨0, uN (uN N 1 (N 1 + k)) 0 (N 0 - 1 + 1), _, _, _, _, _, _, fun _ => e_33 e8 hn u0 v0 (by omega) q1, fun h => absurd hc h, d_make rfl (by decide) (by decide) (p1), by decide, ⟨RO_ans (n' := N 0 - 1 + 1) (RO_mono hM hR.1) (j := N 0 - 1) (by omega) rfl (by omega) rfl rfl (ok_arr (by decide) (Nat.le_refl _) (by omega)) (ps_st rfl rfl rfl rfl), RO_grow (c' := N 1 + k) hR.2.1 hM (by omega) q2 p2 (fun j a b => ⟨(0, 0, 0, nI 0), (q3 j a b).trans eV_0, p3 j a b, ok_null⟩), hR.2.2.1, hR.2.2.2.1, hR.2.2.2.2.1, RD_mono hM hR.2.2.2.2.2.1, hR.2.2.2.2.2.2⟩, ⟨fun i h1 h2 => by rw [uI_ne _ _ (by omega), uI_ne _ _ (by omega)], rfl, rfl, rfl, rfl, fun i h1 h2 => by rw [uU_ne _ _ (by omega), uU_ne _ _ (by omega)]⟩, ⟨fun i h1 => by rw [uI_ne _ _ (by omega), uI_ne _ _ (by omega), uI_ne _ _ (by omega)], fun i h1 h2 => by rw [uI_ne _ _ (by omega), uI_ne _ _ (by omega), uI_ne _ _ (by omega)], rfl, rfl, rfl, rfl⟩, hM⟩
  · rw [if_neg (fun h => k0 ((tk_2 v0).mp h))] at hc
    exact OJ_same hR 4 (by decide) (fun h => absurd (h.symm.trans hc) (by decide)) (fun _ => hc.symm) (d_make rfl (by decide) (by decide) (g_33t e4 hn r0 v0 (by omega) k0))

theorem j_34 : OJ 34 f_X8_perform 34 := by
  intro N I L T U J S K g hR hg
  obtain ⟨hn, e8, e4, hO⟩ := hR.1
  by_cases hu : N 0 < 1
  · have hc : chk 34 (N 0) g = 3 := chk_u (c := 1) (by decide +kernel) hu
    exact OJ_same hR 3 (by decide) (fun h => absurd (h.symm.trans hc) (by decide)) (fun _ => hc.symm) (d_make rfl (by decide) (by decide) (g_34u e4 hn (by omega)))
  obtain ⟨u0, r0, o0⟩ := hg (N 0 - 1) (by omega)
  have v0 := ok_w0 o0
  have hc : chk 34 (N 0) g = if tk 2 (g (N 0 - 1)) = true then 0 else 4 := chk_1 (by decide +kernel) (by decide +kernel) (by omega)
  by_cases k0 : (g (N 0 - 1)).1 = 1
  · rw [if_pos ((tk_2 v0).mpr k0)] at hc
    obtain ⟨hc6, ec, ec', hCs⟩ := hR.2.2.1
    rcases neg_or (g (N 0 - 1)).2.2.2 with hv | ⟨k, hb, ek⟩
    · exact OJ_same hR 6 (by decide) (fun _ => e_34 e8 hn u0 v0 (by omega) (e_34n hv)) (fun h => absurd hc h) (d_make rfl (by decide) (by decide) (g_34n e4 hn r0 v0 (by omega) k0 hv))
    · by_cases hg2 : 200 < k
      · exact OJ_same hR 6 (by decide) (fun _ => e_34 e8 hn u0 v0 (by omega) (e_34b ek hb hg2)) (fun h => absurd hc h) (d_make rfl (by decide) (by decide) (g_34b e4 hn r0 v0 ek hb (by omega) k0 hg2))
      · by_cases hf : 600 < N 2 + k
        · exact OJ_same hR 2 (by decide) (fun _ => e_34 e8 hn u0 v0 (by omega) (e_34f ek (by omega) ec hc6 hf)) (fun h => absurd hc h) (d_make rfl (by decide) (by decide) (g_34f e4 hn r0 v0 ek hb ec' hc6 (by omega) k0 (by omega) hf))
        · obtain ⟨f, q1, q2, q3⟩ := e_34a (L := L) (T := T) (U := U) e8 hn ek (by omega) ec (by omega) (by omega)
          obtain ⟨f', p1, p2, p3⟩ := g_34a (K := K) e4 hn r0 v0 ek hb ec' (by omega) k0 (by omega) (by omega)
          have hM : (NM N (uN (uN N 2 (N 2 + k)) 0 (N 0 - 1 + 1))) := ⟨Nat.le_refl _, Nat.le_add_right _ _, Nat.le_refl _, Nat.le_refl _⟩
          exact ⟨0, uN (uN N 2 (N 2 + k)) 0 (N 0 - 1 + 1), _, _, _, _, _, _, fun _ => e_34 e8 hn u0 v0 (by omega) q1, fun h => absurd hc h, d_make rfl (by decide) (by decide) (p1), by decide, ⟨RO_ans (n' := N 0 - 1 + 1) (RO_mono hM hR.1) (j := N 0 - 1) (by omega) rfl (by omega) rfl rfl (ok_str (Nat.le_refl _) (by omega)) (ps_st rfl rfl rfl rfl), RO_mono hM hR.2.1, RB_grow (c' := N 2 + k) hR.2.2.1 (by omega) q2 p2 (fun j a b => ⟨0, by decide, q3 j a b, p3 j a b⟩), hR.2.2.2.1, hR.2.2.2.2.1, RD_mono hM hR.2.2.2.2.2.1, hR.2.2.2.2.2.2⟩, ⟨fun i h1 h2 => by rw [uI_ne _ _ (by omega), uI_ne _ _ (by omega)], rfl, rfl, rfl, rfl, fun i h1 h2 => by rw [uU_ne _ _ (by omega)]⟩, ⟨fun i h1 => by rw [uI_ne _ _ (by omega), uI_ne _ _ (by omega), uI_ne _ _ (by omega)], fun i h1 h2 => by rw [uI_ne _ _ (by omega), uI_ne _ _ (by omega), uI_ne _ _ (by omega)], rfl, rfl, rfl, rfl⟩, hM⟩
  · rw [if_neg (fun h => k0 ((tk_2 v0).mp h))] at hc
    exact OJ_same hR 4 (by decide) (fun h => absurd (h.symm.trans hc) (by decide)) (fun _ => hc.symm) (d_make rfl (by decide) (by decide) (g_34t e4 hn r0 v0 (by omega) k0))

theorem j_35 : OJC 35 f_X8_perform 34 (fun n g => (g (n - 1)).1 ≠ 7) := by
  intro N I L T U J S K g hR hg hC
  obtain ⟨hn, e8, e4, hO⟩ := hR.1
  by_cases hu : N 0 < 1
  · have hc : chk 35 (N 0) g = 3 := chk_u (c := 1) (by decide +kernel) hu
    exact OJ_same hR 3 (by decide) (fun h => absurd (h.symm.trans hc) (by decide)) (fun _ => hc.symm) (d_access rfl (by decide) (by decide) (g_35 (g_35u e4 hn (by omega))))
  obtain ⟨u0, r0, o0⟩ := hg (N 0 - 1) (by omega)
  have v0 := ok_w0 o0
  have hc : chk 35 (N 0) g = if tk 11 (g (N 0 - 1)) = true then 0 else 4 := chk_1 (by decide +kernel) (by decide +kernel) (by omega)
  by_cases k4 : (g (N 0 - 1)).1 = 4
  · rw [if_pos ((tk_11 v0).mpr (.inl k4))] at hc
    obtain ⟨x, j, h1, h2, h3, e⟩ := ok_4 o0 k4
    have hj : (g (N 0 - 1)).2.2.2 = nI j := by rw [e]
    obtain ⟨l, b, a1, a2, a3, a4, a5⟩ := hR.2.2.2.2.1.2.2.2.2.1 j h2
    exact OJ_ops hR hc (e_35 (e_35n e8 hn u0 v0 (by omega) k4 hj h3)) (d_access rfl (by decide) (by decide) (g_35 (g_35n e4 hn r0 v0 (by omega) k4 hj h3))) (RO_ans hR.1 (j := N 0 - 1) (by omega) rfl (by omega) rfl rfl (ok_num _) (ps_st rfl (a4.trans a3.symm) rfl rfl))
  · by_cases k5 : (g (N 0 - 1)).1 = 5 ∨ (g (N 0 - 1)).1 = 6
    · rw [if_pos ((tk_11 v0).mpr (by omega))] at hc
      exact OJ_ops hR hc (e_35 (e_35l e8 hn u0 v0 (by omega) k4)) (d_access rfl (by decide) (by decide) (g_35 (g_35l e4 hn r0 v0 (by omega) k5))) (RO_ans hR.1 (j := N 0 - 1) (by omega) rfl (by omega) rfl rfl (ok_num _) (ps_st rfl rfl rfl rfl))
    · have hC' : (g (N 0 - 1)).1 ≠ 7 := hC
      rw [if_neg (fun h => by have := (tk_11 v0).mp h; omega)] at hc
      by_cases k8 : (g (N 0 - 1)).1 < 4
      · exact OJ_same hR 4 (by decide) (fun h => absurd (h.symm.trans hc) (by decide)) (fun _ => hc.symm) (d_access rfl (by decide) (by decide) (g_35 (g_35ta e4 hn r0 v0 (by omega) k8)))
      · exact OJ_same hR 4 (by decide) (fun h => absurd (h.symm.trans hc) (by decide)) (fun _ => hc.symm) (d_access rfl (by decide) (by decide) (g_35 (g_35tb e4 hn r0 v0 (by omega) (by omega))))

theorem j_36 : OJC 36 f_X8_perform 34 (fun n g => (g (n - 2)).1 ≠ 7) := by
  intro N I L T U J S K g hR hg hC
  obtain ⟨hn, e8, e4, hO⟩ := hR.1
  by_cases hu : N 0 < 2
  · have hc : chk 36 (N 0) g = 3 := chk_u (c := 2) (by decide +kernel) hu
    exact OJ_same hR 3 (by decide) (fun h => absurd (h.symm.trans hc) (by decide)) (fun _ => hc.symm) (d_access rfl (by decide) (by decide) (g_36 (g_36u e4 hn (by omega))))
  obtain ⟨u0, r0, o0⟩ := hg (N 0 - 1) (by omega)
  have v0 := ok_w0 o0
  obtain ⟨u1, r1, o1⟩ := hg (N 0 - 2) (by omega)
  have v1 := ok_w0 o1
  have hc : chk 36 (N 0) g = if tk 1 (g (N 0 - 1)) = true ∧ tk 10 (g (N 0 - 2)) = true then 0 else 4 := chk_2 (by decide +kernel) (by decide +kernel) (by decide +kernel) (by omega)
  have hC' : (g (N 0 - 2)).1 ≠ 7 := hC
  by_cases kr : (g (N 0 - 2)).1 = 5
  · rw [if_pos ⟨tk_1 v0, (tk_10 v1).mpr (.inl kr)⟩] at hc
    by_cases k0 : (g (N 0 - 1)).1 = 1
    · rcases neg_or (g (N 0 - 1)).2.2.2 with hv | ⟨i, hb, ek⟩
      · exact OJ_same hR 6 (by decide) (fun _ => e_36 (e_36r e8 hn u0 v0 u1 v1 (by omega) k0 (s_isIndexN hv))) (fun h => absurd hc h) (d_access rfl (by decide) (by decide) (g_36 (g_36rn5 e4 hn r0 v0 r1 v1 (by omega) kr k0 hv)))
      · skip
        obtain ⟨x, l, p, h1, h2, h3, e⟩ := ok_5 o1 kr
        have hp : (g (N 0 - 2)).2.2.2 = nI p := by rw [e]
        have hl : (g (N 0 - 2)).2.2.1 = l := by rw [e]
        by_cases hi : i < (g (N 0 - 2)).2.2.1
        · obtain ⟨t, ca, cb, cc⟩ := hR.2.1.2.2.2 (p + i) (by omega)
          have q := e_36a (L := L) (T := T) e8 hn u0 v0 u1 v1 hp ek (by omega) (by omega) k0 kr (s_isIndex1 rfl v1 ek hi)
          rw [ca] at q
          refine OJ_ops (n' := N 0 - 2 + 1) hR hc (e_36 q) (d_access rfl (by decide) (by decide) (g_36 (g_36a e4 hn r0 v0 r1 v1 hp ek hi (by omega) (by omega) kr k0))) ?_
          exact RO_ans hR.1 (j := N 0 - 2) (by omega) rfl (by omega) rfl (congrArg nI (by omega)) cc (ps_cp cb)
        · exact OJ_same hR 6 (by decide) (fun _ => e_36 (e_36r e8 hn u0 v0 u1 v1 (by omega) k0 (s_isIndex0 rfl v1 ek hb (by omega)))) (fun h => absurd hc h) (d_access rfl (by decide) (by decide) (g_36 (g_36rg5 e4 hn r0 v0 r1 v1 (by omega) kr k0 ek hb (by omega))))
    · exact OJ_same hR 4 (by decide) (fun _ => e_36 (e_36t e8 hn u0 v0 u1 v1 (by omega) k0)) (fun h => absurd hc h) (d_access rfl (by decide) (by decide) (g_36 (g_36tb5 e4 hn r0 v0 r1 v1 (by omega) kr k0)))
  by_cases kr : (g (N 0 - 2)).1 = 6
  · rw [if_pos ⟨tk_1 v0, (tk_10 v1).mpr (.inr (.inl kr))⟩] at hc
    by_cases k0 : (g (N 0 - 1)).1 = 1
    · rcases neg_or (g (N 0 - 1)).2.2.2 with hv | ⟨i, hb, ek⟩
      · exact OJ_same hR 6 (by decide) (fun _ => e_36 (e_36r e8 hn u0 v0 u1 v1 (by omega) k0 (s_isIndexN hv))) (fun h => absurd hc h) (d_access rfl (by decide) (by decide) (g_36 (g_36rn6 e4 hn r0 v0 r1 v1 (by omega) kr k0 hv)))
      · skip
        obtain ⟨l, p, h2, h3, e⟩ := ok_6 o1 kr
        have hp : (g (N 0 - 2)).2.2.2 = nI p := by rw [e]
        have hl : (g (N 0 - 2)).2.2.1 = l := by rw [e]
        by_cases hi : i < (g (N 0 - 2)).2.2.1
        · obtain ⟨b, ca, cb, cc⟩ := hR.2.2.1.2.2.2 (p + i) (by omega)
          refine OJ_ops (n' := N 0 - 2 + 1) hR hc (e_36 (e_36s e8 hn u0 v0 u1 v1 hp ek (by omega) ca cb (by omega) k0 kr (s_isIndex1 rfl v1 ek hi))) (d_access rfl (by decide) (by decide) (g_36 (g_36s e4 hn r0 v0 r1 v1 hp ek hi (by omega) (by omega) kr k0))) ?_
          exact RO_ans hR.1 (j := N 0 - 2) (by omega) rfl (by omega) rfl (congrArg nI (by omega)) (ok_num _) (ps_st rfl cc rfl rfl)
        · exact OJ_same hR 6 (by decide) (fun _ => e_36 (e_36r e8 hn u0 v0 u1 v1 (by omega) k0 (s_isIndex0 rfl v1 ek hb (by omega)))) (fun h => absurd hc h) (d_access rfl (by decide) (by decide) (g_36 (g_36rg6 e4 hn r0 v0 r1 v1 (by omega) kr k0 ek hb (by omega))))
    · exact OJ_same hR 4 (by decide) (fun _ => e_36 (e_36t e8 hn u0 v0 u1 v1 (by omega) k0)) (fun h => absurd hc h) (d_access rfl (by decide) (by decide) (g_36 (g_36tb6 e4 hn r0 v0 r1 v1 (by omega) kr k0)))
  rw [if_neg (fun h => by have := (tk_10 v1).mp h.2; omega)] at hc
  exact OJ_same hR 4 (by decide) (fun h => absurd (h.symm.trans hc) (by decide)) (fun _ => hc.symm) (d_access rfl (by decide) (by decide) (g_36 (g_36ta e4 hn r0 v0 r1 v1 (by omega) (by omega) (by omega) hC')))

