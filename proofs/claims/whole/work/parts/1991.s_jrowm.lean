theorem j_39 : OJ 39 f_X8_perform 34 := by
  intro N I L T U J S K g hR hg
  obtain ⟨hn, e8, e4, hO⟩ := hR.1
  by_cases hu : N 0 < 3
  · have hc : chk 39 (N 0) g = 3 := chk_u (c := 3) (by decide +kernel) hu
    exact OJ_same hR 3 (by decide) (fun h => absurd (h.symm.trans hc) (by decide)) (fun _ => hc.symm) (d_access rfl (by decide) (by decide) (g_39 (g_39u e4 hn (by omega))))
  obtain ⟨u0, r0, o0⟩ := hg (N 0 - 1) (by omega)
  have v0 := ok_w0 o0
  obtain ⟨u1, r1, o1⟩ := hg (N 0 - 2) (by omega)
  have v1 := ok_w0 o1
  obtain ⟨u2, r2, o2⟩ := hg (N 0 - 3) (by omega)
  have v2 := ok_w0 o2
  have hc : chk 39 (N 0) g = if tk 9 (g (N 0 - 1)) = true ∧ tk 2 (g (N 0 - 2)) = true ∧ tk 9 (g (N 0 - 3)) = true then 0 else 4 := chk_3 (by decide +kernel) (by decide +kernel) (by decide +kernel) (by decide +kernel) (by omega)
  by_cases kr : (g (N 0 - 3)).1 = 5
  · skip
    by_cases k1 : (g (N 0 - 2)).1 = 1
    · by_cases k0 : (g (N 0 - 1)).1 = 5
      · rw [if_pos ⟨(tk_9 v0).mpr (by omega), (tk_2 v1).mpr k1, (tk_9 v2).mpr (by omega)⟩] at hc
        rcases neg_or (g (N 0 - 2)).2.2.2 with hv | ⟨i, hb, ek⟩
        · exact OJ_same hR 6 (by decide) (fun _ => e_39 (e_39n e8 hn u0 v0 u1 v1 u2 v2 (by omega) (kr.trans k0.symm) hv)) (fun h => absurd hc h) (d_access rfl (by decide) (by decide) (g_39 (g_39n5 e4 hn r0 v0 r1 v1 r2 v2 (by omega) kr k1 k0 hv)))
        · by_cases hh : i + (g (N 0 - 1)).2.2.1 ≤ (g (N 0 - 3)).2.2.1
          · have fin : True := trivial
            · obtain ⟨x0, l, fr, y1, y2, y3, e0⟩ := ok_5 o0 k0
              obtain ⟨x2, l', p, z1, z2, z3, e2⟩ := ok_5 o2 kr
              have hf : (g (N 0 - 1)).2.2.2 = nI fr := by rw [e0]
              have hL : (g (N 0 - 1)).2.2.1 = l := by rw [e0]
              have hp : (g (N 0 - 3)).2.2.2 = nI p := by rw [e2]
              have hL2 : (g (N 0 - 3)).2.2.1 = l' := by rw [e2]
              obtain ⟨f, h, q1, q2⟩ := s_moveCells (I := I) (L := L) (T := T) (U := U) (fr := fr) (to := p + i) (l := l) hf (b := (g (N 0 - 3)).2.2.2 + nI i) (by rw [hp, nI_add]) (c := nI (g (N 0 - 1)).2.2.1) (by rw [hL]) (by omega) (by omega)
              have hr : ∃ f, f_X12_putPart (wr J S K) [.ref 0] = some (some (.int 0), wr (uI J 4 (nI (N 0 - 3))) (uT S 7 f) K) ∧ (∀ x t, p + i ≤ x → x < p + i + l → r5 (S 7) (x - (p + i) + fr) t → r5 f x t) ∧ (∀ x t, ¬ (p + i ≤ x ∧ x < p + i + l) → r5 (S 7) x t → r5 f x t) := by
                by_cases hd : fr < p + i
                · exact g_39d5 e4 hn r0 v0 r1 v1 r2 v2 (by omega) kr k1 k0 ek hb hp hf hL (by omega) (by omega) (by omega) hd
                · exact g_39e5 e4 hn r0 v0 r1 v1 r2 v2 (by omega) kr k1 k0 ek hb hp hf hL (by omega) (by omega) (by omega) (by omega)
              obtain ⟨f', p0, p1, p2⟩ := hr
              refine ⟨0, uN N 0 (N 0 - 3), _, _, _, _, _, _, fun _ => e_39 (e_39a e8 hn u0 v0 u1 v1 u2 v2 (by omega) ek hb hh kr k0 q1), fun h => absurd hc h, d_access rfl (by decide) (by decide) (g_39 p0), by decide, ⟨RO_drop (n' := N 0 - 3) hR.1 (by omega) rfl rfl, ⟨hR.2.1.1, hR.2.1.2.1, hR.2.1.2.2.1, fun x hx => ?_⟩, hR.2.2.1, hR.2.2.2.1, hR.2.2.2.2.1, hR.2.2.2.2.2.1, hR.2.2.2.2.2.2⟩, ⟨fun i h1 h2 => by rw [uI_ne _ _ (by omega)], rfl, rfl, rfl, rfl, fun i h1 h2 => by rw [uU_ne _ _ (by omega), uU_ne _ _ (by omega)]⟩, ⟨fun i h1 => by rw [uI_ne _ _ (by omega)], fun i h1 h2 => by rw [uI_ne _ _ (by omega)], rfl, rfl, rfl, rfl⟩, NM_r N⟩
              by_cases d : p + i ≤ x ∧ x < p + i + l
              · obtain ⟨t, ca, cb, cc⟩ := hR.2.1.2.2.2 (x - (p + i) + fr) (by omega)
                refine ⟨t, ?_, p1 x t d.1 d.2 cb, cc⟩
                show h x = eV t
                rw [q2 x, if_pos d, ca]
              · obtain ⟨t, ca, cb, cc⟩ := hR.2.1.2.2.2 x hx
                refine ⟨t, ?_, p2 x t d cb, cc⟩
                show h x = eV t
                rw [q2 x, if_neg d, ca]
          · exact OJ_same hR 6 (by decide) (fun _ => e_39 (e_39h e8 hn u0 v0 u1 v1 u2 v2 (by omega) ek hb (kr.trans k0.symm) (by omega))) (fun h => absurd hc h) (d_access rfl (by decide) (by decide) (g_39 (g_39h5 e4 hn r0 v0 r1 v1 r2 v2 (by omega) kr k1 k0 ek hb (by omega))))
      · by_cases ka : (g (N 0 - 1)).1 = 5 ∨ (g (N 0 - 1)).1 = 6
        · rw [if_pos ⟨(tk_9 v0).mpr ka, (tk_2 v1).mpr k1, (tk_9 v2).mpr (by omega)⟩] at hc
          exact OJ_same hR 4 (by decide) (fun _ => e_39 (e_39t e8 hn u0 v0 u1 v1 u2 v2 (by omega) (by omega))) (fun h => absurd hc h) (d_access rfl (by decide) (by decide) (g_39 (g_39tc5 e4 hn r0 v0 r1 v1 r2 v2 (by omega) kr k1 k0)))
        · rw [if_neg (fun h => ka ((tk_9 v0).mp h.1))] at hc
          exact OJ_same hR 4 (by decide) (fun h => absurd (h.symm.trans hc) (by decide)) (fun _ => hc.symm) (d_access rfl (by decide) (by decide) (g_39 (g_39tc5 e4 hn r0 v0 r1 v1 r2 v2 (by omega) kr k1 k0)))
    · rw [if_neg (fun h => k1 ((tk_2 v1).mp h.2.1))] at hc
      exact OJ_same hR 4 (by decide) (fun h => absurd (h.symm.trans hc) (by decide)) (fun _ => hc.symm) (d_access rfl (by decide) (by decide) (g_39 (g_39tb5 e4 hn r0 v0 r1 v1 r2 v2 (by omega) kr k1)))
  by_cases kr : (g (N 0 - 3)).1 = 6
  · skip
    by_cases k1 : (g (N 0 - 2)).1 = 1
    · by_cases k0 : (g (N 0 - 1)).1 = 6
      · rw [if_pos ⟨(tk_9 v0).mpr (by omega), (tk_2 v1).mpr k1, (tk_9 v2).mpr (by omega)⟩] at hc
        rcases neg_or (g (N 0 - 2)).2.2.2 with hv | ⟨i, hb, ek⟩
        · exact OJ_same hR 6 (by decide) (fun _ => e_39 (e_39n e8 hn u0 v0 u1 v1 u2 v2 (by omega) (kr.trans k0.symm) hv)) (fun h => absurd hc h) (d_access rfl (by decide) (by decide) (g_39 (g_39n6 e4 hn r0 v0 r1 v1 r2 v2 (by omega) kr k1 k0 hv)))
        · by_cases hh : i + (g (N 0 - 1)).2.2.1 ≤ (g (N 0 - 3)).2.2.1
          · have fin : True := trivial
            · obtain ⟨l, fr, y2, y3, e0⟩ := ok_6 o0 k0
              obtain ⟨l', p, z2, z3, e2⟩ := ok_6 o2 kr
              have hf : (g (N 0 - 1)).2.2.2 = nI fr := by rw [e0]
              have hL : (g (N 0 - 1)).2.2.1 = l := by rw [e0]
              have hp : (g (N 0 - 3)).2.2.2 = nI p := by rw [e2]
              have hL2 : (g (N 0 - 3)).2.2.1 = l' := by rw [e2]
              obtain ⟨f, h, q1, q2⟩ := s_moveOctets (I := I) (L := L) (T := T) (U := U) (fr := fr) (to := p + i) (l := l) hf (b := (g (N 0 - 3)).2.2.2 + nI i) (by rw [hp, nI_add]) (c := nI (g (N 0 - 1)).2.2.1) (by rw [hL]) (by omega) (by omega) (fun x hx => by obtain ⟨b, b1, b2, b3⟩ := hR.2.2.1.2.2.2 (fr + x) (by omega); exact ⟨b, b1, b2⟩)
              have hr : ∃ f, f_X12_putPart (wr J S K) [.ref 0] = some (some (.int 0), wr (uI J 4 (nI (N 0 - 3))) (uT S 8 f) K) ∧ (∀ x, p + i ≤ x → x < p + i + l → f x = S 8 (x - (p + i) + fr)) ∧ (∀ x, ¬ (p + i ≤ x ∧ x < p + i + l) → f x = S 8 x) := by
                by_cases hd : fr < p + i
                · exact g_39d6 e4 hn r0 v0 r1 v1 r2 v2 (by omega) kr k1 k0 ek hb hp hf hL (by omega) (by omega) (by omega) hd
                · exact g_39e6 e4 hn r0 v0 r1 v1 r2 v2 (by omega) kr k1 k0 ek hb hp hf hL (by omega) (by omega) (by omega) (by omega)
              obtain ⟨f', p0, p1, p2⟩ := hr
              refine ⟨0, uN N 0 (N 0 - 3), _, _, _, _, _, _, fun _ => e_39 (e_39b e8 hn u0 v0 u1 v1 u2 v2 (by omega) ek hb hh kr k0 q1), fun h => absurd hc h, d_access rfl (by decide) (by decide) (g_39 p0), by decide, ⟨RO_drop (n' := N 0 - 3) hR.1 (by omega) rfl rfl, hR.2.1, ⟨hR.2.2.1.1, hR.2.2.1.2.1, hR.2.2.1.2.2.1, fun x hx => ?_⟩, hR.2.2.2.1, hR.2.2.2.2.1, hR.2.2.2.2.2.1, hR.2.2.2.2.2.2⟩, ⟨fun i h1 h2 => by rw [uI_ne _ _ (by omega)], rfl, rfl, rfl, rfl, fun i h1 h2 => by rw [uU_ne _ _ (by omega)]⟩, ⟨fun i h1 => by rw [uI_ne _ _ (by omega)], fun i h1 h2 => by rw [uI_ne _ _ (by omega)], rfl, rfl, rfl, rfl⟩, NM_r N⟩
              by_cases d : p + i ≤ x ∧ x < p + i + l
              · obtain ⟨b, b1, b2, b3⟩ := hR.2.2.1.2.2.2 (x - (p + i) + fr) (by omega)
                refine ⟨b, b1, ?_, (p1 x d.1 d.2).trans b3⟩
                show h x = bt b
                rw [q2 x, if_pos d, b2]
              · obtain ⟨b, b1, b2, b3⟩ := hR.2.2.1.2.2.2 x hx
                refine ⟨b, b1, ?_, (p2 x d).trans b3⟩
                show h x = bt b
                rw [q2 x, if_neg d, b2]
          · exact OJ_same hR 6 (by decide) (fun _ => e_39 (e_39h e8 hn u0 v0 u1 v1 u2 v2 (by omega) ek hb (kr.trans k0.symm) (by omega))) (fun h => absurd hc h) (d_access rfl (by decide) (by decide) (g_39 (g_39h6 e4 hn r0 v0 r1 v1 r2 v2 (by omega) kr k1 k0 ek hb (by omega))))
      · by_cases ka : (g (N 0 - 1)).1 = 5 ∨ (g (N 0 - 1)).1 = 6
        · rw [if_pos ⟨(tk_9 v0).mpr ka, (tk_2 v1).mpr k1, (tk_9 v2).mpr (by omega)⟩] at hc
          exact OJ_same hR 4 (by decide) (fun _ => e_39 (e_39t e8 hn u0 v0 u1 v1 u2 v2 (by omega) (by omega))) (fun h => absurd hc h) (d_access rfl (by decide) (by decide) (g_39 (g_39tc6 e4 hn r0 v0 r1 v1 r2 v2 (by omega) kr k1 k0)))
        · rw [if_neg (fun h => ka ((tk_9 v0).mp h.1))] at hc
          exact OJ_same hR 4 (by decide) (fun h => absurd (h.symm.trans hc) (by decide)) (fun _ => hc.symm) (d_access rfl (by decide) (by decide) (g_39 (g_39tc6 e4 hn r0 v0 r1 v1 r2 v2 (by omega) kr k1 k0)))
    · rw [if_neg (fun h => k1 ((tk_2 v1).mp h.2.1))] at hc
      exact OJ_same hR 4 (by decide) (fun h => absurd (h.symm.trans hc) (by decide)) (fun _ => hc.symm) (d_access rfl (by decide) (by decide) (g_39 (g_39tb6 e4 hn r0 v0 r1 v1 r2 v2 (by omega) kr k1)))
  rw [if_neg (fun h => by have := (tk_9 v2).mp h.2.2; omega)] at hc
  exact OJ_same hR 4 (by decide) (fun h => absurd (h.symm.trans hc) (by decide)) (fun _ => hc.symm) (d_access rfl (by decide) (by decide) (g_39 (g_39ta e4 hn r0 v0 r1 v1 r2 v2 (by omega) (by omega) (by omega))))

theorem j_40 : OJ 40 f_X8_perform 34 := by
  intro N I L T U J S K g hR hg
  obtain ⟨hn, e8, e4, hO⟩ := hR.1
  by_cases hu : N 0 < 1
  · have hc : chk 40 (N 0) g = 3 := chk_u (c := 1) (by decide +kernel) hu
    exact OJ_same hR 3 (by decide) (fun h => absurd (h.symm.trans hc) (by decide)) (fun _ => hc.symm) (d_gather rfl (by decide) (by decide) (g_40 (g_40u e4 hn (by omega))))
  obtain ⟨u0, r0, o0⟩ := hg (N 0 - 1) (by omega)
  have v0 := ok_w0 o0
  have hc : chk 40 (N 0) g = if tk 5 (g (N 0 - 1)) = true then 0 else 4 := chk_1 (by decide +kernel) (by decide +kernel) (by omega)
  by_cases k0 : (g (N 0 - 1)).1 = 5
  · rw [if_pos ((tk_5 v0).mpr k0)] at hc
    obtain ⟨x, l, p, y1, y2, y3, e0⟩ := ok_5 o0 k0
    have hp : (g (N 0 - 1)).2.2.2 = nI p := by rw [e0]
    have hl : (g (N 0 - 1)).2.2.1 = l := by rw [e0]
    have hN1 := hR.2.1.1
    by_cases ho : N 0 + l ≤ 60
    · obtain ⟨f, q1, q2, q3, q4⟩ := e_40a (L := L) (T := T) e8 hn u0 v0 hp hl (by omega) (by omega) ho
      obtain ⟨f', p1, p2, p3, p4⟩ := g_40a (K := K) e4 hn r0 v0 hp hl (by omega) (by omega) k0 ho
      refine OJ_ops (n' := N 0 - 1 + l + 1) (y' := nI (N 0 + l)) hR hc (e_40 q1) (d_gather rfl (by decide) (by decide) (g_40 p1)) ⟨by omega, rfl, congrArg nI (by omega), fun i hi => ?_⟩
      by_cases c : i < N 0 - 1
      · obtain ⟨a, b, d⟩ := hg i (by omega)
        exact ⟨g i, (q2 i c).trans a, p2 i _ c b, d⟩
      · by_cases c2 : i = N 0 - 1 + l
        · subst c2
          exact ⟨_, q4, p4, o0⟩
        · obtain ⟨y, rfl⟩ : ∃ y, i = N 0 - 1 + y := ⟨i - (N 0 - 1), by omega⟩
          obtain ⟨t, a, b, d⟩ := hR.2.1.2.2.2 (p + y) (by omega)
          exact ⟨t, (q3 y (by omega)).trans a, p3 y t (by omega) b, d⟩
    · exact OJ_same hR 13 (by decide) (fun _ => e_40 (e_40o e8 hn u0 v0 hp hl (by omega) (by omega) (by omega))) (fun h => absurd hc h) (d_gather rfl (by decide) (by decide) (g_40 (g_40o e4 hn r0 v0 hp hl (by omega) (by omega) k0 (by omega))))
  · rw [if_neg (fun h => k0 ((tk_5 v0).mp h))] at hc
    exact OJ_same hR 4 (by decide) (fun h => absurd (h.symm.trans hc) (by decide)) (fun _ => hc.symm) (d_gather rfl (by decide) (by decide) (g_40 (g_40t e4 hn r0 v0 (by omega) k0)))

theorem j_41 : OJ 41 f_X8_perform 34 := by
  intro N I L T U J S K g hR hg
  obtain ⟨hn, e8, e4, hO⟩ := hR.1
  by_cases hu : N 0 < 1
  · have hc : chk 41 (N 0) g = 3 := chk_u (c := 1) (by decide +kernel) hu
    exact OJ_same hR 3 (by decide) (fun h => absurd (h.symm.trans hc) (by decide)) (fun _ => hc.symm) (d_gather rfl (by decide) (by decide) (g_41 (g_41u e4 hn (by omega))))
  obtain ⟨u0, r0, o0⟩ := hg (N 0 - 1) (by omega)
  have v0 := ok_w0 o0
  have hc : chk 41 (N 0) g = if tk 5 (g (N 0 - 1)) = true then 0 else 4 := chk_1 (by decide +kernel) (by decide +kernel) (by omega)
  by_cases k0 : (g (N 0 - 1)).1 = 5
  · rw [if_pos ((tk_5 v0).mpr k0)] at hc
    obtain ⟨x, l, p, y1, y2, y3, e0⟩ := ok_5 o0 k0
    have hp : (g (N 0 - 1)).2.2.2 = nI p := by rw [e0]
    have hl : (g (N 0 - 1)).2.2.1 = l := by rw [e0]
    have hN1 := hR.2.1.1
    by_cases ho : l ≤ N 0 - 1
    · obtain ⟨h, q1, q2⟩ := e_41a (L := L) (T := T) e8 hn u0 v0 hp hl (by omega) (by omega) ho
      obtain ⟨f', p1, p2, p3⟩ := g_41a (K := K) e4 hn r0 v0 hp hl (by omega) (by omega) k0 ho
      refine ⟨0, uN N 0 (N 0 - (l + 1) + 1), _, _, _, _, _, _, fun _ => e_41 q1, fun h => absurd hc h, d_gather rfl (by decide) (by decide) (g_41 p1), by decide, ⟨RO_ans (n' := N 0 - (l + 1) + 1) hR.1 (j := N 0 - (l + 1)) (by omega) rfl (by omega) rfl (congrArg nI (by omega)) o0 (by rw [show N 0 - (l + 1) = N 0 - 1 - l by omega]; exact ps_cp r0), ⟨hR.2.1.1, hR.2.1.2.1, hR.2.1.2.2.1, fun x hx => ?_⟩, hR.2.2.1, hR.2.2.2.1, hR.2.2.2.2.1, hR.2.2.2.2.2.1, hR.2.2.2.2.2.2⟩, ⟨fun i h1 h2 => by rw [uI_ne _ _ (by omega)], rfl, rfl, rfl, rfl, fun i h1 h2 => by rw [uU_ne _ _ (by omega), uU_ne _ _ (by omega)]⟩, ⟨fun i h1 => by rw [uI_ne _ _ (by omega)], fun i h1 h2 => by rw [uI_ne _ _ (by omega)], rfl, rfl, rfl, rfl⟩, NM_r N⟩
      by_cases d : p ≤ x ∧ x < p + l
      · obtain ⟨ca, cb, cc⟩ := hg (N 0 - 1 - l + (x - p)) (by omega)
        refine ⟨_, ?_, p2 x _ d.1 d.2 cb, cc⟩
        show h x = eV _
        rw [q2 x, if_pos d, ca]
      · obtain ⟨t, ca, cb, cc⟩ := hR.2.1.2.2.2 x hx
        refine ⟨t, ?_, p3 x t d cb, cc⟩
        show h x = eV t
        rw [q2 x, if_neg d, ca]
    · exact OJ_same hR 3 (by decide) (fun _ => e_41 (e_41u e8 hn u0 v0 hp hl (by omega) (by omega) (by omega))) (fun h => absurd hc h) (d_gather rfl (by decide) (by decide) (g_41 (g_41o e4 hn r0 v0 hp hl (by omega) (by omega) k0 (by omega))))
  · rw [if_neg (fun h => k0 ((tk_5 v0).mp h))] at hc
    exact OJ_same hR 4 (by decide) (fun h => absurd (h.symm.trans hc) (by decide)) (fun _ => hc.symm) (d_gather rfl (by decide) (by decide) (g_41 (g_41t e4 hn r0 v0 (by omega) k0)))

theorem j_42 : OJ 42 f_X8_perform 34 := by
  intro N I L T U J S K g hR hg
  obtain ⟨hn, e8, e4, hO⟩ := hR.1
  have hc : chk 42 (N 0) g = 0 := chk_0 (by decide +kernel)
  obtain ⟨hc6, ec, ec', hCs⟩ := hR.2.1
  rcases mk_top (L := L) (T := T) (K := K) e8 e4 hn hg with ⟨j, h1, h2, h3, h4, h5⟩ | ⟨h4, h5⟩
  · by_cases hf : 600 < N 1 + (N 0 - 1 - j)
    · exact OJ_same hR 2 (by decide) (fun _ => e_42 (e_42f e8 hn h1 h4 ec hc6 hf)) (fun h => absurd hc h) (d_gather rfl (by decide) (by decide) (g_42 (g_42f e4 hn h1 h5 ec' hc6 hf)))
    · obtain ⟨f, q1, q2, q3⟩ := e_42a (L := L) (T := T) (U := U) e8 hn h1 h4 ec (by omega)
      obtain ⟨f', p1, p2, p3⟩ := g_42a (K := K) e4 hn h1 h5 ec' (by omega)
      have hM : NM N (uN (uN N 1 (N 1 + (N 0 - 1 - j))) 0 (N 0 - (N 0 - 1 - j + 1) + 1)) := ⟨Nat.le_add_right _ _, Nat.le_refl _, Nat.le_refl _, Nat.le_refl _⟩
      refine ⟨0, uN (uN N 1 (N 1 + (N 0 - 1 - j))) 0 (N 0 - (N 0 - 1 - j + 1) + 1), _, _, _, _, _, _, fun _ => e_42 q1, fun h => absurd hc h, d_gather rfl (by decide) (by decide) (g_42 p1), by decide, ⟨RO_ans (n' := N 0 - (N 0 - 1 - j + 1) + 1) (RO_mono hM hR.1) (j := N 0 - (N 0 - 1 - j + 1)) (by omega) rfl (by omega) rfl (congrArg nI (by omega)) (ok_arr (by decide) (Nat.le_refl _) (by omega)) (by rw [show N 0 - (N 0 - 1 - j + 1) = j by omega]; exact ps_st rfl rfl rfl rfl), RO_grow (c' := N 1 + (N 0 - 1 - j)) hR.2.1 hM (by omega) q2 p2 (fun x a b => ?_), hR.2.2.1, hR.2.2.2.1, hR.2.2.2.2.1, RD_mono hM hR.2.2.2.2.2.1, hR.2.2.2.2.2.2⟩, ⟨fun i h1 h2 => by rw [uI_ne _ _ (by omega), uI_ne _ _ (by omega)], rfl, rfl, rfl, rfl, fun i h1 h2 => by rw [uU_ne _ _ (by omega), uU_ne _ _ (by omega)]⟩, ⟨fun i h1 => by rw [uI_ne _ _ (by omega), uI_ne _ _ (by omega), uI_ne _ _ (by omega)], fun i h1 h2 => by rw [uI_ne _ _ (by omega), uI_ne _ _ (by omega), uI_ne _ _ (by omega)], rfl, rfl, rfl, rfl⟩, hM⟩
      obtain ⟨y, rfl⟩ : ∃ y, x = N 1 + y := ⟨x - N 1, by omega⟩
      obtain ⟨ca, cb, cc⟩ := hg (j + 1 + y) (by omega)
      exact ⟨_, (q3 y (by omega)).trans ca, p3 y _ (by omega) cb, ok_mono hM.1 hM.2.1 hM.2.2.1 hM.2.2.2 cc⟩
  · exact OJ_same hR 8 (by decide) (fun _ => e_42 (e_42m e8 hn h4)) (fun h => absurd hc h) (d_gather rfl (by decide) (by decide) (g_42 (g_42m e4 hn h5)))

