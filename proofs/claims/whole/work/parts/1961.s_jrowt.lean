theorem j_37 : OJC 37 f_X8_perform 34 (fun n g => (g (n - 3)).1 ≠ 7) := by
  intro N I L T U J S K g hR hg hC
  obtain ⟨hn, e8, e4, hO⟩ := hR.1
  by_cases hu : N 0 < 3
  · have hc : chk 37 (N 0) g = 3 := chk_u (c := 3) (by decide +kernel) hu
    exact OJ_same hR 3 (by decide) (fun h => absurd (h.symm.trans hc) (by decide)) (fun _ => hc.symm) (d_access rfl (by decide) (by decide) (g_37 (g_37u e4 hn (by omega))))
  obtain ⟨u0, r0, o0⟩ := hg (N 0 - 1) (by omega)
  have v0 := ok_w0 o0
  obtain ⟨u1, r1, o1⟩ := hg (N 0 - 2) (by omega)
  have v1 := ok_w0 o1
  obtain ⟨u2, r2, o2⟩ := hg (N 0 - 3) (by omega)
  have v2 := ok_w0 o2
  have hc : chk 37 (N 0) g = if tk 1 (g (N 0 - 1)) = true ∧ tk 1 (g (N 0 - 2)) = true ∧ tk 10 (g (N 0 - 3)) = true then 0 else 4 := chk_3 (by decide +kernel) (by decide +kernel) (by decide +kernel) (by decide +kernel) (by omega)
  have hC' : (g (N 0 - 3)).1 ≠ 7 := hC
  by_cases kr : (g (N 0 - 3)).1 = 5
  · rw [if_pos ⟨tk_1 v0, tk_1 v1, (tk_10 v2).mpr (.inl kr)⟩] at hc
    by_cases k1 : (g (N 0 - 2)).1 = 1
    · rcases neg_or (g (N 0 - 2)).2.2.2 with hv | ⟨i, hb, ek⟩
      · exact OJ_same hR 6 (by decide) (fun _ => e_37 (e_37ra e8 hn u0 v0 u1 v1 u2 v2 (by omega) kr k1 (s_isIndexN hv))) (fun h => absurd hc h) (d_access rfl (by decide) (by decide) (g_37 (g_37rn5 e4 hn r0 v0 r1 v1 r2 v2 (by omega) kr k1 hv)))
      · obtain ⟨x, l, p, h1, h2, h3, e⟩ := ok_5 o2 kr
        have hp : (g (N 0 - 3)).2.2.2 = nI p := by rw [e]
        have hl : (g (N 0 - 3)).2.2.1 = l := by rw [e]
        by_cases hi : i < (g (N 0 - 3)).2.2.1
        · skip
          exact ⟨0, uN N 0 (N 0 - 3), _, _, _, _, _, _, fun _ => e_37 (e_37a e8 hn u0 v0 u1 v1 u2 v2 (by omega) hp ek (by omega) kr k1 (s_isIndex1 rfl v2 ek hi)), fun h => absurd hc h, d_access rfl (by decide) (by decide) (g_37 (g_37a e4 hn r0 v0 r1 v1 r2 v2 (by omega) hp ek hi (by omega) kr k1)), by decide, ⟨RO_drop (n' := N 0 - 3) hR.1 (by omega) rfl rfl, RO_upd hR.2.1 o0 (ps_cp r0), hR.2.2.1, hR.2.2.2.1, hR.2.2.2.2.1, hR.2.2.2.2.2.1, hR.2.2.2.2.2.2⟩, ⟨fun i h1 h2 => by rw [uI_ne _ _ (by omega)], rfl, rfl, rfl, rfl, fun i h1 h2 => by rw [uU_ne _ _ (by omega)]⟩, ⟨fun i h1 => by rw [uI_ne _ _ (by omega)], fun i h1 h2 => by rw [uI_ne _ _ (by omega)], rfl, rfl, rfl, rfl⟩, NM_r N⟩
        · exact OJ_same hR 6 (by decide) (fun _ => e_37 (e_37ra e8 hn u0 v0 u1 v1 u2 v2 (by omega) kr k1 (s_isIndex0 rfl v2 ek hb (by omega)))) (fun h => absurd hc h) (d_access rfl (by decide) (by decide) (g_37 (g_37rg5 e4 hn r0 v0 r1 v1 r2 v2 (by omega) kr k1 ek hb (by omega))))
    · exact OJ_same hR 4 (by decide) (fun _ => e_37 (e_37ta e8 hn u0 v0 u1 v1 u2 v2 (by omega) kr k1)) (fun h => absurd hc h) (d_access rfl (by decide) (by decide) (g_37 (g_37tb5 e4 hn r0 v0 r1 v1 r2 v2 (by omega) kr k1)))
  by_cases kr : (g (N 0 - 3)).1 = 6
  · rw [if_pos ⟨tk_1 v0, tk_1 v1, (tk_10 v2).mpr (.inr (.inl kr))⟩] at hc
    by_cases k1 : (g (N 0 - 2)).1 = 1
    · by_cases k00 : (g (N 0 - 1)).1 = 1
      · rcases neg_or (g (N 0 - 2)).2.2.2 with hv | ⟨i, hb, ek⟩
        · exact OJ_same hR 6 (by decide) (fun _ => e_37 (e_37rb e8 hn u0 v0 u1 v1 u2 v2 (by omega) kr k1 k00 (s_isIndexN hv))) (fun h => absurd hc h) (d_access rfl (by decide) (by decide) (g_37 (g_37rn6 e4 hn r0 v0 r1 v1 r2 v2 (by omega) kr k1 k00 hv)))
        · obtain ⟨l, p, h2, h3, e⟩ := ok_6 o2 kr
          have hp : (g (N 0 - 3)).2.2.2 = nI p := by rw [e]
          have hl : (g (N 0 - 3)).2.2.1 = l := by rw [e]
          by_cases hi : i < (g (N 0 - 3)).2.2.1
          · skip
            rcases neg_or (g (N 0 - 1)).2.2.2 with hw | ⟨v, hb2, ev⟩
            · exact OJ_same hR 6 (by decide) (fun _ => e_37 (e_37rn e8 hn u0 v0 u1 v1 u2 v2 (by omega) kr k1 k00 hw (s_isIndex1 rfl v2 ek hi))) (fun h => absurd hc h) (d_access rfl (by decide) (by decide) (g_37 (g_37on e4 hn r0 v0 r1 v1 r2 v2 (by omega) hp ek hi (by omega) kr k1 k00 hw)))
            · by_cases hg : 255 < v
              · exact OJ_same hR 6 (by decide) (fun _ => e_37 (e_37rg e8 hn u0 v0 u1 v1 u2 v2 (by omega) ev hb2 hg kr k1 k00 (s_isIndex1 rfl v2 ek hi))) (fun h => absurd hc h) (d_access rfl (by decide) (by decide) (g_37 (g_37og e4 hn r0 v0 r1 v1 r2 v2 (by omega) hp ek hi (by omega) ev hb2 hg kr k1 k00)))
              · exact ⟨0, uN N 0 (N 0 - 3), _, _, _, _, _, _, fun _ => e_37 (e_37s e8 hn u0 v0 u1 v1 u2 v2 (by omega) hp ek (by omega) ev (by omega) kr k1 k00 (s_isIndex1 rfl v2 ek hi)), fun h => absurd hc h, d_access rfl (by decide) (by decide) (g_37 (g_37s e4 hn r0 v0 r1 v1 r2 v2 (by omega) hp ek hi (by omega) ev (by omega) kr k1 k00)), by decide, ⟨RO_drop (n' := N 0 - 3) hR.1 (by omega) rfl rfl, hR.2.1, RB_upd hR.2.2.1 (by omega), hR.2.2.2.1, hR.2.2.2.2.1, hR.2.2.2.2.2.1, hR.2.2.2.2.2.2⟩, ⟨fun i h1 h2 => by rw [uI_ne _ _ (by omega)], rfl, rfl, rfl, rfl, fun i h1 h2 => rfl⟩, ⟨fun i h1 => by rw [uI_ne _ _ (by omega)], fun i h1 h2 => by rw [uI_ne _ _ (by omega)], rfl, rfl, rfl, rfl⟩, NM_r N⟩
          · exact OJ_same hR 6 (by decide) (fun _ => e_37 (e_37rb e8 hn u0 v0 u1 v1 u2 v2 (by omega) kr k1 k00 (s_isIndex0 rfl v2 ek hb (by omega)))) (fun h => absurd hc h) (d_access rfl (by decide) (by decide) (g_37 (g_37rg6 e4 hn r0 v0 r1 v1 r2 v2 (by omega) kr k1 k00 ek hb (by omega))))
      · exact OJ_same hR 4 (by decide) (fun _ => e_37 (e_37tc e8 hn u0 v0 u1 v1 u2 v2 (by omega) kr k1 k00)) (fun h => absurd hc h) (d_access rfl (by decide) (by decide) (g_37 (g_37tc e4 hn r0 v0 r1 v1 r2 v2 (by omega) kr k1 k00)))
    · exact OJ_same hR 4 (by decide) (fun _ => e_37 (e_37tb e8 hn u0 v0 u1 v1 u2 v2 (by omega) kr k1)) (fun h => absurd hc h) (d_access rfl (by decide) (by decide) (g_37 (g_37tb6 e4 hn r0 v0 r1 v1 r2 v2 (by omega) kr k1)))
  rw [if_neg (fun h => by have := (tk_10 v2).mp h.2.2; omega)] at hc
  exact OJ_same hR 4 (by decide) (fun h => absurd (h.symm.trans hc) (by decide)) (fun _ => hc.symm) (d_access rfl (by decide) (by decide) (g_37 (g_37ta e4 hn r0 v0 r1 v1 r2 v2 (by omega) (by omega) (by omega) hC')))

theorem ps_part {s : Nat → Int32} {j l : Nat} {x y : Int32} {t : V} (ey : y = nI l) (h : r5 s j t) : ps s j (t.1, t.2.1, l, x) (upd (upd s (5 * j + 1) x) (5 * j + 3) y) := by
  subst ey
  refine ⟨⟨?_, ?_, ?_, ?_⟩, fun i t' hi hr => ⟨?_, ?_, ?_, ?_⟩⟩
  · exact (upd_ne (by omega)).trans ((upd_ne (by omega)).trans h.1)
  · exact (upd_ne (by omega)).trans upd_at
  · exact (upd_ne (by omega)).trans ((upd_ne (by omega)).trans h.2.2.1)
  · exact upd_at
  · exact (upd_ne (by omega)).trans ((upd_ne (by omega)).trans hr.1)
  · exact (upd_ne (by omega)).trans ((upd_ne (by omega)).trans hr.2.1)
  · exact (upd_ne (by omega)).trans ((upd_ne (by omega)).trans hr.2.2.1)
  · exact (upd_ne (by omega)).trans ((upd_ne (by omega)).trans hr.2.2.2)
theorem j_38 : OJ 38 f_X8_perform 34 := by
  intro N I L T U J S K g hR hg
  obtain ⟨hn, e8, e4, hO⟩ := hR.1
  by_cases hu : N 0 < 3
  · have hc : chk 38 (N 0) g = 3 := chk_u (c := 3) (by decide +kernel) hu
    exact OJ_same hR 3 (by decide) (fun h => absurd (h.symm.trans hc) (by decide)) (fun _ => hc.symm) (d_access rfl (by decide) (by decide) (g_38 (g_38u e4 hn (by omega))))
  obtain ⟨u0, r0, o0⟩ := hg (N 0 - 1) (by omega)
  have v0 := ok_w0 o0
  obtain ⟨u1, r1, o1⟩ := hg (N 0 - 2) (by omega)
  have v1 := ok_w0 o1
  obtain ⟨u2, r2, o2⟩ := hg (N 0 - 3) (by omega)
  have v2 := ok_w0 o2
  have hc : chk 38 (N 0) g = if tk 2 (g (N 0 - 1)) = true ∧ tk 2 (g (N 0 - 2)) = true ∧ tk 9 (g (N 0 - 3)) = true then 0 else 4 := chk_3 (by decide +kernel) (by decide +kernel) (by decide +kernel) (by decide +kernel) (by omega)
  by_cases kr : (g (N 0 - 3)).1 = 5
  · skip
    by_cases k1 : (g (N 0 - 2)).1 = 1
    · by_cases k0 : (g (N 0 - 1)).1 = 1
      · rw [if_pos ⟨(tk_2 v0).mpr k0, (tk_2 v1).mpr k1, (tk_9 v2).mpr (by omega)⟩] at hc
        rcases neg_or (g (N 0 - 2)).2.2.2 with hv | ⟨i, hb, ek⟩
        · exact OJ_same hR 6 (by decide) (fun _ => e_38 (e_38n e8 hn u0 v0 u1 v1 u2 v2 (by omega) hv)) (fun h => absurd hc h) (d_access rfl (by decide) (by decide) (g_38 (g_38n5 e4 hn r0 v0 r1 v1 r2 v2 (by omega) kr k1 k0 hv)))
        · rcases neg_or (g (N 0 - 1)).2.2.2 with hw | ⟨l, hb2, el⟩
          · exact OJ_same hR 6 (by decide) (fun _ => e_38 (e_38m e8 hn u0 v0 u1 v1 u2 v2 (by omega) ek hb hw)) (fun h => absurd hc h) (d_access rfl (by decide) (by decide) (g_38 (g_38m5 e4 hn r0 v0 r1 v1 r2 v2 (by omega) kr k1 k0 ek hb hw)))
          · by_cases hh : i + l ≤ (g (N 0 - 3)).2.2.1
            · obtain ⟨x, l', p, h1, h2, h3, e⟩ := ok_5 o2 kr
              have hp : (g (N 0 - 3)).2.2.2 = nI p := by rw [e]
              have hl : (g (N 0 - 3)).2.2.1 = l' := by rw [e]
              have hx : (g (N 0 - 3)).2.2.2 + nI i = nI (p + i) := by rw [hp, nI_add]
              have ho : ok N ((g (N 0 - 3)).1, (g (N 0 - 3)).2.1, l, (g (N 0 - 3)).2.2.2 + nI i) := by
                rw [hx, e]
                exact ok_arr h1 (by omega) (by omega)
              exact OJ_ops (n' := N 0 - 3 + 1) hR hc (e_38 (e_38a e8 hn u0 v0 u1 v1 u2 v2 (by omega) ek hb el hb2 hh)) (d_access rfl (by decide) (by decide) (g_38 (g_38a5 e4 hn r0 v0 r1 v1 r2 v2 (by omega) kr k1 k0 ek hb el hb2 hh))) (RO_ans hR.1 (j := N 0 - 3) (by omega) rfl (by omega) rfl (congrArg nI (by omega)) ho (ps_part rfl r2))
            · by_cases hg : (g (N 0 - 3)).2.2.1 < l
              · exact OJ_same hR 6 (by decide) (fun _ => e_38 (e_38g e8 hn u0 v0 u1 v1 u2 v2 (by omega) ek hb el hb2 hg)) (fun h => absurd hc h) (d_access rfl (by decide) (by decide) (g_38 (g_38h5 e4 hn r0 v0 r1 v1 r2 v2 (by omega) kr k1 k0 ek hb el hb2 (by omega))))
              · exact OJ_same hR 6 (by decide) (fun _ => e_38 (e_38h e8 hn u0 v0 u1 v1 u2 v2 (by omega) ek hb el hb2 (by omega) (by omega))) (fun h => absurd hc h) (d_access rfl (by decide) (by decide) (g_38 (g_38h5 e4 hn r0 v0 r1 v1 r2 v2 (by omega) kr k1 k0 ek hb el hb2 (by omega))))
      · rw [if_neg (fun h => k0 ((tk_2 v0).mp h.1))] at hc
        exact OJ_same hR 4 (by decide) (fun h => absurd (h.symm.trans hc) (by decide)) (fun _ => hc.symm) (d_access rfl (by decide) (by decide) (g_38 (g_38tc5 e4 hn r0 v0 r1 v1 r2 v2 (by omega) kr k1 k0)))
    · rw [if_neg (fun h => k1 ((tk_2 v1).mp h.2.1))] at hc
      exact OJ_same hR 4 (by decide) (fun h => absurd (h.symm.trans hc) (by decide)) (fun _ => hc.symm) (d_access rfl (by decide) (by decide) (g_38 (g_38tb5 e4 hn r0 v0 r1 v1 r2 v2 (by omega) kr k1)))
  by_cases kr : (g (N 0 - 3)).1 = 6
  · skip
    by_cases k1 : (g (N 0 - 2)).1 = 1
    · by_cases k0 : (g (N 0 - 1)).1 = 1
      · rw [if_pos ⟨(tk_2 v0).mpr k0, (tk_2 v1).mpr k1, (tk_9 v2).mpr (by omega)⟩] at hc
        rcases neg_or (g (N 0 - 2)).2.2.2 with hv | ⟨i, hb, ek⟩
        · exact OJ_same hR 6 (by decide) (fun _ => e_38 (e_38n e8 hn u0 v0 u1 v1 u2 v2 (by omega) hv)) (fun h => absurd hc h) (d_access rfl (by decide) (by decide) (g_38 (g_38n6 e4 hn r0 v0 r1 v1 r2 v2 (by omega) kr k1 k0 hv)))
        · rcases neg_or (g (N 0 - 1)).2.2.2 with hw | ⟨l, hb2, el⟩
          · exact OJ_same hR 6 (by decide) (fun _ => e_38 (e_38m e8 hn u0 v0 u1 v1 u2 v2 (by omega) ek hb hw)) (fun h => absurd hc h) (d_access rfl (by decide) (by decide) (g_38 (g_38m6 e4 hn r0 v0 r1 v1 r2 v2 (by omega) kr k1 k0 ek hb hw)))
          · by_cases hh : i + l ≤ (g (N 0 - 3)).2.2.1
            · obtain ⟨l', p, h2, h3, e⟩ := ok_6 o2 kr
              have hp : (g (N 0 - 3)).2.2.2 = nI p := by rw [e]
              have hl : (g (N 0 - 3)).2.2.1 = l' := by rw [e]
              have hx : (g (N 0 - 3)).2.2.2 + nI i = nI (p + i) := by rw [hp, nI_add]
              have ho : ok N ((g (N 0 - 3)).1, (g (N 0 - 3)).2.1, l, (g (N 0 - 3)).2.2.2 + nI i) := by
                rw [hx, e]
                exact ok_str (by omega) (by omega)
              exact OJ_ops (n' := N 0 - 3 + 1) hR hc (e_38 (e_38a e8 hn u0 v0 u1 v1 u2 v2 (by omega) ek hb el hb2 hh)) (d_access rfl (by decide) (by decide) (g_38 (g_38a6 e4 hn r0 v0 r1 v1 r2 v2 (by omega) kr k1 k0 ek hb el hb2 hh))) (RO_ans hR.1 (j := N 0 - 3) (by omega) rfl (by omega) rfl (congrArg nI (by omega)) ho (ps_part rfl r2))
            · by_cases hg : (g (N 0 - 3)).2.2.1 < l
              · exact OJ_same hR 6 (by decide) (fun _ => e_38 (e_38g e8 hn u0 v0 u1 v1 u2 v2 (by omega) ek hb el hb2 hg)) (fun h => absurd hc h) (d_access rfl (by decide) (by decide) (g_38 (g_38h6 e4 hn r0 v0 r1 v1 r2 v2 (by omega) kr k1 k0 ek hb el hb2 (by omega))))
              · exact OJ_same hR 6 (by decide) (fun _ => e_38 (e_38h e8 hn u0 v0 u1 v1 u2 v2 (by omega) ek hb el hb2 (by omega) (by omega))) (fun h => absurd hc h) (d_access rfl (by decide) (by decide) (g_38 (g_38h6 e4 hn r0 v0 r1 v1 r2 v2 (by omega) kr k1 k0 ek hb el hb2 (by omega))))
      · rw [if_neg (fun h => k0 ((tk_2 v0).mp h.1))] at hc
        exact OJ_same hR 4 (by decide) (fun h => absurd (h.symm.trans hc) (by decide)) (fun _ => hc.symm) (d_access rfl (by decide) (by decide) (g_38 (g_38tc6 e4 hn r0 v0 r1 v1 r2 v2 (by omega) kr k1 k0)))
    · rw [if_neg (fun h => k1 ((tk_2 v1).mp h.2.1))] at hc
      exact OJ_same hR 4 (by decide) (fun h => absurd (h.symm.trans hc) (by decide)) (fun _ => hc.symm) (d_access rfl (by decide) (by decide) (g_38 (g_38tb6 e4 hn r0 v0 r1 v1 r2 v2 (by omega) kr k1)))
  rw [if_neg (fun h => by have := (tk_9 v2).mp h.2.2; omega)] at hc
  exact OJ_same hR 4 (by decide) (fun h => absurd (h.symm.trans hc) (by decide)) (fun _ => hc.symm) (d_access rfl (by decide) (by decide) (g_38 (g_38ta e4 hn r0 v0 r1 v1 r2 v2 (by omega) (by omega) (by omega))))

