section
variable {N : Nat → Nat} {I : Nat → Int32} {L : Nat → Int64} {T : Nat → Nat → Int32} {U : Nat → Nat → Int64} {J : Nat → Int32} {S : Nat → Nat → Int32} {K : Nat → Int64} {i s l kd : Nat}
theorem jr_row {t : V} (hS : SR N (i + 1) 0 I T U J S K) (hu : RU s l I J) (h3 : L 3 = -1) (hi : 1 ≤ i) (hi2 : i < 23) (k5 : t.1 = 5) (x1 : t.2.1 = 1) (ht : ok N t) (hb : U 8 i = eV t) (hit : it5 (S 12) i t) (hf : FRa N T U S K i) : RJ 6 i N s l I L T U J S K := by
  obtain ⟨q, x, hq, hqo, hx, a1, a2, a3, a4, a5, a6, a7, a8, a9⟩ := id hf
  obtain ⟨hn, e8, e4, hO⟩ := hS.1.1
  obtain ⟨h1f, h24, e21, e14, _⟩ := SR_E hS
  obtain ⟨u1, u2, u3, u4, u5, u6, u7, u8⟩ := id hu
  have wq := ok_w0 hqo
  have w3 := wq.2.2
  have c8 : lg_cmp (K i) (Int32.toInt64 (S 12 (12 * i + 8))) = 0 ↔ x = q.2.2.1 := by
    rw [lg_cmp0, a5, a9, nI_l (by omega)]
    exact ⟨fun h => lN_inj (by omega) (by omega) h, fun h => by rw [h]⟩
  by_cases e : x = q.2.2.1
  · exact RJ_leave hS hu h3 hi (s_turn6 e21 h1f h24 h3 a1 (s_foral e21 h1f h24 (by omega) (show U 12 (i + 1 - 1) = eV q from a3) wq (show U 9 (i + 1 - 1) = lN x from a4) (show U 10 (i + 1 - 1) = lN q.2.2.1 from a6) (by omega) (by omega) hq e)) (t_rowl (by omega) e14 (c8.mpr e))
  · have ce : ¬ (lg_cmp (K i) (Int32.toInt64 (S 12 (12 * i + 8))) = 0) := fun h => e (c8.mp h)
    by_cases hs : s = l
    · exact RJ_steps hS hu (s_turn6 e21 h1f h24 h3 a1 (s_foras e21 h1f h24 u1 u3 u6 hs (show U 12 (i + 1 - 1) = eV q from a3) wq (show U 9 (i + 1 - 1) = lN x from a4) (show U 10 (i + 1 - 1) = lN q.2.2.1 from a6) (by omega) (by omega) hq (by omega))) (t_rows (by omega) e14 u2 u4 u5 u6 ce hs)
    · rcases hq with hq | hq
      · obtain ⟨xx, m, p, o1, o2, o3, qe⟩ := ok_5 hqo hq
        have hp : q.2.2.2 = nI p := by rw [qe]
        have hm' : q.2.2.1 = m := by rw [qe]
        have hp6 : p + q.2.2.1 ≤ 600 := by omega
        obtain ⟨v, v1, v2, v3⟩ := hS.1.2.1.2.2.2 (p + x) (by omega)
        have e6 : S 12 (12 * i + 6) = nI 5 := by rw [a7, hq]
        have e7 : S 12 (12 * i + 7) = nI p := a8.trans hp
        have hq5 := hq
        have hq : q.1 = 5 ∨ q.1 = 6 := .inl hq
        by_cases full : N 0 = 60
        · exact RJ_full (I1 := uI I 14 (nI (s + 1))) (U1 := uU U 9 (vp_updL (U 9) (i + 1 - 1) (lN (x + 1)))) (b := 62) hS hu full (R_fr hS.1 (fun x hx => uI_ne _ _ (by omega)) (fun _ _ => rfl) (fun k hk => uU_ne _ _ (by omega)) (fun x a b => uI_ne _ _ (by omega)) (fun _ _ _ => rfl)) e21 (fun x a b c => uI_ne _ _ c) rfl (fun pp => s_turn6 e21 h1f h24 h3 a1 (s_forag5 e21 h1f h24 u1 u3 u6 (by omega) (show U 12 (i + 1 - 1) = eV q from a3) wq (show U 9 (i + 1 - 1) = lN x from a4) (show U 10 (i + 1 - 1) = lN q.2.2.1 from a6) (by omega) (by omega) hp hp6 hq5 (by omega) (s_pfr0 (I := uI I 14 (nI (s + 1))) (f := i + 1) e21 h1f h24 e8 hn full pp))) (fun pp => t_rowg (by omega) e14 u2 u4 u5 u6 ce (by omega) (t_give6f (I := uI J 15 (nI (s + 1))) e4 hn full pp))
        · have hSp := SR_put (t := v) (s' := cp5 (S 7) (p + x) (S 1) (N 0)) hS (by omega) v3 (ps_cp v2)
          have hS1 : SR (uN N 0 (N 0 + 1)) (i + 1) 0 (uI (uI I 14 (nI (s + 1))) 8 (nI (N 0 + 1))) T (uU (uU U 9 (vp_updL (U 9) (i + 1 - 1) (lN (x + 1)))) 5 (vp_updL (U 5) (N 0) (eV v))) (uI (uI J 15 (nI (s + 1))) 4 (nI (N 0 + 1))) (uT S 1 (cp5 (S 7) (p + x) (S 1) (N 0))) (vp_updL K i (lN x + 1)) := by
            refine ⟨R_fr hSp.1 (fun x hx => uI_swp x 8 14 (by omega)) (fun _ _ => rfl) (fun k hk => uU_swp k 5 9 (by omega)) (fun x a b => uI_swp x 4 15 (by omega)) (fun _ _ _ => rfl), ?_, e21, .inl rfl, hS.2.2.2.2⟩
            refine RE_mono (NM_0 N _) (RE_upd (i := i) hS.2.1 (fun k k1 k2 j hj => ?_) rfl rfl rfl (fun j hj => vp_updL_ne hj) (.inr (.inr ⟨t, hi2, k5, x1, ht, hb, hit, .inr (.inr (.inr (.inl ⟨q, x + 1, hq, hqo, by omega, a1, a2, a3, ?_, ?_, a6, a7, a8, a9⟩)))⟩)))
            · rw [uU_ne _ _ (by omega)]
              exact uv_ne hj
            · exact vp_updL_at
            · exact vp_updL_at.trans (lN_add x 1)
          refine RJ_go hS1 ⟨rfl, rfl, u3, u4, by omega, u6, u7, u8⟩ ⟨fun x a b => by rw [uI_ne _ _ (by omega), uI_ne _ _ (by omega)], rfl, rfl, rfl, fun x a => by rw [uI_ne _ _ (by omega), uI_ne _ _ (by omega)], rfl, rfl⟩ (NM_0 N _) h3 ht k5 x1 hi2 hit (by omega) ?_ (fun hm hz => t_rowg (by omega) e14 u2 u4 u5 u6 ce (by omega) (t_give6a (I := uI J 15 (nI (s + 1))) e4 hn (by omega) a5 e7 (by omega) (by omega) e6 hm hz))
          have qq := s_turn6 e21 h1f h24 h3 a1 (s_forag5 e21 h1f h24 u1 u3 u6 (by omega) (show U 12 (i + 1 - 1) = eV q from a3) wq (show U 9 (i + 1 - 1) = lN x from a4) (show U 10 (i + 1 - 1) = lN q.2.2.1 from a6) (by omega) (by omega) hp hp6 hq5 (by omega) (by rw [v1]; exact s_pfr1 (I := uI I 14 (nI (s + 1))) (f := i + 1) e21 h1f h24 e8 hn (by omega) (by omega)))
          rw [← hb]
          exact qq
      · obtain ⟨m, p, o2, o3, qe⟩ := ok_6 hqo hq
        have hp : q.2.2.2 = nI p := by rw [qe]
        have hm' : q.2.2.1 = m := by rw [qe]
        have hp6 : p + q.2.2.1 ≤ 600 := by omega
        obtain ⟨b6, be, be', bb⟩ := hS.1.2.2.1
        obtain ⟨b, b1, b2, b3⟩ := bb (p + x) (by omega)
        have e6 : S 12 (12 * i + 6) = nI 6 := by rw [a7, hq]
        have e7 : S 12 (12 * i + 7) = nI p := a8.trans hp
        have hq6 := hq
        have hq : q.1 = 5 ∨ q.1 = 6 := .inr hq
        by_cases full : N 0 = 60
        · exact RJ_full (I1 := uI I 14 (nI (s + 1))) (U1 := uU U 9 (vp_updL (U 9) (i + 1 - 1) (lN (x + 1)))) (b := 62) hS hu full (R_fr hS.1 (fun x hx => uI_ne _ _ (by omega)) (fun _ _ => rfl) (fun k hk => uU_ne _ _ (by omega)) (fun x a b => uI_ne _ _ (by omega)) (fun _ _ _ => rfl)) e21 (fun x a b c => uI_ne _ _ c) rfl (fun pp => s_turn6 e21 h1f h24 h3 a1 (s_forag6 e21 h1f h24 u1 u3 u6 (by omega) (show U 12 (i + 1 - 1) = eV q from a3) wq (show U 9 (i + 1 - 1) = lN x from a4) (show U 10 (i + 1 - 1) = lN q.2.2.1 from a6) (by omega) (by omega) hp hp6 b1 b2 hq6 (by omega) (s_pfr0 (I := uI I 14 (nI (s + 1))) (f := i + 1) e21 h1f h24 e8 hn full pp))) (fun pp => t_rowg (by omega) e14 u2 u4 u5 u6 ce (by omega) (t_give6f (I := uI J 15 (nI (s + 1))) e4 hn full pp))
        · have hSp := SR_put (t := (1, 0, 0, nI b)) (s' := st5 (S 1) (N 0) 1 (S 8 (p + x)) 0 0 0) hS (by omega) (ok_num _) (ps_st rfl b3 rfl rfl)
          have hS1 : SR (uN N 0 (N 0 + 1)) (i + 1) 0 (uI (uI I 14 (nI (s + 1))) 8 (nI (N 0 + 1))) T (uU (uU U 9 (vp_updL (U 9) (i + 1 - 1) (lN (x + 1)))) 5 (vp_updL (U 5) (N 0) (eV (1, 0, 0, nI b)))) (uI (uI J 15 (nI (s + 1))) 4 (nI (N 0 + 1))) (uT S 1 (st5 (S 1) (N 0) 1 (S 8 (p + x)) 0 0 0)) (vp_updL K i (lN x + 1)) := by
            refine ⟨R_fr hSp.1 (fun x hx => uI_swp x 8 14 (by omega)) (fun _ _ => rfl) (fun k hk => uU_swp k 5 9 (by omega)) (fun x a b => uI_swp x 4 15 (by omega)) (fun _ _ _ => rfl), ?_, e21, .inl rfl, hS.2.2.2.2⟩
            refine RE_mono (NM_0 N _) (RE_upd (i := i) hS.2.1 (fun k k1 k2 j hj => ?_) rfl rfl rfl (fun j hj => vp_updL_ne hj) (.inr (.inr ⟨t, hi2, k5, x1, ht, hb, hit, .inr (.inr (.inr (.inl ⟨q, x + 1, hq, hqo, by omega, a1, a2, a3, ?_, ?_, a6, a7, a8, a9⟩)))⟩)))
            · rw [uU_ne _ _ (by omega)]
              exact uv_ne hj
            · exact vp_updL_at
            · exact vp_updL_at.trans (lN_add x 1)
          refine RJ_go hS1 ⟨rfl, rfl, u3, u4, by omega, u6, u7, u8⟩ ⟨fun x a b => by rw [uI_ne _ _ (by omega), uI_ne _ _ (by omega)], rfl, rfl, rfl, fun x a => by rw [uI_ne _ _ (by omega), uI_ne _ _ (by omega)], rfl, rfl⟩ (NM_0 N _) h3 ht k5 x1 hi2 hit (by omega) ?_ (fun hm hz => t_rowg (by omega) e14 u2 u4 u5 u6 ce (by omega) (t_give6b (I := uI J 15 (nI (s + 1))) e4 hn (by omega) a5 e7 (by omega) (by omega) e6 hm hz))
          have qq := s_turn6 e21 h1f h24 h3 a1 (s_forag6 e21 h1f h24 u1 u3 u6 (by omega) (show U 12 (i + 1 - 1) = eV q from a3) wq (show U 9 (i + 1 - 1) = lN x from a4) (show U 10 (i + 1 - 1) = lN q.2.2.1 from a6) (by omega) (by omega) hp hp6 b1 b2 hq6 (by omega) (s_pfr1 (I := uI I 14 (nI (s + 1))) (f := i + 1) e21 h1f h24 e8 hn (by omega) (by omega)))
          rw [← hb]
          exact qq
end
