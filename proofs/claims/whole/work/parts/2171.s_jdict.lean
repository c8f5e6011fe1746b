theorem OJ_err2 {op : Nat} {F : rx_F} {o : Nat} {N N1 : Nat → Nat} {I I1 : Nat → Int32} {L L1 : Nat → Int64} {T T1 : Nat → Nat → Int32} {U U1 : Nat → Nat → Int64} {J J1 : Nat → Int32} {S S1 : Nat → Nat → Int32} {K : Nat → Int64} {g : Nat → V} (hR1 : R N1 I1 T1 U1 J1 S1) (hkc : KC I I1 L L1 T T1 U U1) (hkr : KR J J1 S S1) (hnm : NM N N1) (e : Nat) (he : e ≤ 13) (h0 : chk op (N 0) g = 0) (h1 : F (wc I L T U) [.ref o, .int (nI op)] = some (some (.int (nI e)), wc I1 L1 T1 U1)) (h3 : f_X12_operate (wr J S K) [.ref 0, .int (nI op)] = some (some (.int (nI e)), wr J1 S1 K)) :
  ∃ (e : Nat) (N' : Nat → Nat) (I' : Nat → Int32) (L' : Nat → Int64) (T' : Nat → Nat → Int32) (U' : Nat → Nat → Int64) (J' : Nat → Int32) (S' : Nat → Nat → Int32),
    (chk op (N 0) g = 0 → F (wc I L T U) [.ref o, .int (nI op)] = some (some (.int (nI e)), wc I' L' T' U')) ∧
    (chk op (N 0) g ≠ 0 → e = chk op (N 0) g ∧ I' = I ∧ L' = L ∧ T' = T ∧ U' = U) ∧
    f_X12_operate (wr J S K) [.ref 0, .int (nI op)] = some (some (.int (nI e)), wr J' S' K) ∧
    e ≤ 13 ∧ R N' I' T' U' J' S' ∧ FC I L T U I' L' T' U' ∧ FQ J S J' S' ∧ NM N N' := ⟨e, N1, I1, L1, T1, U1, J1, S1, fun _ => h1, fun h => absurd h0 h, h3, he, hR1, KC_F hkc, KR_F hkr, hnm⟩
theorem OJ_ops2 {op : Nat} {F : rx_F} {o : Nat} {N N1 : Nat → Nat} {I I1 : Nat → Int32} {L L1 : Nat → Int64} {T T1 : Nat → Nat → Int32} {U U1 : Nat → Nat → Int64} {J J1 : Nat → Int32} {S S1 : Nat → Nat → Int32} {K : Nat → Int64} {g : Nat → V} (hR1 : R N1 I1 T1 U1 J1 S1) (hkc : KC I I1 L L1 T T1 U U1) (hkr : KR J J1 S S1) (hnm : NM N N1) {n' : Nat} {x' y' : Int32} {u' : Nat → Int64} {s' : Nat → Int32} (h0 : chk op (N 0) g = 0) (h1 : F (wc I L T U) [.ref o, .int (nI op)] = some (some (.int 0), wc (uI I1 8 x') L1 T1 (uU U1 5 u'))) (h3 : f_X12_operate (wr J S K) [.ref 0, .int (nI op)] = some (some (.int 0), wr (uI J1 4 y') (uT S1 1 s') K)) (hO : RO N1 n' 60 x' u' y' s') :
  ∃ (e : Nat) (N' : Nat → Nat) (I' : Nat → Int32) (L' : Nat → Int64) (T' : Nat → Nat → Int32) (U' : Nat → Nat → Int64) (J' : Nat → Int32) (S' : Nat → Nat → Int32),
    (chk op (N 0) g = 0 → F (wc I L T U) [.ref o, .int (nI op)] = some (some (.int (nI e)), wc I' L' T' U')) ∧
    (chk op (N 0) g ≠ 0 → e = chk op (N 0) g ∧ I' = I ∧ L' = L ∧ T' = T ∧ U' = U) ∧
    f_X12_operate (wr J S K) [.ref 0, .int (nI op)] = some (some (.int (nI e)), wr J' S' K) ∧
    e ≤ 13 ∧ R N' I' T' U' J' S' ∧ FC I L T U I' L' T' U' ∧ FQ J S J' S' ∧ NM N N' := by
  have a := KC_F hkc
  have b := KR_F hkr
  refine ⟨0, uN N1 0 n', uI I1 8 x', L1, T1, uU U1 5 u', uI J1 4 y', uT S1 1 s', fun _ => h1, fun h => absurd h0 h, h3, by decide, R_ops hR1 hO, ⟨fun i q1 q2 => ?_, a.2.1, a.2.2.1, a.2.2.2.1, a.2.2.2.2.1, fun i q1 q2 => ?_⟩, ⟨fun i q1 => ?_, fun i q1 q2 => ?_, b.2.2.1, b.2.2.2.1, b.2.2.2.2.1, b.2.2.2.2.2⟩, hnm⟩
  · rw [uI_ne _ _ (by omega)]
    exact a.1 i q1 q2
  · rw [uU_ne _ _ (by omega)]
    exact a.2.2.2.2.2 i q1 q2
  · rw [uI_ne _ _ (by omega)]
    exact b.1 i q1
  · rw [uI_ne _ _ (by omega)]
    exact b.2.1 i q1 q2
theorem OJ_dct2 {op : Nat} {F : rx_F} {o : Nat} {N N1 : Nat → Nat} {I I1 : Nat → Int32} {L L1 : Nat → Int64} {T T1 : Nat → Nat → Int32} {U U1 : Nat → Nat → Int64} {J J1 : Nat → Int32} {S S1 : Nat → Nat → Int32} {K : Nat → Int64} {g : Nat → V} (hR1 : R N1 I1 T1 U1 J1 S1) (hkc : KC I I1 L L1 T T1 U U1) (hkr : KR J J1 S S1) (hnm : NM N N1) {n' : Nat} {T2 : Nat → Nat → Int32} {U2 : Nat → Nat → Int64} {S2 : Nat → Nat → Int32} (h0 : chk op (N 0) g = 0) (hn : n' ≤ N1 0) (h1 : F (wc I L T U) [.ref o, .int (nI op)] = some (some (.int 0), wc (uI I1 8 (nI n')) L1 T2 U2)) (h3 : f_X12_operate (wr J S K) [.ref 0, .int (nI op)] = some (some (.int 0), wr (uI J1 4 (nI n')) S2 K)) (hR2 : R N1 I1 T2 U2 J1 S2) (ht : ∀ k, k ≠ 5 → T2 k = T1 k) (hu : ∀ k, k ≠ 3 → k ≠ 4 → U2 k = U1 k) (hs : ∀ k, k ≠ 4 → k ≠ 5 → k ≠ 6 → S2 k = S1 k) :
  ∃ (e : Nat) (N' : Nat → Nat) (I' : Nat → Int32) (L' : Nat → Int64) (T' : Nat → Nat → Int32) (U' : Nat → Nat → Int64) (J' : Nat → Int32) (S' : Nat → Nat → Int32),
    (chk op (N 0) g = 0 → F (wc I L T U) [.ref o, .int (nI op)] = some (some (.int (nI e)), wc I' L' T' U')) ∧
    (chk op (N 0) g ≠ 0 → e = chk op (N 0) g ∧ I' = I ∧ L' = L ∧ T' = T ∧ U' = U) ∧
    f_X12_operate (wr J S K) [.ref 0, .int (nI op)] = some (some (.int (nI e)), wr J' S' K) ∧
    e ≤ 13 ∧ R N' I' T' U' J' S' ∧ FC I L T U I' L' T' U' ∧ FQ J S J' S' ∧ NM N N' := by
  have a := KC_F hkc
  have b := KR_F hkr
  refine ⟨0, uN N1 0 n', uI I1 8 (nI n'), L1, T2, U2, uI J1 4 (nI n'), S2, fun _ => h1, fun h => absurd h0 h, h3, by decide, ⟨RO_drop hR2.1 hn rfl rfl, hR2.2.1, hR2.2.2.1, hR2.2.2.2.1, hR2.2.2.2.2.1, hR2.2.2.2.2.2.1, hR2.2.2.2.2.2.2⟩, ⟨fun i q1 q2 => ?_, a.2.1, a.2.2.1, (ht 7 (by decide)).trans a.2.2.2.1, (ht 10 (by decide)).trans a.2.2.2.2.1, fun i q1 q2 => (hu i (by omega) (by omega)).trans (a.2.2.2.2.2 i q1 q2)⟩, ⟨fun i q1 => ?_, fun i q1 q2 => ?_, (hs 0 (by decide) (by decide) (by decide)).trans b.2.2.1, (hs 12 (by decide) (by decide) (by decide)).trans b.2.2.2.1, (hs 13 (by decide) (by decide) (by decide)).trans b.2.2.2.2.1, (hs 16 (by decide) (by decide) (by decide)).trans b.2.2.2.2.2⟩, hnm⟩
  · rw [uI_ne _ _ (by omega)]
    exact a.1 i q1 q2
  · rw [uI_ne _ _ (by omega)]
    exact b.1 i q1
  · rw [uI_ne _ _ (by omega)]
    exact b.2.1 i q1 q2
theorem j_36d : OJC 36 f_X1_perform 37 (fun n g => (g (n - 2)).1 = 7) := by
  intro N I L T U J S K g hR hg hC
  obtain ⟨hn, e8, e4, hO⟩ := hR.1
  by_cases hu : N 0 < 2
  · have hc : chk 36 (N 0) g = 3 := chk_u (c := 2) (by decide +kernel) hu
    exact OJ_same hR 3 (by decide) (fun h => absurd (h.symm.trans hc) (by decide)) (fun _ => hc.symm) (d_access rfl (by decide) (by decide) (g_36 (g_36u e4 hn (by omega))))
  obtain ⟨u0, r0, o0⟩ := hg (N 0 - 1) (by omega)
  have v0 := ok_w0 o0
  obtain ⟨u1, r1, o1⟩ := hg (N 0 - 2) (by omega)
  have v1 := ok_w0 o1
  have hc : chk 36 (N 0) g = if tk 1 (g (N 0 - 1)) = true ∧ tk 10 (g (N 0 - 2)) = true then 0 else 4 := chk_2 (by decide +kernel) (by decide +kernel) (by decide +kernel) (by omega)
  have kd : (g (N 0 - 2)).1 = 7 := hC
  rw [if_pos ⟨tk_1 v0, (tk_10 v1).mpr (.inr (.inr kd))⟩] at hc
  by_cases hk : ((g (N 0 - 1)).1 = 1 ∨ (g (N 0 - 1)).1 = 2 ∨ (g (N 0 - 1)).1 = 4 ∨ (g (N 0 - 1)).1 = 6)
  · skip
    obtain ⟨e, N1, I1, L1, T1, U1, J1, S1, c1, c2, c3, hR1, hkc, hkr, hnm, hN, hkey⟩ := jk (L := L) (K := K) hR o0 r0 (by omega) hk
    have f8 : I1 8 = nI (N 0) := (hkc.1 8 (by decide)).trans e8
    have f4 : J1 4 = nI (N 0) := (hkr.1 4 (by decide) (by decide) (by decide)).trans e4
    have N50 : N1 5 = N 5 := hN 5 (by decide)
    have N00 : N1 0 = N 0 := hN 0 (by decide)
    have w1 : U1 5 (N 0 - 2) = eV (g (N 0 - 2)) := by rw [hkc.2.2.2.2 5 (by decide)]; exact u1
    have q1 : r5 (S1 1) (N 0 - 2) (g (N 0 - 2)) := by rw [hkr.2 1 (by decide) (by decide)]; exact r1
    have o1' : ok N1 (g (N 0 - 2)) := ok_mono hnm.1 hnm.2.1 hnm.2.2.1 hnm.2.2.2 o1
    rcases c3 with e0 | e0
    · subst e0
      obtain ⟨key, kk, kL, k22, k23⟩ := hkey rfl
      obtain ⟨j, j1, j2, je⟩ := ok_7 o1 kd
      have hj : (g (N 0 - 2)).2.2.2 = nI j := by rw [je]
      obtain ⟨hd, hd2, h6, h5, p, s, r, q, hp5, hp, hX⟩ := R_DX hR1
      rcases jf (I := I1) (L := L1) (K := K) hd (by omega) hX (j := j) (by omega) kk (a := (g (N 0 - 2)).2.2.2) hj (z := (g (N 0 - 2)).2.2.2) hj k22 k23 with ⟨fa, fb⟩ | ⟨k, k1, k2, fa, fb⟩
      · rw [← kL] at fa
        exact OJ_err2 hR1 hkc hkr hnm 5 (by decide) hc (k_36 (k_36n e8 hn u0 v0 u1 v1 (by omega) c1 f8 w1 fa)) (d_access rfl (by decide) (by decide) (g_36 (g_36dn e4 hn r0 v0 r1 v1 (by omega) kd hk (c2 _ rfl) f4 q1 fb)))
      · rw [← kL] at fa
        obtain ⟨z0, _, _, _, _, z1, z3, z2⟩ := hX.1 j (by omega)
        have z80 := DX_q80 hX (show j < N1 5 by omega)
        obtain ⟨t, ta, tb, tc⟩ := hX.2.2.2.2.1 j (by omega) k k1
        have hv := s_valueAt (I := I1) (L := L1) (U := U1) (a := (g (N 0 - 2)).2.2.2) (b := nI k) hj (by omega) z0 rfl (by omega)
        rw [ta] at hv
        exact OJ_ops2 hR1 hkc hkr hnm (n' := N 0 - 2 + 1) hc (k_36 (k_36y e8 hn u0 v0 u1 v1 (by omega) c1 f8 w1 (by omega) fa hv)) (d_access rfl (by decide) (by decide) (g_36 (g_36dy e4 hn r0 v0 r1 v1 (by omega) kd hk (c2 _ rfl) f4 q1 (x := 80 * j + k) (by omega) fb))) (RO_ans hR1.1 (j := N 0 - 2) (by omega) rfl (by omega) rfl (congrArg nI (by omega)) tc (ps_cp tb))
    · subst e0
      exact OJ_err2 hR1 hkc hkr hnm 2 (by decide) hc (k_36 (k_36e e8 hn u0 v0 (by omega) c1 (by decide) (by decide))) (d_access rfl (by decide) (by decide) (g_36 (g_36de e4 hn r0 v0 r1 v1 (by omega) kd hk (c2 _ rfl))))
  · exact ⟨4, N, I, uL L 4 (eV ((g (N 0 - 1)).1, 0, (g (N 0 - 1)).2.2.1, (g (N 0 - 1)).2.2.2)), T, U, J, S, fun _ => k_36 (k_36e e8 hn u0 v0 (by omega) (s_takeKeyT rfl v0 hk) (by decide) (by decide)), fun h => absurd hc h, d_access rfl (by decide) (by decide) (g_36 (g_36dt e4 hn r0 v0 r1 v1 (by omega) kd hk)), by decide, hR, ⟨fun _ _ _ => rfl, rfl, rfl, rfl, rfl, fun _ _ _ => rfl⟩, FQ_r J S, NM_r N⟩

theorem j_37d : OJC 37 f_X1_perform 37 (fun n g => (g (n - 3)).1 = 7) := by
  intro N I L T U J S K g hR hg hC
  obtain ⟨hn, e8, e4, hO⟩ := hR.1
  by_cases hu : N 0 < 3
  · have hc : chk 37 (N 0) g = 3 := chk_u (c := 3) (by decide +kernel) hu
    exact OJ_same hR 3 (by decide) (fun h => absurd (h.symm.trans hc) (by decide)) (fun _ => hc.symm) (d_access rfl (by decide) (by decide) (g_37 (g_37u e4 hn (by omega))))
  obtain ⟨u0, r0, o0⟩ := hg (N 0 - 1) (by omega)
  have v0 := ok_w0 o0
  obtain ⟨u1, r1, o1⟩ := hg (N 0 - 2) (by omega)
  have v1 := ok_w0 o1
  obtain ⟨u2, r2, o2⟩ := hg (N 0 - 3) (by omega)
  have v2 := ok_w0 o2
  have hc : chk 37 (N 0) g = if tk 1 (g (N 0 - 1)) = true ∧ tk 1 (g (N 0 - 2)) = true ∧ tk 10 (g (N 0 - 3)) = true then 0 else 4 := chk_3 (by decide +kernel) (by decide +kernel) (by decide +kernel) (by decide +kernel) (by omega)
  have kd : (g (N 0 - 3)).1 = 7 := hC
  rw [if_pos ⟨tk_1 v0, tk_1 v1, (tk_10 v2).mpr (.inr (.inr kd))⟩] at hc
  by_cases hk : ((g (N 0 - 2)).1 = 1 ∨ (g (N 0 - 2)).1 = 2 ∨ (g (N 0 - 2)).1 = 4 ∨ (g (N 0 - 2)).1 = 6)
  · skip
    obtain ⟨e, N1, I1, L1, T1, U1, J1, S1, c1, c2, c3, hR1, hkc, hkr, hnm, hN, hkey⟩ := jk (L := L) (K := K) hR o1 r1 (by omega) hk
    have f8 : I1 8 = nI (N 0) := (hkc.1 8 (by decide)).trans e8
    have f4 : J1 4 = nI (N 0) := (hkr.1 4 (by decide) (by decide) (by decide)).trans e4
    have N50 : N1 5 = N 5 := hN 5 (by decide)
    have N00 : N1 0 = N 0 := hN 0 (by decide)
    have w0 : U1 5 (N 0 - 1) = eV (g (N 0 - 1)) := by rw [hkc.2.2.2.2 5 (by decide)]; exact u0
    have q0 : r5 (S1 1) (N 0 - 1) (g (N 0 - 1)) := by rw [hkr.2 1 (by decide) (by decide)]; exact r0
    have o0' : ok N1 (g (N 0 - 1)) := ok_mono hnm.1 hnm.2.1 hnm.2.2.1 hnm.2.2.2 o0
    have w2 : U1 5 (N 0 - 3) = eV (g (N 0 - 3)) := by rw [hkc.2.2.2.2 5 (by decide)]; exact u2
    have q2 : r5 (S1 1) (N 0 - 3) (g (N 0 - 3)) := by rw [hkr.2 1 (by decide) (by decide)]; exact r2
    have o2' : ok N1 (g (N 0 - 3)) := ok_mono hnm.1 hnm.2.1 hnm.2.2.1 hnm.2.2.2 o2
    rcases c3 with e0 | e0
    · subst e0
      obtain ⟨key, kk, kL, k22, k23⟩ := hkey rfl
      obtain ⟨j, j1, j2, je⟩ := ok_7 o2 kd
      have hj : (g (N 0 - 3)).2.2.2 = nI j := by rw [je]
      rcases jp (L := L1) (K := K) hR1 kk k22 k23 (j := j) (by omega) o0' q0 (by omega) with ⟨pa, pb⟩ | ⟨T2, U2, S2, pa, pb, pc, hR2, ht, hu, hs⟩
      · rw [← kL] at pa
        exact OJ_err2 hR1 hkc hkr hnm 9 (by decide) hc (k_37 (k_37f e8 hn u0 v0 u1 v1 u2 v2 (by omega) c1 f8 w0 w2 (pa _ hj))) (d_access rfl (by decide) (by decide) (g_37 (g_37df e4 hn r0 v0 r1 v1 r2 v2 (by omega) kd hk (c2 _ rfl) f4 q2 (pb _ hj))))
      · rw [← kL] at pa
        exact OJ_dct2 hR1 hkc hkr hnm (n' := N 0 - 3) hc (by omega) (k_37 (k_37y e8 hn u0 v0 u1 v1 u2 v2 (by omega) c1 f8 w0 w2 (pa _ hj))) (d_access rfl (by decide) (by decide) (g_37 (g_37dy e4 hn r0 v0 r1 v1 r2 v2 (by omega) kd hk (c2 _ rfl) f4 q2 (pb _ hj) (pc _ _ hj rfl)))) hR2 ht hu hs
    · subst e0
      exact OJ_err2 hR1 hkc hkr hnm 2 (by decide) hc (k_37 (k_37e e8 hn u1 v1 (by omega) c1 (by decide) (by decide))) (d_access rfl (by decide) (by decide) (g_37 (g_37de e4 hn r0 v0 r1 v1 r2 v2 (by omega) kd hk (c2 _ rfl))))
  · exact ⟨4, N, I, uL L 4 (eV ((g (N 0 - 2)).1, 0, (g (N 0 - 2)).2.2.1, (g (N 0 - 2)).2.2.2)), T, U, J, S, fun _ => k_37 (k_37e e8 hn u1 v1 (by omega) (s_takeKeyT rfl v1 hk) (by decide) (by decide)), fun h => absurd hc h, d_access rfl (by decide) (by decide) (g_37 (g_37dt e4 hn r0 v0 r1 v1 r2 v2 (by omega) kd hk)), by decide, hR, ⟨fun _ _ _ => rfl, rfl, rfl, rfl, rfl, fun _ _ _ => rfl⟩, FQ_r J S, NM_r N⟩

theorem j_35d : OJC 35 f_X1_perform 37 (fun n g => (g (n - 1)).1 = 7) := by
  intro N I L T U J S K g hR hg hC
  obtain ⟨hn, e8, e4, hO⟩ := hR.1
  by_cases hu : N 0 < 1
  · have hc : chk 35 (N 0) g = 3 := chk_u (c := 1) (by decide +kernel) hu
    exact OJ_same hR 3 (by decide) (fun h => absurd (h.symm.trans hc) (by decide)) (fun _ => hc.symm) (d_access rfl (by decide) (by decide) (g_35 (g_35u e4 hn (by omega))))
  obtain ⟨u0, r0, o0⟩ := hg (N 0 - 1) (by omega)
  have v0 := ok_w0 o0
  have hc : chk 35 (N 0) g = if tk 11 (g (N 0 - 1)) = true then 0 else 4 := chk_1 (by decide +kernel) (by decide +kernel) (by omega)
  have kd : (g (N 0 - 1)).1 = 7 := hC
  rw [if_pos ((tk_11 v0).mpr (by omega))] at hc
  obtain ⟨j, j1, j2, je⟩ := ok_7 o0 kd
  have hj : (g (N 0 - 1)).2.2.2 = nI j := by rw [je]
  obtain ⟨hd, hd2, h6, h5, p, s, r, q, hp5, hp, hX⟩ := R_DX hR
  obtain ⟨_, _, z1, _, z2, _⟩ := hX.1 j j1
  exact OJ_ops hR hc (k_35 e8 hn u0 v0 (by omega) hj j2) (d_access rfl (by decide) (by decide) (g_35 (g_35d e4 hn r0 v0 (by omega) kd hj j2))) (RO_ans hR.1 (j := N 0 - 1) (by omega) rfl (by omega) rfl rfl (ok_num _) (ps_st rfl (z2.trans z1.symm) rfl rfl))

theorem j_55 : OJ 55 f_X1_perform 37 := by
  intro N I L T U J S K g hR hg
  obtain ⟨hn, e8, e4, hO⟩ := hR.1
  by_cases hu : N 0 < 1
  · have hc : chk 55 (N 0) g = 3 := chk_u (c := 1) (by decide +kernel) hu
    exact OJ_same hR 3 (by decide) (fun h => absurd (h.symm.trans hc) (by decide)) (fun _ => hc.symm) (d_aboutDictionaries rfl (by decide) (by decide) (g_55u e4 hn (by omega)))
  obtain ⟨u0, r0, o0⟩ := hg (N 0 - 1) (by omega)
  have v0 := ok_w0 o0
  have hc : chk 55 (N 0) g = if tk 7 (g (N 0 - 1)) = true then 0 else 4 := chk_1 (by decide +kernel) (by decide +kernel) (by omega)
  by_cases kd : (g (N 0 - 1)).1 = 7
  · rw [if_pos ((tk_7 v0).mpr kd)] at hc
    obtain ⟨j, j1, j2, je⟩ := ok_7 o0 kd
    have hj : (g (N 0 - 1)).2.2.2 = nI j := by rw [je]
    obtain ⟨hd, hd2, h6, h5, p, s, r, q, hp5, hp, hX⟩ := R_DX hR
    obtain ⟨_, z1, _, z2, _⟩ := hX.1 j j1
    exact OJ_ops hR hc (k_55 e8 hn u0 v0 (by omega) hj j2) (d_aboutDictionaries rfl (by decide) (by decide) (g_55 e4 hn r0 v0 (by omega) kd hj j2)) (RO_ans hR.1 (j := N 0 - 1) (by omega) rfl (by omega) rfl rfl (ok_num _) (ps_st rfl (z2.trans z1.symm) rfl rfl))
  · rw [if_neg (fun h => kd ((tk_7 v0).mp h))] at hc
    exact OJ_same hR 4 (by decide) (fun h => absurd (h.symm.trans hc) (by decide)) (fun _ => hc.symm) (d_aboutDictionaries rfl (by decide) (by decide) (g_55t e4 hn r0 v0 (by omega) kd))

theorem j_54 : OJ 54 f_X1_perform 37 := by
  intro N I L T U J S K g hR hg
  obtain ⟨hn, e8, e4, hO⟩ := hR.1
  have hc : chk 54 (N 0) g = 0 := chk_0 (by decide +kernel)
  obtain ⟨s1, s2, s3, s4, s5⟩ := hR.2.2.2.2.2.2
  by_cases hf : N 0 = 60
  · exact OJ_same hR 13 (by decide) (fun _ => k_54o e8 hn hf) (fun h => absurd hc h) (d_aboutDictionaries rfl (by decide) (by decide) (g_54o e4 hn hf))
  · exact OJ_ops hR hc (k_54 e8 hn s3 s1 s2 (by omega)) (d_aboutDictionaries rfl (by decide) (by decide) (g_54 e4 hn s4 s1 s2 (by omega))) (RO_ans hR.1 (j := N 0) (Nat.le_refl _) rfl (by omega) rfl rfl (ok_num _) (ps_st rfl rfl rfl rfl))

theorem j_53 : OJ 53 f_X1_perform 37 := by
  intro N I L T U J S K g hR hg
  obtain ⟨hn, e8, e4, hO⟩ := hR.1
  have hc : chk 53 (N 0) g = 0 := chk_0 (by decide +kernel)
  obtain ⟨s1, s2, s3, s4, s5⟩ := hR.2.2.2.2.2.2
  obtain ⟨j, j1, j2, j3⟩ := s5 (N 6 - 1) (by omega)
  have hd20 := hR.2.2.2.2.2.1.2.1
  by_cases hf : N 0 = 60
  · exact OJ_same hR 13 (by decide) (fun _ => k_53o e8 hn s3 s1 s2 hf) (fun h => absurd hc h) (d_aboutDictionaries rfl (by decide) (by decide) (g_53o e4 hn hf))
  · exact OJ_ops hR hc (by rw [← j2]; exact k_53 e8 hn s3 s1 s2 (by omega)) (d_aboutDictionaries rfl (by decide) (by decide) (g_53 e4 hn s4 s1 s2 (by omega))) (RO_ans hR.1 (j := N 0) (Nat.le_refl _) rfl (by omega) rfl rfl (ok_dict j1 (by omega)) (ps_st rfl j3 rfl rfl))

theorem j_46 : OJ 46 f_X1_perform 37 := by
  intro N I L T U J S K g hR hg
  obtain ⟨hn, e8, e4, hO⟩ := hR.1
  have hc : chk 46 (N 0) g = 0 := chk_0 (by decide +kernel)
  obtain ⟨s1, s2, s3, s4, s5⟩ := hR.2.2.2.2.2.2
  by_cases h2 : N 6 = 2
  · rw [h2] at s3 s4
    exact OJ_same hR 10 (by decide) (fun _ => k_46u s3) (fun h => absurd hc h) (d_onDictionaryStack rfl (by decide) (by decide) (g_46u e4 hn s4))
  · exact ⟨0, uN N 6 (N 6 - 1), _, _, _, _, _, _, fun _ => k_46 s3 (by omega) s2, fun h => absurd hc h, d_onDictionaryStack rfl (by decide) (by decide) (g_46 e4 hn s4 (by omega) s2), by decide, ⟨hR.1, hR.2.1, hR.2.2.1, hR.2.2.2.1, hR.2.2.2.2.1, hR.2.2.2.2.2.1, ⟨show 2 ≤ N 6 - 1 by omega, show N 6 - 1 ≤ 10 by omega, rfl, rfl, fun i hi => s5 i (by have : i < N 6 - 1 := hi; omega)⟩⟩, ⟨fun i h1 h2 => by rw [uI_ne _ _ (by omega)], rfl, rfl, rfl, rfl, fun _ _ _ => rfl⟩, ⟨fun i h1 => by rw [uI_ne _ _ (by omega)], fun i h1 h2 => by rw [uI_ne _ _ (by omega)], rfl, rfl, rfl, rfl⟩, NM_r N⟩
theorem j_45 : OJ 45 f_X1_perform 37 := by
  intro N I L T U J S K g hR hg
  obtain ⟨hn, e8, e4, hO⟩ := hR.1
  by_cases hu : N 0 < 1
  · have hc : chk 45 (N 0) g = 3 := chk_u (c := 1) (by decide +kernel) hu
    exact OJ_same hR 3 (by decide) (fun h => absurd (h.symm.trans hc) (by decide)) (fun _ => hc.symm) (d_onDictionaryStack rfl (by decide) (by decide) (g_45u e4 hn (by omega)))
  obtain ⟨u0, r0, o0⟩ := hg (N 0 - 1) (by omega)
  have v0 := ok_w0 o0
  have hc : chk 45 (N 0) g = if tk 7 (g (N 0 - 1)) = true then 0 else 4 := chk_1 (by decide +kernel) (by decide +kernel) (by omega)
  obtain ⟨s1, s2, s3, s4, s5⟩ := hR.2.2.2.2.2.2
  by_cases kd : (g (N 0 - 1)).1 = 7
  · rw [if_pos ((tk_7 v0).mpr kd)] at hc
    obtain ⟨j, j1, j2, je⟩ := ok_7 o0 kd
    have hj : (g (N 0 - 1)).2.2.2 = nI j := by rw [je]
    by_cases h10 : N 6 = 10
    · rw [h10] at s3 s4
      exact OJ_same hR 11 (by decide) (fun _ => k_45 (k_45o e8 hn u0 v0 s3 (by omega))) (fun h => absurd hc h) (d_onDictionaryStack rfl (by decide) (by decide) (g_45o e4 hn r0 v0 (by omega) kd s4))
    · refine ⟨0, uN (uN N 6 (N 6 + 1)) 0 (N 0 - 1), _, _, _, _, _, _, fun _ => k_45 (k_45a e8 hn u0 v0 s3 (by omega) (by omega)), fun h => absurd hc h, d_onDictionaryStack rfl (by decide) (by decide) (g_45 e4 hn r0 v0 s4 (by omega) (by omega) kd), by decide, ⟨RO_drop (n' := N 0 - 1) hR.1 (by omega) rfl rfl, hR.2.1, hR.2.2.1, hR.2.2.2.1, hR.2.2.2.2.1, hR.2.2.2.2.2.1, ⟨show 2 ≤ N 6 + 1 by omega, show N 6 + 1 ≤ 10 by omega, rfl, rfl, fun i hi => ?_⟩⟩, ⟨fun i h1 h2 => by rw [uI_ne _ _ (by omega), uI_ne _ _ (by omega)], rfl, rfl, rfl, rfl, fun _ _ _ => rfl⟩, ⟨fun i h1 => by rw [uI_ne _ _ (by omega), uI_ne _ _ (by omega)], fun i h1 h2 => by rw [uI_ne _ _ (by omega), uI_ne _ _ (by omega)], rfl, rfl, rfl, rfl⟩, NM_r N⟩
      have hi' : i < N 6 + 1 := hi
      by_cases e : i = N 6
      · subst e
        exact ⟨j, j1, upd_at.trans hj, upd_at.trans hj⟩
      · obtain ⟨x, x1, x2, x3⟩ := s5 i (by omega)
        exact ⟨x, x1, (upd_ne e).trans x2, (upd_ne e).trans x3⟩
  · rw [if_neg (fun h => kd ((tk_7 v0).mp h))] at hc
    exact OJ_same hR 4 (by decide) (fun h => absurd (h.symm.trans hc) (by decide)) (fun _ => hc.symm) (d_onDictionaryStack rfl (by decide) (by decide) (g_45t e4 hn r0 v0 (by omega) kd))

theorem DX_make {N M : Nat → Nat} {d p k : Nat} {s r q s' r' q' : Nat → Nat} {T T' : Nat → Nat → Int32} {U U' : Nat → Nat → Int64} {S S' : Nat → Nat → Int32} (hM : NM N M) (h : DX N d p s r q T U S) (hs : ∀ x, s' x = if x = d then p else s x) (hr : ∀ x, r' x = if x = d then k else r x) (hq : ∀ x, q' x = if x = d then 0 else q x) (hd : 2 ≤ d) (hk : k ≤ 29) (t3 : T' 3 = upd (T 3) d (nI p)) (t4 : T' 4 = upd (T 4) d (nI k)) (t5 : T' 5 = upd (T 5) d (nI 0)) (u3 : U' 3 = U 3) (u4 : U' 4 = U 4) (s3 : S' 3 = upd (S 3) d (nI k)) (s4 : S' 4 = upd (S 4) d (nI 0)) (s5 : S' 5 = S 5) (s6 : S' 6 = S 6) : DX M (d + 1) (p + k) s' r' q' T' U' S' := by
  obtain ⟨x1, x2, x3, x4, x5, x6, x7⟩ := id h
  refine ⟨?_, ?_, ⟨?_, ?_, ?_⟩, ?_, ?_, ?_, ?_⟩
  · intro x hx
    rw [hs x, hr x, hq x]
    by_cases e : x = d
    · subst e
      rw [t3, t4, t5, s3, s4, upd_at, upd_at, upd_at, upd_at, upd_at, if_pos rfl, if_pos rfl, if_pos rfl]
      exact ⟨rfl, rfl, rfl, rfl, rfl, Nat.zero_le _, Nat.le_refl _, fun _ => hk⟩
    · obtain ⟨y1, y2, y3, y4, y5, y6, y7, y8⟩ := x1 x (by omega)
      rw [t3, t4, t5, s3, s4, upd_ne e, upd_ne e, upd_ne e, upd_ne e, upd_ne e, if_neg e, if_neg e, if_neg e]
      exact ⟨y1, y2, y3, y4, y5, y6, by omega, y8⟩
  · intro i j h1 h2
    rw [hs i, hr i, hs j]
    rw [if_neg (show i ≠ d by omega), if_neg (show i ≠ d by omega)]
    obtain ⟨_, _, _, _, _, _, y7, _⟩ := x1 i (by omega)
    by_cases e : j = d
    · rw [if_pos e]
      exact y7
    · rw [if_neg e]
      exact x2 i j h1 (by omega)
  · rw [hs 0, if_neg (by omega)]
    exact x3.1
  · rw [hr 0, if_neg (by omega)]
    exact x3.2.1
  · rw [hq 0, if_neg (by omega)]
    exact x3.2.2
  · intro j hj k' hk'
    rw [hq j] at hk'
    rw [hs j]
    by_cases e : j = d
    · rw [if_pos e] at hk'
      omega
    · rw [if_neg e] at hk' ⊢
      obtain ⟨t, a, b, c, d1, d2⟩ := x4 j (by omega) k' hk'
      exact ⟨t, by rw [u3]; exact a, by rw [s5]; exact b, by rw [s5]; exact c, ok_mono hM.1 hM.2.1 hM.2.2.1 hM.2.2.2 d1, d2⟩
  · intro j hj k' hk'
    rw [hq j] at hk'
    rw [hs j]
    by_cases e : j = d
    · rw [if_pos e] at hk'
      omega
    · rw [if_neg e] at hk' ⊢
      rw [u4, s6]
      exact sl_mono hM.1 hM.2.1 hM.2.2.1 hM.2.2.2 (x5 j (by omega) k' hk')
  · intro j hj k1 k2 h1 h2
    rw [hq j] at h2
    rw [hs j]
    by_cases e : j = d
    · rw [if_pos e] at h2
      omega
    · rw [if_neg e] at h2 ⊢
      rw [u3]
      exact x6 j (by omega) k1 k2 h1 h2
  · intro k' hk'
    rw [u3, u4]
    exact x7 k' hk'
theorem j_44 : OJ 44 f_X1_perform 37 := by
  intro N I L T U J S K g hR hg
  obtain ⟨hn, e8, e4, hO⟩ := hR.1
  by_cases hu : N 0 < 1
  · have hc : chk 44 (N 0) g = 3 := chk_u (c := 1) (by decide +kernel) hu
    exact OJ_same hR 3 (by decide) (fun h => absurd (h.symm.trans hc) (by decide)) (fun _ => hc.symm) (d_gather rfl (by decide) (by decide) (g_44 (g_44u e4 hn (by omega))))
  obtain ⟨u0, r0, o0⟩ := hg (N 0 - 1) (by omega)
  have v0 := ok_w0 o0
  have hc : chk 44 (N 0) g = if tk 2 (g (N 0 - 1)) = true then 0 else 4 := chk_1 (by decide +kernel) (by decide +kernel) (by omega)
  by_cases k0 : (g (N 0 - 1)).1 = 1
  · rw [if_pos ((tk_2 v0).mpr k0)] at hc
    obtain ⟨hd, hd2, h6, h5, p, s, r, q, hp5, hp, hX⟩ := R_DX hR
    rcases neg_or (g (N 0 - 1)).2.2.2 with hv | ⟨k, hb, ek⟩
    · exact OJ_same hR 6 (by decide) (fun _ => k_44 e8 hn u0 v0 (by omega) (k_44n hv)) (fun h => absurd hc h) (d_gather rfl (by decide) (by decide) (g_44 (g_44n e4 hn r0 v0 (by omega) k0 hv)))
    · by_cases hg2 : 20 < k
      · exact OJ_same hR 6 (by decide) (fun _ => k_44 e8 hn u0 v0 (by omega) (k_44b ek hb hg2)) (fun h => absurd hc h) (d_gather rfl (by decide) (by decide) (g_44 (g_44b e4 hn r0 v0 ek hb (by omega) k0 hg2)))
      · by_cases d20 : N 5 = 20
        · rw [d20] at h6 h5
          exact OJ_same hR 2 (by decide) (fun _ => k_44 e8 hn u0 v0 (by omega) (k_44f ek (by omega) h6)) (fun h => absurd hc h) (d_gather rfl (by decide) (by decide) (g_44 (g_44f e4 hn r0 v0 ek hb (by omega) k0 (by omega) h5)))
        · have hM : NM N (uN (uN N 5 (N 5 + 1)) 0 (N 0 - 1 + 1)) := ⟨Nat.le_refl _, Nat.le_refl _, Nat.le_refl _, Nat.le_add_right _ _⟩
          obtain ⟨s1, s2, s3, s4, s5⟩ := hR.2.2.2.2.2.2
          exact ⟨0, uN (uN N 5 (N 5 + 1)) 0 (N 0 - 1 + 1), _, _, _, _, _, _, fun _ => k_44 e8 hn u0 v0 (by omega) (k_44a e8 hn ek (by omega) (by omega) h6 hp5 (by omega) (by omega)), fun h => absurd hc h, d_gather rfl (by decide) (by decide) (g_44 (g_44a e4 hn r0 v0 ek hb (by omega) k0 (by omega) h5 (by omega))), by decide, ⟨RO_ans (n' := N 0 - 1 + 1) (RO_mono hM hR.1) (j := N 0 - 1) (by omega) rfl (by omega) rfl rfl (ok_dict (Nat.lt_succ_self _) (by omega)) (ps_st rfl rfl rfl rfl), RO_mono hM hR.2.1, hR.2.2.1, hR.2.2.2.1, hR.2.2.2.2.1, ⟨show 2 ≤ N 5 + 1 by omega, show N 5 + 1 ≤ 20 by omega, rfl, rfl, p + k, (fun x => if x = N 5 then p else s x), (fun x => if x = N 5 then k else r x), (fun x => if x = N 5 then 0 else q x), rfl, show p + k ≤ 94 + 29 * (N 5 + 1 - 2) by omega, DX_make hM hX (fun _ => rfl) (fun _ => rfl) (fun _ => rfl) hd2 (by omega) rfl rfl rfl rfl rfl rfl rfl rfl rfl⟩, ⟨s1, s2, s3, s4, fun i hi => by obtain ⟨x, x1, x2⟩ := s5 i hi; exact ⟨x, Nat.lt_succ_of_lt x1, x2⟩⟩⟩, ⟨fun i h1 h2 => by rw [uI_ne _ _ (by omega), uI_ne _ _ (by omega), uI_ne _ _ (by omega)], rfl, rfl, rfl, rfl, fun i h1 h2 => by rw [uU_ne _ _ (by omega)]⟩, ⟨fun i h1 => by rw [uI_ne _ _ (by omega), uI_ne _ _ (by omega)], fun i h1 h2 => by rw [uI_ne _ _ (by omega), uI_ne _ _ (by omega)], rfl, rfl, rfl, rfl⟩, hM⟩
  · rw [if_neg (fun h => k0 ((tk_2 v0).mp h))] at hc
    exact OJ_same hR 4 (by decide) (fun h => absurd (h.symm.trans hc) (by decide)) (fun _ => hc.symm) (d_gather rfl (by decide) (by decide) (g_44 (g_44t e4 hn r0 v0 (by omega) k0)))

