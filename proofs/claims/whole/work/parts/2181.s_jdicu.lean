theorem jr2 {N : Nat → Nat} {I : Nat → Int32} {L : Nat → Int64} {T : Nat → Nat → Int32} {U : Nat → Nat → Int64} {J : Nat → Int32} {S : Nat → Nat → Int32} {K : Nat → Int64} (hR : R N I T U J S) {key : V} (hk : okk N key) (e22 : J 22 = nI key.1) (e23 : J 23 = key.2.2.2) {j : Nat} (hj : j < N 5) (j0 : 0 < j) :
    ∃ T' U' S', (∀ I' a, a = nI j → f_X0_remove (wc I' L T U) [.ref 9, .int a, .long (eV key)] = some (some (.int 0), wc I' L T' U')) ∧ (∀ a, a = nI j → f_X12_remove (wr J S K) [.ref 0, .int a] = some (none, wr J S' K)) ∧ R N I T' U' J S' ∧ (∀ k, k ≠ 5 → T' k = T k) ∧ (∀ k, k ≠ 3 → k ≠ 4 → U' k = U k) ∧ (∀ k, k ≠ 4 → k ≠ 5 → k ≠ 6 → S' k = S k) := by
  obtain ⟨hd, hd2, h6, h5, p, s, r, q, hp5, hp, hX⟩ := R_DX hR
  obtain ⟨y1, y2, y3, y4, y5, y6, y7, y8⟩ := hX.1 j hj
  have hr29 := y8 (by omega)
  have dis := hX.2.2.2.2.2.1 j hj
  rcases jf (I := I) (L := L) (K := K) hd (by omega) hX hj hk (a := nI j) (z := nI j) rfl rfl e22 e23 with ⟨f1, f2⟩ | ⟨k, k1, k2, f1, f2⟩
  · have no : ∀ i, i < q j → U 3 (s j + i) ≠ eV key := by
      intro i hi e
      have : f_X0_find (wc I L T U) [.ref 9, .int (nI j), .long (eV key)] = some (some (.int (nI i)), wc I L T U) := s_find1 rfl (by omega) y1 y3 (by omega) (by omega) hi e (fun m hm e' => absurd (e'.trans e.symm) (dis m i hm hi))
      rw [this] at f1
      exact absurd (Value.int.inj (Option.some.inj (congrArg Prod.fst (Option.some.inj f1)))) (ne_m1 (by omega))
    exact ⟨T, U, S, fun I' a ea => by subst ea; exact s_removeN rfl (by omega) j0 (s_find0 rfl (by omega) y1 y3 (by omega) (by omega) no), fun a ea => by subst ea; exact t_removeN f2, hR, fun _ _ => rfl, fun _ _ _ => rfl, fun _ _ _ _ => rfl⟩
  · obtain ⟨f, g, q1, q2, q3⟩ := t_removeY rfl (by omega) y5 (by omega) k1 f2
    refine ⟨_, _, _, fun I' a ea => by subst ea; exact s_removeY rfl (by omega) j0 y1 y3 y2 (by omega) (by omega) y6 k1 (s_find1 rfl (by omega) y1 y3 (by omega) (by omega) k1 k2 (fun m hm e' => absurd (e'.trans k2.symm) (dis m k hm k1))), fun a ea => by subst ea; exact q1, ?_, fun k hk => uT_ne _ _ hk, fun k h3 h4 => by rw [uU_ne _ _ h4, uU_ne _ _ h3], fun k h4 h5 h6 => by rw [uT_ne _ _ h6, uT_ne _ _ h5, uT_ne _ _ h4]⟩
    refine R_dict (q := fun x => if x = j then q j - 1 else q x) hR hp5 hp (DX_rem hX hj j0 k1 (fun _ => rfl) rfl rfl (fun x hx => ?_) rfl rfl rfl (fun x hx => ?_) q2 q3) (fun k hk => uT_ne _ _ hk) (fun k h3 h4 => by rw [uU_ne _ _ h4, uU_ne _ _ h3]) (fun k h4 h5 h6 => by rw [uT_ne _ _ h6, uT_ne _ _ h5, uT_ne _ _ h4])
    · show upd (T 5) j (nI (q j - 1)) x = _
      by_cases e : x = j
      · subst e
        rw [upd_at, if_pos rfl]
      · rw [upd_ne e, if_neg e, (hX.1 x hx).2.2.1]
    · show upd (S 4) j (nI (q j - 1)) x = _
      by_cases e : x = j
      · subst e
        rw [upd_at, if_pos rfl]
      · rw [upd_ne e, if_neg e, (hX.1 x hx).2.2.2.2.1]
theorem R_cnt {N : Nat → Nat} {I : Nat → Int32} {T : Nat → Nat → Int32} {U : Nat → Nat → Int64} {J : Nat → Int32} {S : Nat → Nat → Int32} {n' : Nat} (h : R N I T U J S) (hn : n' ≤ N 0) : R (uN N 0 n') (uI I 8 (nI n')) T U (uI J 4 (nI n')) S := ⟨RO_drop h.1 hn rfl rfl, h.2.1, h.2.2.1, h.2.2.2.1, h.2.2.2.2.1, h.2.2.2.2.2.1, h.2.2.2.2.2.2⟩
theorem OJ_dct3 {op : Nat} {F : rx_F} {o : Nat} {N N1 : Nat → Nat} {I I1 : Nat → Int32} {L L1 : Nat → Int64} {T T1 : Nat → Nat → Int32} {U U1 : Nat → Nat → Int64} {J J1 : Nat → Int32} {S S1 : Nat → Nat → Int32} {K : Nat → Int64} {g : Nat → V} (hR1 : R N1 I1 T1 U1 J1 S1) (hkc : KC I I1 L L1 T T1 U U1) (hkr : KR J J1 S S1) (hnm : NM N N1) {n' : Nat} {T2 : Nat → Nat → Int32} {U2 : Nat → Nat → Int64} {S2 : Nat → Nat → Int32} (h0 : chk op (N 0) g = 0) (h1 : F (wc I L T U) [.ref o, .int (nI op)] = some (some (.int 0), wc (uI I1 8 (nI n')) L1 T2 U2)) (h3 : f_X12_operate (wr J S K) [.ref 0, .int (nI op)] = some (some (.int 0), wr (uI J1 4 (nI n')) S2 K)) (hR2 : R (uN N1 0 n') (uI I1 8 (nI n')) T2 U2 (uI J1 4 (nI n')) S2) (ht : ∀ k, k ≠ 5 → T2 k = T1 k) (hu : ∀ k, k ≠ 3 → k ≠ 4 → U2 k = U1 k) (hs : ∀ k, k ≠ 4 → k ≠ 5 → k ≠ 6 → S2 k = S1 k) :
  ∃ (e : Nat) (N' : Nat → Nat) (I' : Nat → Int32) (L' : Nat → Int64) (T' : Nat → Nat → Int32) (U' : Nat → Nat → Int64) (J' : Nat → Int32) (S' : Nat → Nat → Int32),
    (chk op (N 0) g = 0 → F (wc I L T U) [.ref o, .int (nI op)] = some (some (.int (nI e)), wc I' L' T' U')) ∧
    (chk op (N 0) g ≠ 0 → e = chk op (N 0) g ∧ I' = I ∧ L' = L ∧ T' = T ∧ U' = U) ∧
    f_X12_operate (wr J S K) [.ref 0, .int (nI op)] = some (some (.int (nI e)), wr J' S' K) ∧
    e ≤ 13 ∧ R N' I' T' U' J' S' ∧ FC I L T U I' L' T' U' ∧ FQ J S J' S' ∧ NM N N' := by
  have a := KC_F hkc
  have b := KR_F hkr
  refine ⟨0, uN N1 0 n', uI I1 8 (nI n'), L1, T2, U2, uI J1 4 (nI n'), S2, fun _ => h1, fun h => absurd h0 h, h3, by decide, hR2, ⟨fun i q1 q2 => ?_, a.2.1, a.2.2.1, (ht 7 (by decide)).trans a.2.2.2.1, (ht 10 (by decide)).trans a.2.2.2.2.1, fun i q1 q2 => (hu i (by omega) (by omega)).trans (a.2.2.2.2.2 i q1 q2)⟩, ⟨fun i q1 => ?_, fun i q1 q2 => ?_, (hs 0 (by decide) (by decide) (by decide)).trans b.2.2.1, (hs 12 (by decide) (by decide) (by decide)).trans b.2.2.2.1, (hs 13 (by decide) (by decide) (by decide)).trans b.2.2.2.2.1, (hs 16 (by decide) (by decide) (by decide)).trans b.2.2.2.2.2⟩, hnm⟩
  · rw [uI_ne _ _ (by omega)]
    exact a.1 i q1 q2
  · rw [uI_ne _ _ (by omega)]
    exact b.1 i q1
  · rw [uI_ne _ _ (by omega)]
    exact b.2.1 i q1 q2
theorem j_47 : OJ 47 f_X1_perform 37 := by
  intro N I L T U J S K g hR hg
  obtain ⟨hn, e8, e4, hO⟩ := hR.1
  by_cases hu : N 0 < 2
  · have hc : chk 47 (N 0) g = 3 := chk_u (c := 2) (by decide +kernel) hu
    exact OJ_same hR 3 (by decide) (fun h => absurd (h.symm.trans hc) (by decide)) (fun _ => hc.symm) (d_withKey rfl (by decide) (by decide) (g_47u e4 hn (by omega)))
  obtain ⟨u0, r0, o0⟩ := hg (N 0 - 1) (by omega)
  have v0 := ok_w0 o0
  obtain ⟨u1, r1, o1⟩ := hg (N 0 - 2) (by omega)
  have v1 := ok_w0 o1
  have hc : chk 47 (N 0) g = if tk 1 (g (N 0 - 1)) = true ∧ tk 8 (g (N 0 - 2)) = true then 0 else 4 := chk_2 (by decide +kernel) (by decide +kernel) (by decide +kernel) (by omega)
  by_cases hk : ((g (N 0 - 2)).1 = 1 ∨ (g (N 0 - 2)).1 = 2 ∨ (g (N 0 - 2)).1 = 4 ∨ (g (N 0 - 2)).1 = 6)
  · rw [if_pos ⟨tk_1 v0, (tk_8 v1).mpr hk⟩] at hc
    obtain ⟨e, N1, I1, L1, T1, U1, J1, S1, c1, c2, c3, hR1, hkc, hkr, hnm, hN, hkey⟩ := jk (L := L) (K := K) hR o1 r1 (by omega) hk
    have f8 : I1 8 = nI (N 0) := (hkc.1 8 (by decide)).trans e8
    have f4 : J1 4 = nI (N 0) := (hkr.1 4 (by decide) (by decide) (by decide)).trans e4
    have N50 : N1 5 = N 5 := hN 5 (by decide)
    have N00 : N1 0 = N 0 := hN 0 (by decide)
    have w0 : U1 5 (N 0 - 1) = eV (g (N 0 - 1)) := by rw [hkc.2.2.2.2 5 (by decide)]; exact u0
    have q0 : r5 (S1 1) (N 0 - 1) (g (N 0 - 1)) := by rw [hkr.2 1 (by decide) (by decide)]; exact r0
    have o0' : ok N1 (g (N 0 - 1)) := ok_mono hnm.1 hnm.2.1 hnm.2.2.1 hnm.2.2.2 o0
    rcases c3 with e0 | e0
    · subst e0
      obtain ⟨key, kk, kL, k22, k23⟩ := hkey rfl
      obtain ⟨s1, s2, s3, s4, s5⟩ := hR1.2.2.2.2.2.2
      obtain ⟨j, j1, j2, j3⟩ := s5 (N1 6 - 1) (by omega)
      obtain ⟨hd, hd2, h6, h5, p, s, r, q, hp5, hp, hX⟩ := R_DX hR1
      have jlx := jl (L := L1) (K := K) hd (by omega) hX hR1.2.2.2.2.2.2 kk k22 k23
      have hf : ∃ x, f_X12_find (wr J1 S1 K) [.ref 0, .int (J1 22), .int (J1 23)] = some (some (.int x), wr J1 S1 K) := by
        rcases jlx with ⟨_, _, f⟩ | ⟨_, _, _, _, _, _, _, f⟩
        · exact ⟨_, f⟩
        · exact ⟨_, f⟩
      obtain ⟨x, hf⟩ := hf
      rcases jp (L := L1) (K := K) hR1 kk k22 k23 (j := j) (by omega) o0' q0 (by omega) with ⟨pa, pb⟩ | ⟨T2, U2, S2, pa, pb, pc, hR2, ht, hu, hs⟩
      · rw [← kL] at pa
        exact OJ_err2 hR1 hkc hkr hnm 9 (by decide) hc (k_47 (k_47f e8 hn u0 v0 u1 v1 (by omega) c1 f8 w0 s3 s1 s2 (pa _ j2))) (d_withKey rfl (by decide) (by decide) (g_47 e4 hn r0 v0 r1 v1 (by omega) hk (c2 _ rfl) (t_di47f f4 hn (by omega) s4 s1 s2 hf (pb _ j3))))
      · rw [← kL] at pa
        exact OJ_dct2 hR1 hkc hkr hnm (n' := N 0 - 2) hc (by omega) (k_47 (k_47y e8 hn u0 v0 u1 v1 (by omega) c1 f8 w0 s3 s1 s2 (pa _ j2))) (d_withKey rfl (by decide) (by decide) (g_47 e4 hn r0 v0 r1 v1 (by omega) hk (c2 _ rfl) (t_di47y f4 hn (by omega) s4 s1 s2 hf (pb _ j3) (pc _ _ j3 rfl)))) hR2 ht hu hs
    · subst e0
      exact OJ_err2 hR1 hkc hkr hnm 2 (by decide) hc (k_47 (k_47e e8 hn u1 v1 (by omega) c1 (by decide) (by decide))) (d_withKey rfl (by decide) (by decide) (g_47e e4 hn r0 v0 r1 v1 (by omega) hk (c2 _ rfl)))
  · rw [if_neg (fun h => hk ((tk_8 v1).mp h.2))] at hc
    exact OJ_same hR 4 (by decide) (fun h => absurd (h.symm.trans hc) (by decide)) (fun _ => hc.symm) (d_withKey rfl (by decide) (by decide) (g_47t e4 hn r0 v0 r1 v1 (by omega) hk))

theorem j_49 : OJ 49 f_X1_perform 37 := by
  intro N I L T U J S K g hR hg
  obtain ⟨hn, e8, e4, hO⟩ := hR.1
  by_cases hu : N 0 < 2
  · have hc : chk 49 (N 0) g = 3 := chk_u (c := 2) (by decide +kernel) hu
    exact OJ_same hR 3 (by decide) (fun h => absurd (h.symm.trans hc) (by decide)) (fun _ => hc.symm) (d_withKey rfl (by decide) (by decide) (g_49u e4 hn (by omega)))
  obtain ⟨u0, r0, o0⟩ := hg (N 0 - 1) (by omega)
  have v0 := ok_w0 o0
  obtain ⟨u1, r1, o1⟩ := hg (N 0 - 2) (by omega)
  have v1 := ok_w0 o1
  have hc : chk 49 (N 0) g = if tk 1 (g (N 0 - 1)) = true ∧ tk 8 (g (N 0 - 2)) = true then 0 else 4 := chk_2 (by decide +kernel) (by decide +kernel) (by decide +kernel) (by omega)
  by_cases hk : ((g (N 0 - 2)).1 = 1 ∨ (g (N 0 - 2)).1 = 2 ∨ (g (N 0 - 2)).1 = 4 ∨ (g (N 0 - 2)).1 = 6)
  · rw [if_pos ⟨tk_1 v0, (tk_8 v1).mpr hk⟩] at hc
    obtain ⟨e, N1, I1, L1, T1, U1, J1, S1, c1, c2, c3, hR1, hkc, hkr, hnm, hN, hkey⟩ := jk (L := L) (K := K) hR o1 r1 (by omega) hk
    have f8 : I1 8 = nI (N 0) := (hkc.1 8 (by decide)).trans e8
    have f4 : J1 4 = nI (N 0) := (hkr.1 4 (by decide) (by decide) (by decide)).trans e4
    have N50 : N1 5 = N 5 := hN 5 (by decide)
    have N00 : N1 0 = N 0 := hN 0 (by decide)
    have w0 : U1 5 (N 0 - 1) = eV (g (N 0 - 1)) := by rw [hkc.2.2.2.2 5 (by decide)]; exact u0
    have q0 : r5 (S1 1) (N 0 - 1) (g (N 0 - 1)) := by rw [hkr.2 1 (by decide) (by decide)]; exact r0
    have o0' : ok N1 (g (N 0 - 1)) := ok_mono hnm.1 hnm.2.1 hnm.2.2.1 hnm.2.2.2 o0
    rcases c3 with e0 | e0
    · subst e0
      obtain ⟨key, kk, kL, k22, k23⟩ := hkey rfl
      obtain ⟨hd, hd2, h6, h5, p, s, r, q, hp5, hp, hX⟩ := R_DX hR1
      have jlx := jl (L := L1) (K := K) hd (by omega) hX hR1.2.2.2.2.2.2 kk k22 k23
      rcases jlx with ⟨fa, fb, fc⟩ | ⟨j, k, j1, k1, k2, fa, fb, fc⟩
      · rw [← kL] at fa
        obtain ⟨s1, s2, s3, s4, s5⟩ := hR1.2.2.2.2.2.2
        obtain ⟨j, j1, j2, j3⟩ := s5 (N1 6 - 1) (by omega)
        rcases jp (L := L1) (K := K) hR1 kk k22 k23 (j := j) (by omega) o0' q0 (by omega) with ⟨pa, pb⟩ | ⟨T2, U2, S2, pa, pb, pc, hR2, ht, hu, hs⟩
        · rw [← kL] at pa
          exact OJ_err2 hR1 hkc hkr hnm 9 (by decide) hc (k_49 (k_49af e8 hn u0 v0 u1 v1 (by omega) c1 f8 w0 s3 s1 s2 fa (pa _ j2))) (d_withKey rfl (by decide) (by decide) (g_49 e4 hn r0 v0 r1 v1 (by omega) hk (c2 _ rfl) (t_di49af f4 hn (by omega) s4 s1 s2 fc (pb _ j3))))
        · rw [← kL] at pa
          exact OJ_dct2 hR1 hkc hkr hnm (n' := N 0 - 2) hc (by omega) (k_49 (k_49ay e8 hn u0 v0 u1 v1 (by omega) c1 f8 w0 s3 s1 s2 fa (pa _ j2))) (d_withKey rfl (by decide) (by decide) (g_49 e4 hn r0 v0 r1 v1 (by omega) hk (c2 _ rfl) (t_di49ay f4 hn (by omega) s4 s1 s2 fc (pb _ j3) (pc _ _ j3 rfl)))) hR2 ht hu hs
      · rw [← kL] at fa
        obtain ⟨s1, s2, s3, s4, s5⟩ := hR1.2.2.2.2.2.2
        have z80 := DX_q80 hX j1
        rcases jp (L := L1) (K := K) hR1 kk k22 k23 (j := j) (by omega) o0' q0 (by omega) with ⟨pa, pb⟩ | ⟨T2, U2, S2, pa, pb, pc, hR2, ht, hu, hs⟩
        · rw [← kL] at pa
          exact OJ_err2 hR1 hkc hkr hnm 9 (by decide) hc (k_49 (k_49bf e8 hn u0 v0 u1 v1 (by omega) c1 f8 w0 s3 s1 s2 (by omega) fa (pa _ rfl))) (d_withKey rfl (by decide) (by decide) (g_49 e4 hn r0 v0 r1 v1 (by omega) hk (c2 _ rfl) (t_di49bf f4 hn (by omega) s4 s1 s2 (by omega) (by omega) fc (pb _ rfl))))
        · rw [← kL] at pa
          exact OJ_dct2 hR1 hkc hkr hnm (n' := N 0 - 2) hc (by omega) (k_49 (k_49by e8 hn u0 v0 u1 v1 (by omega) c1 f8 w0 s3 s1 s2 (by omega) fa (pa _ rfl))) (d_withKey rfl (by decide) (by decide) (g_49 e4 hn r0 v0 r1 v1 (by omega) hk (c2 _ rfl) (t_di49by f4 hn (by omega) s4 s1 s2 (by omega) (by omega) fc (pb _ rfl) (pc _ _ rfl rfl)))) hR2 ht hu hs
    · subst e0
      exact OJ_err2 hR1 hkc hkr hnm 2 (by decide) hc (k_49 (k_49e e8 hn u1 v1 (by omega) c1 (by decide) (by decide))) (d_withKey rfl (by decide) (by decide) (g_49e e4 hn r0 v0 r1 v1 (by omega) hk (c2 _ rfl)))
  · rw [if_neg (fun h => hk ((tk_8 v1).mp h.2))] at hc
    exact OJ_same hR 4 (by decide) (fun h => absurd (h.symm.trans hc) (by decide)) (fun _ => hc.symm) (d_withKey rfl (by decide) (by decide) (g_49t e4 hn r0 v0 r1 v1 (by omega) hk))

theorem j_50 : OJ 50 f_X1_perform 37 := by
  intro N I L T U J S K g hR hg
  obtain ⟨hn, e8, e4, hO⟩ := hR.1
  by_cases hu : N 0 < 2
  · have hc : chk 50 (N 0) g = 3 := chk_u (c := 2) (by decide +kernel) hu
    exact OJ_same hR 3 (by decide) (fun h => absurd (h.symm.trans hc) (by decide)) (fun _ => hc.symm) (d_withKey rfl (by decide) (by decide) (g_50u e4 hn (by omega)))
  obtain ⟨u0, r0, o0⟩ := hg (N 0 - 1) (by omega)
  have v0 := ok_w0 o0
  obtain ⟨u1, r1, o1⟩ := hg (N 0 - 2) (by omega)
  have v1 := ok_w0 o1
  have hc : chk 50 (N 0) g = if tk 8 (g (N 0 - 1)) = true ∧ tk 7 (g (N 0 - 2)) = true then 0 else 4 := chk_2 (by decide +kernel) (by decide +kernel) (by decide +kernel) (by omega)
  by_cases hk : ((g (N 0 - 1)).1 = 1 ∨ (g (N 0 - 1)).1 = 2 ∨ (g (N 0 - 1)).1 = 4 ∨ (g (N 0 - 1)).1 = 6)
  · by_cases kd : (g (N 0 - 2)).1 = 7
    · rw [if_pos ⟨(tk_8 v0).mpr hk, (tk_7 v1).mpr kd⟩] at hc
      obtain ⟨e, N1, I1, L1, T1, U1, J1, S1, c1, c2, c3, hR1, hkc, hkr, hnm, hN, hkey⟩ := jk (L := L) (K := K) hR o0 r0 (by omega) hk
      have f8 : I1 8 = nI (N 0) := (hkc.1 8 (by decide)).trans e8
      have f4 : J1 4 = nI (N 0) := (hkr.1 4 (by decide) (by decide) (by decide)).trans e4
      have N50 : N1 5 = N 5 := hN 5 (by decide)
      have N00 : N1 0 = N 0 := hN 0 (by decide)
      have w1 : U1 5 (N 0 - 2) = eV (g (N 0 - 2)) := by rw [hkc.2.2.2.2 5 (by decide)]; exact u1
      have q1 : r5 (S1 1) (N 0 - 2) (g (N 0 - 2)) := by rw [hkr.2 1 (by decide) (by decide)]; exact r1
      have o1' : ok N1 (g (N 0 - 2)) := ok_mono hnm.1 hnm.2.1 hnm.2.2.1 hnm.2.2.2 o1
      rcases c3 with e0 | e0
      · subst e0
        obtain ⟨key, kk, kL, k22, k23⟩ := hkey rfl
        obtain ⟨j, j1, j2, je⟩ := ok_7 o1 kd
        have hj : (g (N 0 - 2)).2.2.2 = nI j := by rw [je]
        obtain ⟨hd, hd2, h6, h5, p, s, r, q, hp5, hp, hX⟩ := R_DX hR1
        rcases jf (I := I1) (L := L1) (J := uI J1 4 (nI (N 0 - 2))) (K := K) hd (by omega) hX (j := j) (by omega) kk (a := (g (N 0 - 2)).2.2.2) hj (z := (g (N 0 - 2)).2.2.2) hj k22 k23 with ⟨fa, fb⟩ | ⟨k, k1, k2, fa, fb⟩
        · rw [← kL] at fa
          exact OJ_ops2 hR1 hkc hkr hnm (n' := N 0 - 2 + 1) hc (k_50 (k_50n e8 hn u0 v0 u1 v1 (by omega) c1 f8 w1 fa)) (d_withKey rfl (by decide) (by decide) (g_50n e4 hn r0 v0 r1 v1 (by omega) kd hk (c2 _ rfl) f4 q1 (x := 0) (by decide) fb)) (RO_ans hR1.1 (j := N 0 - 2) (by omega) rfl (by omega) rfl rfl (ok_bool (b := 0) (by decide)) (ps_st rfl rfl rfl rfl))
        · rw [← kL] at fa
          have z80 := DX_q80 hX (show j < N1 5 by omega)
          exact OJ_ops2 hR1 hkc hkr hnm (n' := N 0 - 2 + 1) hc (k_50 (k_50y e8 hn u0 v0 u1 v1 (by omega) c1 f8 w1 (by omega) fa)) (d_withKey rfl (by decide) (by decide) (g_50y e4 hn r0 v0 r1 v1 (by omega) kd hk (c2 _ rfl) f4 q1 (x := 80 * j + k) (by omega) fb)) (RO_ans hR1.1 (j := N 0 - 2) (by omega) rfl (by omega) rfl rfl (ok_bool (b := 1) (by decide)) (ps_st rfl rfl rfl rfl))
      · subst e0
        exact OJ_err2 hR1 hkc hkr hnm 2 (by decide) hc (k_50 (k_50e e8 hn u0 v0 (by omega) c1 (by decide) (by decide))) (d_withKey rfl (by decide) (by decide) (g_50e e4 hn r0 v0 r1 v1 (by omega) kd hk (c2 _ rfl)))
    · rw [if_neg (fun h => kd ((tk_7 v1).mp h.2))] at hc
      exact OJ_same hR 4 (by decide) (fun h => absurd (h.symm.trans hc) (by decide)) (fun _ => hc.symm) (d_withKey rfl (by decide) (by decide) (g_50tb e4 hn r0 v0 r1 v1 (by omega) kd hk))
  · rw [if_neg (fun h => hk ((tk_8 v0).mp h.1))] at hc
    exact OJ_same hR 4 (by decide) (fun h => absurd (h.symm.trans hc) (by decide)) (fun _ => hc.symm) (d_withKey rfl (by decide) (by decide) (g_50ta e4 hn r0 v0 r1 v1 (by omega) hk))

theorem j_52 : OJ 52 f_X1_perform 37 := by
  intro N I L T U J S K g hR hg
  obtain ⟨hn, e8, e4, hO⟩ := hR.1
  by_cases hu : N 0 < 2
  · have hc : chk 52 (N 0) g = 3 := chk_u (c := 2) (by decide +kernel) hu
    exact OJ_same hR 3 (by decide) (fun h => absurd (h.symm.trans hc) (by decide)) (fun _ => hc.symm) (d_withKey rfl (by decide) (by decide) (g_52u e4 hn (by omega)))
  obtain ⟨u0, r0, o0⟩ := hg (N 0 - 1) (by omega)
  have v0 := ok_w0 o0
  obtain ⟨u1, r1, o1⟩ := hg (N 0 - 2) (by omega)
  have v1 := ok_w0 o1
  have hc : chk 52 (N 0) g = if tk 8 (g (N 0 - 1)) = true ∧ tk 7 (g (N 0 - 2)) = true then 0 else 4 := chk_2 (by decide +kernel) (by decide +kernel) (by decide +kernel) (by omega)
  by_cases hk : ((g (N 0 - 1)).1 = 1 ∨ (g (N 0 - 1)).1 = 2 ∨ (g (N 0 - 1)).1 = 4 ∨ (g (N 0 - 1)).1 = 6)
  · by_cases kd : (g (N 0 - 2)).1 = 7
    · rw [if_pos ⟨(tk_8 v0).mpr hk, (tk_7 v1).mpr kd⟩] at hc
      obtain ⟨e, N1, I1, L1, T1, U1, J1, S1, c1, c2, c3, hR1, hkc, hkr, hnm, hN, hkey⟩ := jk (L := L) (K := K) hR o0 r0 (by omega) hk
      have f8 : I1 8 = nI (N 0) := (hkc.1 8 (by decide)).trans e8
      have f4 : J1 4 = nI (N 0) := (hkr.1 4 (by decide) (by decide) (by decide)).trans e4
      have N50 : N1 5 = N 5 := hN 5 (by decide)
      have N00 : N1 0 = N 0 := hN 0 (by decide)
      have w1 : U1 5 (N 0 - 2) = eV (g (N 0 - 2)) := by rw [hkc.2.2.2.2 5 (by decide)]; exact u1
      have q1 : r5 (S1 1) (N 0 - 2) (g (N 0 - 2)) := by rw [hkr.2 1 (by decide) (by decide)]; exact r1
      have o1' : ok N1 (g (N 0 - 2)) := ok_mono hnm.1 hnm.2.1 hnm.2.2.1 hnm.2.2.2 o1
      rcases c3 with e0 | e0
      · subst e0
        obtain ⟨key, kk, kL, k22, k23⟩ := hkey rfl
        obtain ⟨j, j1, j2, je⟩ := ok_7 o1 kd
        have hj : (g (N 0 - 2)).2.2.2 = nI j := by rw [je]
        by_cases jz : j = 0
        · rw [jz] at hj
          exact OJ_err2 hR1 hkc hkr hnm 9 (by decide) hc (k_52 (k_52f e8 hn u0 v0 u1 v1 (by omega) c1 f8 w1 (s_remove0 hj))) (d_withKey rfl (by decide) (by decide) (g_52f e4 hn r0 v0 r1 v1 (by omega) kd hk (c2 _ rfl) f4 q1 hj))
        · obtain ⟨T2, U2, S2, pa, pb, hR2, ht, hu, hs⟩ := jr2 (L := L1) (K := K) (R_cnt (n' := N 0 - 2) hR1 (by omega)) (key := key) kk k22 k23 (j := j) (show j < N1 5 by omega) (by omega)
          rw [← kL] at pa
          exact OJ_dct3 hR1 hkc hkr hnm (n' := N 0 - 2) hc (k_52 (k_52y e8 hn u0 v0 u1 v1 (by omega) c1 f8 w1 (pa I1 _ hj))) (d_withKey rfl (by decide) (by decide) (g_52y e4 hn r0 v0 r1 v1 (by omega) kd hk (c2 _ rfl) f4 q1 (by omega) (by omega) hj (pb _ hj))) hR2 ht hu hs
      · subst e0
        exact OJ_err2 hR1 hkc hkr hnm 2 (by decide) hc (k_52 (k_52e e8 hn u0 v0 (by omega) c1 (by decide) (by decide))) (d_withKey rfl (by decide) (by decide) (g_52e e4 hn r0 v0 r1 v1 (by omega) kd hk (c2 _ rfl)))
    · rw [if_neg (fun h => kd ((tk_7 v1).mp h.2))] at hc
      exact OJ_same hR 4 (by decide) (fun h => absurd (h.symm.trans hc) (by decide)) (fun _ => hc.symm) (d_withKey rfl (by decide) (by decide) (g_52tb e4 hn r0 v0 r1 v1 (by omega) kd hk))
  · rw [if_neg (fun h => hk ((tk_8 v0).mp h.1))] at hc
    exact OJ_same hR 4 (by decide) (fun h => absurd (h.symm.trans hc) (by decide)) (fun _ => hc.symm) (d_withKey rfl (by decide) (by decide) (g_52ta e4 hn r0 v0 r1 v1 (by omega) hk))

theorem j_48 : OJ 48 f_X1_perform 37 := by
  intro N I L T U J S K g hR hg
  obtain ⟨hn, e8, e4, hO⟩ := hR.1
  by_cases hu : N 0 < 1
  · have hc : chk 48 (N 0) g = 3 := chk_u (c := 1) (by decide +kernel) hu
    exact OJ_same hR 3 (by decide) (fun h => absurd (h.symm.trans hc) (by decide)) (fun _ => hc.symm) (d_withKey rfl (by decide) (by decide) (g_48u e4 hn (by omega)))
  obtain ⟨u0, r0, o0⟩ := hg (N 0 - 1) (by omega)
  have v0 := ok_w0 o0
  have hc : chk 48 (N 0) g = if tk 8 (g (N 0 - 1)) = true then 0 else 4 := chk_1 (by decide +kernel) (by decide +kernel) (by omega)
  by_cases hk : ((g (N 0 - 1)).1 = 1 ∨ (g (N 0 - 1)).1 = 2 ∨ (g (N 0 - 1)).1 = 4 ∨ (g (N 0 - 1)).1 = 6)
  · rw [if_pos ((tk_8 v0).mpr hk)] at hc
    obtain ⟨e, N1, I1, L1, T1, U1, J1, S1, c1, c2, c3, hR1, hkc, hkr, hnm, hN, hkey⟩ := jk (L := L) (K := K) hR o0 r0 (by omega) hk
    have f8 : I1 8 = nI (N 0) := (hkc.1 8 (by decide)).trans e8
    have f4 : J1 4 = nI (N 0) := (hkr.1 4 (by decide) (by decide) (by decide)).trans e4
    have N50 : N1 5 = N 5 := hN 5 (by decide)
    have N00 : N1 0 = N 0 := hN 0 (by decide)
    rcases c3 with e0 | e0
    · subst e0
      obtain ⟨key, kk, kL, k22, k23⟩ := hkey rfl
      obtain ⟨hd, hd2, h6, h5, p, s, r, q, hp5, hp, hX⟩ := R_DX hR1
      have jlx := jl (L := L1) (K := K) hd (by omega) hX hR1.2.2.2.2.2.2 kk k22 k23
      rcases jlx with ⟨fa, fb, fc⟩ | ⟨j, k, j1, k1, k2, fa, fb, fc⟩
      · rw [← kL] at fb
        exact OJ_err2 hR1 hkc hkr hnm 5 (by decide) hc (k_48 (k_48n e8 hn u0 v0 (by omega) c1 f8 fb)) (d_withKey rfl (by decide) (by decide) (g_48n e4 hn r0 v0 (by omega) hk (c2 _ rfl) f4 fc))
      · rw [← kL] at fb
        have z80 := DX_q80 hX j1
        obtain ⟨t, ta, tb, tc⟩ := hX.2.2.2.2.1 j j1 k k1
        rw [ta] at fb
        refine OJ_ops2 hR1 hkc hkr hnm (n' := N 0 - 1 + 1) (y' := J1 4) hc (k_48 (k_48y e8 hn u0 v0 (by omega) c1 f8 (eV_no (ok_w0 tc)) fb)) (s' := cp5 (S1 6) (80 * j + k) (S1 1) (N 0 - 1)) ?_ ?_
        · rw [uI_self]
          exact d_withKey rfl (by decide) (by decide) (g_48y e4 hn r0 v0 (by omega) hk (c2 _ rfl) f4 (x := 80 * j + k) (by omega) fc)
        · exact RO_ans hR1.1 (j := N 0 - 1) (by omega) rfl (by omega) rfl (f4.trans (congrArg nI (by omega))) tc (ps_cp tb)
    · subst e0
      exact OJ_err2 hR1 hkc hkr hnm 2 (by decide) hc (k_48 (k_48e e8 hn u0 v0 (by omega) c1 (by decide) (by decide))) (d_withKey rfl (by decide) (by decide) (g_48e e4 hn r0 v0 (by omega) hk (c2 _ rfl)))
  · rw [if_neg (fun h => hk ((tk_8 v0).mp h))] at hc
    exact OJ_same hR 4 (by decide) (fun h => absurd (h.symm.trans hc) (by decide)) (fun _ => hc.symm) (d_withKey rfl (by decide) (by decide) (g_48t e4 hn r0 v0 (by omega) hk))

theorem j_51 : OJ 51 f_X1_perform 37 := by
  intro N I L T U J S K g hR hg
  obtain ⟨hn, e8, e4, hO⟩ := hR.1
  by_cases hu : N 0 < 1
  · have hc : chk 51 (N 0) g = 3 := chk_u (c := 1) (by decide +kernel) hu
    exact OJ_same hR 3 (by decide) (fun h => absurd (h.symm.trans hc) (by decide)) (fun _ => hc.symm) (d_withKey rfl (by decide) (by decide) (g_51u e4 hn (by omega)))
  obtain ⟨u0, r0, o0⟩ := hg (N 0 - 1) (by omega)
  have v0 := ok_w0 o0
  have hc : chk 51 (N 0) g = if tk 8 (g (N 0 - 1)) = true then 0 else 4 := chk_1 (by decide +kernel) (by decide +kernel) (by omega)
  by_cases hk : ((g (N 0 - 1)).1 = 1 ∨ (g (N 0 - 1)).1 = 2 ∨ (g (N 0 - 1)).1 = 4 ∨ (g (N 0 - 1)).1 = 6)
  · rw [if_pos ((tk_8 v0).mpr hk)] at hc
    obtain ⟨e, N1, I1, L1, T1, U1, J1, S1, c1, c2, c3, hR1, hkc, hkr, hnm, hN, hkey⟩ := jk (L := L) (K := K) hR o0 r0 (by omega) hk
    have f8 : I1 8 = nI (N 0) := (hkc.1 8 (by decide)).trans e8
    have f4 : J1 4 = nI (N 0) := (hkr.1 4 (by decide) (by decide) (by decide)).trans e4
    have N50 : N1 5 = N 5 := hN 5 (by decide)
    have N00 : N1 0 = N 0 := hN 0 (by decide)
    rcases c3 with e0 | e0
    · subst e0
      obtain ⟨key, kk, kL, k22, k23⟩ := hkey rfl
      obtain ⟨hd, hd2, h6, h5, p, s, r, q, hp5, hp, hX⟩ := R_DX hR1
      have jlx := jl (L := L1) (K := K) hd (by omega) hX hR1.2.2.2.2.2.2 kk k22 k23
      have em : (1125899906842624 : Int64) = eV (2, 0, 0, nI 0) := eV_false
      have em1 : (1125899906842625 : Int64) = eV (2, 0, 0, nI 1) := eV_true
      rcases jlx with ⟨fa, fb, fc⟩ | ⟨j, k, j1, k1, k2, fa, fb, fc⟩
      · rw [← kL] at fa
        exact OJ_ops2 hR1 hkc hkr hnm (n' := N 0 - 1 + 1) hc (by rw [← em]; exact k_51 (k_51n e8 hn u0 v0 (by omega) c1 f8 fa)) (d_withKey rfl (by decide) (by decide) (g_51n e4 hn r0 v0 (by omega) hk (c2 _ rfl) f4 fc)) (RO_ans hR1.1 (j := N 0 - 1) (by omega) rfl (by omega) rfl rfl (ok_bool (b := 0) (by decide)) (ps_st rfl rfl rfl rfl))
      · rw [← kL] at fa
        have z80 := DX_q80 hX j1
        by_cases hf : N 0 = 60
        · exact OJ_err2 hR1 hkc hkr hnm 13 (by decide) hc (k_51 (k_51o e8 hn u0 v0 hf c1 f8 (by omega) fa)) (d_withKey rfl (by decide) (by decide) (g_51o e4 hn r0 v0 (by omega) hk (c2 _ rfl) f4 (x := 80 * j + k) (by omega) hf fc))
        · exact OJ_ops2 hR1 hkc hkr hnm (n' := N 0 - 1 + 1 + 1) hc (by rw [← em1]; exact k_51 (k_51y e8 hn u0 v0 (by omega) (by omega) c1 f8 (by omega) fa)) (d_withKey rfl (by decide) (by decide) (g_51y e4 hn r0 v0 (by omega) hk (c2 _ rfl) f4 (by omega) (by omega) (by omega) fc)) (RO_ans (RO_ans hR1.1 (j := N 0 - 1) (n' := N 0 - 1 + 1) (x' := nI (N 0 - 1 + 1)) (y' := nI (N 0 - 1 + 1)) (by omega) rfl (by omega) rfl rfl (ok_dict j1 (by omega)) (ps_st rfl rfl rfl rfl)) (j := N 0 - 1 + 1) (Nat.le_refl _) rfl (by omega) rfl rfl (ok_bool (b := 1) (by decide)) (ps_st rfl rfl rfl rfl))
    · subst e0
      exact OJ_err2 hR1 hkc hkr hnm 2 (by decide) hc (k_51 (k_51e e8 hn u0 v0 (by omega) c1 (by decide) (by decide))) (d_withKey rfl (by decide) (by decide) (g_51e e4 hn r0 v0 (by omega) hk (c2 _ rfl)))
  · rw [if_neg (fun h => hk ((tk_8 v0).mp h))] at hc
    exact OJ_same hR 4 (by decide) (fun h => absurd (h.symm.trans hc) (by decide)) (fun _ => hc.symm) (d_withKey rfl (by decide) (by decide) (g_51t e4 hn r0 v0 (by omega) hk))

