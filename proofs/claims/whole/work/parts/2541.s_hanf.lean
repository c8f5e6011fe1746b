theorem ok_x0 {N : Nat → Nat} {t : V} (h : ok N t) (h4 : ¬ (t.1 = 4 ∧ t.2.1 = 1)) (h5 : ¬ (t.1 = 5 ∧ t.2.1 = 1)) (h8 : t.1 ≠ 8) : t.2.1 = 0 := by
  have w := ok_w0 h
  have w2 := w.2.1
  by_cases k4 : t.1 = 4
  · have : ¬ t.2.1 = 1 := fun e => h4 ⟨k4, e⟩
    omega
  · by_cases k5 : t.1 = 5
    · have : ¬ t.2.1 = 1 := fun e => h5 ⟨k5, e⟩
      omega
    · rcases h with e | ⟨v, e⟩ | ⟨b, _, e⟩ | e | ⟨x, j, _, _, _, e⟩ | ⟨x, l, p, _, _, _, e⟩ | ⟨l, p, _, _, e⟩ | ⟨j, _, _, e⟩ | ⟨j, _, e⟩
      · rw [e]
      · rw [e]
      · rw [e]
      · rw [e]
      · exact absurd (by rw [e]) k4
      · exact absurd (by rw [e]) k5
      · rw [e]
      · rw [e]
      · exact absurd (by rw [e]) h8
theorem jn_pe {N : Nat → Nat} {I : Nat → Int32} {L : Nat → Int64} {T : Nat → Nat → Int32} {U : Nat → Nat → Int64} {J : Nat → Int32} {S : Nat → Nat → Int32} {K : Nat → Int64} {n s l jn q k B : Nat} {v : V} (hS : SR N n 0 I T U J S K) (hu : RU s l I J) (h3 : L 3 = eV v) (h19 : I 19 = 0) (h20 : I 20 = nI jn) (v3 : ok N v) (kn : ¬ (v.1 = 4 ∧ v.2.1 = 1)) (k8 : v.1 ≠ 8) (v2 : r5 (S 6) q v) (hq : q < 1600) (q1 : S 16 1 = nI jn) (l2 : f_X12_find (wr J S K) [.ref 0, .int 4, .int (nI jn)] = some (some (.int (nI q)), wr J S K)) (hB : k + (320 * (l - s) + 2 * n + 2) ≤ B) :
    ∃ (N' : Nat → Nat) (I' : Nat → Int32) (L' : Nat → Int64) (T' : Nat → Nat → Int32) (U' : Nat → Nat → Int64) (J' : Nat → Int32) (S' : Nat → Nat → Int32), TS 1 (wc I L T U) (wc I' L' T' U') ∧ f_X12_follow (wr J S K) [.ref 0] = some (some (.int 0), wr J' S' K) ∧ NM N N' ∧ FO I L T J S I' L' T' J' S' ∧ HEND N' I' L' T' U' J' S' K l k B := by
  have wv := ok_w0 v3
  obtain ⟨u1, u2, u3, u4, u5, u6, u7, u8⟩ := id hu
  obtain ⟨hn, e8, e4, hO⟩ := hS.1.1
  obtain ⟨h1f, h24, e21, e14, _⟩ := SR_E hS
  have hF1 : FO I L T J S I (uL L 3 (-1)) T J S := ⟨fun _ _ _ => rfl, rfl, rfl, rfl, fun _ _ => rfl, rfl, rfl⟩
  by_cases kp : v.1 = 5 ∧ v.2.1 = 1
  · by_cases f24 : n = 24
    · obtain ⟨N2, I2, U2, J2, S2, p1, p2, p3, p4, p5⟩ := fl_e (L := uL L 3 (-1)) (k := k) (B := B) hS hu rfl 2 (nI jn) (by omega)
      have tp := s_turnP (T := T) (U := U) h3 wv k8 kn (s_poeF e8 hn e21 h24 h3 wv h19 kp.1 kp.2 f24 (by rw [h20]; exact p1))
      exact ⟨N2, I2, _, T, U2, J2, S2, TS_1 u7 tp rfl, t_folF q1 hq v2 wv l2 e14 h24 kp.1 kp.2 f24 p2, p3, FO_t hF1 p4, p5⟩
    · have tp := s_turnP (T := T) (U := U) h3 wv k8 kn (s_poeE e8 hn e21 h24 h3 wv h19 kp.1 kp.2 (by omega))
      obtain ⟨z0, z1⟩ := SR_ent hS (by omega) v3 kp.1 kp.2
      by_cases l0 : v.2.2.1 = 0
      · exact ⟨N, _, _, _, _, _, _, TS_1 u7 tp rfl, t_folE q1 hq v2 wv l2 e14 h24 kp.1 kp.2 (by omega) (t_enter0_7 rfl (by omega) v2 wv l0), NM_r N, ⟨fun x a b => uI_ne _ _ (by omega), rfl, rfl, rfl, fun _ _ => rfl, rfl, rfl⟩, .inl ⟨n, 1, s, z0 l0, ⟨u1, u2, u3, u4, u5, u6, u7, u8⟩, rfl, by omega⟩⟩
      · exact ⟨N, _, _, _, _, _, _, TS_1 u7 tp rfl, t_folE q1 hq v2 wv l2 e14 h24 kp.1 kp.2 (by omega) (t_enter1_7 rfl (by omega) v2 wv e14 (by omega) (by omega)), NM_r N, ⟨fun x a b => uI_ne _ _ (by omega), rfl, rfl, rfl, fun x a => uI_ne _ _ (by omega), rfl, rfl⟩, .inl ⟨n + 1, 0, s, z1 (by omega), ⟨u1, u2, u3, u4, u5, u6, u7, u8⟩, rfl, by omega⟩⟩
  · have vx : v.2.1 = 0 := ok_x0 v3 kn kp k8
    by_cases full : N 0 = 60
    · obtain ⟨N2, I2, U2, J2, S2, p1, p2, p3, p4, p5⟩ := fl_e (L := uL L 3 (-1)) (k := k) (B := B) hS hu rfl 13 (nI jn) (by omega)
      have tp := s_turnP (T := T) (U := U) h3 wv k8 kn (s_poe0f e8 hn e21 h24 h3 wv h19 kp full (by rw [h20]; exact p1))
      exact ⟨N2, I2, _, T, U2, J2, S2, TS_1 u7 tp rfl, t_folP q1 hq v2 wv l2 k8 vx (t_put0_7 e4 hn full p2), p3, FO_t hF1 p4, p5⟩
    · have tp := s_turnP (T := T) (U := U) h3 wv k8 kn (s_poe0p e8 hn e21 h24 h3 wv h19 kp (by omega))
      exact ⟨uN N 0 (N 0 + 1), _, _, _, _, _, _, TS_1 u7 tp rfl, t_folP q1 hq v2 wv l2 k8 vx (t_put1_7 e4 hn rfl (by omega) (by omega)), NM_0 N _, ⟨fun x a b => uI_ne _ _ (by omega), rfl, rfl, rfl, fun x a => uI_ne _ _ (by omega), rfl, rfl⟩, .inl ⟨n, 0, s, SR_put hS (by omega) v3 (ps_cp v2), ⟨u1, u2, u3, u4, u5, u6, u7, u8⟩, rfl, by omega⟩⟩
/-- an executable name -/
theorem jh_nm {N : Nat → Nat} {I : Nat → Int32} {L : Nat → Int64} {T : Nat → Nat → Int32} {U : Nat → Nat → Int64} {J : Nat → Int32} {S : Nat → Nat → Int32} {K : Nat → Int64} {n s l : Nat} {t : V} {x1 : Int32} (h : HR N n s l I L T U J S K t x1) (hk : t.1 = 4) (hx : t.2.1 = 1)
    (ih : ∀ N' n' s' I' L' T' U' J' S' K' t', 320 * (l - s') + 5 * N' 0 + wt t' < 320 * (l - s) + 5 * N 0 + wt t → HR N' n' s' l I' L' T' U' J' S' K' t' x1 → HOUT N' n' s' l I' L' T' U' J' S' K' t' x1) : HOUT N n s l I L T U J S K t x1 := by
  obtain ⟨hS, hu, ht, h3, hr, _⟩ := h
  obtain ⟨x, jn, x1', j4, j160, e⟩ := ok_4 ht hk
  have w := ok_w0 ht
  have hwt : wt t = 5 := by
    unfold wt
    rw [if_pos hk]
  obtain ⟨r1, r2, r3, r4⟩ := hr
  have ev : t.2.2.2 = nI jn := by rw [e]
  rw [ev] at r2
  rw [hk] at r1
  rw [hx] at r3
  have i0 : (0 : Int32).toNatClampNeg = 0 := by decide
  have i1 : (1 : Int32).toNatClampNeg = 1 := by decide
  have i2 : (2 : Int32).toNatClampNeg = 2 := by decide
  have q0 : S 16 0 = nI 4 := r1
  have q1 : S 16 1 = nI jn := r2
  have q2 : S 16 2 = nI 1 := r3
  obtain ⟨u1, u2, u3, u4, u5, u6, u7, u8⟩ := id hu
  obtain ⟨hn, e8, e4, hO⟩ := hS.1.1
  obtain ⟨h1f, h24, e21, e14, _⟩ := SR_E hS
  obtain ⟨dd, hd2, h6, h5, p, ss, rr, qq, hp5, hp, hX⟩ := R_DX hS.1
  have key : okk N (4, 0, 0, nI jn) := ⟨ok_name (by decide) j4 j160, .inr (.inr rfl), rfl⟩
  have hSh : ∀ v : Int64, SR N n 0 (uI (uI I 19 0) 20 (nI jn)) T U J S K := fun v => SR_j hS (fun x hx => by rw [uI_ne _ _ (by omega), uI_ne _ _ (by omega)]) (fun _ _ _ => rfl) (fun _ _ => rfl)
  have huh : RU s l (uI (uI I 19 0) 20 (nI jn)) J := ⟨u1, u2, u3, u4, u5, u6, u7, u8⟩
  have hFh : ∀ v : Int64, FO I L T J S (uI (uI I 19 0) 20 (nI jn)) (uL L 3 v) T J S := fun v => ⟨fun x a b => by rw [uI_ne _ _ (by omega), uI_ne _ _ (by omega)], rfl, rfl, rfl, fun _ _ => rfl, rfl, rfl⟩
  have fm : ∀ {r : Int32} {J1 : Nat → Int32} {S1 : Nat → Nat → Int32} {K1 : Nat → Int64} {m : Nat} {rs : Option Value × rx_H}, f_X12_follow (wr J S K) [.ref 0] = some (some (.int r), wr J1 S1 K1) → (z_X12_handle f_X12_operate f_X12_fail f_X12_follow f_X12_enter f_X12_put) 4 [.ref 0, .int x1, .int r, .null, .null] [] (wr J1 S1 K1) m = some rs → (z_X12_handle f_X12_operate f_X12_fail f_X12_follow f_X12_enter f_X12_put) 4 [.ref 0, .int x1, .int 1, .null, .null] [] (wr J S K) (m + 2) = some rs := by
    intro r J1 S1 K1 m rs hf hz
    refine (q_X12_handle_4_3 f_X12_operate f_X12_fail f_X12_follow f_X12_enter f_X12_put _ _ _ _ _ _ _ _ _ (by first | with_reducible assumption | (simp (disch := omega) only [i0, i1, i2, q0, q1, q2, i_lit, i_m1, pk_sub, nI_add, nI_ml, nI_ltI, nI_leI, nI_eq, nI_clamp, nI_l, lN_i, lg_nI, lg_geI, lg_leI, lg_gtI, lg_ltI, c16_160, c16_200, c16_255, c16_300, c16_600, c16_616, c16_1000, Nat.add_eq, vp_updL_at, upd_at, Nat.add_sub_cancel, Nat.add_zero, Nat.zero_add, Nat.sub_zero, uU_uU, uT_uT, uI_uI, uL_uL, uU_at, uT_at, uI_at, uL_at, uU_ne, uT_ne, uI_ne, uL_ne, uU_sw, uT_sw, uI_sw, uL_sw] <;> first | with_reducible assumption | omega) | omega | decide) (by first | with_reducible assumption | (simp (disch := omega) only [i0, i1, i2, q0, q1, q2, i_lit, i_m1, pk_sub, nI_add, nI_ml, nI_ltI, nI_leI, nI_eq, nI_clamp, nI_l, lN_i, lg_nI, lg_geI, lg_leI, lg_gtI, lg_ltI, c16_160, c16_200, c16_255, c16_300, c16_600, c16_616, c16_1000, Nat.add_eq, vp_updL_at, upd_at, Nat.add_sub_cancel, Nat.add_zero, Nat.zero_add, Nat.sub_zero, uU_uU, uT_uT, uI_uI, uL_uL, uU_at, uT_at, uI_at, uL_at, uU_ne, uT_ne, uI_ne, uL_ne, uU_sw, uT_sw, uI_sw, uL_sw] <;> first | with_reducible assumption | omega) | omega | decide) (by first | with_reducible assumption | (simp (disch := omega) only [i0, i1, i2, q0, q1, q2, i_lit, i_m1, pk_sub, nI_add, nI_ml, nI_ltI, nI_leI, nI_eq, nI_clamp, nI_l, lN_i, lg_nI, lg_geI, lg_leI, lg_gtI, lg_ltI, c16_160, c16_200, c16_255, c16_300, c16_600, c16_616, c16_1000, Nat.add_eq, vp_updL_at, upd_at, Nat.add_sub_cancel, Nat.add_zero, Nat.zero_add, Nat.sub_zero, uU_uU, uT_uT, uI_uI, uL_uL, uU_at, uT_at, uI_at, uL_at, uU_ne, uT_ne, uI_ne, uL_ne, uU_sw, uT_sw, uI_sw, uL_sw] <;> first | with_reducible assumption | omega) | omega | decide) (by first | with_reducible assumption | (simp (disch := omega) only [i0, i1, i2, q0, q1, q2, i_lit, i_m1, pk_sub, nI_add, nI_ml, nI_ltI, nI_leI, nI_eq, nI_clamp, nI_l, lN_i, lg_nI, lg_geI, lg_leI, lg_gtI, lg_ltI, c16_160, c16_200, c16_255, c16_300, c16_600, c16_616, c16_1000, Nat.add_eq, vp_updL_at, upd_at, Nat.add_sub_cancel, Nat.add_zero, Nat.zero_add, Nat.sub_zero, uU_uU, uT_uT, uI_uI, uL_uL, uU_at, uT_at, uI_at, uL_at, uU_ne, uT_ne, uI_ne, uL_ne, uU_sw, uT_sw, uI_sw, uL_sw] <;> first | with_reducible assumption | omega) | omega | decide) (hf) ?_)
    exact hz
  have fz : ∀ {J1 : Nat → Int32} {S1 : Nat → Nat → Int32} {K1 : Nat → Int64}, f_X12_follow (wr J S K) [.ref 0] = some (some (.int 0), wr J1 S1 K1) → (z_X12_handle f_X12_operate f_X12_fail f_X12_follow f_X12_enter f_X12_put) 4 [.ref 0, .int x1, .int 1, .null, .null] [] (wr J S K) (0 + 2 + 2) = some (none, wr J1 S1 K1) := fun hf => fm hf (q_X12_handle_4_10 f_X12_operate f_X12_fail f_X12_follow f_X12_enter f_X12_put _ _ _ _ _ (by first | with_reducible assumption | (simp (disch := omega) only [i_lit, i_m1, pk_sub, nI_add, nI_ml, nI_ltI, nI_leI, nI_eq, nI_clamp, nI_l, lN_i, lg_nI, lg_geI, lg_leI, lg_gtI, lg_ltI, c16_160, c16_200, c16_255, c16_300, c16_600, c16_616, c16_1000, Nat.add_eq, vp_updL_at, upd_at, Nat.add_sub_cancel, Nat.add_zero, Nat.zero_add, Nat.sub_zero, uU_uU, uT_uT, uI_uI, uL_uL, uU_at, uT_at, uI_at, uL_at, uU_ne, uT_ne, uI_ne, uL_ne, uU_sw, uT_sw, uI_sw, uL_sw] <;> first | with_reducible assumption | omega) | omega | decide))
  rcases jl (I := I) (L := L) (K := K) dd (by omega) hX hS.1.2.2.2.2.2.2 key (b := 4) (c := nI jn) rfl rfl with ⟨_, l1, l2⟩ | ⟨j, k, k1, k2, k3, _, l1, l2⟩
  · obtain ⟨N2, I2, U2, J2, S2, p1, p2, p3, p4, p5⟩ := fl_e (L := uL L 3 (-1)) (k := 1) (B := 320 * (l - s) + 5 * N 0 + wt t + 2 * n) (hSh 0) huh rfl 5 (nI jn) (by omega)
    have tn : f_X3_takeTurn (wc I L T U) [.ref 24] = some (none, wc I2 (uL L 3 (-1)) T U2) := s_turnN h3 w hk hx (by rw [ev]; exact s_folU l1 p1)
    exact ⟨1, N2, I2, _, T, U2, J2, S2, K, TS_1 u7 tn rfl, ⟨_, by omega, fz (t_folU q1 l2 p2)⟩, p3, FO_t (hFh (-1)) p4, p5⟩
  · obtain ⟨v, v1, v2, v3⟩ := hX.2.2.2.2.1 j k1 k k2
    have hq := DX_q80 hX k1
    rw [v1] at l1
    have wv := ok_w0 v3
    have hwv := wt_le v
    have hp16 : 80 * j + k < 1600 := by omega
    by_cases kn : v.1 = 4 ∧ v.2.1 = 1
    · by_cases sl : s = l
      · have cs := s_countStep0 (I := uI (uI I 19 0) 20 (nI jn)) (L := uL L 3 (eV v)) (T := T) (U := U) (a := s) (b := l) u1 u3 u6 sl
        have tn := s_turnN h3 w hk hx (by rw [ev]; exact s_folN wv kn.1 kn.2 l1 cs)
        exact ⟨1, N, _, _, _, _, _, _, _, TS_1 u7 tn rfl, ⟨_, by omega, fz (t_folS0 q1 hp16 v2 wv l2 u2 u4 u5 u6 kn.1 kn.2 sl)⟩, NM_r N, FO_t (hFh (eV v)) ⟨fun x a b => uI_ne _ _ (by omega), rfl, rfl, rfl, fun x a => uI_ne _ _ (by omega), rfl, rfl⟩, .inr ⟨R_fr (hSh 0).1 (fun x hx => uI_ne _ _ (by omega)) (fun _ _ => rfl) (fun _ _ => rfl) (fun x a b => uI_ne _ _ (by omega)) (fun _ _ _ => rfl), (hSh 0).2.2.2.2, rfl, (show (1 : Int32) ≠ Int32.ofInt (-1) by decide), ⟨s, u1, u2⟩, by omega⟩⟩
      · have cs := s_countStep1 (I := uI (uI I 19 0) 20 (nI jn)) (L := uL L 3 (eV v)) (T := T) (U := U) (a := s) (b := l) u1 u3 u6 (by omega)
        have tn := s_turnN h3 w hk hx (by rw [ev]; exact s_folN wv kn.1 kn.2 l1 cs)
        have fl := t_folS1 (K := K) q1 hp16 v2 wv l2 u2 u4 u5 u6 kn.1 kn.2 (by omega)
        obtain ⟨kk, N2, I2, L2, T2, U2, J2, S2, K2, p1, ⟨m, p2, p3⟩, p4, p5, p6⟩ := ih N n (s + 1) (uI (uI (uI I 19 0) 20 (nI jn)) 14 (nI (s + 1))) (uL L 3 (eV v)) T U (uI J 15 (nI (s + 1))) (uT S 16 (cp5 (S 6) (80 * j + k) (S 16) 0)) K v (by omega) ⟨SR_j (hSh 0) (fun x hx => uI_ne _ _ (by omega)) (fun x a b => uI_ne _ _ (by omega)) (fun k hk => uT_ne _ _ (by omega)), ⟨rfl, rfl, u3, u4, by omega, u6, u7, u8⟩, v3, show uL L 3 (eV v) 3 = eV v from rfl, r5_cp v2, .inr (.inl kn)⟩
        have hF2 : FO I L T J S (uI (uI (uI I 19 0) 20 (nI jn)) 14 (nI (s + 1))) (uL L 3 (eV v)) T (uI J 15 (nI (s + 1))) (uT S 16 (cp5 (S 6) (80 * j + k) (S 16) 0)) := FO_t (hFh (eV v)) ⟨fun x a b => uI_ne _ _ (by omega), rfl, rfl, rfl, fun x a => uI_ne _ _ (by omega), rfl, rfl⟩
        exact ⟨kk + 1, N2, I2, L2, T2, U2, J2, S2, K2, TS_1 u7 tn p1, ⟨m + 2, by omega, fm fl p3⟩, p4, FO_t hF2 p5, HE_m p6 (d := 1) rfl (by omega)⟩
    · have tn := s_turnN h3 w hk hx (by rw [ev]; exact s_folO wv kn l1)
      by_cases k8 : v.1 = 8
      · obtain ⟨vo, vo1, ve⟩ := ok_8 v3 k8
        have vx : v.2.1 = 1 := by rw [ve]
        have hwv3 : wt v = 3 := by
          unfold wt
          rw [if_neg (by omega)]
        have fl := t_folO (K := K) q1 hp16 v2 wv l2 k8 vx
        obtain ⟨kk, N2, I2, L2, T2, U2, J2, S2, K2, p1, ⟨m, p2, p3⟩, p4, p5, p6⟩ := ih N n s (uI (uI I 19 0) 20 (nI jn)) (uL L 3 (eV v)) T U J (uT S 16 (cp5 (S 6) (80 * j + k) (S 16) 0)) K v (by omega) ⟨SR_j (hSh 0) (fun x hx => rfl) (fun x a b => rfl) (fun k hk => uT_ne _ _ (by omega)), huh, v3, show uL L 3 (eV v) 3 = eV v from rfl, r5_cp v2, .inl k8⟩
        have hF2 : FO I L T J S (uI (uI I 19 0) 20 (nI jn)) (uL L 3 (eV v)) T J (uT S 16 (cp5 (S 6) (80 * j + k) (S 16) 0)) := FO_t (hFh (eV v)) ⟨fun x a b => rfl, rfl, rfl, rfl, fun x a => rfl, rfl, rfl⟩
        exact ⟨kk + 1, N2, I2, L2, T2, U2, J2, S2, K2, TS_1 u7 tn p1, ⟨m + 2, by omega, fm fl p3⟩, p4, FO_t hF2 p5, HE_m p6 (d := 1) rfl (by omega)⟩
      · obtain ⟨N2, I2, L2, T2, U2, J2, S2, p1, p2, p3, p4, p5⟩ := jn_pe (I := uI (uI I 19 0) 20 (nI jn)) (L := uL L 3 (eV v)) (k := 2) (B := 320 * (l - s) + 5 * N 0 + wt t + 2 * n) (hSh 0) huh rfl rfl rfl v3 kn k8 v2 hp16 q1 l2 (by omega)
        exact ⟨1 + 1, N2, I2, L2, T2, U2, J2, S2, K, TS_1 u7 tn p1, ⟨_, by omega, fz p2⟩, p3, FO_t (hFh (eV v)) p4, p5⟩
/-- another value: it is put, or, when it was handed on, a procedure is entered -/
theorem jh_pt {N : Nat → Nat} {I : Nat → Int32} {L : Nat → Int64} {T : Nat → Nat → Int32} {U : Nat → Nat → Int64} {J : Nat → Int32} {S : Nat → Nat → Int32} {K : Nat → Int64} {n s l : Nat} {t : V} {x1 : Int32} (h : HR N n s l I L T U J S K t x1) (k8 : t.1 ≠ 8) (kn : ¬ (t.1 = 4 ∧ t.2.1 = 1)) : HOUT N n s l I L T U J S K t x1 := by
  obtain ⟨hS, hu, ht, h3, hr, hc⟩ := h
  have w := ok_w0 ht
  have q := w.1
  have q' := w.2.1
  have hwt := wt_le t
  obtain ⟨r1, r2, r3, r4⟩ := id hr
  have i0 : (0 : Int32).toNatClampNeg = 0 := by decide
  have i2 : (2 : Int32).toNatClampNeg = 2 := by decide
  have q0 : S 16 0 = nI t.1 := r1
  have q2 : S 16 2 = nI t.2.1 := r3
  obtain ⟨u1, u2, u3, u4, u5, u6, u7, u8⟩ := id hu
  obtain ⟨hn, e8, e4, hO⟩ := hS.1.1
  obtain ⟨h1f, h24, e21, e14, _⟩ := SR_E hS
  -- the reference puts
  have put : ∀ {J1 : Nat → Int32} {S1 : Nat → Nat → Int32} {K1 : Nat → Int64}, (t.1 = 5 → t.2.1 = 1 → ¬ x1 = 0) → f_X12_put (wr J S K) [.ref 0, .ref 18, .int 0, .int (Int32.ofInt (-1))] = some (none, wr J1 S1 K1) → (z_X12_handle f_X12_operate f_X12_fail f_X12_follow f_X12_enter f_X12_put) 4 [.ref 0, .int x1, .int 1, .null, .null] [] (wr J S K) (0 + 2 + 4) = some (none, wr J1 S1 K1) := by
    intro J1 S1 K1 hx hf
    by_cases k4 : t.1 = 4
    · have x0 : t.2.1 = 0 := by omega
      rw [k4] at q0
      rw [x0] at q2
      refine (q_X12_handle_4_5 f_X12_operate f_X12_fail f_X12_follow f_X12_enter f_X12_put _ _ _ _ _ _ _ _ (by first | with_reducible assumption | (simp (disch := omega) only [i0, i2, q0, q2, i_lit, i_m1, pk_sub, nI_add, nI_ml, nI_ltI, nI_leI, nI_eq, nI_clamp, nI_l, lN_i, lg_nI, lg_geI, lg_leI, lg_gtI, lg_ltI, c16_160, c16_200, c16_255, c16_300, c16_600, c16_616, c16_1000, Nat.add_eq, vp_updL_at, upd_at, Nat.add_sub_cancel, Nat.add_zero, Nat.zero_add, Nat.sub_zero, uU_uU, uT_uT, uI_uI, uL_uL, uU_at, uT_at, uI_at, uL_at, uU_ne, uT_ne, uI_ne, uL_ne, uU_sw, uT_sw, uI_sw, uL_sw] <;> first | with_reducible assumption | omega) | omega | decide) (by first | with_reducible assumption | (simp (disch := omega) only [i0, i2, q0, q2, i_lit, i_m1, pk_sub, nI_add, nI_ml, nI_ltI, nI_leI, nI_eq, nI_clamp, nI_l, lN_i, lg_nI, lg_geI, lg_leI, lg_gtI, lg_ltI, c16_160, c16_200, c16_255, c16_300, c16_600, c16_616, c16_1000, Nat.add_eq, vp_updL_at, upd_at, Nat.add_sub_cancel, Nat.add_zero, Nat.zero_add, Nat.sub_zero, uU_uU, uT_uT, uI_uI, uL_uL, uU_at, uT_at, uI_at, uL_at, uU_ne, uT_ne, uI_ne, uL_ne, uU_sw, uT_sw, uI_sw, uL_sw] <;> first | with_reducible assumption | omega) | omega | decide) (by first | with_reducible assumption | (simp (disch := omega) only [i0, i2, q0, q2, i_lit, i_m1, pk_sub, nI_add, nI_ml, nI_ltI, nI_leI, nI_eq, nI_clamp, nI_l, lN_i, lg_nI, lg_geI, lg_leI, lg_gtI, lg_ltI, c16_160, c16_200, c16_255, c16_300, c16_600, c16_616, c16_1000, Nat.add_eq, vp_updL_at, upd_at, Nat.add_sub_cancel, Nat.add_zero, Nat.zero_add, Nat.sub_zero, uU_uU, uT_uT, uI_uI, uL_uL, uU_at, uT_at, uI_at, uL_at, uU_ne, uT_ne, uI_ne, uL_ne, uU_sw, uT_sw, uI_sw, uL_sw] <;> first | with_reducible assumption | omega) | omega | decide) (by first | with_reducible assumption | (simp (disch := omega) only [i0, i2, q0, q2, i_lit, i_m1, pk_sub, nI_add, nI_ml, nI_ltI, nI_leI, nI_eq, nI_clamp, nI_l, lN_i, lg_nI, lg_geI, lg_leI, lg_gtI, lg_ltI, c16_160, c16_200, c16_255, c16_300, c16_600, c16_616, c16_1000, Nat.add_eq, vp_updL_at, upd_at, Nat.add_sub_cancel, Nat.add_zero, Nat.zero_add, Nat.sub_zero, uU_uU, uT_uT, uI_uI, uL_uL, uU_at, uT_at, uI_at, uL_at, uU_ne, uT_ne, uI_ne, uL_ne, uU_sw, uT_sw, uI_sw, uL_sw] <;> first | with_reducible assumption | omega) | omega | decide) (by first | with_reducible assumption | (simp (disch := omega) only [i0, i2, q0, q2, i_lit, i_m1, pk_sub, nI_add, nI_ml, nI_ltI, nI_leI, nI_eq, nI_clamp, nI_l, lN_i, lg_nI, lg_geI, lg_leI, lg_gtI, lg_ltI, c16_160, c16_200, c16_255, c16_300, c16_600, c16_616, c16_1000, Nat.add_eq, vp_updL_at, upd_at, Nat.add_sub_cancel, Nat.add_zero, Nat.zero_add, Nat.sub_zero, uU_uU, uT_uT, uI_uI, uL_uL, uU_at, uT_at, uI_at, uL_at, uU_ne, uT_ne, uI_ne, uL_ne, uU_sw, uT_sw, uI_sw, uL_sw] <;> first | with_reducible assumption | omega) | omega | decide) (hf) ?_)
      exact (q_X12_handle_4_10 f_X12_operate f_X12_fail f_X12_follow f_X12_enter f_X12_put _ _ _ _ _ (by first | with_reducible assumption | (simp (disch := omega) only [i_lit, i_m1, pk_sub, nI_add, nI_ml, nI_ltI, nI_leI, nI_eq, nI_clamp, nI_l, lN_i, lg_nI, lg_geI, lg_leI, lg_gtI, lg_ltI, c16_160, c16_200, c16_255, c16_300, c16_600, c16_616, c16_1000, Nat.add_eq, vp_updL_at, upd_at, Nat.add_sub_cancel, Nat.add_zero, Nat.zero_add, Nat.sub_zero, uU_uU, uT_uT, uI_uI, uL_uL, uU_at, uT_at, uI_at, uL_at, uU_ne, uT_ne, uI_ne, uL_ne, uU_sw, uT_sw, uI_sw, uL_sw] <;> first | with_reducible assumption | omega) | omega | decide))
    · by_cases k5 : t.1 = 5
      · by_cases x0 : t.2.1 = 1
        · have hx' := hx k5 x0
          rw [k5] at q0
          rw [x0] at q2
          refine (q_X12_handle_4_7 f_X12_operate f_X12_fail f_X12_follow f_X12_enter f_X12_put _ _ _ _ _ _ _ _ (by first | with_reducible assumption | (simp (disch := omega) only [i0, i2, q0, q2, i_lit, i_m1, pk_sub, nI_add, nI_ml, nI_ltI, nI_leI, nI_eq, nI_clamp, nI_l, lN_i, lg_nI, lg_geI, lg_leI, lg_gtI, lg_ltI, c16_160, c16_200, c16_255, c16_300, c16_600, c16_616, c16_1000, Nat.add_eq, vp_updL_at, upd_at, Nat.add_sub_cancel, Nat.add_zero, Nat.zero_add, Nat.sub_zero, uU_uU, uT_uT, uI_uI, uL_uL, uU_at, uT_at, uI_at, uL_at, uU_ne, uT_ne, uI_ne, uL_ne, uU_sw, uT_sw, uI_sw, uL_sw] <;> first | with_reducible assumption | omega) | omega | decide) (by first | with_reducible assumption | (simp (disch := omega) only [i0, i2, q0, q2, i_lit, i_m1, pk_sub, nI_add, nI_ml, nI_ltI, nI_leI, nI_eq, nI_clamp, nI_l, lN_i, lg_nI, lg_geI, lg_leI, lg_gtI, lg_ltI, c16_160, c16_200, c16_255, c16_300, c16_600, c16_616, c16_1000, Nat.add_eq, vp_updL_at, upd_at, Nat.add_sub_cancel, Nat.add_zero, Nat.zero_add, Nat.sub_zero, uU_uU, uT_uT, uI_uI, uL_uL, uU_at, uT_at, uI_at, uL_at, uU_ne, uT_ne, uI_ne, uL_ne, uU_sw, uT_sw, uI_sw, uL_sw] <;> first | with_reducible assumption | omega) | omega | decide) (by first | with_reducible assumption | (simp (disch := omega) only [i0, i2, q0, q2, i_lit, i_m1, pk_sub, nI_add, nI_ml, nI_ltI, nI_leI, nI_eq, nI_clamp, nI_l, lN_i, lg_nI, lg_geI, lg_leI, lg_gtI, lg_ltI, c16_160, c16_200, c16_255, c16_300, c16_600, c16_616, c16_1000, Nat.add_eq, vp_updL_at, upd_at, Nat.add_sub_cancel, Nat.add_zero, Nat.zero_add, Nat.sub_zero, uU_uU, uT_uT, uI_uI, uL_uL, uU_at, uT_at, uI_at, uL_at, uU_ne, uT_ne, uI_ne, uL_ne, uU_sw, uT_sw, uI_sw, uL_sw] <;> first | with_reducible assumption | omega) | omega | decide) (by first | with_reducible assumption | (simp (disch := omega) only [i0, i2, q0, q2, i_lit, i_m1, pk_sub, nI_add, nI_ml, nI_ltI, nI_leI, nI_eq, nI_clamp, nI_l, lN_i, lg_nI, lg_geI, lg_leI, lg_gtI, lg_ltI, c16_160, c16_200, c16_255, c16_300, c16_600, c16_616, c16_1000, Nat.add_eq, vp_updL_at, upd_at, Nat.add_sub_cancel, Nat.add_zero, Nat.zero_add, Nat.sub_zero, uU_uU, uT_uT, uI_uI, uL_uL, uU_at, uT_at, uI_at, uL_at, uU_ne, uT_ne, uI_ne, uL_ne, uU_sw, uT_sw, uI_sw, uL_sw] <;> first | with_reducible assumption | omega) | omega | decide) (by first | with_reducible assumption | (simp (disch := omega) only [i0, i2, q0, q2, i_lit, i_m1, pk_sub, nI_add, nI_ml, nI_ltI, nI_leI, nI_eq, nI_clamp, nI_l, lN_i, lg_nI, lg_geI, lg_leI, lg_gtI, lg_ltI, c16_160, c16_200, c16_255, c16_300, c16_600, c16_616, c16_1000, Nat.add_eq, vp_updL_at, upd_at, Nat.add_sub_cancel, Nat.add_zero, Nat.zero_add, Nat.sub_zero, uU_uU, uT_uT, uI_uI, uL_uL, uU_at, uT_at, uI_at, uL_at, uU_ne, uT_ne, uI_ne, uL_ne, uU_sw, uT_sw, uI_sw, uL_sw] <;> first | with_reducible assumption | omega) | omega | decide) (by first | with_reducible assumption | (simp (disch := omega) only [i0, i2, q0, q2, i_lit, i_m1, pk_sub, nI_add, nI_ml, nI_ltI, nI_leI, nI_eq, nI_clamp, nI_l, lN_i, lg_nI, lg_geI, lg_leI, lg_gtI, lg_ltI, c16_160, c16_200, c16_255, c16_300, c16_600, c16_616, c16_1000, Nat.add_eq, vp_updL_at, upd_at, Nat.add_sub_cancel, Nat.add_zero, Nat.zero_add, Nat.sub_zero, uU_uU, uT_uT, uI_uI, uL_uL, uU_at, uT_at, uI_at, uL_at, uU_ne, uT_ne, uI_ne, uL_ne, uU_sw, uT_sw, uI_sw, uL_sw] <;> first | with_reducible assumption | omega) | omega | decide) (hf) ?_)
          exact (q_X12_handle_4_10 f_X12_operate f_X12_fail f_X12_follow f_X12_enter f_X12_put _ _ _ _ _ (by first | with_reducible assumption | (simp (disch := omega) only [i_lit, i_m1, pk_sub, nI_add, nI_ml, nI_ltI, nI_leI, nI_eq, nI_clamp, nI_l, lN_i, lg_nI, lg_geI, lg_leI, lg_gtI, lg_ltI, c16_160, c16_200, c16_255, c16_300, c16_600, c16_616, c16_1000, Nat.add_eq, vp_updL_at, upd_at, Nat.add_sub_cancel, Nat.add_zero, Nat.zero_add, Nat.sub_zero, uU_uU, uT_uT, uI_uI, uL_uL, uU_at, uT_at, uI_at, uL_at, uU_ne, uT_ne, uI_ne, uL_ne, uU_sw, uT_sw, uI_sw, uL_sw] <;> first | with_reducible assumption | omega) | omega | decide))
        · rw [k5] at q0
          refine (q_X12_handle_4_8 f_X12_operate f_X12_fail f_X12_follow f_X12_enter f_X12_put _ _ _ _ _ _ _ _ (by first | with_reducible assumption | (simp (disch := omega) only [i0, i2, q0, q2, i_lit, i_m1, pk_sub, nI_add, nI_ml, nI_ltI, nI_leI, nI_eq, nI_clamp, nI_l, lN_i, lg_nI, lg_geI, lg_leI, lg_gtI, lg_ltI, c16_160, c16_200, c16_255, c16_300, c16_600, c16_616, c16_1000, Nat.add_eq, vp_updL_at, upd_at, Nat.add_sub_cancel, Nat.add_zero, Nat.zero_add, Nat.sub_zero, uU_uU, uT_uT, uI_uI, uL_uL, uU_at, uT_at, uI_at, uL_at, uU_ne, uT_ne, uI_ne, uL_ne, uU_sw, uT_sw, uI_sw, uL_sw] <;> first | with_reducible assumption | omega) | omega | decide) (by first | with_reducible assumption | (simp (disch := omega) only [i0, i2, q0, q2, i_lit, i_m1, pk_sub, nI_add, nI_ml, nI_ltI, nI_leI, nI_eq, nI_clamp, nI_l, lN_i, lg_nI, lg_geI, lg_leI, lg_gtI, lg_ltI, c16_160, c16_200, c16_255, c16_300, c16_600, c16_616, c16_1000, Nat.add_eq, vp_updL_at, upd_at, Nat.add_sub_cancel, Nat.add_zero, Nat.zero_add, Nat.sub_zero, uU_uU, uT_uT, uI_uI, uL_uL, uU_at, uT_at, uI_at, uL_at, uU_ne, uT_ne, uI_ne, uL_ne, uU_sw, uT_sw, uI_sw, uL_sw] <;> first | with_reducible assumption | omega) | omega | decide) (by first | with_reducible assumption | (simp (disch := omega) only [i0, i2, q0, q2, i_lit, i_m1, pk_sub, nI_add, nI_ml, nI_ltI, nI_leI, nI_eq, nI_clamp, nI_l, lN_i, lg_nI, lg_geI, lg_leI, lg_gtI, lg_ltI, c16_160, c16_200, c16_255, c16_300, c16_600, c16_616, c16_1000, Nat.add_eq, vp_updL_at, upd_at, Nat.add_sub_cancel, Nat.add_zero, Nat.zero_add, Nat.sub_zero, uU_uU, uT_uT, uI_uI, uL_uL, uU_at, uT_at, uI_at, uL_at, uU_ne, uT_ne, uI_ne, uL_ne, uU_sw, uT_sw, uI_sw, uL_sw] <;> first | with_reducible assumption | omega) | omega | decide) (by first | with_reducible assumption | (simp (disch := omega) only [i0, i2, q0, q2, i_lit, i_m1, pk_sub, nI_add, nI_ml, nI_ltI, nI_leI, nI_eq, nI_clamp, nI_l, lN_i, lg_nI, lg_geI, lg_leI, lg_gtI, lg_ltI, c16_160, c16_200, c16_255, c16_300, c16_600, c16_616, c16_1000, Nat.add_eq, vp_updL_at, upd_at, Nat.add_sub_cancel, Nat.add_zero, Nat.zero_add, Nat.sub_zero, uU_uU, uT_uT, uI_uI, uL_uL, uU_at, uT_at, uI_at, uL_at, uU_ne, uT_ne, uI_ne, uL_ne, uU_sw, uT_sw, uI_sw, uL_sw] <;> first | with_reducible assumption | omega) | omega | decide) (by first | with_reducible assumption | (simp (disch := omega) only [i0, i2, q0, q2, i_lit, i_m1, pk_sub, nI_add, nI_ml, nI_ltI, nI_leI, nI_eq, nI_clamp, nI_l, lN_i, lg_nI, lg_geI, lg_leI, lg_gtI, lg_ltI, c16_160, c16_200, c16_255, c16_300, c16_600, c16_616, c16_1000, Nat.add_eq, vp_updL_at, upd_at, Nat.add_sub_cancel, Nat.add_zero, Nat.zero_add, Nat.sub_zero, uU_uU, uT_uT, uI_uI, uL_uL, uU_at, uT_at, uI_at, uL_at, uU_ne, uT_ne, uI_ne, uL_ne, uU_sw, uT_sw, uI_sw, uL_sw] <;> first | with_reducible assumption | omega) | omega | decide) (hf) ?_)
          exact (q_X12_handle_4_10 f_X12_operate f_X12_fail f_X12_follow f_X12_enter f_X12_put _ _ _ _ _ (by first | with_reducible assumption | (simp (disch := omega) only [i_lit, i_m1, pk_sub, nI_add, nI_ml, nI_ltI, nI_leI, nI_eq, nI_clamp, nI_l, lN_i, lg_nI, lg_geI, lg_leI, lg_gtI, lg_ltI, c16_160, c16_200, c16_255, c16_300, c16_600, c16_616, c16_1000, Nat.add_eq, vp_updL_at, upd_at, Nat.add_sub_cancel, Nat.add_zero, Nat.zero_add, Nat.sub_zero, uU_uU, uT_uT, uI_uI, uL_uL, uU_at, uT_at, uI_at, uL_at, uU_ne, uT_ne, uI_ne, uL_ne, uU_sw, uT_sw, uI_sw, uL_sw] <;> first | with_reducible assumption | omega) | omega | decide))
      · refine (q_X12_handle_4_9 f_X12_operate f_X12_fail f_X12_follow f_X12_enter f_X12_put _ _ _ _ _ _ _ _ (by first | with_reducible assumption | (simp (disch := omega) only [i0, i2, q0, q2, i_lit, i_m1, pk_sub, nI_add, nI_ml, nI_ltI, nI_leI, nI_eq, nI_clamp, nI_l, lN_i, lg_nI, lg_geI, lg_leI, lg_gtI, lg_ltI, c16_160, c16_200, c16_255, c16_300, c16_600, c16_616, c16_1000, Nat.add_eq, vp_updL_at, upd_at, Nat.add_sub_cancel, Nat.add_zero, Nat.zero_add, Nat.sub_zero, uU_uU, uT_uT, uI_uI, uL_uL, uU_at, uT_at, uI_at, uL_at, uU_ne, uT_ne, uI_ne, uL_ne, uU_sw, uT_sw, uI_sw, uL_sw] <;> first | with_reducible assumption | omega) | omega | decide) (by first | with_reducible assumption | (simp (disch := omega) only [i0, i2, q0, q2, i_lit, i_m1, pk_sub, nI_add, nI_ml, nI_ltI, nI_leI, nI_eq, nI_clamp, nI_l, lN_i, lg_nI, lg_geI, lg_leI, lg_gtI, lg_ltI, c16_160, c16_200, c16_255, c16_300, c16_600, c16_616, c16_1000, Nat.add_eq, vp_updL_at, upd_at, Nat.add_sub_cancel, Nat.add_zero, Nat.zero_add, Nat.sub_zero, uU_uU, uT_uT, uI_uI, uL_uL, uU_at, uT_at, uI_at, uL_at, uU_ne, uT_ne, uI_ne, uL_ne, uU_sw, uT_sw, uI_sw, uL_sw] <;> first | with_reducible assumption | omega) | omega | decide) (by first | with_reducible assumption | (simp (disch := omega) only [i0, i2, q0, q2, i_lit, i_m1, pk_sub, nI_add, nI_ml, nI_ltI, nI_leI, nI_eq, nI_clamp, nI_l, lN_i, lg_nI, lg_geI, lg_leI, lg_gtI, lg_ltI, c16_160, c16_200, c16_255, c16_300, c16_600, c16_616, c16_1000, Nat.add_eq, vp_updL_at, upd_at, Nat.add_sub_cancel, Nat.add_zero, Nat.zero_add, Nat.sub_zero, uU_uU, uT_uT, uI_uI, uL_uL, uU_at, uT_at, uI_at, uL_at, uU_ne, uT_ne, uI_ne, uL_ne, uU_sw, uT_sw, uI_sw, uL_sw] <;> first | with_reducible assumption | omega) | omega | decide) (by first | with_reducible assumption | (simp (disch := omega) only [i0, i2, q0, q2, i_lit, i_m1, pk_sub, nI_add, nI_ml, nI_ltI, nI_leI, nI_eq, nI_clamp, nI_l, lN_i, lg_nI, lg_geI, lg_leI, lg_gtI, lg_ltI, c16_160, c16_200, c16_255, c16_300, c16_600, c16_616, c16_1000, Nat.add_eq, vp_updL_at, upd_at, Nat.add_sub_cancel, Nat.add_zero, Nat.zero_add, Nat.sub_zero, uU_uU, uT_uT, uI_uI, uL_uL, uU_at, uT_at, uI_at, uL_at, uU_ne, uT_ne, uI_ne, uL_ne, uU_sw, uT_sw, uI_sw, uL_sw] <;> first | with_reducible assumption | omega) | omega | decide) (hf) ?_)
        exact (q_X12_handle_4_10 f_X12_operate f_X12_fail f_X12_follow f_X12_enter f_X12_put _ _ _ _ _ (by first | with_reducible assumption | (simp (disch := omega) only [i_lit, i_m1, pk_sub, nI_add, nI_ml, nI_ltI, nI_leI, nI_eq, nI_clamp, nI_l, lN_i, lg_nI, lg_geI, lg_leI, lg_gtI, lg_ltI, c16_160, c16_200, c16_255, c16_300, c16_600, c16_616, c16_1000, Nat.add_eq, vp_updL_at, upd_at, Nat.add_sub_cancel, Nat.add_zero, Nat.zero_add, Nat.sub_zero, uU_uU, uT_uT, uI_uI, uL_uL, uU_at, uT_at, uI_at, uL_at, uU_ne, uT_ne, uI_ne, uL_ne, uU_sw, uT_sw, uI_sw, uL_sw] <;> first | with_reducible assumption | omega) | omega | decide))
  have hc' : (x1 = 1 ∧ I 19 = 1 ∧ I 20 = Int32.ofInt (-1)) ∨ (x1 = 0 ∧ I 19 = 0 ∧ N 0 < 60 ∧ (t.1 = 5 → t.2.1 = 1 → n < 24)) := by
    rcases hc with c | c | c | c
    · exact absurd c k8
    · exact absurd c kn
    · exact .inl c
    · exact .inr c
  have lz : L 3 = eV t := h3
  have hF1 : FO I L T J S I (uL L 3 (-1)) T J S := ⟨fun _ _ _ => rfl, rfl, rfl, rfl, fun _ _ => rfl, rfl, rfl⟩
  rcases hc' with ⟨c1, c2, c3⟩ | ⟨c1, c2, c3, c4⟩
  · have x10 : ¬ x1 = 0 := by
      rw [c1]
      decide
    by_cases full : N 0 = 60
    · obtain ⟨N2, I2, U2, J2, S2, p1, p2, p3, p4, p5⟩ := fl_e (L := uL L 3 (-1)) (k := 1) (B := 320 * (l - s) + 5 * N 0 + wt t + 2 * n) hS hu rfl 13 (Int32.ofInt (-1)) (by omega)
      have tp := s_turnP (T := T) (U := U) h3 w k8 kn (s_poe1f e8 hn e21 h24 h3 w c2 full (by rw [c3]; exact p1))
      exact ⟨1, N2, I2, _, T, U2, J2, S2, K, TS_1 u7 tp rfl, ⟨_, by omega, put (fun _ _ => x10) (t_put0_18 e4 hn full p2)⟩, p3, FO_t hF1 p4, p5⟩
    · have tp := s_turnP (T := T) (U := U) h3 w k8 kn (s_poe1p e8 hn e21 h24 h3 w c2 (by omega))
      exact ⟨1, uN N 0 (N 0 + 1), _, _, _, _, _, _, _, TS_1 u7 tp rfl, ⟨_, by omega, put (fun _ _ => x10) (t_put1_18 e4 hn (i_lit 0) (by omega) (by omega))⟩, NM_0 N _, ⟨fun x a b => uI_ne _ _ (by omega), rfl, rfl, rfl, fun x a => uI_ne _ _ (by omega), rfl, rfl⟩, .inl ⟨n, 0, s, SR_put hS (by omega) ht (ps_cp hr), ⟨u1, u2, u3, u4, u5, u6, u7, u8⟩, rfl, by omega⟩⟩
  · by_cases kp : t.1 = 5 ∧ t.2.1 = 1
    · have n24 := c4 kp.1 kp.2
      have tp := s_turnP (T := T) (U := U) h3 w k8 kn (s_poeE e8 hn e21 h24 h3 w c2 kp.1 kp.2 n24)
      obtain ⟨z0, z1⟩ := SR_ent hS n24 ht kp.1 kp.2
      have en : ∀ {J1 : Nat → Int32} {S1 : Nat → Nat → Int32} {K1 : Nat → Int64}, f_X12_enter (wr J S K) [.ref 0, .ref 18, .int 0] = some (none, wr J1 S1 K1) → (z_X12_handle f_X12_operate f_X12_fail f_X12_follow f_X12_enter f_X12_put) 4 [.ref 0, .int x1, .int 1, .null, .null] [] (wr J S K) (0 + 2 + 3) = some (none, wr J1 S1 K1) := by
        intro J1 S1 K1 hf
        rw [kp.1] at q0
        rw [kp.2] at q2
        refine (q_X12_handle_4_6 f_X12_operate f_X12_fail f_X12_follow f_X12_enter f_X12_put _ _ _ _ _ _ _ _ (by first | with_reducible assumption | (simp (disch := omega) only [i0, i2, q0, q2, i_lit, i_m1, pk_sub, nI_add, nI_ml, nI_ltI, nI_leI, nI_eq, nI_clamp, nI_l, lN_i, lg_nI, lg_geI, lg_leI, lg_gtI, lg_ltI, c16_160, c16_200, c16_255, c16_300, c16_600, c16_616, c16_1000, Nat.add_eq, vp_updL_at, upd_at, Nat.add_sub_cancel, Nat.add_zero, Nat.zero_add, Nat.sub_zero, uU_uU, uT_uT, uI_uI, uL_uL, uU_at, uT_at, uI_at, uL_at, uU_ne, uT_ne, uI_ne, uL_ne, uU_sw, uT_sw, uI_sw, uL_sw] <;> first | with_reducible assumption | omega) | omega | decide) (by first | with_reducible assumption | (simp (disch := omega) only [i0, i2, q0, q2, i_lit, i_m1, pk_sub, nI_add, nI_ml, nI_ltI, nI_leI, nI_eq, nI_clamp, nI_l, lN_i, lg_nI, lg_geI, lg_leI, lg_gtI, lg_ltI, c16_160, c16_200, c16_255, c16_300, c16_600, c16_616, c16_1000, Nat.add_eq, vp_updL_at, upd_at, Nat.add_sub_cancel, Nat.add_zero, Nat.zero_add, Nat.sub_zero, uU_uU, uT_uT, uI_uI, uL_uL, uU_at, uT_at, uI_at, uL_at, uU_ne, uT_ne, uI_ne, uL_ne, uU_sw, uT_sw, uI_sw, uL_sw] <;> first | with_reducible assumption | omega) | omega | decide) (by first | with_reducible assumption | (simp (disch := omega) only [i0, i2, q0, q2, i_lit, i_m1, pk_sub, nI_add, nI_ml, nI_ltI, nI_leI, nI_eq, nI_clamp, nI_l, lN_i, lg_nI, lg_geI, lg_leI, lg_gtI, lg_ltI, c16_160, c16_200, c16_255, c16_300, c16_600, c16_616, c16_1000, Nat.add_eq, vp_updL_at, upd_at, Nat.add_sub_cancel, Nat.add_zero, Nat.zero_add, Nat.sub_zero, uU_uU, uT_uT, uI_uI, uL_uL, uU_at, uT_at, uI_at, uL_at, uU_ne, uT_ne, uI_ne, uL_ne, uU_sw, uT_sw, uI_sw, uL_sw] <;> first | with_reducible assumption | omega) | omega | decide) (by first | with_reducible assumption | (simp (disch := omega) only [i0, i2, q0, q2, i_lit, i_m1, pk_sub, nI_add, nI_ml, nI_ltI, nI_leI, nI_eq, nI_clamp, nI_l, lN_i, lg_nI, lg_geI, lg_leI, lg_gtI, lg_ltI, c16_160, c16_200, c16_255, c16_300, c16_600, c16_616, c16_1000, Nat.add_eq, vp_updL_at, upd_at, Nat.add_sub_cancel, Nat.add_zero, Nat.zero_add, Nat.sub_zero, uU_uU, uT_uT, uI_uI, uL_uL, uU_at, uT_at, uI_at, uL_at, uU_ne, uT_ne, uI_ne, uL_ne, uU_sw, uT_sw, uI_sw, uL_sw] <;> first | with_reducible assumption | omega) | omega | decide) (by first | with_reducible assumption | (simp (disch := omega) only [i0, i2, q0, q2, i_lit, i_m1, pk_sub, nI_add, nI_ml, nI_ltI, nI_leI, nI_eq, nI_clamp, nI_l, lN_i, lg_nI, lg_geI, lg_leI, lg_gtI, lg_ltI, c16_160, c16_200, c16_255, c16_300, c16_600, c16_616, c16_1000, Nat.add_eq, vp_updL_at, upd_at, Nat.add_sub_cancel, Nat.add_zero, Nat.zero_add, Nat.sub_zero, uU_uU, uT_uT, uI_uI, uL_uL, uU_at, uT_at, uI_at, uL_at, uU_ne, uT_ne, uI_ne, uL_ne, uU_sw, uT_sw, uI_sw, uL_sw] <;> first | with_reducible assumption | omega) | omega | decide) (by first | with_reducible assumption | (simp (disch := omega) only [i0, i2, q0, q2, i_lit, i_m1, pk_sub, nI_add, nI_ml, nI_ltI, nI_leI, nI_eq, nI_clamp, nI_l, lN_i, lg_nI, lg_geI, lg_leI, lg_gtI, lg_ltI, c16_160, c16_200, c16_255, c16_300, c16_600, c16_616, c16_1000, Nat.add_eq, vp_updL_at, upd_at, Nat.add_sub_cancel, Nat.add_zero, Nat.zero_add, Nat.sub_zero, uU_uU, uT_uT, uI_uI, uL_uL, uU_at, uT_at, uI_at, uL_at, uU_ne, uT_ne, uI_ne, uL_ne, uU_sw, uT_sw, uI_sw, uL_sw] <;> first | with_reducible assumption | omega) | omega | decide) (hf) ?_)
        exact (q_X12_handle_4_10 f_X12_operate f_X12_fail f_X12_follow f_X12_enter f_X12_put _ _ _ _ _ (by first | with_reducible assumption | (simp (disch := omega) only [i_lit, i_m1, pk_sub, nI_add, nI_ml, nI_ltI, nI_leI, nI_eq, nI_clamp, nI_l, lN_i, lg_nI, lg_geI, lg_leI, lg_gtI, lg_ltI, c16_160, c16_200, c16_255, c16_300, c16_600, c16_616, c16_1000, Nat.add_eq, vp_updL_at, upd_at, Nat.add_sub_cancel, Nat.add_zero, Nat.zero_add, Nat.sub_zero, uU_uU, uT_uT, uI_uI, uL_uL, uU_at, uT_at, uI_at, uL_at, uU_ne, uT_ne, uI_ne, uL_ne, uU_sw, uT_sw, uI_sw, uL_sw] <;> first | with_reducible assumption | omega) | omega | decide))
      by_cases l0 : t.2.2.1 = 0
      · exact ⟨1, N, _, _, _, _, _, _, _, TS_1 u7 tp rfl, ⟨_, by omega, en (t_enter0_18 (i_lit 0) (by omega) hr w l0)⟩, NM_r N, ⟨fun x a b => uI_ne _ _ (by omega), rfl, rfl, rfl, fun _ _ => rfl, rfl, rfl⟩, .inl ⟨n, 1, s, z0 l0, ⟨u1, u2, u3, u4, u5, u6, u7, u8⟩, rfl, by omega⟩⟩
      · exact ⟨1, N, _, _, _, _, _, _, _, TS_1 u7 tp rfl, ⟨_, by omega, en (t_enter1_18 (i_lit 0) (by omega) hr w e14 n24 (by omega))⟩, NM_r N, ⟨fun x a b => uI_ne _ _ (by omega), rfl, rfl, rfl, fun x a => uI_ne _ _ (by omega), rfl, rfl⟩, .inl ⟨n + 1, 0, s, z1 (by omega), ⟨u1, u2, u3, u4, u5, u6, u7, u8⟩, rfl, by omega⟩⟩
    · have tp := s_turnP (T := T) (U := U) h3 w k8 kn (s_poe0p e8 hn e21 h24 h3 w c2 kp c3)
      exact ⟨1, uN N 0 (N 0 + 1), _, _, _, _, _, _, _, TS_1 u7 tp rfl, ⟨_, by omega, put (fun a b => absurd ⟨a, b⟩ kp) (t_put1_18 e4 hn (i_lit 0) (by omega) c3)⟩, NM_0 N _, ⟨fun x a b => uI_ne _ _ (by omega), rfl, rfl, rfl, fun x a => uI_ne _ _ (by omega), rfl, rfl⟩, .inl ⟨n, 0, s, SR_put hS c3 ht (ps_cp hr), ⟨u1, u2, u3, u4, u5, u6, u7, u8⟩, rfl, by omega⟩⟩
theorem jh (hd : HDO) : ∀ (m : Nat) (N : Nat → Nat) (n s l : Nat) (I : Nat → Int32) (L : Nat → Int64) (T : Nat → Nat → Int32) (U : Nat → Nat → Int64) (J : Nat → Int32) (S : Nat → Nat → Int32) (K : Nat → Int64) (t : V) (x1 : Int32), 320 * (l - s) + 5 * N 0 + wt t ≤ m → HR N n s l I L T U J S K t x1 → HOUT N n s l I L T U J S K t x1 := by
  intro m
  induction m with
  | zero =>
    intro N n s l I L T U J S K t x1 hm _
    have := wt_le t
    omega
  | succ m ih =>
    intro N n s l I L T U J S K t x1 hm h
    by_cases k8 : t.1 = 8
    · exact jh_op hd h k8 (fun N' n' I' L' T' U' J' S' K' t' hlt h' => ih N' n' s l I' L' T' U' J' S' K' t' 0 (by omega) h')
    · by_cases kn : t.1 = 4 ∧ t.2.1 = 1
      · exact jh_nm h kn.1 kn.2 (fun N' n' s' I' L' T' U' J' S' K' t' hlt h' => ih N' n' s' l I' L' T' U' J' S' K' t' x1 (by omega) h')
      · exact jh_pt h k8 kn
