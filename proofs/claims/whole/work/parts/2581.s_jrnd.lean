/-- one round of the reference's loop, one turn of the class -/
def RJ (kd i : Nat) (N : Nat → Nat) (s l : Nat) (I : Nat → Int32) (L : Nat → Int64) (T : Nat → Nat → Int32) (U : Nat → Nat → Int64) (J : Nat → Int32) (S : Nat → Nat → Int32) (K : Nat → Int64) : Prop :=
  ∃ (N' : Nat → Nat) (I' : Nat → Int32) (L' : Nat → Int64) (T' : Nat → Nat → Int32) (U' : Nat → Nat → Int64) (J' : Nat → Int32) (S' : Nat → Nat → Int32) (K' : Nat → Int64),
    f_X3_takeTurn (wc I L T U) [.ref 24] = some (none, wc I' L' T' U') ∧ f_X12_round (wr J S K) [.ref 0, .int (nI (12 * i)), .int (nI kd)] = some (none, wr J' S' K') ∧ NM N N' ∧ FO I L T J S I' L' T' J' S' ∧ HEND N' I' L' T' U' J' S' K' l 1 (320 * (l - s) + 2 * (i + 1))
section
variable {N : Nat → Nat} {I : Nat → Int32} {L : Nat → Int64} {T : Nat → Nat → Int32} {U : Nat → Nat → Int64} {J : Nat → Int32} {S : Nat → Nat → Int32} {K : Nat → Int64} {i s l kd : Nat}
theorem SR_cut (h : SR N (i + 1) 0 I T U J S K) (hi : 1 ≤ i) : SR N i 0 (uI I 21 (nI i)) T U (uI J 14 (nI i)) S K :=
  ⟨R_fr h.1 (fun x hx => uI_ne _ _ (by omega)) (fun _ _ => rfl) (fun _ _ => rfl) (fun x a b => uI_ne _ _ (by omega)) (fun _ _ _ => rfl), RE_cut h.2.1 hi (by omega), rfl, .inl rfl, h.2.2.2.2⟩
theorem RJ_leave (hS : SR N (i + 1) 0 I T U J S K) (hu : RU s l I J) (h3 : L 3 = -1) (hi : 1 ≤ i) (tn : f_X3_takeTurn (wc I L T U) [.ref 24] = some (none, wc (uI I 21 (nI (i + 1 - 1))) L T U)) (rd : f_X12_round (wr J S K) [.ref 0, .int (nI (12 * i)), .int (nI kd)] = some (none, wr (uI J 14 (nI i)) S K)) : RJ kd i N s l I L T U J S K :=
  ⟨N, _, _, _, _, _, _, _, tn, rd, NM_r N, ⟨fun x a b => uI_ne _ _ (by omega), rfl, rfl, rfl, fun x a => uI_ne _ _ (by omega), rfl, rfl⟩, .inl ⟨i, 0, s, SR_cut hS hi, hu, h3, by omega⟩⟩
theorem RJ_steps (hS : SR N (i + 1) 0 I T U J S K) (hu : RU s l I J) (tn : f_X3_takeTurn (wc I L T U) [.ref 24] = some (none, wc (uI I 18 1) L T U)) (rd : f_X12_round (wr J S K) [.ref 0, .int (nI (12 * i)), .int (nI kd)] = some (none, wr (uI J 17 1) S K)) : RJ kd i N s l I L T U J S K :=
  ⟨N, _, _, _, _, _, _, _, tn, rd, NM_r N, ⟨fun x a b => uI_ne _ _ (by omega), rfl, rfl, rfl, fun x a => uI_ne _ _ (by omega), rfl, rfl⟩, .inr ⟨R_fr hS.1 (fun x hx => uI_ne _ _ (by omega)) (fun _ _ => rfl) (fun _ _ => rfl) (fun x a b => uI_ne _ _ (by omega)) (fun _ _ _ => rfl), hS.2.2.2.2, rfl, (show (1 : Int32) ≠ Int32.ofInt (-1) by decide), ⟨s, hu.1, hu.2.1⟩, by omega⟩⟩
theorem RE_upd {n : Nat} {x y : Int32} {U' : Nat → Nat → Int64} {S' : Nat → Nat → Int32} {K' : Nat → Int64} (h : RE N n x T U y S K) (hU : ∀ k, 8 ≤ k → k ≤ 12 → ∀ j, j ≠ i → U' k j = U k j) (h13 : U' 13 = U 13) (h12 : S' 12 = S 12) (hs13 : S' 13 = S 13) (hK : ∀ j, j ≠ i → K' j = K j) (new : FR N T U' S' K' i) : RE N n x T U' y S' K' := by
  obtain ⟨a1, a2, a3, a4, ⟨a5, a6⟩, a7⟩ := h
  refine ⟨a1, a2, a3, a4, ⟨a5, by rw [h12]; exact a6⟩, fun j h0 hj => ?_⟩
  by_cases e : j = i
  · rw [e]
    exact new
  · exact FR_cong (a7 j h0 hj) rfl (fun k k1 k2 => hU k k1 k2 j e) (fun y hy => by rw [h13]) (fun y hy => by rw [h12]) (fun y hy => by rw [hs13]) (hK j e)
theorem RJ_go {N1 : Nat → Nat} {I1 : Nat → Int32} {U1 : Nat → Nat → Int64} {J1 : Nat → Int32} {S1 : Nat → Nat → Int32} {K1 : Nat → Int64} {t : V} (hS1 : SR N1 (i + 1) 0 I1 T U1 J1 S1 K1) (hu1 : RU (s + 1) l I1 J1) (hF : FO I L T J S I1 L T J1 S1) (hN : NM N N1) (h3 : L 3 = -1) (ht : ok N1 t) (k5 : t.1 = 5) (x1 : t.2.1 = 1) (hi : i < 23) (hit : it5 (S1 12) i t) (hs : s < l)
    (tn : f_X3_takeTurn (wc I L T U) [.ref 24] = some (none, wc (uI I1 21 (nI (i + 1 + 1))) L (uT T 10 (upd (T 10) (i + 1) 1)) (EU U1 (i + 1) (eV t))))
    (rd : ∀ {J2 : Nat → Int32} {S2 : Nat → Nat → Int32} {K2 : Nat → Int64} {m : Nat}, m ≤ 10 → (z_X12_give f_X12_isFull f_X12_fail f_X12_pushNumber f_X12_keyAt f_X12_push f_X12_enter f_X12_copy) 314 [.ref 0, .int (nI (12 * i)), .null, .null, .null, .int 0, .null] [] (wr J1 S1 K1) m = some (none, wr J2 S2 K2) → f_X12_round (wr J S K) [.ref 0, .int (nI (12 * i)), .int (nI kd)] = some (none, wr J2 S2 K2)) : RJ kd i N s l I L T U J S K := by
  have w := ok_w0 ht
  obtain ⟨u, r1, r2⟩ := t_giveT (I := J1) (T := S1) (K := K1) (i := i) (by omega) hit
  have hS2 : SR N1 (i + 1) 0 I1 T U1 J1 (uT S1 16 u) K1 := SR_j hS1 (fun _ _ => rfl) (fun _ _ _ => rfl) (fun k hk => uT_ne _ _ (by omega))
  obtain ⟨z0, z1⟩ := SR_ent hS2 (by omega) ht k5 x1
  obtain ⟨h1f, h24, e21, e14, _⟩ := SR_E hS1
  obtain ⟨u1, u2, u3, u4, u5, u6, u7, u8⟩ := hu1
  obtain ⟨f1, f2, f3, f4, f5, f6, f7⟩ := hF
  by_cases l0 : t.2.2.1 = 0
  · obtain ⟨m, hm, hz⟩ := r2 (t_enter0_18 (i_lit 0) (by omega) r1 w l0)
    exact ⟨N1, _, _, _, _, _, _, _, tn, rd hm hz, hN, ⟨fun x a b => (uI_ne _ _ (by omega)).trans (f1 x a b), f2, rfl, rfl, f5, f6, f7⟩, .inl ⟨i + 1, 1, s + 1, z0 l0, ⟨u1, u2, u3, u4, u5, u6, u7, u8⟩, h3, by omega⟩⟩
  · obtain ⟨m, hm, hz⟩ := r2 (t_enter1_18 (i_lit 0) (by omega) r1 w e14 (by omega) (by omega))
    exact ⟨N1, _, _, _, _, _, _, _, tn, rd hm hz, hN, ⟨fun x a b => (uI_ne _ _ (by omega)).trans (f1 x a b), f2, rfl, rfl, fun x a => (uI_ne _ _ (by omega)).trans (f5 x a), f6, f7⟩, .inl ⟨i + 1 + 1, 0, s + 1, z1 (by omega), ⟨u1, u2, u3, u4, u5, u6, u7, u8⟩, h3, by omega⟩⟩
/-- no room for what the round gives: the run ends -/
theorem RJ_full {I1 : Nat → Int32} {U1 : Nat → Nat → Int64} {b : Int32} (hS : SR N (i + 1) 0 I T U J S K) (hu : RU s l I J) (full : N 0 = 60) (hR1 : R N I1 T U1 (uI J 15 (nI (s + 1))) S) (e21 : I1 21 = nI (i + 1)) (hI : ∀ x, 9 ≤ x → x ≤ 17 → x ≠ 14 → I1 x = I x) (i14 : I1 14 = nI (s + 1))
    (tn : ∀ {I' : Nat → Int32}, f_X3_fail (wc I1 L T U1) [.ref 24, .int (nI 13), .int b] = some (none, wc I' L T U1) → f_X3_takeTurn (wc I L T U) [.ref 24] = some (none, wc I' L T U1))
    (rd : ∀ {J' : Nat → Int32}, f_X12_fail (wr (uI J 15 (nI (s + 1))) S K) [.ref 0, .int (nI 13), .int b] = some (none, wr J' S K) → f_X12_round (wr J S K) [.ref 0, .int (nI (12 * i)), .int (nI kd)] = some (none, wr J' S K)) : RJ kd i N s l I L T U J S K := by
  obtain ⟨h1f, h24, _, e14, _⟩ := SR_E hS
  obtain ⟨q1, q2⟩ := RE_srt hS.2.1
  obtain ⟨I', J', a1, a2, a3, a4, a5, a6, a7, a8⟩ := jff (L := L) (K := K) hR1 full h1f h24 h24 e21 e14 q1 (nI 13) b (.inr q2)
  exact ⟨N, I', L, T, U1, J', S, K, tn a1, rd a2, NM_r N, ⟨fun x a b => (a5 x (by omega) (by omega) (by omega) (by omega) (by omega)).trans (hI x a (by omega) (by omega)), (a5 17 (by decide) (by decide) (by decide) (by decide) (by decide)).trans (hI 17 (by decide) (by decide) (by decide)), rfl, rfl, fun x a => (a6 x (by omega) (by omega) (by omega) (by omega) (by omega)).trans (uI_ne _ _ (by omega)), (a6 16 (by decide) (by decide) (by decide) (by decide) (by decide)), rfl⟩, .inr ⟨a3, a4, a7.trans a8.symm, by rw [a7]; decide, ⟨s + 1, (a5 14 (by decide) (by decide) (by decide) (by decide) (by decide)).trans i14, a6 15 (by decide) (by decide) (by decide) (by decide) (by decide)⟩, by omega⟩⟩
theorem uv_ne {A : Nat → Nat → Int64} {k0 f k j : Nat} {v : Int64} (h : j ≠ f) : uU A k0 (vp_updL (A k0) f v) k j = A k j := by
  by_cases e : k = k0
  · rw [e, uU_at, vp_updL_ne h]
  · rw [uU_ne _ _ e]
theorem uI_swp {A : Nat → Int32} {a b : Int32} (x p q : Nat) (h : x ≠ q) : uI (uI A q b) p a x = uI A p a x := by
  by_cases e : x = p
  · rw [e, uI_at, uI_at]
  · rw [uI_ne _ _ e, uI_ne _ _ h, uI_ne _ _ e]
theorem uU_swp {A : Nat → Nat → Int64} {a b : Nat → Int64} (x p q : Nat) (h : x ≠ q) : uU (uU A q b) p a x = uU A p a x := by
  by_cases e : x = p
  · rw [e, uU_at, uU_at]
  · rw [uU_ne _ _ e, uU_ne _ _ h, uU_ne _ _ e]
theorem jr_for {t : V} (hS : SR N (i + 1) 0 I T U J S K) (hu : RU s l I J) (h3 : L 3 = -1) (hi : 1 ≤ i) (hi2 : i < 23) (k5 : t.1 = 5) (x1 : t.2.1 = 1) (ht : ok N t) (hb : U 8 i = eV t) (hit : it5 (S 12) i t) (hf : FRf T U S K i) : RJ 3 i N s l I L T U J S K := by
  obtain ⟨st, la, a1, a2, a3, a4, a5, a6, a7, a8⟩ := id hf
  obtain ⟨hn, e8, e4, hO⟩ := hS.1.1
  obtain ⟨h1f, h24, e21, e14, _⟩ := SR_E hS
  obtain ⟨u1, u2, u3, u4, u5, u6, u7, u8⟩ := id hu
  have sgn : (lg_cmp (U 11 (i + 1 - 1)) 0 ≤ 0) ↔ (S 12 (12 * i + 6) ≤ 0) := by
    rw [show i + 1 - 1 = i from rfl, a5, a6]
    exact sg64
  have cmp : lg_cmp (U 9 (i + 1 - 1)) (U 10 (i + 1 - 1)) = lg_cmp (K i) (Int32.toInt64 (S 12 (12 * i + 7))) := by
    rw [show i + 1 - 1 = i from rfl, a4, a7, a8]
  have lv : f_X3_beginForRound (wc I L T U) [.ref 24] = some (none, wc (uI I 21 (nI (i + 1 - 1))) L T U) → f_X12_round (wr J S K) [.ref 0, .int (nI (12 * i)), .int (nI 3)] = some (none, wr (uI J 14 (nI i)) S K) → RJ 3 i N s l I L T U J S K := fun p q => RJ_leave hS hu h3 hi (s_turn3 e21 h1f h24 h3 a1 p) q
  have sp : f_X3_beginForRound (wc I L T U) [.ref 24] = some (none, wc (uI I 18 1) L T U) → f_X12_round (wr J S K) [.ref 0, .int (nI (12 * i)), .int (nI 3)] = some (none, wr (uI J 17 1) S K) → RJ 3 i N s l I L T U J S K := fun p q => RJ_steps hS hu (s_turn3 e21 h1f h24 h3 a1 p) q
  have go : s < l → (∀ {I2 : Nat → Int32} {L2 : Nat → Int64} {T2 : Nat → Nat → Int32} {U2 : Nat → Nat → Int64}, f_X3_putForRound (wc (uI I 14 (nI (s + 1))) L T (uU U 9 (vp_updL (U 9) (i + 1 - 1) (U 9 (i + 1 - 1) + U 11 (i + 1 - 1))))) [.ref 24, .int 59, .long (eV (1, 0, 0, Int64.toInt32 (U 9 (i + 1 - 1))))] = some (none, wc I2 L2 T2 U2) → f_X3_beginForRound (wc I L T U) [.ref 24] = some (none, wc I2 L2 T2 U2)) → (∀ {J2 : Nat → Int32} {S2 : Nat → Nat → Int32} {K2 : Nat → Int64}, f_X12_give (wr (uI J 15 (nI (s + 1))) S K) [.ref 0, .int (nI (12 * i)), .int 3, .int (nI i)] = some (none, wr J2 S2 K2) → f_X12_round (wr J S K) [.ref 0, .int (nI (12 * i)), .int (nI 3)] = some (none, wr J2 S2 K2)) → RJ 3 i N s l I L T U J S K := by
    intro hs cl rf
    have nx : U 9 (i + 1 - 1) + U 11 (i + 1 - 1) = K i + st.toInt64 := by rw [show i + 1 - 1 = i from rfl, a4, a5]
    have nv : Int64.toInt32 (U 9 (i + 1 - 1)) = Int64.toInt32 (K i) := by rw [show i + 1 - 1 = i from rfl, a4]
    rw [nx, nv] at cl
    by_cases full : N 0 = 60
    · exact RJ_full (I1 := uI I 14 (nI (s + 1))) (U1 := uU U 9 (vp_updL (U 9) (i + 1 - 1) (K i + st.toInt64))) (b := 59) hS hu full (R_fr hS.1 (fun x hx => uI_ne _ _ (by omega)) (fun _ _ => rfl) (fun k hk => uU_ne _ _ (by omega)) (fun x a b => uI_ne _ _ (by omega)) (fun _ _ _ => rfl)) e21 (fun x a b c => uI_ne _ _ c) rfl (fun p => s_turn3 e21 h1f h24 h3 a1 (cl (s_pfr0 (I := uI I 14 (nI (s + 1))) (f := i + 1) e21 h1f h24 e8 hn full p))) (fun p => rf (t_give3f (I := uI J 15 (nI (s + 1))) e4 hn full p))
    · have hK : vp_updL K i (K i + Int32.toInt64 (S 12 (12 * i + 6))) = vp_updL K i (K i + st.toInt64) := by rw [a6]
      have hSp := SR_put (t := (1, 0, 0, Int64.toInt32 (K i))) (s' := st5 (S 1) (N 0) 1 (Int64.toInt32 (K i)) 0 0 0) hS (by omega) (ok_num _) (ps_st rfl rfl rfl rfl)
      have hS1 : SR (uN N 0 (N 0 + 1)) (i + 1) 0 (uI (uI I 14 (nI (s + 1))) 8 (nI (N 0 + 1))) T (uU (uU U 9 (vp_updL (U 9) (i + 1 - 1) (K i + st.toInt64))) 5 (vp_updL (U 5) (N 0) (eV (1, 0, 0, Int64.toInt32 (K i))))) (uI (uI J 15 (nI (s + 1))) 4 (nI (N 0 + 1))) (uT S 1 (st5 (S 1) (N 0) 1 (Int64.toInt32 (K i)) 0 0 0)) (vp_updL K i (K i + st.toInt64)) := by
        refine ⟨R_fr hSp.1 (fun x hx => ?_) (fun _ _ => rfl) (fun k hk => ?_) (fun x a b => ?_) (fun _ _ _ => rfl), ?_, e21, .inl rfl, hS.2.2.2.2⟩
        · exact uI_swp x 8 14 (by omega)
        · exact uU_swp k 5 9 (by omega)
        · exact uI_swp x 4 15 (by omega)
        · refine RE_mono (NM_0 N _) (RE_upd (i := i) hS.2.1 (fun k k1 k2 j hj => ?_) rfl rfl rfl (fun j hj => vp_updL_ne hj) (.inr (.inr ⟨t, hi2, k5, x1, ht, hb, hit, .inl ⟨st, la, a1, a2, a3, ?_, a5, a6, a7, a8⟩⟩)))
          · rw [uU_ne _ _ (by omega)]
            exact uv_ne hj
          · exact vp_updL_at.trans vp_updL_at.symm
      refine RJ_go hS1 ⟨rfl, rfl, u3, u4, by omega, u6, u7, u8⟩ ⟨fun x a b => by rw [uI_ne _ _ (by omega), uI_ne _ _ (by omega)], rfl, rfl, rfl, fun x a => by rw [uI_ne _ _ (by omega), uI_ne _ _ (by omega)], rfl, rfl⟩ (NM_0 N _) h3 ht k5 x1 hi2 hit hs ?_ (fun hm hz => rf (t_give3 (I := uI J 15 (nI (s + 1))) e4 hn (by omega) (by omega) hm (by rw [hK]; exact hz)))
      have q := s_turn3 e21 h1f h24 h3 a1 (cl (s_pfr1 (I := uI I 14 (nI (s + 1))) (f := i + 1) e21 h1f h24 e8 hn (by omega) (by omega)))
      rw [← hb]
      exact q
  by_cases c1 : S 12 (12 * i + 6) ≤ 0
  · by_cases c2 : 0 ≤ lg_cmp (K i) (Int32.toInt64 (S 12 (12 * i + 7)))
    · by_cases hs : s = l
      · exact sp (s_forBs e21 h1f h24 u1 u3 u6 hs (sgn.mpr c1) (by rw [cmp]; exact c2)) (t_forBs (by omega) e14 u2 u4 u5 u6 c1 c2 hs)
      · exact go (by omega) (fun p => s_forBg e21 h1f h24 u1 u3 u6 (by omega) (sgn.mpr c1) (by rw [cmp]; exact c2) p) (fun p => t_forBg (by omega) e14 u2 u4 u5 u6 c1 c2 (by omega) p)
    · exact lv (s_forBl e21 h1f h24 (by omega) (sgn.mpr c1) (by rw [cmp]; exact c2)) (t_forBl (by omega) e14 c1 c2)
  · by_cases c2 : lg_cmp (K i) (Int32.toInt64 (S 12 (12 * i + 7))) ≤ 0
    · by_cases hs : s = l
      · exact sp (s_forAs e21 h1f h24 u1 u3 u6 hs (fun h => c1 (sgn.mp h)) (by rw [cmp]; exact c2)) (t_forAs (by omega) e14 u2 u4 u5 u6 c1 c2 hs)
      · exact go (by omega) (fun p => s_forAg e21 h1f h24 u1 u3 u6 (by omega) (fun h => c1 (sgn.mp h)) (by rw [cmp]; exact c2) p) (fun p => t_forAg (by omega) e14 u2 u4 u5 u6 c1 c2 (by omega) p)
    · exact lv (s_forAl e21 h1f h24 (by omega) (fun h => c1 (sgn.mp h)) (by rw [cmp]; exact c2)) (t_forAl (by omega) e14 c1 c2)
theorem jr_rep {t : V} (hS : SR N (i + 1) 0 I T U J S K) (hu : RU s l I J) (h3 : L 3 = -1) (hi : 1 ≤ i) (hi2 : i < 23) (k5 : t.1 = 5) (x1 : t.2.1 = 1) (ht : ok N t) (hb : U 8 i = eV t) (hit : it5 (S 12) i t) (hf : FRr T U S K i) : RJ 4 i N s l I L T U J S K := by
  obtain ⟨x, a0, a1, a2, a3, a4⟩ := id hf
  obtain ⟨hn, e8, e4, hO⟩ := hS.1.1
  obtain ⟨h1f, h24, e21, e14, _⟩ := SR_E hS
  obtain ⟨u1, u2, u3, u4, u5, u6, u7, u8⟩ := id hu
  have c9 : (0 < lg_cmp (U 9 (i + 1 - 1)) 0) ↔ 0 < x := by
    rw [show i + 1 - 1 = i from rfl, a3, lg_cmp_gt, Int64.lt_iff_toInt_lt, lN_tI (by omega), show (0 : Int64).toInt = 0 from rfl]
    omega
  have cK : lg_cmp (K i) 0 = 0 ↔ x = 0 := by
    rw [lg_cmp0, a4]
    exact ⟨fun h => lN_inj (by omega) (by omega) h, fun h => by rw [h]; rfl⟩
  by_cases x0 : x = 0
  · exact RJ_leave hS hu h3 hi (s_turn4 e21 h1f h24 h3 a1 (s_repl e21 h1f h24 (by omega) (fun h => by have := c9.mp h; omega))) (t_repl (by omega) e14 (cK.mpr x0))
  · by_cases hs : s = l
    · exact RJ_steps hS hu (s_turn4 e21 h1f h24 h3 a1 (s_reps e21 h1f h24 u1 u3 u6 hs (c9.mpr (by omega)))) (t_reps (by omega) e14 u2 u4 u5 u6 (fun h => x0 (cK.mp h)) hs)
    · obtain ⟨y, rfl⟩ : ∃ y, x = y + 1 := ⟨x - 1, by omega⟩
      have n9 : U 9 (i + 1 - 1) - 1 = lN y := by rw [show i + 1 - 1 = i from rfl, a3, lN_sub1]
      have nK : K i - 1 = lN y := by rw [a4, lN_sub1]
      have hS1 : SR N (i + 1) 0 (uI I 14 (nI (s + 1))) T (uU U 9 (vp_updL (U 9) (i + 1 - 1) (U 9 (i + 1 - 1) - 1))) (uI J 15 (nI (s + 1))) S (vp_updL K i (K i - 1)) := by
        refine ⟨R_fr hS.1 (fun x hx => uI_ne _ _ (by omega)) (fun _ _ => rfl) (fun k hk => uU_ne _ _ (by omega)) (fun x a b => uI_ne _ _ (by omega)) (fun _ _ _ => rfl), ?_, e21, .inl rfl, hS.2.2.2.2⟩
        refine RE_upd (i := i) hS.2.1 (fun k k1 k2 j hj => uv_ne hj) rfl rfl rfl (fun j hj => vp_updL_ne hj) (.inr (.inr ⟨t, hi2, k5, x1, ht, hb, hit, .inr (.inl ⟨y, by omega, a1, a2, ?_, ?_⟩)⟩))
        · exact vp_updL_at.trans n9
        · exact vp_updL_at.trans nK
      refine RJ_go hS1 ⟨rfl, rfl, u3, u4, by omega, u6, u7, u8⟩ ⟨fun x a b => uI_ne _ _ (by omega), rfl, rfl, rfl, fun x a => uI_ne _ _ (by omega), rfl, rfl⟩ (NM_r N) h3 ht k5 x1 hi2 hit (by omega) ?_ (fun hm hz => t_repg (by omega) e14 u2 u4 u5 u6 (fun h => x0 (cK.mp h)) (by omega) (t_give4 (I := uI J 15 (nI (s + 1))) e4 hn (by omega) hm hz))
      have q := s_turn4 e21 h1f h24 h3 a1 (s_repg e21 h1f h24 u1 u3 u6 (by omega) (c9.mpr (by omega)) (by omega))
      rw [← hb]
      exact q
theorem jr_loo {t : V} (hS : SR N (i + 1) 0 I T U J S K) (hu : RU s l I J) (h3 : L 3 = -1) (hi : 1 ≤ i) (hi2 : i < 23) (k5 : t.1 = 5) (x1 : t.2.1 = 1) (ht : ok N t) (hb : U 8 i = eV t) (hit : it5 (S 12) i t) (hf : FRl T S i) : RJ 5 i N s l I L T U J S K := by
  obtain ⟨a1, a2⟩ := hf
  obtain ⟨hn, e8, e4, hO⟩ := hS.1.1
  obtain ⟨h1f, h24, e21, e14, _⟩ := SR_E hS
  obtain ⟨u1, u2, u3, u4, u5, u6, u7, u8⟩ := id hu
  by_cases hs : s = l
  · exact RJ_steps hS hu (s_turn5 e21 h1f h24 h3 a1 (s_loos e21 h1f h24 u1 u3 u6 hs)) (t_loos (by omega) e14 u2 u4 u5 u6 hs)
  · have hS1 : SR N (i + 1) 0 (uI I 14 (nI (s + 1))) T U (uI J 15 (nI (s + 1))) S K := SR_j hS (fun x hx => uI_ne _ _ (by omega)) (fun x a b => uI_ne _ _ (by omega)) (fun _ _ => rfl)
    refine RJ_go hS1 ⟨rfl, rfl, u3, u4, by omega, u6, u7, u8⟩ ⟨fun x a b => uI_ne _ _ (by omega), rfl, rfl, rfl, fun x a => uI_ne _ _ (by omega), rfl, rfl⟩ (NM_r N) h3 ht k5 x1 hi2 hit (by omega) ?_ (fun hm hz => t_loog (by omega) e14 u2 u4 u5 u6 (by omega) (t_give5 (I := uI J 15 (nI (s + 1))) e4 hn (by omega) hm hz))
    have q := s_turn5 (U := U) e21 h1f h24 h3 a1 (s_loog e21 h1f h24 u1 u3 u6 (by omega) (by omega))
    rw [← hb]
    exact q
end
