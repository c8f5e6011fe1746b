theorem uv_lt {A : Nat → Nat → Int64} {k0 f k i : Nat} {v : Int64} (h : i < f) : uU A k0 (vp_updL (A k0) f v) k i = A k i := by
  by_cases e : k = k0
  · rw [e, uU_at, vp_updL_ne (by omega)]
  · rw [uU_ne _ _ e]
theorem SR_cnt {N : Nat → Nat} {I : Nat → Int32} {T : Nat → Nat → Int32} {U : Nat → Nat → Int64} {J : Nat → Int32} {S : Nat → Nat → Int32} {n n' : Nat} {K : Nat → Int64} (h : SR N n 0 I T U J S K) (hn : n' ≤ N 0) : SR (uN N 0 n') n 0 (uI I 8 (nI n')) T U (uI J 4 (nI n')) S K :=
  ⟨R_cnt h.1 hn, RE_mono ⟨Nat.le_refl _, Nat.le_refl _, Nat.le_refl _, Nat.le_refl _⟩ h.2.1, h.2.2.1, .inl rfl, h.2.2.2.2⟩
theorem NM_0 (N : Nat → Nat) (k : Nat) : NM N (uN N 0 k) := ⟨Nat.le_refl _, Nat.le_refl _, Nat.le_refl _, Nat.le_refl _⟩
/-- a loop's frame is put -/
theorem SR_loop {N : Nat → Nat} {I : Nat → Int32} {T : Nat → Nat → Int32} {U : Nat → Nat → Int64} {J : Nat → Int32} {S : Nat → Nat → Int32} {n n' : Nat} {K K' : Nat → Int64} {I' : Nat → Int32} {T' : Nat → Nat → Int32} {U' : Nat → Nat → Int64} {J' : Nat → Int32} {S' : Nat → Nat → Int32} (h : SR N n 0 I T U J S K) (hn : n' ≤ N 0) (h24 : n < 24)
    (i8 : I' 8 = nI n') (i21 : I' 21 = nI (n + 1)) (hi : ∀ x, x ≤ 7 ∨ x = 15 ∨ x = 16 → I' x = I x) (hT : ∀ k, k ≠ 10 → T' k = T k) (hT10 : ∀ i, i < n → T' 10 i = T 10 i) (hU : ∀ k, k ≤ 7 → U' k = U k) (hUi : ∀ k, 8 ≤ k → k ≤ 12 → ∀ i, i < n → U' k i = U k i) (h13 : ∀ i, i < n * 74 → U' 13 i = U 13 i)
    (j4 : J' 4 = nI n') (j14 : J' 14 = nI (n + 1)) (hj : ∀ x, 5 ≤ x → x ≤ 13 → J' x = J x) (hS : ∀ k, k ≤ 11 → S' k = S k) (hS12 : ∀ i, i < 12 * n → S' 12 i = S 12 i) (hs13 : ∀ i, i < 160 * n → S' 13 i = S 13 i) (hK : ∀ i, i < n → K' i = K i) (new : FR N T' U' S' K' n) : SR (uN N 0 n') (n + 1) 0 I' T' U' J' S' K' := by
  refine ⟨R_cnt2 h.1 hn i8 (fun x hx => hi x (by omega)) (fun k hk => hT k (by omega)) (fun k hk => hU k (by omega)) j4 (fun x h1 h2 => hj x h1 (by omega)) (fun k h1 h2 => hS k h2), ?_, i21, .inl rfl, ?_⟩
  · rw [j14]
    exact RE_mono (NM_0 N n') (RE_push h.2.1 h24 hT10 hUi h13 hS12 hs13 hK new)
  · exact ⟨(hi 15 (by omega)).trans (h.2.2.2.2.1.trans (hj 12 (by decide) (by decide)).symm), (hi 16 (by omega)).trans (h.2.2.2.2.2.trans (hj 13 (by decide) (by decide)).symm)⟩
def U59 (U : Nat → Nat → Int64) (f : Nat) (z c b a : Int64) : Nat → Nat → Int64 := uU (uU (uU (EU U f z) 9 (vp_updL (EU U f z 9) (f + 1 - 1) a)) 11 (vp_updL (EU U f z 11) (f + 1 - 1) b)) 10 (vp_updL (EU U f z 10) (f + 1 - 1) c)
theorem U59_o {U : Nat → Nat → Int64} {f : Nat} {z c b a : Int64} {k : Nat} (h : k < 8 ∨ 12 < k) : U59 U f z c b a k = U k := by
  unfold U59
  rw [uU_ne _ _ (by omega), uU_ne _ _ (by omega), uU_ne _ _ (by omega)]
  exact EU_o (by omega)
theorem U59_lt {U : Nat → Nat → Int64} {f : Nat} {z c b a : Int64} {k i : Nat} (hk : k ≤ 12) (h : i < f) : U59 U f z c b a k i = U k i := by
  have e : f + 1 - 1 = f := Nat.add_sub_cancel f 1
  unfold U59
  rw [e]
  by_cases k10 : k = 10
  · rw [k10, uU_at, vp_updL_ne (by omega)]
    exact EU_lt h
  rw [uU_ne _ _ k10]
  by_cases k11 : k = 11
  · rw [k11, uU_at, vp_updL_ne (by omega)]
    exact EU_lt h
  rw [uU_ne _ _ k11]
  by_cases k9 : k = 9
  · rw [k9, uU_at, vp_updL_ne (by omega)]
    exact EU_lt h
  rw [uU_ne _ _ k9]
  exact EU_lt h
theorem U59_8 {U : Nat → Nat → Int64} {f : Nat} {z c b a : Int64} : U59 U f z c b a 8 f = z := by
  have e : f + 1 - 1 = f := Nat.add_sub_cancel f 1
  unfold U59
  rw [e]
  rw [uU_ne _ _ (by decide)]
  rw [uU_ne _ _ (by decide)]
  rw [uU_ne _ _ (by decide)]
  exact vp_updL_at
theorem U59_9 {U : Nat → Nat → Int64} {f : Nat} {z c b a : Int64} : U59 U f z c b a 9 f = a := by
  have e : f + 1 - 1 = f := Nat.add_sub_cancel f 1
  unfold U59
  rw [e]
  rw [uU_ne _ _ (by decide)]
  rw [uU_ne _ _ (by decide)]
  rw [uU_at, vp_updL_at]
theorem U59_10 {U : Nat → Nat → Int64} {f : Nat} {z c b a : Int64} : U59 U f z c b a 10 f = c := by
  have e : f + 1 - 1 = f := Nat.add_sub_cancel f 1
  unfold U59
  rw [e]
  rw [uU_at, vp_updL_at]
theorem U59_11 {U : Nat → Nat → Int64} {f : Nat} {z c b a : Int64} : U59 U f z c b a 11 f = b := by
  have e : f + 1 - 1 = f := Nat.add_sub_cancel f 1
  unfold U59
  rw [e]
  rw [uU_ne _ _ (by decide)]
  rw [uU_at, vp_updL_at]
theorem U59_12 {U : Nat → Nat → Int64} {f : Nat} {z c b a : Int64} : U59 U f z c b a 12 f = (-1) := by
  have e : f + 1 - 1 = f := Nat.add_sub_cancel f 1
  unfold U59
  rw [e]
  rw [uU_ne _ _ (by decide)]
  rw [uU_ne _ _ (by decide)]
  rw [uU_ne _ _ (by decide)]
  exact vp_updL_at
def U62 (U : Nat → Nat → Int64) (f : Nat) (z c a : Int64) : Nat → Nat → Int64 := uU (uU (EU U f z) 12 (vp_updL (EU U f z 12) (f + 1 - 1) a)) 10 (vp_updL (EU U f z 10) (f + 1 - 1) c)
theorem U62_o {U : Nat → Nat → Int64} {f : Nat} {z c a : Int64} {k : Nat} (h : k < 8 ∨ 12 < k) : U62 U f z c a k = U k := by
  unfold U62
  rw [uU_ne _ _ (by omega), uU_ne _ _ (by omega)]
  exact EU_o (by omega)
theorem U62_lt {U : Nat → Nat → Int64} {f : Nat} {z c a : Int64} {k i : Nat} (hk : k ≤ 12) (h : i < f) : U62 U f z c a k i = U k i := by
  have e : f + 1 - 1 = f := Nat.add_sub_cancel f 1
  unfold U62
  rw [e]
  by_cases k10 : k = 10
  · rw [k10, uU_at, vp_updL_ne (by omega)]
    exact EU_lt h
  rw [uU_ne _ _ k10]
  by_cases k12 : k = 12
  · rw [k12, uU_at, vp_updL_ne (by omega)]
    exact EU_lt h
  rw [uU_ne _ _ k12]
  exact EU_lt h
theorem U62_8 {U : Nat → Nat → Int64} {f : Nat} {z c a : Int64} : U62 U f z c a 8 f = z := by
  have e : f + 1 - 1 = f := Nat.add_sub_cancel f 1
  unfold U62
  rw [e]
  rw [uU_ne _ _ (by decide)]
  rw [uU_ne _ _ (by decide)]
  exact vp_updL_at
theorem U62_9 {U : Nat → Nat → Int64} {f : Nat} {z c a : Int64} : U62 U f z c a 9 f = 0 := by
  have e : f + 1 - 1 = f := Nat.add_sub_cancel f 1
  unfold U62
  rw [e]
  rw [uU_ne _ _ (by decide)]
  rw [uU_ne _ _ (by decide)]
  exact vp_updL_at
theorem U62_10 {U : Nat → Nat → Int64} {f : Nat} {z c a : Int64} : U62 U f z c a 10 f = c := by
  have e : f + 1 - 1 = f := Nat.add_sub_cancel f 1
  unfold U62
  rw [e]
  rw [uU_at, vp_updL_at]
theorem U62_11 {U : Nat → Nat → Int64} {f : Nat} {z c a : Int64} : U62 U f z c a 11 f = 0 := by
  have e : f + 1 - 1 = f := Nat.add_sub_cancel f 1
  unfold U62
  rw [e]
  rw [uU_ne _ _ (by decide)]
  rw [uU_ne _ _ (by decide)]
  exact vp_updL_at
theorem U62_12 {U : Nat → Nat → Int64} {f : Nat} {z c a : Int64} : U62 U f z c a 12 f = a := by
  have e : f + 1 - 1 = f := Nat.add_sub_cancel f 1
  unfold U62
  rw [e]
  rw [uU_ne _ _ (by decide)]
  rw [uU_at, vp_updL_at]
def U63 (U : Nat → Nat → Int64) (f : Nat) (z c a : Int64) (u : Nat → Int64) : Nat → Nat → Int64 := uU (uU (uU (EU U f z) 12 (vp_updL (EU U f z 12) f a)) 10 (vp_updL (EU U f z 10) f c)) 13 u
theorem U63_o {U : Nat → Nat → Int64} {f : Nat} {z c a : Int64} {u : Nat → Int64} {k : Nat} (h : k < 8 ∨ 13 < k) : U63 U f z c a u k = U k := by
  unfold U63
  rw [uU_ne _ _ (by omega), uU_ne _ _ (by omega), uU_ne _ _ (by omega)]
  exact EU_o (by omega)
theorem U63_lt {U : Nat → Nat → Int64} {f : Nat} {z c a : Int64} {u : Nat → Int64} {k i : Nat} (hk : k ≤ 12) (h : i < f) : U63 U f z c a u k i = U k i := by
  have e : f + 1 - 1 = f := Nat.add_sub_cancel f 1
  unfold U63
  rw [uU_ne _ _ (show k ≠ 13 by omega)]
  by_cases k10 : k = 10
  · rw [k10, uU_at, vp_updL_ne (by omega)]
    exact EU_lt h
  rw [uU_ne _ _ k10]
  by_cases k12 : k = 12
  · rw [k12, uU_at, vp_updL_ne (by omega)]
    exact EU_lt h
  rw [uU_ne _ _ k12]
  exact EU_lt h
theorem U63_8 {U : Nat → Nat → Int64} {f : Nat} {z c a : Int64} {u : Nat → Int64} : U63 U f z c a u 8 f = z := by
  have e : f + 1 - 1 = f := Nat.add_sub_cancel f 1
  unfold U63
  rw [uU_ne _ _ (by decide)]
  rw [uU_ne _ _ (by decide)]
  rw [uU_ne _ _ (by decide)]
  exact vp_updL_at
theorem U63_9 {U : Nat → Nat → Int64} {f : Nat} {z c a : Int64} {u : Nat → Int64} : U63 U f z c a u 9 f = 0 := by
  have e : f + 1 - 1 = f := Nat.add_sub_cancel f 1
  unfold U63
  rw [uU_ne _ _ (by decide)]
  rw [uU_ne _ _ (by decide)]
  rw [uU_ne _ _ (by decide)]
  exact vp_updL_at
theorem U63_10 {U : Nat → Nat → Int64} {f : Nat} {z c a : Int64} {u : Nat → Int64} : U63 U f z c a u 10 f = c := by
  have e : f + 1 - 1 = f := Nat.add_sub_cancel f 1
  unfold U63
  rw [uU_ne _ _ (by decide)]
  rw [uU_at, vp_updL_at]
theorem U63_11 {U : Nat → Nat → Int64} {f : Nat} {z c a : Int64} {u : Nat → Int64} : U63 U f z c a u 11 f = 0 := by
  have e : f + 1 - 1 = f := Nat.add_sub_cancel f 1
  unfold U63
  rw [uU_ne _ _ (by decide)]
  rw [uU_ne _ _ (by decide)]
  rw [uU_ne _ _ (by decide)]
  exact vp_updL_at
theorem U63_12 {U : Nat → Nat → Int64} {f : Nat} {z c a : Int64} {u : Nat → Int64} : U63 U f z c a u 12 f = a := by
  have e : f + 1 - 1 = f := Nat.add_sub_cancel f 1
  unfold U63
  rw [uU_ne _ _ (by decide)]
  rw [uU_ne _ _ (by decide)]
  rw [uU_at, vp_updL_at]
theorem jc_56 {N : Nat → Nat} {I : Nat → Int32} {L : Nat → Int64} {T : Nat → Nat → Int32} {U : Nat → Nat → Int64} {J : Nat → Int32} {S : Nat → Nat → Int32} {K : Nat → Int64} {n : Nat} {g : Nat → V} (hS : SR N n 0 I T U J S K) (hg : GG N (N 0) g (U 5) (S 1)) : COU 56 f_X3_control 24 N n I L T U J S K g := by
  have hR := hS.1
  obtain ⟨hn, e8, e4, hO⟩ := hR.1
  obtain ⟨h1f, h24, e21, e14, _⟩ := SR_E hS
  by_cases hu : N 0 < 1
  · have hc : chk 56 (N 0) g = 3 := chk_u (c := 1) (by decide +kernel) hu
    exact CO_same hS 3 (by decide) (fun h => absurd (h.symm.trans hc) (by decide)) (fun _ => hc.symm) (d_control rfl (by decide) (by decide) (yc_56 (y_56u e4 hn e14 h24 (by omega))))
  obtain ⟨u0, r0, o0⟩ := hg (N 0 - 1) (by omega)
  have v0 := ok_w0 o0
  have hc : chk 56 (N 0) g = if tk 1 (g (N 0 - 1)) = true then 0 else 4 := chk_1 (by decide +kernel) (by decide +kernel) (by omega)
  rw [if_pos (tk_1 v0)] at hc
  by_cases k0 : (g (N 0 - 1)).1 = 5 ∧ (g (N 0 - 1)).2.1 = 1
  · by_cases l24 : n = 24
    · exact CO_same hS 2 (by decide) (fun _ => x_56 (x_56l e8 hn e21 h24 u0 v0 (by omega) k0.1 k0.2 l24)) (fun h => absurd hc h) (d_control rfl (by decide) (by decide) (yc_56 (y_56l e4 hn e14 h24 r0 v0 k0.1 k0.2 (by omega) l24)))
    · exact ⟨0, uN N 0 (N 0 - 1), _, _, _, _, _, _, _, fun _ => x_56 (x_56p e8 hn e21 h24 u0 v0 (by omega) k0.1 k0.2 (by omega)), fun h => absurd hc h, d_control rfl (by decide) (by decide) (yc_56 (y_56p e4 hn e14 h24 r0 v0 k0.1 k0.2 (by omega) (by omega))), by decide, NM_0 N _, ⟨fun x a b => by rw [uI_ne _ _ (by omega), uI_ne _ _ (by omega), uI_ne _ _ (by omega)], rfl, rfl, rfl, fun x a => by rw [uI_ne _ _ (by omega), uI_ne _ _ (by omega)], rfl, rfl, rfl⟩, .inr (.inl ⟨rfl, n, g (N 0 - 1), by omega, ⟨R_cnt2 hR (by omega) rfl (fun x hx => by rw [uI_ne _ _ (by omega), uI_ne _ _ (by omega), uI_ne _ _ (by omega)]) (fun _ _ => rfl) (fun _ _ => rfl) rfl (fun x a b => by rw [uI_ne _ _ (by omega), uI_ne _ _ (by omega)]) (fun k a b => uT_ne _ _ (by omega)), RE_mono (NM_0 N _) (RE_same hS.2.1 rfl (fun _ _ _ => rfl) rfl rfl), e21, .inl rfl, hS.2.2.2.2⟩, rfl, rfl, o0, rfl, rfl, r5_cp r0, rfl, show N 0 - 1 + 1 = N 0 by omega, fun _ _ => by omega⟩)⟩
  · exact ⟨0, uN N 0 (N 0 - 1), _, _, _, _, _, _, _, fun _ => x_56 (x_56o e8 hn e21 h24 u0 v0 (by omega) k0), fun h => absurd hc h, d_control rfl (by decide) (by decide) (yc_56 (y_56o e4 hn e14 h24 r0 v0 k0 (by omega))), by decide, NM_0 N _, ⟨fun x a b => by rw [uI_ne _ _ (by omega), uI_ne _ _ (by omega), uI_ne _ _ (by omega)], rfl, rfl, rfl, fun x a => by rw [uI_ne _ _ (by omega), uI_ne _ _ (by omega)], rfl, rfl, rfl⟩, .inr (.inl ⟨rfl, n, g (N 0 - 1), by omega, ⟨R_cnt2 hR (by omega) rfl (fun x hx => by rw [uI_ne _ _ (by omega), uI_ne _ _ (by omega), uI_ne _ _ (by omega)]) (fun _ _ => rfl) (fun _ _ => rfl) rfl (fun x a b => by rw [uI_ne _ _ (by omega), uI_ne _ _ (by omega)]) (fun k a b => uT_ne _ _ (by omega)), RE_mono (NM_0 N _) (RE_same hS.2.1 rfl (fun _ _ _ => rfl) rfl rfl), e21, .inl rfl, hS.2.2.2.2⟩, rfl, rfl, o0, rfl, rfl, r5_cp r0, rfl, show N 0 - 1 + 1 = N 0 by omega, fun a b => absurd ⟨a, b⟩ k0⟩)⟩

theorem jc_57 {N : Nat → Nat} {I : Nat → Int32} {L : Nat → Int64} {T : Nat → Nat → Int32} {U : Nat → Nat → Int64} {J : Nat → Int32} {S : Nat → Nat → Int32} {K : Nat → Int64} {n : Nat} {g : Nat → V} (hS : SR N n 0 I T U J S K) (hg : GG N (N 0) g (U 5) (S 1)) : COU 57 f_X3_control 24 N n I L T U J S K g := by
  have hR := hS.1
  obtain ⟨hn, e8, e4, hO⟩ := hR.1
  obtain ⟨h1f, h24, e21, e14, _⟩ := SR_E hS
  by_cases hu : N 0 < 2
  · have hc : chk 57 (N 0) g = 3 := chk_u (c := 2) (by decide +kernel) hu
    exact CO_same hS 3 (by decide) (fun h => absurd (h.symm.trans hc) (by decide)) (fun _ => hc.symm) (d_control rfl (by decide) (by decide) (yc_57 (y_57u e4 hn e14 h24 (by omega))))
  obtain ⟨u0, r0, o0⟩ := hg (N 0 - 1) (by omega)
  have v0 := ok_w0 o0
  obtain ⟨u1, r1, o1⟩ := hg (N 0 - 2) (by omega)
  have v1 := ok_w0 o1
  have hc : chk 57 (N 0) g = if tk 4 (g (N 0 - 1)) = true ∧ tk 3 (g (N 0 - 2)) = true then 0 else 4 := chk_2 (by decide +kernel) (by decide +kernel) (by decide +kernel) (by omega)
  by_cases k0 : (g (N 0 - 1)).1 = 5 ∧ (g (N 0 - 1)).2.1 = 1
  · by_cases k1 : (g (N 0 - 2)).1 = 2
    · rw [if_pos ⟨tk_4.mpr k0, (tk_3 v1).mpr k1⟩] at hc
      by_cases hb : (g (N 0 - 2)).2.2.2 = 1
      · by_cases l24 : n = 24
        · exact CO_same hS 2 (by decide) (fun _ => x_57t e8 hn e21 h24 u0 v0 u1 v1 (by omega) hb (x_brl e8 hn e21 h24 (i_lit 2) (by omega) l24)) (fun h => absurd hc h) (d_control rfl (by decide) (by decide) (yc_57 (y_57l e4 hn e14 h24 r0 v0 r1 v1 k0.1 k0.2 k1 (by omega) l24)))
        ·
          obtain ⟨q0, q1⟩ := SR_ent (SR_cnt hS (n' := N 0 - 2) (by omega)) (by omega) (show ok (uN N 0 (N 0 - 2)) (g (N 0 - 1)) from o0) k0.1 k0.2
          by_cases l0 : (g (N 0 - 1)).2.2.1 = 0
          · exact ⟨0, uN N 0 (N 0 - 2), _, _, _, _, _, _, _, fun _ => x_57t e8 hn e21 h24 u0 v0 u1 v1 (by omega) hb (x_bre e8 hn e21 h24 (i_lit 2) (by omega) (by omega) (eV_no v0)), fun h => absurd hc h, d_control rfl (by decide) (by decide) (yc_57 (y_57y e4 hn e14 h24 r0 v0 r1 v1 k0.1 k0.2 k1 (by omega) (by omega) hb (t_enter0_2 (i := N 0 - 1) rfl (by omega) r0 v0 l0))), by decide, NM_0 N _, ⟨fun x a b => by rw [uI_ne _ _ (by omega), uI_ne _ _ (by omega)], rfl, rfl, rfl, fun x a => by rw [uI_ne _ _ (by omega)], rfl, rfl, rfl⟩, .inl ⟨n, 1, by omega, q0 l0, fun h => absurd rfl h, rfl, rfl, rfl, rfl⟩⟩
          · exact ⟨0, uN N 0 (N 0 - 2), _, _, _, _, _, _, _, fun _ => x_57t e8 hn e21 h24 u0 v0 u1 v1 (by omega) hb (x_bre e8 hn e21 h24 (i_lit 2) (by omega) (by omega) (eV_no v0)), fun h => absurd hc h, d_control rfl (by decide) (by decide) (yc_57 (y_57y e4 hn e14 h24 r0 v0 r1 v1 k0.1 k0.2 k1 (by omega) (by omega) hb (t_enter1_2 (i := N 0 - 1) rfl (by omega) r0 v0 (show uI J 4 _ 14 = nI n from e14) (by omega) (by omega)))), by decide, NM_0 N _, ⟨fun x a b => by rw [uI_ne _ _ (by omega), uI_ne _ _ (by omega)], rfl, rfl, rfl, fun x a => by rw [uI_ne _ _ (by omega), uI_ne _ _ (by omega)], rfl, rfl, rfl⟩, .inl ⟨n + 1, 0, by omega, q1 (by omega), fun h => absurd rfl h, rfl, rfl, rfl, rfl⟩⟩
      · by_cases l24 : n = 24
        · exact CO_same hS 2 (by decide) (fun _ => x_57f e8 hn e21 h24 u0 v0 u1 v1 (by omega) hb (x_brl e8 hn e21 h24 (i_lit 2) (by omega) l24)) (fun h => absurd hc h) (d_control rfl (by decide) (by decide) (yc_57 (y_57l e4 hn e14 h24 r0 v0 r1 v1 k0.1 k0.2 k1 (by omega) l24)))
        · exact ⟨0, uN N 0 (N 0 - 2), _, _, _, _, _, _, _, fun _ => x_57f e8 hn e21 h24 u0 v0 u1 v1 (by omega) hb (x_brn e8 hn e21 h24 (i_lit 2) (by omega) (by omega) rfl), fun h => absurd hc h, d_control rfl (by decide) (by decide) (yc_57 (y_57n e4 hn e14 h24 r0 v0 r1 v1 k0.1 k0.2 k1 (by omega) (by omega) hb)), by decide, NM_0 N _, ⟨fun x a b => by rw [uI_ne _ _ (by omega)], rfl, rfl, rfl, fun x a => by rw [uI_ne _ _ (by omega)], rfl, rfl, rfl⟩, .inl ⟨n, 0, by omega, SR_cnt hS (by omega), fun h => absurd rfl h, rfl, rfl, rfl, rfl⟩⟩
    · rw [if_neg (fun h => k1 ((tk_3 v1).mp h.2))] at hc
      exact CO_same hS 4 (by decide) (fun h => absurd (h.symm.trans hc) (by decide)) (fun _ => hc.symm) (d_control rfl (by decide) (by decide) (yc_57 (y_57b e4 hn e14 h24 r0 v0 r1 v1 k0.1 k0.2 k1 (by omega))))
  · rw [if_neg (fun h => k0 (tk_4.mp h.1))] at hc
    exact CO_same hS 4 (by decide) (fun h => absurd (h.symm.trans hc) (by decide)) (fun _ => hc.symm) (d_control rfl (by decide) (by decide) (yc_57 (y_57t e4 hn e14 h24 r0 v0 k0 (by omega))))

theorem jc_58 {N : Nat → Nat} {I : Nat → Int32} {L : Nat → Int64} {T : Nat → Nat → Int32} {U : Nat → Nat → Int64} {J : Nat → Int32} {S : Nat → Nat → Int32} {K : Nat → Int64} {n : Nat} {g : Nat → V} (hS : SR N n 0 I T U J S K) (hg : GG N (N 0) g (U 5) (S 1)) : COU 58 f_X3_control 24 N n I L T U J S K g := by
  have hR := hS.1
  obtain ⟨hn, e8, e4, hO⟩ := hR.1
  obtain ⟨h1f, h24, e21, e14, _⟩ := SR_E hS
  by_cases hu : N 0 < 3
  · have hc : chk 58 (N 0) g = 3 := chk_u (c := 3) (by decide +kernel) hu
    exact CO_same hS 3 (by decide) (fun h => absurd (h.symm.trans hc) (by decide)) (fun _ => hc.symm) (d_control rfl (by decide) (by decide) (yc_58 (y_58u e4 hn e14 h24 (by omega))))
  obtain ⟨u0, r0, o0⟩ := hg (N 0 - 1) (by omega)
  have v0 := ok_w0 o0
  obtain ⟨u1, r1, o1⟩ := hg (N 0 - 2) (by omega)
  have v1 := ok_w0 o1
  obtain ⟨u2, r2, o2⟩ := hg (N 0 - 3) (by omega)
  have v2 := ok_w0 o2
  have hc : chk 58 (N 0) g = if tk 4 (g (N 0 - 1)) = true ∧ tk 4 (g (N 0 - 2)) = true ∧ tk 3 (g (N 0 - 3)) = true then 0 else 4 := chk_3 (by decide +kernel) (by decide +kernel) (by decide +kernel) (by decide +kernel) (by omega)
  by_cases k0 : (g (N 0 - 1)).1 = 5 ∧ (g (N 0 - 1)).2.1 = 1
  · by_cases k1 : (g (N 0 - 2)).1 = 5 ∧ (g (N 0 - 2)).2.1 = 1
    · by_cases k2 : (g (N 0 - 3)).1 = 2
      · rw [if_pos ⟨tk_4.mpr k0, tk_4.mpr k1, (tk_3 v2).mpr k2⟩] at hc
        by_cases hb : (g (N 0 - 3)).2.2.2 = 1
        · by_cases l24 : n = 24
          · exact CO_same hS 2 (by decide) (fun _ => x_58t e8 hn e21 h24 u0 v0 u1 v1 u2 v2 (by omega) hb (x_brl e8 hn e21 h24 (i_lit 3) (by omega) l24)) (fun h => absurd hc h) (d_control rfl (by decide) (by decide) (yc_58 (y_58l e4 hn e14 h24 r0 v0 r1 v1 r2 v2 k0.1 k0.2 k1.1 k1.2 k2 (by omega) l24)))
          ·
            obtain ⟨q0, q1⟩ := SR_ent (SR_cnt hS (n' := N 0 - 3) (by omega)) (by omega) (show ok (uN N 0 (N 0 - 3)) (g (N 0 - 2)) from o1) k1.1 k1.2
            by_cases l0 : (g (N 0 - 2)).2.2.1 = 0
            · exact ⟨0, uN N 0 (N 0 - 3), _, _, _, _, _, _, _, fun _ => x_58t e8 hn e21 h24 u0 v0 u1 v1 u2 v2 (by omega) hb (x_bre e8 hn e21 h24 (i_lit 3) (by omega) (by omega) (eV_no v1)), fun h => absurd hc h, d_control rfl (by decide) (by decide) (yc_58 (y_58y e4 hn e14 h24 r0 v0 r1 v1 r2 v2 k0.1 k0.2 k1.1 k1.2 k2 (by omega) (by omega) hb (t_enter0_2 (i := N 0 - 2) rfl (by omega) r1 v1 l0))), by decide, NM_0 N _, ⟨fun x a b => by rw [uI_ne _ _ (by omega), uI_ne _ _ (by omega)], rfl, rfl, rfl, fun x a => by rw [uI_ne _ _ (by omega)], rfl, rfl, rfl⟩, .inl ⟨n, 1, by omega, q0 l0, fun h => absurd rfl h, rfl, rfl, rfl, rfl⟩⟩
            · exact ⟨0, uN N 0 (N 0 - 3), _, _, _, _, _, _, _, fun _ => x_58t e8 hn e21 h24 u0 v0 u1 v1 u2 v2 (by omega) hb (x_bre e8 hn e21 h24 (i_lit 3) (by omega) (by omega) (eV_no v1)), fun h => absurd hc h, d_control rfl (by decide) (by decide) (yc_58 (y_58y e4 hn e14 h24 r0 v0 r1 v1 r2 v2 k0.1 k0.2 k1.1 k1.2 k2 (by omega) (by omega) hb (t_enter1_2 (i := N 0 - 2) rfl (by omega) r1 v1 (show uI J 4 _ 14 = nI n from e14) (by omega) (by omega)))), by decide, NM_0 N _, ⟨fun x a b => by rw [uI_ne _ _ (by omega), uI_ne _ _ (by omega)], rfl, rfl, rfl, fun x a => by rw [uI_ne _ _ (by omega), uI_ne _ _ (by omega)], rfl, rfl, rfl⟩, .inl ⟨n + 1, 0, by omega, q1 (by omega), fun h => absurd rfl h, rfl, rfl, rfl, rfl⟩⟩
        · by_cases l24 : n = 24
          · exact CO_same hS 2 (by decide) (fun _ => x_58f e8 hn e21 h24 u0 v0 u1 v1 u2 v2 (by omega) hb (x_brl e8 hn e21 h24 (i_lit 3) (by omega) l24)) (fun h => absurd hc h) (d_control rfl (by decide) (by decide) (yc_58 (y_58l e4 hn e14 h24 r0 v0 r1 v1 r2 v2 k0.1 k0.2 k1.1 k1.2 k2 (by omega) l24)))
          ·
            obtain ⟨q0, q1⟩ := SR_ent (SR_cnt hS (n' := N 0 - 3) (by omega)) (by omega) (show ok (uN N 0 (N 0 - 3)) (g (N 0 - 1)) from o0) k0.1 k0.2
            by_cases l0 : (g (N 0 - 1)).2.2.1 = 0
            · exact ⟨0, uN N 0 (N 0 - 3), _, _, _, _, _, _, _, fun _ => x_58f e8 hn e21 h24 u0 v0 u1 v1 u2 v2 (by omega) hb (x_bre e8 hn e21 h24 (i_lit 3) (by omega) (by omega) (eV_no v0)), fun h => absurd hc h, d_control rfl (by decide) (by decide) (yc_58 (y_58n e4 hn e14 h24 r0 v0 r1 v1 r2 v2 k0.1 k0.2 k1.1 k1.2 k2 (by omega) (by omega) hb (t_enter0_2 (i := N 0 - 1) rfl (by omega) r0 v0 l0))), by decide, NM_0 N _, ⟨fun x a b => by rw [uI_ne _ _ (by omega), uI_ne _ _ (by omega)], rfl, rfl, rfl, fun x a => by rw [uI_ne _ _ (by omega)], rfl, rfl, rfl⟩, .inl ⟨n, 1, by omega, q0 l0, fun h => absurd rfl h, rfl, rfl, rfl, rfl⟩⟩
            · exact ⟨0, uN N 0 (N 0 - 3), _, _, _, _, _, _, _, fun _ => x_58f e8 hn e21 h24 u0 v0 u1 v1 u2 v2 (by omega) hb (x_bre e8 hn e21 h24 (i_lit 3) (by omega) (by omega) (eV_no v0)), fun h => absurd hc h, d_control rfl (by decide) (by decide) (yc_58 (y_58n e4 hn e14 h24 r0 v0 r1 v1 r2 v2 k0.1 k0.2 k1.1 k1.2 k2 (by omega) (by omega) hb (t_enter1_2 (i := N 0 - 1) rfl (by omega) r0 v0 (show uI J 4 _ 14 = nI n from e14) (by omega) (by omega)))), by decide, NM_0 N _, ⟨fun x a b => by rw [uI_ne _ _ (by omega), uI_ne _ _ (by omega)], rfl, rfl, rfl, fun x a => by rw [uI_ne _ _ (by omega), uI_ne _ _ (by omega)], rfl, rfl, rfl⟩, .inl ⟨n + 1, 0, by omega, q1 (by omega), fun h => absurd rfl h, rfl, rfl, rfl, rfl⟩⟩
      · rw [if_neg (fun h => k2 ((tk_3 v2).mp h.2.2))] at hc
        exact CO_same hS 4 (by decide) (fun h => absurd (h.symm.trans hc) (by decide)) (fun _ => hc.symm) (d_control rfl (by decide) (by decide) (yc_58 (y_58b e4 hn e14 h24 r0 v0 r1 v1 r2 v2 k0.1 k0.2 k1.1 k1.2 k2 (by omega))))
    · rw [if_neg (fun h => k1 (tk_4.mp h.2.1))] at hc
      exact CO_same hS 4 (by decide) (fun h => absurd (h.symm.trans hc) (by decide)) (fun _ => hc.symm) (d_control rfl (by decide) (by decide) (yc_58 (y_58t e4 hn e14 h24 r0 v0 r1 v1 k0.1 k0.2 k1 (by omega))))
  · rw [if_neg (fun h => k0 (tk_4.mp h.1))] at hc
    exact CO_same hS 4 (by decide) (fun h => absurd (h.symm.trans hc) (by decide)) (fun _ => hc.symm) (d_control rfl (by decide) (by decide) (yc_58 (y_58s e4 hn e14 h24 r0 v0 k0 (by omega))))

theorem jc_59 {N : Nat → Nat} {I : Nat → Int32} {L : Nat → Int64} {T : Nat → Nat → Int32} {U : Nat → Nat → Int64} {J : Nat → Int32} {S : Nat → Nat → Int32} {K : Nat → Int64} {n : Nat} {g : Nat → V} (hS : SR N n 0 I T U J S K) (hg : GG N (N 0) g (U 5) (S 1)) : COU 59 f_X3_control 24 N n I L T U J S K g := by
  have hR := hS.1
  obtain ⟨hn, e8, e4, hO⟩ := hR.1
  obtain ⟨h1f, h24, e21, e14, _⟩ := SR_E hS
  by_cases hu : N 0 < 4
  · have hc : chk 59 (N 0) g = 3 := chk_u (c := 4) (by decide +kernel) hu
    exact CO_same hS 3 (by decide) (fun h => absurd (h.symm.trans hc) (by decide)) (fun _ => hc.symm) (d_control rfl (by decide) (by decide) (yc_59 (y_59u e4 hn e14 h24 (by omega))))
  obtain ⟨u0, r0, o0⟩ := hg (N 0 - 1) (by omega)
  have v0 := ok_w0 o0
  obtain ⟨u1, r1, o1⟩ := hg (N 0 - 2) (by omega)
  have v1 := ok_w0 o1
  obtain ⟨u2, r2, o2⟩ := hg (N 0 - 3) (by omega)
  have v2 := ok_w0 o2
  obtain ⟨u3, r3, o3⟩ := hg (N 0 - 4) (by omega)
  have v3 := ok_w0 o3
  have hc : chk 59 (N 0) g = if tk 4 (g (N 0 - 1)) = true ∧ tk 2 (g (N 0 - 2)) = true ∧ tk 2 (g (N 0 - 3)) = true ∧ tk 2 (g (N 0 - 4)) = true then 0 else 4 := chk_4 (by decide +kernel) (by decide +kernel) (by decide +kernel) (by decide +kernel) (by decide +kernel) (by omega)
  by_cases k0 : (g (N 0 - 1)).1 = 5 ∧ (g (N 0 - 1)).2.1 = 1
  · by_cases k1 : (g (N 0 - 2)).1 = 1
    · by_cases k2 : (g (N 0 - 3)).1 = 1
      · by_cases k3 : (g (N 0 - 4)).1 = 1
        · rw [if_pos ⟨tk_4.mpr k0, (tk_2 v1).mpr k1, (tk_2 v2).mpr k2, (tk_2 v3).mpr k3⟩] at hc
          by_cases hz : (g (N 0 - 3)).2.2.2 = 0
          · exact CO_same hS 6 (by decide) (fun _ => x_59 (x_59z e8 hn e21 h24 u0 v0 u1 v1 u2 v2 u3 v3 (by omega) hz)) (fun h => absurd hc h) (d_control rfl (by decide) (by decide) (yc_59 (y_59z e4 hn e14 h24 r0 v0 r1 v1 r2 v2 r3 v3 k0.1 k0.2 k1 k2 k3 hz (by omega))))
          · by_cases hl : 22 < n
            · exact CO_same hS 2 (by decide) (fun _ => x_59 (x_59l e8 hn e21 h24 u0 v0 u1 v1 u2 v2 u3 v3 (by omega) hz hl)) (fun h => absurd hc h) (d_control rfl (by decide) (by decide) (yc_59 (y_59l e4 hn e14 h24 r0 v0 r1 v1 r2 v2 r3 v3 k0.1 k0.2 k1 k2 k3 hz (by omega) hl)))
            · obtain ⟨s, q1, q2, q3, q4⟩ := t_begin (I := J) (T := uT S 12 (upd (upd (S 12) (12 * n + 6) (g (N 0 - 3)).2.2.2) (12 * n + 7) (g (N 0 - 2)).2.2.2)) (K := vp_updL K n (g (N 0 - 4)).2.2.2.toInt64) (a := 3) (b := 4) (k := 4) e4 hn e14 h24 (by omega) rfl (by omega) (by omega)
              refine ⟨0, uN N 0 (N 0 - 4), _, _, _, (U59 U n (eV (g (N 0 - 1))) (g (N 0 - 2)).2.2.2.toInt64 (g (N 0 - 3)).2.2.2.toInt64 (g (N 0 - 4)).2.2.2.toInt64), _, _, _, fun _ => x_59 (x_59a e8 hn e21 h24 u0 v0 u1 v1 u2 v2 u3 v3 (by omega) hz (by omega)), fun h => absurd hc h, d_control rfl (by decide) (by decide) (yc_59 (y_59 e4 hn e14 h24 r0 v0 r1 v1 r2 v2 r3 v3 k0.1 k0.2 k1 k2 k3 hz (by omega) (by omega) q1)), by decide, NM_0 N _, ⟨fun x a b => by rw [uI_ne _ _ (by omega), uI_ne _ _ (by omega)], rfl, rfl, rfl, fun x a => by rw [uI_ne _ _ (by omega), uI_ne _ _ (by omega)], rfl, rfl, rfl⟩, .inl ⟨n + 1, 0, by omega, SR_loop hS (by omega) (by omega) rfl rfl (fun x hx => by rw [uI_ne _ _ (by omega), uI_ne _ _ (by omega)]) (fun k hk => uT_ne _ _ hk) (fun i hi => by rw [uT_at, upd_ne (by omega)]) (fun k hk => U59_o (by omega)) (fun k a b i hi => U59_lt b hi) (fun i hi => by rw [U59_o (by omega)]) rfl rfl (fun x a b => by rw [uI_ne _ _ (by omega), uI_ne _ _ (by omega)]) (fun k hk => by rw [uT_ne _ _ (by omega), uT_ne _ _ (by omega)]) (fun i hi => (q4 i (by omega)).trans (by rw [uT_at, upd_ne (by omega), upd_ne (by omega)])) (fun _ _ => rfl) (fun i hi => vp_updL_ne (by omega)) (.inr (.inr ⟨g (N 0 - 1), by omega, k0.1, k0.2, o0, U59_8, ⟨(q3 0 (by decide)).trans r0.1, (q3 1 (by decide)).trans r0.2.1, (q3 2 (by decide)).trans r0.2.2.1, (q3 3 (by decide)).trans r0.2.2.2⟩, ?_⟩)), fun h => absurd rfl h, rfl, rfl, rfl, rfl⟩⟩
              refine .inl ⟨(g (N 0 - 3)).2.2.2, (g (N 0 - 2)).2.2.2, ?_, q2, hz, ?_, U59_11, ?_, U59_10, ?_⟩
              · rw [uT_at, upd_at]
                rfl
              · exact U59_9.trans vp_updL_at.symm
              · exact (q4 _ (by omega)).trans (by rw [uT_at, upd_ne (by omega), upd_at])
              · exact (q4 _ (by omega)).trans (by rw [uT_at, upd_at])
        · rw [if_neg (fun h => k3 ((tk_2 v3).mp h.2.2.2))] at hc
          exact CO_same hS 4 (by decide) (fun h => absurd (h.symm.trans hc) (by decide)) (fun _ => hc.symm) (d_control rfl (by decide) (by decide) (yc_59 (y_59a3 e4 hn e14 h24 r0 v0 r1 v1 r2 v2 r3 v3 k0.1 k0.2 k1 k2 k3 (by omega))))
      · rw [if_neg (fun h => k2 ((tk_2 v2).mp h.2.2.1))] at hc
        exact CO_same hS 4 (by decide) (fun h => absurd (h.symm.trans hc) (by decide)) (fun _ => hc.symm) (d_control rfl (by decide) (by decide) (yc_59 (y_59a2 e4 hn e14 h24 r0 v0 r1 v1 r2 v2 k0.1 k0.2 k1 k2 (by omega))))
    · rw [if_neg (fun h => k1 ((tk_2 v1).mp h.2.1))] at hc
      exact CO_same hS 4 (by decide) (fun h => absurd (h.symm.trans hc) (by decide)) (fun _ => hc.symm) (d_control rfl (by decide) (by decide) (yc_59 (y_59a1 e4 hn e14 h24 r0 v0 r1 v1 k0.1 k0.2 k1 (by omega))))
  · rw [if_neg (fun h => k0 (tk_4.mp h.1))] at hc
    exact CO_same hS 4 (by decide) (fun h => absurd (h.symm.trans hc) (by decide)) (fun _ => hc.symm) (d_control rfl (by decide) (by decide) (yc_59 (y_59p e4 hn e14 h24 r0 v0 k0 (by omega))))

theorem jc_60 {N : Nat → Nat} {I : Nat → Int32} {L : Nat → Int64} {T : Nat → Nat → Int32} {U : Nat → Nat → Int64} {J : Nat → Int32} {S : Nat → Nat → Int32} {K : Nat → Int64} {n : Nat} {g : Nat → V} (hS : SR N n 0 I T U J S K) (hg : GG N (N 0) g (U 5) (S 1)) : COU 60 f_X3_control 24 N n I L T U J S K g := by
  have hR := hS.1
  obtain ⟨hn, e8, e4, hO⟩ := hR.1
  obtain ⟨h1f, h24, e21, e14, _⟩ := SR_E hS
  by_cases hu : N 0 < 2
  · have hc : chk 60 (N 0) g = 3 := chk_u (c := 2) (by decide +kernel) hu
    exact CO_same hS 3 (by decide) (fun h => absurd (h.symm.trans hc) (by decide)) (fun _ => hc.symm) (d_control rfl (by decide) (by decide) (yc_60 (y_60u e4 hn e14 h24 (by omega))))
  obtain ⟨u0, r0, o0⟩ := hg (N 0 - 1) (by omega)
  have v0 := ok_w0 o0
  obtain ⟨u1, r1, o1⟩ := hg (N 0 - 2) (by omega)
  have v1 := ok_w0 o1
  have hc : chk 60 (N 0) g = if tk 4 (g (N 0 - 1)) = true ∧ tk 2 (g (N 0 - 2)) = true then 0 else 4 := chk_2 (by decide +kernel) (by decide +kernel) (by decide +kernel) (by omega)
  by_cases k0 : (g (N 0 - 1)).1 = 5 ∧ (g (N 0 - 1)).2.1 = 1
  · by_cases k1 : (g (N 0 - 2)).1 = 1
    · rw [if_pos ⟨tk_4.mpr k0, (tk_2 v1).mpr k1⟩] at hc
      rcases neg_or (g (N 0 - 2)).2.2.2 with hv | ⟨x, hb, ek⟩
      · exact CO_same hS 6 (by decide) (fun _ => x_60 (x_60n e8 hn e21 h24 u0 v0 u1 v1 (by omega) hv)) (fun h => absurd hc h) (d_control rfl (by decide) (by decide) (yc_60 (y_60n e4 hn e14 h24 r0 v0 r1 v1 k0.1 k0.2 k1 hv (by omega))))
      · by_cases hl : 22 < n
        · exact CO_same hS 2 (by decide) (fun _ => x_60 (x_60l e8 hn e21 h24 u0 v0 u1 v1 (by omega) ek hb hl)) (fun h => absurd hc h) (d_control rfl (by decide) (by decide) (yc_60 (y_60l e4 hn e14 h24 r0 v0 r1 v1 k0.1 k0.2 k1 ek hb (by omega) hl)))
        · obtain ⟨s, q1, q2, q3, q4⟩ := t_begin (I := J) (T := S) (K := vp_updL K n (g (N 0 - 2)).2.2.2.toInt64) (a := 4) (b := 2) (k := 2) e4 hn e14 h24 (by omega) rfl (by omega) (by omega)
          have hx : ((g (N 0 - 2)).2.2.2).toInt64 = lN x := by rw [ek, nI_l (by omega)]
          refine ⟨0, uN N 0 (N 0 - 2), _, _, _, _, _, _, _, fun _ => x_60 (x_60a e8 hn e21 h24 u0 v0 u1 v1 (by omega) ek hb (by omega)), fun h => absurd hc h, d_control rfl (by decide) (by decide) (yc_60 (y_60 e4 hn e14 h24 r0 v0 r1 v1 k0.1 k0.2 k1 ek hb (by omega) (by omega) q1)), by decide, NM_0 N _, ⟨fun x a b => by rw [uI_ne _ _ (by omega), uI_ne _ _ (by omega)], rfl, rfl, rfl, fun x a => by rw [uI_ne _ _ (by omega), uI_ne _ _ (by omega)], rfl, rfl, rfl⟩, .inl ⟨n + 1, 0, by omega, SR_loop hS (by omega) (by omega) rfl rfl (fun x hx => by rw [uI_ne _ _ (by omega), uI_ne _ _ (by omega)]) (fun k hk => uT_ne _ _ hk) (fun i hi => by rw [uT_at, upd_ne (by omega)]) (fun k hk => by rw [uU_ne _ _ (by omega)]; exact EU_o (by omega)) (fun k a b i hi => ((uv_lt (by omega)).trans (EU_lt hi))) (fun i hi => rfl) rfl rfl (fun x a b => by rw [uI_ne _ _ (by omega), uI_ne _ _ (by omega)]) (fun k hk => by rw [uT_ne _ _ (by omega)]) (fun i hi => q4 i (by omega)) (fun _ _ => rfl) (fun i hi => vp_updL_ne (by omega)) (.inr (.inr ⟨g (N 0 - 1), by omega, k0.1, k0.2, o0, vp_updL_at, ⟨(q3 0 (by decide)).trans r0.1, (q3 1 (by decide)).trans r0.2.1, (q3 2 (by decide)).trans r0.2.2.1, (q3 3 (by decide)).trans r0.2.2.2⟩, ?_⟩)), fun h => absurd rfl h, rfl, rfl, rfl, rfl⟩⟩
          refine .inr (.inl ⟨x, hb, ?_, q2, ?_, ?_⟩)
          · rw [uT_at, upd_at]
            rfl
          · exact vp_updL_at.trans hx
          · exact vp_updL_at.trans hx
    · rw [if_neg (fun h => k1 ((tk_2 v1).mp h.2))] at hc
      exact CO_same hS 4 (by decide) (fun h => absurd (h.symm.trans hc) (by decide)) (fun _ => hc.symm) (d_control rfl (by decide) (by decide) (yc_60 (y_60t e4 hn e14 h24 r0 v0 r1 v1 k0.1 k0.2 k1 (by omega))))
  · rw [if_neg (fun h => k0 (tk_4.mp h.1))] at hc
    exact CO_same hS 4 (by decide) (fun h => absurd (h.symm.trans hc) (by decide)) (fun _ => hc.symm) (d_control rfl (by decide) (by decide) (yc_60 (y_60p e4 hn e14 h24 r0 v0 k0 (by omega))))

theorem jc_61 {N : Nat → Nat} {I : Nat → Int32} {L : Nat → Int64} {T : Nat → Nat → Int32} {U : Nat → Nat → Int64} {J : Nat → Int32} {S : Nat → Nat → Int32} {K : Nat → Int64} {n : Nat} {g : Nat → V} (hS : SR N n 0 I T U J S K) (hg : GG N (N 0) g (U 5) (S 1)) : COU 61 f_X3_control 24 N n I L T U J S K g := by
  have hR := hS.1
  obtain ⟨hn, e8, e4, hO⟩ := hR.1
  obtain ⟨h1f, h24, e21, e14, _⟩ := SR_E hS
  by_cases hu : N 0 < 1
  · have hc : chk 61 (N 0) g = 3 := chk_u (c := 1) (by decide +kernel) hu
    exact CO_same hS 3 (by decide) (fun h => absurd (h.symm.trans hc) (by decide)) (fun _ => hc.symm) (d_control rfl (by decide) (by decide) (yc_61 (y_61u e4 hn e14 h24 (by omega))))
  obtain ⟨u0, r0, o0⟩ := hg (N 0 - 1) (by omega)
  have v0 := ok_w0 o0
  have hc : chk 61 (N 0) g = if tk 4 (g (N 0 - 1)) = true then 0 else 4 := chk_1 (by decide +kernel) (by decide +kernel) (by omega)
  by_cases k0 : (g (N 0 - 1)).1 = 5 ∧ (g (N 0 - 1)).2.1 = 1
  · rw [if_pos (tk_4.mpr k0)] at hc
    by_cases hl : 22 < n
    · exact CO_same hS 2 (by decide) (fun _ => x_61 (x_ell e8 hn e21 h24 (i_lit 1) (by omega) hl)) (fun h => absurd hc h) (d_control rfl (by decide) (by decide) (yc_61 (y_61l e4 hn e14 h24 r0 v0 k0.1 k0.2 (by omega) hl)))
    · obtain ⟨s, q1, q2, q3, q4⟩ := t_begin (I := J) (T := S) (K := K) (a := 5) (b := 1) (k := 1) e4 hn e14 h24 (by omega) rfl (by omega) (by omega)
      refine ⟨0, uN N 0 (N 0 - 1), _, _, _, _, _, _, _, fun _ => x_61 (x_ela e8 hn e21 h24 u0 v0 (i_lit 1) (by omega) (by omega) (by omega)), fun h => absurd hc h, d_control rfl (by decide) (by decide) (yc_61 (y_61 e4 hn e14 h24 r0 v0 k0.1 k0.2 (by omega) (by omega) q1)), by decide, NM_0 N _, ⟨fun x a b => by rw [uI_ne _ _ (by omega), uI_ne _ _ (by omega)], rfl, rfl, rfl, fun x a => by rw [uI_ne _ _ (by omega), uI_ne _ _ (by omega)], rfl, rfl, rfl⟩, .inl ⟨n + 1, 0, by omega, SR_loop hS (by omega) (by omega) rfl rfl (fun x hx => by rw [uI_ne _ _ (by omega), uI_ne _ _ (by omega)]) (fun k hk => uT_ne _ _ hk) (fun i hi => by rw [uT_at, upd_ne (by omega)]) (fun k hk => EU_o (by omega)) (fun k a b i hi => (EU_lt hi)) (fun i hi => rfl) rfl rfl (fun x a b => by rw [uI_ne _ _ (by omega), uI_ne _ _ (by omega)]) (fun k hk => by rw [uT_ne _ _ (by omega)]) (fun i hi => q4 i (by omega)) (fun _ _ => rfl) (fun _ _ => rfl) (.inr (.inr ⟨g (N 0 - 1), by omega, k0.1, k0.2, o0, vp_updL_at, ⟨(q3 0 (by decide)).trans r0.1, (q3 1 (by decide)).trans r0.2.1, (q3 2 (by decide)).trans r0.2.2.1, (q3 3 (by decide)).trans r0.2.2.2⟩, ?_⟩)), fun h => absurd rfl h, rfl, rfl, rfl, rfl⟩⟩
      refine .inr (.inr (.inl ⟨?_, q2⟩))
      rw [uT_at, upd_at]
      rfl
  · rw [if_neg (fun h => k0 (tk_4.mp h))] at hc
    exact CO_same hS 4 (by decide) (fun h => absurd (h.symm.trans hc) (by decide)) (fun _ => hc.symm) (d_control rfl (by decide) (by decide) (yc_61 (y_61p e4 hn e14 h24 r0 v0 k0 (by omega))))

theorem jc_62 {N : Nat → Nat} {I : Nat → Int32} {L : Nat → Int64} {T : Nat → Nat → Int32} {U : Nat → Nat → Int64} {J : Nat → Int32} {S : Nat → Nat → Int32} {K : Nat → Int64} {n : Nat} {g : Nat → V} (hS : SR N n 0 I T U J S K) (hg : GG N (N 0) g (U 5) (S 1)) : COU 62 f_X3_control 24 N n I L T U J S K g := by
  have hR := hS.1
  obtain ⟨hn, e8, e4, hO⟩ := hR.1
  obtain ⟨h1f, h24, e21, e14, _⟩ := SR_E hS
  by_cases hu : N 0 < 2
  · have hc : chk 62 (N 0) g = 3 := chk_u (c := 2) (by decide +kernel) hu
    exact CO_same hS 3 (by decide) (fun h => absurd (h.symm.trans hc) (by decide)) (fun _ => hc.symm) (d_control rfl (by decide) (by decide) (yc_62 (y_62u e4 hn e14 h24 (by omega))))
  obtain ⟨u0, r0, o0⟩ := hg (N 0 - 1) (by omega)
  have v0 := ok_w0 o0
  obtain ⟨u1, r1, o1⟩ := hg (N 0 - 2) (by omega)
  have v1 := ok_w0 o1
  have hc : chk 62 (N 0) g = if tk 4 (g (N 0 - 1)) = true ∧ tk 10 (g (N 0 - 2)) = true then 0 else 4 := chk_2 (by decide +kernel) (by decide +kernel) (by decide +kernel) (by omega)
  by_cases k0 : (g (N 0 - 1)).1 = 5 ∧ (g (N 0 - 1)).2.1 = 1
  · by_cases k1 : (g (N 0 - 2)).1 = 5 ∨ (g (N 0 - 2)).1 = 6 ∨ (g (N 0 - 2)).1 = 7
    · rw [if_pos ⟨tk_4.mpr k0, (tk_10 v1).mpr k1⟩] at hc
      by_cases hl : 22 < n
      · rcases k1 with kk | kk | kk
        · exact CO_same hS 2 (by decide) (fun _ => x_62 (x_62l e8 hn e21 h24 u0 v0 u1 v1 (by omega) hl)) (fun h => absurd hc h) (d_control rfl (by decide) (by decide) (yc_62 (y_62l5 e4 hn e14 h24 r0 v0 r1 v1 k0.1 k0.2 kk (by omega) hl)))
        · exact CO_same hS 2 (by decide) (fun _ => x_62 (x_62l e8 hn e21 h24 u0 v0 u1 v1 (by omega) hl)) (fun h => absurd hc h) (d_control rfl (by decide) (by decide) (yc_62 (y_62l6 e4 hn e14 h24 r0 v0 r1 v1 k0.1 k0.2 kk (by omega) hl)))
        · exact CO_same hS 2 (by decide) (fun _ => x_62 (x_62l e8 hn e21 h24 u0 v0 u1 v1 (by omega) hl)) (fun h => absurd hc h) (d_control rfl (by decide) (by decide) (yc_62 (y_62ld e4 hn e14 h24 r0 v0 r1 v1 k0.1 k0.2 kk (by omega) hl)))
      · rcases k1 with kk | kk | kk
        ·   obtain ⟨s, q1, q2, q3, q4⟩ := t_begin (I := J) (T := uT S 12 (upd (upd (upd (S 12) (12 * n + 6) (nI (g (N 0 - 2)).1)) (12 * n + 7) (g (N 0 - 2)).2.2.2) (12 * n + 8) (nI (g (N 0 - 2)).2.2.1))) (K := vp_updL K n 0) (a := 6) (b := 2) (k := 2) e4 hn e14 h24 (by omega) rfl (by omega) (by omega)
            refine ⟨0, uN N 0 (N 0 - 2), _, _, _, (U62 U n (eV (g (N 0 - 1))) (nI (g (N 0 - 2)).2.2.1).toInt64 (eV (g (N 0 - 2)))), _, _, _, fun _ => x_62 (x_62a e8 hn e21 h24 u0 v0 u1 v1 (by omega) (by omega) (by omega)), fun h => absurd hc h, d_control rfl (by decide) (by decide) (yc_62 (y_62_5 e4 hn e14 h24 r0 v0 r1 v1 k0.1 k0.2 kk (by omega) (by omega) q1)), by decide, NM_0 N _, ⟨fun x a b => by rw [uI_ne _ _ (by omega), uI_ne _ _ (by omega)], rfl, rfl, rfl, fun x a => by rw [uI_ne _ _ (by omega), uI_ne _ _ (by omega)], rfl, rfl, rfl⟩, .inl ⟨n + 1, 0, by omega, SR_loop hS (by omega) (by omega) rfl rfl (fun x hx => by rw [uI_ne _ _ (by omega), uI_ne _ _ (by omega)]) (fun k hk => uT_ne _ _ hk) (fun i hi => by rw [uT_at, upd_ne (by omega)]) (fun k hk => U62_o (by omega)) (fun k a b i hi => U62_lt b hi) (fun i hi => by rw [U62_o (by omega)]) rfl rfl (fun x a b => by rw [uI_ne _ _ (by omega), uI_ne _ _ (by omega)]) (fun k hk => by rw [uT_ne _ _ (by omega), uT_ne _ _ (by omega)]) (fun i hi => (q4 i (by omega)).trans (by rw [uT_at, upd_ne (by omega), upd_ne (by omega), upd_ne (by omega)])) (fun _ _ => rfl) (fun i hi => vp_updL_ne (by omega)) (.inr (.inr ⟨g (N 0 - 1), by omega, k0.1, k0.2, o0, U62_8, ⟨(q3 0 (by decide)).trans r0.1, (q3 1 (by decide)).trans r0.2.1, (q3 2 (by decide)).trans r0.2.2.1, (q3 3 (by decide)).trans r0.2.2.2⟩, ?_⟩)), fun h => absurd rfl h, rfl, rfl, rfl, rfl⟩⟩
            refine .inr (.inr (.inr (.inl ⟨g (N 0 - 2), 0, by omega, o1, by omega, ?_, q2, U62_12, U62_9, vp_updL_at, ?_, ?_, ?_, ?_⟩)))
            · rw [uT_at, upd_at]
              rfl
            · exact U62_10.trans (nI_l (by have := v1.2.2; omega))
            · exact (q4 _ (by omega)).trans (by rw [uT_at, upd_ne (by omega), upd_ne (by omega), upd_at])
            · exact (q4 _ (by omega)).trans (by rw [uT_at, upd_ne (by omega), upd_at])
            · exact (q4 _ (by omega)).trans (by rw [uT_at, upd_at])
        ·   obtain ⟨s, q1, q2, q3, q4⟩ := t_begin (I := J) (T := uT S 12 (upd (upd (upd (S 12) (12 * n + 6) (nI (g (N 0 - 2)).1)) (12 * n + 7) (g (N 0 - 2)).2.2.2) (12 * n + 8) (nI (g (N 0 - 2)).2.2.1))) (K := vp_updL K n 0) (a := 6) (b := 2) (k := 2) e4 hn e14 h24 (by omega) rfl (by omega) (by omega)
            refine ⟨0, uN N 0 (N 0 - 2), _, _, _, (U62 U n (eV (g (N 0 - 1))) (nI (g (N 0 - 2)).2.2.1).toInt64 (eV (g (N 0 - 2)))), _, _, _, fun _ => x_62 (x_62a e8 hn e21 h24 u0 v0 u1 v1 (by omega) (by omega) (by omega)), fun h => absurd hc h, d_control rfl (by decide) (by decide) (yc_62 (y_62_6 e4 hn e14 h24 r0 v0 r1 v1 k0.1 k0.2 kk (by omega) (by omega) q1)), by decide, NM_0 N _, ⟨fun x a b => by rw [uI_ne _ _ (by omega), uI_ne _ _ (by omega)], rfl, rfl, rfl, fun x a => by rw [uI_ne _ _ (by omega), uI_ne _ _ (by omega)], rfl, rfl, rfl⟩, .inl ⟨n + 1, 0, by omega, SR_loop hS (by omega) (by omega) rfl rfl (fun x hx => by rw [uI_ne _ _ (by omega), uI_ne _ _ (by omega)]) (fun k hk => uT_ne _ _ hk) (fun i hi => by rw [uT_at, upd_ne (by omega)]) (fun k hk => U62_o (by omega)) (fun k a b i hi => U62_lt b hi) (fun i hi => by rw [U62_o (by omega)]) rfl rfl (fun x a b => by rw [uI_ne _ _ (by omega), uI_ne _ _ (by omega)]) (fun k hk => by rw [uT_ne _ _ (by omega), uT_ne _ _ (by omega)]) (fun i hi => (q4 i (by omega)).trans (by rw [uT_at, upd_ne (by omega), upd_ne (by omega), upd_ne (by omega)])) (fun _ _ => rfl) (fun i hi => vp_updL_ne (by omega)) (.inr (.inr ⟨g (N 0 - 1), by omega, k0.1, k0.2, o0, U62_8, ⟨(q3 0 (by decide)).trans r0.1, (q3 1 (by decide)).trans r0.2.1, (q3 2 (by decide)).trans r0.2.2.1, (q3 3 (by decide)).trans r0.2.2.2⟩, ?_⟩)), fun h => absurd rfl h, rfl, rfl, rfl, rfl⟩⟩
            refine .inr (.inr (.inr (.inl ⟨g (N 0 - 2), 0, by omega, o1, by omega, ?_, q2, U62_12, U62_9, vp_updL_at, ?_, ?_, ?_, ?_⟩)))
            · rw [uT_at, upd_at]
              rfl
            · exact U62_10.trans (nI_l (by have := v1.2.2; omega))
            · exact (q4 _ (by omega)).trans (by rw [uT_at, upd_ne (by omega), upd_ne (by omega), upd_at])
            · exact (q4 _ (by omega)).trans (by rw [uT_at, upd_ne (by omega), upd_at])
            · exact (q4 _ (by omega)).trans (by rw [uT_at, upd_at])
        · obtain ⟨d, d1, d2, de⟩ := ok_7 o1 kk
          have ed : (g (N 0 - 2)).2.2.2 = nI d := by rw [de]
          obtain ⟨hd, hd2, h6, h5, p, ss, r, q, hp5, hp, hX⟩ := R_DX hR
          obtain ⟨y1, y2, y3, y4, y5, y6, y7, y8⟩ := hX.1 d d1
          have hq := DX_q80 hX d1
          obtain ⟨u, c1, c2, c3⟩ := x_62d (L := L) e8 hn e21 h24 u0 v0 u1 v1 (by omega) (by omega) kk ed d2 y1 y3 (by omega) (by omega)
          obtain ⟨T2, b1, b2, b3, b4, b5⟩ := y_62_7 (K := K) e4 hn e14 h24 r0 v0 r1 v1 k0.1 k0.2 kk (by omega) (by omega) ed d2 y5 (by omega)
          have t1 := b2 1 (by decide) (by decide)
          obtain ⟨s, q1, q2, q3, q4⟩ := t_begin (I := J) (T := T2) (K := vp_updL K n 0) (a := 7) (b := 2) (k := 2) e4 hn e14 h24 (by omega) rfl (by omega) (by omega)
          rw [t1] at q3
          rw [b3] at q4
          refine ⟨0, uN N 0 (N 0 - 2), _, _, _, (U63 U n (eV (g (N 0 - 1))) (nI (q d)).toInt64 (eV (g (N 0 - 2))) u), _, _, _, fun _ => x_62 c1, fun h => absurd hc h, d_control rfl (by decide) (by decide) (yc_62 (b1 q1)), by decide, NM_0 N _, ⟨fun x a b => by rw [uI_ne _ _ (by omega), uI_ne _ _ (by omega)], rfl, rfl, rfl, fun x a => by rw [uI_ne _ _ (by omega), uI_ne _ _ (by omega)], rfl, rfl, (b2 0 (by decide) (by decide))⟩, .inl ⟨n + 1, 0, by omega, SR_loop hS (by omega) (by omega) rfl rfl (fun x hx => by rw [uI_ne _ _ (by omega), uI_ne _ _ (by omega)]) (fun k hk => uT_ne _ _ hk) (fun i hi => by rw [uT_at, upd_ne (by omega)]) (fun k hk => U63_o (by omega)) (fun k a b i hi => U63_lt b hi) (fun i hi => c3 i hi) rfl rfl (fun x a b => by rw [uI_ne _ _ (by omega), uI_ne _ _ (by omega)]) (fun k hk => by rw [uT_ne _ _ (by omega)]; exact b2 k (by omega) (by omega)) (fun i hi => (q4 i (by omega)).trans (by rw [upd_ne (by omega), upd_ne (by omega), upd_ne (by omega)])) (fun i hi => b5 i hi) (fun i hi => vp_updL_ne (by omega)) (.inr (.inr ⟨g (N 0 - 1), by omega, k0.1, k0.2, o0, U63_8, ⟨(q3 0 (by decide)).trans r0.1, (q3 1 (by decide)).trans r0.2.1, (q3 2 (by decide)).trans r0.2.2.1, (q3 3 (by decide)).trans r0.2.2.2⟩, ?_⟩)), fun h => absurd rfl h, rfl, rfl, rfl, rfl⟩⟩
          refine .inr (.inr (.inr (.inr ⟨d, q d, 0, d1, d2, by omega, by omega, ?_, q2, U63_12.trans (by rw [de]), U63_9, vp_updL_at, ?_, ?_, ?_, ?_, fun y hy => ?_⟩)))
          · rw [uT_at, upd_at]
            rfl
          · exact U63_10.trans (nI_l (by omega))
          · exact (q4 _ (by omega)).trans (by rw [upd_ne (by omega), upd_ne (by omega), upd_at])
          · exact (q4 _ (by omega)).trans (by rw [upd_ne (by omega), upd_at])
          · exact (q4 _ (by omega)).trans upd_at
          · obtain ⟨key, a1, a2, a3, a4⟩ := hX.2.2.2.1 d d1 y hy
            exact ⟨key, a4, (c2 y hy).trans a1, (b4 y hy).1.trans a2, (b4 y hy).2.trans a3⟩
    · rw [if_neg (fun h => k1 ((tk_10 v1).mp h.2))] at hc
      exact CO_same hS 4 (by decide) (fun h => absurd (h.symm.trans hc) (by decide)) (fun _ => hc.symm) (d_control rfl (by decide) (by decide) (yc_62 (y_62t e4 hn e14 h24 r0 v0 r1 v1 k0.1 k0.2 (by omega) (by omega) (by omega) (by omega))))
  · rw [if_neg (fun h => k0 (tk_4.mp h.1))] at hc
    exact CO_same hS 4 (by decide) (fun h => absurd (h.symm.trans hc) (by decide)) (fun _ => hc.symm) (d_control rfl (by decide) (by decide) (yc_62 (y_62p e4 hn e14 h24 r0 v0 k0 (by omega))))

theorem jc_63 {N : Nat → Nat} {I : Nat → Int32} {L : Nat → Int64} {T : Nat → Nat → Int32} {U : Nat → Nat → Int64} {J : Nat → Int32} {S : Nat → Nat → Int32} {K : Nat → Int64} {n : Nat} {g : Nat → V} (hS : SR N n 0 I T U J S K) (hg : GG N (N 0) g (U 5) (S 1)) : COU 63 f_X3_control 24 N n I L T U J S K g := by
  have hR := hS.1
  obtain ⟨hn, e8, e4, hO⟩ := hR.1
  obtain ⟨h1f, h24, e21, e14, _⟩ := SR_E hS
  have hc : chk 63 (N 0) g = 0 := chk_0 (by decide +kernel)
  rcases jex (L := L) (SR_E hS) with ⟨j, j1, j2, f1, f2⟩ | ⟨f1, f2⟩
  · exact ⟨0, N, _, _, _, _, _, _, _, fun _ => x_63a f1, fun h => absurd hc h, d_control rfl (by decide) (by decide) (yc_63 (f2)), by decide, NM_r N, ⟨fun x a b => by rw [uI_ne _ _ (by omega)], rfl, rfl, rfl, fun x a => by rw [uI_ne _ _ (by omega)], rfl, rfl, rfl⟩, .inl ⟨j, 0, by omega, ⟨R_fr hR (fun x hx => uI_ne _ _ (by omega)) (fun _ _ => rfl) (fun _ _ => rfl) (fun x a b => uI_ne _ _ (by omega)) (fun _ _ _ => rfl), RE_cut hS.2.1 j1 (by omega), rfl, .inl rfl, hS.2.2.2.2⟩, fun h => absurd rfl h, rfl, rfl, rfl, rfl⟩⟩
  · exact CO_same hS 12 (by decide) (fun _ => x_63o f1) (fun h => absurd hc h) (d_control rfl (by decide) (by decide) (yc_63 (f2)))

theorem jc_64 {N : Nat → Nat} {I : Nat → Int32} {L : Nat → Int64} {T : Nat → Nat → Int32} {U : Nat → Nat → Int64} {J : Nat → Int32} {S : Nat → Nat → Int32} {K : Nat → Int64} {n : Nat} {g : Nat → V} (hS : SR N n 0 I T U J S K) (hg : GG N (N 0) g (U 5) (S 1)) : COU 64 f_X3_control 24 N n I L T U J S K g := by
  have hR := hS.1
  obtain ⟨hn, e8, e4, hO⟩ := hR.1
  obtain ⟨h1f, h24, e21, e14, _⟩ := SR_E hS
  have hc : chk 64 (N 0) g = 0 := chk_0 (by decide +kernel)
  obtain ⟨N', I', U', J', S', a1, a2, a3, a4, a5, a6, a7, a8, a9⟩ := jun (L := L) hR (SR_E hS) hS.2.2.2.2 (nI 3)
  have hF : FK I L T J S I' L T J' S' := ⟨fun x a b => a5 x (by omega) (by omega) (by omega) (by omega) (by omega), a5 17 (by decide) (by decide) (by decide) (by decide) (by decide), rfl, rfl, fun x a => a6 x (by omega) (by omega) (by omega) (by omega) (by omega), a6 15 (by decide) (by decide) (by decide) (by decide) (by decide), a6 16 (by decide) (by decide) (by decide) (by decide) (by decide), a7 0 (by decide)⟩
  have j21 := a6 21 (by decide) (by decide) (by decide) (by decide) (by decide)
  rcases a9 with ⟨b1, b2, n', n1, b3⟩ | ⟨b1, b2⟩
  · exact ⟨0, N', I', L, T, U', J', S', K, fun _ => x_64 a1, fun h => absurd hc h, d_control rfl (by decide) (by decide) (yc_64 a2), by decide, a8, hF, .inl ⟨n', 0, by omega, SR_mk a3 b3 a4, fun h => absurd rfl h, b1, b2, rfl, j21⟩⟩
  · exact ⟨0, N', I', L, T, U', J', S', K, fun _ => x_64 a1, fun h => absurd hc h, d_control rfl (by decide) (by decide) (yc_64 a2), by decide, a8, hF, .inr (.inr ⟨rfl, a3, a4, b1.trans b2.symm, by rw [b1]; decide, j21⟩)⟩
theorem jc_65 {N : Nat → Nat} {I : Nat → Int32} {L : Nat → Int64} {T : Nat → Nat → Int32} {U : Nat → Nat → Int64} {J : Nat → Int32} {S : Nat → Nat → Int32} {K : Nat → Int64} {n : Nat} {g : Nat → V} (hS : SR N n 0 I T U J S K) (hg : GG N (N 0) g (U 5) (S 1)) : COU 65 f_X3_control 24 N n I L T U J S K g := by
  have hR := hS.1
  obtain ⟨hn, e8, e4, hO⟩ := hR.1
  obtain ⟨h1f, h24, e21, e14, _⟩ := SR_E hS
  by_cases hu : N 0 < 1
  · have hc : chk 65 (N 0) g = 3 := chk_u (c := 1) (by decide +kernel) hu
    exact CO_same hS 3 (by decide) (fun h => absurd (h.symm.trans hc) (by decide)) (fun _ => hc.symm) (d_control rfl (by decide) (by decide) (yc_65 (y_65u e4 hn e14 h24 (by omega))))
  obtain ⟨u0, r0, o0⟩ := hg (N 0 - 1) (by omega)
  have v0 := ok_w0 o0
  have hc : chk 65 (N 0) g = if tk 1 (g (N 0 - 1)) = true then 0 else 4 := chk_1 (by decide +kernel) (by decide +kernel) (by omega)
  rw [if_pos (tk_1 v0)] at hc
  by_cases hl : 22 < n
  · exact CO_same hS 2 (by decide) (fun _ => x_65 (x_65l e8 hn e21 h24 hl)) (fun h => absurd hc h) (d_control rfl (by decide) (by decide) (yc_65 (y_65l e4 hn e14 h24 (by omega) hl)))
  · have hS1 : SR (uN N 0 (N 0 - 1)) (n + 1) 0 (uI (uI (uI (uI I 19 0) 20 65) 8 (nI (N 0 - 1))) 21 (nI (n + 1))) (uT T 10 (upd (T 10) n 2)) (EU U n (-1)) (uI (uI (uI J 4 (nI (N 0 - 1))) 14 (nI (n + 1))) 21 1) (uT (uT S 16 (cp5 (S 1) (N 0 - 1 - 0) (S 16) 0)) 12 (upd (S 12) (12 * n) 2)) K :=
      SR_loop hS (by omega) (by omega) rfl rfl (fun x hx => by rw [uI_ne _ _ (by omega), uI_ne _ _ (by omega), uI_ne _ _ (by omega), uI_ne _ _ (by omega)]) (fun k hk => uT_ne _ _ hk) (fun i hi => by rw [uT_at, upd_ne (by omega)]) (fun k hk => EU_o (by omega)) (fun k a b i hi => EU_lt hi) (fun i hi => rfl) rfl rfl (fun x a b => by rw [uI_ne _ _ (by omega), uI_ne _ _ (by omega), uI_ne _ _ (by omega)]) (fun k hk => by rw [uT_ne _ _ (by omega), uT_ne _ _ (by omega)]) (fun i hi => by rw [uT_at, upd_ne (by omega)]) (fun i hi => rfl) (fun _ _ => rfl) (.inr (.inl ⟨by rw [uT_at, upd_at]; rfl, by rw [uT_at, upd_at]; rfl⟩))
    exact ⟨0, uN N 0 (N 0 - 1), _, _, _, _, _, _, _, fun _ => x_65 (x_65a e8 hn e21 h24 u0 v0 (by omega) (by omega)), fun h => absurd hc h, d_control rfl (by decide) (by decide) (yc_65 (y_65a e4 hn e14 h24 (by omega) (by omega))), by decide, NM_0 N _, ⟨fun x a b => by rw [uI_ne _ _ (by omega), uI_ne _ _ (by omega), uI_ne _ _ (by omega), uI_ne _ _ (by omega)], rfl, rfl, rfl, fun x a => by rw [uI_ne _ _ (by omega), uI_ne _ _ (by omega), uI_ne _ _ (by omega)], rfl, rfl, rfl⟩, .inr (.inl ⟨rfl, n + 1, g (N 0 - 1), by omega, hS1, rfl, rfl, o0, rfl, rfl, r5_cp r0, rfl, show N 0 - 1 + 1 = N 0 by omega, fun _ _ => by omega⟩)⟩
theorem jc_66 {N : Nat → Nat} {I : Nat → Int32} {L : Nat → Int64} {T : Nat → Nat → Int32} {U : Nat → Nat → Int64} {J : Nat → Int32} {S : Nat → Nat → Int32} {K : Nat → Int64} {n : Nat} {g : Nat → V} (hS : SR N n 0 I T U J S K) (hg : GG N (N 0) g (U 5) (S 1)) : COU 66 f_X3_control 24 N n I L T U J S K g := by
  have hR := hS.1
  obtain ⟨hn, e8, e4, hO⟩ := hR.1
  obtain ⟨h1f, h24, e21, e14, _⟩ := SR_E hS
  have hc : chk 66 (N 0) g = 0 := chk_0 (by decide +kernel)
  exact ⟨0, N, _, _, _, _, _, _, _, fun _ => x_66, fun h => absurd hc h, d_control rfl (by decide) (by decide) yc_66, by decide, NM_r N, ⟨fun x a b => by rw [uI_ne _ _ (by omega)], rfl, rfl, rfl, fun x a => by rw [uI_ne _ _ (by omega)], rfl, rfl, rfl⟩, .inr (.inr ⟨rfl, R_fr hR (fun x hx => uI_ne _ _ (by omega)) (fun _ _ => rfl) (fun _ _ => rfl) (fun x a b => uI_ne _ _ (by omega)) (fun _ _ _ => rfl), hS.2.2.2.2, rfl, (show (4 : Int32) ≠ Int32.ofInt (-1) by decide), rfl⟩)⟩
