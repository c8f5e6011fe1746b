section
variable {N : Nat → Nat} {I : Nat → Int32} {L : Nat → Int64} {T : Nat → Nat → Int32} {U : Nat → Nat → Int64} {J : Nat → Int32} {S : Nat → Nat → Int32} {K : Nat → Int64} {z p o r : Nat} {b q : Nat → Nat}
theorem s_ft1 (h : TA z b I T J S) (e10 : I 10 = nI p) (hp : p < z) (h1 : 32 < b p) (h2 : b p ≠ 37) : f_X7_findToken (wc I L T U) [.ref 19] = some (some (.int 1), wc I L T U) := by
  obtain ⟨hz, e9, e2, ht⟩ := h
  obtain ⟨hb, t1, t2⟩ := ht p hp
  have c1 : ¬ (I 9 ≤ I 10) := by
    rw [e9, e10]
    exact nn_le (by omega) (by omega) hp
  have c2 : ¬ (nI (b p) = 37) := nn_eq (b := 37) (by omega) (by decide) h2
  have c3 : ¬ (nI (b p) = 10) := nn_eq (b := 10) (by omega) (by decide) (by omega)
  have c4 : ¬ (nI (b p) ≤ 32) := nn_le (b := 32) (by omega) (by decide) h1
  have c5 : (0 : Int32) = 0 := rfl
  have y : (z_X7_findToken f_X7_byteAt) 2 [.ref 19, .int 0, .null] [] (wc I L T U) (0 + 3) = some (some (.int 1), wc I L T U) := (q_X7_findToken_2_3 f_X7_byteAt _ _ _ _ _ _ (by first | with_reducible assumption | (simp (disch := omega) only [i_lit, i_m1, pk_sub, nI_add, nI_ml, nI_ltI, nI_leI, nI_eq, nI_clamp, nI_l, lN_i, lg_nI, lg_geI, lg_leI, lg_gtI, lg_ltI, c16_160, c16_200, c16_255, c16_300, c16_600, c16_616, c16_1000, Nat.add_eq, vp_updL_at, upd_at, Nat.add_sub_cancel, Nat.add_zero, Nat.zero_add, Nat.sub_zero, uU_uU, uT_uT, uI_uI, uL_uL, uU_at, uT_at, uI_at, uL_at, uU_ne, uT_ne, uI_ne, uL_ne, uU_sw, uT_sw, uI_sw, uL_sw] <;> first | with_reducible assumption | omega) | omega | decide) (s_byteAt e9 hz e10 hp hb t1) (by first | with_reducible assumption | (simp (disch := omega) only [i_lit, i_m1, pk_sub, nI_add, nI_ml, nI_ltI, nI_leI, nI_eq, nI_clamp, nI_l, lN_i, lg_nI, lg_geI, lg_leI, lg_gtI, lg_ltI, c16_160, c16_200, c16_255, c16_300, c16_600, c16_616, c16_1000, Nat.add_eq, vp_updL_at, upd_at, Nat.add_sub_cancel, Nat.add_zero, Nat.zero_add, Nat.sub_zero, uU_uU, uT_uT, uI_uI, uL_uL, uU_at, uT_at, uI_at, uL_at, uU_ne, uT_ne, uI_ne, uL_ne, uU_sw, uT_sw, uI_sw, uL_sw] <;> first | with_reducible assumption | omega) | omega | decide) (by first | with_reducible assumption | (simp (disch := omega) only [i_lit, i_m1, pk_sub, nI_add, nI_ml, nI_ltI, nI_leI, nI_eq, nI_clamp, nI_l, lN_i, lg_nI, lg_geI, lg_leI, lg_gtI, lg_ltI, c16_160, c16_200, c16_255, c16_300, c16_600, c16_616, c16_1000, Nat.add_eq, vp_updL_at, upd_at, Nat.add_sub_cancel, Nat.add_zero, Nat.zero_add, Nat.sub_zero, uU_uU, uT_uT, uI_uI, uL_uL, uU_at, uT_at, uI_at, uL_at, uU_ne, uT_ne, uI_ne, uL_ne, uU_sw, uT_sw, uI_sw, uL_sw] <;> first | with_reducible assumption | omega) | omega | decide) (by first | with_reducible assumption | (simp (disch := omega) only [i_lit, i_m1, pk_sub, nI_add, nI_ml, nI_ltI, nI_leI, nI_eq, nI_clamp, nI_l, lN_i, lg_nI, lg_geI, lg_leI, lg_gtI, lg_ltI, c16_160, c16_200, c16_255, c16_300, c16_600, c16_616, c16_1000, Nat.add_eq, vp_updL_at, upd_at, Nat.add_sub_cancel, Nat.add_zero, Nat.zero_add, Nat.sub_zero, uU_uU, uT_uT, uI_uI, uL_uL, uU_at, uT_at, uI_at, uL_at, uU_ne, uT_ne, uI_ne, uL_ne, uU_sw, uT_sw, uI_sw, uL_sw] <;> first | with_reducible assumption | omega) | omega | decide) (by first | with_reducible assumption | (simp (disch := omega) only [i_lit, i_m1, pk_sub, nI_add, nI_ml, nI_ltI, nI_leI, nI_eq, nI_clamp, nI_l, lN_i, lg_nI, lg_geI, lg_leI, lg_gtI, lg_ltI, c16_160, c16_200, c16_255, c16_300, c16_600, c16_616, c16_1000, Nat.add_eq, vp_updL_at, upd_at, Nat.add_sub_cancel, Nat.add_zero, Nat.zero_add, Nat.sub_zero, uU_uU, uT_uT, uI_uI, uL_uL, uU_at, uT_at, uI_at, uL_at, uU_ne, uT_ne, uI_ne, uL_ne, uU_sw, uT_sw, uI_sw, uL_sw] <;> first | with_reducible assumption | omega) | omega | decide))
  rw [fv_X7_findToken_eq]
  exact (p_X7_findToken_1 f_X7_byteAt _ _ _ _ (by decide) y)
theorem sw_e : ∀ c, c < 256 → rx_lsw (nI c) 163 [(40, 92), (47, 100), (60, 139), (62, 151), (91, 113), (93, 126), (123, 76), (125, 84)] = 163 ∨ c = 40 ∨ c = 47 ∨ c = 60 ∨ c = 62 ∨ c = 91 ∨ c = 93 ∨ c = 123 ∨ c = 125 := by decide +kernel
theorem sw_d (c : Nat) (h : c < 256) (h40 : c ≠ 40) (h47 : c ≠ 47) (h60 : c ≠ 60) (h62 : c ≠ 62) (h91 : c ≠ 91) (h93 : c ≠ 93) (h123 : c ≠ 123) (h125 : c ≠ 125) : rx_lsw (nI c) 163 [(40, 92), (47, 100), (60, 139), (62, 151), (91, 113), (93, 126), (123, 76), (125, 84)] = 163 := by
  rcases sw_e c h with q | q | q | q | q | q | q | q | q
  · exact q
  · exact absurd q h40
  · exact absurd q h47
  · exact absurd q h60
  · exact absurd q h62
  · exact absurd q h91
  · exact absurd q h93
  · exact absurd q h123
  · exact absurd q h125
/-- a piece of a token, from the class's loop on -/
def PL (N : Nat → Nat) (I : Nat → Int32) (L : Nat → Int64) (T : Nat → Nat → Int32) (U : Nat → Nat → Int64) (J : Nat → Int32) (S : Nat → Nat → Int32) (K : Nat → Int64) (z : Nat) (b : Nat → Nat) (p : Nat) : Prop :=
  ∃ (e : Nat) (N' : Nat → Nat) (I' : Nat → Int32) (L' : Nat → Int64) (T' : Nat → Nat → Int32) (U' : Nat → Nat → Int64) (J' : Nat → Int32) (S' : Nat → Nat → Int32),
    (∀ (I0 : Nat → Int32) (L0 : Nat → Int64) (T0 : Nat → Nat → Int32) (U0 : Nat → Nat → Int64) (x : Nat), x ≤ 300 → f_X7_findToken (wc I0 L0 T0 U0) [.ref 19] = some (some (.int 1), wc I L T U) → ∃ y, y ≤ 10 ∧ ∀ m rs, (z_X7_readToken f_X7_findToken f_X7_byteAt f_X7_openProcedure f_X7_closeProcedure f_X7_readString f_X7_readName f_X7_keep f_X7_readPair f_X7_readRegular f_X10_executableName f_X7_isRegular) 233 [.ref 19, .int (nI e), .int (nI x), .int (nI (b p))] [] (wc I' L' T' U') m = some rs → (z_X7_readToken f_X7_findToken f_X7_byteAt f_X7_openProcedure f_X7_closeProcedure f_X7_readString f_X7_readName f_X7_keep f_X7_readPair f_X7_readRegular f_X10_executableName f_X7_isRegular) 14 [.ref 19, .null, .int (nI x), .null] [] (wc I0 L0 T0 U0) (m + y) = some rs) ∧
    f_X12_readPart (wr J S K) [.ref 0] = some (none, wr J' S' K) ∧ PO e N I L T U J S N' I' L' T' U' J' S' z b p
theorem PL_i {F : rx_F} {as : List Value} {v : Int} {k : Nat} (h : TK N I T U J S z b p o r q) (hp : p < z) (hk : k ≤ 9) (hs : rx_lsw (nI (b p)) 163 [(40, 92), (47, 100), (60, 139), (62, 151), (91, 113), (93, 126), (123, 76), (125, 84)] = v) (hc : PC F as N I L T U J S K z b p)
    (g : ∀ (e : Int32) (I' : Nat → Int32) (L' : Nat → Int64) (T' : Nat → Nat → Int32) (U' : Nat → Nat → Int64), F (wc (uI I 10 (nI (p + 1))) L T U) as = some (some (.int e), wc I' L' T' U') → ∀ (x2 : Int32) m rs, (z_X7_readToken f_X7_findToken f_X7_byteAt f_X7_openProcedure f_X7_closeProcedure f_X7_readString f_X7_readName f_X7_keep f_X7_readPair f_X7_readRegular f_X10_executableName f_X7_isRegular) 233 [.ref 19, .int e, .int x2, .int (nI (b p))] [] (wc I' L' T' U') m = some rs → (z_X7_readToken f_X7_findToken f_X7_byteAt f_X7_openProcedure f_X7_closeProcedure f_X7_readString f_X7_readName f_X7_keep f_X7_readPair f_X7_readRegular f_X10_executableName f_X7_isRegular) ((48 : Int) + v).toNat [.ref 19, .null, .int x2, .int (nI (b p))] [] (wc (uI I 10 (nI (p + 1))) L T U) (m + k) = some rs) : PL N I L T U J S K z b p := by
  obtain ⟨e, N', I', L', T', U', J', S', c1, c2, c3⟩ := hc
  have hA := h.2.1
  have e10 := h.2.2.1
  obtain ⟨hb, t1, t2⟩ := hA.2.2.2 p hp
  have hz := hA.1
  refine ⟨e, N', I', L', T', U', J', S', fun I0 L0 T0 U0 x hx hf => ⟨k + 1, by omega, fun m rs hz' => ?_⟩, c2, c3⟩
  have y := g _ _ _ _ _ c1 (nI x) m rs hz'
  have d1 : ¬ ((Int16.toInt32 (Int16.ofInt 300)) < nI x) := by
    rw [show (Int16.toInt32 (Int16.ofInt 300)) = nI 300 from rfl, nI_ltI (by decide) (by omega)]
    omega
  have wI : uI I 10 (I 10 + 1) = uI I 10 (nI (p + 1)) := by
    rw [e10, show nI p + 1 = nI (p + 1) from nI_add p 1]
  rw [← wI] at y
  rw [← Nat.add_assoc]
  exact rt_14 f_X7_findToken f_X7_byteAt f_X7_openProcedure f_X7_closeProcedure f_X7_readString f_X7_readName f_X7_keep f_X7_readPair f_X7_readRegular f_X10_executableName f_X7_isRegular _ _ _ _ _ _ _ _ _ _ _ d1 hf (by decide) (s_byteAt hA.2.1 hz e10 hp hb t1) hs y
theorem jpiece (h : TK N I T U J S z b p o r q) (hp : p < z) : PL N I L T U J S K z b p := by
  have hA := h.2.1
  obtain ⟨hb, t1, t2⟩ := hA.2.2.2 p hp
  by_cases c123 : b p = 123
  · exact PL_i (k := 1) (v := 76) h hp (by decide) (by rw [c123]; decide +kernel) (pc_open h hp c123) (fun e I' L' T' U' hF x2 m rs hz => rt_124 f_X7_findToken f_X7_byteAt f_X7_openProcedure f_X7_closeProcedure f_X7_readString f_X7_readName f_X7_keep f_X7_readPair f_X7_readRegular f_X10_executableName f_X7_isRegular _ _ _ _ _ _ _ _ _ _ _ hF hz)
  by_cases c125 : b p = 125
  · refine PL_i (F := f_X7_closeProcedure) (as := [.ref 19]) (k := 1) (v := 84) h hp (by decide) (by rw [c125]; decide +kernel) ?_ (fun e I' L' T' U' hF x2 m rs hz => rt_132 f_X7_findToken f_X7_byteAt f_X7_openProcedure f_X7_closeProcedure f_X7_readString f_X7_readName f_X7_keep f_X7_readPair f_X7_readRegular f_X10_executableName f_X7_isRegular _ _ _ _ _ _ _ _ _ _ _ hF hz)
    by_cases o0 : o = 0
    · subst o0
      exact pc_close0 h hp c125
    · exact pc_close h hp c125 (by omega)
  by_cases c40 : b p = 40
  · exact PL_i (k := 1) (v := 92) h hp (by decide) (by rw [c40]; decide +kernel) (pc_str h hp c40) (fun e I' L' T' U' hF x2 m rs hz => rt_140 f_X7_findToken f_X7_byteAt f_X7_openProcedure f_X7_closeProcedure f_X7_readString f_X7_readName f_X7_keep f_X7_readPair f_X7_readRegular f_X10_executableName f_X7_isRegular _ _ _ _ _ _ _ _ _ _ _ hF hz)
  by_cases c47 : b p = 47
  · exact PL_i (k := 1) (v := 100) h hp (by decide) (by rw [c47]; decide +kernel) (pc_lit h hp c47) (fun e I' L' T' U' hF x2 m rs hz => rt_148 f_X7_findToken f_X7_byteAt f_X7_openProcedure f_X7_closeProcedure f_X7_readString f_X7_readName f_X7_keep f_X7_readPair f_X7_readRegular f_X10_executableName f_X7_isRegular _ _ _ _ _ _ _ _ _ _ _ (by rw [uI_at]; exact hF) hz)
  by_cases c91 : b p = 91
  · exact PL_i (k := 1) (v := 113) h hp (by decide) (by rw [c91]; decide +kernel) (pc_br (jj := 9) h hp c91 (.inl ⟨rfl, rfl⟩)) (fun e I' L' T' U' hF x2 m rs hz => rt_161 f_X7_findToken f_X7_byteAt f_X7_openProcedure f_X7_closeProcedure f_X7_readString f_X7_readName f_X7_keep f_X7_readPair f_X7_readRegular f_X10_executableName f_X7_isRegular _ _ _ _ _ _ _ _ _ _ _ _ s_executableName hF hz)
  by_cases c93 : b p = 93
  · exact PL_i (k := 1) (v := 126) h hp (by decide) (by rw [c93]; decide +kernel) (pc_br (jj := 42) h hp c93 (.inr ⟨rfl, rfl⟩)) (fun e I' L' T' U' hF x2 m rs hz => rt_174 f_X7_findToken f_X7_byteAt f_X7_openProcedure f_X7_closeProcedure f_X7_readString f_X7_readName f_X7_keep f_X7_readPair f_X7_readRegular f_X10_executableName f_X7_isRegular _ _ _ _ _ _ _ _ _ _ _ _ s_executableName hF hz)
  by_cases c60 : b p = 60
  · exact PL_i (k := 1) (v := 139) h hp (by decide) (by rw [c60]; decide +kernel) (pc_pair (jj := 10) h hp c60 (.inl ⟨rfl, rfl⟩)) (fun e I' L' T' U' hF x2 m rs hz => rt_187 f_X7_findToken f_X7_byteAt f_X7_openProcedure f_X7_closeProcedure f_X7_readString f_X7_readName f_X7_keep f_X7_readPair f_X7_readRegular f_X10_executableName f_X7_isRegular _ _ _ _ _ _ _ _ _ _ _ hF hz)
  by_cases c62 : b p = 62
  · exact PL_i (k := 1) (v := 151) h hp (by decide) (by rw [c62]; decide +kernel) (pc_pair (jj := 43) h hp c62 (.inr ⟨rfl, rfl⟩)) (fun e I' L' T' U' hF x2 m rs hz => rt_199 f_X7_findToken f_X7_byteAt f_X7_openProcedure f_X7_closeProcedure f_X7_readString f_X7_readName f_X7_keep f_X7_readPair f_X7_readRegular f_X10_executableName f_X7_isRegular _ _ _ _ _ _ _ _ _ _ _ hF hz)
  have hsw := sw_d (b p) hb c40 c47 c60 c62 c91 c93 c123 c125
  cases hr : reg (b p) with
  | true =>
    refine PL_i (k := 2) (v := 163) h hp (by decide) hsw (pc_word h hp hr) (fun e I' L' T' U' hF x2 m rs hz => ?_)
    have g1 := s_isReg (I := uI I 10 (nI (p + 1))) (L := L) (T := T) (U := U) (a := nI (b p)) rfl hb
    rw [rgn_1 hr] at g1
    exact rt_211a f_X7_findToken f_X7_byteAt f_X7_openProcedure f_X7_closeProcedure f_X7_readString f_X7_readName f_X7_keep f_X7_readPair f_X7_readRegular f_X10_executableName f_X7_isRegular _ _ _ _ _ _ _ _ _ _ _ _ g1 (by decide) (by rw [uI_at, show nI (p + 1) - 1 = nI p from nI_pred p]; exact hF) hz
  | false =>
    obtain ⟨g1, J', g2, g3⟩ := pc_bad (L := L) (K := K) h hp hr c123 c125 c40 c91 c93 c60 c62 c47
    have hz := hA.1
    have e10 := h.2.2.1
    refine ⟨1, N, _, _, _, _, J', S, fun I0 L0 T0 U0 x hx hf => ⟨4, by decide, fun m rs hz' => ?_⟩, g2, g3⟩
    have d1 : ¬ ((Int16.toInt32 (Int16.ofInt 300)) < nI x) := by
      rw [show (Int16.toInt32 (Int16.ofInt 300)) = nI 300 from rfl, nI_ltI (by decide) (by omega)]
      omega
    have wI : uI I 10 (I 10 + 1) = uI I 10 (nI (p + 1)) := by
      rw [e10, show nI p + 1 = nI (p + 1) from nI_add p 1]
    have y : (z_X7_readToken f_X7_findToken f_X7_byteAt f_X7_openProcedure f_X7_closeProcedure f_X7_readString f_X7_readName f_X7_keep f_X7_readPair f_X7_readRegular f_X10_executableName f_X7_isRegular) ((48 : Int) + 163).toNat [.ref 19, .null, .int (nI x), .int (nI (b p))] [] (wc (uI I 10 (nI (p + 1))) L T U) (m + 3) = some rs := rt_211n f_X7_findToken f_X7_byteAt f_X7_openProcedure f_X7_closeProcedure f_X7_readString f_X7_readName f_X7_keep f_X7_readPair f_X7_readRegular f_X10_executableName f_X7_isRegular _ _ _ _ _ _ _ g1 rfl hz'
    rw [← wI] at y
    exact rt_14 f_X7_findToken f_X7_byteAt f_X7_openProcedure f_X7_closeProcedure f_X7_readString f_X7_readName f_X7_keep f_X7_readPair f_X7_readRegular f_X10_executableName f_X7_isRegular _ _ _ _ _ _ _ _ _ _ _ d1 hf (by decide) (s_byteAt hA.2.1 hz e10 hp hb t1) hsw y
theorem TK_p (h : TK N I T U J S z b p o r q) {p2 : Nat} (hp : p ≤ p2) (hz : p2 ≤ z) : TK N (uI I 10 (nI p2)) T U (uI J 3 (nI p2)) S z b p2 o r q := by
  obtain ⟨hR, hA, e10, e3, _, e20, hro, hQ⟩ := h
  have f1 := FT_10 I (fun _ => 0) T U (nI p2)
  have f2 := FS_3 J S (nI p2)
  exact ⟨R_kp hR f1 f2 rfl rfl rfl rfl rfl rfl rfl rfl rfl rfl rfl rfl rfl rfl rfl, TA_f hA f1 f2, rfl, rfl, hz, e20, by omega, TQ_m hQ (NM_r N) rfl rfl rfl rfl rfl rfl rfl rfl⟩
/-- what a token leaves -/
def RTK (e : Nat) (N : Nat → Nat) (I : Nat → Int32) (L : Nat → Int64) (T : Nat → Nat → Int32) (U : Nat → Nat → Int64) (J : Nat → Int32) (S : Nat → Nat → Int32) (N' : Nat → Nat) (I' : Nat → Int32) (L' : Nat → Int64) (T' : Nat → Nat → Int32) (U' : Nat → Nat → Int64) (J' : Nat → Int32) (S' : Nat → Nat → Int32) (z : Nat) (b : Nat → Nat) : Prop :=
  e ≤ 2 ∧ NE N N' ∧ FT I L T U I' L' T' U' ∧ FS J S J' S' ∧ R N' I' T' U' J' S' ∧ J' 20 = nI e ∧ (e = 0 → ∃ p', p' ≤ z ∧ TA z b I' T' J' S' ∧ I' 10 = nI p' ∧ J' 3 = nI p' ∧ ∃ t, L' 2 = eV t ∧ r5 (S' 14) 0 t ∧ ok N' t)
end
section
variable {z : Nat} {b : Nat → Nat} {K : Nat → Int64}
theorem RTK_t {e : Nat} {N N1 N' : Nat → Nat} {I I1 I' : Nat → Int32} {L L1 L' : Nat → Int64} {T T1 T' : Nat → Nat → Int32} {U U1 U' : Nat → Nat → Int64} {J J1 J' : Nat → Int32} {S S1 S' : Nat → Nat → Int32} (n : NE N N1) (f : FT I L T U I1 L1 T1 U1) (g : FS J S J1 S1) (h : RTK e N1 I1 L1 T1 U1 J1 S1 N' I' L' T' U' J' S' z b) : RTK e N I L T U J S N' I' L' T' U' J' S' z b := ⟨h.1, NE_t n h.2.1, FT_t f h.2.2.1, FS_t g h.2.2.2.1, h.2.2.2.2⟩
/-- after a piece: to the token's end -/
theorem jafter (B : Nat) (ih : ∀ (p x : Nat) (N : Nat → Nat) (I : Nat → Int32) (L : Nat → Int64) (T : Nat → Nat → Int32) (U : Nat → Nat → Int64) (J : Nat → Int32) (S : Nat → Nat → Int32) (o r : Nat) (q : Nat → Nat), z ≤ p + B → x ≤ p → 0 < o → TK N I T U J S z b p o r q →
      ∃ (e : Nat) (N' : Nat → Nat) (I' : Nat → Int32) (L' : Nat → Int64) (T' : Nat → Nat → Int32) (U' : Nat → Nat → Int64) (J' : Nat → Int32) (S' : Nat → Nat → Int32), (∃ m, m ≤ 100 * B + 100 ∧ (z_X7_readToken f_X7_findToken f_X7_byteAt f_X7_openProcedure f_X7_closeProcedure f_X7_readString f_X7_readName f_X7_keep f_X7_readPair f_X7_readRegular f_X10_executableName f_X7_isRegular) 14 [.ref 19, .null, .int (nI x), .null] [] (wc I L T U) m = some (some (.int (nI e)), wc I' L' T' U')) ∧ (∃ m, m ≤ 100 * B + 100 ∧ (z_X12_readToken f_X12_readPart f_X12_passBlanks) 19 [.ref 0] [] (wr J S K) m = some (none, wr J' S' K)) ∧ RTK e N I L T U J S N' I' L' T' U' J' S' z b)
    (p x : Nat) (N N' : Nat → Nat) (I I' : Nat → Int32) (L L' : Nat → Int64) (T T' : Nat → Nat → Int32) (U U' : Nat → Nat → Int64) (J J' : Nat → Int32) (S S' : Nat → Nat → Int32) (e : Nat) (c : Int32) (hB : z ≤ p + B + 1) (hx : x ≤ p) (hP : PO e N I L T U J S N' I' L' T' U' J' S' z b p) :
    ∃ (e2 : Nat) (N2 : Nat → Nat) (I2 : Nat → Int32) (L2 : Nat → Int64) (T2 : Nat → Nat → Int32) (U2 : Nat → Nat → Int64) (J2 : Nat → Int32) (S2 : Nat → Nat → Int32), (∃ m, m ≤ 100 * B + 110 ∧ (z_X7_readToken f_X7_findToken f_X7_byteAt f_X7_openProcedure f_X7_closeProcedure f_X7_readString f_X7_readName f_X7_keep f_X7_readPair f_X7_readRegular f_X10_executableName f_X7_isRegular) 233 [.ref 19, .int (nI e), .int (nI x), .int c] [] (wc I' L' T' U') m = some (some (.int (nI e2)), wc I2 L2 T2 U2)) ∧ (∃ m, m ≤ 100 * B + 110 ∧ (z_X12_readToken f_X12_readPart f_X12_passBlanks) 19 [.ref 0] [] (wr J' S' K) m = some (none, wr J2 S2 K)) ∧ RTK e2 N I L T U J S N2 I2 L2 T2 U2 J2 S2 z b := by
  obtain ⟨h1, h2, h3, h4, h5, h6, h7⟩ := hP
  by_cases e0 : e = 0
  · subst e0
    obtain ⟨p', g1, g2⟩ := h7 rfl
    have c20 : J' 20 = 0 := h6
    rcases g2 with ⟨o, r, q, k1, k2⟩ | ⟨k1, k2, k3, k4, k5, k6, k7, k8, k9⟩
    · obtain ⟨e2, N2, I2, L2, T2, U2, J2, S2, ⟨m1, a1, a2⟩, ⟨m2, a3, a4⟩, a5⟩ := ih p' (x + 1) N' I' L' T' U' J' S' o r q (by omega) (by omega) k1 k2
      have e12 := k2.2.2.2.2.2.2.2.1
      have ho8 := k2.2.2.2.2.2.2.2.2.2.1
      have n12 : ¬ (I' 12 = 0) := by
        rw [e12]
        exact nn_eq (b := 0) (by omega) (by decide) (by omega)
      rw [← nI_add x 1] at a2
      exact ⟨e2, N2, I2, L2, T2, U2, J2, S2, ⟨m1 + 2, by omega, rt_l f_X7_findToken f_X7_byteAt f_X7_openProcedure f_X7_closeProcedure f_X7_readString f_X7_readName f_X7_keep f_X7_readPair f_X7_readRegular f_X10_executableName f_X7_isRegular _ _ _ _ _ _ _ rfl n12 a2⟩, ⟨m2, by omega, a4⟩, RTK_t h2 h3 h4 a5⟩
    · have c19 : J' 19 ≤ 0 := by
        rw [k8]
        decide
      exact ⟨0, N', I', L', T', U', J', S', ⟨0 + 2, by omega, rt_d f_X7_findToken f_X7_byteAt f_X7_openProcedure f_X7_closeProcedure f_X7_readString f_X7_readName f_X7_keep f_X7_readPair f_X7_readRegular f_X10_executableName f_X7_isRegular _ _ _ _ _ _ _ rfl k7⟩, ⟨0 + 2, by omega, (q_X12_readToken_19_3 f_X12_readPart f_X12_passBlanks _ _ _ (by first | with_reducible assumption | (simp (disch := omega) only [i_lit, i_m1, pk_sub, nI_add, nI_ml, nI_ltI, nI_leI, nI_eq, nI_clamp, nI_l, lN_i, lg_nI, lg_geI, lg_leI, lg_gtI, lg_ltI, c16_160, c16_200, c16_255, c16_300, c16_600, c16_616, c16_1000, Nat.add_eq, vp_updL_at, upd_at, Nat.add_sub_cancel, Nat.add_zero, Nat.zero_add, Nat.sub_zero, uU_uU, uT_uT, uI_uI, uL_uL, uU_at, uT_at, uI_at, uL_at, uU_ne, uT_ne, uI_ne, uL_ne, uU_sw, uT_sw, uI_sw, uL_sw] <;> first | with_reducible assumption | omega) | omega | decide) (by first | with_reducible assumption | (simp (disch := omega) only [i_lit, i_m1, pk_sub, nI_add, nI_ml, nI_ltI, nI_leI, nI_eq, nI_clamp, nI_l, lN_i, lg_nI, lg_geI, lg_leI, lg_gtI, lg_ltI, c16_160, c16_200, c16_255, c16_300, c16_600, c16_616, c16_1000, Nat.add_eq, vp_updL_at, upd_at, Nat.add_sub_cancel, Nat.add_zero, Nat.zero_add, Nat.sub_zero, uU_uU, uT_uT, uI_uI, uL_uL, uU_at, uT_at, uI_at, uL_at, uU_ne, uT_ne, uI_ne, uL_ne, uU_sw, uT_sw, uI_sw, uL_sw] <;> first | with_reducible assumption | omega) | omega | decide))⟩, by decide, h2, h3, h4, h5, h6, fun _ => ⟨p', k5, k2, k3, k4, k9⟩⟩
  · have ne0 : ¬ (nI e = 0) := nn_eq (b := 0) (by omega) (by decide) e0
    have c20 : ¬ (J' 20 = 0) := by
      rw [h6]
      exact ne0
    exact ⟨e, N', I', L', T', U', J', S', ⟨0 + 2, by omega, rt_e f_X7_findToken f_X7_byteAt f_X7_openProcedure f_X7_closeProcedure f_X7_readString f_X7_readName f_X7_keep f_X7_readPair f_X7_readRegular f_X10_executableName f_X7_isRegular _ _ _ _ _ _ _ ne0⟩, ⟨0 + 2, by omega, (q_X12_readToken_19_4 f_X12_readPart f_X12_passBlanks _ _ _ (by first | with_reducible assumption | (simp (disch := omega) only [i_lit, i_m1, pk_sub, nI_add, nI_ml, nI_ltI, nI_leI, nI_eq, nI_clamp, nI_l, lN_i, lg_nI, lg_geI, lg_leI, lg_gtI, lg_ltI, c16_160, c16_200, c16_255, c16_300, c16_600, c16_616, c16_1000, Nat.add_eq, vp_updL_at, upd_at, Nat.add_sub_cancel, Nat.add_zero, Nat.zero_add, Nat.sub_zero, uU_uU, uT_uT, uI_uI, uL_uL, uU_at, uT_at, uI_at, uL_at, uU_ne, uT_ne, uI_ne, uL_ne, uU_sw, uT_sw, uI_sw, uL_sw] <;> first | with_reducible assumption | omega) | omega | decide))⟩, h1, h2, h3, h4, h5, h6, fun h => absurd h e0⟩
/-- the tape ends within a procedure -/
theorem jend (p x : Nat) (N : Nat → Nat) (I : Nat → Int32) (L : Nat → Int64) (T : Nat → Nat → Int32) (U : Nat → Nat → Int64) (J : Nat → Int32) (S : Nat → Nat → Int32) (o r : Nat) (q : Nat → Nat) (B : Nat) (hx : x ≤ p) (ho : 0 < o) (h : TK N I T U J S z b p o r q) (p' rr : Nat) (r1 : rr = 0) (r2 : p' = z) (a4 : f_X7_findToken (wc I L T U) [.ref 19] = some (some (.int (nI rr)), wc (uI I 10 (nI p')) L T U)) (a5 : f_X12_passBlanks (wr J S K) [.ref 0] = some (none, wr (uI J 3 (nI p')) S K)) :
      ∃ (e : Nat) (N' : Nat → Nat) (I' : Nat → Int32) (L' : Nat → Int64) (T' : Nat → Nat → Int32) (U' : Nat → Nat → Int64) (J' : Nat → Int32) (S' : Nat → Nat → Int32), (∃ m, m ≤ 100 * B + 100 ∧ (z_X7_readToken f_X7_findToken f_X7_byteAt f_X7_openProcedure f_X7_closeProcedure f_X7_readString f_X7_readName f_X7_keep f_X7_readPair f_X7_readRegular f_X10_executableName f_X7_isRegular) 14 [.ref 19, .null, .int (nI x), .null] [] (wc I L T U) m = some (some (.int (nI e)), wc I' L' T' U')) ∧ (∃ m, m ≤ 100 * B + 100 ∧ (z_X12_readToken f_X12_readPart f_X12_passBlanks) 19 [.ref 0] [] (wr J S K) m = some (none, wr J' S' K)) ∧ RTK e N I L T U J S N' I' L' T' U' J' S' z b := by
  have hz := h.2.1.1
  have hpz := h.2.2.2.2.1
  subst r1 r2
  have f1 := FT_10 I L T U (nI p')
  have f2 : FS J S (uI (uI J 3 (nI p')) 20 1) S := FS_t (FS_3 J S _) (FS_20 _ S _)
  have d0 : ¬ ((Int16.toInt32 (Int16.ofInt 300)) < nI x) := by
    rw [show (Int16.toInt32 (Int16.ofInt 300)) = nI 300 from rfl, nI_ltI (by decide) (by omega)]
    omega
  have z0 : nI 0 = 0 := rfl
  have d1 : ¬ (J 19 ≤ 0) := by
    rw [h.2.2.2.2.2.2.2.2.1]
    exact nn_le (b := 0) (by have := h.2.2.2.2.2.2.2.2.2.1; omega) (by decide) ho
  have d2 : J 20 = 0 := h.2.2.2.2.2.1
  have d3 : ¬ (uI J 3 (nI p') 3 < uI J 3 (nI p') 2) := by
    rw [uI_at, uI_ne _ _ (by decide), h.2.1.2.2.1, nI_ltI (by omega) (by omega)]
    omega
  have d4 : ¬ (uI (uI J 3 (nI p')) 20 1 20 = 0) := by
    rw [uI_at]
    decide
  have y : (z_X12_readToken f_X12_readPart f_X12_passBlanks) 19 [.ref 0] [] (wr (uI (uI J 3 (nI p')) 20 1) S K) (0 + 2) = some (none, wr (uI (uI J 3 (nI p')) 20 1) S K) := (q_X12_readToken_19_4 f_X12_readPart f_X12_passBlanks _ _ _ (by first | with_reducible assumption | (simp (disch := omega) only [i_lit, i_m1, pk_sub, nI_add, nI_ml, nI_ltI, nI_leI, nI_eq, nI_clamp, nI_l, lN_i, lg_nI, lg_geI, lg_leI, lg_gtI, lg_ltI, c16_160, c16_200, c16_255, c16_300, c16_600, c16_616, c16_1000, Nat.add_eq, vp_updL_at, upd_at, Nat.add_sub_cancel, Nat.add_zero, Nat.zero_add, Nat.sub_zero, uU_uU, uT_uT, uI_uI, uL_uL, uU_at, uT_at, uI_at, uL_at, uU_ne, uT_ne, uI_ne, uL_ne, uU_sw, uT_sw, uI_sw, uL_sw] <;> first | with_reducible assumption | omega) | omega | decide))
  exact ⟨1, N, _, _, _, _, _, _, ⟨0 + 2, by omega, (q_X7_readToken_14_1 f_X7_findToken f_X7_byteAt f_X7_openProcedure f_X7_closeProcedure f_X7_readString f_X7_readName f_X7_keep f_X7_readPair f_X7_readRegular f_X10_executableName f_X7_isRegular _ _ _ _ _ _ _ _ _ _ (by first | with_reducible assumption | (simp (disch := omega) only [i_lit, i_m1, pk_sub, nI_add, nI_ml, nI_ltI, nI_leI, nI_eq, nI_clamp, nI_l, lN_i, lg_nI, lg_geI, lg_leI, lg_gtI, lg_ltI, c16_160, c16_200, c16_255, c16_300, c16_600, c16_616, c16_1000, Nat.add_eq, vp_updL_at, upd_at, Nat.add_sub_cancel, Nat.add_zero, Nat.zero_add, Nat.sub_zero, uU_uU, uT_uT, uI_uI, uL_uL, uU_at, uT_at, uI_at, uL_at, uU_ne, uT_ne, uI_ne, uL_ne, uU_sw, uT_sw, uI_sw, uL_sw] <;> first | with_reducible assumption | omega) | omega | decide) (a4) (by first | with_reducible assumption | (simp (disch := omega) only [i_lit, i_m1, pk_sub, nI_add, nI_ml, nI_ltI, nI_leI, nI_eq, nI_clamp, nI_l, lN_i, lg_nI, lg_geI, lg_leI, lg_gtI, lg_ltI, c16_160, c16_200, c16_255, c16_300, c16_600, c16_616, c16_1000, Nat.add_eq, vp_updL_at, upd_at, Nat.add_sub_cancel, Nat.add_zero, Nat.zero_add, Nat.sub_zero, uU_uU, uT_uT, uI_uI, uL_uL, uU_at, uT_at, uI_at, uL_at, uU_ne, uT_ne, uI_ne, uL_ne, uU_sw, uT_sw, uI_sw, uL_sw] <;> first | with_reducible assumption | omega) | omega | decide))⟩, ⟨0 + 2 + 1, by omega, (q_X12_readToken_19_1 f_X12_readPart f_X12_passBlanks _ _ _ _ _ _ (by first | with_reducible assumption | (simp (disch := omega) only [i_lit, i_m1, pk_sub, nI_add, nI_ml, nI_ltI, nI_leI, nI_eq, nI_clamp, nI_l, lN_i, lg_nI, lg_geI, lg_leI, lg_gtI, lg_ltI, c16_160, c16_200, c16_255, c16_300, c16_600, c16_616, c16_1000, Nat.add_eq, vp_updL_at, upd_at, Nat.add_sub_cancel, Nat.add_zero, Nat.zero_add, Nat.sub_zero, uU_uU, uT_uT, uI_uI, uL_uL, uU_at, uT_at, uI_at, uL_at, uU_ne, uT_ne, uI_ne, uL_ne, uU_sw, uT_sw, uI_sw, uL_sw] <;> first | with_reducible assumption | omega) | omega | decide) (by first | with_reducible assumption | (simp (disch := omega) only [i_lit, i_m1, pk_sub, nI_add, nI_ml, nI_ltI, nI_leI, nI_eq, nI_clamp, nI_l, lN_i, lg_nI, lg_geI, lg_leI, lg_gtI, lg_ltI, c16_160, c16_200, c16_255, c16_300, c16_600, c16_616, c16_1000, Nat.add_eq, vp_updL_at, upd_at, Nat.add_sub_cancel, Nat.add_zero, Nat.zero_add, Nat.sub_zero, uU_uU, uT_uT, uI_uI, uL_uL, uU_at, uT_at, uI_at, uL_at, uU_ne, uT_ne, uI_ne, uL_ne, uU_sw, uT_sw, uI_sw, uL_sw] <;> first | with_reducible assumption | omega) | omega | decide) (a5) (by first | with_reducible assumption | (simp (disch := omega) only [i_lit, i_m1, pk_sub, nI_add, nI_ml, nI_ltI, nI_leI, nI_eq, nI_clamp, nI_l, lN_i, lg_nI, lg_geI, lg_leI, lg_gtI, lg_ltI, c16_160, c16_200, c16_255, c16_300, c16_600, c16_616, c16_1000, Nat.add_eq, vp_updL_at, upd_at, Nat.add_sub_cancel, Nat.add_zero, Nat.zero_add, Nat.sub_zero, uU_uU, uT_uT, uI_uI, uL_uL, uU_at, uT_at, uI_at, uL_at, uU_ne, uT_ne, uI_ne, uL_ne, uU_sw, uT_sw, uI_sw, uL_sw] <;> first | with_reducible assumption | omega) | omega | decide) y)⟩, by decide, NE_r N, f1, f2, R_kp h.1 f1 f2 rfl rfl rfl rfl rfl rfl rfl rfl rfl rfl rfl rfl rfl rfl rfl, rfl, fun h => absurd h (by decide)⟩
theorem jtl : ∀ (B p x : Nat) (N : Nat → Nat) (I : Nat → Int32) (L : Nat → Int64) (T : Nat → Nat → Int32) (U : Nat → Nat → Int64) (J : Nat → Int32) (S : Nat → Nat → Int32) (o r : Nat) (q : Nat → Nat), z ≤ p + B → x ≤ p → 0 < o → TK N I T U J S z b p o r q →
      ∃ (e : Nat) (N' : Nat → Nat) (I' : Nat → Int32) (L' : Nat → Int64) (T' : Nat → Nat → Int32) (U' : Nat → Nat → Int64) (J' : Nat → Int32) (S' : Nat → Nat → Int32), (∃ m, m ≤ 100 * B + 100 ∧ (z_X7_readToken f_X7_findToken f_X7_byteAt f_X7_openProcedure f_X7_closeProcedure f_X7_readString f_X7_readName f_X7_keep f_X7_readPair f_X7_readRegular f_X10_executableName f_X7_isRegular) 14 [.ref 19, .null, .int (nI x), .null] [] (wc I L T U) m = some (some (.int (nI e)), wc I' L' T' U')) ∧ (∃ m, m ≤ 100 * B + 100 ∧ (z_X12_readToken f_X12_readPart f_X12_passBlanks) 19 [.ref 0] [] (wr J S K) m = some (none, wr J' S' K)) ∧ RTK e N I L T U J S N' I' L' T' U' J' S' z b := by
  intro B
  induction B with
  | zero => 
    intro p x N I L T U J S o r q hB hx ho h
    obtain ⟨p', rr, a1, a2, a3, a4, a5⟩ := jblk (L := L) (U := U) (K := K) h.2.1 h.2.2.1 h.2.2.2.1 h.2.2.2.2.1
    rcases a3 with ⟨r1, r2, _, _⟩ | ⟨r1, r2⟩
    · omega
    · exact jend p x N I L T U J S o r q 0 hx ho h p' rr r1 r2 a4 a5
  | succ B ih =>
    intro p x N I L T U J S o r q hB hx ho h
    obtain ⟨p', rr, a1, a2, a3, a4, a5⟩ := jblk (L := L) (U := U) (K := K) h.2.1 h.2.2.1 h.2.2.2.1 h.2.2.2.2.1
    rcases a3 with ⟨r1, r2, _, _⟩ | ⟨r1, r2⟩
    · have hz := h.2.1.1
      have h' := TK_p h (p2 := p') a1 a2
      have f1 := FT_10 I L T U (nI p')
      have f2 := FS_3 J S (nI p')
      obtain ⟨e, N1, I1, L1, T1, U1, J1, S1, b1, b2, b3⟩ := jpiece (L := L) (K := K) h' r2
      subst r1
      obtain ⟨y, y1, y2⟩ := b1 I L T U x (by omega) a4
      obtain ⟨e2, N2, I2, L2, T2, U2, J2, S2, ⟨m1, c1, c2⟩, ⟨m2, c3, c4⟩, c5⟩ := jafter (K := K) B ih p' x _ _ _ _ _ _ _ _ _ _ _ _ _ _ e (nI (b p')) (by omega) (by omega) b3
      have d1 : ¬ (J 19 ≤ 0) := by
        rw [h.2.2.2.2.2.2.2.2.1]
        exact nn_le (b := 0) (by have := h.2.2.2.2.2.2.2.2.2.1; omega) (by decide) ho
      have d2 : J 20 = 0 := h.2.2.2.2.2.1
      have d3 : uI J 3 (nI p') 3 < uI J 3 (nI p') 2 := by
        rw [uI_at, uI_ne _ _ (by decide), h.2.1.2.2.1, nI_ltI (by omega) (by omega)]
        exact r2
      exact ⟨e2, N2, I2, L2, T2, U2, J2, S2, ⟨m1 + y, by omega, y2 _ _ c2⟩, ⟨m2 + 2, by omega, (q_X12_readToken_19_2 f_X12_readPart f_X12_passBlanks _ _ _ _ _ _ _ _ _ (by first | with_reducible assumption | (simp (disch := omega) only [i_lit, i_m1, pk_sub, nI_add, nI_ml, nI_ltI, nI_leI, nI_eq, nI_clamp, nI_l, lN_i, lg_nI, lg_geI, lg_leI, lg_gtI, lg_ltI, c16_160, c16_200, c16_255, c16_300, c16_600, c16_616, c16_1000, Nat.add_eq, vp_updL_at, upd_at, Nat.add_sub_cancel, Nat.add_zero, Nat.zero_add, Nat.sub_zero, uU_uU, uT_uT, uI_uI, uL_uL, uU_at, uT_at, uI_at, uL_at, uU_ne, uT_ne, uI_ne, uL_ne, uU_sw, uT_sw, uI_sw, uL_sw] <;> first | with_reducible assumption | omega) | omega | decide) (by first | with_reducible assumption | (simp (disch := omega) only [i_lit, i_m1, pk_sub, nI_add, nI_ml, nI_ltI, nI_leI, nI_eq, nI_clamp, nI_l, lN_i, lg_nI, lg_geI, lg_leI, lg_gtI, lg_ltI, c16_160, c16_200, c16_255, c16_300, c16_600, c16_616, c16_1000, Nat.add_eq, vp_updL_at, upd_at, Nat.add_sub_cancel, Nat.add_zero, Nat.zero_add, Nat.sub_zero, uU_uU, uT_uT, uI_uI, uL_uL, uU_at, uT_at, uI_at, uL_at, uU_ne, uT_ne, uI_ne, uL_ne, uU_sw, uT_sw, uI_sw, uL_sw] <;> first | with_reducible assumption | omega) | omega | decide) (a5) (by first | with_reducible assumption | (simp (disch := omega) only [i_lit, i_m1, pk_sub, nI_add, nI_ml, nI_ltI, nI_leI, nI_eq, nI_clamp, nI_l, lN_i, lg_nI, lg_geI, lg_leI, lg_gtI, lg_ltI, c16_160, c16_200, c16_255, c16_300, c16_600, c16_616, c16_1000, Nat.add_eq, vp_updL_at, upd_at, Nat.add_sub_cancel, Nat.add_zero, Nat.zero_add, Nat.sub_zero, uU_uU, uT_uT, uI_uI, uL_uL, uU_at, uT_at, uI_at, uL_at, uU_ne, uT_ne, uI_ne, uL_ne, uU_sw, uT_sw, uI_sw, uL_sw] <;> first | with_reducible assumption | omega) | omega | decide) (b2) c4)⟩, RTK_t (NE_r N) f1 f2 c5⟩
    · exact jend p x N I L T U J S o r q (B + 1) hx ho h p' rr r1 r2 a4 a5
/-- a token, as both read it -/
theorem jtoken (N : Nat → Nat) (I : Nat → Int32) (L : Nat → Int64) (T : Nat → Nat → Int32) (U : Nat → Nat → Int64) (J : Nat → Int32) (S : Nat → Nat → Int32) (p : Nat) (hR : R N I T U J S) (hA : TA z b I T J S) (e10 : I 10 = nI p) (e3 : J 3 = nI p) (hp : p < z) (h32 : 32 < b p) (h37 : b p ≠ 37) :
    ∃ (e : Nat) (N' : Nat → Nat) (I' : Nat → Int32) (L' : Nat → Int64) (T' : Nat → Nat → Int32) (U' : Nat → Nat → Int64) (J' : Nat → Int32) (S' : Nat → Nat → Int32), f_X7_readToken (wc I L T U) [.ref 19] = some (some (.int (nI e)), wc I' L' T' U') ∧ f_X12_readToken (wr J S K) [.ref 0] = some (none, wr J' S' K) ∧ RTK e N I L T U J S N' I' L' T' U' J' S' z b := by
  have hz := hA.1
  have f1 : FT I L T U (uI (uI I 11 0) 12 0) L T U := ⟨fun i h1 h2 => by rw [uI_ne _ _ (by omega), uI_ne _ _ (by omega)], rfl, fun _ _ _ => rfl, fun _ _ _ => rfl⟩
  have f2 : FS J S (uI (uI (uI J 18 0) 19 0) 20 0) S := ⟨fun i h1 h2 h3 => by rw [uI_ne _ _ (by omega), uI_ne _ _ (by omega), uI_ne _ _ (by omega)], fun _ _ _ => rfl⟩
  have h0 : TK N (uI (uI I 11 0) 12 0) T U (uI (uI (uI J 18 0) 19 0) 20 0) S z b p 0 0 (fun _ => 0) := ⟨R_kp hR f1 f2 rfl rfl rfl rfl rfl rfl rfl rfl rfl rfl rfl rfl rfl rfl rfl, TA_f hA f1 f2, e10, e3, by omega, rfl, by omega, rfl, rfl, by decide, rfl, rfl, fun j hj => absurd hj (by omega), fun i j _ hj => absurd hj (by omega), fun h => absurd h (by decide), fun _ => rfl, fun i hi => absurd hi (by omega)⟩
  obtain ⟨e, N1, I1, L1, T1, U1, J1, S1, b1, b2, b3⟩ := jpiece (L := L) (K := K) h0 hp
  obtain ⟨y, y1, y2⟩ := b1 (uI (uI I 11 0) 12 0) L T U 0 (by decide) (s_ft1 h0.2.1 e10 hp h32 h37)
  obtain ⟨e2, N2, I2, L2, T2, U2, J2, S2, ⟨m1, c1, c2⟩, ⟨m2, c3, c4⟩, c5⟩ := jafter (K := K) z (jtl z) p 0 _ _ _ _ _ _ _ _ _ _ _ _ _ _ e (nI (b p)) (by omega) (by omega) b3
  have c6 := y2 _ _ c2
  refine ⟨e2, N2, I2, L2, T2, U2, J2, S2, ?_, ?_, RTK_t (NE_r N) f1 f2 c5⟩
  · rw [fv_X7_readToken_eq]
    exact (p_X7_readToken_1 f_X7_findToken f_X7_byteAt f_X7_openProcedure f_X7_closeProcedure f_X7_readString f_X7_readName f_X7_keep f_X7_readPair f_X7_readRegular f_X10_executableName f_X7_isRegular _ _ _ _ (by omega) c6)
  · rw [fv_X12_readToken_eq]
    exact (p_X12_readToken_1 f_X12_readPart f_X12_passBlanks _ _ _ _ _ _ (b2) (by omega) c4)
end
