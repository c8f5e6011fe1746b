def RRun (z : Nat) (b : Nat → Nat) (f k : Nat) : Prop := f + k ≤ z ∧ (∀ i, i < k → reg (b (f + i)) = true) ∧ (f + k = z ∨ reg (b (f + k)) = false)
theorem rrun (z : Nat) (b : Nat → Nat) (f : Nat) (h : f ≤ z) : ∃ k, RRun z b f k := by
  rcases first_or (fun i => reg (b (f + i)) = false) (z - f) with ⟨j, j1, j2, j3⟩ | hn
  · exact ⟨j, by omega, fun i hi => by
      have := j3 i hi
      cases q : reg (b (f + i)) with
      | true => rfl
      | false => exact absurd q this, .inr j2⟩
  · exact ⟨z - f, by omega, fun i hi => by
      have := hn i hi
      cases q : reg (b (f + i)) with
      | true => rfl
      | false => exact absurd q this, .inl (by omega)⟩
def wof (z : Nat) (b : Nat → Nat) (f : Nat) : Nat → Nat := fun i => if f + i < z then b (f + i) else 0
section
variable {I I2 I3 : Nat → Int32} {L L2 L3 : Nat → Int64} {T T2 T3 : Nat → Nat → Int32} {U U2 U3 : Nat → Nat → Int64} {J : Nat → Int32} {S : Nat → Nat → Int32} {K : Nat → Int64} {z f k : Nat} {b w : Nat → Nat}
theorem wof_b (h : TA z b I T J S) (f : Nat) : ∀ i, wof z b f i < 256 := by
  intro i
  unfold wof
  split
  · exact (h.2.2.2 _ (by assumption)).1
  · decide
theorem wof_at {i : Nat} (h : f + i < z) : wof z b f i = b (f + i) := if_pos h
theorem s_rnL (h : TA z b I T J S) (hr : RRun z b f k) (ew : w = wof z b f) {l : Int32} {m : Nat} {rs : Option Value × rx_H} (hm : m ≤ 1000)
    (hz : (z_X7_readName f_X4_startDraft f_X7_byteAt f_X4_addToDraft f_X4_meetDraft f_X7_keep f_X7_isRegular f_X10_literalName f_X10_executableName) 12 [.ref 19, .null, .int l, .null] [] (wc (uI (uI I 1 (nI k)) 10 (nI (f + k))) (uL (uL L 0 (lN (pkl w k))) 1 (lN (pkh w k))) T U) m = some rs) {a : Int32} (ea : a = nI f) : f_X7_readName (wc I L T U) [.ref 19, .int a, .int l] = some rs := by
  have hb := wof_b h f
  rw [← ew] at hb
  obtain ⟨hz3, e9, e2, ht⟩ := h
  obtain ⟨r1, r2, r3⟩ := hr
  obtain ⟨_, m', hq, hm', hzz⟩ := lpc (fun j W m => (z_X7_readName f_X4_startDraft f_X7_byteAt f_X4_addToDraft f_X4_meetDraft f_X7_keep f_X7_isRegular f_X10_literalName f_X10_executableName) 12 [.ref 19, .null, .int l, .null] [] W m) (fun W m => (z_X7_readName f_X4_startDraft f_X7_byteAt f_X4_addToDraft f_X4_meetDraft f_X7_keep f_X7_isRegular f_X10_literalName f_X10_executableName) 12 [.ref 19, .null, .int l, .null] [] W m) (fun j W => W = wc (uI (uI I 1 (nI j)) 10 (nI (f + j))) (uL (uL L 0 (lN (pkl w j))) 1 (lN (pkh w j))) T U) (fun W => W = wc (uI (uI I 1 (nI k)) 10 (nI (f + k))) (uL (uL L 0 (lN (pkl w k))) 1 (lN (pkh w k))) T U) k 1 0 (by
    rintro j _ hj rfl
    obtain ⟨hb1, t1, t2⟩ := ht (f + j) (by omega)
    have hrj := rgn_1 (r2 j hj)
    have wj : nI (b (f + j)) = nI (w j) := by rw [ew, wof_at (by omega)]
    have c1 : ¬ (uI (uI I 1 (nI j)) 10 (nI (f + j)) 9 ≤ uI (uI I 1 (nI j)) 10 (nI (f + j)) 10) := by
      rw [uI_ne _ _ (by decide), uI_ne _ _ (by decide), uI_at, e9]
      exact nn_le (by omega) (by omega) (by omega)
    have by1 : f_X7_byteAt (wc (uI (uI I 1 (nI j)) 10 (nI (f + j))) (uL (uL L 0 (lN (pkl w j))) 1 (lN (pkh w j))) T U) [.ref 19, .int (uI (uI I 1 (nI j)) 10 (nI (f + j)) 10)] = some (some (.int (nI (b (f + j)))), wc (uI (uI I 1 (nI j)) 10 (nI (f + j))) (uL (uL L 0 (lN (pkl w j))) 1 (lN (pkh w j))) T U) := s_byteAt (I := uI (uI I 1 (nI j)) 10 (nI (f + j))) (show uI (uI I 1 _) 10 _ 9 = nI z from e9) hz3 (uI_at _ _ _) (by omega) hb1 t1
    have rg := s_isReg (I := uI (uI I 1 (nI j)) 10 (nI (f + j))) (L := uL (uL L 0 (lN (pkl w j))) 1 (lN (pkh w j))) (T := T) (U := U) (a := nI (b (f + j))) rfl hb1
    rw [hrj] at rg
    have n10 : ¬ (nI 1 = 0) := by decide
    have ad := s_addToDraft (I := uI (uI I 1 (nI j)) 10 (nI (f + j))) (L := uL (uL L 0 (lN (pkl w j))) 1 (lN (pkh w j))) (T := T) (U := U) (b := w) (k := j) (a := nI (b (f + j))) rfl (by omega) (fun i _ => hb i) rfl rfl wj
    refine .inl ⟨_, 1, Nat.le_refl _, rfl, fun m rs hz' => ?_⟩
    refine (q_X7_readName_12_1 f_X4_startDraft f_X7_byteAt f_X4_addToDraft f_X4_meetDraft f_X7_keep f_X7_isRegular f_X10_literalName f_X10_executableName _ _ _ _ _ _ _ _ _ _ _ _ (by first | with_reducible assumption | (simp (disch := omega) only [i_lit, i_m1, pk_sub, nI_add, nI_ml, nI_ltI, nI_leI, nI_eq, nI_clamp, nI_l, lN_i, lg_nI, lg_geI, lg_leI, lg_gtI, lg_ltI, c16_160, c16_200, c16_255, c16_300, c16_600, c16_616, c16_1000, Nat.add_eq, vp_updL_at, upd_at, Nat.add_sub_cancel, Nat.add_zero, Nat.zero_add, Nat.sub_zero, uU_uU, uT_uT, uI_uI, uL_uL, uU_at, uT_at, uI_at, uL_at, uU_ne, uT_ne, uI_ne, uL_ne, uU_sw, uT_sw, uI_sw, uL_sw] <;> first | with_reducible assumption | omega) | omega | decide) (by1) (rg) (by first | with_reducible assumption | (simp (disch := omega) only [i_lit, i_m1, pk_sub, nI_add, nI_ml, nI_ltI, nI_leI, nI_eq, nI_clamp, nI_l, lN_i, lg_nI, lg_geI, lg_leI, lg_gtI, lg_ltI, c16_160, c16_200, c16_255, c16_300, c16_600, c16_616, c16_1000, Nat.add_eq, vp_updL_at, upd_at, Nat.add_sub_cancel, Nat.add_zero, Nat.zero_add, Nat.sub_zero, uU_uU, uT_uT, uI_uI, uL_uL, uU_at, uT_at, uI_at, uL_at, uU_ne, uT_ne, uI_ne, uL_ne, uU_sw, uT_sw, uI_sw, uL_sw] <;> first | with_reducible assumption | omega) | omega | decide) (by1) (ad) ?_)
    have e1 : uI (uI (uI (uI I 1 (nI j)) 10 (nI (f + j))) 1 (nI (j + 1))) 10 (uI (uI (uI I 1 (nI j)) 10 (nI (f + j))) 1 (nI (j + 1)) 10 + 1) = uI (uI I 1 (nI (j + 1))) 10 (nI (f + (j + 1))) := by
      funext y
      by_cases h10 : y = 10
      · rw [h10]
        exact nI_add (f + j) 1
      · by_cases h1 : y = 1
        · rw [h1]
          rfl
        · simp only [uI_ne _ _ h10, uI_ne _ _ h1]
    have e3 : uL (uL (uL (uL L 0 (lN (pkl w j))) 1 (lN (pkh w j))) 0 (lN (pkl w (j + 1)))) 1 (lN (pkh w (j + 1))) = uL (uL L 0 (lN (pkl w (j + 1)))) 1 (lN (pkh w (j + 1))) := by
      funext y
      by_cases h1 : y = 1
      · rw [h1]
        rfl
      · by_cases h0 : y = 0
        · rw [h0]
          rfl
        · simp only [uL_ne _ _ h1, uL_ne _ _ h0]
    rw [e1, e3]
    exact hz') (by
    rintro _ rfl
    exact ⟨_, 0, Nat.le_refl _, rfl, fun m rs hz' => hz'⟩) k 0 (wc (uI (uI I 1 (nI 0)) 10 (nI (f + 0))) (uL (uL L 0 (lN (pkl w 0))) 1 (lN (pkh w 0))) T U) (by omega) rfl
  subst hq
  have sd := s_startDraft (I := I) (L := L) (T := T) (U := U)
  have y := hzz m rs hz
  have hk : 1 * k ≤ 1 * 300 := Nat.mul_le_mul_left _ (by omega)
  subst ea
  rw [fv_X7_readName_eq]
  exact (p_X7_readName_1 f_X4_startDraft f_X7_byteAt f_X4_addToDraft f_X4_meetDraft f_X7_keep f_X7_isRegular f_X10_literalName f_X10_executableName _ _ _ _ _ _ _ _ _ _ (sd) (m := m + m') (by omega) y)
theorem s_rnF (h : TA z b I T J S) (hr : RRun z b f k) (ew : w = wof z b f) {l : Int32} {a : Int32} (ea : a = nI f) (hmt : f_X4_meetDraft (wc (uI (uI I 1 (nI k)) 10 (nI (f + k))) (uL (uL L 0 (lN (pkl w k))) 1 (lN (pkh w k))) T U) [.ref 1] = some (some (.int (Int32.ofInt (-1))), wc I2 L2 T2 U2)) : f_X7_readName (wc I L T U) [.ref 19, .int a, .int l] = some (some (.int 2), wc I2 L2 T2 U2) := by
  have h0 := h
  obtain ⟨hz3, e9, e2, ht⟩ := h
  have r0 : ¬ ((0 : Int32) ≤ Int32.ofInt (-1)) := by decide
  by_cases c : f + k = z
  · have c1 : uI (uI I 1 (nI k)) 10 (nI (f + k)) 9 ≤ uI (uI I 1 (nI k)) 10 (nI (f + k)) 10 := by
      rw [uI_ne _ _ (by decide), uI_ne _ _ (by decide), uI_at, e9]
      exact yy_le (by omega) (by omega) (by omega)
    exact s_rnL h0 hr ew (m := 0 + 2) (by decide) (q_X7_readName_12_5 f_X4_startDraft f_X7_byteAt f_X4_addToDraft f_X4_meetDraft f_X7_keep f_X7_isRegular f_X10_literalName f_X10_executableName _ _ _ _ _ _ _ _ _ _ (by first | with_reducible assumption | (simp (disch := omega) only [i_lit, i_m1, pk_sub, nI_add, nI_ml, nI_ltI, nI_leI, nI_eq, nI_clamp, nI_l, lN_i, lg_nI, lg_geI, lg_leI, lg_gtI, lg_ltI, c16_160, c16_200, c16_255, c16_300, c16_600, c16_616, c16_1000, Nat.add_eq, vp_updL_at, upd_at, Nat.add_sub_cancel, Nat.add_zero, Nat.zero_add, Nat.sub_zero, uU_uU, uT_uT, uI_uI, uL_uL, uU_at, uT_at, uI_at, uL_at, uU_ne, uT_ne, uI_ne, uL_ne, uU_sw, uT_sw, uI_sw, uL_sw] <;> first | with_reducible assumption | omega) | omega | decide) (hmt) (by first | with_reducible assumption | (simp (disch := omega) only [i_lit, i_m1, pk_sub, nI_add, nI_ml, nI_ltI, nI_leI, nI_eq, nI_clamp, nI_l, lN_i, lg_nI, lg_geI, lg_leI, lg_gtI, lg_ltI, c16_160, c16_200, c16_255, c16_300, c16_600, c16_616, c16_1000, Nat.add_eq, vp_updL_at, upd_at, Nat.add_sub_cancel, Nat.add_zero, Nat.zero_add, Nat.sub_zero, uU_uU, uT_uT, uI_uI, uL_uL, uU_at, uT_at, uI_at, uL_at, uU_ne, uT_ne, uI_ne, uL_ne, uU_sw, uT_sw, uI_sw, uL_sw] <;> first | with_reducible assumption | omega) | omega | decide)) ea
  · have hlt : f + k < z := by have := hr.1; omega
    obtain ⟨hb1, t1, t2⟩ := ht (f + k) hlt
    have hrj := rgn_0 (hr.2.2.resolve_left c)
    have c1 : ¬ (uI (uI I 1 (nI k)) 10 (nI (f + k)) 9 ≤ uI (uI I 1 (nI k)) 10 (nI (f + k)) 10) := by
      rw [uI_ne _ _ (by decide), uI_ne _ _ (by decide), uI_at, e9]
      exact nn_le (by omega) (by omega) (by omega)
    have by1 : f_X7_byteAt (wc (uI (uI I 1 (nI k)) 10 (nI (f + k))) (uL (uL L 0 (lN (pkl w k))) 1 (lN (pkh w k))) T U) [.ref 19, .int (uI (uI I 1 (nI k)) 10 (nI (f + k)) 10)] = some (some (.int (nI (b (f + k)))), wc (uI (uI I 1 (nI k)) 10 (nI (f + k))) (uL (uL L 0 (lN (pkl w k))) 1 (lN (pkh w k))) T U) := s_byteAt (I := uI (uI I 1 (nI k)) 10 (nI (f + k))) (show uI (uI I 1 _) 10 _ 9 = nI z from e9) hz3 (uI_at _ _ _) (by omega) hb1 t1
    have rg := s_isReg (I := uI (uI I 1 (nI k)) 10 (nI (f + k))) (L := uL (uL L 0 (lN (pkl w k))) 1 (lN (pkh w k))) (T := T) (U := U) (a := nI (b (f + k))) rfl hb1
    rw [hrj] at rg
    have c3 : nI 0 = 0 := rfl
    exact s_rnL h0 hr ew (m := 0 + 2) (by decide) (q_X7_readName_12_2 f_X4_startDraft f_X7_byteAt f_X4_addToDraft f_X4_meetDraft f_X7_keep f_X7_isRegular f_X10_literalName f_X10_executableName _ _ _ _ _ _ _ _ _ _ _ _ (by first | with_reducible assumption | (simp (disch := omega) only [i_lit, i_m1, pk_sub, nI_add, nI_ml, nI_ltI, nI_leI, nI_eq, nI_clamp, nI_l, lN_i, lg_nI, lg_geI, lg_leI, lg_gtI, lg_ltI, c16_160, c16_200, c16_255, c16_300, c16_600, c16_616, c16_1000, Nat.add_eq, vp_updL_at, upd_at, Nat.add_sub_cancel, Nat.add_zero, Nat.zero_add, Nat.sub_zero, uU_uU, uT_uT, uI_uI, uL_uL, uU_at, uT_at, uI_at, uL_at, uU_ne, uT_ne, uI_ne, uL_ne, uU_sw, uT_sw, uI_sw, uL_sw] <;> first | with_reducible assumption | omega) | omega | decide) (by1) (rg) (by first | with_reducible assumption | (simp (disch := omega) only [i_lit, i_m1, pk_sub, nI_add, nI_ml, nI_ltI, nI_leI, nI_eq, nI_clamp, nI_l, lN_i, lg_nI, lg_geI, lg_leI, lg_gtI, lg_ltI, c16_160, c16_200, c16_255, c16_300, c16_600, c16_616, c16_1000, Nat.add_eq, vp_updL_at, upd_at, Nat.add_sub_cancel, Nat.add_zero, Nat.zero_add, Nat.sub_zero, uU_uU, uT_uT, uI_uI, uL_uL, uU_at, uT_at, uI_at, uL_at, uU_ne, uT_ne, uI_ne, uL_ne, uU_sw, uT_sw, uI_sw, uL_sw] <;> first | with_reducible assumption | omega) | omega | decide) (hmt) (by first | with_reducible assumption | (simp (disch := omega) only [i_lit, i_m1, pk_sub, nI_add, nI_ml, nI_ltI, nI_leI, nI_eq, nI_clamp, nI_l, lN_i, lg_nI, lg_geI, lg_leI, lg_gtI, lg_ltI, c16_160, c16_200, c16_255, c16_300, c16_600, c16_616, c16_1000, Nat.add_eq, vp_updL_at, upd_at, Nat.add_sub_cancel, Nat.add_zero, Nat.zero_add, Nat.sub_zero, uU_uU, uT_uT, uI_uI, uL_uL, uU_at, uT_at, uI_at, uL_at, uU_ne, uT_ne, uI_ne, uL_ne, uU_sw, uT_sw, uI_sw, uL_sw] <;> first | with_reducible assumption | omega) | omega | decide)) ea
theorem s_rnK1 (h : TA z b I T J S) (hr : RRun z b f k) (ew : w = wof z b f) {a : Int32} (ea : a = nI f) {j : Nat} {c : Int32} (hj : j < 160) (hmt : f_X4_meetDraft (wc (uI (uI I 1 (nI k)) 10 (nI (f + k))) (uL (uL L 0 (lN (pkl w k))) 1 (lN (pkh w k))) T U) [.ref 1] = some (some (.int (nI j)), wc I2 L2 T2 U2)) (hk : f_X7_keep (wc I2 L2 T2 U2) [.ref 19, .long (eV (4, 0, 0, nI j))] = some (some (.int c), wc I3 L3 T3 U3)) : f_X7_readName (wc I L T U) [.ref 19, .int a, .int 1] = some (some (.int c), wc I3 L3 T3 U3) := by
  have h0 := h
  obtain ⟨hz3, e9, e2, ht⟩ := h
  have r0 : (0 : Int32) ≤ nI j := yy_le (a := 0) (by decide) (by omega) (by omega)
  have lc : ¬ ((1 : Int32) = 0) := by decide
  by_cases c : f + k = z
  · have c1 : uI (uI I 1 (nI k)) 10 (nI (f + k)) 9 ≤ uI (uI I 1 (nI k)) 10 (nI (f + k)) 10 := by
      rw [uI_ne _ _ (by decide), uI_ne _ _ (by decide), uI_at, e9]
      exact yy_le (by omega) (by omega) (by omega)
    exact s_rnL h0 hr ew (m := 0 + 4) (by decide) (q_X7_readName_12_6 f_X4_startDraft f_X7_byteAt f_X4_addToDraft f_X4_meetDraft f_X7_keep f_X7_isRegular f_X10_literalName f_X10_executableName _ _ _ _ _ _ _ _ _ _ _ _ _ _ _ _ (by first | with_reducible assumption | (simp (disch := omega) only [i_lit, i_m1, pk_sub, nI_add, nI_ml, nI_ltI, nI_leI, nI_eq, nI_clamp, nI_l, lN_i, lg_nI, lg_geI, lg_leI, lg_gtI, lg_ltI, c16_160, c16_200, c16_255, c16_300, c16_600, c16_616, c16_1000, Nat.add_eq, vp_updL_at, upd_at, Nat.add_sub_cancel, Nat.add_zero, Nat.zero_add, Nat.sub_zero, uU_uU, uT_uT, uI_uI, uL_uL, uU_at, uT_at, uI_at, uL_at, uU_ne, uT_ne, uI_ne, uL_ne, uU_sw, uT_sw, uI_sw, uL_sw] <;> first | with_reducible assumption | omega) | omega | decide) (hmt) (by first | with_reducible assumption | (simp (disch := omega) only [i_lit, i_m1, pk_sub, nI_add, nI_ml, nI_ltI, nI_leI, nI_eq, nI_clamp, nI_l, lN_i, lg_nI, lg_geI, lg_leI, lg_gtI, lg_ltI, c16_160, c16_200, c16_255, c16_300, c16_600, c16_616, c16_1000, Nat.add_eq, vp_updL_at, upd_at, Nat.add_sub_cancel, Nat.add_zero, Nat.zero_add, Nat.sub_zero, uU_uU, uT_uT, uI_uI, uL_uL, uU_at, uT_at, uI_at, uL_at, uU_ne, uT_ne, uI_ne, uL_ne, uU_sw, uT_sw, uI_sw, uL_sw] <;> first | with_reducible assumption | omega) | omega | decide) (by first | with_reducible assumption | (simp (disch := omega) only [i_lit, i_m1, pk_sub, nI_add, nI_ml, nI_ltI, nI_leI, nI_eq, nI_clamp, nI_l, lN_i, lg_nI, lg_geI, lg_leI, lg_gtI, lg_ltI, c16_160, c16_200, c16_255, c16_300, c16_600, c16_616, c16_1000, Nat.add_eq, vp_updL_at, upd_at, Nat.add_sub_cancel, Nat.add_zero, Nat.zero_add, Nat.sub_zero, uU_uU, uT_uT, uI_uI, uL_uL, uU_at, uT_at, uI_at, uL_at, uU_ne, uT_ne, uI_ne, uL_ne, uU_sw, uT_sw, uI_sw, uL_sw] <;> first | with_reducible assumption | omega) | omega | decide) (s_literalName) (hk)) ea
  · have hlt : f + k < z := by have := hr.1; omega
    obtain ⟨hb1, t1, t2⟩ := ht (f + k) hlt
    have hrj := rgn_0 (hr.2.2.resolve_left c)
    have c1 : ¬ (uI (uI I 1 (nI k)) 10 (nI (f + k)) 9 ≤ uI (uI I 1 (nI k)) 10 (nI (f + k)) 10) := by
      rw [uI_ne _ _ (by decide), uI_ne _ _ (by decide), uI_at, e9]
      exact nn_le (by omega) (by omega) (by omega)
    have by1 : f_X7_byteAt (wc (uI (uI I 1 (nI k)) 10 (nI (f + k))) (uL (uL L 0 (lN (pkl w k))) 1 (lN (pkh w k))) T U) [.ref 19, .int (uI (uI I 1 (nI k)) 10 (nI (f + k)) 10)] = some (some (.int (nI (b (f + k)))), wc (uI (uI I 1 (nI k)) 10 (nI (f + k))) (uL (uL L 0 (lN (pkl w k))) 1 (lN (pkh w k))) T U) := s_byteAt (I := uI (uI I 1 (nI k)) 10 (nI (f + k))) (show uI (uI I 1 _) 10 _ 9 = nI z from e9) hz3 (uI_at _ _ _) (by omega) hb1 t1
    have rg := s_isReg (I := uI (uI I 1 (nI k)) 10 (nI (f + k))) (L := uL (uL L 0 (lN (pkl w k))) 1 (lN (pkh w k))) (T := T) (U := U) (a := nI (b (f + k))) rfl hb1
    rw [hrj] at rg
    have c3 : nI 0 = 0 := rfl
    exact s_rnL h0 hr ew (m := 0 + 4) (by decide) (q_X7_readName_12_3 f_X4_startDraft f_X7_byteAt f_X4_addToDraft f_X4_meetDraft f_X7_keep f_X7_isRegular f_X10_literalName f_X10_executableName _ _ _ _ _ _ _ _ _ _ _ _ _ _ _ _ _ _ (by first | with_reducible assumption | (simp (disch := omega) only [i_lit, i_m1, pk_sub, nI_add, nI_ml, nI_ltI, nI_leI, nI_eq, nI_clamp, nI_l, lN_i, lg_nI, lg_geI, lg_leI, lg_gtI, lg_ltI, c16_160, c16_200, c16_255, c16_300, c16_600, c16_616, c16_1000, Nat.add_eq, vp_updL_at, upd_at, Nat.add_sub_cancel, Nat.add_zero, Nat.zero_add, Nat.sub_zero, uU_uU, uT_uT, uI_uI, uL_uL, uU_at, uT_at, uI_at, uL_at, uU_ne, uT_ne, uI_ne, uL_ne, uU_sw, uT_sw, uI_sw, uL_sw] <;> first | with_reducible assumption | omega) | omega | decide) (by1) (rg) (by first | with_reducible assumption | (simp (disch := omega) only [i_lit, i_m1, pk_sub, nI_add, nI_ml, nI_ltI, nI_leI, nI_eq, nI_clamp, nI_l, lN_i, lg_nI, lg_geI, lg_leI, lg_gtI, lg_ltI, c16_160, c16_200, c16_255, c16_300, c16_600, c16_616, c16_1000, Nat.add_eq, vp_updL_at, upd_at, Nat.add_sub_cancel, Nat.add_zero, Nat.zero_add, Nat.sub_zero, uU_uU, uT_uT, uI_uI, uL_uL, uU_at, uT_at, uI_at, uL_at, uU_ne, uT_ne, uI_ne, uL_ne, uU_sw, uT_sw, uI_sw, uL_sw] <;> first | with_reducible assumption | omega) | omega | decide) (hmt) (by first | with_reducible assumption | (simp (disch := omega) only [i_lit, i_m1, pk_sub, nI_add, nI_ml, nI_ltI, nI_leI, nI_eq, nI_clamp, nI_l, lN_i, lg_nI, lg_geI, lg_leI, lg_gtI, lg_ltI, c16_160, c16_200, c16_255, c16_300, c16_600, c16_616, c16_1000, Nat.add_eq, vp_updL_at, upd_at, Nat.add_sub_cancel, Nat.add_zero, Nat.zero_add, Nat.sub_zero, uU_uU, uT_uT, uI_uI, uL_uL, uU_at, uT_at, uI_at, uL_at, uU_ne, uT_ne, uI_ne, uL_ne, uU_sw, uT_sw, uI_sw, uL_sw] <;> first | with_reducible assumption | omega) | omega | decide) (by first | with_reducible assumption | (simp (disch := omega) only [i_lit, i_m1, pk_sub, nI_add, nI_ml, nI_ltI, nI_leI, nI_eq, nI_clamp, nI_l, lN_i, lg_nI, lg_geI, lg_leI, lg_gtI, lg_ltI, c16_160, c16_200, c16_255, c16_300, c16_600, c16_616, c16_1000, Nat.add_eq, vp_updL_at, upd_at, Nat.add_sub_cancel, Nat.add_zero, Nat.zero_add, Nat.sub_zero, uU_uU, uT_uT, uI_uI, uL_uL, uU_at, uT_at, uI_at, uL_at, uU_ne, uT_ne, uI_ne, uL_ne, uU_sw, uT_sw, uI_sw, uL_sw] <;> first | with_reducible assumption | omega) | omega | decide) (s_literalName) (hk)) ea
theorem s_rnK0 (h : TA z b I T J S) (hr : RRun z b f k) (ew : w = wof z b f) {a : Int32} (ea : a = nI f) {j : Nat} {c : Int32} (hj : j < 160) (hmt : f_X4_meetDraft (wc (uI (uI I 1 (nI k)) 10 (nI (f + k))) (uL (uL L 0 (lN (pkl w k))) 1 (lN (pkh w k))) T U) [.ref 1] = some (some (.int (nI j)), wc I2 L2 T2 U2)) (hk : f_X7_keep (wc I2 L2 T2 U2) [.ref 19, .long (eV (4, 1, 0, nI j))] = some (some (.int c), wc I3 L3 T3 U3)) : f_X7_readName (wc I L T U) [.ref 19, .int a, .int 0] = some (some (.int c), wc I3 L3 T3 U3) := by
  have h0 := h
  obtain ⟨hz3, e9, e2, ht⟩ := h
  have r0 : (0 : Int32) ≤ nI j := yy_le (a := 0) (by decide) (by omega) (by omega)
  have lc : (0 : Int32) = 0 := rfl
  by_cases c : f + k = z
  · have c1 : uI (uI I 1 (nI k)) 10 (nI (f + k)) 9 ≤ uI (uI I 1 (nI k)) 10 (nI (f + k)) 10 := by
      rw [uI_ne _ _ (by decide), uI_ne _ _ (by decide), uI_at, e9]
      exact yy_le (by omega) (by omega) (by omega)
    exact s_rnL h0 hr ew (m := 0 + 5) (by decide) (q_X7_readName_12_7 f_X4_startDraft f_X7_byteAt f_X4_addToDraft f_X4_meetDraft f_X7_keep f_X7_isRegular f_X10_literalName f_X10_executableName _ _ _ _ _ _ _ _ _ _ _ _ _ _ _ _ (by first | with_reducible assumption | (simp (disch := omega) only [i_lit, i_m1, pk_sub, nI_add, nI_ml, nI_ltI, nI_leI, nI_eq, nI_clamp, nI_l, lN_i, lg_nI, lg_geI, lg_leI, lg_gtI, lg_ltI, c16_160, c16_200, c16_255, c16_300, c16_600, c16_616, c16_1000, Nat.add_eq, vp_updL_at, upd_at, Nat.add_sub_cancel, Nat.add_zero, Nat.zero_add, Nat.sub_zero, uU_uU, uT_uT, uI_uI, uL_uL, uU_at, uT_at, uI_at, uL_at, uU_ne, uT_ne, uI_ne, uL_ne, uU_sw, uT_sw, uI_sw, uL_sw] <;> first | with_reducible assumption | omega) | omega | decide) (hmt) (by first | with_reducible assumption | (simp (disch := omega) only [i_lit, i_m1, pk_sub, nI_add, nI_ml, nI_ltI, nI_leI, nI_eq, nI_clamp, nI_l, lN_i, lg_nI, lg_geI, lg_leI, lg_gtI, lg_ltI, c16_160, c16_200, c16_255, c16_300, c16_600, c16_616, c16_1000, Nat.add_eq, vp_updL_at, upd_at, Nat.add_sub_cancel, Nat.add_zero, Nat.zero_add, Nat.sub_zero, uU_uU, uT_uT, uI_uI, uL_uL, uU_at, uT_at, uI_at, uL_at, uU_ne, uT_ne, uI_ne, uL_ne, uU_sw, uT_sw, uI_sw, uL_sw] <;> first | with_reducible assumption | omega) | omega | decide) (by first | with_reducible assumption | (simp (disch := omega) only [i_lit, i_m1, pk_sub, nI_add, nI_ml, nI_ltI, nI_leI, nI_eq, nI_clamp, nI_l, lN_i, lg_nI, lg_geI, lg_leI, lg_gtI, lg_ltI, c16_160, c16_200, c16_255, c16_300, c16_600, c16_616, c16_1000, Nat.add_eq, vp_updL_at, upd_at, Nat.add_sub_cancel, Nat.add_zero, Nat.zero_add, Nat.sub_zero, uU_uU, uT_uT, uI_uI, uL_uL, uU_at, uT_at, uI_at, uL_at, uU_ne, uT_ne, uI_ne, uL_ne, uU_sw, uT_sw, uI_sw, uL_sw] <;> first | with_reducible assumption | omega) | omega | decide) (s_executableName) (hk)) ea
  · have hlt : f + k < z := by have := hr.1; omega
    obtain ⟨hb1, t1, t2⟩ := ht (f + k) hlt
    have hrj := rgn_0 (hr.2.2.resolve_left c)
    have c1 : ¬ (uI (uI I 1 (nI k)) 10 (nI (f + k)) 9 ≤ uI (uI I 1 (nI k)) 10 (nI (f + k)) 10) := by
      rw [uI_ne _ _ (by decide), uI_ne _ _ (by decide), uI_at, e9]
      exact nn_le (by omega) (by omega) (by omega)
    have by1 : f_X7_byteAt (wc (uI (uI I 1 (nI k)) 10 (nI (f + k))) (uL (uL L 0 (lN (pkl w k))) 1 (lN (pkh w k))) T U) [.ref 19, .int (uI (uI I 1 (nI k)) 10 (nI (f + k)) 10)] = some (some (.int (nI (b (f + k)))), wc (uI (uI I 1 (nI k)) 10 (nI (f + k))) (uL (uL L 0 (lN (pkl w k))) 1 (lN (pkh w k))) T U) := s_byteAt (I := uI (uI I 1 (nI k)) 10 (nI (f + k))) (show uI (uI I 1 _) 10 _ 9 = nI z from e9) hz3 (uI_at _ _ _) (by omega) hb1 t1
    have rg := s_isReg (I := uI (uI I 1 (nI k)) 10 (nI (f + k))) (L := uL (uL L 0 (lN (pkl w k))) 1 (lN (pkh w k))) (T := T) (U := U) (a := nI (b (f + k))) rfl hb1
    rw [hrj] at rg
    have c3 : nI 0 = 0 := rfl
    exact s_rnL h0 hr ew (m := 0 + 5) (by decide) (q_X7_readName_12_4 f_X4_startDraft f_X7_byteAt f_X4_addToDraft f_X4_meetDraft f_X7_keep f_X7_isRegular f_X10_literalName f_X10_executableName _ _ _ _ _ _ _ _ _ _ _ _ _ _ _ _ _ _ (by first | with_reducible assumption | (simp (disch := omega) only [i_lit, i_m1, pk_sub, nI_add, nI_ml, nI_ltI, nI_leI, nI_eq, nI_clamp, nI_l, lN_i, lg_nI, lg_geI, lg_leI, lg_gtI, lg_ltI, c16_160, c16_200, c16_255, c16_300, c16_600, c16_616, c16_1000, Nat.add_eq, vp_updL_at, upd_at, Nat.add_sub_cancel, Nat.add_zero, Nat.zero_add, Nat.sub_zero, uU_uU, uT_uT, uI_uI, uL_uL, uU_at, uT_at, uI_at, uL_at, uU_ne, uT_ne, uI_ne, uL_ne, uU_sw, uT_sw, uI_sw, uL_sw] <;> first | with_reducible assumption | omega) | omega | decide) (by1) (rg) (by first | with_reducible assumption | (simp (disch := omega) only [i_lit, i_m1, pk_sub, nI_add, nI_ml, nI_ltI, nI_leI, nI_eq, nI_clamp, nI_l, lN_i, lg_nI, lg_geI, lg_leI, lg_gtI, lg_ltI, c16_160, c16_200, c16_255, c16_300, c16_600, c16_616, c16_1000, Nat.add_eq, vp_updL_at, upd_at, Nat.add_sub_cancel, Nat.add_zero, Nat.zero_add, Nat.sub_zero, uU_uU, uT_uT, uI_uI, uL_uL, uU_at, uT_at, uI_at, uL_at, uU_ne, uT_ne, uI_ne, uL_ne, uU_sw, uT_sw, uI_sw, uL_sw] <;> first | with_reducible assumption | omega) | omega | decide) (hmt) (by first | with_reducible assumption | (simp (disch := omega) only [i_lit, i_m1, pk_sub, nI_add, nI_ml, nI_ltI, nI_leI, nI_eq, nI_clamp, nI_l, lN_i, lg_nI, lg_geI, lg_leI, lg_gtI, lg_ltI, c16_160, c16_200, c16_255, c16_300, c16_600, c16_616, c16_1000, Nat.add_eq, vp_updL_at, upd_at, Nat.add_sub_cancel, Nat.add_zero, Nat.zero_add, Nat.sub_zero, uU_uU, uT_uT, uI_uI, uL_uL, uU_at, uT_at, uI_at, uL_at, uU_ne, uT_ne, uI_ne, uL_ne, uU_sw, uT_sw, uI_sw, uL_sw] <;> first | with_reducible assumption | omega) | omega | decide) (by first | with_reducible assumption | (simp (disch := omega) only [i_lit, i_m1, pk_sub, nI_add, nI_ml, nI_ltI, nI_leI, nI_eq, nI_clamp, nI_l, lN_i, lg_nI, lg_geI, lg_leI, lg_gtI, lg_ltI, c16_160, c16_200, c16_255, c16_300, c16_600, c16_616, c16_1000, Nat.add_eq, vp_updL_at, upd_at, Nat.add_sub_cancel, Nat.add_zero, Nat.zero_add, Nat.sub_zero, uU_uU, uT_uT, uI_uI, uL_uL, uU_at, uT_at, uI_at, uL_at, uU_ne, uT_ne, uI_ne, uL_ne, uU_sw, uT_sw, uI_sw, uL_sw] <;> first | with_reducible assumption | omega) | omega | decide) (s_executableName) (hk)) ea
theorem t_pass (h : TA z b I T J S) (hr : RRun z b f k) (e3 : J 3 = nI f) : f_X12_passRegular (wr J S K) [.ref 0] = some (some (.int (nI f)), wr (uI J 3 (nI (f + k))) S K) := by
  obtain ⟨hz3, e9, e2, ht⟩ := h
  obtain ⟨r1, r2, r3⟩ := hr
  obtain ⟨rs, m', hq, hm', hzz⟩ := lp (fun j W m => (z_X12_passRegular f_X12_isRegular) 5 [.ref 0, .int (nI f)] [] W m) (fun j W => W = wr (uI J 3 (nI (f + j))) S K) (fun rs => rs = (some (.int (nI f)), wr (uI J 3 (nI (f + k))) S K)) k 1 2 (by
    rintro j _ hj rfl
    obtain ⟨hb1, t1, t2⟩ := ht (f + j) (by omega)
    have hrj := rgn_1 (r2 j hj)
    have c1 : ¬ (uI J 3 (nI (f + j)) 2 ≤ uI J 3 (nI (f + j)) 3) := by
      rw [uI_ne _ _ (by decide), uI_at, e2]
      exact nn_le (by omega) (by omega) (by omega)
    have c2 : ¬ (uI J 3 (nI (f + j)) 3 < 0 ∨ 300 ≤ (uI J 3 (nI (f + j)) 3 : Int32).toNatClampNeg) := by
      rw [uI_at, nI_clamp (by omega), i_lit 0, nI_ltI (by omega) (by decide)]
      omega
    have tc : S 0 (uI J 3 (nI (f + j)) 3 : Int32).toNatClampNeg = nI (b (f + j)) := by
      rw [uI_at, nI_clamp (by omega)]
      exact t2
    have rg := t_isReg (I := uI J 3 (nI (f + j))) (T := S) (K := K) tc hb1
    rw [hrj] at rg
    have n10 : ¬ (nI 1 = 0) := by decide
    refine .inl ⟨_, 1, Nat.le_refl _, rfl, fun m rs hz' => ?_⟩
    refine (q_X12_passRegular_5_1 f_X12_isRegular _ _ _ _ _ (by first | with_reducible assumption | (simp (disch := omega) only [i_lit, i_m1, pk_sub, nI_add, nI_ml, nI_ltI, nI_leI, nI_eq, nI_clamp, nI_l, lN_i, lg_nI, lg_geI, lg_leI, lg_gtI, lg_ltI, c16_160, c16_200, c16_255, c16_300, c16_600, c16_616, c16_1000, Nat.add_eq, vp_updL_at, upd_at, Nat.add_sub_cancel, Nat.add_zero, Nat.zero_add, Nat.sub_zero, uU_uU, uT_uT, uI_uI, uL_uL, uU_at, uT_at, uI_at, uL_at, uU_ne, uT_ne, uI_ne, uL_ne, uU_sw, uT_sw, uI_sw, uL_sw] <;> first | with_reducible assumption | omega) | omega | decide) (by first | with_reducible assumption | (simp (disch := omega) only [i_lit, i_m1, pk_sub, nI_add, nI_ml, nI_ltI, nI_leI, nI_eq, nI_clamp, nI_l, lN_i, lg_nI, lg_geI, lg_leI, lg_gtI, lg_ltI, c16_160, c16_200, c16_255, c16_300, c16_600, c16_616, c16_1000, Nat.add_eq, vp_updL_at, upd_at, Nat.add_sub_cancel, Nat.add_zero, Nat.zero_add, Nat.sub_zero, uU_uU, uT_uT, uI_uI, uL_uL, uU_at, uT_at, uI_at, uL_at, uU_ne, uT_ne, uI_ne, uL_ne, uU_sw, uT_sw, uI_sw, uL_sw] <;> first | with_reducible assumption | omega) | omega | decide) (rg) (by first | with_reducible assumption | (simp (disch := omega) only [i_lit, i_m1, pk_sub, nI_add, nI_ml, nI_ltI, nI_leI, nI_eq, nI_clamp, nI_l, lN_i, lg_nI, lg_geI, lg_leI, lg_gtI, lg_ltI, c16_160, c16_200, c16_255, c16_300, c16_600, c16_616, c16_1000, Nat.add_eq, vp_updL_at, upd_at, Nat.add_sub_cancel, Nat.add_zero, Nat.zero_add, Nat.sub_zero, uU_uU, uT_uT, uI_uI, uL_uL, uU_at, uT_at, uI_at, uL_at, uU_ne, uT_ne, uI_ne, uL_ne, uU_sw, uT_sw, uI_sw, uL_sw] <;> first | with_reducible assumption | omega) | omega | decide) ?_)
    rw [uI_uI, uI_at, show nI (f + j) + 1 = nI (f + (j + 1)) from nI_add (f + j) 1]
    exact hz') (by
    rintro _ rfl
    by_cases c : f + k = z
    · have c1 : uI J 3 (nI (f + k)) 2 ≤ uI J 3 (nI (f + k)) 3 := by
        rw [uI_ne _ _ (by decide), uI_at, e2]
        exact yy_le (by omega) (by omega) (by omega)
      exact ⟨_, 2, by decide, rfl, (q_X12_passRegular_5_3 f_X12_isRegular _ _ _ _ (by first | with_reducible assumption | (simp (disch := omega) only [i_lit, i_m1, pk_sub, nI_add, nI_ml, nI_ltI, nI_leI, nI_eq, nI_clamp, nI_l, lN_i, lg_nI, lg_geI, lg_leI, lg_gtI, lg_ltI, c16_160, c16_200, c16_255, c16_300, c16_600, c16_616, c16_1000, Nat.add_eq, vp_updL_at, upd_at, Nat.add_sub_cancel, Nat.add_zero, Nat.zero_add, Nat.sub_zero, uU_uU, uT_uT, uI_uI, uL_uL, uU_at, uT_at, uI_at, uL_at, uU_ne, uT_ne, uI_ne, uL_ne, uU_sw, uT_sw, uI_sw, uL_sw] <;> first | with_reducible assumption | omega) | omega | decide))⟩
    · obtain ⟨hb1, t1, t2⟩ := ht (f + k) (by omega)
      have hrj := rgn_0 (r3.resolve_left c)
      have c1 : ¬ (uI J 3 (nI (f + k)) 2 ≤ uI J 3 (nI (f + k)) 3) := by
        rw [uI_ne _ _ (by decide), uI_at, e2]
        exact nn_le (by omega) (by omega) (by omega)
      have c2 : ¬ (uI J 3 (nI (f + k)) 3 < 0 ∨ 300 ≤ (uI J 3 (nI (f + k)) 3 : Int32).toNatClampNeg) := by
        rw [uI_at, nI_clamp (by omega), i_lit 0, nI_ltI (by omega) (by decide)]
        omega
      have tc : S 0 (uI J 3 (nI (f + k)) 3 : Int32).toNatClampNeg = nI (b (f + k)) := by
        rw [uI_at, nI_clamp (by omega)]
        exact t2
      have rg := t_isReg (I := uI J 3 (nI (f + k))) (T := S) (K := K) tc hb1
      rw [hrj] at rg
      have c3 : nI 0 = 0 := rfl
      exact ⟨_, 2, by decide, rfl, (q_X12_passRegular_5_2 f_X12_isRegular _ _ _ _ _ (by first | with_reducible assumption | (simp (disch := omega) only [i_lit, i_m1, pk_sub, nI_add, nI_ml, nI_ltI, nI_leI, nI_eq, nI_clamp, nI_l, lN_i, lg_nI, lg_geI, lg_leI, lg_gtI, lg_ltI, c16_160, c16_200, c16_255, c16_300, c16_600, c16_616, c16_1000, Nat.add_eq, vp_updL_at, upd_at, Nat.add_sub_cancel, Nat.add_zero, Nat.zero_add, Nat.sub_zero, uU_uU, uT_uT, uI_uI, uL_uL, uU_at, uT_at, uI_at, uL_at, uU_ne, uT_ne, uI_ne, uL_ne, uU_sw, uT_sw, uI_sw, uL_sw] <;> first | with_reducible assumption | omega) | omega | decide) (by first | with_reducible assumption | (simp (disch := omega) only [i_lit, i_m1, pk_sub, nI_add, nI_ml, nI_ltI, nI_leI, nI_eq, nI_clamp, nI_l, lN_i, lg_nI, lg_geI, lg_leI, lg_gtI, lg_ltI, c16_160, c16_200, c16_255, c16_300, c16_600, c16_616, c16_1000, Nat.add_eq, vp_updL_at, upd_at, Nat.add_sub_cancel, Nat.add_zero, Nat.zero_add, Nat.sub_zero, uU_uU, uT_uT, uI_uI, uL_uL, uU_at, uT_at, uI_at, uL_at, uU_ne, uT_ne, uI_ne, uL_ne, uU_sw, uT_sw, uI_sw, uL_sw] <;> first | with_reducible assumption | omega) | omega | decide) (rg) (by first | with_reducible assumption | (simp (disch := omega) only [i_lit, i_m1, pk_sub, nI_add, nI_ml, nI_ltI, nI_leI, nI_eq, nI_clamp, nI_l, lN_i, lg_nI, lg_geI, lg_leI, lg_gtI, lg_ltI, c16_160, c16_200, c16_255, c16_300, c16_600, c16_616, c16_1000, Nat.add_eq, vp_updL_at, upd_at, Nat.add_sub_cancel, Nat.add_zero, Nat.zero_add, Nat.sub_zero, uU_uU, uT_uT, uI_uI, uL_uL, uU_at, uT_at, uI_at, uL_at, uU_ne, uT_ne, uI_ne, uL_ne, uU_sw, uT_sw, uI_sw, uL_sw] <;> first | with_reducible assumption | omega) | omega | decide))⟩) k 0 (wr J S K) (by omega) (by rw [Nat.add_zero, w_in e3])
  subst hq
  have hk : 1 * k ≤ 1 * 300 := Nat.mul_le_mul_left _ (by omega)
  rw [fv_X12_passRegular_eq]
  rw [← e3] at hzz ⊢
  exact (p_X12_passRegular_1 f_X12_isRegular _ _ _ (m := m') (by omega) hzz)
end
theorem t_knF {I : Nat → Int32} {T : Nat → Nat → Int32} {K : Nat → Int64} {I1 : Nat → Int32} {T1 : Nat → Nat → Int32} {K1 : Nat → Int64} {I2 : Nat → Int32} {T2 : Nat → Nat → Int32} {K2 : Nat → Int64} {f k : Nat} {a b : Int32} (ea : a = nI f) (eb : b = nI (f + k)) (hn : f_X12_nameOf (wr I T K) [.ref 0, .ref 1, .int (nI f), .int (nI k)] = some (some (.int (Int32.ofInt (-1))), wr I1 T1 K1)) {x : Int32} : f_X12_keepName (wr I T K) [.ref 0, .int a, .int b, .int x] = some (none, wr (uI I1 20 2) T1 K1) := by
  rw [fv_X12_keepName_eq]; (refine Eq.trans (p_X12_keepName_1 f_X12_nameOf f_X12_keep _ _ _ _ _ _ _ _ _ _ ((by rw [ea, eb, pk_sub (Nat.le_add_right f k), Nat.add_sub_cancel_left]; exact hn)) (by first | with_reducible assumption | (simp (disch := omega) only [ea, eb, i_lit, i_m1, pk_sub, nI_add, nI_ml, nI_ltI, nI_leI, nI_eq, nI_clamp, nI_l, lN_i, lg_nI, lg_geI, lg_leI, lg_gtI, lg_ltI, c16_160, c16_200, c16_255, c16_300, c16_600, c16_616, c16_1000, Nat.add_eq, vp_updL_at, upd_at, Nat.add_sub_cancel, Nat.add_zero, Nat.zero_add, Nat.sub_zero, uU_uU, uT_uT, uI_uI, uL_uL, uU_at, uT_at, uI_at, uL_at, uU_ne, uT_ne, uI_ne, uL_ne, uU_sw, uT_sw, uI_sw, uL_sw] <;> first | with_reducible assumption | omega) | omega | decide)) ?_; first | with_reducible rfl | (simp (disch := omega) only [ea, eb, i_lit, i_m1, pk_sub, nI_add, nI_ml, nI_ltI, nI_leI, nI_eq, nI_clamp, nI_l, lN_i, lg_nI, lg_geI, lg_leI, lg_gtI, lg_ltI, c16_160, c16_200, c16_255, c16_300, c16_600, c16_616, c16_1000]; done))
theorem t_knK {I : Nat → Int32} {T : Nat → Nat → Int32} {K : Nat → Int64} {I1 : Nat → Int32} {T1 : Nat → Nat → Int32} {K1 : Nat → Int64} {I2 : Nat → Int32} {T2 : Nat → Nat → Int32} {K2 : Nat → Int64} {j : Nat} (hj : j < 160) {f k : Nat} {a b : Int32} (ea : a = nI f) (eb : b = nI (f + k)) (hn : f_X12_nameOf (wr I T K) [.ref 0, .ref 1, .int (nI f), .int (nI k)] = some (some (.int (nI j)), wr I1 T1 K1)) {x : Int32} (hk : f_X12_keep (wr I1 T1 K1) [.ref 0, .int 4, .int (nI j), .int x, .int 0, .int 0] = some (none, wr I2 T2 K2)) : f_X12_keepName (wr I T K) [.ref 0, .int a, .int b, .int x] = some (none, wr I2 T2 K2) := by
  have c := ne_m1 (j := j) (by omega)
  rw [fv_X12_keepName_eq]; (refine Eq.trans (p_X12_keepName_2 f_X12_nameOf f_X12_keep _ _ _ _ _ _ _ _ _ _ _ _ _ ((by rw [ea, eb, pk_sub (Nat.le_add_right f k), Nat.add_sub_cancel_left]; exact hn)) (by first | with_reducible assumption | (simp (disch := omega) only [ea, eb, i_lit, i_m1, pk_sub, nI_add, nI_ml, nI_ltI, nI_leI, nI_eq, nI_clamp, nI_l, lN_i, lg_nI, lg_geI, lg_leI, lg_gtI, lg_ltI, c16_160, c16_200, c16_255, c16_300, c16_600, c16_616, c16_1000, Nat.add_eq, vp_updL_at, upd_at, Nat.add_sub_cancel, Nat.add_zero, Nat.zero_add, Nat.sub_zero, uU_uU, uT_uT, uI_uI, uL_uL, uU_at, uT_at, uI_at, uL_at, uU_ne, uT_ne, uI_ne, uL_ne, uU_sw, uT_sw, uI_sw, uL_sw] <;> first | with_reducible assumption | omega) | omega | decide) (hk)) ?_; first | with_reducible rfl | (simp (disch := omega) only [ea, eb, i_lit, i_m1, pk_sub, nI_add, nI_ml, nI_ltI, nI_leI, nI_eq, nI_clamp, nI_l, lN_i, lg_nI, lg_geI, lg_leI, lg_gtI, lg_ltI, c16_160, c16_200, c16_255, c16_300, c16_600, c16_616, c16_1000]; done))
/-- a name of the tape is met alike -/
theorem jnm {N : Nat → Nat} {I : Nat → Int32} {L : Nat → Int64} {T : Nat → Nat → Int32} {U : Nat → Nat → Int64} {J : Nat → Int32} {S : Nat → Nat → Int32} {K : Nat → Int64} {z f k p o r : Nat} {b q w : Nat → Nat} (hR : R N I T U J S) (hA : TA z b I T J S) (e20 : J 20 = 0) (hQ : TQ N I T U J S o r q) (hf : f + k ≤ z) (ew : w = wof z b f) :
    (f_X4_meetDraft (wc (uI (uI I 1 (nI k)) 10 (nI p)) (uL (uL L 0 (lN (pkl w k))) 1 (lN (pkh w k))) T U) [.ref 1] = some (some (.int (Int32.ofInt (-1))), wc (uI (uI I 1 (nI k)) 10 (nI p)) (uL (uL L 0 (lN (pkl w k))) 1 (lN (pkh w k))) T U) ∧ f_X12_nameOf (wr (uI J 3 (nI p)) S K) [.ref 0, .ref 1, .int (nI f), .int (nI k)] = some (some (.int (Int32.ofInt (-1))), wr (uI J 3 (nI p)) S K)) ∨
    (∃ (j : Nat) (N' : Nat → Nat) (I' : Nat → Int32) (T' : Nat → Nat → Int32) (U' : Nat → Nat → Int64) (J' : Nat → Int32) (S' : Nat → Nat → Int32),
      f_X4_meetDraft (wc (uI (uI I 1 (nI k)) 10 (nI p)) (uL (uL L 0 (lN (pkl w k))) 1 (lN (pkh w k))) T U) [.ref 1] = some (some (.int (nI j)), wc I' (uL (uL L 0 (lN (pkl w k))) 1 (lN (pkh w k))) T' U') ∧ f_X12_nameOf (wr (uI J 3 (nI p)) S K) [.ref 0, .ref 1, .int (nI f), .int (nI k)] = some (some (.int (nI j)), wr J' S' K) ∧ j < N' 4 ∧ j < 160 ∧ NE N N' ∧ FT I L T U I' (uL (uL L 0 (lN (pkl w k))) 1 (lN (pkh w k))) T' U' ∧ FS J S J' S' ∧ R N' I' T' U' J' S' ∧ I' 10 = nI p ∧ J' 3 = nI p ∧ J' 20 = 0 ∧ TQ N' I' T' U' J' S' o r q) := by
  have hz3 := hA.1
  have hb := wof_b hA f
  rw [← ew] at hb
  have hs : ∀ i, i < k → S 0 (f + i) = nI (w i) := by
    intro i hi
    rw [ew, wof_at (by omega)]
    exact (hA.2.2.2 (f + i) (by omega)).2.2
  have hRN := hR.2.2.2.2.1
  have h83 := hRN.1
  have h160 := hRN.2.1
  have m := me_1 (I := uI (uI I 1 (nI k)) 10 (nI p)) (L := uL (uL L 0 (lN (pkl w k))) 1 (lN (pkh w k))) (T := T) (U := U) (J := uI J 3 (nI p)) (S := S) (K := K) (x := nI f) (y := nI k) (b := w) hRN (uI_ne _ _ (by decide) |>.trans (uI_at _ _ _)) (by omega) hb rfl rfl rfl rfl (by omega) hs
  have ftI : FT I L T U (uI (uI I 1 (nI k)) 10 (nI p)) (uL (uL L 0 (lN (pkl w k))) 1 (lN (pkh w k))) T U := ⟨fun i h1 h2 => by rw [uI_ne _ _ (by omega), uI_ne _ _ (by omega)], rfl, fun _ _ _ => rfl, fun _ _ _ => rfl⟩
  have fsJ : FS J S (uI J 3 (nI p)) S := ⟨fun x h1 h2 h3 => uI_ne _ _ (by omega), fun _ _ _ => rfl⟩
  rcases m with ⟨m1, m2, m3⟩ | ⟨j, j1, m1, m2, m3, m4⟩ | ⟨g, g1, m1, m2, m3, m4⟩
  · exact .inl ⟨m1, m2⟩
  · refine .inr ⟨j, N, _, _, _, _, _, m1, m2, j1, by omega, NE_r N, ftI, fsJ, R_kp hR ftI fsJ rfl rfl rfl rfl rfl rfl rfl rfl rfl rfl rfl rfl rfl rfl rfl, rfl, rfl, e20, TQ_m hQ (NM_r N) rfl rfl rfl rfl rfl rfl rfl rfl⟩
  · have ne : NE N (uN N 4 (N 4 + 1)) := ⟨⟨Nat.le_refl _, Nat.le_refl _, Nat.le_succ _, Nat.le_refl _⟩, rfl, rfl, rfl, rfl⟩
    have ft : FT I L T U (uI (uI (uI I 1 (nI k)) 10 (nI p)) 0 (nI (N 4 + 1))) (uL (uL L 0 (lN (pkl w k))) 1 (lN (pkh w k))) (uT T 0 (upd (T 0) (N 4) (nI k))) (uU (uU U 0 (vp_updL (U 0) (N 4) (lN (pkl w k)))) 1 (vp_updL (U 1) (N 4) (lN (pkh w k)))) := ⟨fun i h1 h2 => by rw [uI_ne _ _ (by omega), uI_ne _ _ (by omega), uI_ne _ _ (by omega)], rfl, fun x h1 h2 => uT_ne _ _ (by omega), fun x h1 h2 => by rw [uU_ne _ _ (by omega), uU_ne _ _ (by omega)]⟩
    have fs : FS J S (uI (uI J 3 (nI p)) 10 (nI (N 4 + 1))) (uT (uT S 10 g) 9 (upd (S 9) (N 4) (nI k))) := ⟨fun x h1 h2 h3 => by rw [uI_ne _ _ (by omega), uI_ne _ _ (by omega)], fun x h1 h2 => by rw [uT_ne _ _ (by omega), uT_ne _ _ (by omega)]⟩
    refine .inr ⟨N 4, uN N 4 (N 4 + 1), _, _, _, _, _, m1, m2, Nat.lt_succ_self _, g1, ne, ft, fs, R_new hR ft fs ne (RO_mono ne.1 hR.2.1) hR.2.2.1 m3, rfl, rfl, e20, TQ_m hQ ne.1 rfl rfl rfl rfl rfl rfl rfl rfl⟩
/-- a name that is there from the first is found -/
theorem jkn {N : Nat → Nat} {I : Nat → Int32} {T : Nat → Nat → Int32} {U : Nat → Nat → Int64} {J J1 : Nat → Int32} {S : Nat → Nat → Int32} {K : Nat → Int64} {f k jj : Nat} {w : Nat → Nat} (hR : R N I T U J S) (hJ : J1 10 = J 10) (hf : f + k ≤ 300) (hb : ∀ i, w i < 256) (hs : ∀ i, i < k → S 0 (f + i) = nI (w i)) (hk : k ≤ 16) (h1 : jj < 83) (h2 : fxl jj = pkl w k) (h3 : fxh jj = pkh w k) (h4 : fxn jj = k) : f_X12_nameOf (wr J1 S K) [.ref 0, .ref 1, .int (nI f), .int (nI k)] = some (some (.int (nI jj)), wr J1 S K) := by
  have hRN := hR.2.2.2.2.1
  have h83 := hRN.1
  have h160 := hRN.2.1
  have hd := hRN.2.2.2.2.2.1
  obtain ⟨x1, x2, x3⟩ := hRN.2.2.2.2.2.2 jj h1
  rw [h4] at x1
  rw [h2] at x2
  rw [h3] at x3
  have w1 := s_meet1 (I := uI I 1 (nI k)) (L := fun i => if i = 0 then lN (pkl w k) else lN (pkh w k)) (T := T) (U := U) hRN.2.2.1 h160 (uI_at _ _ _) hk (show jj < N 4 by omega) ⟨x2, x3, x1⟩ (fun i hi ⟨q1, q2, q3⟩ => hd i jj hi (by omega) ⟨q1.trans x2.symm, q2.trans x3.symm, (show T 0 i = nI k from q3).trans x1.symm⟩)
  have m := me_1 (I := uI I 1 (nI k)) (L := fun i => if i = 0 then lN (pkl w k) else lN (pkh w k)) (T := T) (U := U) (J := J1) (S := S) (K := K) (x := nI f) (y := nI k) (b := w) (by rw [hJ]; exact hRN) (uI_at _ _ _) (by omega) hb rfl rfl rfl rfl hf hs
  rcases m with ⟨m1, m2, m3⟩ | ⟨j, j1, m1, m2, m3, m4⟩ | ⟨g, g1, m1, m2, m3, m4⟩
  · rcases m3 with c | c
    · omega
    · exact absurd ⟨x2, x3, x1⟩ (c jj (by omega))
  · rw [w1] at m1
    have e1 := congrArg (fun x => x.map (fun y => y.1)) m1
    have e2 : nI jj = nI j := by
      injection e1 with e1
      injection e1 with e1
      injection e1
    rw [e2]
    exact m2
  · rw [w1] at m1
    have e1 := congrArg (fun x => x.map (fun y => y.1)) m1
    have e2 : nI jj = nI (N 4) := by
      injection e1 with e1
      injection e1 with e1
      injection e1
    have := (nI_eq (by omega) (by omega)).mp e2
    omega
theorem uI_cm (A : Nat → Int32) {k j : Nat} (x y : Int32) (h : k ≠ j) : uI (uI A k x) j y = uI (uI A j y) k x := by
  funext i
  by_cases h1 : i = j
  · subst h1
    rw [uI_at, uI_ne _ _ (fun e => h e.symm), uI_at]
  · rw [uI_ne _ _ h1]
    by_cases h2 : i = k
    · subst h2
      rw [uI_at, uI_at]
    · rw [uI_ne _ _ h2, uI_ne _ _ h2, uI_ne _ _ h1]
