theorem t_putOut1 {I : Nat → Int32} {T : Nat → Nat → Int32} {K : Nat → Int64} {n : Nat} {a : Int32} (e11 : I 11 = nI n) (hn : n < 1000) : f_X12_putOut (wr I T K) [.ref 0, .int a] = some (none, wr (uI I 11 (nI (n + 1))) (uT T 11 (upd (T 11) n a)) K) := by
  (refine Eq.trans (p_X12_putOut_1 _ _ _ _ (by first | with_reducible assumption | (simp (disch := omega) only [e11, i_lit, i_m1, pk_sub, nI_add, nI_ml, nI_ltI, nI_leI, nI_eq, nI_clamp, nI_l, lN_i, lg_nI, lg_geI, lg_leI, lg_gtI, lg_ltI, c16_160, c16_200, c16_255, c16_300, c16_600, c16_616, c16_1000, Nat.add_eq, vp_updL_at, upd_at, Nat.add_sub_cancel, Nat.add_zero, Nat.zero_add, Nat.sub_zero, uU_uU, uT_uT, uI_uI, uL_uL, uU_at, uT_at, uI_at, uL_at, uU_ne, uT_ne, uI_ne, uL_ne, uU_sw, uT_sw, uI_sw, uL_sw] <;> first | with_reducible assumption | omega) | omega | decide) (by first | with_reducible assumption | (simp (disch := omega) only [e11, i_lit, i_m1, pk_sub, nI_add, nI_ml, nI_ltI, nI_leI, nI_eq, nI_clamp, nI_l, lN_i, lg_nI, lg_geI, lg_leI, lg_gtI, lg_ltI, c16_160, c16_200, c16_255, c16_300, c16_600, c16_616, c16_1000, Nat.add_eq, vp_updL_at, upd_at, Nat.add_sub_cancel, Nat.add_zero, Nat.zero_add, Nat.sub_zero, uU_uU, uT_uT, uI_uI, uL_uL, uU_at, uT_at, uI_at, uL_at, uU_ne, uT_ne, uI_ne, uL_ne, uU_sw, uT_sw, uI_sw, uL_sw] <;> first | with_reducible assumption | omega) | omega | decide)) ?_; first | with_reducible rfl | (simp (disch := omega) only [e11, i_lit, i_m1, pk_sub, nI_add, nI_ml, nI_ltI, nI_leI, nI_eq, nI_clamp, nI_l, lN_i, lg_nI, lg_geI, lg_leI, lg_gtI, lg_ltI, c16_160, c16_200, c16_255, c16_300, c16_600, c16_616, c16_1000]; done))
theorem t_putOut0 {I : Nat → Int32} {T : Nat → Nat → Int32} {K : Nat → Int64} {n : Nat} {a : Int32} (e11 : I 11 = nI n) (hn : 1000 ≤ n) (hb : n < 100000) : f_X12_putOut (wr I T K) [.ref 0, .int a] = some (none, wr (uI I 11 (nI (n + 1))) T K) := by
  (refine Eq.trans (p_X12_putOut_2 _ _ _ _ (by first | with_reducible assumption | (simp (disch := omega) only [e11, i_lit, i_m1, pk_sub, nI_add, nI_ml, nI_ltI, nI_leI, nI_eq, nI_clamp, nI_l, lN_i, lg_nI, lg_geI, lg_leI, lg_gtI, lg_ltI, c16_160, c16_200, c16_255, c16_300, c16_600, c16_616, c16_1000, Nat.add_eq, vp_updL_at, upd_at, Nat.add_sub_cancel, Nat.add_zero, Nat.zero_add, Nat.sub_zero, uU_uU, uT_uT, uI_uI, uL_uL, uU_at, uT_at, uI_at, uL_at, uU_ne, uT_ne, uI_ne, uL_ne, uU_sw, uT_sw, uI_sw, uL_sw] <;> first | with_reducible assumption | omega) | omega | decide)) ?_; first | with_reducible rfl | (simp (disch := omega) only [e11, i_lit, i_m1, pk_sub, nI_add, nI_ml, nI_ltI, nI_leI, nI_eq, nI_clamp, nI_l, lN_i, lg_nI, lg_geI, lg_leI, lg_gtI, lg_ltI, c16_160, c16_200, c16_255, c16_300, c16_600, c16_616, c16_1000]; done))
/-! bytes that are written: w from place o on -/
def WO (o i : Nat) (w : Nat → Nat) (f0 f : Nat → Int32) : Prop := (∀ j, j < o → f j = f0 j) ∧ ∀ j, j < i → o + j < 1000 → f (o + j) = bt (w j)
def WQ (o i : Nat) (w : Nat → Nat) (f0 f : Nat → Int32) : Prop := (∀ j, j < o → f j = f0 j) ∧ ∀ j, j < i → o + j < 1000 → f (o + j) = nI (w j)
def wcap (o i : Nat) : Nat := if o + i ≤ 1000 then o + i else 1000
def wrm (o i : Nat) : Nat := if o + i ≤ 1000 then 1 else 0
theorem wcap_1 {o i : Nat} (h : o + i ≤ 1000) : wcap o i = o + i := if_pos h
theorem wcap_0 {o i : Nat} (h : 1000 ≤ o + i) : wcap o i = 1000 := by
  unfold wcap
  split <;> omega
theorem wrm_1 {o i : Nat} (h : o + i ≤ 1000) : wrm o i = 1 := if_pos h
theorem wrm_0 {o i : Nat} (h : 1000 < o + i) : wrm o i = 0 := if_neg (by omega)
theorem WO_0 {o : Nat} {w : Nat → Nat} {f : Nat → Int32} : WO o 0 w f f := ⟨fun _ _ => rfl, fun _ h => absurd h (by omega)⟩
theorem WQ_0 {o : Nat} {w : Nat → Nat} {f : Nat → Int32} : WQ o 0 w f f := ⟨fun _ _ => rfl, fun _ h => absurd h (by omega)⟩
theorem WO_c {o i : Nat} {w w' : Nat → Nat} {f g : Nat → Int32} (h : WO o i w f g) (e : ∀ j, j < i → w j = w' j) : WO o i w' f g := ⟨h.1, fun j a b => by rw [← e j a]; exact h.2 j a b⟩
theorem WQ_c {o i : Nat} {w w' : Nat → Nat} {f g : Nat → Int32} (h : WQ o i w f g) (e : ∀ j, j < i → w j = w' j) : WQ o i w' f g := ⟨h.1, fun j a b => by rw [← e j a]; exact h.2 j a b⟩
theorem WO_f {o i n : Nat} {w : Nat → Nat} {f g : Nat → Int32} (h : WO o i w f g) (hi : 1000 ≤ o + i) : WO o n w f g := ⟨h.1, fun j _ b => h.2 j (by omega) b⟩
theorem s_wr {I : Nat → Int32} {L : Nat → Int64} {T : Nat → Nat → Int32} {U : Nat → Nat → Int64} {o i : Nat} {w : Nat → Nat} {f : Nat → Int32} {a : Int32} (hr : o + i ≤ 1000) (hw : WO o i w (T 2) f) (ea : a = nI (w i)) : ∃ f', f_X9_write (wc (uI I 4 (nI (wcap o i))) L (uT T 2 f) U) [.ref 5, .int a] = some (some (.int (nI (wrm o (i + 1)))), wc (uI I 4 (nI (wcap o (i + 1)))) L (uT T 2 f') U) ∧ WO o (i + 1) w (T 2) f' := by
  by_cases h : o + i = 1000
  · refine ⟨f, ?_, WO_f hw (by omega)⟩
    rw [wcap_0 (i := i + 1) (by omega), wrm_0 (by omega), wcap_0 (by omega)]
    exact s_write0 (uI_at _ _ _)
  · refine ⟨upd f (o + i) (bt (w i)), ?_, ⟨fun j hj => (upd_ne (by omega)).trans (hw.1 j hj), fun j h1 h2 => ?_⟩⟩
    · have q := s_write1 (I := uI I 4 (nI (wcap o i))) (L := L) (T := uT T 2 f) (U := U) (n := o + i) (by rw [uI_at, wcap_1 hr]) (by omega) ea
      rw [uI_uI, uT_uT, uT_at] at q
      rw [wrm_1 (by omega), wcap_1 (i := i + 1) (by omega)]
      exact q
    · by_cases e : j = i
      · rw [e, upd_at]
      · rw [upd_ne (by omega)]
        exact hw.2 j (by omega) h2
theorem t_wrO {I : Nat → Int32} {T : Nat → Nat → Int32} {K : Nat → Int64} {o i : Nat} {w : Nat → Nat} {f : Nat → Int32} {a : Int32} (hb : o + i < 100000) (hw : WQ o i w (T 11) f) (ea : a = nI (w i)) : ∃ f', f_X12_putOut (wr (uI I 11 (nI (o + i))) (uT T 11 f) K) [.ref 0, .int a] = some (none, wr (uI I 11 (nI (o + (i + 1)))) (uT T 11 f') K) ∧ WQ o (i + 1) w (T 11) f' := by
  by_cases h : 1000 ≤ o + i
  · refine ⟨f, ?_, ⟨hw.1, fun j h1 h2 => hw.2 j (by omega) h2⟩⟩
    have q := t_putOut0 (I := uI I 11 (nI (o + i))) (T := uT T 11 f) (K := K) (a := a) (n := o + i) (uI_at _ _ _) h hb
    rw [uI_uI] at q
    exact q
  · refine ⟨upd f (o + i) a, ?_, ⟨fun j hj => (upd_ne (by omega)).trans (hw.1 j hj), fun j h1 h2 => ?_⟩⟩
    · have q := t_putOut1 (I := uI I 11 (nI (o + i))) (T := uT T 11 f) (K := K) (a := a) (n := o + i) (uI_at _ _ _) (by omega)
      rw [uI_uI, uT_uT, uT_at] at q
      exact q
    · by_cases e : j = i
      · rw [e, upd_at, ea]
      · rw [upd_ne (by omega)]
        exact hw.2 j (by omega) h2
def CWr (F : rx_F) (as : List Value) (I : Nat → Int32) (L : Nat → Int64) (T : Nat → Nat → Int32) (U : Nat → Nat → Int64) (o n : Nat) (w : Nat → Nat) : Prop := ∃ f, F (wc I L T U) as = some (some (.int (nI (wrm o n))), wc (uI I 4 (nI (wcap o n))) L (uT T 2 f) U) ∧ WO o n w (T 2) f
def RWr (F : rx_F) (as : List Value) (J : Nat → Int32) (S : Nat → Nat → Int32) (K : Nat → Int64) (o n : Nat) (w : Nat → Nat) : Prop := ∃ f, F (wr J S K) as = some (none, wr (uI J 11 (nI (o + n))) (uT S 11 f) K) ∧ WQ o n w (S 11) f
theorem w_in {I : Nat → Int32} {k o : Nat} (e : I k = nI o) : uI I k (nI o) = I := by
  rw [← e, uI_self]
theorem s_nmO {I : Nat → Int32} {L : Nat → Int64} {T : Nat → Nat → Int32} {U : Nat → Nat → Int64} {b : Nat → Nat} {j l i : Nat} {a c : Int32} (hb : ∀ i, b i < 256) (hj : j < 160) (hl : l ≤ 16) (e0 : U 0 j = lN (pkl b l)) (e1 : U 1 j = lN (pkh b l)) (ea : a = nI j) (hi : i < l) (ec : c = nI i) : f_X4_octetOf (wc I L T U) [.ref 1, .int a, .int c] = some (some (.int (nI (b i))), wc I L T U) := by
  by_cases h8 : i < 8
  · have q := s_octetOfA (I := I) (L := L) (T := T) ea hj ec (by omega) h8 e0 (qk_64 (fun i _ => hb i) (by split <;> omega))
    rw [show pkl b l / 256 ^ i % 256 = b i from qk_at (fun i _ => hb i) (by split <;> omega)] at q
    exact q
  · have q := s_octetOfB (I := I) (L := L) (T := T) ea hj ec (by omega) (by omega) e1 (qk_64 (fun i _ => hb (i + 8)) (by split <;> (try split) <;> omega))
    rw [show pkh b l / 256 ^ (i - 8) % 256 = b (i - 8 + 8) from qk_at (b := fun i => b (i + 8)) (fun i _ => hb (i + 8)) (by rw [if_neg (by omega)]; split <;> omega), show i - 8 + 8 = i by omega] at q
    exact q
theorem s_writeName {I : Nat → Int32} {L : Nat → Int64} {T : Nat → Nat → Int32} {U : Nat → Nat → Int64} {o : Nat} {w : Nat → Nat} (e4 : I 4 = nI o) (ho : o ≤ 1000) (hw : ∀ i, w i < 256) {j l : Nat} {a : Int32} (ea : a = nI j) (hj : j < 160) (hl : l ≤ 16) (e0 : T 0 j = nI l) (eu0 : U 0 j = lN (pkl w l)) (eu1 : U 1 j = lN (pkh w l)) : CWr f_X6_writeName [.ref 33, .int a] I L T U o l w := by
  obtain ⟨rs, m', ⟨f, hq, hf⟩, hm', hz⟩ := lp (fun i W m => (z_X6_writeName f_X4_lengthOf f_X4_octetOf f_X9_write) 4 [.ref 33, .int (nI j), .int (nI (wrm o i)), .int (nI i)] [] W m) (fun i W => ∃ f, W = wc (uI I 4 (nI (wcap o i))) L (uT T 2 f) U ∧ WO o i w (T 2) f) (fun rs => ∃ f, rs = (some (.int (nI (wrm o l))), wc (uI I 4 (nI (wcap o l))) L (uT T 2 f) U) ∧ WO o l w (T 2) f) l 1 2 (by
    rintro i _ hi ⟨f, rfl, hf⟩
    by_cases hr : o + i ≤ 1000
    · obtain ⟨f', hs, hf'⟩ := s_wr (I := I) (L := L) (U := U) hr hf (a := nI (w i)) rfl
      refine .inl ⟨_, 1, Nat.le_refl _, ⟨f', rfl, hf'⟩, fun m rs hz => ?_⟩
      rw [wrm_1 hr]
      (refine (q_X6_writeName_4_1 f_X4_lengthOf f_X4_octetOf f_X9_write _ _ _ _ _ _ _ _ _ _ _ _ _ _ ((s_lengthOf (T := uT T 2 f) rfl hj).trans (by rw [show uT T 2 f 0 j = nI l from e0])) (by first | with_reducible assumption | (simp (disch := omega) only [i_lit, i_m1, pk_sub, nI_add, nI_ml, nI_ltI, nI_leI, nI_eq, nI_clamp, nI_l, lN_i, lg_nI, lg_geI, lg_leI, lg_gtI, lg_ltI, c16_160, c16_200, c16_255, c16_300, c16_600, c16_616, c16_1000, Nat.add_eq, vp_updL_at, upd_at, Nat.add_sub_cancel, Nat.add_zero, Nat.zero_add, Nat.sub_zero, uU_uU, uT_uT, uI_uI, uL_uL, uU_at, uT_at, uI_at, uL_at, uU_ne, uT_ne, uI_ne, uL_ne, uU_sw, uT_sw, uI_sw, uL_sw] <;> first | with_reducible assumption | omega) | omega | decide) (by first | with_reducible assumption | (simp (disch := omega) only [i_lit, i_m1, pk_sub, nI_add, nI_ml, nI_ltI, nI_leI, nI_eq, nI_clamp, nI_l, lN_i, lg_nI, lg_geI, lg_leI, lg_gtI, lg_ltI, c16_160, c16_200, c16_255, c16_300, c16_600, c16_616, c16_1000, Nat.add_eq, vp_updL_at, upd_at, Nat.add_sub_cancel, Nat.add_zero, Nat.zero_add, Nat.sub_zero, uU_uU, uT_uT, uI_uI, uL_uL, uU_at, uT_at, uI_at, uL_at, uU_ne, uT_ne, uI_ne, uL_ne, uU_sw, uT_sw, uI_sw, uL_sw] <;> first | with_reducible assumption | omega) | omega | decide) (s_nmO hw hj hl eu0 eu1 rfl hi rfl) (hs) ?_); first | with_reducible exact hz | (simp (disch := omega) only [i_lit, i_m1, pk_sub, nI_add, nI_ml, nI_ltI, nI_leI, nI_eq, nI_clamp, nI_l, lN_i, lg_nI, lg_geI, lg_leI, lg_gtI, lg_ltI, c16_160, c16_200, c16_255, c16_300, c16_600, c16_616, c16_1000, Nat.add_eq, vp_updL_at, upd_at, Nat.add_sub_cancel, Nat.add_zero, Nat.zero_add, Nat.sub_zero, uU_uU, uT_uT, uI_uI, uL_uL, uU_at, uT_at, uI_at, uL_at, uU_ne, uT_ne, uI_ne, uL_ne, uU_sw, uT_sw, uI_sw, uL_sw]; first | with_reducible exact hz | (simp only [i_lit, Nat.add_zero, Nat.sub_zero] at hz; with_reducible exact hz)))
    · refine .inr ⟨_, 2, by decide, ⟨f, rfl, WO_f hf (by omega)⟩, ?_⟩
      rw [wrm_0 (i := l) (by omega), wrm_0 (by omega), wcap_0 (i := l) (by omega), wcap_0 (by omega)]
      have b01 : nI 0 = nI 0 ∨ nI 0 = nI 1 := .inl rfl
      (refine Eq.trans (q_X6_writeName_4_2 f_X4_lengthOf f_X4_octetOf f_X9_write _ _ _ _ _ _ _ _ ((s_lengthOf (T := uT T 2 f) rfl hj).trans (by rw [show uT T 2 f 0 j = nI l from e0])) (by first | with_reducible assumption | (simp (disch := omega) only [i_lit, i_m1, pk_sub, nI_add, nI_ml, nI_ltI, nI_leI, nI_eq, nI_clamp, nI_l, lN_i, lg_nI, lg_geI, lg_leI, lg_gtI, lg_ltI, c16_160, c16_200, c16_255, c16_300, c16_600, c16_616, c16_1000, Nat.add_eq, vp_updL_at, upd_at, Nat.add_sub_cancel, Nat.add_zero, Nat.zero_add, Nat.sub_zero, uU_uU, uT_uT, uI_uI, uL_uL, uU_at, uT_at, uI_at, uL_at, uU_ne, uT_ne, uI_ne, uL_ne, uU_sw, uT_sw, uI_sw, uL_sw] <;> first | with_reducible assumption | omega) | omega | decide) (by first | with_reducible assumption | (simp (disch := omega) only [i_lit, i_m1, pk_sub, nI_add, nI_ml, nI_ltI, nI_leI, nI_eq, nI_clamp, nI_l, lN_i, lg_nI, lg_geI, lg_leI, lg_gtI, lg_ltI, c16_160, c16_200, c16_255, c16_300, c16_600, c16_616, c16_1000, Nat.add_eq, vp_updL_at, upd_at, Nat.add_sub_cancel, Nat.add_zero, Nat.zero_add, Nat.sub_zero, uU_uU, uT_uT, uI_uI, uL_uL, uU_at, uT_at, uI_at, uL_at, uU_ne, uT_ne, uI_ne, uL_ne, uU_sw, uT_sw, uI_sw, uL_sw] <;> first | with_reducible assumption | omega) | omega | decide) (by first | with_reducible assumption | (simp (disch := omega) only [i_lit, i_m1, pk_sub, nI_add, nI_ml, nI_ltI, nI_leI, nI_eq, nI_clamp, nI_l, lN_i, lg_nI, lg_geI, lg_leI, lg_gtI, lg_ltI, c16_160, c16_200, c16_255, c16_300, c16_600, c16_616, c16_1000, Nat.add_eq, vp_updL_at, upd_at, Nat.add_sub_cancel, Nat.add_zero, Nat.zero_add, Nat.sub_zero, uU_uU, uT_uT, uI_uI, uL_uL, uU_at, uT_at, uI_at, uL_at, uU_ne, uT_ne, uI_ne, uL_ne, uU_sw, uT_sw, uI_sw, uL_sw] <;> first | with_reducible assumption | omega) | omega | decide)) ?_; first | with_reducible rfl | (simp (disch := omega) only [i_lit, i_m1, pk_sub, nI_add, nI_ml, nI_ltI, nI_leI, nI_eq, nI_clamp, nI_l, lN_i, lg_nI, lg_geI, lg_leI, lg_gtI, lg_ltI, c16_160, c16_200, c16_255, c16_300, c16_600, c16_616, c16_1000, Nat.add_eq, vp_updL_at, upd_at, Nat.add_sub_cancel, Nat.add_zero, Nat.zero_add, Nat.sub_zero, uU_uU, uT_uT, uI_uI, uL_uL, uU_at, uT_at, uI_at, uL_at, uU_ne, uT_ne, uI_ne, uL_ne, uU_sw, uT_sw, uI_sw, uL_sw]; done))) (by
    rintro _ ⟨f, rfl, hf⟩
    have b01 : nI (wrm o l) = nI 0 ∨ nI (wrm o l) = nI 1 := by
      unfold wrm
      split
      · exact .inr rfl
      · exact .inl rfl
    exact ⟨_, 2, by decide, ⟨f, rfl, hf⟩, by (refine Eq.trans (q_X6_writeName_4_3 f_X4_lengthOf f_X4_octetOf f_X9_write _ _ _ _ _ _ _ _ ((s_lengthOf (T := uT T 2 f) rfl hj).trans (by rw [show uT T 2 f 0 j = nI l from e0])) (by first | with_reducible assumption | (simp (disch := omega) only [i_lit, i_m1, pk_sub, nI_add, nI_ml, nI_ltI, nI_leI, nI_eq, nI_clamp, nI_l, lN_i, lg_nI, lg_geI, lg_leI, lg_gtI, lg_ltI, c16_160, c16_200, c16_255, c16_300, c16_600, c16_616, c16_1000, Nat.add_eq, vp_updL_at, upd_at, Nat.add_sub_cancel, Nat.add_zero, Nat.zero_add, Nat.sub_zero, uU_uU, uT_uT, uI_uI, uL_uL, uU_at, uT_at, uI_at, uL_at, uU_ne, uT_ne, uI_ne, uL_ne, uU_sw, uT_sw, uI_sw, uL_sw] <;> first | with_reducible assumption | omega) | omega | decide) (by first | with_reducible assumption | (simp (disch := omega) only [i_lit, i_m1, pk_sub, nI_add, nI_ml, nI_ltI, nI_leI, nI_eq, nI_clamp, nI_l, lN_i, lg_nI, lg_geI, lg_leI, lg_gtI, lg_ltI, c16_160, c16_200, c16_255, c16_300, c16_600, c16_616, c16_1000, Nat.add_eq, vp_updL_at, upd_at, Nat.add_sub_cancel, Nat.add_zero, Nat.zero_add, Nat.sub_zero, uU_uU, uT_uT, uI_uI, uL_uL, uU_at, uT_at, uI_at, uL_at, uU_ne, uT_ne, uI_ne, uL_ne, uU_sw, uT_sw, uI_sw, uL_sw] <;> first | with_reducible assumption | omega) | omega | decide)) ?_; first | with_reducible rfl | (simp (disch := omega) only [i_lit, i_m1, pk_sub, nI_add, nI_ml, nI_ltI, nI_leI, nI_eq, nI_clamp, nI_l, lN_i, lg_nI, lg_geI, lg_leI, lg_gtI, lg_ltI, c16_160, c16_200, c16_255, c16_300, c16_600, c16_616, c16_1000, Nat.add_eq, vp_updL_at, upd_at, Nat.add_sub_cancel, Nat.add_zero, Nat.zero_add, Nat.sub_zero, uU_uU, uT_uT, uI_uI, uL_uL, uU_at, uT_at, uI_at, uL_at, uU_ne, uT_ne, uI_ne, uL_ne, uU_sw, uT_sw, uI_sw, uL_sw]; done))⟩) l 0 (wc I L T U) (by omega) ⟨T 2, by rw [wcap_1 (by omega), Nat.add_zero, w_in e4, uT_self], WO_0⟩
  subst hq
  refine ⟨f, ?_, hf⟩
  rw [wrm_1 (by omega)] at hz
  (rw [fv_X6_writeName_eq]; refine (p_X6_writeName_1 f_X4_lengthOf f_X4_octetOf f_X9_write _ _ _ _ _ (m := m') (by omega) ?_); first | with_reducible exact hz | (simp (disch := omega) only [ea, i_lit, i_m1, pk_sub, nI_add, nI_ml, nI_ltI, nI_leI, nI_eq, nI_clamp, nI_l, lN_i, lg_nI, lg_geI, lg_leI, lg_gtI, lg_ltI, c16_160, c16_200, c16_255, c16_300, c16_600, c16_616, c16_1000, Nat.add_eq, vp_updL_at, upd_at, Nat.add_sub_cancel, Nat.add_zero, Nat.zero_add, Nat.sub_zero, uU_uU, uT_uT, uI_uI, uL_uL, uU_at, uT_at, uI_at, uL_at, uU_ne, uT_ne, uI_ne, uL_ne, uU_sw, uT_sw, uI_sw, uL_sw]; first | with_reducible exact hz | (simp only [i_lit, Nat.add_zero, Nat.sub_zero] at hz; with_reducible exact hz)))
theorem s_writeString {I : Nat → Int32} {L : Nat → Int64} {T : Nat → Nat → Int32} {U : Nat → Nat → Int64} {o : Nat} {w : Nat → Nat} (e4 : I 4 = nI o) (ho : o ≤ 1000) (hw : ∀ i, w i < 256) {t : V} {p : Nat} (v : w0 t) (hp : t.2.2.2 = nI p) (hl : p + t.2.2.1 ≤ 600) (hb : ∀ i, i < t.2.2.1 → T 1 (p + i) = bt (w i)) : CWr f_X6_writeString [.ref 33, .long (eV t)] I L T U o t.2.2.1 w := by
  obtain ⟨rs, m', ⟨f, hq, hf⟩, hm', hz⟩ := lp (fun i W m => (z_X6_writeString f_X9_octetAt f_X9_write f_X10_length) 5 [.ref 33, .long (eV t), .null, .int (nI (wrm o i)), .int (nI i)] [] W m) (fun i W => ∃ f, W = wc (uI I 4 (nI (wcap o i))) L (uT T 2 f) U ∧ WO o i w (T 2) f) (fun rs => ∃ f, rs = (some (.int (nI (wrm o t.2.2.1))), wc (uI I 4 (nI (wcap o t.2.2.1))) L (uT T 2 f) U) ∧ WO o t.2.2.1 w (T 2) f) t.2.2.1 1 2 (by
    rintro i _ hi ⟨f, rfl, hf⟩
    by_cases hr : o + i ≤ 1000
    · obtain ⟨f', hs, hf'⟩ := s_wr (I := I) (L := L) (U := U) hr hf (a := nI (w i)) rfl
      refine .inl ⟨_, 1, Nat.le_refl _, ⟨f', rfl, hf'⟩, fun m rs hz => ?_⟩
      rw [wrm_1 hr]
      (refine (q_X6_writeString_5_1 f_X9_octetAt f_X9_write f_X10_length _ _ _ _ _ _ _ _ _ _ _ _ _ _ (s_length rfl v) (by first | with_reducible assumption | (simp (disch := omega) only [i_lit, i_m1, pk_sub, nI_add, nI_ml, nI_ltI, nI_leI, nI_eq, nI_clamp, nI_l, lN_i, lg_nI, lg_geI, lg_leI, lg_gtI, lg_ltI, c16_160, c16_200, c16_255, c16_300, c16_600, c16_616, c16_1000, Nat.add_eq, vp_updL_at, upd_at, Nat.add_sub_cancel, Nat.add_zero, Nat.zero_add, Nat.sub_zero, uU_uU, uT_uT, uI_uI, uL_uL, uU_at, uT_at, uI_at, uL_at, uU_ne, uT_ne, uI_ne, uL_ne, uU_sw, uT_sw, uI_sw, uL_sw] <;> first | with_reducible assumption | omega) | omega | decide) (by first | with_reducible assumption | (simp (disch := omega) only [i_lit, i_m1, pk_sub, nI_add, nI_ml, nI_ltI, nI_leI, nI_eq, nI_clamp, nI_l, lN_i, lg_nI, lg_geI, lg_leI, lg_gtI, lg_ltI, c16_160, c16_200, c16_255, c16_300, c16_600, c16_616, c16_1000, Nat.add_eq, vp_updL_at, upd_at, Nat.add_sub_cancel, Nat.add_zero, Nat.zero_add, Nat.sub_zero, uU_uU, uT_uT, uI_uI, uL_uL, uU_at, uT_at, uI_at, uL_at, uU_ne, uT_ne, uI_ne, uL_ne, uU_sw, uT_sw, uI_sw, uL_sw] <;> first | with_reducible assumption | omega) | omega | decide) (s_octetAt (T := uT T 2 f) (i := p + i) (by rw [eV_num, hp, nI_add]) (by omega) (hw i) (hb i hi)) (hs) ?_); first | with_reducible exact hz | (simp (disch := omega) only [i_lit, i_m1, pk_sub, nI_add, nI_ml, nI_ltI, nI_leI, nI_eq, nI_clamp, nI_l, lN_i, lg_nI, lg_geI, lg_leI, lg_gtI, lg_ltI, c16_160, c16_200, c16_255, c16_300, c16_600, c16_616, c16_1000, Nat.add_eq, vp_updL_at, upd_at, Nat.add_sub_cancel, Nat.add_zero, Nat.zero_add, Nat.sub_zero, uU_uU, uT_uT, uI_uI, uL_uL, uU_at, uT_at, uI_at, uL_at, uU_ne, uT_ne, uI_ne, uL_ne, uU_sw, uT_sw, uI_sw, uL_sw]; first | with_reducible exact hz | (simp only [i_lit, Nat.add_zero, Nat.sub_zero] at hz; with_reducible exact hz)))
    · refine .inr ⟨_, 2, by decide, ⟨f, rfl, WO_f hf (by omega)⟩, ?_⟩
      rw [wrm_0 (i := t.2.2.1) (by omega), wrm_0 (by omega), wcap_0 (i := t.2.2.1) (by omega), wcap_0 (by omega)]
      have b01 : nI 0 = nI 0 ∨ nI 0 = nI 1 := .inl rfl
      (refine Eq.trans (q_X6_writeString_5_2 f_X9_octetAt f_X9_write f_X10_length _ _ _ _ _ _ _ _ (s_length rfl v) (by first | with_reducible assumption | (simp (disch := omega) only [i_lit, i_m1, pk_sub, nI_add, nI_ml, nI_ltI, nI_leI, nI_eq, nI_clamp, nI_l, lN_i, lg_nI, lg_geI, lg_leI, lg_gtI, lg_ltI, c16_160, c16_200, c16_255, c16_300, c16_600, c16_616, c16_1000, Nat.add_eq, vp_updL_at, upd_at, Nat.add_sub_cancel, Nat.add_zero, Nat.zero_add, Nat.sub_zero, uU_uU, uT_uT, uI_uI, uL_uL, uU_at, uT_at, uI_at, uL_at, uU_ne, uT_ne, uI_ne, uL_ne, uU_sw, uT_sw, uI_sw, uL_sw] <;> first | with_reducible assumption | omega) | omega | decide) (by first | with_reducible assumption | (simp (disch := omega) only [i_lit, i_m1, pk_sub, nI_add, nI_ml, nI_ltI, nI_leI, nI_eq, nI_clamp, nI_l, lN_i, lg_nI, lg_geI, lg_leI, lg_gtI, lg_ltI, c16_160, c16_200, c16_255, c16_300, c16_600, c16_616, c16_1000, Nat.add_eq, vp_updL_at, upd_at, Nat.add_sub_cancel, Nat.add_zero, Nat.zero_add, Nat.sub_zero, uU_uU, uT_uT, uI_uI, uL_uL, uU_at, uT_at, uI_at, uL_at, uU_ne, uT_ne, uI_ne, uL_ne, uU_sw, uT_sw, uI_sw, uL_sw] <;> first | with_reducible assumption | omega) | omega | decide) (by first | with_reducible assumption | (simp (disch := omega) only [i_lit, i_m1, pk_sub, nI_add, nI_ml, nI_ltI, nI_leI, nI_eq, nI_clamp, nI_l, lN_i, lg_nI, lg_geI, lg_leI, lg_gtI, lg_ltI, c16_160, c16_200, c16_255, c16_300, c16_600, c16_616, c16_1000, Nat.add_eq, vp_updL_at, upd_at, Nat.add_sub_cancel, Nat.add_zero, Nat.zero_add, Nat.sub_zero, uU_uU, uT_uT, uI_uI, uL_uL, uU_at, uT_at, uI_at, uL_at, uU_ne, uT_ne, uI_ne, uL_ne, uU_sw, uT_sw, uI_sw, uL_sw] <;> first | with_reducible assumption | omega) | omega | decide)) ?_; first | with_reducible rfl | (simp (disch := omega) only [i_lit, i_m1, pk_sub, nI_add, nI_ml, nI_ltI, nI_leI, nI_eq, nI_clamp, nI_l, lN_i, lg_nI, lg_geI, lg_leI, lg_gtI, lg_ltI, c16_160, c16_200, c16_255, c16_300, c16_600, c16_616, c16_1000, Nat.add_eq, vp_updL_at, upd_at, Nat.add_sub_cancel, Nat.add_zero, Nat.zero_add, Nat.sub_zero, uU_uU, uT_uT, uI_uI, uL_uL, uU_at, uT_at, uI_at, uL_at, uU_ne, uT_ne, uI_ne, uL_ne, uU_sw, uT_sw, uI_sw, uL_sw]; done))) (by
    rintro _ ⟨f, rfl, hf⟩
    have b01 : nI (wrm o t.2.2.1) = nI 0 ∨ nI (wrm o t.2.2.1) = nI 1 := by
      unfold wrm
      split
      · exact .inr rfl
      · exact .inl rfl
    exact ⟨_, 2, by decide, ⟨f, rfl, hf⟩, by (refine Eq.trans (q_X6_writeString_5_3 f_X9_octetAt f_X9_write f_X10_length _ _ _ _ _ _ _ _ (s_length rfl v) (by first | with_reducible assumption | (simp (disch := omega) only [i_lit, i_m1, pk_sub, nI_add, nI_ml, nI_ltI, nI_leI, nI_eq, nI_clamp, nI_l, lN_i, lg_nI, lg_geI, lg_leI, lg_gtI, lg_ltI, c16_160, c16_200, c16_255, c16_300, c16_600, c16_616, c16_1000, Nat.add_eq, vp_updL_at, upd_at, Nat.add_sub_cancel, Nat.add_zero, Nat.zero_add, Nat.sub_zero, uU_uU, uT_uT, uI_uI, uL_uL, uU_at, uT_at, uI_at, uL_at, uU_ne, uT_ne, uI_ne, uL_ne, uU_sw, uT_sw, uI_sw, uL_sw] <;> first | with_reducible assumption | omega) | omega | decide) (by first | with_reducible assumption | (simp (disch := omega) only [i_lit, i_m1, pk_sub, nI_add, nI_ml, nI_ltI, nI_leI, nI_eq, nI_clamp, nI_l, lN_i, lg_nI, lg_geI, lg_leI, lg_gtI, lg_ltI, c16_160, c16_200, c16_255, c16_300, c16_600, c16_616, c16_1000, Nat.add_eq, vp_updL_at, upd_at, Nat.add_sub_cancel, Nat.add_zero, Nat.zero_add, Nat.sub_zero, uU_uU, uT_uT, uI_uI, uL_uL, uU_at, uT_at, uI_at, uL_at, uU_ne, uT_ne, uI_ne, uL_ne, uU_sw, uT_sw, uI_sw, uL_sw] <;> first | with_reducible assumption | omega) | omega | decide)) ?_; first | with_reducible rfl | (simp (disch := omega) only [i_lit, i_m1, pk_sub, nI_add, nI_ml, nI_ltI, nI_leI, nI_eq, nI_clamp, nI_l, lN_i, lg_nI, lg_geI, lg_leI, lg_gtI, lg_ltI, c16_160, c16_200, c16_255, c16_300, c16_600, c16_616, c16_1000, Nat.add_eq, vp_updL_at, upd_at, Nat.add_sub_cancel, Nat.add_zero, Nat.zero_add, Nat.sub_zero, uU_uU, uT_uT, uI_uI, uL_uL, uU_at, uT_at, uI_at, uL_at, uU_ne, uT_ne, uI_ne, uL_ne, uU_sw, uT_sw, uI_sw, uL_sw]; done))⟩) t.2.2.1 0 (wc I L T U) (by omega) ⟨T 2, by rw [wcap_1 (by omega), Nat.add_zero, w_in e4, uT_self], WO_0⟩
  subst hq
  refine ⟨f, ?_, hf⟩
  rw [wrm_1 (by omega)] at hz
  (rw [fv_X6_writeString_eq]; refine (p_X6_writeString_1 f_X9_octetAt f_X9_write f_X10_length _ _ _ _ _ (m := m') (by omega) ?_); first | with_reducible exact hz | (simp (disch := omega) only [i_lit, i_m1, pk_sub, nI_add, nI_ml, nI_ltI, nI_leI, nI_eq, nI_clamp, nI_l, lN_i, lg_nI, lg_geI, lg_leI, lg_gtI, lg_ltI, c16_160, c16_200, c16_255, c16_300, c16_600, c16_616, c16_1000, Nat.add_eq, vp_updL_at, upd_at, Nat.add_sub_cancel, Nat.add_zero, Nat.zero_add, Nat.sub_zero, uU_uU, uT_uT, uI_uI, uL_uL, uU_at, uT_at, uI_at, uL_at, uU_ne, uT_ne, uI_ne, uL_ne, uU_sw, uT_sw, uI_sw, uL_sw]; first | with_reducible exact hz | (simp only [i_lit, Nat.add_zero, Nat.sub_zero] at hz; with_reducible exact hz)))
theorem s_writeNoText {I : Nat → Int32} {L : Nat → Int64} {T : Nat → Nat → Int32} {U : Nat → Nat → Int64} {o : Nat} (e4 : I 4 = nI o) (ho : o ≤ 1000) : CWr f_X6_writeNoText [.ref 33] I L T U o 15 ntx := by
  obtain ⟨rs, m', ⟨f, hq, hf⟩, hm', hz⟩ := lp (fun i W m => (z_X6_writeNoText f_J0_length_8abf5 f_J0_charAt_5068e f_X9_write) 4 [.ref 33, .int (nI (wrm o i)), .int (nI i)] [] W m) (fun i W => ∃ f, W = wc (uI I 4 (nI (wcap o i))) L (uT T 2 f) U ∧ WO o i ntx (T 2) f) (fun rs => ∃ f, rs = (some (.int (nI (wrm o 15))), wc (uI I 4 (nI (wcap o 15))) L (uT T 2 f) U) ∧ WO o 15 ntx (T 2) f) 15 1 2 (by
    rintro i _ hi ⟨f, rfl, hf⟩
    have c15 : ¬ (nI 15 ≤ nI i) := by
      rw [nI_leI (by omega) (by omega)]
      omega
    by_cases hr : o + i ≤ 1000
    · obtain ⟨f', hs, hf'⟩ := s_wr (I := I) (L := L) (U := U) hr hf (a := nI (ntx i)) rfl
      refine .inl ⟨_, 1, Nat.le_refl _, ⟨f', rfl, hf'⟩, fun m rs hz => ?_⟩
      rw [wrm_1 hr]
      rw [← nI_add] at hz
      exact q_noText_1 _ _ _ _ _ _ _ _ _ _ _ _ _ _ _ _ (s_strL _ _ _ _) c15 (by decide) (s_strC i hi) hs hz
    · refine .inr ⟨_, 2, by decide, ⟨f, rfl, WO_f hf (by omega)⟩, ?_⟩
      rw [wrm_0 (i := 15) (by omega), wrm_0 (by omega), wcap_0 (i := 15) (by omega), wcap_0 (by omega)]
      exact q_noText_2 _ _ _ _ _ _ _ _ _ _ (s_strL _ _ _ _) c15 rfl (.inl rfl)) (by
    rintro _ ⟨f, rfl, hf⟩
    have b01 : nI (wrm o 15) = 0 ∨ nI (wrm o 15) = 1 := by
      unfold wrm
      split
      · exact .inr rfl
      · exact .inl rfl
    exact ⟨_, 2, by decide, ⟨f, rfl, hf⟩, q_noText_3 _ _ _ _ _ _ _ _ _ _ (s_strL _ _ _ _) (by decide) b01⟩) 15 0 (wc I L T U) (by omega) ⟨T 2, by rw [wcap_1 (by omega), Nat.add_zero, w_in e4, uT_self], WO_0⟩
  subst hq
  refine ⟨f, ?_, hf⟩
  rw [wrm_1 (by omega)] at hz
  rw [fv_X6_writeNoText_eq]
  exact (p_X6_writeNoText_1 f_J0_length_8abf5 f_J0_charAt_5068e f_X9_write _ _ _ _ (m := m') (by omega) hz)
