/-! values: kind, executable, length, number -/
abbrev V := Nat × Nat × Nat × Int32
def eV (t : V) : Int64 := en t.1 t.2.1 t.2.2.1 t.2.2.2
def w0 (t : V) : Prop := t.1 ≤ 8 ∧ t.2.1 ≤ 1 ∧ t.2.2.1 < 65536
theorem w0_k {t : V} (h : w0 t) : t.1 ≤ 15 := Nat.le_trans h.1 (by decide)
theorem eV_inj {t s : V} (h : w0 t) (h' : w0 s) (e : eV t = eV s) : t = s := by
  obtain ⟨a, b, c, d⟩ := en_inj (w0_k h) h.2.1 h.2.2 (w0_k h') h'.2.1 h'.2.2 e
  exact Prod.ext a (Prod.ext b (Prod.ext c d))
theorem eV_num (t : V) : (eV t).toInt32 = t.2.2.2 := en_num
theorem eV_no {t : V} (h : w0 t) : eV t ≠ -1 := by
  intro e
  have h1 := eN_lt (w0_k h) h.2.1 h.2.2 (vN_lt t.2.2.2)
  have := lN_inj (a := eN t.1 t.2.1 t.2.2.1 (vN t.2.2.2)) (b := 18446744073709551615) (by omega) (by omega) e
  omega
theorem eN_tb {k x l n : Nat} (hx : x ≤ 1) (hl : l < 65536) (hn : n < 4294967296) (i : Nat) : (eN k x l n).testBit i = if i < 48 then (l * 4294967296 + n).testBit i else if i = 48 then decide (x = 1) else k.testBit (i - 49) := by
  have e : eN k x l n = 2 ^ 48 * (2 * k + x) + (l * 4294967296 + n) := by unfold eN; omega
  rw [e, Nat.testBit_two_pow_mul_add _ (by omega)]
  split
  · rfl
  · split
    · rename_i h
      subst h
      rw [Nat.testBit_eq_decide_div_mod_eq]
      congr 1
      exact propext (by omega)
    · obtain ⟨j, rfl⟩ : ∃ j, i = j + 49 := ⟨i - 49, by omega⟩
      rw [show j + 49 - 48 = j + 1 by omega, Nat.testBit_add_one, show (2 * k + x) / 2 = k by omega, show j + 49 - 49 = j by omega]
theorem eN_hi {k x l n : Nat} (hk : k ≤ 15) (hx : x ≤ 1) (hl : l < 65536) (hn : n < 4294967296) {i : Nat} (hi : 64 ≤ i) : (eN k x l n).testBit i = false := by
  have := eN_lt hk hx hl hn
  exact Nat.testBit_lt_two_pow (Nat.lt_of_lt_of_le this (Nat.le_trans (by decide) (Nat.pow_le_pow_right (n := 2) (by decide) hi)))
theorem en_nox {k x l : Nat} {v : Int32} (hk : k ≤ 15) (hx : x ≤ 1) (hl : l < 65536) : en k x l v &&& (-281474976710657) = en k 0 l v := by
  have h1 := eN_lt hk hx hl (vN_lt v)
  have b1 := vN_lt v
  refine (g_and (a := eN k x l (vN v)) (b := 2 ^ 64 - (2 ^ 48 + 1)) (c := eN k 0 l (vN v)) (by omega) (by decide) ?_)
  apply Nat.eq_of_testBit_eq
  intro i
  rw [Nat.testBit_and, Nat.testBit_two_pow_sub_succ (by decide), Nat.testBit_two_pow, eN_tb hx hl b1, eN_tb (by decide) hl b1]
  by_cases c1 : i < 48
  · rw [if_pos c1, if_pos c1, decide_eq_true (show i < 64 by omega), decide_eq_false (show ¬ 48 = i by omega)]
    simp
  · rw [if_neg c1, if_neg c1]
    by_cases c2 : i = 48
    · subst c2
      simp
    · rw [if_neg c2, if_neg c2, decide_eq_false (show ¬ 48 = i by omega)]
      by_cases c3 : i < 64
      · simp [c3]
      · have := eN_hi hk hx hl b1 (i := i) (by omega)
        rw [eN_tb hx hl b1, if_neg c1, if_neg c2] at this
        rw [this]
        simp
theorem en_orx {k x l : Nat} {v : Int32} (hk : k ≤ 15) (hx : x ≤ 1) (hl : l < 65536) : en k x l v ||| 281474976710656 = en k 1 l v := by
  have h1 := eN_lt hk hx hl (vN_lt v)
  have b1 := vN_lt v
  refine (wb_or (a := eN k x l (vN v)) (b := 281474976710656) (by omega) (by decide)).trans ?_
  unfold en
  congr 1
  apply Nat.eq_of_testBit_eq
  intro i
  rw [Nat.testBit_or, show (281474976710656 : Nat) = 2 ^ 48 from rfl, Nat.testBit_two_pow, eN_tb hx hl b1, eN_tb (by decide) hl b1]
  by_cases c1 : i < 48
  · rw [if_pos c1, if_pos c1, decide_eq_false (show ¬ 48 = i by omega)]
    simp
  · rw [if_neg c1, if_neg c1]
    by_cases c2 : i = 48
    · subst c2
      simp
    · rw [if_neg c2, if_neg c2, decide_eq_false (show ¬ 48 = i by omega)]
      simp
theorem en_top {k x l : Nat} {v : Int32} (hk : k ≤ 15) (hx : x ≤ 1) (hl : l < 65536) : en k x l v &&& (-281474976710656) = lN ((k * 2 + x) * 281474976710656) := by
  have h1 := eN_lt hk hx hl (vN_lt v)
  have b1 := vN_lt v
  refine (g_and (a := eN k x l (vN v)) (b := 2 ^ 64 - (281474976710655 + 1)) (c := eN k x 0 0) (by omega) (by decide) ?_).trans (congrArg lN (by unfold eN; omega))
  apply Nat.eq_of_testBit_eq
  intro i
  rw [Nat.testBit_and, Nat.testBit_two_pow_sub_succ (by decide), show (281474976710655 : Nat) = 2 ^ 48 - 1 from rfl, Nat.testBit_two_pow_sub_one, eN_tb hx hl b1, eN_tb hx (by decide) (by decide)]
  by_cases c1 : i < 48
  · rw [if_pos c1, if_pos c1, decide_eq_true c1]
    simp
  · rw [if_neg c1, if_neg c1, decide_eq_false c1]
    by_cases c3 : i < 64
    · simp [c3]
    · have := eN_hi hk hx hl b1 (i := i) (by omega)
      rw [eN_tb hx hl b1, if_neg c1] at this
      rw [this]
      simp
theorem nI_sl {l : Nat} (h : l < 65536) : (nI l).toInt64 <<< (Int32.toInt64 32 &&& 63) = lN (l * 4294967296) := by
  rw [nI_l (by omega)]
  exact wb_shl l (k := 32) (by decide)
theorem en_row {a l : Nat} {v : Int32} (ha : a < 32) (hl : l < 65536) : (lN (a * 281474976710656) ||| ((nI l).toInt64 <<< (Int32.toInt64 32 &&& 63))) ||| (v.toInt64 &&& 4294967295) = en (a / 2) (a % 2) l v := by
  have b1 := vN_lt v
  rw [nI_sl hl, show lN (a * 281474976710656) ||| lN (l * 4294967296) = lN ((a * 65536 + l) * 4294967296) from (g_or (k := 48) (p := 281474976710656) rfl (by omega) (by omega)).trans (congrArg lN (by omega)), en_or (by omega)]
  exact congrArg lN (by unfold eN; omega)
theorem eV_row (k : Nat) (hk : k ≤ 8) {a b : Int32} {l : Nat} (eb : b = nI l) (hl : l < 65536) : (lN (k * 562949953421312) ||| (b.toInt64 <<< (Int32.toInt64 32 &&& 63))) ||| (a.toInt64 &&& 4294967295) = eV (k, 0, l, a) := by
  subst eb
  have := en_row (a := k * 2) (v := a) (by omega) hl
  rw [show k * 2 * 281474976710656 = k * 562949953421312 by omega, show k * 2 / 2 = k by omega, show k * 2 % 2 = 0 by omega] at this
  exact this
theorem eV_part {t : V} (h : w0 t) {a b : Int32} {l : Nat} (eb : b = nI l) (hl : l < 65536) : ((eV t &&& (-281474976710656)) ||| (b.toInt64 <<< (Int32.toInt64 32 &&& 63))) ||| (((eV t).toInt32 + a).toInt64 &&& 4294967295) = eV (t.1, t.2.1, l, t.2.2.2 + a) := by
  subst eb
  have h1 := h.1
  have h2 := h.2.1
  rw [eV_num, show eV t &&& (-281474976710656) = lN ((t.1 * 2 + t.2.1) * 281474976710656) from en_top (w0_k h) h.2.1 h.2.2, en_row (by omega) hl]
  show en _ _ _ _ = en _ _ _ _
  rw [show (t.1 * 2 + t.2.1) / 2 = t.1 by omega, show (t.1 * 2 + t.2.1) % 2 = t.2.1 by omega]
theorem eV_nox {t : V} (h : w0 t) : eV t &&& (-281474976710657) = eV (t.1, 0, t.2.2.1, t.2.2.2) := en_nox (w0_k h) h.2.1 h.2.2
theorem eV_orx {t : V} (h : w0 t) : eV t ||| 281474976710656 = eV (t.1, 1, t.2.2.1, t.2.2.2) := en_orx (w0_k h) h.2.1 h.2.2
theorem eV_x1 {t : V} (h : w0 t) : (eV t &&& (-281474976710657)) ||| 281474976710656 = eV (t.1, 1, t.2.2.1, t.2.2.2) := by
  rw [eV_nox h]
  exact eV_orx (t := (t.1, 0, t.2.2.1, t.2.2.2)) ⟨h.1, Nat.zero_le _, h.2.2⟩
theorem eV_x0 {t : V} (h : w0 t) : (eV t &&& (-281474976710657)) ||| 0 = eV (t.1, 0, t.2.2.1, t.2.2.2) := by
  rw [eV_nox h]
  exact Int64.or_zero
theorem eV_mark : (1688849860263936 : Int64) = eV (3, 0, 0, 0) := by decide +kernel
theorem eV_0 : (0 : Int64) = eV (0, 0, 0, 0) := by decide +kernel
theorem eV_true : (1125899906842625 : Int64) = eV (2, 0, 0, 1) := by decide +kernel
theorem eV_false : (1125899906842624 : Int64) = eV (2, 0, 0, 0) := by decide +kernel
theorem s_kind {vh : rx_H} {z : Int64} {t : V} (ez : z = eV t) (h : w0 t) : f_X10_kind vh [.long z] = some (some (.int (nI t.1)), vh) := by
  subst ez
  exact e_kind (w0_k h) h.2.1 h.2.2
theorem s_length {vh : rx_H} {z : Int64} {t : V} (ez : z = eV t) (h : w0 t) : f_X10_length vh [.long z] = some (some (.int (nI t.2.2.1)), vh) := by
  subst ez
  exact e_length (w0_k h) h.2.1 h.2.2
theorem s_number {vh : rx_H} {v : Int32} : f_X10_number vh [.int v] = some (some (.long (eV (1, 0, 0, v))), vh) := e_number
theorem s_literalName {vh : rx_H} {v : Int32} : f_X10_literalName vh [.int v] = some (some (.long (eV (4, 0, 0, v))), vh) := e_literalName
theorem s_executableName {vh : rx_H} {v : Int32} : f_X10_executableName vh [.int v] = some (some (.long (eV (4, 1, 0, v))), vh) := e_executableName
theorem s_operator {vh : rx_H} {v : Int32} : f_X10_operator vh [.int v] = some (some (.long (eV (8, 1, 0, v))), vh) := e_operator
theorem s_dictionaryOf {vh : rx_H} {v : Int32} : f_X10_dictionaryOf vh [.int v] = some (some (.long (eV (7, 0, 0, v))), vh) := e_dictionaryOf
theorem lg_eV {t s : V} (h : w0 t) (h' : w0 s) : lg_cmp (eV t) (eV s) = 0 ↔ t = s := by
  rw [lg_cmp0]
  exact ⟨eV_inj h h', fun e => by rw [e]⟩
theorem eV_x {t : V} (h : w0 t) : lg_cmp (eV t &&& 281474976710656) 0 = 0 ↔ t.2.1 = 0 := by
  have h2 := h.2.1
  rw [lg_cmp0, show eV t &&& 281474976710656 = lN (t.2.1 * 281474976710656) from en_bit (w0_k h) h.2.1 h.2.2]
  constructor
  · intro e
    have := lN_inj (b := 0) (by omega) (by omega) e
    omega
  · intro e
    rw [e]
    rfl
theorem eV_k (k : Nat) (hk : k < 16) {t : V} (h : w0 t) : lg_cmp (((eV t).toUInt64 >>> ((Int32.toInt64 49).toUInt64 &&& Int64.toUInt64 63)).toInt64 &&& 15) (lN k) = 0 ↔ t.1 = k := by
  have h1 := h.1
  rw [lg_cmp0, show (((eV t).toUInt64 >>> ((Int32.toInt64 49).toUInt64 &&& Int64.toUInt64 63)).toInt64 &&& 15) = lN t.1 from en_kl (w0_k h) h.2.1 h.2.2]
  exact ⟨fun e => lN_inj (by omega) (by omega) e, fun e => by rw [e]⟩
theorem s_isExecutable1 {I : Nat → Int32} {L : Nat → Int64} {T : Nat → Nat → Int32} {U : Nat → Nat → Int64} {z : Int64} {t : V} (ez : z = eV t) (h : w0 t) (hx : t.2.1 = 1) : f_X10_isExecutable (wc I L T U) [.long z] = some (some (.int 1), wc I L T U) := by
  have c1 : ¬ (lg_cmp (z &&& 281474976710656) 0 = 0) := by rw [ez, eV_x h]; omega
  (refine Eq.trans (p_X10_isExecutable_1 _ _ _ _ _ (by first | with_reducible assumption | (simp (disch := omega) only [ez, i_lit, i_m1, pk_sub, nI_add, nI_ml, nI_ltI, nI_leI, nI_eq, nI_clamp, nI_l, lN_i, lg_nI, lg_geI, lg_leI, lg_gtI, lg_ltI, c16_160, c16_200, c16_255, c16_300, c16_600, c16_616, c16_1000, Nat.add_eq, vp_updL_at, upd_at, Nat.add_sub_cancel, Nat.add_zero, Nat.zero_add, Nat.sub_zero, uU_uU, uT_uT, uI_uI, uL_uL, uU_at, uT_at, uI_at, uL_at, uU_ne, uT_ne, uI_ne, uL_ne, uU_sw, uT_sw, uI_sw, uL_sw] <;> first | with_reducible assumption | omega) | omega | decide)) ?_; first | with_reducible rfl | (simp (disch := omega) only [ez, i_lit, i_m1, pk_sub, nI_add, nI_ml, nI_ltI, nI_leI, nI_eq, nI_clamp, nI_l, lN_i, lg_nI, lg_geI, lg_leI, lg_gtI, lg_ltI, c16_160, c16_200, c16_255, c16_300, c16_600, c16_616, c16_1000]; done))
theorem s_isExecutable0 {I : Nat → Int32} {L : Nat → Int64} {T : Nat → Nat → Int32} {U : Nat → Nat → Int64} {z : Int64} {t : V} (ez : z = eV t) (h : w0 t) (hx : t.2.1 = 0) : f_X10_isExecutable (wc I L T U) [.long z] = some (some (.int 0), wc I L T U) := by
  have c1 : lg_cmp (z &&& 281474976710656) 0 = 0 := by rw [ez, eV_x h]; omega
  (refine Eq.trans (p_X10_isExecutable_2 _ _ _ _ _ (by first | with_reducible assumption | (simp (disch := omega) only [ez, i_lit, i_m1, pk_sub, nI_add, nI_ml, nI_ltI, nI_leI, nI_eq, nI_clamp, nI_l, lN_i, lg_nI, lg_geI, lg_leI, lg_gtI, lg_ltI, c16_160, c16_200, c16_255, c16_300, c16_600, c16_616, c16_1000, Nat.add_eq, vp_updL_at, upd_at, Nat.add_sub_cancel, Nat.add_zero, Nat.zero_add, Nat.sub_zero, uU_uU, uT_uT, uI_uI, uL_uL, uU_at, uT_at, uI_at, uL_at, uU_ne, uT_ne, uI_ne, uL_ne, uU_sw, uT_sw, uI_sw, uL_sw] <;> first | with_reducible assumption | omega) | omega | decide)) ?_; first | with_reducible rfl | (simp (disch := omega) only [ez, i_lit, i_m1, pk_sub, nI_add, nI_ml, nI_ltI, nI_leI, nI_eq, nI_clamp, nI_l, lN_i, lg_nI, lg_geI, lg_leI, lg_gtI, lg_ltI, c16_160, c16_200, c16_255, c16_300, c16_600, c16_616, c16_1000]; done))
theorem s_isExecutable {I : Nat → Int32} {L : Nat → Int64} {T : Nat → Nat → Int32} {U : Nat → Nat → Int64} {z : Int64} {t : V} (ez : z = eV t) (h : w0 t) : f_X10_isExecutable (wc I L T U) [.long z] = some (some (.int (nI t.2.1)), wc I L T U) := by
  have h2 := h.2.1
  rcases (show t.2.1 = 0 ∨ t.2.1 = 1 by omega) with e | e
  · rw [s_isExecutable0 ez h e, e]
    rfl
  · rw [s_isExecutable1 ez h e, e]
    rfl
theorem s_isProcedure1 {I : Nat → Int32} {L : Nat → Int64} {T : Nat → Nat → Int32} {U : Nat → Nat → Int64} {z : Int64} {t : V} (ez : z = eV t) (h : w0 t) (hk : t.1 = 5) (hx : t.2.1 = 1) : f_X10_isProcedure (wc I L T U) [.long z] = some (some (.int 1), wc I L T U) := by
  have c1 : ¬ (lg_cmp (z &&& 281474976710656) 0 = 0) := by rw [ez, eV_x h]; omega
  have c2 : lg_cmp ((Int64.toUInt64 z >>> ((Int32.toInt64 49).toUInt64 &&& Int64.toUInt64 63)).toInt64 &&& 15) 5 = 0 := by rw [ez]; exact (eV_k 5 (by decide) h).mpr hk
  (refine Eq.trans (p_X10_isProcedure_1 _ _ _ _ _ (by first | with_reducible assumption | (simp (disch := omega) only [ez, i_lit, i_m1, pk_sub, nI_add, nI_ml, nI_ltI, nI_leI, nI_eq, nI_clamp, nI_l, lN_i, lg_nI, lg_geI, lg_leI, lg_gtI, lg_ltI, c16_160, c16_200, c16_255, c16_300, c16_600, c16_616, c16_1000, Nat.add_eq, vp_updL_at, upd_at, Nat.add_sub_cancel, Nat.add_zero, Nat.zero_add, Nat.sub_zero, uU_uU, uT_uT, uI_uI, uL_uL, uU_at, uT_at, uI_at, uL_at, uU_ne, uT_ne, uI_ne, uL_ne, uU_sw, uT_sw, uI_sw, uL_sw] <;> first | with_reducible assumption | omega) | omega | decide) (by first | with_reducible assumption | (simp (disch := omega) only [ez, i_lit, i_m1, pk_sub, nI_add, nI_ml, nI_ltI, nI_leI, nI_eq, nI_clamp, nI_l, lN_i, lg_nI, lg_geI, lg_leI, lg_gtI, lg_ltI, c16_160, c16_200, c16_255, c16_300, c16_600, c16_616, c16_1000, Nat.add_eq, vp_updL_at, upd_at, Nat.add_sub_cancel, Nat.add_zero, Nat.zero_add, Nat.sub_zero, uU_uU, uT_uT, uI_uI, uL_uL, uU_at, uT_at, uI_at, uL_at, uU_ne, uT_ne, uI_ne, uL_ne, uU_sw, uT_sw, uI_sw, uL_sw] <;> first | with_reducible assumption | omega) | omega | decide)) ?_; first | with_reducible rfl | (simp (disch := omega) only [ez, i_lit, i_m1, pk_sub, nI_add, nI_ml, nI_ltI, nI_leI, nI_eq, nI_clamp, nI_l, lN_i, lg_nI, lg_geI, lg_leI, lg_gtI, lg_ltI, c16_160, c16_200, c16_255, c16_300, c16_600, c16_616, c16_1000]; done))
theorem s_isProcedure0 {I : Nat → Int32} {L : Nat → Int64} {T : Nat → Nat → Int32} {U : Nat → Nat → Int64} {z : Int64} {t : V} (ez : z = eV t) (h : w0 t) (hn : ¬ (t.1 = 5 ∧ t.2.1 = 1)) : f_X10_isProcedure (wc I L T U) [.long z] = some (some (.int 0), wc I L T U) := by
  have h2 := h.2.1
  have c1 : lg_cmp (z &&& 281474976710656) 0 = 0 ↔ t.2.1 = 0 := by rw [ez, eV_x h]
  have c2 : lg_cmp ((Int64.toUInt64 z >>> ((Int32.toInt64 49).toUInt64 &&& Int64.toUInt64 63)).toInt64 &&& 15) 5 = 0 ↔ t.1 = 5 := by rw [ez]; exact eV_k 5 (by decide) h
  have c5 := Decidable.em (t.2.1 = 0)
  rcases c5.imp (fun hx => c1.mpr hx) (fun hx => And.intro (fun e => hx (c1.mp e)) (fun e => hn ⟨c2.mp e, by omega⟩)) with c3 | ⟨c3, c4⟩
  all_goals (first
  | (refine Eq.trans (p_X10_isProcedure_2 _ _ _ _ _ (by first | with_reducible assumption | (simp (disch := omega) only [ez, i_lit, i_m1, pk_sub, nI_add, nI_ml, nI_ltI, nI_leI, nI_eq, nI_clamp, nI_l, lN_i, lg_nI, lg_geI, lg_leI, lg_gtI, lg_ltI, c16_160, c16_200, c16_255, c16_300, c16_600, c16_616, c16_1000, Nat.add_eq, vp_updL_at, upd_at, Nat.add_sub_cancel, Nat.add_zero, Nat.zero_add, Nat.sub_zero, uU_uU, uT_uT, uI_uI, uL_uL, uU_at, uT_at, uI_at, uL_at, uU_ne, uT_ne, uI_ne, uL_ne, uU_sw, uT_sw, uI_sw, uL_sw] <;> first | with_reducible assumption | omega) | omega | decide) (by first | with_reducible assumption | (simp (disch := omega) only [ez, i_lit, i_m1, pk_sub, nI_add, nI_ml, nI_ltI, nI_leI, nI_eq, nI_clamp, nI_l, lN_i, lg_nI, lg_geI, lg_leI, lg_gtI, lg_ltI, c16_160, c16_200, c16_255, c16_300, c16_600, c16_616, c16_1000, Nat.add_eq, vp_updL_at, upd_at, Nat.add_sub_cancel, Nat.add_zero, Nat.zero_add, Nat.sub_zero, uU_uU, uT_uT, uI_uI, uL_uL, uU_at, uT_at, uI_at, uL_at, uU_ne, uT_ne, uI_ne, uL_ne, uU_sw, uT_sw, uI_sw, uL_sw] <;> first | with_reducible assumption | omega) | omega | decide)) ?_; first | with_reducible rfl | (simp (disch := omega) only [ez, i_lit, i_m1, pk_sub, nI_add, nI_ml, nI_ltI, nI_leI, nI_eq, nI_clamp, nI_l, lN_i, lg_nI, lg_geI, lg_leI, lg_gtI, lg_ltI, c16_160, c16_200, c16_255, c16_300, c16_600, c16_616, c16_1000]; done))
  | (refine Eq.trans (p_X10_isProcedure_3 _ _ _ _ _ (by first | with_reducible assumption | (simp (disch := omega) only [ez, i_lit, i_m1, pk_sub, nI_add, nI_ml, nI_ltI, nI_leI, nI_eq, nI_clamp, nI_l, lN_i, lg_nI, lg_geI, lg_leI, lg_gtI, lg_ltI, c16_160, c16_200, c16_255, c16_300, c16_600, c16_616, c16_1000, Nat.add_eq, vp_updL_at, upd_at, Nat.add_sub_cancel, Nat.add_zero, Nat.zero_add, Nat.sub_zero, uU_uU, uT_uT, uI_uI, uL_uL, uU_at, uT_at, uI_at, uL_at, uU_ne, uT_ne, uI_ne, uL_ne, uU_sw, uT_sw, uI_sw, uL_sw] <;> first | with_reducible assumption | omega) | omega | decide)) ?_; first | with_reducible rfl | (simp (disch := omega) only [ez, i_lit, i_m1, pk_sub, nI_add, nI_ml, nI_ltI, nI_leI, nI_eq, nI_clamp, nI_l, lN_i, lg_nI, lg_geI, lg_leI, lg_gtI, lg_ltI, c16_160, c16_200, c16_255, c16_300, c16_600, c16_616, c16_1000]; done)))
theorem s_isExecutableName1 {I : Nat → Int32} {L : Nat → Int64} {T : Nat → Nat → Int32} {U : Nat → Nat → Int64} {z : Int64} {t : V} (ez : z = eV t) (h : w0 t) (hk : t.1 = 4) (hx : t.2.1 = 1) : f_X10_isExecutableName (wc I L T U) [.long z] = some (some (.int 1), wc I L T U) := by
  have c1 : ¬ (lg_cmp (z &&& 281474976710656) 0 = 0) := by rw [ez, eV_x h]; omega
  have c2 : lg_cmp ((Int64.toUInt64 z >>> ((Int32.toInt64 49).toUInt64 &&& Int64.toUInt64 63)).toInt64 &&& 15) 4 = 0 := by rw [ez]; exact (eV_k 4 (by decide) h).mpr hk
  (refine Eq.trans (p_X10_isExecutableName_1 _ _ _ _ _ (by first | with_reducible assumption | (simp (disch := omega) only [ez, i_lit, i_m1, pk_sub, nI_add, nI_ml, nI_ltI, nI_leI, nI_eq, nI_clamp, nI_l, lN_i, lg_nI, lg_geI, lg_leI, lg_gtI, lg_ltI, c16_160, c16_200, c16_255, c16_300, c16_600, c16_616, c16_1000, Nat.add_eq, vp_updL_at, upd_at, Nat.add_sub_cancel, Nat.add_zero, Nat.zero_add, Nat.sub_zero, uU_uU, uT_uT, uI_uI, uL_uL, uU_at, uT_at, uI_at, uL_at, uU_ne, uT_ne, uI_ne, uL_ne, uU_sw, uT_sw, uI_sw, uL_sw] <;> first | with_reducible assumption | omega) | omega | decide) (by first | with_reducible assumption | (simp (disch := omega) only [ez, i_lit, i_m1, pk_sub, nI_add, nI_ml, nI_ltI, nI_leI, nI_eq, nI_clamp, nI_l, lN_i, lg_nI, lg_geI, lg_leI, lg_gtI, lg_ltI, c16_160, c16_200, c16_255, c16_300, c16_600, c16_616, c16_1000, Nat.add_eq, vp_updL_at, upd_at, Nat.add_sub_cancel, Nat.add_zero, Nat.zero_add, Nat.sub_zero, uU_uU, uT_uT, uI_uI, uL_uL, uU_at, uT_at, uI_at, uL_at, uU_ne, uT_ne, uI_ne, uL_ne, uU_sw, uT_sw, uI_sw, uL_sw] <;> first | with_reducible assumption | omega) | omega | decide)) ?_; first | with_reducible rfl | (simp (disch := omega) only [ez, i_lit, i_m1, pk_sub, nI_add, nI_ml, nI_ltI, nI_leI, nI_eq, nI_clamp, nI_l, lN_i, lg_nI, lg_geI, lg_leI, lg_gtI, lg_ltI, c16_160, c16_200, c16_255, c16_300, c16_600, c16_616, c16_1000]; done))
theorem s_isExecutableName0 {I : Nat → Int32} {L : Nat → Int64} {T : Nat → Nat → Int32} {U : Nat → Nat → Int64} {z : Int64} {t : V} (ez : z = eV t) (h : w0 t) (hn : ¬ (t.1 = 4 ∧ t.2.1 = 1)) : f_X10_isExecutableName (wc I L T U) [.long z] = some (some (.int 0), wc I L T U) := by
  have h2 := h.2.1
  have c1 : lg_cmp (z &&& 281474976710656) 0 = 0 ↔ t.2.1 = 0 := by rw [ez, eV_x h]
  have c2 : lg_cmp ((Int64.toUInt64 z >>> ((Int32.toInt64 49).toUInt64 &&& Int64.toUInt64 63)).toInt64 &&& 15) 4 = 0 ↔ t.1 = 4 := by rw [ez]; exact eV_k 4 (by decide) h
  have c5 := Decidable.em (t.2.1 = 0)
  rcases c5.imp (fun hx => c1.mpr hx) (fun hx => And.intro (fun e => hx (c1.mp e)) (fun e => hn ⟨c2.mp e, by omega⟩)) with c3 | ⟨c3, c4⟩
  all_goals (first
  | (refine Eq.trans (p_X10_isExecutableName_2 _ _ _ _ _ (by first | with_reducible assumption | (simp (disch := omega) only [ez, i_lit, i_m1, pk_sub, nI_add, nI_ml, nI_ltI, nI_leI, nI_eq, nI_clamp, nI_l, lN_i, lg_nI, lg_geI, lg_leI, lg_gtI, lg_ltI, c16_160, c16_200, c16_255, c16_300, c16_600, c16_616, c16_1000, Nat.add_eq, vp_updL_at, upd_at, Nat.add_sub_cancel, Nat.add_zero, Nat.zero_add, Nat.sub_zero, uU_uU, uT_uT, uI_uI, uL_uL, uU_at, uT_at, uI_at, uL_at, uU_ne, uT_ne, uI_ne, uL_ne, uU_sw, uT_sw, uI_sw, uL_sw] <;> first | with_reducible assumption | omega) | omega | decide) (by first | with_reducible assumption | (simp (disch := omega) only [ez, i_lit, i_m1, pk_sub, nI_add, nI_ml, nI_ltI, nI_leI, nI_eq, nI_clamp, nI_l, lN_i, lg_nI, lg_geI, lg_leI, lg_gtI, lg_ltI, c16_160, c16_200, c16_255, c16_300, c16_600, c16_616, c16_1000, Nat.add_eq, vp_updL_at, upd_at, Nat.add_sub_cancel, Nat.add_zero, Nat.zero_add, Nat.sub_zero, uU_uU, uT_uT, uI_uI, uL_uL, uU_at, uT_at, uI_at, uL_at, uU_ne, uT_ne, uI_ne, uL_ne, uU_sw, uT_sw, uI_sw, uL_sw] <;> first | with_reducible assumption | omega) | omega | decide)) ?_; first | with_reducible rfl | (simp (disch := omega) only [ez, i_lit, i_m1, pk_sub, nI_add, nI_ml, nI_ltI, nI_leI, nI_eq, nI_clamp, nI_l, lN_i, lg_nI, lg_geI, lg_leI, lg_gtI, lg_ltI, c16_160, c16_200, c16_255, c16_300, c16_600, c16_616, c16_1000]; done))
  | (refine Eq.trans (p_X10_isExecutableName_3 _ _ _ _ _ (by first | with_reducible assumption | (simp (disch := omega) only [ez, i_lit, i_m1, pk_sub, nI_add, nI_ml, nI_ltI, nI_leI, nI_eq, nI_clamp, nI_l, lN_i, lg_nI, lg_geI, lg_leI, lg_gtI, lg_ltI, c16_160, c16_200, c16_255, c16_300, c16_600, c16_616, c16_1000, Nat.add_eq, vp_updL_at, upd_at, Nat.add_sub_cancel, Nat.add_zero, Nat.zero_add, Nat.sub_zero, uU_uU, uT_uT, uI_uI, uL_uL, uU_at, uT_at, uI_at, uL_at, uU_ne, uT_ne, uI_ne, uL_ne, uU_sw, uT_sw, uI_sw, uL_sw] <;> first | with_reducible assumption | omega) | omega | decide)) ?_; first | with_reducible rfl | (simp (disch := omega) only [ez, i_lit, i_m1, pk_sub, nI_add, nI_ml, nI_ltI, nI_leI, nI_eq, nI_clamp, nI_l, lN_i, lg_nI, lg_geI, lg_leI, lg_gtI, lg_ltI, c16_160, c16_200, c16_255, c16_300, c16_600, c16_616, c16_1000]; done)))
theorem s_truth1 {I : Nat → Int32} {L : Nat → Int64} {T : Nat → Nat → Int32} {U : Nat → Nat → Int64} {a : Int32} (ea : a = 1) : f_X10_truth (wc I L T U) [.int a] = some (some (.long (eV (2, 0, 0, 1))), wc I L T U) := by
  (refine Eq.trans (p_X10_truth_1 _ _ _ _ _ (by first | with_reducible assumption | (simp (disch := omega) only [ea, i_lit, i_m1, pk_sub, nI_add, nI_ml, nI_ltI, nI_leI, nI_eq, nI_clamp, nI_l, lN_i, lg_nI, lg_geI, lg_leI, lg_gtI, lg_ltI, c16_160, c16_200, c16_255, c16_300, c16_600, c16_616, c16_1000, Nat.add_eq, vp_updL_at, upd_at, Nat.add_sub_cancel, Nat.add_zero, Nat.zero_add, Nat.sub_zero, uU_uU, uT_uT, uI_uI, uL_uL, uU_at, uT_at, uI_at, uL_at, uU_ne, uT_ne, uI_ne, uL_ne, uU_sw, uT_sw, uI_sw, uL_sw] <;> first | with_reducible assumption | omega) | omega | decide)) ?_; first | with_reducible rfl | (simp (disch := omega) only [ea, i_lit, i_m1, pk_sub, nI_add, nI_ml, nI_ltI, nI_leI, nI_eq, nI_clamp, nI_l, lN_i, lg_nI, lg_geI, lg_leI, lg_gtI, lg_ltI, c16_160, c16_200, c16_255, c16_300, c16_600, c16_616, c16_1000, eV_true]; done))
theorem s_truth0 {I : Nat → Int32} {L : Nat → Int64} {T : Nat → Nat → Int32} {U : Nat → Nat → Int64} {a : Int32} (ea : a = 0) : f_X10_truth (wc I L T U) [.int a] = some (some (.long (eV (2, 0, 0, 0))), wc I L T U) := by
  (refine Eq.trans (p_X10_truth_2 _ _ _ _ _ (by first | with_reducible assumption | (simp (disch := omega) only [ea, i_lit, i_m1, pk_sub, nI_add, nI_ml, nI_ltI, nI_leI, nI_eq, nI_clamp, nI_l, lN_i, lg_nI, lg_geI, lg_leI, lg_gtI, lg_ltI, c16_160, c16_200, c16_255, c16_300, c16_600, c16_616, c16_1000, Nat.add_eq, vp_updL_at, upd_at, Nat.add_sub_cancel, Nat.add_zero, Nat.zero_add, Nat.sub_zero, uU_uU, uT_uT, uI_uI, uL_uL, uU_at, uT_at, uI_at, uL_at, uU_ne, uT_ne, uI_ne, uL_ne, uU_sw, uT_sw, uI_sw, uL_sw] <;> first | with_reducible assumption | omega) | omega | decide)) ?_; first | with_reducible rfl | (simp (disch := omega) only [ea, i_lit, i_m1, pk_sub, nI_add, nI_ml, nI_ltI, nI_leI, nI_eq, nI_clamp, nI_l, lN_i, lg_nI, lg_geI, lg_leI, lg_gtI, lg_ltI, c16_160, c16_200, c16_255, c16_300, c16_600, c16_616, c16_1000, eV_false]; done))
theorem s_truth {I : Nat → Int32} {L : Nat → Int64} {T : Nat → Nat → Int32} {U : Nat → Nat → Int64} {a : Int32} (ha : a = 0 ∨ a = 1) : f_X10_truth (wc I L T U) [.int a] = some (some (.long (eV (2, 0, 0, a))), wc I L T U) := by
  rcases ha with rfl | rfl
  · exact s_truth0 rfl
  · exact s_truth1 rfl
theorem s_array {I : Nat → Int32} {L : Nat → Int64} {T : Nat → Nat → Int32} {U : Nat → Nat → Int64} {a b : Int32} {l : Nat} (eb : b = nI l) (hl : l < 65536) : f_X10_array (wc I L T U) [.int a, .int b] = some (some (.long (eV (5, 0, l, a))), wc I L T U) := by
  have q := eV_row 5 (by decide) (a := a) eb hl
  rw [show lN (5 * 562949953421312) = (2814749767106560 : Int64) from by decide +kernel] at q
  rw [← q]; (refine Eq.trans (p_X10_array_1 _ _ _ _ _ _) ?_; first | with_reducible rfl | (simp (disch := omega) only [eb, i_lit, i_m1, pk_sub, nI_add, nI_ml, nI_ltI, nI_leI, nI_eq, nI_clamp, nI_l, lN_i, lg_nI, lg_geI, lg_leI, lg_gtI, lg_ltI, c16_160, c16_200, c16_255, c16_300, c16_600, c16_616, c16_1000]; done))
theorem s_string {I : Nat → Int32} {L : Nat → Int64} {T : Nat → Nat → Int32} {U : Nat → Nat → Int64} {a b : Int32} {l : Nat} (eb : b = nI l) (hl : l < 65536) : f_X10_string (wc I L T U) [.int a, .int b] = some (some (.long (eV (6, 0, l, a))), wc I L T U) := by
  have q := eV_row 6 (by decide) (a := a) eb hl
  rw [show lN (6 * 562949953421312) = (3377699720527872 : Int64) from by decide +kernel] at q
  rw [← q]; (refine Eq.trans (p_X10_string_1 _ _ _ _ _ _) ?_; first | with_reducible rfl | (simp (disch := omega) only [eb, i_lit, i_m1, pk_sub, nI_add, nI_ml, nI_ltI, nI_leI, nI_eq, nI_clamp, nI_l, lN_i, lg_nI, lg_geI, lg_leI, lg_gtI, lg_ltI, c16_160, c16_200, c16_255, c16_300, c16_600, c16_616, c16_1000]; done))
theorem s_partOf {I : Nat → Int32} {L : Nat → Int64} {T : Nat → Nat → Int32} {U : Nat → Nat → Int64} {z : Int64} {t : V} (ez : z = eV t) (h : w0 t) {a b : Int32} {l : Nat} (eb : b = nI l) (hl : l < 65536) : f_X10_partOf (wc I L T U) [.long z, .int a, .int b] = some (some (.long (eV (t.1, t.2.1, l, t.2.2.2 + a))), wc I L T U) := by
  rw [← eV_part h eb hl, ez]; (refine Eq.trans (p_X10_partOf_1 _ _ _ _ _ _ _) ?_; first | with_reducible rfl | (simp (disch := omega) only [ez, eb, i_lit, i_m1, pk_sub, nI_add, nI_ml, nI_ltI, nI_leI, nI_eq, nI_clamp, nI_l, lN_i, lg_nI, lg_geI, lg_leI, lg_gtI, lg_ltI, c16_160, c16_200, c16_255, c16_300, c16_600, c16_616, c16_1000]; done))
theorem s_part0 {I : Nat → Int32} {L : Nat → Int64} {T : Nat → Nat → Int32} {U : Nat → Nat → Int64} {z : Int64} {t : V} (ez : z = eV t) (h : w0 t)  : f_X10_part (wc I L T U) [.long z, .int 0] = some (some (.int (nI t.1)), wc I L T U) := by
  rw [fv_X10_part_eq]; (refine Eq.trans (p_X10_part_5 f_X10_kind f_X10_isExecutable f_X10_length _ _ _ _ _ _ (s_kind ez h)) ?_; first | with_reducible rfl | (simp (disch := omega) only [ez, i_lit, i_m1, pk_sub, nI_add, nI_ml, nI_ltI, nI_leI, nI_eq, nI_clamp, nI_l, lN_i, lg_nI, lg_geI, lg_leI, lg_gtI, lg_ltI, c16_160, c16_200, c16_255, c16_300, c16_600, c16_616, c16_1000]; done))
theorem s_part1 {I : Nat → Int32} {L : Nat → Int64} {T : Nat → Nat → Int32} {U : Nat → Nat → Int64} {z : Int64} {t : V} (ez : z = eV t) (h : w0 t)  : f_X10_part (wc I L T U) [.long z, .int 1] = some (some (.int t.2.2.2), wc I L T U) := by
  rw [fv_X10_part_eq]; (refine Eq.trans (p_X10_part_4 f_X10_kind f_X10_isExecutable f_X10_length _ _ _ _ _) ?_; first | with_reducible rfl | (simp (disch := omega) only [ez, i_lit, i_m1, pk_sub, nI_add, nI_ml, nI_ltI, nI_leI, nI_eq, nI_clamp, nI_l, lN_i, lg_nI, lg_geI, lg_leI, lg_gtI, lg_ltI, c16_160, c16_200, c16_255, c16_300, c16_600, c16_616, c16_1000, eV_num]; done))
theorem s_part3 {I : Nat → Int32} {L : Nat → Int64} {T : Nat → Nat → Int32} {U : Nat → Nat → Int64} {z : Int64} {t : V} (ez : z = eV t) (h : w0 t)  : f_X10_part (wc I L T U) [.long z, .int 3] = some (some (.int (nI t.2.2.1)), wc I L T U) := by
  rw [fv_X10_part_eq]; (refine Eq.trans (p_X10_part_1 f_X10_kind f_X10_isExecutable f_X10_length _ _ _ _ _ _ (s_length ez h)) ?_; first | with_reducible rfl | (simp (disch := omega) only [ez, i_lit, i_m1, pk_sub, nI_add, nI_ml, nI_ltI, nI_leI, nI_eq, nI_clamp, nI_l, lN_i, lg_nI, lg_geI, lg_leI, lg_gtI, lg_ltI, c16_160, c16_200, c16_255, c16_300, c16_600, c16_616, c16_1000]; done))
theorem s_part2b {I : Nat → Int32} {L : Nat → Int64} {T : Nat → Nat → Int32} {U : Nat → Nat → Int64} {z : Int64} {t : V} (ez : z = eV t) (h : w0 t) (hx : t.2.1 = 1) : f_X10_part (wc I L T U) [.long z, .int 2] = some (some (.int (nI 1)), wc I L T U) := by
  rw [fv_X10_part_eq]; (refine Eq.trans (p_X10_part_2 f_X10_kind f_X10_isExecutable f_X10_length _ _ _ _ _ _ (s_isExecutable1 ez h hx) (by first | with_reducible assumption | (simp (disch := omega) only [ez, i_lit, i_m1, pk_sub, nI_add, nI_ml, nI_ltI, nI_leI, nI_eq, nI_clamp, nI_l, lN_i, lg_nI, lg_geI, lg_leI, lg_gtI, lg_ltI, c16_160, c16_200, c16_255, c16_300, c16_600, c16_616, c16_1000, Nat.add_eq, vp_updL_at, upd_at, Nat.add_sub_cancel, Nat.add_zero, Nat.zero_add, Nat.sub_zero, uU_uU, uT_uT, uI_uI, uL_uL, uU_at, uT_at, uI_at, uL_at, uU_ne, uT_ne, uI_ne, uL_ne, uU_sw, uT_sw, uI_sw, uL_sw] <;> first | with_reducible assumption | omega) | omega | decide)) ?_; first | with_reducible rfl | (simp (disch := omega) only [ez, i_lit, i_m1, pk_sub, nI_add, nI_ml, nI_ltI, nI_leI, nI_eq, nI_clamp, nI_l, lN_i, lg_nI, lg_geI, lg_leI, lg_gtI, lg_ltI, c16_160, c16_200, c16_255, c16_300, c16_600, c16_616, c16_1000]; done))
theorem s_part2a {I : Nat → Int32} {L : Nat → Int64} {T : Nat → Nat → Int32} {U : Nat → Nat → Int64} {z : Int64} {t : V} (ez : z = eV t) (h : w0 t) (hx : t.2.1 = 0) : f_X10_part (wc I L T U) [.long z, .int 2] = some (some (.int (nI 0)), wc I L T U) := by
  rw [fv_X10_part_eq]; (refine Eq.trans (p_X10_part_3 f_X10_kind f_X10_isExecutable f_X10_length _ _ _ _ _ _ (s_isExecutable0 ez h hx) (by first | with_reducible assumption | (simp (disch := omega) only [ez, i_lit, i_m1, pk_sub, nI_add, nI_ml, nI_ltI, nI_leI, nI_eq, nI_clamp, nI_l, lN_i, lg_nI, lg_geI, lg_leI, lg_gtI, lg_ltI, c16_160, c16_200, c16_255, c16_300, c16_600, c16_616, c16_1000, Nat.add_eq, vp_updL_at, upd_at, Nat.add_sub_cancel, Nat.add_zero, Nat.zero_add, Nat.sub_zero, uU_uU, uT_uT, uI_uI, uL_uL, uU_at, uT_at, uI_at, uL_at, uU_ne, uT_ne, uI_ne, uL_ne, uU_sw, uT_sw, uI_sw, uL_sw] <;> first | with_reducible assumption | omega) | omega | decide)) ?_; first | with_reducible rfl | (simp (disch := omega) only [ez, i_lit, i_m1, pk_sub, nI_add, nI_ml, nI_ltI, nI_leI, nI_eq, nI_clamp, nI_l, lN_i, lg_nI, lg_geI, lg_leI, lg_gtI, lg_ltI, c16_160, c16_200, c16_255, c16_300, c16_600, c16_616, c16_1000]; done))
