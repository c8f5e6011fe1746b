theorem lg_cmp0 {a b : Int64} : lg_cmp a b = 0 ↔ a = b := by
  unfold lg_cmp
  constructor
  · intro h
    split at h
    · cases h
    · split at h
      · assumption
      · cases h
  · intro h
    subst h
    rw [if_neg (by simp), if_pos rfl]
theorem en_bit {k x l : Nat} {v : Int32} (hk : k ≤ 15) (hx : x ≤ 1) (hl : l < 65536) : en k x l v &&& 281474976710656 = lN (x * 281474976710656) := by
  have h1 := eN_lt hk hx hl (vN_lt v)
  have b1 := vN_lt v
  unfold en
  refine (wb_and (a := eN k x l (vN v)) (b := 281474976710656) (by omega) (by omega)).trans ?_
  congr 1
  apply Nat.eq_of_testBit_eq
  intro i
  rw [Nat.testBit_and, show (281474976710656 : Nat) = 2 ^ 48 from rfl, Nat.testBit_two_pow]
  by_cases hi : 48 = i
  · subst hi
    rw [Nat.testBit_eq_decide_div_mod_eq, show eN k x l (vN v) / 2 ^ 48 % 2 = x by unfold eN; omega, Nat.testBit_eq_decide_div_mod_eq, show x * 2 ^ 48 / 2 ^ 48 % 2 = x by omega]
    simp
  · rw [decide_eq_false hi, Bool.and_false]
    rcases (show x = 0 ∨ x = 1 by omega) with rfl | rfl
    · simp
    · rw [Nat.one_mul, Nat.testBit_two_pow, decide_eq_false hi]
theorem en_x1 {k l : Nat} {v : Int32} (hk : k ≤ 15) (hl : l < 65536) : ¬ lg_cmp (en k 1 l v &&& 281474976710656) 0 = 0 := by
  rw [lg_cmp0, en_bit hk (by decide) hl]
  decide
theorem en_x0 {k l : Nat} {v : Int32} (hk : k ≤ 15) (hl : l < 65536) : lg_cmp (en k 0 l v &&& 281474976710656) 0 = 0 := by
  rw [lg_cmp0, en_bit hk (by decide) hl]
  decide
theorem en_kl {k x l : Nat} {v : Int32} (hk : k ≤ 15) (hx : x ≤ 1) (hl : l < 65536) : (((en k x l v).toUInt64 >>> ((nI 49).toInt64.toUInt64 &&& Int64.toUInt64 63)).toInt64 &&& 15) = lN k := by
  have h1 := eN_lt hk hx hl (vN_lt v)
  have b1 := vN_lt v
  unfold en
  rw [wb_shr (by omega) (by decide), show eN k x l (vN v) / 2 ^ 49 = k by unfold eN; omega]
  refine (wb_mask (n := k) (k := 4) (by omega) (by decide)).trans ?_
  rw [Nat.mod_eq_of_lt (by omega)]
theorem e_kind {vh : rx_H} {k x l : Nat} {v : Int32} (hk : k ≤ 15) (hx : x ≤ 1) (hl : l < 65536) : f_X10_kind vh [.long (en k x l v)] = some (some (.int (nI k)), vh) := by
  refine (ry_fn_eq (x := some (some (.int (((en k x l v).toUInt64 >>> ((nI 49).toInt64.toUInt64 &&& Int64.toUInt64 63)).toInt64.toInt32 &&& nI 15)), vh)) rfl).trans ?_
  rw [en_kind hk hx hl]
theorem e_length {vh : rx_H} {k x l : Nat} {v : Int32} (hk : k ≤ 15) (hx : x ≤ 1) (hl : l < 65536) : f_X10_length vh [.long (en k x l v)] = some (some (.int (nI l)), vh) := by
  refine (ry_fn_eq (x := some (some (.int (((en k x l v).toUInt64 >>> ((nI 32).toInt64.toUInt64 &&& Int64.toUInt64 63)).toInt64.toInt32 &&& 65535)), vh)) rfl).trans ?_
  rw [en_len hk hx hl]
theorem e_number {vh : rx_H} {v : Int32} : f_X10_number vh [.int v] = some (some (.long (en 1 0 0 v)), vh) := by
  rw [← en_number]
  exact ry_fn_eq rfl
theorem e_literalName {vh : rx_H} {v : Int32} : f_X10_literalName vh [.int v] = some (some (.long (en 4 0 0 v)), vh) := by
  rw [← en_lname]
  exact ry_fn_eq rfl
theorem e_executableName {vh : rx_H} {v : Int32} : f_X10_executableName vh [.int v] = some (some (.long (en 4 1 0 v)), vh) := by
  rw [← en_xname]
  exact ry_fn_eq rfl
theorem e_operator {vh : rx_H} {v : Int32} : f_X10_operator vh [.int v] = some (some (.long (en 8 1 0 v)), vh) := by
  rw [← en_oper]
  exact ry_fn_eq rfl
theorem e_dictionaryOf {vh : rx_H} {v : Int32} : f_X10_dictionaryOf vh [.int v] = some (some (.long (en 7 0 0 v)), vh) := by
  rw [← en_dict]
  exact ry_fn_eq rfl
theorem vN_0 : vN 0 = 0 := rfl
theorem vN_1 : vN 1 = 1 := rfl
