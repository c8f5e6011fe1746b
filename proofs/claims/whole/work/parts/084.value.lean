/-! packed values: sort k, executable x, length l, number v -/
def vN (v : Int32) : Nat := v.toBitVec.toNat
theorem vN_lt (v : Int32) : vN v < 4294967296 := v.toBitVec.isLt
theorem nI_vN (v : Int32) : nI (vN v) = v := Int32.toBitVec_inj.mp (by show BitVec.ofNat 32 _ = _; simp [vN])
theorem vN_nI {n : Nat} (h : n < 4294967296) : vN (nI n) = n := by
  show (BitVec.ofNat 32 n).toNat = n
  rw [BitVec.toNat_ofNat, Nat.mod_eq_of_lt h]
theorem vN_inj {a b : Int32} (h : vN a = vN b) : a = b := by rw [← nI_vN a, h, nI_vN]
theorem nI_mod (a : Nat) : nI a = nI (a % 4294967296) := Int32.toBitVec_inj.mp (by
  show BitVec.ofNat 32 a = BitVec.ofNat 32 _
  apply BitVec.eq_of_toNat_eq
  rw [BitVec.toNat_ofNat, BitVec.toNat_ofNat, Nat.mod_mod])
def eN (k x l n : Nat) : Nat := k * 562949953421312 + x * 281474976710656 + l * 4294967296 + n
def en (k x l : Nat) (v : Int32) : Int64 := lN (eN k x l (vN v))
theorem eN_lt {k x l n : Nat} (hk : k ≤ 15) (hx : x ≤ 1) (hl : l < 65536) (hn : n < 4294967296) : eN k x l n < 9007199254740992 := by
  unfold eN
  omega
theorem lN_inj {a b : Nat} (ha : a < 2 ^ 64) (hb : b < 2 ^ 64) (h : lN a = lN b) : a = b := by
  have := congrArg (fun z : Int64 => z.toBitVec.toNat) h
  simp only [wb_tn ha, wb_tn hb] at this
  exact this
theorem en_inj {k x l k' x' l' : Nat} {v v' : Int32} (hk : k ≤ 15) (hx : x ≤ 1) (hl : l < 65536) (hk' : k' ≤ 15) (hx' : x' ≤ 1) (hl' : l' < 65536) (h : en k x l v = en k' x' l' v') : k = k' ∧ x = x' ∧ l = l' ∧ v = v' := by
  have h1 := eN_lt hk hx hl (vN_lt v)
  have h2 := eN_lt hk' hx' hl' (vN_lt v')
  have e := lN_inj (by omega) (by omega) h
  have b1 := vN_lt v
  have b2 := vN_lt v'
  unfold eN at e
  refine ⟨by omega, by omega, by omega, vN_inj (by omega)⟩
theorem en_kind {k x l : Nat} {v : Int32} (hk : k ≤ 15) (hx : x ≤ 1) (hl : l < 65536) : (((en k x l v).toUInt64 >>> ((nI 49).toInt64.toUInt64 &&& Int64.toUInt64 63)).toInt64.toInt32 &&& nI 15) = nI k := by
  have h1 := eN_lt hk hx hl (vN_lt v)
  have b1 := vN_lt v
  unfold en
  rw [wb_shr (by omega) (by decide), lN_i, show eN k x l (vN v) / 2 ^ 49 = k by unfold eN; omega, show nI k &&& nI 15 = nI (k % 2 ^ 4) from pk_andN (by omega) 4 (by decide), Nat.mod_eq_of_lt (by omega)]
theorem en_len {k x l : Nat} {v : Int32} (hk : k ≤ 15) (hx : x ≤ 1) (hl : l < 65536) : (((en k x l v).toUInt64 >>> ((nI 32).toInt64.toUInt64 &&& Int64.toUInt64 63)).toInt64.toInt32 &&& 65535) = nI l := by
  have h1 := eN_lt hk hx hl (vN_lt v)
  have b1 := vN_lt v
  unfold en
  rw [wb_shr (by omega) (by decide), lN_i, show nI (eN k x l (vN v) / 2 ^ 32) &&& 65535 = nI (eN k x l (vN v) / 2 ^ 32 % 2 ^ 16) from pk_andN (by unfold eN; omega) 16 (by decide)]
  congr 1
  unfold eN
  omega
theorem en_num {k x l : Nat} {v : Int32} : (en k x l v).toInt32 = v := by
  have b1 := vN_lt v
  unfold en
  rw [lN_i, nI_mod, show eN k x l (vN v) % 4294967296 = vN v by unfold eN; omega, nI_vN]
theorem m32 (v : Int32) : v.toInt64 &&& 4294967295 = lN (vN v) := by
  apply wb_inj
  rw [Int64.toBitVec_and, wb_tb]
  apply BitVec.eq_of_toNat_eq
  rw [BitVec.toNat_and, show (Int64.toBitVec 4294967295).toNat = 2 ^ 32 - 1 from by decide, Nat.and_two_pow_sub_one_eq_mod, BitVec.toNat_ofNat]
  have e : v.toInt64.toBitVec = v.toBitVec.signExtend 64 := Int32.toBitVec_toInt64 v
  rw [e, BitVec.toNat_signExtend]
  have b1 := v.toBitVec.isLt
  unfold vN
  simp only [BitVec.toNat_setWidth]
  split <;> omega
theorem en_or {a : Nat} {v : Int32} (ha : a < 2097152) : lN (a * 4294967296) ||| (v.toInt64 &&& 4294967295) = lN (a * 4294967296 + vN v) := by
  have b1 := vN_lt v
  rw [m32]
  exact g_or (k := 32) rfl b1 (by omega)
theorem en_number (v : Int32) : (562949953421312 : Int64) ||| (v.toInt64 &&& 4294967295) = en 1 0 0 v := (en_or (a := 131072) (by decide)).trans (by unfold en eN; congr 1)
theorem en_lname (v : Int32) : (2251799813685248 : Int64) ||| (v.toInt64 &&& 4294967295) = en 4 0 0 v := (en_or (a := 524288) (by decide)).trans (by unfold en eN; congr 1)
theorem en_xname (v : Int32) : (2533274790395904 : Int64) ||| (v.toInt64 &&& 4294967295) = en 4 1 0 v := (en_or (a := 589824) (by decide)).trans (by unfold en eN; congr 1)
theorem en_oper (v : Int32) : (4785074604081152 : Int64) ||| (v.toInt64 &&& 4294967295) = en 8 1 0 v := (en_or (a := 1114112) (by decide)).trans (by unfold en eN; congr 1)
theorem en_dict (v : Int32) : (3940649673949184 : Int64) ||| (v.toInt64 &&& 4294967295) = en 7 0 0 v := (en_or (a := 917504) (by decide)).trans (by unfold en eN; congr 1)
