theorem ry_w {W0 W W1 : rx_H} {F : rx_F} {a : List Value} {r : Option Value} (h : F W0 a = some (r, W1)) (e : W0 = W) : F W a = some (r, W1) := by
  subst e
  exact h
theorem ry_ws {W0 W : rx_H} {F : rx_F} {a : List Value} {r : Option Value} (h : F W0 a = some (r, W0)) (e : W0 = W) : F W a = some (r, W) := by
  subst e
  exact h
theorem nI_p1 {n : Nat} (h : 1 ≤ n) : nI n - 1 = nI (n - 1) := pk_sub (b := 1) h
theorem nI_ml (a b : Nat) : nI a * nI b = nI (a * b) := (Int32.ofNat_mul a b).symm
theorem i_lit (n : Nat) : (@OfNat.ofNat Int32 n Int32.instOfNat) = nI n := rfl
theorem i_m1 (x : Int32) : x + Int32.ofInt (-1) = x - 1 := Int32.toBitVec_inj.mp (by
  show x.toBitVec + _ = x.toBitVec - _
  rw [BitVec.sub_eq_add_neg]
  rfl)
theorem c16_160 : (Int16.toInt32 (Int16.ofInt (160))) = nI 160 := rfl
theorem c16_200 : (Int16.toInt32 (Int16.ofInt (200))) = nI 200 := rfl
theorem c16_255 : (Int16.toInt32 (Int16.ofInt (255))) = nI 255 := rfl
theorem c16_300 : (Int16.toInt32 (Int16.ofInt (300))) = nI 300 := rfl
theorem c16_600 : (Int16.toInt32 (Int16.ofInt (600))) = nI 600 := rfl
theorem c16_616 : (Int16.toInt32 (Int16.ofInt (616))) = nI 616 := rfl
theorem c16_1000 : (Int16.toInt32 (Int16.ofInt (1000))) = nI 1000 := rfl
/-! rows of rows -/
def uI (I : Nat → Int32) (k : Nat) (v : Int32) : Nat → Int32 := fun j => bif Nat.beq j k then v else I j
def uL (L : Nat → Int64) (k : Nat) (v : Int64) : Nat → Int64 := fun j => bif Nat.beq j k then v else L j
def uT (T : Nat → Nat → Int32) (k : Nat) (f : Nat → Int32) : Nat → Nat → Int32 := fun j => bif Nat.beq j k then f else T j
def uU (U : Nat → Nat → Int64) (k : Nat) (f : Nat → Int64) : Nat → Nat → Int64 := fun j => bif Nat.beq j k then f else U j
theorem uI_uI (A : Nat → Int32) (k : Nat) (x y : Int32) : uI (uI A k x) k y = uI A k y := by
  funext j
  unfold uI
  cases Nat.beq j k <;> rfl
theorem uI_at (A : Nat → Int32) (k : Nat) (x : Int32) : uI A k x k = x := by
  unfold uI
  rw [show Nat.beq k k = true from Nat.beq_refl k]
  rfl
theorem uI_ne (A : Nat → Int32) {k j : Nat} (x : Int32) (h : j ≠ k) : uI A k x j = A j := by
  unfold uI
  rw [show Nat.beq j k = false from Bool.eq_false_iff.mpr (fun e => h (Nat.eq_of_beq_eq_true e))]
  rfl
theorem uI_self (A : Nat → Int32) (k : Nat) : uI A k (A k) = A := by
  funext j
  by_cases h : j = k
  · subst h
    exact uI_at A j _
  · exact uI_ne A _ h
theorem uI_sw (A : Nat → Int32) {k j : Nat} (x y z : Int32) (h : k ≠ j) : uI (uI (uI A k x) j y) k z = uI (uI A k z) j y := by
  funext i
  by_cases h1 : i = k
  · subst h1
    rw [uI_at, uI_ne _ _ h, uI_at]
  · rw [uI_ne _ _ h1]
    by_cases h2 : i = j
    · subst h2
      rw [uI_at, uI_at]
    · rw [uI_ne _ _ h2, uI_ne _ _ h1, uI_ne _ _ h2, uI_ne _ _ h1]
theorem uL_uL (A : Nat → Int64) (k : Nat) (x y : Int64) : uL (uL A k x) k y = uL A k y := by
  funext j
  unfold uL
  cases Nat.beq j k <;> rfl
theorem uL_at (A : Nat → Int64) (k : Nat) (x : Int64) : uL A k x k = x := by
  unfold uL
  rw [show Nat.beq k k = true from Nat.beq_refl k]
  rfl
theorem uL_ne (A : Nat → Int64) {k j : Nat} (x : Int64) (h : j ≠ k) : uL A k x j = A j := by
  unfold uL
  rw [show Nat.beq j k = false from Bool.eq_false_iff.mpr (fun e => h (Nat.eq_of_beq_eq_true e))]
  rfl
theorem uL_self (A : Nat → Int64) (k : Nat) : uL A k (A k) = A := by
  funext j
  by_cases h : j = k
  · subst h
    exact uL_at A j _
  · exact uL_ne A _ h
theorem uL_sw (A : Nat → Int64) {k j : Nat} (x y z : Int64) (h : k ≠ j) : uL (uL (uL A k x) j y) k z = uL (uL A k z) j y := by
  funext i
  by_cases h1 : i = k
  · subst h1
    rw [uL_at, uL_ne _ _ h, uL_at]
  · rw [uL_ne _ _ h1]
    by_cases h2 : i = j
    · subst h2
      rw [uL_at, uL_at]
    · rw [uL_ne _ _ h2, uL_ne _ _ h1, uL_ne _ _ h2, uL_ne _ _ h1]
theorem uT_uT (A : Nat → Nat → Int32) (k : Nat) (x y : Nat → Int32) : uT (uT A k x) k y = uT A k y := by
  funext j
  unfold uT
  cases Nat.beq j k <;> rfl
theorem uT_at (A : Nat → Nat → Int32) (k : Nat) (x : Nat → Int32) : uT A k x k = x := by
  unfold uT
  rw [show Nat.beq k k = true from Nat.beq_refl k]
  rfl
theorem uT_ne (A : Nat → Nat → Int32) {k j : Nat} (x : Nat → Int32) (h : j ≠ k) : uT A k x j = A j := by
  unfold uT
  rw [show Nat.beq j k = false from Bool.eq_false_iff.mpr (fun e => h (Nat.eq_of_beq_eq_true e))]
  rfl
theorem uT_self (A : Nat → Nat → Int32) (k : Nat) : uT A k (A k) = A := by
  funext j
  by_cases h : j = k
  · subst h
    exact uT_at A j _
  · exact uT_ne A _ h
theorem uT_sw (A : Nat → Nat → Int32) {k j : Nat} (x y z : Nat → Int32) (h : k ≠ j) : uT (uT (uT A k x) j y) k z = uT (uT A k z) j y := by
  funext i
  by_cases h1 : i = k
  · subst h1
    rw [uT_at, uT_ne _ _ h, uT_at]
  · rw [uT_ne _ _ h1]
    by_cases h2 : i = j
    · subst h2
      rw [uT_at, uT_at]
    · rw [uT_ne _ _ h2, uT_ne _ _ h1, uT_ne _ _ h2, uT_ne _ _ h1]
theorem uU_uU (A : Nat → Nat → Int64) (k : Nat) (x y : Nat → Int64) : uU (uU A k x) k y = uU A k y := by
  funext j
  unfold uU
  cases Nat.beq j k <;> rfl
theorem uU_at (A : Nat → Nat → Int64) (k : Nat) (x : Nat → Int64) : uU A k x k = x := by
  unfold uU
  rw [show Nat.beq k k = true from Nat.beq_refl k]
  rfl
theorem uU_ne (A : Nat → Nat → Int64) {k j : Nat} (x : Nat → Int64) (h : j ≠ k) : uU A k x j = A j := by
  unfold uU
  rw [show Nat.beq j k = false from Bool.eq_false_iff.mpr (fun e => h (Nat.eq_of_beq_eq_true e))]
  rfl
theorem uU_self (A : Nat → Nat → Int64) (k : Nat) : uU A k (A k) = A := by
  funext j
  by_cases h : j = k
  · subst h
    exact uU_at A j _
  · exact uU_ne A _ h
theorem uU_sw (A : Nat → Nat → Int64) {k j : Nat} (x y z : Nat → Int64) (h : k ≠ j) : uU (uU (uU A k x) j y) k z = uU (uU A k z) j y := by
  funext i
  by_cases h1 : i = k
  · subst h1
    rw [uU_at, uU_ne _ _ h, uU_at]
  · rw [uU_ne _ _ h1]
    by_cases h2 : i = j
    · subst h2
      rw [uU_at, uU_at]
    · rw [uU_ne _ _ h2, uU_ne _ _ h1, uU_ne _ _ h2, uU_ne _ _ h1]
theorem lg_geI {x y : Int64} : (nI 0 ≤ lg_cmp x y) ↔ y ≤ x := lg_cmp_ge x y
theorem lg_leI {x y : Int64} : (lg_cmp x y ≤ nI 0) ↔ x ≤ y := lg_cmp_le x y
theorem lg_gtI {x y : Int64} : (nI 0 < lg_cmp x y) ↔ y < x := lg_cmp_gt x y
theorem lg_ltI {x y : Int64} : (lg_cmp x y < nI 0) ↔ x < y := lg_cmp_lt x y
theorem lg_nI {a b : Int64} : lg_cmp a b = nI 0 ↔ a = b := lg_cmp0
theorem vp_updL_at {f : Nat → Int64} {k : Nat} {x : Int64} : vp_updL f k x k = x := if_pos rfl
theorem vp_updL_ne {f : Nat → Int64} {k j : Nat} {x : Int64} (h : j ≠ k) : vp_updL f k x j = f j := if_neg h
theorem upd_at {f : Nat → Int32} {k : Nat} {x : Int32} : upd f k x k = x := if_pos rfl
theorem upd_ne {f : Nat → Int32} {k j : Nat} {x : Int32} (h : j ≠ k) : upd f k x j = f j := if_neg h
