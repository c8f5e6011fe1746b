theorem i_lit (n : Nat) : (@OfNat.ofNat Int32 n Int32.instOfNat) = nI n := rfl
theorem i_m1 (x : Int32) : x + Int32.ofInt (-1) = x - 1 := Int32.toBitVec_inj.mp (by
  show x.toBitVec + _ = x.toBitVec - _
  rw [BitVec.sub_eq_add_neg]
  rfl)
theorem c16_160 : (Int16.toInt32 (Int16.ofInt (160))) = nI 160 := rfl
theorem c16_200 : (Int16.toInt32 (Int16.ofInt (200))) = nI 200 := rfl
theorem c16_255 : (Int16.toInt32 (Int16.ofInt (255))) = nI 255 := rfl
theorem c16_300 : (Int16.toInt32 (Int16.ofInt (300))) = nI 300 := rfl
theorem c16_600 : (Int16.toInt32 (Int16.ofInt (600))) = nI 600 := rfl
theorem c16_616 : (Int16.toInt32 (Int16.ofInt (616))) = nI 616 := rfl
theorem c16_1000 : (Int16.toInt32 (Int16.ofInt (1000))) = nI 1000 := rfl
/-! rows of rows -/
def uI (I : Nat → Int32) (k : Nat) (v : Int32) : Nat → Int32 := fun j => bif Nat.beq j k then v else I j
def uL (L : Nat → Int64) (k : Nat) (v : Int64) : Nat → Int64 := fun j => bif Nat.beq j k then v else L j
def uT (T : Nat → Nat → Int32) (k : Nat) (f : Nat → Int32) : Nat → Nat → Int32 := fun j => bif Nat.beq j k then f else T j
def uU (U : Nat → Nat → Int64) (k : Nat) (f : Nat → Int64) : Nat → Nat → Int64 := fun j => bif Nat.beq j k then f else U j
