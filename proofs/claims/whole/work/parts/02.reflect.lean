/-! REFLECTION: a pure machine over virtual cells (a reference is a place in the list of cells), and what its answers say of the real one. My own rows over the kit's. -/
abbrev rx_H : Type := List va_E
abbrev rx_L : Type := List (Nat × Value)
abbrev rx_R : Type := Option (Option Value × rx_H)
abbrev rx_F : Type := rx_H → List Value → rx_R
/-- a virtual value, cell, world, and what they stand for: place k lies at address ad k, array sort t is ca t -/
def rx_v (ad : Nat → Nat) : Value → Value
  | .ref k => .ref (ad k)
  | .int x => .int x
  | .long x => .long x
  | .float x => .float x
  | .double x => .double x
  | .null => .null
  | .retAddr x => .retAddr x
def rx_a (ad : Nat → Nat) (x : vp_A) : vp_A := (x.1, match x.2 with
  | .inl f => .inl f
  | .inr (.inl f) => .inr (.inl f)
  | .inr (.inr (.inl f)) => .inr (.inr (.inl f))
  | .inr (.inr (.inr (.inl f))) => .inr (.inr (.inr (.inl f)))
  | .inr (.inr (.inr (.inr f))) => .inr (.inr (.inr (.inr (fun j => (f j).map ad)))))
def rx_e (ad : Nat → Nat) (ca : Nat → ClassId) : va_E → va_E
  | .inl a => .inl (ca a.1, rx_a ad a.2)
  | .inr o => .inr (o.1, o.2.map (rx_v ad))
def rx_w (ad : Nat → Nat) (ca : Nat → ClassId) (vh : rx_H) : va_W := vh.mapIdx (fun k e => (ad k, rx_e ad ca e))
def rx_l (ad : Nat → Nat) (ls : rx_L) : rx_L := ls.map (fun q => (q.1, rx_v ad q.2))
theorem rx_cat (ad : Nat → Nat) (v : Value) : (rx_v ad v).category = v.category := by cases v <;> rfl
theorem rx_w_get {ad : Nat → Nat} {ca : Nat → ClassId} {vh : rx_H} {k : Nat} {e : va_E} (h : vh[k]? = some e) : (rx_w ad ca vh)[k]? = some (ad k, rx_e ad ca e) := by
  simp [rx_w, h]
theorem rx_w_set {ad : Nat → Nat} {ca : Nat → ClassId} {vh : rx_H} {k : Nat} {e : va_E} : (rx_w ad ca vh).set k (ad k, rx_e ad ca e) = rx_w ad ca (vh.set k e) := by
  simp [rx_w]
theorem rx_w_len {ad : Nat → Nat} {ca : Nat → ClassId} {vh : rx_H} : (rx_w ad ca vh).length = vh.length := by
  simp [rx_w]
def rx_lk : rx_L → Nat → Option Value
  | [], _ => none
  | q :: r, i => bif Nat.beq q.1 i then some q.2 else rx_lk r i
theorem rx_lk_at {ad : Nat → Nat} {lsA : Array Slot} {nL : Nat} : ∀ {ls : rx_L} {i : Nat} {v : Value}, (∀ q ∈ rx_l ad ls, lsA[q.1]? = some (.val q.2)) → rx_lk ls i = some v → lsA[i]? = some (.val (rx_v ad v))
  | [], _, _, _, h => by cases h
  | q :: r, i, v, hl, h => by
    unfold rx_lk at h
    cases hb : Nat.beq q.1 i with
    | true =>
      rw [hb] at h
      cases h
      have := hl (q.1, rx_v ad q.2) (by simp [rx_l])
      rw [Nat.eq_of_beq_eq_true hb] at this
      exact this
    | false =>
      rw [hb] at h
      exact rx_lk_at (nL := nL) (fun x hx => hl x (by simp [rx_l] at hx ⊢; exact Or.inr hx)) h
def rx_st1 (ls : rx_L) (i : Nat) (v : Value) : rx_L := (i, v) :: ls.filter (fun q => !(q.1 == i) && !(q.1 + 1 == i && q.2.category == 2))
def rx_st2 (ls : rx_L) (i : Nat) (v : Value) : rx_L := (i, v) :: ls.filter (fun q => !(q.1 == i) && (!(q.1 == i + 1) && !(q.1 + 1 == i && q.2.category == 2)))
theorem rx_st1_tr {ad : Nat → Nat} {ls : rx_L} {i : Nat} {v : Value} : (i, rx_v ad v) :: (rx_l ad ls).filter (fun q => !(q.1 == i) && !(q.1 + 1 == i && q.2.category == 2)) = rx_l ad (rx_st1 ls i v) := by
  simp only [rx_l, rx_st1, List.map_cons, List.filter_map, List.cons.injEq, true_and]
  congr 1
  apply List.filter_congr
  intro q _
  simp [rx_cat]
theorem rx_st2_tr {ad : Nat → Nat} {ls : rx_L} {i : Nat} {v : Value} : (i, rx_v ad v) :: (rx_l ad ls).filter (fun q => !(q.1 == i) && (!(q.1 == i + 1) && !(q.1 + 1 == i && q.2.category == 2))) = rx_l ad (rx_st2 ls i v) := by
  simp only [rx_l, rx_st2, List.map_cons, List.filter_map, List.cons.injEq, true_and]
  congr 1
  apply List.filter_congr
  intro q _
  simp [rx_cat]
/-! the families of instructions -/
def rx_psh (kc : Nat → Option Value) : Instr → Nat → Option Value
  | .iconst n, 1 => some (.int (Int32.ofInt n))
  | .bipush n, 2 => some (.int (Int8.ofInt n).toInt32)
  | .sipush n, 3 => some (.int (Int16.ofInt n).toInt32)
  | .lconst n, 1 => some (.long (Int64.ofNat n.val))
  | .ldc k, 2 => match kc k with
    | some (.int x) => some (.int x)
    | some (.ref x) => some (.ref x)
    | _ => none
  | .ldc2_w k, 3 => match kc k with
    | some (.long x) => some (.long x)
    | _ => none
  | .aconst_null, 1 => some .null
  | _, _ => none
/-- a load: its place, and the sort of value that it wants -/
def rx_ldi : Instr → Nat → Option (Nat × Nat)
  | .iload i, 2 => some (i, 0)
  | .iload_n k, 1 => some (k.val, 0)
  | .lload i, 2 => some (i, 1)
  | .lload_n k, 1 => some (k.val, 1)
  | .aload i, 2 => some (i, 2)
  | .aload_n k, 1 => some (k.val, 2)
  | _, _ => none
def rx_sti : Instr → Nat → Option (Nat × Nat)
  | .istore i, 2 => some (i, 0)
  | .istore_n k, 1 => some (k.val, 0)
  | .lstore i, 2 => some (i, 1)
  | .lstore_n k, 1 => some (k.val, 1)
  | .astore i, 2 => some (i, 2)
  | .astore_n k, 1 => some (k.val, 2)
  | _, _ => none
def rx_tag : Value → Nat
  | .int _ => 0
  | .long _ => 1
  | .ref _ => 2
  | _ => 3
def rx_un : Instr → Nat → Value → Option Value
  | .ineg, 1, .int x => some (.int (-x))
  | .lneg, 1, .long x => some (.long (-x))
  | .i2l, 1, .int x => some (.long x.toInt64)
  | .l2i, 1, .long x => some (.int x.toInt32)
  | .i2b, 1, .int x => some (.int x.toInt8.toInt32)
  | .i2s, 1, .int x => some (.int x.toInt16.toInt32)
  | .i2c, 1, .int x => some (.int (x.toUInt32 % 65536).toInt32)
  | _, _, _ => none
/-- y is the top of the stack, x lies below -/
def rx_bin : Instr → Nat → Value → Value → Option Value
  | .iadd, 1, .int y, .int x => some (.int (x + y))
  | .isub, 1, .int y, .int x => some (.int (x - y))
  | .imul, 1, .int y, .int x => some (.int (x * y))
  | .iand, 1, .int y, .int x => some (.int (x &&& y))
  | .ior, 1, .int y, .int x => some (.int (x ||| y))
  | .ixor, 1, .int y, .int x => some (.int (x ^^^ y))
  | .ishl, 1, .int y, .int x => some (.int (x <<< (y &&& 31)))
  | .ishr, 1, .int y, .int x => some (.int (x >>> (y &&& 31)))
  | .iushr, 1, .int y, .int x => some (.int (x.toUInt32 >>> (y.toUInt32 &&& Int32.toUInt32 31)).toInt32)
  | .idiv, 1, .int y, .int x => if y = 0 then none else some (.int (x / y))
  | .irem, 1, .int y, .int x => if y = 0 then none else some (.int (x - x / y * y))
  | .ladd, 1, .long y, .long x => some (.long (x + y))
  | .lsub, 1, .long y, .long x => some (.long (x - y))
  | .lmul, 1, .long y, .long x => some (.long (x * y))
  | .land, 1, .long y, .long x => some (.long (x &&& y))
  | .lor, 1, .long y, .long x => some (.long (x ||| y))
  | .lxor, 1, .long y, .long x => some (.long (x ^^^ y))
  | .ldiv, 1, .long y, .long x => if y = 0 then none else some (.long (x / y))
  | .lrem, 1, .long y, .long x => if y = 0 then none else some (.long (x - x / y * y))
  | .lshl, 1, .int y, .long x => some (.long (x <<< (y.toInt64 &&& 63)))
  | .lshr, 1, .int y, .long x => some (.long (x >>> (y.toInt64 &&& 63)))
  | .lushr, 1, .int y, .long x => some (.long (x.toUInt64 >>> (y.toInt64.toUInt64 &&& Int64.toUInt64 63)).toInt64)
  | .lcmp, 1, .long y, .long x => some (.int (lg_cmp x y))
  | _, _, _, _ => none
def rx_stk : Instr → Nat → List Value → Option (List Value)
  | .dup, 1, a :: r => bif Nat.beq a.category 1 then some (a :: a :: r) else none
  | .pop, 1, a :: r => bif Nat.beq a.category 1 then some r else none
  | .dup_x1, 1, a :: b :: r => bif Nat.beq a.category 1 && Nat.beq b.category 1 then some (a :: b :: a :: r) else none
  | .dup_x2, 1, a :: b :: d :: r => bif Nat.beq a.category 1 && (Nat.beq b.category 1 && Nat.beq d.category 1) then some (a :: b :: d :: a :: r) else none
  | .dup2, 1, a :: r => bif Nat.beq a.category 2 then some (a :: a :: r) else match r with
    | b :: r' => bif Nat.beq a.category 1 && Nat.beq b.category 1 then some (a :: b :: a :: b :: r') else none
    | [] => none
  | .pop2, 1, a :: r => bif Nat.beq a.category 2 then some r else match r with
    | b :: r' => bif Nat.beq a.category 1 && Nat.beq b.category 1 then some r' else none
    | [] => none
  | .dup2_x1, 1, a :: b :: r => bif Nat.beq a.category 2 && Nat.beq b.category 1 then some (a :: b :: a :: r) else none
  | .dup2_x2, 1, a :: b :: d :: r => bif Nat.beq a.category 2 && (Nat.beq b.category 1 && Nat.beq d.category 1) then some (a :: b :: d :: a :: r) else none
  | _, _, _ => none
/-- does a value go into a field of this type as it is -/
def rx_ok : FieldType → Value → Bool
  | .int, .int _ => true
  | .long, .long _ => true
  | .boolean, .int x => decide (x = 0) || decide (x = 1)
  | .object _, .ref _ => true
  | .object _, .null => true
  | .array _, .ref _ => true
  | .array _, .null => true
  | _, _ => false
/-- the sorts of arrays: 0 int, 1 long, 2 byte -/
def rx_ald : Instr → Nat → va_E → Int32 → Option Value
  | .iaload, 1, .inl (0, n, .inl f), i => if i < 0 ∨ n ≤ i.toNatClampNeg then none else some (.int (f i.toNatClampNeg))
  | .laload, 1, .inl (1, n, .inr (.inl f)), i => if i < 0 ∨ n ≤ i.toNatClampNeg then none else some (.long (f i.toNatClampNeg))
  | .baload, 1, .inl (2, n, .inl f), i => if i < 0 ∨ n ≤ i.toNatClampNeg then none else some (.int (f i.toNatClampNeg))
  | _, _, _, _ => none
/-- the same of an array that a static field holds -/
def rx_sld : Instr → Nat → Nat × List Int32 → Int32 → Option Value
  | .iaload, 1, (0, L), i => if i < 0 ∨ L.length ≤ i.toNatClampNeg then none else some (.int (L.getD i.toNatClampNeg 0))
  | .baload, 1, (2, L), i => if i < 0 ∨ L.length ≤ i.toNatClampNeg then none else some (.int (L.getD i.toNatClampNeg 0))
  | _, _, _, _ => none
def rx_ast : Instr → Nat → va_E → Int32 → Value → Option va_E
  | .iastore, 1, .inl (0, n, .inl f), i, .int x => if i < 0 ∨ n ≤ i.toNatClampNeg then none else some (.inl (0, n, .inl (upd f i.toNatClampNeg x)))
  | .lastore, 1, .inl (1, n, .inr (.inl f)), i, .long x => if i < 0 ∨ n ≤ i.toNatClampNeg then none else some (.inl (1, n, .inr (.inl (vp_updL f i.toNatClampNeg x))))
  | .bastore, 1, .inl (2, n, .inl f), i, .int x => if i < 0 ∨ n ≤ i.toNatClampNeg then none else some (.inl (2, n, .inl (upd f i.toNatClampNeg (vp_nar .byte x))))
  | _, _, _, _, _ => none
def rx_tyn : Nat → Option FieldType
  | 0 => some .int
  | 1 => some .long
  | 2 => some .byte
  | _ => none
/-- no reference at or beyond n (asked where cells are made) -/
def rx_wv (n : Nat) : Value → Bool
  | .ref k => Nat.blt k n || Nat.ble 1000000 k
  | _ => true
def rx_we (n : Nat) : va_E → Bool
  | .inr o => o.2.all (rx_wv n)
  | .inl (_, _, .inr (.inr (.inr (.inr _)))) => false
  | .inl _ => true
def rx_wf (n : Nat) (ls : rx_L) (st : List Value) (vh : rx_H) : Bool := ls.all (fun q => rx_wv n q.2) && (st.all (rx_wv n) && vh.all (rx_we n))
def rx_if {α : Type} : Jvm.ClassFile.Cond → Int32 → Int32 → α → α → α
  | .eq, x, y, a, b => if x = y then a else b
  | .ne, x, y, a, b => if x = y then b else a
  | .lt, x, y, a, b => if x < y then a else b
  | .ge, x, y, a, b => if y ≤ x then a else b
  | .gt, x, y, a, b => if y < x then a else b
  | .le, x, y, a, b => if x ≤ y then a else b
def rx_lsw (x : Int32) (d : Int) : List (Int × Int) → Int
  | [] => d
  | q :: r => if x.toInt = q.1 then q.2 else rx_lsw x d r
def rx_tsw (x : Int32) (d : Int) : Int → List Int → Int
  | _, [] => d
  | a, o :: r => if x.toInt = a then o else rx_tsw x d (a + 1) r
abbrev rx_S : Type := rx_L × List Value × rx_H × Nat × Nat
abbrev rx_C : Type := Nat × Option Nat × Nat × Nat × rx_F
def rx_grp : Instr → Nat
  | .iconst _ => 0
  | .bipush _ => 0
  | .sipush _ => 0
  | .lconst _ => 0
  | .ldc _ => 0
  | .ldc2_w _ => 0
  | .aconst_null => 0
  | .iload _ => 1
  | .iload_n _ => 1
  | .lload _ => 1
  | .lload_n _ => 1
  | .aload _ => 1
  | .aload_n _ => 1
  | .istore _ => 2
  | .istore_n _ => 2
  | .lstore _ => 2
  | .lstore_n _ => 2
  | .astore _ => 2
  | .astore_n _ => 2
  | .dup => 3
  | .pop => 3
  | .dup_x1 => 3
  | .dup_x2 => 3
  | .dup2 => 3
  | .pop2 => 3
  | .dup2_x1 => 3
  | .dup2_x2 => 3
  | .ineg => 4
  | .lneg => 4
  | .i2l => 4
  | .l2i => 4
  | .i2b => 4
  | .i2s => 4
  | .i2c => 4
  | .iaload => 6
  | .laload => 6
  | .baload => 6
  | .caload => 6
  | .saload => 6
  | .iastore => 7
  | .lastore => 7
  | .bastore => 7
  | .castore => 7
  | .sastore => 7
  | .invokevirtual _ => 8
  | .invokestatic _ => 8
  | .invokespecial _ => 8
  | _ => 5
/-- a field of a String constant: 0 its bytes, 1 its coder -/
def rx_sfv (f a : Nat) : Option Value := bif Nat.ble 1000100 a && Nat.blt a (1000100 + se_n) then (match f with
  | 0 => some (.ref (a + 100))
  | 1 => some (.int 0)
  | _ => none) else none
def rx_gfs (fg : Nat → Option Nat) (ix len : Nat) (ls : rx_L) (st : List Value) (vh : rx_H) (nc ns : Nat) : Option rx_S :=
  match fg ix, st with
  | some f, .ref a :: r => match rx_sfv f a with
    | some v => bif Nat.beq len 3 then some (ls, v :: r, vh, nc, ns) else none
    | none => none
  | _, _ => none
def rx_gst (gs : Nat → Option Nat) (ix len : Nat) (ls : rx_L) (st : List Value) (vh : rx_H) (nc ns : Nat) : Option rx_S :=
  match gs ix with
  | some k => match se_sf k with
    | some q => bif Nat.beq len 3 then some (ls, q.2.2.2 :: st, vh, nc, ns) else none
    | none => none
  | none => none
def rx_get (fl : Nat → Option (Nat × Nat × FieldType)) (ix len : Nat) (ls : rx_L) (st : List Value) (vh : rx_H) (nc ns : Nat) : Option rx_S :=
  match fl ix, st with
  | some (ci, k, _), .ref a :: r => match vh[a]? with
    | some (.inr (ci', fs)) => bif Nat.beq ci' ci && Nat.beq len 3 then match fs[k]? with
      | some v => some (ls, v :: r, vh, nc, ns)
      | none => none
      else none
    | _ => none
  | _, _ => none
def rx_put (fl : Nat → Option (Nat × Nat × FieldType)) (ix len : Nat) (ls : rx_L) (st : List Value) (vh : rx_H) (nc ns : Nat) : Option rx_S :=
  match fl ix, st with
  | some (ci, k, ty), v :: .ref a :: r => match vh[a]? with
    | some (.inr (ci', fs)) => bif Nat.beq ci' ci && (Nat.beq len 3 && (rx_ok ty v && Nat.blt k fs.length)) then some (ls, r, vh.set a (.inr (ci', fs.set k v)), nc, ns) else none
    | _ => none
  | _, _ => none
def rx_len (len : Nat) (ls : rx_L) (st : List Value) (vh : rx_H) (nc ns : Nat) : Option rx_S :=
  match st with
  | .ref a :: r => match vh[a]? with
    | some (.inl (t, n, _)) => match rx_tyn t with
      | some _ => bif Nat.beq len 1 then some (ls, .int (Int32.ofNat n) :: r, vh, nc, ns) else none
      | none => none
    | some (.inr _) => none
    | none => match se_arr a with
      | some q => bif Nat.beq len 1 then some (ls, .int (Int32.ofNat q.2.length) :: r, vh, nc, ns) else none
      | none => none
  | _ => none
def rx_inc (j : Nat) (n : Int) (len : Nat) (ls : rx_L) (st : List Value) (vh : rx_H) (nc ns : Nat) : Option rx_S :=
  match rx_lk ls j with
  | some (.int x) => bif Nat.beq len 3 then some (rx_st1 ls j (.int (x + Int32.ofInt n)), st, vh, nc, ns) else none
  | _ => none
def rx_rcv (rc : Option Nat) (as : List Value) (vh : rx_H) : Bool :=
  match rc, as with
  | none, _ => true
  | some ci, .ref a :: _ => match vh[a]? with
    | some (.inr (ci', _)) => Nat.beq ci' ci
    | some (.inl _) => false
    | none => Nat.beq ci 100 && (Nat.ble 1000100 a && Nat.blt a (1000100 + se_n))
  | _, _ => false
def rx_cal (C : rx_C) (mc ms len : Nat) (ls : rx_L) (st : List Value) (vh : rx_H) (nc ns : Nat) : Option rx_S :=
  bif Nat.beq len 3 && (Nat.ble C.1 st.length && (Nat.ble (((st.drop C.1).map Value.category).sum) 8 && (Nat.ble (nc + C.2.2.1) mc && (Nat.ble (ns + C.2.2.2.1) ms && (rx_rcv C.2.1 (st.take C.1).reverse vh && (Nat.beq C.2.2.1 0 || rx_wf vh.length ls (st.drop C.1) [])))))) then
    match C.2.2.2.2 vh (st.take C.1).reverse with
    | some (rv, vh') => some (ls, rv.toList ++ st.drop C.1, vh', nc + C.2.2.1, ns + C.2.2.2.1)
    | none => none
  else none
def rx_new (o : Option (Nat × Nat × List Value)) (mc ms len : Nat) (ls : rx_L) (st : List Value) (vh : rx_H) (nc ns : Nat) : Option rx_S :=
  match o with
  | some (ci, N, fs) => bif Nat.beq len 3 && (Nat.ble (nc + 1) mc && (Nat.ble (ns + N) ms && (Nat.blt vh.length 1000000 && rx_wf vh.length ls st vh))) then some (ls, .ref vh.length :: st, vh ++ [.inr (ci, fs)], nc + 1, ns + N) else none
  | none => none
def rx_atn : ArrayType → Option (Nat × (Nat → vp_A))
  | .int => some (0, fun n => (n, .inl (fun _ => 0)))
  | .long => some (1, fun n => (n, .inr (.inl (fun _ => 0))))
  | .byte => some (2, fun n => (n, .inl (fun _ => 0)))
  | _ => none
def rx_nwa (at_ : ArrayType) (mc ms len : Nat) (ls : rx_L) (st : List Value) (vh : rx_H) (nc ns : Nat) : Option rx_S :=
  match rx_atn at_, st with
  | some (t, g), .int n :: r => bif Nat.beq len 2 && (Nat.ble (nc + 1) mc && (Nat.ble (ns + n.toNatClampNeg) ms && (decide (¬ n < 0) && (Nat.ble n.toNatClampNeg 60000000 && (Nat.blt vh.length 1000000 && rx_wf vh.length ls r vh))))) then some (ls, .ref vh.length :: r, vh ++ [.inl (t, g n.toNatClampNeg)], nc + 1, ns + n.toNatClampNeg) else none
  | _, _ => none
/-- one straight instruction. kc: the pool's numbers; fl: a field by its sort, place, type; cf: a call: how many come off the stack, the sort of the receiver, its cells and slots, what it does; mc, ms: the room for new cells -/
def rx_one (kc : Nat → Option Value) (fl fp : Nat → Option (Nat × Nat × FieldType)) (gs fg : Nat → Option Nat) (nw : Nat → Option (Nat × Nat × List Value)) (cf : Instr → Option rx_C) (mc ms : Nat) (i : Instr) (len : Nat) (ls : rx_L) (st : List Value) (vh : rx_H) (nc ns : Nat) : Option rx_S :=
  match i with
  | .getfield ix => match fg ix with
    | none => rx_get fl ix len ls st vh nc ns
    | some _ => rx_gfs fg ix len ls st vh nc ns
  | .getstatic ix => rx_gst gs ix len ls st vh nc ns
  | .putfield ix => rx_put fp ix len ls st vh nc ns
  | .arraylength => rx_len len ls st vh nc ns
  | .iinc j n => rx_inc j n len ls st vh nc ns
  | .new ix => rx_new (nw ix) mc ms len ls st vh nc ns
  | .newarray t => rx_nwa t mc ms len ls st vh nc ns
  | i => match rx_grp i with
    | 0 => match rx_psh kc i len with
      | some v => some (ls, v :: st, vh, nc, ns)
      | none => none
    | 1 => match rx_ldi i len with
      | some (j, t) => match rx_lk ls j with
        | some v => bif Nat.beq (rx_tag v) t then some (ls, v :: st, vh, nc, ns) else none
        | none => none
      | none => none
    | 2 => match rx_sti i len, st with
      | some (j, t), v :: r => bif Nat.beq (rx_tag v) t then some (bif Nat.beq t 1 then rx_st2 ls j v else rx_st1 ls j v, r, vh, nc, ns) else none
      | _, _ => none
    | 3 => match rx_stk i len st with
      | some st' => some (ls, st', vh, nc, ns)
      | none => none
    | 4 => match st with
      | v :: r => match rx_un i len v with
        | some v' => some (ls, v' :: r, vh, nc, ns)
        | none => none
      | [] => none
    | 5 => match st with
      | v :: w :: r => match rx_bin i len v w with
        | some v' => some (ls, v' :: r, vh, nc, ns)
        | none => none
      | _ => none
    | 6 => match st with
      | .int j :: .ref a :: r => match vh[a]? with
        | some e => match rx_ald i len e j with
          | some v => some (ls, v :: r, vh, nc, ns)
          | none => none
        | none => match se_arr a with
          | some q => match rx_sld i len q j with
            | some v => some (ls, v :: r, vh, nc, ns)
            | none => none
          | none => none
      | _ => none
    | 7 => match st with
      | v :: .int j :: .ref a :: r => match vh[a]? with
        | some e => match rx_ast i len e j v with
          | some e' => some (ls, r, vh.set a e', nc, ns)
          | none => none
        | none => none
      | _ => none
    | 8 => match cf i with
      | some C => rx_cal C mc ms len ls st vh nc ns
      | none => none
    | _ => none
abbrev rx_K : Type := Nat → rx_L → List Value → rx_H → Nat → Nat → rx_R
/-- what a return answers, by the method's type -/
def rx_ret : Option FieldType → Instr → Nat → List Value → Option (Option Value)
  | none, .return_, 1, [] => some none
  | some .int, .ireturn, 1, [.int x] => some (some (.int x))
  | some .boolean, .ireturn, 1, [.int x] => bif decide (x = 0) || decide (x = 1) then some (some (.int x)) else none
  | some .byte, .ireturn, 1, [.int x] => bif decide (narrow .byte (.int x) = .int x) then some (some (.int x)) else none
  | some .char, .ireturn, 1, [.int x] => bif decide (narrow .char (.int x) = .int x) then some (some (.int x)) else none
  | some .long, .lreturn, 1, [.long x] => some (some (.long x))
  | some (.object _), .areturn, 1, [.ref x] => some (some (.ref x))
  | _, _, _, _ => none
/-- a stretch: it runs to a jump, a return, or its end, where K goes on -/
def rx_blk (kc : Nat → Option Value) (fl fp : Nat → Option (Nat × Nat × FieldType)) (gs fg : Nat → Option Nat) (nw : Nat → Option (Nat × Nat × List Value)) (cf : Instr → Option rx_C) (rt : Option FieldType) (mc ms : Nat) (K : rx_K) : List (Instr × Nat) → rx_K
  | [], pc, ls, st, vh, nc, ns => K pc ls st vh nc ns
  | (i, len) :: r, pc, ls, st, vh, nc, ns => match i with
    | .if_icmp c off => match len, st with
      | 3, .int y :: .int x :: st' => rx_if c x y (K ((pc : Int) + off).toNat ls st' vh nc ns) (rx_blk kc fl fp gs fg nw cf rt mc ms K r (pc + 3) ls st' vh nc ns)
      | _, _ => none
    | .ifCond c off => match len, st with
      | 3, .int x :: st' => rx_if c x 0 (K ((pc : Int) + off).toNat ls st' vh nc ns) (rx_blk kc fl fp gs fg nw cf rt mc ms K r (pc + 3) ls st' vh nc ns)
      | _, _ => none
    | .goto off => match len with
      | 3 => K ((pc : Int) + off).toNat ls st vh nc ns
      | _ => none
    | .lookupswitch d ps => match st with
      | .int x :: st' => bif (ps.toList.zip (ps.toList.drop 1)).all (fun (a, next) => a.1 < next.1) then K ((pc : Int) + rx_lsw x d ps.toList).toNat ls st' vh nc ns else none
      | _ => none
    | .tableswitch d lo hi offs => match st with
      | .int x :: st' => bif decide (hi + 1 = lo + (offs.toList.length : Int)) then K ((pc : Int) + rx_tsw x d lo offs.toList).toNat ls st' vh nc ns else none
      | _ => none
    | i => match rx_ret rt i len st with
      | some rv => some (rv, vh)
      | none => match rx_one kc fl fp gs fg nw cf mc ms i len ls st vh nc ns with
        | some S => rx_blk kc fl fp gs fg nw cf rt mc ms K r (pc + len) S.1 S.2.1 S.2.2.1 S.2.2.2.1 S.2.2.2.2
        | none => none
def rx_lkb : List (Nat × List (Instr × Nat)) → Nat → Option (List (Instr × Nat))
  | [], _ => none
  | q :: r, i => bif Nat.beq q.1 i then some q.2 else rx_lkb r i
def rx_run (kc : Nat → Option Value) (fl fp : Nat → Option (Nat × Nat × FieldType)) (gs fg : Nat → Option Nat) (nw : Nat → Option (Nat × Nat × List Value)) (cf : Instr → Option rx_C) (rt : Option FieldType) (mc ms : Nat) (cd : List (Nat × List (Instr × Nat))) : Nat → rx_K
  | 0, _, _, _, _, _, _ => none
  | n + 1, pc, ls, st, vh, nc, ns => match rx_lkb cd pc with
    | some is => rx_blk kc fl fp gs fg nw cf rt mc ms (rx_run kc fl fp gs fg nw cf rt mc ms cd n) is pc ls st vh nc ns
    | none => none
/-- what can be looked at beforehand: a store, a jump -/
def rx_sok (nL pc : Nat) : Instr → Bool
  | .istore i => Nat.blt i nL
  | .istore_n k => Nat.blt k.val nL
  | .lstore i => Nat.blt (i + 1) nL
  | .lstore_n k => Nat.blt (k.val + 1) nL
  | .astore i => Nat.blt i nL
  | .astore_n k => Nat.blt k.val nL
  | .iinc i _ => Nat.blt i nL
  | .if_icmp _ off => decide (0 ≤ (pc : Int) + off)
  | .ifCond _ off => decide (0 ≤ (pc : Int) + off)
  | .goto off => decide (0 ≤ (pc : Int) + off)
  | .lookupswitch d ps => decide (0 ≤ (pc : Int) + d) && ps.toList.all (fun q => decide (0 ≤ (pc : Int) + q.2))
  | .tableswitch d _ _ os => decide (0 ≤ (pc : Int) + d) && os.toList.all (fun q => decide (0 ≤ (pc : Int) + q))
  | _ => true
def rx_dec (cc : ByteArray) (nL : Nat) : Nat → List (Instr × Nat) → Bool
  | _, [] => true
  | pc, q :: r => decide (decode cc pc = .ok (q.1, q.2)) && (rx_sok nL pc q.1 && rx_dec cc nL (pc + q.2) r)
