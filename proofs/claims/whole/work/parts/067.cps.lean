/-! the pure machine once more, with what comes next handed in: nothing stands before an 'if' or a 'bind' -/
abbrev rx_K5 : Type := rx_L → List Value → rx_H → Nat → Nat → rx_R
def rx_then (o : Option rx_S) (K : rx_K5) : rx_R := match o with
  | some S => K S.1 S.2.1 S.2.2.1 S.2.2.2.1 S.2.2.2.2
  | none => none
noncomputable def ry_ald (e : va_E) (i : Instr) (len : Nat) (j : Int32) (k : Value → rx_R) : rx_R := match i, len, e with
  | .iaload, 1, .inl (0, n, .inl f) => @ite _ (j < 0 ∨ n ≤ j.toNatClampNeg) (Classical.propDecidable _) (none) (k (.int (f j.toNatClampNeg)))
  | .laload, 1, .inl (1, n, .inr (.inl f)) => @ite _ (j < 0 ∨ n ≤ j.toNatClampNeg) (Classical.propDecidable _) (none) (k (.long (f j.toNatClampNeg)))
  | .baload, 1, .inl (2, n, .inl f) => @ite _ (j < 0 ∨ n ≤ j.toNatClampNeg) (Classical.propDecidable _) (none) (k (.int (f j.toNatClampNeg)))
  | _, _, _ => none
noncomputable def ry_sld (q : Nat × List Int32) (i : Instr) (len : Nat) (j : Int32) (k : Value → rx_R) : rx_R := match i, len, q with
  | .iaload, 1, (0, L) => @ite _ (j < 0 ∨ L.length ≤ j.toNatClampNeg) (Classical.propDecidable _) (none) (k (.int (L.getD j.toNatClampNeg 0)))
  | .baload, 1, (2, L) => @ite _ (j < 0 ∨ L.length ≤ j.toNatClampNeg) (Classical.propDecidable _) (none) (k (.int (L.getD j.toNatClampNeg 0)))
  | _, _, _ => none
noncomputable def ry_ast (e : va_E) (i : Instr) (len : Nat) (j : Int32) (v : Value) (k : va_E → rx_R) : rx_R := match i, len, e, v with
  | .iastore, 1, .inl (0, n, .inl f), .int x => @ite _ (j < 0 ∨ n ≤ j.toNatClampNeg) (Classical.propDecidable _) (none) (k (.inl (0, n, .inl (upd f j.toNatClampNeg x))))
  | .lastore, 1, .inl (1, n, .inr (.inl f)), .long x => @ite _ (j < 0 ∨ n ≤ j.toNatClampNeg) (Classical.propDecidable _) (none) (k (.inl (1, n, .inr (.inl (vp_updL f j.toNatClampNeg x)))))
  | .bastore, 1, .inl (2, n, .inl f), .int x => @ite _ (j < 0 ∨ n ≤ j.toNatClampNeg) (Classical.propDecidable _) (none) (k (.inl (2, n, .inl (upd f j.toNatClampNeg (vp_nar .byte x)))))
  | _, _, _, _ => none
noncomputable def ry_div (i : Instr) (len : Nat) (v w : Value) (k : Value → rx_R) : Option rx_R := match i, len, v, w with
  | .idiv, 1, .int y, .int x => some (@ite _ (y = 0) (Classical.propDecidable _) (none) (k (.int (x / y))))
  | .irem, 1, .int y, .int x => some (@ite _ (y = 0) (Classical.propDecidable _) (none) (k (.int (x - x / y * y))))
  | .ldiv, 1, .long y, .long x => some (@ite _ (y = 0) (Classical.propDecidable _) (none) (k (.long (x / y))))
  | .lrem, 1, .long y, .long x => some (@ite _ (y = 0) (Classical.propDecidable _) (none) (k (.long (x - x / y * y))))
  | _, _, _, _ => none
noncomputable def ry_put (fl : Nat → Option (Nat × Nat × FieldType)) (ix len : Nat) (ls : rx_L) (st : List Value) (vh : rx_H) (nc ns : Nat) (K : rx_K5) : rx_R :=
  match fl ix, st with
  | some (ci, k, ty), v :: .ref a :: r => match vh[a]? with
    | some (.inr (ci', fs)) => bif Nat.beq ci' ci && (Nat.beq len 3 && Nat.blt k fs.length) then (match ty, v with
        | .boolean, .int x => @ite _ (x = 0 ∨ x = 1) (Classical.propDecidable _) (K ls r (vh.set a (.inr (ci', fs.set k v))) nc ns) (none)
        | ty, v => bif rx_ok ty v then K ls r (vh.set a (.inr (ci', fs.set k v))) nc ns else none) else none
    | _ => none
  | _, _ => none
noncomputable def ry_cal (C : rx_C) (mc ms len : Nat) (ls : rx_L) (st : List Value) (vh : rx_H) (nc ns : Nat) (K : rx_K5) : rx_R :=
  bif Nat.beq len 3 && (Nat.ble C.1 st.length && (Nat.ble (((st.drop C.1).map Value.category).sum) 8 && (Nat.ble (nc + C.2.2.1) mc && (Nat.ble (ns + C.2.2.2.1) ms && (rx_rcv C.2.1 (st.take C.1).reverse vh && (Nat.beq C.2.2.1 0 || rx_wf vh.length ls (st.drop C.1) [])))))) then
    Option.bind (C.2.2.2.2 vh (st.take C.1).reverse) (fun q => K ls (q.1.toList ++ st.drop C.1) q.2 (nc + C.2.2.1) (ns + C.2.2.2.1))
  else none
noncomputable def ry_get (fl : Nat → Option (Nat × Nat × FieldType)) (ix len : Nat) (ls : rx_L) (st : List Value) (vh : rx_H) (nc ns : Nat) (K : rx_K5) : rx_R :=
  match fl ix, st with
  | some (ci, k, _), .ref a :: r => match vh[a]? with
    | some (.inr (ci', fs)) => bif Nat.beq ci' ci && Nat.beq len 3 then match fs[k]? with
      | some v => K ls (v :: r) vh nc ns
      | none => none
      else none
    | _ => none
  | _, _ => none
/-- one straight instruction, then K -/
noncomputable def ry_one (kc : Nat → Option Value) (fl fp : Nat → Option (Nat × Nat × FieldType)) (gs fg : Nat → Option Nat) (nw : Nat → Option (Nat × Nat × List Value)) (cf : Instr → Option rx_C) (mc ms : Nat) (i : Instr) (len : Nat) (ls : rx_L) (st : List Value) (vh : rx_H) (nc ns : Nat) (K : rx_K5) : rx_R :=
  match i with
  | .getfield ix => match fg ix with
    | none => ry_get fl ix len ls st vh nc ns K
    | some _ => rx_then (rx_gfs fg ix len ls st vh nc ns) K
  | .putfield ix => ry_put fp ix len ls st vh nc ns K
  | .getstatic ix => rx_then (rx_gst gs ix len ls st vh nc ns) K
  | .arraylength => rx_then (rx_len len ls st vh nc ns) K
  | .iinc j n => match rx_lk ls j with
    | some (.int x) => bif Nat.beq len 3 then K (rx_st1 ls j (.int (x + Int32.ofInt n))) st vh nc ns else none
    | _ => none
  | .new ix => rx_then (rx_new (nw ix) mc ms len ls st vh nc ns) K
  | .newarray t => rx_then (rx_nwa t mc ms len ls st vh nc ns) K
  | i => match rx_grp i with
    | 0 => match rx_psh kc i len with
      | some v => K ls (v :: st) vh nc ns
      | none => none
    | 1 => match rx_ldi i len with
      | some (j, t) => match rx_lk ls j with
        | some v => bif Nat.beq (rx_tag v) t then K ls (v :: st) vh nc ns else none
        | none => none
      | none => none
    | 2 => match rx_sti i len, st with
      | some (j, t), v :: r => bif Nat.beq (rx_tag v) t then K (bif Nat.beq t 1 then rx_st2 ls j v else rx_st1 ls j v) r vh nc ns else none
      | _, _ => none
    | 3 => match rx_stk i len st with
      | some st' => K ls st' vh nc ns
      | none => none
    | 4 => match st with
      | v :: r => match rx_un i len v with
        | some v' => K ls (v' :: r) vh nc ns
        | none => none
      | [] => none
    | 5 => match st with
      | v :: w :: r => match ry_div i len v w (fun z => K ls (z :: r) vh nc ns) with
        | some x => x
        | none => match rx_bin i len v w with
          | some v' => K ls (v' :: r) vh nc ns
          | none => none
      | _ => none
    | 6 => match st with
      | .int j :: .ref a :: r => match vh[a]? with
        | some e => ry_ald e i len j (fun v => K ls (v :: r) vh nc ns)
        | none => match se_arr a with
          | some q => ry_sld q i len j (fun v => K ls (v :: r) vh nc ns)
          | none => none
      | _ => none
    | 7 => match st with
      | v :: .int j :: .ref a :: r => match vh[a]? with
        | some e => ry_ast e i len j v (fun e' => K ls r (vh.set a e') nc ns)
        | none => none
      | _ => none
    | 8 => match cf i with
      | some C => ry_cal C mc ms len ls st vh nc ns K
      | none => none
    | _ => none
noncomputable def ry_ret (rt : Option FieldType) (i : Instr) (len : Nat) (st : List Value) (vh : rx_H) : Option rx_R := match rt, i, len, st with
  | some .boolean, .ireturn, 1, [.int x] => some (@ite _ (x = 0 ∨ x = 1) (Classical.propDecidable _) (some (some (.int x), vh)) none)
  | rt, i, len, st => match rx_ret rt i len st with
    | some rv => some (some (rv, vh))
    | none => none
noncomputable def ry_blk (kc : Nat → Option Value) (fl fp : Nat → Option (Nat × Nat × FieldType)) (gs fg : Nat → Option Nat) (nw : Nat → Option (Nat × Nat × List Value)) (cf : Instr → Option rx_C) (rt : Option FieldType) (mc ms : Nat) (K : rx_K) : List (Instr × Nat) → rx_K
  | [], pc, ls, st, vh, nc, ns => K pc ls st vh nc ns
  | (i, len) :: r, pc, ls, st, vh, nc, ns => match i with
    | .if_icmp c off => match len, st with
      | 3, .int y :: .int x :: st' => rx_if c x y (K ((pc : Int) + off).toNat ls st' vh nc ns) (ry_blk kc fl fp gs fg nw cf rt mc ms K r (pc + 3) ls st' vh nc ns)
      | _, _ => none
    | .ifCond c off => match len, st with
      | 3, .int x :: st' => rx_if c x 0 (K ((pc : Int) + off).toNat ls st' vh nc ns) (ry_blk kc fl fp gs fg nw cf rt mc ms K r (pc + 3) ls st' vh nc ns)
      | _, _ => none
    | .goto off => match len with
      | 3 => K ((pc : Int) + off).toNat ls st vh nc ns
      | _ => none
    | .lookupswitch d ps => match st with
      | .int x :: st' => bif (ps.toList.zip (ps.toList.drop 1)).all (fun (a, next) => a.1 < next.1) then K ((pc : Int) + rx_lsw x d ps.toList).toNat ls st' vh nc ns else none
      | _ => none
    | .tableswitch d lo hi offs => match st with
      | .int x :: st' => bif decide (hi + 1 = lo + (offs.toList.length : Int)) then K ((pc : Int) + rx_tsw x d lo offs.toList).toNat ls st' vh nc ns else none
      | _ => none
    | i => match ry_ret rt i len st vh with
      | some x => x
      | none => ry_one kc fl fp gs fg nw cf mc ms i len ls st vh nc ns (fun ls st vh nc ns => ry_blk kc fl fp gs fg nw cf rt mc ms K r (pc + len) ls st vh nc ns)
noncomputable def ry_run (kc : Nat → Option Value) (fl fp : Nat → Option (Nat × Nat × FieldType)) (gs fg : Nat → Option Nat) (nw : Nat → Option (Nat × Nat × List Value)) (cf : Instr → Option rx_C) (rt : Option FieldType) (mc ms : Nat) (cd : List (Nat × List (Instr × Nat))) : Nat → rx_K
  | 0, _, _, _, _, _, _ => none
  | n + 1, pc, ls, st, vh, nc, ns => match rx_lkb cd pc with
    | some is => ry_blk kc fl fp gs fg nw cf rt mc ms (ry_run kc fl fp gs fg nw cf rt mc ms cd n) is pc ls st vh nc ns
    | none => none
section RYE
variable {kc : Nat → Option Value} {fl fp : Nat → Option (Nat × Nat × FieldType)} {gs fg : Nat → Option Nat} {nw : Nat → Option (Nat × Nat × List Value)} {cf : Instr → Option rx_C} {mc ms : Nat}
theorem ry_ald_eq {e : va_E} {i : Instr} {len : Nat} {j : Int32} {k : Value → rx_R} : ry_ald e i len j k = (match rx_ald i len e j with | some v => k v | none => none) := by
  unfold ry_ald rx_ald
  split <;> (repeat' split) <;> simp_all
theorem ry_sld_eq {q : Nat × List Int32} {i : Instr} {len : Nat} {j : Int32} {k : Value → rx_R} : ry_sld q i len j k = (match rx_sld i len q j with | some v => k v | none => none) := by
  unfold ry_sld rx_sld
  split <;> (repeat' split) <;> simp_all
theorem ry_ast_eq {e : va_E} {i : Instr} {len : Nat} {j : Int32} {v : Value} {k : va_E → rx_R} : ry_ast e i len j v k = (match rx_ast i len e j v with | some x => k x | none => none) := by
  unfold ry_ast rx_ast
  split <;> (repeat' split) <;> simp_all
end RYE
