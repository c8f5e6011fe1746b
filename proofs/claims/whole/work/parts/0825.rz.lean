/-! the same machine with its places of a method in a row (nothing is made in it) -/
abbrev rz_K5 : Type := List Value → List Value → rx_H → rx_R
abbrev rz_K : Type := Nat → List Value → List Value → rx_H → rx_R
def rz_isL : Option Value → Bool
  | some (.long _) => true
  | some (.double _) => true
  | _ => false
def rz_clr (a : List Value) : Nat → List Value
  | 0 => a
  | i + 1 => bif rz_isL a[i]? then a.set i .null else a
def rz_st1 (a : List Value) (i : Nat) (v : Value) : List Value := (rz_clr a i).set i v
def rz_st2 (a : List Value) (i : Nat) (v : Value) : List Value := ((rz_clr a i).set i v).set (i + 1) .null
noncomputable def rz_one (kc : Nat → Option Value) (fl fp : Nat → Option (Nat × Nat × FieldType)) (gs fg : Nat → Option Nat) (cf : Instr → Option rx_C) (i : Instr) (len : Nat) (a : List Value) (st : List Value) (vh : rx_H) (K : rz_K5) : rx_R :=
  match rx_ldi i len with
  | some (j, t) => match a[j]? with
    | some v => bif Nat.beq (rx_tag v) t then K a (v :: st) vh else none
    | none => none
  | none => match rx_sti i len with
    | some (j, t) => match st with
      | v :: r => bif Nat.beq (rx_tag v) t then K (bif Nat.beq t 1 then rz_st2 a j v else rz_st1 a j v) r vh else none
      | [] => none
    | none => match i with
      | .iinc j n => match a[j]? with
        | some (.int x) => bif Nat.beq len 3 then K (rz_st1 a j (.int (x + Int32.ofInt n))) st vh else none
        | _ => none
      | i => ry_one kc fl fp gs fg (fun _ => none) cf 0 0 i len [] st vh 0 0 (fun _ st vh _ _ => K a st vh)
/-- as rx_if; nobody looks into the condition -/
noncomputable def rq_if {α : Type} : Jvm.ClassFile.Cond → Int32 → Int32 → α → α → α
  | .eq, x, y, a, b => @ite _ (x = y) (Classical.propDecidable _) a b
  | .ne, x, y, a, b => @ite _ (x = y) (Classical.propDecidable _) b a
  | .lt, x, y, a, b => @ite _ (x < y) (Classical.propDecidable _) a b
  | .ge, x, y, a, b => @ite _ (y ≤ x) (Classical.propDecidable _) a b
  | .gt, x, y, a, b => @ite _ (y < x) (Classical.propDecidable _) a b
  | .le, x, y, a, b => @ite _ (x ≤ y) (Classical.propDecidable _) a b
theorem rq_ite {α : Type} {c : Prop} {d e : Decidable c} {a b : α} : @ite _ c d a b = @ite _ c e a b := by
  by_cases h : c
  · rw [if_pos h, if_pos h]
  · rw [if_neg h, if_neg h]
theorem rq_if_eq {α : Type} {c : Jvm.ClassFile.Cond} {x y : Int32} {a b : α} : rq_if c x y a b = rx_if c x y a b := by
  cases c <;> exact rq_ite
noncomputable def rz_blk (kc : Nat → Option Value) (fl fp : Nat → Option (Nat × Nat × FieldType)) (gs fg : Nat → Option Nat) (cf : Instr → Option rx_C) (rt : Option FieldType) (K : rz_K) : List (Instr × Nat) → rz_K
  | [], pc, a, st, vh => K pc a st vh
  | (i, len) :: r, pc, a, st, vh => match i with
    | .if_icmp c off => match len, st with
      | 3, .int y :: .int x :: st' => rq_if c x y (K ((pc : Int) + off).toNat a st' vh) (rz_blk kc fl fp gs fg cf rt K r (pc + 3) a st' vh)
      | _, _ => none
    | .ifCond c off => match len, st with
      | 3, .int x :: st' => rq_if c x 0 (K ((pc : Int) + off).toNat a st' vh) (rz_blk kc fl fp gs fg cf rt K r (pc + 3) a st' vh)
      | _, _ => none
    | .goto off => match len with
      | 3 => K ((pc : Int) + off).toNat a st vh
      | _ => none
    | .lookupswitch d ps => match st with
      | .int x :: st' => bif (ps.toList.zip (ps.toList.drop 1)).all (fun (a, next) => a.1 < next.1) then K ((pc : Int) + rx_lsw x d ps.toList).toNat a st' vh else none
      | _ => none
    | .tableswitch d lo hi offs => match st with
      | .int x :: st' => bif decide (hi + 1 = lo + (offs.toList.length : Int)) then K ((pc : Int) + rx_tsw x d lo offs.toList).toNat a st' vh else none
      | _ => none
    | i => match ry_ret rt i len st vh with
      | some x => x
      | none => rz_one kc fl fp gs fg cf i len a st vh (fun a st vh => rz_blk kc fl fp gs fg cf rt K r (pc + len) a st vh)
noncomputable def rz_run (kc : Nat → Option Value) (fl fp : Nat → Option (Nat × Nat × FieldType)) (gs fg : Nat → Option Nat) (cf : Instr → Option rx_C) (rt : Option FieldType) (cd : List (Nat × List (Instr × Nat))) : Nat → List Value → List Value → rx_H → Nat → rx_R
  | _, _, _, _, 0 => none
  | pc, a, st, vh, n + 1 => match rx_lkb cd pc with
    | some is => rz_blk kc fl fp gs fg cf rt (fun pc a st vh => rz_run kc fl fp gs fg cf rt cd pc a st vh n) is pc a st vh
    | none => none
/-- the row stands for the list -/
def rz_R (ls : rx_L) (a : List Value) : Prop := ∀ j v, a[j]? = some v → rx_tag v ≠ 3 → rx_lk ls j = some v
theorem rx_lk_filter {p : Nat × Value → Bool} {j : Nat} {v : Value} : ∀ {ls : rx_L}, rx_lk ls j = some v → p (j, v) = true → rx_lk (ls.filter p) j = some v
  | [], h, _ => by cases h
  | q :: r, h, hp => by
    unfold rx_lk at h
    cases hb : Nat.beq q.1 j with
    | true =>
      rw [hb] at h
      cases h
      have e : q = (j, q.2) := by rw [← Nat.eq_of_beq_eq_true hb]
      rw [List.filter_cons, if_pos (by rw [e]; exact hp)]
      unfold rx_lk
      rw [hb]
      rfl
    | false =>
      rw [hb] at h
      have ih := rx_lk_filter (ls := r) h hp
      rw [List.filter_cons]
      split
      · unfold rx_lk
        rw [hb]
        exact ih
      · exact ih
theorem rx_lk_cons {i j : Nat} {v : Value} {ls : rx_L} (h : j ≠ i) : rx_lk ((i, v) :: ls) j = rx_lk ls j := by
  show (bif Nat.beq i j then some v else rx_lk ls j) = _
  cases hb : Nat.beq i j with
  | true => exact absurd (Nat.eq_of_beq_eq_true hb).symm h
  | false => rfl
theorem rx_lk_head {i : Nat} {v : Value} {ls : rx_L} : rx_lk ((i, v) :: ls) i = some v := by
  show (bif Nat.beq i i then some v else _) = _
  rw [Nat.beq_refl]
  rfl
theorem rz_clr_at {a : List Value} {i j : Nat} {v : Value} (h : (rz_clr a i)[j]? = some v) (ht : rx_tag v ≠ 3) : a[j]? = some v ∧ (j + 1 = i → v.category = 1) := by
  cases i with
  | zero => exact ⟨h, fun z => by omega⟩
  | succ k =>
    have h : (bif rz_isL a[k]? then a.set k .null else a)[j]? = some v := h
    cases hb : rz_isL a[k]? with
    | true =>
      rw [hb] at h
      simp only [cond_true] at h
      by_cases hk : j = k
      · subst hk
        rw [List.getElem?_set] at h
        simp only [if_true] at h
        split at h
        · cases h; exact absurd rfl ht
        · cases h
      · rw [List.getElem?_set_ne (Ne.symm hk)] at h
        exact ⟨h, fun z => absurd (by omega) hk⟩
    | false =>
      rw [hb] at h
      refine ⟨h, fun z => ?_⟩
      have e : j = k := by omega
      subst e
      simp only [cond_false] at h
      rw [h] at hb
      cases v <;> first | rfl | cases hb
theorem rz_R.st1 {ls : rx_L} {a : List Value} {i : Nat} {v : Value} (h : rz_R ls a) : rz_R (rx_st1 ls i v) (rz_st1 a i v) := by
  intro j w hj ht
  unfold rz_st1 at hj
  by_cases hji : j = i
  · subst hji
    rw [List.getElem?_set] at hj
    simp only [if_true] at hj
    split at hj
    · cases hj; exact rx_lk_head
    · cases hj
  · rw [List.getElem?_set_ne (Ne.symm hji)] at hj
    obtain ⟨h1, h2⟩ := rz_clr_at hj ht
    unfold rx_st1
    rw [rx_lk_cons hji]
    refine rx_lk_filter (h j w h1 ht) ?_
    by_cases hs : j + 1 = i
    · simp [hji, h2 hs]
    · simp [hji, hs]
theorem rz_R.st2 {ls : rx_L} {a : List Value} {i : Nat} {v : Value} (h : rz_R ls a) : rz_R (rx_st2 ls i v) (rz_st2 a i v) := by
  intro j w hj ht
  unfold rz_st2 at hj
  by_cases hj1 : j = i + 1
  · subst hj1
    rw [List.getElem?_set] at hj
    simp only [if_true] at hj
    split at hj
    · cases hj; exact absurd rfl ht
    · cases hj
  · rw [List.getElem?_set_ne (Ne.symm hj1)] at hj
    by_cases hji : j = i
    · subst hji
      rw [List.getElem?_set] at hj
      simp only [if_true] at hj
      split at hj
      · cases hj; exact rx_lk_head
      · cases hj
    · rw [List.getElem?_set_ne (Ne.symm hji)] at hj
      obtain ⟨h1, h2⟩ := rz_clr_at hj ht
      unfold rx_st2
      rw [rx_lk_cons hji]
      refine rx_lk_filter (h j w h1 ht) ?_
      by_cases hs : j + 1 = i
      · simp [hji, hj1, h2 hs]
      · simp [hji, hj1, hs]
section RZM
variable {kc : Nat → Option Value} {fl fp : Nat → Option (Nat × Nat × FieldType)} {gs fg : Nat → Option Nat} {nw : Nat → Option (Nat × Nat × List Value)} {cf : Instr → Option rx_C} {rt : Option FieldType}
variable {ls : rx_L} {st : List Value} {vh : rx_H} {K : rx_K5}
theorem rz_get {ix len : Nat} : rx_then (rx_get fl ix len [] st vh 0 0) (fun _ st vh _ _ => K ls st vh 0 0) = rx_then (rx_get fl ix len ls st vh 0 0) K := by
  unfold rx_get
  rcases fl ix with _ | ⟨ci, f9, ty⟩
  · rfl
  · rcases st with _ | ⟨w, r⟩
    · rfl
    · cases w with
      | ref a =>
        simp only
        rcases vh[a]? with _ | (x | ⟨ci', fs⟩)
        · rfl
        · rfl
        · simp only
          cases (Nat.beq ci' ci && Nat.beq len 3)
          · rfl
          · simp only [cond_true]
            cases fs[f9]? <;> rfl
      | _ => rfl
theorem rz_gfs {ix len : Nat} : rx_then (rx_gfs fg ix len [] st vh 0 0) (fun _ st vh _ _ => K ls st vh 0 0) = rx_then (rx_gfs fg ix len ls st vh 0 0) K := by
  unfold rx_gfs
  rcases fg ix with _ | f
  · rfl
  · rcases st with _ | ⟨w, r⟩
    · rfl
    · cases w with
      | ref a =>
        simp only
        rcases rx_sfv f a with _ | v
        · rfl
        · simp only
          cases Nat.beq len 3 <;> rfl
      | _ => rfl
theorem rz_gst {ix len : Nat} : rx_then (rx_gst gs ix len [] st vh 0 0) (fun _ st vh _ _ => K ls st vh 0 0) = rx_then (rx_gst gs ix len ls st vh 0 0) K := by
  unfold rx_gst
  rcases gs ix with _ | k
  · rfl
  · simp only
    rcases se_sf k with _ | q
    · rfl
    · simp only
      cases Nat.beq len 3 <;> rfl
theorem rz_put {ix len : Nat} : rx_then (rx_put fp ix len [] st vh 0 0) (fun _ st vh _ _ => K ls st vh 0 0) = rx_then (rx_put fp ix len ls st vh 0 0) K := by
  unfold rx_put
  rcases fp ix with _ | ⟨ci, f9, ty⟩
  · rfl
  · rcases st with _ | ⟨v, _ | ⟨w, r⟩⟩
    · rfl
    · rfl
    · cases w with
      | ref a =>
        simp only
        rcases vh[a]? with _ | (x | ⟨ci', fs⟩)
        · rfl
        · rfl
        · simp only
          cases (Nat.beq ci' ci && (Nat.beq len 3 && (rx_ok ty v && Nat.blt f9 fs.length))) <;> rfl
      | _ => rfl
theorem rz_len {len : Nat} : rx_then (rx_len len [] st vh 0 0) (fun _ st vh _ _ => K ls st vh 0 0) = rx_then (rx_len len ls st vh 0 0) K := by
  unfold rx_len
  rcases st with _ | ⟨w, r⟩
  · rfl
  · cases w with
    | ref a =>
      simp only
      rcases vh[a]? with _ | (⟨t, n, x⟩ | x)
      · simp only
        rcases se_arr a with _ | q
        · rfl
        · simp only
          cases Nat.beq len 1 <;> rfl
      · simp only
        rcases rx_tyn t with _ | ty
        · rfl
        · simp only
          cases Nat.beq len 1 <;> rfl
      · rfl
    | _ => rfl
theorem rz_cal {C : rx_C} {len : Nat} : rx_then (rx_cal C 0 0 len [] st vh 0 0) (fun _ st vh _ _ => K ls st vh 0 0) = rx_then (rx_cal C 0 0 len ls st vh 0 0) K := by
  unfold rx_cal
  by_cases h0 : C.2.2.1 = 0
  · by_cases h1 : C.2.2.2.1 = 0
    · have e1 : Nat.beq C.2.2.1 0 = true := by rw [h0]; rfl
      simp only [e1, Bool.true_or]
      generalize (Nat.beq len 3 && (Nat.ble C.1 st.length && (Nat.ble (((st.drop C.1).map Value.category).sum) 8 && (Nat.ble (0 + C.2.2.1) 0 && (Nat.ble (0 + C.2.2.2.1) 0 && (rx_rcv C.2.1 (st.take C.1).reverse vh && true)))))) = b
      cases b
      · rfl
      · simp only [cond_true]
        rcases C.2.2.2.2 vh (st.take C.1).reverse with _ | ⟨rv, vh'⟩
        · rfl
        · simp only [rx_then, h0, h1]
    · have e2 : Nat.ble (0 + C.2.2.2.1) 0 = false := by
        cases hb : Nat.ble (0 + C.2.2.2.1) 0 with
        | false => rfl
        | true => exact absurd (Nat.le_of_ble_eq_true hb) (by omega)
      simp only [e2, Bool.false_and, Bool.and_false, cond_false]
      rfl
  · have e2 : Nat.ble (0 + C.2.2.1) 0 = false := by
      cases hb : Nat.ble (0 + C.2.2.1) 0 with
      | false => rfl
      | true => exact absurd (Nat.le_of_ble_eq_true hb) (by omega)
    simp only [e2, Bool.false_and, Bool.and_false, cond_false]
    rfl
theorem rz_ps {i : Instr} {len : Nat} : rx_then (match rx_psh kc i len with | some v => some (([] : rx_L), v :: st, vh, 0, 0) | none => none) (fun _ st vh _ _ => K ls st vh 0 0) = rx_then (match rx_psh kc i len with | some v => some (ls, v :: st, vh, 0, 0) | none => none) K := by
  cases rx_psh kc i len <;> rfl
theorem rz_sk {i : Instr} {len : Nat} : rx_then (match rx_stk i len st with | some st' => some (([] : rx_L), st', vh, 0, 0) | none => none) (fun _ st vh _ _ => K ls st vh 0 0) = rx_then (match rx_stk i len st with | some st' => some (ls, st', vh, 0, 0) | none => none) K := by
  cases rx_stk i len st <;> rfl
theorem rz_un {i : Instr} {len : Nat} : rx_then (match st with | v :: r => (match rx_un i len v with | some v' => some (([] : rx_L), v' :: r, vh, 0, 0) | none => none) | [] => none) (fun _ st vh _ _ => K ls st vh 0 0) = rx_then (match st with | v :: r => (match rx_un i len v with | some v' => some (ls, v' :: r, vh, 0, 0) | none => none) | [] => none) K := by
  rcases st with _ | ⟨v, r⟩
  · rfl
  · simp only
    cases rx_un i len v <;> rfl
theorem rz_bn {i : Instr} {len : Nat} : rx_then (match st with | v :: w :: r => (match rx_bin i len v w with | some v' => some (([] : rx_L), v' :: r, vh, 0, 0) | none => none) | _ => none) (fun _ st vh _ _ => K ls st vh 0 0) = rx_then (match st with | v :: w :: r => (match rx_bin i len v w with | some v' => some (ls, v' :: r, vh, 0, 0) | none => none) | _ => none) K := by
  rcases st with _ | ⟨v, _ | ⟨w, r⟩⟩
  · rfl
  · rfl
  · simp only
    cases rx_bin i len v w <;> rfl
theorem rz_al {i : Instr} (h : rx_grp i = 6) {len : Nat} : rx_then (rx_one kc fl fp gs fg (fun _ => none) cf 0 0 i len [] st vh 0 0) (fun _ st vh _ _ => K ls st vh 0 0) = rx_then (rx_one kc fl fp gs fg nw cf 0 0 i len ls st vh 0 0) K := by
  cases i <;> first | (exfalso; simp [rx_grp] at h; done) | skip
  all_goals
    simp only [rx_one, rx_grp]
    rcases st with _ | ⟨v, _ | ⟨w, r⟩⟩
    · rfl
    · cases v <;> rfl
    · cases v <;> cases w <;> try rfl
      rename_i j a
      simp only
      rcases vh[a]? with _ | x
      · simp only
        rcases se_arr a with _ | q
        · rfl
        · simp only
          cases rx_sld _ len q j <;> rfl
      · simp only
        cases rx_ald _ len x j <;> rfl
theorem rz_as {i : Instr} (h : rx_grp i = 7) {len : Nat} : rx_then (rx_one kc fl fp gs fg (fun _ => none) cf 0 0 i len [] st vh 0 0) (fun _ st vh _ _ => K ls st vh 0 0) = rx_then (rx_one kc fl fp gs fg nw cf 0 0 i len ls st vh 0 0) K := by
  cases i <;> first | (exfalso; simp [rx_grp] at h; done) | skip
  all_goals
    simp only [rx_one, rx_grp]
    rcases st with _ | ⟨v, _ | ⟨w, _ | ⟨z, r⟩⟩⟩
    · rfl
    · rfl
    · cases w <;> rfl
    · cases w <;> cases z <;> try rfl
      rename_i j a
      simp only
      rcases vh[a]? with _ | x
      · rfl
      · simp only
        cases rx_ast _ len x j v <;> rfl
theorem rz_def {i : Instr} {len : Nat} {rs : Option Value × rx_H} (hld : rx_ldi i len = none) (hst : rx_sti i len = none) (hii : ∀ j n, i ≠ .iinc j n) (h2 : rx_then (rx_one kc fl fp gs fg (fun _ => none) cf 0 0 i len [] st vh 0 0) (fun _ st vh _ _ => K ls st vh 0 0) = some rs) : rx_then (rx_one kc fl fp gs fg nw cf 0 0 i len ls st vh 0 0) K = some rs := by
  by_cases h6 : rx_grp i = 6
  · exact (rz_al h6).symm.trans h2
  by_cases h7 : rx_grp i = 7
  · exact (rz_as h7).symm.trans h2
  cases i with
  | getfield ix =>
    simp only [rx_one] at h2 ⊢
    cases hf : fg ix with
    | none =>
      rw [hf] at h2
      exact rz_get.symm.trans h2
    | some f =>
      rw [hf] at h2
      exact rz_gfs.symm.trans h2
  | getstatic ix => exact rz_gst.symm.trans h2
  | putfield ix => exact rz_put.symm.trans h2
  | arraylength => exact rz_len.symm.trans h2
  | iinc j n => exact absurd rfl (hii j n)
  | new ix => cases h2
  | newarray t =>
    simp only [rx_one, rx_nwa] at h2
    split at h2
    · have e : Nat.ble (0 + 1) 0 = false := rfl
      simp only [e, Bool.false_and, Bool.and_false, cond_false] at h2
      cases h2
    · cases h2
  | invokevirtual ix =>
    simp only [rx_one, rx_grp] at h2 ⊢
    cases hc : cf (.invokevirtual ix) with
    | none => rw [hc] at h2; cases h2
    | some C => rw [hc] at h2; exact rz_cal.symm.trans h2
  | invokestatic ix =>
    simp only [rx_one, rx_grp] at h2 ⊢
    cases hc : cf (.invokestatic ix) with
    | none => rw [hc] at h2; cases h2
    | some C => rw [hc] at h2; exact rz_cal.symm.trans h2
  | invokespecial ix =>
    simp only [rx_one, rx_grp] at h2 ⊢
    cases hc : cf (.invokespecial ix) with
    | none => rw [hc] at h2; cases h2
    | some C => rw [hc] at h2; exact rz_cal.symm.trans h2
  | iload j => simp only [rx_one, rx_grp, hld] at h2; cases h2
  | iload_n j => simp only [rx_one, rx_grp, hld] at h2; cases h2
  | lload j => simp only [rx_one, rx_grp, hld] at h2; cases h2
  | lload_n j => simp only [rx_one, rx_grp, hld] at h2; cases h2
  | aload j => simp only [rx_one, rx_grp, hld] at h2; cases h2
  | aload_n j => simp only [rx_one, rx_grp, hld] at h2; cases h2
  | istore j => simp only [rx_one, rx_grp, hst] at h2; cases h2
  | istore_n j => simp only [rx_one, rx_grp, hst] at h2; cases h2
  | lstore j => simp only [rx_one, rx_grp, hst] at h2; cases h2
  | lstore_n j => simp only [rx_one, rx_grp, hst] at h2; cases h2
  | astore j => simp only [rx_one, rx_grp, hst] at h2; cases h2
  | astore_n j => simp only [rx_one, rx_grp, hst] at h2; cases h2
  | _ => first
    | exact rz_ps.symm.trans h2
    | exact rz_sk.symm.trans h2
    | exact rz_un.symm.trans h2
    | exact absurd rfl h6
    | exact absurd rfl h7
    | (rcases st with _ | ⟨v, _ | ⟨w, r⟩⟩ <;> first | (cases h2; done) | exact (rz_bn (st := v :: w :: r)).symm.trans h2)
theorem rz_ldf {i : Instr} {len j t : Nat} (hj : rx_ldi i len = some (j, t)) : ry_one kc fl fp gs fg nw cf 0 0 i len ls st vh 0 0 K = (match rx_lk ls j with | some v => bif Nat.beq (rx_tag v) t then K ls (v :: st) vh 0 0 else none | none => none) ∧ t ≠ 3 := by
  unfold rx_ldi at hj
  split at hj <;> first | (cases hj; exact ⟨rfl, by decide⟩) | cases hj
theorem rz_stf {i : Instr} {len j t : Nat} {v : Value} {r : List Value} (hj : rx_sti i len = some (j, t)) : ry_one kc fl fp gs fg nw cf 0 0 i len ls (v :: r) vh 0 0 K = (bif Nat.beq (rx_tag v) t then K (bif Nat.beq t 1 then rx_st2 ls j v else rx_st1 ls j v) r vh 0 0 else none) := by
  unfold rx_sti at hj
  split at hj <;> first | (cases hj; rfl) | cases hj
/-- where the row's machine answers, the list's does -/
theorem rz_one_ok {i : Instr} {len : Nat} {a : List Value} {Kz : rz_K5} {rs : Option Value × rx_H} (h : rz_one kc fl fp gs fg cf i len a st vh Kz = some rs) (hR : rz_R ls a) (hK : ∀ ls' a' st vh, rz_R ls' a' → Kz a' st vh = some rs → K ls' st vh 0 0 = some rs) : ry_one kc fl fp gs fg nw cf 0 0 i len ls st vh 0 0 K = some rs := by
  unfold rz_one at h
  split at h
  · rename_i j t hj
    obtain ⟨e, h3⟩ := rz_ldf (kc := kc) (fl := fl) (fp := fp) (gs := gs) (fg := fg) (nw := nw) (cf := cf) (ls := ls) (st := st) (vh := vh) (K := K) hj
    rw [e]
    split at h
    · rename_i v hv
      cases hb : Nat.beq (rx_tag v) t with
      | false => rw [hb] at h; cases h
      | true =>
        rw [hb] at h
        rw [hR j v hv (by rw [Nat.eq_of_beq_eq_true hb]; exact h3)]
        simp only [hb, cond_true]
        exact hK _ _ _ _ hR h
    · cases h
  · rename_i hld
    split at h
    · rename_i j t hj
      rcases st with _ | ⟨v, r⟩
      · cases h
      · rw [rz_stf hj]
        simp only at h
        cases hb : Nat.beq (rx_tag v) t with
        | false => rw [hb] at h; cases h
        | true =>
          rw [hb] at h
          simp only [cond_true] at h ⊢
          cases ht : Nat.beq t 1 with
          | true =>
            rw [ht] at h
            exact hK _ _ _ _ hR.st2 h
          | false =>
            rw [ht] at h
            exact hK _ _ _ _ hR.st1 h
    · rename_i hst
      split at h
      · rename_i j n
        have e : ry_one kc fl fp gs fg nw cf 0 0 (.iinc j n) len ls st vh 0 0 K = (match rx_lk ls j with | some (.int x) => bif Nat.beq len 3 then K (rx_st1 ls j (.int (x + Int32.ofInt n))) st vh 0 0 else none | _ => none) := rfl
        rw [e]
        split at h
        · rename_i x hx
          rw [hR j _ hx (show (0 : Nat) ≠ 3 by decide)]
          simp only
          cases hb : Nat.beq len 3 with
          | false => rw [hb] at h; cases h
          | true =>
            rw [hb] at h
            exact hK _ _ _ _ hR.st1 h
        · cases h
      · rename_i hii
        rw [ry_one_eq] at h ⊢
        refine rz_def hld hst (fun j n z => hii j n z) ?_
        revert h
        cases rx_one kc fl fp gs fg (fun _ => none) cf 0 0 i len [] st vh 0 0 with
        | none => exact id
        | some S => exact fun z => hK _ _ _ _ hR z
theorem rx_if_mono {c : Jvm.ClassFile.Cond} {x y : Int32} {A B A' B' : rx_R} {rs : Option Value × rx_H} (hA : A = some rs → A' = some rs) (hB : B = some rs → B' = some rs) (h : rx_if c x y A B = some rs) : rx_if c x y A' B' = some rs := by
  cases c <;> simp only [rx_if] at h ⊢ <;> split <;> rename_i hc <;> simp only [hc, ↓reduceIte] at h <;> first | exact hA h | exact hB h
theorem rz_blk_ok {Kz : rz_K} {Ky : rx_K} {rs : Option Value × rx_H} (hK : ∀ pc ls a st vh, rz_R ls a → Kz pc a st vh = some rs → Ky pc ls st vh 0 0 = some rs) : ∀ (is : List (Instr × Nat)) (pc : Nat) (ls : rx_L) (a st : List Value) (vh : rx_H), rz_R ls a → rz_blk kc fl fp gs fg cf rt Kz is pc a st vh = some rs → ry_blk kc fl fp gs fg nw cf rt 0 0 Ky is pc ls st vh 0 0 = some rs
  | [], pc, ls, a, st, vh, hR, h => hK pc ls a st vh hR h
  | (i, len) :: r, pc, ls, a, st, vh, hR, h => by
    have ih := rz_blk_ok hK r
    have gen : (match ry_ret rt i len st vh with | some x => x | none => rz_one kc fl fp gs fg cf i len a st vh (fun a st vh => rz_blk kc fl fp gs fg cf rt Kz r (pc + len) a st vh)) = some rs → (match ry_ret rt i len st vh with | some x => x | none => ry_one kc fl fp gs fg nw cf 0 0 i len ls st vh 0 0 (fun ls st vh nc ns => ry_blk kc fl fp gs fg nw cf rt 0 0 Ky r (pc + len) ls st vh nc ns)) = some rs := by
      cases ry_ret rt i len st vh with
      | some x => exact id
      | none => exact fun z => rz_one_ok z hR (fun ls' a' st vh h1 h2 => ih _ _ _ _ _ h1 h2)
    cases i with
    | if_icmp c off =>
      simp only [rz_blk] at h
      simp only [ry_blk]
      split at h
      · rename_i y x st'
        rw [rq_if_eq] at h
        exact rx_if_mono (fun z => hK _ _ _ _ _ hR z) (fun z => ih _ _ _ _ _ hR z) h
      · cases h
    | ifCond c off =>
      simp only [rz_blk] at h
      simp only [ry_blk]
      split at h
      · rename_i x st'
        rw [rq_if_eq] at h
        exact rx_if_mono (fun z => hK _ _ _ _ _ hR z) (fun z => ih _ _ _ _ _ hR z) h
      · cases h
    | goto off =>
      simp only [rz_blk] at h
      simp only [ry_blk]
      split at h
      · exact hK _ _ _ _ _ hR h
      · cases h
    | lookupswitch d ps =>
      simp only [rz_blk] at h
      simp only [ry_blk]
      split at h
      · revert h
        cases (ps.toList.zip (ps.toList.drop 1)).all (fun (a, next) => a.1 < next.1)
        · exact id
        · exact fun h => hK _ _ _ _ _ hR h
      · cases h
    | tableswitch d lo hi os =>
      simp only [rz_blk] at h
      simp only [ry_blk]
      split at h
      · revert h
        cases decide (hi + 1 = lo + (os.toList.length : Int))
        · exact id
        · exact fun h => hK _ _ _ _ _ hR h
      · cases h
    | _ => exact gen h
theorem rz_run_ok {cd : List (Nat × List (Instr × Nat))} {rs : Option Value × rx_H} : ∀ (n pc : Nat) (ls : rx_L) (a st : List Value) (vh : rx_H), rz_R ls a → rz_run kc fl fp gs fg cf rt cd pc a st vh n = some rs → ry_run kc fl fp gs fg nw cf rt 0 0 cd n pc ls st vh 0 0 = some rs
  | 0, _, _, _, _, _, _, h => by cases h
  | n + 1, pc, ls, a, st, vh, hR, h => by
    simp only [rz_run] at h
    simp only [ry_run]
    revert h
    cases rx_lkb cd pc with
    | none => exact id
    | some is => exact fun h => rz_blk_ok (rz_run_ok n) is pc ls a st vh hR h
end RZM
/-- the first places of a method: its arguments, a long takes two -/
def rz_args : List Value → List Value
  | [] => []
  | .long x :: r => .long x :: .null :: rz_args r
  | .double x :: r => .double x :: .null :: rz_args r
  | v :: r => v :: rz_args r
theorem rz_args_R (n : Nat) : ∀ (vs : List Value) (k : Nat) (j : Nat) (v : Value), (rz_args vs ++ List.replicate n .null)[j]? = some v → rx_tag v ≠ 3 → rx_lk (lv_args k vs) (k + j) = some v
  | [], k, j, v, h, ht => by
    simp only [rz_args, List.nil_append] at h
    rw [List.getElem?_replicate] at h
    split at h
    · cases h; exact absurd rfl ht
    · cases h
  | w :: r, k, j, v, h, ht => by
    have two : ∀ (x : Value), x.category = 2 → (x :: .null :: rz_args r ++ List.replicate n .null)[j]? = some v → rx_lk (lv_args k (x :: r)) (k + j) = some v := by
      intro x hx h
      unfold lv_args
      rw [if_pos hx]
      rcases j with _ | _ | j
      · cases h; exact rx_lk_head
      · cases h; exact absurd rfl ht
      · rw [rx_lk_cons (by omega), show k + (j + 2) = (k + 2) + j by omega]
        exact rz_args_R n r (k + 2) j v h ht
    have one : ∀ (x : Value), ¬ x.category = 2 → (x :: rz_args r ++ List.replicate n .null)[j]? = some v → rx_lk (lv_args k (x :: r)) (k + j) = some v := by
      intro x hx h
      unfold lv_args
      rw [if_neg hx]
      rcases j with _ | j
      · cases h; exact rx_lk_head
      · rw [rx_lk_cons (by omega), show k + (j + 1) = (k + 1) + j by omega]
        exact rz_args_R n r (k + 1) j v h ht
    cases w with
    | long x => exact two _ rfl h
    | double x => exact two _ rfl h
    | int x => exact one _ (show ¬ (1 : Nat) = 2 by decide) h
    | float x => exact one _ (show ¬ (1 : Nat) = 2 by decide) h
    | null => exact one _ (show ¬ (1 : Nat) = 2 by decide) h
    | ref x => exact one _ (show ¬ (1 : Nat) = 2 by decide) h
    | retAddr x => exact one _ (show ¬ (1 : Nat) = 2 by decide) h
noncomputable def rz_fn (kc : Nat → Option Value) (fl fp : Nat → Option (Nat × Nat × FieldType)) (gs fg : Nat → Option Nat) (cf : Instr → Option rx_C) (rt : Option FieldType) (nL : Nat) (cd : List (Nat × List (Instr × Nat))) (n : Nat) (vh : rx_H) (As : List Value) : rx_R := bif Nat.ble ((As.map Value.category).sum) nL then rz_run kc fl fp gs fg cf rt cd 0 (rz_args As ++ List.replicate (nL - (As.map Value.category).sum) .null) [] vh n else none
theorem rz_fn_eq {kc : Nat → Option Value} {fl fp : Nat → Option (Nat × Nat × FieldType)} {gs fg : Nat → Option Nat} {nw : Nat → Option (Nat × Nat × List Value)} {cf : Instr → Option rx_C} {rt : Option FieldType} {nL : Nat} {cd : List (Nat × List (Instr × Nat))} {n : Nat} {vh : rx_H} {As : List Value} {rs : Option Value × rx_H} (h : rz_fn kc fl fp gs fg cf rt nL cd n vh As = some rs) : rx_fn kc fl fp gs fg nw cf rt 0 0 nL cd n vh As = some rs := by
  unfold rz_fn at h
  unfold rx_fn
  cases hb : Nat.ble ((As.map Value.category).sum) nL with
  | false => rw [hb] at h; cases h
  | true =>
    rw [hb] at h
    simp only [cond_true] at h ⊢
    rw [← ry_run_eq]
    refine rz_run_ok n 0 (lv_args 0 As) _ [] vh (fun j v hj ht => ?_) h
    have := rz_args_R _ As 0 j v hj ht
    rwa [Nat.zero_add] at this
