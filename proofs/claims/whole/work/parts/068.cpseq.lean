section RYF
variable {kc : Nat → Option Value} {fl fp : Nat → Option (Nat × Nat × FieldType)} {gs fg : Nat → Option Nat} {nw : Nat → Option (Nat × Nat × List Value)} {cf : Instr → Option rx_C} {mc ms : Nat}
theorem ry_put_eq {ix len : Nat} {ls : rx_L} {st : List Value} {vh : rx_H} {nc ns : Nat} {K : rx_K5} : ry_put fp ix len ls st vh nc ns K = rx_then (rx_put fp ix len ls st vh nc ns) K := by
  unfold ry_put rx_put
  rcases hf : fp ix with _ | ⟨ci, f9, ty⟩
  · rfl
  · rcases st with _ | ⟨v, _ | ⟨w, r⟩⟩
    · rfl
    · rfl
    · cases w with
      | ref a =>
        simp only
        rcases ha : vh[a]? with _ | (x | ⟨ci', fs⟩)
        · rfl
        · rfl
        · simp only
          cases h1 : Nat.beq ci' ci <;> cases h2 : Nat.beq len 3 <;> cases h3 : Nat.blt f9 fs.length <;> try (simp [rx_then]; done)
          simp only [Bool.and_self, Bool.and_true, Bool.true_and, cond_true]
          split
          · rename_i x
            by_cases hx : x = 0 ∨ x = 1
            · rw [if_pos hx, show rx_ok .boolean (.int x) = true from by simpa [rx_ok] using hx]
              rfl
            · rw [if_neg hx, show rx_ok .boolean (.int x) = false from by simpa [rx_ok, not_or] using hx]
              rfl
          · cases h4 : rx_ok ty v <;> rfl
      | _ => rfl
theorem ry_cal_eq {C : rx_C} {len : Nat} {ls : rx_L} {st : List Value} {vh : rx_H} {nc ns : Nat} {K : rx_K5} : ry_cal C mc ms len ls st vh nc ns K = rx_then (rx_cal C mc ms len ls st vh nc ns) K := by
  unfold ry_cal rx_cal
  generalize (Nat.beq len 3 && (Nat.ble C.1 st.length && (Nat.ble (((st.drop C.1).map Value.category).sum) 8 && (Nat.ble (nc + C.2.2.1) mc && (Nat.ble (ns + C.2.2.2.1) ms && (rx_rcv C.2.1 (st.take C.1).reverse vh && (Nat.beq C.2.2.1 0 || rx_wf vh.length ls (st.drop C.1) []))))))) = b
  cases b
  · rfl
  · simp only [cond_true]
    cases hF : C.2.2.2.2 vh (st.take C.1).reverse with
    | none => rfl
    | some q => rfl
theorem ry_get_eq {ix len : Nat} {ls : rx_L} {st : List Value} {vh : rx_H} {nc ns : Nat} {K : rx_K5} : ry_get fl ix len ls st vh nc ns K = rx_then (rx_get fl ix len ls st vh nc ns) K := by
  unfold ry_get rx_get
  rcases hf : fl ix with _ | ⟨ci, f9, ty⟩
  · rfl
  · rcases st with _ | ⟨w, r⟩
    · rfl
    · cases w with
      | ref a =>
        simp only
        rcases ha : vh[a]? with _ | (x | ⟨ci', fs⟩)
        · rfl
        · rfl
        · simp only
          cases h1 : (Nat.beq ci' ci && Nat.beq len 3)
          · rfl
          · simp only [cond_true]
            cases fs[f9]? <;> rfl
      | _ => rfl
theorem ry_ps_eq {i : Instr} {len : Nat} {ls : rx_L} {st : List Value} {vh : rx_H} {nc ns : Nat} {K : rx_K5} : (match rx_psh kc i len with | some v => K ls (v :: st) vh nc ns | none => none) = rx_then (match rx_psh kc i len with | some v => some (ls, v :: st, vh, nc, ns) | none => none) K := by
  cases rx_psh kc i len <;> rfl
theorem ry_ld_eq {i : Instr} {len : Nat} {ls : rx_L} {st : List Value} {vh : rx_H} {nc ns : Nat} {K : rx_K5} : (match rx_ldi i len with | some (j, t) => (match rx_lk ls j with | some v => bif Nat.beq (rx_tag v) t then K ls (v :: st) vh nc ns else none | none => none) | none => none) = rx_then (match rx_ldi i len with | some (j, t) => (match rx_lk ls j with | some v => bif Nat.beq (rx_tag v) t then some (ls, v :: st, vh, nc, ns) else none | none => none) | none => none) K := by
  rcases rx_ldi i len with _ | ⟨j, t⟩
  · rfl
  · simp only
    cases rx_lk ls j with
    | none => rfl
    | some v => simp only; cases Nat.beq (rx_tag v) t <;> rfl
theorem ry_st_eq {i : Instr} {len : Nat} {ls : rx_L} {st : List Value} {vh : rx_H} {nc ns : Nat} {K : rx_K5} : (match rx_sti i len, st with | some (j, t), v :: r => bif Nat.beq (rx_tag v) t then K (bif Nat.beq t 1 then rx_st2 ls j v else rx_st1 ls j v) r vh nc ns else none | _, _ => none) = rx_then (match rx_sti i len, st with | some (j, t), v :: r => bif Nat.beq (rx_tag v) t then some (bif Nat.beq t 1 then rx_st2 ls j v else rx_st1 ls j v, r, vh, nc, ns) else none | _, _ => none) K := by
  rcases rx_sti i len with _ | ⟨j, t⟩
  · rfl
  · rcases st with _ | ⟨v, r⟩
    · rfl
    · simp only
      cases Nat.beq (rx_tag v) t <;> rfl
theorem ry_sk_eq {i : Instr} {len : Nat} {ls : rx_L} {st : List Value} {vh : rx_H} {nc ns : Nat} {K : rx_K5} : (match rx_stk i len st with | some st' => K ls st' vh nc ns | none => none) = rx_then (match rx_stk i len st with | some st' => some (ls, st', vh, nc, ns) | none => none) K := by
  cases rx_stk i len st <;> rfl
theorem ry_un_eq {i : Instr} {len : Nat} {ls : rx_L} {st : List Value} {vh : rx_H} {nc ns : Nat} {K : rx_K5} : (match st with | v :: r => (match rx_un i len v with | some v' => K ls (v' :: r) vh nc ns | none => none) | [] => none) = rx_then (match st with | v :: r => (match rx_un i len v with | some v' => some (ls, v' :: r, vh, nc, ns) | none => none) | [] => none) K := by
  rcases st with _ | ⟨v, r⟩
  · rfl
  · simp only
    cases rx_un i len v <;> rfl
theorem ry_bn_eq {i : Instr} {len : Nat} {ls : rx_L} {st : List Value} {vh : rx_H} {nc ns : Nat} {K : rx_K5} : (match st with | v :: w :: r => (match rx_bin i len v w with | some v' => K ls (v' :: r) vh nc ns | none => none) | _ => none) = rx_then (match st with | v :: w :: r => (match rx_bin i len v w with | some v' => some (ls, v' :: r, vh, nc, ns) | none => none) | _ => none) K := by
  rcases st with _ | ⟨v, _ | ⟨w, r⟩⟩
  · rfl
  · rfl
  · simp only
    cases rx_bin i len v w <;> rfl
theorem ry_one_eq {i : Instr} {len : Nat} {ls : rx_L} {st : List Value} {vh : rx_H} {nc ns : Nat} {K : rx_K5} : ry_one kc fl fp gs fg nw cf mc ms i len ls st vh nc ns K = rx_then (rx_one kc fl fp gs fg nw cf mc ms i len ls st vh nc ns) K := by
  cases i with
  | putfield ix => exact ry_put_eq
  | iaload =>
    rcases st with _ | ⟨v, _ | ⟨w, r⟩⟩
    · rfl
    · cases v <;> rfl
    · cases v <;> cases w <;> try rfl
      rename_i j a
      simp only [ry_one, rx_one, rx_grp]
      cases hv : vh[a]? with
      | some x =>
        simp only [ry_ald_eq]
        cases rx_ald .iaload len x j <;> rfl
      | none =>
        simp only [ry_sld_eq]
        cases se_arr a with
        | none => rfl
        | some q => simp only; cases rx_sld .iaload len q j <;> rfl
  | laload =>
    rcases st with _ | ⟨v, _ | ⟨w, r⟩⟩
    · rfl
    · cases v <;> rfl
    · cases v <;> cases w <;> try rfl
      rename_i j a
      simp only [ry_one, rx_one, rx_grp]
      cases hv : vh[a]? with
      | some x =>
        simp only [ry_ald_eq]
        cases rx_ald .laload len x j <;> rfl
      | none =>
        simp only [ry_sld_eq]
        cases se_arr a with
        | none => rfl
        | some q => simp only; cases rx_sld .laload len q j <;> rfl
  | baload =>
    rcases st with _ | ⟨v, _ | ⟨w, r⟩⟩
    · rfl
    · cases v <;> rfl
    · cases v <;> cases w <;> try rfl
      rename_i j a
      simp only [ry_one, rx_one, rx_grp]
      cases hv : vh[a]? with
      | some x =>
        simp only [ry_ald_eq]
        cases rx_ald .baload len x j <;> rfl
      | none =>
        simp only [ry_sld_eq]
        cases se_arr a with
        | none => rfl
        | some q => simp only; cases rx_sld .baload len q j <;> rfl
  | caload =>
    rcases st with _ | ⟨v, _ | ⟨w, r⟩⟩
    · rfl
    · cases v <;> rfl
    · cases v <;> cases w <;> try rfl
      rename_i j a
      simp only [ry_one, rx_one, rx_grp]
      cases hv : vh[a]? with
      | some x =>
        simp only [ry_ald_eq]
        cases rx_ald .caload len x j <;> rfl
      | none =>
        simp only [ry_sld_eq]
        cases se_arr a with
        | none => rfl
        | some q => simp only; cases rx_sld .caload len q j <;> rfl
  | saload =>
    rcases st with _ | ⟨v, _ | ⟨w, r⟩⟩
    · rfl
    · cases v <;> rfl
    · cases v <;> cases w <;> try rfl
      rename_i j a
      simp only [ry_one, rx_one, rx_grp]
      cases hv : vh[a]? with
      | some x =>
        simp only [ry_ald_eq]
        cases rx_ald .saload len x j <;> rfl
      | none =>
        simp only [ry_sld_eq]
        cases se_arr a with
        | none => rfl
        | some q => simp only; cases rx_sld .saload len q j <;> rfl
  | iastore =>
    rcases st with _ | ⟨v, _ | ⟨w, _ | ⟨z, r⟩⟩⟩
    · rfl
    · rfl
    · cases w <;> rfl
    · cases w <;> cases z <;> try rfl
      rename_i j a
      simp only [ry_one, rx_one, rx_grp]
      cases hv : vh[a]? with
      | none => rfl
      | some x =>
        simp only [ry_ast_eq]
        cases rx_ast .iastore len x j v <;> rfl
  | lastore =>
    rcases st with _ | ⟨v, _ | ⟨w, _ | ⟨z, r⟩⟩⟩
    · rfl
    · rfl
    · cases w <;> rfl
    · cases w <;> cases z <;> try rfl
      rename_i j a
      simp only [ry_one, rx_one, rx_grp]
      cases hv : vh[a]? with
      | none => rfl
      | some x =>
        simp only [ry_ast_eq]
        cases rx_ast .lastore len x j v <;> rfl
  | bastore =>
    rcases st with _ | ⟨v, _ | ⟨w, _ | ⟨z, r⟩⟩⟩
    · rfl
    · rfl
    · cases w <;> rfl
    · cases w <;> cases z <;> try rfl
      rename_i j a
      simp only [ry_one, rx_one, rx_grp]
      cases hv : vh[a]? with
      | none => rfl
      | some x =>
        simp only [ry_ast_eq]
        cases rx_ast .bastore len x j v <;> rfl
  | castore =>
    rcases st with _ | ⟨v, _ | ⟨w, _ | ⟨z, r⟩⟩⟩
    · rfl
    · rfl
    · cases w <;> rfl
    · cases w <;> cases z <;> try rfl
      rename_i j a
      simp only [ry_one, rx_one, rx_grp]
      cases hv : vh[a]? with
      | none => rfl
      | some x =>
        simp only [ry_ast_eq]
        cases rx_ast .castore len x j v <;> rfl
  | sastore =>
    rcases st with _ | ⟨v, _ | ⟨w, _ | ⟨z, r⟩⟩⟩
    · rfl
    · rfl
    · cases w <;> rfl
    · cases w <;> cases z <;> try rfl
      rename_i j a
      simp only [ry_one, rx_one, rx_grp]
      cases hv : vh[a]? with
      | none => rfl
      | some x =>
        simp only [ry_ast_eq]
        cases rx_ast .sastore len x j v <;> rfl
  | invokevirtual ix =>
    simp only [ry_one, rx_one, rx_grp]
    cases cf (.invokevirtual ix) with
    | none => rfl
    | some C => exact ry_cal_eq
  | invokestatic ix =>
    simp only [ry_one, rx_one, rx_grp]
    cases cf (.invokestatic ix) with
    | none => rfl
    | some C => exact ry_cal_eq
  | invokespecial ix =>
    simp only [ry_one, rx_one, rx_grp]
    cases cf (.invokespecial ix) with
    | none => rfl
    | some C => exact ry_cal_eq
  | idiv =>
    rcases st with _ | ⟨v, _ | ⟨w, r⟩⟩
    · rfl
    · rfl
    · rcases len with _ | _ | n
      · cases v <;> cases w <;> rfl
      · cases v <;> cases w <;> try rfl
        rename_i y x
        by_cases hy : y = 0
        · simp [ry_one, rx_one, rx_grp, ry_div, rx_bin, hy, rx_then]
        · simp [ry_one, rx_one, rx_grp, ry_div, rx_bin, hy, rx_then]
      · cases v <;> cases w <;> rfl
  | irem =>
    rcases st with _ | ⟨v, _ | ⟨w, r⟩⟩
    · rfl
    · rfl
    · rcases len with _ | _ | n
      · cases v <;> cases w <;> rfl
      · cases v <;> cases w <;> try rfl
        rename_i y x
        by_cases hy : y = 0
        · simp [ry_one, rx_one, rx_grp, ry_div, rx_bin, hy, rx_then]
        · simp [ry_one, rx_one, rx_grp, ry_div, rx_bin, hy, rx_then]
      · cases v <;> cases w <;> rfl
  | ldiv =>
    rcases st with _ | ⟨v, _ | ⟨w, r⟩⟩
    · rfl
    · rfl
    · rcases len with _ | _ | n
      · cases v <;> cases w <;> rfl
      · cases v <;> cases w <;> try rfl
        rename_i y x
        by_cases hy : y = 0
        · simp [ry_one, rx_one, rx_grp, ry_div, rx_bin, hy, rx_then]
        · simp [ry_one, rx_one, rx_grp, ry_div, rx_bin, hy, rx_then]
      · cases v <;> cases w <;> rfl
  | lrem =>
    rcases st with _ | ⟨v, _ | ⟨w, r⟩⟩
    · rfl
    · rfl
    · rcases len with _ | _ | n
      · cases v <;> cases w <;> rfl
      · cases v <;> cases w <;> try rfl
        rename_i y x
        by_cases hy : y = 0
        · simp [ry_one, rx_one, rx_grp, ry_div, rx_bin, hy, rx_then]
        · simp [ry_one, rx_one, rx_grp, ry_div, rx_bin, hy, rx_then]
      · cases v <;> cases w <;> rfl
  | getfield ix =>
    simp only [ry_one, rx_one]
    cases fg ix with
    | none => exact ry_get_eq
    | some f => rfl
  | getstatic ix => rfl
  | arraylength => rfl
  | new ix => rfl
  | newarray t => rfl
  | iinc j n =>
    simp only [ry_one, rx_one, rx_inc]
    cases rx_lk ls j with
    | none => rfl
    | some v =>
      cases v <;> try rfl
      simp only
      cases Nat.beq len 3 <;> rfl
  | _ => first
    | exact ry_ps_eq
    | exact ry_ld_eq
    | exact ry_st_eq
    | exact ry_sk_eq
    | exact ry_un_eq
    | (rcases st with _ | ⟨v, _ | ⟨w, r⟩⟩ <;> first | rfl | exact ry_bn_eq (st := v :: w :: r))
variable {rt : Option FieldType}
theorem ry_ret_ne {i : Instr} {len : Nat} {st : List Value} {vh : rx_H} (h : ¬ ∃ y, st = [.int y] ∧ rt = some .boolean ∧ i = .ireturn ∧ len = 1) : ry_ret rt i len st vh = (match rx_ret rt i len st with | some rv => some (some (rv, vh)) | none => none) := by
  unfold ry_ret
  split
  · exact absurd ⟨_, rfl, rfl, rfl, rfl⟩ h
  · rfl
theorem ry_gen {i : Instr} {len : Nat} {st : List Value} {vh : rx_H} {x y : rx_R} (hxy : x = y) (hy : i = .ireturn → x = none) : (match ry_ret rt i len st vh with | some z => z | none => x) = (match rx_ret rt i len st with | some rv => some (rv, vh) | none => y) := by
  subst hxy
  by_cases h : ∃ y, st = [.int y] ∧ rt = some .boolean ∧ i = .ireturn ∧ len = 1
  · obtain ⟨y, rfl, rfl, rfl, rfl⟩ := h
    have hx0 := hy rfl
    by_cases hy : y = 0 ∨ y = 1
    · have e1 : (decide (y = 0) || decide (y = 1)) = true := by simpa using hy
      simp only [ry_ret, rx_ret, e1, cond_true, if_pos hy]
    · have e1 : (decide (y = 0) || decide (y = 1)) = false := by simpa using hy
      simp only [ry_ret, rx_ret, e1, cond_false, if_neg hy]
      rw [hx0]
  · rw [ry_ret_ne h]
    cases rx_ret rt i len st <;> rfl
theorem rx_one_ir {len : Nat} {ls : rx_L} {st : List Value} {vh : rx_H} {nc ns : Nat} : rx_one kc fl fp gs fg nw cf mc ms .ireturn len ls st vh nc ns = none := by
  rcases st with _ | ⟨v, _ | ⟨w, r⟩⟩ <;> rfl
theorem ry_blk_eq {K : rx_K} : ∀ (is : List (Instr × Nat)) (pc : Nat) (ls : rx_L) (st : List Value) (vh : rx_H) (nc ns : Nat), ry_blk kc fl fp gs fg nw cf rt mc ms K is pc ls st vh nc ns = rx_blk kc fl fp gs fg nw cf rt mc ms K is pc ls st vh nc ns
  | [], _, _, _, _, _, _ => rfl
  | (i, len) :: r, pc, ls, st, vh, nc, ns => by
    have ih := ry_blk_eq (K := K) r
    have key : ry_one kc fl fp gs fg nw cf mc ms i len ls st vh nc ns (fun ls st vh nc ns => ry_blk kc fl fp gs fg nw cf rt mc ms K r (pc + len) ls st vh nc ns) = (match rx_one kc fl fp gs fg nw cf mc ms i len ls st vh nc ns with
        | some S => rx_blk kc fl fp gs fg nw cf rt mc ms K r (pc + len) S.1 S.2.1 S.2.2.1 S.2.2.2.1 S.2.2.2.2
        | none => none) := by
      rw [ry_one_eq]
      unfold rx_then
      cases rx_one kc fl fp gs fg nw cf mc ms i len ls st vh nc ns with
      | none => rfl
      | some S => exact ih _ _ _ _ _ _
    have kr : i = .ireturn → ry_one kc fl fp gs fg nw cf mc ms i len ls st vh nc ns (fun ls st vh nc ns => ry_blk kc fl fp gs fg nw cf rt mc ms K r (pc + len) ls st vh nc ns) = none := by
      intro h
      subst h
      rw [key, rx_one_ir]
    cases i with
    | if_icmp c off => simp only [ry_blk, rx_blk, ih]; rfl
    | ifCond c off => simp only [ry_blk, rx_blk, ih]; rfl
    | goto off => rfl
    | lookupswitch d ps => rfl
    | tableswitch d lo hi os => rfl
    | _ => exact ry_gen key kr
theorem ry_run_eq {cd : List (Nat × List (Instr × Nat))} : ∀ (n : Nat), ry_run kc fl fp gs fg nw cf rt mc ms cd n = rx_run kc fl fp gs fg nw cf rt mc ms cd n
  | 0 => rfl
  | n + 1 => by
    funext pc ls st vh nc ns
    simp only [ry_run, rx_run]
    rw [ry_run_eq n]
    cases rx_lkb cd pc with
    | none => rfl
    | some is => exact ry_blk_eq _ _ _ _ _ _ _
end RYF
/-- the functions by the second machine -/
noncomputable def ry_fn (kc : Nat → Option Value) (fl fp : Nat → Option (Nat × Nat × FieldType)) (gs fg : Nat → Option Nat) (nw : Nat → Option (Nat × Nat × List Value)) (cf : Instr → Option rx_C) (rt : Option FieldType) (mc ms nL : Nat) (cd : List (Nat × List (Instr × Nat))) (n : Nat) (vh : rx_H) (As : List Value) : rx_R := bif Nat.ble ((As.map Value.category).sum) nL then ry_run kc fl fp gs fg nw cf rt mc ms cd n 0 (lv_args 0 As) [] vh 0 0 else none
theorem ry_fn_eq {kc : Nat → Option Value} {fl fp : Nat → Option (Nat × Nat × FieldType)} {gs fg : Nat → Option Nat} {nw : Nat → Option (Nat × Nat × List Value)} {cf : Instr → Option rx_C} {rt : Option FieldType} {mc ms nL : Nat} {cd : List (Nat × List (Instr × Nat))} {n : Nat} {vh : rx_H} {As : List Value} {x : rx_R} (h : ry_fn kc fl fp gs fg nw cf rt mc ms nL cd n vh As = x) : rx_fn kc fl fp gs fg nw cf rt mc ms nL cd n vh As = x := by
  rw [← h]
  unfold rx_fn ry_fn
  rw [ry_run_eq]
theorem ry_t {α : Type} {c : Prop} {d : Decidable c} {a b x : α} (h : c) (e : a = x) : @ite α c d a b = x := (if_pos h).trans e
theorem ry_f {α : Type} {c : Prop} {d : Decidable c} {a b x : α} (h : ¬ c) (e : b = x) : @ite α c d a b = x := (if_neg h).trans e
theorem ry_b {α β : Type} {x : Option α} {k : α → Option β} {q : α} {y : Option β} (h : x = some q) (e : k q = y) : Option.bind x k = y := by
  rw [h]
  exact e
