/-! fewer known places, less fuel: the same answer -/
def rz_L (a' a : List Value) : Prop := ∀ (j : Nat) (v : Value), a'[j]? = some v → rx_tag v ≠ 3 → a[j]? = some v
theorem rz_L.rf {a : List Value} : rz_L a a := fun _ _ h _ => h
theorem rz_set_at {a : List Value} {i j : Nat} {w v : Value} : (a.set i w)[j]? = some v ↔ ((j = i ∧ i < a.length ∧ v = w) ∨ (j ≠ i ∧ a[j]? = some v)) := by
  by_cases h : j = i
  · subst h
    rw [List.getElem?_set]
    by_cases hl : j < a.length
    · rw [if_pos rfl, if_pos hl]
      exact ⟨fun z => Or.inl ⟨rfl, hl, (Option.some.inj z).symm⟩, fun z => z.elim (fun z => by rw [z.2.2]) (fun z => absurd rfl z.1)⟩
    · rw [if_pos rfl, if_neg hl]
      exact ⟨(fun z => by cases z), (fun z => z.elim (fun z => absurd z.2.1 hl) (fun z => absurd rfl z.1))⟩
  · rw [List.getElem?_set_ne (Ne.symm h)]
    exact ⟨fun z => Or.inr ⟨h, z⟩, fun z => z.elim (fun z => absurd z.1 h) (fun z => z.2)⟩
theorem rz_clr_mk {a : List Value} {i j : Nat} {v : Value} (h : a[j]? = some v) (hc : j + 1 = i → v.category = 1) : (rz_clr a i)[j]? = some v := by
  cases i with
  | zero => exact h
  | succ k =>
    show (bif rz_isL a[k]? then a.set k .null else a)[j]? = some v
    cases hb : rz_isL a[k]? with
    | false => exact h
    | true =>
      simp only [cond_true]
      by_cases hk : j = k
      · subst hk
        have := hc rfl
        rw [h] at hb
        cases v <;> first | (exact absurd this (show ¬ (2 : Nat) = 1 by decide)) | cases hb
      · rw [List.getElem?_set_ne (Ne.symm hk)]
        exact h
theorem rz_clr_len {a : List Value} {i : Nat} : (rz_clr a i).length = a.length := by
  cases i with
  | zero => rfl
  | succ k =>
    show (bif rz_isL a[k]? then a.set k .null else a).length = a.length
    cases rz_isL a[k]? <;> simp
theorem rz_L.st1 {a' a : List Value} {i : Nat} {v : Value} (h : rz_L a' a) (hl : a'.length = a.length) : rz_L (rz_st1 a' i v) (rz_st1 a i v) := by
  intro j w hj ht
  unfold rz_st1 at hj ⊢
  rw [rz_set_at] at hj ⊢
  rcases hj with ⟨e, hn, hv⟩ | ⟨e, hj⟩
  · exact Or.inl ⟨e, by rw [rz_clr_len] at hn ⊢; omega, hv⟩
  · obtain ⟨h1, h2⟩ := rz_clr_at hj ht
    exact Or.inr ⟨e, rz_clr_mk (h j w h1 ht) h2⟩
theorem rz_L.st2 {a' a : List Value} {i : Nat} {v : Value} (h : rz_L a' a) (hl : a'.length = a.length) : rz_L (rz_st2 a' i v) (rz_st2 a i v) := by
  intro j w hj ht
  have h1 := h.st1 (i := i) (v := v) hl
  unfold rz_st2 at hj ⊢
  rw [rz_set_at] at hj ⊢
  rcases hj with ⟨e, hn, hv⟩ | ⟨e, hj⟩
  · subst hv
    exact absurd rfl ht
  · exact Or.inr ⟨e, h1 j w hj ht⟩
theorem rz_st1_len {a : List Value} {i : Nat} {v : Value} : (rz_st1 a i v).length = a.length := by
  unfold rz_st1
  rw [List.length_set, rz_clr_len]
theorem rz_st2_len {a : List Value} {i : Nat} {v : Value} : (rz_st2 a i v).length = a.length := by
  unfold rz_st2
  rw [List.length_set, List.length_set, rz_clr_len]
section RZN
variable {kc : Nat → Option Value} {fl fp : Nat → Option (Nat × Nat × FieldType)} {gs fg : Nat → Option Nat} {cf : Instr → Option rx_C} {rt : Option FieldType} {rs : Option Value × rx_H}
theorem rz_one_mono {i : Instr} {len : Nat} {a' a st : List Value} {vh : rx_H} {K' K : rz_K5} (h : rz_one kc fl fp gs fg cf i len a' st vh K' = some rs) (hL : rz_L a' a) (hl : a'.length = a.length) (hK : ∀ b' b st vh, rz_L b' b → b'.length = b.length → K' b' st vh = some rs → K b st vh = some rs) : rz_one kc fl fp gs fg cf i len a st vh K = some rs := by
  revert h
  unfold rz_one
  rcases hj : rx_ldi i len with _ | ⟨j, t⟩
  · simp only
    rcases hs : rx_sti i len with _ | ⟨j, t⟩
    · simp only
      split
      · rename_i j n
        split
        · rename_i x hx
          rw [hL j _ hx (show (0 : Nat) ≠ 3 by decide)]
          simp only
          cases Nat.beq len 3
          · exact id
          · exact fun z => hK _ _ _ _ (hL.st1 hl) (by rw [rz_st1_len, rz_st1_len]; exact hl) z
        · intro z; cases z
      · rw [ry_one_eq, ry_one_eq]
        cases rx_one kc fl fp gs fg (fun _ => none) cf 0 0 i len [] st vh 0 0 with
        | none => exact id
        | some S => exact fun z => hK _ _ _ _ hL hl z
    · simp only
      rcases st with _ | ⟨v, r⟩
      · exact id
      · simp only
        cases Nat.beq (rx_tag v) t
        · exact id
        · simp only [cond_true]
          cases Nat.beq t 1
          · exact fun z => hK _ _ _ _ (hL.st1 hl) (rz_st1_len.trans (hl.trans rz_st1_len.symm)) z
          · exact fun z => hK _ _ _ _ (hL.st2 hl) (rz_st2_len.trans (hl.trans rz_st2_len.symm)) z
  · simp only
    have h3 : t ≠ 3 := by
      unfold rx_ldi at hj
      split at hj <;> first | (cases hj; decide) | cases hj
    rcases hv : a'[j]? with _ | v
    · intro z; cases z
    · simp only
      cases hb : Nat.beq (rx_tag v) t
      · intro z; cases z
      · rw [hL j v hv (by rw [Nat.eq_of_beq_eq_true hb]; exact h3)]
        simp only [hb, cond_true]
        exact fun z => hK _ _ _ _ hL hl z
theorem rz_blk_mono {K' K : rz_K} (hK : ∀ pc b' b st vh, rz_L b' b → b'.length = b.length → K' pc b' st vh = some rs → K pc b st vh = some rs) : ∀ (is : List (Instr × Nat)) (pc : Nat) (a' a st : List Value) (vh : rx_H), rz_L a' a → a'.length = a.length → rz_blk kc fl fp gs fg cf rt K' is pc a' st vh = some rs → rz_blk kc fl fp gs fg cf rt K is pc a st vh = some rs
  | [], pc, a', a, st, vh, hL, hl, h => hK pc a' a st vh hL hl h
  | (i, len) :: r, pc, a', a, st, vh, hL, hl, h => by
    have ih := rz_blk_mono hK r
    have gen : (match ry_ret rt i len st vh with | some x => x | none => rz_one kc fl fp gs fg cf i len a' st vh (fun a st vh => rz_blk kc fl fp gs fg cf rt K' r (pc + len) a st vh)) = some rs → (match ry_ret rt i len st vh with | some x => x | none => rz_one kc fl fp gs fg cf i len a st vh (fun a st vh => rz_blk kc fl fp gs fg cf rt K r (pc + len) a st vh)) = some rs := by
      cases ry_ret rt i len st vh with
      | some x => exact id
      | none => exact fun z => rz_one_mono z hL hl (fun b' b st vh h1 h2 h3 => ih _ _ _ _ _ h1 h2 h3)
    cases i with
    | if_icmp c off =>
      simp only [rz_blk] at h ⊢
      revert h
      split
      · rw [rq_if_eq, rq_if_eq]
        exact fun h => rx_if_mono (fun z => hK _ _ _ _ _ hL hl z) (fun z => ih _ _ _ _ _ hL hl z) h
      · exact id
    | ifCond c off =>
      simp only [rz_blk] at h ⊢
      revert h
      split
      · rw [rq_if_eq, rq_if_eq]
        exact fun h => rx_if_mono (fun z => hK _ _ _ _ _ hL hl z) (fun z => ih _ _ _ _ _ hL hl z) h
      · exact id
    | goto off =>
      simp only [rz_blk] at h ⊢
      revert h
      split
      · exact fun h => hK _ _ _ _ _ hL hl h
      · exact id
    | lookupswitch d ps =>
      simp only [rz_blk] at h ⊢
      revert h
      split
      · cases (ps.toList.zip (ps.toList.drop 1)).all (fun (a, next) => a.1 < next.1)
        · exact id
        · exact fun h => hK _ _ _ _ _ hL hl h
      · exact id
    | tableswitch d lo hi os =>
      simp only [rz_blk] at h ⊢
      revert h
      split
      · cases decide (hi + 1 = lo + (os.toList.length : Int))
        · exact id
        · exact fun h => hK _ _ _ _ _ hL hl h
      · exact id
    | _ => exact gen h
theorem rz_mono {cd : List (Nat × List (Instr × Nat))} : ∀ (n m pc : Nat) (a' a st : List Value) (vh : rx_H), n ≤ m → rz_L a' a → a'.length = a.length → rz_run kc fl fp gs fg cf rt cd pc a' st vh n = some rs → rz_run kc fl fp gs fg cf rt cd pc a st vh m = some rs
  | 0, _, _, _, _, _, _, _, _, _, h => by cases h
  | n + 1, 0, _, _, _, _, _, hm, _, _, _ => by omega
  | n + 1, m + 1, pc, a', a, st, vh, hm, hL, hl, h => by
    simp only [rz_run] at h ⊢
    revert h
    cases rx_lkb cd pc with
    | none => exact id
    | some is => exact fun h => rz_blk_mono (fun pc b' b st vh h1 h2 h3 => rz_mono n m pc b' b st vh (by omega) h1 h2 h3) is pc a' a st vh hL hl h
def rz_nul (a : List Value) : List Nat → List Value
  | [] => a
  | j :: r => rz_nul (a.set j .null) r
theorem rz_nul_L : ∀ (js : List Nat) (a : List Value), rz_L (rz_nul a js) a ∧ (rz_nul a js).length = a.length
  | [], _ => ⟨rz_L.rf, rfl⟩
  | j :: r, a => by
    obtain ⟨h1, h2⟩ := rz_nul_L r (a.set j .null)
    refine ⟨fun k v hk ht => ?_, by rw [show rz_nul a (j :: r) = rz_nul (a.set j .null) r from rfl, h2]; simp⟩
    have := h1 k v hk ht
    rw [rz_set_at] at this
    rcases this with ⟨-, -, rfl⟩ | ⟨-, z⟩
    · exact absurd rfl ht
    · exact z
/-- places that nobody reads any more are forgotten; fuel may be left over -/
theorem rz_fg {cd : List (Nat × List (Instr × Nat))} (js : List Nat) {n m pc : Nat} {a st : List Value} {vh : rx_H} (hm : n ≤ m) (h : rz_run kc fl fp gs fg cf rt cd pc (rz_nul a js) st vh n = some rs) : rz_run kc fl fp gs fg cf rt cd pc a st vh m = some rs := rz_mono n m pc _ a st vh hm (rz_nul_L js a).1 (rz_nul_L js a).2 h
end RZN
