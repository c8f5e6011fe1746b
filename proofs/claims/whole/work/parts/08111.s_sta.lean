/-! the law's start: what is given -/
def lw_fl : List Cond := flatC (Jvm.Cond.and given_1 narrow_1)
theorem fl_at {args : Array Value} {s : State} (h : (Jvm.Cond.and given_1 narrow_1).before args s = true) (n : Nat) {w : Cond} (hn : lw_fl[n]? = some w) : w.before args s = true := flat_of_before _ h w (List.mem_of_getElem? hn)
def soL : List (String × Nat) := [("OperandStacks$Names", 24), ("OperandStacks$Names", 30), ("OperandStacks$Names", 32), ("OperandStacks$Names", 34), ("OperandStacks$Names", 36), ("OperandStacks$Names", 38), ("OperandStacks$Names", 40), ("OperandStacks$PlainOperators", 191), ("OperandStacks", 61), ("OperandStacks", 112), ("OperandStacks", 116), ("OperandStacks", 119), ("OperandStacks", 131), ("OperandStacks", 136), ("OperandStacks", 145), ("OperandStacks", 160), ("OperandStacks", 166), ("OperandStacks", 174)]
def sbL : List Nat := [131, 210, 277, 364, 451, 530, 607, 708, 678, 735, 761, 790, 819, 860, 901, 945, 984, 1018]
def tmS (i : Nat) : Term := .string (soL.getD i ("", 0)).1 (soL.getD i ("", 0)).2
def sb (i : Nat) : Nat := sbL.getD i 0
theorem fl_S1 : ∀ i, i < 18 → lw_fl[sb i]? = some (.exactly (tmS i) "java/lang/String") := by decide +kernel
theorem fl_S2 : ∀ i, i < 18 → lw_fl[sb i + 1]? = some (.eq (.field (tmS i) "java/lang/String" "coder" "B") (.int 0)) := by decide +kernel
theorem fl_S3 : ∀ i, i < 18 → lw_fl[sb i + 2]? = some (.arrayOf (.field (tmS i) "java/lang/String" "value" "[B") .byte) := by decide +kernel
theorem fl_S4 : ∀ i, i < 18 → lw_fl[sb i + 3]? = some (.eq (.length (.field (tmS i) "java/lang/String" "value" "[B")) (.int (Int32.ofNat (se_txt.getD i []).length))) := by decide +kernel
theorem fl_S5 : ∀ i, i < 18 → (se_txt.getD i []).length < 2 ^ 31 := by decide +kernel
theorem fl_E : ∀ i, i < 18 → ∀ j, j < (se_txt.getD i []).length → lw_fl[sb i + 4 + j]? = some (.eq (.elem (.field (tmS i) "java/lang/String" "value" "[B") (.int (Int32.ofNat j))) (.int ((se_txt.getD i []).getD j 0))) := by decide +kernel
theorem fl_G : ∀ j, j < 74 → lw_fl[14 + j]? = some (.eq (.elem (.static "OperandStacks$Machine" "SIGNATURES" "[I") (.int (Int32.ofNat j))) (.int (se_sig.getD j 0))) := by decide +kernel
theorem fl_K : ∀ j, j < 14 → lw_fl[91 + j]? = some (.eq (.elem (.static "OperandStacks$Machine" "TAKEN" "[I") (.int (Int32.ofNat j))) (.int (se_tak.getD j 0))) := by decide +kernel
theorem fl_R : ∀ q ∈ se_str, q.2.2.2 < 18 ∧ (q.1, q.2.1) = soL.getD q.2.2.2 ("", 0) ∧ Cond.stringRef q.1 q.2.1 q.2.2.1 ∈ lw_tbl := by decide +kernel
theorem fl_N : ∀ q ∈ se_nest, Cond.methodLinkNest q.1 q.2.1 q.2.2.1 q.2.2.2 ∈ lw_tbl := by decide +kernel
theorem fl_B : ∀ w ∈ xw_bad, w ∈ lw_tbl := by decide +kernel
def adS (aS aT b : Nat) (g : Nat → Nat × Nat) (k : Nat) : Nat := if k = 1000000 then aS else if k = 1000001 then aT else if k = 1000050 then b else if k < 1000200 then (g (k - 1000100)).1 else (g (k - 1000200)).2
theorem adS_K {aS aT b : Nat} {g : Nat → Nat × Nat} {i : Nat} (h : i < 18) : adS aS aT b g (1000100 + i) = (g i).1 := by
  unfold adS
  rw [if_neg (by omega), if_neg (by omega), if_neg (by omega), if_pos (by omega), Nat.add_sub_cancel_left]
theorem adS_V {aS aT b : Nat} {g : Nat → Nat × Nat} {i : Nat} : adS aS aT b g (1000200 + i) = (g i).2 := by
  unfold adS
  rw [if_neg (by omega), if_neg (by omega), if_neg (by omega), if_neg (by omega), Nat.add_sub_cancel_left]
set_option maxHeartbeats 1000000 in
theorem law_J {s : State} {b : Nat} (hts : ∀ w ∈ lw_tbl, w.before #[Value.ref b] s = true) (hgv : (Jvm.Cond.and given_1 narrow_1).before #[Value.ref b] s = true) : ∃ ad : Nat → Nat, ad 1000050 = b ∧ rx_J ad (fun q => s.heap.size ≤ q) s s.heap := by
  have hA : ∀ a : Nat, a < s.heap.size → ¬ (fun q : Nat => s.heap.size ≤ q) a := fun a h => Nat.not_le.mpr h
  obtain ⟨aS, eS, tS⟩ := va_Tof (tm := (.static "OperandStacks$Machine" "SIGNATURES" "[I")) (ty := .int) (N := 74) (f := fun j => .int (se_sig.getD j 0)) (by decide) (fl_at hgv 12 (by decide +kernel)) (va_eqt (fl_at hgv 13 (w := .eq (.length (.static "OperandStacks$Machine" "SIGNATURES" "[I")) (.int (Int32.ofNat 74))) (by decide +kernel))) (fun j hj => va_eqt (fl_at hgv _ (fl_G j hj))) hA
  obtain ⟨aT, eT, tT⟩ := va_Tof (tm := (.static "OperandStacks$Machine" "TAKEN" "[I")) (ty := .int) (N := 14) (f := fun j => .int (se_tak.getD j 0)) (by decide) (fl_at hgv 89 (by decide +kernel)) (va_eqt (fl_at hgv 90 (w := .eq (.length (.static "OperandStacks$Machine" "TAKEN" "[I")) (.int (Int32.ofNat 14))) (by decide +kernel))) (fun j hj => va_eqt (fl_at hgv _ (fl_K j hj))) hA
  have h0 : ∀ i : Nat, ∃ q : Nat × Nat, i < 18 → (tmS i).eval #[Value.ref b] s none [] s = some (.ref q.1) ∧ va_O "java/lang/String" q.1 (fun q => s.heap.size ≤ q) s s.heap ∧ va_OF "java/lang/String" "coder" "B" (.int 0) q.1 (fun q => s.heap.size ≤ q) s s.heap ∧ va_OF "java/lang/String" "value" "[B" (.ref q.2) q.1 (fun q => s.heap.size ≤ q) s s.heap ∧ va_T .byte q.2 (se_txt.getD i []).length (fun j => .int ((se_txt.getD i []).getD j 0)) (fun q => s.heap.size ≤ q) s s.heap := by
    intro i
    by_cases hi : i < 18
    · have hex := fl_at hgv _ (fl_S1 i hi)
      obtain ⟨a, c, cA, kA, q1, -⟩ := Cond.exactly_spec (args := #[Value.ref b]) (first := s) (o := none) (s := s) (idx := []) (t := tmS i) (cls := "java/lang/String") hex
      obtain ⟨t, ht, hT⟩ := va_Tof (tm := (.field (tmS i) "java/lang/String" "value" "[B")) (f := fun j => .int ((se_txt.getD i []).getD j 0)) (A := (fun q => s.heap.size ≤ q)) (fl_S5 i hi) (fl_at hgv _ (fl_S3 i hi)) (va_eqt (fl_at hgv _ (fl_S4 i hi))) (fun j hj => va_eqt (fl_at hgv _ (fl_E i hi j hj))) hA
      exact ⟨(a, t), fun _ => ⟨q1, va_Oof hex q1 hA, vk_OFof q1 (va_eqt (fl_at hgv _ (fl_S2 i hi))) hA, vk_OFof q1 ht hA, hT⟩⟩
    · exact ⟨(0, 0), fun h => absurd h hi⟩
  obtain ⟨g, hg⟩ := Classical.axiomOfChoice h0
  refine ⟨adS aS aT b g, rfl, fun j q hj => ?_, fun i hi => ?_, fun k q hk => ?_, fun q hq => ?_, fun q hq => ?_, ?_⟩
  · unfold se_arr at hj
    cases h1 : Nat.beq j 1000000 with
    | true =>
      rw [h1, cond_true] at hj
      cases hj
      obtain rfl := Nat.eq_of_beq_eq_true h1
      exact ⟨.int, rfl, tS⟩
    | false =>
      rw [h1, cond_false] at hj
      cases h2 : Nat.beq j 1000001 with
      | true =>
        rw [h2, cond_true] at hj
        cases hj
        obtain rfl := Nat.eq_of_beq_eq_true h2
        exact ⟨.int, rfl, tT⟩
      | false =>
        rw [h2, cond_false] at hj
        cases h3 : Nat.ble 1000200 j with
        | false => rw [h3, cond_false] at hj; cases hj
        | true =>
          rw [h3, cond_true] at hj
          have hle := Nat.le_of_ble_eq_true h3
          split at hj
          · rename_i L hL
            cases hj
            have hlt : j - 1000200 < 18 := (List.getElem?_eq_some_iff.mp hL).1
            have hG : se_txt.getD (j - 1000200) [] = L := by rw [List.getD_eq_getElem?_getD, hL]; rfl
            refine ⟨.byte, rfl, ?_⟩
            have q := (hg (j - 1000200) hlt).2.2.2.2
            rw [hG] at q
            have e : adS aS aT b g j = (g (j - 1000200)).2 := by
              have e := adS_V (aS := aS) (aT := aT) (b := b) (g := g) (i := j - 1000200)
              rw [show 1000200 + (j - 1000200) = j by omega] at e
              exact e
            rw [e]
            exact q
          · cases hj
  · obtain ⟨_, q1, q2, q3, _⟩ := hg i hi
    rw [adS_K hi, adS_V]
    exact ⟨q1, q2, q3⟩
  · unfold se_sf at hk
    split at hk
    · cases hk
      exact va_Zref (hts _ (List.mem_of_getElem? (i := 784) (by decide +kernel))) (hts _ (List.mem_of_getElem? (i := 204) (by decide +kernel))) eS hA
    · cases hk
      exact va_Zref (hts _ (List.mem_of_getElem? (i := 794) (by decide +kernel))) (hts _ (List.mem_of_getElem? (i := 204) (by decide +kernel))) eT hA
    · cases hk
      exact va_Zof (hts _ (List.mem_of_getElem? (i := 249) (by decide +kernel))) (hts _ (List.mem_of_getElem? (i := 195) (by decide +kernel))) (va_eqt (fl_at hgv 4 (by decide +kernel))) hA
    · cases hk
  · obtain ⟨r1, r2, r3⟩ := fl_R q hq
    rw [adS_K r1]
    refine vk_R.of (hts _ r3) ?_
    have e := (hg q.2.2.2 r1).1
    unfold tmS at e
    rw [← r2] at e
    exact e
  · exact va_Nw.of rfl (hts _ (fl_N q hq))
  · exact va_Zqof (hts _ (List.mem_of_getElem? (i := 265) (by decide +kernel))) (hts _ (List.mem_of_getElem? (i := 197) (by decide +kernel))) (fl_at hgv 5 (by decide +kernel)) hA
theorem law_Z {s : State} {b : Nat} (hts : ∀ w ∈ lw_tbl, w.before #[Value.ref b] s = true) (hgv : (Jvm.Cond.and given_1 narrow_1).before #[Value.ref b] s = true) : rx_ZX (fun q => s.heap.size ≤ q) s s.heap := by
  have hA : ∀ a : Nat, a < s.heap.size → ¬ (fun q : Nat => s.heap.size ≤ q) a := fun a h => Nat.not_le.mpr h
  refine ⟨vx_Zqof (hts _ (List.mem_of_getElem? (i := 719) (by decide +kernel))) (hts _ (List.mem_of_getElem? (i := 210) (by decide +kernel))) (fl_at hgv 9 (by decide +kernel)) hA, vx_Zqof (hts _ (List.mem_of_getElem? (i := 721) (by decide +kernel))) (hts _ (List.mem_of_getElem? (i := 210) (by decide +kernel))) (fl_at hgv 10 (by decide +kernel)) hA, fun w hw => va_Nw.of ((by decide +kernel : ∀ w ∈ xw_bad, w.onTables = true) w hw) (hts w (fl_B w hw)), va_Nc.of (fl_at hgv 130 (by decide +kernel))⟩
theorem law_A {s : State} {b : Nat} (hts : ∀ w ∈ lw_tbl, w.before #[Value.ref b] s = true) {t : ArrayType} (h : rx_atn t ≠ none) : ∃ cA : ClassId, ArrOfT s cA (newarray.typeOf t) ∧ s.vm.findClass ("[" ++ (newarray.typeOf t).toString) = some cA := by
  obtain ⟨cA, kA, comp, h1, h2, h3⟩ := Cond.arrayClass_spec (hts _ (List.mem_filter.mp (rx_ar t h)).1)
  exact ⟨cA, fun n z => ⟨fun k h => (by cases h), kA, h2, comp, h3⟩, h1⟩
def kiL : List Nat := [359, 561, 486, 480, 226, 417, 517, 437, 533, 330, 218, 1605]
theorem law_I : ∀ k, k < 12 → lw_tbl[kiL.getD k 0]? = some (Cond.instantiable (vwCl.getD k (RX0, TX0, 0)).1 (vwCl.getD k (RX0, TX0, 0)).2.2) := by decide +kernel
theorem law_K {s : State} {b : Nat} (hts : ∀ w ∈ lw_tbl, w.before #[Value.ref b] s = true) : ∃ (D : va_G) (tys : List (ClassId × FieldType)) (ca : Nat → ClassId), va_K D vwCl tys s ∧ rx_tyok tys ca := by
  have h0 : ∀ k : Nat, ∃ r : ClassId × (Nat → Nat), ∀ q : vw_C, vwCl[k]? = some q → u_Kn s q.1 q.2.1 q.2.2 r.1 r.2 := by
    intro k
    by_cases hk : k < 12
    · obtain ⟨cC, iS, hK⟩ := u_known (C := (vwCl.getD k (RX0, TX0, 0)).1) (T := (vwCl.getD k (RX0, TX0, 0)).2.1) (N := (vwCl.getD k (RX0, TX0, 0)).2.2) hts (fun w hw => (List.mem_filter.mp ((rx_kinds k (vwCl.getD k (RX0, TX0, 0)) (by rw [List.getD_eq_getElem?_getD, List.getElem?_eq_getElem (show k < vwCl.length from hk)]; rfl)).1 w hw)).1) (hts _ (List.mem_of_getElem? (law_I k hk)))
      refine ⟨(cC, iS), fun q hq => ?_⟩
      have e : vwCl.getD k (RX0, TX0, 0) = q := by rw [List.getD_eq_getElem?_getD, hq]; rfl
      rw [e] at hK
      exact hK
    · refine ⟨(default, fun _ => 0), fun q hq => absurd (List.getElem?_eq_some_iff.mp hq).1 (fun h => hk h)⟩
  obtain ⟨g, hg⟩ := Classical.axiomOfChoice h0
  obtain ⟨c0, a0, b0⟩ := law_A hts (t := .int) (fun h => by cases h)
  obtain ⟨c1, a1, b1⟩ := law_A hts (t := .long) (fun h => by cases h)
  obtain ⟨c2, a2, b2⟩ := law_A hts (t := .byte) (fun h => by cases h)
  refine ⟨(fun k => (g k).1, fun k => (g k).2), [(c0, .int), (c1, .long), (c2, .byte)], fun t => if t = 0 then c0 else if t = 1 then c1 else c2, ⟨fun k q hq => hg k q hq, fun k q hq => ?_⟩, fun t ty ht => ?_⟩
  · match k, hq with
    | 0, hq => cases hq; exact ⟨a0, b0⟩
    | 1, hq => cases hq; exact ⟨a1, b1⟩
    | 2, hq => cases hq; exact ⟨a2, b2⟩
    | k + 3, hq => cases hq
  · match t, ht with
    | 0, ht => cases ht; rfl
    | 1, ht => cases ht; rfl
    | 2, ht => cases ht; rfl
    | t + 3, ht => cases ht
