/-! where the class throws -/
theorem x_run {I : Nat → Int32} {L : Nat → Int64} {T : Nat → Nat → Int32} {U : Nat → Nat → Int64} {a : Int32} (h : a < 0 ∨ ¬ a ≤ Int16.toInt32 (Int16.ofInt 1000)) : g_X11_run_11 (wc I L T U) [.ref 0, .int a] = some (none, wc I L T U) := by
  refine ry_fnS_eq ?_
  by_cases c : a < 0
  · exact ry_t c (ry_t ⟨rfl, rfl, rfl⟩ rfl)
  · exact ry_f c (ry_f (h.resolve_left c) (ry_t ⟨rfl, rfl, rfl⟩ rfl))
theorem x_error {I : Nat → Int32} {L : Nat → Int64} {T : Nat → Nat → Int32} {U : Nat → Nat → Int64} {a : Int32} (h : ¬ a = 0 ∧ ¬ a = 1) : g_X11_error_9 (wc I L T U) [.ref 0, .int a] = some (none, wc I L T U) := by
  refine ry_fnS_eq ?_
  exact ry_f h.1 (ry_f h.2 (ry_t ⟨rfl, rfl, rfl⟩ rfl))
theorem x_octet {I : Nat → Int32} {L : Nat → Int64} {T : Nat → Nat → Int32} {U : Nat → Nat → Int64} {a : Int32} (h : a < 0 ∨ ¬ a < I 3) : g_X11_octet_15 (wc I L T U) [.ref 0, .int a] = some (none, wc I L T U) := by
  refine ry_fnS_eq ?_
  by_cases c : a < 0
  · exact ry_t c (ry_t ⟨rfl, rfl, rfl⟩ rfl)
  · exact ry_f c (ry_f (h.resolve_left c) (ry_t ⟨rfl, rfl, rfl⟩ rfl))
theorem x_out {I : Nat → Int32} {L : Nat → Int64} {T : Nat → Nat → Int32} {U : Nat → Nat → Int64} {a : Int32} (h : a < 0 ∨ ¬ a < I 4) : g_X11_out_15 (wc I L T U) [.ref 0, .int a] = some (none, wc I L T U) := by
  refine ry_fnS_eq ?_
  by_cases c : a < 0
  · exact ry_t c (ry_t ⟨rfl, rfl, rfl⟩ rfl)
  · exact ry_f c (ry_f (h.resolve_left c) (ry_t ⟨rfl, rfl, rfl⟩ rfl))
theorem x_at1 {I : Nat → Int32} {L : Nat → Int64} {T : Nat → Nat → Int32} {U : Nat → Nat → Int64} {a b : Int32} (h : a < 0 ∨ ¬ a < I 8) : g_X11_at_15 (wc I L T U) [.ref 0, .int a, .int b] = some (none, wc I L T U) := by
  refine ry_fnS_eq ?_
  by_cases c : a < 0
  · exact ry_t c (ry_t ⟨rfl, rfl, rfl⟩ rfl)
  · exact ry_f c (ry_f (h.resolve_left c) (ry_t ⟨rfl, rfl, rfl⟩ rfl))
theorem x_at2 {I : Nat → Int32} {L : Nat → Int64} {T : Nat → Nat → Int32} {U : Nat → Nat → Int64} {a b : Int32} (h : ¬ a < 0 ∧ a < I 8 ∧ (b < 0 ∨ ¬ b ≤ 3)) : g_X11_at_34 (wc I L T U) [.ref 0, .int a, .int b] = some (none, wc I L T U) := by
  refine ry_fnS_eq ?_
  refine ry_f h.1 (ry_t h.2.1 ?_)
  by_cases c : b < 0
  · exact ry_t c (ry_t ⟨rfl, rfl, rfl⟩ rfl)
  · exact ry_f c (ry_f (h.2.2.resolve_left c) (ry_t ⟨rfl, rfl, rfl⟩ rfl))
theorem x_value1 {I : Nat → Int32} {L : Nat → Int64} {T : Nat → Nat → Int32} {U : Nat → Nat → Int64} {a b : Int32} (h : a < 0 ∨ ¬ a < I 2) : g_X11_value_15 (wc I L T U) [.ref 0, .int a, .int b] = some (none, wc I L T U) := by
  refine ry_fnS_eq ?_
  by_cases c : a < 0
  · exact ry_t c (ry_t ⟨rfl, rfl, rfl⟩ rfl)
  · exact ry_f c (ry_f (h.resolve_left c) (ry_t ⟨rfl, rfl, rfl⟩ rfl))
theorem x_value2 {I : Nat → Int32} {L : Nat → Int64} {T : Nat → Nat → Int32} {U : Nat → Nat → Int64} {a b : Int32} (h : ¬ a < 0 ∧ a < I 2 ∧ (b < 0 ∨ ¬ b ≤ 3)) : g_X11_value_34 (wc I L T U) [.ref 0, .int a, .int b] = some (none, wc I L T U) := by
  refine ry_fnS_eq ?_
  refine ry_f h.1 (ry_t h.2.1 ?_)
  by_cases c : b < 0
  · exact ry_t c (ry_t ⟨rfl, rfl, rfl⟩ rfl)
  · exact ry_f c (ry_f (h.2.2.resolve_left c) (ry_t ⟨rfl, rfl, rfl⟩ rfl))
theorem x_count {I : Nat → Int32} {L : Nat → Int64} {T : Nat → Nat → Int32} {U : Nat → Nat → Int64} {a : Int32} (h : ∀ w, w < 8 → a ≠ nI w) : g_X11_count_112 (wc I L T U) [.ref 0, .int a] = some (none, wc I L T U) := by
  have e : rx_tsw a 111 0 [47, 55, 63, 71, 79, 87, 95, 103] = 111 := by
    refine (rx_tsw_eq 0 _).1 ?_
    rcases neg_or a with hn | ⟨k, hk, rfl⟩
    · left
      rw [Int32.lt_iff_toInt_lt] at hn
      exact hn
    · right
      rw [nI_toInt hk]
      by_cases c : k < 8
      · exact absurd rfl (h k c)
      · show ((0 : Int) + 8 ≤ (k : Int))
        omega
  refine ry_fnS_eq ?_
  refine Eq.trans (b := ry_runS (rx_lkk kC_X11) (rx_lkf fL_X11) (rx_lkf fP_X11) (rx_lkg gS_X11) (rx_lkg fG_X11) (rx_lkw nW_X11) ct_X11_count_112 (some .int) 1 6 kt_X11_count_112 112 StN 9 (((1 : Nat) : Int) + rx_tsw a 111 0 [47, 55, 63, 71, 79, 87, 95, 103]).toNat (lv_args 0 [.ref 0, .int a]) [] (wc I L T U) 0 0) rfl ?_
  rw [e]
  exact ry_t ⟨rfl, rfl, rfl⟩ rfl
theorem x_name {I : Nat → Int32} {L : Nat → Int64} {T : Nat → Nat → Int32} {U : Nat → Nat → Int64} {a b : Int32} (h : a < 0 ∨ (¬ a < 0 ∧ I 0 ≤ a) ∨ (¬ a < 0 ∧ ¬ I 0 ≤ a ∧ b < Int32.ofInt (-1)) ∨ (∃ j, a = nI j ∧ j < 160 ∧ ¬ I 0 ≤ nI j ∧ ¬ b < Int32.ofInt (-1) ∧ ¬ b < T 0 j)) : g_X11_name_32 (wc I L T U) [.ref 0, .int a, .int b] = some (none, wc I L T U) := by
  refine ry_fnS_eq ?_
  rcases h with h | ⟨h1, h2⟩ | ⟨h1, h2, h3⟩ | ⟨j, rfl, h1, h2, h3, h4⟩
  · exact ry_t h (ry_t ⟨rfl, rfl, rfl⟩ rfl)
  · exact ry_f h1 (ry_t h2 (ry_t ⟨rfl, rfl, rfl⟩ rfl))
  · exact ry_f h1 (ry_f h2 (ry_t h3 (ry_t ⟨rfl, rfl, rfl⟩ rfl)))
  · exact ry_f (nI_n0 (by omega)) (ry_f h2 (ry_f h3 (ry_b (s_lengthOf (I := I) (L := L) (T := T) (U := U) rfl h1) (ry_f h4 (ry_t ⟨rfl, rfl, rfl⟩ rfl)))))
theorem x_dic1 {I : Nat → Int32} {L : Nat → Int64} {T : Nat → Nat → Int32} {U : Nat → Nat → Int64} {a b c : Int32} (h : DB1 I T a b) : g_X11_dictionary_33 (wc I L T U) [.ref 0, .int a, .int b, .int c] = some (none, wc I L T U) := by
  refine ry_fnS_eq ?_
  rcases h with h | ⟨h1, h2⟩ | ⟨h1, h2, h3⟩ | ⟨j, rfl, h1, h2, h3, h4⟩
  · exact ry_t h (ry_t ⟨rfl, rfl, rfl⟩ rfl)
  · exact ry_f h1 (ry_t h2 (ry_t ⟨rfl, rfl, rfl⟩ rfl))
  · exact ry_f h1 (ry_f h2 (ry_t h3 (ry_t ⟨rfl, rfl, rfl⟩ rfl)))
  · exact ry_f (nI_n0 (by omega)) (ry_f h2 (ry_f h3 (ry_b (s_pairsOf (I := I) (L := L) (T := T) (U := U) rfl h1) (ry_f h4 (ry_t ⟨rfl, rfl, rfl⟩ rfl)))))
theorem x_dic2 {I : Nat → Int32} {L : Nat → Int64} {T : Nat → Nat → Int32} {U : Nat → Nat → Int64} {a b c : Int32} (h : DB2 I T a b c) : g_X11_dictionary_81 (wc I L T U) [.ref 0, .int a, .int b, .int c] = some (none, wc I L T U) := by
  refine ry_fnS_eq ?_
  obtain ⟨j, k, rfl, h1, h2, rfl, h3, h4, h5⟩ := h
  refine ry_f (nI_n0 (by omega)) (ry_f h2 (ry_f (nI_nm2 h3) (ry_b (s_pairsOf (I := I) (L := L) (T := T) (U := U) rfl h1) (ry_t h4 (ry_f (ne_m1 h3) (ry_f (ne_m2 h3) ?_))))))
  by_cases d : c < 0
  · exact ry_t d (ry_t ⟨rfl, rfl, rfl⟩ rfl)
  · exact ry_f d (ry_f (h5.resolve_left d) (ry_t ⟨rfl, rfl, rfl⟩ rfl))
