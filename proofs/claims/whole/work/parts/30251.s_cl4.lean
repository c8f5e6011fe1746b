set_option maxRecDepth 100000 in
theorem i4v (FO : rx_F) (hO : ∀ (vh : rx_H) (a : Nat), FO vh [.ref a] = some (none, vh)) (MC : Nat) (hm : ∀ k, k ≤ 3 → Nat.ble k MC = true) (G_X4_meetAll : rx_F) {I1 : Nat → Int32} {L1 : Nat → Int64} {T1 : Nat → Nat → Int32} {U1 : Nat → Nat → Int64} {I2 : Nat → Int32} {L2 : Nat → Int64} {T2 : Nat → Nat → Int32} {U2 : Nat → Nat → Int64} {I3 : Nat → Int32} {L3 : Nat → Int64} {T3 : Nat → Nat → Int32} {U3 : Nat → Nat → Int64} {I4 : Nat → Int32} {L4 : Nat → Int64} {T4 : Nat → Nat → Int32} {U4 : Nat → Nat → Int64} {I5 : Nat → Int32} {L5 : Nat → Int64} {T5 : Nat → Nat → Int32} {U5 : Nat → Nat → Int64} {I6 : Nat → Int32} {L6 : Nat → Int64} {T6 : Nat → Nat → Int32} {U6 : Nat → Nat → Int64} {I7 : Nat → Int32} {L7 : Nat → Int64} {T7 : Nat → Nat → Int32} {U7 : Nat → Nat → Int64} (q1 : G_X4_meetAll [.inr (10, [.null, .null, .null, .null, .null, .null]),
    .inr (4, [.ref 2, .ref 3, .ref 4, .int 0, .long 0, .long 0, .int 0]),
    .inl (1, 160, .inr (.inl (fun _ => 0))),
    .inl (1, 160, .inr (.inl (fun _ => 0))),
    .inl (0, 160, .inl (fun _ => 0))] [.ref 1, .ref 1000100] = some (none, [.inr (10, [.null, .null, .null, .null, .null, .null]),
    .inr (4, [.ref 2, .ref 3, .ref 4, .int (I1 0), .long (L1 0), .long (L1 1), .int (I1 1)]),
    .inl (1, 160, .inr (.inl (U1 0))),
    .inl (1, 160, .inr (.inl (U1 1))),
    .inl (0, 160, .inl (T1 0))])) (q2 : G_X4_meetAll [.inr (10, [.null, .null, .null, .null, .null, .null]),
    .inr (4, [.ref 2, .ref 3, .ref 4, .int (I1 0), .long (L1 0), .long (L1 1), .int (I1 1)]),
    .inl (1, 160, .inr (.inl (U1 0))),
    .inl (1, 160, .inr (.inl (U1 1))),
    .inl (0, 160, .inl (T1 0))] [.ref 1, .ref 1000101] = some (none, [.inr (10, [.null, .null, .null, .null, .null, .null]),
    .inr (4, [.ref 2, .ref 3, .ref 4, .int (I2 0), .long (L2 0), .long (L2 1), .int (I2 1)]),
    .inl (1, 160, .inr (.inl (U2 0))),
    .inl (1, 160, .inr (.inl (U2 1))),
    .inl (0, 160, .inl (T2 0))])) (q3 : G_X4_meetAll [.inr (10, [.null, .null, .null, .null, .null, .null]),
    .inr (4, [.ref 2, .ref 3, .ref 4, .int (I2 0), .long (L2 0), .long (L2 1), .int (I2 1)]),
    .inl (1, 160, .inr (.inl (U2 0))),
    .inl (1, 160, .inr (.inl (U2 1))),
    .inl (0, 160, .inl (T2 0))] [.ref 1, .ref 1000102] = some (none, [.inr (10, [.null, .null, .null, .null, .null, .null]),
    .inr (4, [.ref 2, .ref 3, .ref 4, .int (I3 0), .long (L3 0), .long (L3 1), .int (I3 1)]),
    .inl (1, 160, .inr (.inl (U3 0))),
    .inl (1, 160, .inr (.inl (U3 1))),
    .inl (0, 160, .inl (T3 0))])) (q4 : G_X4_meetAll [.inr (10, [.null, .null, .null, .null, .null, .null]),
    .inr (4, [.ref 2, .ref 3, .ref 4, .int (I3 0), .long (L3 0), .long (L3 1), .int (I3 1)]),
    .inl (1, 160, .inr (.inl (U3 0))),
    .inl (1, 160, .inr (.inl (U3 1))),
    .inl (0, 160, .inl (T3 0))] [.ref 1, .ref 1000103] = some (none, [.inr (10, [.null, .null, .null, .null, .null, .null]),
    .inr (4, [.ref 2, .ref 3, .ref 4, .int (I4 0), .long (L4 0), .long (L4 1), .int (I4 1)]),
    .inl (1, 160, .inr (.inl (U4 0))),
    .inl (1, 160, .inr (.inl (U4 1))),
    .inl (0, 160, .inl (T4 0))])) (q5 : G_X4_meetAll [.inr (10, [.null, .null, .null, .null, .null, .null]),
    .inr (4, [.ref 2, .ref 3, .ref 4, .int (I4 0), .long (L4 0), .long (L4 1), .int (I4 1)]),
    .inl (1, 160, .inr (.inl (U4 0))),
    .inl (1, 160, .inr (.inl (U4 1))),
    .inl (0, 160, .inl (T4 0))] [.ref 1, .ref 1000104] = some (none, [.inr (10, [.null, .null, .null, .null, .null, .null]),
    .inr (4, [.ref 2, .ref 3, .ref 4, .int (I5 0), .long (L5 0), .long (L5 1), .int (I5 1)]),
    .inl (1, 160, .inr (.inl (U5 0))),
    .inl (1, 160, .inr (.inl (U5 1))),
    .inl (0, 160, .inl (T5 0))])) (q6 : G_X4_meetAll [.inr (10, [.null, .null, .null, .null, .null, .null]),
    .inr (4, [.ref 2, .ref 3, .ref 4, .int (I5 0), .long (L5 0), .long (L5 1), .int (I5 1)]),
    .inl (1, 160, .inr (.inl (U5 0))),
    .inl (1, 160, .inr (.inl (U5 1))),
    .inl (0, 160, .inl (T5 0))] [.ref 1, .ref 1000105] = some (none, [.inr (10, [.null, .null, .null, .null, .null, .null]),
    .inr (4, [.ref 2, .ref 3, .ref 4, .int (I6 0), .long (L6 0), .long (L6 1), .int (I6 1)]),
    .inl (1, 160, .inr (.inl (U6 0))),
    .inl (1, 160, .inr (.inl (U6 1))),
    .inl (0, 160, .inl (T6 0))])) (q7 : G_X4_meetAll [.inr (10, [.null, .null, .null, .null, .null, .null]),
    .inr (4, [.ref 2, .ref 3, .ref 4, .int (I6 0), .long (L6 0), .long (L6 1), .int (I6 1)]),
    .inl (1, 160, .inr (.inl (U6 0))),
    .inl (1, 160, .inr (.inl (U6 1))),
    .inl (0, 160, .inl (T6 0))] [.ref 1, .ref 1000106] = some (none, [.inr (10, [.null, .null, .null, .null, .null, .null]),
    .inr (4, [.ref 2, .ref 3, .ref 4, .int (I7 0), .long (L7 0), .long (L7 1), .int (I7 1)]),
    .inl (1, 160, .inr (.inl (U7 0))),
    .inl (1, 160, .inr (.inl (U7 1))),
    .inl (0, 160, .inl (T7 0))])) : ry_fn (rx_lkk kC_X4) (rx_lkf fL_X4) (rx_lkf fI_X4) (rx_lkg gS_X4) (rx_lkg fG_X4) (rx_lkw nW_X4) (rx_lkc [(26, (2, some 4, 0, 0, G_X4_meetAll))] [] [(1, (1, none, 0, 0, FO))]) none MC 480 1 kd_X4_init rx_fu [.inr (10, [.null, .null, .null, .null, .null, .null]),
    .inr (4, [.null, .null, .null, .int 0, .long 0, .long 0, .int 0])] [.ref 1] = some (none, wn I7 L7 T7 U7) := by
  refine ry_b (hO _ _) ?_
  refine ry_ms (W := [.inr (10, [.null, .null, .null, .null, .null, .null]),
    .inr (4, [.null, .null, .null, .int 0, .long 0, .long 0, .int 0]),
    .inl (1, 160, .inr (.inl (fun _ => 0)))]) ?_ ?_ ?_
  · first | exact band (hm _ (Nat.le_of_ble_eq_true rfl)) rfl | exact band rfl (band (hm _ (Nat.le_of_ble_eq_true rfl)) rfl)
  · exact rfl
  refine ry_ms (W := [.inr (10, [.null, .null, .null, .null, .null, .null]),
    .inr (4, [.ref 2, .null, .null, .int 0, .long 0, .long 0, .int 0]),
    .inl (1, 160, .inr (.inl (fun _ => 0))),
    .inl (1, 160, .inr (.inl (fun _ => 0)))]) ?_ ?_ ?_
  · first | exact band (hm _ (Nat.le_of_ble_eq_true rfl)) rfl | exact band rfl (band (hm _ (Nat.le_of_ble_eq_true rfl)) rfl)
  · exact rfl
  refine ry_ms (W := [.inr (10, [.null, .null, .null, .null, .null, .null]),
    .inr (4, [.ref 2, .ref 3, .null, .int 0, .long 0, .long 0, .int 0]),
    .inl (1, 160, .inr (.inl (fun _ => 0))),
    .inl (1, 160, .inr (.inl (fun _ => 0))),
    .inl (0, 160, .inl (fun _ => 0))]) ?_ ?_ ?_
  · first | exact band (hm _ (Nat.le_of_ble_eq_true rfl)) rfl | exact band rfl (band (hm _ (Nat.le_of_ble_eq_true rfl)) rfl)
  · exact rfl
  refine ry_cw (hm _ (Nat.le_of_ble_eq_true rfl)) rfl rfl rfl q1 ?_
  refine ry_cw (hm _ (Nat.le_of_ble_eq_true rfl)) rfl rfl rfl q2 ?_
  refine ry_cw (hm _ (Nat.le_of_ble_eq_true rfl)) rfl rfl rfl q3 ?_
  refine ry_cw (hm _ (Nat.le_of_ble_eq_true rfl)) rfl rfl rfl q4 ?_
  refine ry_cw (hm _ (Nat.le_of_ble_eq_true rfl)) rfl rfl rfl q5 ?_
  refine ry_cw (hm _ (Nat.le_of_ble_eq_true rfl)) rfl rfl rfl q6 ?_
  refine ry_cw (hm _ (Nat.le_of_ble_eq_true rfl)) rfl rfl rfl q7 ?_
  exact rfl
theorem i4 : ∃ (I : Nat → Int32) (L : Nat → Int64) (T : Nat → Nat → Int32) (U : Nat → Nat → Int64), f_X4_init [.inr (10, [.null, .null, .null, .null, .null, .null]),
    .inr (4, [.null, .null, .null, .int 0, .long 0, .long 0, .int 0])] [.ref 1] = some (none, wn I L T U) ∧ NS 83 I T U := by
  obtain ⟨I1, L1, T1, U1, h1, n1⟩ := sn_meetAll0 (I := fun _ => 0) (L := fun _ => 0) (T := fun _ _ => 0) (U := fun _ _ => 0) ⟨rfl, fun i h => absurd h (by omega)⟩
  obtain ⟨I2, L2, T2, U2, h2, n2⟩ := sn_meetAll1 (L := L1) n1
  obtain ⟨I3, L3, T3, U3, h3, n3⟩ := sn_meetAll2 (L := L2) n2
  obtain ⟨I4, L4, T4, U4, h4, n4⟩ := sn_meetAll3 (L := L3) n3
  obtain ⟨I5, L5, T5, U5, h5, n5⟩ := sn_meetAll4 (L := L4) n4
  obtain ⟨I6, L6, T6, U6, h6, n6⟩ := sn_meetAll5 (L := L5) n5
  obtain ⟨I7, L7, T7, U7, h7, n7⟩ := sn_meetAll6 (L := L6) n6
  exact ⟨I7, L7, T7, U7, ry_fn_eq (i4v rx_F0 (fun _ _ => rfl) 3 (fun k hk => Nat.ble_eq_true_of_le hk) f_X4_meetAll h1 h2 h3 h4 h5 h6 h7), n7⟩
