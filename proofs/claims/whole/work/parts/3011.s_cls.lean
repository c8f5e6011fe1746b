set_option maxRecDepth 100000 in
theorem i9 {I : Nat → Int32} {L : Nat → Int64} {T : Nat → Nat → Int32} {U : Nat → Nat → Int64} : f_X9_init [.inr (10, [.ref 1, .null, .null, .null, .null, .null]),
    .inr (4, [.ref 2, .ref 3, .ref 4, .int (I 0), .long (L 0), .long (L 1), .int (I 1)]),
    .inl (1, 160, .inr (.inl (U 0))),
    .inl (1, 160, .inr (.inl (U 1))),
    .inl (0, 160, .inl (T 0)),
    .inr (9, [.null, .null, .null, .int 0, .int 0, .int 0])] [.ref 5] = some (none, [.inr (10, [.ref 1, .null, .null, .null, .null, .null]),
    .inr (4, [.ref 2, .ref 3, .ref 4, .int (I 0), .long (L 0), .long (L 1), .int (I 1)]),
    .inl (1, 160, .inr (.inl (U 0))),
    .inl (1, 160, .inr (.inl (U 1))),
    .inl (0, 160, .inl (T 0)),
    .inr (9, [.ref 6, .ref 7, .ref 8, .int 0, .int 0, .int 0]),
    .inl (1, 600, .inr (.inl (fun _ => 0))),
    .inl (2, 600, .inl (fun _ => 0)),
    .inl (2, 1000, .inl (fun _ => 0))]) := ry_fn_eq (ry_b rfl rfl)
set_option maxRecDepth 100000 in
theorem i5 {I : Nat → Int32} {L : Nat → Int64} {T : Nat → Nat → Int32} {U : Nat → Nat → Int64} : f_X5_init [.inr (10, [.ref 1, .ref 5, .ref 9, .null, .null, .null]),
    .inr (4, [.ref 2, .ref 3, .ref 4, .int (I 0), .long (L 0), .long (L 1), .int (I 1)]),
    .inl (1, 160, .inr (.inl (U 0))),
    .inl (1, 160, .inr (.inl (U 1))),
    .inl (0, 160, .inl (T 0)),
    .inr (9, [.ref 6, .ref 7, .ref 8, .int (I 2), .int (I 3), .int (I 4)]),
    .inl (1, 600, .inr (.inl (U 2))),
    .inl (2, 600, .inl (T 1)),
    .inl (2, 1000, .inl (T 2)),
    .inr (0, [.ref 10, .ref 11, .ref 12, .ref 13, .ref 14, .ref 15, .int (I 5), .int (I 6), .int (I 7)]),
    .inl (1, 616, .inr (.inl (U 3))),
    .inl (1, 616, .inr (.inl (U 4))),
    .inl (0, 20, .inl (T 3)),
    .inl (0, 20, .inl (T 4)),
    .inl (0, 20, .inl (T 5)),
    .inl (0, 10, .inl (T 6)),
    .inr (5, [.null, .null, .int 0])] [.ref 16] = some (none, [.inr (10, [.ref 1, .ref 5, .ref 9, .null, .null, .null]),
    .inr (4, [.ref 2, .ref 3, .ref 4, .int (I 0), .long (L 0), .long (L 1), .int (I 1)]),
    .inl (1, 160, .inr (.inl (U 0))),
    .inl (1, 160, .inr (.inl (U 1))),
    .inl (0, 160, .inl (T 0)),
    .inr (9, [.ref 6, .ref 7, .ref 8, .int (I 2), .int (I 3), .int (I 4)]),
    .inl (1, 600, .inr (.inl (U 2))),
    .inl (2, 600, .inl (T 1)),
    .inl (2, 1000, .inl (T 2)),
    .inr (0, [.ref 10, .ref 11, .ref 12, .ref 13, .ref 14, .ref 15, .int (I 5), .int (I 6), .int (I 7)]),
    .inl (1, 616, .inr (.inl (U 3))),
    .inl (1, 616, .inr (.inl (U 4))),
    .inl (0, 20, .inl (T 3)),
    .inl (0, 20, .inl (T 4)),
    .inl (0, 20, .inl (T 5)),
    .inl (0, 10, .inl (T 6)),
    .inr (5, [.ref 17, .ref 18, .int 0]),
    .inl (1, 60, .inr (.inl (fun _ => 0))),
    .inl (1, 60, .inr (.inl (fun _ => 0)))]) := ry_fn_eq (ry_b rfl rfl)
set_option maxRecDepth 100000 in
theorem i7 {I : Nat → Int32} {L : Nat → Int64} {T : Nat → Nat → Int32} {U : Nat → Nat → Int64} : f_X7_init [.inr (10, [.ref 1, .ref 5, .ref 9, .ref 16, .null, .null]),
    .inr (4, [.ref 2, .ref 3, .ref 4, .int (I 0), .long (L 0), .long (L 1), .int (I 1)]),
    .inl (1, 160, .inr (.inl (U 0))),
    .inl (1, 160, .inr (.inl (U 1))),
    .inl (0, 160, .inl (T 0)),
    .inr (9, [.ref 6, .ref 7, .ref 8, .int (I 2), .int (I 3), .int (I 4)]),
    .inl (1, 600, .inr (.inl (U 2))),
    .inl (2, 600, .inl (T 1)),
    .inl (2, 1000, .inl (T 2)),
    .inr (0, [.ref 10, .ref 11, .ref 12, .ref 13, .ref 14, .ref 15, .int (I 5), .int (I 6), .int (I 7)]),
    .inl (1, 616, .inr (.inl (U 3))),
    .inl (1, 616, .inr (.inl (U 4))),
    .inl (0, 20, .inl (T 3)),
    .inl (0, 20, .inl (T 4)),
    .inl (0, 20, .inl (T 5)),
    .inl (0, 10, .inl (T 6)),
    .inr (5, [.ref 17, .ref 18, .int (I 8)]),
    .inl (1, 60, .inr (.inl (U 5))),
    .inl (1, 60, .inr (.inl (U 6))),
    .inr (7, [.null, .null, .null, .null, .int 0, .int 0, .null, .int 0, .null, .int 0, .long 0, .int 0])] [.ref 19, .ref 1, .ref 5] = some (none, [.inr (10, [.ref 1, .ref 5, .ref 9, .ref 16, .null, .null]),
    .inr (4, [.ref 2, .ref 3, .ref 4, .int (I 0), .long (L 0), .long (L 1), .int (I 1)]),
    .inl (1, 160, .inr (.inl (U 0))),
    .inl (1, 160, .inr (.inl (U 1))),
    .inl (0, 160, .inl (T 0)),
    .inr (9, [.ref 6, .ref 7, .ref 8, .int (I 2), .int (I 3), .int (I 4)]),
    .inl (1, 600, .inr (.inl (U 2))),
    .inl (2, 600, .inl (T 1)),
    .inl (2, 1000, .inl (T 2)),
    .inr (0, [.ref 10, .ref 11, .ref 12, .ref 13, .ref 14, .ref 15, .int (I 5), .int (I 6), .int (I 7)]),
    .inl (1, 616, .inr (.inl (U 3))),
    .inl (1, 616, .inr (.inl (U 4))),
    .inl (0, 20, .inl (T 3)),
    .inl (0, 20, .inl (T 4)),
    .inl (0, 20, .inl (T 5)),
    .inl (0, 10, .inl (T 6)),
    .inr (5, [.ref 17, .ref 18, .int (I 8)]),
    .inl (1, 60, .inr (.inl (U 5))),
    .inl (1, 60, .inr (.inl (U 6))),
    .inr (7, [.ref 1, .ref 5, .ref 20, .ref 21, .int 0, .int 0, .ref 22, .int 0, .ref 23, .int 0, .long 0, .int 0]),
    .inl (2, 300, .inl (fun _ => 0)),
    .inl (2, 300, .inl (fun _ => 0)),
    .inl (1, 300, .inr (.inl (fun _ => 0))),
    .inl (0, 8, .inl (fun _ => 0))]) := ry_fn_eq (ry_b rfl rfl)
set_option maxRecDepth 100000 in
theorem i2 {I : Nat → Int32} {L : Nat → Int64} {T : Nat → Nat → Int32} {U : Nat → Nat → Int64} : f_X2_init [.inr (10, [.ref 1, .ref 5, .ref 9, .ref 16, .ref 19, .null]),
    .inr (4, [.ref 2, .ref 3, .ref 4, .int (I 0), .long (L 0), .long (L 1), .int (I 1)]),
    .inl (1, 160, .inr (.inl (U 0))),
    .inl (1, 160, .inr (.inl (U 1))),
    .inl (0, 160, .inl (T 0)),
    .inr (9, [.ref 6, .ref 7, .ref 8, .int (I 2), .int (I 3), .int (I 4)]),
    .inl (1, 600, .inr (.inl (U 2))),
    .inl (2, 600, .inl (T 1)),
    .inl (2, 1000, .inl (T 2)),
    .inr (0, [.ref 10, .ref 11, .ref 12, .ref 13, .ref 14, .ref 15, .int (I 5), .int (I 6), .int (I 7)]),
    .inl (1, 616, .inr (.inl (U 3))),
    .inl (1, 616, .inr (.inl (U 4))),
    .inl (0, 20, .inl (T 3)),
    .inl (0, 20, .inl (T 4)),
    .inl (0, 20, .inl (T 5)),
    .inl (0, 10, .inl (T 6)),
    .inr (5, [.ref 17, .ref 18, .int (I 8)]),
    .inl (1, 60, .inr (.inl (U 5))),
    .inl (1, 60, .inr (.inl (U 6))),
    .inr (7, [.ref 1, .ref 5, .ref 20, .ref 21, .int (I 9), .int (I 10), .ref 22, .int (I 11), .ref 23, .int (I 12), .long (L 2), .int (I 13)]),
    .inl (2, 300, .inl (T 7)),
    .inl (2, 300, .inl (T 8)),
    .inl (1, 300, .inr (.inl (U 7))),
    .inl (0, 8, .inl (T 9)),
    .inr (3, [.ref 5, .ref 9, .ref 16, .ref 19, .null, .null, .null, .null, .int 0, .int 0, .int 0, .int 0, .int 0, .long 0, .int 0, .int 0]),
    .inr (2, [.null, .null, .null, .null, .null, .null, .null, .int 0])] [.ref 25] = some (none, [.inr (10, [.ref 1, .ref 5, .ref 9, .ref 16, .ref 19, .null]),
    .inr (4, [.ref 2, .ref 3, .ref 4, .int (I 0), .long (L 0), .long (L 1), .int (I 1)]),
    .inl (1, 160, .inr (.inl (U 0))),
    .inl (1, 160, .inr (.inl (U 1))),
    .inl (0, 160, .inl (T 0)),
    .inr (9, [.ref 6, .ref 7, .ref 8, .int (I 2), .int (I 3), .int (I 4)]),
    .inl (1, 600, .inr (.inl (U 2))),
    .inl (2, 600, .inl (T 1)),
    .inl (2, 1000, .inl (T 2)),
    .inr (0, [.ref 10, .ref 11, .ref 12, .ref 13, .ref 14, .ref 15, .int (I 5), .int (I 6), .int (I 7)]),
    .inl (1, 616, .inr (.inl (U 3))),
    .inl (1, 616, .inr (.inl (U 4))),
    .inl (0, 20, .inl (T 3)),
    .inl (0, 20, .inl (T 4)),
    .inl (0, 20, .inl (T 5)),
    .inl (0, 10, .inl (T 6)),
    .inr (5, [.ref 17, .ref 18, .int (I 8)]),
    .inl (1, 60, .inr (.inl (U 5))),
    .inl (1, 60, .inr (.inl (U 6))),
    .inr (7, [.ref 1, .ref 5, .ref 20, .ref 21, .int (I 9), .int (I 10), .ref 22, .int (I 11), .ref 23, .int (I 12), .long (L 2), .int (I 13)]),
    .inl (2, 300, .inl (T 7)),
    .inl (2, 300, .inl (T 8)),
    .inl (1, 300, .inr (.inl (U 7))),
    .inl (0, 8, .inl (T 9)),
    .inr (3, [.ref 5, .ref 9, .ref 16, .ref 19, .null, .null, .null, .null, .int 0, .int 0, .int 0, .int 0, .int 0, .long 0, .int 0, .int 0]),
    .inr (2, [.ref 26, .ref 27, .ref 28, .ref 29, .ref 30, .ref 31, .ref 32, .int 0]),
    .inl (0, 24, .inl (fun _ => 0)),
    .inl (1, 24, .inr (.inl (fun _ => 0))),
    .inl (1, 24, .inr (.inl (fun _ => 0))),
    .inl (1, 24, .inr (.inl (fun _ => 0))),
    .inl (1, 24, .inr (.inl (fun _ => 0))),
    .inl (1, 24, .inr (.inl (fun _ => 0))),
    .inl (1, 1776, .inr (.inl (fun _ => 0)))]) := ry_fn_eq (ry_b rfl rfl)
set_option maxRecDepth 100000 in
theorem i6 {I : Nat → Int32} {L : Nat → Int64} {T : Nat → Nat → Int32} {U : Nat → Nat → Int64} : f_X6_init [.inr (10, [.ref 1, .ref 5, .ref 9, .ref 16, .ref 19, .null]),
    .inr (4, [.ref 2, .ref 3, .ref 4, .int (I 0), .long (L 0), .long (L 1), .int (I 1)]),
    .inl (1, 160, .inr (.inl (U 0))),
    .inl (1, 160, .inr (.inl (U 1))),
    .inl (0, 160, .inl (T 0)),
    .inr (9, [.ref 6, .ref 7, .ref 8, .int (I 2), .int (I 3), .int (I 4)]),
    .inl (1, 600, .inr (.inl (U 2))),
    .inl (2, 600, .inl (T 1)),
    .inl (2, 1000, .inl (T 2)),
    .inr (0, [.ref 10, .ref 11, .ref 12, .ref 13, .ref 14, .ref 15, .int (I 5), .int (I 6), .int (I 7)]),
    .inl (1, 616, .inr (.inl (U 3))),
    .inl (1, 616, .inr (.inl (U 4))),
    .inl (0, 20, .inl (T 3)),
    .inl (0, 20, .inl (T 4)),
    .inl (0, 20, .inl (T 5)),
    .inl (0, 10, .inl (T 6)),
    .inr (5, [.ref 17, .ref 18, .int (I 8)]),
    .inl (1, 60, .inr (.inl (U 5))),
    .inl (1, 60, .inr (.inl (U 6))),
    .inr (7, [.ref 1, .ref 5, .ref 20, .ref 21, .int (I 9), .int (I 10), .ref 22, .int (I 11), .ref 23, .int (I 12), .long (L 2), .int (I 13)]),
    .inl (2, 300, .inl (T 7)),
    .inl (2, 300, .inl (T 8)),
    .inl (1, 300, .inr (.inl (U 7))),
    .inl (0, 8, .inl (T 9)),
    .inr (3, [.ref 5, .ref 9, .ref 16, .ref 19, .ref 25, .null, .null, .null, .int 0, .int 0, .int 0, .int 0, .int 0, .long 0, .int 0, .int 0]),
    .inr (2, [.ref 26, .ref 27, .ref 28, .ref 29, .ref 30, .ref 31, .ref 32, .int 0]),
    .inl (0, 24, .inl (fun _ => 0)),
    .inl (1, 24, .inr (.inl (fun _ => 0))),
    .inl (1, 24, .inr (.inl (fun _ => 0))),
    .inl (1, 24, .inr (.inl (fun _ => 0))),
    .inl (1, 24, .inr (.inl (fun _ => 0))),
    .inl (1, 24, .inr (.inl (fun _ => 0))),
    .inl (1, 1776, .inr (.inl (fun _ => 0))),
    .inr (6, [.null, .null, .null])] [.ref 33, .ref 1, .ref 5, .ref 16] = some (none, [.inr (10, [.ref 1, .ref 5, .ref 9, .ref 16, .ref 19, .null]),
    .inr (4, [.ref 2, .ref 3, .ref 4, .int (I 0), .long (L 0), .long (L 1), .int (I 1)]),
    .inl (1, 160, .inr (.inl (U 0))),
    .inl (1, 160, .inr (.inl (U 1))),
    .inl (0, 160, .inl (T 0)),
    .inr (9, [.ref 6, .ref 7, .ref 8, .int (I 2), .int (I 3), .int (I 4)]),
    .inl (1, 600, .inr (.inl (U 2))),
    .inl (2, 600, .inl (T 1)),
    .inl (2, 1000, .inl (T 2)),
    .inr (0, [.ref 10, .ref 11, .ref 12, .ref 13, .ref 14, .ref 15, .int (I 5), .int (I 6), .int (I 7)]),
    .inl (1, 616, .inr (.inl (U 3))),
    .inl (1, 616, .inr (.inl (U 4))),
    .inl (0, 20, .inl (T 3)),
    .inl (0, 20, .inl (T 4)),
    .inl (0, 20, .inl (T 5)),
    .inl (0, 10, .inl (T 6)),
    .inr (5, [.ref 17, .ref 18, .int (I 8)]),
    .inl (1, 60, .inr (.inl (U 5))),
    .inl (1, 60, .inr (.inl (U 6))),
    .inr (7, [.ref 1, .ref 5, .ref 20, .ref 21, .int (I 9), .int (I 10), .ref 22, .int (I 11), .ref 23, .int (I 12), .long (L 2), .int (I 13)]),
    .inl (2, 300, .inl (T 7)),
    .inl (2, 300, .inl (T 8)),
    .inl (1, 300, .inr (.inl (U 7))),
    .inl (0, 8, .inl (T 9)),
    .inr (3, [.ref 5, .ref 9, .ref 16, .ref 19, .ref 25, .null, .null, .null, .int 0, .int 0, .int 0, .int 0, .int 0, .long 0, .int 0, .int 0]),
    .inr (2, [.ref 26, .ref 27, .ref 28, .ref 29, .ref 30, .ref 31, .ref 32, .int 0]),
    .inl (0, 24, .inl (fun _ => 0)),
    .inl (1, 24, .inr (.inl (fun _ => 0))),
    .inl (1, 24, .inr (.inl (fun _ => 0))),
    .inl (1, 24, .inr (.inl (fun _ => 0))),
    .inl (1, 24, .inr (.inl (fun _ => 0))),
    .inl (1, 24, .inr (.inl (fun _ => 0))),
    .inl (1, 1776, .inr (.inl (fun _ => 0))),
    .inr (6, [.ref 1, .ref 5, .ref 16])]) := ry_fn_eq (ry_b rfl rfl)
set_option maxRecDepth 100000 in
theorem i8 {I : Nat → Int32} {L : Nat → Int64} {T : Nat → Nat → Int32} {U : Nat → Nat → Int64} : f_X8_init [.inr (10, [.ref 1, .ref 5, .ref 9, .ref 16, .ref 19, .null]),
    .inr (4, [.ref 2, .ref 3, .ref 4, .int (I 0), .long (L 0), .long (L 1), .int (I 1)]),
    .inl (1, 160, .inr (.inl (U 0))),
    .inl (1, 160, .inr (.inl (U 1))),
    .inl (0, 160, .inl (T 0)),
    .inr (9, [.ref 6, .ref 7, .ref 8, .int (I 2), .int (I 3), .int (I 4)]),
    .inl (1, 600, .inr (.inl (U 2))),
    .inl (2, 600, .inl (T 1)),
    .inl (2, 1000, .inl (T 2)),
    .inr (0, [.ref 10, .ref 11, .ref 12, .ref 13, .ref 14, .ref 15, .int (I 5), .int (I 6), .int (I 7)]),
    .inl (1, 616, .inr (.inl (U 3))),
    .inl (1, 616, .inr (.inl (U 4))),
    .inl (0, 20, .inl (T 3)),
    .inl (0, 20, .inl (T 4)),
    .inl (0, 20, .inl (T 5)),
    .inl (0, 10, .inl (T 6)),
    .inr (5, [.ref 17, .ref 18, .int (I 8)]),
    .inl (1, 60, .inr (.inl (U 5))),
    .inl (1, 60, .inr (.inl (U 6))),
    .inr (7, [.ref 1, .ref 5, .ref 20, .ref 21, .int (I 9), .int (I 10), .ref 22, .int (I 11), .ref 23, .int (I 12), .long (L 2), .int (I 13)]),
    .inl (2, 300, .inl (T 7)),
    .inl (2, 300, .inl (T 8)),
    .inl (1, 300, .inr (.inl (U 7))),
    .inl (0, 8, .inl (T 9)),
    .inr (3, [.ref 5, .ref 9, .ref 16, .ref 19, .ref 25, .ref 33, .null, .null, .int 0, .int 0, .int 0, .int 0, .int 0, .long 0, .int 0, .int 0]),
    .inr (2, [.ref 26, .ref 27, .ref 28, .ref 29, .ref 30, .ref 31, .ref 32, .int 0]),
    .inl (0, 24, .inl (fun _ => 0)),
    .inl (1, 24, .inr (.inl (fun _ => 0))),
    .inl (1, 24, .inr (.inl (fun _ => 0))),
    .inl (1, 24, .inr (.inl (fun _ => 0))),
    .inl (1, 24, .inr (.inl (fun _ => 0))),
    .inl (1, 24, .inr (.inl (fun _ => 0))),
    .inl (1, 1776, .inr (.inl (fun _ => 0))),
    .inr (6, [.ref 1, .ref 5, .ref 16]),
    .inr (8, [.null, .null, .null, .null, .null, .null, .int 0])] [.ref 34, .ref 1, .ref 5, .ref 9, .ref 16] = some (none, [.inr (10, [.ref 1, .ref 5, .ref 9, .ref 16, .ref 19, .null]),
    .inr (4, [.ref 2, .ref 3, .ref 4, .int (I 0), .long (L 0), .long (L 1), .int (I 1)]),
    .inl (1, 160, .inr (.inl (U 0))),
    .inl (1, 160, .inr (.inl (U 1))),
    .inl (0, 160, .inl (T 0)),
    .inr (9, [.ref 6, .ref 7, .ref 8, .int (I 2), .int (I 3), .int (I 4)]),
    .inl (1, 600, .inr (.inl (U 2))),
    .inl (2, 600, .inl (T 1)),
    .inl (2, 1000, .inl (T 2)),
    .inr (0, [.ref 10, .ref 11, .ref 12, .ref 13, .ref 14, .ref 15, .int (I 5), .int (I 6), .int (I 7)]),
    .inl (1, 616, .inr (.inl (U 3))),
    .inl (1, 616, .inr (.inl (U 4))),
    .inl (0, 20, .inl (T 3)),
    .inl (0, 20, .inl (T 4)),
    .inl (0, 20, .inl (T 5)),
    .inl (0, 10, .inl (T 6)),
    .inr (5, [.ref 17, .ref 18, .int (I 8)]),
    .inl (1, 60, .inr (.inl (U 5))),
    .inl (1, 60, .inr (.inl (U 6))),
    .inr (7, [.ref 1, .ref 5, .ref 20, .ref 21, .int (I 9), .int (I 10), .ref 22, .int (I 11), .ref 23, .int (I 12), .long (L 2), .int (I 13)]),
    .inl (2, 300, .inl (T 7)),
    .inl (2, 300, .inl (T 8)),
    .inl (1, 300, .inr (.inl (U 7))),
    .inl (0, 8, .inl (T 9)),
    .inr (3, [.ref 5, .ref 9, .ref 16, .ref 19, .ref 25, .ref 33, .null, .null, .int 0, .int 0, .int 0, .int 0, .int 0, .long 0, .int 0, .int 0]),
    .inr (2, [.ref 26, .ref 27, .ref 28, .ref 29, .ref 30, .ref 31, .ref 32, .int 0]),
    .inl (0, 24, .inl (fun _ => 0)),
    .inl (1, 24, .inr (.inl (fun _ => 0))),
    .inl (1, 24, .inr (.inl (fun _ => 0))),
    .inl (1, 24, .inr (.inl (fun _ => 0))),
    .inl (1, 24, .inr (.inl (fun _ => 0))),
    .inl (1, 24, .inr (.inl (fun _ => 0))),
    .inl (1, 1776, .inr (.inl (fun _ => 0))),
    .inr (6, [.ref 1, .ref 5, .ref 16]),
    .inr (8, [.ref 1, .ref 5, .ref 9, .ref 16, .ref 35, .ref 36, .int 0]),
    .inl (1, 600, .inr (.inl (fun _ => 0))),
    .inl (1, 601, .inr (.inl (fun _ => 0)))]) := ry_fn_eq (ry_b rfl rfl)
set_option maxRecDepth 100000 in
theorem i1 {I : Nat → Int32} {L : Nat → Int64} {T : Nat → Nat → Int32} {U : Nat → Nat → Int64} : f_X1_init [.inr (10, [.ref 1, .ref 5, .ref 9, .ref 16, .ref 19, .null]),
    .inr (4, [.ref 2, .ref 3, .ref 4, .int (I 0), .long (L 0), .long (L 1), .int (I 1)]),
    .inl (1, 160, .inr (.inl (U 0))),
    .inl (1, 160, .inr (.inl (U 1))),
    .inl (0, 160, .inl (T 0)),
    .inr (9, [.ref 6, .ref 7, .ref 8, .int (I 2), .int (I 3), .int (I 4)]),
    .inl (1, 600, .inr (.inl (U 2))),
    .inl (2, 600, .inl (T 1)),
    .inl (2, 1000, .inl (T 2)),
    .inr (0, [.ref 10, .ref 11, .ref 12, .ref 13, .ref 14, .ref 15, .int (I 5), .int (I 6), .int (I 7)]),
    .inl (1, 616, .inr (.inl (U 3))),
    .inl (1, 616, .inr (.inl (U 4))),
    .inl (0, 20, .inl (T 3)),
    .inl (0, 20, .inl (T 4)),
    .inl (0, 20, .inl (T 5)),
    .inl (0, 10, .inl (T 6)),
    .inr (5, [.ref 17, .ref 18, .int (I 8)]),
    .inl (1, 60, .inr (.inl (U 5))),
    .inl (1, 60, .inr (.inl (U 6))),
    .inr (7, [.ref 1, .ref 5, .ref 20, .ref 21, .int (I 9), .int (I 10), .ref 22, .int (I 11), .ref 23, .int (I 12), .long (L 2), .int (I 13)]),
    .inl (2, 300, .inl (T 7)),
    .inl (2, 300, .inl (T 8)),
    .inl (1, 300, .inr (.inl (U 7))),
    .inl (0, 8, .inl (T 9)),
    .inr (3, [.ref 5, .ref 9, .ref 16, .ref 19, .ref 25, .ref 33, .ref 34, .null, .int 0, .int 0, .int 0, .int 0, .int 0, .long 0, .int 0, .int 0]),
    .inr (2, [.ref 26, .ref 27, .ref 28, .ref 29, .ref 30, .ref 31, .ref 32, .int 0]),
    .inl (0, 24, .inl (fun _ => 0)),
    .inl (1, 24, .inr (.inl (fun _ => 0))),
    .inl (1, 24, .inr (.inl (fun _ => 0))),
    .inl (1, 24, .inr (.inl (fun _ => 0))),
    .inl (1, 24, .inr (.inl (fun _ => 0))),
    .inl (1, 24, .inr (.inl (fun _ => 0))),
    .inl (1, 1776, .inr (.inl (fun _ => 0))),
    .inr (6, [.ref 1, .ref 5, .ref 16]),
    .inr (8, [.ref 1, .ref 5, .ref 9, .ref 16, .ref 35, .ref 36, .int 0]),
    .inl (1, 600, .inr (.inl (fun _ => 0))),
    .inl (1, 601, .inr (.inl (fun _ => 0))),
    .inr (1, [.null, .null, .null, .null, .long 0])] [.ref 37, .ref 1, .ref 5, .ref 9, .ref 16] = some (none, [.inr (10, [.ref 1, .ref 5, .ref 9, .ref 16, .ref 19, .null]),
    .inr (4, [.ref 2, .ref 3, .ref 4, .int (I 0), .long (L 0), .long (L 1), .int (I 1)]),
    .inl (1, 160, .inr (.inl (U 0))),
    .inl (1, 160, .inr (.inl (U 1))),
    .inl (0, 160, .inl (T 0)),
    .inr (9, [.ref 6, .ref 7, .ref 8, .int (I 2), .int (I 3), .int (I 4)]),
    .inl (1, 600, .inr (.inl (U 2))),
    .inl (2, 600, .inl (T 1)),
    .inl (2, 1000, .inl (T 2)),
    .inr (0, [.ref 10, .ref 11, .ref 12, .ref 13, .ref 14, .ref 15, .int (I 5), .int (I 6), .int (I 7)]),
    .inl (1, 616, .inr (.inl (U 3))),
    .inl (1, 616, .inr (.inl (U 4))),
    .inl (0, 20, .inl (T 3)),
    .inl (0, 20, .inl (T 4)),
    .inl (0, 20, .inl (T 5)),
    .inl (0, 10, .inl (T 6)),
    .inr (5, [.ref 17, .ref 18, .int (I 8)]),
    .inl (1, 60, .inr (.inl (U 5))),
    .inl (1, 60, .inr (.inl (U 6))),
    .inr (7, [.ref 1, .ref 5, .ref 20, .ref 21, .int (I 9), .int (I 10), .ref 22, .int (I 11), .ref 23, .int (I 12), .long (L 2), .int (I 13)]),
    .inl (2, 300, .inl (T 7)),
    .inl (2, 300, .inl (T 8)),
    .inl (1, 300, .inr (.inl (U 7))),
    .inl (0, 8, .inl (T 9)),
    .inr (3, [.ref 5, .ref 9, .ref 16, .ref 19, .ref 25, .ref 33, .ref 34, .null, .int 0, .int 0, .int 0, .int 0, .int 0, .long 0, .int 0, .int 0]),
    .inr (2, [.ref 26, .ref 27, .ref 28, .ref 29, .ref 30, .ref 31, .ref 32, .int 0]),
    .inl (0, 24, .inl (fun _ => 0)),
    .inl (1, 24, .inr (.inl (fun _ => 0))),
    .inl (1, 24, .inr (.inl (fun _ => 0))),
    .inl (1, 24, .inr (.inl (fun _ => 0))),
    .inl (1, 24, .inr (.inl (fun _ => 0))),
    .inl (1, 24, .inr (.inl (fun _ => 0))),
    .inl (1, 1776, .inr (.inl (fun _ => 0))),
    .inr (6, [.ref 1, .ref 5, .ref 16]),
    .inr (8, [.ref 1, .ref 5, .ref 9, .ref 16, .ref 35, .ref 36, .int 0]),
    .inl (1, 600, .inr (.inl (fun _ => 0))),
    .inl (1, 601, .inr (.inl (fun _ => 0))),
    .inr (1, [.ref 1, .ref 5, .ref 9, .ref 16, .long 0])]) := ry_fn_eq (ry_b rfl rfl)
set_option maxRecDepth 100000 in
theorem i3f {I : Nat → Int32} {L : Nat → Int64} {T : Nat → Nat → Int32} {U : Nat → Nat → Int64} : f_X3_forget [.inr (10, [.ref 1, .ref 5, .ref 9, .ref 16, .ref 19, .null]),
    .inr (4, [.ref 2, .ref 3, .ref 4, .int (I 0), .long (L 0), .long (L 1), .int (I 1)]),
    .inl (1, 160, .inr (.inl (U 0))),
    .inl (1, 160, .inr (.inl (U 1))),
    .inl (0, 160, .inl (T 0)),
    .inr (9, [.ref 6, .ref 7, .ref 8, .int (I 2), .int (I 3), .int (I 4)]),
    .inl (1, 600, .inr (.inl (U 2))),
    .inl (2, 600, .inl (T 1)),
    .inl (2, 1000, .inl (T 2)),
    .inr (0, [.ref 10, .ref 11, .ref 12, .ref 13, .ref 14, .ref 15, .int (I 5), .int (I 6), .int (I 7)]),
    .inl (1, 616, .inr (.inl (U 3))),
    .inl (1, 616, .inr (.inl (U 4))),
    .inl (0, 20, .inl (T 3)),
    .inl (0, 20, .inl (T 4)),
    .inl (0, 20, .inl (T 5)),
    .inl (0, 10, .inl (T 6)),
    .inr (5, [.ref 17, .ref 18, .int (I 8)]),
    .inl (1, 60, .inr (.inl (U 5))),
    .inl (1, 60, .inr (.inl (U 6))),
    .inr (7, [.ref 1, .ref 5, .ref 20, .ref 21, .int (I 9), .int (I 10), .ref 22, .int (I 11), .ref 23, .int (I 12), .long (L 2), .int (I 13)]),
    .inl (2, 300, .inl (T 7)),
    .inl (2, 300, .inl (T 8)),
    .inl (1, 300, .inr (.inl (U 7))),
    .inl (0, 8, .inl (T 9)),
    .inr (3, [.ref 5, .ref 9, .ref 16, .ref 19, .ref 25, .ref 33, .ref 34, .ref 37, .int 0, .int 0, .int 0, .int 0, .int 0, .long 0, .int 0, .int 0]),
    .inr (2, [.ref 26, .ref 27, .ref 28, .ref 29, .ref 30, .ref 31, .ref 32, .int 0]),
    .inl (0, 24, .inl (fun _ => 0)),
    .inl (1, 24, .inr (.inl (fun _ => 0))),
    .inl (1, 24, .inr (.inl (fun _ => 0))),
    .inl (1, 24, .inr (.inl (fun _ => 0))),
    .inl (1, 24, .inr (.inl (fun _ => 0))),
    .inl (1, 24, .inr (.inl (fun _ => 0))),
    .inl (1, 1776, .inr (.inl (fun _ => 0))),
    .inr (6, [.ref 1, .ref 5, .ref 16]),
    .inr (8, [.ref 1, .ref 5, .ref 9, .ref 16, .ref 35, .ref 36, .int 0]),
    .inl (1, 600, .inr (.inl (fun _ => 0))),
    .inl (1, 601, .inr (.inl (fun _ => 0))),
    .inr (1, [.ref 1, .ref 5, .ref 9, .ref 16, .long 0])] [.ref 24] = some (none, [.inr (10, [.ref 1, .ref 5, .ref 9, .ref 16, .ref 19, .null]),
    .inr (4, [.ref 2, .ref 3, .ref 4, .int (I 0), .long (L 0), .long (L 1), .int (I 1)]),
    .inl (1, 160, .inr (.inl (U 0))),
    .inl (1, 160, .inr (.inl (U 1))),
    .inl (0, 160, .inl (T 0)),
    .inr (9, [.ref 6, .ref 7, .ref 8, .int (I 2), .int (I 3), .int (I 4)]),
    .inl (1, 600, .inr (.inl (U 2))),
    .inl (2, 600, .inl (T 1)),
    .inl (2, 1000, .inl (T 2)),
    .inr (0, [.ref 10, .ref 11, .ref 12, .ref 13, .ref 14, .ref 15, .int (I 5), .int (I 6), .int (I 7)]),
    .inl (1, 616, .inr (.inl (U 3))),
    .inl (1, 616, .inr (.inl (U 4))),
    .inl (0, 20, .inl (T 3)),
    .inl (0, 20, .inl (T 4)),
    .inl (0, 20, .inl (T 5)),
    .inl (0, 10, .inl (T 6)),
    .inr (5, [.ref 17, .ref 18, .int (I 8)]),
    .inl (1, 60, .inr (.inl (U 5))),
    .inl (1, 60, .inr (.inl (U 6))),
    .inr (7, [.ref 1, .ref 5, .ref 20, .ref 21, .int (I 9), .int (I 10), .ref 22, .int (I 11), .ref 23, .int (I 12), .long (L 2), .int (I 13)]),
    .inl (2, 300, .inl (T 7)),
    .inl (2, 300, .inl (T 8)),
    .inl (1, 300, .inr (.inl (U 7))),
    .inl (0, 8, .inl (T 9)),
    .inr (3, [.ref 5, .ref 9, .ref 16, .ref 19, .ref 25, .ref 33, .ref 34, .ref 37, .int 0, .int 0, .int (Int32.ofInt (-1)), .int 0, .int 0, .long 0, .int 0, .int 0]),
    .inr (2, [.ref 26, .ref 27, .ref 28, .ref 29, .ref 30, .ref 31, .ref 32, .int 0]),
    .inl (0, 24, .inl (fun _ => 0)),
    .inl (1, 24, .inr (.inl (fun _ => 0))),
    .inl (1, 24, .inr (.inl (fun _ => 0))),
    .inl (1, 24, .inr (.inl (fun _ => 0))),
    .inl (1, 24, .inr (.inl (fun _ => 0))),
    .inl (1, 24, .inr (.inl (fun _ => 0))),
    .inl (1, 1776, .inr (.inl (fun _ => 0))),
    .inr (6, [.ref 1, .ref 5, .ref 16]),
    .inr (8, [.ref 1, .ref 5, .ref 9, .ref 16, .ref 35, .ref 36, .int 0]),
    .inl (1, 600, .inr (.inl (fun _ => 0))),
    .inl (1, 601, .inr (.inl (fun _ => 0))),
    .inr (1, [.ref 1, .ref 5, .ref 9, .ref 16, .long 0])]) := ry_fn_eq rfl
set_option maxRecDepth 100000 in
theorem i3 {I : Nat → Int32} {L : Nat → Int64} {T : Nat → Nat → Int32} {U : Nat → Nat → Int64} : f_X3_init [.inr (10, [.ref 1, .ref 5, .ref 9, .ref 16, .ref 19, .null]),
    .inr (4, [.ref 2, .ref 3, .ref 4, .int (I 0), .long (L 0), .long (L 1), .int (I 1)]),
    .inl (1, 160, .inr (.inl (U 0))),
    .inl (1, 160, .inr (.inl (U 1))),
    .inl (0, 160, .inl (T 0)),
    .inr (9, [.ref 6, .ref 7, .ref 8, .int (I 2), .int (I 3), .int (I 4)]),
    .inl (1, 600, .inr (.inl (U 2))),
    .inl (2, 600, .inl (T 1)),
    .inl (2, 1000, .inl (T 2)),
    .inr (0, [.ref 10, .ref 11, .ref 12, .ref 13, .ref 14, .ref 15, .int (I 5), .int (I 6), .int (I 7)]),
    .inl (1, 616, .inr (.inl (U 3))),
    .inl (1, 616, .inr (.inl (U 4))),
    .inl (0, 20, .inl (T 3)),
    .inl (0, 20, .inl (T 4)),
    .inl (0, 20, .inl (T 5)),
    .inl (0, 10, .inl (T 6)),
    .inr (5, [.ref 17, .ref 18, .int (I 8)]),
    .inl (1, 60, .inr (.inl (U 5))),
    .inl (1, 60, .inr (.inl (U 6))),
    .inr (7, [.ref 1, .ref 5, .ref 20, .ref 21, .int (I 9), .int (I 10), .ref 22, .int (I 11), .ref 23, .int (I 12), .long (L 2), .int (I 13)]),
    .inl (2, 300, .inl (T 7)),
    .inl (2, 300, .inl (T 8)),
    .inl (1, 300, .inr (.inl (U 7))),
    .inl (0, 8, .inl (T 9)),
    .inr (3, [.null, .null, .null, .null, .null, .null, .null, .null, .int 0, .int 0, .int 0, .int 0, .int 0, .long 0, .int 0, .int 0])] [.ref 24, .ref 1, .ref 5, .ref 9, .ref 16, .ref 19] = some (none, [.inr (10, [.ref 1, .ref 5, .ref 9, .ref 16, .ref 19, .null]),
    .inr (4, [.ref 2, .ref 3, .ref 4, .int (I 0), .long (L 0), .long (L 1), .int (I 1)]),
    .inl (1, 160, .inr (.inl (U 0))),
    .inl (1, 160, .inr (.inl (U 1))),
    .inl (0, 160, .inl (T 0)),
    .inr (9, [.ref 6, .ref 7, .ref 8, .int (I 2), .int (I 3), .int (I 4)]),
    .inl (1, 600, .inr (.inl (U 2))),
    .inl (2, 600, .inl (T 1)),
    .inl (2, 1000, .inl (T 2)),
    .inr (0, [.ref 10, .ref 11, .ref 12, .ref 13, .ref 14, .ref 15, .int (I 5), .int (I 6), .int (I 7)]),
    .inl (1, 616, .inr (.inl (U 3))),
    .inl (1, 616, .inr (.inl (U 4))),
    .inl (0, 20, .inl (T 3)),
    .inl (0, 20, .inl (T 4)),
    .inl (0, 20, .inl (T 5)),
    .inl (0, 10, .inl (T 6)),
    .inr (5, [.ref 17, .ref 18, .int (I 8)]),
    .inl (1, 60, .inr (.inl (U 5))),
    .inl (1, 60, .inr (.inl (U 6))),
    .inr (7, [.ref 1, .ref 5, .ref 20, .ref 21, .int (I 9), .int (I 10), .ref 22, .int (I 11), .ref 23, .int (I 12), .long (L 2), .int (I 13)]),
    .inl (2, 300, .inl (T 7)),
    .inl (2, 300, .inl (T 8)),
    .inl (1, 300, .inr (.inl (U 7))),
    .inl (0, 8, .inl (T 9)),
    .inr (3, [.ref 5, .ref 9, .ref 16, .ref 19, .ref 25, .ref 33, .ref 34, .ref 37, .int 0, .int 0, .int (Int32.ofInt (-1)), .int 0, .int 0, .long 0, .int 0, .int 0]),
    .inr (2, [.ref 26, .ref 27, .ref 28, .ref 29, .ref 30, .ref 31, .ref 32, .int 0]),
    .inl (0, 24, .inl (fun _ => 0)),
    .inl (1, 24, .inr (.inl (fun _ => 0))),
    .inl (1, 24, .inr (.inl (fun _ => 0))),
    .inl (1, 24, .inr (.inl (fun _ => 0))),
    .inl (1, 24, .inr (.inl (fun _ => 0))),
    .inl (1, 24, .inr (.inl (fun _ => 0))),
    .inl (1, 1776, .inr (.inl (fun _ => 0))),
    .inr (6, [.ref 1, .ref 5, .ref 16]),
    .inr (8, [.ref 1, .ref 5, .ref 9, .ref 16, .ref 35, .ref 36, .int 0]),
    .inl (1, 600, .inr (.inl (fun _ => 0))),
    .inl (1, 601, .inr (.inl (fun _ => 0))),
    .inr (1, [.ref 1, .ref 5, .ref 9, .ref 16, .long 0])]) := ry_fn_eq (ry_b rfl (ry_b i2 (ry_b i6 (ry_b i8 (ry_b i1 (ry_b i3f rfl))))))
set_option maxRecDepth 100000 in
theorem i4 : ∃ (I : Nat → Int32) (L : Nat → Int64) (T : Nat → Nat → Int32) (U : Nat → Nat → Int64), f_X4_init [.inr (10, [.null, .null, .null, .null, .null, .null]),
    .inr (4, [.null, .null, .null, .int 0, .long 0, .long 0, .int 0])] [.ref 1] = some (none, wn I L T U) ∧ NS 83 I T U := by
  obtain ⟨I1, L1, T1, U1, h1, n1⟩ := sn_meetAll0 (I := fun _ => 0) (L := fun _ => 0) (T := fun _ _ => 0) (U := fun _ _ => 0) ⟨rfl, fun i h => absurd h (by omega)⟩
  obtain ⟨I2, L2, T2, U2, h2, n2⟩ := sn_meetAll1 (L := L1) n1
  obtain ⟨I3, L3, T3, U3, h3, n3⟩ := sn_meetAll2 (L := L2) n2
  obtain ⟨I4, L4, T4, U4, h4, n4⟩ := sn_meetAll3 (L := L3) n3
  obtain ⟨I5, L5, T5, U5, h5, n5⟩ := sn_meetAll4 (L := L4) n4
  obtain ⟨I6, L6, T6, U6, h6, n6⟩ := sn_meetAll5 (L := L5) n5
  obtain ⟨I7, L7, T7, U7, h7, n7⟩ := sn_meetAll6 (L := L6) n6
  exact ⟨I7, L7, T7, U7, ry_fn_eq (ry_b rfl (ry_b h1 (ry_b h2 (ry_b h3 (ry_b h4 (ry_b h5 (ry_b h6 (ry_b h7 rfl)))))))), n7⟩
set_option maxRecDepth 100000 in
theorem pd_X0_make_2 (I : Nat → Int32) (L : Nat → Int64) (T : Nat → Nat → Int32) (U : Nat → Nat → Int64) (a1 : Int32) (h1 : ¬ ((I 6) < 0)) (h2 : ¬ (20 ≤ (I 6))) (h3 : ¬ (a1 < 0)) (h4 : a1 ≤ ((Int16.toInt32 (Int16.ofInt 616)) - (I 5))) (h5 : ¬ ((I 6) < 0 ∨ 20 ≤ ((I 6) : Int32).toNatClampNeg)) : f_X0_make (wd I L T U) [.ref 9, .int a1] = some (some (.int (((I 6) + 1) - 1)), wd (uI (uI I 5 ((I 5) + a1)) 6 ((I 6) + 1)) L (uT (uT (uT T 3 (upd (T 3) ((I 6) : Int32).toNatClampNeg (I 5))) 4 (upd (T 4) ((I 6) : Int32).toNatClampNeg a1)) 5 (upd (T 5) ((I 6) : Int32).toNatClampNeg 0)) U) := rz_en 2 (by decide) rfl (ry_f h1 (ry_f h2 (ry_f h3 (ry_t h4 (ry_f h5 (ry_f h5 (ry_f h5 rfl)))))))
theorem sd_make {I : Nat → Int32} {L : Nat → Int64} {T : Nat → Nat → Int32} {U : Nat → Nat → Int64} {d p r : Nat} {a : Int32} (e6 : I 6 = nI d) (e5 : I 5 = nI p) (hd : d < 20) (ea : a = nI r) (hr : p + r ≤ 616) : f_X0_make (wd I L T U) [.ref 9, .int a] = some (some (.int (nI d)), wd (uI (uI I 5 (nI (p + r))) 6 (nI (d + 1))) L (uT (uT (uT T 3 (upd (T 3) d (nI p))) 4 (upd (T 4) d (nI r))) 5 (upd (T 5) d (nI 0))) U) := by
  (refine Eq.trans (pd_X0_make_2 _ _ _ _ _ (by first | with_reducible assumption | (simp (disch := omega) only [e6, e5, ea, i_lit, i_m1, pk_sub, nI_add, nI_ml, nI_ltI, nI_leI, nI_eq, nI_clamp, nI_l, lN_i, lg_nI, lg_geI, lg_leI, lg_gtI, lg_ltI, c16_160, c16_200, c16_255, c16_300, c16_600, c16_616, c16_1000, Nat.add_eq, vp_updL_at, upd_at, Nat.add_sub_cancel, Nat.add_zero, Nat.zero_add, Nat.sub_zero, uU_uU, uT_uT, uI_uI, uL_uL, uU_at, uT_at, uI_at, uL_at, uU_ne, uT_ne, uI_ne, uL_ne, uU_sw, uT_sw, uI_sw, uL_sw] <;> first | with_reducible assumption | omega) | omega | decide) (by first | with_reducible assumption | (simp (disch := omega) only [e6, e5, ea, i_lit, i_m1, pk_sub, nI_add, nI_ml, nI_ltI, nI_leI, nI_eq, nI_clamp, nI_l, lN_i, lg_nI, lg_geI, lg_leI, lg_gtI, lg_ltI, c16_160, c16_200, c16_255, c16_300, c16_600, c16_616, c16_1000, Nat.add_eq, vp_updL_at, upd_at, Nat.add_sub_cancel, Nat.add_zero, Nat.zero_add, Nat.sub_zero, uU_uU, uT_uT, uI_uI, uL_uL, uU_at, uT_at, uI_at, uL_at, uU_ne, uT_ne, uI_ne, uL_ne, uU_sw, uT_sw, uI_sw, uL_sw] <;> first | with_reducible assumption | omega) | omega | decide) (by first | with_reducible assumption | (simp (disch := omega) only [e6, e5, ea, i_lit, i_m1, pk_sub, nI_add, nI_ml, nI_ltI, nI_leI, nI_eq, nI_clamp, nI_l, lN_i, lg_nI, lg_geI, lg_leI, lg_gtI, lg_ltI, c16_160, c16_200, c16_255, c16_300, c16_600, c16_616, c16_1000, Nat.add_eq, vp_updL_at, upd_at, Nat.add_sub_cancel, Nat.add_zero, Nat.zero_add, Nat.sub_zero, uU_uU, uT_uT, uI_uI, uL_uL, uU_at, uT_at, uI_at, uL_at, uU_ne, uT_ne, uI_ne, uL_ne, uU_sw, uT_sw, uI_sw, uL_sw] <;> first | with_reducible assumption | omega) | omega | decide) (by first | with_reducible assumption | (simp (disch := omega) only [e6, e5, ea, i_lit, i_m1, pk_sub, nI_add, nI_ml, nI_ltI, nI_leI, nI_eq, nI_clamp, nI_l, lN_i, lg_nI, lg_geI, lg_leI, lg_gtI, lg_ltI, c16_160, c16_200, c16_255, c16_300, c16_600, c16_616, c16_1000, Nat.add_eq, vp_updL_at, upd_at, Nat.add_sub_cancel, Nat.add_zero, Nat.zero_add, Nat.sub_zero, uU_uU, uT_uT, uI_uI, uL_uL, uU_at, uT_at, uI_at, uL_at, uU_ne, uT_ne, uI_ne, uL_ne, uU_sw, uT_sw, uI_sw, uL_sw] <;> first | with_reducible assumption | omega) | omega | decide) (by first | with_reducible assumption | (simp (disch := omega) only [e6, e5, ea, i_lit, i_m1, pk_sub, nI_add, nI_ml, nI_ltI, nI_leI, nI_eq, nI_clamp, nI_l, lN_i, lg_nI, lg_geI, lg_leI, lg_gtI, lg_ltI, c16_160, c16_200, c16_255, c16_300, c16_600, c16_616, c16_1000, Nat.add_eq, vp_updL_at, upd_at, Nat.add_sub_cancel, Nat.add_zero, Nat.zero_add, Nat.sub_zero, uU_uU, uT_uT, uI_uI, uL_uL, uU_at, uT_at, uI_at, uL_at, uU_ne, uT_ne, uI_ne, uL_ne, uU_sw, uT_sw, uI_sw, uL_sw] <;> first | with_reducible assumption | omega) | omega | decide)) ?_; first | with_reducible rfl | (simp (disch := omega) only [e6, e5, ea, i_lit, i_m1, pk_sub, nI_add, nI_ml, nI_ltI, nI_leI, nI_eq, nI_clamp, nI_l, lN_i, lg_nI, lg_geI, lg_leI, lg_gtI, lg_ltI, c16_160, c16_200, c16_255, c16_300, c16_600, c16_616, c16_1000, Nat.add_sub_cancel]; done))
set_option maxRecDepth 100000 in
theorem pd_X0_begin_2 (I : Nat → Int32) (L : Nat → Int64) (T : Nat → Nat → Int32) (U : Nat → Nat → Int64) (a1 : Int32) (h1 : ¬ ((I 7) < 0)) (h2 : (I 7) < 10) (h3 : ¬ ((I 7) < 0 ∨ 10 ≤ ((I 7) : Int32).toNatClampNeg)) : f_X0_begin (wd I L T U) [.ref 9, .int a1] = some (some (.int 1), wd (uI I 7 ((I 7) + 1)) L (uT T 6 (upd (T 6) ((I 7) : Int32).toNatClampNeg a1)) U) := rz_en 2 (by decide) rfl (ry_f h1 (ry_t h2 (ry_f h3 (ry_t (c := (1 : Int32) = 0 ∨ (1 : Int32) = 1) (by decide) rfl))))
theorem sd_begin1 {I : Nat → Int32} {L : Nat → Int64} {T : Nat → Nat → Int32} {U : Nat → Nat → Int64} {h : Nat} {a : Int32} (e7 : I 7 = nI h) (hh : h < 10) : f_X0_begin (wd I L T U) [.ref 9, .int a] = some (some (.int 1), wd (uI I 7 (nI (h + 1))) L (uT T 6 (upd (T 6) h a)) U) := by
  (refine Eq.trans (pd_X0_begin_2 _ _ _ _ _ (by first | with_reducible assumption | (simp (disch := omega) only [e7, i_lit, i_m1, pk_sub, nI_add, nI_ml, nI_ltI, nI_leI, nI_eq, nI_clamp, nI_l, lN_i, lg_nI, lg_geI, lg_leI, lg_gtI, lg_ltI, c16_160, c16_200, c16_255, c16_300, c16_600, c16_616, c16_1000, Nat.add_eq, vp_updL_at, upd_at, Nat.add_sub_cancel, Nat.add_zero, Nat.zero_add, Nat.sub_zero, uU_uU, uT_uT, uI_uI, uL_uL, uU_at, uT_at, uI_at, uL_at, uU_ne, uT_ne, uI_ne, uL_ne, uU_sw, uT_sw, uI_sw, uL_sw] <;> first | with_reducible assumption | omega) | omega | decide) (by first | with_reducible assumption | (simp (disch := omega) only [e7, i_lit, i_m1, pk_sub, nI_add, nI_ml, nI_ltI, nI_leI, nI_eq, nI_clamp, nI_l, lN_i, lg_nI, lg_geI, lg_leI, lg_gtI, lg_ltI, c16_160, c16_200, c16_255, c16_300, c16_600, c16_616, c16_1000, Nat.add_eq, vp_updL_at, upd_at, Nat.add_sub_cancel, Nat.add_zero, Nat.zero_add, Nat.sub_zero, uU_uU, uT_uT, uI_uI, uL_uL, uU_at, uT_at, uI_at, uL_at, uU_ne, uT_ne, uI_ne, uL_ne, uU_sw, uT_sw, uI_sw, uL_sw] <;> first | with_reducible assumption | omega) | omega | decide) (by first | with_reducible assumption | (simp (disch := omega) only [e7, i_lit, i_m1, pk_sub, nI_add, nI_ml, nI_ltI, nI_leI, nI_eq, nI_clamp, nI_l, lN_i, lg_nI, lg_geI, lg_leI, lg_gtI, lg_ltI, c16_160, c16_200, c16_255, c16_300, c16_600, c16_616, c16_1000, Nat.add_eq, vp_updL_at, upd_at, Nat.add_sub_cancel, Nat.add_zero, Nat.zero_add, Nat.sub_zero, uU_uU, uT_uT, uI_uI, uL_uL, uU_at, uT_at, uI_at, uL_at, uU_ne, uT_ne, uI_ne, uL_ne, uU_sw, uT_sw, uI_sw, uL_sw] <;> first | with_reducible assumption | omega) | omega | decide)) ?_; first | with_reducible rfl | (simp (disch := omega) only [e7, i_lit, i_m1, pk_sub, nI_add, nI_ml, nI_ltI, nI_leI, nI_eq, nI_clamp, nI_l, lN_i, lg_nI, lg_geI, lg_leI, lg_gtI, lg_ltI, c16_160, c16_200, c16_255, c16_300, c16_600, c16_616, c16_1000]; done))
set_option maxRecDepth 100000 in
theorem pd_X0_forget_1 (F_X0_make : rx_F) (F_X0_begin : rx_F) (I : Nat → Int32) (L : Nat → Int64) (T : Nat → Nat → Int32) (U : Nat → Nat → Int64) (I_1 : Nat → Int32) (L_1 : Nat → Int64) (T_1 : Nat → Nat → Int32) (U_1 : Nat → Nat → Int64) (r1 : Int32) (I_2 : Nat → Int32) (L_2 : Nat → Int64) (T_2 : Nat → Nat → Int32) (U_2 : Nat → Nat → Int64) (r2 : Int32) (I_3 : Nat → Int32) (L_3 : Nat → Int64) (T_3 : Nat → Nat → Int32) (U_3 : Nat → Nat → Int64) (r3 : Int32) (I_4 : Nat → Int32) (L_4 : Nat → Int64) (T_4 : Nat → Nat → Int32) (U_4 : Nat → Nat → Int64) (r4 : Int32) (h1 : F_X0_make (wd (uI (uI I 6 0) 5 0) L T U) [.ref 9, .int 74] = some (some (.int r1), wd I_1 L_1 T_1 U_1)) (h2 : F_X0_make (wd I_1 L_1 T_1 U_1) [.ref 9, .int 20] = some (some (.int r2), wd I_2 L_2 T_2 U_2)) (h3 : F_X0_begin (wd (uI I_2 7 0) L_2 (uT T_2 5 (upd (T_2 5) (0 : Int32).toNatClampNeg 74)) U_2) [.ref 9, .int 0] = some (some (.int r3), wd I_3 L_3 T_3 U_3)) (h4 : F_X0_begin (wd I_3 L_3 T_3 U_3) [.ref 9, .int 1] = some (some (.int r4), wd I_4 L_4 T_4 U_4)) : fv_X0_forget F_X0_make F_X0_begin (wd I L T U) [.ref 9] = some (none, wd I_4 L_4 T_4 U_4) := rz_en 1 (by decide) rfl (ry_b (ry_w h1 rfl) (ry_b h2 (ry_f (c := (0 : Int32) < 0 ∨ 20 ≤ (0 : Int32).toNatClampNeg) (by decide) (ry_b (ry_w h3 rfl) (ry_b h4 rfl)))))
theorem sd_dfor {I : Nat → Int32} {L : Nat → Int64} {T : Nat → Nat → Int32} {U : Nat → Nat → Int64} : ∃ (I' : Nat → Int32) (T' : Nat → Nat → Int32), f_X0_forget (wd I L T U) [.ref 9] = some (none, wd I' L T' U) ∧ I' 5 = nI 94 ∧ I' 6 = nI 2 ∧ I' 7 = nI 2 ∧ (∀ x, x ≠ 5 → x ≠ 6 → x ≠ 7 → I' x = I x) ∧ T' 3 0 = nI 0 ∧ T' 3 1 = nI 74 ∧ T' 4 0 = nI 74 ∧ T' 4 1 = nI 20 ∧ T' 5 0 = nI 74 ∧ T' 5 1 = nI 0 ∧ T' 6 0 = nI 0 ∧ T' 6 1 = nI 1 ∧ (∀ k, k ≠ 3 → k ≠ 4 → k ≠ 5 → k ≠ 6 → T' k = T k) := by
  have h1 := sd_make (I := uI (uI I 6 0) 5 0) (L := L) (T := T) (U := U) (d := 0) (p := 0) (r := 74) (a := 74) rfl rfl (by decide) rfl (by decide)
  have h2 := sd_make (I := uI (uI (uI (uI I 6 0) 5 0) 5 (nI (0 + 74))) 6 (nI (0 + 1))) (L := L) (T := uT (uT (uT T 3 (upd (T 3) 0 (nI 0))) 4 (upd (T 4) 0 (nI 74))) 5 (upd (T 5) 0 (nI 0))) (U := U) (d := 1) (p := 74) (r := 20) (a := 20) rfl rfl (by decide) rfl (by decide)
  generalize eI : uI (uI (uI (uI (uI (uI I 6 0) 5 0) 5 (nI (0 + 74))) 6 (nI (0 + 1))) 5 (nI (74 + 20))) 6 (nI (1 + 1)) = I2 at h2
  generalize eT : uT (uT (uT (uT (uT (uT T 3 (upd (T 3) 0 (nI 0))) 4 (upd (T 4) 0 (nI 74))) 5 (upd (T 5) 0 (nI 0))) 3 _) 4 _) 5 _ = T2 at h2
  have h3 := sd_begin1 (I := uI I2 7 0) (L := L) (T := uT T2 5 (upd (T2 5) (0 : Int32).toNatClampNeg 74)) (U := U) (h := 0) (a := 0) rfl (by decide)
  have h4 := sd_begin1 (I := uI (uI I2 7 0) 7 (nI (0 + 1))) (L := L) (T := uT (uT T2 5 (upd (T2 5) (0 : Int32).toNatClampNeg 74)) 6 (upd (uT T2 5 (upd (T2 5) (0 : Int32).toNatClampNeg 74) 6) 0 0)) (U := U) (h := 1) (a := 1) rfl (by decide)
  refine ⟨_, _, by rw [fv_X0_forget_eq]; exact (pd_X0_forget_1 f_X0_make f_X0_begin _ _ _ _ _ _ _ _ _ _ _ _ _ _ _ _ _ _ _ _ _ _ _ _ (h1) (h2) (h3) (h4)), ?_, ?_, ?_, ?_, ?_, ?_, ?_, ?_, ?_, ?_, ?_, ?_, ?_⟩
  · subst eI
    rfl
  · subst eI
    rfl
  · rfl
  · intro x h5 h6 h7
    subst eI
    simp only [uI_ne _ _ h5, uI_ne _ _ h6, uI_ne _ _ h7]
  · subst eT
    rfl
  · subst eT
    rfl
  · subst eT
    rfl
  · subst eT
    rfl
  · subst eT
    rfl
  · subst eT
    rfl
  · rfl
  · rfl
  · intro k g3 g4 g5 g6
    subst eT
    simp only [uT_ne _ _ g3, uT_ne _ _ g4, uT_ne _ _ g5, uT_ne _ _ g6]
set_option maxRecDepth 100000 in
theorem i0_r {I : Nat → Int32} {L : Nat → Int64} {T : Nat → Nat → Int32} {U : Nat → Nat → Int64} {n : Nat} {x : Int32} {a b : Int64} {rs : Option Value × rx_H} (h1 : ¬ 74 ≤ x) (hl : f_X10_literalName (wd I L T U) [.int x] = some (some (.long a), wd I L T U)) (hc : ¬ (x < 0 ∨ 616 ≤ x.toNatClampNeg)) (ho : f_X10_operator (wd I L T (uU U 3 (vp_updL (U 3) x.toNatClampNeg a))) [.int x] = some (some (.long b), wd I L T (uU U 3 (vp_updL (U 3) x.toNatClampNeg a)))) (hz : ry_run (rx_lkk kC_X0) (rx_lkf fL_X0) (rx_lkf fI_X0) (rx_lkg gS_X0) (rx_lkg fG_X0) (rx_lkw nW_X0) cf_X0_init none 6 1302 kd_X0_init n 56 [(1, .int (x + 1)), (0, .ref 9)] [] (wd I L T (uU (uU U 3 (vp_updL (U 3) x.toNatClampNeg a)) 4 (vp_updL (U 4) x.toNatClampNeg b))) 6 1302 = some rs) : ry_run (rx_lkk kC_X0) (rx_lkf fL_X0) (rx_lkf fI_X0) (rx_lkg gS_X0) (rx_lkg fG_X0) (rx_lkw nW_X0) cf_X0_init none 6 1302 kd_X0_init (n + 1) 56 [(1, .int x), (0, .ref 9)] [] (wd I L T U) 6 1302 = some rs := ry_f h1 (ry_b hl (ry_f hc (ry_b ho (ry_f hc hz))))
set_option maxRecDepth 100000 in
theorem i0_e {I : Nat → Int32} {L : Nat → Int64} {T : Nat → Nat → Int32} {U : Nat → Nat → Int64} {I' : Nat → Int32} {L' : Nat → Int64} {T' : Nat → Nat → Int32} {U' : Nat → Nat → Int64} {n : Nat} {x : Int32} (h1 : 74 ≤ x) (hf : f_X0_forget (wd I L T U) [.ref 9] = some (none, wd I' L' T' U')) : ry_run (rx_lkk kC_X0) (rx_lkf fL_X0) (rx_lkf fI_X0) (rx_lkg gS_X0) (rx_lkg fG_X0) (rx_lkw nW_X0) cf_X0_init none 6 1302 kd_X0_init (n + 2) 56 [(1, .int x), (0, .ref 9)] [] (wd I L T U) 6 1302 = some (none, wd I' L' T' U') := ry_t h1 (ry_b hf rfl)
theorem i0_l {I : Nat → Int32} {L : Nat → Int64} {T : Nat → Nat → Int32} {U : Nat → Nat → Int64} : ∀ (d i n : Nat) (f g : Nat → Int64), i + d = 74 → d + 2 ≤ n → (∀ k, k < i → f k = eV (4, 0, 0, nI k) ∧ g k = eV (8, 1, 0, nI k)) → ∃ (f' g' : Nat → Int64), (∀ k, k < 74 → f' k = eV (4, 0, 0, nI k) ∧ g' k = eV (8, 1, 0, nI k)) ∧ ∀ I' L' T' U', f_X0_forget (wd I L T (uU (uU U 3 f') 4 g')) [.ref 9] = some (none, wd I' L' T' U') → ry_run (rx_lkk kC_X0) (rx_lkf fL_X0) (rx_lkf fI_X0) (rx_lkg gS_X0) (rx_lkg fG_X0) (rx_lkw nW_X0) cf_X0_init none 6 1302 kd_X0_init n 56 [(1, .int (nI i)), (0, .ref 9)] [] (wd I L T (uU (uU U 3 f) 4 g)) 6 1302 = some (none, wd I' L' T' U')
  | 0, i, n, f, g, hi, hn, h => by
    obtain rfl : i = 74 := by omega
    obtain ⟨m, rfl⟩ : ∃ m, n = m + 2 := ⟨n - 2, by omega⟩
    exact ⟨f, g, h, fun I' L' T' U' hf => i0_e (by decide) hf⟩
  | d + 1, i, n, f, g, hi, hn, h => by
    obtain ⟨m, rfl⟩ : ∃ m, n = m + 1 := ⟨n - 1, by omega⟩
    obtain ⟨f', g', a1, a2⟩ := i0_l d (i + 1) m (vp_updL f i (eV (4, 0, 0, nI i))) (vp_updL g i (eV (8, 1, 0, nI i))) (by omega) (by omega) (fun k hk => by
      by_cases e : k = i
      · rw [e, vp_updL_at, vp_updL_at]
        exact ⟨rfl, rfl⟩
      · rw [vp_updL_ne e, vp_updL_ne e]
        exact h k (by omega))
    refine ⟨f', g', a1, fun I' L' T' U' hf => ?_⟩
    have hc : (nI i).toNatClampNeg = i := nI_clamp (by omega)
    have h74 : ¬ (74 : Int32) ≤ nI i := by
      rw [show (74 : Int32) = nI 74 from rfl, nI_leI (by omega) (by omega)]
      omega
    have hr : ¬ (nI i < 0 ∨ 616 ≤ (nI i).toNatClampNeg) := by
      rintro (h | h)
      · exact nI_n0 (by omega) h
      · rw [hc] at h
        omega
    have q := i0_r (I := I) (L := L) (T := T) (U := uU (uU U 3 f) 4 g) (n := m) (x := nI i) (rs := (none, wd I' L' T' U')) h74 s_literalName hr s_operator
    rw [hc] at q
    have e : uU (uU (uU (uU U 3 f) 4 g) 3 (vp_updL (uU (uU U 3 f) 4 g 3) i (eV (4, 0, 0, nI i)))) 4 (vp_updL (uU (uU U 3 f) 4 g 4) i (eV (8, 1, 0, nI i))) = uU (uU U 3 (vp_updL f i (eV (4, 0, 0, nI i)))) 4 (vp_updL g i (eV (8, 1, 0, nI i))) := by
      funext y
      by_cases y4 : y = 4
      · rw [y4]
        rfl
      · rw [uU_ne _ _ y4, uU_ne _ _ y4]
        by_cases y3 : y = 3
        · rw [y3]
          rfl
        · rw [uU_ne _ _ y3, uU_ne _ _ y4, uU_ne _ _ y3, uU_ne _ _ y3]
    rw [show nI i + 1 = nI (i + 1) from nI_add i 1, e] at q
    exact q (a2 I' L' T' U' hf)
set_option maxRecDepth 100000 in
theorem i0_f {I : Nat → Int32} {L : Nat → Int64} {T : Nat → Nat → Int32} {U : Nat → Nat → Int64} {n : Nat} {rs : Option Value × rx_H} (h : ry_run (rx_lkk kC_X0) (rx_lkf fL_X0) (rx_lkf fI_X0) (rx_lkg gS_X0) (rx_lkg fG_X0) (rx_lkw nW_X0) cf_X0_init none 6 1302 kd_X0_init n 56 [(1, .int (nI 0)), (0, .ref 9)] [] (wd (uI (uI (uI I 5 0) 6 0) 7 0) L (uT (uT (uT (uT T 3 (fun _ => 0)) 4 (fun _ => 0)) 5 (fun _ => 0)) 6 (fun _ => 0)) (uU (uU U 3 (fun _ => 0)) 4 (fun _ => 0))) 6 1302 = some rs) : ry_fn (rx_lkk kC_X0) (rx_lkf fL_X0) (rx_lkf fI_X0) (rx_lkg gS_X0) (rx_lkg fG_X0) (rx_lkw nW_X0) cf_X0_init none 6 1302 2 kd_X0_init (n + 1) [.inr (10, [.ref 1, .ref 5, .null, .null, .null, .null]),
    .inr (4, [.ref 2, .ref 3, .ref 4, .int (I 0), .long (L 0), .long (L 1), .int (I 1)]),
    .inl (1, 160, .inr (.inl (U 0))),
    .inl (1, 160, .inr (.inl (U 1))),
    .inl (0, 160, .inl (T 0)),
    .inr (9, [.ref 6, .ref 7, .ref 8, .int (I 2), .int (I 3), .int (I 4)]),
    .inl (1, 600, .inr (.inl (U 2))),
    .inl (2, 600, .inl (T 1)),
    .inl (2, 1000, .inl (T 2)),
    .inr (0, [.null, .null, .null, .null, .null, .null, .int 0, .int 0, .int 0])] [.ref 9] = some rs := ry_b rfl h
theorem i0 {I : Nat → Int32} {L : Nat → Int64} {T : Nat → Nat → Int32} {U : Nat → Nat → Int64} : ∃ (I' : Nat → Int32) (T' : Nat → Nat → Int32) (U' : Nat → Nat → Int64), f_X0_init [.inr (10, [.ref 1, .ref 5, .null, .null, .null, .null]),
    .inr (4, [.ref 2, .ref 3, .ref 4, .int (I 0), .long (L 0), .long (L 1), .int (I 1)]),
    .inl (1, 160, .inr (.inl (U 0))),
    .inl (1, 160, .inr (.inl (U 1))),
    .inl (0, 160, .inl (T 0)),
    .inr (9, [.ref 6, .ref 7, .ref 8, .int (I 2), .int (I 3), .int (I 4)]),
    .inl (1, 600, .inr (.inl (U 2))),
    .inl (2, 600, .inl (T 1)),
    .inl (2, 1000, .inl (T 2)),
    .inr (0, [.null, .null, .null, .null, .null, .null, .int 0, .int 0, .int 0])] [.ref 9] = some (none, wd I' L T' U') ∧ I' 5 = nI 94 ∧ I' 6 = nI 2 ∧ I' 7 = nI 2 ∧ (∀ x, x < 5 → I' x = I x) ∧ T' 3 0 = nI 0 ∧ T' 3 1 = nI 74 ∧ T' 4 0 = nI 74 ∧ T' 4 1 = nI 20 ∧ T' 5 0 = nI 74 ∧ T' 5 1 = nI 0 ∧ T' 6 0 = nI 0 ∧ T' 6 1 = nI 1 ∧ (∀ k, k < 3 → T' k = T k) ∧ (∀ k, k < 3 → U' k = U k) ∧ ∀ k, k < 74 → U' 3 k = eV (4, 0, 0, nI k) ∧ U' 4 k = eV (8, 1, 0, nI k) := by
  obtain ⟨f', g', a1, a2⟩ := i0_l (I := uI (uI (uI I 5 0) 6 0) 7 0) (L := L) (T := uT (uT (uT (uT T 3 (fun _ => 0)) 4 (fun _ => 0)) 5 (fun _ => 0)) 6 (fun _ => 0)) (U := U) 74 0 999999999 (fun _ => 0) (fun _ => 0) rfl (by decide) (fun k hk => absurd hk (by omega))
  obtain ⟨I', T', h, b5, b6, b7, bx, c1, c2, c3, c4, c5, c6, c7, c8, cx⟩ := sd_dfor (I := uI (uI (uI I 5 0) 6 0) 7 0) (L := L) (T := uT (uT (uT (uT T 3 (fun _ => 0)) 4 (fun _ => 0)) 5 (fun _ => 0)) 6 (fun _ => 0)) (U := uU (uU U 3 f') 4 g')
  refine ⟨I', T', uU (uU U 3 f') 4 g', ?_, b5, b6, b7, fun x hx => ?_, c1, c2, c3, c4, c5, c6, c7, c8, fun k hk => ?_, fun k hk => ?_, a1⟩
  · exact ry_fn_eq (i0_f (n := 999999999) (a2 _ _ _ _ h))
  · rw [bx x (by omega) (by omega) (by omega), uI_ne _ _ (by omega), uI_ne _ _ (by omega), uI_ne _ _ (by omega)]
  · rw [cx k (by omega) (by omega) (by omega) (by omega), uT_ne _ _ (by omega), uT_ne _ _ (by omega), uT_ne _ _ (by omega), uT_ne _ _ (by omega)]
  · rw [uU_ne _ _ (by omega), uU_ne _ _ (by omega)]
/-! a new object of the class -/
set_option maxRecDepth 100000 in
theorem i11 : ∃ (I : Nat → Int32) (L : Nat → Int64) (T : Nat → Nat → Int32) (U : Nat → Nat → Int64), f_X11_init [.inr (10, [.null, .null, .null, .null, .null, .null])] [.ref 0] = some (none, wc I L T U) ∧ I 0 = nI 83 ∧ I 2 = nI 0 ∧ I 3 = nI 0 ∧ I 4 = nI 0 ∧ I 5 = nI 94 ∧ I 6 = nI 2 ∧ I 7 = nI 2 ∧ I 8 = nI 0 ∧ I 9 = nI 0 ∧ I 10 = nI 0 ∧ I 14 = nI 0 ∧ I 15 = nI 0 ∧ I 16 = Int32.ofInt (-1) ∧ T 3 0 = nI 0 ∧ T 3 1 = nI 74 ∧ T 4 0 = nI 74 ∧ T 4 1 = nI 20 ∧ T 5 0 = nI 74 ∧ T 5 1 = nI 0 ∧ T 6 0 = nI 0 ∧ T 6 1 = nI 1 ∧ NS 83 I T U ∧ ∀ k, k < 74 → U 3 k = eV (4, 0, 0, nI k) ∧ U 4 k = eV (8, 1, 0, nI k) := by
  obtain ⟨I1, L1, T1, U1, h1, n1⟩ := i4
  obtain ⟨I2, T2, U2, h2, b5, b6, b7, bx, c1, c2, c3, c4, c5, c6, c7, c8, ct, cu, cd⟩ := i0 (I := (fun k => if k < 2 then I1 k else 0)) (L := L1) (T := (fun k => if k < 1 then T1 k else fun _ => 0)) (U := (fun k => if k < 2 then U1 k else fun _ => 0))
  have e0 : I2 0 = I1 0 := bx 0 (by decide)
  have e2 : I2 2 = 0 := bx 2 (by decide)
  have e3 : I2 3 = 0 := bx 3 (by decide)
  have e4 : I2 4 = 0 := bx 4 (by decide)
  have t0 : T2 0 = T1 0 := ct 0 (by decide)
  have u0 : U2 0 = U1 0 := cu 0 (by decide)
  have u1 : U2 1 = U1 1 := cu 1 (by decide)
  refine ⟨(fun k => if k < 8 then I2 k else if k = 16 then Int32.ofInt (-1) else 0), (fun k => if k < 2 then L1 k else 0), (fun k => if k < 7 then T2 k else fun _ => 0), (fun k => if k < 5 then U2 k else fun _ => 0), ?_, ?_, e2, e3, e4, b5, b6, b7, rfl, rfl, rfl, rfl, rfl, rfl, c1, c2, c3, c4, c5, c6, c7, c8, ⟨?_, fun i hi => ?_⟩, cd⟩
  · exact ry_fn_eq (ry_b rfl (ry_b h1 (ry_b (i9 (I := (fun k => if k < 2 then I1 k else 0)) (L := L1) (T := (fun k => if k < 1 then T1 k else fun _ => 0)) (U := (fun k => if k < 2 then U1 k else fun _ => 0))) (ry_b h2 (ry_b (i5 (I := (fun k => if k < 8 then I2 k else if k = 16 then Int32.ofInt (-1) else 0)) (L := (fun k => if k < 2 then L1 k else 0)) (T := (fun k => if k < 7 then T2 k else fun _ => 0)) (U := (fun k => if k < 5 then U2 k else fun _ => 0))) (ry_b (i7 (I := (fun k => if k < 8 then I2 k else if k = 16 then Int32.ofInt (-1) else 0)) (L := (fun k => if k < 2 then L1 k else 0)) (T := (fun k => if k < 7 then T2 k else fun _ => 0)) (U := (fun k => if k < 5 then U2 k else fun _ => 0))) (ry_b (i3 (I := (fun k => if k < 8 then I2 k else if k = 16 then Int32.ofInt (-1) else 0)) (L := (fun k => if k < 2 then L1 k else 0)) (T := (fun k => if k < 7 then T2 k else fun _ => 0)) (U := (fun k => if k < 5 then U2 k else fun _ => 0))) rfl)))))))
  · exact e0.trans n1.1
  · exact e0.trans n1.1
  · show T2 0 i = _ ∧ U2 0 i = _ ∧ U2 1 i = _
    rw [t0, u0, u1]
    exact n1.2 i hi
/-- a new object of the reference -/
theorem i12 : ∃ (J : Nat → Int32) (S : Nat → Nat → Int32) (K : Nat → Int64), f_X12_init [.inr (11, nB12)] [.ref 0] = some (none, wr J S K) ∧ J 0 = 0 ∧ J 1 = nI 0 ∧ J 4 = nI 0 ∧ J 5 = nI 2 ∧ J 6 = nI 2 ∧ J 7 = nI 0 ∧ J 8 = nI 0 ∧ J 10 = nI 83 ∧ J 11 = nI 0 ∧ J 12 = nI 0 ∧ J 13 = Int32.ofInt (-1) ∧ J 15 = nI 0 ∧ S 3 0 = nI 74 ∧ S 3 1 = nI 20 ∧ S 4 0 = nI 74 ∧ S 4 1 = nI 0 ∧ S 2 0 = nI 0 ∧ S 2 1 = nI 1 ∧ NMS 83 S ∧ ∀ k, k < 74 → S 5 (2 * k) = nI 4 ∧ S 5 (2 * k + 1) = nI k ∧ r5 (S 6) k (8, 1, 0, nI k) := by
  obtain ⟨J', S', h2, j0, j1, j4, j5, j6, j7, j8, j10, j11, j12, j13, j15, s0, s1, s2, s3, s4, s5, s6, hM, hK⟩ := t_clearAll (I := fun _ => 0) (T := fun _ _ => 0) (K := fun _ => 0)
  exact ⟨J', S', fun _ => 0, ry_fn_eq (ry_b rfl (ry_b h2 rfl)), j0, j1, j4, j5, j6, j7, j8, j10, j11, j12, j13, j15, s1, s2, s3, s4, s5, s6, hM, hK⟩
