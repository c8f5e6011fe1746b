def ww_32 (I : Nat → Int32) (L : Nat → Int64) (U : Nat → Nat → Int64) (T : Nat → Nat → Int32) : rx_H := [.inr (10, [.ref 1, .ref 5, .ref 9, .ref 16, .ref 19, .null]),
    .inr (4, [.ref 2, .ref 3, .ref 4, .int (I 0), .long (L 0), .long (L 1), .int (I 1)]),
    .inl (1, 160, .inr (.inl (U 0))),
    .inl (1, 160, .inr (.inl (U 1))),
    .inl (0, 160, .inl (T 0)),
    .inr (9, [.ref 6, .ref 7, .ref 8, .int (I 2), .int (I 3), .int (I 4)]),
    .inl (1, 600, .inr (.inl (U 2))),
    .inl (2, 600, .inl (T 1)),
    .inl (2, 1000, .inl (T 2)),
    .inr (0, [.ref 10, .ref 11, .ref 12, .ref 13, .ref 14, .ref 15, .int (I 5), .int (I 6), .int (I 7)]),
    .inl (1, 616, .inr (.inl (U 3))),
    .inl (1, 616, .inr (.inl (U 4))),
    .inl (0, 20, .inl (T 3)),
    .inl (0, 20, .inl (T 4)),
    .inl (0, 20, .inl (T 5)),
    .inl (0, 10, .inl (T 6)),
    .inr (5, [.ref 17, .ref 18, .int (I 8)]),
    .inl (1, 60, .inr (.inl (U 5))),
    .inl (1, 60, .inr (.inl (U 6))),
    .inr (7, [.ref 1, .ref 5, .ref 20, .ref 21, .int (I 9), .int (I 10), .ref 22, .int (I 11), .ref 23, .int (I 12), .long (L 2), .int (I 13)]),
    .inl (2, 300, .inl (T 7)),
    .inl (2, 300, .inl (T 8)),
    .inl (1, 300, .inr (.inl (U 7))),
    .inl (0, 8, .inl (T 9)),
    .inr (3, [.ref 5, .ref 9, .ref 16, .ref 19, .ref 25, .ref 33, .ref 34, .ref 37, .int 0, .int 0, .int 0, .int 0, .int 0, .long 0, .int 0, .int 0]),
    .inr (2, [.ref 26, .ref 27, .ref 28, .ref 29, .ref 30, .ref 31, .ref 32, .int 0]),
    .inl (0, 24, .inl (fun _ => 0)),
    .inl (1, 24, .inr (.inl (fun _ => 0))),
    .inl (1, 24, .inr (.inl (fun _ => 0))),
    .inl (1, 24, .inr (.inl (fun _ => 0))),
    .inl (1, 24, .inr (.inl (fun _ => 0))),
    .inl (1, 24, .inr (.inl (fun _ => 0))),
    .inl (1, 1776, .inr (.inl (fun _ => 0))),
    .inr (6, [.ref 1, .ref 5, .ref 16]),
    .inr (8, [.ref 1, .ref 5, .ref 9, .ref 16, .ref 35, .ref 36, .int 0]),
    .inl (1, 600, .inr (.inl (fun _ => 0))),
    .inl (1, 601, .inr (.inl (fun _ => 0))),
    .inr (1, [.ref 1, .ref 5, .ref 9, .ref 16, .long 0])]
def ww_33 (I : Nat → Int32) (L : Nat → Int64) (U : Nat → Nat → Int64) (T : Nat → Nat → Int32) : rx_H := [.inr (10, [.ref 1, .ref 5, .ref 9, .ref 16, .ref 19, .null]),
    .inr (4, [.ref 2, .ref 3, .ref 4, .int (I 0), .long (L 0), .long (L 1), .int (I 1)]),
    .inl (1, 160, .inr (.inl (U 0))),
    .inl (1, 160, .inr (.inl (U 1))),
    .inl (0, 160, .inl (T 0)),
    .inr (9, [.ref 6, .ref 7, .ref 8, .int (I 2), .int (I 3), .int (I 4)]),
    .inl (1, 600, .inr (.inl (U 2))),
    .inl (2, 600, .inl (T 1)),
    .inl (2, 1000, .inl (T 2)),
    .inr (0, [.ref 10, .ref 11, .ref 12, .ref 13, .ref 14, .ref 15, .int (I 5), .int (I 6), .int (I 7)]),
    .inl (1, 616, .inr (.inl (U 3))),
    .inl (1, 616, .inr (.inl (U 4))),
    .inl (0, 20, .inl (T 3)),
    .inl (0, 20, .inl (T 4)),
    .inl (0, 20, .inl (T 5)),
    .inl (0, 10, .inl (T 6)),
    .inr (5, [.ref 17, .ref 18, .int (I 8)]),
    .inl (1, 60, .inr (.inl (U 5))),
    .inl (1, 60, .inr (.inl (U 6))),
    .inr (7, [.ref 1, .ref 5, .ref 20, .ref 21, .int (I 9), .int (I 10), .ref 22, .int (I 11), .ref 23, .int (I 12), .long (L 2), .int (I 13)]),
    .inl (2, 300, .inl (T 7)),
    .inl (2, 300, .inl (T 8)),
    .inl (1, 300, .inr (.inl (U 7))),
    .inl (0, 8, .inl (T 9)),
    .inr (3, [.ref 5, .ref 9, .ref 16, .ref 19, .ref 25, .ref 33, .ref 34, .ref 37, .int 0, .int 0, .int (Int32.ofInt (-1)), .int 0, .int 0, .long 0, .int 0, .int 0]),
    .inr (2, [.ref 26, .ref 27, .ref 28, .ref 29, .ref 30, .ref 31, .ref 32, .int 0]),
    .inl (0, 24, .inl (fun _ => 0)),
    .inl (1, 24, .inr (.inl (fun _ => 0))),
    .inl (1, 24, .inr (.inl (fun _ => 0))),
    .inl (1, 24, .inr (.inl (fun _ => 0))),
    .inl (1, 24, .inr (.inl (fun _ => 0))),
    .inl (1, 24, .inr (.inl (fun _ => 0))),
    .inl (1, 1776, .inr (.inl (fun _ => 0))),
    .inr (6, [.ref 1, .ref 5, .ref 16]),
    .inr (8, [.ref 1, .ref 5, .ref 9, .ref 16, .ref 35, .ref 36, .int 0]),
    .inl (1, 600, .inr (.inl (fun _ => 0))),
    .inl (1, 601, .inr (.inl (fun _ => 0))),
    .inr (1, [.ref 1, .ref 5, .ref 9, .ref 16, .long 0])]
set_option maxRecDepth 100000 in
theorem i3f {I : Nat → Int32} {L : Nat → Int64} {T : Nat → Nat → Int32} {U : Nat → Nat → Int64} : f_X3_forget (ww_32 I L U T) [.ref 24] = some (none, (ww_33 I L U T)) := ry_fn_eq rfl
def ww_34 (I : Nat → Int32) (L : Nat → Int64) (U : Nat → Nat → Int64) (T : Nat → Nat → Int32) : rx_H := [.inr (10, [.ref 1, .ref 5, .ref 9, .ref 16, .ref 19, .null]),
    .inr (4, [.ref 2, .ref 3, .ref 4, .int (I 0), .long (L 0), .long (L 1), .int (I 1)]),
    .inl (1, 160, .inr (.inl (U 0))),
    .inl (1, 160, .inr (.inl (U 1))),
    .inl (0, 160, .inl (T 0)),
    .inr (9, [.ref 6, .ref 7, .ref 8, .int (I 2), .int (I 3), .int (I 4)]),
    .inl (1, 600, .inr (.inl (U 2))),
    .inl (2, 600, .inl (T 1)),
    .inl (2, 1000, .inl (T 2)),
    .inr (0, [.ref 10, .ref 11, .ref 12, .ref 13, .ref 14, .ref 15, .int (I 5), .int (I 6), .int (I 7)]),
    .inl (1, 616, .inr (.inl (U 3))),
    .inl (1, 616, .inr (.inl (U 4))),
    .inl (0, 20, .inl (T 3)),
    .inl (0, 20, .inl (T 4)),
    .inl (0, 20, .inl (T 5)),
    .inl (0, 10, .inl (T 6)),
    .inr (5, [.ref 17, .ref 18, .int (I 8)]),
    .inl (1, 60, .inr (.inl (U 5))),
    .inl (1, 60, .inr (.inl (U 6))),
    .inr (7, [.ref 1, .ref 5, .ref 20, .ref 21, .int (I 9), .int (I 10), .ref 22, .int (I 11), .ref 23, .int (I 12), .long (L 2), .int (I 13)]),
    .inl (2, 300, .inl (T 7)),
    .inl (2, 300, .inl (T 8)),
    .inl (1, 300, .inr (.inl (U 7))),
    .inl (0, 8, .inl (T 9)),
    .inr (3, [.ref 5, .ref 9, .ref 16, .ref 19, .ref 25, .null, .null, .null, .int 0, .int 0, .int 0, .int 0, .int 0, .long 0, .int 0, .int 0]),
    .inr (2, [.ref 26, .ref 27, .ref 28, .ref 29, .ref 30, .ref 31, .ref 32, .int 0]),
    .inl (0, 24, .inl (fun _ => 0)),
    .inl (1, 24, .inr (.inl (fun _ => 0))),
    .inl (1, 24, .inr (.inl (fun _ => 0))),
    .inl (1, 24, .inr (.inl (fun _ => 0))),
    .inl (1, 24, .inr (.inl (fun _ => 0))),
    .inl (1, 24, .inr (.inl (fun _ => 0))),
    .inl (1, 1776, .inr (.inl (fun _ => 0)))]
def ww_35 (I : Nat → Int32) (L : Nat → Int64) (U : Nat → Nat → Int64) (T : Nat → Nat → Int32) : rx_H := [.inr (10, [.ref 1, .ref 5, .ref 9, .ref 16, .ref 19, .null]),
    .inr (4, [.ref 2, .ref 3, .ref 4, .int (I 0), .long (L 0), .long (L 1), .int (I 1)]),
    .inl (1, 160, .inr (.inl (U 0))),
    .inl (1, 160, .inr (.inl (U 1))),
    .inl (0, 160, .inl (T 0)),
    .inr (9, [.ref 6, .ref 7, .ref 8, .int (I 2), .int (I 3), .int (I 4)]),
    .inl (1, 600, .inr (.inl (U 2))),
    .inl (2, 600, .inl (T 1)),
    .inl (2, 1000, .inl (T 2)),
    .inr (0, [.ref 10, .ref 11, .ref 12, .ref 13, .ref 14, .ref 15, .int (I 5), .int (I 6), .int (I 7)]),
    .inl (1, 616, .inr (.inl (U 3))),
    .inl (1, 616, .inr (.inl (U 4))),
    .inl (0, 20, .inl (T 3)),
    .inl (0, 20, .inl (T 4)),
    .inl (0, 20, .inl (T 5)),
    .inl (0, 10, .inl (T 6)),
    .inr (5, [.ref 17, .ref 18, .int (I 8)]),
    .inl (1, 60, .inr (.inl (U 5))),
    .inl (1, 60, .inr (.inl (U 6))),
    .inr (7, [.ref 1, .ref 5, .ref 20, .ref 21, .int (I 9), .int (I 10), .ref 22, .int (I 11), .ref 23, .int (I 12), .long (L 2), .int (I 13)]),
    .inl (2, 300, .inl (T 7)),
    .inl (2, 300, .inl (T 8)),
    .inl (1, 300, .inr (.inl (U 7))),
    .inl (0, 8, .inl (T 9)),
    .inr (3, [.null, .null, .null, .null, .null, .null, .null, .null, .int 0, .int 0, .int 0, .int 0, .int 0, .long 0, .int 0, .int 0])]
set_option maxRecDepth 100000 in
theorem i3s1 (FO : rx_F) (hO : ∀ (vh : rx_H) (a : Nat), FO vh [.ref a] = some (none, vh)) (MC : Nat) (hm : ∀ k, k ≤ 13 → Nat.ble k MC = true) (G_X3_forget : rx_F) (G_X2_init : rx_F) (G_X6_init : rx_F) (G_X8_init : rx_F) (G_X1_init : rx_F) {I : Nat → Int32} {L : Nat → Int64} {T : Nat → Nat → Int32} {U : Nat → Nat → Int64} (q1 : G_X2_init (ww_22 I L U T) [.ref 25] = some (none, (ww_23 I L U T))) {K : rx_K} {r : List (Instr × Nat)} {x : rx_R} (e : ry_blk (rx_lkk kC_X3) (rx_lkf fL_X3) (rx_lkf fI_X3) (rx_lkg gS_X3) (rx_lkg fG_X3) (rx_lkw nW_X3) (rx_lkc [(59, (1, some 3, 0, 0, G_X3_forget))] [] [(3, (1, none, 0, 0, FO)), (29, (1, some 2, 7, 1920, G_X2_init)), (36, (4, some 6, 0, 0, G_X6_init)), (45, (5, some 8, 2, 1201, G_X8_init)), (54, (5, some 1, 0, 0, G_X1_init))]) none MC 3144 K r 37 (lv_args 0 [.ref 24, .ref 1, .ref 5, .ref 9, .ref 16, .ref 19]) [] (ww_34 I L U T) 8 1928 = x) : ry_blk (rx_lkk kC_X3) (rx_lkf fL_X3) (rx_lkf fI_X3) (rx_lkg gS_X3) (rx_lkg fG_X3) (rx_lkw nW_X3) (rx_lkc [(59, (1, some 3, 0, 0, G_X3_forget))] [] [(3, (1, none, 0, 0, FO)), (29, (1, some 2, 7, 1920, G_X2_init)), (36, (4, some 6, 0, 0, G_X6_init)), (45, (5, some 8, 2, 1201, G_X8_init)), (54, (5, some 1, 0, 0, G_X1_init))]) none MC 3144 K ((.aload_n 0, 1) :: (.invokespecial 3, 3) :: (.aload_n 0, 1) :: (.aload_n 2, 1) :: (.putfield 9, 3) :: (.aload_n 0, 1) :: (.aload_n 3, 1) :: (.putfield 15, 3) :: (.aload_n 0, 1) :: (.aload 4, 2) :: (.putfield 19, 3) :: (.aload_n 0, 1) :: (.aload 5, 2) :: (.putfield 23, 3) :: (.aload_n 0, 1) :: (.new 27, 3) :: (.dup, 1) :: (.invokespecial 29, 3) :: (.putfield 30, 3) :: r) 0 (lv_args 0 [.ref 24, .ref 1, .ref 5, .ref 9, .ref 16, .ref 19]) [] (ww_35 I L U T) 0 0 = x := by
  refine ry_b (hO _ _) ?_
  refine ry_ms (W := (ww_22 I L U T)) ?_ ?_ ?_
  · first | exact band (hm _ (Nat.le_of_ble_eq_true rfl)) rfl | exact band rfl (band (hm _ (Nat.le_of_ble_eq_true rfl)) rfl)
  · exact rfl
  refine ry_cw (hm _ (Nat.le_of_ble_eq_true rfl)) rfl rfl rfl q1 ?_
  exact e
def ww_36 (I : Nat → Int32) (L : Nat → Int64) (U : Nat → Nat → Int64) (T : Nat → Nat → Int32) : rx_H := [.inr (10, [.ref 1, .ref 5, .ref 9, .ref 16, .ref 19, .null]),
    .inr (4, [.ref 2, .ref 3, .ref 4, .int (I 0), .long (L 0), .long (L 1), .int (I 1)]),
    .inl (1, 160, .inr (.inl (U 0))),
    .inl (1, 160, .inr (.inl (U 1))),
    .inl (0, 160, .inl (T 0)),
    .inr (9, [.ref 6, .ref 7, .ref 8, .int (I 2), .int (I 3), .int (I 4)]),
    .inl (1, 600, .inr (.inl (U 2))),
    .inl (2, 600, .inl (T 1)),
    .inl (2, 1000, .inl (T 2)),
    .inr (0, [.ref 10, .ref 11, .ref 12, .ref 13, .ref 14, .ref 15, .int (I 5), .int (I 6), .int (I 7)]),
    .inl (1, 616, .inr (.inl (U 3))),
    .inl (1, 616, .inr (.inl (U 4))),
    .inl (0, 20, .inl (T 3)),
    .inl (0, 20, .inl (T 4)),
    .inl (0, 20, .inl (T 5)),
    .inl (0, 10, .inl (T 6)),
    .inr (5, [.ref 17, .ref 18, .int (I 8)]),
    .inl (1, 60, .inr (.inl (U 5))),
    .inl (1, 60, .inr (.inl (U 6))),
    .inr (7, [.ref 1, .ref 5, .ref 20, .ref 21, .int (I 9), .int (I 10), .ref 22, .int (I 11), .ref 23, .int (I 12), .long (L 2), .int (I 13)]),
    .inl (2, 300, .inl (T 7)),
    .inl (2, 300, .inl (T 8)),
    .inl (1, 300, .inr (.inl (U 7))),
    .inl (0, 8, .inl (T 9)),
    .inr (3, [.ref 5, .ref 9, .ref 16, .ref 19, .ref 25, .ref 33, .null, .null, .int 0, .int 0, .int 0, .int 0, .int 0, .long 0, .int 0, .int 0]),
    .inr (2, [.ref 26, .ref 27, .ref 28, .ref 29, .ref 30, .ref 31, .ref 32, .int 0]),
    .inl (0, 24, .inl (fun _ => 0)),
    .inl (1, 24, .inr (.inl (fun _ => 0))),
    .inl (1, 24, .inr (.inl (fun _ => 0))),
    .inl (1, 24, .inr (.inl (fun _ => 0))),
    .inl (1, 24, .inr (.inl (fun _ => 0))),
    .inl (1, 24, .inr (.inl (fun _ => 0))),
    .inl (1, 1776, .inr (.inl (fun _ => 0))),
    .inr (6, [.ref 1, .ref 5, .ref 16])]
set_option maxRecDepth 100000 in
theorem i3s2 (FO : rx_F) (hO : ∀ (vh : rx_H) (a : Nat), FO vh [.ref a] = some (none, vh)) (MC : Nat) (hm : ∀ k, k ≤ 13 → Nat.ble k MC = true) (G_X3_forget : rx_F) (G_X2_init : rx_F) (G_X6_init : rx_F) (G_X8_init : rx_F) (G_X1_init : rx_F) {I : Nat → Int32} {L : Nat → Int64} {T : Nat → Nat → Int32} {U : Nat → Nat → Int64} (q2 : G_X6_init (ww_24 I L U T) [.ref 33, .ref 1, .ref 5, .ref 16] = some (none, (ww_25 I L U T))) {K : rx_K} {r : List (Instr × Nat)} {x : rx_R} (e : ry_blk (rx_lkk kC_X3) (rx_lkf fL_X3) (rx_lkf fI_X3) (rx_lkg gS_X3) (rx_lkg fG_X3) (rx_lkw nW_X3) (rx_lkc [(59, (1, some 3, 0, 0, G_X3_forget))] [] [(3, (1, none, 0, 0, FO)), (29, (1, some 2, 7, 1920, G_X2_init)), (36, (4, some 6, 0, 0, G_X6_init)), (45, (5, some 8, 2, 1201, G_X8_init)), (54, (5, some 1, 0, 0, G_X1_init))]) none MC 3144 K r 52 (lv_args 0 [.ref 24, .ref 1, .ref 5, .ref 9, .ref 16, .ref 19]) [] (ww_36 I L U T) 9 1931 = x) : ry_blk (rx_lkk kC_X3) (rx_lkf fL_X3) (rx_lkf fI_X3) (rx_lkg gS_X3) (rx_lkg fG_X3) (rx_lkw nW_X3) (rx_lkc [(59, (1, some 3, 0, 0, G_X3_forget))] [] [(3, (1, none, 0, 0, FO)), (29, (1, some 2, 7, 1920, G_X2_init)), (36, (4, some 6, 0, 0, G_X6_init)), (45, (5, some 8, 2, 1201, G_X8_init)), (54, (5, some 1, 0, 0, G_X1_init))]) none MC 3144 K ((.aload_n 0, 1) :: (.new 34, 3) :: (.dup, 1) :: (.aload_n 1, 1) :: (.aload_n 2, 1) :: (.aload 4, 2) :: (.invokespecial 36, 3) :: (.putfield 39, 3) :: r) 37 (lv_args 0 [.ref 24, .ref 1, .ref 5, .ref 9, .ref 16, .ref 19]) [] (ww_34 I L U T) 8 1928 = x := by
  refine ry_ms (W := (ww_24 I L U T)) ?_ ?_ ?_
  · first | exact band (hm _ (Nat.le_of_ble_eq_true rfl)) rfl | exact band rfl (band (hm _ (Nat.le_of_ble_eq_true rfl)) rfl)
  · exact rfl
  refine ry_cw (hm _ (Nat.le_of_ble_eq_true rfl)) rfl rfl rfl q2 ?_
  exact e
def ww_37 (I : Nat → Int32) (L : Nat → Int64) (U : Nat → Nat → Int64) (T : Nat → Nat → Int32) : rx_H := [.inr (10, [.ref 1, .ref 5, .ref 9, .ref 16, .ref 19, .null]),
    .inr (4, [.ref 2, .ref 3, .ref 4, .int (I 0), .long (L 0), .long (L 1), .int (I 1)]),
    .inl (1, 160, .inr (.inl (U 0))),
    .inl (1, 160, .inr (.inl (U 1))),
    .inl (0, 160, .inl (T 0)),
    .inr (9, [.ref 6, .ref 7, .ref 8, .int (I 2), .int (I 3), .int (I 4)]),
    .inl (1, 600, .inr (.inl (U 2))),
    .inl (2, 600, .inl (T 1)),
    .inl (2, 1000, .inl (T 2)),
    .inr (0, [.ref 10, .ref 11, .ref 12, .ref 13, .ref 14, .ref 15, .int (I 5), .int (I 6), .int (I 7)]),
    .inl (1, 616, .inr (.inl (U 3))),
    .inl (1, 616, .inr (.inl (U 4))),
    .inl (0, 20, .inl (T 3)),
    .inl (0, 20, .inl (T 4)),
    .inl (0, 20, .inl (T 5)),
    .inl (0, 10, .inl (T 6)),
    .inr (5, [.ref 17, .ref 18, .int (I 8)]),
    .inl (1, 60, .inr (.inl (U 5))),
    .inl (1, 60, .inr (.inl (U 6))),
    .inr (7, [.ref 1, .ref 5, .ref 20, .ref 21, .int (I 9), .int (I 10), .ref 22, .int (I 11), .ref 23, .int (I 12), .long (L 2), .int (I 13)]),
    .inl (2, 300, .inl (T 7)),
    .inl (2, 300, .inl (T 8)),
    .inl (1, 300, .inr (.inl (U 7))),
    .inl (0, 8, .inl (T 9)),
    .inr (3, [.ref 5, .ref 9, .ref 16, .ref 19, .ref 25, .ref 33, .ref 34, .null, .int 0, .int 0, .int 0, .int 0, .int 0, .long 0, .int 0, .int 0]),
    .inr (2, [.ref 26, .ref 27, .ref 28, .ref 29, .ref 30, .ref 31, .ref 32, .int 0]),
    .inl (0, 24, .inl (fun _ => 0)),
    .inl (1, 24, .inr (.inl (fun _ => 0))),
    .inl (1, 24, .inr (.inl (fun _ => 0))),
    .inl (1, 24, .inr (.inl (fun _ => 0))),
    .inl (1, 24, .inr (.inl (fun _ => 0))),
    .inl (1, 24, .inr (.inl (fun _ => 0))),
    .inl (1, 1776, .inr (.inl (fun _ => 0))),
    .inr (6, [.ref 1, .ref 5, .ref 16]),
    .inr (8, [.ref 1, .ref 5, .ref 9, .ref 16, .ref 35, .ref 36, .int 0]),
    .inl (1, 600, .inr (.inl (fun _ => 0))),
    .inl (1, 601, .inr (.inl (fun _ => 0)))]
set_option maxRecDepth 100000 in
theorem i3s3 (FO : rx_F) (hO : ∀ (vh : rx_H) (a : Nat), FO vh [.ref a] = some (none, vh)) (MC : Nat) (hm : ∀ k, k ≤ 13 → Nat.ble k MC = true) (G_X3_forget : rx_F) (G_X2_init : rx_F) (G_X6_init : rx_F) (G_X8_init : rx_F) (G_X1_init : rx_F) {I : Nat → Int32} {L : Nat → Int64} {T : Nat → Nat → Int32} {U : Nat → Nat → Int64} (q3 : G_X8_init (ww_28 I L U T) [.ref 34, .ref 1, .ref 5, .ref 9, .ref 16] = some (none, (ww_29 I L U T))) {K : rx_K} {r : List (Instr × Nat)} {x : rx_R} (e : ry_blk (rx_lkk kC_X3) (rx_lkf fL_X3) (rx_lkf fI_X3) (rx_lkg gS_X3) (rx_lkg fG_X3) (rx_lkw nW_X3) (rx_lkc [(59, (1, some 3, 0, 0, G_X3_forget))] [] [(3, (1, none, 0, 0, FO)), (29, (1, some 2, 7, 1920, G_X2_init)), (36, (4, some 6, 0, 0, G_X6_init)), (45, (5, some 8, 2, 1201, G_X8_init)), (54, (5, some 1, 0, 0, G_X1_init))]) none MC 3144 K r 68 (lv_args 0 [.ref 24, .ref 1, .ref 5, .ref 9, .ref 16, .ref 19]) [] (ww_37 I L U T) 12 3139 = x) : ry_blk (rx_lkk kC_X3) (rx_lkf fL_X3) (rx_lkf fI_X3) (rx_lkg gS_X3) (rx_lkg fG_X3) (rx_lkw nW_X3) (rx_lkc [(59, (1, some 3, 0, 0, G_X3_forget))] [] [(3, (1, none, 0, 0, FO)), (29, (1, some 2, 7, 1920, G_X2_init)), (36, (4, some 6, 0, 0, G_X6_init)), (45, (5, some 8, 2, 1201, G_X8_init)), (54, (5, some 1, 0, 0, G_X1_init))]) none MC 3144 K ((.aload_n 0, 1) :: (.new 43, 3) :: (.dup, 1) :: (.aload_n 1, 1) :: (.aload_n 2, 1) :: (.aload_n 3, 1) :: (.aload 4, 2) :: (.invokespecial 45, 3) :: (.putfield 48, 3) :: r) 52 (lv_args 0 [.ref 24, .ref 1, .ref 5, .ref 9, .ref 16, .ref 19]) [] (ww_36 I L U T) 9 1931 = x := by
  refine ry_ms (W := (ww_28 I L U T)) ?_ ?_ ?_
  · first | exact band (hm _ (Nat.le_of_ble_eq_true rfl)) rfl | exact band rfl (band (hm _ (Nat.le_of_ble_eq_true rfl)) rfl)
  · exact rfl
  refine ry_cw (hm _ (Nat.le_of_ble_eq_true rfl)) rfl rfl rfl q3 ?_
  exact e
set_option maxRecDepth 100000 in
theorem i3s4 (FO : rx_F) (hO : ∀ (vh : rx_H) (a : Nat), FO vh [.ref a] = some (none, vh)) (MC : Nat) (hm : ∀ k, k ≤ 13 → Nat.ble k MC = true) (G_X3_forget : rx_F) (G_X2_init : rx_F) (G_X6_init : rx_F) (G_X8_init : rx_F) (G_X1_init : rx_F) {I : Nat → Int32} {L : Nat → Int64} {T : Nat → Nat → Int32} {U : Nat → Nat → Int64} (q4 : G_X1_init (ww_30 I L U T) [.ref 37, .ref 1, .ref 5, .ref 9, .ref 16] = some (none, (ww_31 I L U T))) {K : rx_K} {r : List (Instr × Nat)} {x : rx_R} (e : ry_blk (rx_lkk kC_X3) (rx_lkf fL_X3) (rx_lkf fI_X3) (rx_lkg gS_X3) (rx_lkg fG_X3) (rx_lkw nW_X3) (rx_lkc [(59, (1, some 3, 0, 0, G_X3_forget))] [] [(3, (1, none, 0, 0, FO)), (29, (1, some 2, 7, 1920, G_X2_init)), (36, (4, some 6, 0, 0, G_X6_init)), (45, (5, some 8, 2, 1201, G_X8_init)), (54, (5, some 1, 0, 0, G_X1_init))]) none MC 3144 K r 84 (lv_args 0 [.ref 24, .ref 1, .ref 5, .ref 9, .ref 16, .ref 19]) [] (ww_32 I L U T) 13 3144 = x) : ry_blk (rx_lkk kC_X3) (rx_lkf fL_X3) (rx_lkf fI_X3) (rx_lkg gS_X3) (rx_lkg fG_X3) (rx_lkw nW_X3) (rx_lkc [(59, (1, some 3, 0, 0, G_X3_forget))] [] [(3, (1, none, 0, 0, FO)), (29, (1, some 2, 7, 1920, G_X2_init)), (36, (4, some 6, 0, 0, G_X6_init)), (45, (5, some 8, 2, 1201, G_X8_init)), (54, (5, some 1, 0, 0, G_X1_init))]) none MC 3144 K ((.aload_n 0, 1) :: (.new 52, 3) :: (.dup, 1) :: (.aload_n 1, 1) :: (.aload_n 2, 1) :: (.aload_n 3, 1) :: (.aload 4, 2) :: (.invokespecial 54, 3) :: (.putfield 55, 3) :: r) 68 (lv_args 0 [.ref 24, .ref 1, .ref 5, .ref 9, .ref 16, .ref 19]) [] (ww_37 I L U T) 12 3139 = x := by
  refine ry_ms (W := (ww_30 I L U T)) ?_ ?_ ?_
  · first | exact band (hm _ (Nat.le_of_ble_eq_true rfl)) rfl | exact band rfl (band (hm _ (Nat.le_of_ble_eq_true rfl)) rfl)
  · exact rfl
  refine ry_cw (hm _ (Nat.le_of_ble_eq_true rfl)) rfl rfl rfl q4 ?_
  exact e
set_option maxRecDepth 100000 in
theorem i3s5 (FO : rx_F) (hO : ∀ (vh : rx_H) (a : Nat), FO vh [.ref a] = some (none, vh)) (MC : Nat) (hm : ∀ k, k ≤ 13 → Nat.ble k MC = true) (G_X3_forget : rx_F) (G_X2_init : rx_F) (G_X6_init : rx_F) (G_X8_init : rx_F) (G_X1_init : rx_F) {I : Nat → Int32} {L : Nat → Int64} {T : Nat → Nat → Int32} {U : Nat → Nat → Int64} (q5 : G_X3_forget (ww_32 I L U T) [.ref 24] = some (none, (ww_33 I L U T))) {K : rx_K} : ry_blk (rx_lkk kC_X3) (rx_lkf fL_X3) (rx_lkf fI_X3) (rx_lkg gS_X3) (rx_lkg fG_X3) (rx_lkw nW_X3) (rx_lkc [(59, (1, some 3, 0, 0, G_X3_forget))] [] [(3, (1, none, 0, 0, FO)), (29, (1, some 2, 7, 1920, G_X2_init)), (36, (4, some 6, 0, 0, G_X6_init)), (45, (5, some 8, 2, 1201, G_X8_init)), (54, (5, some 1, 0, 0, G_X1_init))]) none MC 3144 K [(.aload_n 0, 1), (.invokevirtual 59, 3), (.return_, 1)] 84 (lv_args 0 [.ref 24, .ref 1, .ref 5, .ref 9, .ref 16, .ref 19]) [] (ww_32 I L U T) 13 3144 = some (none, (ww_33 I L U T)) := by
  refine ry_cw (hm _ (Nat.le_of_ble_eq_true rfl)) rfl rfl rfl q5 ?_
  exact rfl
section RYI
variable {kc : Nat → Option Value} {fl fp : Nat → Option (Nat × Nat × FieldType)} {gs fg : Nat → Option Nat} {nw : Nat → Option (Nat × Nat × List Value)} {cf : Instr → Option rx_C} {rt : Option FieldType} {mc ms nL n pc nc ns : Nat} {cd : List (Nat × List (Instr × Nat))} {is : List (Instr × Nat)} {ls : rx_L} {st As : List Value} {vh : rx_H}
theorem ry_run_s (h : rx_lkb cd pc = some is) : ry_run kc fl fp gs fg nw cf rt mc ms cd (n + 1) pc ls st vh nc ns = ry_blk kc fl fp gs fg nw cf rt mc ms (ry_run kc fl fp gs fg nw cf rt mc ms cd n) is pc ls st vh nc ns := by
  rw [ry_run, h]
theorem ry_fn_s (h : Nat.ble ((As.map Value.category).sum) nL = true) : ry_fn kc fl fp gs fg nw cf rt mc ms nL cd n vh As = ry_run kc fl fp gs fg nw cf rt mc ms cd n 0 (lv_args 0 As) [] vh 0 0 := by
  unfold ry_fn
  rw [h]
  rfl
end RYI
set_option maxRecDepth 100000 in
theorem i3r {FO : rx_F} {MC : Nat} (G_X3_forget : rx_F) (G_X2_init : rx_F) (G_X6_init : rx_F) (G_X8_init : rx_F) (G_X1_init : rx_F) {W : rx_H} : ry_fn (rx_lkk kC_X3) (rx_lkf fL_X3) (rx_lkf fI_X3) (rx_lkg gS_X3) (rx_lkg fG_X3) (rx_lkw nW_X3) (rx_lkc [(59, (1, some 3, 0, 0, G_X3_forget))] [] [(3, (1, none, 0, 0, FO)), (29, (1, some 2, 7, 1920, G_X2_init)), (36, (4, some 6, 0, 0, G_X6_init)), (45, (5, some 8, 2, 1201, G_X8_init)), (54, (5, some 1, 0, 0, G_X1_init))]) none MC 3144 6 kd_X3_init rx_fu W [.ref 24, .ref 1, .ref 5, .ref 9, .ref 16, .ref 19] = ry_blk (rx_lkk kC_X3) (rx_lkf fL_X3) (rx_lkf fI_X3) (rx_lkg gS_X3) (rx_lkg fG_X3) (rx_lkw nW_X3) (rx_lkc [(59, (1, some 3, 0, 0, G_X3_forget))] [] [(3, (1, none, 0, 0, FO)), (29, (1, some 2, 7, 1920, G_X2_init)), (36, (4, some 6, 0, 0, G_X6_init)), (45, (5, some 8, 2, 1201, G_X8_init)), (54, (5, some 1, 0, 0, G_X1_init))]) none MC 3144 (ry_run (rx_lkk kC_X3) (rx_lkf fL_X3) (rx_lkf fI_X3) (rx_lkg gS_X3) (rx_lkg fG_X3) (rx_lkw nW_X3) (rx_lkc [(59, (1, some 3, 0, 0, G_X3_forget))] [] [(3, (1, none, 0, 0, FO)), (29, (1, some 2, 7, 1920, G_X2_init)), (36, (4, some 6, 0, 0, G_X6_init)), (45, (5, some 8, 2, 1201, G_X8_init)), (54, (5, some 1, 0, 0, G_X1_init))]) none MC 3144 kd_X3_init 999999999) [(.aload_n 0, 1), (.invokespecial 3, 3), (.aload_n 0, 1), (.aload_n 2, 1), (.putfield 9, 3), (.aload_n 0, 1), (.aload_n 3, 1), (.putfield 15, 3), (.aload_n 0, 1), (.aload 4, 2), (.putfield 19, 3), (.aload_n 0, 1), (.aload 5, 2), (.putfield 23, 3), (.aload_n 0, 1), (.new 27, 3), (.dup, 1), (.invokespecial 29, 3), (.putfield 30, 3), (.aload_n 0, 1), (.new 34, 3), (.dup, 1), (.aload_n 1, 1), (.aload_n 2, 1), (.aload 4, 2), (.invokespecial 36, 3), (.putfield 39, 3), (.aload_n 0, 1), (.new 43, 3), (.dup, 1), (.aload_n 1, 1), (.aload_n 2, 1), (.aload_n 3, 1), (.aload 4, 2), (.invokespecial 45, 3), (.putfield 48, 3), (.aload_n 0, 1), (.new 52, 3), (.dup, 1), (.aload_n 1, 1), (.aload_n 2, 1), (.aload_n 3, 1), (.aload 4, 2), (.invokespecial 54, 3), (.putfield 55, 3), (.aload_n 0, 1), (.invokevirtual 59, 3), (.return_, 1)] 0 (lv_args 0 [.ref 24, .ref 1, .ref 5, .ref 9, .ref 16, .ref 19]) [] W 0 0 := (ry_fn_s rfl).trans (ry_run_s (n := 999999999) rfl)
set_option maxRecDepth 100000 in
theorem i3v (FO : rx_F) (hO : ∀ (vh : rx_H) (a : Nat), FO vh [.ref a] = some (none, vh)) (MC : Nat) (hm : ∀ k, k ≤ 13 → Nat.ble k MC = true) (G_X3_forget : rx_F) (G_X2_init : rx_F) (G_X6_init : rx_F) (G_X8_init : rx_F) (G_X1_init : rx_F) {I : Nat → Int32} {L : Nat → Int64} {T : Nat → Nat → Int32} {U : Nat → Nat → Int64} (q1 : G_X2_init (ww_22 I L U T) [.ref 25] = some (none, (ww_23 I L U T))) (q2 : G_X6_init (ww_24 I L U T) [.ref 33, .ref 1, .ref 5, .ref 16] = some (none, (ww_25 I L U T))) (q3 : G_X8_init (ww_28 I L U T) [.ref 34, .ref 1, .ref 5, .ref 9, .ref 16] = some (none, (ww_29 I L U T))) (q4 : G_X1_init (ww_30 I L U T) [.ref 37, .ref 1, .ref 5, .ref 9, .ref 16] = some (none, (ww_31 I L U T))) (q5 : G_X3_forget (ww_32 I L U T) [.ref 24] = some (none, (ww_33 I L U T))) : ry_fn (rx_lkk kC_X3) (rx_lkf fL_X3) (rx_lkf fI_X3) (rx_lkg gS_X3) (rx_lkg fG_X3) (rx_lkw nW_X3) (rx_lkc [(59, (1, some 3, 0, 0, G_X3_forget))] [] [(3, (1, none, 0, 0, FO)), (29, (1, some 2, 7, 1920, G_X2_init)), (36, (4, some 6, 0, 0, G_X6_init)), (45, (5, some 8, 2, 1201, G_X8_init)), (54, (5, some 1, 0, 0, G_X1_init))]) none MC 3144 6 kd_X3_init rx_fu (ww_35 I L U T) [.ref 24, .ref 1, .ref 5, .ref 9, .ref 16, .ref 19] = some (none, (ww_33 I L U T)) := by
  refine (i3r G_X3_forget G_X2_init G_X6_init G_X8_init G_X1_init).trans ?_
  refine i3s1 FO hO MC hm G_X3_forget G_X2_init G_X6_init G_X8_init G_X1_init (I := I) (L := L) (T := T) (U := U) q1 ?_
  refine i3s2 FO hO MC hm G_X3_forget G_X2_init G_X6_init G_X8_init G_X1_init (I := I) (L := L) (T := T) (U := U) q2 ?_
  refine i3s3 FO hO MC hm G_X3_forget G_X2_init G_X6_init G_X8_init G_X1_init (I := I) (L := L) (T := T) (U := U) q3 ?_
  refine i3s4 FO hO MC hm G_X3_forget G_X2_init G_X6_init G_X8_init G_X1_init (I := I) (L := L) (T := T) (U := U) q4 ?_
  exact i3s5 FO hO MC hm G_X3_forget G_X2_init G_X6_init G_X8_init G_X1_init (I := I) (L := L) (T := T) (U := U) q5
set_option maxRecDepth 100000 in
theorem i3 {I : Nat → Int32} {L : Nat → Int64} {T : Nat → Nat → Int32} {U : Nat → Nat → Int64} : f_X3_init (ww_35 I L U T) [.ref 24, .ref 1, .ref 5, .ref 9, .ref 16, .ref 19] = some (none, (ww_33 I L U T)) := ry_fn_eq (i3v rx_F0 (fun _ _ => rfl) 13 (fun k hk => Nat.ble_eq_true_of_le hk) f_X3_forget f_X2_init f_X6_init f_X8_init f_X1_init i2 i6 i8 i1 i3f)
