def ww_45  : rx_H := [.inr (11, [.int 0, .int 0, .ref 1, .int 0, .int 0, .int 0, .ref 2, .int 0, .int 0, .ref 3, .ref 4, .null, .null, .null, .int 0, .null, .int 0, .null, .int 0, .int 0, .null, .null, .int 0, .null, .int 0, .int 0, .int 0, .null, .null, .null, .int 0, .int 0, .int 0, .int 0, .null, .int 0, .null, .int 0, .null, .int 0, .int 0, .int 0, .null]),
    .inl (0, 300, .inl (fun _ => 0)),
    .inl (0, 320, .inl (fun _ => 0)),
    .inl (0, 10, .inl (fun _ => 0)),
    .inl (0, 20, .inl (fun _ => 0)),
    .inl (0, 20, .inl (fun _ => 0))]
def ww_46  : rx_H := [.inr (11, [.int 0, .int 0, .ref 1, .int 0, .int 0, .int 0, .ref 2, .int 0, .int 0, .ref 3, .ref 4, .ref 5, .null, .null, .int 0, .null, .int 0, .null, .int 0, .int 0, .null, .null, .int 0, .null, .int 0, .int 0, .int 0, .null, .null, .null, .int 0, .int 0, .int 0, .int 0, .null, .int 0, .null, .int 0, .null, .int 0, .int 0, .int 0, .null]),
    .inl (0, 300, .inl (fun _ => 0)),
    .inl (0, 320, .inl (fun _ => 0)),
    .inl (0, 10, .inl (fun _ => 0)),
    .inl (0, 20, .inl (fun _ => 0)),
    .inl (0, 20, .inl (fun _ => 0)),
    .inl (0, 3200, .inl (fun _ => 0))]
def ww_47  : rx_H := [.inr (11, [.int 0, .int 0, .ref 1, .int 0, .int 0, .int 0, .ref 2, .int 0, .int 0, .ref 3, .ref 4, .ref 5, .ref 6, .null, .int 0, .null, .int 0, .null, .int 0, .int 0, .null, .null, .int 0, .null, .int 0, .int 0, .int 0, .null, .null, .null, .int 0, .int 0, .int 0, .int 0, .null, .int 0, .null, .int 0, .null, .int 0, .int 0, .int 0, .null]),
    .inl (0, 300, .inl (fun _ => 0)),
    .inl (0, 320, .inl (fun _ => 0)),
    .inl (0, 10, .inl (fun _ => 0)),
    .inl (0, 20, .inl (fun _ => 0)),
    .inl (0, 20, .inl (fun _ => 0)),
    .inl (0, 3200, .inl (fun _ => 0)),
    .inl (0, 8000, .inl (fun _ => 0))]
def ww_48  : rx_H := [.inr (11, [.int 0, .int 0, .ref 1, .int 0, .int 0, .int 0, .ref 2, .int 0, .int 0, .ref 3, .ref 4, .ref 5, .ref 6, .ref 7, .int 0, .null, .int 0, .null, .int 0, .int 0, .null, .null, .int 0, .null, .int 0, .int 0, .int 0, .null, .null, .null, .int 0, .int 0, .int 0, .int 0, .null, .int 0, .null, .int 0, .null, .int 0, .int 0, .int 0, .null]),
    .inl (0, 300, .inl (fun _ => 0)),
    .inl (0, 320, .inl (fun _ => 0)),
    .inl (0, 10, .inl (fun _ => 0)),
    .inl (0, 20, .inl (fun _ => 0)),
    .inl (0, 20, .inl (fun _ => 0)),
    .inl (0, 3200, .inl (fun _ => 0)),
    .inl (0, 8000, .inl (fun _ => 0)),
    .inl (0, 3000, .inl (fun _ => 0))]
def ww_49  : rx_H := [.inr (11, [.int 0, .int 0, .ref 1, .int 0, .int 0, .int 0, .ref 2, .int 0, .int 0, .ref 3, .ref 4, .ref 5, .ref 6, .ref 7, .int 0, .ref 8, .int 0, .null, .int 0, .int 0, .null, .null, .int 0, .null, .int 0, .int 0, .int 0, .null, .null, .null, .int 0, .int 0, .int 0, .int 0, .null, .int 0, .null, .int 0, .null, .int 0, .int 0, .int 0, .null]),
    .inl (0, 300, .inl (fun _ => 0)),
    .inl (0, 320, .inl (fun _ => 0)),
    .inl (0, 10, .inl (fun _ => 0)),
    .inl (0, 20, .inl (fun _ => 0)),
    .inl (0, 20, .inl (fun _ => 0)),
    .inl (0, 3200, .inl (fun _ => 0)),
    .inl (0, 8000, .inl (fun _ => 0)),
    .inl (0, 3000, .inl (fun _ => 0)),
    .inl (0, 600, .inl (fun _ => 0))]
def ww_50  : rx_H := [.inr (11, [.int 0, .int 0, .ref 1, .int 0, .int 0, .int 0, .ref 2, .int 0, .int 0, .ref 3, .ref 4, .ref 5, .ref 6, .ref 7, .int 0, .ref 8, .int 0, .ref 9, .int 0, .int 0, .null, .null, .int 0, .null, .int 0, .int 0, .int 0, .null, .null, .null, .int 0, .int 0, .int 0, .int 0, .null, .int 0, .null, .int 0, .null, .int 0, .int 0, .int 0, .null]),
    .inl (0, 300, .inl (fun _ => 0)),
    .inl (0, 320, .inl (fun _ => 0)),
    .inl (0, 10, .inl (fun _ => 0)),
    .inl (0, 20, .inl (fun _ => 0)),
    .inl (0, 20, .inl (fun _ => 0)),
    .inl (0, 3200, .inl (fun _ => 0)),
    .inl (0, 8000, .inl (fun _ => 0)),
    .inl (0, 3000, .inl (fun _ => 0)),
    .inl (0, 600, .inl (fun _ => 0)),
    .inl (0, 160, .inl (fun _ => 0))]
def ww_51  : rx_H := [.inr (11, [.int 0, .int 0, .ref 1, .int 0, .int 0, .int 0, .ref 2, .int 0, .int 0, .ref 3, .ref 4, .ref 5, .ref 6, .ref 7, .int 0, .ref 8, .int 0, .ref 9, .int 0, .int 0, .ref 10, .null, .int 0, .null, .int 0, .int 0, .int 0, .null, .null, .null, .int 0, .int 0, .int 0, .int 0, .null, .int 0, .null, .int 0, .null, .int 0, .int 0, .int 0, .null]),
    .inl (0, 300, .inl (fun _ => 0)),
    .inl (0, 320, .inl (fun _ => 0)),
    .inl (0, 10, .inl (fun _ => 0)),
    .inl (0, 20, .inl (fun _ => 0)),
    .inl (0, 20, .inl (fun _ => 0)),
    .inl (0, 3200, .inl (fun _ => 0)),
    .inl (0, 8000, .inl (fun _ => 0)),
    .inl (0, 3000, .inl (fun _ => 0)),
    .inl (0, 600, .inl (fun _ => 0)),
    .inl (0, 160, .inl (fun _ => 0)),
    .inl (0, 2560, .inl (fun _ => 0))]
def ww_52  : rx_H := [.inr (11, [.int 0, .int 0, .ref 1, .int 0, .int 0, .int 0, .ref 2, .int 0, .int 0, .ref 3, .ref 4, .ref 5, .ref 6, .ref 7, .int 0, .ref 8, .int 0, .ref 9, .int 0, .int 0, .ref 10, .ref 11, .int 0, .null, .int 0, .int 0, .int 0, .null, .null, .null, .int 0, .int 0, .int 0, .int 0, .null, .int 0, .null, .int 0, .null, .int 0, .int 0, .int 0, .null]),
    .inl (0, 300, .inl (fun _ => 0)),
    .inl (0, 320, .inl (fun _ => 0)),
    .inl (0, 10, .inl (fun _ => 0)),
    .inl (0, 20, .inl (fun _ => 0)),
    .inl (0, 20, .inl (fun _ => 0)),
    .inl (0, 3200, .inl (fun _ => 0)),
    .inl (0, 8000, .inl (fun _ => 0)),
    .inl (0, 3000, .inl (fun _ => 0)),
    .inl (0, 600, .inl (fun _ => 0)),
    .inl (0, 160, .inl (fun _ => 0)),
    .inl (0, 2560, .inl (fun _ => 0)),
    .inl (0, 1000, .inl (fun _ => 0))]
def ww_53  : rx_H := [.inr (11, [.int 0, .int 0, .ref 1, .int 0, .int 0, .int 0, .ref 2, .int 0, .int 0, .ref 3, .ref 4, .ref 5, .ref 6, .ref 7, .int 0, .ref 8, .int 0, .ref 9, .int 0, .int 0, .ref 10, .ref 11, .int 0, .ref 12, .int 0, .int 0, .int 0, .null, .null, .null, .int 0, .int 0, .int 0, .int 0, .null, .int 0, .null, .int 0, .null, .int 0, .int 0, .int 0, .null]),
    .inl (0, 300, .inl (fun _ => 0)),
    .inl (0, 320, .inl (fun _ => 0)),
    .inl (0, 10, .inl (fun _ => 0)),
    .inl (0, 20, .inl (fun _ => 0)),
    .inl (0, 20, .inl (fun _ => 0)),
    .inl (0, 3200, .inl (fun _ => 0)),
    .inl (0, 8000, .inl (fun _ => 0)),
    .inl (0, 3000, .inl (fun _ => 0)),
    .inl (0, 600, .inl (fun _ => 0)),
    .inl (0, 160, .inl (fun _ => 0)),
    .inl (0, 2560, .inl (fun _ => 0)),
    .inl (0, 1000, .inl (fun _ => 0)),
    .inl (0, 300, .inl (fun _ => 0))]
def ww_54  : rx_H := [.inr (11, [.int 0, .int 0, .ref 1, .int 0, .int 0, .int 0, .ref 2, .int 0, .int 0, .ref 3, .ref 4, .ref 5, .ref 6, .ref 7, .int 0, .ref 8, .int 0, .ref 9, .int 0, .int 0, .ref 10, .ref 11, .int 0, .ref 12, .int 0, .int 0, .int 0, .ref 13, .null, .null, .int 0, .int 0, .int 0, .int 0, .null, .int 0, .null, .int 0, .null, .int 0, .int 0, .int 0, .null]),
    .inl (0, 300, .inl (fun _ => 0)),
    .inl (0, 320, .inl (fun _ => 0)),
    .inl (0, 10, .inl (fun _ => 0)),
    .inl (0, 20, .inl (fun _ => 0)),
    .inl (0, 20, .inl (fun _ => 0)),
    .inl (0, 3200, .inl (fun _ => 0)),
    .inl (0, 8000, .inl (fun _ => 0)),
    .inl (0, 3000, .inl (fun _ => 0)),
    .inl (0, 600, .inl (fun _ => 0)),
    .inl (0, 160, .inl (fun _ => 0)),
    .inl (0, 2560, .inl (fun _ => 0)),
    .inl (0, 1000, .inl (fun _ => 0)),
    .inl (0, 300, .inl (fun _ => 0)),
    .inl (1, 25, .inr (.inl (fun _ => 0)))]
def ww_55  : rx_H := [.inr (11, [.int 0, .int 0, .ref 1, .int 0, .int 0, .int 0, .ref 2, .int 0, .int 0, .ref 3, .ref 4, .ref 5, .ref 6, .ref 7, .int 0, .ref 8, .int 0, .ref 9, .int 0, .int 0, .ref 10, .ref 11, .int 0, .ref 12, .int 0, .int 0, .int 0, .ref 13, .ref 14, .null, .int 0, .int 0, .int 0, .int 0, .null, .int 0, .null, .int 0, .null, .int 0, .int 0, .int 0, .null]),
    .inl (0, 300, .inl (fun _ => 0)),
    .inl (0, 320, .inl (fun _ => 0)),
    .inl (0, 10, .inl (fun _ => 0)),
    .inl (0, 20, .inl (fun _ => 0)),
    .inl (0, 20, .inl (fun _ => 0)),
    .inl (0, 3200, .inl (fun _ => 0)),
    .inl (0, 8000, .inl (fun _ => 0)),
    .inl (0, 3000, .inl (fun _ => 0)),
    .inl (0, 600, .inl (fun _ => 0)),
    .inl (0, 160, .inl (fun _ => 0)),
    .inl (0, 2560, .inl (fun _ => 0)),
    .inl (0, 1000, .inl (fun _ => 0)),
    .inl (0, 300, .inl (fun _ => 0)),
    .inl (1, 25, .inr (.inl (fun _ => 0))),
    .inl (0, 4000, .inl (fun _ => 0))]
def ww_56  : rx_H := [.inr (11, [.int 0, .int 0, .ref 1, .int 0, .int 0, .int 0, .ref 2, .int 0, .int 0, .ref 3, .ref 4, .ref 5, .ref 6, .ref 7, .int 0, .ref 8, .int 0, .ref 9, .int 0, .int 0, .ref 10, .ref 11, .int 0, .ref 12, .int 0, .int 0, .int 0, .ref 13, .ref 14, .ref 15, .int 0, .int 0, .int 0, .int 0, .null, .int 0, .null, .int 0, .null, .int 0, .int 0, .int 0, .null]),
    .inl (0, 300, .inl (fun _ => 0)),
    .inl (0, 320, .inl (fun _ => 0)),
    .inl (0, 10, .inl (fun _ => 0)),
    .inl (0, 20, .inl (fun _ => 0)),
    .inl (0, 20, .inl (fun _ => 0)),
    .inl (0, 3200, .inl (fun _ => 0)),
    .inl (0, 8000, .inl (fun _ => 0)),
    .inl (0, 3000, .inl (fun _ => 0)),
    .inl (0, 600, .inl (fun _ => 0)),
    .inl (0, 160, .inl (fun _ => 0)),
    .inl (0, 2560, .inl (fun _ => 0)),
    .inl (0, 1000, .inl (fun _ => 0)),
    .inl (0, 300, .inl (fun _ => 0)),
    .inl (1, 25, .inr (.inl (fun _ => 0))),
    .inl (0, 4000, .inl (fun _ => 0)),
    .inl (0, 1600, .inl (fun _ => 0))]
def ww_57  : rx_H := [.inr (11, [.int 0, .int 0, .ref 1, .int 0, .int 0, .int 0, .ref 2, .int 0, .int 0, .ref 3, .ref 4, .ref 5, .ref 6, .ref 7, .int 0, .ref 8, .int 0, .ref 9, .int 0, .int 0, .ref 10, .ref 11, .int 0, .ref 12, .int 0, .int 0, .int 0, .ref 13, .ref 14, .ref 15, .int 0, .int 0, .int 0, .int 0, .ref 16, .int 0, .null, .int 0, .null, .int 0, .int 0, .int 0, .null]),
    .inl (0, 300, .inl (fun _ => 0)),
    .inl (0, 320, .inl (fun _ => 0)),
    .inl (0, 10, .inl (fun _ => 0)),
    .inl (0, 20, .inl (fun _ => 0)),
    .inl (0, 20, .inl (fun _ => 0)),
    .inl (0, 3200, .inl (fun _ => 0)),
    .inl (0, 8000, .inl (fun _ => 0)),
    .inl (0, 3000, .inl (fun _ => 0)),
    .inl (0, 600, .inl (fun _ => 0)),
    .inl (0, 160, .inl (fun _ => 0)),
    .inl (0, 2560, .inl (fun _ => 0)),
    .inl (0, 1000, .inl (fun _ => 0)),
    .inl (0, 300, .inl (fun _ => 0)),
    .inl (1, 25, .inr (.inl (fun _ => 0))),
    .inl (0, 4000, .inl (fun _ => 0)),
    .inl (0, 1600, .inl (fun _ => 0)),
    .inl (0, 10, .inl (fun _ => 0))]
def ww_58  : rx_H := [.inr (11, [.int 0, .int 0, .ref 1, .int 0, .int 0, .int 0, .ref 2, .int 0, .int 0, .ref 3, .ref 4, .ref 5, .ref 6, .ref 7, .int 0, .ref 8, .int 0, .ref 9, .int 0, .int 0, .ref 10, .ref 11, .int 0, .ref 12, .int 0, .int 0, .int 0, .ref 13, .ref 14, .ref 15, .int 0, .int 0, .int 0, .int 0, .ref 16, .int 0, .ref 17, .int 0, .null, .int 0, .int 0, .int 0, .null]),
    .inl (0, 300, .inl (fun _ => 0)),
    .inl (0, 320, .inl (fun _ => 0)),
    .inl (0, 10, .inl (fun _ => 0)),
    .inl (0, 20, .inl (fun _ => 0)),
    .inl (0, 20, .inl (fun _ => 0)),
    .inl (0, 3200, .inl (fun _ => 0)),
    .inl (0, 8000, .inl (fun _ => 0)),
    .inl (0, 3000, .inl (fun _ => 0)),
    .inl (0, 600, .inl (fun _ => 0)),
    .inl (0, 160, .inl (fun _ => 0)),
    .inl (0, 2560, .inl (fun _ => 0)),
    .inl (0, 1000, .inl (fun _ => 0)),
    .inl (0, 300, .inl (fun _ => 0)),
    .inl (1, 25, .inr (.inl (fun _ => 0))),
    .inl (0, 4000, .inl (fun _ => 0)),
    .inl (0, 1600, .inl (fun _ => 0)),
    .inl (0, 10, .inl (fun _ => 0)),
    .inl (0, 5, .inl (fun _ => 0))]
def ww_59  : rx_H := [.inr (11, [.int 0, .int 0, .ref 1, .int 0, .int 0, .int 0, .ref 2, .int 0, .int 0, .ref 3, .ref 4, .ref 5, .ref 6, .ref 7, .int 0, .ref 8, .int 0, .ref 9, .int 0, .int 0, .ref 10, .ref 11, .int 0, .ref 12, .int 0, .int 0, .int 0, .ref 13, .ref 14, .ref 15, .int 0, .int 0, .int 0, .int 0, .ref 16, .int 0, .ref 17, .int 0, .ref 18, .int 0, .int 0, .int 0, .null]),
    .inl (0, 300, .inl (fun _ => 0)),
    .inl (0, 320, .inl (fun _ => 0)),
    .inl (0, 10, .inl (fun _ => 0)),
    .inl (0, 20, .inl (fun _ => 0)),
    .inl (0, 20, .inl (fun _ => 0)),
    .inl (0, 3200, .inl (fun _ => 0)),
    .inl (0, 8000, .inl (fun _ => 0)),
    .inl (0, 3000, .inl (fun _ => 0)),
    .inl (0, 600, .inl (fun _ => 0)),
    .inl (0, 160, .inl (fun _ => 0)),
    .inl (0, 2560, .inl (fun _ => 0)),
    .inl (0, 1000, .inl (fun _ => 0)),
    .inl (0, 300, .inl (fun _ => 0)),
    .inl (1, 25, .inr (.inl (fun _ => 0))),
    .inl (0, 4000, .inl (fun _ => 0)),
    .inl (0, 1600, .inl (fun _ => 0)),
    .inl (0, 10, .inl (fun _ => 0)),
    .inl (0, 5, .inl (fun _ => 0)),
    .inl (0, 1300, .inl (fun _ => 0))]
def ww_60  : rx_H := [.inr (11, [.int 0, .int 0, .ref 1, .int 0, .int 0, .int 0, .ref 2, .int 0, .int 0, .ref 3, .ref 4, .ref 5, .ref 6, .ref 7, .int 0, .ref 8, .int 0, .ref 9, .int 0, .int 0, .ref 10, .ref 11, .int 0, .ref 12, .int 0, .int 0, .int 0, .ref 13, .ref 14, .ref 15, .int 0, .int 0, .int 0, .int 0, .ref 16, .int 0, .ref 17, .int 0, .ref 18, .int 0, .int 0, .int 0, .ref 19]),
    .inl (0, 300, .inl (fun _ => 0)),
    .inl (0, 320, .inl (fun _ => 0)),
    .inl (0, 10, .inl (fun _ => 0)),
    .inl (0, 20, .inl (fun _ => 0)),
    .inl (0, 20, .inl (fun _ => 0)),
    .inl (0, 3200, .inl (fun _ => 0)),
    .inl (0, 8000, .inl (fun _ => 0)),
    .inl (0, 3000, .inl (fun _ => 0)),
    .inl (0, 600, .inl (fun _ => 0)),
    .inl (0, 160, .inl (fun _ => 0)),
    .inl (0, 2560, .inl (fun _ => 0)),
    .inl (0, 1000, .inl (fun _ => 0)),
    .inl (0, 300, .inl (fun _ => 0)),
    .inl (1, 25, .inr (.inl (fun _ => 0))),
    .inl (0, 4000, .inl (fun _ => 0)),
    .inl (0, 1600, .inl (fun _ => 0)),
    .inl (0, 10, .inl (fun _ => 0)),
    .inl (0, 5, .inl (fun _ => 0)),
    .inl (0, 1300, .inl (fun _ => 0))]
def ww_61 (I1 : Nat → Int32) (L1 : Nat → Int64) (U1 : Nat → Nat → Int64) (T1 : Nat → Nat → Int32) : rx_H := [.inr (10, [.ref 1, .null, .null, .null, .null, .null]),
    .inr (4, [.ref 2, .ref 3, .ref 4, .int (I1 0), .long (L1 0), .long (L1 1), .int (I1 1)]),
    .inl (1, 160, .inr (.inl (U1 0))),
    .inl (1, 160, .inr (.inl (U1 1))),
    .inl (0, 160, .inl (T1 0)),
    .inr (9, [.null, .null, .null, .int 0, .int 0, .int 0])]
def ww_62 (I1 : Nat → Int32) (L1 : Nat → Int64) (U1 : Nat → Nat → Int64) (T1 : Nat → Nat → Int32) : rx_H := [.inr (10, [.ref 1, .null, .null, .null, .null, .null]),
    .inr (4, [.ref 2, .ref 3, .ref 4, .int (I1 0), .long (L1 0), .long (L1 1), .int (I1 1)]),
    .inl (1, 160, .inr (.inl (U1 0))),
    .inl (1, 160, .inr (.inl (U1 1))),
    .inl (0, 160, .inl (T1 0)),
    .inr (9, [.ref 6, .ref 7, .ref 8, .int 0, .int 0, .int 0]),
    .inl (1, 600, .inr (.inl (fun _ => 0))),
    .inl (2, 600, .inl (fun _ => 0)),
    .inl (2, 1000, .inl (fun _ => 0))]
def ww_63 (I1 : Nat → Int32) (L1 : Nat → Int64) (U1 : Nat → Nat → Int64) (T1 : Nat → Nat → Int32) : rx_H := [.inr (10, [.ref 1, .ref 5, .null, .null, .null, .null]),
    .inr (4, [.ref 2, .ref 3, .ref 4, .int (I1 0), .long (L1 0), .long (L1 1), .int (I1 1)]),
    .inl (1, 160, .inr (.inl (U1 0))),
    .inl (1, 160, .inr (.inl (U1 1))),
    .inl (0, 160, .inl (T1 0)),
    .inr (9, [.ref 6, .ref 7, .ref 8, .int 0, .int 0, .int 0]),
    .inl (1, 600, .inr (.inl (fun _ => 0))),
    .inl (2, 600, .inl (fun _ => 0)),
    .inl (2, 1000, .inl (fun _ => 0)),
    .inr (0, [.null, .null, .null, .null, .null, .null, .int 0, .int 0, .int 0])]
def ww_64 (I2 : Nat → Int32) (L1 : Nat → Int64) (U2 : Nat → Nat → Int64) (T2 : Nat → Nat → Int32) : rx_H := [.inr (10, [.ref 1, .ref 5, .null, .null, .null, .null]),
    .inr (4, [.ref 2, .ref 3, .ref 4, .int (I2 0), .long (L1 0), .long (L1 1), .int (I2 1)]),
    .inl (1, 160, .inr (.inl (U2 0))),
    .inl (1, 160, .inr (.inl (U2 1))),
    .inl (0, 160, .inl (T2 0)),
    .inr (9, [.ref 6, .ref 7, .ref 8, .int (I2 2), .int (I2 3), .int (I2 4)]),
    .inl (1, 600, .inr (.inl (U2 2))),
    .inl (2, 600, .inl (T2 1)),
    .inl (2, 1000, .inl (T2 2)),
    .inr (0, [.ref 10, .ref 11, .ref 12, .ref 13, .ref 14, .ref 15, .int (I2 5), .int (I2 6), .int (I2 7)]),
    .inl (1, 616, .inr (.inl (U2 3))),
    .inl (1, 616, .inr (.inl (U2 4))),
    .inl (0, 20, .inl (T2 3)),
    .inl (0, 20, .inl (T2 4)),
    .inl (0, 20, .inl (T2 5)),
    .inl (0, 10, .inl (T2 6))]
def ww_65 (I2 : Nat → Int32) (L1 : Nat → Int64) (U2 : Nat → Nat → Int64) (T2 : Nat → Nat → Int32) : rx_H := [.inr (10, [.ref 1, .ref 5, .ref 9, .null, .null, .null]),
    .inr (4, [.ref 2, .ref 3, .ref 4, .int (I2 0), .long (L1 0), .long (L1 1), .int (I2 1)]),
    .inl (1, 160, .inr (.inl (U2 0))),
    .inl (1, 160, .inr (.inl (U2 1))),
    .inl (0, 160, .inl (T2 0)),
    .inr (9, [.ref 6, .ref 7, .ref 8, .int (I2 2), .int (I2 3), .int (I2 4)]),
    .inl (1, 600, .inr (.inl (U2 2))),
    .inl (2, 600, .inl (T2 1)),
    .inl (2, 1000, .inl (T2 2)),
    .inr (0, [.ref 10, .ref 11, .ref 12, .ref 13, .ref 14, .ref 15, .int (I2 5), .int (I2 6), .int (I2 7)]),
    .inl (1, 616, .inr (.inl (U2 3))),
    .inl (1, 616, .inr (.inl (U2 4))),
    .inl (0, 20, .inl (T2 3)),
    .inl (0, 20, .inl (T2 4)),
    .inl (0, 20, .inl (T2 5)),
    .inl (0, 10, .inl (T2 6)),
    .inr (5, [.null, .null, .int 0])]
def ww_66 (I2 : Nat → Int32) (L1 : Nat → Int64) (U2 : Nat → Nat → Int64) (T2 : Nat → Nat → Int32) : rx_H := [.inr (10, [.ref 1, .ref 5, .ref 9, .null, .null, .null]),
    .inr (4, [.ref 2, .ref 3, .ref 4, .int (I2 0), .long (L1 0), .long (L1 1), .int (I2 1)]),
    .inl (1, 160, .inr (.inl (U2 0))),
    .inl (1, 160, .inr (.inl (U2 1))),
    .inl (0, 160, .inl (T2 0)),
    .inr (9, [.ref 6, .ref 7, .ref 8, .int (I2 2), .int (I2 3), .int (I2 4)]),
    .inl (1, 600, .inr (.inl (U2 2))),
    .inl (2, 600, .inl (T2 1)),
    .inl (2, 1000, .inl (T2 2)),
    .inr (0, [.ref 10, .ref 11, .ref 12, .ref 13, .ref 14, .ref 15, .int (I2 5), .int (I2 6), .int (I2 7)]),
    .inl (1, 616, .inr (.inl (U2 3))),
    .inl (1, 616, .inr (.inl (U2 4))),
    .inl (0, 20, .inl (T2 3)),
    .inl (0, 20, .inl (T2 4)),
    .inl (0, 20, .inl (T2 5)),
    .inl (0, 10, .inl (T2 6)),
    .inr (5, [.ref 17, .ref 18, .int 0]),
    .inl (1, 60, .inr (.inl (fun _ => 0))),
    .inl (1, 60, .inr (.inl (fun _ => 0)))]
def ww_67 (I2 : Nat → Int32) (L1 : Nat → Int64) (U2 : Nat → Nat → Int64) (T2 : Nat → Nat → Int32) : rx_H := [.inr (10, [.ref 1, .ref 5, .ref 9, .ref 16, .null, .null]),
    .inr (4, [.ref 2, .ref 3, .ref 4, .int (I2 0), .long (L1 0), .long (L1 1), .int (I2 1)]),
    .inl (1, 160, .inr (.inl (U2 0))),
    .inl (1, 160, .inr (.inl (U2 1))),
    .inl (0, 160, .inl (T2 0)),
    .inr (9, [.ref 6, .ref 7, .ref 8, .int (I2 2), .int (I2 3), .int (I2 4)]),
    .inl (1, 600, .inr (.inl (U2 2))),
    .inl (2, 600, .inl (T2 1)),
    .inl (2, 1000, .inl (T2 2)),
    .inr (0, [.ref 10, .ref 11, .ref 12, .ref 13, .ref 14, .ref 15, .int (I2 5), .int (I2 6), .int (I2 7)]),
    .inl (1, 616, .inr (.inl (U2 3))),
    .inl (1, 616, .inr (.inl (U2 4))),
    .inl (0, 20, .inl (T2 3)),
    .inl (0, 20, .inl (T2 4)),
    .inl (0, 20, .inl (T2 5)),
    .inl (0, 10, .inl (T2 6)),
    .inr (5, [.ref 17, .ref 18, .int 0]),
    .inl (1, 60, .inr (.inl (fun _ => 0))),
    .inl (1, 60, .inr (.inl (fun _ => 0))),
    .inr (7, [.null, .null, .null, .null, .int 0, .int 0, .null, .int 0, .null, .int 0, .long 0, .int 0])]
def ww_68 (I2 : Nat → Int32) (L1 : Nat → Int64) (U2 : Nat → Nat → Int64) (T2 : Nat → Nat → Int32) : rx_H := [.inr (10, [.ref 1, .ref 5, .ref 9, .ref 16, .null, .null]),
    .inr (4, [.ref 2, .ref 3, .ref 4, .int (I2 0), .long (L1 0), .long (L1 1), .int (I2 1)]),
    .inl (1, 160, .inr (.inl (U2 0))),
    .inl (1, 160, .inr (.inl (U2 1))),
    .inl (0, 160, .inl (T2 0)),
    .inr (9, [.ref 6, .ref 7, .ref 8, .int (I2 2), .int (I2 3), .int (I2 4)]),
    .inl (1, 600, .inr (.inl (U2 2))),
    .inl (2, 600, .inl (T2 1)),
    .inl (2, 1000, .inl (T2 2)),
    .inr (0, [.ref 10, .ref 11, .ref 12, .ref 13, .ref 14, .ref 15, .int (I2 5), .int (I2 6), .int (I2 7)]),
    .inl (1, 616, .inr (.inl (U2 3))),
    .inl (1, 616, .inr (.inl (U2 4))),
    .inl (0, 20, .inl (T2 3)),
    .inl (0, 20, .inl (T2 4)),
    .inl (0, 20, .inl (T2 5)),
    .inl (0, 10, .inl (T2 6)),
    .inr (5, [.ref 17, .ref 18, .int 0]),
    .inl (1, 60, .inr (.inl (fun _ => 0))),
    .inl (1, 60, .inr (.inl (fun _ => 0))),
    .inr (7, [.ref 1, .ref 5, .ref 20, .ref 21, .int 0, .int 0, .ref 22, .int 0, .ref 23, .int 0, .long 0, .int 0]),
    .inl (2, 300, .inl (fun _ => 0)),
    .inl (2, 300, .inl (fun _ => 0)),
    .inl (1, 300, .inr (.inl (fun _ => 0))),
    .inl (0, 8, .inl (fun _ => 0))]
def ww_69 (I2 : Nat → Int32) (L1 : Nat → Int64) (U2 : Nat → Nat → Int64) (T2 : Nat → Nat → Int32) : rx_H := [.inr (10, [.ref 1, .ref 5, .ref 9, .ref 16, .ref 19, .null]),
    .inr (4, [.ref 2, .ref 3, .ref 4, .int (I2 0), .long (L1 0), .long (L1 1), .int (I2 1)]),
    .inl (1, 160, .inr (.inl (U2 0))),
    .inl (1, 160, .inr (.inl (U2 1))),
    .inl (0, 160, .inl (T2 0)),
    .inr (9, [.ref 6, .ref 7, .ref 8, .int (I2 2), .int (I2 3), .int (I2 4)]),
    .inl (1, 600, .inr (.inl (U2 2))),
    .inl (2, 600, .inl (T2 1)),
    .inl (2, 1000, .inl (T2 2)),
    .inr (0, [.ref 10, .ref 11, .ref 12, .ref 13, .ref 14, .ref 15, .int (I2 5), .int (I2 6), .int (I2 7)]),
    .inl (1, 616, .inr (.inl (U2 3))),
    .inl (1, 616, .inr (.inl (U2 4))),
    .inl (0, 20, .inl (T2 3)),
    .inl (0, 20, .inl (T2 4)),
    .inl (0, 20, .inl (T2 5)),
    .inl (0, 10, .inl (T2 6)),
    .inr (5, [.ref 17, .ref 18, .int 0]),
    .inl (1, 60, .inr (.inl (fun _ => 0))),
    .inl (1, 60, .inr (.inl (fun _ => 0))),
    .inr (7, [.ref 1, .ref 5, .ref 20, .ref 21, .int 0, .int 0, .ref 22, .int 0, .ref 23, .int 0, .long 0, .int 0]),
    .inl (2, 300, .inl (fun _ => 0)),
    .inl (2, 300, .inl (fun _ => 0)),
    .inl (1, 300, .inr (.inl (fun _ => 0))),
    .inl (0, 8, .inl (fun _ => 0)),
    .inr (3, [.null, .null, .null, .null, .null, .null, .null, .null, .int 0, .int 0, .int 0, .int 0, .int 0, .long 0, .int 0, .int 0])]
def ww_70 (I2 : Nat → Int32) (L1 : Nat → Int64) (U2 : Nat → Nat → Int64) (T2 : Nat → Nat → Int32) : rx_H := [.inr (10, [.ref 1, .ref 5, .ref 9, .ref 16, .ref 19, .null]),
    .inr (4, [.ref 2, .ref 3, .ref 4, .int (I2 0), .long (L1 0), .long (L1 1), .int (I2 1)]),
    .inl (1, 160, .inr (.inl (U2 0))),
    .inl (1, 160, .inr (.inl (U2 1))),
    .inl (0, 160, .inl (T2 0)),
    .inr (9, [.ref 6, .ref 7, .ref 8, .int (I2 2), .int (I2 3), .int (I2 4)]),
    .inl (1, 600, .inr (.inl (U2 2))),
    .inl (2, 600, .inl (T2 1)),
    .inl (2, 1000, .inl (T2 2)),
    .inr (0, [.ref 10, .ref 11, .ref 12, .ref 13, .ref 14, .ref 15, .int (I2 5), .int (I2 6), .int (I2 7)]),
    .inl (1, 616, .inr (.inl (U2 3))),
    .inl (1, 616, .inr (.inl (U2 4))),
    .inl (0, 20, .inl (T2 3)),
    .inl (0, 20, .inl (T2 4)),
    .inl (0, 20, .inl (T2 5)),
    .inl (0, 10, .inl (T2 6)),
    .inr (5, [.ref 17, .ref 18, .int 0]),
    .inl (1, 60, .inr (.inl (fun _ => 0))),
    .inl (1, 60, .inr (.inl (fun _ => 0))),
    .inr (7, [.ref 1, .ref 5, .ref 20, .ref 21, .int 0, .int 0, .ref 22, .int 0, .ref 23, .int 0, .long 0, .int 0]),
    .inl (2, 300, .inl (fun _ => 0)),
    .inl (2, 300, .inl (fun _ => 0)),
    .inl (1, 300, .inr (.inl (fun _ => 0))),
    .inl (0, 8, .inl (fun _ => 0)),
    .inr (3, [.ref 5, .ref 9, .ref 16, .ref 19, .ref 25, .ref 33, .ref 34, .ref 37, .int 0, .int 0, .int (Int32.ofInt (-1)), .int 0, .int 0, .long 0, .int 0, .int 0]),
    .inr (2, [.ref 26, .ref 27, .ref 28, .ref 29, .ref 30, .ref 31, .ref 32, .int 0]),
    .inl (0, 24, .inl (fun _ => 0)),
    .inl (1, 24, .inr (.inl (fun _ => 0))),
    .inl (1, 24, .inr (.inl (fun _ => 0))),
    .inl (1, 24, .inr (.inl (fun _ => 0))),
    .inl (1, 24, .inr (.inl (fun _ => 0))),
    .inl (1, 24, .inr (.inl (fun _ => 0))),
    .inl (1, 1776, .inr (.inl (fun _ => 0))),
    .inr (6, [.ref 1, .ref 5, .ref 16]),
    .inr (8, [.ref 1, .ref 5, .ref 9, .ref 16, .ref 35, .ref 36, .int 0]),
    .inl (1, 600, .inr (.inl (fun _ => 0))),
    .inl (1, 601, .inr (.inl (fun _ => 0))),
    .inr (1, [.ref 1, .ref 5, .ref 9, .ref 16, .long 0])]
set_option maxRecDepth 100000 in
theorem i11v (FO : rx_F) (hO : ∀ (vh : rx_H) (a : Nat), FO vh [.ref a] = some (none, vh)) (MC : Nat) (hm : ∀ k, k ≤ 37 → Nat.ble k MC = true) (G_X4_init : rx_F) (G_X9_init : rx_F) (G_X0_init : rx_F) (G_X5_init : rx_F) (G_X7_init : rx_F) (G_X3_init : rx_F) {I1 : Nat → Int32} {L1 : Nat → Int64} {T1 : Nat → Nat → Int32} {U1 : Nat → Nat → Int64} {I2 : Nat → Int32} {T2 : Nat → Nat → Int32} {U2 : Nat → Nat → Int64} (q1 : G_X4_init [.inr (10, [.null, .null, .null, .null, .null, .null]),
    .inr (4, [.null, .null, .null, .int 0, .long 0, .long 0, .int 0])] [.ref 1] = some (none, [.inr (10, [.null, .null, .null, .null, .null, .null]),
    .inr (4, [.ref 2, .ref 3, .ref 4, .int (I1 0), .long (L1 0), .long (L1 1), .int (I1 1)]),
    .inl (1, 160, .inr (.inl (U1 0))),
    .inl (1, 160, .inr (.inl (U1 1))),
    .inl (0, 160, .inl (T1 0))])) (q2 : G_X9_init (ww_61 I1 L1 U1 T1) [.ref 5] = some (none, (ww_62 I1 L1 U1 T1))) (q3 : G_X0_init (ww_63 I1 L1 U1 T1) [.ref 9] = some (none, (ww_64 I2 L1 U2 T2))) (q4 : G_X5_init (ww_65 I2 L1 U2 T2) [.ref 16] = some (none, (ww_66 I2 L1 U2 T2))) (q5 : G_X7_init (ww_67 I2 L1 U2 T2) [.ref 19, .ref 1, .ref 5] = some (none, (ww_68 I2 L1 U2 T2))) (q6 : G_X3_init (ww_69 I2 L1 U2 T2) [.ref 24, .ref 1, .ref 5, .ref 9, .ref 16, .ref 19] = some (none, (ww_70 I2 L1 U2 T2))) : ry_fn (rx_lkk kC_X11) (rx_lkf fL_X11) (rx_lkf fI_X11) (rx_lkg gS_X11) (rx_lkg fG_X11) (rx_lkw nW_X11) (rx_lkc [] [] [(1, (1, none, 0, 0, FO)), (9, (1, some 4, 3, 480, G_X4_init)), (18, (1, some 9, 3, 2200, G_X9_init)), (25, (1, some 0, 6, 1302, G_X0_init)), (32, (1, some 5, 2, 120, G_X5_init)), (39, (3, some 7, 4, 908, G_X7_init)), (48, (6, some 3, 13, 3144, G_X3_init))]) none MC 8207 1 kd_X11_init rx_fu [.inr (10, [.null, .null, .null, .null, .null, .null])] [.ref 0] = some (none, wc (fun k => if k < 8 then I2 k else if k = 16 then Int32.ofInt (-1) else 0) (fun k => if k < 2 then L1 k else 0) (fun k => if k < 7 then T2 k else fun _ => 0) (fun k => if k < 5 then U2 k else fun _ => 0)) := by
  refine ry_b (hO _ _) ?_
  refine ry_ms (W := [.inr (10, [.null, .null, .null, .null, .null, .null]),
    .inr (4, [.null, .null, .null, .int 0, .long 0, .long 0, .int 0])]) ?_ ?_ ?_
  · first | exact band (hm _ (Nat.le_of_ble_eq_true rfl)) rfl | exact band rfl (band (hm _ (Nat.le_of_ble_eq_true rfl)) rfl)
  · exact rfl
  refine ry_cw (hm _ (Nat.le_of_ble_eq_true rfl)) rfl rfl rfl q1 ?_
  refine ry_ms (W := (ww_61 I1 L1 U1 T1)) ?_ ?_ ?_
  · first | exact band (hm _ (Nat.le_of_ble_eq_true rfl)) rfl | exact band rfl (band (hm _ (Nat.le_of_ble_eq_true rfl)) rfl)
  · exact rfl
  refine ry_cw (hm _ (Nat.le_of_ble_eq_true rfl)) rfl rfl rfl q2 ?_
  refine ry_ms (W := (ww_63 I1 L1 U1 T1)) ?_ ?_ ?_
  · first | exact band (hm _ (Nat.le_of_ble_eq_true rfl)) rfl | exact band rfl (band (hm _ (Nat.le_of_ble_eq_true rfl)) rfl)
  · exact rfl
  refine ry_cw (hm _ (Nat.le_of_ble_eq_true rfl)) rfl rfl rfl q3 ?_
  refine ry_ms (W := (ww_65 I2 L1 U2 T2)) ?_ ?_ ?_
  · first | exact band (hm _ (Nat.le_of_ble_eq_true rfl)) rfl | exact band rfl (band (hm _ (Nat.le_of_ble_eq_true rfl)) rfl)
  · exact rfl
  refine ry_cw (hm _ (Nat.le_of_ble_eq_true rfl)) rfl rfl rfl q4 ?_
  refine ry_ms (W := (ww_67 I2 L1 U2 T2)) ?_ ?_ ?_
  · first | exact band (hm _ (Nat.le_of_ble_eq_true rfl)) rfl | exact band rfl (band (hm _ (Nat.le_of_ble_eq_true rfl)) rfl)
  · exact rfl
  refine ry_cw (hm _ (Nat.le_of_ble_eq_true rfl)) rfl rfl rfl q5 ?_
  refine ry_ms (W := (ww_69 I2 L1 U2 T2)) ?_ ?_ ?_
  · first | exact band (hm _ (Nat.le_of_ble_eq_true rfl)) rfl | exact band rfl (band (hm _ (Nat.le_of_ble_eq_true rfl)) rfl)
  · exact rfl
  refine ry_cw (hm _ (Nat.le_of_ble_eq_true rfl)) rfl rfl rfl q6 ?_
  exact rfl
/-! a new object of the class -/
set_option maxRecDepth 100000 in
theorem i11 : ∃ (I : Nat → Int32) (L : Nat → Int64) (T : Nat → Nat → Int32) (U : Nat → Nat → Int64), f_X11_init [.inr (10, [.null, .null, .null, .null, .null, .null])] [.ref 0] = some (none, wc I L T U) ∧ I 0 = nI 83 ∧ I 2 = nI 0 ∧ I 3 = nI 0 ∧ I 4 = nI 0 ∧ I 5 = nI 94 ∧ I 6 = nI 2 ∧ I 7 = nI 2 ∧ I 8 = nI 0 ∧ I 9 = nI 0 ∧ I 10 = nI 0 ∧ I 14 = nI 0 ∧ I 15 = nI 0 ∧ I 16 = Int32.ofInt (-1) ∧ T 3 0 = nI 0 ∧ T 3 1 = nI 74 ∧ T 4 0 = nI 74 ∧ T 4 1 = nI 20 ∧ T 5 0 = nI 74 ∧ T 5 1 = nI 0 ∧ T 6 0 = nI 0 ∧ T 6 1 = nI 1 ∧ NS 83 I T U ∧ ∀ k, k < 74 → U 3 k = eV (4, 0, 0, nI k) ∧ U 4 k = eV (8, 1, 0, nI k) := by
  obtain ⟨I1, L1, T1, U1, h1, n1⟩ := i4
  obtain ⟨I2, T2, U2, h2, b5, b6, b7, bx, c1, c2, c3, c4, c5, c6, c7, c8, ct, cu, cd⟩ := i0 (I := (fun k => if k < 2 then I1 k else 0)) (L := L1) (T := (fun k => if k < 1 then T1 k else fun _ => 0)) (U := (fun k => if k < 2 then U1 k else fun _ => 0))
  have e0 : I2 0 = I1 0 := bx 0 (by decide)
  have e2 : I2 2 = 0 := bx 2 (by decide)
  have e3 : I2 3 = 0 := bx 3 (by decide)
  have e4 : I2 4 = 0 := bx 4 (by decide)
  have t0 : T2 0 = T1 0 := ct 0 (by decide)
  have u0 : U2 0 = U1 0 := cu 0 (by decide)
  have u1 : U2 1 = U1 1 := cu 1 (by decide)
  refine ⟨(fun k => if k < 8 then I2 k else if k = 16 then Int32.ofInt (-1) else 0), (fun k => if k < 2 then L1 k else 0), (fun k => if k < 7 then T2 k else fun _ => 0), (fun k => if k < 5 then U2 k else fun _ => 0), ?_, ?_, e2, e3, e4, b5, b6, b7, rfl, rfl, rfl, rfl, rfl, rfl, c1, c2, c3, c4, c5, c6, c7, c8, ⟨?_, fun i hi => ?_⟩, cd⟩
  · exact ry_fn_eq (i11v rx_F0 (fun _ _ => rfl) 37 (fun k hk => Nat.ble_eq_true_of_le hk) f_X4_init f_X9_init f_X0_init f_X5_init f_X7_init f_X3_init h1 (i9 (I := I1) (L := L1) (T := T1) (U := U1)) h2 (i5 (I := I2) (L := L1) (T := T2) (U := U2)) (i7 (I := (fun k => if k < 8 then I2 k else if k = 16 then Int32.ofInt (-1) else 0)) (L := (fun k => if k < 2 then L1 k else 0)) (T := (fun k => if k < 7 then T2 k else fun _ => 0)) (U := (fun k => if k < 5 then U2 k else fun _ => 0))) (i3 (I := (fun k => if k < 8 then I2 k else if k = 16 then Int32.ofInt (-1) else 0)) (L := (fun k => if k < 2 then L1 k else 0)) (T := (fun k => if k < 7 then T2 k else fun _ => 0)) (U := (fun k => if k < 5 then U2 k else fun _ => 0))))
  · exact e0.trans n1.1
  · exact e0.trans n1.1
  · show T2 0 i = _ ∧ U2 0 i = _ ∧ U2 1 i = _
    rw [t0, u0, u1]
    exact n1.2 i hi
set_option maxRecDepth 100000 in
theorem i12v (FO : rx_F) (hO : ∀ (vh : rx_H) (a : Nat), FO vh [.ref a] = some (none, vh)) (MC : Nat) (hm : ∀ k, k ≤ 19 → Nat.ble k MC = true) (G_X12_clearAll : rx_F) {J' : Nat → Int32} {S' : Nat → Nat → Int32} {K' : Nat → Int64} (q1 : G_X12_clearAll (wr (fun _ => 0) (fun _ _ => 0) (fun _ => 0)) [.ref 0] = some (none, wr J' S' K')) : ry_fn (rx_lkk kC_X12) (rx_lkf fL_X12) (rx_lkf fI_X12) (rx_lkg gS_X12) (rx_lkg fG_X12) (rx_lkw nW_X12) (rx_lkc [(68, (1, some 11, 0, 0, G_X12_clearAll))] [] [(1, (1, none, 0, 0, FO))]) none MC 26430 1 kd_X12_init rx_fu [.inr (11, nB12)] [.ref 0] = some (none, wr J' S' K') := by
  refine ry_b (hO _ _) ?_
  refine ry_ms (W := [.inr (11, [.int 0, .int 0, .null, .int 0, .int 0, .int 0, .null, .int 0, .int 0, .null, .null, .null, .null, .null, .int 0, .null, .int 0, .null, .int 0, .int 0, .null, .null, .int 0, .null, .int 0, .int 0, .int 0, .null, .null, .null, .int 0, .int 0, .int 0, .int 0, .null, .int 0, .null, .int 0, .null, .int 0, .int 0, .int 0, .null]),
    .inl (0, 300, .inl (fun _ => 0))]) ?_ ?_ ?_
  · first | exact band (hm _ (Nat.le_of_ble_eq_true rfl)) rfl | exact band rfl (band (hm _ (Nat.le_of_ble_eq_true rfl)) rfl)
  · exact rfl
  refine ry_ms (W := [.inr (11, [.int 0, .int 0, .ref 1, .int 0, .int 0, .int 0, .null, .int 0, .int 0, .null, .null, .null, .null, .null, .int 0, .null, .int 0, .null, .int 0, .int 0, .null, .null, .int 0, .null, .int 0, .int 0, .int 0, .null, .null, .null, .int 0, .int 0, .int 0, .int 0, .null, .int 0, .null, .int 0, .null, .int 0, .int 0, .int 0, .null]),
    .inl (0, 300, .inl (fun _ => 0)),
    .inl (0, 320, .inl (fun _ => 0))]) ?_ ?_ ?_
  · first | exact band (hm _ (Nat.le_of_ble_eq_true rfl)) rfl | exact band rfl (band (hm _ (Nat.le_of_ble_eq_true rfl)) rfl)
  · exact rfl
  refine ry_ms (W := [.inr (11, [.int 0, .int 0, .ref 1, .int 0, .int 0, .int 0, .ref 2, .int 0, .int 0, .null, .null, .null, .null, .null, .int 0, .null, .int 0, .null, .int 0, .int 0, .null, .null, .int 0, .null, .int 0, .int 0, .int 0, .null, .null, .null, .int 0, .int 0, .int 0, .int 0, .null, .int 0, .null, .int 0, .null, .int 0, .int 0, .int 0, .null]),
    .inl (0, 300, .inl (fun _ => 0)),
    .inl (0, 320, .inl (fun _ => 0)),
    .inl (0, 10, .inl (fun _ => 0))]) ?_ ?_ ?_
  · first | exact band (hm _ (Nat.le_of_ble_eq_true rfl)) rfl | exact band rfl (band (hm _ (Nat.le_of_ble_eq_true rfl)) rfl)
  · exact rfl
  refine ry_ms (W := [.inr (11, [.int 0, .int 0, .ref 1, .int 0, .int 0, .int 0, .ref 2, .int 0, .int 0, .ref 3, .null, .null, .null, .null, .int 0, .null, .int 0, .null, .int 0, .int 0, .null, .null, .int 0, .null, .int 0, .int 0, .int 0, .null, .null, .null, .int 0, .int 0, .int 0, .int 0, .null, .int 0, .null, .int 0, .null, .int 0, .int 0, .int 0, .null]),
    .inl (0, 300, .inl (fun _ => 0)),
    .inl (0, 320, .inl (fun _ => 0)),
    .inl (0, 10, .inl (fun _ => 0)),
    .inl (0, 20, .inl (fun _ => 0))]) ?_ ?_ ?_
  · first | exact band (hm _ (Nat.le_of_ble_eq_true rfl)) rfl | exact band rfl (band (hm _ (Nat.le_of_ble_eq_true rfl)) rfl)
  · exact rfl
  refine ry_ms (W := ww_45) ?_ ?_ ?_
  · first | exact band (hm _ (Nat.le_of_ble_eq_true rfl)) rfl | exact band rfl (band (hm _ (Nat.le_of_ble_eq_true rfl)) rfl)
  · exact rfl
  refine ry_ms (W := ww_46) ?_ ?_ ?_
  · first | exact band (hm _ (Nat.le_of_ble_eq_true rfl)) rfl | exact band rfl (band (hm _ (Nat.le_of_ble_eq_true rfl)) rfl)
  · exact rfl
  refine ry_ms (W := ww_47) ?_ ?_ ?_
  · first | exact band (hm _ (Nat.le_of_ble_eq_true rfl)) rfl | exact band rfl (band (hm _ (Nat.le_of_ble_eq_true rfl)) rfl)
  · exact rfl
  refine ry_ms (W := ww_48) ?_ ?_ ?_
  · first | exact band (hm _ (Nat.le_of_ble_eq_true rfl)) rfl | exact band rfl (band (hm _ (Nat.le_of_ble_eq_true rfl)) rfl)
  · exact rfl
  refine ry_ms (W := ww_49) ?_ ?_ ?_
  · first | exact band (hm _ (Nat.le_of_ble_eq_true rfl)) rfl | exact band rfl (band (hm _ (Nat.le_of_ble_eq_true rfl)) rfl)
  · exact rfl
  refine ry_ms (W := ww_50) ?_ ?_ ?_
  · first | exact band (hm _ (Nat.le_of_ble_eq_true rfl)) rfl | exact band rfl (band (hm _ (Nat.le_of_ble_eq_true rfl)) rfl)
  · exact rfl
  refine ry_ms (W := ww_51) ?_ ?_ ?_
  · first | exact band (hm _ (Nat.le_of_ble_eq_true rfl)) rfl | exact band rfl (band (hm _ (Nat.le_of_ble_eq_true rfl)) rfl)
  · exact rfl
  refine ry_ms (W := ww_52) ?_ ?_ ?_
  · first | exact band (hm _ (Nat.le_of_ble_eq_true rfl)) rfl | exact band rfl (band (hm _ (Nat.le_of_ble_eq_true rfl)) rfl)
  · exact rfl
  refine ry_ms (W := ww_53) ?_ ?_ ?_
  · first | exact band (hm _ (Nat.le_of_ble_eq_true rfl)) rfl | exact band rfl (band (hm _ (Nat.le_of_ble_eq_true rfl)) rfl)
  · exact rfl
  refine ry_ms (W := ww_54) ?_ ?_ ?_
  · first | exact band (hm _ (Nat.le_of_ble_eq_true rfl)) rfl | exact band rfl (band (hm _ (Nat.le_of_ble_eq_true rfl)) rfl)
  · exact rfl
  refine ry_ms (W := ww_55) ?_ ?_ ?_
  · first | exact band (hm _ (Nat.le_of_ble_eq_true rfl)) rfl | exact band rfl (band (hm _ (Nat.le_of_ble_eq_true rfl)) rfl)
  · exact rfl
  refine ry_ms (W := ww_56) ?_ ?_ ?_
  · first | exact band (hm _ (Nat.le_of_ble_eq_true rfl)) rfl | exact band rfl (band (hm _ (Nat.le_of_ble_eq_true rfl)) rfl)
  · exact rfl
  refine ry_ms (W := ww_57) ?_ ?_ ?_
  · first | exact band (hm _ (Nat.le_of_ble_eq_true rfl)) rfl | exact band rfl (band (hm _ (Nat.le_of_ble_eq_true rfl)) rfl)
  · exact rfl
  refine ry_ms (W := ww_58) ?_ ?_ ?_
  · first | exact band (hm _ (Nat.le_of_ble_eq_true rfl)) rfl | exact band rfl (band (hm _ (Nat.le_of_ble_eq_true rfl)) rfl)
  · exact rfl
  refine ry_ms (W := ww_59) ?_ ?_ ?_
  · first | exact band (hm _ (Nat.le_of_ble_eq_true rfl)) rfl | exact band rfl (band (hm _ (Nat.le_of_ble_eq_true rfl)) rfl)
  · exact rfl
  refine ry_cw (hm _ (Nat.le_of_ble_eq_true rfl)) rfl rfl rfl q1 ?_
  exact rfl
/-- a new object of the reference -/
theorem i12 : ∃ (J : Nat → Int32) (S : Nat → Nat → Int32) (K : Nat → Int64), f_X12_init [.inr (11, nB12)] [.ref 0] = some (none, wr J S K) ∧ J 0 = 0 ∧ J 1 = nI 0 ∧ J 4 = nI 0 ∧ J 5 = nI 2 ∧ J 6 = nI 2 ∧ J 7 = nI 0 ∧ J 8 = nI 0 ∧ J 10 = nI 83 ∧ J 11 = nI 0 ∧ J 12 = nI 0 ∧ J 13 = Int32.ofInt (-1) ∧ J 15 = nI 0 ∧ S 3 0 = nI 74 ∧ S 3 1 = nI 20 ∧ S 4 0 = nI 74 ∧ S 4 1 = nI 0 ∧ S 2 0 = nI 0 ∧ S 2 1 = nI 1 ∧ NMS 83 S ∧ ∀ k, k < 74 → S 5 (2 * k) = nI 4 ∧ S 5 (2 * k + 1) = nI k ∧ r5 (S 6) k (8, 1, 0, nI k) := by
  obtain ⟨J', S', h2, j0, j1, j4, j5, j6, j7, j8, j10, j11, j12, j13, j15, s0, s1, s2, s3, s4, s5, s6, hM, hK⟩ := t_clearAll (I := fun _ => 0) (T := fun _ _ => 0) (K := fun _ => 0)
  exact ⟨J', S', fun _ => 0, ry_fn_eq (i12v rx_F0 (fun _ _ => rfl) 19 (fun k hk => Nat.ble_eq_true_of_le hk) f_X12_clearAll h2), j0, j1, j4, j5, j6, j7, j8, j10, j11, j12, j13, j15, s1, s2, s3, s4, s5, s6, hM, hK⟩
