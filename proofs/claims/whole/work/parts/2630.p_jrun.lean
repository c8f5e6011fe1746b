def cfv_X12_run (F_X12_nextToken : rx_F) (F_X12_nextValue : rx_F) (F_X12_isFull : rx_F) (F_X12_fail : rx_F) (F_X12_pushBool : rx_F) (F_X12_round : rx_F) : Instr → Option rx_C := rx_lkc [(664, (1, some 11, 0, 0, F_X12_nextToken)), (667, (2, some 11, 0, 0, F_X12_nextValue)), (408, (2, some 11, 0, 0, F_X12_isFull)), (423, (3, some 11, 0, 0, F_X12_fail)), (411, (2, some 11, 0, 0, F_X12_pushBool)), (670, (3, some 11, 0, 0, F_X12_round))] [] []
def fv_X12_run (F_X12_nextToken : rx_F) (F_X12_nextValue : rx_F) (F_X12_isFull : rx_F) (F_X12_fail : rx_F) (F_X12_pushBool : rx_F) (F_X12_round : rx_F) : rx_F := rx_fn (rx_lkk kC_X12) (rx_lkf fL_X12) (rx_lkf fP_X12) (rx_lkg gS_X12) (rx_lkg fG_X12) (rx_lkw nW_X12) (cfv_X12_run F_X12_nextToken F_X12_nextValue F_X12_isFull F_X12_fail F_X12_pushBool F_X12_round) (some .int) 0 0 4 kd_X12_run rx_fu
theorem fv_X12_run_eq : f_X12_run = fv_X12_run f_X12_nextToken f_X12_nextValue f_X12_isFull f_X12_fail f_X12_pushBool f_X12_round := rfl
noncomputable def z_X12_run (F_X12_nextToken : rx_F) (F_X12_nextValue : rx_F) (F_X12_isFull : rx_F) (F_X12_fail : rx_F) (F_X12_pushBool : rx_F) (F_X12_round : rx_F) : Nat → List Value → List Value → rx_H → Nat → rx_R := rz_run (rx_lkk kC_X12) (rx_lkf fL_X12) (rx_lkf fP_X12) (rx_lkg gS_X12) (rx_lkg fG_X12) (cfv_X12_run F_X12_nextToken F_X12_nextValue F_X12_isFull F_X12_fail F_X12_pushBool F_X12_round) (some .int) kd_X12_run
def cfv_X11_run (F_X3_begin : rx_F) (F_X3_takeTurn : rx_F) (F_X7_discard : rx_F) : Instr → Option rx_C := rx_lkc [(66, (2, some 3, 0, 0, F_X3_begin)), (75, (1, some 3, 0, 0, F_X3_takeTurn)), (78, (1, some 7, 0, 0, F_X7_discard))] [] []
def fv_X11_run (F_X3_begin : rx_F) (F_X3_takeTurn : rx_F) (F_X7_discard : rx_F) : rx_F := rx_fn (rx_lkk kC_X11) (rx_lkf fL_X11) (rx_lkf fP_X11) (rx_lkg gS_X11) (rx_lkg fG_X11) (rx_lkw nW_X11) (cfv_X11_run F_X3_begin F_X3_takeTurn F_X7_discard) (some .int) 0 0 3 kd_X11_run rx_fu
theorem fv_X11_run_eq : f_X11_run = fv_X11_run f_X3_begin f_X3_takeTurn f_X7_discard := rfl
noncomputable def z_X11_run (F_X3_begin : rx_F) (F_X3_takeTurn : rx_F) (F_X7_discard : rx_F) : Nat → List Value → List Value → rx_H → Nat → rx_R := rz_run (rx_lkk kC_X11) (rx_lkf fL_X11) (rx_lkf fP_X11) (rx_lkg gS_X11) (rx_lkg fG_X11) (cfv_X11_run F_X3_begin F_X3_takeTurn F_X7_discard) (some .int) kd_X11_run
set_option maxRecDepth 100000 in
theorem q_X12_run_74_1 (F_X12_nextToken : rx_F) (F_X12_nextValue : rx_F) (F_X12_isFull : rx_F) (F_X12_fail : rx_F) (F_X12_pushBool : rx_F) (F_X12_round : rx_F) (I : Nat → Int32) (T : Nat → Nat → Int32) (K : Nat → Int64) (I_1 : Nat → Int32) (T_1 : Nat → Nat → Int32) (K_1 : Nat → Int64) (h1 : (I 17) = (Int32.ofInt (-1))) (h2 : ¬ ((12 * ((I 14) - 1)) < 0 ∨ 300 ≤ ((12 * ((I 14) - 1)) : Int32).toNatClampNeg)) (h3 : ((T 12) ((12 * ((I 14) - 1)) : Int32).toNatClampNeg) = 0) (h4 : F_X12_nextToken (wr I T K) [.ref 0] = some (none, wr I_1 T_1 K_1)) {rs : Option Value × rx_H} {m : Nat} (hz : z_X12_run F_X12_nextToken F_X12_nextValue F_X12_isFull F_X12_fail F_X12_pushBool F_X12_round 74 [.ref 0, .null, .null, .null] [] (wr I_1 T_1 K_1) m = some rs) : z_X12_run F_X12_nextToken F_X12_nextValue F_X12_isFull F_X12_fail F_X12_pushBool F_X12_round 74 [.ref 0, .null, .null, .null] [] (wr I T K) (m + 2) = some rs := (by
  refine ry_t h1 ?_
  refine ry_f h2 ?_
  refine ry_t h3 ?_
  refine ry_b h4 ?_
  refine Eq.trans (b := z_X12_run F_X12_nextToken F_X12_nextValue F_X12_isFull F_X12_fail F_X12_pushBool F_X12_round 74 [.ref 0, .null, .int (12 * ((I 14) - 1)), .int ((T 12) ((12 * ((I 14) - 1)) : Int32).toNatClampNeg)] [] (wr I_1 T_1 K_1) m) rfl ?_
  exact rz_fg (a := [.ref 0, .null, .int (12 * ((I 14) - 1)), .int ((T 12) ((12 * ((I 14) - 1)) : Int32).toNatClampNeg)]) [2, 3] (Nat.le_refl _) hz)
set_option maxRecDepth 100000 in
theorem q_X12_run_74_2 (F_X12_nextToken : rx_F) (F_X12_nextValue : rx_F) (F_X12_isFull : rx_F) (F_X12_fail : rx_F) (F_X12_pushBool : rx_F) (F_X12_round : rx_F) (I : Nat → Int32) (T : Nat → Nat → Int32) (K : Nat → Int64) (I_1 : Nat → Int32) (T_1 : Nat → Nat → Int32) (K_1 : Nat → Int64) (h1 : (I 17) = (Int32.ofInt (-1))) (h2 : ¬ ((12 * ((I 14) - 1)) < 0 ∨ 300 ≤ ((12 * ((I 14) - 1)) : Int32).toNatClampNeg)) (h3 : ¬ (((T 12) ((12 * ((I 14) - 1)) : Int32).toNatClampNeg) = 0)) (h4 : ((T 12) ((12 * ((I 14) - 1)) : Int32).toNatClampNeg) = 1) (h5 : F_X12_nextValue (wr I T K) [.ref 0, .int (12 * ((I 14) - 1))] = some (none, wr I_1 T_1 K_1)) {rs : Option Value × rx_H} {m : Nat} (hz : z_X12_run F_X12_nextToken F_X12_nextValue F_X12_isFull F_X12_fail F_X12_pushBool F_X12_round 74 [.ref 0, .null, .null, .null] [] (wr I_1 T_1 K_1) m = some rs) : z_X12_run F_X12_nextToken F_X12_nextValue F_X12_isFull F_X12_fail F_X12_pushBool F_X12_round 74 [.ref 0, .null, .null, .null] [] (wr I T K) (m + 3) = some rs := (by
  refine ry_t h1 ?_
  refine ry_f h2 ?_
  refine ry_f h3 ?_
  refine ry_t h4 ?_
  refine ry_b h5 ?_
  refine Eq.trans (b := z_X12_run F_X12_nextToken F_X12_nextValue F_X12_isFull F_X12_fail F_X12_pushBool F_X12_round 74 [.ref 0, .null, .int (12 * ((I 14) - 1)), .int ((T 12) ((12 * ((I 14) - 1)) : Int32).toNatClampNeg)] [] (wr I_1 T_1 K_1) m) rfl ?_
  exact rz_fg (a := [.ref 0, .null, .int (12 * ((I 14) - 1)), .int ((T 12) ((12 * ((I 14) - 1)) : Int32).toNatClampNeg)]) [2, 3] (Nat.le_refl _) hz)
set_option maxRecDepth 100000 in
theorem q_X12_run_74_3 (F_X12_nextToken : rx_F) (F_X12_nextValue : rx_F) (F_X12_isFull : rx_F) (F_X12_fail : rx_F) (F_X12_pushBool : rx_F) (F_X12_round : rx_F) (I : Nat → Int32) (T : Nat → Nat → Int32) (K : Nat → Int64) (r1 : Int32) (I_2 : Nat → Int32) (T_2 : Nat → Nat → Int32) (K_2 : Nat → Int64) (h1 : (I 17) = (Int32.ofInt (-1))) (h2 : ¬ ((12 * ((I 14) - 1)) < 0 ∨ 300 ≤ ((12 * ((I 14) - 1)) : Int32).toNatClampNeg)) (h3 : ¬ (((T 12) ((12 * ((I 14) - 1)) : Int32).toNatClampNeg) = 0)) (h4 : ¬ (((T 12) ((12 * ((I 14) - 1)) : Int32).toNatClampNeg) = 1)) (h5 : ((T 12) ((12 * ((I 14) - 1)) : Int32).toNatClampNeg) = 2) (h6 : F_X12_isFull (wr (uI I 14 ((I 14) - 1)) T K) [.ref 0, .int 1] = some (some (.int r1), wr (uI I 14 ((I 14) - 1)) T K)) (h7 : ¬ (r1 = 0)) (h8 : F_X12_fail (wr (uI I 14 ((I 14) - 1)) T K) [.ref 0, .int 13, .int 65] = some (none, wr I_2 T_2 K_2)) {rs : Option Value × rx_H} {m : Nat} (hz : z_X12_run F_X12_nextToken F_X12_nextValue F_X12_isFull F_X12_fail F_X12_pushBool F_X12_round 74 [.ref 0, .null, .null, .null] [] (wr I_2 T_2 K_2) m = some rs) : z_X12_run F_X12_nextToken F_X12_nextValue F_X12_isFull F_X12_fail F_X12_pushBool F_X12_round 74 [.ref 0, .null, .null, .null] [] (wr I T K) (m + 4) = some rs := (by
  refine ry_t h1 ?_
  refine ry_f h2 ?_
  refine ry_f h3 ?_
  refine ry_f h4 ?_
  refine ry_t h5 ?_
  refine ry_b h6 ?_
  refine ry_f h7 ?_
  refine ry_b h8 ?_
  refine Eq.trans (b := z_X12_run F_X12_nextToken F_X12_nextValue F_X12_isFull F_X12_fail F_X12_pushBool F_X12_round 74 [.ref 0, .null, .int (12 * ((I 14) - 1)), .int ((T 12) ((12 * ((I 14) - 1)) : Int32).toNatClampNeg)] [] (wr I_2 T_2 K_2) m) rfl ?_
  exact rz_fg (a := [.ref 0, .null, .int (12 * ((I 14) - 1)), .int ((T 12) ((12 * ((I 14) - 1)) : Int32).toNatClampNeg)]) [2, 3] (Nat.le_refl _) hz)
set_option maxRecDepth 100000 in
theorem q_X12_run_74_4 (F_X12_nextToken : rx_F) (F_X12_nextValue : rx_F) (F_X12_isFull : rx_F) (F_X12_fail : rx_F) (F_X12_pushBool : rx_F) (F_X12_round : rx_F) (I : Nat → Int32) (T : Nat → Nat → Int32) (K : Nat → Int64) (r1 : Int32) (I_2 : Nat → Int32) (T_2 : Nat → Nat → Int32) (K_2 : Nat → Int64) (h1 : (I 17) = (Int32.ofInt (-1))) (h2 : ¬ ((12 * ((I 14) - 1)) < 0 ∨ 300 ≤ ((12 * ((I 14) - 1)) : Int32).toNatClampNeg)) (h3 : ¬ (((T 12) ((12 * ((I 14) - 1)) : Int32).toNatClampNeg) = 0)) (h4 : ¬ (((T 12) ((12 * ((I 14) - 1)) : Int32).toNatClampNeg) = 1)) (h5 : ((T 12) ((12 * ((I 14) - 1)) : Int32).toNatClampNeg) = 2) (h6 : F_X12_isFull (wr (uI I 14 ((I 14) - 1)) T K) [.ref 0, .int 1] = some (some (.int r1), wr (uI I 14 ((I 14) - 1)) T K)) (h7 : r1 = 0) (h8 : F_X12_pushBool (wr (uI I 14 ((I 14) - 1)) T K) [.ref 0, .int 0] = some (none, wr I_2 T_2 K_2)) {rs : Option Value × rx_H} {m : Nat} (hz : z_X12_run F_X12_nextToken F_X12_nextValue F_X12_isFull F_X12_fail F_X12_pushBool F_X12_round 74 [.ref 0, .null, .null, .null] [] (wr I_2 T_2 K_2) m = some rs) : z_X12_run F_X12_nextToken F_X12_nextValue F_X12_isFull F_X12_fail F_X12_pushBool F_X12_round 74 [.ref 0, .null, .null, .null] [] (wr I T K) (m + 5) = some rs := (by
  refine ry_t h1 ?_
  refine ry_f h2 ?_
  refine ry_f h3 ?_
  refine ry_f h4 ?_
  refine ry_t h5 ?_
  refine ry_b h6 ?_
  refine ry_t h7 ?_
  refine ry_b h8 ?_
  refine Eq.trans (b := z_X12_run F_X12_nextToken F_X12_nextValue F_X12_isFull F_X12_fail F_X12_pushBool F_X12_round 74 [.ref 0, .null, .int (12 * ((I 14) - 1)), .int ((T 12) ((12 * ((I 14) - 1)) : Int32).toNatClampNeg)] [] (wr I_2 T_2 K_2) m) rfl ?_
  exact rz_fg (a := [.ref 0, .null, .int (12 * ((I 14) - 1)), .int ((T 12) ((12 * ((I 14) - 1)) : Int32).toNatClampNeg)]) [2, 3] (Nat.le_refl _) hz)
set_option maxRecDepth 100000 in
theorem q_X12_run_74_5 (F_X12_nextToken : rx_F) (F_X12_nextValue : rx_F) (F_X12_isFull : rx_F) (F_X12_fail : rx_F) (F_X12_pushBool : rx_F) (F_X12_round : rx_F) (I : Nat → Int32) (T : Nat → Nat → Int32) (K : Nat → Int64) (I_1 : Nat → Int32) (T_1 : Nat → Nat → Int32) (K_1 : Nat → Int64) (h1 : (I 17) = (Int32.ofInt (-1))) (h2 : ¬ ((12 * ((I 14) - 1)) < 0 ∨ 300 ≤ ((12 * ((I 14) - 1)) : Int32).toNatClampNeg)) (h3 : ¬ (((T 12) ((12 * ((I 14) - 1)) : Int32).toNatClampNeg) = 0)) (h4 : ¬ (((T 12) ((12 * ((I 14) - 1)) : Int32).toNatClampNeg) = 1)) (h5 : ¬ (((T 12) ((12 * ((I 14) - 1)) : Int32).toNatClampNeg) = 2)) (h6 : F_X12_round (wr I T K) [.ref 0, .int (12 * ((I 14) - 1)), .int ((T 12) ((12 * ((I 14) - 1)) : Int32).toNatClampNeg)] = some (none, wr I_1 T_1 K_1)) {rs : Option Value × rx_H} {m : Nat} (hz : z_X12_run F_X12_nextToken F_X12_nextValue F_X12_isFull F_X12_fail F_X12_pushBool F_X12_round 74 [.ref 0, .null, .null, .null] [] (wr I_1 T_1 K_1) m = some rs) : z_X12_run F_X12_nextToken F_X12_nextValue F_X12_isFull F_X12_fail F_X12_pushBool F_X12_round 74 [.ref 0, .null, .null, .null] [] (wr I T K) (m + 5) = some rs := (by
  refine ry_t h1 ?_
  refine ry_f h2 ?_
  refine ry_f h3 ?_
  refine ry_f h4 ?_
  refine ry_f h5 ?_
  refine ry_b h6 ?_
  refine Eq.trans (b := z_X12_run F_X12_nextToken F_X12_nextValue F_X12_isFull F_X12_fail F_X12_pushBool F_X12_round 74 [.ref 0, .null, .int (12 * ((I 14) - 1)), .int ((T 12) ((12 * ((I 14) - 1)) : Int32).toNatClampNeg)] [] (wr I_1 T_1 K_1) m) rfl ?_
  exact rz_fg (a := [.ref 0, .null, .int (12 * ((I 14) - 1)), .int ((T 12) ((12 * ((I 14) - 1)) : Int32).toNatClampNeg)]) [2, 3] (Nat.le_refl _) hz)
set_option maxRecDepth 100000 in
theorem q_X12_run_74_6 (F_X12_nextToken : rx_F) (F_X12_nextValue : rx_F) (F_X12_isFull : rx_F) (F_X12_fail : rx_F) (F_X12_pushBool : rx_F) (F_X12_round : rx_F) (I : Nat → Int32) (T : Nat → Nat → Int32) (K : Nat → Int64) (h1 : ¬ ((I 17) = (Int32.ofInt (-1)))) {m : Nat} : z_X12_run F_X12_nextToken F_X12_nextValue F_X12_isFull F_X12_fail F_X12_pushBool F_X12_round 74 [.ref 0, .null, .null, .null] [] (wr I T K) (m + 2) = some (some (.int (I 17)), wr (uI I 14 0) T K) := (ry_f h1 rfl)
set_option maxRecDepth 100000 in
theorem q_X11_run_31_1 (F_X3_begin : rx_F) (F_X3_takeTurn : rx_F) (F_X7_discard : rx_F) (I : Nat → Int32) (L : Nat → Int64) (T : Nat → Nat → Int32) (U : Nat → Nat → Int64) (x2 : Int32) (I_1 : Nat → Int32) (L_1 : Nat → Int64) (T_1 : Nat → Nat → Int32) (U_1 : Nat → Nat → Int64) (h1 : ¬ (1000000 ≤ x2)) (h2 : (I 18) = (Int32.ofInt (-1))) (h3 : F_X3_takeTurn (wc I L T U) [.ref 24] = some (none, wc I_1 L_1 T_1 U_1)) {rs : Option Value × rx_H} {m : Nat} (hz : z_X11_run F_X3_begin F_X3_takeTurn F_X7_discard 31 [.ref 0, .null, .int (x2 + 1)] [] (wc I_1 L_1 T_1 U_1) m = some rs) : z_X11_run F_X3_begin F_X3_takeTurn F_X7_discard 31 [.ref 0, .null, .int x2] [] (wc I L T U) (m + 1) = some rs := (ry_f h1 (ry_t h2 (ry_b h3 hz)))
