noncomputable def z_X8_noteArray  : Nat → List Value → List Value → rx_H → Nat → rx_R := rz_run (rx_lkk kC_X8) (rx_lkf fL_X8) (rx_lkf fP_X8) (rx_lkg gS_X8) (rx_lkg fG_X8) cf_X8_noteArray none kd_X8_noteArray
set_option maxRecDepth 100000 in
theorem q_X8_noteArray_2_2 (I : Nat → Int32) (L : Nat → Int64) (T : Nat → Nat → Int32) (U : Nat → Nat → Int64) (x1 : Int64) (x3 : Int32) (h1 : ¬ ((I 22) ≤ x3)) (h2 : ¬ (601 ≤ x3)) (h3 : ¬ (x3 < 0 ∨ 601 ≤ (x3 : Int32).toNatClampNeg)) (h4 : ¬ ((lg_cmp ((U 15) (x3 : Int32).toNatClampNeg) x1) = 0)) {rs : Option Value × rx_H} {m : Nat} (hz : z_X8_noteArray 2 [.ref 34, .long x1, .null, .int (x3 + 1)] [] (wc I L T U) m = some rs) : z_X8_noteArray 2 [.ref 34, .long x1, .null, .int x3] [] (wc I L T U) (m + 2) = some rs := (ry_f h1 (ry_f h2 (ry_f h3 (ry_f h4 hz))))
set_option maxRecDepth 100000 in
theorem q_X8_noteArray_2_1 (I : Nat → Int32) (L : Nat → Int64) (T : Nat → Nat → Int32) (U : Nat → Nat → Int64) (x1 : Int64) (x3 : Int32) (h1 : ¬ ((I 22) ≤ x3)) (h2 : ¬ (601 ≤ x3)) (h3 : ¬ (x3 < 0 ∨ 601 ≤ (x3 : Int32).toNatClampNeg)) (h4 : (lg_cmp ((U 15) (x3 : Int32).toNatClampNeg) x1) = 0) {m : Nat} : z_X8_noteArray 2 [.ref 34, .long x1, .null, .int x3] [] (wc I L T U) (m + 1) = some (none, wc I L T U) := (ry_f h1 (ry_f h2 (ry_f h3 (ry_t h4 rfl))))
set_option maxRecDepth 100000 in
theorem p_X8_noteArray_1 (I : Nat → Int32) (L : Nat → Int64) (T : Nat → Nat → Int32) (U : Nat → Nat → Int64) (a1 : Int64)  {rs : Option Value × rx_H} {m : Nat} (hm : m + 1 ≤ 1000000000) (hz : z_X8_noteArray 2 [.ref 34, .long a1, .null, .int 0] [] (wc I L T U) m = some rs) : f_X8_noteArray (wc I L T U) [.ref 34, .long a1] = some rs := rz_en (m + 1) hm rfl hz
set_option maxRecDepth 100000 in
theorem q_X8_noteArray_2_6 (I : Nat → Int32) (L : Nat → Int64) (T : Nat → Nat → Int32) (U : Nat → Nat → Int64) (x1 : Int64) (x3 : Int32) (h1 : (I 22) ≤ x3) (h2 : ¬ ((I 22) < 0)) (h3 : ¬ (601 ≤ (I 22))) (h4 : ¬ ((I 22) < 0 ∨ 601 ≤ ((I 22) : Int32).toNatClampNeg)) {m : Nat} : z_X8_noteArray 2 [.ref 34, .long x1, .null, .int x3] [] (wc I L T U) (m + 3) = some (none, wc (uI I 22 ((I 22) + 1)) L T (uU U 15 (vp_updL (U 15) ((I 22) : Int32).toNatClampNeg x1))) := (ry_t h1 (ry_f h2 (ry_f h3 (ry_f h4 rfl))))
noncomputable def z_X12_isIn  : Nat → List Value → List Value → rx_H → Nat → rx_R := rz_run (rx_lkk kC_X12) (rx_lkf fL_X12) (rx_lkf fP_X12) (rx_lkg gS_X12) (rx_lkg fG_X12) cf_X12_isIn (some .boolean) kd_X12_isIn
set_option maxRecDepth 100000 in
theorem q_X12_isIn_6_1 (I : Nat → Int32) (T : Nat → Nat → Int32) (K : Nat → Int64) (x1 : Int32) (x2 : Int32) (x3 : Int32) (x4 : Int32) (x5 : Int32) (h1 : ¬ (x1 ≤ x5)) (h2 : x4 = 0) (h3 : ¬ ((2 * x5) < 0 ∨ 1300 ≤ ((2 * x5) : Int32).toNatClampNeg)) (h4 : ((T 17) ((2 * x5) : Int32).toNatClampNeg) = x2) (h5 : ¬ (((2 * x5) + 1) < 0 ∨ 1300 ≤ (((2 * x5) + 1) : Int32).toNatClampNeg)) (h6 : ((T 17) (((2 * x5) + 1) : Int32).toNatClampNeg) = x3) {rs : Option Value × rx_H} {m : Nat} (hz : z_X12_isIn 6 [.ref 0, .int x1, .int x2, .int x3, .int 1, .int (x5 + 1)] [] (wr I T K) m = some rs) : z_X12_isIn 6 [.ref 0, .int x1, .int x2, .int x3, .int x4, .int x5] [] (wr I T K) (m + 3) = some rs := (ry_f h1 (ry_t h2 (ry_f h3 (ry_t h4 (ry_f h5 (ry_t h6 hz))))))
set_option maxRecDepth 100000 in
theorem q_X12_isIn_6_2 (I : Nat → Int32) (T : Nat → Nat → Int32) (K : Nat → Int64) (x1 : Int32) (x2 : Int32) (x3 : Int32) (x4 : Int32) (x5 : Int32) (h1 : ¬ (x1 ≤ x5)) (h2 : x4 = 0) (h3 : ¬ ((2 * x5) < 0 ∨ 1300 ≤ ((2 * x5) : Int32).toNatClampNeg)) (h4 : ((T 17) ((2 * x5) : Int32).toNatClampNeg) = x2) (h5 : ¬ (((2 * x5) + 1) < 0 ∨ 1300 ≤ (((2 * x5) + 1) : Int32).toNatClampNeg)) (h6 : ¬ (((T 17) (((2 * x5) + 1) : Int32).toNatClampNeg) = x3)) {rs : Option Value × rx_H} {m : Nat} (hz : z_X12_isIn 6 [.ref 0, .int x1, .int x2, .int x3, .int 0, .int (x5 + 1)] [] (wr I T K) m = some rs) : z_X12_isIn 6 [.ref 0, .int x1, .int x2, .int x3, .int x4, .int x5] [] (wr I T K) (m + 3) = some rs := (ry_f h1 (ry_t h2 (ry_f h3 (ry_t h4 (ry_f h5 (ry_f h6 hz))))))
set_option maxRecDepth 100000 in
theorem q_X12_isIn_6_3 (I : Nat → Int32) (T : Nat → Nat → Int32) (K : Nat → Int64) (x1 : Int32) (x2 : Int32) (x3 : Int32) (x4 : Int32) (x5 : Int32) (h1 : ¬ (x1 ≤ x5)) (h2 : x4 = 0) (h3 : ¬ ((2 * x5) < 0 ∨ 1300 ≤ ((2 * x5) : Int32).toNatClampNeg)) (h4 : ¬ (((T 17) ((2 * x5) : Int32).toNatClampNeg) = x2)) {rs : Option Value × rx_H} {m : Nat} (hz : z_X12_isIn 6 [.ref 0, .int x1, .int x2, .int x3, .int 0, .int (x5 + 1)] [] (wr I T K) m = some rs) : z_X12_isIn 6 [.ref 0, .int x1, .int x2, .int x3, .int x4, .int x5] [] (wr I T K) (m + 3) = some rs := (ry_f h1 (ry_t h2 (ry_f h3 (ry_f h4 hz))))
set_option maxRecDepth 100000 in
theorem q_X12_isIn_6_4 (I : Nat → Int32) (T : Nat → Nat → Int32) (K : Nat → Int64) (x1 : Int32) (x2 : Int32) (x3 : Int32) (x4 : Int32) (x5 : Int32) (h1 : ¬ (x1 ≤ x5)) (h2 : ¬ (x4 = 0)) {rs : Option Value × rx_H} {m : Nat} (hz : z_X12_isIn 6 [.ref 0, .int x1, .int x2, .int x3, .int 1, .int (x5 + 1)] [] (wr I T K) m = some rs) : z_X12_isIn 6 [.ref 0, .int x1, .int x2, .int x3, .int x4, .int x5] [] (wr I T K) (m + 3) = some rs := (ry_f h1 (ry_f h2 hz))
set_option maxRecDepth 100000 in
theorem q_X12_isIn_6_5 (I : Nat → Int32) (T : Nat → Nat → Int32) (K : Nat → Int64) (x1 : Int32) (x2 : Int32) (x3 : Int32) (x4 : Int32) (x5 : Int32) (h1 : x1 ≤ x5) (h2 : x4 = 0 ∨ x4 = 1) {m : Nat} : z_X12_isIn 6 [.ref 0, .int x1, .int x2, .int x3, .int x4, .int x5] [] (wr I T K) (m + 2) = some (some (.int x4), wr I T K) := (ry_t h1 (ry_t h2 rfl))
set_option maxRecDepth 100000 in
theorem p_X12_isIn_1 (I : Nat → Int32) (T : Nat → Nat → Int32) (K : Nat → Int64) (a1 : Int32) (a2 : Int32) (a3 : Int32)  {rs : Option Value × rx_H} {m : Nat} (hm : m + 1 ≤ 1000000000) (hz : z_X12_isIn 6 [.ref 0, .int a1, .int a2, .int a3, .int 0, .int 0] [] (wr I T K) m = some rs) : f_X12_isIn (wr I T K) [.ref 0, .int a1, .int a2, .int a3] = some rs := rz_en (m + 1) hm rfl hz
def cfv_X8_bindArray (F_X9_cell : rx_F) (F_X8_noteArray : rx_F) (F_X0_lookUp : rx_F) (F_X9_setCell : rx_F) (F_X10_length : rx_F) (F_X10_isProcedure : rx_F) (F_X10_isExecutableName : rx_F) (F_X10_literalName : rx_F) (F_X10_kind : rx_F) : Instr → Option rx_C := rx_lkc [(114, (2, some 9, 0, 0, F_X9_cell)), (161, (2, some 8, 0, 0, F_X8_noteArray)), (177, (2, some 0, 0, 0, F_X0_lookUp)), (120, (3, some 9, 0, 0, F_X9_setCell))] [(104, (1, none, 0, 0, F_X10_length)), (168, (1, none, 0, 0, F_X10_isProcedure)), (171, (1, none, 0, 0, F_X10_isExecutableName)), (174, (1, none, 0, 0, F_X10_literalName)), (95, (1, none, 0, 0, F_X10_kind))] []
def fv_X8_bindArray (F_X9_cell : rx_F) (F_X8_noteArray : rx_F) (F_X0_lookUp : rx_F) (F_X9_setCell : rx_F) (F_X10_length : rx_F) (F_X10_isProcedure : rx_F) (F_X10_isExecutableName : rx_F) (F_X10_literalName : rx_F) (F_X10_kind : rx_F) : rx_F := rx_fn (rx_lkk kC_X8) (rx_lkf fL_X8) (rx_lkf fP_X8) (rx_lkg gS_X8) (rx_lkg fG_X8) (rx_lkw nW_X8) (cfv_X8_bindArray F_X9_cell F_X8_noteArray F_X0_lookUp F_X9_setCell F_X10_length F_X10_isProcedure F_X10_isExecutableName F_X10_literalName F_X10_kind) none 0 0 9 kd_X8_bindArray rx_fu
theorem fv_X8_bindArray_eq : f_X8_bindArray = fv_X8_bindArray f_X9_cell f_X8_noteArray f_X0_lookUp f_X9_setCell f_X10_length f_X10_isProcedure f_X10_isExecutableName f_X10_literalName f_X10_kind := rfl
noncomputable def z_X8_bindArray (F_X9_cell : rx_F) (F_X8_noteArray : rx_F) (F_X0_lookUp : rx_F) (F_X9_setCell : rx_F) (F_X10_length : rx_F) (F_X10_isProcedure : rx_F) (F_X10_isExecutableName : rx_F) (F_X10_literalName : rx_F) (F_X10_kind : rx_F) : Nat → List Value → List Value → rx_H → Nat → rx_R := rz_run (rx_lkk kC_X8) (rx_lkf fL_X8) (rx_lkf fP_X8) (rx_lkg gS_X8) (rx_lkg fG_X8) (cfv_X8_bindArray F_X9_cell F_X8_noteArray F_X0_lookUp F_X9_setCell F_X10_length F_X10_isProcedure F_X10_isExecutableName F_X10_literalName F_X10_kind) none kd_X8_bindArray
def cfv_X12_bindAll (F_X12_find : rx_F) (F_X12_isIn : rx_F) (F_X12_copy : rx_F) : Instr → Option rx_C := rx_lkc [(419, (3, some 11, 0, 0, F_X12_find)), (629, (4, some 11, 0, 0, F_X12_isIn))] [(374, (4, none, 0, 0, F_X12_copy))] []
def fv_X12_bindAll (F_X12_find : rx_F) (F_X12_isIn : rx_F) (F_X12_copy : rx_F) : rx_F := rx_fn (rx_lkk kC_X12) (rx_lkf fL_X12) (rx_lkf fP_X12) (rx_lkg gS_X12) (rx_lkg fG_X12) (rx_lkw nW_X12) (cfv_X12_bindAll F_X12_find F_X12_isIn F_X12_copy) none 0 0 9 kd_X12_bindAll rx_fu
theorem fv_X12_bindAll_eq : f_X12_bindAll = fv_X12_bindAll f_X12_find f_X12_isIn f_X12_copy := rfl
noncomputable def z_X12_bindAll (F_X12_find : rx_F) (F_X12_isIn : rx_F) (F_X12_copy : rx_F) : Nat → List Value → List Value → rx_H → Nat → rx_R := rz_run (rx_lkk kC_X12) (rx_lkf fL_X12) (rx_lkf fP_X12) (rx_lkg gS_X12) (rx_lkg fG_X12) (cfv_X12_bindAll F_X12_find F_X12_isIn F_X12_copy) none kd_X12_bindAll
set_option maxRecDepth 100000 in
theorem q_X8_bindArray_12_1 (F_X9_cell : rx_F) (F_X8_noteArray : rx_F) (F_X0_lookUp : rx_F) (F_X9_setCell : rx_F) (F_X10_length : rx_F) (F_X10_isProcedure : rx_F) (F_X10_isExecutableName : rx_F) (F_X10_literalName : rx_F) (F_X10_kind : rx_F) (I : Nat → Int32) (L : Nat → Int64) (T : Nat → Nat → Int32) (U : Nat → Nat → Int64) (x3 : Int32) (x4 : Int32) (r1 : Int64) (r2 : Int32) (I_3 : Nat → Int32) (L_3 : Nat → Int64) (T_3 : Nat → Nat → Int32) (U_3 : Nat → Nat → Int64) (h1 : ¬ (x3 ≤ x4)) (h2 : F_X9_cell (wc I L T U) [.ref 5, .int x4] = some (some (.long r1), wc I L T U)) (h3 : F_X10_isProcedure (wc I L T U) [.long r1] = some (some (.int r2), wc I L T U)) (h4 : ¬ (r2 = 0)) (h5 : F_X8_noteArray (wc I L T U) [.ref 34, .long r1] = some (none, wc I_3 L_3 T_3 U_3)) {rs : Option Value × rx_H} {m : Nat} (hz : z_X8_bindArray F_X9_cell F_X8_noteArray F_X0_lookUp F_X9_setCell F_X10_length F_X10_isProcedure F_X10_isExecutableName F_X10_literalName F_X10_kind 12 [.ref 34, .null, .null, .int x3, .int (x4 + 1), .null, .null, .null, .null] [] (wc I_3 L_3 T_3 U_3) m = some rs) : z_X8_bindArray F_X9_cell F_X8_noteArray F_X0_lookUp F_X9_setCell F_X10_length F_X10_isProcedure F_X10_isExecutableName F_X10_literalName F_X10_kind 12 [.ref 34, .null, .null, .int x3, .int x4, .null, .null, .null, .null] [] (wc I L T U) (m + 2) = some rs := (by
  refine ry_f h1 ?_
  refine ry_b h2 ?_
  refine ry_b h3 ?_
  refine ry_f h4 ?_
  refine ry_b h5 ?_
  refine Eq.trans (b := z_X8_bindArray F_X9_cell F_X8_noteArray F_X0_lookUp F_X9_setCell F_X10_length F_X10_isProcedure F_X10_isExecutableName F_X10_literalName F_X10_kind 12 [.ref 34, .null, .null, .int x3, .int (x4 + 1), .long r1, .null, .null, .null] [] (wc I_3 L_3 T_3 U_3) m) rfl ?_
  exact rz_fg (a := [.ref 34, .null, .null, .int x3, .int (x4 + 1), .long r1, .null, .null, .null]) [5] (Nat.le_refl _) hz)
set_option maxRecDepth 100000 in
theorem q_X12_bindAll_36_5 (F_X12_find : rx_F) (F_X12_isIn : rx_F) (F_X12_copy : rx_F) (I : Nat → Int32) (T : Nat → Nat → Int32) (K : Nat → Int64) (x3 : Int32) (x4 : Int32) (x5 : Int32) (r1 : Int32) (h1 : ¬ ((2 * x4) < 0 ∨ 1300 ≤ ((2 * x4) : Int32).toNatClampNeg)) (h2 : ¬ (((2 * x4) + 1) < 0 ∨ 1300 ≤ (((2 * x4) + 1) : Int32).toNatClampNeg)) (h3 : ¬ ((((T 17) ((2 * x4) : Int32).toNatClampNeg) + ((T 17) (((2 * x4) + 1) : Int32).toNatClampNeg)) ≤ x5)) (h4 : ¬ (((5 * x5) + 2) < 0 ∨ 3000 ≤ (((5 * x5) + 2) : Int32).toNatClampNeg)) (h5 : ((T 7) (((5 * x5) + 2) : Int32).toNatClampNeg) = 1) (h6 : ¬ ((5 * x5) < 0 ∨ 3000 ≤ ((5 * x5) : Int32).toNatClampNeg)) (h7 : ¬ (((T 7) ((5 * x5) : Int32).toNatClampNeg) = 4)) (h8 : ((T 7) ((5 * x5) : Int32).toNatClampNeg) = 5) (h9 : ¬ (((5 * x5) + 1) < 0 ∨ 3000 ≤ (((5 * x5) + 1) : Int32).toNatClampNeg)) (h10 : ¬ (((5 * x5) + 3) < 0 ∨ 3000 ≤ (((5 * x5) + 3) : Int32).toNatClampNeg)) (h11 : F_X12_isIn (wr I T K) [.ref 0, .int x3, .int ((T 7) (((5 * x5) + 1) : Int32).toNatClampNeg), .int ((T 7) (((5 * x5) + 3) : Int32).toNatClampNeg)] = some (some (.int r1), wr I T K)) (h12 : ¬ (r1 = 0)) {rs : Option Value × rx_H} {m : Nat} (hz : z_X12_bindAll F_X12_find F_X12_isIn F_X12_copy 36 [.ref 0, .null, .null, .int x3, .int x4, .int (x5 + 1), .null, .null, .null] [] (wr I T K) m = some rs) : z_X12_bindAll F_X12_find F_X12_isIn F_X12_copy 36 [.ref 0, .null, .null, .int x3, .int x4, .int x5, .null, .null, .null] [] (wr I T K) (m + 4) = some rs := (by
  refine ry_f h1 ?_
  refine ry_f h2 ?_
  refine ry_f h3 ?_
  refine ry_f h4 ?_
  refine ry_t h5 ?_
  refine ry_f (c := (1 : Int32) = 0) (by decide) ?_
  refine ry_f h6 ?_
  refine ry_f h7 ?_
  refine ry_f (c := (1 : Int32) = 0) (by decide) ?_
  refine ry_f h6 ?_
  refine ry_t h8 ?_
  refine ry_f h9 ?_
  refine ry_f h10 ?_
  refine ry_b h11 ?_
  refine ry_f h12 ?_
  refine Eq.trans (b := z_X12_bindAll F_X12_find F_X12_isIn F_X12_copy 36 [.ref 0, .null, .null, .int x3, .int x4, .int (x5 + 1), .int (5 * x5), .int 1, .null] [] (wr I T K) m) rfl ?_
  exact rz_fg (a := [.ref 0, .null, .null, .int x3, .int x4, .int (x5 + 1), .int (5 * x5), .int 1, .null]) [6, 7] (Nat.le_refl _) hz)
set_option maxRecDepth 100000 in
theorem q_X12_bindAll_36_4 (F_X12_find : rx_F) (F_X12_isIn : rx_F) (F_X12_copy : rx_F) (I : Nat → Int32) (T : Nat → Nat → Int32) (K : Nat → Int64) (x3 : Int32) (x4 : Int32) (x5 : Int32) (r1 : Int32) (h1 : ¬ ((2 * x4) < 0 ∨ 1300 ≤ ((2 * x4) : Int32).toNatClampNeg)) (h2 : ¬ (((2 * x4) + 1) < 0 ∨ 1300 ≤ (((2 * x4) + 1) : Int32).toNatClampNeg)) (h3 : ¬ ((((T 17) ((2 * x4) : Int32).toNatClampNeg) + ((T 17) (((2 * x4) + 1) : Int32).toNatClampNeg)) ≤ x5)) (h4 : ¬ (((5 * x5) + 2) < 0 ∨ 3000 ≤ (((5 * x5) + 2) : Int32).toNatClampNeg)) (h5 : ((T 7) (((5 * x5) + 2) : Int32).toNatClampNeg) = 1) (h6 : ¬ ((5 * x5) < 0 ∨ 3000 ≤ ((5 * x5) : Int32).toNatClampNeg)) (h7 : ¬ (((T 7) ((5 * x5) : Int32).toNatClampNeg) = 4)) (h8 : ((T 7) ((5 * x5) : Int32).toNatClampNeg) = 5) (h9 : ¬ (((5 * x5) + 1) < 0 ∨ 3000 ≤ (((5 * x5) + 1) : Int32).toNatClampNeg)) (h10 : ¬ (((5 * x5) + 3) < 0 ∨ 3000 ≤ (((5 * x5) + 3) : Int32).toNatClampNeg)) (h11 : F_X12_isIn (wr I T K) [.ref 0, .int x3, .int ((T 7) (((5 * x5) + 1) : Int32).toNatClampNeg), .int ((T 7) (((5 * x5) + 3) : Int32).toNatClampNeg)] = some (some (.int r1), wr I T K)) (h12 : r1 = 0) (h13 : ¬ ((2 * x3) < 0 ∨ 1300 ≤ ((2 * x3) : Int32).toNatClampNeg)) (h14 : ¬ (((2 * x3) + 1) < 0 ∨ 1300 ≤ (((2 * x3) + 1) : Int32).toNatClampNeg)) {rs : Option Value × rx_H} {m : Nat} (hz : z_X12_bindAll F_X12_find F_X12_isIn F_X12_copy 36 [.ref 0, .null, .null, .int (x3 + 1), .int x4, .int (x5 + 1), .null, .null, .null] [] (wr I (uT T 17 (upd (upd (T 17) ((2 * x3) : Int32).toNatClampNeg ((T 7) (((5 * x5) + 1) : Int32).toNatClampNeg)) (((2 * x3) + 1) : Int32).toNatClampNeg ((T 7) (((5 * x5) + 3) : Int32).toNatClampNeg))) K) m = some rs) : z_X12_bindAll F_X12_find F_X12_isIn F_X12_copy 36 [.ref 0, .null, .null, .int x3, .int x4, .int x5, .null, .null, .null] [] (wr I T K) (m + 4) = some rs := (by
  refine ry_f h1 ?_
  refine ry_f h2 ?_
  refine ry_f h3 ?_
  refine ry_f h4 ?_
  refine ry_t h5 ?_
  refine ry_f (c := (1 : Int32) = 0) (by decide) ?_
  refine ry_f h6 ?_
  refine ry_f h7 ?_
  refine ry_f (c := (1 : Int32) = 0) (by decide) ?_
  refine ry_f h6 ?_
  refine ry_t h8 ?_
  refine ry_f h9 ?_
  refine ry_f h10 ?_
  refine ry_b h11 ?_
  refine ry_t h12 ?_
  refine ry_f h9 ?_
  refine ry_f h13 ?_
  refine ry_f h10 ?_
  refine ry_f h14 ?_
  refine Eq.trans (b := z_X12_bindAll F_X12_find F_X12_isIn F_X12_copy 36 [.ref 0, .null, .null, .int (x3 + 1), .int x4, .int (x5 + 1), .int (5 * x5), .int 1, .null] [] (wr I (uT T 17 (upd (upd (T 17) ((2 * x3) : Int32).toNatClampNeg ((T 7) (((5 * x5) + 1) : Int32).toNatClampNeg)) (((2 * x3) + 1) : Int32).toNatClampNeg ((T 7) (((5 * x5) + 3) : Int32).toNatClampNeg))) K) m) rfl ?_
  exact rz_fg (a := [.ref 0, .null, .null, .int (x3 + 1), .int x4, .int (x5 + 1), .int (5 * x5), .int 1, .null]) [6, 7] (Nat.le_refl _) hz)
set_option maxRecDepth 100000 in
theorem q_X8_bindArray_12_3 (F_X9_cell : rx_F) (F_X8_noteArray : rx_F) (F_X0_lookUp : rx_F) (F_X9_setCell : rx_F) (F_X10_length : rx_F) (F_X10_isProcedure : rx_F) (F_X10_isExecutableName : rx_F) (F_X10_literalName : rx_F) (F_X10_kind : rx_F) (I : Nat → Int32) (L : Nat → Int64) (T : Nat → Nat → Int32) (U : Nat → Nat → Int64) (x3 : Int32) (x4 : Int32) (r1 : Int64) (r2 : Int32) (r3 : Int32) (r4 : Int64) (r5 : Int64) (r6 : Int32) (h1 : ¬ (x3 ≤ x4)) (h2 : F_X9_cell (wc I L T U) [.ref 5, .int x4] = some (some (.long r1), wc I L T U)) (h3 : F_X10_isProcedure (wc I L T U) [.long r1] = some (some (.int r2), wc I L T U)) (h4 : r2 = 0) (h5 : F_X10_isExecutableName (wc I L T U) [.long r1] = some (some (.int r3), wc I L T U)) (h6 : ¬ (r3 = 0)) (h7 : F_X10_literalName (wc I L T U) [.int (Int64.toInt32 r1)] = some (some (.long r4), wc I L T U)) (h8 : F_X0_lookUp (wc I L T U) [.ref 9, .long r4] = some (some (.long r5), wc I L T U)) (h9 : F_X10_kind (wc I L T U) [.long r5] = some (some (.int r6), wc I L T U)) (h10 : ¬ (r6 = 8)) {rs : Option Value × rx_H} {m : Nat} (hz : z_X8_bindArray F_X9_cell F_X8_noteArray F_X0_lookUp F_X9_setCell F_X10_length F_X10_isProcedure F_X10_isExecutableName F_X10_literalName F_X10_kind 12 [.ref 34, .null, .null, .int x3, .int (x4 + 1), .null, .null, .null, .null] [] (wc I L T U) m = some rs) : z_X8_bindArray F_X9_cell F_X8_noteArray F_X0_lookUp F_X9_setCell F_X10_length F_X10_isProcedure F_X10_isExecutableName F_X10_literalName F_X10_kind 12 [.ref 34, .null, .null, .int x3, .int x4, .null, .null, .null, .null] [] (wc I L T U) (m + 3) = some rs := (by
  refine ry_f h1 ?_
  refine ry_b h2 ?_
  refine ry_b h3 ?_
  refine ry_t h4 ?_
  refine ry_b h5 ?_
  refine ry_f h6 ?_
  refine ry_b h7 ?_
  refine ry_b h8 ?_
  refine ry_b h9 ?_
  refine ry_f h10 ?_
  refine Eq.trans (b := z_X8_bindArray F_X9_cell F_X8_noteArray F_X0_lookUp F_X9_setCell F_X10_length F_X10_isProcedure F_X10_isExecutableName F_X10_literalName F_X10_kind 12 [.ref 34, .null, .null, .int x3, .int (x4 + 1), .long r1, .null, .long r5, .null] [] (wc I L T U) m) rfl ?_
  exact rz_fg (a := [.ref 34, .null, .null, .int x3, .int (x4 + 1), .long r1, .null, .long r5, .null]) [5, 7] (Nat.le_refl _) hz)
set_option maxRecDepth 100000 in
theorem q_X12_bindAll_36_3 (F_X12_find : rx_F) (F_X12_isIn : rx_F) (F_X12_copy : rx_F) (I : Nat → Int32) (T : Nat → Nat → Int32) (K : Nat → Int64) (x3 : Int32) (x4 : Int32) (x5 : Int32) (r1 : Int32) (h1 : ¬ ((2 * x4) < 0 ∨ 1300 ≤ ((2 * x4) : Int32).toNatClampNeg)) (h2 : ¬ (((2 * x4) + 1) < 0 ∨ 1300 ≤ (((2 * x4) + 1) : Int32).toNatClampNeg)) (h3 : ¬ ((((T 17) ((2 * x4) : Int32).toNatClampNeg) + ((T 17) (((2 * x4) + 1) : Int32).toNatClampNeg)) ≤ x5)) (h4 : ¬ (((5 * x5) + 2) < 0 ∨ 3000 ≤ (((5 * x5) + 2) : Int32).toNatClampNeg)) (h5 : ((T 7) (((5 * x5) + 2) : Int32).toNatClampNeg) = 1) (h6 : ¬ ((5 * x5) < 0 ∨ 3000 ≤ ((5 * x5) : Int32).toNatClampNeg)) (h7 : ((T 7) ((5 * x5) : Int32).toNatClampNeg) = 4) (h8 : ¬ (((5 * x5) + 1) < 0 ∨ 3000 ≤ (((5 * x5) + 1) : Int32).toNatClampNeg)) (h9 : F_X12_find (wr I T K) [.ref 0, .int 4, .int ((T 7) (((5 * x5) + 1) : Int32).toNatClampNeg)] = some (some (.int r1), wr I T K)) (h10 : r1 = (Int32.ofInt (-1))) {rs : Option Value × rx_H} {m : Nat} (hz : z_X12_bindAll F_X12_find F_X12_isIn F_X12_copy 36 [.ref 0, .null, .null, .int x3, .int x4, .int (x5 + 1), .null, .null, .null] [] (wr I T K) m = some rs) : z_X12_bindAll F_X12_find F_X12_isIn F_X12_copy 36 [.ref 0, .null, .null, .int x3, .int x4, .int x5, .null, .null, .null] [] (wr I T K) (m + 4) = some rs := (by
  refine ry_f h1 ?_
  refine ry_f h2 ?_
  refine ry_f h3 ?_
  refine ry_f h4 ?_
  refine ry_t h5 ?_
  refine ry_f (c := (1 : Int32) = 0) (by decide) ?_
  refine ry_f h6 ?_
  refine ry_t h7 ?_
  refine ry_f h8 ?_
  refine ry_b h9 ?_
  refine ry_t h10 ?_
  refine Eq.trans (b := z_X12_bindAll F_X12_find F_X12_isIn F_X12_copy 36 [.ref 0, .null, .null, .int x3, .int x4, .int (x5 + 1), .int (5 * x5), .int 1, .int r1] [] (wr I T K) m) rfl ?_
  exact rz_fg (a := [.ref 0, .null, .null, .int x3, .int x4, .int (x5 + 1), .int (5 * x5), .int 1, .int r1]) [6, 7, 8] (Nat.le_refl _) hz)
set_option maxRecDepth 100000 in
theorem q_X8_bindArray_12_2 (F_X9_cell : rx_F) (F_X8_noteArray : rx_F) (F_X0_lookUp : rx_F) (F_X9_setCell : rx_F) (F_X10_length : rx_F) (F_X10_isProcedure : rx_F) (F_X10_isExecutableName : rx_F) (F_X10_literalName : rx_F) (F_X10_kind : rx_F) (I : Nat → Int32) (L : Nat → Int64) (T : Nat → Nat → Int32) (U : Nat → Nat → Int64) (x3 : Int32) (x4 : Int32) (r1 : Int64) (r2 : Int32) (r3 : Int32) (r4 : Int64) (r5 : Int64) (r6 : Int32) (I_7 : Nat → Int32) (L_7 : Nat → Int64) (T_7 : Nat → Nat → Int32) (U_7 : Nat → Nat → Int64) (h1 : ¬ (x3 ≤ x4)) (h2 : F_X9_cell (wc I L T U) [.ref 5, .int x4] = some (some (.long r1), wc I L T U)) (h3 : F_X10_isProcedure (wc I L T U) [.long r1] = some (some (.int r2), wc I L T U)) (h4 : r2 = 0) (h5 : F_X10_isExecutableName (wc I L T U) [.long r1] = some (some (.int r3), wc I L T U)) (h6 : ¬ (r3 = 0)) (h7 : F_X10_literalName (wc I L T U) [.int (Int64.toInt32 r1)] = some (some (.long r4), wc I L T U)) (h8 : F_X0_lookUp (wc I L T U) [.ref 9, .long r4] = some (some (.long r5), wc I L T U)) (h9 : F_X10_kind (wc I L T U) [.long r5] = some (some (.int r6), wc I L T U)) (h10 : r6 = 8) (h11 : F_X9_setCell (wc I L T U) [.ref 5, .int x4, .long r5] = some (none, wc I_7 L_7 T_7 U_7)) {rs : Option Value × rx_H} {m : Nat} (hz : z_X8_bindArray F_X9_cell F_X8_noteArray F_X0_lookUp F_X9_setCell F_X10_length F_X10_isProcedure F_X10_isExecutableName F_X10_literalName F_X10_kind 12 [.ref 34, .null, .null, .int x3, .int (x4 + 1), .null, .null, .null, .null] [] (wc I_7 L_7 T_7 U_7) m = some rs) : z_X8_bindArray F_X9_cell F_X8_noteArray F_X0_lookUp F_X9_setCell F_X10_length F_X10_isProcedure F_X10_isExecutableName F_X10_literalName F_X10_kind 12 [.ref 34, .null, .null, .int x3, .int x4, .null, .null, .null, .null] [] (wc I L T U) (m + 3) = some rs := (by
  refine ry_f h1 ?_
  refine ry_b h2 ?_
  refine ry_b h3 ?_
  refine ry_t h4 ?_
  refine ry_b h5 ?_
  refine ry_f h6 ?_
  refine ry_b h7 ?_
  refine ry_b h8 ?_
  refine ry_b h9 ?_
  refine ry_t h10 ?_
  refine ry_b h11 ?_
  refine Eq.trans (b := z_X8_bindArray F_X9_cell F_X8_noteArray F_X0_lookUp F_X9_setCell F_X10_length F_X10_isProcedure F_X10_isExecutableName F_X10_literalName F_X10_kind 12 [.ref 34, .null, .null, .int x3, .int (x4 + 1), .long r1, .null, .long r5, .null] [] (wc I_7 L_7 T_7 U_7) m) rfl ?_
  exact rz_fg (a := [.ref 34, .null, .null, .int x3, .int (x4 + 1), .long r1, .null, .long r5, .null]) [5, 7] (Nat.le_refl _) hz)
set_option maxRecDepth 100000 in
theorem q_X12_bindAll_36_1 (F_X12_find : rx_F) (F_X12_isIn : rx_F) (F_X12_copy : rx_F) (I : Nat → Int32) (T : Nat → Nat → Int32) (K : Nat → Int64) (x3 : Int32) (x4 : Int32) (x5 : Int32) (r1 : Int32) (I_2 : Nat → Int32) (T_2 : Nat → Nat → Int32) (K_2 : Nat → Int64) (h1 : ¬ ((2 * x4) < 0 ∨ 1300 ≤ ((2 * x4) : Int32).toNatClampNeg)) (h2 : ¬ (((2 * x4) + 1) < 0 ∨ 1300 ≤ (((2 * x4) + 1) : Int32).toNatClampNeg)) (h3 : ¬ ((((T 17) ((2 * x4) : Int32).toNatClampNeg) + ((T 17) (((2 * x4) + 1) : Int32).toNatClampNeg)) ≤ x5)) (h4 : ¬ (((5 * x5) + 2) < 0 ∨ 3000 ≤ (((5 * x5) + 2) : Int32).toNatClampNeg)) (h5 : ((T 7) (((5 * x5) + 2) : Int32).toNatClampNeg) = 1) (h6 : ¬ ((5 * x5) < 0 ∨ 3000 ≤ ((5 * x5) : Int32).toNatClampNeg)) (h7 : ((T 7) ((5 * x5) : Int32).toNatClampNeg) = 4) (h8 : ¬ (((5 * x5) + 1) < 0 ∨ 3000 ≤ (((5 * x5) + 1) : Int32).toNatClampNeg)) (h9 : F_X12_find (wr I T K) [.ref 0, .int 4, .int ((T 7) (((5 * x5) + 1) : Int32).toNatClampNeg)] = some (some (.int r1), wr I T K)) (h10 : ¬ (r1 = (Int32.ofInt (-1)))) (h11 : ¬ ((5 * r1) < 0 ∨ 8000 ≤ ((5 * r1) : Int32).toNatClampNeg)) (h12 : ((T 6) ((5 * r1) : Int32).toNatClampNeg) = 8) (h13 : F_X12_copy (wr I T K) [.ref 7, .int r1, .ref 8, .int x5] = some (none, wr I_2 T_2 K_2)) {rs : Option Value × rx_H} {m : Nat} (hz : z_X12_bindAll F_X12_find F_X12_isIn F_X12_copy 36 [.ref 0, .null, .null, .int x3, .int x4, .int (x5 + 1), .null, .null, .null] [] (wr I_2 T_2 K_2) m = some rs) : z_X12_bindAll F_X12_find F_X12_isIn F_X12_copy 36 [.ref 0, .null, .null, .int x3, .int x4, .int x5, .null, .null, .null] [] (wr I T K) (m + 4) = some rs := (by
  refine ry_f h1 ?_
  refine ry_f h2 ?_
  refine ry_f h3 ?_
  refine ry_f h4 ?_
  refine ry_t h5 ?_
  refine ry_f (c := (1 : Int32) = 0) (by decide) ?_
  refine ry_f h6 ?_
  refine ry_t h7 ?_
  refine ry_f h8 ?_
  refine ry_b h9 ?_
  refine ry_f h10 ?_
  refine ry_f h11 ?_
  refine ry_t h12 ?_
  refine ry_b h13 ?_
  refine Eq.trans (b := z_X12_bindAll F_X12_find F_X12_isIn F_X12_copy 36 [.ref 0, .null, .null, .int x3, .int x4, .int (x5 + 1), .int (5 * x5), .int 1, .int r1] [] (wr I_2 T_2 K_2) m) rfl ?_
  exact rz_fg (a := [.ref 0, .null, .null, .int x3, .int x4, .int (x5 + 1), .int (5 * x5), .int 1, .int r1]) [6, 7, 8] (Nat.le_refl _) hz)
set_option maxRecDepth 100000 in
theorem q_X12_bindAll_36_2 (F_X12_find : rx_F) (F_X12_isIn : rx_F) (F_X12_copy : rx_F) (I : Nat → Int32) (T : Nat → Nat → Int32) (K : Nat → Int64) (x3 : Int32) (x4 : Int32) (x5 : Int32) (r1 : Int32) (h1 : ¬ ((2 * x4) < 0 ∨ 1300 ≤ ((2 * x4) : Int32).toNatClampNeg)) (h2 : ¬ (((2 * x4) + 1) < 0 ∨ 1300 ≤ (((2 * x4) + 1) : Int32).toNatClampNeg)) (h3 : ¬ ((((T 17) ((2 * x4) : Int32).toNatClampNeg) + ((T 17) (((2 * x4) + 1) : Int32).toNatClampNeg)) ≤ x5)) (h4 : ¬ (((5 * x5) + 2) < 0 ∨ 3000 ≤ (((5 * x5) + 2) : Int32).toNatClampNeg)) (h5 : ((T 7) (((5 * x5) + 2) : Int32).toNatClampNeg) = 1) (h6 : ¬ ((5 * x5) < 0 ∨ 3000 ≤ ((5 * x5) : Int32).toNatClampNeg)) (h7 : ((T 7) ((5 * x5) : Int32).toNatClampNeg) = 4) (h8 : ¬ (((5 * x5) + 1) < 0 ∨ 3000 ≤ (((5 * x5) + 1) : Int32).toNatClampNeg)) (h9 : F_X12_find (wr I T K) [.ref 0, .int 4, .int ((T 7) (((5 * x5) + 1) : Int32).toNatClampNeg)] = some (some (.int r1), wr I T K)) (h10 : ¬ (r1 = (Int32.ofInt (-1)))) (h11 : ¬ ((5 * r1) < 0 ∨ 8000 ≤ ((5 * r1) : Int32).toNatClampNeg)) (h12 : ¬ (((T 6) ((5 * r1) : Int32).toNatClampNeg) = 8)) {rs : Option Value × rx_H} {m : Nat} (hz : z_X12_bindAll F_X12_find F_X12_isIn F_X12_copy 36 [.ref 0, .null, .null, .int x3, .int x4, .int (x5 + 1), .null, .null, .null] [] (wr I T K) m = some rs) : z_X12_bindAll F_X12_find F_X12_isIn F_X12_copy 36 [.ref 0, .null, .null, .int x3, .int x4, .int x5, .null, .null, .null] [] (wr I T K) (m + 4) = some rs := (by
  refine ry_f h1 ?_
  refine ry_f h2 ?_
  refine ry_f h3 ?_
  refine ry_f h4 ?_
  refine ry_t h5 ?_
  refine ry_f (c := (1 : Int32) = 0) (by decide) ?_
  refine ry_f h6 ?_
  refine ry_t h7 ?_
  refine ry_f h8 ?_
  refine ry_b h9 ?_
  refine ry_f h10 ?_
  refine ry_f h11 ?_
  refine ry_f h12 ?_
  refine Eq.trans (b := z_X12_bindAll F_X12_find F_X12_isIn F_X12_copy 36 [.ref 0, .null, .null, .int x3, .int x4, .int (x5 + 1), .int (5 * x5), .int 1, .int r1] [] (wr I T K) m) rfl ?_
  exact rz_fg (a := [.ref 0, .null, .null, .int x3, .int x4, .int (x5 + 1), .int (5 * x5), .int 1, .int r1]) [6, 7, 8] (Nat.le_refl _) hz)
set_option maxRecDepth 100000 in
theorem q_X8_bindArray_12_4 (F_X9_cell : rx_F) (F_X8_noteArray : rx_F) (F_X0_lookUp : rx_F) (F_X9_setCell : rx_F) (F_X10_length : rx_F) (F_X10_isProcedure : rx_F) (F_X10_isExecutableName : rx_F) (F_X10_literalName : rx_F) (F_X10_kind : rx_F) (I : Nat → Int32) (L : Nat → Int64) (T : Nat → Nat → Int32) (U : Nat → Nat → Int64) (x3 : Int32) (x4 : Int32) (r1 : Int64) (r2 : Int32) (r3 : Int32) (h1 : ¬ (x3 ≤ x4)) (h2 : F_X9_cell (wc I L T U) [.ref 5, .int x4] = some (some (.long r1), wc I L T U)) (h3 : F_X10_isProcedure (wc I L T U) [.long r1] = some (some (.int r2), wc I L T U)) (h4 : r2 = 0) (h5 : F_X10_isExecutableName (wc I L T U) [.long r1] = some (some (.int r3), wc I L T U)) (h6 : r3 = 0) {rs : Option Value × rx_H} {m : Nat} (hz : z_X8_bindArray F_X9_cell F_X8_noteArray F_X0_lookUp F_X9_setCell F_X10_length F_X10_isProcedure F_X10_isExecutableName F_X10_literalName F_X10_kind 12 [.ref 34, .null, .null, .int x3, .int (x4 + 1), .null, .null, .null, .null] [] (wc I L T U) m = some rs) : z_X8_bindArray F_X9_cell F_X8_noteArray F_X0_lookUp F_X9_setCell F_X10_length F_X10_isProcedure F_X10_isExecutableName F_X10_literalName F_X10_kind 12 [.ref 34, .null, .null, .int x3, .int x4, .null, .null, .null, .null] [] (wc I L T U) (m + 3) = some rs := (by
  refine ry_f h1 ?_
  refine ry_b h2 ?_
  refine ry_b h3 ?_
  refine ry_t h4 ?_
  refine ry_b h5 ?_
  refine ry_t h6 ?_
  refine Eq.trans (b := z_X8_bindArray F_X9_cell F_X8_noteArray F_X0_lookUp F_X9_setCell F_X10_length F_X10_isProcedure F_X10_isExecutableName F_X10_literalName F_X10_kind 12 [.ref 34, .null, .null, .int x3, .int (x4 + 1), .long r1, .null, .null, .null] [] (wc I L T U) m) rfl ?_
  exact rz_fg (a := [.ref 34, .null, .null, .int x3, .int (x4 + 1), .long r1, .null, .null, .null]) [5] (Nat.le_refl _) hz)
set_option maxRecDepth 100000 in
theorem q_X12_bindAll_36_6 (F_X12_find : rx_F) (F_X12_isIn : rx_F) (F_X12_copy : rx_F) (I : Nat → Int32) (T : Nat → Nat → Int32) (K : Nat → Int64) (x3 : Int32) (x4 : Int32) (x5 : Int32) (h1 : ¬ ((2 * x4) < 0 ∨ 1300 ≤ ((2 * x4) : Int32).toNatClampNeg)) (h2 : ¬ (((2 * x4) + 1) < 0 ∨ 1300 ≤ (((2 * x4) + 1) : Int32).toNatClampNeg)) (h3 : ¬ ((((T 17) ((2 * x4) : Int32).toNatClampNeg) + ((T 17) (((2 * x4) + 1) : Int32).toNatClampNeg)) ≤ x5)) (h4 : ¬ (((5 * x5) + 2) < 0 ∨ 3000 ≤ (((5 * x5) + 2) : Int32).toNatClampNeg)) (h5 : ((T 7) (((5 * x5) + 2) : Int32).toNatClampNeg) = 1) (h6 : ¬ ((5 * x5) < 0 ∨ 3000 ≤ ((5 * x5) : Int32).toNatClampNeg)) (h7 : ¬ (((T 7) ((5 * x5) : Int32).toNatClampNeg) = 4)) (h8 : ¬ (((T 7) ((5 * x5) : Int32).toNatClampNeg) = 5)) {rs : Option Value × rx_H} {m : Nat} (hz : z_X12_bindAll F_X12_find F_X12_isIn F_X12_copy 36 [.ref 0, .null, .null, .int x3, .int x4, .int (x5 + 1), .null, .null, .null] [] (wr I T K) m = some rs) : z_X12_bindAll F_X12_find F_X12_isIn F_X12_copy 36 [.ref 0, .null, .null, .int x3, .int x4, .int x5, .null, .null, .null] [] (wr I T K) (m + 4) = some rs := (by
  refine ry_f h1 ?_
  refine ry_f h2 ?_
  refine ry_f h3 ?_
  refine ry_f h4 ?_
  refine ry_t h5 ?_
  refine ry_f (c := (1 : Int32) = 0) (by decide) ?_
  refine ry_f h6 ?_
  refine ry_f h7 ?_
  refine ry_f (c := (1 : Int32) = 0) (by decide) ?_
  refine ry_f h6 ?_
  refine ry_f h8 ?_
  refine Eq.trans (b := z_X12_bindAll F_X12_find F_X12_isIn F_X12_copy 36 [.ref 0, .null, .null, .int x3, .int x4, .int (x5 + 1), .int (5 * x5), .int 1, .null] [] (wr I T K) m) rfl ?_
  exact rz_fg (a := [.ref 0, .null, .null, .int x3, .int x4, .int (x5 + 1), .int (5 * x5), .int 1, .null]) [6, 7] (Nat.le_refl _) hz)
set_option maxRecDepth 100000 in
theorem q_X12_bindAll_36_7 (F_X12_find : rx_F) (F_X12_isIn : rx_F) (F_X12_copy : rx_F) (I : Nat → Int32) (T : Nat → Nat → Int32) (K : Nat → Int64) (x3 : Int32) (x4 : Int32) (x5 : Int32) (h1 : ¬ ((2 * x4) < 0 ∨ 1300 ≤ ((2 * x4) : Int32).toNatClampNeg)) (h2 : ¬ (((2 * x4) + 1) < 0 ∨ 1300 ≤ (((2 * x4) + 1) : Int32).toNatClampNeg)) (h3 : ¬ ((((T 17) ((2 * x4) : Int32).toNatClampNeg) + ((T 17) (((2 * x4) + 1) : Int32).toNatClampNeg)) ≤ x5)) (h4 : ¬ (((5 * x5) + 2) < 0 ∨ 3000 ≤ (((5 * x5) + 2) : Int32).toNatClampNeg)) (h5 : ¬ (((T 7) (((5 * x5) + 2) : Int32).toNatClampNeg) = 1)) {rs : Option Value × rx_H} {m : Nat} (hz : z_X12_bindAll F_X12_find F_X12_isIn F_X12_copy 36 [.ref 0, .null, .null, .int x3, .int x4, .int (x5 + 1), .null, .null, .null] [] (wr I T K) m = some rs) : z_X12_bindAll F_X12_find F_X12_isIn F_X12_copy 36 [.ref 0, .null, .null, .int x3, .int x4, .int x5, .null, .null, .null] [] (wr I T K) (m + 5) = some rs := (by
  refine ry_f h1 ?_
  refine ry_f h2 ?_
  refine ry_f h3 ?_
  refine ry_f h4 ?_
  refine ry_f h5 ?_
  refine ry_t (c := (0 : Int32) = 0) (by decide) ?_
  refine ry_t (c := (0 : Int32) = 0) (by decide) ?_
  refine Eq.trans (b := z_X12_bindAll F_X12_find F_X12_isIn F_X12_copy 36 [.ref 0, .null, .null, .int x3, .int x4, .int (x5 + 1), .int (5 * x5), .int 0, .null] [] (wr I T K) m) rfl ?_
  exact rz_fg (a := [.ref 0, .null, .null, .int x3, .int x4, .int (x5 + 1), .int (5 * x5), .int 0, .null]) [6, 7] (Nat.le_refl _) hz)
