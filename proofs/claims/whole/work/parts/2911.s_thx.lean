noncomputable def ry_runS (kc : Nat → Option Value) (fl fp : Nat → Option (Nat × Nat × FieldType)) (gs fg : Nat → Option Nat) (nw : Nat → Option (Nat × Nat × List Value)) (cf : Instr → Option rx_C) (rt : Option FieldType) (mc ms : Nat) (cd : List (Nat × List (Instr × Nat))) (P : Nat) (S0 : List Value) : Nat → rx_K
  | 0, _, _, _, _, _, _ => none
  | n + 1, pc, ls, st, vh, nc, ns => bif Nat.beq pc P then @ite _ (st = S0 ∧ nc = 0 ∧ ns = 0 ∧ ls.all (fun q => rx_wv vh.length q.2) = true) (Classical.propDecidable _) (some (none, vh)) none else match rx_lkb cd pc with
    | some is => ry_blk kc fl fp gs fg nw cf rt mc ms (ry_runS kc fl fp gs fg nw cf rt mc ms cd P S0 n) is pc ls st vh nc ns
    | none => none
noncomputable def ry_fnS (kc : Nat → Option Value) (fl fp : Nat → Option (Nat × Nat × FieldType)) (gs fg : Nat → Option Nat) (nw : Nat → Option (Nat × Nat × List Value)) (cf : Instr → Option rx_C) (rt : Option FieldType) (mc ms : Nat) (nL : Nat) (cd : List (Nat × List (Instr × Nat))) (P : Nat) (S0 : List Value) (n : Nat) (vh : rx_H) (As : List Value) : rx_R := bif Nat.ble ((As.map Value.category).sum) nL then ry_runS kc fl fp gs fg nw cf rt mc ms cd P S0 n 0 (lv_args 0 As) [] vh 0 0 else none
section RYS
variable {kc : Nat → Option Value} {fl fp : Nat → Option (Nat × Nat × FieldType)} {gs fg : Nat → Option Nat} {nw : Nat → Option (Nat × Nat × List Value)} {cf : Instr → Option rx_C} {rt : Option FieldType} {mc ms nL P : Nat} {S0 : List Value} {cd : List (Nat × List (Instr × Nat))}
theorem ry_runS_eq : ∀ n : Nat, ry_runS kc fl fp gs fg nw cf rt mc ms cd P S0 n = rx_runS kc fl fp gs fg nw cf rt mc ms cd P S0 n
  | 0 => rfl
  | n + 1 => by
    funext pc ls st vh nc ns
    simp only [ry_runS, rx_runS]
    rw [ry_runS_eq n]
    cases rx_lkb cd pc with
    | none => rfl
    | some is => simp only [ry_blk_eq]
theorem ry_fnS_eq {n : Nat} {vh : rx_H} {As : List Value} {x : rx_R} (h : ry_fnS kc fl fp gs fg nw cf rt mc ms nL cd P S0 n vh As = x) : rx_fnS kc fl fp gs fg nw cf rt mc ms nL cd P S0 n vh As = x := by
  unfold ry_fnS at h
  unfold rx_fnS
  rw [← ry_runS_eq]
  exact h
end RYS
theorem xk_114 : Cond.classLink RX11 114 "java/lang/IndexOutOfBoundsException" ∈ rx_WT := by decide +kernel
theorem xk_59 : Cond.classLink RX11 59 "java/lang/IllegalArgumentException" ∈ rx_WT := by decide +kernel
theorem xi_114 : Cond.initialized "java/lang/IndexOutOfBoundsException" ∈ rx_WT := by decide +kernel
theorem xi_59 : Cond.initialized "java/lang/IllegalArgumentException" ∈ rx_WT := by decide +kernel
theorem xa_114 : ∀ w ∈ (vx_atS RX11 118 "java/lang/IndexOutOfBoundsException" ["java/lang/RuntimeException", "java/lang/Exception"]).filter goodWord, w ∈ rx_WT := by decide +kernel
theorem xa_59 : ∀ w ∈ (vx_atS RX11 63 "java/lang/IllegalArgumentException" ["java/lang/RuntimeException", "java/lang/Exception"]).filter goodWord, w ∈ rx_WT := by decide +kernel
theorem xb_114 : ∀ w ∈ (vx_atS RX11 118 "java/lang/IndexOutOfBoundsException" ["java/lang/RuntimeException", "java/lang/Exception"]).filter (fun w => !goodWord w), w ∈ xw_bad := by decide +kernel
theorem xb_59 : ∀ w ∈ (vx_atS RX11 63 "java/lang/IllegalArgumentException" ["java/lang/RuntimeException", "java/lang/Exception"]).filter (fun w => !goodWord w), w ∈ xw_bad := by decide +kernel
def kt_X11_run_11 : List (Nat × List (Instr × Nat)) := [(0, [(.iload_n 1, 1), (.ifCond .lt 10, 3), (.iload_n 1, 1), (.sipush 1000, 3), (.if_icmp .le 13, 3)])]
def ct_X11_run_11 : Instr → Option rx_C := rx_lkc [] [] []
noncomputable def g_X11_run_11 : rx_F := rx_fnS (rx_lkk kC_X11) (rx_lkf fL_X11) (rx_lkf fP_X11) (rx_lkg gS_X11) (rx_lkg fG_X11) (rx_lkw nW_X11) ct_X11_run_11 (some .int) 1 6 3 kt_X11_run_11 11 [] 10
theorem mx_X11_run_11 (l : Launch) (hl : l.stackTraces = false) : rx_MX l yX11_run (Cond.code yX11_run cX11_run 3 (some .int) :: rx_WT) { frames := 6, cells := 1, slots := 6, locals := 100 } "java/lang/IllegalArgumentException" g_X11_run_11 := rx_metX 10 11 (ik := 59) (is := 61) (ic := 63) (text := "steps are 0 .. 1000") (si := 8) (names := ["java/lang/RuntimeException", "java/lang/Exception"]) hl (by decide +kernel) kC_X11_ok gS_X11_ok fG_X11_ok fL_X11_ok (fP_X11_ok _) nW_X11_ok rx_ar (by decide +kernel) (rx_lkc_of rx_n0 rx_n0 rx_n0) (by decide +kernel) (by decide +kernel) xk_59 xi_59 (by decide +kernel) xa_59 xb_59 (by decide +kernel) (by decide +kernel) (by decide +kernel) (by decide +kernel) (by decide +kernel) (by decide) (by decide) (by decide) (by decide)
def kt_X11_count_112 : List (Nat × List (Instr × Nat)) := [(0, [(.iload_n 1, 1), (.tableswitch 111 0 7 #[47, 55, 63, 71, 79, 87, 95, 103], 47)])]
def ct_X11_count_112 : Instr → Option rx_C := rx_lkc [] [] []
noncomputable def g_X11_count_112 : rx_F := rx_fnS (rx_lkk kC_X11) (rx_lkf fL_X11) (rx_lkf fP_X11) (rx_lkg gS_X11) (rx_lkg fG_X11) (rx_lkw nW_X11) ct_X11_count_112 (some .int) 1 6 2 kt_X11_count_112 112 [] 10
theorem mx_X11_count_112 (l : Launch) (hl : l.stackTraces = false) : rx_MX l yX11_count (Cond.code yX11_count cX11_count 2 (some .int) :: rx_WT) { frames := 6, cells := 1, slots := 6, locals := 100 } "java/lang/IllegalArgumentException" g_X11_count_112 := rx_metX 10 112 (ik := 59) (is := 112) (ic := 63) (text := "no such count") (si := 9) (names := ["java/lang/RuntimeException", "java/lang/Exception"]) hl (by decide +kernel) kC_X11_ok gS_X11_ok fG_X11_ok fL_X11_ok (fP_X11_ok _) nW_X11_ok rx_ar (by decide +kernel) (rx_lkc_of rx_n0 rx_n0 rx_n0) (by decide +kernel) (by decide +kernel) xk_59 xi_59 (by decide +kernel) xa_59 xb_59 (by decide +kernel) (by decide +kernel) (by decide +kernel) (by decide +kernel) (by decide +kernel) (by decide) (by decide) (by decide) (by decide)
def kt_X11_at_15 : List (Nat × List (Instr × Nat)) := [(0, [(.iload_n 1, 1), (.ifCond .lt 14, 3), (.iload_n 1, 1), (.aload_n 0, 1), (.getfield 33, 3), (.getfield 88, 3), (.if_icmp .lt 13, 3)])]
def ct_X11_at_15 : Instr → Option rx_C := rx_lkc [] [] []
noncomputable def g_X11_at_15 : rx_F := rx_fnS (rx_lkk kC_X11) (rx_lkf fL_X11) (rx_lkf fP_X11) (rx_lkg gS_X11) (rx_lkg fG_X11) (rx_lkw nW_X11) ct_X11_at_15 (some .int) 1 6 3 kt_X11_at_15 15 [] 10
theorem mx_X11_at_15 (l : Launch) (hl : l.stackTraces = false) : rx_MX l yX11_at (Cond.code yX11_at cX11_at 3 (some .int) :: rx_WT) { frames := 6, cells := 1, slots := 6, locals := 100 } "java/lang/IndexOutOfBoundsException" g_X11_at_15 := rx_metX 10 15 (ik := 114) (is := 116) (ic := 118) (text := "no such operand") (si := 10) (names := ["java/lang/RuntimeException", "java/lang/Exception"]) hl (by decide +kernel) kC_X11_ok gS_X11_ok fG_X11_ok fL_X11_ok (fP_X11_ok _) nW_X11_ok rx_ar (by decide +kernel) (rx_lkc_of rx_n0 rx_n0 rx_n0) (by decide +kernel) (by decide +kernel) xk_114 xi_114 (by decide +kernel) xa_114 xb_114 (by decide +kernel) (by decide +kernel) (by decide +kernel) (by decide +kernel) (by decide +kernel) (by decide) (by decide) (by decide) (by decide)
def kt_X11_at_34 : List (Nat × List (Instr × Nat)) := [(0, [(.iload_n 1, 1), (.ifCond .lt 14, 3), (.iload_n 1, 1), (.aload_n 0, 1), (.getfield 33, 3), (.getfield 88, 3), (.if_icmp .lt 13, 3)]),
  (25, [(.iload_n 2, 1), (.ifCond .lt 8, 3), (.iload_n 2, 1), (.iconst 3, 1), (.if_icmp .le 13, 3)])]
def ct_X11_at_34 : Instr → Option rx_C := rx_lkc [] [] []
noncomputable def g_X11_at_34 : rx_F := rx_fnS (rx_lkk kC_X11) (rx_lkf fL_X11) (rx_lkf fP_X11) (rx_lkg gS_X11) (rx_lkg fG_X11) (rx_lkw nW_X11) ct_X11_at_34 (some .int) 1 6 3 kt_X11_at_34 34 [] 10
theorem mx_X11_at_34 (l : Launch) (hl : l.stackTraces = false) : rx_MX l yX11_at (Cond.code yX11_at cX11_at 3 (some .int) :: rx_WT) { frames := 6, cells := 1, slots := 6, locals := 100 } "java/lang/IllegalArgumentException" g_X11_at_34 := rx_metX 10 34 (ik := 59) (is := 119) (ic := 63) (text := "what is 0 .. 3") (si := 11) (names := ["java/lang/RuntimeException", "java/lang/Exception"]) hl (by decide +kernel) kC_X11_ok gS_X11_ok fG_X11_ok fL_X11_ok (fP_X11_ok _) nW_X11_ok rx_ar (by decide +kernel) (rx_lkc_of rx_n0 rx_n0 rx_n0) (by decide +kernel) (by decide +kernel) xk_59 xi_59 (by decide +kernel) xa_59 xb_59 (by decide +kernel) (by decide +kernel) (by decide +kernel) (by decide +kernel) (by decide +kernel) (by decide) (by decide) (by decide) (by decide)
def kt_X11_value_15 : List (Nat × List (Instr × Nat)) := [(0, [(.iload_n 1, 1), (.ifCond .lt 14, 3), (.iload_n 1, 1), (.aload_n 0, 1), (.getfield 19, 3), (.getfield 103, 3), (.if_icmp .lt 13, 3)])]
def ct_X11_value_15 : Instr → Option rx_C := rx_lkc [] [] []
noncomputable def g_X11_value_15 : rx_F := rx_fnS (rx_lkk kC_X11) (rx_lkf fL_X11) (rx_lkf fP_X11) (rx_lkg gS_X11) (rx_lkg fG_X11) (rx_lkw nW_X11) ct_X11_value_15 (some .int) 1 6 3 kt_X11_value_15 15 [] 10
theorem mx_X11_value_15 (l : Launch) (hl : l.stackTraces = false) : rx_MX l yX11_value (Cond.code yX11_value cX11_value 3 (some .int) :: rx_WT) { frames := 6, cells := 1, slots := 6, locals := 100 } "java/lang/IndexOutOfBoundsException" g_X11_value_15 := rx_metX 10 15 (ik := 114) (is := 131) (ic := 118) (text := "no such value of an array") (si := 12) (names := ["java/lang/RuntimeException", "java/lang/Exception"]) hl (by decide +kernel) kC_X11_ok gS_X11_ok fG_X11_ok fL_X11_ok (fP_X11_ok _) nW_X11_ok rx_ar (by decide +kernel) (rx_lkc_of rx_n0 rx_n0 rx_n0) (by decide +kernel) (by decide +kernel) xk_114 xi_114 (by decide +kernel) xa_114 xb_114 (by decide +kernel) (by decide +kernel) (by decide +kernel) (by decide +kernel) (by decide +kernel) (by decide) (by decide) (by decide) (by decide)
def kt_X11_value_34 : List (Nat × List (Instr × Nat)) := [(0, [(.iload_n 1, 1), (.ifCond .lt 14, 3), (.iload_n 1, 1), (.aload_n 0, 1), (.getfield 19, 3), (.getfield 103, 3), (.if_icmp .lt 13, 3)]),
  (25, [(.iload_n 2, 1), (.ifCond .lt 8, 3), (.iload_n 2, 1), (.iconst 3, 1), (.if_icmp .le 13, 3)])]
def ct_X11_value_34 : Instr → Option rx_C := rx_lkc [] [] []
noncomputable def g_X11_value_34 : rx_F := rx_fnS (rx_lkk kC_X11) (rx_lkf fL_X11) (rx_lkf fP_X11) (rx_lkg gS_X11) (rx_lkg fG_X11) (rx_lkw nW_X11) ct_X11_value_34 (some .int) 1 6 3 kt_X11_value_34 34 [] 10
theorem mx_X11_value_34 (l : Launch) (hl : l.stackTraces = false) : rx_MX l yX11_value (Cond.code yX11_value cX11_value 3 (some .int) :: rx_WT) { frames := 6, cells := 1, slots := 6, locals := 100 } "java/lang/IllegalArgumentException" g_X11_value_34 := rx_metX 10 34 (ik := 59) (is := 119) (ic := 63) (text := "what is 0 .. 3") (si := 11) (names := ["java/lang/RuntimeException", "java/lang/Exception"]) hl (by decide +kernel) kC_X11_ok gS_X11_ok fG_X11_ok fL_X11_ok (fP_X11_ok _) nW_X11_ok rx_ar (by decide +kernel) (rx_lkc_of rx_n0 rx_n0 rx_n0) (by decide +kernel) (by decide +kernel) xk_59 xi_59 (by decide +kernel) xa_59 xb_59 (by decide +kernel) (by decide +kernel) (by decide +kernel) (by decide +kernel) (by decide +kernel) (by decide) (by decide) (by decide) (by decide)
def kt_X11_octet_15 : List (Nat × List (Instr × Nat)) := [(0, [(.iload_n 1, 1), (.ifCond .lt 14, 3), (.iload_n 1, 1), (.aload_n 0, 1), (.getfield 19, 3), (.getfield 106, 3), (.if_icmp .lt 13, 3)])]
def ct_X11_octet_15 : Instr → Option rx_C := rx_lkc [] [] []
noncomputable def g_X11_octet_15 : rx_F := rx_fnS (rx_lkk kC_X11) (rx_lkf fL_X11) (rx_lkf fP_X11) (rx_lkg gS_X11) (rx_lkg fG_X11) (rx_lkw nW_X11) ct_X11_octet_15 (some .int) 1 6 2 kt_X11_octet_15 15 [] 10
theorem mx_X11_octet_15 (l : Launch) (hl : l.stackTraces = false) : rx_MX l yX11_octet (Cond.code yX11_octet cX11_octet 2 (some .int) :: rx_WT) { frames := 6, cells := 1, slots := 6, locals := 100 } "java/lang/IndexOutOfBoundsException" g_X11_octet_15 := rx_metX 10 15 (ik := 114) (is := 136) (ic := 118) (text := "no such byte of a string") (si := 13) (names := ["java/lang/RuntimeException", "java/lang/Exception"]) hl (by decide +kernel) kC_X11_ok gS_X11_ok fG_X11_ok fL_X11_ok (fP_X11_ok _) nW_X11_ok rx_ar (by decide +kernel) (rx_lkc_of rx_n0 rx_n0 rx_n0) (by decide +kernel) (by decide +kernel) xk_114 xi_114 (by decide +kernel) xa_114 xb_114 (by decide +kernel) (by decide +kernel) (by decide +kernel) (by decide +kernel) (by decide +kernel) (by decide) (by decide) (by decide) (by decide)
def kt_X11_dictionary_33 : List (Nat × List (Instr × Nat)) := [(0, [(.iload_n 1, 1), (.ifCond .lt 32, 3), (.iload_n 1, 1), (.aload_n 0, 1), (.getfield 26, 3), (.getfield 109, 3), (.if_icmp .ge 21, 3), (.iload_n 2, 1), (.bipush (-2), 2), (.if_icmp .lt 15, 3), (.iload_n 2, 1), (.aload_n 0, 1), (.getfield 26, 3), (.iload_n 1, 1), (.invokevirtual 142, 3), (.if_icmp .lt 13, 3)])]
def ct_X11_dictionary_33 : Instr → Option rx_C := rx_lkc [(142, (2, some 0, 0, 0, f_X0_pairsOf))] [] []
noncomputable def g_X11_dictionary_33 : rx_F := rx_fnS (rx_lkk kC_X11) (rx_lkf fL_X11) (rx_lkf fP_X11) (rx_lkg gS_X11) (rx_lkg fG_X11) (rx_lkw nW_X11) ct_X11_dictionary_33 (some .int) 1 6 4 kt_X11_dictionary_33 33 [] 10
theorem mx_X11_dictionary_33 (l : Launch) (hl : l.stackTraces = false) : rx_MX l yX11_dictionary (Cond.code yX11_dictionary cX11_dictionary 4 (some .int) :: rx_WT) { frames := 6, cells := 1, slots := 6, locals := 100 } "java/lang/IndexOutOfBoundsException" g_X11_dictionary_33 := rx_metX 10 33 (ik := 114) (is := 145) (ic := 118) (text := "no such dictionary or pair") (si := 14) (names := ["java/lang/RuntimeException", "java/lang/Exception"]) hl (by decide +kernel) kC_X11_ok gS_X11_ok fG_X11_ok fL_X11_ok (fP_X11_ok _) nW_X11_ok rx_ar (by decide +kernel) (rx_lkc_of (rx_n1 (rx_caV 1 0 (m_X0_pairsOf l) w_X0_pairsOf_c w_X0_pairsOf_n (rx_in 1569 (by decide +kernel) rfl) w_X0_pairsOf_i w_X0_pairsOf_s w_X0_pairsOf_d (by decide) rfl rfl) rx_n0) rx_n0 rx_n0) (by decide +kernel) (by decide +kernel) xk_114 xi_114 (by decide +kernel) xa_114 xb_114 (by decide +kernel) (by decide +kernel) (by decide +kernel) (by decide +kernel) (by decide +kernel) (by decide) (by decide) (by decide) (by decide)
def kt_X11_dictionary_81 : List (Nat × List (Instr × Nat)) := [(0, [(.iload_n 1, 1), (.ifCond .lt 32, 3), (.iload_n 1, 1), (.aload_n 0, 1), (.getfield 26, 3), (.getfield 109, 3), (.if_icmp .ge 21, 3), (.iload_n 2, 1), (.bipush (-2), 2), (.if_icmp .lt 15, 3), (.iload_n 2, 1), (.aload_n 0, 1), (.getfield 26, 3), (.iload_n 1, 1), (.invokevirtual 142, 3), (.if_icmp .lt 13, 3)]),
  (43, [(.iload_n 2, 1), (.iconst (-1), 1), (.if_icmp .ne 12, 3), (.aload_n 0, 1), (.getfield 26, 3), (.iload_n 1, 1), (.invokevirtual 147, 3), (.ireturn, 1)]),
  (57, [(.iload_n 2, 1), (.bipush (-2), 2), (.if_icmp .ne 12, 3), (.aload_n 0, 1), (.getfield 26, 3), (.iload_n 1, 1), (.invokevirtual 142, 3), (.ireturn, 1)]),
  (72, [(.iload_n 3, 1), (.ifCond .lt 8, 3), (.iload_n 3, 1), (.iconst 3, 1), (.if_icmp .le 13, 3)])]
def ct_X11_dictionary_81 : Instr → Option rx_C := rx_lkc [(142, (2, some 0, 0, 0, f_X0_pairsOf))] [] []
noncomputable def g_X11_dictionary_81 : rx_F := rx_fnS (rx_lkk kC_X11) (rx_lkf fL_X11) (rx_lkf fP_X11) (rx_lkg gS_X11) (rx_lkg fG_X11) (rx_lkw nW_X11) ct_X11_dictionary_81 (some .int) 1 6 4 kt_X11_dictionary_81 81 [] 10
theorem mx_X11_dictionary_81 (l : Launch) (hl : l.stackTraces = false) : rx_MX l yX11_dictionary (Cond.code yX11_dictionary cX11_dictionary 4 (some .int) :: rx_WT) { frames := 6, cells := 1, slots := 6, locals := 100 } "java/lang/IllegalArgumentException" g_X11_dictionary_81 := rx_metX 10 81 (ik := 59) (is := 119) (ic := 63) (text := "what is 0 .. 3") (si := 11) (names := ["java/lang/RuntimeException", "java/lang/Exception"]) hl (by decide +kernel) kC_X11_ok gS_X11_ok fG_X11_ok fL_X11_ok (fP_X11_ok _) nW_X11_ok rx_ar (by decide +kernel) (rx_lkc_of (rx_n1 (rx_caV 1 0 (m_X0_pairsOf l) w_X0_pairsOf_c w_X0_pairsOf_n (rx_in 1569 (by decide +kernel) rfl) w_X0_pairsOf_i w_X0_pairsOf_s w_X0_pairsOf_d (by decide) rfl rfl) rx_n0) rx_n0 rx_n0) (by decide +kernel) (by decide +kernel) xk_59 xi_59 (by decide +kernel) xa_59 xb_59 (by decide +kernel) (by decide +kernel) (by decide +kernel) (by decide +kernel) (by decide +kernel) (by decide) (by decide) (by decide) (by decide)
def kt_X11_name_32 : List (Nat × List (Instr × Nat)) := [(0, [(.iload_n 1, 1), (.ifCond .lt 31, 3), (.iload_n 1, 1), (.aload_n 0, 1), (.getfield 10, 3), (.getfield 100, 3), (.if_icmp .ge 20, 3), (.iload_n 2, 1), (.iconst (-1), 1), (.if_icmp .lt 15, 3), (.iload_n 2, 1), (.aload_n 0, 1), (.getfield 10, 3), (.iload_n 1, 1), (.invokevirtual 157, 3), (.if_icmp .lt 13, 3)])]
def ct_X11_name_32 : Instr → Option rx_C := rx_lkc [(157, (2, some 4, 0, 0, f_X4_lengthOf))] [] []
noncomputable def g_X11_name_32 : rx_F := rx_fnS (rx_lkk kC_X11) (rx_lkf fL_X11) (rx_lkf fP_X11) (rx_lkg gS_X11) (rx_lkg fG_X11) (rx_lkw nW_X11) ct_X11_name_32 (some .int) 1 6 3 kt_X11_name_32 32 [] 10
theorem mx_X11_name_32 (l : Launch) (hl : l.stackTraces = false) : rx_MX l yX11_name (Cond.code yX11_name cX11_name 3 (some .int) :: rx_WT) { frames := 6, cells := 1, slots := 6, locals := 100 } "java/lang/IndexOutOfBoundsException" g_X11_name_32 := rx_metX 10 32 (ik := 114) (is := 160) (ic := 118) (text := "no such name or byte") (si := 15) (names := ["java/lang/RuntimeException", "java/lang/Exception"]) hl (by decide +kernel) kC_X11_ok gS_X11_ok fG_X11_ok fL_X11_ok (fP_X11_ok _) nW_X11_ok rx_ar (by decide +kernel) (rx_lkc_of (rx_n1 (rx_caV 1 4 (m_X4_lengthOf l) w_X4_lengthOf_c w_X4_lengthOf_n (rx_in 1581 (by decide +kernel) rfl) w_X4_lengthOf_i w_X4_lengthOf_s w_X4_lengthOf_d (by decide) rfl rfl) rx_n0) rx_n0 rx_n0) (by decide +kernel) (by decide +kernel) xk_114 xi_114 (by decide +kernel) xa_114 xb_114 (by decide +kernel) (by decide +kernel) (by decide +kernel) (by decide +kernel) (by decide +kernel) (by decide) (by decide) (by decide) (by decide)
def kt_X11_error_9 : List (Nat × List (Instr × Nat)) := [(0, [(.iload_n 1, 1), (.ifCond .eq 18, 3), (.iload_n 1, 1), (.iconst 1, 1), (.if_icmp .eq 13, 3)])]
def ct_X11_error_9 : Instr → Option rx_C := rx_lkc [] [] []
noncomputable def g_X11_error_9 : rx_F := rx_fnS (rx_lkk kC_X11) (rx_lkf fL_X11) (rx_lkf fP_X11) (rx_lkg gS_X11) (rx_lkg fG_X11) (rx_lkw nW_X11) ct_X11_error_9 (some .int) 1 6 2 kt_X11_error_9 9 [] 10
theorem mx_X11_error_9 (l : Launch) (hl : l.stackTraces = false) : rx_MX l yX11_error (Cond.code yX11_error cX11_error 2 (some .int) :: rx_WT) { frames := 6, cells := 1, slots := 6, locals := 100 } "java/lang/IllegalArgumentException" g_X11_error_9 := rx_metX 10 9 (ik := 59) (is := 166) (ic := 63) (text := "what is 0 or 1") (si := 16) (names := ["java/lang/RuntimeException", "java/lang/Exception"]) hl (by decide +kernel) kC_X11_ok gS_X11_ok fG_X11_ok fL_X11_ok (fP_X11_ok _) nW_X11_ok rx_ar (by decide +kernel) (rx_lkc_of rx_n0 rx_n0 rx_n0) (by decide +kernel) (by decide +kernel) xk_59 xi_59 (by decide +kernel) xa_59 xb_59 (by decide +kernel) (by decide +kernel) (by decide +kernel) (by decide +kernel) (by decide +kernel) (by decide) (by decide) (by decide) (by decide)
def kt_X11_out_15 : List (Nat × List (Instr × Nat)) := [(0, [(.iload_n 1, 1), (.ifCond .lt 14, 3), (.iload_n 1, 1), (.aload_n 0, 1), (.getfield 19, 3), (.getfield 94, 3), (.if_icmp .lt 13, 3)])]
def ct_X11_out_15 : Instr → Option rx_C := rx_lkc [] [] []
noncomputable def g_X11_out_15 : rx_F := rx_fnS (rx_lkk kC_X11) (rx_lkf fL_X11) (rx_lkf fP_X11) (rx_lkg gS_X11) (rx_lkg fG_X11) (rx_lkw nW_X11) ct_X11_out_15 (some .int) 1 6 2 kt_X11_out_15 15 [] 10
theorem mx_X11_out_15 (l : Launch) (hl : l.stackTraces = false) : rx_MX l yX11_out (Cond.code yX11_out cX11_out 2 (some .int) :: rx_WT) { frames := 6, cells := 1, slots := 6, locals := 100 } "java/lang/IndexOutOfBoundsException" g_X11_out_15 := rx_metX 10 15 (ik := 114) (is := 174) (ic := 118) (text := "no such byte of OUT") (si := 17) (names := ["java/lang/RuntimeException", "java/lang/Exception"]) hl (by decide +kernel) kC_X11_ok gS_X11_ok fG_X11_ok fL_X11_ok (fP_X11_ok _) nW_X11_ok rx_ar (by decide +kernel) (rx_lkc_of rx_n0 rx_n0 rx_n0) (by decide +kernel) (by decide +kernel) xk_114 xi_114 (by decide +kernel) xa_114 xb_114 (by decide +kernel) (by decide +kernel) (by decide +kernel) (by decide +kernel) (by decide +kernel) (by decide) (by decide) (by decide) (by decide)
/-! where the class throws -/
theorem x_run {I : Nat → Int32} {L : Nat → Int64} {T : Nat → Nat → Int32} {U : Nat → Nat → Int64} {a : Int32} (h : a < 0 ∨ ¬ a ≤ Int16.toInt32 (Int16.ofInt 1000)) : g_X11_run_11 (wc I L T U) [.ref 0, .int a] = some (none, wc I L T U) := by
  refine ry_fnS_eq ?_
  by_cases c : a < 0
  · exact ry_t c (ry_t ⟨rfl, rfl, rfl, rfl⟩ rfl)
  · exact ry_f c (ry_f (h.resolve_left c) (ry_t ⟨rfl, rfl, rfl, rfl⟩ rfl))
theorem x_error {I : Nat → Int32} {L : Nat → Int64} {T : Nat → Nat → Int32} {U : Nat → Nat → Int64} {a : Int32} (h : ¬ a = 0 ∧ ¬ a = 1) : g_X11_error_9 (wc I L T U) [.ref 0, .int a] = some (none, wc I L T U) := by
  refine ry_fnS_eq ?_
  exact ry_f h.1 (ry_f h.2 (ry_t ⟨rfl, rfl, rfl, rfl⟩ rfl))
theorem x_octet {I : Nat → Int32} {L : Nat → Int64} {T : Nat → Nat → Int32} {U : Nat → Nat → Int64} {a : Int32} (h : a < 0 ∨ ¬ a < I 3) : g_X11_octet_15 (wc I L T U) [.ref 0, .int a] = some (none, wc I L T U) := by
  refine ry_fnS_eq ?_
  by_cases c : a < 0
  · exact ry_t c (ry_t ⟨rfl, rfl, rfl, rfl⟩ rfl)
  · exact ry_f c (ry_f (h.resolve_left c) (ry_t ⟨rfl, rfl, rfl, rfl⟩ rfl))
theorem x_out {I : Nat → Int32} {L : Nat → Int64} {T : Nat → Nat → Int32} {U : Nat → Nat → Int64} {a : Int32} (h : a < 0 ∨ ¬ a < I 4) : g_X11_out_15 (wc I L T U) [.ref 0, .int a] = some (none, wc I L T U) := by
  refine ry_fnS_eq ?_
  by_cases c : a < 0
  · exact ry_t c (ry_t ⟨rfl, rfl, rfl, rfl⟩ rfl)
  · exact ry_f c (ry_f (h.resolve_left c) (ry_t ⟨rfl, rfl, rfl, rfl⟩ rfl))
theorem x_at1 {I : Nat → Int32} {L : Nat → Int64} {T : Nat → Nat → Int32} {U : Nat → Nat → Int64} {a b : Int32} (h : a < 0 ∨ ¬ a < I 8) : g_X11_at_15 (wc I L T U) [.ref 0, .int a, .int b] = some (none, wc I L T U) := by
  refine ry_fnS_eq ?_
  by_cases c : a < 0
  · exact ry_t c (ry_t ⟨rfl, rfl, rfl, rfl⟩ rfl)
  · exact ry_f c (ry_f (h.resolve_left c) (ry_t ⟨rfl, rfl, rfl, rfl⟩ rfl))
theorem x_at2 {I : Nat → Int32} {L : Nat → Int64} {T : Nat → Nat → Int32} {U : Nat → Nat → Int64} {a b : Int32} (h : ¬ a < 0 ∧ a < I 8 ∧ (b < 0 ∨ ¬ b ≤ 3)) : g_X11_at_34 (wc I L T U) [.ref 0, .int a, .int b] = some (none, wc I L T U) := by
  refine ry_fnS_eq ?_
  refine ry_f h.1 (ry_t h.2.1 ?_)
  by_cases c : b < 0
  · exact ry_t c (ry_t ⟨rfl, rfl, rfl, rfl⟩ rfl)
  · exact ry_f c (ry_f (h.2.2.resolve_left c) (ry_t ⟨rfl, rfl, rfl, rfl⟩ rfl))
theorem x_value1 {I : Nat → Int32} {L : Nat → Int64} {T : Nat → Nat → Int32} {U : Nat → Nat → Int64} {a b : Int32} (h : a < 0 ∨ ¬ a < I 2) : g_X11_value_15 (wc I L T U) [.ref 0, .int a, .int b] = some (none, wc I L T U) := by
  refine ry_fnS_eq ?_
  by_cases c : a < 0
  · exact ry_t c (ry_t ⟨rfl, rfl, rfl, rfl⟩ rfl)
  · exact ry_f c (ry_f (h.resolve_left c) (ry_t ⟨rfl, rfl, rfl, rfl⟩ rfl))
theorem x_value2 {I : Nat → Int32} {L : Nat → Int64} {T : Nat → Nat → Int32} {U : Nat → Nat → Int64} {a b : Int32} (h : ¬ a < 0 ∧ a < I 2 ∧ (b < 0 ∨ ¬ b ≤ 3)) : g_X11_value_34 (wc I L T U) [.ref 0, .int a, .int b] = some (none, wc I L T U) := by
  refine ry_fnS_eq ?_
  refine ry_f h.1 (ry_t h.2.1 ?_)
  by_cases c : b < 0
  · exact ry_t c (ry_t ⟨rfl, rfl, rfl, rfl⟩ rfl)
  · exact ry_f c (ry_f (h.2.2.resolve_left c) (ry_t ⟨rfl, rfl, rfl, rfl⟩ rfl))
theorem x_count {I : Nat → Int32} {L : Nat → Int64} {T : Nat → Nat → Int32} {U : Nat → Nat → Int64} {a : Int32} (h : ∀ w, w < 8 → a ≠ nI w) : g_X11_count_112 (wc I L T U) [.ref 0, .int a] = some (none, wc I L T U) := by
  have e : rx_tsw a 111 0 [47, 55, 63, 71, 79, 87, 95, 103] = 111 := by
    refine (rx_tsw_eq 0 _).1 ?_
    rcases neg_or a with hn | ⟨k, hk, rfl⟩
    · left
      rw [Int32.lt_iff_toInt_lt] at hn
      exact hn
    · right
      rw [nI_toInt hk]
      by_cases c : k < 8
      · exact absurd rfl (h k c)
      · show ((0 : Int) + 8 ≤ (k : Int))
        omega
  refine ry_fnS_eq ?_
  refine Eq.trans (b := ry_runS (rx_lkk kC_X11) (rx_lkf fL_X11) (rx_lkf fP_X11) (rx_lkg gS_X11) (rx_lkg fG_X11) (rx_lkw nW_X11) ct_X11_count_112 (some .int) 1 6 kt_X11_count_112 112 [] 9 (((1 : Nat) : Int) + rx_tsw a 111 0 [47, 55, 63, 71, 79, 87, 95, 103]).toNat (lv_args 0 [.ref 0, .int a]) [] (wc I L T U) 0 0) rfl ?_
  rw [e]
  exact ry_t ⟨rfl, rfl, rfl, rfl⟩ rfl
theorem x_name {I : Nat → Int32} {L : Nat → Int64} {T : Nat → Nat → Int32} {U : Nat → Nat → Int64} {a b : Int32} (h : a < 0 ∨ (¬ a < 0 ∧ I 0 ≤ a) ∨ (¬ a < 0 ∧ ¬ I 0 ≤ a ∧ b < Int32.ofInt (-1)) ∨ (∃ j, a = nI j ∧ j < 160 ∧ ¬ I 0 ≤ nI j ∧ ¬ b < Int32.ofInt (-1) ∧ ¬ b < T 0 j)) : g_X11_name_32 (wc I L T U) [.ref 0, .int a, .int b] = some (none, wc I L T U) := by
  refine ry_fnS_eq ?_
  rcases h with h | ⟨h1, h2⟩ | ⟨h1, h2, h3⟩ | ⟨j, rfl, h1, h2, h3, h4⟩
  · exact ry_t h (ry_t ⟨rfl, rfl, rfl, rfl⟩ rfl)
  · exact ry_f h1 (ry_t h2 (ry_t ⟨rfl, rfl, rfl, rfl⟩ rfl))
  · exact ry_f h1 (ry_f h2 (ry_t h3 (ry_t ⟨rfl, rfl, rfl, rfl⟩ rfl)))
  · exact ry_f (nI_n0 (by omega)) (ry_f h2 (ry_f h3 (ry_b (s_lengthOf (I := I) (L := L) (T := T) (U := U) rfl h1) (ry_f h4 (ry_t ⟨rfl, rfl, rfl, rfl⟩ rfl)))))
theorem x_dic1 {I : Nat → Int32} {L : Nat → Int64} {T : Nat → Nat → Int32} {U : Nat → Nat → Int64} {a b c : Int32} (h : DB1 I T a b) : g_X11_dictionary_33 (wc I L T U) [.ref 0, .int a, .int b, .int c] = some (none, wc I L T U) := by
  refine ry_fnS_eq ?_
  rcases h with h | ⟨h1, h2⟩ | ⟨h1, h2, h3⟩ | ⟨j, rfl, h1, h2, h3, h4⟩
  · exact ry_t h (ry_t ⟨rfl, rfl, rfl, rfl⟩ rfl)
  · exact ry_f h1 (ry_t h2 (ry_t ⟨rfl, rfl, rfl, rfl⟩ rfl))
  · exact ry_f h1 (ry_f h2 (ry_t h3 (ry_t ⟨rfl, rfl, rfl, rfl⟩ rfl)))
  · exact ry_f (nI_n0 (by omega)) (ry_f h2 (ry_f h3 (ry_b (s_pairsOf (I := I) (L := L) (T := T) (U := U) rfl h1) (ry_f h4 (ry_t ⟨rfl, rfl, rfl, rfl⟩ rfl)))))
theorem x_dic2 {I : Nat → Int32} {L : Nat → Int64} {T : Nat → Nat → Int32} {U : Nat → Nat → Int64} {a b c : Int32} (h : DB2 I T a b c) : g_X11_dictionary_81 (wc I L T U) [.ref 0, .int a, .int b, .int c] = some (none, wc I L T U) := by
  refine ry_fnS_eq ?_
  obtain ⟨j, k, rfl, h1, h2, rfl, h3, h4, h5⟩ := h
  refine ry_f (nI_n0 (by omega)) (ry_f h2 (ry_f (nI_nm2 h3) (ry_b (s_pairsOf (I := I) (L := L) (T := T) (U := U) rfl h1) (ry_t h4 (ry_f (ne_m1 h3) (ry_f (ne_m2 h3) ?_))))))
  by_cases d : c < 0
  · exact ry_t d (ry_t ⟨rfl, rfl, rfl, rfl⟩ rfl)
  · exact ry_f d (ry_f (h5.resolve_left d) (ry_t ⟨rfl, rfl, rfl, rfl⟩ rfl))
