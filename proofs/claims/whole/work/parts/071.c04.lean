def kd_X6_roll : List (Nat × List (Instr × Nat)) := [(0, [(.iload_n 1, 1), (.ifCond .ge 6, 3), (.bipush 6, 2), (.ireturn, 1)]),
  (7, [(.iload_n 1, 1), (.aload_n 0, 1), (.getfield 19, 3), (.getfield 109, 3), (.iconst 2, 1), (.isub, 1), (.if_icmp .le 5, 3), (.iconst 3, 1), (.ireturn, 1)]),
  (22, [(.aload_n 0, 1), (.getfield 19, 3), (.iconst 2, 1), (.invokevirtual 89, 3), (.aload_n 0, 1), (.getfield 19, 3), (.iload_n 1, 1), (.iload_n 2, 1), (.invokevirtual 131, 3), (.iconst 0, 1), (.ireturn, 1)])]
def cf_X6_roll : Instr → Option rx_C := rx_lkc [(89, (2, some 5, 0, 0, f_X5_drop)), (131, (3, some 5, 0, 0, f_X5_roll))] [] []
def f_X6_roll : rx_F := rx_fn (rx_lkk kC_X6) (rx_lkf fL_X6) (rx_lkf fP_X6) (rx_lkg gS_X6) (rx_lkg fG_X6) (rx_lkw nW_X6) cf_X6_roll (some .int) 0 0 3 kd_X6_roll rx_fu
theorem m_X6_roll (l : Launch) : rx_M l yX6_roll (Cond.code yX6_roll cX6_roll 3 (some .int) :: rx_WT) { frames := 2, cells := 0, slots := 0, locals := 48 } f_X6_roll := rx_met rx_fu (by decide +kernel) kC_X6_ok gS_X6_ok fG_X6_ok fL_X6_ok (fP_X6_ok _) nW_X6_ok rx_ar (by decide +kernel) (rx_lkc_of (rx_n1 (rx_caV 1 5 (m_X5_drop l) w_X5_drop_c w_X5_drop_n (rx_in 1189 (by decide +kernel) rfl) w_X5_drop_i w_X5_drop_s w_X5_drop_d (by decide) rfl rfl) (rx_n1 (rx_caV 2 5 (m_X5_roll l) w_X5_roll_c w_X5_roll_n (rx_in 1214 (by decide +kernel) rfl) w_X5_roll_i w_X5_roll_s w_X5_roll_d (by decide) rfl rfl) rx_n0)) rx_n0 rx_n0)
theorem w_X6_roll_c : Cond.code yX6_roll cX6_roll 3 (some .int) ∈ rx_WT := rx_in 1213 (by decide +kernel) rfl
theorem w_X6_roll_n : Cond.initialized yX6_roll.cls ∈ rx_WT := rx_in 206 (by decide +kernel) rfl
theorem w_X6_roll_i : Cond.instanceMethod yX6_roll ∈ rx_WT := rx_in 1212 (by decide +kernel) rfl
theorem w_X6_roll_s : Cond.selects yX6_roll.cls yX6_roll yX6_roll ∈ rx_WT := rx_in 48 (by decide +kernel) rfl
theorem w_X6_roll_d : yX6_roll.cls ≠ "java/lang/invoke/MethodHandle" ∧ yX6_roll.cls ≠ "java/lang/invoke/VarHandle" ∧ (parseMethodDescriptor yX6_roll.desc).map (fun d => d.parameters.length) = some 2 := by decide +kernel
def kd_X5_forget : List (Nat × List (Instr × Nat)) := [(0, [(.aload_n 0, 1), (.iconst 0, 1), (.putfield 18, 3), (.return_, 1)])]
def cf_X5_forget : Instr → Option rx_C := rx_lkc [] [] []
def f_X5_forget : rx_F := rx_fn (rx_lkk kC_X5) (rx_lkf fL_X5) (rx_lkf fP_X5) (rx_lkg gS_X5) (rx_lkg fG_X5) (rx_lkw nW_X5) cf_X5_forget none 0 0 1 kd_X5_forget rx_fu
theorem m_X5_forget (l : Launch) : rx_M l yX5_forget (Cond.code yX5_forget cX5_forget 1 none :: rx_WT) { frames := 0, cells := 0, slots := 0, locals := 0 } f_X5_forget := rx_met rx_fu (by decide +kernel) kC_X5_ok gS_X5_ok fG_X5_ok fL_X5_ok (fP_X5_ok _) nW_X5_ok rx_ar (by decide +kernel) (rx_lkc_of rx_n0 rx_n0 rx_n0)
theorem w_X5_forget_c : Cond.code yX5_forget cX5_forget 1 none ∈ rx_WT := rx_in 682 (by decide +kernel) rfl
theorem w_X5_forget_n : Cond.initialized yX5_forget.cls ∈ rx_WT := rx_in 202 (by decide +kernel) rfl
theorem w_X5_forget_i : Cond.instanceMethod yX5_forget ∈ rx_WT := rx_in 680 (by decide +kernel) rfl
theorem w_X5_forget_s : Cond.selects yX5_forget.cls yX5_forget yX5_forget ∈ rx_WT := rx_in 681 (by decide +kernel) rfl
theorem w_X5_forget_d : yX5_forget.cls ≠ "java/lang/invoke/MethodHandle" ∧ yX5_forget.cls ≠ "java/lang/invoke/VarHandle" ∧ (parseMethodDescriptor yX5_forget.desc).map (fun d => d.parameters.length) = some 0 := by decide +kernel
def kd_X6_clearToMark : List (Nat × List (Instr × Nat)) := [(0, [(.aload_n 0, 1), (.getfield 19, 3), (.invokevirtual 134, 3), (.istore_n 1, 1), (.iload_n 1, 1), (.ifCond .ge 6, 3), (.bipush 8, 2), (.ireturn, 1)]),
  (15, [(.aload_n 0, 1), (.getfield 19, 3), (.iload_n 1, 1), (.iconst 1, 1), (.iadd, 1), (.invokevirtual 89, 3), (.iconst 0, 1), (.ireturn, 1)])]
def cf_X6_clearToMark : Instr → Option rx_C := rx_lkc [(134, (1, some 5, 0, 0, f_X5_aboveMark)), (89, (2, some 5, 0, 0, f_X5_drop))] [] []
def f_X6_clearToMark : rx_F := rx_fn (rx_lkk kC_X6) (rx_lkf fL_X6) (rx_lkf fP_X6) (rx_lkg gS_X6) (rx_lkg fG_X6) (rx_lkw nW_X6) cf_X6_clearToMark (some .int) 0 0 2 kd_X6_clearToMark rx_fu
theorem m_X6_clearToMark (l : Launch) : rx_M l yX6_clearToMark (Cond.code yX6_clearToMark cX6_clearToMark 2 (some .int) :: rx_WT) { frames := 1, cells := 0, slots := 0, locals := 21 } f_X6_clearToMark := rx_met rx_fu (by decide +kernel) kC_X6_ok gS_X6_ok fG_X6_ok fL_X6_ok (fP_X6_ok _) nW_X6_ok rx_ar (by decide +kernel) (rx_lkc_of (rx_n1 (rx_caV 0 5 (m_X5_aboveMark l) w_X5_aboveMark_c w_X5_aboveMark_n (rx_in 1228 (by decide +kernel) rfl) w_X5_aboveMark_i w_X5_aboveMark_s w_X5_aboveMark_d (by decide) rfl rfl) (rx_n1 (rx_caV 1 5 (m_X5_drop l) w_X5_drop_c w_X5_drop_n (rx_in 1189 (by decide +kernel) rfl) w_X5_drop_i w_X5_drop_s w_X5_drop_d (by decide) rfl rfl) rx_n0)) rx_n0 rx_n0)
theorem w_X6_clearToMark_c : Cond.code yX6_clearToMark cX6_clearToMark 2 (some .int) ∈ rx_WT := rx_in 1227 (by decide +kernel) rfl
theorem w_X6_clearToMark_n : Cond.initialized yX6_clearToMark.cls ∈ rx_WT := rx_in 206 (by decide +kernel) rfl
theorem w_X6_clearToMark_i : Cond.instanceMethod yX6_clearToMark ∈ rx_WT := rx_in 1226 (by decide +kernel) rfl
theorem w_X6_clearToMark_s : Cond.selects yX6_clearToMark.cls yX6_clearToMark yX6_clearToMark ∈ rx_WT := rx_in 49 (by decide +kernel) rfl
theorem w_X6_clearToMark_d : yX6_clearToMark.cls ≠ "java/lang/invoke/MethodHandle" ∧ yX6_clearToMark.cls ≠ "java/lang/invoke/VarHandle" ∧ (parseMethodDescriptor yX6_clearToMark.desc).map (fun d => d.parameters.length) = some 0 := by decide +kernel
def kd_X6_countToMark : List (Nat × List (Instr × Nat)) := [(0, [(.aload_n 0, 1), (.getfield 19, 3), (.invokevirtual 134, 3), (.istore_n 1, 1), (.iload_n 1, 1), (.ifCond .ge 8, 3), (.bipush 8, 2), (.goto 15, 3)]),
  (17, [(.aload_n 0, 1), (.getfield 19, 3), (.iconst 0, 1), (.iload_n 1, 1), (.invokestatic 113, 3), (.invokevirtual 50, 3)]),
  (29, [(.ireturn, 1)])]
def cf_X6_countToMark : Instr → Option rx_C := rx_lkc [(134, (1, some 5, 0, 0, f_X5_aboveMark)), (50, (3, some 5, 0, 0, f_X5_answer))] [(113, (1, none, 0, 0, f_X10_number))] []
def f_X6_countToMark : rx_F := rx_fn (rx_lkk kC_X6) (rx_lkf fL_X6) (rx_lkf fP_X6) (rx_lkg gS_X6) (rx_lkg fG_X6) (rx_lkw nW_X6) cf_X6_countToMark (some .int) 0 0 2 kd_X6_countToMark rx_fu
theorem m_X6_countToMark (l : Launch) : rx_M l yX6_countToMark (Cond.code yX6_countToMark cX6_countToMark 2 (some .int) :: rx_WT) { frames := 1, cells := 0, slots := 0, locals := 24 } f_X6_countToMark := rx_met rx_fu (by decide +kernel) kC_X6_ok gS_X6_ok fG_X6_ok fL_X6_ok (fP_X6_ok _) nW_X6_ok rx_ar (by decide +kernel) (rx_lkc_of (rx_n1 (rx_caV 0 5 (m_X5_aboveMark l) w_X5_aboveMark_c w_X5_aboveMark_n (rx_in 1228 (by decide +kernel) rfl) w_X5_aboveMark_i w_X5_aboveMark_s w_X5_aboveMark_d (by decide) rfl rfl) (rx_n1 (rx_caV 2 5 (m_X5_answer l) w_X5_answer_c w_X5_answer_n (rx_in 1195 (by decide +kernel) rfl) w_X5_answer_i w_X5_answer_s w_X5_answer_d (by decide) rfl rfl) rx_n0)) (rx_n1 (rx_caS 1 (m_X10_number l) w_X10_number_c w_X10_number_n (rx_in 1222 (by decide +kernel) rfl) w_X10_number_t w_X10_number_d (by decide)) rx_n0) rx_n0)
theorem w_X6_countToMark_c : Cond.code yX6_countToMark cX6_countToMark 2 (some .int) ∈ rx_WT := rx_in 1232 (by decide +kernel) rfl
theorem w_X6_countToMark_n : Cond.initialized yX6_countToMark.cls ∈ rx_WT := rx_in 206 (by decide +kernel) rfl
theorem w_X6_countToMark_i : Cond.instanceMethod yX6_countToMark ∈ rx_WT := rx_in 1231 (by decide +kernel) rfl
theorem w_X6_countToMark_s : Cond.selects yX6_countToMark.cls yX6_countToMark yX6_countToMark ∈ rx_WT := rx_in 50 (by decide +kernel) rfl
theorem w_X6_countToMark_d : yX6_countToMark.cls ≠ "java/lang/invoke/MethodHandle" ∧ yX6_countToMark.cls ≠ "java/lang/invoke/VarHandle" ∧ (parseMethodDescriptor yX6_countToMark.desc).map (fun d => d.parameters.length) = some 0 := by decide +kernel
def kd_X6_arrange : List (Nat × List (Instr × Nat)) := [(0, [(.iload_n 1, 1), (.tableswitch 191 0 11 #[63, 73, 82, 99, 112, 125, 146, 155, 174, 174, 174, 186], 63)]),
  (64, [(.aload_n 0, 1), (.getfield 19, 3), (.iconst 1, 1), (.invokevirtual 89, 3), (.iconst 0, 1), (.ireturn, 1)]),
  (74, [(.aload_n 0, 1), (.getfield 19, 3), (.invokevirtual 93, 3), (.iconst 0, 1), (.ireturn, 1)]),
  (83, [(.aload_n 0, 1), (.getfield 19, 3), (.iconst 0, 1), (.aload_n 0, 1), (.getfield 19, 3), (.iconst 0, 1), (.invokevirtual 62, 3), (.invokevirtual 50, 3), (.ireturn, 1)]),
  (100, [(.aload_n 0, 1), (.aload_n 0, 1), (.getfield 19, 3), (.iconst 0, 1), (.invokevirtual 27, 3), (.invokevirtual 96, 3), (.ireturn, 1)]),
  (113, [(.aload_n 0, 1), (.aload_n 0, 1), (.getfield 19, 3), (.iconst 0, 1), (.invokevirtual 27, 3), (.invokevirtual 99, 3), (.ireturn, 1)]),
  (126, [(.aload_n 0, 1), (.aload_n 0, 1), (.getfield 19, 3), (.iconst 1, 1), (.invokevirtual 27, 3), (.aload_n 0, 1), (.getfield 19, 3), (.iconst 0, 1), (.invokevirtual 27, 3), (.invokevirtual 102, 3), (.ireturn, 1)]),
  (147, [(.aload_n 0, 1), (.getfield 19, 3), (.invokevirtual 106, 3), (.iconst 0, 1), (.ireturn, 1)]),
  (156, [(.aload_n 0, 1), (.getfield 19, 3), (.iconst 0, 1), (.aload_n 0, 1), (.getfield 19, 3), (.getfield 109, 3), (.invokestatic 113, 3), (.invokevirtual 50, 3), (.ireturn, 1)]),
  (175, [(.aload_n 0, 1), (.getfield 19, 3), (.iconst 0, 1), (.ldc2_w 116, 3), (.invokevirtual 50, 3), (.ireturn, 1)]),
  (187, [(.aload_n 0, 1), (.invokevirtual 118, 3), (.ireturn, 1)]),
  (192, [(.aload_n 0, 1), (.invokevirtual 121, 3), (.ireturn, 1)])]
def cf_X6_arrange : Instr → Option rx_C := rx_lkc [(89, (2, some 5, 0, 0, f_X5_drop)), (93, (1, some 5, 0, 0, f_X5_swap)), (62, (2, some 5, 0, 0, f_X5_top)), (50, (3, some 5, 0, 0, f_X5_answer)), (27, (2, some 5, 0, 0, f_X5_numberAt)), (96, (2, some 6, 0, 0, f_X6_copy)), (99, (2, some 6, 0, 0, f_X6_index)), (102, (3, some 6, 0, 0, f_X6_roll)), (106, (1, some 5, 0, 0, f_X5_forget)), (118, (1, some 6, 0, 0, f_X6_clearToMark)), (121, (1, some 6, 0, 0, f_X6_countToMark))] [(113, (1, none, 0, 0, f_X10_number))] []
def f_X6_arrange : rx_F := rx_fn (rx_lkk kC_X6) (rx_lkf fL_X6) (rx_lkf fP_X6) (rx_lkg gS_X6) (rx_lkg fG_X6) (rx_lkw nW_X6) cf_X6_arrange (some .int) 0 0 2 kd_X6_arrange rx_fu
theorem m_X6_arrange (l : Launch) : rx_M l yX6_arrange (Cond.code yX6_arrange cX6_arrange 2 (some .int) :: rx_WT) { frames := 3, cells := 0, slots := 0, locals := 70 } f_X6_arrange := rx_met rx_fu (by decide +kernel) kC_X6_ok gS_X6_ok fG_X6_ok fL_X6_ok (fP_X6_ok _) nW_X6_ok rx_ar (by decide +kernel) (rx_lkc_of (rx_n1 (rx_caV 1 5 (m_X5_drop l) w_X5_drop_c w_X5_drop_n (rx_in 1189 (by decide +kernel) rfl) w_X5_drop_i w_X5_drop_s w_X5_drop_d (by decide) rfl rfl) (rx_n1 (rx_caV 0 5 (m_X5_swap l) w_X5_swap_c w_X5_swap_n (rx_in 1190 (by decide +kernel) rfl) w_X5_swap_i w_X5_swap_s w_X5_swap_d (by decide) rfl rfl) (rx_n1 (rx_caV 1 5 (m_X5_top l) w_X5_top_c w_X5_top_n (rx_in 1194 (by decide +kernel) rfl) w_X5_top_i w_X5_top_s w_X5_top_d (by decide) rfl rfl) (rx_n1 (rx_caV 2 5 (m_X5_answer l) w_X5_answer_c w_X5_answer_n (rx_in 1195 (by decide +kernel) rfl) w_X5_answer_i w_X5_answer_s w_X5_answer_d (by decide) rfl rfl) (rx_n1 (rx_caV 1 5 (m_X5_numberAt l) w_X5_numberAt_c w_X5_numberAt_n (rx_in 1196 (by decide +kernel) rfl) w_X5_numberAt_i w_X5_numberAt_s w_X5_numberAt_d (by decide) rfl rfl) (rx_n1 (rx_caV 1 6 (m_X6_copy l) w_X6_copy_c w_X6_copy_n (rx_in 1197 (by decide +kernel) rfl) w_X6_copy_i w_X6_copy_s w_X6_copy_d (by decide) rfl rfl) (rx_n1 (rx_caV 1 6 (m_X6_index l) w_X6_index_c w_X6_index_n (rx_in 1206 (by decide +kernel) rfl) w_X6_index_i w_X6_index_s w_X6_index_d (by decide) rfl rfl) (rx_n1 (rx_caV 2 6 (m_X6_roll l) w_X6_roll_c w_X6_roll_n (rx_in 1210 (by decide +kernel) rfl) w_X6_roll_i w_X6_roll_s w_X6_roll_d (by decide) rfl rfl) (rx_n1 (rx_caV 0 5 (m_X5_forget l) w_X5_forget_c w_X5_forget_n (rx_in 1221 (by decide +kernel) rfl) w_X5_forget_i w_X5_forget_s w_X5_forget_d (by decide) rfl rfl) (rx_n1 (rx_caV 0 6 (m_X6_clearToMark l) w_X6_clearToMark_c w_X6_clearToMark_n (rx_in 1224 (by decide +kernel) rfl) w_X6_clearToMark_i w_X6_clearToMark_s w_X6_clearToMark_d (by decide) rfl rfl) (rx_n1 (rx_caV 0 6 (m_X6_countToMark l) w_X6_countToMark_c w_X6_countToMark_n (rx_in 1229 (by decide +kernel) rfl) w_X6_countToMark_i w_X6_countToMark_s w_X6_countToMark_d (by decide) rfl rfl) rx_n0))))))))))) (rx_n1 (rx_caS 1 (m_X10_number l) w_X10_number_c w_X10_number_n (rx_in 1222 (by decide +kernel) rfl) w_X10_number_t w_X10_number_d (by decide)) rx_n0) rx_n0)
theorem w_X6_arrange_c : Cond.code yX6_arrange cX6_arrange 2 (some .int) ∈ rx_WT := rx_in 1188 (by decide +kernel) rfl
theorem w_X6_arrange_n : Cond.initialized yX6_arrange.cls ∈ rx_WT := rx_in 206 (by decide +kernel) rfl
theorem w_X6_arrange_i : Cond.instanceMethod yX6_arrange ∈ rx_WT := rx_in 1187 (by decide +kernel) rfl
theorem w_X6_arrange_s : Cond.selects yX6_arrange.cls yX6_arrange yX6_arrange ∈ rx_WT := rx_in 45 (by decide +kernel) rfl
theorem w_X6_arrange_d : yX6_arrange.cls ≠ "java/lang/invoke/MethodHandle" ∧ yX6_arrange.cls ≠ "java/lang/invoke/VarHandle" ∧ (parseMethodDescriptor yX6_arrange.desc).map (fun d => d.parameters.length) = some 1 := by decide +kernel
def kd_X6_calculate : List (Nat × List (Instr × Nat)) := [(0, [(.iload_n 1, 1), (.tableswitch 146 13 18 #[39, 54, 69, 84, 108, 132], 39)]),
  (40, [(.aload_n 0, 1), (.getfield 19, 3), (.iconst 2, 1), (.iload_n 2, 1), (.iload_n 3, 1), (.iadd, 1), (.invokestatic 113, 3), (.invokevirtual 50, 3), (.ireturn, 1)]),
  (55, [(.aload_n 0, 1), (.getfield 19, 3), (.iconst 2, 1), (.iload_n 2, 1), (.iload_n 3, 1), (.isub, 1), (.invokestatic 113, 3), (.invokevirtual 50, 3), (.ireturn, 1)]),
  (70, [(.aload_n 0, 1), (.getfield 19, 3), (.iconst 2, 1), (.iload_n 2, 1), (.iload_n 3, 1), (.imul, 1), (.invokestatic 113, 3), (.invokevirtual 50, 3), (.ireturn, 1)]),
  (85, [(.iload_n 3, 1), (.ifCond .ne 8, 3), (.bipush 7, 2), (.goto 17, 3)]),
  (94, [(.aload_n 0, 1), (.getfield 19, 3), (.iconst 2, 1), (.iload_n 2, 1), (.iload_n 3, 1), (.idiv, 1), (.invokestatic 113, 3), (.invokevirtual 50, 3)]),
  (108, [(.ireturn, 1)]),
  (109, [(.iload_n 3, 1), (.ifCond .ne 8, 3), (.bipush 7, 2), (.goto 17, 3)]),
  (118, [(.aload_n 0, 1), (.getfield 19, 3), (.iconst 2, 1), (.iload_n 2, 1), (.iload_n 3, 1), (.irem, 1), (.invokestatic 113, 3), (.invokevirtual 50, 3)]),
  (132, [(.ireturn, 1)]),
  (133, [(.aload_n 0, 1), (.getfield 19, 3), (.iconst 1, 1), (.iload_n 3, 1), (.ineg, 1), (.invokestatic 113, 3), (.invokevirtual 50, 3), (.ireturn, 1)]),
  (147, [(.aload_n 0, 1), (.getfield 19, 3), (.iconst 1, 1), (.iload_n 3, 1), (.ifCond .ge 8, 3), (.iload_n 3, 1), (.ineg, 1), (.goto 4, 3)]),
  (161, [(.iload_n 3, 1)]),
  (162, [(.invokestatic 113, 3), (.invokevirtual 50, 3), (.ireturn, 1)])]
def cf_X6_calculate : Instr → Option rx_C := rx_lkc [(50, (3, some 5, 0, 0, f_X5_answer))] [(113, (1, none, 0, 0, f_X10_number))] []
def f_X6_calculate : rx_F := rx_fn (rx_lkk kC_X6) (rx_lkf fL_X6) (rx_lkf fP_X6) (rx_lkg gS_X6) (rx_lkg fG_X6) (rx_lkw nW_X6) cf_X6_calculate (some .int) 0 0 4 kd_X6_calculate rx_fu
theorem m_X6_calculate (l : Launch) : rx_M l yX6_calculate (Cond.code yX6_calculate cX6_calculate 4 (some .int) :: rx_WT) { frames := 1, cells := 0, slots := 0, locals := 24 } f_X6_calculate := rx_met rx_fu (by decide +kernel) kC_X6_ok gS_X6_ok fG_X6_ok fL_X6_ok (fP_X6_ok _) nW_X6_ok rx_ar (by decide +kernel) (rx_lkc_of (rx_n1 (rx_caV 2 5 (m_X5_answer l) w_X5_answer_c w_X5_answer_n (rx_in 1195 (by decide +kernel) rfl) w_X5_answer_i w_X5_answer_s w_X5_answer_d (by decide) rfl rfl) rx_n0) (rx_n1 (rx_caS 1 (m_X10_number l) w_X10_number_c w_X10_number_n (rx_in 1222 (by decide +kernel) rfl) w_X10_number_t w_X10_number_d (by decide)) rx_n0) rx_n0)
theorem w_X6_calculate_c : Cond.code yX6_calculate cX6_calculate 4 (some .int) ∈ rx_WT := rx_in 1236 (by decide +kernel) rfl
theorem w_X6_calculate_n : Cond.initialized yX6_calculate.cls ∈ rx_WT := rx_in 206 (by decide +kernel) rfl
theorem w_X6_calculate_i : Cond.instanceMethod yX6_calculate ∈ rx_WT := rx_in 1235 (by decide +kernel) rfl
theorem w_X6_calculate_s : Cond.selects yX6_calculate.cls yX6_calculate yX6_calculate ∈ rx_WT := rx_in 51 (by decide +kernel) rfl
theorem w_X6_calculate_d : yX6_calculate.cls ≠ "java/lang/invoke/MethodHandle" ∧ yX6_calculate.cls ≠ "java/lang/invoke/VarHandle" ∧ (parseMethodDescriptor yX6_calculate.desc).map (fun d => d.parameters.length) = some 3 := by decide +kernel
def kd_X4_octetOf : List (Nat × List (Instr × Nat)) := [(0, [(.iload_n 1, 1), (.ifCond .lt 20, 3), (.iload_n 1, 1), (.sipush 160, 3), (.if_icmp .ge 13, 3), (.iload_n 2, 1), (.ifCond .lt 9, 3), (.iload_n 2, 1), (.bipush 16, 2), (.if_icmp .lt 5, 3)]),
  (21, [(.iconst 0, 1), (.ireturn, 1)]),
  (23, [(.iload_n 2, 1), (.bipush 8, 2), (.if_icmp .ge 12, 3), (.aload_n 0, 1), (.getfield 9, 3), (.iload_n 1, 1), (.laload, 1), (.goto 9, 3)]),
  (38, [(.aload_n 0, 1), (.getfield 13, 3), (.iload_n 1, 1), (.laload, 1)]),
  (44, [(.lstore_n 3, 1), (.lload_n 3, 1), (.bipush 8, 2), (.iload_n 2, 1), (.bipush 7, 2), (.iand, 1), (.imul, 1), (.lushr, 1), (.l2i, 1), (.sipush 255, 3), (.iand, 1), (.ireturn, 1)])]
def cf_X4_octetOf : Instr → Option rx_C := rx_lkc [] [] []
def f_X4_octetOf : rx_F := rx_fn (rx_lkk kC_X4) (rx_lkf fL_X4) (rx_lkf fP_X4) (rx_lkg gS_X4) (rx_lkg fG_X4) (rx_lkw nW_X4) cf_X4_octetOf (some .int) 0 0 5 kd_X4_octetOf rx_fu
theorem m_X4_octetOf (l : Launch) : rx_M l yX4_octetOf (Cond.code yX4_octetOf cX4_octetOf 5 (some .int) :: rx_WT) { frames := 0, cells := 0, slots := 0, locals := 0 } f_X4_octetOf := rx_met rx_fu (by decide +kernel) kC_X4_ok gS_X4_ok fG_X4_ok fL_X4_ok (fP_X4_ok _) nW_X4_ok rx_ar (by decide +kernel) (rx_lkc_of rx_n0 rx_n0 rx_n0)
theorem w_X4_octetOf_c : Cond.code yX4_octetOf cX4_octetOf 5 (some .int) ∈ rx_WT := rx_in 1255 (by decide +kernel) rfl
theorem w_X4_octetOf_n : Cond.initialized yX4_octetOf.cls ∈ rx_WT := rx_in 194 (by decide +kernel) rfl
theorem w_X4_octetOf_i : Cond.instanceMethod yX4_octetOf ∈ rx_WT := rx_in 1253 (by decide +kernel) rfl
theorem w_X4_octetOf_s : Cond.selects yX4_octetOf.cls yX4_octetOf yX4_octetOf ∈ rx_WT := rx_in 1254 (by decide +kernel) rfl
theorem w_X4_octetOf_d : yX4_octetOf.cls ≠ "java/lang/invoke/MethodHandle" ∧ yX4_octetOf.cls ≠ "java/lang/invoke/VarHandle" ∧ (parseMethodDescriptor yX4_octetOf.desc).map (fun d => d.parameters.length) = some 2 := by decide +kernel
def kd_X6_compareBytes : List (Nat × List (Instr × Nat)) := [(0, [(.lload_n 1, 1), (.invokestatic 76, 3), (.iconst 4, 1), (.if_icmp .ne 7, 3), (.iconst 1, 1), (.goto 4, 3)]),
  (12, [(.iconst 0, 1)]),
  (13, [(.istore 5, 2), (.lload_n 3, 1), (.invokestatic 76, 3), (.iconst 4, 1), (.if_icmp .ne 7, 3), (.iconst 1, 1), (.goto 4, 3)]),
  (27, [(.iconst 0, 1)]),
  (28, [(.istore 6, 2), (.iload 5, 2), (.ifCond .eq 15, 3), (.aload_n 0, 1), (.getfield 9, 3), (.lload_n 1, 1), (.l2i, 1), (.invokevirtual 149, 3), (.goto 7, 3)]),
  (47, [(.lload_n 1, 1), (.invokestatic 152, 3)]),
  (51, [(.istore 7, 2), (.iload 6, 2), (.ifCond .eq 15, 3), (.aload_n 0, 1), (.getfield 9, 3), (.lload_n 3, 1), (.l2i, 1), (.invokevirtual 149, 3), (.goto 7, 3)]),
  (70, [(.lload_n 3, 1), (.invokestatic 152, 3)]),
  (74, [(.istore 8, 2), (.iconst 0, 1), (.istore 9, 2)]),
  (79, [(.iload 9, 2), (.iload 7, 2), (.if_icmp .ge 95, 3), (.iload 9, 2), (.iload 8, 2), (.if_icmp .ge 88, 3), (.iload 5, 2), (.ifCond .eq 17, 3), (.aload_n 0, 1), (.getfield 9, 3), (.lload_n 1, 1), (.l2i, 1), (.iload 9, 2), (.invokevirtual 155, 3), (.goto 15, 3)]),
  (112, [(.aload_n 0, 1), (.getfield 15, 3), (.lload_n 1, 1), (.l2i, 1), (.iload 9, 2), (.iadd, 1), (.invokevirtual 158, 3)]),
  (124, [(.istore 10, 2), (.iload 6, 2), (.ifCond .eq 17, 3), (.aload_n 0, 1), (.getfield 9, 3), (.lload_n 3, 1), (.l2i, 1), (.iload 9, 2), (.invokevirtual 155, 3), (.goto 15, 3)]),
  (145, [(.aload_n 0, 1), (.getfield 15, 3), (.lload_n 3, 1), (.l2i, 1), (.iload 9, 2), (.iadd, 1), (.invokevirtual 158, 3)]),
  (157, [(.istore 11, 2), (.iload 10, 2), (.iload 11, 2), (.if_icmp .eq 9, 3), (.iload 10, 2), (.iload 11, 2), (.isub, 1), (.ireturn, 1)]),
  (172, [(.iinc 9 1, 3), (.goto (-96), 3)]),
  (178, [(.iload 7, 2), (.iload 8, 2), (.isub, 1), (.ireturn, 1)])]
def cf_X6_compareBytes : Instr → Option rx_C := rx_lkc [(149, (2, some 4, 0, 0, f_X4_lengthOf)), (155, (3, some 4, 0, 0, f_X4_octetOf)), (158, (2, some 9, 0, 0, f_X9_octetAt))] [(76, (1, none, 0, 0, f_X10_kind)), (152, (1, none, 0, 0, f_X10_length))] []
def f_X6_compareBytes : rx_F := rx_fn (rx_lkk kC_X6) (rx_lkf fL_X6) (rx_lkf fP_X6) (rx_lkg gS_X6) (rx_lkg fG_X6) (rx_lkw nW_X6) cf_X6_compareBytes (some .int) 0 0 12 kd_X6_compareBytes rx_fu
theorem m_X6_compareBytes (l : Launch) : rx_M l yX6_compareBytes (Cond.code yX6_compareBytes cX6_compareBytes 12 (some .int) :: rx_WT) { frames := 1, cells := 0, slots := 0, locals := 24 } f_X6_compareBytes := rx_met rx_fu (by decide +kernel) kC_X6_ok gS_X6_ok fG_X6_ok fL_X6_ok (fP_X6_ok _) nW_X6_ok rx_ar (by decide +kernel) (rx_lkc_of (rx_n1 (rx_caV 1 4 (m_X4_lengthOf l) w_X4_lengthOf_c w_X4_lengthOf_n (rx_in 1250 (by decide +kernel) rfl) w_X4_lengthOf_i w_X4_lengthOf_s w_X4_lengthOf_d (by decide) rfl rfl) (rx_n1 (rx_caV 2 4 (m_X4_octetOf l) w_X4_octetOf_c w_X4_octetOf_n (rx_in 1252 (by decide +kernel) rfl) w_X4_octetOf_i w_X4_octetOf_s w_X4_octetOf_d (by decide) rfl rfl) (rx_n1 (rx_caV 1 9 (m_X9_octetAt l) w_X9_octetAt_c w_X9_octetAt_n (rx_in 1256 (by decide +kernel) rfl) w_X9_octetAt_i w_X9_octetAt_s w_X9_octetAt_d (by decide) rfl rfl) rx_n0))) (rx_n1 (rx_caS 1 (m_X10_kind l) w_X10_kind_c w_X10_kind_n (rx_in 1245 (by decide +kernel) rfl) w_X10_kind_t w_X10_kind_d (by decide)) (rx_n1 (rx_caS 1 (m_X10_length l) w_X10_length_c w_X10_length_n (rx_in 1251 (by decide +kernel) rfl) w_X10_length_t w_X10_length_d (by decide)) rx_n0)) rx_n0)
theorem w_X6_compareBytes_c : Cond.code yX6_compareBytes cX6_compareBytes 12 (some .int) ∈ rx_WT := rx_in 1249 (by decide +kernel) rfl
theorem w_X6_compareBytes_n : Cond.initialized yX6_compareBytes.cls ∈ rx_WT := rx_in 206 (by decide +kernel) rfl
theorem w_X6_compareBytes_i : Cond.instanceMethod yX6_compareBytes ∈ rx_WT := rx_in 1248 (by decide +kernel) rfl
theorem w_X6_compareBytes_s : Cond.selects yX6_compareBytes.cls yX6_compareBytes yX6_compareBytes ∈ rx_WT := rx_in 54 (by decide +kernel) rfl
theorem w_X6_compareBytes_d : yX6_compareBytes.cls ≠ "java/lang/invoke/MethodHandle" ∧ yX6_compareBytes.cls ≠ "java/lang/invoke/VarHandle" ∧ (parseMethodDescriptor yX6_compareBytes.desc).map (fun d => d.parameters.length) = some 2 := by decide +kernel
def kd_X6_areEqual : List (Nat × List (Instr × Nat)) := [(0, [(.lload_n 1, 1), (.invokestatic 76, 3), (.istore 5, 2), (.lload_n 3, 1), (.invokestatic 76, 3), (.istore 6, 2), (.iload 5, 2), (.bipush 6, 2), (.if_icmp .ne 16, 3), (.iload 6, 2), (.bipush 6, 2), (.if_icmp .eq 22, 3), (.iload 6, 2), (.iconst 4, 1), (.if_icmp .eq 16, 3)]),
  (32, [(.iload 5, 2), (.iconst 4, 1), (.if_icmp .ne 25, 3), (.iload 6, 2), (.bipush 6, 2), (.if_icmp .ne 18, 3)]),
  (45, [(.aload_n 0, 1), (.lload_n 1, 1), (.lload_n 3, 1), (.invokevirtual 145, 3), (.ifCond .ne 7, 3), (.iconst 1, 1), (.goto 4, 3)]),
  (58, [(.iconst 0, 1)]),
  (59, [(.ireturn, 1)]),
  (60, [(.lload_n 1, 1), (.ldc2_w 56, 3), (.lor, 1), (.lload_n 3, 1), (.ldc2_w 56, 3), (.lor, 1), (.lcmp, 1), (.ifCond .ne 7, 3), (.iconst 1, 1), (.goto 4, 3)]),
  (78, [(.iconst 0, 1)]),
  (79, [(.ireturn, 1)])]
def cf_X6_areEqual : Instr → Option rx_C := rx_lkc [(145, (3, some 6, 0, 0, f_X6_compareBytes))] [(76, (1, none, 0, 0, f_X10_kind))] []
def f_X6_areEqual : rx_F := rx_fn (rx_lkk kC_X6) (rx_lkf fL_X6) (rx_lkf fP_X6) (rx_lkg gS_X6) (rx_lkg fG_X6) (rx_lkw nW_X6) cf_X6_areEqual (some .boolean) 0 0 7 kd_X6_areEqual rx_fu
theorem m_X6_areEqual (l : Launch) : rx_M l yX6_areEqual (Cond.code yX6_areEqual cX6_areEqual 7 (some .boolean) :: rx_WT) { frames := 2, cells := 0, slots := 0, locals := 55 } f_X6_areEqual := rx_met rx_fu (by decide +kernel) kC_X6_ok gS_X6_ok fG_X6_ok fL_X6_ok (fP_X6_ok _) nW_X6_ok rx_ar (by decide +kernel) (rx_lkc_of (rx_n1 (rx_caV 2 6 (m_X6_compareBytes l) w_X6_compareBytes_c w_X6_compareBytes_n (rx_in 1246 (by decide +kernel) rfl) w_X6_compareBytes_i w_X6_compareBytes_s w_X6_compareBytes_d (by decide) rfl rfl) rx_n0) (rx_n1 (rx_caS 1 (m_X10_kind l) w_X10_kind_c w_X10_kind_n (rx_in 1245 (by decide +kernel) rfl) w_X10_kind_t w_X10_kind_d (by decide)) rx_n0) rx_n0)
theorem w_X6_areEqual_c : Cond.code yX6_areEqual cX6_areEqual 7 (some .boolean) ∈ rx_WT := rx_in 1244 (by decide +kernel) rfl
theorem w_X6_areEqual_n : Cond.initialized yX6_areEqual.cls ∈ rx_WT := rx_in 206 (by decide +kernel) rfl
theorem w_X6_areEqual_i : Cond.instanceMethod yX6_areEqual ∈ rx_WT := rx_in 1243 (by decide +kernel) rfl
theorem w_X6_areEqual_s : Cond.selects yX6_areEqual.cls yX6_areEqual yX6_areEqual ∈ rx_WT := rx_in 53 (by decide +kernel) rfl
theorem w_X6_areEqual_d : yX6_areEqual.cls ≠ "java/lang/invoke/MethodHandle" ∧ yX6_areEqual.cls ≠ "java/lang/invoke/VarHandle" ∧ (parseMethodDescriptor yX6_areEqual.desc).map (fun d => d.parameters.length) = some 2 := by decide +kernel
def kd_X6_compare : List (Nat × List (Instr × Nat)) := [(0, [(.aload_n 0, 1), (.getfield 19, 3), (.iconst 1, 1), (.invokevirtual 62, 3), (.lstore_n 2, 1), (.aload_n 0, 1), (.getfield 19, 3), (.iconst 0, 1), (.invokevirtual 62, 3), (.lstore 4, 2), (.iload_n 1, 1), (.bipush 21, 2), (.if_icmp .gt 41, 3), (.aload_n 0, 1), (.getfield 19, 3), (.iconst 2, 1), (.aload_n 0, 1), (.lload_n 2, 1), (.lload 4, 2), (.invokevirtual 137, 3), (.iload_n 1, 1), (.bipush 20, 2), (.if_icmp .ne 7, 3), (.iconst 1, 1), (.goto 4, 3)]),
  (47, [(.iconst 0, 1)]),
  (48, [(.if_icmp .ne 7, 3), (.iconst 1, 1), (.goto 4, 3)]),
  (55, [(.iconst 0, 1)]),
  (56, [(.invokestatic 70, 3), (.invokevirtual 50, 3), (.ireturn, 1)]),
  (63, [(.lload_n 2, 1), (.invokestatic 76, 3), (.lload 4, 2), (.invokestatic 76, 3), (.if_icmp .eq 5, 3), (.iconst 4, 1), (.ireturn, 1)]),
  (77, [(.lload_n 2, 1), (.invokestatic 76, 3), (.iconst 1, 1), (.if_icmp .ne 7, 3), (.iconst 1, 1), (.goto 4, 3)]),
  (89, [(.iconst 0, 1)]),
  (90, [(.istore 6, 2), (.iload 6, 2), (.ifCond .eq 14, 3), (.lload_n 2, 1), (.l2i, 1), (.lload 4, 2), (.l2i, 1), (.invokestatic 141, 3), (.goto 10, 3)]),
  (108, [(.aload_n 0, 1), (.lload_n 2, 1), (.lload 4, 2), (.invokevirtual 145, 3)]),
  (115, [(.istore 7, 2), (.iload_n 1, 1), (.tableswitch 92 22 24 #[26, 48, 70], 26)]),
  (144, [(.aload_n 0, 1), (.getfield 19, 3), (.iconst 2, 1), (.iload 7, 2), (.ifCond .ge 7, 3), (.iconst 1, 1), (.goto 4, 3)]),
  (158, [(.iconst 0, 1)]),
  (159, [(.invokestatic 70, 3), (.invokevirtual 50, 3), (.ireturn, 1)]),
  (166, [(.aload_n 0, 1), (.getfield 19, 3), (.iconst 2, 1), (.iload 7, 2), (.ifCond .gt 7, 3), (.iconst 1, 1), (.goto 4, 3)]),
  (180, [(.iconst 0, 1)]),
  (181, [(.invokestatic 70, 3), (.invokevirtual 50, 3), (.ireturn, 1)]),
  (188, [(.aload_n 0, 1), (.getfield 19, 3), (.iconst 2, 1), (.iload 7, 2), (.ifCond .le 7, 3), (.iconst 1, 1), (.goto 4, 3)]),
  (202, [(.iconst 0, 1)]),
  (203, [(.invokestatic 70, 3), (.invokevirtual 50, 3), (.ireturn, 1)]),
  (210, [(.aload_n 0, 1), (.getfield 19, 3), (.iconst 2, 1), (.iload 7, 2), (.ifCond .lt 7, 3), (.iconst 1, 1), (.goto 4, 3)]),
  (224, [(.iconst 0, 1)]),
  (225, [(.invokestatic 70, 3), (.invokevirtual 50, 3), (.ireturn, 1)])]
def cf_X6_compare : Instr → Option rx_C := rx_lkc [(62, (2, some 5, 0, 0, f_X5_top)), (137, (3, some 6, 0, 0, f_X6_areEqual)), (50, (3, some 5, 0, 0, f_X5_answer)), (145, (3, some 6, 0, 0, f_X6_compareBytes))] [(70, (1, none, 0, 0, f_X10_truth)), (76, (1, none, 0, 0, f_X10_kind)), (141, (2, none, 0, 0, f_J6_compare_7cf53))] []
def f_X6_compare : rx_F := rx_fn (rx_lkk kC_X6) (rx_lkf fL_X6) (rx_lkf fP_X6) (rx_lkg gS_X6) (rx_lkg fG_X6) (rx_lkw nW_X6) cf_X6_compare (some .int) 0 0 8 kd_X6_compare rx_fu
theorem m_X6_compare (l : Launch) : rx_M l yX6_compare (Cond.code yX6_compare cX6_compare 8 (some .int) :: rx_WT) { frames := 3, cells := 0, slots := 0, locals := 81 } f_X6_compare := rx_met rx_fu (by decide +kernel) kC_X6_ok gS_X6_ok fG_X6_ok fL_X6_ok (fP_X6_ok _) nW_X6_ok rx_ar (by decide +kernel) (rx_lkc_of (rx_n1 (rx_caV 1 5 (m_X5_top l) w_X5_top_c w_X5_top_n (rx_in 1194 (by decide +kernel) rfl) w_X5_top_i w_X5_top_s w_X5_top_d (by decide) rfl rfl) (rx_n1 (rx_caV 2 6 (m_X6_areEqual l) w_X6_areEqual_c w_X6_areEqual_n (rx_in 1241 (by decide +kernel) rfl) w_X6_areEqual_i w_X6_areEqual_s w_X6_areEqual_d (by decide) rfl rfl) (rx_n1 (rx_caV 2 5 (m_X5_answer l) w_X5_answer_c w_X5_answer_n (rx_in 1195 (by decide +kernel) rfl) w_X5_answer_i w_X5_answer_s w_X5_answer_d (by decide) rfl rfl) (rx_n1 (rx_caV 2 6 (m_X6_compareBytes l) w_X6_compareBytes_c w_X6_compareBytes_n (rx_in 1246 (by decide +kernel) rfl) w_X6_compareBytes_i w_X6_compareBytes_s w_X6_compareBytes_d (by decide) rfl rfl) rx_n0)))) (rx_n1 (rx_caS 1 (m_X10_truth l) w_X10_truth_c w_X10_truth_n (rx_in 1258 (by decide +kernel) rfl) w_X10_truth_t w_X10_truth_d (by decide)) (rx_n1 (rx_caS 1 (m_X10_kind l) w_X10_kind_c w_X10_kind_n (rx_in 1245 (by decide +kernel) rfl) w_X10_kind_t w_X10_kind_d (by decide)) (rx_n1 (rx_caS 2 (m_J6_compare_7cf53 l) w_J6_compare_7cf53_c w_J6_compare_7cf53_n (rx_in 1259 (by decide +kernel) rfl) w_J6_compare_7cf53_t w_J6_compare_7cf53_d (by decide)) rx_n0))) rx_n0)
theorem w_X6_compare_c : Cond.code yX6_compare cX6_compare 8 (some .int) ∈ rx_WT := rx_in 1240 (by decide +kernel) rfl
theorem w_X6_compare_n : Cond.initialized yX6_compare.cls ∈ rx_WT := rx_in 206 (by decide +kernel) rfl
theorem w_X6_compare_i : Cond.instanceMethod yX6_compare ∈ rx_WT := rx_in 1239 (by decide +kernel) rfl
theorem w_X6_compare_s : Cond.selects yX6_compare.cls yX6_compare yX6_compare ∈ rx_WT := rx_in 52 (by decide +kernel) rfl
theorem w_X6_compare_d : yX6_compare.cls ≠ "java/lang/invoke/MethodHandle" ∧ yX6_compare.cls ≠ "java/lang/invoke/VarHandle" ∧ (parseMethodDescriptor yX6_compare.desc).map (fun d => d.parameters.length) = some 1 := by decide +kernel
def kd_X6_combine : List (Nat × List (Instr × Nat)) := [(0, [(.aload_n 0, 1), (.getfield 19, 3), (.iconst 1, 1), (.invokevirtual 27, 3), (.istore_n 2, 1), (.aload_n 0, 1), (.getfield 19, 3), (.iconst 0, 1), (.invokevirtual 27, 3), (.istore_n 3, 1), (.aload_n 0, 1), (.getfield 19, 3), (.iconst 0, 1), (.invokevirtual 62, 3), (.invokestatic 76, 3), (.istore 4, 2), (.aload_n 0, 1), (.getfield 19, 3), (.iconst 1, 1), (.invokevirtual 62, 3), (.invokestatic 76, 3), (.iload 4, 2), (.if_icmp .eq 5, 3), (.iconst 4, 1), (.ireturn, 1)]),
  (49, [(.iload_n 1, 1), (.bipush 26, 2), (.if_icmp .ne 9, 3), (.iload_n 2, 1), (.iload_n 3, 1), (.iand, 1), (.goto 18, 3)]),
  (61, [(.iload_n 1, 1), (.bipush 27, 2), (.if_icmp .ne 9, 3), (.iload_n 2, 1), (.iload_n 3, 1), (.ior, 1), (.goto 6, 3)]),
  (73, [(.iload_n 2, 1), (.iload_n 3, 1), (.ixor, 1)]),
  (76, [(.istore 5, 2), (.aload_n 0, 1), (.getfield 19, 3), (.iconst 2, 1), (.iload 4, 2), (.iconst 1, 1), (.if_icmp .ne 11, 3), (.iload 5, 2), (.invokestatic 113, 3), (.goto 17, 3)]),
  (97, [(.iload 5, 2), (.iconst 1, 1), (.if_icmp .ne 7, 3), (.iconst 1, 1), (.goto 4, 3)]),
  (107, [(.iconst 0, 1)]),
  (108, [(.invokestatic 70, 3)]),
  (111, [(.invokevirtual 50, 3), (.ireturn, 1)])]
def cf_X6_combine : Instr → Option rx_C := rx_lkc [(27, (2, some 5, 0, 0, f_X5_numberAt)), (62, (2, some 5, 0, 0, f_X5_top)), (50, (3, some 5, 0, 0, f_X5_answer))] [(76, (1, none, 0, 0, f_X10_kind)), (113, (1, none, 0, 0, f_X10_number)), (70, (1, none, 0, 0, f_X10_truth))] []
def f_X6_combine : rx_F := rx_fn (rx_lkk kC_X6) (rx_lkf fL_X6) (rx_lkf fP_X6) (rx_lkg gS_X6) (rx_lkg fG_X6) (rx_lkw nW_X6) cf_X6_combine (some .int) 0 0 6 kd_X6_combine rx_fu
theorem m_X6_combine (l : Launch) : rx_M l yX6_combine (Cond.code yX6_combine cX6_combine 6 (some .int) :: rx_WT) { frames := 2, cells := 0, slots := 0, locals := 42 } f_X6_combine := rx_met rx_fu (by decide +kernel) kC_X6_ok gS_X6_ok fG_X6_ok fL_X6_ok (fP_X6_ok _) nW_X6_ok rx_ar (by decide +kernel) (rx_lkc_of (rx_n1 (rx_caV 1 5 (m_X5_numberAt l) w_X5_numberAt_c w_X5_numberAt_n (rx_in 1196 (by decide +kernel) rfl) w_X5_numberAt_i w_X5_numberAt_s w_X5_numberAt_d (by decide) rfl rfl) (rx_n1 (rx_caV 1 5 (m_X5_top l) w_X5_top_c w_X5_top_n (rx_in 1194 (by decide +kernel) rfl) w_X5_top_i w_X5_top_s w_X5_top_d (by decide) rfl rfl) (rx_n1 (rx_caV 2 5 (m_X5_answer l) w_X5_answer_c w_X5_answer_n (rx_in 1195 (by decide +kernel) rfl) w_X5_answer_i w_X5_answer_s w_X5_answer_d (by decide) rfl rfl) rx_n0))) (rx_n1 (rx_caS 1 (m_X10_kind l) w_X10_kind_c w_X10_kind_n (rx_in 1245 (by decide +kernel) rfl) w_X10_kind_t w_X10_kind_d (by decide)) (rx_n1 (rx_caS 1 (m_X10_number l) w_X10_number_c w_X10_number_n (rx_in 1222 (by decide +kernel) rfl) w_X10_number_t w_X10_number_d (by decide)) (rx_n1 (rx_caS 1 (m_X10_truth l) w_X10_truth_c w_X10_truth_n (rx_in 1258 (by decide +kernel) rfl) w_X10_truth_t w_X10_truth_d (by decide)) rx_n0))) rx_n0)
theorem w_X6_combine_c : Cond.code yX6_combine cX6_combine 6 (some .int) ∈ rx_WT := rx_in 1265 (by decide +kernel) rfl
theorem w_X6_combine_n : Cond.initialized yX6_combine.cls ∈ rx_WT := rx_in 206 (by decide +kernel) rfl
theorem w_X6_combine_i : Cond.instanceMethod yX6_combine ∈ rx_WT := rx_in 1264 (by decide +kernel) rfl
theorem w_X6_combine_s : Cond.selects yX6_combine.cls yX6_combine yX6_combine ∈ rx_WT := rx_in 55 (by decide +kernel) rfl
theorem w_X6_combine_d : yX6_combine.cls ≠ "java/lang/invoke/MethodHandle" ∧ yX6_combine.cls ≠ "java/lang/invoke/VarHandle" ∧ (parseMethodDescriptor yX6_combine.desc).map (fun d => d.parameters.length) = some 1 := by decide +kernel
def kd_X6_invert : List (Nat × List (Instr × Nat)) := [(0, [(.aload_n 0, 1), (.getfield 19, 3), (.iconst 0, 1), (.invokevirtual 27, 3), (.istore_n 1, 1), (.aload_n 0, 1), (.getfield 19, 3), (.iconst 0, 1), (.invokevirtual 62, 3), (.invokestatic 76, 3), (.iconst 1, 1), (.if_icmp .ne 7, 3), (.iconst 1, 1), (.goto 4, 3)]),
  (28, [(.iconst 0, 1)]),
  (29, [(.istore_n 2, 1), (.aload_n 0, 1), (.getfield 19, 3), (.iconst 1, 1), (.iload_n 2, 1), (.ifCond .eq 12, 3), (.iload_n 1, 1), (.iconst (-1), 1), (.ixor, 1), (.invokestatic 113, 3), (.goto 15, 3)]),
  (48, [(.iload_n 1, 1), (.ifCond .ne 7, 3), (.iconst 1, 1), (.goto 4, 3)]),
  (56, [(.iconst 0, 1)]),
  (57, [(.invokestatic 70, 3)]),
  (60, [(.invokevirtual 50, 3), (.ireturn, 1)])]
def cf_X6_invert : Instr → Option rx_C := rx_lkc [(27, (2, some 5, 0, 0, f_X5_numberAt)), (62, (2, some 5, 0, 0, f_X5_top)), (50, (3, some 5, 0, 0, f_X5_answer))] [(76, (1, none, 0, 0, f_X10_kind)), (113, (1, none, 0, 0, f_X10_number)), (70, (1, none, 0, 0, f_X10_truth))] []
def f_X6_invert : rx_F := rx_fn (rx_lkk kC_X6) (rx_lkf fL_X6) (rx_lkf fP_X6) (rx_lkg gS_X6) (rx_lkg fG_X6) (rx_lkw nW_X6) cf_X6_invert (some .int) 0 0 3 kd_X6_invert rx_fu
theorem m_X6_invert (l : Launch) : rx_M l yX6_invert (Cond.code yX6_invert cX6_invert 3 (some .int) :: rx_WT) { frames := 2, cells := 0, slots := 0, locals := 42 } f_X6_invert := rx_met rx_fu (by decide +kernel) kC_X6_ok gS_X6_ok fG_X6_ok fL_X6_ok (fP_X6_ok _) nW_X6_ok rx_ar (by decide +kernel) (rx_lkc_of (rx_n1 (rx_caV 1 5 (m_X5_numberAt l) w_X5_numberAt_c w_X5_numberAt_n (rx_in 1196 (by decide +kernel) rfl) w_X5_numberAt_i w_X5_numberAt_s w_X5_numberAt_d (by decide) rfl rfl) (rx_n1 (rx_caV 1 5 (m_X5_top l) w_X5_top_c w_X5_top_n (rx_in 1194 (by decide +kernel) rfl) w_X5_top_i w_X5_top_s w_X5_top_d (by decide) rfl rfl) (rx_n1 (rx_caV 2 5 (m_X5_answer l) w_X5_answer_c w_X5_answer_n (rx_in 1195 (by decide +kernel) rfl) w_X5_answer_i w_X5_answer_s w_X5_answer_d (by decide) rfl rfl) rx_n0))) (rx_n1 (rx_caS 1 (m_X10_kind l) w_X10_kind_c w_X10_kind_n (rx_in 1245 (by decide +kernel) rfl) w_X10_kind_t w_X10_kind_d (by decide)) (rx_n1 (rx_caS 1 (m_X10_number l) w_X10_number_c w_X10_number_n (rx_in 1222 (by decide +kernel) rfl) w_X10_number_t w_X10_number_d (by decide)) (rx_n1 (rx_caS 1 (m_X10_truth l) w_X10_truth_c w_X10_truth_n (rx_in 1258 (by decide +kernel) rfl) w_X10_truth_t w_X10_truth_d (by decide)) rx_n0))) rx_n0)
theorem w_X6_invert_c : Cond.code yX6_invert cX6_invert 3 (some .int) ∈ rx_WT := rx_in 1269 (by decide +kernel) rfl
theorem w_X6_invert_n : Cond.initialized yX6_invert.cls ∈ rx_WT := rx_in 206 (by decide +kernel) rfl
theorem w_X6_invert_i : Cond.instanceMethod yX6_invert ∈ rx_WT := rx_in 1268 (by decide +kernel) rfl
theorem w_X6_invert_s : Cond.selects yX6_invert.cls yX6_invert yX6_invert ∈ rx_WT := rx_in 56 (by decide +kernel) rfl
theorem w_X6_invert_d : yX6_invert.cls ≠ "java/lang/invoke/MethodHandle" ∧ yX6_invert.cls ≠ "java/lang/invoke/VarHandle" ∧ (parseMethodDescriptor yX6_invert.desc).map (fun d => d.parameters.length) = some 0 := by decide +kernel
def kd_X6_converted : List (Nat × List (Instr × Nat)) := [(0, [(.aload_n 0, 1), (.getfield 19, 3), (.iconst 0, 1), (.invokevirtual 62, 3), (.lstore_n 3, 1), (.lload_n 3, 1), (.invokestatic 76, 3), (.istore 5, 2), (.iload 5, 2), (.iconst 4, 1), (.if_icmp .eq 9, 3), (.iload 5, 2), (.iconst 5, 1), (.if_icmp .ne 13, 3)]),
  (27, [(.lload_n 3, 1), (.ldc2_w 163, 3), (.land, 1), (.lload_n 1, 1), (.lor, 1), (.goto 4, 3)]),
  (37, [(.lload_n 3, 1)]),
  (38, [(.lreturn, 1)])]
def cf_X6_converted : Instr → Option rx_C := rx_lkc [(62, (2, some 5, 0, 0, f_X5_top))] [(76, (1, none, 0, 0, f_X10_kind))] []
def f_X6_converted : rx_F := rx_fn (rx_lkk kC_X6) (rx_lkf fL_X6) (rx_lkf fP_X6) (rx_lkg gS_X6) (rx_lkg fG_X6) (rx_lkw nW_X6) cf_X6_converted (some .long) 0 0 6 kd_X6_converted rx_fu
theorem m_X6_converted (l : Launch) : rx_M l yX6_converted (Cond.code yX6_converted cX6_converted 6 (some .long) :: rx_WT) { frames := 1, cells := 0, slots := 0, locals := 21 } f_X6_converted := rx_met rx_fu (by decide +kernel) kC_X6_ok gS_X6_ok fG_X6_ok fL_X6_ok (fP_X6_ok _) nW_X6_ok rx_ar (by decide +kernel) (rx_lkc_of (rx_n1 (rx_caV 1 5 (m_X5_top l) w_X5_top_c w_X5_top_n (rx_in 1194 (by decide +kernel) rfl) w_X5_top_i w_X5_top_s w_X5_top_d (by decide) rfl rfl) rx_n0) (rx_n1 (rx_caS 1 (m_X10_kind l) w_X10_kind_c w_X10_kind_n (rx_in 1245 (by decide +kernel) rfl) w_X10_kind_t w_X10_kind_d (by decide)) rx_n0) rx_n0)
theorem w_X6_converted_c : Cond.code yX6_converted cX6_converted 6 (some .long) ∈ rx_WT := rx_in 1275 (by decide +kernel) rfl
theorem w_X6_converted_n : Cond.initialized yX6_converted.cls ∈ rx_WT := rx_in 206 (by decide +kernel) rfl
theorem w_X6_converted_i : Cond.instanceMethod yX6_converted ∈ rx_WT := rx_in 1274 (by decide +kernel) rfl
theorem w_X6_converted_s : Cond.selects yX6_converted.cls yX6_converted yX6_converted ∈ rx_WT := rx_in 57 (by decide +kernel) rfl
theorem w_X6_converted_d : yX6_converted.cls ≠ "java/lang/invoke/MethodHandle" ∧ yX6_converted.cls ≠ "java/lang/invoke/VarHandle" ∧ (parseMethodDescriptor yX6_converted.desc).map (fun d => d.parameters.length) = some 1 := by decide +kernel
def kd_X10_isExecutable : List (Nat × List (Instr × Nat)) := [(0, [(.lload_n 0, 1), (.ldc2_w 30, 3), (.land, 1), (.lconst 0, 1), (.lcmp, 1), (.ifCond .eq 7, 3), (.iconst 1, 1), (.goto 4, 3)]),
  (14, [(.iconst 0, 1)]),
  (15, [(.ireturn, 1)])]
def cf_X10_isExecutable : Instr → Option rx_C := rx_lkc [] [] []
def f_X10_isExecutable : rx_F := rx_fn (rx_lkk kC_X10) (rx_lkf fL_X10) (rx_lkf fP_X10) (rx_lkg gS_X10) (rx_lkg fG_X10) (rx_lkw nW_X10) cf_X10_isExecutable (some .boolean) 0 0 2 kd_X10_isExecutable rx_fu
theorem m_X10_isExecutable (l : Launch) : rx_M l yX10_isExecutable (Cond.code yX10_isExecutable cX10_isExecutable 2 (some .boolean) :: rx_WT) { frames := 0, cells := 0, slots := 0, locals := 0 } f_X10_isExecutable := rx_met rx_fu (by decide +kernel) kC_X10_ok gS_X10_ok fG_X10_ok fL_X10_ok (fP_X10_ok _) nW_X10_ok rx_ar (by decide +kernel) (rx_lkc_of rx_n0 rx_n0 rx_n0)
theorem w_X10_isExecutable_c : Cond.code yX10_isExecutable cX10_isExecutable 2 (some .boolean) ∈ rx_WT := rx_in 1279 (by decide +kernel) rfl
theorem w_X10_isExecutable_n : Cond.initialized yX10_isExecutable.cls ∈ rx_WT := rx_in 201 (by decide +kernel) rfl
theorem w_X10_isExecutable_t : Cond.static yX10_isExecutable ∈ rx_WT := rx_in 1278 (by decide +kernel) rfl
theorem w_X10_isExecutable_d : yX10_isExecutable.cls ≠ "java/lang/invoke/MethodHandle" ∧ yX10_isExecutable.cls ≠ "java/lang/invoke/VarHandle" ∧ (parseMethodDescriptor yX10_isExecutable.desc).map (fun d => d.parameters.length) = some 1 := by decide +kernel
def kd_X9_write : List (Nat × List (Instr × Nat)) := [(0, [(.aload_n 0, 1), (.getfield 27, 3), (.ifCond .lt 13, 3), (.aload_n 0, 1), (.getfield 27, 3), (.sipush 1000, 3), (.if_icmp .lt 5, 3)]),
  (17, [(.iconst 0, 1), (.ireturn, 1)]),
  (19, [(.aload_n 0, 1), (.getfield 17, 3), (.aload_n 0, 1), (.getfield 27, 3), (.iload_n 1, 1), (.i2b, 1), (.bastore, 1), (.aload_n 0, 1), (.dup, 1), (.getfield 27, 3), (.iconst 1, 1), (.iadd, 1), (.putfield 27, 3), (.iconst 1, 1), (.ireturn, 1)])]
def cf_X9_write : Instr → Option rx_C := rx_lkc [] [] []
def f_X9_write : rx_F := rx_fn (rx_lkk kC_X9) (rx_lkf fL_X9) (rx_lkf fP_X9) (rx_lkg gS_X9) (rx_lkg fG_X9) (rx_lkw nW_X9) cf_X9_write (some .boolean) 0 0 2 kd_X9_write rx_fu
theorem m_X9_write (l : Launch) : rx_M l yX9_write (Cond.code yX9_write cX9_write 2 (some .boolean) :: rx_WT) { frames := 0, cells := 0, slots := 0, locals := 0 } f_X9_write := rx_met rx_fu (by decide +kernel) kC_X9_ok gS_X9_ok fG_X9_ok fL_X9_ok (fP_X9_ok _) nW_X9_ok rx_ar (by decide +kernel) (rx_lkc_of rx_n0 rx_n0 rx_n0)
theorem w_X9_write_c : Cond.code yX9_write cX9_write 2 (some .boolean) ∈ rx_WT := rx_in 1296 (by decide +kernel) rfl
theorem w_X9_write_n : Cond.initialized yX9_write.cls ∈ rx_WT := rx_in 199 (by decide +kernel) rfl
theorem w_X9_write_i : Cond.instanceMethod yX9_write ∈ rx_WT := rx_in 1294 (by decide +kernel) rfl
theorem w_X9_write_s : Cond.selects yX9_write.cls yX9_write yX9_write ∈ rx_WT := rx_in 1295 (by decide +kernel) rfl
theorem w_X9_write_d : yX9_write.cls ≠ "java/lang/invoke/MethodHandle" ∧ yX9_write.cls ≠ "java/lang/invoke/VarHandle" ∧ (parseMethodDescriptor yX9_write.desc).map (fun d => d.parameters.length) = some 1 := by decide +kernel
def kd_X6_writeNumber : List (Nat × List (Instr × Nat)) := [(0, [(.iload_n 1, 1), (.ifCond .ge 9, 3), (.iload_n 1, 1), (.i2l, 1), (.lneg, 1), (.goto 5, 3)]),
  (10, [(.iload_n 1, 1), (.i2l, 1)]),
  (12, [(.lstore_n 2, 1), (.iload_n 1, 1), (.ifCond .ge 15, 3), (.aload_n 0, 1), (.getfield 15, 3), (.bipush 45, 2), (.invokevirtual 171, 3), (.ifCond .eq 7, 3)]),
  (29, [(.iconst 1, 1), (.goto 4, 3)]),
  (33, [(.iconst 0, 1)]),
  (34, [(.istore 4, 2), (.iconst 0, 1), (.istore 5, 2), (.ldc2_w 187, 3), (.lstore 6, 2)]),
  (44, [(.lload 6, 2), (.lconst 0, 1), (.lcmp, 1), (.ifCond .le 72, 3), (.iload 4, 2), (.ifCond .eq 67, 3), (.iload 5, 2), (.ifCond .ne 17, 3), (.lload_n 2, 1), (.lload 6, 2), (.lcmp, 1), (.ifCond .ge 10, 3), (.lload 6, 2), (.lconst 1, 1), (.lcmp, 1), (.ifCond .ne 7, 3)]),
  (75, [(.iconst 1, 1), (.goto 4, 3)]),
  (79, [(.iconst 0, 1)]),
  (80, [(.istore 5, 2), (.iload 5, 2), (.ifCond .eq 25, 3), (.aload_n 0, 1), (.getfield 15, 3), (.bipush 48, 2), (.lload_n 2, 1), (.lload 6, 2), (.ldiv, 1), (.l2i, 1), (.iadd, 1), (.invokevirtual 171, 3), (.istore 4, 2), (.lload_n 2, 1), (.lload 6, 2), (.lrem, 1), (.lstore_n 2, 1)]),
  (109, [(.lload 6, 2), (.ldc2_w 189, 3), (.ldiv, 1), (.lstore 6, 2), (.goto (-73), 3)]),
  (120, [(.iload 4, 2), (.ireturn, 1)])]
def cf_X6_writeNumber : Instr → Option rx_C := rx_lkc [(171, (2, some 9, 0, 0, f_X9_write))] [] []
def f_X6_writeNumber : rx_F := rx_fn (rx_lkk kC_X6) (rx_lkf fL_X6) (rx_lkf fP_X6) (rx_lkg gS_X6) (rx_lkg fG_X6) (rx_lkw nW_X6) cf_X6_writeNumber (some .boolean) 0 0 8 kd_X6_writeNumber rx_fu
theorem m_X6_writeNumber (l : Launch) : rx_M l yX6_writeNumber (Cond.code yX6_writeNumber cX6_writeNumber 8 (some .boolean) :: rx_WT) { frames := 1, cells := 0, slots := 0, locals := 21 } f_X6_writeNumber := rx_met rx_fu (by decide +kernel) kC_X6_ok gS_X6_ok fG_X6_ok fL_X6_ok (fP_X6_ok _) nW_X6_ok rx_ar (by decide +kernel) (rx_lkc_of (rx_n1 (rx_caV 1 9 (m_X9_write l) w_X9_write_c w_X9_write_n (rx_in 1293 (by decide +kernel) rfl) w_X9_write_i w_X9_write_s w_X9_write_d (by decide) rfl rfl) rx_n0) rx_n0 rx_n0)
theorem w_X6_writeNumber_c : Cond.code yX6_writeNumber cX6_writeNumber 8 (some .boolean) ∈ rx_WT := rx_in 1292 (by decide +kernel) rfl
theorem w_X6_writeNumber_n : Cond.initialized yX6_writeNumber.cls ∈ rx_WT := rx_in 206 (by decide +kernel) rfl
theorem w_X6_writeNumber_i : Cond.instanceMethod yX6_writeNumber ∈ rx_WT := rx_in 1291 (by decide +kernel) rfl
theorem w_X6_writeNumber_s : Cond.selects yX6_writeNumber.cls yX6_writeNumber yX6_writeNumber ∈ rx_WT := rx_in 60 (by decide +kernel) rfl
theorem w_X6_writeNumber_d : yX6_writeNumber.cls ≠ "java/lang/invoke/MethodHandle" ∧ yX6_writeNumber.cls ≠ "java/lang/invoke/VarHandle" ∧ (parseMethodDescriptor yX6_writeNumber.desc).map (fun d => d.parameters.length) = some 1 := by decide +kernel
def kd_X6_writeName : List (Nat × List (Instr × Nat)) := [(0, [(.iconst 1, 1), (.istore_n 2, 1), (.iconst 0, 1), (.istore_n 3, 1)]),
  (4, [(.iload_n 3, 1), (.aload_n 0, 1), (.getfield 9, 3), (.iload_n 1, 1), (.invokevirtual 149, 3), (.if_icmp .ge 30, 3), (.iload_n 2, 1), (.ifCond .eq 26, 3), (.aload_n 0, 1), (.getfield 15, 3), (.aload_n 0, 1), (.getfield 9, 3), (.iload_n 1, 1), (.iload_n 3, 1), (.invokevirtual 155, 3), (.invokevirtual 171, 3), (.istore_n 2, 1), (.iinc 3 1, 3), (.goto (-36), 3)]),
  (43, [(.iload_n 2, 1), (.ireturn, 1)])]
def cf_X6_writeName : Instr → Option rx_C := rx_lkc [(149, (2, some 4, 0, 0, f_X4_lengthOf)), (155, (3, some 4, 0, 0, f_X4_octetOf)), (171, (2, some 9, 0, 0, f_X9_write))] [] []
def f_X6_writeName : rx_F := rx_fn (rx_lkk kC_X6) (rx_lkf fL_X6) (rx_lkf fP_X6) (rx_lkg gS_X6) (rx_lkg fG_X6) (rx_lkw nW_X6) cf_X6_writeName (some .boolean) 0 0 4 kd_X6_writeName rx_fu
theorem m_X6_writeName (l : Launch) : rx_M l yX6_writeName (Cond.code yX6_writeName cX6_writeName 4 (some .boolean) :: rx_WT) { frames := 1, cells := 0, slots := 0, locals := 24 } f_X6_writeName := rx_met rx_fu (by decide +kernel) kC_X6_ok gS_X6_ok fG_X6_ok fL_X6_ok (fP_X6_ok _) nW_X6_ok rx_ar (by decide +kernel) (rx_lkc_of (rx_n1 (rx_caV 1 4 (m_X4_lengthOf l) w_X4_lengthOf_c w_X4_lengthOf_n (rx_in 1250 (by decide +kernel) rfl) w_X4_lengthOf_i w_X4_lengthOf_s w_X4_lengthOf_d (by decide) rfl rfl) (rx_n1 (rx_caV 2 4 (m_X4_octetOf l) w_X4_octetOf_c w_X4_octetOf_n (rx_in 1252 (by decide +kernel) rfl) w_X4_octetOf_i w_X4_octetOf_s w_X4_octetOf_d (by decide) rfl rfl) (rx_n1 (rx_caV 1 9 (m_X9_write l) w_X9_write_c w_X9_write_n (rx_in 1293 (by decide +kernel) rfl) w_X9_write_i w_X9_write_s w_X9_write_d (by decide) rfl rfl) rx_n0))) rx_n0 rx_n0)
theorem w_X6_writeName_c : Cond.code yX6_writeName cX6_writeName 4 (some .boolean) ∈ rx_WT := rx_in 1302 (by decide +kernel) rfl
theorem w_X6_writeName_n : Cond.initialized yX6_writeName.cls ∈ rx_WT := rx_in 206 (by decide +kernel) rfl
theorem w_X6_writeName_i : Cond.instanceMethod yX6_writeName ∈ rx_WT := rx_in 1301 (by decide +kernel) rfl
theorem w_X6_writeName_s : Cond.selects yX6_writeName.cls yX6_writeName yX6_writeName ∈ rx_WT := rx_in 61 (by decide +kernel) rfl
theorem w_X6_writeName_d : yX6_writeName.cls ≠ "java/lang/invoke/MethodHandle" ∧ yX6_writeName.cls ≠ "java/lang/invoke/VarHandle" ∧ (parseMethodDescriptor yX6_writeName.desc).map (fun d => d.parameters.length) = some 1 := by decide +kernel
def kd_X6_writeString : List (Nat × List (Instr × Nat)) := [(0, [(.iconst 1, 1), (.istore_n 3, 1), (.iconst 0, 1), (.istore 4, 2)]),
  (5, [(.iload 4, 2), (.lload_n 1, 1), (.invokestatic 152, 3), (.if_icmp .ge 33, 3), (.iload_n 3, 1), (.ifCond .eq 29, 3), (.aload_n 0, 1), (.getfield 15, 3), (.aload_n 0, 1), (.getfield 15, 3), (.lload_n 1, 1), (.l2i, 1), (.iload 4, 2), (.iadd, 1), (.invokevirtual 158, 3), (.invokevirtual 171, 3), (.istore_n 3, 1), (.iinc 4 1, 3), (.goto (-36), 3)]),
  (44, [(.iload_n 3, 1), (.ireturn, 1)])]
def cf_X6_writeString : Instr → Option rx_C := rx_lkc [(158, (2, some 9, 0, 0, f_X9_octetAt)), (171, (2, some 9, 0, 0, f_X9_write))] [(152, (1, none, 0, 0, f_X10_length))] []
def f_X6_writeString : rx_F := rx_fn (rx_lkk kC_X6) (rx_lkf fL_X6) (rx_lkf fP_X6) (rx_lkg gS_X6) (rx_lkg fG_X6) (rx_lkw nW_X6) cf_X6_writeString (some .boolean) 0 0 5 kd_X6_writeString rx_fu
theorem m_X6_writeString (l : Launch) : rx_M l yX6_writeString (Cond.code yX6_writeString cX6_writeString 5 (some .boolean) :: rx_WT) { frames := 1, cells := 0, slots := 0, locals := 21 } f_X6_writeString := rx_met rx_fu (by decide +kernel) kC_X6_ok gS_X6_ok fG_X6_ok fL_X6_ok (fP_X6_ok _) nW_X6_ok rx_ar (by decide +kernel) (rx_lkc_of (rx_n1 (rx_caV 1 9 (m_X9_octetAt l) w_X9_octetAt_c w_X9_octetAt_n (rx_in 1256 (by decide +kernel) rfl) w_X9_octetAt_i w_X9_octetAt_s w_X9_octetAt_d (by decide) rfl rfl) (rx_n1 (rx_caV 1 9 (m_X9_write l) w_X9_write_c w_X9_write_n (rx_in 1293 (by decide +kernel) rfl) w_X9_write_i w_X9_write_s w_X9_write_d (by decide) rfl rfl) rx_n0)) (rx_n1 (rx_caS 1 (m_X10_length l) w_X10_length_c w_X10_length_n (rx_in 1251 (by decide +kernel) rfl) w_X10_length_t w_X10_length_d (by decide)) rx_n0) rx_n0)
theorem w_X6_writeString_c : Cond.code yX6_writeString cX6_writeString 5 (some .boolean) ∈ rx_WT := rx_in 1306 (by decide +kernel) rfl
theorem w_X6_writeString_n : Cond.initialized yX6_writeString.cls ∈ rx_WT := rx_in 206 (by decide +kernel) rfl
theorem w_X6_writeString_i : Cond.instanceMethod yX6_writeString ∈ rx_WT := rx_in 1305 (by decide +kernel) rfl
theorem w_X6_writeString_s : Cond.selects yX6_writeString.cls yX6_writeString yX6_writeString ∈ rx_WT := rx_in 62 (by decide +kernel) rfl
theorem w_X6_writeString_d : yX6_writeString.cls ≠ "java/lang/invoke/MethodHandle" ∧ yX6_writeString.cls ≠ "java/lang/invoke/VarHandle" ∧ (parseMethodDescriptor yX6_writeString.desc).map (fun d => d.parameters.length) = some 1 := by decide +kernel
def kd_X6_writeNoText : List (Nat × List (Instr × Nat)) := [(0, [(.iconst 1, 1), (.istore_n 1, 1), (.iconst 0, 1), (.istore_n 2, 1)]),
  (4, [(.iload_n 2, 1), (.ldc 191, 2), (.invokevirtual 193, 3), (.if_icmp .ge 27, 3), (.iload_n 1, 1), (.ifCond .eq 23, 3), (.aload_n 0, 1), (.getfield 15, 3), (.ldc 191, 2), (.iload_n 2, 1), (.invokevirtual 197, 3), (.invokevirtual 171, 3), (.istore_n 1, 1), (.iinc 2 1, 3), (.goto (-30), 3)]),
  (37, [(.iload_n 1, 1), (.ireturn, 1)])]
def cf_X6_writeNoText : Instr → Option rx_C := rx_lkc [(193, (1, some 100, 0, 0, f_J0_length_8abf5)), (197, (2, some 100, 0, 0, f_J0_charAt_5068e)), (171, (2, some 9, 0, 0, f_X9_write))] [] []
def f_X6_writeNoText : rx_F := rx_fn (rx_lkk kC_X6) (rx_lkf fL_X6) (rx_lkf fP_X6) (rx_lkg gS_X6) (rx_lkg fG_X6) (rx_lkw nW_X6) cf_X6_writeNoText (some .boolean) 0 0 3 kd_X6_writeNoText rx_fu
theorem m_X6_writeNoText (l : Launch) : rx_M l yX6_writeNoText (Cond.code yX6_writeNoText cX6_writeNoText 3 (some .boolean) :: rx_WT) { frames := 5, cells := 0, slots := 0, locals := 106 } f_X6_writeNoText := rx_met rx_fu (by decide +kernel) kC_X6_ok gS_X6_ok fG_X6_ok fL_X6_ok (fP_X6_ok _) nW_X6_ok rx_ar (by decide +kernel) (rx_lkc_of (rx_n1 (rx_caT 0 (m_J0_length_8abf5 l) w_J0_length_8abf5_c w_J0_length_8abf5_n (rx_in 1312 (by decide +kernel) rfl) w_J0_length_8abf5_i w_J0_length_8abf5_s w_J0_length_8abf5_d (by decide) rfl) (rx_n1 (rx_caT 1 (m_J0_charAt_5068e l) w_J0_charAt_5068e_c w_J0_charAt_5068e_n (rx_in 1313 (by decide +kernel) rfl) w_J0_charAt_5068e_i w_J0_charAt_5068e_s w_J0_charAt_5068e_d (by decide) rfl) (rx_n1 (rx_caV 1 9 (m_X9_write l) w_X9_write_c w_X9_write_n (rx_in 1293 (by decide +kernel) rfl) w_X9_write_i w_X9_write_s w_X9_write_d (by decide) rfl rfl) rx_n0))) rx_n0 rx_n0)
theorem w_X6_writeNoText_c : Cond.code yX6_writeNoText cX6_writeNoText 3 (some .boolean) ∈ rx_WT := rx_in 1310 (by decide +kernel) rfl
theorem w_X6_writeNoText_n : Cond.initialized yX6_writeNoText.cls ∈ rx_WT := rx_in 206 (by decide +kernel) rfl
theorem w_X6_writeNoText_i : Cond.instanceMethod yX6_writeNoText ∈ rx_WT := rx_in 1309 (by decide +kernel) rfl
theorem w_X6_writeNoText_s : Cond.selects yX6_writeNoText.cls yX6_writeNoText yX6_writeNoText ∈ rx_WT := rx_in 63 (by decide +kernel) rfl
theorem w_X6_writeNoText_d : yX6_writeNoText.cls ≠ "java/lang/invoke/MethodHandle" ∧ yX6_writeNoText.cls ≠ "java/lang/invoke/VarHandle" ∧ (parseMethodDescriptor yX6_writeNoText.desc).map (fun d => d.parameters.length) = some 0 := by decide +kernel
def kd_X6_writeText : List (Nat × List (Instr × Nat)) := [(0, [(.lload_n 1, 1), (.invokestatic 76, 3), (.tableswitch 86 1 8 #[48, 55, 86, 73, 86, 80, 86, 73], 48)]),
  (52, [(.aload_n 0, 1), (.lload_n 1, 1), (.l2i, 1), (.invokevirtual 177, 3), (.ireturn, 1)]),
  (59, [(.aload_n 0, 1), (.lload_n 1, 1), (.l2i, 1), (.iconst 1, 1), (.if_icmp .ne 8, 3), (.bipush 30, 2), (.goto 5, 3)]),
  (71, [(.bipush 31, 2)]),
  (73, [(.invokevirtual 180, 3), (.ireturn, 1)]),
  (77, [(.aload_n 0, 1), (.lload_n 1, 1), (.l2i, 1), (.invokevirtual 180, 3), (.ireturn, 1)]),
  (84, [(.aload_n 0, 1), (.lload_n 1, 1), (.invokevirtual 174, 3), (.ireturn, 1)]),
  (90, [(.aload_n 0, 1), (.invokevirtual 183, 3), (.ireturn, 1)])]
def cf_X6_writeText : Instr → Option rx_C := rx_lkc [(177, (2, some 6, 0, 0, f_X6_writeNumber)), (180, (2, some 6, 0, 0, f_X6_writeName)), (174, (2, some 6, 0, 0, f_X6_writeString)), (183, (1, some 6, 0, 0, f_X6_writeNoText))] [(76, (1, none, 0, 0, f_X10_kind))] []
def f_X6_writeText : rx_F := rx_fn (rx_lkk kC_X6) (rx_lkf fL_X6) (rx_lkf fP_X6) (rx_lkg gS_X6) (rx_lkg fG_X6) (rx_lkw nW_X6) cf_X6_writeText (some .boolean) 0 0 3 kd_X6_writeText rx_fu
theorem m_X6_writeText (l : Launch) : rx_M l yX6_writeText (Cond.code yX6_writeText cX6_writeText 3 (some .boolean) :: rx_WT) { frames := 6, cells := 0, slots := 0, locals := 128 } f_X6_writeText := rx_met rx_fu (by decide +kernel) kC_X6_ok gS_X6_ok fG_X6_ok fL_X6_ok (fP_X6_ok _) nW_X6_ok rx_ar (by decide +kernel) (rx_lkc_of (rx_n1 (rx_caV 1 6 (m_X6_writeNumber l) w_X6_writeNumber_c w_X6_writeNumber_n (rx_in 1289 (by decide +kernel) rfl) w_X6_writeNumber_i w_X6_writeNumber_s w_X6_writeNumber_d (by decide) rfl rfl) (rx_n1 (rx_caV 1 6 (m_X6_writeName l) w_X6_writeName_c w_X6_writeName_n (rx_in 1299 (by decide +kernel) rfl) w_X6_writeName_i w_X6_writeName_s w_X6_writeName_d (by decide) rfl rfl) (rx_n1 (rx_caV 1 6 (m_X6_writeString l) w_X6_writeString_c w_X6_writeString_n (rx_in 1303 (by decide +kernel) rfl) w_X6_writeString_i w_X6_writeString_s w_X6_writeString_d (by decide) rfl rfl) (rx_n1 (rx_caV 0 6 (m_X6_writeNoText l) w_X6_writeNoText_c w_X6_writeNoText_n (rx_in 1307 (by decide +kernel) rfl) w_X6_writeNoText_i w_X6_writeNoText_s w_X6_writeNoText_d (by decide) rfl rfl) rx_n0)))) (rx_n1 (rx_caS 1 (m_X10_kind l) w_X10_kind_c w_X10_kind_n (rx_in 1245 (by decide +kernel) rfl) w_X10_kind_t w_X10_kind_d (by decide)) rx_n0) rx_n0)
theorem w_X6_writeText_c : Cond.code yX6_writeText cX6_writeText 3 (some .boolean) ∈ rx_WT := rx_in 1288 (by decide +kernel) rfl
theorem w_X6_writeText_n : Cond.initialized yX6_writeText.cls ∈ rx_WT := rx_in 206 (by decide +kernel) rfl
theorem w_X6_writeText_i : Cond.instanceMethod yX6_writeText ∈ rx_WT := rx_in 1287 (by decide +kernel) rfl
theorem w_X6_writeText_s : Cond.selects yX6_writeText.cls yX6_writeText yX6_writeText ∈ rx_WT := rx_in 59 (by decide +kernel) rfl
theorem w_X6_writeText_d : yX6_writeText.cls ≠ "java/lang/invoke/MethodHandle" ∧ yX6_writeText.cls ≠ "java/lang/invoke/VarHandle" ∧ (parseMethodDescriptor yX6_writeText.desc).map (fun d => d.parameters.length) = some 1 := by decide +kernel
def kd_X6_writeLine : List (Nat × List (Instr × Nat)) := [(0, [(.aload_n 0, 1), (.getfield 15, 3), (.getfield 165, 3), (.istore_n 1, 1), (.aload_n 0, 1), (.aload_n 0, 1), (.getfield 19, 3), (.iconst 0, 1), (.invokevirtual 62, 3), (.invokevirtual 168, 3), (.ifCond .eq 15, 3), (.aload_n 0, 1), (.getfield 15, 3), (.bipush 10, 2), (.invokevirtual 171, 3), (.ifCond .ne 13, 3)]),
  (35, [(.aload_n 0, 1), (.getfield 15, 3), (.iload_n 1, 1), (.putfield 165, 3), (.iconst 2, 1), (.ireturn, 1)]),
  (45, [(.aload_n 0, 1), (.getfield 19, 3), (.iconst 1, 1), (.invokevirtual 89, 3), (.iconst 0, 1), (.ireturn, 1)])]
def cf_X6_writeLine : Instr → Option rx_C := rx_lkc [(62, (2, some 5, 0, 0, f_X5_top)), (168, (2, some 6, 0, 0, f_X6_writeText)), (171, (2, some 9, 0, 0, f_X9_write)), (89, (2, some 5, 0, 0, f_X5_drop))] [] []
def f_X6_writeLine : rx_F := rx_fn (rx_lkk kC_X6) (rx_lkf fL_X6) (rx_lkf fP_X6) (rx_lkg gS_X6) (rx_lkg fG_X6) (rx_lkw nW_X6) cf_X6_writeLine (some .int) 0 0 2 kd_X6_writeLine rx_fu
theorem m_X6_writeLine (l : Launch) : rx_M l yX6_writeLine (Cond.code yX6_writeLine cX6_writeLine 2 (some .int) :: rx_WT) { frames := 7, cells := 0, slots := 0, locals := 150 } f_X6_writeLine := rx_met rx_fu (by decide +kernel) kC_X6_ok gS_X6_ok fG_X6_ok fL_X6_ok (fP_X6_ok _) nW_X6_ok rx_ar (by decide +kernel) (rx_lkc_of (rx_n1 (rx_caV 1 5 (m_X5_top l) w_X5_top_c w_X5_top_n (rx_in 1194 (by decide +kernel) rfl) w_X5_top_i w_X5_top_s w_X5_top_d (by decide) rfl rfl) (rx_n1 (rx_caV 1 6 (m_X6_writeText l) w_X6_writeText_c w_X6_writeText_n (rx_in 1285 (by decide +kernel) rfl) w_X6_writeText_i w_X6_writeText_s w_X6_writeText_d (by decide) rfl rfl) (rx_n1 (rx_caV 1 9 (m_X9_write l) w_X9_write_c w_X9_write_n (rx_in 1293 (by decide +kernel) rfl) w_X9_write_i w_X9_write_s w_X9_write_d (by decide) rfl rfl) (rx_n1 (rx_caV 1 5 (m_X5_drop l) w_X5_drop_c w_X5_drop_n (rx_in 1189 (by decide +kernel) rfl) w_X5_drop_i w_X5_drop_s w_X5_drop_d (by decide) rfl rfl) rx_n0)))) rx_n0 rx_n0)
theorem w_X6_writeLine_c : Cond.code yX6_writeLine cX6_writeLine 2 (some .int) ∈ rx_WT := rx_in 1284 (by decide +kernel) rfl
theorem w_X6_writeLine_n : Cond.initialized yX6_writeLine.cls ∈ rx_WT := rx_in 206 (by decide +kernel) rfl
theorem w_X6_writeLine_i : Cond.instanceMethod yX6_writeLine ∈ rx_WT := rx_in 1283 (by decide +kernel) rfl
theorem w_X6_writeLine_s : Cond.selects yX6_writeLine.cls yX6_writeLine yX6_writeLine ∈ rx_WT := rx_in 58 (by decide +kernel) rfl
theorem w_X6_writeLine_d : yX6_writeLine.cls ≠ "java/lang/invoke/MethodHandle" ∧ yX6_writeLine.cls ≠ "java/lang/invoke/VarHandle" ∧ (parseMethodDescriptor yX6_writeLine.desc).map (fun d => d.parameters.length) = some 0 := by decide +kernel
def kd_X6_print : List (Nat × List (Instr × Nat)) := [(0, [(.aload_n 0, 1), (.getfield 15, 3), (.getfield 165, 3), (.istore_n 1, 1), (.aload_n 0, 1), (.aload_n 0, 1), (.getfield 19, 3), (.iconst 0, 1), (.invokevirtual 62, 3), (.invokevirtual 174, 3), (.ifCond .ne 13, 3), (.aload_n 0, 1), (.getfield 15, 3), (.iload_n 1, 1), (.putfield 165, 3), (.iconst 2, 1), (.ireturn, 1)]),
  (33, [(.aload_n 0, 1), (.getfield 19, 3), (.iconst 1, 1), (.invokevirtual 89, 3), (.iconst 0, 1), (.ireturn, 1)])]
def cf_X6_print : Instr → Option rx_C := rx_lkc [(62, (2, some 5, 0, 0, f_X5_top)), (174, (2, some 6, 0, 0, f_X6_writeString)), (89, (2, some 5, 0, 0, f_X5_drop))] [] []
def f_X6_print : rx_F := rx_fn (rx_lkk kC_X6) (rx_lkf fL_X6) (rx_lkf fP_X6) (rx_lkg gS_X6) (rx_lkg fG_X6) (rx_lkw nW_X6) cf_X6_print (some .int) 0 0 2 kd_X6_print rx_fu
theorem m_X6_print (l : Launch) : rx_M l yX6_print (Cond.code yX6_print cX6_print 2 (some .int) :: rx_WT) { frames := 2, cells := 0, slots := 0, locals := 45 } f_X6_print := rx_met rx_fu (by decide +kernel) kC_X6_ok gS_X6_ok fG_X6_ok fL_X6_ok (fP_X6_ok _) nW_X6_ok rx_ar (by decide +kernel) (rx_lkc_of (rx_n1 (rx_caV 1 5 (m_X5_top l) w_X5_top_c w_X5_top_n (rx_in 1194 (by decide +kernel) rfl) w_X5_top_i w_X5_top_s w_X5_top_d (by decide) rfl rfl) (rx_n1 (rx_caV 1 6 (m_X6_writeString l) w_X6_writeString_c w_X6_writeString_n (rx_in 1303 (by decide +kernel) rfl) w_X6_writeString_i w_X6_writeString_s w_X6_writeString_d (by decide) rfl rfl) (rx_n1 (rx_caV 1 5 (m_X5_drop l) w_X5_drop_c w_X5_drop_n (rx_in 1189 (by decide +kernel) rfl) w_X5_drop_i w_X5_drop_s w_X5_drop_d (by decide) rfl rfl) rx_n0))) rx_n0 rx_n0)
theorem w_X6_print_c : Cond.code yX6_print cX6_print 2 (some .int) ∈ rx_WT := rx_in 1317 (by decide +kernel) rfl
theorem w_X6_print_n : Cond.initialized yX6_print.cls ∈ rx_WT := rx_in 206 (by decide +kernel) rfl
theorem w_X6_print_i : Cond.instanceMethod yX6_print ∈ rx_WT := rx_in 1316 (by decide +kernel) rfl
theorem w_X6_print_s : Cond.selects yX6_print.cls yX6_print yX6_print ∈ rx_WT := rx_in 64 (by decide +kernel) rfl
theorem w_X6_print_d : yX6_print.cls ≠ "java/lang/invoke/MethodHandle" ∧ yX6_print.cls ≠ "java/lang/invoke/VarHandle" ∧ (parseMethodDescriptor yX6_print.desc).map (fun d => d.parameters.length) = some 0 := by decide +kernel
def kd_X6_perform : List (Nat × List (Instr × Nat)) := [(0, [(.iload_n 1, 1), (.bipush 12, 2), (.if_icmp .gt 9, 3), (.aload_n 0, 1), (.iload_n 1, 1), (.invokevirtual 23, 3), (.ireturn, 1)]),
  (12, [(.iload_n 1, 1), (.bipush 19, 2), (.if_icmp .gt 25, 3), (.aload_n 0, 1), (.iload_n 1, 1), (.aload_n 0, 1), (.getfield 19, 3), (.iconst 1, 1), (.invokevirtual 27, 3), (.aload_n 0, 1), (.getfield 19, 3), (.iconst 0, 1), (.invokevirtual 27, 3), (.invokevirtual 32, 3), (.ireturn, 1)]),
  (40, [(.iload_n 1, 1), (.bipush 25, 2), (.if_icmp .gt 9, 3), (.aload_n 0, 1), (.iload_n 1, 1), (.invokevirtual 36, 3), (.ireturn, 1)]),
  (52, [(.iload_n 1, 1), (.tableswitch 332 26 72 #[203, 203, 203, 209, 214, 226, 238, 332, 332, 332, 332, 332, 332, 332, 332, 332, 332, 332, 332, 332, 332, 332, 332, 332, 332, 332, 332, 332, 332, 332, 332, 332, 332, 332, 332, 332, 332, 332, 332, 332, 332, 332, 248, 264, 278, 301, 327], 203)]),
  (256, [(.aload_n 0, 1), (.iload_n 1, 1), (.invokevirtual 39, 3), (.ireturn, 1)]),
  (262, [(.aload_n 0, 1), (.invokevirtual 42, 3), (.ireturn, 1)]),
  (267, [(.aload_n 0, 1), (.getfield 19, 3), (.iconst 0, 1), (.ldc2_w 48, 3), (.invokevirtual 50, 3), (.ireturn, 1)]),
  (279, [(.aload_n 0, 1), (.getfield 19, 3), (.iconst 0, 1), (.ldc2_w 54, 3), (.invokevirtual 50, 3), (.ireturn, 1)]),
  (291, [(.aload_n 0, 1), (.getfield 19, 3), (.iconst 0, 1), (.lconst 0, 1), (.invokevirtual 50, 3), (.ireturn, 1)]),
  (301, [(.aload_n 0, 1), (.getfield 19, 3), (.iconst 1, 1), (.aload_n 0, 1), (.ldc2_w 56, 3), (.invokevirtual 58, 3), (.invokevirtual 50, 3), (.ireturn, 1)]),
  (317, [(.aload_n 0, 1), (.getfield 19, 3), (.iconst 1, 1), (.aload_n 0, 1), (.lconst 0, 1), (.invokevirtual 58, 3), (.invokevirtual 50, 3), (.ireturn, 1)]),
  (331, [(.aload_n 0, 1), (.getfield 19, 3), (.iconst 1, 1), (.aload_n 0, 1), (.getfield 19, 3), (.iconst 0, 1), (.invokevirtual 62, 3), (.invokestatic 66, 3), (.invokestatic 70, 3), (.invokevirtual 50, 3), (.ireturn, 1)]),
  (354, [(.aload_n 0, 1), (.getfield 19, 3), (.iconst 1, 1), (.bipush 74, 2), (.aload_n 0, 1), (.getfield 19, 3), (.iconst 0, 1), (.invokevirtual 62, 3), (.invokestatic 76, 3), (.iadd, 1), (.invokestatic 80, 3), (.invokevirtual 50, 3), (.ireturn, 1)]),
  (380, [(.aload_n 0, 1), (.invokevirtual 83, 3), (.ireturn, 1)]),
  (385, [(.aload_n 0, 1), (.invokevirtual 86, 3), (.ireturn, 1)])]
def cf_X6_perform : Instr → Option rx_C := rx_lkc [(23, (2, some 6, 0, 0, f_X6_arrange)), (27, (2, some 5, 0, 0, f_X5_numberAt)), (32, (4, some 6, 0, 0, f_X6_calculate)), (36, (2, some 6, 0, 0, f_X6_compare)), (39, (2, some 6, 0, 0, f_X6_combine)), (42, (1, some 6, 0, 0, f_X6_invert)), (50, (3, some 5, 0, 0, f_X5_answer)), (58, (2, some 6, 0, 0, f_X6_converted)), (62, (2, some 5, 0, 0, f_X5_top)), (83, (1, some 6, 0, 0, f_X6_writeLine)), (86, (1, some 6, 0, 0, f_X6_print))] [(66, (1, none, 0, 0, f_X10_isExecutable)), (70, (1, none, 0, 0, f_X10_truth)), (76, (1, none, 0, 0, f_X10_kind)), (80, (1, none, 0, 0, f_X10_literalName))] []
def f_X6_perform : rx_F := rx_fn (rx_lkk kC_X6) (rx_lkf fL_X6) (rx_lkf fP_X6) (rx_lkg gS_X6) (rx_lkg fG_X6) (rx_lkw nW_X6) cf_X6_perform (some .int) 0 0 2 kd_X6_perform rx_fu
theorem m_X6_perform (l : Launch) : rx_M l yX6_perform (Cond.code yX6_perform cX6_perform 2 (some .int) :: rx_WT) { frames := 8, cells := 0, slots := 0, locals := 171 } f_X6_perform := rx_met rx_fu (by decide +kernel) kC_X6_ok gS_X6_ok fG_X6_ok fL_X6_ok (fP_X6_ok _) nW_X6_ok rx_ar (by decide +kernel) (rx_lkc_of (rx_n1 (rx_caV 1 6 (m_X6_arrange l) w_X6_arrange_c w_X6_arrange_n (rx_in 1185 (by decide +kernel) rfl) w_X6_arrange_i w_X6_arrange_s w_X6_arrange_d (by decide) rfl rfl) (rx_n1 (rx_caV 1 5 (m_X5_numberAt l) w_X5_numberAt_c w_X5_numberAt_n (rx_in 1196 (by decide +kernel) rfl) w_X5_numberAt_i w_X5_numberAt_s w_X5_numberAt_d (by decide) rfl rfl) (rx_n1 (rx_caV 3 6 (m_X6_calculate l) w_X6_calculate_c w_X6_calculate_n (rx_in 1233 (by decide +kernel) rfl) w_X6_calculate_i w_X6_calculate_s w_X6_calculate_d (by decide) rfl rfl) (rx_n1 (rx_caV 1 6 (m_X6_compare l) w_X6_compare_c w_X6_compare_n (rx_in 1237 (by decide +kernel) rfl) w_X6_compare_i w_X6_compare_s w_X6_compare_d (by decide) rfl rfl) (rx_n1 (rx_caV 1 6 (m_X6_combine l) w_X6_combine_c w_X6_combine_n (rx_in 1262 (by decide +kernel) rfl) w_X6_combine_i w_X6_combine_s w_X6_combine_d (by decide) rfl rfl) (rx_n1 (rx_caV 0 6 (m_X6_invert l) w_X6_invert_c w_X6_invert_n (rx_in 1266 (by decide +kernel) rfl) w_X6_invert_i w_X6_invert_s w_X6_invert_d (by decide) rfl rfl) (rx_n1 (rx_caV 2 5 (m_X5_answer l) w_X5_answer_c w_X5_answer_n (rx_in 1195 (by decide +kernel) rfl) w_X5_answer_i w_X5_answer_s w_X5_answer_d (by decide) rfl rfl) (rx_n1 (rx_caV 1 6 (m_X6_converted l) w_X6_converted_c w_X6_converted_n (rx_in 1272 (by decide +kernel) rfl) w_X6_converted_i w_X6_converted_s w_X6_converted_d (by decide) rfl rfl) (rx_n1 (rx_caV 1 5 (m_X5_top l) w_X5_top_c w_X5_top_n (rx_in 1194 (by decide +kernel) rfl) w_X5_top_i w_X5_top_s w_X5_top_d (by decide) rfl rfl) (rx_n1 (rx_caV 0 6 (m_X6_writeLine l) w_X6_writeLine_c w_X6_writeLine_n (rx_in 1281 (by decide +kernel) rfl) w_X6_writeLine_i w_X6_writeLine_s w_X6_writeLine_d (by decide) rfl rfl) (rx_n1 (rx_caV 0 6 (m_X6_print l) w_X6_print_c w_X6_print_n (rx_in 1314 (by decide +kernel) rfl) w_X6_print_i w_X6_print_s w_X6_print_d (by decide) rfl rfl) rx_n0))))))))))) (rx_n1 (rx_caS 1 (m_X10_isExecutable l) w_X10_isExecutable_c w_X10_isExecutable_n (rx_in 1277 (by decide +kernel) rfl) w_X10_isExecutable_t w_X10_isExecutable_d (by decide)) (rx_n1 (rx_caS 1 (m_X10_truth l) w_X10_truth_c w_X10_truth_n (rx_in 1258 (by decide +kernel) rfl) w_X10_truth_t w_X10_truth_d (by decide)) (rx_n1 (rx_caS 1 (m_X10_kind l) w_X10_kind_c w_X10_kind_n (rx_in 1245 (by decide +kernel) rfl) w_X10_kind_t w_X10_kind_d (by decide)) (rx_n1 (rx_caS 1 (m_X10_literalName l) w_X10_literalName_c w_X10_literalName_n (rx_in 1280 (by decide +kernel) rfl) w_X10_literalName_t w_X10_literalName_d (by decide)) rx_n0)))) rx_n0)
theorem w_X6_perform_c : Cond.code yX6_perform cX6_perform 2 (some .int) ∈ rx_WT := rx_in 1184 (by decide +kernel) rfl
theorem w_X6_perform_n : Cond.initialized yX6_perform.cls ∈ rx_WT := rx_in 206 (by decide +kernel) rfl
theorem w_X6_perform_i : Cond.instanceMethod yX6_perform ∈ rx_WT := rx_in 1182 (by decide +kernel) rfl
theorem w_X6_perform_s : Cond.selects yX6_perform.cls yX6_perform yX6_perform ∈ rx_WT := rx_in 1183 (by decide +kernel) rfl
theorem w_X6_perform_d : yX6_perform.cls ≠ "java/lang/invoke/MethodHandle" ∧ yX6_perform.cls ≠ "java/lang/invoke/VarHandle" ∧ (parseMethodDescriptor yX6_perform.desc).map (fun d => d.parameters.length) = some 1 := by decide +kernel
def kd_X3_fail : List (Nat × List (Instr × Nat)) := [(0, [(.aload_n 0, 1), (.iload_n 1, 1), (.putfield 66, 3), (.aload_n 0, 1), (.iload_n 2, 1), (.putfield 69, 3), (.aload_n 0, 1), (.iconst 2, 1), (.invokevirtual 236, 3), (.return_, 1)])]
def cf_X3_fail : Instr → Option rx_C := rx_lkc [(236, (2, some 3, 0, 0, f_X3_unwind))] [] []
def f_X3_fail : rx_F := rx_fn (rx_lkk kC_X3) (rx_lkf fL_X3) (rx_lkf fP_X3) (rx_lkg gS_X3) (rx_lkg fG_X3) (rx_lkw nW_X3) cf_X3_fail none 0 0 3 kd_X3_fail rx_fu
theorem m_X3_fail (l : Launch) : rx_M l yX3_fail (Cond.code yX3_fail cX3_fail 3 none :: rx_WT) { frames := 2, cells := 0, slots := 0, locals := 44 } f_X3_fail := rx_met rx_fu (by decide +kernel) kC_X3_ok gS_X3_ok fG_X3_ok fL_X3_ok (fP_X3_ok _) nW_X3_ok rx_ar (by decide +kernel) (rx_lkc_of (rx_n1 (rx_caV 1 3 (m_X3_unwind l) w_X3_unwind_c w_X3_unwind_n (rx_in 888 (by decide +kernel) rfl) w_X3_unwind_i w_X3_unwind_s w_X3_unwind_d (by decide) rfl rfl) rx_n0) rx_n0 rx_n0)
theorem w_X3_fail_c : Cond.code yX3_fail cX3_fail 3 none ∈ rx_WT := rx_in 1321 (by decide +kernel) rfl
theorem w_X3_fail_n : Cond.initialized yX3_fail.cls ∈ rx_WT := rx_in 204 (by decide +kernel) rfl
theorem w_X3_fail_i : Cond.instanceMethod yX3_fail ∈ rx_WT := rx_in 1320 (by decide +kernel) rfl
theorem w_X3_fail_s : Cond.selects yX3_fail.cls yX3_fail yX3_fail ∈ rx_WT := rx_in 65 (by decide +kernel) rfl
theorem w_X3_fail_d : yX3_fail.cls ≠ "java/lang/invoke/MethodHandle" ∧ yX3_fail.cls ≠ "java/lang/invoke/VarHandle" ∧ (parseMethodDescriptor yX3_fail.desc).map (fun d => d.parameters.length) = some 2 := by decide +kernel
def kd_X3_doOperator : List (Nat × List (Instr × Nat)) := [(0, [(.aload_n 0, 1), (.ldc2_w 80, 3), (.putfield 82, 3), (.aload_n 0, 1), (.iload_n 1, 1), (.invokevirtual 257, 3), (.istore_n 2, 1), (.iload_n 2, 1), (.ifCond .ne 95, 3), (.iload_n 1, 1), (.bipush 56, 2), (.if_icmp .lt 18, 3), (.iload_n 1, 1), (.bipush 66, 2), (.if_icmp .gt 12, 3), (.aload_n 0, 1), (.iload_n 1, 1), (.invokevirtual 260, 3), (.istore_n 2, 1), (.goto 74, 3)]),
  (38, [(.iload_n 1, 1), (.bipush 42, 2), (.if_icmp .le 9, 3), (.iload_n 1, 1), (.bipush 56, 2), (.if_icmp .lt 11, 3)]),
  (50, [(.aload_n 0, 1), (.iload_n 1, 1), (.invokevirtual 263, 3), (.ifCond .eq 15, 3)]),
  (58, [(.aload_n 0, 1), (.getfield 55, 3), (.iload_n 1, 1), (.invokevirtual 266, 3), (.istore_n 2, 1), (.goto 42, 3)]),
  (70, [(.iload_n 1, 1), (.bipush 32, 2), (.if_icmp .le 9, 3), (.iload_n 1, 1), (.bipush 56, 2), (.if_icmp .lt 9, 3)]),
  (82, [(.iload_n 1, 1), (.bipush 67, 2), (.if_icmp .ne 15, 3)]),
  (88, [(.aload_n 0, 1), (.getfield 48, 3), (.iload_n 1, 1), (.invokevirtual 269, 3), (.istore_n 2, 1), (.goto 12, 3)]),
  (100, [(.aload_n 0, 1), (.getfield 39, 3), (.iload_n 1, 1), (.invokevirtual 270, 3), (.istore_n 2, 1)]),
  (109, [(.iload_n 2, 1), (.ifCond .eq 9, 3), (.aload_n 0, 1), (.iload_n 2, 1), (.iload_n 1, 1), (.invokevirtual 152, 3)]),
  (119, [(.return_, 1)])]
def cf_X3_doOperator : Instr → Option rx_C := rx_lkc [(257, (2, some 3, 0, 0, f_X3_checkOperands)), (260, (2, some 3, 0, 0, f_X3_control)), (263, (2, some 3, 0, 0, f_X3_takesFromDictionary)), (266, (2, some 1, 0, 0, f_X1_perform)), (269, (2, some 8, 0, 0, f_X8_perform)), (270, (2, some 6, 0, 0, f_X6_perform)), (152, (3, some 3, 0, 0, f_X3_fail))] [] []
def f_X3_doOperator : rx_F := rx_fn (rx_lkk kC_X3) (rx_lkf fL_X3) (rx_lkf fP_X3) (rx_lkg gS_X3) (rx_lkg fG_X3) (rx_lkw nW_X3) cf_X3_doOperator none 0 0 3 kd_X3_doOperator rx_fu
theorem m_X3_doOperator (l : Launch) : rx_M l yX3_doOperator (Cond.code yX3_doOperator cX3_doOperator 3 none :: rx_WT) { frames := 9, cells := 0, slots := 0, locals := 192 } f_X3_doOperator := rx_met rx_fu (by decide +kernel) kC_X3_ok gS_X3_ok fG_X3_ok fL_X3_ok (fP_X3_ok _) nW_X3_ok rx_ar (by decide +kernel) (rx_lkc_of (rx_n1 (rx_caV 1 3 (m_X3_checkOperands l) w_X3_checkOperands_c w_X3_checkOperands_n (rx_in 779 (by decide +kernel) rfl) w_X3_checkOperands_i w_X3_checkOperands_s w_X3_checkOperands_d (by decide) rfl rfl) (rx_n1 (rx_caV 1 3 (m_X3_control l) w_X3_control_c w_X3_control_n (rx_in 801 (by decide +kernel) rfl) w_X3_control_i w_X3_control_s w_X3_control_d (by decide) rfl rfl) (rx_n1 (rx_caV 1 3 (m_X3_takesFromDictionary l) w_X3_takesFromDictionary_c w_X3_takesFromDictionary_n (rx_in 905 (by decide +kernel) rfl) w_X3_takesFromDictionary_i w_X3_takesFromDictionary_s w_X3_takesFromDictionary_d (by decide) rfl rfl) (rx_n1 (rx_caV 1 1 (m_X1_perform l) w_X1_perform_c w_X1_perform_n (rx_in 909 (by decide +kernel) rfl) w_X1_perform_i w_X1_perform_s w_X1_perform_d (by decide) rfl rfl) (rx_n1 (rx_caV 1 8 (m_X8_perform l) w_X8_perform_c w_X8_perform_n (rx_in 1058 (by decide +kernel) rfl) w_X8_perform_i w_X8_perform_s w_X8_perform_d (by decide) rfl rfl) (rx_n1 (rx_caV 1 6 (m_X6_perform l) w_X6_perform_c w_X6_perform_n (rx_in 1181 (by decide +kernel) rfl) w_X6_perform_i w_X6_perform_s w_X6_perform_d (by decide) rfl rfl) (rx_n1 (rx_caV 2 3 (m_X3_fail l) w_X3_fail_c w_X3_fail_n (rx_in 1318 (by decide +kernel) rfl) w_X3_fail_i w_X3_fail_s w_X3_fail_d (by decide) rfl rfl) rx_n0))))))) rx_n0 rx_n0)
theorem w_X3_doOperator_c : Cond.code yX3_doOperator cX3_doOperator 3 none ∈ rx_WT := rx_in 778 (by decide +kernel) rfl
theorem w_X3_doOperator_n : Cond.initialized yX3_doOperator.cls ∈ rx_WT := rx_in 204 (by decide +kernel) rfl
theorem w_X3_doOperator_i : Cond.instanceMethod yX3_doOperator ∈ rx_WT := rx_in 777 (by decide +kernel) rfl
theorem w_X3_doOperator_s : Cond.selects yX3_doOperator.cls yX3_doOperator yX3_doOperator ∈ rx_WT := rx_in 2 (by decide +kernel) rfl
theorem w_X3_doOperator_d : yX3_doOperator.cls ≠ "java/lang/invoke/MethodHandle" ∧ yX3_doOperator.cls ≠ "java/lang/invoke/VarHandle" ∧ (parseMethodDescriptor yX3_doOperator.desc).map (fun d => d.parameters.length) = some 1 := by decide +kernel
def kd_X3_countStep : List (Nat × List (Instr × Nat)) := [(0, [(.aload_n 0, 1), (.getfield 62, 3), (.aload_n 0, 1), (.getfield 72, 3), (.if_icmp .lt 10, 3), (.aload_n 0, 1), (.iconst 1, 1), (.putfield 75, 3), (.iconst 0, 1), (.ireturn, 1)]),
  (18, [(.aload_n 0, 1), (.dup, 1), (.getfield 62, 3), (.iconst 1, 1), (.iadd, 1), (.putfield 62, 3), (.iconst 1, 1), (.ireturn, 1)])]
def cf_X3_countStep : Instr → Option rx_C := rx_lkc [] [] []
def f_X3_countStep : rx_F := rx_fn (rx_lkk kC_X3) (rx_lkf fL_X3) (rx_lkf fP_X3) (rx_lkg gS_X3) (rx_lkg fG_X3) (rx_lkw nW_X3) cf_X3_countStep (some .boolean) 0 0 1 kd_X3_countStep rx_fu
theorem m_X3_countStep (l : Launch) : rx_M l yX3_countStep (Cond.code yX3_countStep cX3_countStep 1 (some .boolean) :: rx_WT) { frames := 0, cells := 0, slots := 0, locals := 0 } f_X3_countStep := rx_met rx_fu (by decide +kernel) kC_X3_ok gS_X3_ok fG_X3_ok fL_X3_ok (fP_X3_ok _) nW_X3_ok rx_ar (by decide +kernel) (rx_lkc_of rx_n0 rx_n0 rx_n0)
theorem w_X3_countStep_c : Cond.code yX3_countStep cX3_countStep 1 (some .boolean) ∈ rx_WT := rx_in 1332 (by decide +kernel) rfl
theorem w_X3_countStep_n : Cond.initialized yX3_countStep.cls ∈ rx_WT := rx_in 204 (by decide +kernel) rfl
theorem w_X3_countStep_i : Cond.instanceMethod yX3_countStep ∈ rx_WT := rx_in 1331 (by decide +kernel) rfl
theorem w_X3_countStep_s : Cond.selects yX3_countStep.cls yX3_countStep yX3_countStep ∈ rx_WT := rx_in 67 (by decide +kernel) rfl
theorem w_X3_countStep_d : yX3_countStep.cls ≠ "java/lang/invoke/MethodHandle" ∧ yX3_countStep.cls ≠ "java/lang/invoke/VarHandle" ∧ (parseMethodDescriptor yX3_countStep.desc).map (fun d => d.parameters.length) = some 0 := by decide +kernel
def kd_X3_followName : List (Nat × List (Instr × Nat)) := [(0, [(.aload_n 0, 1), (.getfield 15, 3), (.iload_n 1, 1), (.invokestatic 244, 3), (.invokevirtual 247, 3), (.lstore_n 2, 1), (.aload_n 0, 1), (.lload_n 2, 1), (.iload_n 1, 1), (.invokevirtual 250, 3), (.lload_n 2, 1), (.ldc2_w 80, 3), (.lcmp, 1), (.ifCond .ne 12, 3), (.aload_n 0, 1), (.iconst 5, 1), (.iload_n 1, 1), (.invokevirtual 152, 3), (.goto 15, 3)]),
  (35, [(.lload_n 2, 1), (.invokestatic 97, 3), (.ifCond .eq 8, 3), (.aload_n 0, 1), (.invokevirtual 138, 3), (.pop, 1)]),
  (47, [(.return_, 1)])]
def cf_X3_followName : Instr → Option rx_C := rx_lkc [(247, (2, some 0, 0, 0, f_X0_lookUp)), (250, (3, some 3, 0, 0, f_X3_handOn)), (152, (3, some 3, 0, 0, f_X3_fail)), (138, (1, some 3, 0, 0, f_X3_countStep))] [(244, (1, none, 0, 0, f_X10_literalName)), (97, (1, none, 0, 0, f_X10_isExecutableName))] []
def f_X3_followName : rx_F := rx_fn (rx_lkk kC_X3) (rx_lkf fL_X3) (rx_lkf fP_X3) (rx_lkg gS_X3) (rx_lkg fG_X3) (rx_lkw nW_X3) cf_X3_followName none 0 0 4 kd_X3_followName rx_fu
theorem m_X3_followName (l : Launch) : rx_M l yX3_followName (Cond.code yX3_followName cX3_followName 4 none :: rx_WT) { frames := 3, cells := 0, slots := 0, locals := 66 } f_X3_followName := rx_met rx_fu (by decide +kernel) kC_X3_ok gS_X3_ok fG_X3_ok fL_X3_ok (fP_X3_ok _) nW_X3_ok rx_ar (by decide +kernel) (rx_lkc_of (rx_n1 (rx_caV 1 0 (m_X0_lookUp l) w_X0_lookUp_c w_X0_lookUp_n (rx_in 1328 (by decide +kernel) rfl) w_X0_lookUp_i w_X0_lookUp_s w_X0_lookUp_d (by decide) rfl rfl) (rx_n1 (rx_caV 2 3 (m_X3_handOn l) w_X3_handOn_c w_X3_handOn_n (rx_in 813 (by decide +kernel) rfl) w_X3_handOn_i w_X3_handOn_s w_X3_handOn_d (by decide) rfl rfl) (rx_n1 (rx_caV 2 3 (m_X3_fail l) w_X3_fail_c w_X3_fail_n (rx_in 1318 (by decide +kernel) rfl) w_X3_fail_i w_X3_fail_s w_X3_fail_d (by decide) rfl rfl) (rx_n1 (rx_caV 0 3 (m_X3_countStep l) w_X3_countStep_c w_X3_countStep_n (rx_in 1329 (by decide +kernel) rfl) w_X3_countStep_i w_X3_countStep_s w_X3_countStep_d (by decide) rfl rfl) rx_n0)))) (rx_n1 (rx_caS 1 (m_X10_literalName l) w_X10_literalName_c w_X10_literalName_n (rx_in 1327 (by decide +kernel) rfl) w_X10_literalName_t w_X10_literalName_d (by decide)) (rx_n1 (rx_caS 1 (m_X10_isExecutableName l) w_X10_isExecutableName_c w_X10_isExecutableName_n (rx_in 1322 (by decide +kernel) rfl) w_X10_isExecutableName_t w_X10_isExecutableName_d (by decide)) rx_n0)) rx_n0)
theorem w_X3_followName_c : Cond.code yX3_followName cX3_followName 4 none ∈ rx_WT := rx_in 1326 (by decide +kernel) rfl
theorem w_X3_followName_n : Cond.initialized yX3_followName.cls ∈ rx_WT := rx_in 204 (by decide +kernel) rfl
theorem w_X3_followName_i : Cond.instanceMethod yX3_followName ∈ rx_WT := rx_in 1325 (by decide +kernel) rfl
theorem w_X3_followName_s : Cond.selects yX3_followName.cls yX3_followName yX3_followName ∈ rx_WT := rx_in 66 (by decide +kernel) rfl
theorem w_X3_followName_d : yX3_followName.cls ≠ "java/lang/invoke/MethodHandle" ∧ yX3_followName.cls ≠ "java/lang/invoke/VarHandle" ∧ (parseMethodDescriptor yX3_followName.desc).map (fun d => d.parameters.length) = some 1 := by decide +kernel
def kd_X3_putOrEnter : List (Nat × List (Instr × Nat)) := [(0, [(.aload_n 0, 1), (.getfield 177, 3), (.ifCond .ne 17, 3), (.aload_n 0, 1), (.getfield 82, 3), (.invokestatic 254, 3), (.ifCond .eq 7, 3), (.iconst 1, 1), (.goto 4, 3)]),
  (21, [(.iconst 0, 1)]),
  (22, [(.istore_n 1, 1), (.iload_n 1, 1), (.ifCond .eq 18, 3), (.aload_n 0, 1), (.getfield 30, 3), (.iconst 1, 1), (.aload_n 0, 1), (.getfield 82, 3), (.invokevirtual 204, 3), (.goto 14, 3)]),
  (42, [(.aload_n 0, 1), (.getfield 19, 3), (.aload_n 0, 1), (.getfield 82, 3), (.invokevirtual 186, 3)]),
  (53, [(.istore_n 2, 1), (.aload_n 0, 1), (.ldc2_w 80, 3), (.putfield 82, 3), (.iload_n 2, 1), (.ifCond .ne 21, 3), (.aload_n 0, 1), (.iload_n 1, 1), (.ifCond .eq 7, 3), (.iconst 2, 1), (.goto 5, 3)]),
  (74, [(.bipush 13, 2)]),
  (76, [(.aload_n 0, 1), (.getfield 181, 3), (.invokevirtual 152, 3)]),
  (83, [(.return_, 1)])]
def cf_X3_putOrEnter : Instr → Option rx_C := rx_lkc [(204, (3, some 2, 0, 0, f_X2_enter)), (186, (2, some 5, 0, 0, f_X5_push)), (152, (3, some 3, 0, 0, f_X3_fail))] [(254, (1, none, 0, 0, f_X10_isProcedure))] []
def f_X3_putOrEnter : rx_F := rx_fn (rx_lkk kC_X3) (rx_lkf fL_X3) (rx_lkf fP_X3) (rx_lkg gS_X3) (rx_lkg fG_X3) (rx_lkw nW_X3) cf_X3_putOrEnter none 0 0 3 kd_X3_putOrEnter rx_fu
theorem m_X3_putOrEnter (l : Launch) : rx_M l yX3_putOrEnter (Cond.code yX3_putOrEnter cX3_putOrEnter 3 none :: rx_WT) { frames := 3, cells := 0, slots := 0, locals := 66 } f_X3_putOrEnter := rx_met rx_fu (by decide +kernel) kC_X3_ok gS_X3_ok fG_X3_ok fL_X3_ok (fP_X3_ok _) nW_X3_ok rx_ar (by decide +kernel) (rx_lkc_of (rx_n1 (rx_caV 2 2 (m_X2_enter l) w_X2_enter_c w_X2_enter_n (rx_in 830 (by decide +kernel) rfl) w_X2_enter_i w_X2_enter_s w_X2_enter_d (by decide) rfl rfl) (rx_n1 (rx_caV 1 5 (m_X5_push l) w_X5_push_c w_X5_push_n (rx_in 897 (by decide +kernel) rfl) w_X5_push_i w_X5_push_s w_X5_push_d (by decide) rfl rfl) (rx_n1 (rx_caV 2 3 (m_X3_fail l) w_X3_fail_c w_X3_fail_n (rx_in 1318 (by decide +kernel) rfl) w_X3_fail_i w_X3_fail_s w_X3_fail_d (by decide) rfl rfl) rx_n0))) (rx_n1 (rx_caS 1 (m_X10_isProcedure l) w_X10_isProcedure_c w_X10_isProcedure_n (rx_in 795 (by decide +kernel) rfl) w_X10_isProcedure_t w_X10_isProcedure_d (by decide)) rx_n0) rx_n0)
theorem w_X3_putOrEnter_c : Cond.code yX3_putOrEnter cX3_putOrEnter 3 none ∈ rx_WT := rx_in 1336 (by decide +kernel) rfl
theorem w_X3_putOrEnter_n : Cond.initialized yX3_putOrEnter.cls ∈ rx_WT := rx_in 204 (by decide +kernel) rfl
theorem w_X3_putOrEnter_i : Cond.instanceMethod yX3_putOrEnter ∈ rx_WT := rx_in 1335 (by decide +kernel) rfl
theorem w_X3_putOrEnter_s : Cond.selects yX3_putOrEnter.cls yX3_putOrEnter yX3_putOrEnter ∈ rx_WT := rx_in 68 (by decide +kernel) rfl
theorem w_X3_putOrEnter_d : yX3_putOrEnter.cls ≠ "java/lang/invoke/MethodHandle" ∧ yX3_putOrEnter.cls ≠ "java/lang/invoke/VarHandle" ∧ (parseMethodDescriptor yX3_putOrEnter.desc).map (fun d => d.parameters.length) = some 0 := by decide +kernel
def kd_X7_byteAt : List (Nat × List (Instr × Nat)) := [(0, [(.iload_n 1, 1), (.ifCond .lt 31, 3), (.iload_n 1, 1), (.aload_n 0, 1), (.getfield 34, 3), (.if_icmp .ge 23, 3), (.iload_n 1, 1), (.sipush 300, 3), (.if_icmp .ge 16, 3), (.aload_n 0, 1), (.getfield 11, 3), (.iload_n 1, 1), (.baload, 1), (.sipush 255, 3), (.iand, 1), (.goto 4, 3)]),
  (32, [(.iconst (-1), 1)]),
  (33, [(.ireturn, 1)])]
def cf_X7_byteAt : Instr → Option rx_C := rx_lkc [] [] []
def f_X7_byteAt : rx_F := rx_fn (rx_lkk kC_X7) (rx_lkf fL_X7) (rx_lkf fP_X7) (rx_lkg gS_X7) (rx_lkg fG_X7) (rx_lkw nW_X7) cf_X7_byteAt (some .int) 0 0 2 kd_X7_byteAt rx_fu
theorem m_X7_byteAt (l : Launch) : rx_M l yX7_byteAt (Cond.code yX7_byteAt cX7_byteAt 2 (some .int) :: rx_WT) { frames := 0, cells := 0, slots := 0, locals := 0 } f_X7_byteAt := rx_met rx_fu (by decide +kernel) kC_X7_ok gS_X7_ok fG_X7_ok fL_X7_ok (fP_X7_ok _) nW_X7_ok rx_ar (by decide +kernel) (rx_lkc_of rx_n0 rx_n0 rx_n0)
theorem w_X7_byteAt_c : Cond.code yX7_byteAt cX7_byteAt 2 (some .int) ∈ rx_WT := rx_in 1352 (by decide +kernel) rfl
theorem w_X7_byteAt_n : Cond.initialized yX7_byteAt.cls ∈ rx_WT := rx_in 203 (by decide +kernel) rfl
theorem w_X7_byteAt_i : Cond.instanceMethod yX7_byteAt ∈ rx_WT := rx_in 1351 (by decide +kernel) rfl
theorem w_X7_byteAt_s : Cond.selects yX7_byteAt.cls yX7_byteAt yX7_byteAt ∈ rx_WT := rx_in 70 (by decide +kernel) rfl
theorem w_X7_byteAt_d : yX7_byteAt.cls ≠ "java/lang/invoke/MethodHandle" ∧ yX7_byteAt.cls ≠ "java/lang/invoke/VarHandle" ∧ (parseMethodDescriptor yX7_byteAt.desc).map (fun d => d.parameters.length) = some 1 := by decide +kernel
def kd_X7_findToken : List (Nat × List (Instr × Nat)) := [(0, [(.iconst 0, 1), (.istore_n 1, 1)]),
  (2, [(.aload_n 0, 1), (.getfield 38, 3), (.aload_n 0, 1), (.getfield 34, 3), (.if_icmp .ge 59, 3), (.aload_n 0, 1), (.aload_n 0, 1), (.getfield 38, 3), (.invokevirtual 45, 3), (.istore_n 2, 1), (.iload_n 2, 1), (.bipush 37, 2), (.if_icmp .ne 8, 3), (.iconst 1, 1), (.istore_n 1, 1), (.goto 26, 3)]),
  (33, [(.iload_n 2, 1), (.bipush 10, 2), (.if_icmp .ne 8, 3), (.iconst 0, 1), (.istore_n 1, 1), (.goto 15, 3)]),
  (44, [(.iload_n 1, 1), (.ifCond .ne 11, 3), (.iload_n 2, 1), (.bipush 32, 2), (.if_icmp .le 5, 3), (.iconst 1, 1), (.ireturn, 1)]),
  (56, [(.aload_n 0, 1), (.dup, 1), (.getfield 38, 3), (.iconst 1, 1), (.iadd, 1), (.putfield 38, 3), (.goto (-64), 3)]),
  (69, [(.iconst 0, 1), (.ireturn, 1)])]
def cf_X7_findToken : Instr → Option rx_C := rx_lkc [(45, (2, some 7, 0, 0, f_X7_byteAt))] [] []
def f_X7_findToken : rx_F := rx_fn (rx_lkk kC_X7) (rx_lkf fL_X7) (rx_lkf fP_X7) (rx_lkg gS_X7) (rx_lkg fG_X7) (rx_lkw nW_X7) cf_X7_findToken (some .boolean) 0 0 3 kd_X7_findToken rx_fu
theorem m_X7_findToken (l : Launch) : rx_M l yX7_findToken (Cond.code yX7_findToken cX7_findToken 3 (some .boolean) :: rx_WT) { frames := 1, cells := 0, slots := 0, locals := 21 } f_X7_findToken := rx_met rx_fu (by decide +kernel) kC_X7_ok gS_X7_ok fG_X7_ok fL_X7_ok (fP_X7_ok _) nW_X7_ok rx_ar (by decide +kernel) (rx_lkc_of (rx_n1 (rx_caV 1 7 (m_X7_byteAt l) w_X7_byteAt_c w_X7_byteAt_n (rx_in 1349 (by decide +kernel) rfl) w_X7_byteAt_i w_X7_byteAt_s w_X7_byteAt_d (by decide) rfl rfl) rx_n0) rx_n0 rx_n0)
theorem w_X7_findToken_c : Cond.code yX7_findToken cX7_findToken 3 (some .boolean) ∈ rx_WT := rx_in 1348 (by decide +kernel) rfl
theorem w_X7_findToken_n : Cond.initialized yX7_findToken.cls ∈ rx_WT := rx_in 203 (by decide +kernel) rfl
theorem w_X7_findToken_i : Cond.instanceMethod yX7_findToken ∈ rx_WT := rx_in 1346 (by decide +kernel) rfl
theorem w_X7_findToken_s : Cond.selects yX7_findToken.cls yX7_findToken yX7_findToken ∈ rx_WT := rx_in 1347 (by decide +kernel) rfl
theorem w_X7_findToken_d : yX7_findToken.cls ≠ "java/lang/invoke/MethodHandle" ∧ yX7_findToken.cls ≠ "java/lang/invoke/VarHandle" ∧ (parseMethodDescriptor yX7_findToken.desc).map (fun d => d.parameters.length) = some 0 := by decide +kernel
