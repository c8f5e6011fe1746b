def kd_X12_startLoop : List (Nat × List (Instr × Nat)) := [(0, [(.aload_n 0, 1), (.getfield 266, 3), (.iconst 1, 1), (.if_icmp .ge 5, 3), (.iconst 3, 1), (.ireturn, 1)]),
  (10, [(.aload_n 0, 1), (.iconst 0, 1), (.invokevirtual 617, 3), (.ifCond .ne 5, 3), (.iconst 4, 1), (.ireturn, 1)]),
  (20, [(.aload_n 0, 1), (.iconst 2, 1), (.invokevirtual 427, 3), (.ifCond .ne 5, 3), (.iconst 2, 1), (.ireturn, 1)]),
  (30, [(.aload_n 0, 1), (.iconst 5, 1), (.iconst 1, 1), (.invokevirtual 620, 3), (.iconst 0, 1), (.ireturn, 1)])]
def cf_X12_startLoop : Instr → Option rx_C := rx_lkc [(617, (2, some 11, 0, 0, f_X12_isProcedure)), (427, (2, some 11, 0, 0, f_X12_hasDepth)), (620, (3, some 11, 0, 0, f_X12_begin))] [] []
def f_X12_startLoop : rx_F := rx_fn (rx_lkk kC_X12) (rx_lkf fL_X12) (rx_lkf fP_X12) (rx_lkg gS_X12) (rx_lkg fG_X12) (rx_lkw nW_X12) cf_X12_startLoop (some .int) 0 0 1 kd_X12_startLoop rx_fu
theorem m_X12_startLoop (l : Launch) : rx_M l yX12_startLoop (Cond.code yX12_startLoop cX12_startLoop 1 (some .int) :: rx_WT) { frames := 3, cells := 0, slots := 0, locals := 63 } f_X12_startLoop := rx_met rx_fu (by decide +kernel) kC_X12_ok gS_X12_ok fG_X12_ok fL_X12_ok (fP_X12_ok _) nW_X12_ok rx_ar (by decide +kernel) (rx_lkc_of (rx_n1 (rx_caV 1 11 (m_X12_isProcedure l) w_X12_isProcedure_c w_X12_isProcedure_n (rx_in 2167 (by decide +kernel) rfl) w_X12_isProcedure_i w_X12_isProcedure_s w_X12_isProcedure_d (by decide) rfl rfl) (rx_n1 (rx_caV 1 11 (m_X12_hasDepth l) w_X12_hasDepth_c w_X12_hasDepth_n (rx_in 2171 (by decide +kernel) rfl) w_X12_hasDepth_i w_X12_hasDepth_s w_X12_hasDepth_d (by decide) rfl rfl) (rx_n1 (rx_caV 2 11 (m_X12_begin l) w_X12_begin_c w_X12_begin_n (rx_in 2187 (by decide +kernel) rfl) w_X12_begin_i w_X12_begin_s w_X12_begin_d (by decide) rfl rfl) rx_n0))) rx_n0 rx_n0)
theorem w_X12_startLoop_c : Cond.code yX12_startLoop cX12_startLoop 1 (some .int) ∈ rx_WT := rx_in 2198 (by decide +kernel) rfl
theorem w_X12_startLoop_n : Cond.initialized yX12_startLoop.cls ∈ rx_WT := rx_in 209 (by decide +kernel) rfl
theorem w_X12_startLoop_i : Cond.instanceMethod yX12_startLoop ∈ rx_WT := rx_in 2197 (by decide +kernel) rfl
theorem w_X12_startLoop_s : Cond.selects yX12_startLoop.cls yX12_startLoop yX12_startLoop ∈ rx_WT := rx_in 174 (by decide +kernel) rfl
theorem w_X12_startLoop_d : yX12_startLoop.cls ≠ "java/lang/invoke/MethodHandle" ∧ yX12_startLoop.cls ≠ "java/lang/invoke/VarHandle" ∧ (parseMethodDescriptor yX12_startLoop.desc).map (fun d => d.parameters.length) = some 0 := by decide +kernel
def kd_X12_startForall : List (Nat × List (Instr × Nat)) := [(0, [(.aload_n 0, 1), (.getfield 266, 3), (.iconst 2, 1), (.if_icmp .ge 5, 3), (.iconst 3, 1), (.ireturn, 1)]),
  (10, [(.aload_n 0, 1), (.iconst 0, 1), (.invokevirtual 617, 3), (.ifCond .eq 21, 3), (.aload_n 0, 1), (.iconst 1, 1), (.invokevirtual 553, 3), (.ifCond .ne 15, 3), (.aload_n 0, 1), (.iconst 1, 1), (.invokevirtual 316, 3), (.bipush 7, 2), (.if_icmp .eq 5, 3)]),
  (36, [(.iconst 4, 1), (.ireturn, 1)]),
  (38, [(.aload_n 0, 1), (.iconst 2, 1), (.invokevirtual 427, 3), (.ifCond .ne 5, 3), (.iconst 2, 1), (.ireturn, 1)]),
  (48, [(.aload_n 0, 1), (.iconst 1, 1), (.invokevirtual 316, 3), (.bipush 7, 2), (.if_icmp .ne 7, 3), (.iconst 1, 1), (.goto 4, 3)]),
  (62, [(.iconst 0, 1)]),
  (63, [(.istore_n 1, 1), (.bipush 12, 2), (.aload_n 0, 1), (.getfield 290, 3), (.imul, 1), (.istore_n 2, 1), (.aload_n 0, 1), (.iconst 1, 1), (.invokevirtual 510, 3), (.istore_n 3, 1), (.aload_n 0, 1), (.getfield 46, 3), (.iload_n 2, 1), (.bipush 6, 2), (.iadd, 1), (.aload_n 0, 1), (.iconst 1, 1), (.invokevirtual 316, 3), (.iastore, 1), (.aload_n 0, 1), (.getfield 46, 3), (.iload_n 2, 1), (.bipush 7, 2), (.iadd, 1), (.iload_n 3, 1), (.iastore, 1), (.aload_n 0, 1), (.getfield 46, 3), (.iload_n 2, 1), (.bipush 8, 2), (.iadd, 1), (.iload_n 1, 1), (.ifCond .eq 12, 3), (.aload_n 0, 1), (.getfield 22, 3), (.iload_n 3, 1), (.iaload, 1), (.goto 8, 3)]),
  (123, [(.aload_n 0, 1), (.iconst 1, 1), (.invokevirtual 513, 3)]),
  (128, [(.iastore, 1), (.aload_n 0, 1), (.getfield 49, 3), (.aload_n 0, 1), (.getfield 290, 3), (.lconst 0, 1), (.lastore, 1), (.iconst 0, 1), (.istore 4, 2)]),
  (142, [(.iload_n 1, 1), (.ifCond .eq 88, 3), (.iload 4, 2), (.aload_n 0, 1), (.getfield 22, 3), (.iload_n 3, 1), (.iaload, 1), (.if_icmp .ge 77, 3), (.aload_n 0, 1), (.getfield 53, 3), (.sipush 160, 3), (.aload_n 0, 1), (.getfield 290, 3), (.imul, 1), (.iconst 2, 1), (.iload 4, 2), (.imul, 1), (.iadd, 1), (.aload_n 0, 1), (.getfield 25, 3), (.iconst 2, 1), (.bipush 80, 2), (.iload_n 3, 1), (.imul, 1), (.iload 4, 2), (.iadd, 1), (.imul, 1), (.iaload, 1), (.iastore, 1), (.aload_n 0, 1), (.getfield 53, 3), (.sipush 160, 3), (.aload_n 0, 1), (.getfield 290, 3), (.imul, 1), (.iconst 2, 1), (.iload 4, 2), (.imul, 1), (.iadd, 1), (.iconst 1, 1), (.iadd, 1), (.aload_n 0, 1), (.getfield 25, 3), (.iconst 2, 1), (.bipush 80, 2), (.iload_n 3, 1), (.imul, 1), (.iload 4, 2), (.iadd, 1), (.imul, 1), (.iconst 1, 1), (.iadd, 1), (.iaload, 1), (.iastore, 1), (.iinc 4 1, 3), (.goto (-86), 3)]),
  (231, [(.aload_n 0, 1), (.iload_n 1, 1), (.ifCond .eq 8, 3), (.bipush 7, 2), (.goto 5, 3)]),
  (241, [(.bipush 6, 2)]),
  (243, [(.iconst 2, 1), (.invokevirtual 620, 3), (.iconst 0, 1), (.ireturn, 1)])]
def cf_X12_startForall : Instr → Option rx_C := rx_lkc [(617, (2, some 11, 0, 0, f_X12_isProcedure)), (553, (2, some 11, 0, 0, f_X12_isRow)), (316, (2, some 11, 0, 0, f_X12_kindAt)), (427, (2, some 11, 0, 0, f_X12_hasDepth)), (510, (2, some 11, 0, 0, f_X12_valueAt)), (513, (2, some 11, 0, 0, f_X12_lengthAt)), (620, (3, some 11, 0, 0, f_X12_begin))] [] []
def f_X12_startForall : rx_F := rx_fn (rx_lkk kC_X12) (rx_lkf fL_X12) (rx_lkf fP_X12) (rx_lkg gS_X12) (rx_lkg fG_X12) (rx_lkw nW_X12) cf_X12_startForall (some .int) 0 0 5 kd_X12_startForall rx_fu
theorem m_X12_startForall (l : Launch) : rx_M l yX12_startForall (Cond.code yX12_startForall cX12_startForall 5 (some .int) :: rx_WT) { frames := 3, cells := 0, slots := 0, locals := 63 } f_X12_startForall := rx_met rx_fu (by decide +kernel) kC_X12_ok gS_X12_ok fG_X12_ok fL_X12_ok (fP_X12_ok _) nW_X12_ok rx_ar (by decide +kernel) (rx_lkc_of (rx_n1 (rx_caV 1 11 (m_X12_isProcedure l) w_X12_isProcedure_c w_X12_isProcedure_n (rx_in 2167 (by decide +kernel) rfl) w_X12_isProcedure_i w_X12_isProcedure_s w_X12_isProcedure_d (by decide) rfl rfl) (rx_n1 (rx_caV 1 11 (m_X12_isRow l) w_X12_isRow_c w_X12_isRow_n (rx_in 2075 (by decide +kernel) rfl) w_X12_isRow_i w_X12_isRow_s w_X12_isRow_d (by decide) rfl rfl) (rx_n1 (rx_caV 1 11 (m_X12_kindAt l) w_X12_kindAt_c w_X12_kindAt_n (rx_in 1984 (by decide +kernel) rfl) w_X12_kindAt_i w_X12_kindAt_s w_X12_kindAt_d (by decide) rfl rfl) (rx_n1 (rx_caV 1 11 (m_X12_hasDepth l) w_X12_hasDepth_c w_X12_hasDepth_n (rx_in 2171 (by decide +kernel) rfl) w_X12_hasDepth_i w_X12_hasDepth_s w_X12_hasDepth_d (by decide) rfl rfl) (rx_n1 (rx_caV 1 11 (m_X12_valueAt l) w_X12_valueAt_c w_X12_valueAt_n (rx_in 1988 (by decide +kernel) rfl) w_X12_valueAt_i w_X12_valueAt_s w_X12_valueAt_d (by decide) rfl rfl) (rx_n1 (rx_caV 1 11 (m_X12_lengthAt l) w_X12_lengthAt_c w_X12_lengthAt_n (rx_in 2032 (by decide +kernel) rfl) w_X12_lengthAt_i w_X12_lengthAt_s w_X12_lengthAt_d (by decide) rfl rfl) (rx_n1 (rx_caV 2 11 (m_X12_begin l) w_X12_begin_c w_X12_begin_n (rx_in 2187 (by decide +kernel) rfl) w_X12_begin_i w_X12_begin_s w_X12_begin_d (by decide) rfl rfl) rx_n0))))))) rx_n0 rx_n0)
theorem w_X12_startForall_c : Cond.code yX12_startForall cX12_startForall 5 (some .int) ∈ rx_WT := rx_in 2202 (by decide +kernel) rfl
theorem w_X12_startForall_n : Cond.initialized yX12_startForall.cls ∈ rx_WT := rx_in 209 (by decide +kernel) rfl
theorem w_X12_startForall_i : Cond.instanceMethod yX12_startForall ∈ rx_WT := rx_in 2201 (by decide +kernel) rfl
theorem w_X12_startForall_s : Cond.selects yX12_startForall.cls yX12_startForall yX12_startForall ∈ rx_WT := rx_in 175 (by decide +kernel) rfl
theorem w_X12_startForall_d : yX12_startForall.cls ≠ "java/lang/invoke/MethodHandle" ∧ yX12_startForall.cls ≠ "java/lang/invoke/VarHandle" ∧ (parseMethodDescriptor yX12_startForall.desc).map (fun d => d.parameters.length) = some 0 := by decide +kernel
def kd_X12_exit : List (Nat × List (Instr × Nat)) := [(0, [(.aload_n 0, 1), (.getfield 290, 3), (.iconst 1, 1), (.isub, 1), (.istore_n 1, 1)]),
  (7, [(.iload_n 1, 1), (.ifCond .lt 35, 3), (.aload_n 0, 1), (.getfield 46, 3), (.bipush 12, 2), (.iload_n 1, 1), (.imul, 1), (.iaload, 1), (.iconst 3, 1), (.if_icmp .ge 22, 3), (.aload_n 0, 1), (.getfield 46, 3), (.bipush 12, 2), (.iload_n 1, 1), (.imul, 1), (.iaload, 1), (.iconst 2, 1), (.if_icmp .eq 9, 3), (.iinc 1 (-1), 3), (.goto (-33), 3)]),
  (43, [(.iload_n 1, 1), (.ifCond .lt 16, 3), (.aload_n 0, 1), (.getfield 46, 3), (.bipush 12, 2), (.iload_n 1, 1), (.imul, 1), (.iaload, 1), (.iconst 2, 1), (.if_icmp .ne 6, 3)]),
  (60, [(.bipush 12, 2), (.ireturn, 1)]),
  (63, [(.aload_n 0, 1), (.iload_n 1, 1), (.putfield 290, 3), (.iconst 0, 1), (.ireturn, 1)])]
def cf_X12_exit : Instr → Option rx_C := rx_lkc [] [] []
def f_X12_exit : rx_F := rx_fn (rx_lkk kC_X12) (rx_lkf fL_X12) (rx_lkf fP_X12) (rx_lkg gS_X12) (rx_lkg fG_X12) (rx_lkw nW_X12) cf_X12_exit (some .int) 0 0 2 kd_X12_exit rx_fu
theorem m_X12_exit (l : Launch) : rx_M l yX12_exit (Cond.code yX12_exit cX12_exit 2 (some .int) :: rx_WT) { frames := 0, cells := 0, slots := 0, locals := 0 } f_X12_exit := rx_met rx_fu (by decide +kernel) kC_X12_ok gS_X12_ok fG_X12_ok fL_X12_ok (fP_X12_ok _) nW_X12_ok rx_ar (by decide +kernel) (rx_lkc_of rx_n0 rx_n0 rx_n0)
theorem w_X12_exit_c : Cond.code yX12_exit cX12_exit 2 (some .int) ∈ rx_WT := rx_in 2206 (by decide +kernel) rfl
theorem w_X12_exit_n : Cond.initialized yX12_exit.cls ∈ rx_WT := rx_in 209 (by decide +kernel) rfl
theorem w_X12_exit_i : Cond.instanceMethod yX12_exit ∈ rx_WT := rx_in 2205 (by decide +kernel) rfl
theorem w_X12_exit_s : Cond.selects yX12_exit.cls yX12_exit yX12_exit ∈ rx_WT := rx_in 176 (by decide +kernel) rfl
theorem w_X12_exit_d : yX12_exit.cls ≠ "java/lang/invoke/MethodHandle" ∧ yX12_exit.cls ≠ "java/lang/invoke/VarHandle" ∧ (parseMethodDescriptor yX12_exit.desc).map (fun d => d.parameters.length) = some 0 := by decide +kernel
def kd_X12_stopped : List (Nat × List (Instr × Nat)) := [(0, [(.aload_n 0, 1), (.getfield 266, 3), (.iconst 1, 1), (.if_icmp .ge 5, 3), (.iconst 3, 1), (.ireturn, 1)]),
  (10, [(.aload_n 0, 1), (.iconst 2, 1), (.invokevirtual 427, 3), (.ifCond .ne 5, 3), (.iconst 2, 1), (.ireturn, 1)]),
  (20, [(.aload_n 0, 1), (.getfield 13, 3), (.aload_n 0, 1), (.iconst 0, 1), (.invokevirtual 312, 3), (.aload_n 0, 1), (.getfield 62, 3), (.iconst 0, 1), (.invokestatic 374, 3), (.aload_n 0, 1), (.dup, 1), (.getfield 266, 3), (.iconst 1, 1), (.isub, 1), (.putfield 266, 3), (.aload_n 0, 1), (.getfield 46, 3), (.bipush 12, 2), (.aload_n 0, 1), (.getfield 290, 3), (.imul, 1), (.iconst 2, 1), (.iastore, 1), (.aload_n 0, 1), (.dup, 1), (.getfield 290, 3), (.iconst 1, 1), (.iadd, 1), (.putfield 290, 3), (.aload_n 0, 1), (.iconst 1, 1), (.putfield 441, 3), (.iconst 0, 1), (.ireturn, 1)])]
def cf_X12_stopped : Instr → Option rx_C := rx_lkc [(427, (2, some 11, 0, 0, f_X12_hasDepth)), (312, (2, some 11, 0, 0, f_X12_top))] [(374, (4, none, 0, 0, f_X12_copy))] []
def f_X12_stopped : rx_F := rx_fn (rx_lkk kC_X12) (rx_lkf fL_X12) (rx_lkf fP_X12) (rx_lkg gS_X12) (rx_lkg fG_X12) (rx_lkw nW_X12) cf_X12_stopped (some .int) 0 0 1 kd_X12_stopped rx_fu
theorem m_X12_stopped (l : Launch) : rx_M l yX12_stopped (Cond.code yX12_stopped cX12_stopped 1 (some .int) :: rx_WT) { frames := 1, cells := 0, slots := 0, locals := 24 } f_X12_stopped := rx_met rx_fu (by decide +kernel) kC_X12_ok gS_X12_ok fG_X12_ok fL_X12_ok (fP_X12_ok _) nW_X12_ok rx_ar (by decide +kernel) (rx_lkc_of (rx_n1 (rx_caV 1 11 (m_X12_hasDepth l) w_X12_hasDepth_c w_X12_hasDepth_n (rx_in 2171 (by decide +kernel) rfl) w_X12_hasDepth_i w_X12_hasDepth_s w_X12_hasDepth_d (by decide) rfl rfl) (rx_n1 (rx_caV 1 11 (m_X12_top l) w_X12_top_c w_X12_top_n (rx_in 1972 (by decide +kernel) rfl) w_X12_top_i w_X12_top_s w_X12_top_d (by decide) rfl rfl) rx_n0)) (rx_n1 (rx_caS 4 (m_X12_copy l) w_X12_copy_c w_X12_copy_n (rx_in 1891 (by decide +kernel) rfl) w_X12_copy_t w_X12_copy_d (by decide)) rx_n0) rx_n0)
theorem w_X12_stopped_c : Cond.code yX12_stopped cX12_stopped 1 (some .int) ∈ rx_WT := rx_in 2210 (by decide +kernel) rfl
theorem w_X12_stopped_n : Cond.initialized yX12_stopped.cls ∈ rx_WT := rx_in 209 (by decide +kernel) rfl
theorem w_X12_stopped_i : Cond.instanceMethod yX12_stopped ∈ rx_WT := rx_in 2209 (by decide +kernel) rfl
theorem w_X12_stopped_s : Cond.selects yX12_stopped.cls yX12_stopped yX12_stopped ∈ rx_WT := rx_in 177 (by decide +kernel) rfl
theorem w_X12_stopped_d : yX12_stopped.cls ≠ "java/lang/invoke/MethodHandle" ∧ yX12_stopped.cls ≠ "java/lang/invoke/VarHandle" ∧ (parseMethodDescriptor yX12_stopped.desc).map (fun d => d.parameters.length) = some 0 := by decide +kernel
def kd_X12_control : List (Nat × List (Instr × Nat)) := [(0, [(.iload_n 1, 1), (.bipush 59, 2), (.if_icmp .ge 32, 3), (.iload_n 1, 1), (.bipush 56, 2), (.if_icmp .ne 10, 3), (.aload_n 0, 1), (.invokevirtual 593, 3), (.goto 18, 3)]),
  (19, [(.aload_n 0, 1), (.iload_n 1, 1), (.bipush 58, 2), (.if_icmp .ne 7, 3), (.iconst 1, 1), (.goto 4, 3)]),
  (30, [(.iconst 0, 1)]),
  (31, [(.invokevirtual 596, 3)]),
  (34, [(.ireturn, 1)]),
  (35, [(.iload_n 1, 1), (.bipush 63, 2), (.if_icmp .ge 47, 3), (.iload_n 1, 1), (.bipush 59, 2), (.if_icmp .ne 10, 3), (.aload_n 0, 1), (.invokevirtual 599, 3), (.goto 33, 3)]),
  (54, [(.iload_n 1, 1), (.bipush 60, 2), (.if_icmp .ne 10, 3), (.aload_n 0, 1), (.invokevirtual 602, 3), (.goto 20, 3)]),
  (67, [(.iload_n 1, 1), (.bipush 61, 2), (.if_icmp .ne 10, 3), (.aload_n 0, 1), (.invokevirtual 605, 3), (.goto 7, 3)]),
  (80, [(.aload_n 0, 1), (.invokevirtual 608, 3)]),
  (84, [(.ireturn, 1)]),
  (85, [(.iload_n 1, 1), (.bipush 63, 2), (.if_icmp .ne 8, 3), (.aload_n 0, 1), (.invokevirtual 611, 3), (.ireturn, 1)]),
  (96, [(.iload_n 1, 1), (.bipush 64, 2), (.if_icmp .ne 10, 3), (.aload_n 0, 1), (.iconst 3, 1), (.invokevirtual 415, 3), (.iconst 0, 1), (.ireturn, 1)]),
  (109, [(.iload_n 1, 1), (.bipush 65, 2), (.if_icmp .ne 8, 3), (.aload_n 0, 1), (.invokevirtual 614, 3), (.ireturn, 1)]),
  (120, [(.aload_n 0, 1), (.iconst 4, 1), (.putfield 405, 3), (.iconst 0, 1), (.ireturn, 1)])]
def cf_X12_control : Instr → Option rx_C := rx_lkc [(593, (1, some 11, 0, 0, f_X12_exec)), (596, (2, some 11, 0, 0, f_X12_choose)), (599, (1, some 11, 0, 0, f_X12_startFor)), (602, (1, some 11, 0, 0, f_X12_startRepeat)), (605, (1, some 11, 0, 0, f_X12_startLoop)), (608, (1, some 11, 0, 0, f_X12_startForall)), (611, (1, some 11, 0, 0, f_X12_exit)), (415, (2, some 11, 0, 0, f_X12_unwind)), (614, (1, some 11, 0, 0, f_X12_stopped))] [] []
def f_X12_control : rx_F := rx_fn (rx_lkk kC_X12) (rx_lkf fL_X12) (rx_lkf fP_X12) (rx_lkg gS_X12) (rx_lkg fG_X12) (rx_lkw nW_X12) cf_X12_control (some .int) 0 0 2 kd_X12_control rx_fu
theorem m_X12_control (l : Launch) : rx_M l yX12_control (Cond.code yX12_control cX12_control 2 (some .int) :: rx_WT) { frames := 4, cells := 0, slots := 0, locals := 95 } f_X12_control := rx_met rx_fu (by decide +kernel) kC_X12_ok gS_X12_ok fG_X12_ok fL_X12_ok (fP_X12_ok _) nW_X12_ok rx_ar (by decide +kernel) (rx_lkc_of (rx_n1 (rx_caV 0 11 (m_X12_exec l) w_X12_exec_c w_X12_exec_n (rx_in 2163 (by decide +kernel) rfl) w_X12_exec_i w_X12_exec_s w_X12_exec_d (by decide) rfl rfl) (rx_n1 (rx_caV 1 11 (m_X12_choose l) w_X12_choose_c w_X12_choose_n (rx_in 2175 (by decide +kernel) rfl) w_X12_choose_i w_X12_choose_s w_X12_choose_d (by decide) rfl rfl) (rx_n1 (rx_caV 0 11 (m_X12_startFor l) w_X12_startFor_c w_X12_startFor_n (rx_in 2183 (by decide +kernel) rfl) w_X12_startFor_i w_X12_startFor_s w_X12_startFor_d (by decide) rfl rfl) (rx_n1 (rx_caV 0 11 (m_X12_startRepeat l) w_X12_startRepeat_c w_X12_startRepeat_n (rx_in 2191 (by decide +kernel) rfl) w_X12_startRepeat_i w_X12_startRepeat_s w_X12_startRepeat_d (by decide) rfl rfl) (rx_n1 (rx_caV 0 11 (m_X12_startLoop l) w_X12_startLoop_c w_X12_startLoop_n (rx_in 2195 (by decide +kernel) rfl) w_X12_startLoop_i w_X12_startLoop_s w_X12_startLoop_d (by decide) rfl rfl) (rx_n1 (rx_caV 0 11 (m_X12_startForall l) w_X12_startForall_c w_X12_startForall_n (rx_in 2199 (by decide +kernel) rfl) w_X12_startForall_i w_X12_startForall_s w_X12_startForall_d (by decide) rfl rfl) (rx_n1 (rx_caV 0 11 (m_X12_exit l) w_X12_exit_c w_X12_exit_n (rx_in 2203 (by decide +kernel) rfl) w_X12_exit_i w_X12_exit_s w_X12_exit_d (by decide) rfl rfl) (rx_n1 (rx_caV 1 11 (m_X12_unwind l) w_X12_unwind_c w_X12_unwind_n (rx_in 1944 (by decide +kernel) rfl) w_X12_unwind_i w_X12_unwind_s w_X12_unwind_d (by decide) rfl rfl) (rx_n1 (rx_caV 0 11 (m_X12_stopped l) w_X12_stopped_c w_X12_stopped_n (rx_in 2207 (by decide +kernel) rfl) w_X12_stopped_i w_X12_stopped_s w_X12_stopped_d (by decide) rfl rfl) rx_n0))))))))) rx_n0 rx_n0)
theorem w_X12_control_c : Cond.code yX12_control cX12_control 2 (some .int) ∈ rx_WT := rx_in 2162 (by decide +kernel) rfl
theorem w_X12_control_n : Cond.initialized yX12_control.cls ∈ rx_WT := rx_in 209 (by decide +kernel) rfl
theorem w_X12_control_i : Cond.instanceMethod yX12_control ∈ rx_WT := rx_in 2161 (by decide +kernel) rfl
theorem w_X12_control_s : Cond.selects yX12_control.cls yX12_control yX12_control ∈ rx_WT := rx_in 165 (by decide +kernel) rfl
theorem w_X12_control_d : yX12_control.cls ≠ "java/lang/invoke/MethodHandle" ∧ yX12_control.cls ≠ "java/lang/invoke/VarHandle" ∧ (parseMethodDescriptor yX12_control.desc).map (fun d => d.parameters.length) = some 1 := by decide +kernel
def kd_X12_isIn : List (Nat × List (Instr × Nat)) := [(0, [(.iconst 0, 1), (.istore 4, 2), (.iconst 0, 1), (.istore 5, 2)]),
  (6, [(.iload 5, 2), (.iload_n 1, 1), (.if_icmp .ge 49, 3), (.iload 4, 2), (.ifCond .ne 31, 3), (.aload_n 0, 1), (.getfield 65, 3), (.iconst 2, 1), (.iload 5, 2), (.imul, 1), (.iaload, 1), (.iload_n 2, 1), (.if_icmp .ne 22, 3), (.aload_n 0, 1), (.getfield 65, 3), (.iconst 2, 1), (.iload 5, 2), (.imul, 1), (.iconst 1, 1), (.iadd, 1), (.iaload, 1), (.iload_n 3, 1), (.if_icmp .ne 7, 3)]),
  (45, [(.iconst 1, 1), (.goto 4, 3)]),
  (49, [(.iconst 0, 1)]),
  (50, [(.istore 4, 2), (.iinc 5 1, 3), (.goto (-49), 3)]),
  (58, [(.iload 4, 2), (.ireturn, 1)])]
def cf_X12_isIn : Instr → Option rx_C := rx_lkc [] [] []
def f_X12_isIn : rx_F := rx_fn (rx_lkk kC_X12) (rx_lkf fL_X12) (rx_lkf fP_X12) (rx_lkg gS_X12) (rx_lkg fG_X12) (rx_lkw nW_X12) cf_X12_isIn (some .boolean) 0 0 6 kd_X12_isIn rx_fu
theorem m_X12_isIn (l : Launch) : rx_M l yX12_isIn (Cond.code yX12_isIn cX12_isIn 6 (some .boolean) :: rx_WT) { frames := 0, cells := 0, slots := 0, locals := 0 } f_X12_isIn := rx_met rx_fu (by decide +kernel) kC_X12_ok gS_X12_ok fG_X12_ok fL_X12_ok (fP_X12_ok _) nW_X12_ok rx_ar (by decide +kernel) (rx_lkc_of rx_n0 rx_n0 rx_n0)
theorem w_X12_isIn_c : Cond.code yX12_isIn cX12_isIn 6 (some .boolean) ∈ rx_WT := rx_in 2222 (by decide +kernel) rfl
theorem w_X12_isIn_n : Cond.initialized yX12_isIn.cls ∈ rx_WT := rx_in 209 (by decide +kernel) rfl
theorem w_X12_isIn_i : Cond.instanceMethod yX12_isIn ∈ rx_WT := rx_in 2221 (by decide +kernel) rfl
theorem w_X12_isIn_s : Cond.selects yX12_isIn.cls yX12_isIn yX12_isIn ∈ rx_WT := rx_in 180 (by decide +kernel) rfl
theorem w_X12_isIn_d : yX12_isIn.cls ≠ "java/lang/invoke/MethodHandle" ∧ yX12_isIn.cls ≠ "java/lang/invoke/VarHandle" ∧ (parseMethodDescriptor yX12_isIn.desc).map (fun d => d.parameters.length) = some 3 := by decide +kernel
def kd_X12_bindAll : List (Nat × List (Instr × Nat)) := [(0, [(.iconst 1, 1), (.istore_n 3, 1), (.aload_n 0, 1), (.getfield 65, 3), (.iconst 0, 1), (.iload_n 1, 1), (.iastore, 1), (.aload_n 0, 1), (.getfield 65, 3), (.iconst 1, 1), (.iload_n 2, 1), (.iastore, 1), (.iconst 0, 1), (.istore 4, 2)]),
  (19, [(.iload 4, 2), (.iload_n 3, 1), (.if_icmp .ge 229, 3), (.aload_n 0, 1), (.getfield 65, 3), (.iconst 2, 1), (.iload 4, 2), (.imul, 1), (.iaload, 1), (.istore 5, 2)]),
  (36, [(.iload 5, 2), (.aload_n 0, 1), (.getfield 65, 3), (.iconst 2, 1), (.iload 4, 2), (.imul, 1), (.iaload, 1), (.aload_n 0, 1), (.getfield 65, 3), (.iconst 2, 1), (.iload 4, 2), (.imul, 1), (.iconst 1, 1), (.iadd, 1), (.iaload, 1), (.iadd, 1), (.if_icmp .ge 186, 3), (.iconst 5, 1), (.iload 5, 2), (.imul, 1), (.istore 6, 2), (.aload_n 0, 1), (.getfield 31, 3), (.iload 6, 2), (.iconst 2, 1), (.iadd, 1), (.iaload, 1), (.iconst 1, 1), (.if_icmp .ne 7, 3), (.iconst 1, 1), (.goto 4, 3)]),
  (85, [(.iconst 0, 1)]),
  (86, [(.istore 7, 2), (.iload 7, 2), (.ifCond .eq 68, 3), (.aload_n 0, 1), (.getfield 31, 3), (.iload 6, 2), (.iaload, 1), (.iconst 4, 1), (.if_icmp .ne 57, 3), (.aload_n 0, 1), (.iconst 4, 1), (.aload_n 0, 1), (.getfield 31, 3), (.iload 6, 2), (.iconst 1, 1), (.iadd, 1), (.iaload, 1), (.invokevirtual 419, 3), (.istore 8, 2), (.iload 8, 2), (.iconst (-1), 1), (.if_icmp .eq 32, 3), (.aload_n 0, 1), (.getfield 28, 3), (.iconst 5, 1), (.iload 8, 2), (.imul, 1), (.iaload, 1), (.bipush 8, 2), (.if_icmp .ne 18, 3), (.aload_n 0, 1), (.getfield 28, 3), (.iload 8, 2), (.aload_n 0, 1), (.getfield 31, 3), (.iload 5, 2), (.invokestatic 374, 3)]),
  (155, [(.goto 84, 3)]),
  (158, [(.iload 7, 2), (.ifCond .eq 79, 3), (.aload_n 0, 1), (.getfield 31, 3), (.iload 6, 2), (.iaload, 1), (.iconst 5, 1), (.if_icmp .ne 68, 3), (.aload_n 0, 1), (.iload_n 3, 1), (.aload_n 0, 1), (.getfield 31, 3), (.iload 6, 2), (.iconst 1, 1), (.iadd, 1), (.iaload, 1), (.aload_n 0, 1), (.getfield 31, 3), (.iload 6, 2), (.iconst 3, 1), (.iadd, 1), (.iaload, 1), (.invokevirtual 629, 3), (.ifCond .ne 42, 3), (.aload_n 0, 1), (.getfield 65, 3), (.iconst 2, 1), (.iload_n 3, 1), (.imul, 1), (.aload_n 0, 1), (.getfield 31, 3), (.iload 6, 2), (.iconst 1, 1), (.iadd, 1), (.iaload, 1), (.iastore, 1), (.aload_n 0, 1), (.getfield 65, 3), (.iconst 2, 1), (.iload_n 3, 1), (.imul, 1), (.iconst 1, 1), (.iadd, 1), (.aload_n 0, 1), (.getfield 31, 3), (.iload 6, 2), (.iconst 3, 1), (.iadd, 1), (.iaload, 1), (.iastore, 1), (.iinc 3 1, 3)]),
  (239, [(.iinc 5 1, 3), (.goto (-206), 3)]),
  (245, [(.iinc 4 1, 3), (.goto (-229), 3)]),
  (251, [(.return_, 1)])]
def cf_X12_bindAll : Instr → Option rx_C := rx_lkc [(419, (3, some 11, 0, 0, f_X12_find)), (629, (4, some 11, 0, 0, f_X12_isIn))] [(374, (4, none, 0, 0, f_X12_copy))] []
def f_X12_bindAll : rx_F := rx_fn (rx_lkk kC_X12) (rx_lkf fL_X12) (rx_lkf fP_X12) (rx_lkg gS_X12) (rx_lkg fG_X12) (rx_lkw nW_X12) cf_X12_bindAll none 0 0 9 kd_X12_bindAll rx_fu
theorem m_X12_bindAll (l : Launch) : rx_M l yX12_bindAll (Cond.code yX12_bindAll cX12_bindAll 9 none :: rx_WT) { frames := 2, cells := 0, slots := 0, locals := 50 } f_X12_bindAll := rx_met rx_fu (by decide +kernel) kC_X12_ok gS_X12_ok fG_X12_ok fL_X12_ok (fP_X12_ok _) nW_X12_ok rx_ar (by decide +kernel) (rx_lkc_of (rx_n1 (rx_caV 2 11 (m_X12_find l) w_X12_find_c w_X12_find_n (rx_in 2139 (by decide +kernel) rfl) w_X12_find_i w_X12_find_s w_X12_find_d (by decide) rfl rfl) (rx_n1 (rx_caV 3 11 (m_X12_isIn l) w_X12_isIn_c w_X12_isIn_n (rx_in 2219 (by decide +kernel) rfl) w_X12_isIn_i w_X12_isIn_s w_X12_isIn_d (by decide) rfl rfl) rx_n0)) (rx_n1 (rx_caS 4 (m_X12_copy l) w_X12_copy_c w_X12_copy_n (rx_in 1891 (by decide +kernel) rfl) w_X12_copy_t w_X12_copy_d (by decide)) rx_n0) rx_n0)
theorem w_X12_bindAll_c : Cond.code yX12_bindAll cX12_bindAll 9 none ∈ rx_WT := rx_in 2218 (by decide +kernel) rfl
theorem w_X12_bindAll_n : Cond.initialized yX12_bindAll.cls ∈ rx_WT := rx_in 209 (by decide +kernel) rfl
theorem w_X12_bindAll_i : Cond.instanceMethod yX12_bindAll ∈ rx_WT := rx_in 2217 (by decide +kernel) rfl
theorem w_X12_bindAll_s : Cond.selects yX12_bindAll.cls yX12_bindAll yX12_bindAll ∈ rx_WT := rx_in 179 (by decide +kernel) rfl
theorem w_X12_bindAll_d : yX12_bindAll.cls ≠ "java/lang/invoke/MethodHandle" ∧ yX12_bindAll.cls ≠ "java/lang/invoke/VarHandle" ∧ (parseMethodDescriptor yX12_bindAll.desc).map (fun d => d.parameters.length) = some 2 := by decide +kernel
def kd_X12_putOut : List (Nat × List (Instr × Nat)) := [(0, [(.aload_n 0, 1), (.getfield 278, 3), (.sipush 1000, 3), (.if_icmp .ge 13, 3), (.aload_n 0, 1), (.getfield 43, 3), (.aload_n 0, 1), (.getfield 278, 3), (.iload_n 1, 1), (.iastore, 1)]),
  (20, [(.aload_n 0, 1), (.dup, 1), (.getfield 278, 3), (.iconst 1, 1), (.iadd, 1), (.putfield 278, 3), (.return_, 1)])]
def cf_X12_putOut : Instr → Option rx_C := rx_lkc [] [] []
def f_X12_putOut : rx_F := rx_fn (rx_lkk kC_X12) (rx_lkf fL_X12) (rx_lkf fP_X12) (rx_lkg gS_X12) (rx_lkg fG_X12) (rx_lkw nW_X12) cf_X12_putOut none 0 0 2 kd_X12_putOut rx_fu
theorem m_X12_putOut (l : Launch) : rx_M l yX12_putOut (Cond.code yX12_putOut cX12_putOut 2 none :: rx_WT) { frames := 0, cells := 0, slots := 0, locals := 0 } f_X12_putOut := rx_met rx_fu (by decide +kernel) kC_X12_ok gS_X12_ok fG_X12_ok fL_X12_ok (fP_X12_ok _) nW_X12_ok rx_ar (by decide +kernel) (rx_lkc_of rx_n0 rx_n0 rx_n0)
theorem w_X12_putOut_c : Cond.code yX12_putOut cX12_putOut 2 none ∈ rx_WT := rx_in 2234 (by decide +kernel) rfl
theorem w_X12_putOut_n : Cond.initialized yX12_putOut.cls ∈ rx_WT := rx_in 209 (by decide +kernel) rfl
theorem w_X12_putOut_i : Cond.instanceMethod yX12_putOut ∈ rx_WT := rx_in 2233 (by decide +kernel) rfl
theorem w_X12_putOut_s : Cond.selects yX12_putOut.cls yX12_putOut yX12_putOut ∈ rx_WT := rx_in 183 (by decide +kernel) rfl
theorem w_X12_putOut_d : yX12_putOut.cls ≠ "java/lang/invoke/MethodHandle" ∧ yX12_putOut.cls ≠ "java/lang/invoke/VarHandle" ∧ (parseMethodDescriptor yX12_putOut.desc).map (fun d => d.parameters.length) = some 1 := by decide +kernel
def kd_X12_putNumber : List (Nat × List (Instr × Nat)) := [(0, [(.iload_n 1, 1), (.ifCond .ge 9, 3), (.iload_n 1, 1), (.i2l, 1), (.lneg, 1), (.goto 5, 3)]),
  (10, [(.iload_n 1, 1), (.i2l, 1)]),
  (12, [(.lstore_n 2, 1), (.iload_n 1, 1), (.ifCond .ge 9, 3), (.aload_n 0, 1), (.bipush 45, 2), (.invokevirtual 632, 3)]),
  (23, [(.lconst 1, 1), (.lstore 4, 2)]),
  (26, [(.lload_n 2, 1), (.lload 4, 2), (.ldiv, 1), (.ldc2_w 635, 3), (.lcmp, 1), (.ifCond .lt 14, 3), (.ldc2_w 635, 3), (.lload 4, 2), (.lmul, 1), (.lstore 4, 2), (.goto (-19), 3)]),
  (48, [(.lload 4, 2), (.lconst 0, 1), (.lcmp, 1), (.ifCond .le 31, 3), (.aload_n 0, 1), (.ldc2_w 637, 3), (.lload_n 2, 1), (.lload 4, 2), (.ldiv, 1), (.ldc2_w 635, 3), (.lrem, 1), (.ladd, 1), (.l2i, 1), (.invokevirtual 632, 3), (.lload 4, 2), (.ldc2_w 635, 3), (.ldiv, 1), (.lstore 4, 2), (.goto (-32), 3)]),
  (83, [(.return_, 1)])]
def cf_X12_putNumber : Instr → Option rx_C := rx_lkc [(632, (2, some 11, 0, 0, f_X12_putOut))] [] []
def f_X12_putNumber : rx_F := rx_fn (rx_lkk kC_X12) (rx_lkf fL_X12) (rx_lkf fP_X12) (rx_lkg gS_X12) (rx_lkg fG_X12) (rx_lkw nW_X12) cf_X12_putNumber none 0 0 6 kd_X12_putNumber rx_fu
theorem m_X12_putNumber (l : Launch) : rx_M l yX12_putNumber (Cond.code yX12_putNumber cX12_putNumber 6 none :: rx_WT) { frames := 1, cells := 0, slots := 0, locals := 21 } f_X12_putNumber := rx_met rx_fu (by decide +kernel) kC_X12_ok gS_X12_ok fG_X12_ok fL_X12_ok (fP_X12_ok _) nW_X12_ok rx_ar (by decide +kernel) (rx_lkc_of (rx_n1 (rx_caV 1 11 (m_X12_putOut l) w_X12_putOut_c w_X12_putOut_n (rx_in 2231 (by decide +kernel) rfl) w_X12_putOut_i w_X12_putOut_s w_X12_putOut_d (by decide) rfl rfl) rx_n0) rx_n0 rx_n0)
theorem w_X12_putNumber_c : Cond.code yX12_putNumber cX12_putNumber 6 none ∈ rx_WT := rx_in 2230 (by decide +kernel) rfl
theorem w_X12_putNumber_n : Cond.initialized yX12_putNumber.cls ∈ rx_WT := rx_in 209 (by decide +kernel) rfl
theorem w_X12_putNumber_i : Cond.instanceMethod yX12_putNumber ∈ rx_WT := rx_in 2229 (by decide +kernel) rfl
theorem w_X12_putNumber_s : Cond.selects yX12_putNumber.cls yX12_putNumber yX12_putNumber ∈ rx_WT := rx_in 182 (by decide +kernel) rfl
theorem w_X12_putNumber_d : yX12_putNumber.cls ≠ "java/lang/invoke/MethodHandle" ∧ yX12_putNumber.cls ≠ "java/lang/invoke/VarHandle" ∧ (parseMethodDescriptor yX12_putNumber.desc).map (fun d => d.parameters.length) = some 1 := by decide +kernel
def kd_X12_putName : List (Nat × List (Instr × Nat)) := [(0, [(.iconst 0, 1), (.istore_n 2, 1)]),
  (2, [(.iload_n 2, 1), (.aload_n 0, 1), (.getfield 37, 3), (.iload_n 1, 1), (.iaload, 1), (.if_icmp .ge 24, 3), (.aload_n 0, 1), (.aload_n 0, 1), (.getfield 40, 3), (.bipush 16, 2), (.iload_n 1, 1), (.imul, 1), (.iload_n 2, 1), (.iadd, 1), (.iaload, 1), (.invokevirtual 632, 3), (.iinc 2 1, 3), (.goto (-28), 3)]),
  (33, [(.return_, 1)])]
def cf_X12_putName : Instr → Option rx_C := rx_lkc [(632, (2, some 11, 0, 0, f_X12_putOut))] [] []
def f_X12_putName : rx_F := rx_fn (rx_lkk kC_X12) (rx_lkf fL_X12) (rx_lkf fP_X12) (rx_lkg gS_X12) (rx_lkg fG_X12) (rx_lkw nW_X12) cf_X12_putName none 0 0 3 kd_X12_putName rx_fu
theorem m_X12_putName (l : Launch) : rx_M l yX12_putName (Cond.code yX12_putName cX12_putName 3 none :: rx_WT) { frames := 1, cells := 0, slots := 0, locals := 21 } f_X12_putName := rx_met rx_fu (by decide +kernel) kC_X12_ok gS_X12_ok fG_X12_ok fL_X12_ok (fP_X12_ok _) nW_X12_ok rx_ar (by decide +kernel) (rx_lkc_of (rx_n1 (rx_caV 1 11 (m_X12_putOut l) w_X12_putOut_c w_X12_putOut_n (rx_in 2231 (by decide +kernel) rfl) w_X12_putOut_i w_X12_putOut_s w_X12_putOut_d (by decide) rfl rfl) rx_n0) rx_n0 rx_n0)
theorem w_X12_putName_c : Cond.code yX12_putName cX12_putName 3 none ∈ rx_WT := rx_in 2240 (by decide +kernel) rfl
theorem w_X12_putName_n : Cond.initialized yX12_putName.cls ∈ rx_WT := rx_in 209 (by decide +kernel) rfl
theorem w_X12_putName_i : Cond.instanceMethod yX12_putName ∈ rx_WT := rx_in 2239 (by decide +kernel) rfl
theorem w_X12_putName_s : Cond.selects yX12_putName.cls yX12_putName yX12_putName ∈ rx_WT := rx_in 184 (by decide +kernel) rfl
theorem w_X12_putName_d : yX12_putName.cls ≠ "java/lang/invoke/MethodHandle" ∧ yX12_putName.cls ≠ "java/lang/invoke/VarHandle" ∧ (parseMethodDescriptor yX12_putName.desc).map (fun d => d.parameters.length) = some 1 := by decide +kernel
def kd_X12_putNone : List (Nat × List (Instr × Nat)) := [(0, [(.ldc2_w 639, 3), (.lstore_n 1, 1), (.aload_n 0, 1), (.bipush 45, 2), (.invokevirtual 632, 3), (.aload_n 0, 1), (.bipush 45, 2), (.invokevirtual 632, 3), (.iconst 0, 1), (.istore_n 3, 1)]),
  (18, [(.iload_n 3, 1), (.bipush 7, 2), (.if_icmp .ge 24, 3), (.aload_n 0, 1), (.lload_n 1, 1), (.bipush 8, 2), (.iload_n 3, 1), (.imul, 1), (.lshr, 1), (.ldc2_w 78, 3), (.land, 1), (.l2i, 1), (.invokevirtual 632, 3), (.iinc 3 1, 3), (.goto (-24), 3)]),
  (45, [(.ldc2_w 641, 3), (.lstore_n 1, 1), (.iconst 0, 1), (.istore_n 3, 1)]),
  (51, [(.iload_n 3, 1), (.iconst 4, 1), (.if_icmp .ge 24, 3), (.aload_n 0, 1), (.lload_n 1, 1), (.bipush 8, 2), (.iload_n 3, 1), (.imul, 1), (.lshr, 1), (.ldc2_w 78, 3), (.land, 1), (.l2i, 1), (.invokevirtual 632, 3), (.iinc 3 1, 3), (.goto (-23), 3)]),
  (77, [(.aload_n 0, 1), (.bipush 45, 2), (.invokevirtual 632, 3), (.aload_n 0, 1), (.bipush 45, 2), (.invokevirtual 632, 3), (.return_, 1)])]
def cf_X12_putNone : Instr → Option rx_C := rx_lkc [(632, (2, some 11, 0, 0, f_X12_putOut))] [] []
def f_X12_putNone : rx_F := rx_fn (rx_lkk kC_X12) (rx_lkf fL_X12) (rx_lkf fP_X12) (rx_lkg gS_X12) (rx_lkg fG_X12) (rx_lkw nW_X12) cf_X12_putNone none 0 0 4 kd_X12_putNone rx_fu
theorem m_X12_putNone (l : Launch) : rx_M l yX12_putNone (Cond.code yX12_putNone cX12_putNone 4 none :: rx_WT) { frames := 1, cells := 0, slots := 0, locals := 21 } f_X12_putNone := rx_met rx_fu (by decide +kernel) kC_X12_ok gS_X12_ok fG_X12_ok fL_X12_ok (fP_X12_ok _) nW_X12_ok rx_ar (by decide +kernel) (rx_lkc_of (rx_n1 (rx_caV 1 11 (m_X12_putOut l) w_X12_putOut_c w_X12_putOut_n (rx_in 2231 (by decide +kernel) rfl) w_X12_putOut_i w_X12_putOut_s w_X12_putOut_d (by decide) rfl rfl) rx_n0) rx_n0 rx_n0)
theorem w_X12_putNone_c : Cond.code yX12_putNone cX12_putNone 4 none ∈ rx_WT := rx_in 2244 (by decide +kernel) rfl
theorem w_X12_putNone_n : Cond.initialized yX12_putNone.cls ∈ rx_WT := rx_in 209 (by decide +kernel) rfl
theorem w_X12_putNone_i : Cond.instanceMethod yX12_putNone ∈ rx_WT := rx_in 2243 (by decide +kernel) rfl
theorem w_X12_putNone_s : Cond.selects yX12_putNone.cls yX12_putNone yX12_putNone ∈ rx_WT := rx_in 185 (by decide +kernel) rfl
theorem w_X12_putNone_d : yX12_putNone.cls ≠ "java/lang/invoke/MethodHandle" ∧ yX12_putNone.cls ≠ "java/lang/invoke/VarHandle" ∧ (parseMethodDescriptor yX12_putNone.desc).map (fun d => d.parameters.length) = some 0 := by decide +kernel
def kd_X12_write : List (Nat × List (Instr × Nat)) := [(0, [(.aload_n 0, 1), (.getfield 278, 3), (.istore_n 2, 1), (.aload_n 0, 1), (.iconst 0, 1), (.invokevirtual 316, 3), (.istore_n 3, 1), (.aload_n 0, 1), (.iconst 0, 1), (.invokevirtual 510, 3), (.istore 4, 2), (.iload_n 3, 1), (.iconst 1, 1), (.if_icmp .ne 12, 3), (.aload_n 0, 1), (.iload 4, 2), (.invokevirtual 643, 3), (.goto 94, 3)]),
  (32, [(.iload_n 3, 1), (.bipush 6, 2), (.if_icmp .ne 39, 3), (.iconst 0, 1), (.istore 5, 2)]),
  (41, [(.iload 5, 2), (.aload_n 0, 1), (.iconst 0, 1), (.invokevirtual 513, 3), (.if_icmp .ge 23, 3), (.aload_n 0, 1), (.aload_n 0, 1), (.getfield 34, 3), (.iload 4, 2), (.iload 5, 2), (.iadd, 1), (.iaload, 1), (.invokevirtual 632, 3), (.iinc 5 1, 3), (.goto (-27), 3)]),
  (71, [(.goto 52, 3)]),
  (74, [(.iload_n 3, 1), (.iconst 2, 1), (.if_icmp .ne 23, 3), (.aload_n 0, 1), (.iload 4, 2), (.iconst 1, 1), (.if_icmp .ne 8, 3), (.bipush 30, 2), (.goto 5, 3)]),
  (91, [(.bipush 31, 2)]),
  (93, [(.invokevirtual 646, 3), (.goto 27, 3)]),
  (99, [(.iload_n 3, 1), (.iconst 4, 1), (.if_icmp .eq 9, 3), (.iload_n 3, 1), (.bipush 8, 2), (.if_icmp .ne 12, 3)]),
  (110, [(.aload_n 0, 1), (.iload 4, 2), (.invokevirtual 646, 3), (.goto 7, 3)]),
  (119, [(.aload_n 0, 1), (.invokevirtual 649, 3)]),
  (123, [(.iload_n 1, 1), (.ifCond .eq 9, 3), (.aload_n 0, 1), (.bipush 10, 2), (.invokevirtual 632, 3)]),
  (133, [(.aload_n 0, 1), (.getfield 278, 3), (.sipush 1000, 3), (.if_icmp .le 10, 3), (.aload_n 0, 1), (.iload_n 2, 1), (.putfield 278, 3), (.iconst 2, 1), (.ireturn, 1)]),
  (150, [(.aload_n 0, 1), (.dup, 1), (.getfield 266, 3), (.iconst 1, 1), (.isub, 1), (.putfield 266, 3), (.iconst 0, 1), (.ireturn, 1)])]
def cf_X12_write : Instr → Option rx_C := rx_lkc [(316, (2, some 11, 0, 0, f_X12_kindAt)), (510, (2, some 11, 0, 0, f_X12_valueAt)), (643, (2, some 11, 0, 0, f_X12_putNumber)), (513, (2, some 11, 0, 0, f_X12_lengthAt)), (632, (2, some 11, 0, 0, f_X12_putOut)), (646, (2, some 11, 0, 0, f_X12_putName)), (649, (1, some 11, 0, 0, f_X12_putNone))] [] []
def f_X12_write : rx_F := rx_fn (rx_lkk kC_X12) (rx_lkf fL_X12) (rx_lkf fP_X12) (rx_lkg gS_X12) (rx_lkg fG_X12) (rx_lkw nW_X12) cf_X12_write (some .int) 0 0 6 kd_X12_write rx_fu
theorem m_X12_write (l : Launch) : rx_M l yX12_write (Cond.code yX12_write cX12_write 6 (some .int) :: rx_WT) { frames := 2, cells := 0, slots := 0, locals := 46 } f_X12_write := rx_met rx_fu (by decide +kernel) kC_X12_ok gS_X12_ok fG_X12_ok fL_X12_ok (fP_X12_ok _) nW_X12_ok rx_ar (by decide +kernel) (rx_lkc_of (rx_n1 (rx_caV 1 11 (m_X12_kindAt l) w_X12_kindAt_c w_X12_kindAt_n (rx_in 1984 (by decide +kernel) rfl) w_X12_kindAt_i w_X12_kindAt_s w_X12_kindAt_d (by decide) rfl rfl) (rx_n1 (rx_caV 1 11 (m_X12_valueAt l) w_X12_valueAt_c w_X12_valueAt_n (rx_in 1988 (by decide +kernel) rfl) w_X12_valueAt_i w_X12_valueAt_s w_X12_valueAt_d (by decide) rfl rfl) (rx_n1 (rx_caV 1 11 (m_X12_putNumber l) w_X12_putNumber_c w_X12_putNumber_n (rx_in 2227 (by decide +kernel) rfl) w_X12_putNumber_i w_X12_putNumber_s w_X12_putNumber_d (by decide) rfl rfl) (rx_n1 (rx_caV 1 11 (m_X12_lengthAt l) w_X12_lengthAt_c w_X12_lengthAt_n (rx_in 2032 (by decide +kernel) rfl) w_X12_lengthAt_i w_X12_lengthAt_s w_X12_lengthAt_d (by decide) rfl rfl) (rx_n1 (rx_caV 1 11 (m_X12_putOut l) w_X12_putOut_c w_X12_putOut_n (rx_in 2231 (by decide +kernel) rfl) w_X12_putOut_i w_X12_putOut_s w_X12_putOut_d (by decide) rfl rfl) (rx_n1 (rx_caV 1 11 (m_X12_putName l) w_X12_putName_c w_X12_putName_n (rx_in 2237 (by decide +kernel) rfl) w_X12_putName_i w_X12_putName_s w_X12_putName_d (by decide) rfl rfl) (rx_n1 (rx_caV 0 11 (m_X12_putNone l) w_X12_putNone_c w_X12_putNone_n (rx_in 2241 (by decide +kernel) rfl) w_X12_putNone_i w_X12_putNone_s w_X12_putNone_d (by decide) rfl rfl) rx_n0))))))) rx_n0 rx_n0)
theorem w_X12_write_c : Cond.code yX12_write cX12_write 6 (some .int) ∈ rx_WT := rx_in 2226 (by decide +kernel) rfl
theorem w_X12_write_n : Cond.initialized yX12_write.cls ∈ rx_WT := rx_in 209 (by decide +kernel) rfl
theorem w_X12_write_i : Cond.instanceMethod yX12_write ∈ rx_WT := rx_in 2225 (by decide +kernel) rfl
theorem w_X12_write_s : Cond.selects yX12_write.cls yX12_write yX12_write ∈ rx_WT := rx_in 181 (by decide +kernel) rfl
theorem w_X12_write_d : yX12_write.cls ≠ "java/lang/invoke/MethodHandle" ∧ yX12_write.cls ≠ "java/lang/invoke/VarHandle" ∧ (parseMethodDescriptor yX12_write.desc).map (fun d => d.parameters.length) = some 1 := by decide +kernel
def kd_X12_tell : List (Nat × List (Instr × Nat)) := [(0, [(.aload_n 0, 1), (.getfield 266, 3), (.iconst 1, 1), (.if_icmp .ge 5, 3), (.iconst 3, 1), (.ireturn, 1)]),
  (10, [(.aload_n 0, 1), (.iconst 0, 1), (.invokevirtual 316, 3), (.istore_n 2, 1), (.iconst 5, 1), (.aload_n 0, 1), (.iconst 0, 1), (.invokevirtual 312, 3), (.imul, 1), (.istore_n 3, 1), (.iload_n 1, 1), (.bipush 67, 2), (.if_icmp .ne 29, 3), (.aload_n 0, 1), (.iconst 0, 1), (.invokevirtual 617, 3), (.ifCond .ne 5, 3), (.iconst 4, 1), (.ireturn, 1)]),
  (40, [(.aload_n 0, 1), (.aload_n 0, 1), (.iconst 0, 1), (.invokevirtual 510, 3), (.aload_n 0, 1), (.iconst 0, 1), (.invokevirtual 513, 3), (.invokevirtual 623, 3), (.iconst 0, 1), (.ireturn, 1)]),
  (56, [(.iload_n 1, 1), (.bipush 68, 2), (.if_icmp .eq 9, 3), (.iload_n 1, 1), (.bipush 69, 2), (.if_icmp .ne 34, 3)]),
  (68, [(.iload_n 2, 1), (.iconst 4, 1), (.if_icmp .eq 8, 3), (.iload_n 2, 1), (.iconst 5, 1), (.if_icmp .ne 22, 3)]),
  (78, [(.aload_n 0, 1), (.getfield 13, 3), (.iload_n 3, 1), (.iconst 2, 1), (.iadd, 1), (.iload_n 1, 1), (.bipush 68, 2), (.if_icmp .ne 7, 3), (.iconst 1, 1), (.goto 4, 3)]),
  (95, [(.iconst 0, 1)]),
  (96, [(.iastore, 1)]),
  (97, [(.iconst 0, 1), (.ireturn, 1)]),
  (99, [(.iload_n 1, 1), (.bipush 70, 2), (.if_icmp .ne 40, 3), (.aload_n 0, 1), (.getfield 13, 3), (.iload_n 3, 1), (.iconst 2, 1), (.iadd, 1), (.iaload, 1), (.iconst 1, 1), (.if_icmp .ne 7, 3), (.iconst 1, 1), (.goto 4, 3)]),
  (121, [(.iconst 0, 1)]),
  (122, [(.istore 4, 2), (.aload_n 0, 1), (.dup, 1), (.getfield 266, 3), (.iconst 1, 1), (.isub, 1), (.putfield 266, 3), (.aload_n 0, 1), (.iload 4, 2), (.invokevirtual 411, 3), (.iconst 0, 1), (.ireturn, 1)]),
  (142, [(.iload_n 1, 1), (.bipush 71, 2), (.if_icmp .ne 27, 3), (.aload_n 0, 1), (.dup, 1), (.getfield 266, 3), (.iconst 1, 1), (.isub, 1), (.putfield 266, 3), (.aload_n 0, 1), (.iconst 4, 1), (.bipush 74, 2), (.iload_n 2, 1), (.iadd, 1), (.iconst 0, 1), (.iconst 0, 1), (.iconst 0, 1), (.invokevirtual 319, 3), (.iconst 0, 1), (.ireturn, 1)]),
  (172, [(.iload_n 1, 1), (.bipush 73, 2), (.if_icmp .ne 11, 3), (.iload_n 2, 1), (.bipush 6, 2), (.if_icmp .eq 5, 3), (.iconst 4, 1), (.ireturn, 1)]),
  (186, [(.aload_n 0, 1), (.iload_n 1, 1), (.bipush 72, 2), (.if_icmp .ne 7, 3), (.iconst 1, 1), (.goto 4, 3)]),
  (197, [(.iconst 0, 1)]),
  (198, [(.invokevirtual 626, 3), (.ireturn, 1)])]
def cf_X12_tell : Instr → Option rx_C := rx_lkc [(316, (2, some 11, 0, 0, f_X12_kindAt)), (312, (2, some 11, 0, 0, f_X12_top)), (617, (2, some 11, 0, 0, f_X12_isProcedure)), (510, (2, some 11, 0, 0, f_X12_valueAt)), (513, (2, some 11, 0, 0, f_X12_lengthAt)), (623, (3, some 11, 0, 0, f_X12_bindAll)), (411, (2, some 11, 0, 0, f_X12_pushBool)), (319, (6, some 11, 0, 0, f_X12_push)), (626, (2, some 11, 0, 0, f_X12_write))] [] []
def f_X12_tell : rx_F := rx_fn (rx_lkk kC_X12) (rx_lkf fL_X12) (rx_lkf fP_X12) (rx_lkg gS_X12) (rx_lkg fG_X12) (rx_lkw nW_X12) cf_X12_tell (some .int) 0 0 5 kd_X12_tell rx_fu
theorem m_X12_tell (l : Launch) : rx_M l yX12_tell (Cond.code yX12_tell cX12_tell 5 (some .int) :: rx_WT) { frames := 3, cells := 0, slots := 0, locals := 78 } f_X12_tell := rx_met rx_fu (by decide +kernel) kC_X12_ok gS_X12_ok fG_X12_ok fL_X12_ok (fP_X12_ok _) nW_X12_ok rx_ar (by decide +kernel) (rx_lkc_of (rx_n1 (rx_caV 1 11 (m_X12_kindAt l) w_X12_kindAt_c w_X12_kindAt_n (rx_in 1984 (by decide +kernel) rfl) w_X12_kindAt_i w_X12_kindAt_s w_X12_kindAt_d (by decide) rfl rfl) (rx_n1 (rx_caV 1 11 (m_X12_top l) w_X12_top_c w_X12_top_n (rx_in 1972 (by decide +kernel) rfl) w_X12_top_i w_X12_top_s w_X12_top_d (by decide) rfl rfl) (rx_n1 (rx_caV 1 11 (m_X12_isProcedure l) w_X12_isProcedure_c w_X12_isProcedure_n (rx_in 2167 (by decide +kernel) rfl) w_X12_isProcedure_i w_X12_isProcedure_s w_X12_isProcedure_d (by decide) rfl rfl) (rx_n1 (rx_caV 1 11 (m_X12_valueAt l) w_X12_valueAt_c w_X12_valueAt_n (rx_in 1988 (by decide +kernel) rfl) w_X12_valueAt_i w_X12_valueAt_s w_X12_valueAt_d (by decide) rfl rfl) (rx_n1 (rx_caV 1 11 (m_X12_lengthAt l) w_X12_lengthAt_c w_X12_lengthAt_n (rx_in 2032 (by decide +kernel) rfl) w_X12_lengthAt_i w_X12_lengthAt_s w_X12_lengthAt_d (by decide) rfl rfl) (rx_n1 (rx_caV 2 11 (m_X12_bindAll l) w_X12_bindAll_c w_X12_bindAll_n (rx_in 2215 (by decide +kernel) rfl) w_X12_bindAll_i w_X12_bindAll_s w_X12_bindAll_d (by decide) rfl rfl) (rx_n1 (rx_caV 1 11 (m_X12_pushBool l) w_X12_pushBool_c w_X12_pushBool_n (rx_in 1952 (by decide +kernel) rfl) w_X12_pushBool_i w_X12_pushBool_s w_X12_pushBool_d (by decide) rfl rfl) (rx_n1 (rx_caV 5 11 (m_X12_push l) w_X12_push_c w_X12_push_n (rx_in 1956 (by decide +kernel) rfl) w_X12_push_i w_X12_push_s w_X12_push_d (by decide) rfl rfl) (rx_n1 (rx_caV 1 11 (m_X12_write l) w_X12_write_c w_X12_write_n (rx_in 2223 (by decide +kernel) rfl) w_X12_write_i w_X12_write_s w_X12_write_d (by decide) rfl rfl) rx_n0))))))))) rx_n0 rx_n0)
theorem w_X12_tell_c : Cond.code yX12_tell cX12_tell 5 (some .int) ∈ rx_WT := rx_in 2214 (by decide +kernel) rfl
theorem w_X12_tell_n : Cond.initialized yX12_tell.cls ∈ rx_WT := rx_in 209 (by decide +kernel) rfl
theorem w_X12_tell_i : Cond.instanceMethod yX12_tell ∈ rx_WT := rx_in 2213 (by decide +kernel) rfl
theorem w_X12_tell_s : Cond.selects yX12_tell.cls yX12_tell yX12_tell ∈ rx_WT := rx_in 178 (by decide +kernel) rfl
theorem w_X12_tell_d : yX12_tell.cls ≠ "java/lang/invoke/MethodHandle" ∧ yX12_tell.cls ≠ "java/lang/invoke/VarHandle" ∧ (parseMethodDescriptor yX12_tell.desc).map (fun d => d.parameters.length) = some 1 := by decide +kernel
def kd_X12_operate : List (Nat × List (Instr × Nat)) := [(0, [(.iload_n 1, 1), (.bipush 20, 2), (.if_icmp .ge 37, 3), (.iload_n 1, 1), (.bipush 13, 2), (.if_icmp .ge 11, 3), (.aload_n 0, 1), (.iload_n 1, 1), (.invokevirtual 452, 3), (.goto 22, 3)]),
  (20, [(.iload_n 1, 1), (.bipush 18, 2), (.if_icmp .ge 11, 3), (.aload_n 0, 1), (.iload_n 1, 1), (.invokevirtual 455, 3), (.goto 8, 3)]),
  (34, [(.aload_n 0, 1), (.iload_n 1, 1), (.invokevirtual 458, 3)]),
  (39, [(.ireturn, 1)]),
  (40, [(.iload_n 1, 1), (.bipush 33, 2), (.if_icmp .ge 37, 3), (.iload_n 1, 1), (.bipush 26, 2), (.if_icmp .ge 11, 3), (.aload_n 0, 1), (.iload_n 1, 1), (.invokevirtual 461, 3), (.goto 22, 3)]),
  (60, [(.iload_n 1, 1), (.bipush 30, 2), (.if_icmp .ge 11, 3), (.aload_n 0, 1), (.iload_n 1, 1), (.invokevirtual 464, 3), (.goto 8, 3)]),
  (74, [(.aload_n 0, 1), (.iload_n 1, 1), (.invokevirtual 467, 3)]),
  (79, [(.ireturn, 1)]),
  (80, [(.iload_n 1, 1), (.bipush 45, 2), (.if_icmp .ge 37, 3), (.iload_n 1, 1), (.bipush 35, 2), (.if_icmp .ge 11, 3), (.aload_n 0, 1), (.iload_n 1, 1), (.invokevirtual 470, 3), (.goto 22, 3)]),
  (100, [(.iload_n 1, 1), (.bipush 40, 2), (.if_icmp .ge 11, 3), (.aload_n 0, 1), (.iload_n 1, 1), (.invokevirtual 473, 3), (.goto 8, 3)]),
  (114, [(.aload_n 0, 1), (.iload_n 1, 1), (.invokevirtual 476, 3)]),
  (119, [(.ireturn, 1)]),
  (120, [(.iload_n 1, 1), (.bipush 56, 2), (.if_icmp .ge 37, 3), (.iload_n 1, 1), (.bipush 47, 2), (.if_icmp .ge 11, 3), (.aload_n 0, 1), (.iload_n 1, 1), (.invokevirtual 479, 3), (.goto 22, 3)]),
  (140, [(.iload_n 1, 1), (.bipush 53, 2), (.if_icmp .ge 11, 3), (.aload_n 0, 1), (.iload_n 1, 1), (.invokevirtual 482, 3), (.goto 8, 3)]),
  (154, [(.aload_n 0, 1), (.iload_n 1, 1), (.invokevirtual 485, 3)]),
  (159, [(.ireturn, 1)]),
  (160, [(.iload_n 1, 1), (.bipush 67, 2), (.if_icmp .ge 11, 3), (.aload_n 0, 1), (.iload_n 1, 1), (.invokevirtual 488, 3), (.goto 8, 3)]),
  (174, [(.aload_n 0, 1), (.iload_n 1, 1), (.invokevirtual 491, 3)]),
  (179, [(.ireturn, 1)])]
def cf_X12_operate : Instr → Option rx_C := rx_lkc [(452, (2, some 11, 0, 0, f_X12_onStack)), (455, (2, some 11, 0, 0, f_X12_twoNumbers)), (458, (2, some 11, 0, 0, f_X12_oneNumber)), (461, (2, some 11, 0, 0, f_X12_compare)), (464, (2, some 11, 0, 0, f_X12_logic)), (467, (2, some 11, 0, 0, f_X12_constant)), (470, (2, some 11, 0, 0, f_X12_make)), (473, (2, some 11, 0, 0, f_X12_access)), (476, (2, some 11, 0, 0, f_X12_gather)), (479, (2, some 11, 0, 0, f_X12_onDictionaryStack)), (482, (2, some 11, 0, 0, f_X12_withKey)), (485, (2, some 11, 0, 0, f_X12_aboutDictionaries)), (488, (2, some 11, 0, 0, f_X12_control)), (491, (2, some 11, 0, 0, f_X12_tell))] [] []
def f_X12_operate : rx_F := rx_fn (rx_lkk kC_X12) (rx_lkf fL_X12) (rx_lkf fP_X12) (rx_lkg gS_X12) (rx_lkg fG_X12) (rx_lkw nW_X12) cf_X12_operate (some .int) 0 0 2 kd_X12_operate rx_fu
theorem m_X12_operate (l : Launch) : rx_M l yX12_operate (Cond.code yX12_operate cX12_operate 2 (some .int) :: rx_WT) { frames := 6, cells := 0, slots := 0, locals := 134 } f_X12_operate := rx_met rx_fu (by decide +kernel) kC_X12_ok gS_X12_ok fG_X12_ok fL_X12_ok (fP_X12_ok _) nW_X12_ok rx_ar (by decide +kernel) (rx_lkc_of (rx_n1 (rx_caV 1 11 (m_X12_onStack l) w_X12_onStack_c w_X12_onStack_n (rx_in 1968 (by decide +kernel) rfl) w_X12_onStack_i w_X12_onStack_s w_X12_onStack_d (by decide) rfl rfl) (rx_n1 (rx_caV 1 11 (m_X12_twoNumbers l) w_X12_twoNumbers_c w_X12_twoNumbers_n (rx_in 2004 (by decide +kernel) rfl) w_X12_twoNumbers_i w_X12_twoNumbers_s w_X12_twoNumbers_d (by decide) rfl rfl) (rx_n1 (rx_caV 1 11 (m_X12_oneNumber l) w_X12_oneNumber_c w_X12_oneNumber_n (rx_in 2008 (by decide +kernel) rfl) w_X12_oneNumber_i w_X12_oneNumber_s w_X12_oneNumber_d (by decide) rfl rfl) (rx_n1 (rx_caV 1 11 (m_X12_compare l) w_X12_compare_c w_X12_compare_n (rx_in 2012 (by decide +kernel) rfl) w_X12_compare_i w_X12_compare_s w_X12_compare_d (by decide) rfl rfl) (rx_n1 (rx_caV 1 11 (m_X12_logic l) w_X12_logic_c w_X12_logic_n (rx_in 2040 (by decide +kernel) rfl) w_X12_logic_i w_X12_logic_s w_X12_logic_d (by decide) rfl rfl) (rx_n1 (rx_caV 1 11 (m_X12_constant l) w_X12_constant_c w_X12_constant_n (rx_in 2044 (by decide +kernel) rfl) w_X12_constant_i w_X12_constant_s w_X12_constant_d (by decide) rfl rfl) (rx_n1 (rx_caV 1 11 (m_X12_make l) w_X12_make_c w_X12_make_n (rx_in 2048 (by decide +kernel) rfl) w_X12_make_i w_X12_make_s w_X12_make_d (by decide) rfl rfl) (rx_n1 (rx_caV 1 11 (m_X12_access l) w_X12_access_c w_X12_access_n (rx_in 2052 (by decide +kernel) rfl) w_X12_access_i w_X12_access_s w_X12_access_d (by decide) rfl rfl) (rx_n1 (rx_caV 1 11 (m_X12_gather l) w_X12_gather_c w_X12_gather_n (rx_in 2099 (by decide +kernel) rfl) w_X12_gather_i w_X12_gather_s w_X12_gather_d (by decide) rfl rfl) (rx_n1 (rx_caV 1 11 (m_X12_onDictionaryStack l) w_X12_onDictionaryStack_c w_X12_onDictionaryStack_n (rx_in 2127 (by decide +kernel) rfl) w_X12_onDictionaryStack_i w_X12_onDictionaryStack_s w_X12_onDictionaryStack_d (by decide) rfl rfl) (rx_n1 (rx_caV 1 11 (m_X12_withKey l) w_X12_withKey_c w_X12_withKey_n (rx_in 2131 (by decide +kernel) rfl) w_X12_withKey_i w_X12_withKey_s w_X12_withKey_d (by decide) rfl rfl) (rx_n1 (rx_caV 1 11 (m_X12_aboutDictionaries l) w_X12_aboutDictionaries_c w_X12_aboutDictionaries_n (rx_in 2155 (by decide +kernel) rfl) w_X12_aboutDictionaries_i w_X12_aboutDictionaries_s w_X12_aboutDictionaries_d (by decide) rfl rfl) (rx_n1 (rx_caV 1 11 (m_X12_control l) w_X12_control_c w_X12_control_n (rx_in 2159 (by decide +kernel) rfl) w_X12_control_i w_X12_control_s w_X12_control_d (by decide) rfl rfl) (rx_n1 (rx_caV 1 11 (m_X12_tell l) w_X12_tell_c w_X12_tell_n (rx_in 2211 (by decide +kernel) rfl) w_X12_tell_i w_X12_tell_s w_X12_tell_d (by decide) rfl rfl) rx_n0)))))))))))))) rx_n0 rx_n0)
theorem w_X12_operate_c : Cond.code yX12_operate cX12_operate 2 (some .int) ∈ rx_WT := rx_in 1967 (by decide +kernel) rfl
theorem w_X12_operate_n : Cond.initialized yX12_operate.cls ∈ rx_WT := rx_in 209 (by decide +kernel) rfl
theorem w_X12_operate_i : Cond.instanceMethod yX12_operate ∈ rx_WT := rx_in 1966 (by decide +kernel) rfl
theorem w_X12_operate_s : Cond.selects yX12_operate.cls yX12_operate yX12_operate ∈ rx_WT := rx_in 117 (by decide +kernel) rfl
theorem w_X12_operate_d : yX12_operate.cls ≠ "java/lang/invoke/MethodHandle" ∧ yX12_operate.cls ≠ "java/lang/invoke/VarHandle" ∧ (parseMethodDescriptor yX12_operate.desc).map (fun d => d.parameters.length) = some 1 := by decide +kernel
def kd_X12_handle : List (Nat × List (Instr × Nat)) := [(0, [(.iconst 1, 1), (.istore_n 1, 1), (.iconst 1, 1), (.istore_n 2, 1)]),
  (4, [(.iload_n 2, 1), (.ifCond .eq 137, 3), (.iconst 0, 1), (.istore_n 2, 1), (.aload_n 0, 1), (.getfield 62, 3), (.iconst 0, 1), (.iaload, 1), (.bipush 8, 2), (.if_icmp .ne 47, 3), (.aload_n 0, 1), (.getfield 62, 3), (.iconst 1, 1), (.iaload, 1), (.istore_n 3, 1), (.aload_n 0, 1), (.iconst 0, 1), (.putfield 441, 3), (.aload_n 0, 1), (.iload_n 3, 1), (.invokevirtual 445, 3), (.istore 4, 2), (.iload 4, 2), (.ifCond .le 13, 3), (.aload_n 0, 1), (.iload 4, 2), (.iload_n 3, 1), (.invokevirtual 423, 3), (.goto 10, 3)]),
  (55, [(.aload_n 0, 1), (.getfield 441, 3), (.istore_n 2, 1), (.iconst 0, 1), (.istore_n 1, 1)]),
  (62, [(.goto (-58), 3)]),
  (65, [(.aload_n 0, 1), (.getfield 62, 3), (.iconst 0, 1), (.iaload, 1), (.iconst 4, 1), (.if_icmp .ne 21, 3), (.aload_n 0, 1), (.getfield 62, 3), (.iconst 2, 1), (.iaload, 1), (.iconst 1, 1), (.if_icmp .ne 11, 3), (.aload_n 0, 1), (.invokevirtual 448, 3), (.istore_n 2, 1), (.goto (-86), 3)]),
  (93, [(.aload_n 0, 1), (.getfield 62, 3), (.iconst 0, 1), (.iaload, 1), (.iconst 5, 1), (.if_icmp .ne 29, 3), (.aload_n 0, 1), (.getfield 62, 3), (.iconst 2, 1), (.iaload, 1), (.iconst 1, 1), (.if_icmp .ne 19, 3), (.iload_n 1, 1), (.ifCond .ne 15, 3), (.aload_n 0, 1), (.aload_n 0, 1), (.getfield 62, 3), (.iconst 0, 1), (.invokevirtual 430, 3), (.goto (-122), 3)]),
  (129, [(.aload_n 0, 1), (.aload_n 0, 1), (.getfield 62, 3), (.iconst 0, 1), (.iconst (-1), 1), (.invokevirtual 437, 3), (.goto (-135), 3)]),
  (142, [(.return_, 1)])]
def cf_X12_handle : Instr → Option rx_C := rx_lkc [(445, (2, some 11, 0, 0, f_X12_operate)), (423, (3, some 11, 0, 0, f_X12_fail)), (448, (1, some 11, 0, 0, f_X12_follow)), (430, (3, some 11, 0, 0, f_X12_enter)), (437, (4, some 11, 0, 0, f_X12_put))] [] []
def f_X12_handle : rx_F := rx_fn (rx_lkk kC_X12) (rx_lkf fL_X12) (rx_lkf fP_X12) (rx_lkg gS_X12) (rx_lkg fG_X12) (rx_lkw nW_X12) cf_X12_handle none 0 0 5 kd_X12_handle rx_fu
theorem m_X12_handle (l : Launch) : rx_M l yX12_handle (Cond.code yX12_handle cX12_handle 5 none :: rx_WT) { frames := 7, cells := 0, slots := 0, locals := 164 } f_X12_handle := rx_met rx_fu (by decide +kernel) kC_X12_ok gS_X12_ok fG_X12_ok fL_X12_ok (fP_X12_ok _) nW_X12_ok rx_ar (by decide +kernel) (rx_lkc_of (rx_n1 (rx_caV 1 11 (m_X12_operate l) w_X12_operate_c w_X12_operate_n (rx_in 1964 (by decide +kernel) rfl) w_X12_operate_i w_X12_operate_s w_X12_operate_d (by decide) rfl rfl) (rx_n1 (rx_caV 2 11 (m_X12_fail l) w_X12_fail_c w_X12_fail_n (rx_in 1940 (by decide +kernel) rfl) w_X12_fail_i w_X12_fail_s w_X12_fail_d (by decide) rfl rfl) (rx_n1 (rx_caV 0 11 (m_X12_follow l) w_X12_follow_c w_X12_follow_n (rx_in 2247 (by decide +kernel) rfl) w_X12_follow_i w_X12_follow_s w_X12_follow_d (by decide) rfl rfl) (rx_n1 (rx_caV 2 11 (m_X12_enter l) w_X12_enter_c w_X12_enter_n (rx_in 2179 (by decide +kernel) rfl) w_X12_enter_i w_X12_enter_s w_X12_enter_d (by decide) rfl rfl) (rx_n1 (rx_caV 3 11 (m_X12_put l) w_X12_put_c w_X12_put_n (rx_in 2251 (by decide +kernel) rfl) w_X12_put_i w_X12_put_s w_X12_put_d (by decide) rfl rfl) rx_n0))))) rx_n0 rx_n0)
theorem w_X12_handle_c : Cond.code yX12_handle cX12_handle 5 none ∈ rx_WT := rx_in 1963 (by decide +kernel) rfl
theorem w_X12_handle_n : Cond.initialized yX12_handle.cls ∈ rx_WT := rx_in 209 (by decide +kernel) rfl
theorem w_X12_handle_i : Cond.instanceMethod yX12_handle ∈ rx_WT := rx_in 1962 (by decide +kernel) rfl
theorem w_X12_handle_s : Cond.selects yX12_handle.cls yX12_handle yX12_handle ∈ rx_WT := rx_in 116 (by decide +kernel) rfl
theorem w_X12_handle_d : yX12_handle.cls ≠ "java/lang/invoke/MethodHandle" ∧ yX12_handle.cls ≠ "java/lang/invoke/VarHandle" ∧ (parseMethodDescriptor yX12_handle.desc).map (fun d => d.parameters.length) = some 0 := by decide +kernel
def kd_X12_keyAt : List (Nat × List (Instr × Nat)) := [(0, [(.sipush 160, 3), (.iload_n 1, 1), (.imul, 1), (.iconst 2, 1), (.aload_n 0, 1), (.getfield 49, 3), (.iload_n 1, 1), (.laload, 1), (.l2i, 1), (.imul, 1), (.iadd, 1), (.istore_n 3, 1), (.aload_n 0, 1), (.aload_n 0, 1), (.getfield 46, 3), (.iload_n 2, 1), (.bipush 7, 2), (.iadd, 1), (.iaload, 1), (.aload_n 0, 1), (.getfield 53, 3), (.iload_n 3, 1), (.iaload, 1), (.aload_n 0, 1), (.getfield 53, 3), (.iload_n 3, 1), (.iconst 1, 1), (.iadd, 1), (.iaload, 1), (.invokevirtual 396, 3), (.ireturn, 1)])]
def cf_X12_keyAt : Instr → Option rx_C := rx_lkc [(396, (4, some 11, 0, 0, f_X12_pairOf))] [] []
def f_X12_keyAt : rx_F := rx_fn (rx_lkk kC_X12) (rx_lkf fL_X12) (rx_lkf fP_X12) (rx_lkg gS_X12) (rx_lkg fG_X12) (rx_lkw nW_X12) cf_X12_keyAt (some .int) 0 0 4 kd_X12_keyAt rx_fu
theorem m_X12_keyAt (l : Launch) : rx_M l yX12_keyAt (Cond.code yX12_keyAt cX12_keyAt 4 (some .int) :: rx_WT) { frames := 1, cells := 0, slots := 0, locals := 26 } f_X12_keyAt := rx_met rx_fu (by decide +kernel) kC_X12_ok gS_X12_ok fG_X12_ok fL_X12_ok (fP_X12_ok _) nW_X12_ok rx_ar (by decide +kernel) (rx_lkc_of (rx_n1 (rx_caV 3 11 (m_X12_pairOf l) w_X12_pairOf_c w_X12_pairOf_n (rx_in 2071 (by decide +kernel) rfl) w_X12_pairOf_i w_X12_pairOf_s w_X12_pairOf_d (by decide) rfl rfl) rx_n0) rx_n0 rx_n0)
theorem w_X12_keyAt_c : Cond.code yX12_keyAt cX12_keyAt 4 (some .int) ∈ rx_WT := rx_in 2266 (by decide +kernel) rfl
theorem w_X12_keyAt_n : Cond.initialized yX12_keyAt.cls ∈ rx_WT := rx_in 209 (by decide +kernel) rfl
theorem w_X12_keyAt_i : Cond.instanceMethod yX12_keyAt ∈ rx_WT := rx_in 2265 (by decide +kernel) rfl
theorem w_X12_keyAt_s : Cond.selects yX12_keyAt.cls yX12_keyAt yX12_keyAt ∈ rx_WT := rx_in 190 (by decide +kernel) rfl
theorem w_X12_keyAt_d : yX12_keyAt.cls ≠ "java/lang/invoke/MethodHandle" ∧ yX12_keyAt.cls ≠ "java/lang/invoke/VarHandle" ∧ (parseMethodDescriptor yX12_keyAt.desc).map (fun d => d.parameters.length) = some 2 := by decide +kernel
def kd_X12_give : List (Nat × List (Instr × Nat)) := [(0, [(.iload_n 2, 1), (.bipush 7, 2), (.if_icmp .ne 7, 3), (.iconst 2, 1), (.goto 19, 3)]),
  (10, [(.iload_n 2, 1), (.iconst 3, 1), (.if_icmp .eq 9, 3), (.iload_n 2, 1), (.bipush 6, 2), (.if_icmp .ne 7, 3)]),
  (21, [(.iconst 1, 1), (.goto 4, 3)]),
  (25, [(.iconst 0, 1)]),
  (26, [(.istore 4, 2), (.aload_n 0, 1), (.iload 4, 2), (.invokevirtual 408, 3), (.ifCond .eq 22, 3), (.aload_n 0, 1), (.bipush 13, 2), (.iload_n 2, 1), (.iconst 3, 1), (.if_icmp .ne 8, 3), (.bipush 59, 2), (.goto 5, 3)]),
  (50, [(.bipush 62, 2)]),
  (52, [(.invokevirtual 423, 3), (.return_, 1)]),
  (56, [(.iload_n 2, 1), (.iconst 3, 1), (.if_icmp .ne 40, 3), (.aload_n 0, 1), (.aload_n 0, 1), (.getfield 49, 3), (.iload_n 3, 1), (.laload, 1), (.l2i, 1), (.invokevirtual 507, 3), (.aload_n 0, 1), (.getfield 49, 3), (.iload_n 3, 1), (.aload_n 0, 1), (.getfield 49, 3), (.iload_n 3, 1), (.laload, 1), (.aload_n 0, 1), (.getfield 46, 3), (.iload_n 1, 1), (.bipush 6, 2), (.iadd, 1), (.iaload, 1), (.i2l, 1), (.ladd, 1), (.lastore, 1), (.goto 216, 3)]),
  (98, [(.iload_n 2, 1), (.iconst 4, 1), (.if_icmp .ne 20, 3), (.aload_n 0, 1), (.getfield 49, 3), (.iload_n 3, 1), (.aload_n 0, 1), (.getfield 49, 3), (.iload_n 3, 1), (.laload, 1), (.lconst 1, 1), (.lsub, 1), (.lastore, 1), (.goto 194, 3)]),
  (120, [(.iload_n 2, 1), (.bipush 6, 2), (.if_icmp .ne 93, 3), (.aload_n 0, 1), (.getfield 46, 3), (.iload_n 1, 1), (.bipush 7, 2), (.iadd, 1), (.iaload, 1), (.aload_n 0, 1), (.getfield 49, 3), (.iload_n 3, 1), (.laload, 1), (.l2i, 1), (.iadd, 1), (.istore 5, 2), (.aload_n 0, 1), (.getfield 46, 3), (.iload_n 1, 1), (.bipush 6, 2), (.iadd, 1), (.iaload, 1), (.iconst 5, 1), (.if_icmp .ne 33, 3), (.aload_n 0, 1), (.getfield 31, 3), (.iload 5, 2), (.aload_n 0, 1), (.getfield 13, 3), (.aload_n 0, 1), (.getfield 266, 3), (.invokestatic 374, 3), (.aload_n 0, 1), (.dup, 1), (.getfield 266, 3), (.iconst 1, 1), (.iadd, 1), (.putfield 266, 3), (.goto 14, 3)]),
  (188, [(.aload_n 0, 1), (.aload_n 0, 1), (.getfield 34, 3), (.iload 5, 2), (.iaload, 1), (.invokevirtual 507, 3)]),
  (199, [(.aload_n 0, 1), (.getfield 49, 3), (.iload_n 3, 1), (.aload_n 0, 1), (.getfield 49, 3), (.iload_n 3, 1), (.laload, 1), (.lconst 1, 1), (.ladd, 1), (.lastore, 1), (.goto 98, 3)]),
  (216, [(.iload_n 2, 1), (.bipush 7, 2), (.if_icmp .ne 92, 3), (.sipush 160, 3), (.iload_n 3, 1), (.imul, 1), (.iconst 2, 1), (.aload_n 0, 1), (.getfield 49, 3), (.iload_n 3, 1), (.laload, 1), (.l2i, 1), (.imul, 1), (.iadd, 1), (.istore 5, 2), (.aload_n 0, 1), (.iload_n 3, 1), (.iload_n 1, 1), (.invokevirtual 652, 3), (.istore 6, 2), (.aload_n 0, 1), (.aload_n 0, 1), (.getfield 53, 3), (.iload 5, 2), (.iaload, 1), (.aload_n 0, 1), (.getfield 53, 3), (.iload 5, 2), (.iconst 1, 1), (.iadd, 1), (.iaload, 1), (.iconst 0, 1), (.iconst 0, 1), (.iconst 0, 1), (.invokevirtual 319, 3), (.aload_n 0, 1), (.getfield 28, 3), (.iload 6, 2), (.aload_n 0, 1), (.getfield 13, 3), (.aload_n 0, 1), (.getfield 266, 3), (.invokestatic 374, 3), (.aload_n 0, 1), (.dup, 1), (.getfield 266, 3), (.iconst 1, 1), (.iadd, 1), (.putfield 266, 3), (.aload_n 0, 1), (.getfield 49, 3), (.iload_n 3, 1), (.aload_n 0, 1), (.getfield 49, 3), (.iload_n 3, 1), (.laload, 1), (.lconst 1, 1), (.ladd, 1), (.lastore, 1)]),
  (311, [(.iconst 0, 1), (.istore 5, 2)]),
  (314, [(.iload 5, 2), (.iconst 5, 1), (.if_icmp .ge 27, 3), (.aload_n 0, 1), (.getfield 62, 3), (.iload 5, 2), (.aload_n 0, 1), (.getfield 46, 3), (.iload_n 1, 1), (.iconst 1, 1), (.iadd, 1), (.iload 5, 2), (.iadd, 1), (.iaload, 1), (.iastore, 1), (.iinc 5 1, 3), (.goto (-27), 3)]),
  (344, [(.aload_n 0, 1), (.aload_n 0, 1), (.getfield 62, 3), (.iconst 0, 1), (.invokevirtual 430, 3), (.return_, 1)])]
def cf_X12_give : Instr → Option rx_C := rx_lkc [(408, (2, some 11, 0, 0, f_X12_isFull)), (423, (3, some 11, 0, 0, f_X12_fail)), (507, (2, some 11, 0, 0, f_X12_pushNumber)), (652, (3, some 11, 0, 0, f_X12_keyAt)), (319, (6, some 11, 0, 0, f_X12_push)), (430, (3, some 11, 0, 0, f_X12_enter))] [(374, (4, none, 0, 0, f_X12_copy))] []
def f_X12_give : rx_F := rx_fn (rx_lkk kC_X12) (rx_lkf fL_X12) (rx_lkf fP_X12) (rx_lkg gS_X12) (rx_lkg fG_X12) (rx_lkw nW_X12) cf_X12_give none 0 0 7 kd_X12_give rx_fu
theorem m_X12_give (l : Launch) : rx_M l yX12_give (Cond.code yX12_give cX12_give 7 none :: rx_WT) { frames := 5, cells := 0, slots := 0, locals := 117 } f_X12_give := rx_met rx_fu (by decide +kernel) kC_X12_ok gS_X12_ok fG_X12_ok fL_X12_ok (fP_X12_ok _) nW_X12_ok rx_ar (by decide +kernel) (rx_lkc_of (rx_n1 (rx_caV 1 11 (m_X12_isFull l) w_X12_isFull_c w_X12_isFull_n (rx_in 1948 (by decide +kernel) rfl) w_X12_isFull_i w_X12_isFull_s w_X12_isFull_d (by decide) rfl rfl) (rx_n1 (rx_caV 2 11 (m_X12_fail l) w_X12_fail_c w_X12_fail_n (rx_in 1940 (by decide +kernel) rfl) w_X12_fail_i w_X12_fail_s w_X12_fail_d (by decide) rfl rfl) (rx_n1 (rx_caV 1 11 (m_X12_pushNumber l) w_X12_pushNumber_c w_X12_pushNumber_n (rx_in 2000 (by decide +kernel) rfl) w_X12_pushNumber_i w_X12_pushNumber_s w_X12_pushNumber_d (by decide) rfl rfl) (rx_n1 (rx_caV 2 11 (m_X12_keyAt l) w_X12_keyAt_c w_X12_keyAt_n (rx_in 2263 (by decide +kernel) rfl) w_X12_keyAt_i w_X12_keyAt_s w_X12_keyAt_d (by decide) rfl rfl) (rx_n1 (rx_caV 5 11 (m_X12_push l) w_X12_push_c w_X12_push_n (rx_in 1956 (by decide +kernel) rfl) w_X12_push_i w_X12_push_s w_X12_push_d (by decide) rfl rfl) (rx_n1 (rx_caV 2 11 (m_X12_enter l) w_X12_enter_c w_X12_enter_n (rx_in 2179 (by decide +kernel) rfl) w_X12_enter_i w_X12_enter_s w_X12_enter_d (by decide) rfl rfl) rx_n0)))))) (rx_n1 (rx_caS 4 (m_X12_copy l) w_X12_copy_c w_X12_copy_n (rx_in 1891 (by decide +kernel) rfl) w_X12_copy_t w_X12_copy_d (by decide)) rx_n0) rx_n0)
theorem w_X12_give_c : Cond.code yX12_give cX12_give 7 none ∈ rx_WT := rx_in 2270 (by decide +kernel) rfl
theorem w_X12_give_n : Cond.initialized yX12_give.cls ∈ rx_WT := rx_in 209 (by decide +kernel) rfl
theorem w_X12_give_i : Cond.instanceMethod yX12_give ∈ rx_WT := rx_in 2269 (by decide +kernel) rfl
theorem w_X12_give_s : Cond.selects yX12_give.cls yX12_give yX12_give ∈ rx_WT := rx_in 191 (by decide +kernel) rfl
theorem w_X12_give_d : yX12_give.cls ≠ "java/lang/invoke/MethodHandle" ∧ yX12_give.cls ≠ "java/lang/invoke/VarHandle" ∧ (parseMethodDescriptor yX12_give.desc).map (fun d => d.parameters.length) = some 3 := by decide +kernel
def kd_X12_round : List (Nat × List (Instr × Nat)) := [(0, [(.aload_n 0, 1), (.getfield 290, 3), (.iconst 1, 1), (.isub, 1), (.istore_n 3, 1), (.iload_n 2, 1), (.iconst 3, 1), (.if_icmp .ne 76, 3), (.aload_n 0, 1), (.getfield 46, 3), (.iload_n 1, 1), (.bipush 6, 2), (.iadd, 1), (.iaload, 1), (.istore 4, 2), (.iload 4, 2), (.ifCond .le 26, 3), (.aload_n 0, 1), (.getfield 49, 3), (.iload_n 3, 1), (.laload, 1), (.aload_n 0, 1), (.getfield 46, 3), (.iload_n 1, 1), (.bipush 7, 2), (.iadd, 1), (.iaload, 1), (.i2l, 1), (.lcmp, 1), (.ifCond .le 37, 3), (.goto 23, 3)]),
  (51, [(.aload_n 0, 1), (.getfield 49, 3), (.iload_n 3, 1), (.laload, 1), (.aload_n 0, 1), (.getfield 46, 3), (.iload_n 1, 1), (.bipush 7, 2), (.iadd, 1), (.iaload, 1), (.i2l, 1), (.lcmp, 1), (.ifCond .ge 14, 3)]),
  (71, [(.aload_n 0, 1), (.dup, 1), (.getfield 290, 3), (.iconst 1, 1), (.isub, 1), (.putfield 290, 3), (.return_, 1)]),
  (82, [(.goto 151, 3)]),
  (85, [(.iload_n 2, 1), (.iconst 4, 1), (.if_icmp .ne 25, 3), (.aload_n 0, 1), (.getfield 49, 3), (.iload_n 3, 1), (.laload, 1), (.lconst 0, 1), (.lcmp, 1), (.ifCond .ne 135, 3), (.aload_n 0, 1), (.dup, 1), (.getfield 290, 3), (.iconst 1, 1), (.isub, 1), (.putfield 290, 3), (.return_, 1)]),
  (112, [(.iload_n 2, 1), (.bipush 6, 2), (.if_icmp .ne 34, 3), (.aload_n 0, 1), (.getfield 49, 3), (.iload_n 3, 1), (.laload, 1), (.aload_n 0, 1), (.getfield 46, 3), (.iload_n 1, 1), (.bipush 8, 2), (.iadd, 1), (.iaload, 1), (.i2l, 1), (.lcmp, 1), (.ifCond .ne 98, 3), (.aload_n 0, 1), (.dup, 1), (.getfield 290, 3), (.iconst 1, 1), (.isub, 1), (.putfield 290, 3), (.return_, 1)]),
  (149, [(.iload_n 2, 1), (.bipush 7, 2), (.if_icmp .ne 81, 3)]),
  (155, [(.aload_n 0, 1), (.getfield 49, 3), (.iload_n 3, 1), (.laload, 1), (.aload_n 0, 1), (.getfield 46, 3), (.iload_n 1, 1), (.bipush 8, 2), (.iadd, 1), (.iaload, 1), (.i2l, 1), (.lcmp, 1), (.ifCond .ge 30, 3), (.aload_n 0, 1), (.iload_n 3, 1), (.iload_n 1, 1), (.invokevirtual 652, 3), (.iconst (-1), 1), (.if_icmp .ne 20, 3), (.aload_n 0, 1), (.getfield 49, 3), (.iload_n 3, 1), (.aload_n 0, 1), (.getfield 49, 3), (.iload_n 3, 1), (.laload, 1), (.lconst 1, 1), (.ladd, 1), (.lastore, 1), (.goto (-44), 3)]),
  (202, [(.aload_n 0, 1), (.getfield 49, 3), (.iload_n 3, 1), (.laload, 1), (.aload_n 0, 1), (.getfield 46, 3), (.iload_n 1, 1), (.bipush 8, 2), (.iadd, 1), (.iaload, 1), (.i2l, 1), (.lcmp, 1), (.ifCond .ne 14, 3), (.aload_n 0, 1), (.dup, 1), (.getfield 290, 3), (.iconst 1, 1), (.isub, 1), (.putfield 290, 3), (.return_, 1)]),
  (233, [(.aload_n 0, 1), (.getfield 287, 3), (.aload_n 0, 1), (.getfield 434, 3), (.if_icmp .ne 9, 3), (.aload_n 0, 1), (.iconst 1, 1), (.putfield 405, 3), (.return_, 1)]),
  (250, [(.aload_n 0, 1), (.dup, 1), (.getfield 287, 3), (.iconst 1, 1), (.iadd, 1), (.putfield 287, 3), (.aload_n 0, 1), (.iload_n 1, 1), (.iload_n 2, 1), (.iload_n 3, 1), (.invokevirtual 655, 3), (.return_, 1)])]
def cf_X12_round : Instr → Option rx_C := rx_lkc [(652, (3, some 11, 0, 0, f_X12_keyAt)), (655, (4, some 11, 0, 0, f_X12_give))] [] []
def f_X12_round : rx_F := rx_fn (rx_lkk kC_X12) (rx_lkf fL_X12) (rx_lkf fP_X12) (rx_lkg gS_X12) (rx_lkg fG_X12) (rx_lkw nW_X12) cf_X12_round none 0 0 5 kd_X12_round rx_fu
theorem m_X12_round (l : Launch) : rx_M l yX12_round (Cond.code yX12_round cX12_round 5 none :: rx_WT) { frames := 6, cells := 0, slots := 0, locals := 143 } f_X12_round := rx_met rx_fu (by decide +kernel) kC_X12_ok gS_X12_ok fG_X12_ok fL_X12_ok (fP_X12_ok _) nW_X12_ok rx_ar (by decide +kernel) (rx_lkc_of (rx_n1 (rx_caV 2 11 (m_X12_keyAt l) w_X12_keyAt_c w_X12_keyAt_n (rx_in 2263 (by decide +kernel) rfl) w_X12_keyAt_i w_X12_keyAt_s w_X12_keyAt_d (by decide) rfl rfl) (rx_n1 (rx_caV 3 11 (m_X12_give l) w_X12_give_c w_X12_give_n (rx_in 2267 (by decide +kernel) rfl) w_X12_give_i w_X12_give_s w_X12_give_d (by decide) rfl rfl) rx_n0)) rx_n0 rx_n0)
theorem w_X12_round_c : Cond.code yX12_round cX12_round 5 none ∈ rx_WT := rx_in 2262 (by decide +kernel) rfl
theorem w_X12_round_n : Cond.initialized yX12_round.cls ∈ rx_WT := rx_in 209 (by decide +kernel) rfl
theorem w_X12_round_i : Cond.instanceMethod yX12_round ∈ rx_WT := rx_in 2261 (by decide +kernel) rfl
theorem w_X12_round_s : Cond.selects yX12_round.cls yX12_round yX12_round ∈ rx_WT := rx_in 189 (by decide +kernel) rfl
theorem w_X12_round_d : yX12_round.cls ≠ "java/lang/invoke/MethodHandle" ∧ yX12_round.cls ≠ "java/lang/invoke/VarHandle" ∧ (parseMethodDescriptor yX12_round.desc).map (fun d => d.parameters.length) = some 2 := by decide +kernel
def kd_X12_nextToken : List (Nat × List (Instr × Nat)) := [(0, [(.aload_n 0, 1), (.invokevirtual 393, 3), (.aload_n 0, 1), (.getfield 326, 3), (.aload_n 0, 1), (.getfield 329, 3), (.if_icmp .lt 9, 3), (.aload_n 0, 1), (.iconst 0, 1), (.putfield 405, 3), (.return_, 1)]),
  (21, [(.aload_n 0, 1), (.getfield 287, 3), (.aload_n 0, 1), (.getfield 434, 3), (.if_icmp .ne 9, 3), (.aload_n 0, 1), (.iconst 1, 1), (.putfield 405, 3), (.return_, 1)]),
  (38, [(.aload_n 0, 1), (.dup, 1), (.getfield 287, 3), (.iconst 1, 1), (.iadd, 1), (.putfield 287, 3), (.aload_n 0, 1), (.invokevirtual 658, 3), (.aload_n 0, 1), (.getfield 349, 3), (.ifCond .le 15, 3), (.aload_n 0, 1), (.aload_n 0, 1), (.getfield 349, 3), (.iconst (-1), 1), (.invokevirtual 423, 3), (.goto 20, 3)]),
  (71, [(.aload_n 0, 1), (.getfield 56, 3), (.iconst 0, 1), (.aload_n 0, 1), (.getfield 62, 3), (.iconst 0, 1), (.invokestatic 374, 3), (.aload_n 0, 1), (.invokevirtual 661, 3)]),
  (88, [(.return_, 1)])]
def cf_X12_nextToken : Instr → Option rx_C := rx_lkc [(393, (1, some 11, 0, 0, f_X12_passBlanks)), (658, (1, some 11, 0, 0, f_X12_readToken)), (423, (3, some 11, 0, 0, f_X12_fail)), (661, (1, some 11, 0, 0, f_X12_handle))] [(374, (4, none, 0, 0, f_X12_copy))] []
def f_X12_nextToken : rx_F := rx_fn (rx_lkk kC_X12) (rx_lkf fL_X12) (rx_lkf fP_X12) (rx_lkg gS_X12) (rx_lkg fG_X12) (rx_lkw nW_X12) cf_X12_nextToken none 0 0 1 kd_X12_nextToken rx_fu
theorem m_X12_nextToken (l : Launch) : rx_M l yX12_nextToken (Cond.code yX12_nextToken cX12_nextToken 1 none :: rx_WT) { frames := 8, cells := 0, slots := 0, locals := 188 } f_X12_nextToken := rx_met rx_fu (by decide +kernel) kC_X12_ok gS_X12_ok fG_X12_ok fL_X12_ok (fP_X12_ok _) nW_X12_ok rx_ar (by decide +kernel) (rx_lkc_of (rx_n1 (rx_caV 0 11 (m_X12_passBlanks l) w_X12_passBlanks_c w_X12_passBlanks_n (rx_in 1875 (by decide +kernel) rfl) w_X12_passBlanks_i w_X12_passBlanks_s w_X12_passBlanks_d (by decide) rfl rfl) (rx_n1 (rx_caV 0 11 (m_X12_readToken l) w_X12_readToken_c w_X12_readToken_n (rx_in 1879 (by decide +kernel) rfl) w_X12_readToken_i w_X12_readToken_s w_X12_readToken_d (by decide) rfl rfl) (rx_n1 (rx_caV 2 11 (m_X12_fail l) w_X12_fail_c w_X12_fail_n (rx_in 1940 (by decide +kernel) rfl) w_X12_fail_i w_X12_fail_s w_X12_fail_d (by decide) rfl rfl) (rx_n1 (rx_caV 0 11 (m_X12_handle l) w_X12_handle_c w_X12_handle_n (rx_in 1960 (by decide +kernel) rfl) w_X12_handle_i w_X12_handle_s w_X12_handle_d (by decide) rfl rfl) rx_n0)))) (rx_n1 (rx_caS 4 (m_X12_copy l) w_X12_copy_c w_X12_copy_n (rx_in 1891 (by decide +kernel) rfl) w_X12_copy_t w_X12_copy_d (by decide)) rx_n0) rx_n0)
theorem w_X12_nextToken_c : Cond.code yX12_nextToken cX12_nextToken 1 none ∈ rx_WT := rx_in 1874 (by decide +kernel) rfl
theorem w_X12_nextToken_n : Cond.initialized yX12_nextToken.cls ∈ rx_WT := rx_in 209 (by decide +kernel) rfl
theorem w_X12_nextToken_i : Cond.instanceMethod yX12_nextToken ∈ rx_WT := rx_in 1873 (by decide +kernel) rfl
theorem w_X12_nextToken_s : Cond.selects yX12_nextToken.cls yX12_nextToken yX12_nextToken ∈ rx_WT := rx_in 96 (by decide +kernel) rfl
theorem w_X12_nextToken_d : yX12_nextToken.cls ≠ "java/lang/invoke/MethodHandle" ∧ yX12_nextToken.cls ≠ "java/lang/invoke/VarHandle" ∧ (parseMethodDescriptor yX12_nextToken.desc).map (fun d => d.parameters.length) = some 0 := by decide +kernel
def kd_X12_nextValue : List (Nat × List (Instr × Nat)) := [(0, [(.aload_n 0, 1), (.getfield 287, 3), (.aload_n 0, 1), (.getfield 434, 3), (.if_icmp .ne 9, 3), (.aload_n 0, 1), (.iconst 1, 1), (.putfield 405, 3), (.return_, 1)]),
  (17, [(.aload_n 0, 1), (.dup, 1), (.getfield 287, 3), (.iconst 1, 1), (.iadd, 1), (.putfield 287, 3), (.aload_n 0, 1), (.getfield 31, 3), (.aload_n 0, 1), (.getfield 46, 3), (.iload_n 1, 1), (.iconst 1, 1), (.iadd, 1), (.iaload, 1), (.aload_n 0, 1), (.getfield 46, 3), (.iload_n 1, 1), (.iconst 3, 1), (.iadd, 1), (.iaload, 1), (.iadd, 1), (.aload_n 0, 1), (.getfield 62, 3), (.iconst 0, 1), (.invokestatic 374, 3), (.aload_n 0, 1), (.getfield 46, 3), (.iload_n 1, 1), (.iconst 3, 1), (.iadd, 1), (.dup2, 1), (.iaload, 1), (.iconst 1, 1), (.iadd, 1), (.iastore, 1), (.aload_n 0, 1), (.getfield 46, 3), (.iload_n 1, 1), (.iconst 3, 1), (.iadd, 1), (.iaload, 1), (.aload_n 0, 1), (.getfield 46, 3), (.iload_n 1, 1), (.iconst 2, 1), (.iadd, 1), (.iaload, 1), (.if_icmp .ne 13, 3), (.aload_n 0, 1), (.dup, 1), (.getfield 290, 3), (.iconst 1, 1), (.isub, 1), (.putfield 290, 3)]),
  (97, [(.aload_n 0, 1), (.invokevirtual 661, 3), (.return_, 1)])]
def cf_X12_nextValue : Instr → Option rx_C := rx_lkc [(661, (1, some 11, 0, 0, f_X12_handle))] [(374, (4, none, 0, 0, f_X12_copy))] []
def f_X12_nextValue : rx_F := rx_fn (rx_lkk kC_X12) (rx_lkf fL_X12) (rx_lkf fP_X12) (rx_lkg gS_X12) (rx_lkg fG_X12) (rx_lkw nW_X12) cf_X12_nextValue none 0 0 2 kd_X12_nextValue rx_fu
theorem m_X12_nextValue (l : Launch) : rx_M l yX12_nextValue (Cond.code yX12_nextValue cX12_nextValue 2 none :: rx_WT) { frames := 8, cells := 0, slots := 0, locals := 188 } f_X12_nextValue := rx_met rx_fu (by decide +kernel) kC_X12_ok gS_X12_ok fG_X12_ok fL_X12_ok (fP_X12_ok _) nW_X12_ok rx_ar (by decide +kernel) (rx_lkc_of (rx_n1 (rx_caV 0 11 (m_X12_handle l) w_X12_handle_c w_X12_handle_n (rx_in 1960 (by decide +kernel) rfl) w_X12_handle_i w_X12_handle_s w_X12_handle_d (by decide) rfl rfl) rx_n0) (rx_n1 (rx_caS 4 (m_X12_copy l) w_X12_copy_c w_X12_copy_n (rx_in 1891 (by decide +kernel) rfl) w_X12_copy_t w_X12_copy_d (by decide)) rx_n0) rx_n0)
theorem w_X12_nextValue_c : Cond.code yX12_nextValue cX12_nextValue 2 none ∈ rx_WT := rx_in 2258 (by decide +kernel) rfl
theorem w_X12_nextValue_n : Cond.initialized yX12_nextValue.cls ∈ rx_WT := rx_in 209 (by decide +kernel) rfl
theorem w_X12_nextValue_i : Cond.instanceMethod yX12_nextValue ∈ rx_WT := rx_in 2257 (by decide +kernel) rfl
theorem w_X12_nextValue_s : Cond.selects yX12_nextValue.cls yX12_nextValue yX12_nextValue ∈ rx_WT := rx_in 188 (by decide +kernel) rfl
theorem w_X12_nextValue_d : yX12_nextValue.cls ≠ "java/lang/invoke/MethodHandle" ∧ yX12_nextValue.cls ≠ "java/lang/invoke/VarHandle" ∧ (parseMethodDescriptor yX12_nextValue.desc).map (fun d => d.parameters.length) = some 1 := by decide +kernel
def kd_X12_run : List (Nat × List (Instr × Nat)) := [(0, [(.aload_n 0, 1), (.iload_n 1, 1), (.ifCond .lt 10, 3), (.iload_n 1, 1), (.sipush 1000, 3), (.if_icmp .le 7, 3)]),
  (12, [(.iconst 1, 1), (.goto 4, 3)]),
  (16, [(.iconst 0, 1)]),
  (17, [(.putfield 71, 3), (.aload_n 0, 1), (.getfield 71, 3), (.ifCond .le 5, 3), (.iconst 0, 1), (.ireturn, 1)]),
  (29, [(.aload_n 0, 1), (.aload_n 0, 1), (.getfield 323, 3), (.putfield 329, 3), (.aload_n 0, 1), (.iconst 0, 1), (.putfield 323, 3), (.aload_n 0, 1), (.iconst 0, 1), (.putfield 326, 3), (.aload_n 0, 1), (.iconst 0, 1), (.putfield 287, 3), (.aload_n 0, 1), (.iload_n 1, 1), (.putfield 434, 3), (.aload_n 0, 1), (.iconst (-1), 1), (.putfield 405, 3), (.aload_n 0, 1), (.iconst 1, 1), (.putfield 290, 3), (.aload_n 0, 1), (.getfield 46, 3), (.iconst 0, 1), (.iconst 0, 1), (.iastore, 1)]),
  (74, [(.aload_n 0, 1), (.getfield 405, 3), (.iconst (-1), 1), (.if_icmp .ne 95, 3), (.bipush 12, 2), (.aload_n 0, 1), (.getfield 290, 3), (.iconst 1, 1), (.isub, 1), (.imul, 1), (.istore_n 2, 1), (.aload_n 0, 1), (.getfield 46, 3), (.iload_n 2, 1), (.iaload, 1), (.istore_n 3, 1), (.iload_n 3, 1), (.ifCond .ne 10, 3), (.aload_n 0, 1), (.invokevirtual 664, 3), (.goto 64, 3)]),
  (110, [(.iload_n 3, 1), (.iconst 1, 1), (.if_icmp .ne 11, 3), (.aload_n 0, 1), (.iload_n 2, 1), (.invokevirtual 667, 3), (.goto 51, 3)]),
  (123, [(.iload_n 3, 1), (.iconst 2, 1), (.if_icmp .ne 40, 3), (.aload_n 0, 1), (.dup, 1), (.getfield 290, 3), (.iconst 1, 1), (.isub, 1), (.putfield 290, 3), (.aload_n 0, 1), (.iconst 1, 1), (.invokevirtual 408, 3), (.ifCond .eq 14, 3), (.aload_n 0, 1), (.bipush 13, 2), (.bipush 65, 2), (.invokevirtual 423, 3), (.goto 17, 3)]),
  (157, [(.aload_n 0, 1), (.iconst 0, 1), (.invokevirtual 411, 3), (.goto 9, 3)]),
  (165, [(.aload_n 0, 1), (.iload_n 2, 1), (.iload_n 3, 1), (.invokevirtual 670, 3)]),
  (171, [(.goto (-97), 3)]),
  (174, [(.aload_n 0, 1), (.iconst 0, 1), (.putfield 290, 3), (.aload_n 0, 1), (.getfield 405, 3), (.ireturn, 1)])]
def cf_X12_run : Instr → Option rx_C := rx_lkc [(664, (1, some 11, 0, 0, f_X12_nextToken)), (667, (2, some 11, 0, 0, f_X12_nextValue)), (408, (2, some 11, 0, 0, f_X12_isFull)), (423, (3, some 11, 0, 0, f_X12_fail)), (411, (2, some 11, 0, 0, f_X12_pushBool)), (670, (3, some 11, 0, 0, f_X12_round))] [] []
def f_X12_run : rx_F := rx_fn (rx_lkk kC_X12) (rx_lkf fL_X12) (rx_lkf fP_X12) (rx_lkg gS_X12) (rx_lkg fG_X12) (rx_lkw nW_X12) cf_X12_run (some .int) 0 0 4 kd_X12_run rx_fu
theorem m_X12_run (l : Launch) : rx_M l yX12_run (Cond.code yX12_run cX12_run 4 (some .int) :: rx_WT) { frames := 9, cells := 0, slots := 0, locals := 209 } f_X12_run := rx_met rx_fu (by decide +kernel) kC_X12_ok gS_X12_ok fG_X12_ok fL_X12_ok (fP_X12_ok _) nW_X12_ok rx_ar (by decide +kernel) (rx_lkc_of (rx_n1 (rx_caV 0 11 (m_X12_nextToken l) w_X12_nextToken_c w_X12_nextToken_n (rx_in 1871 (by decide +kernel) rfl) w_X12_nextToken_i w_X12_nextToken_s w_X12_nextToken_d (by decide) rfl rfl) (rx_n1 (rx_caV 1 11 (m_X12_nextValue l) w_X12_nextValue_c w_X12_nextValue_n (rx_in 2255 (by decide +kernel) rfl) w_X12_nextValue_i w_X12_nextValue_s w_X12_nextValue_d (by decide) rfl rfl) (rx_n1 (rx_caV 1 11 (m_X12_isFull l) w_X12_isFull_c w_X12_isFull_n (rx_in 1948 (by decide +kernel) rfl) w_X12_isFull_i w_X12_isFull_s w_X12_isFull_d (by decide) rfl rfl) (rx_n1 (rx_caV 2 11 (m_X12_fail l) w_X12_fail_c w_X12_fail_n (rx_in 1940 (by decide +kernel) rfl) w_X12_fail_i w_X12_fail_s w_X12_fail_d (by decide) rfl rfl) (rx_n1 (rx_caV 1 11 (m_X12_pushBool l) w_X12_pushBool_c w_X12_pushBool_n (rx_in 1952 (by decide +kernel) rfl) w_X12_pushBool_i w_X12_pushBool_s w_X12_pushBool_d (by decide) rfl rfl) (rx_n1 (rx_caV 2 11 (m_X12_round l) w_X12_round_c w_X12_round_n (rx_in 2259 (by decide +kernel) rfl) w_X12_round_i w_X12_round_s w_X12_round_d (by decide) rfl rfl) rx_n0)))))) rx_n0 rx_n0)
theorem w_X12_run_c : Cond.code yX12_run cX12_run 4 (some .int) ∈ rx_WT := rx_in 1870 (by decide +kernel) rfl
theorem w_X12_run_n : Cond.initialized yX12_run.cls ∈ rx_WT := rx_in 209 (by decide +kernel) rfl
theorem w_X12_run_i : Cond.instanceMethod yX12_run ∈ rx_WT := rx_in 1868 (by decide +kernel) rfl
theorem w_X12_run_s : Cond.selects yX12_run.cls yX12_run yX12_run ∈ rx_WT := rx_in 1869 (by decide +kernel) rfl
theorem w_X12_run_d : yX12_run.cls ≠ "java/lang/invoke/MethodHandle" ∧ yX12_run.cls ≠ "java/lang/invoke/VarHandle" ∧ (parseMethodDescriptor yX12_run.desc).map (fun d => d.parameters.length) = some 1 := by decide +kernel
def kd_X12_count : List (Nat × List (Instr × Nat)) := [(0, [(.aload_n 0, 1), (.iload_n 1, 1), (.ifCond .lt 9, 3), (.iload_n 1, 1), (.bipush 7, 2), (.if_icmp .le 7, 3)]),
  (11, [(.iconst 1, 1), (.goto 4, 3)]),
  (15, [(.iconst 0, 1)]),
  (16, [(.putfield 71, 3), (.aload_n 0, 1), (.getfield 71, 3), (.ifCond .le 5, 3), (.iconst 0, 1), (.ireturn, 1)]),
  (28, [(.iload_n 1, 1), (.iconst 4, 1), (.if_icmp .ge 43, 3), (.iload_n 1, 1), (.ifCond .ne 10, 3), (.aload_n 0, 1), (.getfield 266, 3), (.goto 31, 3)]),
  (44, [(.iload_n 1, 1), (.iconst 1, 1), (.if_icmp .ne 10, 3), (.aload_n 0, 1), (.getfield 309, 3), (.goto 19, 3)]),
  (56, [(.iload_n 1, 1), (.iconst 2, 1), (.if_icmp .ne 10, 3), (.aload_n 0, 1), (.getfield 278, 3), (.goto 7, 3)]),
  (68, [(.aload_n 0, 1), (.getfield 287, 3)]),
  (72, [(.ireturn, 1)]),
  (73, [(.iload_n 1, 1), (.iconst 4, 1), (.if_icmp .ne 10, 3), (.aload_n 0, 1), (.getfield 75, 3), (.goto 32, 3)]),
  (85, [(.iload_n 1, 1), (.iconst 5, 1), (.if_icmp .ne 10, 3), (.aload_n 0, 1), (.getfield 269, 3), (.goto 20, 3)]),
  (97, [(.iload_n 1, 1), (.bipush 6, 2), (.if_icmp .ne 10, 3), (.aload_n 0, 1), (.getfield 272, 3), (.goto 7, 3)]),
  (110, [(.aload_n 0, 1), (.getfield 302, 3)]),
  (114, [(.ireturn, 1)])]
def cf_X12_count : Instr → Option rx_C := rx_lkc [] [] []
def f_X12_count : rx_F := rx_fn (rx_lkk kC_X12) (rx_lkf fL_X12) (rx_lkf fP_X12) (rx_lkg gS_X12) (rx_lkg fG_X12) (rx_lkw nW_X12) cf_X12_count (some .int) 0 0 2 kd_X12_count rx_fu
theorem m_X12_count (l : Launch) : rx_M l yX12_count (Cond.code yX12_count cX12_count 2 (some .int) :: rx_WT) { frames := 0, cells := 0, slots := 0, locals := 0 } f_X12_count := rx_met rx_fu (by decide +kernel) kC_X12_ok gS_X12_ok fG_X12_ok fL_X12_ok (fP_X12_ok _) nW_X12_ok rx_ar (by decide +kernel) (rx_lkc_of rx_n0 rx_n0 rx_n0)
theorem w_X12_count_c : Cond.code yX12_count cX12_count 2 (some .int) ∈ rx_WT := rx_in 2274 (by decide +kernel) rfl
theorem w_X12_count_n : Cond.initialized yX12_count.cls ∈ rx_WT := rx_in 209 (by decide +kernel) rfl
theorem w_X12_count_i : Cond.instanceMethod yX12_count ∈ rx_WT := rx_in 2272 (by decide +kernel) rfl
theorem w_X12_count_s : Cond.selects yX12_count.cls yX12_count yX12_count ∈ rx_WT := rx_in 2273 (by decide +kernel) rfl
theorem w_X12_count_d : yX12_count.cls ≠ "java/lang/invoke/MethodHandle" ∧ yX12_count.cls ≠ "java/lang/invoke/VarHandle" ∧ (parseMethodDescriptor yX12_count.desc).map (fun d => d.parameters.length) = some 1 := by decide +kernel
def kd_X12_told : List (Nat × List (Instr × Nat)) := [(0, [(.aload_n 0, 1), (.iconst 5, 1), (.iload_n 1, 1), (.imul, 1), (.iaload, 1), (.istore_n 3, 1), (.iload_n 2, 1), (.iconst 3, 1), (.if_icmp .ne 26, 3), (.iload_n 3, 1), (.iconst 5, 1), (.if_icmp .eq 9, 3), (.iload_n 3, 1), (.bipush 6, 2), (.if_icmp .ne 13, 3)]),
  (22, [(.aload_n 0, 1), (.iconst 5, 1), (.iload_n 1, 1), (.imul, 1), (.iconst 3, 1), (.iadd, 1), (.iaload, 1), (.goto 4, 3)]),
  (32, [(.iconst 0, 1)]),
  (33, [(.ireturn, 1)]),
  (34, [(.aload_n 0, 1), (.iconst 5, 1), (.iload_n 1, 1), (.imul, 1), (.iload_n 2, 1), (.iadd, 1), (.iaload, 1), (.ireturn, 1)])]
def cf_X12_told : Instr → Option rx_C := rx_lkc [] [] []
def f_X12_told : rx_F := rx_fn (rx_lkk kC_X12) (rx_lkf fL_X12) (rx_lkf fP_X12) (rx_lkg gS_X12) (rx_lkg fG_X12) (rx_lkw nW_X12) cf_X12_told (some .int) 0 0 4 kd_X12_told rx_fu
theorem m_X12_told (l : Launch) : rx_M l yX12_told (Cond.code yX12_told cX12_told 4 (some .int) :: rx_WT) { frames := 0, cells := 0, slots := 0, locals := 0 } f_X12_told := rx_met rx_fu (by decide +kernel) kC_X12_ok gS_X12_ok fG_X12_ok fL_X12_ok (fP_X12_ok _) nW_X12_ok rx_ar (by decide +kernel) (rx_lkc_of rx_n0 rx_n0 rx_n0)
theorem w_X12_told_c : Cond.code yX12_told cX12_told 4 (some .int) ∈ rx_WT := rx_in 2281 (by decide +kernel) rfl
theorem w_X12_told_n : Cond.initialized yX12_told.cls ∈ rx_WT := rx_in 209 (by decide +kernel) rfl
theorem w_X12_told_t : Cond.static yX12_told ∈ rx_WT := rx_in 2280 (by decide +kernel) rfl
theorem w_X12_told_d : yX12_told.cls ≠ "java/lang/invoke/MethodHandle" ∧ yX12_told.cls ≠ "java/lang/invoke/VarHandle" ∧ (parseMethodDescriptor yX12_told.desc).map (fun d => d.parameters.length) = some 3 := by decide +kernel
def kd_X12_at : List (Nat × List (Instr × Nat)) := [(0, [(.aload_n 0, 1), (.iload_n 1, 1), (.ifCond .lt 11, 3), (.iload_n 1, 1), (.aload_n 0, 1), (.getfield 266, 3), (.if_icmp .lt 7, 3)]),
  (13, [(.iconst 1, 1), (.goto 17, 3)]),
  (17, [(.iload_n 2, 1), (.ifCond .lt 8, 3), (.iload_n 2, 1), (.iconst 3, 1), (.if_icmp .le 7, 3)]),
  (26, [(.iconst 2, 1), (.goto 4, 3)]),
  (30, [(.iconst 0, 1)]),
  (31, [(.putfield 71, 3), (.aload_n 0, 1), (.getfield 71, 3), (.ifCond .le 7, 3), (.iconst 0, 1), (.goto 16, 3)]),
  (45, [(.aload_n 0, 1), (.getfield 13, 3), (.aload_n 0, 1), (.iload_n 1, 1), (.invokevirtual 312, 3), (.iload_n 2, 1), (.invokestatic 673, 3)]),
  (58, [(.ireturn, 1)])]
def cf_X12_at : Instr → Option rx_C := rx_lkc [(312, (2, some 11, 0, 0, f_X12_top))] [(673, (3, none, 0, 0, f_X12_told))] []
def f_X12_at : rx_F := rx_fn (rx_lkk kC_X12) (rx_lkf fL_X12) (rx_lkf fP_X12) (rx_lkg gS_X12) (rx_lkg fG_X12) (rx_lkw nW_X12) cf_X12_at (some .int) 0 0 3 kd_X12_at rx_fu
theorem m_X12_at (l : Launch) : rx_M l yX12_at (Cond.code yX12_at cX12_at 3 (some .int) :: rx_WT) { frames := 1, cells := 0, slots := 0, locals := 23 } f_X12_at := rx_met rx_fu (by decide +kernel) kC_X12_ok gS_X12_ok fG_X12_ok fL_X12_ok (fP_X12_ok _) nW_X12_ok rx_ar (by decide +kernel) (rx_lkc_of (rx_n1 (rx_caV 1 11 (m_X12_top l) w_X12_top_c w_X12_top_n (rx_in 1972 (by decide +kernel) rfl) w_X12_top_i w_X12_top_s w_X12_top_d (by decide) rfl rfl) rx_n0) (rx_n1 (rx_caS 3 (m_X12_told l) w_X12_told_c w_X12_told_n (rx_in 2279 (by decide +kernel) rfl) w_X12_told_t w_X12_told_d (by decide)) rx_n0) rx_n0)
theorem w_X12_at_c : Cond.code yX12_at cX12_at 3 (some .int) ∈ rx_WT := rx_in 2278 (by decide +kernel) rfl
theorem w_X12_at_n : Cond.initialized yX12_at.cls ∈ rx_WT := rx_in 209 (by decide +kernel) rfl
theorem w_X12_at_i : Cond.instanceMethod yX12_at ∈ rx_WT := rx_in 2276 (by decide +kernel) rfl
theorem w_X12_at_s : Cond.selects yX12_at.cls yX12_at yX12_at ∈ rx_WT := rx_in 2277 (by decide +kernel) rfl
theorem w_X12_at_d : yX12_at.cls ≠ "java/lang/invoke/MethodHandle" ∧ yX12_at.cls ≠ "java/lang/invoke/VarHandle" ∧ (parseMethodDescriptor yX12_at.desc).map (fun d => d.parameters.length) = some 2 := by decide +kernel
def kd_X12_value : List (Nat × List (Instr × Nat)) := [(0, [(.aload_n 0, 1), (.iload_n 1, 1), (.ifCond .lt 11, 3), (.iload_n 1, 1), (.aload_n 0, 1), (.getfield 269, 3), (.if_icmp .lt 7, 3)]),
  (13, [(.iconst 1, 1), (.goto 17, 3)]),
  (17, [(.iload_n 2, 1), (.ifCond .lt 8, 3), (.iload_n 2, 1), (.iconst 3, 1), (.if_icmp .le 7, 3)]),
  (26, [(.iconst 2, 1), (.goto 4, 3)]),
  (30, [(.iconst 0, 1)]),
  (31, [(.putfield 71, 3), (.aload_n 0, 1), (.getfield 71, 3), (.ifCond .le 7, 3), (.iconst 0, 1), (.goto 12, 3)]),
  (45, [(.aload_n 0, 1), (.getfield 31, 3), (.iload_n 1, 1), (.iload_n 2, 1), (.invokestatic 673, 3)]),
  (54, [(.ireturn, 1)])]
def cf_X12_value : Instr → Option rx_C := rx_lkc [] [(673, (3, none, 0, 0, f_X12_told))] []
def f_X12_value : rx_F := rx_fn (rx_lkk kC_X12) (rx_lkf fL_X12) (rx_lkf fP_X12) (rx_lkg gS_X12) (rx_lkg fG_X12) (rx_lkw nW_X12) cf_X12_value (some .int) 0 0 3 kd_X12_value rx_fu
theorem m_X12_value (l : Launch) : rx_M l yX12_value (Cond.code yX12_value cX12_value 3 (some .int) :: rx_WT) { frames := 1, cells := 0, slots := 0, locals := 23 } f_X12_value := rx_met rx_fu (by decide +kernel) kC_X12_ok gS_X12_ok fG_X12_ok fL_X12_ok (fP_X12_ok _) nW_X12_ok rx_ar (by decide +kernel) (rx_lkc_of rx_n0 (rx_n1 (rx_caS 3 (m_X12_told l) w_X12_told_c w_X12_told_n (rx_in 2279 (by decide +kernel) rfl) w_X12_told_t w_X12_told_d (by decide)) rx_n0) rx_n0)
theorem w_X12_value_c : Cond.code yX12_value cX12_value 3 (some .int) ∈ rx_WT := rx_in 2285 (by decide +kernel) rfl
theorem w_X12_value_n : Cond.initialized yX12_value.cls ∈ rx_WT := rx_in 209 (by decide +kernel) rfl
theorem w_X12_value_i : Cond.instanceMethod yX12_value ∈ rx_WT := rx_in 2283 (by decide +kernel) rfl
theorem w_X12_value_s : Cond.selects yX12_value.cls yX12_value yX12_value ∈ rx_WT := rx_in 2284 (by decide +kernel) rfl
theorem w_X12_value_d : yX12_value.cls ≠ "java/lang/invoke/MethodHandle" ∧ yX12_value.cls ≠ "java/lang/invoke/VarHandle" ∧ (parseMethodDescriptor yX12_value.desc).map (fun d => d.parameters.length) = some 2 := by decide +kernel
def kd_X12_octet : List (Nat × List (Instr × Nat)) := [(0, [(.aload_n 0, 1), (.iload_n 1, 1), (.ifCond .lt 11, 3), (.iload_n 1, 1), (.aload_n 0, 1), (.getfield 272, 3), (.if_icmp .lt 7, 3)]),
  (13, [(.iconst 1, 1), (.goto 4, 3)]),
  (17, [(.iconst 0, 1)]),
  (18, [(.putfield 71, 3), (.aload_n 0, 1), (.getfield 71, 3), (.ifCond .le 7, 3), (.iconst 0, 1), (.goto 9, 3)]),
  (32, [(.aload_n 0, 1), (.getfield 34, 3), (.iload_n 1, 1), (.iaload, 1)]),
  (38, [(.ireturn, 1)])]
def cf_X12_octet : Instr → Option rx_C := rx_lkc [] [] []
def f_X12_octet : rx_F := rx_fn (rx_lkk kC_X12) (rx_lkf fL_X12) (rx_lkf fP_X12) (rx_lkg gS_X12) (rx_lkg fG_X12) (rx_lkw nW_X12) cf_X12_octet (some .int) 0 0 2 kd_X12_octet rx_fu
theorem m_X12_octet (l : Launch) : rx_M l yX12_octet (Cond.code yX12_octet cX12_octet 2 (some .int) :: rx_WT) { frames := 0, cells := 0, slots := 0, locals := 0 } f_X12_octet := rx_met rx_fu (by decide +kernel) kC_X12_ok gS_X12_ok fG_X12_ok fL_X12_ok (fP_X12_ok _) nW_X12_ok rx_ar (by decide +kernel) (rx_lkc_of rx_n0 rx_n0 rx_n0)
theorem w_X12_octet_c : Cond.code yX12_octet cX12_octet 2 (some .int) ∈ rx_WT := rx_in 2289 (by decide +kernel) rfl
theorem w_X12_octet_n : Cond.initialized yX12_octet.cls ∈ rx_WT := rx_in 209 (by decide +kernel) rfl
theorem w_X12_octet_i : Cond.instanceMethod yX12_octet ∈ rx_WT := rx_in 2287 (by decide +kernel) rfl
theorem w_X12_octet_s : Cond.selects yX12_octet.cls yX12_octet yX12_octet ∈ rx_WT := rx_in 2288 (by decide +kernel) rfl
theorem w_X12_octet_d : yX12_octet.cls ≠ "java/lang/invoke/MethodHandle" ∧ yX12_octet.cls ≠ "java/lang/invoke/VarHandle" ∧ (parseMethodDescriptor yX12_octet.desc).map (fun d => d.parameters.length) = some 1 := by decide +kernel
def kd_X12_dictionary : List (Nat × List (Instr × Nat)) := [(0, [(.iload_n 1, 1), (.ifCond .lt 31, 3), (.iload_n 1, 1), (.aload_n 0, 1), (.getfield 302, 3), (.if_icmp .ge 23, 3), (.iload_n 2, 1), (.bipush (-2), 2), (.if_icmp .lt 17, 3), (.iload_n 2, 1), (.aload_n 0, 1), (.getfield 22, 3), (.iload_n 1, 1), (.iaload, 1), (.if_icmp .ge 7, 3), (.iconst 1, 1), (.goto 4, 3)]),
  (32, [(.iconst 0, 1)]),
  (33, [(.istore 4, 2), (.aload_n 0, 1), (.iload 4, 2), (.ifCond .ne 7, 3), (.iconst 1, 1), (.goto 21, 3)]),
  (45, [(.iload_n 2, 1), (.ifCond .lt 16, 3), (.iload_n 3, 1), (.ifCond .lt 8, 3), (.iload_n 3, 1), (.iconst 3, 1), (.if_icmp .le 7, 3)]),
  (58, [(.iconst 2, 1), (.goto 4, 3)]),
  (62, [(.iconst 0, 1)]),
  (63, [(.putfield 71, 3), (.aload_n 0, 1), (.getfield 71, 3), (.ifCond .le 5, 3), (.iconst 0, 1), (.ireturn, 1)]),
  (75, [(.iload_n 2, 1), (.ifCond .ge 24, 3), (.iload_n 2, 1), (.iconst (-1), 1), (.if_icmp .ne 12, 3), (.aload_n 0, 1), (.getfield 19, 3), (.iload_n 1, 1), (.iaload, 1), (.goto 9, 3)]),
  (93, [(.aload_n 0, 1), (.getfield 22, 3), (.iload_n 1, 1), (.iaload, 1)]),
  (99, [(.ireturn, 1)]),
  (100, [(.bipush 80, 2), (.iload_n 1, 1), (.imul, 1), (.iload_n 2, 1), (.iadd, 1), (.istore 5, 2), (.iload_n 3, 1), (.iconst 2, 1), (.if_icmp .ge 17, 3), (.aload_n 0, 1), (.getfield 25, 3), (.iconst 2, 1), (.iload 5, 2), (.imul, 1), (.iload_n 3, 1), (.iadd, 1), (.iaload, 1), (.goto 15, 3)]),
  (127, [(.aload_n 0, 1), (.getfield 28, 3), (.iload 5, 2), (.iload_n 3, 1), (.iconst 2, 1), (.isub, 1), (.invokestatic 673, 3)]),
  (139, [(.ireturn, 1)])]
def cf_X12_dictionary : Instr → Option rx_C := rx_lkc [] [(673, (3, none, 0, 0, f_X12_told))] []
def f_X12_dictionary : rx_F := rx_fn (rx_lkk kC_X12) (rx_lkf fL_X12) (rx_lkf fP_X12) (rx_lkg gS_X12) (rx_lkg fG_X12) (rx_lkw nW_X12) cf_X12_dictionary (some .int) 0 0 6 kd_X12_dictionary rx_fu
theorem m_X12_dictionary (l : Launch) : rx_M l yX12_dictionary (Cond.code yX12_dictionary cX12_dictionary 6 (some .int) :: rx_WT) { frames := 1, cells := 0, slots := 0, locals := 23 } f_X12_dictionary := rx_met rx_fu (by decide +kernel) kC_X12_ok gS_X12_ok fG_X12_ok fL_X12_ok (fP_X12_ok _) nW_X12_ok rx_ar (by decide +kernel) (rx_lkc_of rx_n0 (rx_n1 (rx_caS 3 (m_X12_told l) w_X12_told_c w_X12_told_n (rx_in 2279 (by decide +kernel) rfl) w_X12_told_t w_X12_told_d (by decide)) rx_n0) rx_n0)
theorem w_X12_dictionary_c : Cond.code yX12_dictionary cX12_dictionary 6 (some .int) ∈ rx_WT := rx_in 2293 (by decide +kernel) rfl
theorem w_X12_dictionary_n : Cond.initialized yX12_dictionary.cls ∈ rx_WT := rx_in 209 (by decide +kernel) rfl
theorem w_X12_dictionary_i : Cond.instanceMethod yX12_dictionary ∈ rx_WT := rx_in 2291 (by decide +kernel) rfl
theorem w_X12_dictionary_s : Cond.selects yX12_dictionary.cls yX12_dictionary yX12_dictionary ∈ rx_WT := rx_in 2292 (by decide +kernel) rfl
theorem w_X12_dictionary_d : yX12_dictionary.cls ≠ "java/lang/invoke/MethodHandle" ∧ yX12_dictionary.cls ≠ "java/lang/invoke/VarHandle" ∧ (parseMethodDescriptor yX12_dictionary.desc).map (fun d => d.parameters.length) = some 3 := by decide +kernel
def kd_X12_name : List (Nat × List (Instr × Nat)) := [(0, [(.aload_n 0, 1), (.iload_n 1, 1), (.ifCond .lt 26, 3), (.iload_n 1, 1), (.aload_n 0, 1), (.getfield 75, 3), (.if_icmp .ge 18, 3), (.iload_n 2, 1), (.iconst (-1), 1), (.if_icmp .lt 13, 3), (.iload_n 2, 1), (.aload_n 0, 1), (.getfield 37, 3), (.iload_n 1, 1), (.iaload, 1), (.if_icmp .lt 7, 3)]),
  (28, [(.iconst 1, 1), (.goto 4, 3)]),
  (32, [(.iconst 0, 1)]),
  (33, [(.putfield 71, 3), (.aload_n 0, 1), (.getfield 71, 3), (.ifCond .le 7, 3), (.iconst 0, 1), (.goto 28, 3)]),
  (47, [(.iload_n 2, 1), (.iconst (-1), 1), (.if_icmp .ne 12, 3), (.aload_n 0, 1), (.getfield 37, 3), (.iload_n 1, 1), (.iaload, 1), (.goto 14, 3)]),
  (61, [(.aload_n 0, 1), (.getfield 40, 3), (.bipush 16, 2), (.iload_n 1, 1), (.imul, 1), (.iload_n 2, 1), (.iadd, 1), (.iaload, 1)]),
  (72, [(.ireturn, 1)])]
def cf_X12_name : Instr → Option rx_C := rx_lkc [] [] []
def f_X12_name : rx_F := rx_fn (rx_lkk kC_X12) (rx_lkf fL_X12) (rx_lkf fP_X12) (rx_lkg gS_X12) (rx_lkg fG_X12) (rx_lkw nW_X12) cf_X12_name (some .int) 0 0 3 kd_X12_name rx_fu
theorem m_X12_name (l : Launch) : rx_M l yX12_name (Cond.code yX12_name cX12_name 3 (some .int) :: rx_WT) { frames := 0, cells := 0, slots := 0, locals := 0 } f_X12_name := rx_met rx_fu (by decide +kernel) kC_X12_ok gS_X12_ok fG_X12_ok fL_X12_ok (fP_X12_ok _) nW_X12_ok rx_ar (by decide +kernel) (rx_lkc_of rx_n0 rx_n0 rx_n0)
theorem w_X12_name_c : Cond.code yX12_name cX12_name 3 (some .int) ∈ rx_WT := rx_in 2297 (by decide +kernel) rfl
theorem w_X12_name_n : Cond.initialized yX12_name.cls ∈ rx_WT := rx_in 209 (by decide +kernel) rfl
theorem w_X12_name_i : Cond.instanceMethod yX12_name ∈ rx_WT := rx_in 2295 (by decide +kernel) rfl
theorem w_X12_name_s : Cond.selects yX12_name.cls yX12_name yX12_name ∈ rx_WT := rx_in 2296 (by decide +kernel) rfl
theorem w_X12_name_d : yX12_name.cls ≠ "java/lang/invoke/MethodHandle" ∧ yX12_name.cls ≠ "java/lang/invoke/VarHandle" ∧ (parseMethodDescriptor yX12_name.desc).map (fun d => d.parameters.length) = some 2 := by decide +kernel
def kd_X12_error : List (Nat × List (Instr × Nat)) := [(0, [(.aload_n 0, 1), (.iload_n 1, 1), (.ifCond .lt 8, 3), (.iload_n 1, 1), (.iconst 1, 1), (.if_icmp .le 7, 3)]),
  (10, [(.iconst 1, 1), (.goto 4, 3)]),
  (14, [(.iconst 0, 1)]),
  (15, [(.putfield 71, 3), (.aload_n 0, 1), (.getfield 71, 3), (.ifCond .le 7, 3), (.iconst 0, 1), (.goto 18, 3)]),
  (29, [(.iload_n 1, 1), (.ifCond .ne 10, 3), (.aload_n 0, 1), (.getfield 281, 3), (.goto 7, 3)]),
  (40, [(.aload_n 0, 1), (.getfield 284, 3)]),
  (44, [(.ireturn, 1)])]
def cf_X12_error : Instr → Option rx_C := rx_lkc [] [] []
def f_X12_error : rx_F := rx_fn (rx_lkk kC_X12) (rx_lkf fL_X12) (rx_lkf fP_X12) (rx_lkg gS_X12) (rx_lkg fG_X12) (rx_lkw nW_X12) cf_X12_error (some .int) 0 0 2 kd_X12_error rx_fu
theorem m_X12_error (l : Launch) : rx_M l yX12_error (Cond.code yX12_error cX12_error 2 (some .int) :: rx_WT) { frames := 0, cells := 0, slots := 0, locals := 0 } f_X12_error := rx_met rx_fu (by decide +kernel) kC_X12_ok gS_X12_ok fG_X12_ok fL_X12_ok (fP_X12_ok _) nW_X12_ok rx_ar (by decide +kernel) (rx_lkc_of rx_n0 rx_n0 rx_n0)
theorem w_X12_error_c : Cond.code yX12_error cX12_error 2 (some .int) ∈ rx_WT := rx_in 2301 (by decide +kernel) rfl
theorem w_X12_error_n : Cond.initialized yX12_error.cls ∈ rx_WT := rx_in 209 (by decide +kernel) rfl
theorem w_X12_error_i : Cond.instanceMethod yX12_error ∈ rx_WT := rx_in 2299 (by decide +kernel) rfl
theorem w_X12_error_s : Cond.selects yX12_error.cls yX12_error yX12_error ∈ rx_WT := rx_in 2300 (by decide +kernel) rfl
theorem w_X12_error_d : yX12_error.cls ≠ "java/lang/invoke/MethodHandle" ∧ yX12_error.cls ≠ "java/lang/invoke/VarHandle" ∧ (parseMethodDescriptor yX12_error.desc).map (fun d => d.parameters.length) = some 1 := by decide +kernel
def kd_X12_out : List (Nat × List (Instr × Nat)) := [(0, [(.aload_n 0, 1), (.iload_n 1, 1), (.ifCond .lt 11, 3), (.iload_n 1, 1), (.aload_n 0, 1), (.getfield 278, 3), (.if_icmp .lt 7, 3)]),
  (13, [(.iconst 1, 1), (.goto 4, 3)]),
  (17, [(.iconst 0, 1)]),
  (18, [(.putfield 71, 3), (.aload_n 0, 1), (.getfield 71, 3), (.ifCond .le 7, 3), (.iconst 0, 1), (.goto 9, 3)]),
  (32, [(.aload_n 0, 1), (.getfield 43, 3), (.iload_n 1, 1), (.iaload, 1)]),
  (38, [(.ireturn, 1)])]
def cf_X12_out : Instr → Option rx_C := rx_lkc [] [] []
def f_X12_out : rx_F := rx_fn (rx_lkk kC_X12) (rx_lkf fL_X12) (rx_lkf fP_X12) (rx_lkg gS_X12) (rx_lkg fG_X12) (rx_lkw nW_X12) cf_X12_out (some .int) 0 0 2 kd_X12_out rx_fu
theorem m_X12_out (l : Launch) : rx_M l yX12_out (Cond.code yX12_out cX12_out 2 (some .int) :: rx_WT) { frames := 0, cells := 0, slots := 0, locals := 0 } f_X12_out := rx_met rx_fu (by decide +kernel) kC_X12_ok gS_X12_ok fG_X12_ok fL_X12_ok (fP_X12_ok _) nW_X12_ok rx_ar (by decide +kernel) (rx_lkc_of rx_n0 rx_n0 rx_n0)
theorem w_X12_out_c : Cond.code yX12_out cX12_out 2 (some .int) ∈ rx_WT := rx_in 2305 (by decide +kernel) rfl
theorem w_X12_out_n : Cond.initialized yX12_out.cls ∈ rx_WT := rx_in 209 (by decide +kernel) rfl
theorem w_X12_out_i : Cond.instanceMethod yX12_out ∈ rx_WT := rx_in 2303 (by decide +kernel) rfl
theorem w_X12_out_s : Cond.selects yX12_out.cls yX12_out yX12_out ∈ rx_WT := rx_in 2304 (by decide +kernel) rfl
theorem w_X12_out_d : yX12_out.cls ≠ "java/lang/invoke/MethodHandle" ∧ yX12_out.cls ≠ "java/lang/invoke/VarHandle" ∧ (parseMethodDescriptor yX12_out.desc).map (fun d => d.parameters.length) = some 1 := by decide +kernel
