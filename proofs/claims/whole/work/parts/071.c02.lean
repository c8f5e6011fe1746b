def kd_X2_leave : List (Nat × List (Instr × Nat)) := [(0, [(.aload_n 0, 1), (.getfield 34, 3), (.iconst 1, 1), (.if_icmp .le 13, 3), (.aload_n 0, 1), (.dup, 1), (.getfield 34, 3), (.iconst 1, 1), (.isub, 1), (.putfield 34, 3)]),
  (18, [(.return_, 1)])]
def cf_X2_leave : Instr → Option rx_C := rx_lkc [] [] []
def f_X2_leave : rx_F := rx_fn (rx_lkk kC_X2) (rx_lkf fL_X2) (rx_lkf fP_X2) (rx_lkg gS_X2) (rx_lkg fG_X2) (rx_lkw nW_X2) cf_X2_leave none 0 0 1 kd_X2_leave rx_fu
theorem m_X2_leave (l : Launch) : rx_M l yX2_leave (Cond.code yX2_leave cX2_leave 1 none :: rx_WT) { frames := 0, cells := 0, slots := 0, locals := 0 } f_X2_leave := rx_met rx_fu (by decide +kernel) kC_X2_ok gS_X2_ok fG_X2_ok fL_X2_ok (fP_X2_ok _) nW_X2_ok rx_ar (by decide +kernel) (rx_lkc_of rx_n0 rx_n0 rx_n0)
theorem w_X2_leave_c : Cond.code yX2_leave cX2_leave 1 none ∈ rx_WT := rx_in 1447 (by decide +kernel) rfl
theorem w_X2_leave_n : Cond.initialized yX2_leave.cls ∈ rx_WT := rx_in 205 (by decide +kernel) rfl
theorem w_X2_leave_i : Cond.instanceMethod yX2_leave ∈ rx_WT := rx_in 1445 (by decide +kernel) rfl
theorem w_X2_leave_s : Cond.selects yX2_leave.cls yX2_leave yX2_leave ∈ rx_WT := rx_in 1446 (by decide +kernel) rfl
theorem w_X2_leave_d : yX2_leave.cls ≠ "java/lang/invoke/MethodHandle" ∧ yX2_leave.cls ≠ "java/lang/invoke/VarHandle" ∧ (parseMethodDescriptor yX2_leave.desc).map (fun d => d.parameters.length) = some 0 := by decide +kernel
def kd_X2_enter : List (Nat × List (Instr × Nat)) := [(0, [(.aload_n 0, 1), (.getfield 34, 3), (.ifCond .lt 12, 3), (.aload_n 0, 1), (.getfield 34, 3), (.bipush 24, 2), (.if_icmp .lt 5, 3)]),
  (16, [(.iconst 0, 1), (.ireturn, 1)]),
  (18, [(.aload_n 0, 1), (.getfield 11, 3), (.aload_n 0, 1), (.getfield 34, 3), (.iload_n 1, 1), (.iastore, 1), (.aload_n 0, 1), (.getfield 15, 3), (.aload_n 0, 1), (.getfield 34, 3), (.lload_n 2, 1), (.lastore, 1), (.aload_n 0, 1), (.getfield 19, 3), (.aload_n 0, 1), (.getfield 34, 3), (.lconst 0, 1), (.lastore, 1), (.aload_n 0, 1), (.getfield 22, 3), (.aload_n 0, 1), (.getfield 34, 3), (.lconst 0, 1), (.lastore, 1), (.aload_n 0, 1), (.getfield 25, 3), (.aload_n 0, 1), (.getfield 34, 3), (.lconst 0, 1), (.lastore, 1), (.aload_n 0, 1), (.getfield 28, 3), (.aload_n 0, 1), (.getfield 34, 3), (.ldc2_w 44, 3), (.lastore, 1), (.aload_n 0, 1), (.dup, 1), (.getfield 34, 3), (.iconst 1, 1), (.iadd, 1), (.putfield 34, 3), (.iconst 1, 1), (.ireturn, 1)])]
def cf_X2_enter : Instr → Option rx_C := rx_lkc [] [] []
def f_X2_enter : rx_F := rx_fn (rx_lkk kC_X2) (rx_lkf fL_X2) (rx_lkf fP_X2) (rx_lkg gS_X2) (rx_lkg fG_X2) (rx_lkw nW_X2) cf_X2_enter (some .boolean) 0 0 4 kd_X2_enter rx_fu
theorem m_X2_enter (l : Launch) : rx_M l yX2_enter (Cond.code yX2_enter cX2_enter 4 (some .boolean) :: rx_WT) { frames := 0, cells := 0, slots := 0, locals := 0 } f_X2_enter := rx_met rx_fu (by decide +kernel) kC_X2_ok gS_X2_ok fG_X2_ok fL_X2_ok (fP_X2_ok _) nW_X2_ok rx_ar (by decide +kernel) (rx_lkc_of rx_n0 rx_n0 rx_n0)
theorem w_X2_enter_c : Cond.code yX2_enter cX2_enter 4 (some .boolean) ∈ rx_WT := rx_in 833 (by decide +kernel) rfl
theorem w_X2_enter_n : Cond.initialized yX2_enter.cls ∈ rx_WT := rx_in 205 (by decide +kernel) rfl
theorem w_X2_enter_i : Cond.instanceMethod yX2_enter ∈ rx_WT := rx_in 831 (by decide +kernel) rfl
theorem w_X2_enter_s : Cond.selects yX2_enter.cls yX2_enter yX2_enter ∈ rx_WT := rx_in 832 (by decide +kernel) rfl
theorem w_X2_enter_d : yX2_enter.cls ≠ "java/lang/invoke/MethodHandle" ∧ yX2_enter.cls ≠ "java/lang/invoke/VarHandle" ∧ (parseMethodDescriptor yX2_enter.desc).map (fun d => d.parameters.length) = some 2 := by decide +kernel
def kd_X2_setBounds : List (Nat × List (Instr × Nat)) := [(0, [(.aload_n 0, 1), (.invokevirtual 38, 3), (.istore 7, 2), (.aload_n 0, 1), (.getfield 19, 3), (.iload 7, 2), (.lload_n 1, 1), (.lastore, 1), (.aload_n 0, 1), (.getfield 25, 3), (.iload 7, 2), (.lload_n 3, 1), (.lastore, 1), (.aload_n 0, 1), (.getfield 22, 3), (.iload 7, 2), (.lload 5, 2), (.lastore, 1), (.return_, 1)])]
def cf_X2_setBounds : Instr → Option rx_C := rx_lkc [(38, (1, some 2, 0, 0, f_X2_topFrame))] [] []
def f_X2_setBounds : rx_F := rx_fn (rx_lkk kC_X2) (rx_lkf fL_X2) (rx_lkf fP_X2) (rx_lkg gS_X2) (rx_lkg fG_X2) (rx_lkw nW_X2) cf_X2_setBounds none 0 0 8 kd_X2_setBounds rx_fu
theorem m_X2_setBounds (l : Launch) : rx_M l yX2_setBounds (Cond.code yX2_setBounds cX2_setBounds 8 none :: rx_WT) { frames := 1, cells := 0, slots := 0, locals := 20 } f_X2_setBounds := rx_met rx_fu (by decide +kernel) kC_X2_ok gS_X2_ok fG_X2_ok fL_X2_ok (fP_X2_ok _) nW_X2_ok rx_ar (by decide +kernel) (rx_lkc_of (rx_n1 (rx_caV 0 2 (m_X2_topFrame l) w_X2_topFrame_c w_X2_topFrame_n (rx_in 847 (by decide +kernel) rfl) w_X2_topFrame_i w_X2_topFrame_s w_X2_topFrame_d (by decide) rfl rfl) rx_n0) rx_n0 rx_n0)
theorem w_X2_setBounds_c : Cond.code yX2_setBounds cX2_setBounds 8 none ∈ rx_WT := rx_in 846 (by decide +kernel) rfl
theorem w_X2_setBounds_n : Cond.initialized yX2_setBounds.cls ∈ rx_WT := rx_in 205 (by decide +kernel) rfl
theorem w_X2_setBounds_i : Cond.instanceMethod yX2_setBounds ∈ rx_WT := rx_in 844 (by decide +kernel) rfl
theorem w_X2_setBounds_s : Cond.selects yX2_setBounds.cls yX2_setBounds yX2_setBounds ∈ rx_WT := rx_in 845 (by decide +kernel) rfl
theorem w_X2_setBounds_d : yX2_setBounds.cls ≠ "java/lang/invoke/MethodHandle" ∧ yX2_setBounds.cls ≠ "java/lang/invoke/VarHandle" ∧ (parseMethodDescriptor yX2_setBounds.desc).map (fun d => d.parameters.length) = some 3 := by decide +kernel
def kd_X2_setSubject : List (Nat × List (Instr × Nat)) := [(0, [(.aload_n 0, 1), (.getfield 28, 3), (.aload_n 0, 1), (.invokevirtual 38, 3), (.lload_n 1, 1), (.lastore, 1), (.aload_n 0, 1), (.getfield 22, 3), (.aload_n 0, 1), (.invokevirtual 38, 3), (.iload_n 3, 1), (.i2l, 1), (.lastore, 1), (.return_, 1)])]
def cf_X2_setSubject : Instr → Option rx_C := rx_lkc [(38, (1, some 2, 0, 0, f_X2_topFrame))] [] []
def f_X2_setSubject : rx_F := rx_fn (rx_lkk kC_X2) (rx_lkf fL_X2) (rx_lkf fP_X2) (rx_lkg gS_X2) (rx_lkg fG_X2) (rx_lkw nW_X2) cf_X2_setSubject none 0 0 4 kd_X2_setSubject rx_fu
theorem m_X2_setSubject (l : Launch) : rx_M l yX2_setSubject (Cond.code yX2_setSubject cX2_setSubject 4 none :: rx_WT) { frames := 1, cells := 0, slots := 0, locals := 20 } f_X2_setSubject := rx_met rx_fu (by decide +kernel) kC_X2_ok gS_X2_ok fG_X2_ok fL_X2_ok (fP_X2_ok _) nW_X2_ok rx_ar (by decide +kernel) (rx_lkc_of (rx_n1 (rx_caV 0 2 (m_X2_topFrame l) w_X2_topFrame_c w_X2_topFrame_n (rx_in 847 (by decide +kernel) rfl) w_X2_topFrame_i w_X2_topFrame_s w_X2_topFrame_d (by decide) rfl rfl) rx_n0) rx_n0 rx_n0)
theorem w_X2_setSubject_c : Cond.code yX2_setSubject cX2_setSubject 4 none ∈ rx_WT := rx_in 870 (by decide +kernel) rfl
theorem w_X2_setSubject_n : Cond.initialized yX2_setSubject.cls ∈ rx_WT := rx_in 205 (by decide +kernel) rfl
theorem w_X2_setSubject_i : Cond.instanceMethod yX2_setSubject ∈ rx_WT := rx_in 868 (by decide +kernel) rfl
theorem w_X2_setSubject_s : Cond.selects yX2_setSubject.cls yX2_setSubject yX2_setSubject ∈ rx_WT := rx_in 869 (by decide +kernel) rfl
theorem w_X2_setSubject_d : yX2_setSubject.cls ≠ "java/lang/invoke/MethodHandle" ∧ yX2_setSubject.cls ≠ "java/lang/invoke/VarHandle" ∧ (parseMethodDescriptor yX2_setSubject.desc).map (fun d => d.parameters.length) = some 2 := by decide +kernel
def kd_X2_keepKey : List (Nat × List (Instr × Nat)) := [(0, [(.iload_n 1, 1), (.ifCond .lt 24, 3), (.iload_n 1, 1), (.bipush 74, 2), (.if_icmp .ge 18, 3), (.aload_n 0, 1), (.getfield 31, 3), (.aload_n 0, 1), (.invokevirtual 38, 3), (.bipush 74, 2), (.imul, 1), (.iload_n 1, 1), (.iadd, 1), (.lload_n 2, 1), (.lastore, 1)]),
  (25, [(.return_, 1)])]
def cf_X2_keepKey : Instr → Option rx_C := rx_lkc [(38, (1, some 2, 0, 0, f_X2_topFrame))] [] []
def f_X2_keepKey : rx_F := rx_fn (rx_lkk kC_X2) (rx_lkf fL_X2) (rx_lkf fP_X2) (rx_lkg gS_X2) (rx_lkg fG_X2) (rx_lkw nW_X2) cf_X2_keepKey none 0 0 4 kd_X2_keepKey rx_fu
theorem m_X2_keepKey (l : Launch) : rx_M l yX2_keepKey (Cond.code yX2_keepKey cX2_keepKey 4 none :: rx_WT) { frames := 1, cells := 0, slots := 0, locals := 20 } f_X2_keepKey := rx_met rx_fu (by decide +kernel) kC_X2_ok gS_X2_ok fG_X2_ok fL_X2_ok (fP_X2_ok _) nW_X2_ok rx_ar (by decide +kernel) (rx_lkc_of (rx_n1 (rx_caV 0 2 (m_X2_topFrame l) w_X2_topFrame_c w_X2_topFrame_n (rx_in 847 (by decide +kernel) rfl) w_X2_topFrame_i w_X2_topFrame_s w_X2_topFrame_d (by decide) rfl rfl) rx_n0) rx_n0 rx_n0)
theorem w_X2_keepKey_c : Cond.code yX2_keepKey cX2_keepKey 4 none ∈ rx_WT := rx_in 883 (by decide +kernel) rfl
theorem w_X2_keepKey_n : Cond.initialized yX2_keepKey.cls ∈ rx_WT := rx_in 205 (by decide +kernel) rfl
theorem w_X2_keepKey_i : Cond.instanceMethod yX2_keepKey ∈ rx_WT := rx_in 881 (by decide +kernel) rfl
theorem w_X2_keepKey_s : Cond.selects yX2_keepKey.cls yX2_keepKey yX2_keepKey ∈ rx_WT := rx_in 882 (by decide +kernel) rfl
theorem w_X2_keepKey_d : yX2_keepKey.cls ≠ "java/lang/invoke/MethodHandle" ∧ yX2_keepKey.cls ≠ "java/lang/invoke/VarHandle" ∧ (parseMethodDescriptor yX2_keepKey.desc).map (fun d => d.parameters.length) = some 2 := by decide +kernel
def kd_X2_keptKey : List (Nat × List (Instr × Nat)) := [(0, [(.lload_n 1, 1), (.lconst 0, 1), (.lcmp, 1), (.ifCond .lt 29, 3), (.lload_n 1, 1), (.ldc2_w 46, 3), (.lcmp, 1), (.ifCond .ge 21, 3), (.aload_n 0, 1), (.getfield 31, 3), (.aload_n 0, 1), (.invokevirtual 38, 3), (.bipush 74, 2), (.imul, 1), (.lload_n 1, 1), (.l2i, 1), (.iadd, 1), (.laload, 1), (.goto 6, 3)]),
  (32, [(.ldc2_w 44, 3)]),
  (35, [(.lreturn, 1)])]
def cf_X2_keptKey : Instr → Option rx_C := rx_lkc [(38, (1, some 2, 0, 0, f_X2_topFrame))] [] []
def f_X2_keptKey : rx_F := rx_fn (rx_lkk kC_X2) (rx_lkf fL_X2) (rx_lkf fP_X2) (rx_lkg gS_X2) (rx_lkg fG_X2) (rx_lkw nW_X2) cf_X2_keptKey (some .long) 0 0 3 kd_X2_keptKey rx_fu
theorem m_X2_keptKey (l : Launch) : rx_M l yX2_keptKey (Cond.code yX2_keptKey cX2_keptKey 3 (some .long) :: rx_WT) { frames := 1, cells := 0, slots := 0, locals := 20 } f_X2_keptKey := rx_met rx_fu (by decide +kernel) kC_X2_ok gS_X2_ok fG_X2_ok fL_X2_ok (fP_X2_ok _) nW_X2_ok rx_ar (by decide +kernel) (rx_lkc_of (rx_n1 (rx_caV 0 2 (m_X2_topFrame l) w_X2_topFrame_c w_X2_topFrame_n (rx_in 847 (by decide +kernel) rfl) w_X2_topFrame_i w_X2_topFrame_s w_X2_topFrame_d (by decide) rfl rfl) rx_n0) rx_n0 rx_n0)
theorem w_X2_keptKey_c : Cond.code yX2_keptKey cX2_keptKey 3 (some .long) ∈ rx_WT := rx_in 1494 (by decide +kernel) rfl
theorem w_X2_keptKey_n : Cond.initialized yX2_keptKey.cls ∈ rx_WT := rx_in 205 (by decide +kernel) rfl
theorem w_X2_keptKey_i : Cond.instanceMethod yX2_keptKey ∈ rx_WT := rx_in 1492 (by decide +kernel) rfl
theorem w_X2_keptKey_s : Cond.selects yX2_keptKey.cls yX2_keptKey yX2_keptKey ∈ rx_WT := rx_in 1493 (by decide +kernel) rfl
theorem w_X2_keptKey_d : yX2_keptKey.cls ≠ "java/lang/invoke/MethodHandle" ∧ yX2_keptKey.cls ≠ "java/lang/invoke/VarHandle" ∧ (parseMethodDescriptor yX2_keptKey.desc).map (fun d => d.parameters.length) = some 1 := by decide +kernel
def kd_X2_leaveStopped : List (Nat × List (Instr × Nat)) := [(0, [(.aload_n 0, 1), (.getfield 34, 3), (.iconst 1, 1), (.isub, 1), (.istore_n 1, 1)]),
  (7, [(.iload_n 1, 1), (.ifCond .le 32, 3), (.iload_n 1, 1), (.bipush 24, 2), (.if_icmp .ge 26, 3), (.aload_n 0, 1), (.getfield 11, 3), (.iload_n 1, 1), (.iaload, 1), (.iconst 2, 1), (.if_icmp .ne 10, 3), (.aload_n 0, 1), (.iload_n 1, 1), (.putfield 34, 3), (.iconst 1, 1), (.ireturn, 1)]),
  (34, [(.iinc 1 (-1), 3), (.goto (-30), 3)]),
  (40, [(.iconst 0, 1), (.ireturn, 1)])]
def cf_X2_leaveStopped : Instr → Option rx_C := rx_lkc [] [] []
def f_X2_leaveStopped : rx_F := rx_fn (rx_lkk kC_X2) (rx_lkf fL_X2) (rx_lkf fP_X2) (rx_lkg gS_X2) (rx_lkg fG_X2) (rx_lkw nW_X2) cf_X2_leaveStopped (some .boolean) 0 0 2 kd_X2_leaveStopped rx_fu
theorem m_X2_leaveStopped (l : Launch) : rx_M l yX2_leaveStopped (Cond.code yX2_leaveStopped cX2_leaveStopped 2 (some .boolean) :: rx_WT) { frames := 0, cells := 0, slots := 0, locals := 0 } f_X2_leaveStopped := rx_met rx_fu (by decide +kernel) kC_X2_ok gS_X2_ok fG_X2_ok fL_X2_ok (fP_X2_ok _) nW_X2_ok rx_ar (by decide +kernel) (rx_lkc_of rx_n0 rx_n0 rx_n0)
theorem w_X2_leaveStopped_c : Cond.code yX2_leaveStopped cX2_leaveStopped 2 (some .boolean) ∈ rx_WT := rx_in 895 (by decide +kernel) rfl
theorem w_X2_leaveStopped_n : Cond.initialized yX2_leaveStopped.cls ∈ rx_WT := rx_in 205 (by decide +kernel) rfl
theorem w_X2_leaveStopped_i : Cond.instanceMethod yX2_leaveStopped ∈ rx_WT := rx_in 893 (by decide +kernel) rfl
theorem w_X2_leaveStopped_s : Cond.selects yX2_leaveStopped.cls yX2_leaveStopped yX2_leaveStopped ∈ rx_WT := rx_in 894 (by decide +kernel) rfl
theorem w_X2_leaveStopped_d : yX2_leaveStopped.cls ≠ "java/lang/invoke/MethodHandle" ∧ yX2_leaveStopped.cls ≠ "java/lang/invoke/VarHandle" ∧ (parseMethodDescriptor yX2_leaveStopped.desc).map (fun d => d.parameters.length) = some 0 := by decide +kernel
def kd_X2_leaveLoop : List (Nat × List (Instr × Nat)) := [(0, [(.aload_n 0, 1), (.getfield 34, 3), (.iconst 1, 1), (.isub, 1), (.istore_n 1, 1)]),
  (7, [(.iload_n 1, 1), (.ifCond .le 44, 3), (.iload_n 1, 1), (.bipush 24, 2), (.if_icmp .ge 38, 3), (.aload_n 0, 1), (.getfield 11, 3), (.iload_n 1, 1), (.iaload, 1), (.iconst 2, 1), (.if_icmp .ne 5, 3), (.iconst 0, 1), (.ireturn, 1)]),
  (29, [(.aload_n 0, 1), (.getfield 11, 3), (.iload_n 1, 1), (.iaload, 1), (.iconst 3, 1), (.if_icmp .lt 10, 3), (.aload_n 0, 1), (.iload_n 1, 1), (.putfield 34, 3), (.iconst 1, 1), (.ireturn, 1)]),
  (46, [(.iinc 1 (-1), 3), (.goto (-42), 3)]),
  (52, [(.iconst 0, 1), (.ireturn, 1)])]
def cf_X2_leaveLoop : Instr → Option rx_C := rx_lkc [] [] []
def f_X2_leaveLoop : rx_F := rx_fn (rx_lkk kC_X2) (rx_lkf fL_X2) (rx_lkf fP_X2) (rx_lkg gS_X2) (rx_lkg fG_X2) (rx_lkw nW_X2) cf_X2_leaveLoop (some .boolean) 0 0 2 kd_X2_leaveLoop rx_fu
theorem m_X2_leaveLoop (l : Launch) : rx_M l yX2_leaveLoop (Cond.code yX2_leaveLoop cX2_leaveLoop 2 (some .boolean) :: rx_WT) { frames := 0, cells := 0, slots := 0, locals := 0 } f_X2_leaveLoop := rx_met rx_fu (by decide +kernel) kC_X2_ok gS_X2_ok fG_X2_ok fL_X2_ok (fP_X2_ok _) nW_X2_ok rx_ar (by decide +kernel) (rx_lkc_of rx_n0 rx_n0 rx_n0)
theorem w_X2_leaveLoop_c : Cond.code yX2_leaveLoop cX2_leaveLoop 2 (some .boolean) ∈ rx_WT := rx_in 887 (by decide +kernel) rfl
theorem w_X2_leaveLoop_n : Cond.initialized yX2_leaveLoop.cls ∈ rx_WT := rx_in 205 (by decide +kernel) rfl
theorem w_X2_leaveLoop_i : Cond.instanceMethod yX2_leaveLoop ∈ rx_WT := rx_in 885 (by decide +kernel) rfl
theorem w_X2_leaveLoop_s : Cond.selects yX2_leaveLoop.cls yX2_leaveLoop yX2_leaveLoop ∈ rx_WT := rx_in 886 (by decide +kernel) rfl
theorem w_X2_leaveLoop_d : yX2_leaveLoop.cls ≠ "java/lang/invoke/MethodHandle" ∧ yX2_leaveLoop.cls ≠ "java/lang/invoke/VarHandle" ∧ (parseMethodDescriptor yX2_leaveLoop.desc).map (fun d => d.parameters.length) = some 0 := by decide +kernel
def kd_X6_init : List (Nat × List (Instr × Nat)) := [(0, [(.aload_n 0, 1), (.invokespecial 3, 3), (.aload_n 0, 1), (.aload_n 1, 1), (.putfield 9, 3), (.aload_n 0, 1), (.aload_n 2, 1), (.putfield 15, 3), (.aload_n 0, 1), (.aload_n 3, 1), (.putfield 19, 3), (.return_, 1)])]
def cf_X6_init : Instr → Option rx_C := rx_lkc [] [] [(3, (1, none, 0, 0, rx_F0))]
def f_X6_init : rx_F := rx_fn (rx_lkk kC_X6) (rx_lkf fL_X6) (rx_lkf fI_X6) (rx_lkg gS_X6) (rx_lkg fG_X6) (rx_lkw nW_X6) cf_X6_init none 0 0 4 kd_X6_init rx_fu
theorem m_X6_init (l : Launch) : rx_M l yX6_init (Cond.code yX6_init cX6_init 4 none :: rx_WT) { frames := 1, cells := 0, slots := 0, locals := 20 } f_X6_init := rx_met rx_fu (by decide +kernel) kC_X6_ok gS_X6_ok fG_X6_ok fL_X6_ok fI_X6_ok nW_X6_ok rx_ar (by decide +kernel) (rx_lkc_of rx_n0 rx_n0 (rx_n1 (rx_caO (rx_in 521 (by decide +kernel) rfl) (rx_in 223 (by decide +kernel) rfl) (rx_in 224 (by decide +kernel) rfl) (by decide) (by decide)) rx_n0))
theorem w_X6_init_c : Cond.code yX6_init cX6_init 4 none ∈ rx_WT := rx_in 520 (by decide +kernel) rfl
theorem w_X6_init_n : Cond.initialized yX6_init.cls ∈ rx_WT := rx_in 206 (by decide +kernel) rfl
theorem w_X6_init_i : Cond.instanceMethod yX6_init ∈ rx_WT := rx_in 519 (by decide +kernel) rfl
theorem w_X6_init_d : yX6_init.cls ≠ "java/lang/invoke/MethodHandle" ∧ yX6_init.cls ≠ "java/lang/invoke/VarHandle" ∧ (parseMethodDescriptor yX6_init.desc).map (fun d => d.parameters.length) = some 3 := by decide +kernel
def kd_X8_init : List (Nat × List (Instr × Nat)) := [(0, [(.aload_n 0, 1), (.invokespecial 3, 3), (.aload_n 0, 1), (.sipush 600, 3), (.newarray .long, 2), (.putfield 11, 3), (.aload_n 0, 1), (.sipush 601, 3), (.newarray .long, 2), (.putfield 17, 3), (.aload_n 0, 1), (.aload_n 1, 1), (.putfield 20, 3), (.aload_n 0, 1), (.aload_n 2, 1), (.putfield 24, 3), (.aload_n 0, 1), (.aload_n 3, 1), (.putfield 28, 3), (.aload_n 0, 1), (.aload 4, 2), (.putfield 32, 3), (.return_, 1)])]
def cf_X8_init : Instr → Option rx_C := rx_lkc [] [] [(3, (1, none, 0, 0, rx_F0))]
def f_X8_init : rx_F := rx_fn (rx_lkk kC_X8) (rx_lkf fL_X8) (rx_lkf fI_X8) (rx_lkg gS_X8) (rx_lkg fG_X8) (rx_lkw nW_X8) cf_X8_init none 2 1201 5 kd_X8_init rx_fu
theorem m_X8_init (l : Launch) : rx_M l yX8_init (Cond.code yX8_init cX8_init 5 none :: rx_WT) { frames := 1, cells := 2, slots := 1201, locals := 20 } f_X8_init := rx_met rx_fu (by decide +kernel) kC_X8_ok gS_X8_ok fG_X8_ok fL_X8_ok fI_X8_ok nW_X8_ok rx_ar (by decide +kernel) (rx_lkc_of rx_n0 rx_n0 (rx_n1 (rx_caO (rx_in 537 (by decide +kernel) rfl) (rx_in 223 (by decide +kernel) rfl) (rx_in 224 (by decide +kernel) rfl) (by decide) (by decide)) rx_n0))
theorem w_X8_init_c : Cond.code yX8_init cX8_init 5 none ∈ rx_WT := rx_in 536 (by decide +kernel) rfl
theorem w_X8_init_n : Cond.initialized yX8_init.cls ∈ rx_WT := rx_in 207 (by decide +kernel) rfl
theorem w_X8_init_i : Cond.instanceMethod yX8_init ∈ rx_WT := rx_in 535 (by decide +kernel) rfl
theorem w_X8_init_d : yX8_init.cls ≠ "java/lang/invoke/MethodHandle" ∧ yX8_init.cls ≠ "java/lang/invoke/VarHandle" ∧ (parseMethodDescriptor yX8_init.desc).map (fun d => d.parameters.length) = some 4 := by decide +kernel
def kd_X3_forget : List (Nat × List (Instr × Nat)) := [(0, [(.aload_n 0, 1), (.iconst 0, 1), (.putfield 62, 3), (.aload_n 0, 1), (.iconst 0, 1), (.putfield 66, 3), (.aload_n 0, 1), (.iconst (-1), 1), (.putfield 69, 3), (.return_, 1)])]
def cf_X3_forget : Instr → Option rx_C := rx_lkc [] [] []
def f_X3_forget : rx_F := rx_fn (rx_lkk kC_X3) (rx_lkf fL_X3) (rx_lkf fP_X3) (rx_lkg gS_X3) (rx_lkg fG_X3) (rx_lkw nW_X3) cf_X3_forget none 0 0 1 kd_X3_forget rx_fu
theorem m_X3_forget (l : Launch) : rx_M l yX3_forget (Cond.code yX3_forget cX3_forget 1 none :: rx_WT) { frames := 0, cells := 0, slots := 0, locals := 0 } f_X3_forget := rx_met rx_fu (by decide +kernel) kC_X3_ok gS_X3_ok fG_X3_ok fL_X3_ok (fP_X3_ok _) nW_X3_ok rx_ar (by decide +kernel) (rx_lkc_of rx_n0 rx_n0 rx_n0)
theorem w_X3_forget_c : Cond.code yX3_forget cX3_forget 1 none ∈ rx_WT := rx_in 585 (by decide +kernel) rfl
theorem w_X3_forget_n : Cond.initialized yX3_forget.cls ∈ rx_WT := rx_in 204 (by decide +kernel) rfl
theorem w_X3_forget_i : Cond.instanceMethod yX3_forget ∈ rx_WT := rx_in 583 (by decide +kernel) rfl
theorem w_X3_forget_s : Cond.selects yX3_forget.cls yX3_forget yX3_forget ∈ rx_WT := rx_in 584 (by decide +kernel) rfl
theorem w_X3_forget_d : yX3_forget.cls ≠ "java/lang/invoke/MethodHandle" ∧ yX3_forget.cls ≠ "java/lang/invoke/VarHandle" ∧ (parseMethodDescriptor yX3_forget.desc).map (fun d => d.parameters.length) = some 0 := by decide +kernel
def kd_X3_init : List (Nat × List (Instr × Nat)) := [(0, [(.aload_n 0, 1), (.invokespecial 3, 3), (.aload_n 0, 1), (.aload_n 2, 1), (.putfield 9, 3), (.aload_n 0, 1), (.aload_n 3, 1), (.putfield 15, 3), (.aload_n 0, 1), (.aload 4, 2), (.putfield 19, 3), (.aload_n 0, 1), (.aload 5, 2), (.putfield 23, 3), (.aload_n 0, 1), (.new 27, 3), (.dup, 1), (.invokespecial 29, 3), (.putfield 30, 3), (.aload_n 0, 1), (.new 34, 3), (.dup, 1), (.aload_n 1, 1), (.aload_n 2, 1), (.aload 4, 2), (.invokespecial 36, 3), (.putfield 39, 3), (.aload_n 0, 1), (.new 43, 3), (.dup, 1), (.aload_n 1, 1), (.aload_n 2, 1), (.aload_n 3, 1), (.aload 4, 2), (.invokespecial 45, 3), (.putfield 48, 3), (.aload_n 0, 1), (.new 52, 3), (.dup, 1), (.aload_n 1, 1), (.aload_n 2, 1), (.aload_n 3, 1), (.aload 4, 2), (.invokespecial 54, 3), (.putfield 55, 3), (.aload_n 0, 1), (.invokevirtual 59, 3), (.return_, 1)])]
def cf_X3_init : Instr → Option rx_C := rx_lkc [(59, (1, some 3, 0, 0, f_X3_forget))] [] [(3, (1, none, 0, 0, rx_F0)), (29, (1, some 2, 7, 1920, f_X2_init)), (36, (4, some 6, 0, 0, f_X6_init)), (45, (5, some 8, 2, 1201, f_X8_init)), (54, (5, some 1, 0, 0, f_X1_init))]
def f_X3_init : rx_F := rx_fn (rx_lkk kC_X3) (rx_lkf fL_X3) (rx_lkf fI_X3) (rx_lkg gS_X3) (rx_lkg fG_X3) (rx_lkw nW_X3) cf_X3_init none 13 3144 6 kd_X3_init rx_fu
theorem m_X3_init (l : Launch) : rx_M l yX3_init (Cond.code yX3_init cX3_init 6 none :: rx_WT) { frames := 2, cells := 13, slots := 3144, locals := 44 } f_X3_init := rx_met rx_fu (by decide +kernel) kC_X3_ok gS_X3_ok fG_X3_ok fL_X3_ok fI_X3_ok nW_X3_ok rx_ar (by decide +kernel) (rx_lkc_of (rx_n1 (rx_caV 0 3 (m_X3_forget l) w_X3_forget_c w_X3_forget_n (rx_in 582 (by decide +kernel) rfl) w_X3_forget_i w_X3_forget_s w_X3_forget_d (by decide) rfl rfl) rx_n0) rx_n0 (rx_n1 (rx_caO (rx_in 484 (by decide +kernel) rfl) (rx_in 223 (by decide +kernel) rfl) (rx_in 224 (by decide +kernel) rfl) (by decide) (by decide)) (rx_n1 (rx_caN (host := "OperandStacks") 0 (m_X2_init l) w_X2_init_c w_X2_init_n (by decide +kernel) w_X2_init_i rfl w_X2_init_d (by decide) 2) (rx_n1 (rx_caI 3 (m_X6_init l) w_X6_init_c w_X6_init_n (rx_in 518 (by decide +kernel) rfl) w_X6_init_i rfl w_X6_init_d (by decide) 6) (rx_n1 (rx_caI 4 (m_X8_init l) w_X8_init_c w_X8_init_n (rx_in 534 (by decide +kernel) rfl) w_X8_init_i rfl w_X8_init_d (by decide) 8) (rx_n1 (rx_caI 4 (m_X1_init l) w_X1_init_c w_X1_init_n (rx_in 562 (by decide +kernel) rfl) w_X1_init_i rfl w_X1_init_d (by decide) 1) rx_n0))))))
theorem w_X3_init_c : Cond.code yX3_init cX3_init 6 none ∈ rx_WT := rx_in 483 (by decide +kernel) rfl
theorem w_X3_init_n : Cond.initialized yX3_init.cls ∈ rx_WT := rx_in 204 (by decide +kernel) rfl
theorem w_X3_init_i : Cond.instanceMethod yX3_init ∈ rx_WT := rx_in 482 (by decide +kernel) rfl
theorem w_X3_init_d : yX3_init.cls ≠ "java/lang/invoke/MethodHandle" ∧ yX3_init.cls ≠ "java/lang/invoke/VarHandle" ∧ (parseMethodDescriptor yX3_init.desc).map (fun d => d.parameters.length) = some 5 := by decide +kernel
def kd_X3_begin : List (Nat × List (Instr × Nat)) := [(0, [(.aload_n 0, 1), (.iconst 0, 1), (.putfield 62, 3), (.aload_n 0, 1), (.iload_n 1, 1), (.putfield 72, 3), (.aload_n 0, 1), (.iconst (-1), 1), (.putfield 75, 3), (.aload_n 0, 1), (.ldc2_w 80, 3), (.putfield 82, 3), (.aload_n 0, 1), (.getfield 30, 3), (.invokevirtual 86, 3), (.return_, 1)])]
def cf_X3_begin : Instr → Option rx_C := rx_lkc [(86, (1, some 2, 0, 0, f_X2_begin))] [] []
def f_X3_begin : rx_F := rx_fn (rx_lkk kC_X3) (rx_lkf fL_X3) (rx_lkf fP_X3) (rx_lkg gS_X3) (rx_lkg fG_X3) (rx_lkw nW_X3) cf_X3_begin none 0 0 2 kd_X3_begin rx_fu
theorem m_X3_begin (l : Launch) : rx_M l yX3_begin (Cond.code yX3_begin cX3_begin 2 none :: rx_WT) { frames := 1, cells := 0, slots := 0, locals := 20 } f_X3_begin := rx_met rx_fu (by decide +kernel) kC_X3_ok gS_X3_ok fG_X3_ok fL_X3_ok (fP_X3_ok _) nW_X3_ok rx_ar (by decide +kernel) (rx_lkc_of (rx_n1 (rx_caV 0 2 (m_X2_begin l) w_X2_begin_c w_X2_begin_n (rx_in 763 (by decide +kernel) rfl) w_X2_begin_i w_X2_begin_s w_X2_begin_d (by decide) rfl rfl) rx_n0) rx_n0 rx_n0)
theorem w_X3_begin_c : Cond.code yX3_begin cX3_begin 2 none ∈ rx_WT := rx_in 761 (by decide +kernel) rfl
theorem w_X3_begin_n : Cond.initialized yX3_begin.cls ∈ rx_WT := rx_in 204 (by decide +kernel) rfl
theorem w_X3_begin_i : Cond.instanceMethod yX3_begin ∈ rx_WT := rx_in 759 (by decide +kernel) rfl
theorem w_X3_begin_s : Cond.selects yX3_begin.cls yX3_begin yX3_begin ∈ rx_WT := rx_in 760 (by decide +kernel) rfl
theorem w_X3_begin_d : yX3_begin.cls ≠ "java/lang/invoke/MethodHandle" ∧ yX3_begin.cls ≠ "java/lang/invoke/VarHandle" ∧ (parseMethodDescriptor yX3_begin.desc).map (fun d => d.parameters.length) = some 1 := by decide +kernel
def kd_X10_isProcedure : List (Nat × List (Instr × Nat)) := [(0, [(.lload_n 0, 1), (.ldc2_w 30, 3), (.land, 1), (.lconst 0, 1), (.lcmp, 1), (.ifCond .eq 22, 3), (.lload_n 0, 1), (.bipush 49, 2), (.lushr, 1), (.ldc2_w 32, 3), (.land, 1), (.ldc2_w 34, 3), (.lcmp, 1), (.ifCond .ne 7, 3), (.iconst 1, 1), (.goto 4, 3)]),
  (29, [(.iconst 0, 1)]),
  (30, [(.ireturn, 1)])]
def cf_X10_isProcedure : Instr → Option rx_C := rx_lkc [] [] []
def f_X10_isProcedure : rx_F := rx_fn (rx_lkk kC_X10) (rx_lkf fL_X10) (rx_lkf fP_X10) (rx_lkg gS_X10) (rx_lkg fG_X10) (rx_lkw nW_X10) cf_X10_isProcedure (some .boolean) 0 0 2 kd_X10_isProcedure rx_fu
theorem m_X10_isProcedure (l : Launch) : rx_M l yX10_isProcedure (Cond.code yX10_isProcedure cX10_isProcedure 2 (some .boolean) :: rx_WT) { frames := 0, cells := 0, slots := 0, locals := 0 } f_X10_isProcedure := rx_met rx_fu (by decide +kernel) kC_X10_ok gS_X10_ok fG_X10_ok fL_X10_ok (fP_X10_ok _) nW_X10_ok rx_ar (by decide +kernel) (rx_lkc_of rx_n0 rx_n0 rx_n0)
theorem w_X10_isProcedure_c : Cond.code yX10_isProcedure cX10_isProcedure 2 (some .boolean) ∈ rx_WT := rx_in 797 (by decide +kernel) rfl
theorem w_X10_isProcedure_n : Cond.initialized yX10_isProcedure.cls ∈ rx_WT := rx_in 201 (by decide +kernel) rfl
theorem w_X10_isProcedure_t : Cond.static yX10_isProcedure ∈ rx_WT := rx_in 796 (by decide +kernel) rfl
theorem w_X10_isProcedure_d : yX10_isProcedure.cls ≠ "java/lang/invoke/MethodHandle" ∧ yX10_isProcedure.cls ≠ "java/lang/invoke/VarHandle" ∧ (parseMethodDescriptor yX10_isProcedure.desc).map (fun d => d.parameters.length) = some 1 := by decide +kernel
def kd_X3_takes : List (Nat × List (Instr × Nat)) := [(0, [(.iload_n 0, 1), (.ifCond .lt 11, 3), (.iload_n 0, 1), (.getstatic 284, 3), (.arraylength, 1), (.if_icmp .lt 5, 3)]),
  (12, [(.iconst 0, 1), (.ireturn, 1)]),
  (14, [(.iload_n 0, 1), (.iconst 4, 1), (.if_icmp .ne 8, 3), (.lload_n 1, 1), (.invokestatic 254, 3), (.ireturn, 1)]),
  (24, [(.getstatic 284, 3), (.iload_n 0, 1), (.iaload, 1), (.lload_n 1, 1), (.invokestatic 89, 3), (.iushr, 1), (.iconst 1, 1), (.iand, 1), (.ifCond .eq 7, 3), (.iconst 1, 1), (.goto 4, 3)]),
  (43, [(.iconst 0, 1)]),
  (44, [(.ireturn, 1)])]
def cf_X3_takes : Instr → Option rx_C := rx_lkc [] [(254, (1, none, 0, 0, f_X10_isProcedure)), (89, (1, none, 0, 0, f_X10_kind))] []
def f_X3_takes : rx_F := rx_fn (rx_lkk kC_X3) (rx_lkf fL_X3) (rx_lkf fP_X3) (rx_lkg gS_X3) (rx_lkg fG_X3) (rx_lkw nW_X3) cf_X3_takes (some .boolean) 0 0 3 kd_X3_takes rx_fu
theorem m_X3_takes (l : Launch) : rx_M l yX3_takes (Cond.code yX3_takes cX3_takes 3 (some .boolean) :: rx_WT) { frames := 1, cells := 0, slots := 0, locals := 21 } f_X3_takes := rx_met rx_fu (by decide +kernel) kC_X3_ok gS_X3_ok fG_X3_ok fL_X3_ok (fP_X3_ok _) nW_X3_ok rx_ar (by decide +kernel) (rx_lkc_of rx_n0 (rx_n1 (rx_caS 1 (m_X10_isProcedure l) w_X10_isProcedure_c w_X10_isProcedure_n (rx_in 795 (by decide +kernel) rfl) w_X10_isProcedure_t w_X10_isProcedure_d (by decide)) (rx_n1 (rx_caS 1 (m_X10_kind l) w_X10_kind_c w_X10_kind_n (rx_in 772 (by decide +kernel) rfl) w_X10_kind_t w_X10_kind_d (by decide)) rx_n0)) rx_n0)
theorem w_X3_takes_c : Cond.code yX3_takes cX3_takes 3 (some .boolean) ∈ rx_WT := rx_in 792 (by decide +kernel) rfl
theorem w_X3_takes_n : Cond.initialized yX3_takes.cls ∈ rx_WT := rx_in 204 (by decide +kernel) rfl
theorem w_X3_takes_t : Cond.static yX3_takes ∈ rx_WT := rx_in 791 (by decide +kernel) rfl
theorem w_X3_takes_d : yX3_takes.cls ≠ "java/lang/invoke/MethodHandle" ∧ yX3_takes.cls ≠ "java/lang/invoke/VarHandle" ∧ (parseMethodDescriptor yX3_takes.desc).map (fun d => d.parameters.length) = some 2 := by decide +kernel
def kd_X3_checkOperands : List (Nat × List (Instr × Nat)) := [(0, [(.iload_n 1, 1), (.ifCond .lt 11, 3), (.iload_n 1, 1), (.getstatic 274, 3), (.arraylength, 1), (.if_icmp .lt 5, 3)]),
  (12, [(.iconst 4, 1), (.ireturn, 1)]),
  (14, [(.getstatic 274, 3), (.iload_n 1, 1), (.iaload, 1), (.istore_n 2, 1), (.iconst 0, 1), (.istore_n 3, 1), (.iconst 0, 1), (.istore 4, 2)]),
  (25, [(.iload 4, 2), (.iconst 4, 1), (.if_icmp .ge 21, 3), (.iload_n 2, 1), (.iconst 4, 1), (.iload 4, 2), (.imul, 1), (.iushr, 1), (.ifCond .eq 6, 3), (.iinc 3 1, 3)]),
  (43, [(.iinc 4 1, 3), (.goto (-21), 3)]),
  (49, [(.iload_n 3, 1), (.aload_n 0, 1), (.getfield 19, 3), (.getfield 278, 3), (.if_icmp .le 5, 3), (.iconst 3, 1), (.ireturn, 1)]),
  (62, [(.iconst 0, 1), (.istore 4, 2)]),
  (65, [(.iload 4, 2), (.iload_n 3, 1), (.if_icmp .ge 35, 3), (.iload_n 2, 1), (.iconst 4, 1), (.iload 4, 2), (.imul, 1), (.iushr, 1), (.bipush 15, 2), (.iand, 1), (.aload_n 0, 1), (.getfield 19, 3), (.iload 4, 2), (.invokevirtual 271, 3), (.invokestatic 281, 3), (.ifCond .ne 5, 3), (.iconst 4, 1), (.ireturn, 1)]),
  (97, [(.iinc 4 1, 3), (.goto (-35), 3)]),
  (103, [(.iconst 0, 1), (.ireturn, 1)])]
def cf_X3_checkOperands : Instr → Option rx_C := rx_lkc [(271, (2, some 5, 0, 0, f_X5_top))] [(281, (2, none, 0, 0, f_X3_takes))] []
def f_X3_checkOperands : rx_F := rx_fn (rx_lkk kC_X3) (rx_lkf fL_X3) (rx_lkf fP_X3) (rx_lkg gS_X3) (rx_lkg fG_X3) (rx_lkw nW_X3) cf_X3_checkOperands (some .int) 0 0 5 kd_X3_checkOperands rx_fu
theorem m_X3_checkOperands (l : Launch) : rx_M l yX3_checkOperands (Cond.code yX3_checkOperands cX3_checkOperands 5 (some .int) :: rx_WT) { frames := 2, cells := 0, slots := 0, locals := 43 } f_X3_checkOperands := rx_met rx_fu (by decide +kernel) kC_X3_ok gS_X3_ok fG_X3_ok fL_X3_ok (fP_X3_ok _) nW_X3_ok rx_ar (by decide +kernel) (rx_lkc_of (rx_n1 (rx_caV 1 5 (m_X5_top l) w_X5_top_c w_X5_top_n (rx_in 785 (by decide +kernel) rfl) w_X5_top_i w_X5_top_s w_X5_top_d (by decide) rfl rfl) rx_n0) (rx_n1 (rx_caS 2 (m_X3_takes l) w_X3_takes_c w_X3_takes_n (rx_in 790 (by decide +kernel) rfl) w_X3_takes_t w_X3_takes_d (by decide)) rx_n0) rx_n0)
theorem w_X3_checkOperands_c : Cond.code yX3_checkOperands cX3_checkOperands 5 (some .int) ∈ rx_WT := rx_in 782 (by decide +kernel) rfl
theorem w_X3_checkOperands_n : Cond.initialized yX3_checkOperands.cls ∈ rx_WT := rx_in 204 (by decide +kernel) rfl
theorem w_X3_checkOperands_i : Cond.instanceMethod yX3_checkOperands ∈ rx_WT := rx_in 781 (by decide +kernel) rfl
theorem w_X3_checkOperands_s : Cond.selects yX3_checkOperands.cls yX3_checkOperands yX3_checkOperands ∈ rx_WT := rx_in 3 (by decide +kernel) rfl
theorem w_X3_checkOperands_d : yX3_checkOperands.cls ≠ "java/lang/invoke/MethodHandle" ∧ yX3_checkOperands.cls ≠ "java/lang/invoke/VarHandle" ∧ (parseMethodDescriptor yX3_checkOperands.desc).map (fun d => d.parameters.length) = some 1 := by decide +kernel
def kd_X3_handOn : List (Nat × List (Instr × Nat)) := [(0, [(.aload_n 0, 1), (.lload_n 1, 1), (.putfield 82, 3), (.aload_n 0, 1), (.iconst 0, 1), (.putfield 177, 3), (.aload_n 0, 1), (.iload_n 3, 1), (.putfield 181, 3), (.return_, 1)])]
def cf_X3_handOn : Instr → Option rx_C := rx_lkc [] [] []
def f_X3_handOn : rx_F := rx_fn (rx_lkk kC_X3) (rx_lkf fL_X3) (rx_lkf fP_X3) (rx_lkg gS_X3) (rx_lkg fG_X3) (rx_lkw nW_X3) cf_X3_handOn none 0 0 4 kd_X3_handOn rx_fu
theorem m_X3_handOn (l : Launch) : rx_M l yX3_handOn (Cond.code yX3_handOn cX3_handOn 4 none :: rx_WT) { frames := 0, cells := 0, slots := 0, locals := 0 } f_X3_handOn := rx_met rx_fu (by decide +kernel) kC_X3_ok gS_X3_ok fG_X3_ok fL_X3_ok (fP_X3_ok _) nW_X3_ok rx_ar (by decide +kernel) (rx_lkc_of rx_n0 rx_n0 rx_n0)
theorem w_X3_handOn_c : Cond.code yX3_handOn cX3_handOn 4 none ∈ rx_WT := rx_in 816 (by decide +kernel) rfl
theorem w_X3_handOn_n : Cond.initialized yX3_handOn.cls ∈ rx_WT := rx_in 204 (by decide +kernel) rfl
theorem w_X3_handOn_i : Cond.instanceMethod yX3_handOn ∈ rx_WT := rx_in 815 (by decide +kernel) rfl
theorem w_X3_handOn_s : Cond.selects yX3_handOn.cls yX3_handOn yX3_handOn ∈ rx_WT := rx_in 6 (by decide +kernel) rfl
theorem w_X3_handOn_d : yX3_handOn.cls ≠ "java/lang/invoke/MethodHandle" ∧ yX3_handOn.cls ≠ "java/lang/invoke/VarHandle" ∧ (parseMethodDescriptor yX3_handOn.desc).map (fun d => d.parameters.length) = some 2 := by decide +kernel
def kd_X3_exec : List (Nat × List (Instr × Nat)) := [(0, [(.aload_n 0, 1), (.getfield 19, 3), (.iconst 0, 1), (.invokevirtual 271, 3), (.invokestatic 254, 3), (.ifCond .eq 16, 3), (.aload_n 0, 1), (.getfield 30, 3), (.iconst 1, 1), (.invokevirtual 315, 3), (.ifCond .ne 5, 3), (.iconst 2, 1), (.ireturn, 1)]),
  (27, [(.aload_n 0, 1), (.aload_n 0, 1), (.getfield 19, 3), (.iconst 0, 1), (.invokevirtual 271, 3), (.bipush 56, 2), (.invokevirtual 250, 3), (.aload_n 0, 1), (.getfield 19, 3), (.iconst 1, 1), (.invokevirtual 316, 3), (.iconst 0, 1), (.ireturn, 1)])]
def cf_X3_exec : Instr → Option rx_C := rx_lkc [(271, (2, some 5, 0, 0, f_X5_top)), (315, (2, some 2, 0, 0, f_X2_hasRoom)), (250, (3, some 3, 0, 0, f_X3_handOn)), (316, (2, some 5, 0, 0, f_X5_drop))] [(254, (1, none, 0, 0, f_X10_isProcedure))] []
def f_X3_exec : rx_F := rx_fn (rx_lkk kC_X3) (rx_lkf fL_X3) (rx_lkf fP_X3) (rx_lkg gS_X3) (rx_lkg fG_X3) (rx_lkw nW_X3) cf_X3_exec (some .int) 0 0 1 kd_X3_exec rx_fu
theorem m_X3_exec (l : Launch) : rx_M l yX3_exec (Cond.code yX3_exec cX3_exec 1 (some .int) :: rx_WT) { frames := 1, cells := 0, slots := 0, locals := 23 } f_X3_exec := rx_met rx_fu (by decide +kernel) kC_X3_ok gS_X3_ok fG_X3_ok fL_X3_ok (fP_X3_ok _) nW_X3_ok rx_ar (by decide +kernel) (rx_lkc_of (rx_n1 (rx_caV 1 5 (m_X5_top l) w_X5_top_c w_X5_top_n (rx_in 785 (by decide +kernel) rfl) w_X5_top_i w_X5_top_s w_X5_top_d (by decide) rfl rfl) (rx_n1 (rx_caV 1 2 (m_X2_hasRoom l) w_X2_hasRoom_c w_X2_hasRoom_n (rx_in 809 (by decide +kernel) rfl) w_X2_hasRoom_i w_X2_hasRoom_s w_X2_hasRoom_d (by decide) rfl rfl) (rx_n1 (rx_caV 2 3 (m_X3_handOn l) w_X3_handOn_c w_X3_handOn_n (rx_in 813 (by decide +kernel) rfl) w_X3_handOn_i w_X3_handOn_s w_X3_handOn_d (by decide) rfl rfl) (rx_n1 (rx_caV 1 5 (m_X5_drop l) w_X5_drop_c w_X5_drop_n (rx_in 817 (by decide +kernel) rfl) w_X5_drop_i w_X5_drop_s w_X5_drop_d (by decide) rfl rfl) rx_n0)))) (rx_n1 (rx_caS 1 (m_X10_isProcedure l) w_X10_isProcedure_c w_X10_isProcedure_n (rx_in 795 (by decide +kernel) rfl) w_X10_isProcedure_t w_X10_isProcedure_d (by decide)) rx_n0) rx_n0)
theorem w_X3_exec_c : Cond.code yX3_exec cX3_exec 1 (some .int) ∈ rx_WT := rx_in 808 (by decide +kernel) rfl
theorem w_X3_exec_n : Cond.initialized yX3_exec.cls ∈ rx_WT := rx_in 204 (by decide +kernel) rfl
theorem w_X3_exec_i : Cond.instanceMethod yX3_exec ∈ rx_WT := rx_in 807 (by decide +kernel) rfl
theorem w_X3_exec_s : Cond.selects yX3_exec.cls yX3_exec yX3_exec ∈ rx_WT := rx_in 5 (by decide +kernel) rfl
theorem w_X3_exec_d : yX3_exec.cls ≠ "java/lang/invoke/MethodHandle" ∧ yX3_exec.cls ≠ "java/lang/invoke/VarHandle" ∧ (parseMethodDescriptor yX3_exec.desc).map (fun d => d.parameters.length) = some 0 := by decide +kernel
def kd_X3_branch : List (Nat × List (Instr × Nat)) := [(0, [(.aload_n 0, 1), (.getfield 30, 3), (.iconst 1, 1), (.invokevirtual 315, 3), (.ifCond .ne 5, 3), (.iconst 2, 1), (.ireturn, 1)]),
  (13, [(.aload_n 0, 1), (.getfield 19, 3), (.iload_n 1, 1), (.invokevirtual 316, 3), (.lload_n 2, 1), (.ldc2_w 80, 3), (.lcmp, 1), (.ifCond .eq 13, 3), (.aload_n 0, 1), (.getfield 30, 3), (.iconst 1, 1), (.lload_n 2, 1), (.invokevirtual 204, 3), (.pop, 1)]),
  (39, [(.iconst 0, 1), (.ireturn, 1)])]
def cf_X3_branch : Instr → Option rx_C := rx_lkc [(315, (2, some 2, 0, 0, f_X2_hasRoom)), (316, (2, some 5, 0, 0, f_X5_drop)), (204, (3, some 2, 0, 0, f_X2_enter))] [] []
def f_X3_branch : rx_F := rx_fn (rx_lkk kC_X3) (rx_lkf fL_X3) (rx_lkf fP_X3) (rx_lkg gS_X3) (rx_lkg fG_X3) (rx_lkw nW_X3) cf_X3_branch (some .int) 0 0 4 kd_X3_branch rx_fu
theorem m_X3_branch (l : Launch) : rx_M l yX3_branch (Cond.code yX3_branch cX3_branch 4 (some .int) :: rx_WT) { frames := 1, cells := 0, slots := 0, locals := 23 } f_X3_branch := rx_met rx_fu (by decide +kernel) kC_X3_ok gS_X3_ok fG_X3_ok fL_X3_ok (fP_X3_ok _) nW_X3_ok rx_ar (by decide +kernel) (rx_lkc_of (rx_n1 (rx_caV 1 2 (m_X2_hasRoom l) w_X2_hasRoom_c w_X2_hasRoom_n (rx_in 809 (by decide +kernel) rfl) w_X2_hasRoom_i w_X2_hasRoom_s w_X2_hasRoom_d (by decide) rfl rfl) (rx_n1 (rx_caV 1 5 (m_X5_drop l) w_X5_drop_c w_X5_drop_n (rx_in 817 (by decide +kernel) rfl) w_X5_drop_i w_X5_drop_s w_X5_drop_d (by decide) rfl rfl) (rx_n1 (rx_caV 2 2 (m_X2_enter l) w_X2_enter_c w_X2_enter_n (rx_in 830 (by decide +kernel) rfl) w_X2_enter_i w_X2_enter_s w_X2_enter_d (by decide) rfl rfl) rx_n0))) rx_n0 rx_n0)
theorem w_X3_branch_c : Cond.code yX3_branch cX3_branch 4 (some .int) ∈ rx_WT := rx_in 829 (by decide +kernel) rfl
theorem w_X3_branch_n : Cond.initialized yX3_branch.cls ∈ rx_WT := rx_in 204 (by decide +kernel) rfl
theorem w_X3_branch_i : Cond.instanceMethod yX3_branch ∈ rx_WT := rx_in 828 (by decide +kernel) rfl
theorem w_X3_branch_s : Cond.selects yX3_branch.cls yX3_branch yX3_branch ∈ rx_WT := rx_in 7 (by decide +kernel) rfl
theorem w_X3_branch_d : yX3_branch.cls ≠ "java/lang/invoke/MethodHandle" ∧ yX3_branch.cls ≠ "java/lang/invoke/VarHandle" ∧ (parseMethodDescriptor yX3_branch.desc).map (fun d => d.parameters.length) = some 2 := by decide +kernel
def kd_X3_enterLoop : List (Nat × List (Instr × Nat)) := [(0, [(.aload_n 0, 1), (.getfield 30, 3), (.iconst 2, 1), (.invokevirtual 315, 3), (.ifCond .ne 5, 3), (.iconst 2, 1), (.ireturn, 1)]),
  (13, [(.aload_n 0, 1), (.getfield 30, 3), (.iload_n 1, 1), (.aload_n 0, 1), (.getfield 19, 3), (.iconst 0, 1), (.invokevirtual 271, 3), (.invokevirtual 204, 3), (.pop, 1), (.aload_n 0, 1), (.getfield 19, 3), (.iload_n 2, 1), (.invokevirtual 316, 3), (.iconst 0, 1), (.ireturn, 1)])]
def cf_X3_enterLoop : Instr → Option rx_C := rx_lkc [(315, (2, some 2, 0, 0, f_X2_hasRoom)), (271, (2, some 5, 0, 0, f_X5_top)), (204, (3, some 2, 0, 0, f_X2_enter)), (316, (2, some 5, 0, 0, f_X5_drop))] [] []
def f_X3_enterLoop : rx_F := rx_fn (rx_lkk kC_X3) (rx_lkf fL_X3) (rx_lkf fP_X3) (rx_lkg gS_X3) (rx_lkg fG_X3) (rx_lkw nW_X3) cf_X3_enterLoop (some .int) 0 0 3 kd_X3_enterLoop rx_fu
theorem m_X3_enterLoop (l : Launch) : rx_M l yX3_enterLoop (Cond.code yX3_enterLoop cX3_enterLoop 3 (some .int) :: rx_WT) { frames := 1, cells := 0, slots := 0, locals := 23 } f_X3_enterLoop := rx_met rx_fu (by decide +kernel) kC_X3_ok gS_X3_ok fG_X3_ok fL_X3_ok (fP_X3_ok _) nW_X3_ok rx_ar (by decide +kernel) (rx_lkc_of (rx_n1 (rx_caV 1 2 (m_X2_hasRoom l) w_X2_hasRoom_c w_X2_hasRoom_n (rx_in 809 (by decide +kernel) rfl) w_X2_hasRoom_i w_X2_hasRoom_s w_X2_hasRoom_d (by decide) rfl rfl) (rx_n1 (rx_caV 1 5 (m_X5_top l) w_X5_top_c w_X5_top_n (rx_in 785 (by decide +kernel) rfl) w_X5_top_i w_X5_top_s w_X5_top_d (by decide) rfl rfl) (rx_n1 (rx_caV 2 2 (m_X2_enter l) w_X2_enter_c w_X2_enter_n (rx_in 830 (by decide +kernel) rfl) w_X2_enter_i w_X2_enter_s w_X2_enter_d (by decide) rfl rfl) (rx_n1 (rx_caV 1 5 (m_X5_drop l) w_X5_drop_c w_X5_drop_n (rx_in 817 (by decide +kernel) rfl) w_X5_drop_i w_X5_drop_s w_X5_drop_d (by decide) rfl rfl) rx_n0)))) rx_n0 rx_n0)
theorem w_X3_enterLoop_c : Cond.code yX3_enterLoop cX3_enterLoop 3 (some .int) ∈ rx_WT := rx_in 842 (by decide +kernel) rfl
theorem w_X3_enterLoop_n : Cond.initialized yX3_enterLoop.cls ∈ rx_WT := rx_in 204 (by decide +kernel) rfl
theorem w_X3_enterLoop_i : Cond.instanceMethod yX3_enterLoop ∈ rx_WT := rx_in 841 (by decide +kernel) rfl
theorem w_X3_enterLoop_s : Cond.selects yX3_enterLoop.cls yX3_enterLoop yX3_enterLoop ∈ rx_WT := rx_in 9 (by decide +kernel) rfl
theorem w_X3_enterLoop_d : yX3_enterLoop.cls ≠ "java/lang/invoke/MethodHandle" ∧ yX3_enterLoop.cls ≠ "java/lang/invoke/VarHandle" ∧ (parseMethodDescriptor yX3_enterLoop.desc).map (fun d => d.parameters.length) = some 2 := by decide +kernel
def kd_X3_loopFor : List (Nat × List (Instr × Nat)) := [(0, [(.aload_n 0, 1), (.getfield 19, 3), (.iconst 3, 1), (.invokevirtual 290, 3), (.istore_n 1, 1), (.aload_n 0, 1), (.getfield 19, 3), (.iconst 2, 1), (.invokevirtual 290, 3), (.istore_n 2, 1), (.aload_n 0, 1), (.getfield 19, 3), (.iconst 1, 1), (.invokevirtual 290, 3), (.istore_n 3, 1), (.iload_n 2, 1), (.ifCond .ne 6, 3), (.bipush 6, 2), (.ireturn, 1)]),
  (34, [(.aload_n 0, 1), (.iconst 3, 1), (.iconst 4, 1), (.invokevirtual 302, 3), (.istore 4, 2), (.iload 4, 2), (.ifCond .ne 16, 3), (.aload_n 0, 1), (.getfield 30, 3), (.iload_n 1, 1), (.i2l, 1), (.iload_n 2, 1), (.i2l, 1), (.iload_n 3, 1), (.i2l, 1), (.invokevirtual 319, 3)]),
  (60, [(.iload 4, 2), (.ireturn, 1)])]
def cf_X3_loopFor : Instr → Option rx_C := rx_lkc [(290, (2, some 5, 0, 0, f_X5_numberAt)), (302, (3, some 3, 0, 0, f_X3_enterLoop)), (319, (4, some 2, 0, 0, f_X2_setBounds))] [] []
def f_X3_loopFor : rx_F := rx_fn (rx_lkk kC_X3) (rx_lkf fL_X3) (rx_lkf fP_X3) (rx_lkg gS_X3) (rx_lkg fG_X3) (rx_lkw nW_X3) cf_X3_loopFor (some .int) 0 0 5 kd_X3_loopFor rx_fu
theorem m_X3_loopFor (l : Launch) : rx_M l yX3_loopFor (Cond.code yX3_loopFor cX3_loopFor 5 (some .int) :: rx_WT) { frames := 2, cells := 0, slots := 0, locals := 47 } f_X3_loopFor := rx_met rx_fu (by decide +kernel) kC_X3_ok gS_X3_ok fG_X3_ok fL_X3_ok (fP_X3_ok _) nW_X3_ok rx_ar (by decide +kernel) (rx_lkc_of (rx_n1 (rx_caV 1 5 (m_X5_numberAt l) w_X5_numberAt_c w_X5_numberAt_n (rx_in 821 (by decide +kernel) rfl) w_X5_numberAt_i w_X5_numberAt_s w_X5_numberAt_d (by decide) rfl rfl) (rx_n1 (rx_caV 2 3 (m_X3_enterLoop l) w_X3_enterLoop_c w_X3_enterLoop_n (rx_in 839 (by decide +kernel) rfl) w_X3_enterLoop_i w_X3_enterLoop_s w_X3_enterLoop_d (by decide) rfl rfl) (rx_n1 (rx_caV 3 2 (m_X2_setBounds l) w_X2_setBounds_c w_X2_setBounds_n (rx_in 843 (by decide +kernel) rfl) w_X2_setBounds_i w_X2_setBounds_s w_X2_setBounds_d (by decide) rfl rfl) rx_n0))) rx_n0 rx_n0)
theorem w_X3_loopFor_c : Cond.code yX3_loopFor cX3_loopFor 5 (some .int) ∈ rx_WT := rx_in 838 (by decide +kernel) rfl
theorem w_X3_loopFor_n : Cond.initialized yX3_loopFor.cls ∈ rx_WT := rx_in 204 (by decide +kernel) rfl
theorem w_X3_loopFor_i : Cond.instanceMethod yX3_loopFor ∈ rx_WT := rx_in 837 (by decide +kernel) rfl
theorem w_X3_loopFor_s : Cond.selects yX3_loopFor.cls yX3_loopFor yX3_loopFor ∈ rx_WT := rx_in 8 (by decide +kernel) rfl
theorem w_X3_loopFor_d : yX3_loopFor.cls ≠ "java/lang/invoke/MethodHandle" ∧ yX3_loopFor.cls ≠ "java/lang/invoke/VarHandle" ∧ (parseMethodDescriptor yX3_loopFor.desc).map (fun d => d.parameters.length) = some 0 := by decide +kernel
def kd_X3_repeat : List (Nat × List (Instr × Nat)) := [(0, [(.aload_n 0, 1), (.getfield 19, 3), (.iconst 1, 1), (.invokevirtual 290, 3), (.istore_n 1, 1), (.iload_n 1, 1), (.ifCond .ge 6, 3), (.bipush 6, 2), (.ireturn, 1)]),
  (16, [(.aload_n 0, 1), (.iconst 4, 1), (.iconst 2, 1), (.invokevirtual 302, 3), (.istore_n 2, 1), (.iload_n 2, 1), (.ifCond .ne 12, 3), (.aload_n 0, 1), (.getfield 30, 3), (.iload_n 1, 1), (.i2l, 1), (.invokevirtual 168, 3)]),
  (36, [(.iload_n 2, 1), (.ireturn, 1)])]
def cf_X3_repeat : Instr → Option rx_C := rx_lkc [(290, (2, some 5, 0, 0, f_X5_numberAt)), (302, (3, some 3, 0, 0, f_X3_enterLoop)), (168, (2, some 2, 0, 0, f_X2_setNext))] [] []
def f_X3_repeat : rx_F := rx_fn (rx_lkk kC_X3) (rx_lkf fL_X3) (rx_lkf fP_X3) (rx_lkg gS_X3) (rx_lkg fG_X3) (rx_lkw nW_X3) cf_X3_repeat (some .int) 0 0 3 kd_X3_repeat rx_fu
theorem m_X3_repeat (l : Launch) : rx_M l yX3_repeat (Cond.code yX3_repeat cX3_repeat 3 (some .int) :: rx_WT) { frames := 2, cells := 0, slots := 0, locals := 45 } f_X3_repeat := rx_met rx_fu (by decide +kernel) kC_X3_ok gS_X3_ok fG_X3_ok fL_X3_ok (fP_X3_ok _) nW_X3_ok rx_ar (by decide +kernel) (rx_lkc_of (rx_n1 (rx_caV 1 5 (m_X5_numberAt l) w_X5_numberAt_c w_X5_numberAt_n (rx_in 821 (by decide +kernel) rfl) w_X5_numberAt_i w_X5_numberAt_s w_X5_numberAt_d (by decide) rfl rfl) (rx_n1 (rx_caV 2 3 (m_X3_enterLoop l) w_X3_enterLoop_c w_X3_enterLoop_n (rx_in 839 (by decide +kernel) rfl) w_X3_enterLoop_i w_X3_enterLoop_s w_X3_enterLoop_d (by decide) rfl rfl) (rx_n1 (rx_caV 1 2 (m_X2_setNext l) w_X2_setNext_c w_X2_setNext_n (rx_in 855 (by decide +kernel) rfl) w_X2_setNext_i w_X2_setNext_s w_X2_setNext_d (by decide) rfl rfl) rx_n0))) rx_n0 rx_n0)
theorem w_X3_repeat_c : Cond.code yX3_repeat cX3_repeat 3 (some .int) ∈ rx_WT := rx_in 854 (by decide +kernel) rfl
theorem w_X3_repeat_n : Cond.initialized yX3_repeat.cls ∈ rx_WT := rx_in 204 (by decide +kernel) rfl
theorem w_X3_repeat_i : Cond.instanceMethod yX3_repeat ∈ rx_WT := rx_in 853 (by decide +kernel) rfl
theorem w_X3_repeat_s : Cond.selects yX3_repeat.cls yX3_repeat yX3_repeat ∈ rx_WT := rx_in 11 (by decide +kernel) rfl
theorem w_X3_repeat_d : yX3_repeat.cls ≠ "java/lang/invoke/MethodHandle" ∧ yX3_repeat.cls ≠ "java/lang/invoke/VarHandle" ∧ (parseMethodDescriptor yX3_repeat.desc).map (fun d => d.parameters.length) = some 0 := by decide +kernel
def kd_X3_forall : List (Nat × List (Instr × Nat)) := [(0, [(.aload_n 0, 1), (.getfield 19, 3), (.iconst 1, 1), (.invokevirtual 271, 3), (.lstore_n 1, 1), (.aload_n 0, 1), (.bipush 6, 2), (.iconst 2, 1), (.invokevirtual 302, 3), (.istore_n 3, 1), (.iload_n 3, 1), (.ifCond .eq 5, 3), (.iload_n 3, 1), (.ireturn, 1)]),
  (23, [(.lload_n 1, 1), (.invokestatic 89, 3), (.bipush 7, 2), (.if_icmp .eq 17, 3), (.aload_n 0, 1), (.getfield 30, 3), (.lload_n 1, 1), (.lload_n 1, 1), (.invokestatic 162, 3), (.invokevirtual 323, 3), (.iconst 0, 1), (.ireturn, 1)]),
  (46, [(.aload_n 0, 1), (.getfield 15, 3), (.lload_n 1, 1), (.l2i, 1), (.invokevirtual 326, 3), (.istore 4, 2), (.aload_n 0, 1), (.getfield 30, 3), (.lload_n 1, 1), (.iload 4, 2), (.invokevirtual 323, 3), (.iconst 0, 1), (.istore 5, 2)]),
  (70, [(.iload 5, 2), (.iload 4, 2), (.if_icmp .ge 29, 3), (.aload_n 0, 1), (.getfield 30, 3), (.iload 5, 2), (.aload_n 0, 1), (.getfield 15, 3), (.lload_n 1, 1), (.l2i, 1), (.iload 5, 2), (.invokevirtual 329, 3), (.invokevirtual 332, 3), (.iinc 5 1, 3), (.goto (-30), 3)]),
  (103, [(.iconst 0, 1), (.ireturn, 1)])]
def cf_X3_forall : Instr → Option rx_C := rx_lkc [(271, (2, some 5, 0, 0, f_X5_top)), (302, (3, some 3, 0, 0, f_X3_enterLoop)), (323, (3, some 2, 0, 0, f_X2_setSubject)), (326, (2, some 0, 0, 0, f_X0_pairsOf)), (329, (3, some 0, 0, 0, f_X0_keyAt)), (332, (3, some 2, 0, 0, f_X2_keepKey))] [(89, (1, none, 0, 0, f_X10_kind)), (162, (1, none, 0, 0, f_X10_length))] []
def f_X3_forall : rx_F := rx_fn (rx_lkk kC_X3) (rx_lkf fL_X3) (rx_lkf fP_X3) (rx_lkg gS_X3) (rx_lkg fG_X3) (rx_lkw nW_X3) cf_X3_forall (some .int) 0 0 6 kd_X3_forall rx_fu
theorem m_X3_forall (l : Launch) : rx_M l yX3_forall (Cond.code yX3_forall cX3_forall 6 (some .int) :: rx_WT) { frames := 2, cells := 0, slots := 0, locals := 45 } f_X3_forall := rx_met rx_fu (by decide +kernel) kC_X3_ok gS_X3_ok fG_X3_ok fL_X3_ok (fP_X3_ok _) nW_X3_ok rx_ar (by decide +kernel) (rx_lkc_of (rx_n1 (rx_caV 1 5 (m_X5_top l) w_X5_top_c w_X5_top_n (rx_in 785 (by decide +kernel) rfl) w_X5_top_i w_X5_top_s w_X5_top_d (by decide) rfl rfl) (rx_n1 (rx_caV 2 3 (m_X3_enterLoop l) w_X3_enterLoop_c w_X3_enterLoop_n (rx_in 839 (by decide +kernel) rfl) w_X3_enterLoop_i w_X3_enterLoop_s w_X3_enterLoop_d (by decide) rfl rfl) (rx_n1 (rx_caV 2 2 (m_X2_setSubject l) w_X2_setSubject_c w_X2_setSubject_n (rx_in 867 (by decide +kernel) rfl) w_X2_setSubject_i w_X2_setSubject_s w_X2_setSubject_d (by decide) rfl rfl) (rx_n1 (rx_caV 1 0 (m_X0_pairsOf l) w_X0_pairsOf_c w_X0_pairsOf_n (rx_in 871 (by decide +kernel) rfl) w_X0_pairsOf_i w_X0_pairsOf_s w_X0_pairsOf_d (by decide) rfl rfl) (rx_n1 (rx_caV 2 0 (m_X0_keyAt l) w_X0_keyAt_c w_X0_keyAt_n (rx_in 875 (by decide +kernel) rfl) w_X0_keyAt_i w_X0_keyAt_s w_X0_keyAt_d (by decide) rfl rfl) (rx_n1 (rx_caV 2 2 (m_X2_keepKey l) w_X2_keepKey_c w_X2_keepKey_n (rx_in 880 (by decide +kernel) rfl) w_X2_keepKey_i w_X2_keepKey_s w_X2_keepKey_d (by decide) rfl rfl) rx_n0)))))) (rx_n1 (rx_caS 1 (m_X10_kind l) w_X10_kind_c w_X10_kind_n (rx_in 772 (by decide +kernel) rfl) w_X10_kind_t w_X10_kind_d (by decide)) (rx_n1 (rx_caS 1 (m_X10_length l) w_X10_length_c w_X10_length_n (rx_in 863 (by decide +kernel) rfl) w_X10_length_t w_X10_length_d (by decide)) rx_n0)) rx_n0)
theorem w_X3_forall_c : Cond.code yX3_forall cX3_forall 6 (some .int) ∈ rx_WT := rx_in 862 (by decide +kernel) rfl
theorem w_X3_forall_n : Cond.initialized yX3_forall.cls ∈ rx_WT := rx_in 204 (by decide +kernel) rfl
theorem w_X3_forall_i : Cond.instanceMethod yX3_forall ∈ rx_WT := rx_in 861 (by decide +kernel) rfl
theorem w_X3_forall_s : Cond.selects yX3_forall.cls yX3_forall yX3_forall ∈ rx_WT := rx_in 12 (by decide +kernel) rfl
theorem w_X3_forall_d : yX3_forall.cls ≠ "java/lang/invoke/MethodHandle" ∧ yX3_forall.cls ≠ "java/lang/invoke/VarHandle" ∧ (parseMethodDescriptor yX3_forall.desc).map (fun d => d.parameters.length) = some 0 := by decide +kernel
def kd_X5_push : List (Nat × List (Instr × Nat)) := [(0, [(.aload_n 0, 1), (.getfield 18, 3), (.ifCond .lt 12, 3), (.aload_n 0, 1), (.getfield 18, 3), (.bipush 60, 2), (.if_icmp .lt 5, 3)]),
  (16, [(.iconst 0, 1), (.ireturn, 1)]),
  (18, [(.aload_n 0, 1), (.getfield 11, 3), (.aload_n 0, 1), (.getfield 18, 3), (.lload_n 1, 1), (.lastore, 1), (.aload_n 0, 1), (.dup, 1), (.getfield 18, 3), (.iconst 1, 1), (.iadd, 1), (.putfield 18, 3), (.iconst 1, 1), (.ireturn, 1)])]
def cf_X5_push : Instr → Option rx_C := rx_lkc [] [] []
def f_X5_push : rx_F := rx_fn (rx_lkk kC_X5) (rx_lkf fL_X5) (rx_lkf fP_X5) (rx_lkg gS_X5) (rx_lkg fG_X5) (rx_lkw nW_X5) cf_X5_push (some .boolean) 0 0 3 kd_X5_push rx_fu
theorem m_X5_push (l : Launch) : rx_M l yX5_push (Cond.code yX5_push cX5_push 3 (some .boolean) :: rx_WT) { frames := 0, cells := 0, slots := 0, locals := 0 } f_X5_push := rx_met rx_fu (by decide +kernel) kC_X5_ok gS_X5_ok fG_X5_ok fL_X5_ok (fP_X5_ok _) nW_X5_ok rx_ar (by decide +kernel) (rx_lkc_of rx_n0 rx_n0 rx_n0)
theorem w_X5_push_c : Cond.code yX5_push cX5_push 3 (some .boolean) ∈ rx_WT := rx_in 900 (by decide +kernel) rfl
theorem w_X5_push_n : Cond.initialized yX5_push.cls ∈ rx_WT := rx_in 202 (by decide +kernel) rfl
theorem w_X5_push_i : Cond.instanceMethod yX5_push ∈ rx_WT := rx_in 898 (by decide +kernel) rfl
theorem w_X5_push_s : Cond.selects yX5_push.cls yX5_push yX5_push ∈ rx_WT := rx_in 899 (by decide +kernel) rfl
theorem w_X5_push_d : yX5_push.cls ≠ "java/lang/invoke/MethodHandle" ∧ yX5_push.cls ≠ "java/lang/invoke/VarHandle" ∧ (parseMethodDescriptor yX5_push.desc).map (fun d => d.parameters.length) = some 1 := by decide +kernel
def kd_X3_unwind : List (Nat × List (Instr × Nat)) := [(0, [(.iconst 0, 1), (.istore_n 2, 1)]),
  (2, [(.iload_n 2, 1), (.bipush 24, 2), (.if_icmp .ge 45, 3), (.aload_n 0, 1), (.getfield 30, 3), (.invokevirtual 239, 3), (.ifCond .eq 35, 3), (.aload_n 0, 1), (.getfield 19, 3), (.ldc2_w 242, 3), (.invokevirtual 186, 3), (.ifCond .eq 4, 3), (.return_, 1)]),
  (32, [(.aload_n 0, 1), (.bipush 13, 2), (.putfield 66, 3), (.aload_n 0, 1), (.bipush 65, 2), (.putfield 69, 3), (.iinc 2 1, 3), (.goto (-45), 3)]),
  (50, [(.aload_n 0, 1), (.iload_n 1, 1), (.putfield 75, 3), (.return_, 1)])]
def cf_X3_unwind : Instr → Option rx_C := rx_lkc [(239, (1, some 2, 0, 0, f_X2_leaveStopped)), (186, (2, some 5, 0, 0, f_X5_push))] [] []
def f_X3_unwind : rx_F := rx_fn (rx_lkk kC_X3) (rx_lkf fL_X3) (rx_lkf fP_X3) (rx_lkg gS_X3) (rx_lkg fG_X3) (rx_lkw nW_X3) cf_X3_unwind none 0 0 3 kd_X3_unwind rx_fu
theorem m_X3_unwind (l : Launch) : rx_M l yX3_unwind (Cond.code yX3_unwind cX3_unwind 3 none :: rx_WT) { frames := 1, cells := 0, slots := 0, locals := 22 } f_X3_unwind := rx_met rx_fu (by decide +kernel) kC_X3_ok gS_X3_ok fG_X3_ok fL_X3_ok (fP_X3_ok _) nW_X3_ok rx_ar (by decide +kernel) (rx_lkc_of (rx_n1 (rx_caV 0 2 (m_X2_leaveStopped l) w_X2_leaveStopped_c w_X2_leaveStopped_n (rx_in 892 (by decide +kernel) rfl) w_X2_leaveStopped_i w_X2_leaveStopped_s w_X2_leaveStopped_d (by decide) rfl rfl) (rx_n1 (rx_caV 1 5 (m_X5_push l) w_X5_push_c w_X5_push_n (rx_in 897 (by decide +kernel) rfl) w_X5_push_i w_X5_push_s w_X5_push_d (by decide) rfl rfl) rx_n0)) rx_n0 rx_n0)
theorem w_X3_unwind_c : Cond.code yX3_unwind cX3_unwind 3 none ∈ rx_WT := rx_in 891 (by decide +kernel) rfl
theorem w_X3_unwind_n : Cond.initialized yX3_unwind.cls ∈ rx_WT := rx_in 204 (by decide +kernel) rfl
theorem w_X3_unwind_i : Cond.instanceMethod yX3_unwind ∈ rx_WT := rx_in 890 (by decide +kernel) rfl
theorem w_X3_unwind_s : Cond.selects yX3_unwind.cls yX3_unwind yX3_unwind ∈ rx_WT := rx_in 13 (by decide +kernel) rfl
theorem w_X3_unwind_d : yX3_unwind.cls ≠ "java/lang/invoke/MethodHandle" ∧ yX3_unwind.cls ≠ "java/lang/invoke/VarHandle" ∧ (parseMethodDescriptor yX3_unwind.desc).map (fun d => d.parameters.length) = some 1 := by decide +kernel
def kd_X3_stopped : List (Nat × List (Instr × Nat)) := [(0, [(.aload_n 0, 1), (.getfield 30, 3), (.iconst 2, 1), (.invokevirtual 315, 3), (.ifCond .ne 5, 3), (.iconst 2, 1), (.ireturn, 1)]),
  (13, [(.aload_n 0, 1), (.aload_n 0, 1), (.getfield 19, 3), (.iconst 0, 1), (.invokevirtual 271, 3), (.bipush 65, 2), (.invokevirtual 250, 3), (.aload_n 0, 1), (.getfield 19, 3), (.iconst 1, 1), (.invokevirtual 316, 3), (.aload_n 0, 1), (.getfield 30, 3), (.iconst 2, 1), (.ldc2_w 80, 3), (.invokevirtual 204, 3), (.pop, 1), (.iconst 0, 1), (.ireturn, 1)])]
def cf_X3_stopped : Instr → Option rx_C := rx_lkc [(315, (2, some 2, 0, 0, f_X2_hasRoom)), (271, (2, some 5, 0, 0, f_X5_top)), (250, (3, some 3, 0, 0, f_X3_handOn)), (316, (2, some 5, 0, 0, f_X5_drop)), (204, (3, some 2, 0, 0, f_X2_enter))] [] []
def f_X3_stopped : rx_F := rx_fn (rx_lkk kC_X3) (rx_lkf fL_X3) (rx_lkf fP_X3) (rx_lkg gS_X3) (rx_lkg fG_X3) (rx_lkw nW_X3) cf_X3_stopped (some .int) 0 0 1 kd_X3_stopped rx_fu
theorem m_X3_stopped (l : Launch) : rx_M l yX3_stopped (Cond.code yX3_stopped cX3_stopped 1 (some .int) :: rx_WT) { frames := 1, cells := 0, slots := 0, locals := 23 } f_X3_stopped := rx_met rx_fu (by decide +kernel) kC_X3_ok gS_X3_ok fG_X3_ok fL_X3_ok (fP_X3_ok _) nW_X3_ok rx_ar (by decide +kernel) (rx_lkc_of (rx_n1 (rx_caV 1 2 (m_X2_hasRoom l) w_X2_hasRoom_c w_X2_hasRoom_n (rx_in 809 (by decide +kernel) rfl) w_X2_hasRoom_i w_X2_hasRoom_s w_X2_hasRoom_d (by decide) rfl rfl) (rx_n1 (rx_caV 1 5 (m_X5_top l) w_X5_top_c w_X5_top_n (rx_in 785 (by decide +kernel) rfl) w_X5_top_i w_X5_top_s w_X5_top_d (by decide) rfl rfl) (rx_n1 (rx_caV 2 3 (m_X3_handOn l) w_X3_handOn_c w_X3_handOn_n (rx_in 813 (by decide +kernel) rfl) w_X3_handOn_i w_X3_handOn_s w_X3_handOn_d (by decide) rfl rfl) (rx_n1 (rx_caV 1 5 (m_X5_drop l) w_X5_drop_c w_X5_drop_n (rx_in 817 (by decide +kernel) rfl) w_X5_drop_i w_X5_drop_s w_X5_drop_d (by decide) rfl rfl) (rx_n1 (rx_caV 2 2 (m_X2_enter l) w_X2_enter_c w_X2_enter_n (rx_in 830 (by decide +kernel) rfl) w_X2_enter_i w_X2_enter_s w_X2_enter_d (by decide) rfl rfl) rx_n0))))) rx_n0 rx_n0)
theorem w_X3_stopped_c : Cond.code yX3_stopped cX3_stopped 1 (some .int) ∈ rx_WT := rx_in 904 (by decide +kernel) rfl
theorem w_X3_stopped_n : Cond.initialized yX3_stopped.cls ∈ rx_WT := rx_in 204 (by decide +kernel) rfl
theorem w_X3_stopped_i : Cond.instanceMethod yX3_stopped ∈ rx_WT := rx_in 903 (by decide +kernel) rfl
theorem w_X3_stopped_s : Cond.selects yX3_stopped.cls yX3_stopped yX3_stopped ∈ rx_WT := rx_in 14 (by decide +kernel) rfl
theorem w_X3_stopped_d : yX3_stopped.cls ≠ "java/lang/invoke/MethodHandle" ∧ yX3_stopped.cls ≠ "java/lang/invoke/VarHandle" ∧ (parseMethodDescriptor yX3_stopped.desc).map (fun d => d.parameters.length) = some 0 := by decide +kernel
def kd_X3_control : List (Nat × List (Instr × Nat)) := [(0, [(.iload_n 1, 1), (.tableswitch 180 56 65 #[55, 60, 92, 129, 134, 139, 146, 151, 168, 175], 55)]),
  (56, [(.aload_n 0, 1), (.invokevirtual 287, 3), (.ireturn, 1)]),
  (61, [(.aload_n 0, 1), (.iconst 2, 1), (.aload_n 0, 1), (.getfield 19, 3), (.iconst 1, 1), (.invokevirtual 290, 3), (.iconst 1, 1), (.if_icmp .ne 14, 3), (.aload_n 0, 1), (.getfield 19, 3), (.iconst 0, 1), (.invokevirtual 271, 3), (.goto 6, 3)]),
  (86, [(.ldc2_w 80, 3)]),
  (89, [(.invokevirtual 293, 3), (.ireturn, 1)]),
  (93, [(.aload_n 0, 1), (.iconst 3, 1), (.aload_n 0, 1), (.getfield 19, 3), (.iconst 2, 1), (.invokevirtual 290, 3), (.iconst 1, 1), (.if_icmp .ne 14, 3), (.aload_n 0, 1), (.getfield 19, 3), (.iconst 1, 1), (.invokevirtual 271, 3), (.goto 11, 3)]),
  (118, [(.aload_n 0, 1), (.getfield 19, 3), (.iconst 0, 1), (.invokevirtual 271, 3)]),
  (126, [(.invokevirtual 293, 3), (.ireturn, 1)]),
  (130, [(.aload_n 0, 1), (.invokevirtual 296, 3), (.ireturn, 1)]),
  (135, [(.aload_n 0, 1), (.invokevirtual 299, 3), (.ireturn, 1)]),
  (140, [(.aload_n 0, 1), (.iconst 5, 1), (.iconst 1, 1), (.invokevirtual 302, 3), (.ireturn, 1)]),
  (147, [(.aload_n 0, 1), (.invokevirtual 306, 3), (.ireturn, 1)]),
  (152, [(.aload_n 0, 1), (.getfield 30, 3), (.invokevirtual 309, 3), (.ifCond .eq 7, 3), (.iconst 0, 1), (.goto 5, 3)]),
  (166, [(.bipush 12, 2)]),
  (168, [(.ireturn, 1)]),
  (169, [(.aload_n 0, 1), (.iconst 3, 1), (.invokevirtual 236, 3), (.iconst 0, 1), (.ireturn, 1)]),
  (176, [(.aload_n 0, 1), (.invokevirtual 312, 3), (.ireturn, 1)]),
  (181, [(.aload_n 0, 1), (.iconst 4, 1), (.putfield 75, 3), (.iconst 0, 1), (.ireturn, 1)])]
def cf_X3_control : Instr → Option rx_C := rx_lkc [(287, (1, some 3, 0, 0, f_X3_exec)), (290, (2, some 5, 0, 0, f_X5_numberAt)), (271, (2, some 5, 0, 0, f_X5_top)), (293, (3, some 3, 0, 0, f_X3_branch)), (296, (1, some 3, 0, 0, f_X3_loopFor)), (299, (1, some 3, 0, 0, f_X3_repeat)), (302, (3, some 3, 0, 0, f_X3_enterLoop)), (306, (1, some 3, 0, 0, f_X3_forall)), (309, (1, some 2, 0, 0, f_X2_leaveLoop)), (236, (2, some 3, 0, 0, f_X3_unwind)), (312, (1, some 3, 0, 0, f_X3_stopped))] [] []
def f_X3_control : rx_F := rx_fn (rx_lkk kC_X3) (rx_lkf fL_X3) (rx_lkf fP_X3) (rx_lkg gS_X3) (rx_lkg fG_X3) (rx_lkw nW_X3) cf_X3_control (some .int) 0 0 2 kd_X3_control rx_fu
theorem m_X3_control (l : Launch) : rx_M l yX3_control (Cond.code yX3_control cX3_control 2 (some .int) :: rx_WT) { frames := 3, cells := 0, slots := 0, locals := 71 } f_X3_control := rx_met rx_fu (by decide +kernel) kC_X3_ok gS_X3_ok fG_X3_ok fL_X3_ok (fP_X3_ok _) nW_X3_ok rx_ar (by decide +kernel) (rx_lkc_of (rx_n1 (rx_caV 0 3 (m_X3_exec l) w_X3_exec_c w_X3_exec_n (rx_in 805 (by decide +kernel) rfl) w_X3_exec_i w_X3_exec_s w_X3_exec_d (by decide) rfl rfl) (rx_n1 (rx_caV 1 5 (m_X5_numberAt l) w_X5_numberAt_c w_X5_numberAt_n (rx_in 821 (by decide +kernel) rfl) w_X5_numberAt_i w_X5_numberAt_s w_X5_numberAt_d (by decide) rfl rfl) (rx_n1 (rx_caV 1 5 (m_X5_top l) w_X5_top_c w_X5_top_n (rx_in 785 (by decide +kernel) rfl) w_X5_top_i w_X5_top_s w_X5_top_d (by decide) rfl rfl) (rx_n1 (rx_caV 2 3 (m_X3_branch l) w_X3_branch_c w_X3_branch_n (rx_in 826 (by decide +kernel) rfl) w_X3_branch_i w_X3_branch_s w_X3_branch_d (by decide) rfl rfl) (rx_n1 (rx_caV 0 3 (m_X3_loopFor l) w_X3_loopFor_c w_X3_loopFor_n (rx_in 835 (by decide +kernel) rfl) w_X3_loopFor_i w_X3_loopFor_s w_X3_loopFor_d (by decide) rfl rfl) (rx_n1 (rx_caV 0 3 (m_X3_repeat l) w_X3_repeat_c w_X3_repeat_n (rx_in 851 (by decide +kernel) rfl) w_X3_repeat_i w_X3_repeat_s w_X3_repeat_d (by decide) rfl rfl) (rx_n1 (rx_caV 2 3 (m_X3_enterLoop l) w_X3_enterLoop_c w_X3_enterLoop_n (rx_in 839 (by decide +kernel) rfl) w_X3_enterLoop_i w_X3_enterLoop_s w_X3_enterLoop_d (by decide) rfl rfl) (rx_n1 (rx_caV 0 3 (m_X3_forall l) w_X3_forall_c w_X3_forall_n (rx_in 859 (by decide +kernel) rfl) w_X3_forall_i w_X3_forall_s w_X3_forall_d (by decide) rfl rfl) (rx_n1 (rx_caV 0 2 (m_X2_leaveLoop l) w_X2_leaveLoop_c w_X2_leaveLoop_n (rx_in 884 (by decide +kernel) rfl) w_X2_leaveLoop_i w_X2_leaveLoop_s w_X2_leaveLoop_d (by decide) rfl rfl) (rx_n1 (rx_caV 1 3 (m_X3_unwind l) w_X3_unwind_c w_X3_unwind_n (rx_in 888 (by decide +kernel) rfl) w_X3_unwind_i w_X3_unwind_s w_X3_unwind_d (by decide) rfl rfl) (rx_n1 (rx_caV 0 3 (m_X3_stopped l) w_X3_stopped_c w_X3_stopped_n (rx_in 901 (by decide +kernel) rfl) w_X3_stopped_i w_X3_stopped_s w_X3_stopped_d (by decide) rfl rfl) rx_n0))))))))))) rx_n0 rx_n0)
theorem w_X3_control_c : Cond.code yX3_control cX3_control 2 (some .int) ∈ rx_WT := rx_in 804 (by decide +kernel) rfl
theorem w_X3_control_n : Cond.initialized yX3_control.cls ∈ rx_WT := rx_in 204 (by decide +kernel) rfl
theorem w_X3_control_i : Cond.instanceMethod yX3_control ∈ rx_WT := rx_in 803 (by decide +kernel) rfl
theorem w_X3_control_s : Cond.selects yX3_control.cls yX3_control yX3_control ∈ rx_WT := rx_in 4 (by decide +kernel) rfl
theorem w_X3_control_d : yX3_control.cls ≠ "java/lang/invoke/MethodHandle" ∧ yX3_control.cls ≠ "java/lang/invoke/VarHandle" ∧ (parseMethodDescriptor yX3_control.desc).map (fun d => d.parameters.length) = some 1 := by decide +kernel
def kd_X3_takesFromDictionary : List (Nat × List (Instr × Nat)) := [(0, [(.iload_n 1, 1), (.bipush 35, 2), (.if_icmp .lt 32, 3), (.iload_n 1, 1), (.bipush 37, 2), (.if_icmp .gt 26, 3), (.aload_n 0, 1), (.getfield 19, 3), (.iload_n 1, 1), (.bipush 35, 2), (.isub, 1), (.invokevirtual 271, 3), (.invokestatic 89, 3), (.bipush 7, 2), (.if_icmp .ne 7, 3), (.iconst 1, 1), (.goto 4, 3)]),
  (35, [(.iconst 0, 1)]),
  (36, [(.ireturn, 1)])]
def cf_X3_takesFromDictionary : Instr → Option rx_C := rx_lkc [(271, (2, some 5, 0, 0, f_X5_top))] [(89, (1, none, 0, 0, f_X10_kind))] []
def f_X3_takesFromDictionary : rx_F := rx_fn (rx_lkk kC_X3) (rx_lkf fL_X3) (rx_lkf fP_X3) (rx_lkg gS_X3) (rx_lkg fG_X3) (rx_lkw nW_X3) cf_X3_takesFromDictionary (some .boolean) 0 0 2 kd_X3_takesFromDictionary rx_fu
theorem m_X3_takesFromDictionary (l : Launch) : rx_M l yX3_takesFromDictionary (Cond.code yX3_takesFromDictionary cX3_takesFromDictionary 2 (some .boolean) :: rx_WT) { frames := 1, cells := 0, slots := 0, locals := 21 } f_X3_takesFromDictionary := rx_met rx_fu (by decide +kernel) kC_X3_ok gS_X3_ok fG_X3_ok fL_X3_ok (fP_X3_ok _) nW_X3_ok rx_ar (by decide +kernel) (rx_lkc_of (rx_n1 (rx_caV 1 5 (m_X5_top l) w_X5_top_c w_X5_top_n (rx_in 785 (by decide +kernel) rfl) w_X5_top_i w_X5_top_s w_X5_top_d (by decide) rfl rfl) rx_n0) (rx_n1 (rx_caS 1 (m_X10_kind l) w_X10_kind_c w_X10_kind_n (rx_in 772 (by decide +kernel) rfl) w_X10_kind_t w_X10_kind_d (by decide)) rx_n0) rx_n0)
theorem w_X3_takesFromDictionary_c : Cond.code yX3_takesFromDictionary cX3_takesFromDictionary 2 (some .boolean) ∈ rx_WT := rx_in 908 (by decide +kernel) rfl
theorem w_X3_takesFromDictionary_n : Cond.initialized yX3_takesFromDictionary.cls ∈ rx_WT := rx_in 204 (by decide +kernel) rfl
theorem w_X3_takesFromDictionary_i : Cond.instanceMethod yX3_takesFromDictionary ∈ rx_WT := rx_in 907 (by decide +kernel) rfl
theorem w_X3_takesFromDictionary_s : Cond.selects yX3_takesFromDictionary.cls yX3_takesFromDictionary yX3_takesFromDictionary ∈ rx_WT := rx_in 15 (by decide +kernel) rfl
theorem w_X3_takesFromDictionary_d : yX3_takesFromDictionary.cls ≠ "java/lang/invoke/MethodHandle" ∧ yX3_takesFromDictionary.cls ≠ "java/lang/invoke/VarHandle" ∧ (parseMethodDescriptor yX3_takesFromDictionary.desc).map (fun d => d.parameters.length) = some 1 := by decide +kernel
def kd_X9_setCell : List (Nat × List (Instr × Nat)) := [(0, [(.iload_n 1, 1), (.ifCond .lt 17, 3), (.iload_n 1, 1), (.sipush 600, 3), (.if_icmp .ge 10, 3), (.aload_n 0, 1), (.getfield 9, 3), (.iload_n 1, 1), (.lload_n 2, 1), (.lastore, 1)]),
  (18, [(.return_, 1)])]
def cf_X9_setCell : Instr → Option rx_C := rx_lkc [] [] []
def f_X9_setCell : rx_F := rx_fn (rx_lkk kC_X9) (rx_lkf fL_X9) (rx_lkf fP_X9) (rx_lkg gS_X9) (rx_lkg fG_X9) (rx_lkw nW_X9) cf_X9_setCell none 0 0 4 kd_X9_setCell rx_fu
theorem m_X9_setCell (l : Launch) : rx_M l yX9_setCell (Cond.code yX9_setCell cX9_setCell 4 none :: rx_WT) { frames := 0, cells := 0, slots := 0, locals := 0 } f_X9_setCell := rx_met rx_fu (by decide +kernel) kC_X9_ok gS_X9_ok fG_X9_ok fL_X9_ok (fP_X9_ok _) nW_X9_ok rx_ar (by decide +kernel) (rx_lkc_of rx_n0 rx_n0 rx_n0)
theorem w_X9_setCell_c : Cond.code yX9_setCell cX9_setCell 4 none ∈ rx_WT := rx_in 1074 (by decide +kernel) rfl
theorem w_X9_setCell_n : Cond.initialized yX9_setCell.cls ∈ rx_WT := rx_in 199 (by decide +kernel) rfl
theorem w_X9_setCell_i : Cond.instanceMethod yX9_setCell ∈ rx_WT := rx_in 1072 (by decide +kernel) rfl
theorem w_X9_setCell_s : Cond.selects yX9_setCell.cls yX9_setCell yX9_setCell ∈ rx_WT := rx_in 1073 (by decide +kernel) rfl
theorem w_X9_setCell_d : yX9_setCell.cls ≠ "java/lang/invoke/MethodHandle" ∧ yX9_setCell.cls ≠ "java/lang/invoke/VarHandle" ∧ (parseMethodDescriptor yX9_setCell.desc).map (fun d => d.parameters.length) = some 2 := by decide +kernel
def kd_X9_makeArray : List (Nat × List (Instr × Nat)) := [(0, [(.iload_n 1, 1), (.ifCond .lt 15, 3), (.iload_n 1, 1), (.sipush 600, 3), (.aload_n 0, 1), (.getfield 20, 3), (.isub, 1), (.if_icmp .le 5, 3)]),
  (16, [(.iconst (-1), 1), (.ireturn, 1)]),
  (18, [(.aload_n 0, 1), (.getfield 20, 3), (.istore_n 2, 1), (.aload_n 0, 1), (.dup, 1), (.getfield 20, 3), (.iload_n 1, 1), (.iadd, 1), (.putfield 20, 3), (.iload_n 2, 1), (.istore_n 3, 1)]),
  (35, [(.iload_n 3, 1), (.aload_n 0, 1), (.getfield 20, 3), (.if_icmp .ge 15, 3), (.aload_n 0, 1), (.iload_n 3, 1), (.lconst 0, 1), (.invokevirtual 32, 3), (.iinc 3 1, 3), (.goto (-17), 3)]),
  (55, [(.iload_n 2, 1), (.ireturn, 1)])]
def cf_X9_makeArray : Instr → Option rx_C := rx_lkc [(32, (3, some 9, 0, 0, f_X9_setCell))] [] []
def f_X9_makeArray : rx_F := rx_fn (rx_lkk kC_X9) (rx_lkf fL_X9) (rx_lkf fP_X9) (rx_lkg gS_X9) (rx_lkg fG_X9) (rx_lkw nW_X9) cf_X9_makeArray (some .int) 0 0 4 kd_X9_makeArray rx_fu
theorem m_X9_makeArray (l : Launch) : rx_M l yX9_makeArray (Cond.code yX9_makeArray cX9_makeArray 4 (some .int) :: rx_WT) { frames := 1, cells := 0, slots := 0, locals := 23 } f_X9_makeArray := rx_met rx_fu (by decide +kernel) kC_X9_ok gS_X9_ok fG_X9_ok fL_X9_ok (fP_X9_ok _) nW_X9_ok rx_ar (by decide +kernel) (rx_lkc_of (rx_n1 (rx_caV 2 9 (m_X9_setCell l) w_X9_setCell_c w_X9_setCell_n (rx_in 1071 (by decide +kernel) rfl) w_X9_setCell_i w_X9_setCell_s w_X9_setCell_d (by decide) rfl rfl) rx_n0) rx_n0 rx_n0)
theorem w_X9_makeArray_c : Cond.code yX9_makeArray cX9_makeArray 4 (some .int) ∈ rx_WT := rx_in 1070 (by decide +kernel) rfl
theorem w_X9_makeArray_n : Cond.initialized yX9_makeArray.cls ∈ rx_WT := rx_in 199 (by decide +kernel) rfl
theorem w_X9_makeArray_i : Cond.instanceMethod yX9_makeArray ∈ rx_WT := rx_in 1068 (by decide +kernel) rfl
theorem w_X9_makeArray_s : Cond.selects yX9_makeArray.cls yX9_makeArray yX9_makeArray ∈ rx_WT := rx_in 1069 (by decide +kernel) rfl
theorem w_X9_makeArray_d : yX9_makeArray.cls ≠ "java/lang/invoke/MethodHandle" ∧ yX9_makeArray.cls ≠ "java/lang/invoke/VarHandle" ∧ (parseMethodDescriptor yX9_makeArray.desc).map (fun d => d.parameters.length) = some 1 := by decide +kernel
