def kd_X10_literalName : List (Nat × List (Instr × Nat)) := [(0, [(.ldc2_w 17, 3), (.iload_n 0, 1), (.i2l, 1), (.ldc2_w 11, 3), (.land, 1), (.lor, 1), (.lreturn, 1)])]
def cf_X10_literalName : Instr → Option rx_C := rx_lkc [] [] []
def f_X10_literalName : rx_F := rx_fn (rx_lkk kC_X10) (rx_lkf fL_X10) (rx_lkf fP_X10) (rx_lkg gS_X10) (rx_lkg fG_X10) (rx_lkw nW_X10) cf_X10_literalName (some .long) 0 0 1 kd_X10_literalName rx_fu
theorem m_X10_literalName (l : Launch) : rx_M l yX10_literalName (Cond.code yX10_literalName cX10_literalName 1 (some .long) :: rx_WT) { frames := 0, cells := 0, slots := 0, locals := 0 } f_X10_literalName := rx_met rx_fu (by decide +kernel) kC_X10_ok gS_X10_ok fG_X10_ok fL_X10_ok (fP_X10_ok _) nW_X10_ok rx_ar (by decide +kernel) (rx_lkc_of rx_n0 rx_n0 rx_n0)
theorem w_X10_literalName_c : Cond.code yX10_literalName cX10_literalName 1 (some .long) ∈ rx_WT := rx_in 366 (by decide +kernel) rfl
theorem w_X10_literalName_n : Cond.initialized yX10_literalName.cls ∈ rx_WT := rx_in 201 (by decide +kernel) rfl
theorem w_X10_literalName_t : Cond.static yX10_literalName ∈ rx_WT := rx_in 365 (by decide +kernel) rfl
theorem w_X10_literalName_d : yX10_literalName.cls ≠ "java/lang/invoke/MethodHandle" ∧ yX10_literalName.cls ≠ "java/lang/invoke/VarHandle" ∧ (parseMethodDescriptor yX10_literalName.desc).map (fun d => d.parameters.length) = some 1 := by decide +kernel
def kd_X10_operator : List (Nat × List (Instr × Nat)) := [(0, [(.ldc2_w 21, 3), (.iload_n 0, 1), (.i2l, 1), (.ldc2_w 11, 3), (.land, 1), (.lor, 1), (.lreturn, 1)])]
def cf_X10_operator : Instr → Option rx_C := rx_lkc [] [] []
def f_X10_operator : rx_F := rx_fn (rx_lkk kC_X10) (rx_lkf fL_X10) (rx_lkf fP_X10) (rx_lkg gS_X10) (rx_lkg fG_X10) (rx_lkw nW_X10) cf_X10_operator (some .long) 0 0 1 kd_X10_operator rx_fu
theorem m_X10_operator (l : Launch) : rx_M l yX10_operator (Cond.code yX10_operator cX10_operator 1 (some .long) :: rx_WT) { frames := 0, cells := 0, slots := 0, locals := 0 } f_X10_operator := rx_met rx_fu (by decide +kernel) kC_X10_ok gS_X10_ok fG_X10_ok fL_X10_ok (fP_X10_ok _) nW_X10_ok rx_ar (by decide +kernel) (rx_lkc_of rx_n0 rx_n0 rx_n0)
theorem w_X10_operator_c : Cond.code yX10_operator cX10_operator 1 (some .long) ∈ rx_WT := rx_in 371 (by decide +kernel) rfl
theorem w_X10_operator_n : Cond.initialized yX10_operator.cls ∈ rx_WT := rx_in 201 (by decide +kernel) rfl
theorem w_X10_operator_t : Cond.static yX10_operator ∈ rx_WT := rx_in 370 (by decide +kernel) rfl
theorem w_X10_operator_d : yX10_operator.cls ≠ "java/lang/invoke/MethodHandle" ∧ yX10_operator.cls ≠ "java/lang/invoke/VarHandle" ∧ (parseMethodDescriptor yX10_operator.desc).map (fun d => d.parameters.length) = some 1 := by decide +kernel
def kd_X0_make : List (Nat × List (Instr × Nat)) := [(0, [(.aload_n 0, 1), (.getfield 43, 3), (.ifCond .lt 28, 3), (.aload_n 0, 1), (.getfield 43, 3), (.bipush 20, 2), (.if_icmp .ge 19, 3), (.iload_n 1, 1), (.ifCond .lt 15, 3), (.iload_n 1, 1), (.sipush 616, 3), (.aload_n 0, 1), (.getfield 47, 3), (.isub, 1), (.if_icmp .le 5, 3)]),
  (32, [(.iconst (-1), 1), (.ireturn, 1)]),
  (34, [(.aload_n 0, 1), (.getfield 18, 3), (.aload_n 0, 1), (.getfield 43, 3), (.aload_n 0, 1), (.getfield 47, 3), (.iastore, 1), (.aload_n 0, 1), (.getfield 22, 3), (.aload_n 0, 1), (.getfield 43, 3), (.iload_n 1, 1), (.iastore, 1), (.aload_n 0, 1), (.getfield 25, 3), (.aload_n 0, 1), (.getfield 43, 3), (.iconst 0, 1), (.iastore, 1), (.aload_n 0, 1), (.dup, 1), (.getfield 47, 3), (.iload_n 1, 1), (.iadd, 1), (.putfield 47, 3), (.aload_n 0, 1), (.dup, 1), (.getfield 43, 3), (.iconst 1, 1), (.iadd, 1), (.putfield 43, 3), (.aload_n 0, 1), (.getfield 43, 3), (.iconst 1, 1), (.isub, 1), (.ireturn, 1)])]
def cf_X0_make : Instr → Option rx_C := rx_lkc [] [] []
def f_X0_make : rx_F := rx_fn (rx_lkk kC_X0) (rx_lkf fL_X0) (rx_lkf fP_X0) (rx_lkg gS_X0) (rx_lkg fG_X0) (rx_lkw nW_X0) cf_X0_make (some .int) 0 0 2 kd_X0_make rx_fu
theorem m_X0_make (l : Launch) : rx_M l yX0_make (Cond.code yX0_make cX0_make 2 (some .int) :: rx_WT) { frames := 0, cells := 0, slots := 0, locals := 0 } f_X0_make := rx_met rx_fu (by decide +kernel) kC_X0_ok gS_X0_ok fG_X0_ok fL_X0_ok (fP_X0_ok _) nW_X0_ok rx_ar (by decide +kernel) (rx_lkc_of rx_n0 rx_n0 rx_n0)
theorem w_X0_make_c : Cond.code yX0_make cX0_make 2 (some .int) ∈ rx_WT := rx_in 380 (by decide +kernel) rfl
theorem w_X0_make_n : Cond.initialized yX0_make.cls ∈ rx_WT := rx_in 200 (by decide +kernel) rfl
theorem w_X0_make_i : Cond.instanceMethod yX0_make ∈ rx_WT := rx_in 378 (by decide +kernel) rfl
theorem w_X0_make_s : Cond.selects yX0_make.cls yX0_make yX0_make ∈ rx_WT := rx_in 379 (by decide +kernel) rfl
theorem w_X0_make_d : yX0_make.cls ≠ "java/lang/invoke/MethodHandle" ∧ yX0_make.cls ≠ "java/lang/invoke/VarHandle" ∧ (parseMethodDescriptor yX0_make.desc).map (fun d => d.parameters.length) = some 1 := by decide +kernel
def kd_X0_begin : List (Nat × List (Instr × Nat)) := [(0, [(.aload_n 0, 1), (.getfield 54, 3), (.ifCond .lt 12, 3), (.aload_n 0, 1), (.getfield 54, 3), (.bipush 10, 2), (.if_icmp .lt 5, 3)]),
  (16, [(.iconst 0, 1), (.ireturn, 1)]),
  (18, [(.aload_n 0, 1), (.getfield 28, 3), (.aload_n 0, 1), (.getfield 54, 3), (.iload_n 1, 1), (.iastore, 1), (.aload_n 0, 1), (.dup, 1), (.getfield 54, 3), (.iconst 1, 1), (.iadd, 1), (.putfield 54, 3), (.iconst 1, 1), (.ireturn, 1)])]
def cf_X0_begin : Instr → Option rx_C := rx_lkc [] [] []
def f_X0_begin : rx_F := rx_fn (rx_lkk kC_X0) (rx_lkf fL_X0) (rx_lkf fP_X0) (rx_lkg gS_X0) (rx_lkg fG_X0) (rx_lkw nW_X0) cf_X0_begin (some .boolean) 0 0 2 kd_X0_begin rx_fu
theorem m_X0_begin (l : Launch) : rx_M l yX0_begin (Cond.code yX0_begin cX0_begin 2 (some .boolean) :: rx_WT) { frames := 0, cells := 0, slots := 0, locals := 0 } f_X0_begin := rx_met rx_fu (by decide +kernel) kC_X0_ok gS_X0_ok fG_X0_ok fL_X0_ok (fP_X0_ok _) nW_X0_ok rx_ar (by decide +kernel) (rx_lkc_of rx_n0 rx_n0 rx_n0)
theorem w_X0_begin_c : Cond.code yX0_begin cX0_begin 2 (some .boolean) ∈ rx_WT := rx_in 384 (by decide +kernel) rfl
theorem w_X0_begin_n : Cond.initialized yX0_begin.cls ∈ rx_WT := rx_in 200 (by decide +kernel) rfl
theorem w_X0_begin_i : Cond.instanceMethod yX0_begin ∈ rx_WT := rx_in 382 (by decide +kernel) rfl
theorem w_X0_begin_s : Cond.selects yX0_begin.cls yX0_begin yX0_begin ∈ rx_WT := rx_in 383 (by decide +kernel) rfl
theorem w_X0_begin_d : yX0_begin.cls ≠ "java/lang/invoke/MethodHandle" ∧ yX0_begin.cls ≠ "java/lang/invoke/VarHandle" ∧ (parseMethodDescriptor yX0_begin.desc).map (fun d => d.parameters.length) = some 1 := by decide +kernel
def kd_X0_forget : List (Nat × List (Instr × Nat)) := [(0, [(.aload_n 0, 1), (.iconst 0, 1), (.putfield 43, 3), (.aload_n 0, 1), (.iconst 0, 1), (.putfield 47, 3), (.aload_n 0, 1), (.bipush 74, 2), (.invokevirtual 50, 3), (.pop, 1), (.aload_n 0, 1), (.bipush 20, 2), (.invokevirtual 50, 3), (.pop, 1), (.aload_n 0, 1), (.getfield 25, 3), (.iconst 0, 1), (.bipush 74, 2), (.iastore, 1), (.aload_n 0, 1), (.iconst 0, 1), (.putfield 54, 3), (.aload_n 0, 1), (.iconst 0, 1), (.invokevirtual 57, 3), (.pop, 1), (.aload_n 0, 1), (.iconst 1, 1), (.invokevirtual 57, 3), (.pop, 1), (.return_, 1)])]
def cf_X0_forget : Instr → Option rx_C := rx_lkc [(50, (2, some 0, 0, 0, f_X0_make)), (57, (2, some 0, 0, 0, f_X0_begin))] [] []
def f_X0_forget : rx_F := rx_fn (rx_lkk kC_X0) (rx_lkf fL_X0) (rx_lkf fP_X0) (rx_lkg gS_X0) (rx_lkg fG_X0) (rx_lkw nW_X0) cf_X0_forget none 0 0 1 kd_X0_forget rx_fu
theorem m_X0_forget (l : Launch) : rx_M l yX0_forget (Cond.code yX0_forget cX0_forget 1 none :: rx_WT) { frames := 1, cells := 0, slots := 0, locals := 21 } f_X0_forget := rx_met rx_fu (by decide +kernel) kC_X0_ok gS_X0_ok fG_X0_ok fL_X0_ok (fP_X0_ok _) nW_X0_ok rx_ar (by decide +kernel) (rx_lkc_of (rx_n1 (rx_caV 1 0 (m_X0_make l) w_X0_make_c w_X0_make_n (rx_in 377 (by decide +kernel) rfl) w_X0_make_i w_X0_make_s w_X0_make_d (by decide) rfl rfl) (rx_n1 (rx_caV 1 0 (m_X0_begin l) w_X0_begin_c w_X0_begin_n (rx_in 381 (by decide +kernel) rfl) w_X0_begin_i w_X0_begin_s w_X0_begin_d (by decide) rfl rfl) rx_n0)) rx_n0 rx_n0)
theorem w_X0_forget_c : Cond.code yX0_forget cX0_forget 1 none ∈ rx_WT := rx_in 376 (by decide +kernel) rfl
theorem w_X0_forget_n : Cond.initialized yX0_forget.cls ∈ rx_WT := rx_in 200 (by decide +kernel) rfl
theorem w_X0_forget_i : Cond.instanceMethod yX0_forget ∈ rx_WT := rx_in 374 (by decide +kernel) rfl
theorem w_X0_forget_s : Cond.selects yX0_forget.cls yX0_forget yX0_forget ∈ rx_WT := rx_in 375 (by decide +kernel) rfl
theorem w_X0_forget_d : yX0_forget.cls ≠ "java/lang/invoke/MethodHandle" ∧ yX0_forget.cls ≠ "java/lang/invoke/VarHandle" ∧ (parseMethodDescriptor yX0_forget.desc).map (fun d => d.parameters.length) = some 0 := by decide +kernel
def kd_X0_init : List (Nat × List (Instr × Nat)) := [(0, [(.aload_n 0, 1), (.invokespecial 5, 3), (.aload_n 0, 1), (.sipush 616, 3), (.newarray .long, 2), (.putfield 11, 3), (.aload_n 0, 1), (.sipush 616, 3), (.newarray .long, 2), (.putfield 15, 3), (.aload_n 0, 1), (.bipush 20, 2), (.newarray .int, 2), (.putfield 18, 3), (.aload_n 0, 1), (.bipush 20, 2), (.newarray .int, 2), (.putfield 22, 3), (.aload_n 0, 1), (.bipush 20, 2), (.newarray .int, 2), (.putfield 25, 3), (.aload_n 0, 1), (.bipush 10, 2), (.newarray .int, 2), (.putfield 28, 3), (.iconst 0, 1), (.istore_n 1, 1)]),
  (56, [(.iload_n 1, 1), (.bipush 74, 2), (.if_icmp .ge 29, 3), (.aload_n 0, 1), (.getfield 11, 3), (.iload_n 1, 1), (.iload_n 1, 1), (.invokestatic 31, 3), (.lastore, 1), (.aload_n 0, 1), (.getfield 15, 3), (.iload_n 1, 1), (.iload_n 1, 1), (.invokestatic 37, 3), (.lastore, 1), (.iinc 1 1, 3), (.goto (-29), 3)]),
  (88, [(.aload_n 0, 1), (.invokevirtual 40, 3), (.return_, 1)])]
def cf_X0_init : Instr → Option rx_C := rx_lkc [(40, (1, some 0, 0, 0, f_X0_forget))] [(31, (1, none, 0, 0, f_X10_literalName)), (37, (1, none, 0, 0, f_X10_operator))] [(5, (1, none, 0, 0, rx_F0))]
def f_X0_init : rx_F := rx_fn (rx_lkk kC_X0) (rx_lkf fL_X0) (rx_lkf fI_X0) (rx_lkg gS_X0) (rx_lkg fG_X0) (rx_lkw nW_X0) cf_X0_init none 6 1302 2 kd_X0_init rx_fu
theorem m_X0_init (l : Launch) : rx_M l yX0_init (Cond.code yX0_init cX0_init 2 none :: rx_WT) { frames := 2, cells := 6, slots := 1302, locals := 41 } f_X0_init := rx_met rx_fu (by decide +kernel) kC_X0_ok gS_X0_ok fG_X0_ok fL_X0_ok fI_X0_ok nW_X0_ok rx_ar (by decide +kernel) (rx_lkc_of (rx_n1 (rx_caV 0 0 (m_X0_forget l) w_X0_forget_c w_X0_forget_n (rx_in 373 (by decide +kernel) rfl) w_X0_forget_i w_X0_forget_s w_X0_forget_d (by decide) rfl rfl) rx_n0) (rx_n1 (rx_caS 1 (m_X10_literalName l) w_X10_literalName_c w_X10_literalName_n (rx_in 364 (by decide +kernel) rfl) w_X10_literalName_t w_X10_literalName_d (by decide)) (rx_n1 (rx_caS 1 (m_X10_operator l) w_X10_operator_c w_X10_operator_n (rx_in 369 (by decide +kernel) rfl) w_X10_operator_t w_X10_operator_d (by decide)) rx_n0)) (rx_n1 (rx_caO (rx_in 363 (by decide +kernel) rfl) (rx_in 223 (by decide +kernel) rfl) (rx_in 224 (by decide +kernel) rfl) (by decide) (by decide)) rx_n0))
theorem w_X0_init_c : Cond.code yX0_init cX0_init 2 none ∈ rx_WT := rx_in 362 (by decide +kernel) rfl
theorem w_X0_init_n : Cond.initialized yX0_init.cls ∈ rx_WT := rx_in 200 (by decide +kernel) rfl
theorem w_X0_init_i : Cond.instanceMethod yX0_init ∈ rx_WT := rx_in 361 (by decide +kernel) rfl
theorem w_X0_init_d : yX0_init.cls ≠ "java/lang/invoke/MethodHandle" ∧ yX0_init.cls ≠ "java/lang/invoke/VarHandle" ∧ (parseMethodDescriptor yX0_init.desc).map (fun d => d.parameters.length) = some 0 := by decide +kernel
def kd_X0_end : List (Nat × List (Instr × Nat)) := [(0, [(.aload_n 0, 1), (.getfield 54, 3), (.iconst 2, 1), (.if_icmp .gt 5, 3), (.iconst 0, 1), (.ireturn, 1)]),
  (10, [(.aload_n 0, 1), (.dup, 1), (.getfield 54, 3), (.iconst 1, 1), (.isub, 1), (.putfield 54, 3), (.iconst 1, 1), (.ireturn, 1)])]
def cf_X0_end : Instr → Option rx_C := rx_lkc [] [] []
def f_X0_end : rx_F := rx_fn (rx_lkk kC_X0) (rx_lkf fL_X0) (rx_lkf fP_X0) (rx_lkg gS_X0) (rx_lkg fG_X0) (rx_lkw nW_X0) cf_X0_end (some .boolean) 0 0 1 kd_X0_end rx_fu
theorem m_X0_end (l : Launch) : rx_M l yX0_end (Cond.code yX0_end cX0_end 1 (some .boolean) :: rx_WT) { frames := 0, cells := 0, slots := 0, locals := 0 } f_X0_end := rx_met rx_fu (by decide +kernel) kC_X0_ok gS_X0_ok fG_X0_ok fL_X0_ok (fP_X0_ok _) nW_X0_ok rx_ar (by decide +kernel) (rx_lkc_of rx_n0 rx_n0 rx_n0)
theorem w_X0_end_c : Cond.code yX0_end cX0_end 1 (some .boolean) ∈ rx_WT := rx_in 1000 (by decide +kernel) rfl
theorem w_X0_end_n : Cond.initialized yX0_end.cls ∈ rx_WT := rx_in 200 (by decide +kernel) rfl
theorem w_X0_end_i : Cond.instanceMethod yX0_end ∈ rx_WT := rx_in 998 (by decide +kernel) rfl
theorem w_X0_end_s : Cond.selects yX0_end.cls yX0_end yX0_end ∈ rx_WT := rx_in 999 (by decide +kernel) rfl
theorem w_X0_end_d : yX0_end.cls ≠ "java/lang/invoke/MethodHandle" ∧ yX0_end.cls ≠ "java/lang/invoke/VarHandle" ∧ (parseMethodDescriptor yX0_end.desc).map (fun d => d.parameters.length) = some 0 := by decide +kernel
def kd_X0_current : List (Nat × List (Instr × Nat)) := [(0, [(.aload_n 0, 1), (.getfield 54, 3), (.ifCond .le 26, 3), (.aload_n 0, 1), (.getfield 54, 3), (.bipush 10, 2), (.if_icmp .gt 17, 3), (.aload_n 0, 1), (.getfield 28, 3), (.aload_n 0, 1), (.getfield 54, 3), (.iconst 1, 1), (.isub, 1), (.iaload, 1), (.goto 4, 3)]),
  (30, [(.iconst 0, 1)]),
  (31, [(.ireturn, 1)])]
def cf_X0_current : Instr → Option rx_C := rx_lkc [] [] []
def f_X0_current : rx_F := rx_fn (rx_lkk kC_X0) (rx_lkf fL_X0) (rx_lkf fP_X0) (rx_lkg gS_X0) (rx_lkg fG_X0) (rx_lkw nW_X0) cf_X0_current (some .int) 0 0 1 kd_X0_current rx_fu
theorem m_X0_current (l : Launch) : rx_M l yX0_current (Cond.code yX0_current cX0_current 1 (some .int) :: rx_WT) { frames := 0, cells := 0, slots := 0, locals := 0 } f_X0_current := rx_met rx_fu (by decide +kernel) kC_X0_ok gS_X0_ok fG_X0_ok fL_X0_ok (fP_X0_ok _) nW_X0_ok rx_ar (by decide +kernel) (rx_lkc_of rx_n0 rx_n0 rx_n0)
theorem w_X0_current_c : Cond.code yX0_current cX0_current 1 (some .int) ∈ rx_WT := rx_in 1008 (by decide +kernel) rfl
theorem w_X0_current_n : Cond.initialized yX0_current.cls ∈ rx_WT := rx_in 200 (by decide +kernel) rfl
theorem w_X0_current_i : Cond.instanceMethod yX0_current ∈ rx_WT := rx_in 1006 (by decide +kernel) rfl
theorem w_X0_current_s : Cond.selects yX0_current.cls yX0_current yX0_current ∈ rx_WT := rx_in 1007 (by decide +kernel) rfl
theorem w_X0_current_d : yX0_current.cls ≠ "java/lang/invoke/MethodHandle" ∧ yX0_current.cls ≠ "java/lang/invoke/VarHandle" ∧ (parseMethodDescriptor yX0_current.desc).map (fun d => d.parameters.length) = some 0 := by decide +kernel
def kd_X0_roomOf : List (Nat × List (Instr × Nat)) := [(0, [(.iload_n 1, 1), (.ifCond .lt 18, 3), (.iload_n 1, 1), (.bipush 20, 2), (.if_icmp .ge 12, 3), (.aload_n 0, 1), (.getfield 22, 3), (.iload_n 1, 1), (.iaload, 1), (.goto 4, 3)]),
  (19, [(.iconst 0, 1)]),
  (20, [(.ireturn, 1)])]
def cf_X0_roomOf : Instr → Option rx_C := rx_lkc [] [] []
def f_X0_roomOf : rx_F := rx_fn (rx_lkk kC_X0) (rx_lkf fL_X0) (rx_lkf fP_X0) (rx_lkg gS_X0) (rx_lkg fG_X0) (rx_lkw nW_X0) cf_X0_roomOf (some .int) 0 0 2 kd_X0_roomOf rx_fu
theorem m_X0_roomOf (l : Launch) : rx_M l yX0_roomOf (Cond.code yX0_roomOf cX0_roomOf 2 (some .int) :: rx_WT) { frames := 0, cells := 0, slots := 0, locals := 0 } f_X0_roomOf := rx_met rx_fu (by decide +kernel) kC_X0_ok gS_X0_ok fG_X0_ok fL_X0_ok (fP_X0_ok _) nW_X0_ok rx_ar (by decide +kernel) (rx_lkc_of rx_n0 rx_n0 rx_n0)
theorem w_X0_roomOf_c : Cond.code yX0_roomOf cX0_roomOf 2 (some .int) ∈ rx_WT := rx_in 1057 (by decide +kernel) rfl
theorem w_X0_roomOf_n : Cond.initialized yX0_roomOf.cls ∈ rx_WT := rx_in 200 (by decide +kernel) rfl
theorem w_X0_roomOf_i : Cond.instanceMethod yX0_roomOf ∈ rx_WT := rx_in 1055 (by decide +kernel) rfl
theorem w_X0_roomOf_s : Cond.selects yX0_roomOf.cls yX0_roomOf yX0_roomOf ∈ rx_WT := rx_in 1056 (by decide +kernel) rfl
theorem w_X0_roomOf_d : yX0_roomOf.cls ≠ "java/lang/invoke/MethodHandle" ∧ yX0_roomOf.cls ≠ "java/lang/invoke/VarHandle" ∧ (parseMethodDescriptor yX0_roomOf.desc).map (fun d => d.parameters.length) = some 1 := by decide +kernel
def kd_X0_pairsOf : List (Nat × List (Instr × Nat)) := [(0, [(.iload_n 1, 1), (.ifCond .lt 18, 3), (.iload_n 1, 1), (.bipush 20, 2), (.if_icmp .ge 12, 3), (.aload_n 0, 1), (.getfield 25, 3), (.iload_n 1, 1), (.iaload, 1), (.goto 4, 3)]),
  (19, [(.iconst 0, 1)]),
  (20, [(.ireturn, 1)])]
def cf_X0_pairsOf : Instr → Option rx_C := rx_lkc [] [] []
def f_X0_pairsOf : rx_F := rx_fn (rx_lkk kC_X0) (rx_lkf fL_X0) (rx_lkf fP_X0) (rx_lkg gS_X0) (rx_lkg fG_X0) (rx_lkw nW_X0) cf_X0_pairsOf (some .int) 0 0 2 kd_X0_pairsOf rx_fu
theorem m_X0_pairsOf (l : Launch) : rx_M l yX0_pairsOf (Cond.code yX0_pairsOf cX0_pairsOf 2 (some .int) :: rx_WT) { frames := 0, cells := 0, slots := 0, locals := 0 } f_X0_pairsOf := rx_met rx_fu (by decide +kernel) kC_X0_ok gS_X0_ok fG_X0_ok fL_X0_ok (fP_X0_ok _) nW_X0_ok rx_ar (by decide +kernel) (rx_lkc_of rx_n0 rx_n0 rx_n0)
theorem w_X0_pairsOf_c : Cond.code yX0_pairsOf cX0_pairsOf 2 (some .int) ∈ rx_WT := rx_in 874 (by decide +kernel) rfl
theorem w_X0_pairsOf_n : Cond.initialized yX0_pairsOf.cls ∈ rx_WT := rx_in 200 (by decide +kernel) rfl
theorem w_X0_pairsOf_i : Cond.instanceMethod yX0_pairsOf ∈ rx_WT := rx_in 872 (by decide +kernel) rfl
theorem w_X0_pairsOf_s : Cond.selects yX0_pairsOf.cls yX0_pairsOf yX0_pairsOf ∈ rx_WT := rx_in 873 (by decide +kernel) rfl
theorem w_X0_pairsOf_d : yX0_pairsOf.cls ≠ "java/lang/invoke/MethodHandle" ∧ yX0_pairsOf.cls ≠ "java/lang/invoke/VarHandle" ∧ (parseMethodDescriptor yX0_pairsOf.desc).map (fun d => d.parameters.length) = some 1 := by decide +kernel
def kd_X0_keyAt : List (Nat × List (Instr × Nat)) := [(0, [(.iload_n 1, 1), (.ifCond .lt 27, 3), (.iload_n 1, 1), (.bipush 20, 2), (.if_icmp .ge 21, 3), (.iload_n 2, 1), (.ifCond .lt 17, 3), (.iload_n 2, 1), (.sipush 616, 3), (.aload_n 0, 1), (.getfield 18, 3), (.iload_n 1, 1), (.iaload, 1), (.isub, 1), (.if_icmp .lt 7, 3)]),
  (28, [(.ldc2_w 61, 3), (.lreturn, 1)]),
  (32, [(.aload_n 0, 1), (.getfield 11, 3), (.aload_n 0, 1), (.getfield 18, 3), (.iload_n 1, 1), (.iaload, 1), (.iload_n 2, 1), (.iadd, 1), (.laload, 1), (.lreturn, 1)])]
def cf_X0_keyAt : Instr → Option rx_C := rx_lkc [] [] []
def f_X0_keyAt : rx_F := rx_fn (rx_lkk kC_X0) (rx_lkf fL_X0) (rx_lkf fP_X0) (rx_lkg gS_X0) (rx_lkg fG_X0) (rx_lkw nW_X0) cf_X0_keyAt (some .long) 0 0 3 kd_X0_keyAt rx_fu
theorem m_X0_keyAt (l : Launch) : rx_M l yX0_keyAt (Cond.code yX0_keyAt cX0_keyAt 3 (some .long) :: rx_WT) { frames := 0, cells := 0, slots := 0, locals := 0 } f_X0_keyAt := rx_met rx_fu (by decide +kernel) kC_X0_ok gS_X0_ok fG_X0_ok fL_X0_ok (fP_X0_ok _) nW_X0_ok rx_ar (by decide +kernel) (rx_lkc_of rx_n0 rx_n0 rx_n0)
theorem w_X0_keyAt_c : Cond.code yX0_keyAt cX0_keyAt 3 (some .long) ∈ rx_WT := rx_in 878 (by decide +kernel) rfl
theorem w_X0_keyAt_n : Cond.initialized yX0_keyAt.cls ∈ rx_WT := rx_in 200 (by decide +kernel) rfl
theorem w_X0_keyAt_i : Cond.instanceMethod yX0_keyAt ∈ rx_WT := rx_in 876 (by decide +kernel) rfl
theorem w_X0_keyAt_s : Cond.selects yX0_keyAt.cls yX0_keyAt yX0_keyAt ∈ rx_WT := rx_in 877 (by decide +kernel) rfl
theorem w_X0_keyAt_d : yX0_keyAt.cls ≠ "java/lang/invoke/MethodHandle" ∧ yX0_keyAt.cls ≠ "java/lang/invoke/VarHandle" ∧ (parseMethodDescriptor yX0_keyAt.desc).map (fun d => d.parameters.length) = some 2 := by decide +kernel
def kd_X0_valueAt : List (Nat × List (Instr × Nat)) := [(0, [(.iload_n 1, 1), (.ifCond .lt 27, 3), (.iload_n 1, 1), (.bipush 20, 2), (.if_icmp .ge 21, 3), (.iload_n 2, 1), (.ifCond .lt 17, 3), (.iload_n 2, 1), (.sipush 616, 3), (.aload_n 0, 1), (.getfield 18, 3), (.iload_n 1, 1), (.iaload, 1), (.isub, 1), (.if_icmp .lt 7, 3)]),
  (28, [(.ldc2_w 61, 3), (.lreturn, 1)]),
  (32, [(.aload_n 0, 1), (.getfield 15, 3), (.aload_n 0, 1), (.getfield 18, 3), (.iload_n 1, 1), (.iaload, 1), (.iload_n 2, 1), (.iadd, 1), (.laload, 1), (.lreturn, 1)])]
def cf_X0_valueAt : Instr → Option rx_C := rx_lkc [] [] []
def f_X0_valueAt : rx_F := rx_fn (rx_lkk kC_X0) (rx_lkf fL_X0) (rx_lkf fP_X0) (rx_lkg gS_X0) (rx_lkg fG_X0) (rx_lkw nW_X0) cf_X0_valueAt (some .long) 0 0 3 kd_X0_valueAt rx_fu
theorem m_X0_valueAt (l : Launch) : rx_M l yX0_valueAt (Cond.code yX0_valueAt cX0_valueAt 3 (some .long) :: rx_WT) { frames := 0, cells := 0, slots := 0, locals := 0 } f_X0_valueAt := rx_met rx_fu (by decide +kernel) kC_X0_ok gS_X0_ok fG_X0_ok fL_X0_ok (fP_X0_ok _) nW_X0_ok rx_ar (by decide +kernel) (rx_lkc_of rx_n0 rx_n0 rx_n0)
theorem w_X0_valueAt_c : Cond.code yX0_valueAt cX0_valueAt 3 (some .long) ∈ rx_WT := rx_in 952 (by decide +kernel) rfl
theorem w_X0_valueAt_n : Cond.initialized yX0_valueAt.cls ∈ rx_WT := rx_in 200 (by decide +kernel) rfl
theorem w_X0_valueAt_i : Cond.instanceMethod yX0_valueAt ∈ rx_WT := rx_in 950 (by decide +kernel) rfl
theorem w_X0_valueAt_s : Cond.selects yX0_valueAt.cls yX0_valueAt yX0_valueAt ∈ rx_WT := rx_in 951 (by decide +kernel) rfl
theorem w_X0_valueAt_d : yX0_valueAt.cls ≠ "java/lang/invoke/MethodHandle" ∧ yX0_valueAt.cls ≠ "java/lang/invoke/VarHandle" ∧ (parseMethodDescriptor yX0_valueAt.desc).map (fun d => d.parameters.length) = some 2 := by decide +kernel
def kd_X0_find : List (Nat × List (Instr × Nat)) := [(0, [(.iload_n 1, 1), (.ifCond .lt 9, 3), (.iload_n 1, 1), (.bipush 20, 2), (.if_icmp .lt 5, 3)]),
  (10, [(.iconst (-1), 1), (.ireturn, 1)]),
  (12, [(.iload_n 1, 1), (.ifCond .ne 34, 3), (.lload_n 2, 1), (.ldc2_w 63, 3), (.lsub, 1), (.lstore 4, 2), (.lload 4, 2), (.lconst 0, 1), (.lcmp, 1), (.ifCond .lt 18, 3), (.lload 4, 2), (.ldc2_w 65, 3), (.lcmp, 1), (.ifCond .ge 9, 3), (.lload 4, 2), (.l2i, 1), (.goto 4, 3)]),
  (45, [(.iconst (-1), 1)]),
  (46, [(.ireturn, 1)]),
  (47, [(.aload_n 0, 1), (.getfield 18, 3), (.iload_n 1, 1), (.iaload, 1), (.istore 4, 2), (.iconst 0, 1), (.istore 5, 2)]),
  (58, [(.iload 5, 2), (.aload_n 0, 1), (.getfield 25, 3), (.iload_n 1, 1), (.iaload, 1), (.if_icmp .ge 38, 3), (.iload 4, 2), (.iload 5, 2), (.iadd, 1), (.sipush 616, 3), (.if_icmp .ge 27, 3), (.aload_n 0, 1), (.getfield 11, 3), (.iload 4, 2), (.iload 5, 2), (.iadd, 1), (.laload, 1), (.lload_n 2, 1), (.lcmp, 1), (.ifCond .ne 6, 3), (.iload 5, 2), (.ireturn, 1)]),
  (98, [(.iinc 5 1, 3), (.goto (-43), 3)]),
  (104, [(.iconst (-1), 1), (.ireturn, 1)])]
def cf_X0_find : Instr → Option rx_C := rx_lkc [] [] []
def f_X0_find : rx_F := rx_fn (rx_lkk kC_X0) (rx_lkf fL_X0) (rx_lkf fP_X0) (rx_lkg gS_X0) (rx_lkg fG_X0) (rx_lkw nW_X0) cf_X0_find (some .int) 0 0 6 kd_X0_find rx_fu
theorem m_X0_find (l : Launch) : rx_M l yX0_find (Cond.code yX0_find cX0_find 6 (some .int) :: rx_WT) { frames := 0, cells := 0, slots := 0, locals := 0 } f_X0_find := rx_met rx_fu (by decide +kernel) kC_X0_ok gS_X0_ok fG_X0_ok fL_X0_ok (fP_X0_ok _) nW_X0_ok rx_ar (by decide +kernel) (rx_lkc_of rx_n0 rx_n0 rx_n0)
theorem w_X0_find_c : Cond.code yX0_find cX0_find 6 (some .int) ∈ rx_WT := rx_in 946 (by decide +kernel) rfl
theorem w_X0_find_n : Cond.initialized yX0_find.cls ∈ rx_WT := rx_in 200 (by decide +kernel) rfl
theorem w_X0_find_i : Cond.instanceMethod yX0_find ∈ rx_WT := rx_in 944 (by decide +kernel) rfl
theorem w_X0_find_s : Cond.selects yX0_find.cls yX0_find yX0_find ∈ rx_WT := rx_in 945 (by decide +kernel) rfl
theorem w_X0_find_d : yX0_find.cls ≠ "java/lang/invoke/MethodHandle" ∧ yX0_find.cls ≠ "java/lang/invoke/VarHandle" ∧ (parseMethodDescriptor yX0_find.desc).map (fun d => d.parameters.length) = some 2 := by decide +kernel
def kd_X0_holder : List (Nat × List (Instr × Nat)) := [(0, [(.aload_n 0, 1), (.getfield 54, 3), (.iconst 1, 1), (.isub, 1), (.istore_n 3, 1)]),
  (7, [(.iload_n 3, 1), (.ifCond .lt 36, 3), (.iload_n 3, 1), (.bipush 10, 2), (.if_icmp .ge 30, 3), (.aload_n 0, 1), (.aload_n 0, 1), (.getfield 28, 3), (.iload_n 3, 1), (.iaload, 1), (.lload_n 1, 1), (.invokevirtual 67, 3), (.ifCond .lt 10, 3), (.aload_n 0, 1), (.getfield 28, 3), (.iload_n 3, 1), (.iaload, 1), (.ireturn, 1)]),
  (38, [(.iinc 3 (-1), 3), (.goto (-34), 3)]),
  (44, [(.iconst (-1), 1), (.ireturn, 1)])]
def cf_X0_holder : Instr → Option rx_C := rx_lkc [(67, (3, some 0, 0, 0, f_X0_find))] [] []
def f_X0_holder : rx_F := rx_fn (rx_lkk kC_X0) (rx_lkf fL_X0) (rx_lkf fP_X0) (rx_lkg gS_X0) (rx_lkg fG_X0) (rx_lkw nW_X0) cf_X0_holder (some .int) 0 0 4 kd_X0_holder rx_fu
theorem m_X0_holder (l : Launch) : rx_M l yX0_holder (Cond.code yX0_holder cX0_holder 4 (some .int) :: rx_WT) { frames := 1, cells := 0, slots := 0, locals := 25 } f_X0_holder := rx_met rx_fu (by decide +kernel) kC_X0_ok gS_X0_ok fG_X0_ok fL_X0_ok (fP_X0_ok _) nW_X0_ok rx_ar (by decide +kernel) (rx_lkc_of (rx_n1 (rx_caV 2 0 (m_X0_find l) w_X0_find_c w_X0_find_n (rx_in 961 (by decide +kernel) rfl) w_X0_find_i w_X0_find_s w_X0_find_d (by decide) rfl rfl) rx_n0) rx_n0 rx_n0)
theorem w_X0_holder_c : Cond.code yX0_holder cX0_holder 4 (some .int) ∈ rx_WT := rx_in 1026 (by decide +kernel) rfl
theorem w_X0_holder_n : Cond.initialized yX0_holder.cls ∈ rx_WT := rx_in 200 (by decide +kernel) rfl
theorem w_X0_holder_i : Cond.instanceMethod yX0_holder ∈ rx_WT := rx_in 1024 (by decide +kernel) rfl
theorem w_X0_holder_s : Cond.selects yX0_holder.cls yX0_holder yX0_holder ∈ rx_WT := rx_in 1025 (by decide +kernel) rfl
theorem w_X0_holder_d : yX0_holder.cls ≠ "java/lang/invoke/MethodHandle" ∧ yX0_holder.cls ≠ "java/lang/invoke/VarHandle" ∧ (parseMethodDescriptor yX0_holder.desc).map (fun d => d.parameters.length) = some 1 := by decide +kernel
def kd_X0_lookUp : List (Nat × List (Instr × Nat)) := [(0, [(.aload_n 0, 1), (.getfield 54, 3), (.iconst 1, 1), (.isub, 1), (.istore_n 3, 1)]),
  (7, [(.iload_n 3, 1), (.ifCond .lt 46, 3), (.iload_n 3, 1), (.bipush 10, 2), (.if_icmp .ge 40, 3), (.aload_n 0, 1), (.aload_n 0, 1), (.getfield 28, 3), (.iload_n 3, 1), (.iaload, 1), (.lload_n 1, 1), (.invokevirtual 67, 3), (.istore 4, 2), (.iload 4, 2), (.ifCond .lt 16, 3), (.aload_n 0, 1), (.aload_n 0, 1), (.getfield 28, 3), (.iload_n 3, 1), (.iaload, 1), (.iload 4, 2), (.invokevirtual 71, 3), (.lreturn, 1)]),
  (48, [(.iinc 3 (-1), 3), (.goto (-44), 3)]),
  (54, [(.ldc2_w 61, 3), (.lreturn, 1)])]
def cf_X0_lookUp : Instr → Option rx_C := rx_lkc [(67, (3, some 0, 0, 0, f_X0_find)), (71, (3, some 0, 0, 0, f_X0_valueAt))] [] []
def f_X0_lookUp : rx_F := rx_fn (rx_lkk kC_X0) (rx_lkf fL_X0) (rx_lkf fP_X0) (rx_lkg gS_X0) (rx_lkg fG_X0) (rx_lkw nW_X0) cf_X0_lookUp (some .long) 0 0 5 kd_X0_lookUp rx_fu
theorem m_X0_lookUp (l : Launch) : rx_M l yX0_lookUp (Cond.code yX0_lookUp cX0_lookUp 5 (some .long) :: rx_WT) { frames := 1, cells := 0, slots := 0, locals := 25 } f_X0_lookUp := rx_met rx_fu (by decide +kernel) kC_X0_ok gS_X0_ok fG_X0_ok fL_X0_ok (fP_X0_ok _) nW_X0_ok rx_ar (by decide +kernel) (rx_lkc_of (rx_n1 (rx_caV 2 0 (m_X0_find l) w_X0_find_c w_X0_find_n (rx_in 961 (by decide +kernel) rfl) w_X0_find_i w_X0_find_s w_X0_find_d (by decide) rfl rfl) (rx_n1 (rx_caV 2 0 (m_X0_valueAt l) w_X0_valueAt_c w_X0_valueAt_n (rx_in 1017 (by decide +kernel) rfl) w_X0_valueAt_i w_X0_valueAt_s w_X0_valueAt_d (by decide) rfl rfl) rx_n0)) rx_n0 rx_n0)
theorem w_X0_lookUp_c : Cond.code yX0_lookUp cX0_lookUp 5 (some .long) ∈ rx_WT := rx_in 1016 (by decide +kernel) rfl
theorem w_X0_lookUp_n : Cond.initialized yX0_lookUp.cls ∈ rx_WT := rx_in 200 (by decide +kernel) rfl
theorem w_X0_lookUp_i : Cond.instanceMethod yX0_lookUp ∈ rx_WT := rx_in 1014 (by decide +kernel) rfl
theorem w_X0_lookUp_s : Cond.selects yX0_lookUp.cls yX0_lookUp yX0_lookUp ∈ rx_WT := rx_in 1015 (by decide +kernel) rfl
theorem w_X0_lookUp_d : yX0_lookUp.cls ≠ "java/lang/invoke/MethodHandle" ∧ yX0_lookUp.cls ≠ "java/lang/invoke/VarHandle" ∧ (parseMethodDescriptor yX0_lookUp.desc).map (fun d => d.parameters.length) = some 1 := by decide +kernel
def kd_X0_put : List (Nat × List (Instr × Nat)) := [(0, [(.iload_n 1, 1), (.ifCond .le 9, 3), (.iload_n 1, 1), (.bipush 20, 2), (.if_icmp .lt 6, 3)]),
  (10, [(.bipush 9, 2), (.ireturn, 1)]),
  (13, [(.aload_n 0, 1), (.iload_n 1, 1), (.lload_n 2, 1), (.invokevirtual 67, 3), (.istore 6, 2), (.iload 6, 2), (.ifCond .ge 21, 3), (.aload_n 0, 1), (.getfield 25, 3), (.iload_n 1, 1), (.iaload, 1), (.aload_n 0, 1), (.getfield 22, 3), (.iload_n 1, 1), (.iaload, 1), (.if_icmp .lt 6, 3), (.bipush 9, 2), (.ireturn, 1)]),
  (44, [(.aload_n 0, 1), (.getfield 18, 3), (.iload_n 1, 1), (.iaload, 1), (.iload 6, 2), (.ifCond .ge 12, 3), (.aload_n 0, 1), (.getfield 25, 3), (.iload_n 1, 1), (.iaload, 1), (.goto 5, 3)]),
  (64, [(.iload 6, 2)]),
  (66, [(.iadd, 1), (.istore 7, 2), (.iload 7, 2), (.ifCond .lt 11, 3), (.iload 7, 2), (.sipush 616, 3), (.if_icmp .lt 6, 3)]),
  (82, [(.bipush 9, 2), (.ireturn, 1)]),
  (85, [(.aload_n 0, 1), (.getfield 11, 3), (.iload 7, 2), (.lload_n 2, 1), (.lastore, 1), (.aload_n 0, 1), (.getfield 15, 3), (.iload 7, 2), (.lload 4, 2), (.lastore, 1), (.iload 6, 2), (.ifCond .ge 13, 3), (.aload_n 0, 1), (.getfield 25, 3), (.iload_n 1, 1), (.dup2, 1), (.iaload, 1), (.iconst 1, 1), (.iadd, 1), (.iastore, 1)]),
  (117, [(.iconst 0, 1), (.ireturn, 1)])]
def cf_X0_put : Instr → Option rx_C := rx_lkc [(67, (3, some 0, 0, 0, f_X0_find))] [] []
def f_X0_put : rx_F := rx_fn (rx_lkk kC_X0) (rx_lkf fL_X0) (rx_lkf fP_X0) (rx_lkg gS_X0) (rx_lkg fG_X0) (rx_lkw nW_X0) cf_X0_put (some .int) 0 0 8 kd_X0_put rx_fu
theorem m_X0_put (l : Launch) : rx_M l yX0_put (Cond.code yX0_put cX0_put 8 (some .int) :: rx_WT) { frames := 1, cells := 0, slots := 0, locals := 25 } f_X0_put := rx_met rx_fu (by decide +kernel) kC_X0_ok gS_X0_ok fG_X0_ok fL_X0_ok (fP_X0_ok _) nW_X0_ok rx_ar (by decide +kernel) (rx_lkc_of (rx_n1 (rx_caV 2 0 (m_X0_find l) w_X0_find_c w_X0_find_n (rx_in 961 (by decide +kernel) rfl) w_X0_find_i w_X0_find_s w_X0_find_d (by decide) rfl rfl) rx_n0) rx_n0 rx_n0)
theorem w_X0_put_c : Cond.code yX0_put cX0_put 8 (some .int) ∈ rx_WT := rx_in 960 (by decide +kernel) rfl
theorem w_X0_put_n : Cond.initialized yX0_put.cls ∈ rx_WT := rx_in 200 (by decide +kernel) rfl
theorem w_X0_put_i : Cond.instanceMethod yX0_put ∈ rx_WT := rx_in 958 (by decide +kernel) rfl
theorem w_X0_put_s : Cond.selects yX0_put.cls yX0_put yX0_put ∈ rx_WT := rx_in 959 (by decide +kernel) rfl
theorem w_X0_put_d : yX0_put.cls ≠ "java/lang/invoke/MethodHandle" ∧ yX0_put.cls ≠ "java/lang/invoke/VarHandle" ∧ (parseMethodDescriptor yX0_put.desc).map (fun d => d.parameters.length) = some 3 := by decide +kernel
def kd_X0_remove : List (Nat × List (Instr × Nat)) := [(0, [(.iload_n 1, 1), (.ifCond .le 9, 3), (.iload_n 1, 1), (.bipush 20, 2), (.if_icmp .lt 6, 3)]),
  (10, [(.bipush 9, 2), (.ireturn, 1)]),
  (13, [(.aload_n 0, 1), (.iload_n 1, 1), (.lload_n 2, 1), (.invokevirtual 67, 3), (.istore 4, 2), (.iload 4, 2), (.ifCond .ge 5, 3), (.iconst 0, 1), (.ireturn, 1)]),
  (28, [(.aload_n 0, 1), (.getfield 18, 3), (.iload_n 1, 1), (.iaload, 1), (.aload_n 0, 1), (.getfield 25, 3), (.iload_n 1, 1), (.iaload, 1), (.iadd, 1), (.iconst 1, 1), (.isub, 1), (.istore 5, 2), (.aload_n 0, 1), (.getfield 18, 3), (.iload_n 1, 1), (.iaload, 1), (.iload 4, 2), (.iadd, 1), (.istore 6, 2)]),
  (56, [(.iload 6, 2), (.ifCond .lt 58, 3), (.iload 6, 2), (.iload 5, 2), (.if_icmp .ge 51, 3), (.iload 6, 2), (.iconst 1, 1), (.iadd, 1), (.sipush 616, 3), (.if_icmp .ge 41, 3), (.aload_n 0, 1), (.getfield 11, 3), (.iload 6, 2), (.aload_n 0, 1), (.getfield 11, 3), (.iload 6, 2), (.iconst 1, 1), (.iadd, 1), (.laload, 1), (.lastore, 1), (.aload_n 0, 1), (.getfield 15, 3), (.iload 6, 2), (.aload_n 0, 1), (.getfield 15, 3), (.iload 6, 2), (.iconst 1, 1), (.iadd, 1), (.laload, 1), (.lastore, 1), (.iinc 6 1, 3), (.goto (-57), 3)]),
  (116, [(.aload_n 0, 1), (.getfield 25, 3), (.iload_n 1, 1), (.dup2, 1), (.iaload, 1), (.iconst 1, 1), (.isub, 1), (.iastore, 1), (.iconst 0, 1), (.ireturn, 1)])]
def cf_X0_remove : Instr → Option rx_C := rx_lkc [(67, (3, some 0, 0, 0, f_X0_find))] [] []
def f_X0_remove : rx_F := rx_fn (rx_lkk kC_X0) (rx_lkf fL_X0) (rx_lkf fP_X0) (rx_lkg gS_X0) (rx_lkg fG_X0) (rx_lkw nW_X0) cf_X0_remove (some .int) 0 0 7 kd_X0_remove rx_fu
theorem m_X0_remove (l : Launch) : rx_M l yX0_remove (Cond.code yX0_remove cX0_remove 7 (some .int) :: rx_WT) { frames := 1, cells := 0, slots := 0, locals := 25 } f_X0_remove := rx_met rx_fu (by decide +kernel) kC_X0_ok gS_X0_ok fG_X0_ok fL_X0_ok (fP_X0_ok _) nW_X0_ok rx_ar (by decide +kernel) (rx_lkc_of (rx_n1 (rx_caV 2 0 (m_X0_find l) w_X0_find_c w_X0_find_n (rx_in 961 (by decide +kernel) rfl) w_X0_find_i w_X0_find_s w_X0_find_d (by decide) rfl rfl) rx_n0) rx_n0 rx_n0)
theorem w_X0_remove_c : Cond.code yX0_remove cX0_remove 7 (some .int) ∈ rx_WT := rx_in 1053 (by decide +kernel) rfl
theorem w_X0_remove_n : Cond.initialized yX0_remove.cls ∈ rx_WT := rx_in 200 (by decide +kernel) rfl
theorem w_X0_remove_i : Cond.instanceMethod yX0_remove ∈ rx_WT := rx_in 1051 (by decide +kernel) rfl
theorem w_X0_remove_s : Cond.selects yX0_remove.cls yX0_remove yX0_remove ∈ rx_WT := rx_in 1052 (by decide +kernel) rfl
theorem w_X0_remove_d : yX0_remove.cls ≠ "java/lang/invoke/MethodHandle" ∧ yX0_remove.cls ≠ "java/lang/invoke/VarHandle" ∧ (parseMethodDescriptor yX0_remove.desc).map (fun d => d.parameters.length) = some 2 := by decide +kernel
def kd_X1_init : List (Nat × List (Instr × Nat)) := [(0, [(.aload_n 0, 1), (.invokespecial 3, 3), (.aload_n 0, 1), (.aload_n 1, 1), (.putfield 9, 3), (.aload_n 0, 1), (.aload_n 2, 1), (.putfield 15, 3), (.aload_n 0, 1), (.aload_n 3, 1), (.putfield 19, 3), (.aload_n 0, 1), (.aload 4, 2), (.putfield 23, 3), (.return_, 1)])]
def cf_X1_init : Instr → Option rx_C := rx_lkc [] [] [(3, (1, none, 0, 0, rx_F0))]
def f_X1_init : rx_F := rx_fn (rx_lkk kC_X1) (rx_lkf fL_X1) (rx_lkf fI_X1) (rx_lkg gS_X1) (rx_lkg fG_X1) (rx_lkw nW_X1) cf_X1_init none 0 0 5 kd_X1_init rx_fu
theorem m_X1_init (l : Launch) : rx_M l yX1_init (Cond.code yX1_init cX1_init 5 none :: rx_WT) { frames := 1, cells := 0, slots := 0, locals := 20 } f_X1_init := rx_met rx_fu (by decide +kernel) kC_X1_ok gS_X1_ok fG_X1_ok fL_X1_ok fI_X1_ok nW_X1_ok rx_ar (by decide +kernel) (rx_lkc_of rx_n0 rx_n0 (rx_n1 (rx_caO (rx_in 565 (by decide +kernel) rfl) (rx_in 223 (by decide +kernel) rfl) (rx_in 224 (by decide +kernel) rfl) (by decide) (by decide)) rx_n0))
theorem w_X1_init_c : Cond.code yX1_init cX1_init 5 none ∈ rx_WT := rx_in 564 (by decide +kernel) rfl
theorem w_X1_init_n : Cond.initialized yX1_init.cls ∈ rx_WT := rx_in 208 (by decide +kernel) rfl
theorem w_X1_init_i : Cond.instanceMethod yX1_init ∈ rx_WT := rx_in 563 (by decide +kernel) rfl
theorem w_X1_init_d : yX1_init.cls ≠ "java/lang/invoke/MethodHandle" ∧ yX1_init.cls ≠ "java/lang/invoke/VarHandle" ∧ (parseMethodDescriptor yX1_init.desc).map (fun d => d.parameters.length) = some 4 := by decide +kernel
def kd_X5_top : List (Nat × List (Instr × Nat)) := [(0, [(.iload_n 1, 1), (.ifCond .lt 36, 3), (.iload_n 1, 1), (.aload_n 0, 1), (.getfield 18, 3), (.if_icmp .ge 28, 3), (.aload_n 0, 1), (.getfield 18, 3), (.bipush 60, 2), (.if_icmp .gt 19, 3), (.aload_n 0, 1), (.getfield 11, 3), (.aload_n 0, 1), (.getfield 18, 3), (.iconst 1, 1), (.isub, 1), (.iload_n 1, 1), (.isub, 1), (.laload, 1), (.goto 6, 3)]),
  (37, [(.ldc2_w 24, 3)]),
  (40, [(.lreturn, 1)])]
def cf_X5_top : Instr → Option rx_C := rx_lkc [] [] []
def f_X5_top : rx_F := rx_fn (rx_lkk kC_X5) (rx_lkf fL_X5) (rx_lkf fP_X5) (rx_lkg gS_X5) (rx_lkg fG_X5) (rx_lkw nW_X5) cf_X5_top (some .long) 0 0 2 kd_X5_top rx_fu
theorem m_X5_top (l : Launch) : rx_M l yX5_top (Cond.code yX5_top cX5_top 2 (some .long) :: rx_WT) { frames := 0, cells := 0, slots := 0, locals := 0 } f_X5_top := rx_met rx_fu (by decide +kernel) kC_X5_ok gS_X5_ok fG_X5_ok fL_X5_ok (fP_X5_ok _) nW_X5_ok rx_ar (by decide +kernel) (rx_lkc_of rx_n0 rx_n0 rx_n0)
theorem w_X5_top_c : Cond.code yX5_top cX5_top 2 (some .long) ∈ rx_WT := rx_in 788 (by decide +kernel) rfl
theorem w_X5_top_n : Cond.initialized yX5_top.cls ∈ rx_WT := rx_in 202 (by decide +kernel) rfl
theorem w_X5_top_i : Cond.instanceMethod yX5_top ∈ rx_WT := rx_in 786 (by decide +kernel) rfl
theorem w_X5_top_s : Cond.selects yX5_top.cls yX5_top yX5_top ∈ rx_WT := rx_in 787 (by decide +kernel) rfl
theorem w_X5_top_d : yX5_top.cls ≠ "java/lang/invoke/MethodHandle" ∧ yX5_top.cls ≠ "java/lang/invoke/VarHandle" ∧ (parseMethodDescriptor yX5_top.desc).map (fun d => d.parameters.length) = some 1 := by decide +kernel
def kd_X5_numberAt : List (Nat × List (Instr × Nat)) := [(0, [(.aload_n 0, 1), (.iload_n 1, 1), (.invokevirtual 26, 3), (.l2i, 1), (.ireturn, 1)])]
def cf_X5_numberAt : Instr → Option rx_C := rx_lkc [(26, (2, some 5, 0, 0, f_X5_top))] [] []
def f_X5_numberAt : rx_F := rx_fn (rx_lkk kC_X5) (rx_lkf fL_X5) (rx_lkf fP_X5) (rx_lkg gS_X5) (rx_lkg fG_X5) (rx_lkw nW_X5) cf_X5_numberAt (some .int) 0 0 2 kd_X5_numberAt rx_fu
theorem m_X5_numberAt (l : Launch) : rx_M l yX5_numberAt (Cond.code yX5_numberAt cX5_numberAt 2 (some .int) :: rx_WT) { frames := 1, cells := 0, slots := 0, locals := 21 } f_X5_numberAt := rx_met rx_fu (by decide +kernel) kC_X5_ok gS_X5_ok fG_X5_ok fL_X5_ok (fP_X5_ok _) nW_X5_ok rx_ar (by decide +kernel) (rx_lkc_of (rx_n1 (rx_caV 1 5 (m_X5_top l) w_X5_top_c w_X5_top_n (rx_in 825 (by decide +kernel) rfl) w_X5_top_i w_X5_top_s w_X5_top_d (by decide) rfl rfl) rx_n0) rx_n0 rx_n0)
theorem w_X5_numberAt_c : Cond.code yX5_numberAt cX5_numberAt 2 (some .int) ∈ rx_WT := rx_in 824 (by decide +kernel) rfl
theorem w_X5_numberAt_n : Cond.initialized yX5_numberAt.cls ∈ rx_WT := rx_in 202 (by decide +kernel) rfl
theorem w_X5_numberAt_i : Cond.instanceMethod yX5_numberAt ∈ rx_WT := rx_in 822 (by decide +kernel) rfl
theorem w_X5_numberAt_s : Cond.selects yX5_numberAt.cls yX5_numberAt yX5_numberAt ∈ rx_WT := rx_in 823 (by decide +kernel) rfl
theorem w_X5_numberAt_d : yX5_numberAt.cls ≠ "java/lang/invoke/MethodHandle" ∧ yX5_numberAt.cls ≠ "java/lang/invoke/VarHandle" ∧ (parseMethodDescriptor yX5_numberAt.desc).map (fun d => d.parameters.length) = some 1 := by decide +kernel
def kd_X10_number : List (Nat × List (Instr × Nat)) := [(0, [(.ldc2_w 9, 3), (.iload_n 0, 1), (.i2l, 1), (.ldc2_w 11, 3), (.land, 1), (.lor, 1), (.lreturn, 1)])]
def cf_X10_number : Instr → Option rx_C := rx_lkc [] [] []
def f_X10_number : rx_F := rx_fn (rx_lkk kC_X10) (rx_lkf fL_X10) (rx_lkf fP_X10) (rx_lkg gS_X10) (rx_lkg fG_X10) (rx_lkw nW_X10) cf_X10_number (some .long) 0 0 1 kd_X10_number rx_fu
theorem m_X10_number (l : Launch) : rx_M l yX10_number (Cond.code yX10_number cX10_number 1 (some .long) :: rx_WT) { frames := 0, cells := 0, slots := 0, locals := 0 } f_X10_number := rx_met rx_fu (by decide +kernel) kC_X10_ok gS_X10_ok fG_X10_ok fL_X10_ok (fP_X10_ok _) nW_X10_ok rx_ar (by decide +kernel) (rx_lkc_of rx_n0 rx_n0 rx_n0)
theorem w_X10_number_c : Cond.code yX10_number cX10_number 1 (some .long) ∈ rx_WT := rx_in 917 (by decide +kernel) rfl
theorem w_X10_number_n : Cond.initialized yX10_number.cls ∈ rx_WT := rx_in 201 (by decide +kernel) rfl
theorem w_X10_number_t : Cond.static yX10_number ∈ rx_WT := rx_in 916 (by decide +kernel) rfl
theorem w_X10_number_d : yX10_number.cls ≠ "java/lang/invoke/MethodHandle" ∧ yX10_number.cls ≠ "java/lang/invoke/VarHandle" ∧ (parseMethodDescriptor yX10_number.desc).map (fun d => d.parameters.length) = some 1 := by decide +kernel
def kd_X5_answer : List (Nat × List (Instr × Nat)) := [(0, [(.aload_n 0, 1), (.getfield 18, 3), (.iload_n 1, 1), (.isub, 1), (.istore 4, 2), (.iload 4, 2), (.bipush 60, 2), (.if_icmp .lt 6, 3), (.bipush 13, 2), (.ireturn, 1)]),
  (18, [(.iload_n 1, 1), (.ifCond .lt 8, 3), (.iload 4, 2), (.ifCond .ge 5, 3)]),
  (27, [(.iconst 3, 1), (.ireturn, 1)]),
  (29, [(.aload_n 0, 1), (.getfield 11, 3), (.iload 4, 2), (.lload_n 2, 1), (.lastore, 1), (.aload_n 0, 1), (.iload 4, 2), (.iconst 1, 1), (.iadd, 1), (.putfield 18, 3), (.iconst 0, 1), (.ireturn, 1)])]
def cf_X5_answer : Instr → Option rx_C := rx_lkc [] [] []
def f_X5_answer : rx_F := rx_fn (rx_lkk kC_X5) (rx_lkf fL_X5) (rx_lkf fP_X5) (rx_lkg gS_X5) (rx_lkg fG_X5) (rx_lkw nW_X5) cf_X5_answer (some .int) 0 0 5 kd_X5_answer rx_fu
theorem m_X5_answer (l : Launch) : rx_M l yX5_answer (Cond.code yX5_answer cX5_answer 5 (some .int) :: rx_WT) { frames := 0, cells := 0, slots := 0, locals := 0 } f_X5_answer := rx_met rx_fu (by decide +kernel) kC_X5_ok gS_X5_ok fG_X5_ok fL_X5_ok (fP_X5_ok _) nW_X5_ok rx_ar (by decide +kernel) (rx_lkc_of rx_n0 rx_n0 rx_n0)
theorem w_X5_answer_c : Cond.code yX5_answer cX5_answer 5 (some .int) ∈ rx_WT := rx_in 922 (by decide +kernel) rfl
theorem w_X5_answer_n : Cond.initialized yX5_answer.cls ∈ rx_WT := rx_in 202 (by decide +kernel) rfl
theorem w_X5_answer_i : Cond.instanceMethod yX5_answer ∈ rx_WT := rx_in 920 (by decide +kernel) rfl
theorem w_X5_answer_s : Cond.selects yX5_answer.cls yX5_answer yX5_answer ∈ rx_WT := rx_in 921 (by decide +kernel) rfl
theorem w_X5_answer_d : yX5_answer.cls ≠ "java/lang/invoke/MethodHandle" ∧ yX5_answer.cls ≠ "java/lang/invoke/VarHandle" ∧ (parseMethodDescriptor yX5_answer.desc).map (fun d => d.parameters.length) = some 2 := by decide +kernel
def kd_X10_kind : List (Nat × List (Instr × Nat)) := [(0, [(.lload_n 0, 1), (.bipush 49, 2), (.lushr, 1), (.l2i, 1), (.bipush 15, 2), (.iand, 1), (.ireturn, 1)])]
def cf_X10_kind : Instr → Option rx_C := rx_lkc [] [] []
def f_X10_kind : rx_F := rx_fn (rx_lkk kC_X10) (rx_lkf fL_X10) (rx_lkf fP_X10) (rx_lkg gS_X10) (rx_lkg fG_X10) (rx_lkw nW_X10) cf_X10_kind (some .int) 0 0 2 kd_X10_kind rx_fu
theorem m_X10_kind (l : Launch) : rx_M l yX10_kind (Cond.code yX10_kind cX10_kind 2 (some .int) :: rx_WT) { frames := 0, cells := 0, slots := 0, locals := 0 } f_X10_kind := rx_met rx_fu (by decide +kernel) kC_X10_ok gS_X10_ok fG_X10_ok fL_X10_ok (fP_X10_ok _) nW_X10_ok rx_ar (by decide +kernel) (rx_lkc_of rx_n0 rx_n0 rx_n0)
theorem w_X10_kind_c : Cond.code yX10_kind cX10_kind 2 (some .int) ∈ rx_WT := rx_in 774 (by decide +kernel) rfl
theorem w_X10_kind_n : Cond.initialized yX10_kind.cls ∈ rx_WT := rx_in 201 (by decide +kernel) rfl
theorem w_X10_kind_t : Cond.static yX10_kind ∈ rx_WT := rx_in 773 (by decide +kernel) rfl
theorem w_X10_kind_d : yX10_kind.cls ≠ "java/lang/invoke/MethodHandle" ∧ yX10_kind.cls ≠ "java/lang/invoke/VarHandle" ∧ (parseMethodDescriptor yX10_kind.desc).map (fun d => d.parameters.length) = some 1 := by decide +kernel
def kd_X4_startDraft : List (Nat × List (Instr × Nat)) := [(0, [(.aload_n 0, 1), (.lconst 0, 1), (.putfield 62, 3), (.aload_n 0, 1), (.lconst 0, 1), (.putfield 66, 3), (.aload_n 0, 1), (.iconst 0, 1), (.putfield 69, 3), (.return_, 1)])]
def cf_X4_startDraft : Instr → Option rx_C := rx_lkc [] [] []
def f_X4_startDraft : rx_F := rx_fn (rx_lkk kC_X4) (rx_lkf fL_X4) (rx_lkf fP_X4) (rx_lkg gS_X4) (rx_lkg fG_X4) (rx_lkw nW_X4) cf_X4_startDraft none 0 0 1 kd_X4_startDraft rx_fu
theorem m_X4_startDraft (l : Launch) : rx_M l yX4_startDraft (Cond.code yX4_startDraft cX4_startDraft 1 none :: rx_WT) { frames := 0, cells := 0, slots := 0, locals := 0 } f_X4_startDraft := rx_met rx_fu (by decide +kernel) kC_X4_ok gS_X4_ok fG_X4_ok fL_X4_ok (fP_X4_ok _) nW_X4_ok rx_ar (by decide +kernel) (rx_lkc_of rx_n0 rx_n0 rx_n0)
theorem w_X4_startDraft_c : Cond.code yX4_startDraft cX4_startDraft 1 none ∈ rx_WT := rx_in 239 (by decide +kernel) rfl
theorem w_X4_startDraft_n : Cond.initialized yX4_startDraft.cls ∈ rx_WT := rx_in 194 (by decide +kernel) rfl
theorem w_X4_startDraft_i : Cond.instanceMethod yX4_startDraft ∈ rx_WT := rx_in 237 (by decide +kernel) rfl
theorem w_X4_startDraft_s : Cond.selects yX4_startDraft.cls yX4_startDraft yX4_startDraft ∈ rx_WT := rx_in 238 (by decide +kernel) rfl
theorem w_X4_startDraft_d : yX4_startDraft.cls ≠ "java/lang/invoke/MethodHandle" ∧ yX4_startDraft.cls ≠ "java/lang/invoke/VarHandle" ∧ (parseMethodDescriptor yX4_startDraft.desc).map (fun d => d.parameters.length) = some 0 := by decide +kernel
def kd_X10_length : List (Nat × List (Instr × Nat)) := [(0, [(.lload_n 0, 1), (.bipush 32, 2), (.lushr, 1), (.l2i, 1), (.ldc 29, 2), (.iand, 1), (.ireturn, 1)])]
def cf_X10_length : Instr → Option rx_C := rx_lkc [] [] []
def f_X10_length : rx_F := rx_fn (rx_lkk kC_X10) (rx_lkf fL_X10) (rx_lkf fP_X10) (rx_lkg gS_X10) (rx_lkg fG_X10) (rx_lkw nW_X10) cf_X10_length (some .int) 0 0 2 kd_X10_length rx_fu
theorem m_X10_length (l : Launch) : rx_M l yX10_length (Cond.code yX10_length cX10_length 2 (some .int) :: rx_WT) { frames := 0, cells := 0, slots := 0, locals := 0 } f_X10_length := rx_met rx_fu (by decide +kernel) kC_X10_ok gS_X10_ok fG_X10_ok fL_X10_ok (fP_X10_ok _) nW_X10_ok rx_ar (by decide +kernel) (rx_lkc_of rx_n0 rx_n0 rx_n0)
theorem w_X10_length_c : Cond.code yX10_length cX10_length 2 (some .int) ∈ rx_WT := rx_in 865 (by decide +kernel) rfl
theorem w_X10_length_n : Cond.initialized yX10_length.cls ∈ rx_WT := rx_in 201 (by decide +kernel) rfl
theorem w_X10_length_t : Cond.static yX10_length ∈ rx_WT := rx_in 864 (by decide +kernel) rfl
theorem w_X10_length_d : yX10_length.cls ≠ "java/lang/invoke/MethodHandle" ∧ yX10_length.cls ≠ "java/lang/invoke/VarHandle" ∧ (parseMethodDescriptor yX10_length.desc).map (fun d => d.parameters.length) = some 1 := by decide +kernel
def kd_X9_octetAt : List (Nat × List (Instr × Nat)) := [(0, [(.iload_n 1, 1), (.ifCond .lt 23, 3), (.iload_n 1, 1), (.sipush 600, 3), (.if_icmp .ge 16, 3), (.aload_n 0, 1), (.getfield 13, 3), (.iload_n 1, 1), (.baload, 1), (.sipush 255, 3), (.iand, 1), (.goto 4, 3)]),
  (24, [(.iconst 0, 1)]),
  (25, [(.ireturn, 1)])]
def cf_X9_octetAt : Instr → Option rx_C := rx_lkc [] [] []
def f_X9_octetAt : rx_F := rx_fn (rx_lkk kC_X9) (rx_lkf fL_X9) (rx_lkf fP_X9) (rx_lkg gS_X9) (rx_lkg fG_X9) (rx_lkw nW_X9) cf_X9_octetAt (some .int) 0 0 2 kd_X9_octetAt rx_fu
theorem m_X9_octetAt (l : Launch) : rx_M l yX9_octetAt (Cond.code yX9_octetAt cX9_octetAt 2 (some .int) :: rx_WT) { frames := 0, cells := 0, slots := 0, locals := 0 } f_X9_octetAt := rx_met rx_fu (by decide +kernel) kC_X9_ok gS_X9_ok fG_X9_ok fL_X9_ok (fP_X9_ok _) nW_X9_ok rx_ar (by decide +kernel) (rx_lkc_of rx_n0 rx_n0 rx_n0)
theorem w_X9_octetAt_c : Cond.code yX9_octetAt cX9_octetAt 2 (some .int) ∈ rx_WT := rx_in 939 (by decide +kernel) rfl
theorem w_X9_octetAt_n : Cond.initialized yX9_octetAt.cls ∈ rx_WT := rx_in 199 (by decide +kernel) rfl
theorem w_X9_octetAt_i : Cond.instanceMethod yX9_octetAt ∈ rx_WT := rx_in 937 (by decide +kernel) rfl
theorem w_X9_octetAt_s : Cond.selects yX9_octetAt.cls yX9_octetAt yX9_octetAt ∈ rx_WT := rx_in 938 (by decide +kernel) rfl
theorem w_X9_octetAt_d : yX9_octetAt.cls ≠ "java/lang/invoke/MethodHandle" ∧ yX9_octetAt.cls ≠ "java/lang/invoke/VarHandle" ∧ (parseMethodDescriptor yX9_octetAt.desc).map (fun d => d.parameters.length) = some 1 := by decide +kernel
def kd_X4_addToDraft : List (Nat × List (Instr × Nat)) := [(0, [(.iload_n 1, 1), (.i2l, 1), (.ldc2_w 72, 3), (.land, 1), (.lstore_n 2, 1), (.aload_n 0, 1), (.getfield 69, 3), (.bipush 8, 2), (.if_icmp .ge 24, 3), (.aload_n 0, 1), (.dup, 1), (.getfield 62, 3), (.lload_n 2, 1), (.bipush 8, 2), (.aload_n 0, 1), (.getfield 69, 3), (.imul, 1), (.lshl, 1), (.lor, 1), (.putfield 62, 3), (.goto 33, 3)]),
  (37, [(.aload_n 0, 1), (.getfield 69, 3), (.bipush 16, 2), (.if_icmp .ge 24, 3), (.aload_n 0, 1), (.dup, 1), (.getfield 66, 3), (.lload_n 2, 1), (.bipush 8, 2), (.aload_n 0, 1), (.getfield 69, 3), (.bipush 8, 2), (.isub, 1), (.imul, 1), (.lshl, 1), (.lor, 1), (.putfield 66, 3)]),
  (67, [(.aload_n 0, 1), (.dup, 1), (.getfield 69, 3), (.iconst 1, 1), (.iadd, 1), (.putfield 69, 3), (.return_, 1)])]
def cf_X4_addToDraft : Instr → Option rx_C := rx_lkc [] [] []
def f_X4_addToDraft : rx_F := rx_fn (rx_lkk kC_X4) (rx_lkf fL_X4) (rx_lkf fP_X4) (rx_lkg gS_X4) (rx_lkg fG_X4) (rx_lkw nW_X4) cf_X4_addToDraft none 0 0 4 kd_X4_addToDraft rx_fu
theorem m_X4_addToDraft (l : Launch) : rx_M l yX4_addToDraft (Cond.code yX4_addToDraft cX4_addToDraft 4 none :: rx_WT) { frames := 0, cells := 0, slots := 0, locals := 0 } f_X4_addToDraft := rx_met rx_fu (by decide +kernel) kC_X4_ok gS_X4_ok fG_X4_ok fL_X4_ok (fP_X4_ok _) nW_X4_ok rx_ar (by decide +kernel) (rx_lkc_of rx_n0 rx_n0 rx_n0)
theorem w_X4_addToDraft_c : Cond.code yX4_addToDraft cX4_addToDraft 4 none ∈ rx_WT := rx_in 295 (by decide +kernel) rfl
theorem w_X4_addToDraft_n : Cond.initialized yX4_addToDraft.cls ∈ rx_WT := rx_in 194 (by decide +kernel) rfl
theorem w_X4_addToDraft_i : Cond.instanceMethod yX4_addToDraft ∈ rx_WT := rx_in 293 (by decide +kernel) rfl
theorem w_X4_addToDraft_s : Cond.selects yX4_addToDraft.cls yX4_addToDraft yX4_addToDraft ∈ rx_WT := rx_in 294 (by decide +kernel) rfl
theorem w_X4_addToDraft_d : yX4_addToDraft.cls ≠ "java/lang/invoke/MethodHandle" ∧ yX4_addToDraft.cls ≠ "java/lang/invoke/VarHandle" ∧ (parseMethodDescriptor yX4_addToDraft.desc).map (fun d => d.parameters.length) = some 1 := by decide +kernel
def kd_X4_meetDraft : List (Nat × List (Instr × Nat)) := [(0, [(.aload_n 0, 1), (.getfield 69, 3), (.bipush 16, 2), (.if_icmp .le 5, 3), (.iconst (-1), 1), (.ireturn, 1)]),
  (11, [(.iconst 0, 1), (.istore_n 1, 1)]),
  (13, [(.iload_n 1, 1), (.aload_n 0, 1), (.getfield 20, 3), (.if_icmp .ge 59, 3), (.iload_n 1, 1), (.sipush 160, 3), (.if_icmp .ge 52, 3), (.aload_n 0, 1), (.getfield 9, 3), (.iload_n 1, 1), (.laload, 1), (.aload_n 0, 1), (.getfield 62, 3), (.lcmp, 1), (.ifCond .ne 32, 3), (.aload_n 0, 1), (.getfield 13, 3), (.iload_n 1, 1), (.laload, 1), (.aload_n 0, 1), (.getfield 66, 3), (.lcmp, 1), (.ifCond .ne 18, 3), (.aload_n 0, 1), (.getfield 16, 3), (.iload_n 1, 1), (.iaload, 1), (.aload_n 0, 1), (.getfield 69, 3), (.if_icmp .ne 5, 3), (.iload_n 1, 1), (.ireturn, 1)]),
  (71, [(.iinc 1 1, 3), (.goto (-61), 3)]),
  (77, [(.aload_n 0, 1), (.getfield 20, 3), (.ifCond .lt 13, 3), (.aload_n 0, 1), (.getfield 20, 3), (.sipush 160, 3), (.if_icmp .lt 5, 3)]),
  (94, [(.iconst (-1), 1), (.ireturn, 1)]),
  (96, [(.aload_n 0, 1), (.getfield 9, 3), (.aload_n 0, 1), (.getfield 20, 3), (.aload_n 0, 1), (.getfield 62, 3), (.lastore, 1), (.aload_n 0, 1), (.getfield 13, 3), (.aload_n 0, 1), (.getfield 20, 3), (.aload_n 0, 1), (.getfield 66, 3), (.lastore, 1), (.aload_n 0, 1), (.getfield 16, 3), (.aload_n 0, 1), (.getfield 20, 3), (.aload_n 0, 1), (.getfield 69, 3), (.iastore, 1), (.aload_n 0, 1), (.dup, 1), (.getfield 20, 3), (.iconst 1, 1), (.iadd, 1), (.putfield 20, 3), (.aload_n 0, 1), (.getfield 20, 3), (.iconst 1, 1), (.isub, 1), (.ireturn, 1)])]
def cf_X4_meetDraft : Instr → Option rx_C := rx_lkc [] [] []
def f_X4_meetDraft : rx_F := rx_fn (rx_lkk kC_X4) (rx_lkf fL_X4) (rx_lkf fP_X4) (rx_lkg gS_X4) (rx_lkg fG_X4) (rx_lkw nW_X4) cf_X4_meetDraft (some .int) 0 0 2 kd_X4_meetDraft rx_fu
theorem m_X4_meetDraft (l : Launch) : rx_M l yX4_meetDraft (Cond.code yX4_meetDraft cX4_meetDraft 2 (some .int) :: rx_WT) { frames := 0, cells := 0, slots := 0, locals := 0 } f_X4_meetDraft := rx_met rx_fu (by decide +kernel) kC_X4_ok gS_X4_ok fG_X4_ok fL_X4_ok (fP_X4_ok _) nW_X4_ok rx_ar (by decide +kernel) (rx_lkc_of rx_n0 rx_n0 rx_n0)
theorem w_X4_meetDraft_c : Cond.code yX4_meetDraft cX4_meetDraft 2 (some .int) ∈ rx_WT := rx_in 291 (by decide +kernel) rfl
theorem w_X4_meetDraft_n : Cond.initialized yX4_meetDraft.cls ∈ rx_WT := rx_in 194 (by decide +kernel) rfl
theorem w_X4_meetDraft_i : Cond.instanceMethod yX4_meetDraft ∈ rx_WT := rx_in 289 (by decide +kernel) rfl
theorem w_X4_meetDraft_s : Cond.selects yX4_meetDraft.cls yX4_meetDraft yX4_meetDraft ∈ rx_WT := rx_in 290 (by decide +kernel) rfl
theorem w_X4_meetDraft_d : yX4_meetDraft.cls ≠ "java/lang/invoke/MethodHandle" ∧ yX4_meetDraft.cls ≠ "java/lang/invoke/VarHandle" ∧ (parseMethodDescriptor yX4_meetDraft.desc).map (fun d => d.parameters.length) = some 0 := by decide +kernel
def kd_X1_takeKey : List (Nat × List (Instr × Nat)) := [(0, [(.lload_n 1, 1), (.invokestatic 99, 3), (.istore_n 3, 1), (.aload_n 0, 1), (.lload_n 1, 1), (.ldc2_w 103, 3), (.land, 1), (.putfield 105, 3), (.iload_n 3, 1), (.bipush 6, 2), (.if_icmp .eq 18, 3), (.bipush 86, 2), (.iload_n 3, 1), (.iushr, 1), (.iconst 1, 1), (.iand, 1), (.ifCond .eq 7, 3), (.iconst 0, 1), (.goto 4, 3)]),
  (33, [(.iconst 4, 1)]),
  (34, [(.ireturn, 1)]),
  (35, [(.aload_n 0, 1), (.getfield 9, 3), (.invokevirtual 109, 3), (.iconst 0, 1), (.istore 4, 2)]),
  (45, [(.iload 4, 2), (.lload_n 1, 1), (.invokestatic 114, 3), (.if_icmp .ge 28, 3), (.aload_n 0, 1), (.getfield 9, 3), (.aload_n 0, 1), (.getfield 15, 3), (.lload_n 1, 1), (.l2i, 1), (.iload 4, 2), (.iadd, 1), (.invokevirtual 117, 3), (.invokevirtual 122, 3), (.iinc 4 1, 3), (.goto (-31), 3)]),
  (79, [(.aload_n 0, 1), (.getfield 9, 3), (.invokevirtual 126, 3), (.istore 4, 2), (.aload_n 0, 1), (.iload 4, 2), (.invokestatic 129, 3), (.putfield 105, 3), (.iload 4, 2), (.ifCond .ge 7, 3), (.iconst 2, 1), (.goto 4, 3)]),
  (106, [(.iconst 0, 1)]),
  (107, [(.ireturn, 1)])]
def cf_X1_takeKey : Instr → Option rx_C := rx_lkc [(109, (1, some 4, 0, 0, f_X4_startDraft)), (117, (2, some 9, 0, 0, f_X9_octetAt)), (122, (2, some 4, 0, 0, f_X4_addToDraft)), (126, (1, some 4, 0, 0, f_X4_meetDraft))] [(99, (1, none, 0, 0, f_X10_kind)), (114, (1, none, 0, 0, f_X10_length)), (129, (1, none, 0, 0, f_X10_literalName))] []
def f_X1_takeKey : rx_F := rx_fn (rx_lkk kC_X1) (rx_lkf fL_X1) (rx_lkf fP_X1) (rx_lkg gS_X1) (rx_lkg fG_X1) (rx_lkw nW_X1) cf_X1_takeKey (some .int) 0 0 5 kd_X1_takeKey rx_fu
theorem m_X1_takeKey (l : Launch) : rx_M l yX1_takeKey (Cond.code yX1_takeKey cX1_takeKey 5 (some .int) :: rx_WT) { frames := 1, cells := 0, slots := 0, locals := 23 } f_X1_takeKey := rx_met rx_fu (by decide +kernel) kC_X1_ok gS_X1_ok fG_X1_ok fL_X1_ok (fP_X1_ok _) nW_X1_ok rx_ar (by decide +kernel) (rx_lkc_of (rx_n1 (rx_caV 0 4 (m_X4_startDraft l) w_X4_startDraft_c w_X4_startDraft_n (rx_in 934 (by decide +kernel) rfl) w_X4_startDraft_i w_X4_startDraft_s w_X4_startDraft_d (by decide) rfl rfl) (rx_n1 (rx_caV 1 9 (m_X9_octetAt l) w_X9_octetAt_c w_X9_octetAt_n (rx_in 936 (by decide +kernel) rfl) w_X9_octetAt_i w_X9_octetAt_s w_X9_octetAt_d (by decide) rfl rfl) (rx_n1 (rx_caV 1 4 (m_X4_addToDraft l) w_X4_addToDraft_c w_X4_addToDraft_n (rx_in 940 (by decide +kernel) rfl) w_X4_addToDraft_i w_X4_addToDraft_s w_X4_addToDraft_d (by decide) rfl rfl) (rx_n1 (rx_caV 0 4 (m_X4_meetDraft l) w_X4_meetDraft_c w_X4_meetDraft_n (rx_in 941 (by decide +kernel) rfl) w_X4_meetDraft_i w_X4_meetDraft_s w_X4_meetDraft_d (by decide) rfl rfl) rx_n0)))) (rx_n1 (rx_caS 1 (m_X10_kind l) w_X10_kind_c w_X10_kind_n (rx_in 932 (by decide +kernel) rfl) w_X10_kind_t w_X10_kind_d (by decide)) (rx_n1 (rx_caS 1 (m_X10_length l) w_X10_length_c w_X10_length_n (rx_in 935 (by decide +kernel) rfl) w_X10_length_t w_X10_length_d (by decide)) (rx_n1 (rx_caS 1 (m_X10_literalName l) w_X10_literalName_c w_X10_literalName_n (rx_in 942 (by decide +kernel) rfl) w_X10_literalName_t w_X10_literalName_d (by decide)) rx_n0))) rx_n0)
theorem w_X1_takeKey_c : Cond.code yX1_takeKey cX1_takeKey 5 (some .int) ∈ rx_WT := rx_in 931 (by decide +kernel) rfl
theorem w_X1_takeKey_n : Cond.initialized yX1_takeKey.cls ∈ rx_WT := rx_in 208 (by decide +kernel) rfl
theorem w_X1_takeKey_i : Cond.instanceMethod yX1_takeKey ∈ rx_WT := rx_in 930 (by decide +kernel) rfl
theorem w_X1_takeKey_s : Cond.selects yX1_takeKey.cls yX1_takeKey yX1_takeKey ∈ rx_WT := rx_in 17 (by decide +kernel) rfl
theorem w_X1_takeKey_d : yX1_takeKey.cls ≠ "java/lang/invoke/MethodHandle" ∧ yX1_takeKey.cls ≠ "java/lang/invoke/VarHandle" ∧ (parseMethodDescriptor yX1_takeKey.desc).map (fun d => d.parameters.length) = some 1 := by decide +kernel
def kd_X1_fetch : List (Nat × List (Instr × Nat)) := [(0, [(.aload_n 0, 1), (.aload_n 0, 1), (.getfield 23, 3), (.iconst 0, 1), (.invokevirtual 132, 3), (.invokevirtual 135, 3), (.istore_n 1, 1), (.iload_n 1, 1), (.ifCond .eq 5, 3), (.iload_n 1, 1), (.ireturn, 1)]),
  (19, [(.aload_n 0, 1), (.getfield 23, 3), (.iconst 1, 1), (.invokevirtual 27, 3), (.istore_n 2, 1), (.aload_n 0, 1), (.getfield 19, 3), (.iload_n 2, 1), (.aload_n 0, 1), (.getfield 105, 3), (.invokevirtual 138, 3), (.istore_n 3, 1), (.iload_n 3, 1), (.ifCond .ge 7, 3), (.iconst 5, 1), (.goto 20, 3)]),
  (49, [(.aload_n 0, 1), (.getfield 23, 3), (.iconst 2, 1), (.aload_n 0, 1), (.getfield 19, 3), (.iload_n 2, 1), (.iload_n 3, 1), (.invokevirtual 141, 3), (.invokevirtual 44, 3)]),
  (66, [(.ireturn, 1)])]
def cf_X1_fetch : Instr → Option rx_C := rx_lkc [(132, (2, some 5, 0, 0, f_X5_top)), (135, (2, some 1, 0, 0, f_X1_takeKey)), (27, (2, some 5, 0, 0, f_X5_numberAt)), (138, (3, some 0, 0, 0, f_X0_find)), (141, (3, some 0, 0, 0, f_X0_valueAt)), (44, (3, some 5, 0, 0, f_X5_answer))] [] []
def f_X1_fetch : rx_F := rx_fn (rx_lkk kC_X1) (rx_lkf fL_X1) (rx_lkf fP_X1) (rx_lkg gS_X1) (rx_lkg fG_X1) (rx_lkw nW_X1) cf_X1_fetch (some .int) 0 0 4 kd_X1_fetch rx_fu
theorem m_X1_fetch (l : Launch) : rx_M l yX1_fetch (Cond.code yX1_fetch cX1_fetch 4 (some .int) :: rx_WT) { frames := 2, cells := 0, slots := 0, locals := 47 } f_X1_fetch := rx_met rx_fu (by decide +kernel) kC_X1_ok gS_X1_ok fG_X1_ok fL_X1_ok (fP_X1_ok _) nW_X1_ok rx_ar (by decide +kernel) (rx_lkc_of (rx_n1 (rx_caV 1 5 (m_X5_top l) w_X5_top_c w_X5_top_n (rx_in 927 (by decide +kernel) rfl) w_X5_top_i w_X5_top_s w_X5_top_d (by decide) rfl rfl) (rx_n1 (rx_caV 1 1 (m_X1_takeKey l) w_X1_takeKey_c w_X1_takeKey_n (rx_in 928 (by decide +kernel) rfl) w_X1_takeKey_i w_X1_takeKey_s w_X1_takeKey_d (by decide) rfl rfl) (rx_n1 (rx_caV 1 5 (m_X5_numberAt l) w_X5_numberAt_c w_X5_numberAt_n (rx_in 913 (by decide +kernel) rfl) w_X5_numberAt_i w_X5_numberAt_s w_X5_numberAt_d (by decide) rfl rfl) (rx_n1 (rx_caV 2 0 (m_X0_find l) w_X0_find_c w_X0_find_n (rx_in 943 (by decide +kernel) rfl) w_X0_find_i w_X0_find_s w_X0_find_d (by decide) rfl rfl) (rx_n1 (rx_caV 2 0 (m_X0_valueAt l) w_X0_valueAt_c w_X0_valueAt_n (rx_in 949 (by decide +kernel) rfl) w_X0_valueAt_i w_X0_valueAt_s w_X0_valueAt_d (by decide) rfl rfl) (rx_n1 (rx_caV 2 5 (m_X5_answer l) w_X5_answer_c w_X5_answer_n (rx_in 919 (by decide +kernel) rfl) w_X5_answer_i w_X5_answer_s w_X5_answer_d (by decide) rfl rfl) rx_n0)))))) rx_n0 rx_n0)
theorem w_X1_fetch_c : Cond.code yX1_fetch cX1_fetch 4 (some .int) ∈ rx_WT := rx_in 926 (by decide +kernel) rfl
theorem w_X1_fetch_n : Cond.initialized yX1_fetch.cls ∈ rx_WT := rx_in 208 (by decide +kernel) rfl
theorem w_X1_fetch_i : Cond.instanceMethod yX1_fetch ∈ rx_WT := rx_in 925 (by decide +kernel) rfl
theorem w_X1_fetch_s : Cond.selects yX1_fetch.cls yX1_fetch yX1_fetch ∈ rx_WT := rx_in 16 (by decide +kernel) rfl
theorem w_X1_fetch_d : yX1_fetch.cls ≠ "java/lang/invoke/MethodHandle" ∧ yX1_fetch.cls ≠ "java/lang/invoke/VarHandle" ∧ (parseMethodDescriptor yX1_fetch.desc).map (fun d => d.parameters.length) = some 0 := by decide +kernel
