def kd_X5_init : List (Nat × List (Instr × Nat)) := [(0, [(.aload_n 0, 1), (.invokespecial 3, 3), (.aload_n 0, 1), (.bipush 60, 2), (.newarray .long, 2), (.putfield 11, 3), (.aload_n 0, 1), (.bipush 60, 2), (.newarray .long, 2), (.putfield 15, 3), (.return_, 1)])]
def cf_X5_init : Instr → Option rx_C := rx_lkc [] [] [(3, (1, none, 0, 0, rx_F0))]
def f_X5_init : rx_F := rx_fn (rx_lkk kC_X5) (rx_lkf fL_X5) (rx_lkf fI_X5) (rx_lkg gS_X5) (rx_lkg fG_X5) (rx_lkw nW_X5) cf_X5_init none 2 120 1 kd_X5_init rx_fu
theorem m_X5_init (l : Launch) : rx_M l yX5_init (Cond.code yX5_init cX5_init 1 none :: rx_WT) { frames := 1, cells := 2, slots := 120, locals := 20 } f_X5_init := rx_met rx_fu (by decide +kernel) kC_X5_ok gS_X5_ok fG_X5_ok fL_X5_ok fI_X5_ok nW_X5_ok rx_ar (by decide +kernel) (rx_lkc_of rx_n0 rx_n0 (rx_n1 (rx_caO (rx_in 421 (by decide +kernel) rfl) (rx_in 223 (by decide +kernel) rfl) (rx_in 224 (by decide +kernel) rfl) (by decide) (by decide)) rx_n0))
theorem w_X5_init_c : Cond.code yX5_init cX5_init 1 none ∈ rx_WT := rx_in 420 (by decide +kernel) rfl
theorem w_X5_init_n : Cond.initialized yX5_init.cls ∈ rx_WT := rx_in 202 (by decide +kernel) rfl
theorem w_X5_init_i : Cond.instanceMethod yX5_init ∈ rx_WT := rx_in 419 (by decide +kernel) rfl
theorem w_X5_init_d : yX5_init.cls ≠ "java/lang/invoke/MethodHandle" ∧ yX5_init.cls ≠ "java/lang/invoke/VarHandle" ∧ (parseMethodDescriptor yX5_init.desc).map (fun d => d.parameters.length) = some 0 := by decide +kernel
def kd_X7_init : List (Nat × List (Instr × Nat)) := [(0, [(.aload_n 0, 1), (.invokespecial 3, 3), (.aload_n 0, 1), (.sipush 300, 3), (.newarray .byte, 2), (.putfield 11, 3), (.aload_n 0, 1), (.sipush 300, 3), (.newarray .byte, 2), (.putfield 15, 3), (.aload_n 0, 1), (.sipush 300, 3), (.newarray .long, 2), (.putfield 18, 3), (.aload_n 0, 1), (.bipush 8, 2), (.newarray .int, 2), (.putfield 22, 3), (.aload_n 0, 1), (.aload_n 1, 1), (.putfield 26, 3), (.aload_n 0, 1), (.aload_n 2, 1), (.putfield 30, 3), (.return_, 1)])]
def cf_X7_init : Instr → Option rx_C := rx_lkc [] [] [(3, (1, none, 0, 0, rx_F0))]
def f_X7_init : rx_F := rx_fn (rx_lkk kC_X7) (rx_lkf fL_X7) (rx_lkf fI_X7) (rx_lkg gS_X7) (rx_lkg fG_X7) (rx_lkw nW_X7) cf_X7_init none 4 908 3 kd_X7_init rx_fu
theorem m_X7_init (l : Launch) : rx_M l yX7_init (Cond.code yX7_init cX7_init 3 none :: rx_WT) { frames := 1, cells := 4, slots := 908, locals := 20 } f_X7_init := rx_met rx_fu (by decide +kernel) kC_X7_ok gS_X7_ok fG_X7_ok fL_X7_ok fI_X7_ok nW_X7_ok rx_ar (by decide +kernel) (rx_lkc_of rx_n0 rx_n0 (rx_n1 (rx_caO (rx_in 441 (by decide +kernel) rfl) (rx_in 223 (by decide +kernel) rfl) (rx_in 224 (by decide +kernel) rfl) (by decide) (by decide)) rx_n0))
theorem w_X7_init_c : Cond.code yX7_init cX7_init 3 none ∈ rx_WT := rx_in 440 (by decide +kernel) rfl
theorem w_X7_init_n : Cond.initialized yX7_init.cls ∈ rx_WT := rx_in 203 (by decide +kernel) rfl
theorem w_X7_init_i : Cond.instanceMethod yX7_init ∈ rx_WT := rx_in 439 (by decide +kernel) rfl
theorem w_X7_init_d : yX7_init.cls ≠ "java/lang/invoke/MethodHandle" ∧ yX7_init.cls ≠ "java/lang/invoke/VarHandle" ∧ (parseMethodDescriptor yX7_init.desc).map (fun d => d.parameters.length) = some 2 := by decide +kernel
def kd_X7_append : List (Nat × List (Instr × Nat)) := [(0, [(.iload_n 3, 1), (.iconst 1, 1), (.if_icmp .lt 21, 3), (.iload_n 3, 1), (.bipush 8, 2), (.if_icmp .gt 15, 3), (.iload_n 3, 1), (.sipush 300, 3), (.aload_n 0, 1), (.getfield 34, 3), (.isub, 1), (.if_icmp .le 5, 3)]),
  (23, [(.iconst 0, 1), (.ireturn, 1)]),
  (25, [(.iconst 0, 1), (.istore 4, 2)]),
  (28, [(.iload 4, 2), (.iload_n 3, 1), (.if_icmp .ge 47, 3), (.aload_n 0, 1), (.getfield 34, 3), (.sipush 300, 3), (.if_icmp .ge 37, 3), (.aload_n 0, 1), (.getfield 11, 3), (.aload_n 0, 1), (.getfield 34, 3), (.lload_n 1, 1), (.bipush 8, 2), (.iload 4, 2), (.imul, 1), (.lushr, 1), (.l2i, 1), (.i2b, 1), (.bastore, 1), (.aload_n 0, 1), (.dup, 1), (.getfield 34, 3), (.iconst 1, 1), (.iadd, 1), (.putfield 34, 3), (.iinc 4 1, 3), (.goto (-47), 3)]),
  (78, [(.iconst 1, 1), (.ireturn, 1)])]
def cf_X7_append : Instr → Option rx_C := rx_lkc [] [] []
def f_X7_append : rx_F := rx_fn (rx_lkk kC_X7) (rx_lkf fL_X7) (rx_lkf fP_X7) (rx_lkg gS_X7) (rx_lkg fG_X7) (rx_lkw nW_X7) cf_X7_append (some .boolean) 0 0 5 kd_X7_append rx_fu
theorem m_X7_append (l : Launch) : rx_M l yX7_append (Cond.code yX7_append cX7_append 5 (some .boolean) :: rx_WT) { frames := 0, cells := 0, slots := 0, locals := 0 } f_X7_append := rx_met rx_fu (by decide +kernel) kC_X7_ok gS_X7_ok fG_X7_ok fL_X7_ok (fP_X7_ok _) nW_X7_ok rx_ar (by decide +kernel) (rx_lkc_of rx_n0 rx_n0 rx_n0)
theorem w_X7_append_c : Cond.code yX7_append cX7_append 5 (some .boolean) ∈ rx_WT := rx_in 665 (by decide +kernel) rfl
theorem w_X7_append_n : Cond.initialized yX7_append.cls ∈ rx_WT := rx_in 203 (by decide +kernel) rfl
theorem w_X7_append_i : Cond.instanceMethod yX7_append ∈ rx_WT := rx_in 663 (by decide +kernel) rfl
theorem w_X7_append_s : Cond.selects yX7_append.cls yX7_append yX7_append ∈ rx_WT := rx_in 664 (by decide +kernel) rfl
theorem w_X7_append_d : yX7_append.cls ≠ "java/lang/invoke/MethodHandle" ∧ yX7_append.cls ≠ "java/lang/invoke/VarHandle" ∧ (parseMethodDescriptor yX7_append.desc).map (fun d => d.parameters.length) = some 2 := by decide +kernel
def kd_X7_discard : List (Nat × List (Instr × Nat)) := [(0, [(.aload_n 0, 1), (.iconst 0, 1), (.putfield 34, 3), (.aload_n 0, 1), (.iconst 0, 1), (.putfield 38, 3), (.return_, 1)])]
def cf_X7_discard : Instr → Option rx_C := rx_lkc [] [] []
def f_X7_discard : rx_F := rx_fn (rx_lkk kC_X7) (rx_lkf fL_X7) (rx_lkf fP_X7) (rx_lkg gS_X7) (rx_lkg fG_X7) (rx_lkw nW_X7) cf_X7_discard none 0 0 1 kd_X7_discard rx_fu
theorem m_X7_discard (l : Launch) : rx_M l yX7_discard (Cond.code yX7_discard cX7_discard 1 none :: rx_WT) { frames := 0, cells := 0, slots := 0, locals := 0 } f_X7_discard := rx_met rx_fu (by decide +kernel) kC_X7_ok gS_X7_ok fG_X7_ok fL_X7_ok (fP_X7_ok _) nW_X7_ok rx_ar (by decide +kernel) (rx_lkc_of rx_n0 rx_n0 rx_n0)
theorem w_X7_discard_c : Cond.code yX7_discard cX7_discard 1 none ∈ rx_WT := rx_in 1503 (by decide +kernel) rfl
theorem w_X7_discard_n : Cond.initialized yX7_discard.cls ∈ rx_WT := rx_in 203 (by decide +kernel) rfl
theorem w_X7_discard_i : Cond.instanceMethod yX7_discard ∈ rx_WT := rx_in 1501 (by decide +kernel) rfl
theorem w_X7_discard_s : Cond.selects yX7_discard.cls yX7_discard yX7_discard ∈ rx_WT := rx_in 1502 (by decide +kernel) rfl
theorem w_X7_discard_d : yX7_discard.cls ≠ "java/lang/invoke/MethodHandle" ∧ yX7_discard.cls ≠ "java/lang/invoke/VarHandle" ∧ (parseMethodDescriptor yX7_discard.desc).map (fun d => d.parameters.length) = some 0 := by decide +kernel
def kd_X9_init : List (Nat × List (Instr × Nat)) := [(0, [(.aload_n 0, 1), (.invokespecial 1, 3), (.aload_n 0, 1), (.sipush 600, 3), (.newarray .long, 2), (.putfield 9, 3), (.aload_n 0, 1), (.sipush 600, 3), (.newarray .byte, 2), (.putfield 13, 3), (.aload_n 0, 1), (.sipush 1000, 3), (.newarray .byte, 2), (.putfield 17, 3), (.return_, 1)])]
def cf_X9_init : Instr → Option rx_C := rx_lkc [] [] [(1, (1, none, 0, 0, rx_F0))]
def f_X9_init : rx_F := rx_fn (rx_lkk kC_X9) (rx_lkf fL_X9) (rx_lkf fI_X9) (rx_lkg gS_X9) (rx_lkg fG_X9) (rx_lkw nW_X9) cf_X9_init none 3 2200 1 kd_X9_init rx_fu
theorem m_X9_init (l : Launch) : rx_M l yX9_init (Cond.code yX9_init cX9_init 1 none :: rx_WT) { frames := 1, cells := 3, slots := 2200, locals := 20 } f_X9_init := rx_met rx_fu (by decide +kernel) kC_X9_ok gS_X9_ok fG_X9_ok fL_X9_ok fI_X9_ok nW_X9_ok rx_ar (by decide +kernel) (rx_lkc_of rx_n0 rx_n0 (rx_n1 (rx_caO (rx_in 334 (by decide +kernel) rfl) (rx_in 223 (by decide +kernel) rfl) (rx_in 224 (by decide +kernel) rfl) (by decide) (by decide)) rx_n0))
theorem w_X9_init_c : Cond.code yX9_init cX9_init 1 none ∈ rx_WT := rx_in 333 (by decide +kernel) rfl
theorem w_X9_init_n : Cond.initialized yX9_init.cls ∈ rx_WT := rx_in 199 (by decide +kernel) rfl
theorem w_X9_init_i : Cond.instanceMethod yX9_init ∈ rx_WT := rx_in 332 (by decide +kernel) rfl
theorem w_X9_init_d : yX9_init.cls ≠ "java/lang/invoke/MethodHandle" ∧ yX9_init.cls ≠ "java/lang/invoke/VarHandle" ∧ (parseMethodDescriptor yX9_init.desc).map (fun d => d.parameters.length) = some 0 := by decide +kernel
def kd_X9_forget : List (Nat × List (Instr × Nat)) := [(0, [(.aload_n 0, 1), (.iconst 0, 1), (.putfield 20, 3), (.aload_n 0, 1), (.iconst 0, 1), (.putfield 24, 3), (.aload_n 0, 1), (.iconst 0, 1), (.putfield 27, 3), (.return_, 1)])]
def cf_X9_forget : Instr → Option rx_C := rx_lkc [] [] []
def f_X9_forget : rx_F := rx_fn (rx_lkk kC_X9) (rx_lkf fL_X9) (rx_lkf fP_X9) (rx_lkg gS_X9) (rx_lkg fG_X9) (rx_lkw nW_X9) cf_X9_forget none 0 0 1 kd_X9_forget rx_fu
theorem m_X9_forget (l : Launch) : rx_M l yX9_forget (Cond.code yX9_forget cX9_forget 1 none :: rx_WT) { frames := 0, cells := 0, slots := 0, locals := 0 } f_X9_forget := rx_met rx_fu (by decide +kernel) kC_X9_ok gS_X9_ok fG_X9_ok fL_X9_ok (fP_X9_ok _) nW_X9_ok rx_ar (by decide +kernel) (rx_lkc_of rx_n0 rx_n0 rx_n0)
theorem w_X9_forget_c : Cond.code yX9_forget cX9_forget 1 none ∈ rx_WT := rx_in 677 (by decide +kernel) rfl
theorem w_X9_forget_n : Cond.initialized yX9_forget.cls ∈ rx_WT := rx_in 199 (by decide +kernel) rfl
theorem w_X9_forget_i : Cond.instanceMethod yX9_forget ∈ rx_WT := rx_in 675 (by decide +kernel) rfl
theorem w_X9_forget_s : Cond.selects yX9_forget.cls yX9_forget yX9_forget ∈ rx_WT := rx_in 676 (by decide +kernel) rfl
theorem w_X9_forget_d : yX9_forget.cls ≠ "java/lang/invoke/MethodHandle" ∧ yX9_forget.cls ≠ "java/lang/invoke/VarHandle" ∧ (parseMethodDescriptor yX9_forget.desc).map (fun d => d.parameters.length) = some 0 := by decide +kernel
def kd_X9_outAt : List (Nat × List (Instr × Nat)) := [(0, [(.iload_n 1, 1), (.ifCond .lt 23, 3), (.iload_n 1, 1), (.sipush 1000, 3), (.if_icmp .ge 16, 3), (.aload_n 0, 1), (.getfield 17, 3), (.iload_n 1, 1), (.baload, 1), (.sipush 255, 3), (.iand, 1), (.goto 4, 3)]),
  (24, [(.iconst 0, 1)]),
  (25, [(.ireturn, 1)])]
def cf_X9_outAt : Instr → Option rx_C := rx_lkc [] [] []
def f_X9_outAt : rx_F := rx_fn (rx_lkk kC_X9) (rx_lkf fL_X9) (rx_lkf fP_X9) (rx_lkg gS_X9) (rx_lkg fG_X9) (rx_lkw nW_X9) cf_X9_outAt (some .int) 0 0 2 kd_X9_outAt rx_fu
theorem m_X9_outAt (l : Launch) : rx_M l yX9_outAt (Cond.code yX9_outAt cX9_outAt 2 (some .int) :: rx_WT) { frames := 0, cells := 0, slots := 0, locals := 0 } f_X9_outAt := rx_met rx_fu (by decide +kernel) kC_X9_ok gS_X9_ok fG_X9_ok fL_X9_ok (fP_X9_ok _) nW_X9_ok rx_ar (by decide +kernel) (rx_lkc_of rx_n0 rx_n0 rx_n0)
theorem w_X9_outAt_c : Cond.code yX9_outAt cX9_outAt 2 (some .int) ∈ rx_WT := rx_in 1603 (by decide +kernel) rfl
theorem w_X9_outAt_n : Cond.initialized yX9_outAt.cls ∈ rx_WT := rx_in 199 (by decide +kernel) rfl
theorem w_X9_outAt_i : Cond.instanceMethod yX9_outAt ∈ rx_WT := rx_in 1601 (by decide +kernel) rfl
theorem w_X9_outAt_s : Cond.selects yX9_outAt.cls yX9_outAt yX9_outAt ∈ rx_WT := rx_in 1602 (by decide +kernel) rfl
theorem w_X9_outAt_d : yX9_outAt.cls ≠ "java/lang/invoke/MethodHandle" ∧ yX9_outAt.cls ≠ "java/lang/invoke/VarHandle" ∧ (parseMethodDescriptor yX9_outAt.desc).map (fun d => d.parameters.length) = some 1 := by decide +kernel
def kd_X10_part : List (Nat × List (Instr × Nat)) := [(0, [(.iload_n 2, 1), (.tableswitch 48 0 2 #[27, 32, 35], 27)]),
  (28, [(.lload_n 0, 1), (.invokestatic 40, 3), (.ireturn, 1)]),
  (33, [(.lload_n 0, 1), (.l2i, 1), (.ireturn, 1)]),
  (36, [(.lload_n 0, 1), (.invokestatic 44, 3), (.ifCond .eq 7, 3), (.iconst 1, 1), (.goto 4, 3)]),
  (47, [(.iconst 0, 1)]),
  (48, [(.ireturn, 1)]),
  (49, [(.lload_n 0, 1), (.invokestatic 48, 3), (.ireturn, 1)])]
def cf_X10_part : Instr → Option rx_C := rx_lkc [] [(40, (1, none, 0, 0, f_X10_kind)), (44, (1, none, 0, 0, f_X10_isExecutable)), (48, (1, none, 0, 0, f_X10_length))] []
def f_X10_part : rx_F := rx_fn (rx_lkk kC_X10) (rx_lkf fL_X10) (rx_lkf fP_X10) (rx_lkg gS_X10) (rx_lkg fG_X10) (rx_lkw nW_X10) cf_X10_part (some .int) 0 0 3 kd_X10_part rx_fu
theorem m_X10_part (l : Launch) : rx_M l yX10_part (Cond.code yX10_part cX10_part 3 (some .int) :: rx_WT) { frames := 1, cells := 0, slots := 0, locals := 21 } f_X10_part := rx_met rx_fu (by decide +kernel) kC_X10_ok gS_X10_ok fG_X10_ok fL_X10_ok (fP_X10_ok _) nW_X10_ok rx_ar (by decide +kernel) (rx_lkc_of rx_n0 (rx_n1 (rx_caS 1 (m_X10_kind l) w_X10_kind_c w_X10_kind_n (rx_in 1541 (by decide +kernel) rfl) w_X10_kind_t w_X10_kind_d (by decide)) (rx_n1 (rx_caS 1 (m_X10_isExecutable l) w_X10_isExecutable_c w_X10_isExecutable_n (rx_in 1542 (by decide +kernel) rfl) w_X10_isExecutable_t w_X10_isExecutable_d (by decide)) (rx_n1 (rx_caS 1 (m_X10_length l) w_X10_length_c w_X10_length_n (rx_in 1543 (by decide +kernel) rfl) w_X10_length_t w_X10_length_d (by decide)) rx_n0))) rx_n0)
theorem w_X10_part_c : Cond.code yX10_part cX10_part 3 (some .int) ∈ rx_WT := rx_in 1540 (by decide +kernel) rfl
theorem w_X10_part_n : Cond.initialized yX10_part.cls ∈ rx_WT := rx_in 201 (by decide +kernel) rfl
theorem w_X10_part_t : Cond.static yX10_part ∈ rx_WT := rx_in 1539 (by decide +kernel) rfl
theorem w_X10_part_d : yX10_part.cls ≠ "java/lang/invoke/MethodHandle" ∧ yX10_part.cls ≠ "java/lang/invoke/VarHandle" ∧ (parseMethodDescriptor yX10_part.desc).map (fun d => d.parameters.length) = some 2 := by decide +kernel
def kd_X11_init : List (Nat × List (Instr × Nat)) := [(0, [(.aload_n 0, 1), (.invokespecial 1, 3), (.aload_n 0, 1), (.new 7, 3), (.dup, 1), (.invokespecial 9, 3), (.putfield 10, 3), (.aload_n 0, 1), (.new 16, 3), (.dup, 1), (.invokespecial 18, 3), (.putfield 19, 3), (.aload_n 0, 1), (.new 23, 3), (.dup, 1), (.invokespecial 25, 3), (.putfield 26, 3), (.aload_n 0, 1), (.new 30, 3), (.dup, 1), (.invokespecial 32, 3), (.putfield 33, 3), (.aload_n 0, 1), (.new 37, 3), (.dup, 1), (.aload_n 0, 1), (.getfield 10, 3), (.aload_n 0, 1), (.getfield 19, 3), (.invokespecial 39, 3), (.putfield 42, 3), (.aload_n 0, 1), (.new 46, 3), (.dup, 1), (.aload_n 0, 1), (.getfield 10, 3), (.aload_n 0, 1), (.getfield 19, 3), (.aload_n 0, 1), (.getfield 26, 3), (.aload_n 0, 1), (.getfield 33, 3), (.aload_n 0, 1), (.getfield 42, 3), (.invokespecial 48, 3), (.putfield 51, 3), (.return_, 1)])]
def cf_X11_init : Instr → Option rx_C := rx_lkc [] [] [(1, (1, none, 0, 0, rx_F0)), (9, (1, some 4, 3, 480, f_X4_init)), (18, (1, some 9, 3, 2200, f_X9_init)), (25, (1, some 0, 6, 1302, f_X0_init)), (32, (1, some 5, 2, 120, f_X5_init)), (39, (3, some 7, 4, 908, f_X7_init)), (48, (6, some 3, 13, 3144, f_X3_init))]
def f_X11_init : rx_F := rx_fn (rx_lkk kC_X11) (rx_lkf fL_X11) (rx_lkf fI_X11) (rx_lkg gS_X11) (rx_lkg fG_X11) (rx_lkw nW_X11) cf_X11_init none 37 8207 1 kd_X11_init rx_fu
theorem m_X11_init (l : Launch) : rx_M l yX11_init (Cond.code yX11_init cX11_init 1 none :: rx_WT) { frames := 7, cells := 37, slots := 8207, locals := 149 } f_X11_init := rx_met rx_fu (by decide +kernel) kC_X11_ok gS_X11_ok fG_X11_ok fL_X11_ok fI_X11_ok nW_X11_ok rx_ar (by decide +kernel) (rx_lkc_of rx_n0 rx_n0 (rx_n1 (rx_caO (rx_in 222 (by decide +kernel) rfl) (rx_in 223 (by decide +kernel) rfl) (rx_in 224 (by decide +kernel) rfl) (by decide) (by decide)) (rx_n1 (rx_caI 0 (m_X4_init l) w_X4_init_c w_X4_init_n (rx_in 227 (by decide +kernel) rfl) w_X4_init_i rfl w_X4_init_d (by decide) 4) (rx_n1 (rx_caN (host := "OperandStacks") 0 (m_X9_init l) w_X9_init_c w_X9_init_n (by decide +kernel) w_X9_init_i rfl w_X9_init_d (by decide) 9) (rx_n1 (rx_caI 0 (m_X0_init l) w_X0_init_c w_X0_init_n (rx_in 360 (by decide +kernel) rfl) w_X0_init_i rfl w_X0_init_d (by decide) 0) (rx_n1 (rx_caN (host := "OperandStacks") 0 (m_X5_init l) w_X5_init_c w_X5_init_n (by decide +kernel) w_X5_init_i rfl w_X5_init_d (by decide) 5) (rx_n1 (rx_caI 2 (m_X7_init l) w_X7_init_c w_X7_init_n (rx_in 438 (by decide +kernel) rfl) w_X7_init_i rfl w_X7_init_d (by decide) 7) (rx_n1 (rx_caI 5 (m_X3_init l) w_X3_init_c w_X3_init_n (rx_in 481 (by decide +kernel) rfl) w_X3_init_i rfl w_X3_init_d (by decide) 3) rx_n0))))))))
theorem w_X11_init_c : Cond.code yX11_init cX11_init 1 none ∈ rx_WT := rx_in 221 (by decide +kernel) rfl
theorem w_X11_init_n : Cond.initialized yX11_init.cls ∈ rx_WT := rx_in 193 (by decide +kernel) rfl
theorem w_X11_init_i : Cond.instanceMethod yX11_init ∈ rx_WT := rx_in 220 (by decide +kernel) rfl
theorem w_X11_init_d : yX11_init.cls ≠ "java/lang/invoke/MethodHandle" ∧ yX11_init.cls ≠ "java/lang/invoke/VarHandle" ∧ (parseMethodDescriptor yX11_init.desc).map (fun d => d.parameters.length) = some 0 := by decide +kernel
def kd_X11_type : List (Nat × List (Instr × Nat)) := [(0, [(.aload_n 0, 1), (.getfield 42, 3), (.lload_n 1, 1), (.iload_n 3, 1), (.invokevirtual 55, 3), (.ireturn, 1)])]
def cf_X11_type : Instr → Option rx_C := rx_lkc [(55, (3, some 7, 0, 0, f_X7_append))] [] []
def f_X11_type : rx_F := rx_fn (rx_lkk kC_X11) (rx_lkf fL_X11) (rx_lkf fP_X11) (rx_lkg gS_X11) (rx_lkg fG_X11) (rx_lkw nW_X11) cf_X11_type (some .boolean) 0 0 4 kd_X11_type rx_fu
theorem m_X11_type (l : Launch) : rx_M l yX11_type (Cond.code yX11_type cX11_type 4 (some .boolean) :: rx_WT) { frames := 1, cells := 0, slots := 0, locals := 24 } f_X11_type := rx_met rx_fu (by decide +kernel) kC_X11_ok gS_X11_ok fG_X11_ok fL_X11_ok (fP_X11_ok _) nW_X11_ok rx_ar (by decide +kernel) (rx_lkc_of (rx_n1 (rx_caV 2 7 (m_X7_append l) w_X7_append_c w_X7_append_n (rx_in 662 (by decide +kernel) rfl) w_X7_append_i w_X7_append_s w_X7_append_d (by decide) rfl rfl) rx_n0) rx_n0 rx_n0)
theorem w_X11_type_c : Cond.code yX11_type cX11_type 4 (some .boolean) ∈ rx_WT := rx_in 661 (by decide +kernel) rfl
theorem w_X11_type_n : Cond.initialized yX11_type.cls ∈ rx_WT := rx_in 193 (by decide +kernel) rfl
theorem w_X11_type_i : Cond.instanceMethod yX11_type ∈ rx_WT := rx_in 659 (by decide +kernel) rfl
theorem w_X11_type_s : Cond.selects yX11_type.cls yX11_type yX11_type ∈ rx_WT := rx_in 660 (by decide +kernel) rfl
theorem w_X11_type_d : yX11_type.cls ≠ "java/lang/invoke/MethodHandle" ∧ yX11_type.cls ≠ "java/lang/invoke/VarHandle" ∧ (parseMethodDescriptor yX11_type.desc).map (fun d => d.parameters.length) = some 2 := by decide +kernel
def kd_X11_run : List (Nat × List (Instr × Nat)) := [(0, [(.iload_n 1, 1), (.ifCond .lt 10, 3), (.iload_n 1, 1), (.sipush 1000, 3), (.if_icmp .le 13, 3)]),
  (11, [(.new 59, 3), (.dup, 1), (.ldc 61, 2), (.invokespecial 63, 3), (.athrow, 1)]),
  (21, [(.aload_n 0, 1), (.getfield 51, 3), (.iload_n 1, 1), (.invokevirtual 66, 3), (.iconst 0, 1), (.istore_n 2, 1)]),
  (31, [(.iload_n 2, 1), (.ldc 70, 2), (.if_icmp .ge 27, 3), (.aload_n 0, 1), (.getfield 51, 3), (.getfield 71, 3), (.iconst (-1), 1), (.if_icmp .ne 16, 3), (.aload_n 0, 1), (.getfield 51, 3), (.invokevirtual 75, 3), (.iinc 2 1, 3), (.goto (-27), 3)]),
  (61, [(.aload_n 0, 1), (.getfield 42, 3), (.invokevirtual 78, 3), (.aload_n 0, 1), (.getfield 51, 3), (.getfield 71, 3), (.ireturn, 1)])]
def cf_X11_run : Instr → Option rx_C := rx_lkc [(66, (2, some 3, 0, 0, f_X3_begin)), (75, (1, some 3, 0, 0, f_X3_takeTurn)), (78, (1, some 7, 0, 0, f_X7_discard))] [] []
def f_X11_run : rx_F := rx_fn (rx_lkk kC_X11) (rx_lkf fL_X11) (rx_lkf fP_X11) (rx_lkg gS_X11) (rx_lkg fG_X11) (rx_lkw nW_X11) cf_X11_run (some .int) 0 0 3 kd_X11_run rx_fu
theorem m_X11_run (l : Launch) : rx_M l yX11_run (Cond.code yX11_run cX11_run 3 (some .int) :: rx_WT) { frames := 11, cells := 0, slots := 0, locals := 235 } f_X11_run := rx_met rx_fu (by decide +kernel) kC_X11_ok gS_X11_ok fG_X11_ok fL_X11_ok (fP_X11_ok _) nW_X11_ok rx_ar (by decide +kernel) (rx_lkc_of (rx_n1 (rx_caV 1 3 (m_X3_begin l) w_X3_begin_c w_X3_begin_n (rx_in 758 (by decide +kernel) rfl) w_X3_begin_i w_X3_begin_s w_X3_begin_d (by decide) rfl rfl) (rx_n1 (rx_caV 0 3 (m_X3_takeTurn l) w_X3_takeTurn_c w_X3_takeTurn_n (rx_in 768 (by decide +kernel) rfl) w_X3_takeTurn_i w_X3_takeTurn_s w_X3_takeTurn_d (by decide) rfl rfl) (rx_n1 (rx_caV 0 7 (m_X7_discard l) w_X7_discard_c w_X7_discard_n (rx_in 1500 (by decide +kernel) rfl) w_X7_discard_i w_X7_discard_s w_X7_discard_d (by decide) rfl rfl) rx_n0))) rx_n0 rx_n0)
theorem w_X11_run_c : Cond.code yX11_run cX11_run 3 (some .int) ∈ rx_WT := rx_in 691 (by decide +kernel) rfl
theorem w_X11_run_n : Cond.initialized yX11_run.cls ∈ rx_WT := rx_in 193 (by decide +kernel) rfl
theorem w_X11_run_i : Cond.instanceMethod yX11_run ∈ rx_WT := rx_in 689 (by decide +kernel) rfl
theorem w_X11_run_s : Cond.selects yX11_run.cls yX11_run yX11_run ∈ rx_WT := rx_in 690 (by decide +kernel) rfl
theorem w_X11_run_d : yX11_run.cls ≠ "java/lang/invoke/MethodHandle" ∧ yX11_run.cls ≠ "java/lang/invoke/VarHandle" ∧ (parseMethodDescriptor yX11_run.desc).map (fun d => d.parameters.length) = some 1 := by decide +kernel
def kd_X11_reset : List (Nat × List (Instr × Nat)) := [(0, [(.aload_n 0, 1), (.getfield 10, 3), (.invokevirtual 81, 3), (.aload_n 0, 1), (.getfield 19, 3), (.invokevirtual 84, 3), (.aload_n 0, 1), (.getfield 26, 3), (.invokevirtual 85, 3), (.aload_n 0, 1), (.getfield 33, 3), (.invokevirtual 86, 3), (.aload_n 0, 1), (.getfield 51, 3), (.invokevirtual 87, 3), (.return_, 1)])]
def cf_X11_reset : Instr → Option rx_C := rx_lkc [(81, (1, some 4, 0, 0, f_X4_forget)), (84, (1, some 9, 0, 0, f_X9_forget)), (85, (1, some 0, 0, 0, f_X0_forget)), (86, (1, some 5, 0, 0, f_X5_forget)), (87, (1, some 3, 0, 0, f_X3_forget))] [] []
def f_X11_reset : rx_F := rx_fn (rx_lkk kC_X11) (rx_lkf fL_X11) (rx_lkf fP_X11) (rx_lkg gS_X11) (rx_lkg fG_X11) (rx_lkw nW_X11) cf_X11_reset none 0 0 1 kd_X11_reset rx_fu
theorem m_X11_reset (l : Launch) : rx_M l yX11_reset (Cond.code yX11_reset cX11_reset 1 none :: rx_WT) { frames := 2, cells := 0, slots := 0, locals := 41 } f_X11_reset := rx_met rx_fu (by decide +kernel) kC_X11_ok gS_X11_ok fG_X11_ok fL_X11_ok (fP_X11_ok _) nW_X11_ok rx_ar (by decide +kernel) (rx_lkc_of (rx_n1 (rx_caV 0 4 (m_X4_forget l) w_X4_forget_c w_X4_forget_n (rx_in 670 (by decide +kernel) rfl) w_X4_forget_i w_X4_forget_s w_X4_forget_d (by decide) rfl rfl) (rx_n1 (rx_caV 0 9 (m_X9_forget l) w_X9_forget_c w_X9_forget_n (rx_in 674 (by decide +kernel) rfl) w_X9_forget_i w_X9_forget_s w_X9_forget_d (by decide) rfl rfl) (rx_n1 (rx_caV 0 0 (m_X0_forget l) w_X0_forget_c w_X0_forget_n (rx_in 678 (by decide +kernel) rfl) w_X0_forget_i w_X0_forget_s w_X0_forget_d (by decide) rfl rfl) (rx_n1 (rx_caV 0 5 (m_X5_forget l) w_X5_forget_c w_X5_forget_n (rx_in 679 (by decide +kernel) rfl) w_X5_forget_i w_X5_forget_s w_X5_forget_d (by decide) rfl rfl) (rx_n1 (rx_caV 0 3 (m_X3_forget l) w_X3_forget_c w_X3_forget_n (rx_in 683 (by decide +kernel) rfl) w_X3_forget_i w_X3_forget_s w_X3_forget_d (by decide) rfl rfl) rx_n0))))) rx_n0 rx_n0)
theorem w_X11_reset_c : Cond.code yX11_reset cX11_reset 1 none ∈ rx_WT := rx_in 669 (by decide +kernel) rfl
theorem w_X11_reset_n : Cond.initialized yX11_reset.cls ∈ rx_WT := rx_in 193 (by decide +kernel) rfl
theorem w_X11_reset_i : Cond.instanceMethod yX11_reset ∈ rx_WT := rx_in 667 (by decide +kernel) rfl
theorem w_X11_reset_s : Cond.selects yX11_reset.cls yX11_reset yX11_reset ∈ rx_WT := rx_in 668 (by decide +kernel) rfl
theorem w_X11_reset_d : yX11_reset.cls ≠ "java/lang/invoke/MethodHandle" ∧ yX11_reset.cls ≠ "java/lang/invoke/VarHandle" ∧ (parseMethodDescriptor yX11_reset.desc).map (fun d => d.parameters.length) = some 0 := by decide +kernel
def kd_X11_count : List (Nat × List (Instr × Nat)) := [(0, [(.iload_n 1, 1), (.tableswitch 111 0 7 #[47, 55, 63, 71, 79, 87, 95, 103], 47)]),
  (48, [(.aload_n 0, 1), (.getfield 33, 3), (.getfield 88, 3), (.ireturn, 1)]),
  (56, [(.aload_n 0, 1), (.getfield 26, 3), (.getfield 91, 3), (.ireturn, 1)]),
  (64, [(.aload_n 0, 1), (.getfield 19, 3), (.getfield 94, 3), (.ireturn, 1)]),
  (72, [(.aload_n 0, 1), (.getfield 51, 3), (.getfield 97, 3), (.ireturn, 1)]),
  (80, [(.aload_n 0, 1), (.getfield 10, 3), (.getfield 100, 3), (.ireturn, 1)]),
  (88, [(.aload_n 0, 1), (.getfield 19, 3), (.getfield 103, 3), (.ireturn, 1)]),
  (96, [(.aload_n 0, 1), (.getfield 19, 3), (.getfield 106, 3), (.ireturn, 1)]),
  (104, [(.aload_n 0, 1), (.getfield 26, 3), (.getfield 109, 3), (.ireturn, 1)]),
  (112, [(.new 59, 3), (.dup, 1), (.ldc 112, 2), (.invokespecial 63, 3), (.athrow, 1)])]
def cf_X11_count : Instr → Option rx_C := rx_lkc [] [] []
def f_X11_count : rx_F := rx_fn (rx_lkk kC_X11) (rx_lkf fL_X11) (rx_lkf fP_X11) (rx_lkg gS_X11) (rx_lkg fG_X11) (rx_lkw nW_X11) cf_X11_count (some .int) 0 0 2 kd_X11_count rx_fu
theorem m_X11_count (l : Launch) : rx_M l yX11_count (Cond.code yX11_count cX11_count 2 (some .int) :: rx_WT) { frames := 0, cells := 0, slots := 0, locals := 0 } f_X11_count := rx_met rx_fu (by decide +kernel) kC_X11_ok gS_X11_ok fG_X11_ok fL_X11_ok (fP_X11_ok _) nW_X11_ok rx_ar (by decide +kernel) (rx_lkc_of rx_n0 rx_n0 rx_n0)
theorem w_X11_count_c : Cond.code yX11_count cX11_count 2 (some .int) ∈ rx_WT := rx_in 1510 (by decide +kernel) rfl
theorem w_X11_count_n : Cond.initialized yX11_count.cls ∈ rx_WT := rx_in 193 (by decide +kernel) rfl
theorem w_X11_count_i : Cond.instanceMethod yX11_count ∈ rx_WT := rx_in 1508 (by decide +kernel) rfl
theorem w_X11_count_s : Cond.selects yX11_count.cls yX11_count yX11_count ∈ rx_WT := rx_in 1509 (by decide +kernel) rfl
theorem w_X11_count_d : yX11_count.cls ≠ "java/lang/invoke/MethodHandle" ∧ yX11_count.cls ≠ "java/lang/invoke/VarHandle" ∧ (parseMethodDescriptor yX11_count.desc).map (fun d => d.parameters.length) = some 1 := by decide +kernel
def kd_X11_at : List (Nat × List (Instr × Nat)) := [(0, [(.iload_n 1, 1), (.ifCond .lt 14, 3), (.iload_n 1, 1), (.aload_n 0, 1), (.getfield 33, 3), (.getfield 88, 3), (.if_icmp .lt 13, 3)]),
  (15, [(.new 114, 3), (.dup, 1), (.ldc 116, 2), (.invokespecial 118, 3), (.athrow, 1)]),
  (25, [(.iload_n 2, 1), (.ifCond .lt 8, 3), (.iload_n 2, 1), (.iconst 3, 1), (.if_icmp .le 13, 3)]),
  (34, [(.new 59, 3), (.dup, 1), (.ldc 119, 2), (.invokespecial 63, 3), (.athrow, 1)]),
  (44, [(.aload_n 0, 1), (.getfield 33, 3), (.iload_n 1, 1), (.invokevirtual 121, 3), (.iload_n 2, 1), (.invokestatic 125, 3), (.ireturn, 1)])]
def cf_X11_at : Instr → Option rx_C := rx_lkc [(121, (2, some 5, 0, 0, f_X5_top))] [(125, (2, none, 0, 0, f_X10_part))] []
def f_X11_at : rx_F := rx_fn (rx_lkk kC_X11) (rx_lkf fL_X11) (rx_lkf fP_X11) (rx_lkg gS_X11) (rx_lkg fG_X11) (rx_lkw nW_X11) cf_X11_at (some .int) 0 0 3 kd_X11_at rx_fu
theorem m_X11_at (l : Launch) : rx_M l yX11_at (Cond.code yX11_at cX11_at 3 (some .int) :: rx_WT) { frames := 2, cells := 0, slots := 0, locals := 43 } f_X11_at := rx_met rx_fu (by decide +kernel) kC_X11_ok gS_X11_ok fG_X11_ok fL_X11_ok (fP_X11_ok _) nW_X11_ok rx_ar (by decide +kernel) (rx_lkc_of (rx_n1 (rx_caV 1 5 (m_X5_top l) w_X5_top_c w_X5_top_n (rx_in 1537 (by decide +kernel) rfl) w_X5_top_i w_X5_top_s w_X5_top_d (by decide) rfl rfl) rx_n0) (rx_n1 (rx_caS 2 (m_X10_part l) w_X10_part_c w_X10_part_n (rx_in 1538 (by decide +kernel) rfl) w_X10_part_t w_X10_part_d (by decide)) rx_n0) rx_n0)
theorem w_X11_at_c : Cond.code yX11_at cX11_at 3 (some .int) ∈ rx_WT := rx_in 1519 (by decide +kernel) rfl
theorem w_X11_at_n : Cond.initialized yX11_at.cls ∈ rx_WT := rx_in 193 (by decide +kernel) rfl
theorem w_X11_at_i : Cond.instanceMethod yX11_at ∈ rx_WT := rx_in 1517 (by decide +kernel) rfl
theorem w_X11_at_s : Cond.selects yX11_at.cls yX11_at yX11_at ∈ rx_WT := rx_in 1518 (by decide +kernel) rfl
theorem w_X11_at_d : yX11_at.cls ≠ "java/lang/invoke/MethodHandle" ∧ yX11_at.cls ≠ "java/lang/invoke/VarHandle" ∧ (parseMethodDescriptor yX11_at.desc).map (fun d => d.parameters.length) = some 2 := by decide +kernel
def kd_X11_value : List (Nat × List (Instr × Nat)) := [(0, [(.iload_n 1, 1), (.ifCond .lt 14, 3), (.iload_n 1, 1), (.aload_n 0, 1), (.getfield 19, 3), (.getfield 103, 3), (.if_icmp .lt 13, 3)]),
  (15, [(.new 114, 3), (.dup, 1), (.ldc 131, 2), (.invokespecial 118, 3), (.athrow, 1)]),
  (25, [(.iload_n 2, 1), (.ifCond .lt 8, 3), (.iload_n 2, 1), (.iconst 3, 1), (.if_icmp .le 13, 3)]),
  (34, [(.new 59, 3), (.dup, 1), (.ldc 119, 2), (.invokespecial 63, 3), (.athrow, 1)]),
  (44, [(.aload_n 0, 1), (.getfield 19, 3), (.iload_n 1, 1), (.invokevirtual 133, 3), (.iload_n 2, 1), (.invokestatic 125, 3), (.ireturn, 1)])]
def cf_X11_value : Instr → Option rx_C := rx_lkc [(133, (2, some 9, 0, 0, f_X9_cell))] [(125, (2, none, 0, 0, f_X10_part))] []
def f_X11_value : rx_F := rx_fn (rx_lkk kC_X11) (rx_lkf fL_X11) (rx_lkf fP_X11) (rx_lkg gS_X11) (rx_lkg fG_X11) (rx_lkw nW_X11) cf_X11_value (some .int) 0 0 3 kd_X11_value rx_fu
theorem m_X11_value (l : Launch) : rx_M l yX11_value (Cond.code yX11_value cX11_value 3 (some .int) :: rx_WT) { frames := 2, cells := 0, slots := 0, locals := 43 } f_X11_value := rx_met rx_fu (by decide +kernel) kC_X11_ok gS_X11_ok fG_X11_ok fL_X11_ok (fP_X11_ok _) nW_X11_ok rx_ar (by decide +kernel) (rx_lkc_of (rx_n1 (rx_caV 1 9 (m_X9_cell l) w_X9_cell_c w_X9_cell_n (rx_in 1552 (by decide +kernel) rfl) w_X9_cell_i w_X9_cell_s w_X9_cell_d (by decide) rfl rfl) rx_n0) (rx_n1 (rx_caS 2 (m_X10_part l) w_X10_part_c w_X10_part_n (rx_in 1538 (by decide +kernel) rfl) w_X10_part_t w_X10_part_d (by decide)) rx_n0) rx_n0)
theorem w_X11_value_c : Cond.code yX11_value cX11_value 3 (some .int) ∈ rx_WT := rx_in 1550 (by decide +kernel) rfl
theorem w_X11_value_n : Cond.initialized yX11_value.cls ∈ rx_WT := rx_in 193 (by decide +kernel) rfl
theorem w_X11_value_i : Cond.instanceMethod yX11_value ∈ rx_WT := rx_in 1548 (by decide +kernel) rfl
theorem w_X11_value_s : Cond.selects yX11_value.cls yX11_value yX11_value ∈ rx_WT := rx_in 1549 (by decide +kernel) rfl
theorem w_X11_value_d : yX11_value.cls ≠ "java/lang/invoke/MethodHandle" ∧ yX11_value.cls ≠ "java/lang/invoke/VarHandle" ∧ (parseMethodDescriptor yX11_value.desc).map (fun d => d.parameters.length) = some 2 := by decide +kernel
def kd_X11_octet : List (Nat × List (Instr × Nat)) := [(0, [(.iload_n 1, 1), (.ifCond .lt 14, 3), (.iload_n 1, 1), (.aload_n 0, 1), (.getfield 19, 3), (.getfield 106, 3), (.if_icmp .lt 13, 3)]),
  (15, [(.new 114, 3), (.dup, 1), (.ldc 136, 2), (.invokespecial 118, 3), (.athrow, 1)]),
  (25, [(.aload_n 0, 1), (.getfield 19, 3), (.iload_n 1, 1), (.invokevirtual 138, 3), (.ireturn, 1)])]
def cf_X11_octet : Instr → Option rx_C := rx_lkc [(138, (2, some 9, 0, 0, f_X9_octetAt))] [] []
def f_X11_octet : rx_F := rx_fn (rx_lkk kC_X11) (rx_lkf fL_X11) (rx_lkf fP_X11) (rx_lkg gS_X11) (rx_lkg fG_X11) (rx_lkw nW_X11) cf_X11_octet (some .int) 0 0 2 kd_X11_octet rx_fu
theorem m_X11_octet (l : Launch) : rx_M l yX11_octet (Cond.code yX11_octet cX11_octet 2 (some .int) :: rx_WT) { frames := 1, cells := 0, slots := 0, locals := 21 } f_X11_octet := rx_met rx_fu (by decide +kernel) kC_X11_ok gS_X11_ok fG_X11_ok fL_X11_ok (fP_X11_ok _) nW_X11_ok rx_ar (by decide +kernel) (rx_lkc_of (rx_n1 (rx_caV 1 9 (m_X9_octetAt l) w_X9_octetAt_c w_X9_octetAt_n (rx_in 1561 (by decide +kernel) rfl) w_X9_octetAt_i w_X9_octetAt_s w_X9_octetAt_d (by decide) rfl rfl) rx_n0) rx_n0 rx_n0)
theorem w_X11_octet_c : Cond.code yX11_octet cX11_octet 2 (some .int) ∈ rx_WT := rx_in 1559 (by decide +kernel) rfl
theorem w_X11_octet_n : Cond.initialized yX11_octet.cls ∈ rx_WT := rx_in 193 (by decide +kernel) rfl
theorem w_X11_octet_i : Cond.instanceMethod yX11_octet ∈ rx_WT := rx_in 1557 (by decide +kernel) rfl
theorem w_X11_octet_s : Cond.selects yX11_octet.cls yX11_octet yX11_octet ∈ rx_WT := rx_in 1558 (by decide +kernel) rfl
theorem w_X11_octet_d : yX11_octet.cls ≠ "java/lang/invoke/MethodHandle" ∧ yX11_octet.cls ≠ "java/lang/invoke/VarHandle" ∧ (parseMethodDescriptor yX11_octet.desc).map (fun d => d.parameters.length) = some 1 := by decide +kernel
def kd_X11_dictionary : List (Nat × List (Instr × Nat)) := [(0, [(.iload_n 1, 1), (.ifCond .lt 32, 3), (.iload_n 1, 1), (.aload_n 0, 1), (.getfield 26, 3), (.getfield 109, 3), (.if_icmp .ge 21, 3), (.iload_n 2, 1), (.bipush (-2), 2), (.if_icmp .lt 15, 3), (.iload_n 2, 1), (.aload_n 0, 1), (.getfield 26, 3), (.iload_n 1, 1), (.invokevirtual 142, 3), (.if_icmp .lt 13, 3)]),
  (33, [(.new 114, 3), (.dup, 1), (.ldc 145, 2), (.invokespecial 118, 3), (.athrow, 1)]),
  (43, [(.iload_n 2, 1), (.iconst (-1), 1), (.if_icmp .ne 12, 3), (.aload_n 0, 1), (.getfield 26, 3), (.iload_n 1, 1), (.invokevirtual 147, 3), (.ireturn, 1)]),
  (57, [(.iload_n 2, 1), (.bipush (-2), 2), (.if_icmp .ne 12, 3), (.aload_n 0, 1), (.getfield 26, 3), (.iload_n 1, 1), (.invokevirtual 142, 3), (.ireturn, 1)]),
  (72, [(.iload_n 3, 1), (.ifCond .lt 8, 3), (.iload_n 3, 1), (.iconst 3, 1), (.if_icmp .le 13, 3)]),
  (81, [(.new 59, 3), (.dup, 1), (.ldc 119, 2), (.invokespecial 63, 3), (.athrow, 1)]),
  (91, [(.iload_n 3, 1), (.iconst 2, 1), (.if_icmp .ge 15, 3), (.aload_n 0, 1), (.getfield 26, 3), (.iload_n 1, 1), (.iload_n 2, 1), (.invokevirtual 150, 3), (.goto 12, 3)]),
  (108, [(.aload_n 0, 1), (.getfield 26, 3), (.iload_n 1, 1), (.iload_n 2, 1), (.invokevirtual 154, 3)]),
  (117, [(.iload_n 3, 1), (.iconst 1, 1), (.iand, 1), (.invokestatic 125, 3), (.ireturn, 1)])]
def cf_X11_dictionary : Instr → Option rx_C := rx_lkc [(142, (2, some 0, 0, 0, f_X0_pairsOf)), (147, (2, some 0, 0, 0, f_X0_roomOf)), (150, (3, some 0, 0, 0, f_X0_keyAt)), (154, (3, some 0, 0, 0, f_X0_valueAt))] [(125, (2, none, 0, 0, f_X10_part))] []
def f_X11_dictionary : rx_F := rx_fn (rx_lkk kC_X11) (rx_lkf fL_X11) (rx_lkf fP_X11) (rx_lkg gS_X11) (rx_lkg fG_X11) (rx_lkw nW_X11) cf_X11_dictionary (some .int) 0 0 4 kd_X11_dictionary rx_fu
theorem m_X11_dictionary (l : Launch) : rx_M l yX11_dictionary (Cond.code yX11_dictionary cX11_dictionary 4 (some .int) :: rx_WT) { frames := 2, cells := 0, slots := 0, locals := 43 } f_X11_dictionary := rx_met rx_fu (by decide +kernel) kC_X11_ok gS_X11_ok fG_X11_ok fL_X11_ok (fP_X11_ok _) nW_X11_ok rx_ar (by decide +kernel) (rx_lkc_of (rx_n1 (rx_caV 1 0 (m_X0_pairsOf l) w_X0_pairsOf_c w_X0_pairsOf_n (rx_in 1569 (by decide +kernel) rfl) w_X0_pairsOf_i w_X0_pairsOf_s w_X0_pairsOf_d (by decide) rfl rfl) (rx_n1 (rx_caV 1 0 (m_X0_roomOf l) w_X0_roomOf_c w_X0_roomOf_n (rx_in 1571 (by decide +kernel) rfl) w_X0_roomOf_i w_X0_roomOf_s w_X0_roomOf_d (by decide) rfl rfl) (rx_n1 (rx_caV 2 0 (m_X0_keyAt l) w_X0_keyAt_c w_X0_keyAt_n (rx_in 1572 (by decide +kernel) rfl) w_X0_keyAt_i w_X0_keyAt_s w_X0_keyAt_d (by decide) rfl rfl) (rx_n1 (rx_caV 2 0 (m_X0_valueAt l) w_X0_valueAt_c w_X0_valueAt_n (rx_in 1573 (by decide +kernel) rfl) w_X0_valueAt_i w_X0_valueAt_s w_X0_valueAt_d (by decide) rfl rfl) rx_n0)))) (rx_n1 (rx_caS 2 (m_X10_part l) w_X10_part_c w_X10_part_n (rx_in 1538 (by decide +kernel) rfl) w_X10_part_t w_X10_part_d (by decide)) rx_n0) rx_n0)
theorem w_X11_dictionary_c : Cond.code yX11_dictionary cX11_dictionary 4 (some .int) ∈ rx_WT := rx_in 1568 (by decide +kernel) rfl
theorem w_X11_dictionary_n : Cond.initialized yX11_dictionary.cls ∈ rx_WT := rx_in 193 (by decide +kernel) rfl
theorem w_X11_dictionary_i : Cond.instanceMethod yX11_dictionary ∈ rx_WT := rx_in 1566 (by decide +kernel) rfl
theorem w_X11_dictionary_s : Cond.selects yX11_dictionary.cls yX11_dictionary yX11_dictionary ∈ rx_WT := rx_in 1567 (by decide +kernel) rfl
theorem w_X11_dictionary_d : yX11_dictionary.cls ≠ "java/lang/invoke/MethodHandle" ∧ yX11_dictionary.cls ≠ "java/lang/invoke/VarHandle" ∧ (parseMethodDescriptor yX11_dictionary.desc).map (fun d => d.parameters.length) = some 3 := by decide +kernel
def kd_X11_name : List (Nat × List (Instr × Nat)) := [(0, [(.iload_n 1, 1), (.ifCond .lt 31, 3), (.iload_n 1, 1), (.aload_n 0, 1), (.getfield 10, 3), (.getfield 100, 3), (.if_icmp .ge 20, 3), (.iload_n 2, 1), (.iconst (-1), 1), (.if_icmp .lt 15, 3), (.iload_n 2, 1), (.aload_n 0, 1), (.getfield 10, 3), (.iload_n 1, 1), (.invokevirtual 157, 3), (.if_icmp .lt 13, 3)]),
  (32, [(.new 114, 3), (.dup, 1), (.ldc 160, 2), (.invokespecial 118, 3), (.athrow, 1)]),
  (42, [(.iload_n 2, 1), (.iconst (-1), 1), (.if_icmp .ne 14, 3), (.aload_n 0, 1), (.getfield 10, 3), (.iload_n 1, 1), (.invokevirtual 157, 3), (.goto 12, 3)]),
  (58, [(.aload_n 0, 1), (.getfield 10, 3), (.iload_n 1, 1), (.iload_n 2, 1), (.invokevirtual 162, 3)]),
  (67, [(.ireturn, 1)])]
def cf_X11_name : Instr → Option rx_C := rx_lkc [(157, (2, some 4, 0, 0, f_X4_lengthOf)), (162, (3, some 4, 0, 0, f_X4_octetOf))] [] []
def f_X11_name : rx_F := rx_fn (rx_lkk kC_X11) (rx_lkf fL_X11) (rx_lkf fP_X11) (rx_lkg gS_X11) (rx_lkg fG_X11) (rx_lkw nW_X11) cf_X11_name (some .int) 0 0 3 kd_X11_name rx_fu
theorem m_X11_name (l : Launch) : rx_M l yX11_name (Cond.code yX11_name cX11_name 3 (some .int) :: rx_WT) { frames := 1, cells := 0, slots := 0, locals := 24 } f_X11_name := rx_met rx_fu (by decide +kernel) kC_X11_ok gS_X11_ok fG_X11_ok fL_X11_ok (fP_X11_ok _) nW_X11_ok rx_ar (by decide +kernel) (rx_lkc_of (rx_n1 (rx_caV 1 4 (m_X4_lengthOf l) w_X4_lengthOf_c w_X4_lengthOf_n (rx_in 1581 (by decide +kernel) rfl) w_X4_lengthOf_i w_X4_lengthOf_s w_X4_lengthOf_d (by decide) rfl rfl) (rx_n1 (rx_caV 2 4 (m_X4_octetOf l) w_X4_octetOf_c w_X4_octetOf_n (rx_in 1583 (by decide +kernel) rfl) w_X4_octetOf_i w_X4_octetOf_s w_X4_octetOf_d (by decide) rfl rfl) rx_n0)) rx_n0 rx_n0)
theorem w_X11_name_c : Cond.code yX11_name cX11_name 3 (some .int) ∈ rx_WT := rx_in 1580 (by decide +kernel) rfl
theorem w_X11_name_n : Cond.initialized yX11_name.cls ∈ rx_WT := rx_in 193 (by decide +kernel) rfl
theorem w_X11_name_i : Cond.instanceMethod yX11_name ∈ rx_WT := rx_in 1578 (by decide +kernel) rfl
theorem w_X11_name_s : Cond.selects yX11_name.cls yX11_name yX11_name ∈ rx_WT := rx_in 1579 (by decide +kernel) rfl
theorem w_X11_name_d : yX11_name.cls ≠ "java/lang/invoke/MethodHandle" ∧ yX11_name.cls ≠ "java/lang/invoke/VarHandle" ∧ (parseMethodDescriptor yX11_name.desc).map (fun d => d.parameters.length) = some 2 := by decide +kernel
def kd_X11_error : List (Nat × List (Instr × Nat)) := [(0, [(.iload_n 1, 1), (.ifCond .eq 18, 3), (.iload_n 1, 1), (.iconst 1, 1), (.if_icmp .eq 13, 3), (.new 59, 3), (.dup, 1), (.ldc 166, 2), (.invokespecial 63, 3), (.athrow, 1)]),
  (19, [(.iload_n 1, 1), (.ifCond .ne 13, 3), (.aload_n 0, 1), (.getfield 51, 3), (.getfield 168, 3), (.goto 10, 3)]),
  (33, [(.aload_n 0, 1), (.getfield 51, 3), (.getfield 171, 3)]),
  (40, [(.ireturn, 1)])]
def cf_X11_error : Instr → Option rx_C := rx_lkc [] [] []
def f_X11_error : rx_F := rx_fn (rx_lkk kC_X11) (rx_lkf fL_X11) (rx_lkf fP_X11) (rx_lkg gS_X11) (rx_lkg fG_X11) (rx_lkw nW_X11) cf_X11_error (some .int) 0 0 2 kd_X11_error rx_fu
theorem m_X11_error (l : Launch) : rx_M l yX11_error (Cond.code yX11_error cX11_error 2 (some .int) :: rx_WT) { frames := 0, cells := 0, slots := 0, locals := 0 } f_X11_error := rx_met rx_fu (by decide +kernel) kC_X11_ok gS_X11_ok fG_X11_ok fL_X11_ok (fP_X11_ok _) nW_X11_ok rx_ar (by decide +kernel) (rx_lkc_of rx_n0 rx_n0 rx_n0)
theorem w_X11_error_c : Cond.code yX11_error cX11_error 2 (some .int) ∈ rx_WT := rx_in 1590 (by decide +kernel) rfl
theorem w_X11_error_n : Cond.initialized yX11_error.cls ∈ rx_WT := rx_in 193 (by decide +kernel) rfl
theorem w_X11_error_i : Cond.instanceMethod yX11_error ∈ rx_WT := rx_in 1588 (by decide +kernel) rfl
theorem w_X11_error_s : Cond.selects yX11_error.cls yX11_error yX11_error ∈ rx_WT := rx_in 1589 (by decide +kernel) rfl
theorem w_X11_error_d : yX11_error.cls ≠ "java/lang/invoke/MethodHandle" ∧ yX11_error.cls ≠ "java/lang/invoke/VarHandle" ∧ (parseMethodDescriptor yX11_error.desc).map (fun d => d.parameters.length) = some 1 := by decide +kernel
def kd_X11_out : List (Nat × List (Instr × Nat)) := [(0, [(.iload_n 1, 1), (.ifCond .lt 14, 3), (.iload_n 1, 1), (.aload_n 0, 1), (.getfield 19, 3), (.getfield 94, 3), (.if_icmp .lt 13, 3)]),
  (15, [(.new 114, 3), (.dup, 1), (.ldc 174, 2), (.invokespecial 118, 3), (.athrow, 1)]),
  (25, [(.aload_n 0, 1), (.getfield 19, 3), (.iload_n 1, 1), (.invokevirtual 176, 3), (.ireturn, 1)])]
def cf_X11_out : Instr → Option rx_C := rx_lkc [(176, (2, some 9, 0, 0, f_X9_outAt))] [] []
def f_X11_out : rx_F := rx_fn (rx_lkk kC_X11) (rx_lkf fL_X11) (rx_lkf fP_X11) (rx_lkg gS_X11) (rx_lkg fG_X11) (rx_lkw nW_X11) cf_X11_out (some .int) 0 0 2 kd_X11_out rx_fu
theorem m_X11_out (l : Launch) : rx_M l yX11_out (Cond.code yX11_out cX11_out 2 (some .int) :: rx_WT) { frames := 1, cells := 0, slots := 0, locals := 21 } f_X11_out := rx_met rx_fu (by decide +kernel) kC_X11_ok gS_X11_ok fG_X11_ok fL_X11_ok (fP_X11_ok _) nW_X11_ok rx_ar (by decide +kernel) (rx_lkc_of (rx_n1 (rx_caV 1 9 (m_X9_outAt l) w_X9_outAt_c w_X9_outAt_n (rx_in 1600 (by decide +kernel) rfl) w_X9_outAt_i w_X9_outAt_s w_X9_outAt_d (by decide) rfl rfl) rx_n0) rx_n0 rx_n0)
theorem w_X11_out_c : Cond.code yX11_out cX11_out 2 (some .int) ∈ rx_WT := rx_in 1598 (by decide +kernel) rfl
theorem w_X11_out_n : Cond.initialized yX11_out.cls ∈ rx_WT := rx_in 193 (by decide +kernel) rfl
theorem w_X11_out_i : Cond.instanceMethod yX11_out ∈ rx_WT := rx_in 1596 (by decide +kernel) rfl
theorem w_X11_out_s : Cond.selects yX11_out.cls yX11_out yX11_out ∈ rx_WT := rx_in 1597 (by decide +kernel) rfl
theorem w_X11_out_d : yX11_out.cls ≠ "java/lang/invoke/MethodHandle" ∧ yX11_out.cls ≠ "java/lang/invoke/VarHandle" ∧ (parseMethodDescriptor yX11_out.desc).map (fun d => d.parameters.length) = some 1 := by decide +kernel
