def kd_X12_keepName : List (Nat × List (Instr × Nat)) := [(0, [(.aload_n 0, 1), (.aload_n 0, 1), (.getfield 7, 3), (.iload_n 1, 1), (.iload_n 2, 1), (.iload_n 1, 1), (.isub, 1), (.invokevirtual 346, 3), (.istore 4, 2), (.iload 4, 2), (.iconst (-1), 1), (.if_icmp .ne 11, 3), (.aload_n 0, 1), (.iconst 2, 1), (.putfield 349, 3), (.goto 13, 3)]),
  (28, [(.aload_n 0, 1), (.iconst 4, 1), (.iload 4, 2), (.iload_n 3, 1), (.iconst 0, 1), (.iconst 0, 1), (.invokevirtual 352, 3)]),
  (38, [(.return_, 1)])]
def cf_X12_keepName : Instr → Option rx_C := rx_lkc [(346, (4, some 11, 0, 0, f_X12_nameOf)), (352, (6, some 11, 0, 0, f_X12_keep))] [] []
def f_X12_keepName : rx_F := rx_fn (rx_lkk kC_X12) (rx_lkf fL_X12) (rx_lkf fP_X12) (rx_lkg gS_X12) (rx_lkg fG_X12) (rx_lkw nW_X12) cf_X12_keepName none 0 0 5 kd_X12_keepName rx_fu
theorem m_X12_keepName (l : Launch) : rx_M l yX12_keepName (Cond.code yX12_keepName cX12_keepName 5 none :: rx_WT) { frames := 2, cells := 0, slots := 0, locals := 52 } f_X12_keepName := rx_met rx_fu (by decide +kernel) kC_X12_ok gS_X12_ok fG_X12_ok fL_X12_ok (fP_X12_ok _) nW_X12_ok rx_ar (by decide +kernel) (rx_lkc_of (rx_n1 (rx_caV 3 11 (m_X12_nameOf l) w_X12_nameOf_c w_X12_nameOf_n (rx_in 1906 (by decide +kernel) rfl) w_X12_nameOf_i w_X12_nameOf_s w_X12_nameOf_d (by decide) rfl rfl) (rx_n1 (rx_caV 5 11 (m_X12_keep l) w_X12_keep_c w_X12_keep_n (rx_in 1894 (by decide +kernel) rfl) w_X12_keep_i w_X12_keep_s w_X12_keep_d (by decide) rfl rfl) rx_n0)) rx_n0 rx_n0)
theorem w_X12_keepName_c : Cond.code yX12_keepName cX12_keepName 5 none ∈ rx_WT := rx_in 1905 (by decide +kernel) rfl
theorem w_X12_keepName_n : Cond.initialized yX12_keepName.cls ∈ rx_WT := rx_in 209 (by decide +kernel) rfl
theorem w_X12_keepName_i : Cond.instanceMethod yX12_keepName ∈ rx_WT := rx_in 1904 (by decide +kernel) rfl
theorem w_X12_keepName_s : Cond.selects yX12_keepName.cls yX12_keepName yX12_keepName ∈ rx_WT := rx_in 103 (by decide +kernel) rfl
theorem w_X12_keepName_d : yX12_keepName.cls ≠ "java/lang/invoke/MethodHandle" ∧ yX12_keepName.cls ≠ "java/lang/invoke/VarHandle" ∧ (parseMethodDescriptor yX12_keepName.desc).map (fun d => d.parameters.length) = some 3 := by decide +kernel
def kd_X12_readWord : List (Nat × List (Instr × Nat)) := [(0, [(.aload_n 0, 1), (.invokevirtual 355, 3), (.istore_n 1, 1), (.aload_n 0, 1), (.getfield 7, 3), (.iload_n 1, 1), (.iaload, 1), (.bipush 43, 2), (.if_icmp .eq 14, 3), (.aload_n 0, 1), (.getfield 7, 3), (.iload_n 1, 1), (.iaload, 1), (.bipush 45, 2), (.if_icmp .ne 9, 3)]),
  (27, [(.iload_n 1, 1), (.iconst 1, 1), (.iadd, 1), (.goto 4, 3)]),
  (33, [(.iload_n 1, 1)]),
  (34, [(.istore_n 2, 1), (.aload_n 0, 1), (.iload_n 2, 1), (.aload_n 0, 1), (.getfield 326, 3), (.bipush 10, 2), (.invokevirtual 359, 3), (.ifCond .eq 41, 3), (.aload_n 0, 1), (.iload_n 2, 1), (.aload_n 0, 1), (.getfield 326, 3), (.bipush 10, 2), (.invokevirtual 363, 3), (.istore_n 3, 1), (.aload_n 0, 1), (.iconst 1, 1), (.aload_n 0, 1), (.getfield 7, 3), (.iload_n 1, 1), (.iaload, 1), (.bipush 45, 2), (.if_icmp .ne 8, 3), (.iload_n 3, 1), (.ineg, 1), (.goto 4, 3)]),
  (79, [(.iload_n 3, 1)]),
  (80, [(.iconst 0, 1), (.iconst 0, 1), (.iconst 0, 1), (.invokevirtual 352, 3), (.return_, 1)]),
  (87, [(.iload_n 1, 1), (.iconst 1, 1), (.iadd, 1), (.aload_n 0, 1), (.getfield 326, 3), (.if_icmp .ge 22, 3), (.aload_n 0, 1), (.getfield 7, 3), (.iload_n 1, 1), (.iconst 1, 1), (.iadd, 1), (.iaload, 1), (.bipush 35, 2), (.if_icmp .ne 9, 3), (.iload_n 1, 1), (.iconst 1, 1), (.iadd, 1), (.goto 33, 3)]),
  (116, [(.iload_n 1, 1), (.iconst 2, 1), (.iadd, 1), (.aload_n 0, 1), (.getfield 326, 3), (.if_icmp .ge 22, 3), (.aload_n 0, 1), (.getfield 7, 3), (.iload_n 1, 1), (.iconst 2, 1), (.iadd, 1), (.iaload, 1), (.bipush 35, 2), (.if_icmp .ne 9, 3), (.iload_n 1, 1), (.iconst 2, 1), (.iadd, 1), (.goto 4, 3)]),
  (145, [(.iconst (-1), 1)]),
  (146, [(.istore_n 3, 1), (.iload_n 3, 1), (.iconst (-1), 1), (.if_icmp .eq 75, 3), (.aload_n 0, 1), (.iload_n 1, 1), (.iload_n 3, 1), (.bipush 10, 2), (.invokevirtual 359, 3), (.ifCond .eq 64, 3), (.aload_n 0, 1), (.iload_n 1, 1), (.iload_n 3, 1), (.bipush 10, 2), (.invokevirtual 363, 3), (.istore 4, 2), (.iload 4, 2), (.iconst 2, 1), (.if_icmp .lt 48, 3), (.iload 4, 2), (.bipush 36, 2), (.if_icmp .gt 41, 3), (.aload_n 0, 1), (.iload_n 3, 1), (.iconst 1, 1), (.iadd, 1), (.aload_n 0, 1), (.getfield 326, 3), (.iload 4, 2), (.invokevirtual 359, 3), (.ifCond .eq 25, 3), (.aload_n 0, 1), (.iconst 1, 1), (.aload_n 0, 1), (.iload_n 3, 1), (.iconst 1, 1), (.iadd, 1), (.aload_n 0, 1), (.getfield 326, 3), (.iload 4, 2), (.invokevirtual 363, 3), (.iconst 0, 1), (.iconst 0, 1), (.iconst 0, 1), (.invokevirtual 352, 3), (.return_, 1)]),
  (224, [(.aload_n 0, 1), (.iload_n 1, 1), (.aload_n 0, 1), (.getfield 326, 3), (.iconst 1, 1), (.invokevirtual 367, 3), (.return_, 1)])]
def cf_X12_readWord : Instr → Option rx_C := rx_lkc [(355, (1, some 11, 0, 0, f_X12_passRegular)), (359, (4, some 11, 0, 0, f_X12_areDigits)), (363, (4, some 11, 0, 0, f_X12_numberOf)), (352, (6, some 11, 0, 0, f_X12_keep)), (367, (4, some 11, 0, 0, f_X12_keepName))] [] []
def f_X12_readWord : rx_F := rx_fn (rx_lkk kC_X12) (rx_lkf fL_X12) (rx_lkf fP_X12) (rx_lkg gS_X12) (rx_lkg fG_X12) (rx_lkw nW_X12) cf_X12_readWord none 0 0 5 kd_X12_readWord rx_fu
theorem m_X12_readWord (l : Launch) : rx_M l yX12_readWord (Cond.code yX12_readWord cX12_readWord 5 none :: rx_WT) { frames := 3, cells := 0, slots := 0, locals := 76 } f_X12_readWord := rx_met rx_fu (by decide +kernel) kC_X12_ok gS_X12_ok fG_X12_ok fL_X12_ok (fP_X12_ok _) nW_X12_ok rx_ar (by decide +kernel) (rx_lkc_of (rx_n1 (rx_caV 0 11 (m_X12_passRegular l) w_X12_passRegular_c w_X12_passRegular_n (rx_in 1918 (by decide +kernel) rfl) w_X12_passRegular_i w_X12_passRegular_s w_X12_passRegular_d (by decide) rfl rfl) (rx_n1 (rx_caV 3 11 (m_X12_areDigits l) w_X12_areDigits_c w_X12_areDigits_n (rx_in 1929 (by decide +kernel) rfl) w_X12_areDigits_i w_X12_areDigits_s w_X12_areDigits_d (by decide) rfl rfl) (rx_n1 (rx_caV 3 11 (m_X12_numberOf l) w_X12_numberOf_c w_X12_numberOf_n (rx_in 1936 (by decide +kernel) rfl) w_X12_numberOf_i w_X12_numberOf_s w_X12_numberOf_d (by decide) rfl rfl) (rx_n1 (rx_caV 5 11 (m_X12_keep l) w_X12_keep_c w_X12_keep_n (rx_in 1894 (by decide +kernel) rfl) w_X12_keep_i w_X12_keep_s w_X12_keep_d (by decide) rfl rfl) (rx_n1 (rx_caV 3 11 (m_X12_keepName l) w_X12_keepName_c w_X12_keepName_n (rx_in 1902 (by decide +kernel) rfl) w_X12_keepName_i w_X12_keepName_s w_X12_keepName_d (by decide) rfl rfl) rx_n0))))) rx_n0 rx_n0)
theorem w_X12_readWord_c : Cond.code yX12_readWord cX12_readWord 5 none ∈ rx_WT := rx_in 1928 (by decide +kernel) rfl
theorem w_X12_readWord_n : Cond.initialized yX12_readWord.cls ∈ rx_WT := rx_in 209 (by decide +kernel) rfl
theorem w_X12_readWord_i : Cond.instanceMethod yX12_readWord ∈ rx_WT := rx_in 1927 (by decide +kernel) rfl
theorem w_X12_readWord_s : Cond.selects yX12_readWord.cls yX12_readWord yX12_readWord ∈ rx_WT := rx_in 108 (by decide +kernel) rfl
theorem w_X12_readWord_d : yX12_readWord.cls ≠ "java/lang/invoke/MethodHandle" ∧ yX12_readWord.cls ≠ "java/lang/invoke/VarHandle" ∧ (parseMethodDescriptor yX12_readWord.desc).map (fun d => d.parameters.length) = some 0 := by decide +kernel
def kd_X12_readString : List (Nat × List (Instr × Nat)) := [(0, [(.aload_n 0, 1), (.dup, 1), (.getfield 326, 3), (.iconst 1, 1), (.iadd, 1), (.putfield 326, 3), (.aload_n 0, 1), (.getfield 272, 3), (.istore_n 1, 1), (.iconst 0, 1), (.istore_n 2, 1), (.iconst 1, 1), (.istore_n 3, 1), (.iconst 0, 1), (.istore 4, 2)]),
  (22, [(.iload 4, 2), (.iconst 2, 1), (.if_icmp .ge 204, 3), (.aload_n 0, 1), (.getfield 326, 3), (.istore 5, 2), (.iconst 0, 1), (.istore_n 2, 1), (.iconst 1, 1), (.istore_n 3, 1)]),
  (38, [(.iload 5, 2), (.aload_n 0, 1), (.getfield 329, 3), (.if_icmp .ge 132, 3), (.iload_n 3, 1), (.ifCond .le 128, 3), (.aload_n 0, 1), (.getfield 7, 3), (.iload 5, 2), (.iaload, 1), (.istore 6, 2), (.iload 6, 2), (.bipush 92, 2), (.if_icmp .ne 7, 3), (.iconst 1, 1), (.goto 4, 3)]),
  (71, [(.iconst 0, 1)]),
  (72, [(.istore 7, 2), (.iload 7, 2), (.ifCond .eq 28, 3), (.iinc 5 1, 3), (.iload 5, 2), (.aload_n 0, 1), (.getfield 329, 3), (.if_icmp .ge 13, 3), (.aload_n 0, 1), (.getfield 7, 3), (.iload 5, 2), (.iaload, 1), (.goto 4, 3)]),
  (101, [(.iconst (-1), 1)]),
  (102, [(.istore 6, 2)]),
  (104, [(.iload 7, 2), (.ifCond .eq 7, 3), (.iload_n 3, 1), (.goto 30, 3)]),
  (113, [(.iload 6, 2), (.bipush 40, 2), (.if_icmp .ne 9, 3), (.iload_n 3, 1), (.iconst 1, 1), (.iadd, 1), (.goto 17, 3)]),
  (126, [(.iload 6, 2), (.bipush 41, 2), (.if_icmp .ne 9, 3), (.iload_n 3, 1), (.iconst 1, 1), (.isub, 1), (.goto 4, 3)]),
  (139, [(.iload_n 3, 1)]),
  (140, [(.istore_n 3, 1), (.iload_n 3, 1), (.ifCond .le 28, 3), (.iload 6, 2), (.iconst (-1), 1), (.if_icmp .eq 22, 3), (.iload 4, 2), (.iconst 1, 1), (.if_icmp .ne 13, 3), (.aload_n 0, 1), (.getfield 34, 3), (.iload_n 1, 1), (.iload_n 2, 1), (.iadd, 1), (.iload 6, 2), (.iastore, 1)]),
  (167, [(.iinc 2 1, 3)]),
  (170, [(.iinc 5 1, 3), (.goto (-135), 3)]),
  (176, [(.iload_n 3, 1), (.ifCond .le 9, 3), (.aload_n 0, 1), (.iconst 1, 1), (.putfield 349, 3), (.return_, 1)]),
  (186, [(.aload_n 0, 1), (.getfield 272, 3), (.iload_n 2, 1), (.iadd, 1), (.sipush 600, 3), (.if_icmp .le 9, 3), (.aload_n 0, 1), (.iconst 2, 1), (.putfield 349, 3), (.return_, 1)]),
  (204, [(.aload_n 0, 1), (.iload 4, 2), (.iconst 1, 1), (.if_icmp .ne 8, 3), (.iload 5, 2), (.goto 7, 3)]),
  (216, [(.aload_n 0, 1), (.getfield 326, 3)]),
  (220, [(.putfield 326, 3), (.iinc 4 1, 3), (.goto (-204), 3)]),
  (229, [(.aload_n 0, 1), (.aload_n 0, 1), (.getfield 272, 3), (.iload_n 2, 1), (.iadd, 1), (.putfield 272, 3), (.aload_n 0, 1), (.dup, 1), (.getfield 275, 3), (.iconst 1, 1), (.iadd, 1), (.putfield 275, 3), (.aload_n 0, 1), (.bipush 6, 2), (.iload_n 1, 1), (.iconst 0, 1), (.iload_n 2, 1), (.aload_n 0, 1), (.getfield 275, 3), (.invokevirtual 352, 3), (.return_, 1)])]
def cf_X12_readString : Instr → Option rx_C := rx_lkc [(352, (6, some 11, 0, 0, f_X12_keep))] [] []
def f_X12_readString : rx_F := rx_fn (rx_lkk kC_X12) (rx_lkf fL_X12) (rx_lkf fP_X12) (rx_lkg gS_X12) (rx_lkg fG_X12) (rx_lkw nW_X12) cf_X12_readString none 0 0 8 kd_X12_readString rx_fu
theorem m_X12_readString (l : Launch) : rx_M l yX12_readString (Cond.code yX12_readString cX12_readString 8 none :: rx_WT) { frames := 2, cells := 0, slots := 0, locals := 52 } f_X12_readString := rx_met rx_fu (by decide +kernel) kC_X12_ok gS_X12_ok fG_X12_ok fL_X12_ok (fP_X12_ok _) nW_X12_ok rx_ar (by decide +kernel) (rx_lkc_of (rx_n1 (rx_caV 5 11 (m_X12_keep l) w_X12_keep_c w_X12_keep_n (rx_in 1894 (by decide +kernel) rfl) w_X12_keep_i w_X12_keep_s w_X12_keep_d (by decide) rfl rfl) rx_n0) rx_n0 rx_n0)
theorem w_X12_readString_c : Cond.code yX12_readString cX12_readString 8 none ∈ rx_WT := rx_in 1901 (by decide +kernel) rfl
theorem w_X12_readString_n : Cond.initialized yX12_readString.cls ∈ rx_WT := rx_in 209 (by decide +kernel) rfl
theorem w_X12_readString_i : Cond.instanceMethod yX12_readString ∈ rx_WT := rx_in 1900 (by decide +kernel) rfl
theorem w_X12_readString_s : Cond.selects yX12_readString.cls yX12_readString yX12_readString ∈ rx_WT := rx_in 102 (by decide +kernel) rfl
theorem w_X12_readString_d : yX12_readString.cls ≠ "java/lang/invoke/MethodHandle" ∧ yX12_readString.cls ≠ "java/lang/invoke/VarHandle" ∧ (parseMethodDescriptor yX12_readString.desc).map (fun d => d.parameters.length) = some 0 := by decide +kernel
def kd_X12_closeProcedure : List (Nat × List (Instr × Nat)) := [(0, [(.aload_n 0, 1), (.dup, 1), (.getfield 371, 3), (.iconst 1, 1), (.isub, 1), (.putfield 371, 3), (.aload_n 0, 1), (.getfield 59, 3), (.aload_n 0, 1), (.getfield 371, 3), (.iaload, 1), (.istore_n 1, 1), (.aload_n 0, 1), (.getfield 343, 3), (.iload_n 1, 1), (.isub, 1), (.istore_n 2, 1), (.aload_n 0, 1), (.getfield 269, 3), (.iload_n 2, 1), (.iadd, 1), (.sipush 600, 3), (.if_icmp .le 9, 3), (.aload_n 0, 1), (.iconst 2, 1), (.putfield 349, 3), (.return_, 1)]),
  (45, [(.iconst 0, 1), (.istore_n 3, 1)]),
  (47, [(.iload_n 3, 1), (.iload_n 2, 1), (.if_icmp .ge 29, 3), (.aload_n 0, 1), (.getfield 56, 3), (.iload_n 1, 1), (.iload_n 3, 1), (.iadd, 1), (.aload_n 0, 1), (.getfield 31, 3), (.aload_n 0, 1), (.getfield 269, 3), (.iload_n 3, 1), (.iadd, 1), (.invokestatic 374, 3), (.iinc 3 1, 3), (.goto (-28), 3)]),
  (78, [(.aload_n 0, 1), (.dup, 1), (.getfield 275, 3), (.iconst 1, 1), (.iadd, 1), (.putfield 275, 3), (.aload_n 0, 1), (.iload_n 1, 1), (.putfield 343, 3), (.aload_n 0, 1), (.iconst 5, 1), (.aload_n 0, 1), (.getfield 269, 3), (.iconst 1, 1), (.iload_n 2, 1), (.aload_n 0, 1), (.getfield 275, 3), (.invokevirtual 352, 3), (.aload_n 0, 1), (.aload_n 0, 1), (.getfield 269, 3), (.iload_n 2, 1), (.iadd, 1), (.putfield 269, 3), (.return_, 1)])]
def cf_X12_closeProcedure : Instr → Option rx_C := rx_lkc [(352, (6, some 11, 0, 0, f_X12_keep))] [(374, (4, none, 0, 0, f_X12_copy))] []
def f_X12_closeProcedure : rx_F := rx_fn (rx_lkk kC_X12) (rx_lkf fL_X12) (rx_lkf fP_X12) (rx_lkg gS_X12) (rx_lkg fG_X12) (rx_lkw nW_X12) cf_X12_closeProcedure none 0 0 4 kd_X12_closeProcedure rx_fu
theorem m_X12_closeProcedure (l : Launch) : rx_M l yX12_closeProcedure (Cond.code yX12_closeProcedure cX12_closeProcedure 4 none :: rx_WT) { frames := 2, cells := 0, slots := 0, locals := 52 } f_X12_closeProcedure := rx_met rx_fu (by decide +kernel) kC_X12_ok gS_X12_ok fG_X12_ok fL_X12_ok (fP_X12_ok _) nW_X12_ok rx_ar (by decide +kernel) (rx_lkc_of (rx_n1 (rx_caV 5 11 (m_X12_keep l) w_X12_keep_c w_X12_keep_n (rx_in 1894 (by decide +kernel) rfl) w_X12_keep_i w_X12_keep_s w_X12_keep_d (by decide) rfl rfl) rx_n0) (rx_n1 (rx_caS 4 (m_X12_copy l) w_X12_copy_c w_X12_copy_n (rx_in 1891 (by decide +kernel) rfl) w_X12_copy_t w_X12_copy_d (by decide)) rx_n0) rx_n0)
theorem w_X12_closeProcedure_c : Cond.code yX12_closeProcedure cX12_closeProcedure 4 none ∈ rx_WT := rx_in 1890 (by decide +kernel) rfl
theorem w_X12_closeProcedure_n : Cond.initialized yX12_closeProcedure.cls ∈ rx_WT := rx_in 209 (by decide +kernel) rfl
theorem w_X12_closeProcedure_i : Cond.instanceMethod yX12_closeProcedure ∈ rx_WT := rx_in 1889 (by decide +kernel) rfl
theorem w_X12_closeProcedure_s : Cond.selects yX12_closeProcedure.cls yX12_closeProcedure yX12_closeProcedure ∈ rx_WT := rx_in 100 (by decide +kernel) rfl
theorem w_X12_closeProcedure_d : yX12_closeProcedure.cls ≠ "java/lang/invoke/MethodHandle" ∧ yX12_closeProcedure.cls ≠ "java/lang/invoke/VarHandle" ∧ (parseMethodDescriptor yX12_closeProcedure.desc).map (fun d => d.parameters.length) = some 0 := by decide +kernel
def kd_X12_readPart : List (Nat × List (Instr × Nat)) := [(0, [(.aload_n 0, 1), (.getfield 7, 3), (.aload_n 0, 1), (.getfield 326, 3), (.iaload, 1), (.istore_n 1, 1), (.aload_n 0, 1), (.getfield 326, 3), (.istore_n 2, 1), (.iload_n 1, 1), (.bipush 123, 2), (.if_icmp .ne 56, 3), (.aload_n 0, 1), (.dup, 1), (.getfield 326, 3), (.iconst 1, 1), (.iadd, 1), (.putfield 326, 3), (.aload_n 0, 1), (.getfield 371, 3), (.bipush 8, 2), (.if_icmp .ne 11, 3), (.aload_n 0, 1), (.iconst 2, 1), (.putfield 349, 3), (.goto 229, 3)]),
  (48, [(.aload_n 0, 1), (.getfield 59, 3), (.aload_n 0, 1), (.getfield 371, 3), (.aload_n 0, 1), (.getfield 343, 3), (.iastore, 1), (.aload_n 0, 1), (.dup, 1), (.getfield 371, 3), (.iconst 1, 1), (.iadd, 1), (.putfield 371, 3), (.goto 203, 3)]),
  (74, [(.iload_n 1, 1), (.bipush 125, 2), (.if_icmp .ne 35, 3), (.aload_n 0, 1), (.dup, 1), (.getfield 326, 3), (.iconst 1, 1), (.iadd, 1), (.putfield 326, 3), (.aload_n 0, 1), (.getfield 371, 3), (.ifCond .ne 11, 3), (.aload_n 0, 1), (.iconst 1, 1), (.putfield 349, 3), (.goto 172, 3)]),
  (105, [(.aload_n 0, 1), (.invokevirtual 378, 3), (.goto 165, 3)]),
  (112, [(.iload_n 1, 1), (.bipush 40, 2), (.if_icmp .ne 10, 3), (.aload_n 0, 1), (.invokevirtual 381, 3), (.goto 152, 3)]),
  (125, [(.iload_n 1, 1), (.bipush 91, 2), (.if_icmp .eq 9, 3), (.iload_n 1, 1), (.bipush 93, 2), (.if_icmp .ne 26, 3)]),
  (137, [(.aload_n 0, 1), (.dup, 1), (.getfield 326, 3), (.iconst 1, 1), (.iadd, 1), (.putfield 326, 3), (.aload_n 0, 1), (.iload_n 2, 1), (.aload_n 0, 1), (.getfield 326, 3), (.iconst 1, 1), (.invokevirtual 367, 3), (.goto 117, 3)]),
  (160, [(.iload_n 1, 1), (.bipush 60, 2), (.if_icmp .eq 9, 3), (.iload_n 1, 1), (.bipush 62, 2), (.if_icmp .ne 52, 3)]),
  (172, [(.aload_n 0, 1), (.dup, 1), (.getfield 326, 3), (.iconst 1, 1), (.iadd, 1), (.putfield 326, 3), (.aload_n 0, 1), (.iload_n 1, 1), (.invokevirtual 384, 3), (.ifCond .eq 26, 3), (.aload_n 0, 1), (.dup, 1), (.getfield 326, 3), (.iconst 1, 1), (.iadd, 1), (.putfield 326, 3), (.aload_n 0, 1), (.iload_n 2, 1), (.aload_n 0, 1), (.getfield 326, 3), (.iconst 1, 1), (.invokevirtual 367, 3), (.goto 64, 3)]),
  (213, [(.aload_n 0, 1), (.iconst 1, 1), (.putfield 349, 3), (.goto 56, 3)]),
  (221, [(.iload_n 1, 1), (.bipush 47, 2), (.if_icmp .ne 31, 3), (.aload_n 0, 1), (.dup, 1), (.getfield 326, 3), (.iconst 1, 1), (.iadd, 1), (.putfield 326, 3), (.aload_n 0, 1), (.invokevirtual 355, 3), (.istore_n 3, 1), (.aload_n 0, 1), (.iload_n 3, 1), (.aload_n 0, 1), (.getfield 326, 3), (.iconst 0, 1), (.invokevirtual 367, 3), (.goto 22, 3)]),
  (255, [(.iload_n 1, 1), (.invokestatic 332, 3), (.ifCond .eq 10, 3), (.aload_n 0, 1), (.invokevirtual 387, 3), (.goto 8, 3)]),
  (269, [(.aload_n 0, 1), (.iconst 1, 1), (.putfield 349, 3)]),
  (274, [(.return_, 1)])]
def cf_X12_readPart : Instr → Option rx_C := rx_lkc [(378, (1, some 11, 0, 0, f_X12_closeProcedure)), (381, (1, some 11, 0, 0, f_X12_readString)), (367, (4, some 11, 0, 0, f_X12_keepName)), (384, (2, some 11, 0, 0, f_X12_isAt)), (355, (1, some 11, 0, 0, f_X12_passRegular)), (387, (1, some 11, 0, 0, f_X12_readWord))] [(332, (1, none, 0, 0, f_X12_isRegular))] []
def f_X12_readPart : rx_F := rx_fn (rx_lkk kC_X12) (rx_lkf fL_X12) (rx_lkf fP_X12) (rx_lkg gS_X12) (rx_lkg fG_X12) (rx_lkw nW_X12) cf_X12_readPart none 0 0 4 kd_X12_readPart rx_fu
theorem m_X12_readPart (l : Launch) : rx_M l yX12_readPart (Cond.code yX12_readPart cX12_readPart 4 none :: rx_WT) { frames := 4, cells := 0, slots := 0, locals := 100 } f_X12_readPart := rx_met rx_fu (by decide +kernel) kC_X12_ok gS_X12_ok fG_X12_ok fL_X12_ok (fP_X12_ok _) nW_X12_ok rx_ar (by decide +kernel) (rx_lkc_of (rx_n1 (rx_caV 0 11 (m_X12_closeProcedure l) w_X12_closeProcedure_c w_X12_closeProcedure_n (rx_in 1887 (by decide +kernel) rfl) w_X12_closeProcedure_i w_X12_closeProcedure_s w_X12_closeProcedure_d (by decide) rfl rfl) (rx_n1 (rx_caV 0 11 (m_X12_readString l) w_X12_readString_c w_X12_readString_n (rx_in 1898 (by decide +kernel) rfl) w_X12_readString_i w_X12_readString_s w_X12_readString_d (by decide) rfl rfl) (rx_n1 (rx_caV 3 11 (m_X12_keepName l) w_X12_keepName_c w_X12_keepName_n (rx_in 1902 (by decide +kernel) rfl) w_X12_keepName_i w_X12_keepName_s w_X12_keepName_d (by decide) rfl rfl) (rx_n1 (rx_caV 1 11 (m_X12_isAt l) w_X12_isAt_c w_X12_isAt_n (rx_in 1914 (by decide +kernel) rfl) w_X12_isAt_i w_X12_isAt_s w_X12_isAt_d (by decide) rfl rfl) (rx_n1 (rx_caV 0 11 (m_X12_passRegular l) w_X12_passRegular_c w_X12_passRegular_n (rx_in 1918 (by decide +kernel) rfl) w_X12_passRegular_i w_X12_passRegular_s w_X12_passRegular_d (by decide) rfl rfl) (rx_n1 (rx_caV 0 11 (m_X12_readWord l) w_X12_readWord_c w_X12_readWord_n (rx_in 1925 (by decide +kernel) rfl) w_X12_readWord_i w_X12_readWord_s w_X12_readWord_d (by decide) rfl rfl) rx_n0)))))) (rx_n1 (rx_caS 1 (m_X12_isRegular l) w_X12_isRegular_c w_X12_isRegular_n (rx_in 1922 (by decide +kernel) rfl) w_X12_isRegular_t w_X12_isRegular_d (by decide)) rx_n0) rx_n0)
theorem w_X12_readPart_c : Cond.code yX12_readPart cX12_readPart 4 none ∈ rx_WT := rx_in 1886 (by decide +kernel) rfl
theorem w_X12_readPart_n : Cond.initialized yX12_readPart.cls ∈ rx_WT := rx_in 209 (by decide +kernel) rfl
theorem w_X12_readPart_i : Cond.instanceMethod yX12_readPart ∈ rx_WT := rx_in 1885 (by decide +kernel) rfl
theorem w_X12_readPart_s : Cond.selects yX12_readPart.cls yX12_readPart yX12_readPart ∈ rx_WT := rx_in 99 (by decide +kernel) rfl
theorem w_X12_readPart_d : yX12_readPart.cls ≠ "java/lang/invoke/MethodHandle" ∧ yX12_readPart.cls ≠ "java/lang/invoke/VarHandle" ∧ (parseMethodDescriptor yX12_readPart.desc).map (fun d => d.parameters.length) = some 0 := by decide +kernel
def kd_X12_readToken : List (Nat × List (Instr × Nat)) := [(0, [(.aload_n 0, 1), (.iconst 0, 1), (.putfield 343, 3), (.aload_n 0, 1), (.iconst 0, 1), (.putfield 371, 3), (.aload_n 0, 1), (.iconst 0, 1), (.putfield 349, 3), (.aload_n 0, 1), (.invokevirtual 390, 3)]),
  (19, [(.aload_n 0, 1), (.getfield 349, 3), (.ifCond .ne 40, 3), (.aload_n 0, 1), (.getfield 371, 3), (.ifCond .le 33, 3), (.aload_n 0, 1), (.invokevirtual 393, 3), (.aload_n 0, 1), (.getfield 326, 3), (.aload_n 0, 1), (.getfield 329, 3), (.if_icmp .lt 11, 3), (.aload_n 0, 1), (.iconst 1, 1), (.putfield 349, 3), (.goto (-34), 3)]),
  (56, [(.aload_n 0, 1), (.invokevirtual 390, 3), (.goto (-41), 3)]),
  (63, [(.return_, 1)])]
def cf_X12_readToken : Instr → Option rx_C := rx_lkc [(390, (1, some 11, 0, 0, f_X12_readPart)), (393, (1, some 11, 0, 0, f_X12_passBlanks))] [] []
def f_X12_readToken : rx_F := rx_fn (rx_lkk kC_X12) (rx_lkf fL_X12) (rx_lkf fP_X12) (rx_lkg gS_X12) (rx_lkg fG_X12) (rx_lkw nW_X12) cf_X12_readToken none 0 0 1 kd_X12_readToken rx_fu
theorem m_X12_readToken (l : Launch) : rx_M l yX12_readToken (Cond.code yX12_readToken cX12_readToken 1 none :: rx_WT) { frames := 5, cells := 0, slots := 0, locals := 123 } f_X12_readToken := rx_met rx_fu (by decide +kernel) kC_X12_ok gS_X12_ok fG_X12_ok fL_X12_ok (fP_X12_ok _) nW_X12_ok rx_ar (by decide +kernel) (rx_lkc_of (rx_n1 (rx_caV 0 11 (m_X12_readPart l) w_X12_readPart_c w_X12_readPart_n (rx_in 1883 (by decide +kernel) rfl) w_X12_readPart_i w_X12_readPart_s w_X12_readPart_d (by decide) rfl rfl) (rx_n1 (rx_caV 0 11 (m_X12_passBlanks l) w_X12_passBlanks_c w_X12_passBlanks_n (rx_in 1875 (by decide +kernel) rfl) w_X12_passBlanks_i w_X12_passBlanks_s w_X12_passBlanks_d (by decide) rfl rfl) rx_n0)) rx_n0 rx_n0)
theorem w_X12_readToken_c : Cond.code yX12_readToken cX12_readToken 1 none ∈ rx_WT := rx_in 1882 (by decide +kernel) rfl
theorem w_X12_readToken_n : Cond.initialized yX12_readToken.cls ∈ rx_WT := rx_in 209 (by decide +kernel) rfl
theorem w_X12_readToken_i : Cond.instanceMethod yX12_readToken ∈ rx_WT := rx_in 1881 (by decide +kernel) rfl
theorem w_X12_readToken_s : Cond.selects yX12_readToken.cls yX12_readToken yX12_readToken ∈ rx_WT := rx_in 98 (by decide +kernel) rfl
theorem w_X12_readToken_d : yX12_readToken.cls ≠ "java/lang/invoke/MethodHandle" ∧ yX12_readToken.cls ≠ "java/lang/invoke/VarHandle" ∧ (parseMethodDescriptor yX12_readToken.desc).map (fun d => d.parameters.length) = some 0 := by decide +kernel
def kd_X12_pairOf : List (Nat × List (Instr × Nat)) := [(0, [(.iconst (-1), 1), (.istore 4, 2), (.iconst 0, 1), (.istore 5, 2)]),
  (6, [(.iload 5, 2), (.aload_n 0, 1), (.getfield 22, 3), (.iload_n 1, 1), (.iaload, 1), (.if_icmp .ge 58, 3), (.iconst 2, 1), (.bipush 80, 2), (.iload_n 1, 1), (.imul, 1), (.iload 5, 2), (.iadd, 1), (.imul, 1), (.istore 6, 2), (.aload_n 0, 1), (.getfield 25, 3), (.iload 6, 2), (.iaload, 1), (.iload_n 2, 1), (.if_icmp .ne 26, 3), (.aload_n 0, 1), (.getfield 25, 3), (.iload 6, 2), (.iconst 1, 1), (.iadd, 1), (.iaload, 1), (.iload_n 3, 1), (.if_icmp .ne 13, 3), (.bipush 80, 2), (.iload_n 1, 1), (.imul, 1), (.iload 5, 2), (.iadd, 1), (.goto 5, 3)]),
  (62, [(.iload 4, 2)]),
  (64, [(.istore 4, 2), (.iinc 5 1, 3), (.goto (-63), 3)]),
  (72, [(.iload 4, 2), (.ireturn, 1)])]
def cf_X12_pairOf : Instr → Option rx_C := rx_lkc [] [] []
def f_X12_pairOf : rx_F := rx_fn (rx_lkk kC_X12) (rx_lkf fL_X12) (rx_lkf fP_X12) (rx_lkg gS_X12) (rx_lkg fG_X12) (rx_lkw nW_X12) cf_X12_pairOf (some .int) 0 0 7 kd_X12_pairOf rx_fu
theorem m_X12_pairOf (l : Launch) : rx_M l yX12_pairOf (Cond.code yX12_pairOf cX12_pairOf 7 (some .int) :: rx_WT) { frames := 0, cells := 0, slots := 0, locals := 0 } f_X12_pairOf := rx_met rx_fu (by decide +kernel) kC_X12_ok gS_X12_ok fG_X12_ok fL_X12_ok (fP_X12_ok _) nW_X12_ok rx_ar (by decide +kernel) (rx_lkc_of rx_n0 rx_n0 rx_n0)
theorem w_X12_pairOf_c : Cond.code yX12_pairOf cX12_pairOf 7 (some .int) ∈ rx_WT := rx_in 2074 (by decide +kernel) rfl
theorem w_X12_pairOf_n : Cond.initialized yX12_pairOf.cls ∈ rx_WT := rx_in 209 (by decide +kernel) rfl
theorem w_X12_pairOf_i : Cond.instanceMethod yX12_pairOf ∈ rx_WT := rx_in 2073 (by decide +kernel) rfl
theorem w_X12_pairOf_s : Cond.selects yX12_pairOf.cls yX12_pairOf yX12_pairOf ∈ rx_WT := rx_in 143 (by decide +kernel) rfl
theorem w_X12_pairOf_d : yX12_pairOf.cls ≠ "java/lang/invoke/MethodHandle" ∧ yX12_pairOf.cls ≠ "java/lang/invoke/VarHandle" ∧ (parseMethodDescriptor yX12_pairOf.desc).map (fun d => d.parameters.length) = some 3 := by decide +kernel
def kd_X12_find : List (Nat × List (Instr × Nat)) := [(0, [(.iconst (-1), 1), (.istore_n 3, 1), (.aload_n 0, 1), (.getfield 309, 3), (.iconst 1, 1), (.isub, 1), (.istore 4, 2)]),
  (10, [(.iload 4, 2), (.ifCond .lt 28, 3), (.iload_n 3, 1), (.iconst (-1), 1), (.if_icmp .ne 23, 3), (.aload_n 0, 1), (.aload_n 0, 1), (.getfield 16, 3), (.iload 4, 2), (.iaload, 1), (.iload_n 1, 1), (.iload_n 2, 1), (.invokevirtual 396, 3), (.istore_n 3, 1), (.iinc 4 (-1), 3), (.goto (-27), 3)]),
  (40, [(.iload_n 3, 1), (.ireturn, 1)])]
def cf_X12_find : Instr → Option rx_C := rx_lkc [(396, (4, some 11, 0, 0, f_X12_pairOf))] [] []
def f_X12_find : rx_F := rx_fn (rx_lkk kC_X12) (rx_lkf fL_X12) (rx_lkf fP_X12) (rx_lkg gS_X12) (rx_lkg fG_X12) (rx_lkw nW_X12) cf_X12_find (some .int) 0 0 5 kd_X12_find rx_fu
theorem m_X12_find (l : Launch) : rx_M l yX12_find (Cond.code yX12_find cX12_find 5 (some .int) :: rx_WT) { frames := 1, cells := 0, slots := 0, locals := 26 } f_X12_find := rx_met rx_fu (by decide +kernel) kC_X12_ok gS_X12_ok fG_X12_ok fL_X12_ok (fP_X12_ok _) nW_X12_ok rx_ar (by decide +kernel) (rx_lkc_of (rx_n1 (rx_caV 3 11 (m_X12_pairOf l) w_X12_pairOf_c w_X12_pairOf_n (rx_in 2071 (by decide +kernel) rfl) w_X12_pairOf_i w_X12_pairOf_s w_X12_pairOf_d (by decide) rfl rfl) rx_n0) rx_n0 rx_n0)
theorem w_X12_find_c : Cond.code yX12_find cX12_find 5 (some .int) ∈ rx_WT := rx_in 2142 (by decide +kernel) rfl
theorem w_X12_find_n : Cond.initialized yX12_find.cls ∈ rx_WT := rx_in 209 (by decide +kernel) rfl
theorem w_X12_find_i : Cond.instanceMethod yX12_find ∈ rx_WT := rx_in 2141 (by decide +kernel) rfl
theorem w_X12_find_s : Cond.selects yX12_find.cls yX12_find yX12_find ∈ rx_WT := rx_in 160 (by decide +kernel) rfl
theorem w_X12_find_d : yX12_find.cls ≠ "java/lang/invoke/MethodHandle" ∧ yX12_find.cls ≠ "java/lang/invoke/VarHandle" ∧ (parseMethodDescriptor yX12_find.desc).map (fun d => d.parameters.length) = some 2 := by decide +kernel
def kd_X12_isKey : List (Nat × List (Instr × Nat)) := [(0, [(.iload_n 0, 1), (.iconst 1, 1), (.if_icmp .eq 19, 3), (.iload_n 0, 1), (.iconst 2, 1), (.if_icmp .eq 14, 3), (.iload_n 0, 1), (.iconst 4, 1), (.if_icmp .eq 9, 3), (.iload_n 0, 1), (.bipush 6, 2), (.if_icmp .ne 7, 3)]),
  (21, [(.iconst 1, 1), (.goto 4, 3)]),
  (25, [(.iconst 0, 1)]),
  (26, [(.ireturn, 1)])]
def cf_X12_isKey : Instr → Option rx_C := rx_lkc [] [] []
def f_X12_isKey : rx_F := rx_fn (rx_lkk kC_X12) (rx_lkf fL_X12) (rx_lkf fP_X12) (rx_lkg gS_X12) (rx_lkg fG_X12) (rx_lkw nW_X12) cf_X12_isKey (some .boolean) 0 0 1 kd_X12_isKey rx_fu
theorem m_X12_isKey (l : Launch) : rx_M l yX12_isKey (Cond.code yX12_isKey cX12_isKey 1 (some .boolean) :: rx_WT) { frames := 0, cells := 0, slots := 0, locals := 0 } f_X12_isKey := rx_met rx_fu (by decide +kernel) kC_X12_ok gS_X12_ok fG_X12_ok fL_X12_ok (fP_X12_ok _) nW_X12_ok rx_ar (by decide +kernel) (rx_lkc_of rx_n0 rx_n0 rx_n0)
theorem w_X12_isKey_c : Cond.code yX12_isKey cX12_isKey 1 (some .boolean) ∈ rx_WT := rx_in 2066 (by decide +kernel) rfl
theorem w_X12_isKey_n : Cond.initialized yX12_isKey.cls ∈ rx_WT := rx_in 209 (by decide +kernel) rfl
theorem w_X12_isKey_t : Cond.static yX12_isKey ∈ rx_WT := rx_in 2065 (by decide +kernel) rfl
theorem w_X12_isKey_d : yX12_isKey.cls ≠ "java/lang/invoke/MethodHandle" ∧ yX12_isKey.cls ≠ "java/lang/invoke/VarHandle" ∧ (parseMethodDescriptor yX12_isKey.desc).map (fun d => d.parameters.length) = some 1 := by decide +kernel
def kd_X12_takeKey : List (Nat × List (Instr × Nat)) := [(0, [(.aload_n 0, 1), (.aload_n 1, 1), (.iconst 5, 1), (.iload_n 2, 1), (.imul, 1), (.iaload, 1), (.putfield 399, 3), (.aload_n 0, 1), (.aload_n 1, 1), (.iconst 5, 1), (.iload_n 2, 1), (.imul, 1), (.iconst 1, 1), (.iadd, 1), (.iaload, 1), (.putfield 402, 3), (.aload_n 0, 1), (.getfield 399, 3), (.bipush 6, 2), (.if_icmp .ne 45, 3), (.aload_n 0, 1), (.iconst 4, 1), (.putfield 399, 3), (.aload_n 0, 1), (.aload_n 0, 1), (.aload_n 0, 1), (.getfield 34, 3), (.aload_n 0, 1), (.getfield 402, 3), (.aload_n 1, 1), (.iconst 5, 1), (.iload_n 2, 1), (.imul, 1), (.iconst 3, 1), (.iadd, 1), (.iaload, 1), (.invokevirtual 346, 3), (.putfield 402, 3), (.aload_n 0, 1), (.getfield 402, 3), (.iconst (-1), 1), (.if_icmp .ne 7, 3), (.iconst 2, 1), (.goto 4, 3)]),
  (69, [(.iconst 0, 1)]),
  (70, [(.ireturn, 1)]),
  (71, [(.iconst 0, 1), (.ireturn, 1)])]
def cf_X12_takeKey : Instr → Option rx_C := rx_lkc [(346, (4, some 11, 0, 0, f_X12_nameOf))] [] []
def f_X12_takeKey : rx_F := rx_fn (rx_lkk kC_X12) (rx_lkf fL_X12) (rx_lkf fP_X12) (rx_lkg gS_X12) (rx_lkg fG_X12) (rx_lkw nW_X12) cf_X12_takeKey (some .int) 0 0 3 kd_X12_takeKey rx_fu
theorem m_X12_takeKey (l : Launch) : rx_M l yX12_takeKey (Cond.code yX12_takeKey cX12_takeKey 3 (some .int) :: rx_WT) { frames := 2, cells := 0, slots := 0, locals := 52 } f_X12_takeKey := rx_met rx_fu (by decide +kernel) kC_X12_ok gS_X12_ok fG_X12_ok fL_X12_ok (fP_X12_ok _) nW_X12_ok rx_ar (by decide +kernel) (rx_lkc_of (rx_n1 (rx_caV 3 11 (m_X12_nameOf l) w_X12_nameOf_c w_X12_nameOf_n (rx_in 1906 (by decide +kernel) rfl) w_X12_nameOf_i w_X12_nameOf_s w_X12_nameOf_d (by decide) rfl rfl) rx_n0) rx_n0 rx_n0)
theorem w_X12_takeKey_c : Cond.code yX12_takeKey cX12_takeKey 3 (some .int) ∈ rx_WT := rx_in 2070 (by decide +kernel) rfl
theorem w_X12_takeKey_n : Cond.initialized yX12_takeKey.cls ∈ rx_WT := rx_in 209 (by decide +kernel) rfl
theorem w_X12_takeKey_i : Cond.instanceMethod yX12_takeKey ∈ rx_WT := rx_in 2069 (by decide +kernel) rfl
theorem w_X12_takeKey_s : Cond.selects yX12_takeKey.cls yX12_takeKey yX12_takeKey ∈ rx_WT := rx_in 142 (by decide +kernel) rfl
theorem w_X12_takeKey_d : yX12_takeKey.cls ≠ "java/lang/invoke/MethodHandle" ∧ yX12_takeKey.cls ≠ "java/lang/invoke/VarHandle" ∧ (parseMethodDescriptor yX12_takeKey.desc).map (fun d => d.parameters.length) = some 2 := by decide +kernel
def kd_X12_hasRoom : List (Nat × List (Instr × Nat)) := [(0, [(.iload_n 1, 1), (.ifCond .eq 39, 3), (.aload_n 0, 1), (.iload_n 1, 1), (.aload_n 0, 1), (.getfield 399, 3), (.aload_n 0, 1), (.getfield 402, 3), (.invokevirtual 396, 3), (.iconst (-1), 1), (.if_icmp .ne 18, 3), (.aload_n 0, 1), (.getfield 22, 3), (.iload_n 1, 1), (.iaload, 1), (.aload_n 0, 1), (.getfield 19, 3), (.iload_n 1, 1), (.iaload, 1), (.if_icmp .ge 7, 3)]),
  (36, [(.iconst 1, 1), (.goto 4, 3)]),
  (40, [(.iconst 0, 1)]),
  (41, [(.ireturn, 1)])]
def cf_X12_hasRoom : Instr → Option rx_C := rx_lkc [(396, (4, some 11, 0, 0, f_X12_pairOf))] [] []
def f_X12_hasRoom : rx_F := rx_fn (rx_lkk kC_X12) (rx_lkf fL_X12) (rx_lkf fP_X12) (rx_lkg gS_X12) (rx_lkg fG_X12) (rx_lkw nW_X12) cf_X12_hasRoom (some .boolean) 0 0 2 kd_X12_hasRoom rx_fu
theorem m_X12_hasRoom (l : Launch) : rx_M l yX12_hasRoom (Cond.code yX12_hasRoom cX12_hasRoom 2 (some .boolean) :: rx_WT) { frames := 1, cells := 0, slots := 0, locals := 26 } f_X12_hasRoom := rx_met rx_fu (by decide +kernel) kC_X12_ok gS_X12_ok fG_X12_ok fL_X12_ok (fP_X12_ok _) nW_X12_ok rx_ar (by decide +kernel) (rx_lkc_of (rx_n1 (rx_caV 3 11 (m_X12_pairOf l) w_X12_pairOf_c w_X12_pairOf_n (rx_in 2071 (by decide +kernel) rfl) w_X12_pairOf_i w_X12_pairOf_s w_X12_pairOf_d (by decide) rfl rfl) rx_n0) rx_n0 rx_n0)
theorem w_X12_hasRoom_c : Cond.code yX12_hasRoom cX12_hasRoom 2 (some .boolean) ∈ rx_WT := rx_in 2086 (by decide +kernel) rfl
theorem w_X12_hasRoom_n : Cond.initialized yX12_hasRoom.cls ∈ rx_WT := rx_in 209 (by decide +kernel) rfl
theorem w_X12_hasRoom_i : Cond.instanceMethod yX12_hasRoom ∈ rx_WT := rx_in 2085 (by decide +kernel) rfl
theorem w_X12_hasRoom_s : Cond.selects yX12_hasRoom.cls yX12_hasRoom yX12_hasRoom ∈ rx_WT := rx_in 146 (by decide +kernel) rfl
theorem w_X12_hasRoom_d : yX12_hasRoom.cls ≠ "java/lang/invoke/MethodHandle" ∧ yX12_hasRoom.cls ≠ "java/lang/invoke/VarHandle" ∧ (parseMethodDescriptor yX12_hasRoom.desc).map (fun d => d.parameters.length) = some 1 := by decide +kernel
def kd_X12_define : List (Nat × List (Instr × Nat)) := [(0, [(.aload_n 0, 1), (.iload_n 1, 1), (.aload_n 0, 1), (.getfield 399, 3), (.aload_n 0, 1), (.getfield 402, 3), (.invokevirtual 396, 3), (.istore 4, 2), (.iload 4, 2), (.iconst (-1), 1), (.if_icmp .ne 54, 3), (.bipush 80, 2), (.iload_n 1, 1), (.imul, 1), (.aload_n 0, 1), (.getfield 22, 3), (.iload_n 1, 1), (.iaload, 1), (.iadd, 1), (.istore 4, 2), (.aload_n 0, 1), (.getfield 22, 3), (.iload_n 1, 1), (.dup2, 1), (.iaload, 1), (.iconst 1, 1), (.iadd, 1), (.iastore, 1), (.aload_n 0, 1), (.getfield 25, 3), (.iconst 2, 1), (.iload 4, 2), (.imul, 1), (.aload_n 0, 1), (.getfield 399, 3), (.iastore, 1), (.aload_n 0, 1), (.getfield 25, 3), (.iconst 2, 1), (.iload 4, 2), (.imul, 1), (.iconst 1, 1), (.iadd, 1), (.aload_n 0, 1), (.getfield 402, 3), (.iastore, 1)]),
  (72, [(.aload_n 2, 1), (.iload_n 3, 1), (.aload_n 0, 1), (.getfield 28, 3), (.iload 4, 2), (.invokestatic 374, 3), (.return_, 1)])]
def cf_X12_define : Instr → Option rx_C := rx_lkc [(396, (4, some 11, 0, 0, f_X12_pairOf))] [(374, (4, none, 0, 0, f_X12_copy))] []
def f_X12_define : rx_F := rx_fn (rx_lkk kC_X12) (rx_lkf fL_X12) (rx_lkf fP_X12) (rx_lkg gS_X12) (rx_lkg fG_X12) (rx_lkw nW_X12) cf_X12_define none 0 0 5 kd_X12_define rx_fu
theorem m_X12_define (l : Launch) : rx_M l yX12_define (Cond.code yX12_define cX12_define 5 none :: rx_WT) { frames := 1, cells := 0, slots := 0, locals := 26 } f_X12_define := rx_met rx_fu (by decide +kernel) kC_X12_ok gS_X12_ok fG_X12_ok fL_X12_ok (fP_X12_ok _) nW_X12_ok rx_ar (by decide +kernel) (rx_lkc_of (rx_n1 (rx_caV 3 11 (m_X12_pairOf l) w_X12_pairOf_c w_X12_pairOf_n (rx_in 2071 (by decide +kernel) rfl) w_X12_pairOf_i w_X12_pairOf_s w_X12_pairOf_d (by decide) rfl rfl) rx_n0) (rx_n1 (rx_caS 4 (m_X12_copy l) w_X12_copy_c w_X12_copy_n (rx_in 1891 (by decide +kernel) rfl) w_X12_copy_t w_X12_copy_d (by decide)) rx_n0) rx_n0)
theorem w_X12_define_c : Cond.code yX12_define cX12_define 5 none ∈ rx_WT := rx_in 2090 (by decide +kernel) rfl
theorem w_X12_define_n : Cond.initialized yX12_define.cls ∈ rx_WT := rx_in 209 (by decide +kernel) rfl
theorem w_X12_define_i : Cond.instanceMethod yX12_define ∈ rx_WT := rx_in 2089 (by decide +kernel) rfl
theorem w_X12_define_s : Cond.selects yX12_define.cls yX12_define yX12_define ∈ rx_WT := rx_in 147 (by decide +kernel) rfl
theorem w_X12_define_d : yX12_define.cls ≠ "java/lang/invoke/MethodHandle" ∧ yX12_define.cls ≠ "java/lang/invoke/VarHandle" ∧ (parseMethodDescriptor yX12_define.desc).map (fun d => d.parameters.length) = some 3 := by decide +kernel
def kd_X12_remove : List (Nat × List (Instr × Nat)) := [(0, [(.aload_n 0, 1), (.iload_n 1, 1), (.aload_n 0, 1), (.getfield 399, 3), (.aload_n 0, 1), (.getfield 402, 3), (.invokevirtual 396, 3), (.istore_n 2, 1), (.iload_n 2, 1), (.iconst (-1), 1), (.if_icmp .ne 4, 3), (.return_, 1)]),
  (20, [(.aload_n 0, 1), (.getfield 22, 3), (.iload_n 1, 1), (.dup2, 1), (.iaload, 1), (.iconst 1, 1), (.isub, 1), (.iastore, 1), (.iload_n 2, 1), (.istore_n 3, 1)]),
  (32, [(.iload_n 3, 1), (.bipush 80, 2), (.iload_n 1, 1), (.imul, 1), (.aload_n 0, 1), (.getfield 22, 3), (.iload_n 1, 1), (.iaload, 1), (.iadd, 1), (.if_icmp .ge 62, 3), (.aload_n 0, 1), (.getfield 25, 3), (.iconst 2, 1), (.iload_n 3, 1), (.imul, 1), (.aload_n 0, 1), (.getfield 25, 3), (.iconst 2, 1), (.iload_n 3, 1), (.imul, 1), (.iconst 2, 1), (.iadd, 1), (.iaload, 1), (.iastore, 1), (.aload_n 0, 1), (.getfield 25, 3), (.iconst 2, 1), (.iload_n 3, 1), (.imul, 1), (.iconst 1, 1), (.iadd, 1), (.aload_n 0, 1), (.getfield 25, 3), (.iconst 2, 1), (.iload_n 3, 1), (.imul, 1), (.iconst 3, 1), (.iadd, 1), (.iaload, 1), (.iastore, 1), (.aload_n 0, 1), (.getfield 28, 3), (.iload_n 3, 1), (.iconst 1, 1), (.iadd, 1), (.aload_n 0, 1), (.getfield 28, 3), (.iload_n 3, 1), (.invokestatic 374, 3), (.iinc 3 1, 3), (.goto (-71), 3)]),
  (106, [(.return_, 1)])]
def cf_X12_remove : Instr → Option rx_C := rx_lkc [(396, (4, some 11, 0, 0, f_X12_pairOf))] [(374, (4, none, 0, 0, f_X12_copy))] []
def f_X12_remove : rx_F := rx_fn (rx_lkk kC_X12) (rx_lkf fL_X12) (rx_lkf fP_X12) (rx_lkg gS_X12) (rx_lkg fG_X12) (rx_lkw nW_X12) cf_X12_remove none 0 0 4 kd_X12_remove rx_fu
theorem m_X12_remove (l : Launch) : rx_M l yX12_remove (Cond.code yX12_remove cX12_remove 4 none :: rx_WT) { frames := 1, cells := 0, slots := 0, locals := 26 } f_X12_remove := rx_met rx_fu (by decide +kernel) kC_X12_ok gS_X12_ok fG_X12_ok fL_X12_ok (fP_X12_ok _) nW_X12_ok rx_ar (by decide +kernel) (rx_lkc_of (rx_n1 (rx_caV 3 11 (m_X12_pairOf l) w_X12_pairOf_c w_X12_pairOf_n (rx_in 2071 (by decide +kernel) rfl) w_X12_pairOf_i w_X12_pairOf_s w_X12_pairOf_d (by decide) rfl rfl) rx_n0) (rx_n1 (rx_caS 4 (m_X12_copy l) w_X12_copy_c w_X12_copy_n (rx_in 1891 (by decide +kernel) rfl) w_X12_copy_t w_X12_copy_d (by decide)) rx_n0) rx_n0)
theorem w_X12_remove_c : Cond.code yX12_remove cX12_remove 4 none ∈ rx_WT := rx_in 2146 (by decide +kernel) rfl
theorem w_X12_remove_n : Cond.initialized yX12_remove.cls ∈ rx_WT := rx_in 209 (by decide +kernel) rfl
theorem w_X12_remove_i : Cond.instanceMethod yX12_remove ∈ rx_WT := rx_in 2145 (by decide +kernel) rfl
theorem w_X12_remove_s : Cond.selects yX12_remove.cls yX12_remove yX12_remove ∈ rx_WT := rx_in 161 (by decide +kernel) rfl
theorem w_X12_remove_d : yX12_remove.cls ≠ "java/lang/invoke/MethodHandle" ∧ yX12_remove.cls ≠ "java/lang/invoke/VarHandle" ∧ (parseMethodDescriptor yX12_remove.desc).map (fun d => d.parameters.length) = some 1 := by decide +kernel
def kd_X12_makeDictionary : List (Nat × List (Instr × Nat)) := [(0, [(.aload_n 0, 1), (.getfield 19, 3), (.aload_n 0, 1), (.getfield 302, 3), (.iload_n 1, 1), (.iastore, 1), (.aload_n 0, 1), (.getfield 22, 3), (.aload_n 0, 1), (.getfield 302, 3), (.iconst 0, 1), (.iastore, 1), (.aload_n 0, 1), (.dup, 1), (.getfield 302, 3), (.iconst 1, 1), (.iadd, 1), (.putfield 302, 3), (.aload_n 0, 1), (.getfield 302, 3), (.iconst 1, 1), (.isub, 1), (.ireturn, 1)])]
def cf_X12_makeDictionary : Instr → Option rx_C := rx_lkc [] [] []
def f_X12_makeDictionary : rx_F := rx_fn (rx_lkk kC_X12) (rx_lkf fL_X12) (rx_lkf fP_X12) (rx_lkg gS_X12) (rx_lkg fG_X12) (rx_lkw nW_X12) cf_X12_makeDictionary (some .int) 0 0 2 kd_X12_makeDictionary rx_fu
theorem m_X12_makeDictionary (l : Launch) : rx_M l yX12_makeDictionary (Cond.code yX12_makeDictionary cX12_makeDictionary 2 (some .int) :: rx_WT) { frames := 0, cells := 0, slots := 0, locals := 0 } f_X12_makeDictionary := rx_met rx_fu (by decide +kernel) kC_X12_ok gS_X12_ok fG_X12_ok fL_X12_ok (fP_X12_ok _) nW_X12_ok rx_ar (by decide +kernel) (rx_lkc_of rx_n0 rx_n0 rx_n0)
theorem w_X12_makeDictionary_c : Cond.code yX12_makeDictionary cX12_makeDictionary 2 (some .int) ∈ rx_WT := rx_in 2122 (by decide +kernel) rfl
theorem w_X12_makeDictionary_n : Cond.initialized yX12_makeDictionary.cls ∈ rx_WT := rx_in 209 (by decide +kernel) rfl
theorem w_X12_makeDictionary_i : Cond.instanceMethod yX12_makeDictionary ∈ rx_WT := rx_in 2121 (by decide +kernel) rfl
theorem w_X12_makeDictionary_s : Cond.selects yX12_makeDictionary.cls yX12_makeDictionary yX12_makeDictionary ∈ rx_WT := rx_in 155 (by decide +kernel) rfl
theorem w_X12_makeDictionary_d : yX12_makeDictionary.cls ≠ "java/lang/invoke/MethodHandle" ∧ yX12_makeDictionary.cls ≠ "java/lang/invoke/VarHandle" ∧ (parseMethodDescriptor yX12_makeDictionary.desc).map (fun d => d.parameters.length) = some 1 := by decide +kernel
def kd_X12_unwind : List (Nat × List (Instr × Nat)) := [(0, [(.iconst 1, 1), (.istore_n 2, 1)]),
  (2, [(.iload_n 2, 1), (.ifCond .eq 89, 3)]),
  (6, [(.aload_n 0, 1), (.getfield 290, 3), (.ifCond .le 34, 3), (.aload_n 0, 1), (.getfield 46, 3), (.bipush 12, 2), (.aload_n 0, 1), (.getfield 290, 3), (.iconst 1, 1), (.isub, 1), (.imul, 1), (.iaload, 1), (.iconst 2, 1), (.if_icmp .eq 16, 3), (.aload_n 0, 1), (.dup, 1), (.getfield 290, 3), (.iconst 1, 1), (.isub, 1), (.putfield 290, 3), (.goto (-35), 3)]),
  (44, [(.aload_n 0, 1), (.getfield 290, 3), (.ifCond .ne 9, 3), (.aload_n 0, 1), (.iload_n 1, 1), (.putfield 405, 3), (.return_, 1)]),
  (57, [(.aload_n 0, 1), (.dup, 1), (.getfield 290, 3), (.iconst 1, 1), (.isub, 1), (.putfield 290, 3), (.aload_n 0, 1), (.iconst 1, 1), (.invokevirtual 408, 3), (.istore_n 2, 1), (.iload_n 2, 1), (.ifCond .eq (-72), 3), (.aload_n 0, 1), (.bipush 13, 2), (.putfield 281, 3), (.aload_n 0, 1), (.bipush 65, 2), (.putfield 284, 3), (.goto (-87), 3)]),
  (92, [(.aload_n 0, 1), (.iconst 1, 1), (.invokevirtual 411, 3), (.return_, 1)])]
def cf_X12_unwind : Instr → Option rx_C := rx_lkc [(408, (2, some 11, 0, 0, f_X12_isFull)), (411, (2, some 11, 0, 0, f_X12_pushBool))] [] []
def f_X12_unwind : rx_F := rx_fn (rx_lkk kC_X12) (rx_lkf fL_X12) (rx_lkf fP_X12) (rx_lkg gS_X12) (rx_lkg fG_X12) (rx_lkw nW_X12) cf_X12_unwind none 0 0 3 kd_X12_unwind rx_fu
theorem m_X12_unwind (l : Launch) : rx_M l yX12_unwind (Cond.code yX12_unwind cX12_unwind 3 none :: rx_WT) { frames := 3, cells := 0, slots := 0, locals := 73 } f_X12_unwind := rx_met rx_fu (by decide +kernel) kC_X12_ok gS_X12_ok fG_X12_ok fL_X12_ok (fP_X12_ok _) nW_X12_ok rx_ar (by decide +kernel) (rx_lkc_of (rx_n1 (rx_caV 1 11 (m_X12_isFull l) w_X12_isFull_c w_X12_isFull_n (rx_in 1948 (by decide +kernel) rfl) w_X12_isFull_i w_X12_isFull_s w_X12_isFull_d (by decide) rfl rfl) (rx_n1 (rx_caV 1 11 (m_X12_pushBool l) w_X12_pushBool_c w_X12_pushBool_n (rx_in 1952 (by decide +kernel) rfl) w_X12_pushBool_i w_X12_pushBool_s w_X12_pushBool_d (by decide) rfl rfl) rx_n0)) rx_n0 rx_n0)
theorem w_X12_unwind_c : Cond.code yX12_unwind cX12_unwind 3 none ∈ rx_WT := rx_in 1947 (by decide +kernel) rfl
theorem w_X12_unwind_n : Cond.initialized yX12_unwind.cls ∈ rx_WT := rx_in 209 (by decide +kernel) rfl
theorem w_X12_unwind_i : Cond.instanceMethod yX12_unwind ∈ rx_WT := rx_in 1946 (by decide +kernel) rfl
theorem w_X12_unwind_s : Cond.selects yX12_unwind.cls yX12_unwind yX12_unwind ∈ rx_WT := rx_in 112 (by decide +kernel) rfl
theorem w_X12_unwind_d : yX12_unwind.cls ≠ "java/lang/invoke/MethodHandle" ∧ yX12_unwind.cls ≠ "java/lang/invoke/VarHandle" ∧ (parseMethodDescriptor yX12_unwind.desc).map (fun d => d.parameters.length) = some 1 := by decide +kernel
def kd_X12_fail : List (Nat × List (Instr × Nat)) := [(0, [(.aload_n 0, 1), (.iload_n 1, 1), (.putfield 281, 3), (.aload_n 0, 1), (.iload_n 2, 1), (.putfield 284, 3), (.aload_n 0, 1), (.iconst 2, 1), (.invokevirtual 415, 3), (.return_, 1)])]
def cf_X12_fail : Instr → Option rx_C := rx_lkc [(415, (2, some 11, 0, 0, f_X12_unwind))] [] []
def f_X12_fail : rx_F := rx_fn (rx_lkk kC_X12) (rx_lkf fL_X12) (rx_lkf fP_X12) (rx_lkg gS_X12) (rx_lkg fG_X12) (rx_lkw nW_X12) cf_X12_fail none 0 0 3 kd_X12_fail rx_fu
theorem m_X12_fail (l : Launch) : rx_M l yX12_fail (Cond.code yX12_fail cX12_fail 3 none :: rx_WT) { frames := 4, cells := 0, slots := 0, locals := 95 } f_X12_fail := rx_met rx_fu (by decide +kernel) kC_X12_ok gS_X12_ok fG_X12_ok fL_X12_ok (fP_X12_ok _) nW_X12_ok rx_ar (by decide +kernel) (rx_lkc_of (rx_n1 (rx_caV 1 11 (m_X12_unwind l) w_X12_unwind_c w_X12_unwind_n (rx_in 1944 (by decide +kernel) rfl) w_X12_unwind_i w_X12_unwind_s w_X12_unwind_d (by decide) rfl rfl) rx_n0) rx_n0 rx_n0)
theorem w_X12_fail_c : Cond.code yX12_fail cX12_fail 3 none ∈ rx_WT := rx_in 1943 (by decide +kernel) rfl
theorem w_X12_fail_n : Cond.initialized yX12_fail.cls ∈ rx_WT := rx_in 209 (by decide +kernel) rfl
theorem w_X12_fail_i : Cond.instanceMethod yX12_fail ∈ rx_WT := rx_in 1942 (by decide +kernel) rfl
theorem w_X12_fail_s : Cond.selects yX12_fail.cls yX12_fail yX12_fail ∈ rx_WT := rx_in 111 (by decide +kernel) rfl
theorem w_X12_fail_d : yX12_fail.cls ≠ "java/lang/invoke/MethodHandle" ∧ yX12_fail.cls ≠ "java/lang/invoke/VarHandle" ∧ (parseMethodDescriptor yX12_fail.desc).map (fun d => d.parameters.length) = some 2 := by decide +kernel
def kd_X12_hasDepth : List (Nat × List (Instr × Nat)) := [(0, [(.aload_n 0, 1), (.getfield 290, 3), (.iload_n 1, 1), (.iadd, 1), (.bipush 24, 2), (.if_icmp .gt 7, 3), (.iconst 1, 1), (.goto 4, 3)]),
  (15, [(.iconst 0, 1)]),
  (16, [(.ireturn, 1)])]
def cf_X12_hasDepth : Instr → Option rx_C := rx_lkc [] [] []
def f_X12_hasDepth : rx_F := rx_fn (rx_lkk kC_X12) (rx_lkf fL_X12) (rx_lkf fP_X12) (rx_lkg gS_X12) (rx_lkg fG_X12) (rx_lkw nW_X12) cf_X12_hasDepth (some .boolean) 0 0 2 kd_X12_hasDepth rx_fu
theorem m_X12_hasDepth (l : Launch) : rx_M l yX12_hasDepth (Cond.code yX12_hasDepth cX12_hasDepth 2 (some .boolean) :: rx_WT) { frames := 0, cells := 0, slots := 0, locals := 0 } f_X12_hasDepth := rx_met rx_fu (by decide +kernel) kC_X12_ok gS_X12_ok fG_X12_ok fL_X12_ok (fP_X12_ok _) nW_X12_ok rx_ar (by decide +kernel) (rx_lkc_of rx_n0 rx_n0 rx_n0)
theorem w_X12_hasDepth_c : Cond.code yX12_hasDepth cX12_hasDepth 2 (some .boolean) ∈ rx_WT := rx_in 2174 (by decide +kernel) rfl
theorem w_X12_hasDepth_n : Cond.initialized yX12_hasDepth.cls ∈ rx_WT := rx_in 209 (by decide +kernel) rfl
theorem w_X12_hasDepth_i : Cond.instanceMethod yX12_hasDepth ∈ rx_WT := rx_in 2173 (by decide +kernel) rfl
theorem w_X12_hasDepth_s : Cond.selects yX12_hasDepth.cls yX12_hasDepth yX12_hasDepth ∈ rx_WT := rx_in 168 (by decide +kernel) rfl
theorem w_X12_hasDepth_d : yX12_hasDepth.cls ≠ "java/lang/invoke/MethodHandle" ∧ yX12_hasDepth.cls ≠ "java/lang/invoke/VarHandle" ∧ (parseMethodDescriptor yX12_hasDepth.desc).map (fun d => d.parameters.length) = some 1 := by decide +kernel
def kd_X12_enter : List (Nat × List (Instr × Nat)) := [(0, [(.aload_n 1, 1), (.iconst 5, 1), (.iload_n 2, 1), (.imul, 1), (.iconst 3, 1), (.iadd, 1), (.iaload, 1), (.ifCond .ne 4, 3), (.return_, 1)]),
  (11, [(.aload_n 0, 1), (.getfield 46, 3), (.bipush 12, 2), (.aload_n 0, 1), (.getfield 290, 3), (.imul, 1), (.iconst 1, 1), (.iastore, 1), (.aload_n 0, 1), (.getfield 46, 3), (.bipush 12, 2), (.aload_n 0, 1), (.getfield 290, 3), (.imul, 1), (.iconst 1, 1), (.iadd, 1), (.aload_n 1, 1), (.iconst 5, 1), (.iload_n 2, 1), (.imul, 1), (.iconst 1, 1), (.iadd, 1), (.iaload, 1), (.iastore, 1), (.aload_n 0, 1), (.getfield 46, 3), (.bipush 12, 2), (.aload_n 0, 1), (.getfield 290, 3), (.imul, 1), (.iconst 2, 1), (.iadd, 1), (.aload_n 1, 1), (.iconst 5, 1), (.iload_n 2, 1), (.imul, 1), (.iconst 3, 1), (.iadd, 1), (.iaload, 1), (.iastore, 1), (.aload_n 0, 1), (.getfield 46, 3), (.bipush 12, 2), (.aload_n 0, 1), (.getfield 290, 3), (.imul, 1), (.iconst 3, 1), (.iadd, 1), (.iconst 0, 1), (.iastore, 1), (.aload_n 0, 1), (.dup, 1), (.getfield 290, 3), (.iconst 1, 1), (.iadd, 1), (.putfield 290, 3), (.return_, 1)])]
def cf_X12_enter : Instr → Option rx_C := rx_lkc [] [] []
def f_X12_enter : rx_F := rx_fn (rx_lkk kC_X12) (rx_lkf fL_X12) (rx_lkf fP_X12) (rx_lkg gS_X12) (rx_lkg fG_X12) (rx_lkw nW_X12) cf_X12_enter none 0 0 3 kd_X12_enter rx_fu
theorem m_X12_enter (l : Launch) : rx_M l yX12_enter (Cond.code yX12_enter cX12_enter 3 none :: rx_WT) { frames := 0, cells := 0, slots := 0, locals := 0 } f_X12_enter := rx_met rx_fu (by decide +kernel) kC_X12_ok gS_X12_ok fG_X12_ok fL_X12_ok (fP_X12_ok _) nW_X12_ok rx_ar (by decide +kernel) (rx_lkc_of rx_n0 rx_n0 rx_n0)
theorem w_X12_enter_c : Cond.code yX12_enter cX12_enter 3 none ∈ rx_WT := rx_in 2182 (by decide +kernel) rfl
theorem w_X12_enter_n : Cond.initialized yX12_enter.cls ∈ rx_WT := rx_in 209 (by decide +kernel) rfl
theorem w_X12_enter_i : Cond.instanceMethod yX12_enter ∈ rx_WT := rx_in 2181 (by decide +kernel) rfl
theorem w_X12_enter_s : Cond.selects yX12_enter.cls yX12_enter yX12_enter ∈ rx_WT := rx_in 170 (by decide +kernel) rfl
theorem w_X12_enter_d : yX12_enter.cls ≠ "java/lang/invoke/MethodHandle" ∧ yX12_enter.cls ≠ "java/lang/invoke/VarHandle" ∧ (parseMethodDescriptor yX12_enter.desc).map (fun d => d.parameters.length) = some 2 := by decide +kernel
def kd_X12_put : List (Nat × List (Instr × Nat)) := [(0, [(.aload_n 0, 1), (.iconst 1, 1), (.invokevirtual 408, 3), (.ifCond .eq 13, 3), (.aload_n 0, 1), (.bipush 13, 2), (.iload_n 3, 1), (.invokevirtual 423, 3), (.goto 26, 3)]),
  (18, [(.aload_n 1, 1), (.iload_n 2, 1), (.aload_n 0, 1), (.getfield 13, 3), (.aload_n 0, 1), (.getfield 266, 3), (.invokestatic 374, 3), (.aload_n 0, 1), (.dup, 1), (.getfield 266, 3), (.iconst 1, 1), (.iadd, 1), (.putfield 266, 3)]),
  (41, [(.return_, 1)])]
def cf_X12_put : Instr → Option rx_C := rx_lkc [(408, (2, some 11, 0, 0, f_X12_isFull)), (423, (3, some 11, 0, 0, f_X12_fail))] [(374, (4, none, 0, 0, f_X12_copy))] []
def f_X12_put : rx_F := rx_fn (rx_lkk kC_X12) (rx_lkf fL_X12) (rx_lkf fP_X12) (rx_lkg gS_X12) (rx_lkg fG_X12) (rx_lkw nW_X12) cf_X12_put none 0 0 4 kd_X12_put rx_fu
theorem m_X12_put (l : Launch) : rx_M l yX12_put (Cond.code yX12_put cX12_put 4 none :: rx_WT) { frames := 5, cells := 0, slots := 0, locals := 117 } f_X12_put := rx_met rx_fu (by decide +kernel) kC_X12_ok gS_X12_ok fG_X12_ok fL_X12_ok (fP_X12_ok _) nW_X12_ok rx_ar (by decide +kernel) (rx_lkc_of (rx_n1 (rx_caV 1 11 (m_X12_isFull l) w_X12_isFull_c w_X12_isFull_n (rx_in 1948 (by decide +kernel) rfl) w_X12_isFull_i w_X12_isFull_s w_X12_isFull_d (by decide) rfl rfl) (rx_n1 (rx_caV 2 11 (m_X12_fail l) w_X12_fail_c w_X12_fail_n (rx_in 1940 (by decide +kernel) rfl) w_X12_fail_i w_X12_fail_s w_X12_fail_d (by decide) rfl rfl) rx_n0)) (rx_n1 (rx_caS 4 (m_X12_copy l) w_X12_copy_c w_X12_copy_n (rx_in 1891 (by decide +kernel) rfl) w_X12_copy_t w_X12_copy_d (by decide)) rx_n0) rx_n0)
theorem w_X12_put_c : Cond.code yX12_put cX12_put 4 none ∈ rx_WT := rx_in 2254 (by decide +kernel) rfl
theorem w_X12_put_n : Cond.initialized yX12_put.cls ∈ rx_WT := rx_in 209 (by decide +kernel) rfl
theorem w_X12_put_i : Cond.instanceMethod yX12_put ∈ rx_WT := rx_in 2253 (by decide +kernel) rfl
theorem w_X12_put_s : Cond.selects yX12_put.cls yX12_put yX12_put ∈ rx_WT := rx_in 187 (by decide +kernel) rfl
theorem w_X12_put_d : yX12_put.cls ≠ "java/lang/invoke/MethodHandle" ∧ yX12_put.cls ≠ "java/lang/invoke/VarHandle" ∧ (parseMethodDescriptor yX12_put.desc).map (fun d => d.parameters.length) = some 3 := by decide +kernel
def kd_X12_follow : List (Nat × List (Instr × Nat)) := [(0, [(.aload_n 0, 1), (.getfield 62, 3), (.iconst 1, 1), (.iaload, 1), (.istore_n 1, 1), (.aload_n 0, 1), (.iconst 4, 1), (.iload_n 1, 1), (.invokevirtual 419, 3), (.istore_n 2, 1), (.iload_n 2, 1), (.iconst (-1), 1), (.if_icmp .ne 11, 3), (.aload_n 0, 1), (.iconst 5, 1), (.iload_n 1, 1), (.invokevirtual 423, 3), (.iconst 0, 1), (.ireturn, 1)]),
  (27, [(.aload_n 0, 1), (.getfield 28, 3), (.iconst 5, 1), (.iload_n 2, 1), (.imul, 1), (.iaload, 1), (.istore_n 3, 1), (.aload_n 0, 1), (.getfield 28, 3), (.iconst 5, 1), (.iload_n 2, 1), (.imul, 1), (.iconst 2, 1), (.iadd, 1), (.iaload, 1), (.iconst 1, 1), (.if_icmp .ne 7, 3), (.iconst 1, 1), (.goto 4, 3)]),
  (54, [(.iconst 0, 1)]),
  (55, [(.istore 4, 2), (.iload_n 3, 1), (.iconst 5, 1), (.if_icmp .ne 36, 3), (.iload 4, 2), (.ifCond .eq 31, 3), (.aload_n 0, 1), (.iconst 1, 1), (.invokevirtual 427, 3), (.ifCond .eq 15, 3), (.aload_n 0, 1), (.aload_n 0, 1), (.getfield 28, 3), (.iload_n 2, 1), (.invokevirtual 430, 3), (.goto 9, 3)]),
  (87, [(.aload_n 0, 1), (.iconst 2, 1), (.iload_n 1, 1), (.invokevirtual 423, 3)]),
  (93, [(.iconst 0, 1), (.ireturn, 1)]),
  (95, [(.iload_n 3, 1), (.iconst 4, 1), (.if_icmp .ne 39, 3), (.iload 4, 2), (.ifCond .eq 34, 3), (.aload_n 0, 1), (.getfield 287, 3), (.aload_n 0, 1), (.getfield 434, 3), (.if_icmp .ne 10, 3), (.aload_n 0, 1), (.iconst 1, 1), (.putfield 405, 3), (.iconst 0, 1), (.ireturn, 1)]),
  (123, [(.aload_n 0, 1), (.dup, 1), (.getfield 287, 3), (.iconst 1, 1), (.iadd, 1), (.putfield 287, 3), (.goto 21, 3)]),
  (136, [(.iload_n 3, 1), (.bipush 8, 2), (.if_icmp .eq 15, 3), (.aload_n 0, 1), (.aload_n 0, 1), (.getfield 28, 3), (.iload_n 2, 1), (.iload_n 1, 1), (.invokevirtual 437, 3), (.iconst 0, 1), (.ireturn, 1)]),
  (154, [(.aload_n 0, 1), (.getfield 28, 3), (.iload_n 2, 1), (.aload_n 0, 1), (.getfield 62, 3), (.iconst 0, 1), (.invokestatic 374, 3), (.iconst 1, 1), (.ireturn, 1)])]
def cf_X12_follow : Instr → Option rx_C := rx_lkc [(419, (3, some 11, 0, 0, f_X12_find)), (423, (3, some 11, 0, 0, f_X12_fail)), (427, (2, some 11, 0, 0, f_X12_hasDepth)), (430, (3, some 11, 0, 0, f_X12_enter)), (437, (4, some 11, 0, 0, f_X12_put))] [(374, (4, none, 0, 0, f_X12_copy))] []
def f_X12_follow : rx_F := rx_fn (rx_lkk kC_X12) (rx_lkf fL_X12) (rx_lkf fP_X12) (rx_lkg gS_X12) (rx_lkg fG_X12) (rx_lkw nW_X12) cf_X12_follow (some .boolean) 0 0 5 kd_X12_follow rx_fu
theorem m_X12_follow (l : Launch) : rx_M l yX12_follow (Cond.code yX12_follow cX12_follow 5 (some .boolean) :: rx_WT) { frames := 6, cells := 0, slots := 0, locals := 140 } f_X12_follow := rx_met rx_fu (by decide +kernel) kC_X12_ok gS_X12_ok fG_X12_ok fL_X12_ok (fP_X12_ok _) nW_X12_ok rx_ar (by decide +kernel) (rx_lkc_of (rx_n1 (rx_caV 2 11 (m_X12_find l) w_X12_find_c w_X12_find_n (rx_in 2139 (by decide +kernel) rfl) w_X12_find_i w_X12_find_s w_X12_find_d (by decide) rfl rfl) (rx_n1 (rx_caV 2 11 (m_X12_fail l) w_X12_fail_c w_X12_fail_n (rx_in 1940 (by decide +kernel) rfl) w_X12_fail_i w_X12_fail_s w_X12_fail_d (by decide) rfl rfl) (rx_n1 (rx_caV 1 11 (m_X12_hasDepth l) w_X12_hasDepth_c w_X12_hasDepth_n (rx_in 2171 (by decide +kernel) rfl) w_X12_hasDepth_i w_X12_hasDepth_s w_X12_hasDepth_d (by decide) rfl rfl) (rx_n1 (rx_caV 2 11 (m_X12_enter l) w_X12_enter_c w_X12_enter_n (rx_in 2179 (by decide +kernel) rfl) w_X12_enter_i w_X12_enter_s w_X12_enter_d (by decide) rfl rfl) (rx_n1 (rx_caV 3 11 (m_X12_put l) w_X12_put_c w_X12_put_n (rx_in 2251 (by decide +kernel) rfl) w_X12_put_i w_X12_put_s w_X12_put_d (by decide) rfl rfl) rx_n0))))) (rx_n1 (rx_caS 4 (m_X12_copy l) w_X12_copy_c w_X12_copy_n (rx_in 1891 (by decide +kernel) rfl) w_X12_copy_t w_X12_copy_d (by decide)) rx_n0) rx_n0)
theorem w_X12_follow_c : Cond.code yX12_follow cX12_follow 5 (some .boolean) ∈ rx_WT := rx_in 2250 (by decide +kernel) rfl
theorem w_X12_follow_n : Cond.initialized yX12_follow.cls ∈ rx_WT := rx_in 209 (by decide +kernel) rfl
theorem w_X12_follow_i : Cond.instanceMethod yX12_follow ∈ rx_WT := rx_in 2249 (by decide +kernel) rfl
theorem w_X12_follow_s : Cond.selects yX12_follow.cls yX12_follow yX12_follow ∈ rx_WT := rx_in 186 (by decide +kernel) rfl
theorem w_X12_follow_d : yX12_follow.cls ≠ "java/lang/invoke/MethodHandle" ∧ yX12_follow.cls ≠ "java/lang/invoke/VarHandle" ∧ (parseMethodDescriptor yX12_follow.desc).map (fun d => d.parameters.length) = some 0 := by decide +kernel
def kd_X12_swap : List (Nat × List (Instr × Nat)) := [(0, [(.iconst 0, 1), (.istore_n 3, 1)]),
  (2, [(.iload_n 3, 1), (.iconst 5, 1), (.if_icmp .ge 53, 3), (.aload_n 0, 1), (.getfield 13, 3), (.iconst 5, 1), (.iload_n 1, 1), (.imul, 1), (.iload_n 3, 1), (.iadd, 1), (.iaload, 1), (.istore 4, 2), (.aload_n 0, 1), (.getfield 13, 3), (.iconst 5, 1), (.iload_n 1, 1), (.imul, 1), (.iload_n 3, 1), (.iadd, 1), (.aload_n 0, 1), (.getfield 13, 3), (.iconst 5, 1), (.iload_n 2, 1), (.imul, 1), (.iload_n 3, 1), (.iadd, 1), (.iaload, 1), (.iastore, 1), (.aload_n 0, 1), (.getfield 13, 3), (.iconst 5, 1), (.iload_n 2, 1), (.imul, 1), (.iload_n 3, 1), (.iadd, 1), (.iload 4, 2), (.iastore, 1), (.iinc 3 1, 3), (.goto (-52), 3)]),
  (57, [(.return_, 1)])]
def cf_X12_swap : Instr → Option rx_C := rx_lkc [] [] []
def f_X12_swap : rx_F := rx_fn (rx_lkk kC_X12) (rx_lkf fL_X12) (rx_lkf fP_X12) (rx_lkg gS_X12) (rx_lkg fG_X12) (rx_lkw nW_X12) cf_X12_swap none 0 0 5 kd_X12_swap rx_fu
theorem m_X12_swap (l : Launch) : rx_M l yX12_swap (Cond.code yX12_swap cX12_swap 5 none :: rx_WT) { frames := 0, cells := 0, slots := 0, locals := 0 } f_X12_swap := rx_met rx_fu (by decide +kernel) kC_X12_ok gS_X12_ok fG_X12_ok fL_X12_ok (fP_X12_ok _) nW_X12_ok rx_ar (by decide +kernel) (rx_lkc_of rx_n0 rx_n0 rx_n0)
theorem w_X12_swap_c : Cond.code yX12_swap cX12_swap 5 none ∈ rx_WT := rx_in 1979 (by decide +kernel) rfl
theorem w_X12_swap_n : Cond.initialized yX12_swap.cls ∈ rx_WT := rx_in 209 (by decide +kernel) rfl
theorem w_X12_swap_i : Cond.instanceMethod yX12_swap ∈ rx_WT := rx_in 1978 (by decide +kernel) rfl
theorem w_X12_swap_s : Cond.selects yX12_swap.cls yX12_swap yX12_swap ∈ rx_WT := rx_in 120 (by decide +kernel) rfl
theorem w_X12_swap_d : yX12_swap.cls ≠ "java/lang/invoke/MethodHandle" ∧ yX12_swap.cls ≠ "java/lang/invoke/VarHandle" ∧ (parseMethodDescriptor yX12_swap.desc).map (fun d => d.parameters.length) = some 2 := by decide +kernel
def kd_X12_roll : List (Nat × List (Instr × Nat)) := [(0, [(.aload_n 0, 1), (.getfield 266, 3), (.iconst 2, 1), (.if_icmp .ge 5, 3), (.iconst 3, 1), (.ireturn, 1)]),
  (10, [(.aload_n 0, 1), (.iconst 0, 1), (.invokevirtual 316, 3), (.iconst 1, 1), (.if_icmp .ne 12, 3), (.aload_n 0, 1), (.iconst 1, 1), (.invokevirtual 316, 3), (.iconst 1, 1), (.if_icmp .eq 5, 3)]),
  (28, [(.iconst 4, 1), (.ireturn, 1)]),
  (30, [(.aload_n 0, 1), (.iconst 0, 1), (.invokevirtual 510, 3), (.istore_n 1, 1), (.aload_n 0, 1), (.iconst 1, 1), (.invokevirtual 510, 3), (.istore_n 2, 1), (.aload_n 0, 1), (.getfield 266, 3), (.iconst 2, 1), (.isub, 1), (.istore_n 3, 1), (.iload_n 2, 1), (.ifCond .ge 6, 3), (.bipush 6, 2), (.ireturn, 1)]),
  (56, [(.iload_n 2, 1), (.iload_n 3, 1), (.if_icmp .le 5, 3), (.iconst 3, 1), (.ireturn, 1)]),
  (63, [(.aload_n 0, 1), (.iload_n 3, 1), (.putfield 266, 3), (.iload_n 2, 1), (.ifCond .ne 7, 3), (.iconst 0, 1), (.goto 10, 3)]),
  (76, [(.iload_n 1, 1), (.iload_n 2, 1), (.irem, 1), (.iload_n 2, 1), (.iadd, 1), (.iload_n 2, 1), (.irem, 1)]),
  (83, [(.istore 4, 2), (.iconst 0, 1), (.istore 5, 2)]),
  (88, [(.iload 5, 2), (.iload_n 2, 1), (.if_icmp .ge 33, 3), (.aload_n 0, 1), (.getfield 13, 3), (.iload_n 3, 1), (.iload_n 2, 1), (.isub, 1), (.iload 5, 2), (.iadd, 1), (.aload_n 0, 1), (.getfield 56, 3), (.iload 5, 2), (.iload 4, 2), (.iadd, 1), (.iload_n 2, 1), (.irem, 1), (.invokestatic 374, 3), (.iinc 5 1, 3), (.goto (-33), 3)]),
  (124, [(.iconst 0, 1), (.istore 5, 2)]),
  (127, [(.iload 5, 2), (.iload_n 2, 1), (.if_icmp .ge 28, 3), (.aload_n 0, 1), (.getfield 56, 3), (.iload 5, 2), (.aload_n 0, 1), (.getfield 13, 3), (.iload_n 3, 1), (.iload_n 2, 1), (.isub, 1), (.iload 5, 2), (.iadd, 1), (.invokestatic 374, 3), (.iinc 5 1, 3), (.goto (-28), 3)]),
  (158, [(.iconst 0, 1), (.ireturn, 1)])]
def cf_X12_roll : Instr → Option rx_C := rx_lkc [(316, (2, some 11, 0, 0, f_X12_kindAt)), (510, (2, some 11, 0, 0, f_X12_valueAt))] [(374, (4, none, 0, 0, f_X12_copy))] []
def f_X12_roll : rx_F := rx_fn (rx_lkk kC_X12) (rx_lkf fL_X12) (rx_lkf fP_X12) (rx_lkg gS_X12) (rx_lkg fG_X12) (rx_lkw nW_X12) cf_X12_roll (some .int) 0 0 6 kd_X12_roll rx_fu
theorem m_X12_roll (l : Launch) : rx_M l yX12_roll (Cond.code yX12_roll cX12_roll 6 (some .int) :: rx_WT) { frames := 2, cells := 0, slots := 0, locals := 42 } f_X12_roll := rx_met rx_fu (by decide +kernel) kC_X12_ok gS_X12_ok fG_X12_ok fL_X12_ok (fP_X12_ok _) nW_X12_ok rx_ar (by decide +kernel) (rx_lkc_of (rx_n1 (rx_caV 1 11 (m_X12_kindAt l) w_X12_kindAt_c w_X12_kindAt_n (rx_in 1984 (by decide +kernel) rfl) w_X12_kindAt_i w_X12_kindAt_s w_X12_kindAt_d (by decide) rfl rfl) (rx_n1 (rx_caV 1 11 (m_X12_valueAt l) w_X12_valueAt_c w_X12_valueAt_n (rx_in 1988 (by decide +kernel) rfl) w_X12_valueAt_i w_X12_valueAt_s w_X12_valueAt_d (by decide) rfl rfl) rx_n0)) (rx_n1 (rx_caS 4 (m_X12_copy l) w_X12_copy_c w_X12_copy_n (rx_in 1891 (by decide +kernel) rfl) w_X12_copy_t w_X12_copy_d (by decide)) rx_n0) rx_n0)
theorem w_X12_roll_c : Cond.code yX12_roll cX12_roll 6 (some .int) ∈ rx_WT := rx_in 1983 (by decide +kernel) rfl
theorem w_X12_roll_n : Cond.initialized yX12_roll.cls ∈ rx_WT := rx_in 209 (by decide +kernel) rfl
theorem w_X12_roll_i : Cond.instanceMethod yX12_roll ∈ rx_WT := rx_in 1982 (by decide +kernel) rfl
theorem w_X12_roll_s : Cond.selects yX12_roll.cls yX12_roll yX12_roll ∈ rx_WT := rx_in 121 (by decide +kernel) rfl
theorem w_X12_roll_d : yX12_roll.cls ≠ "java/lang/invoke/MethodHandle" ∧ yX12_roll.cls ≠ "java/lang/invoke/VarHandle" ∧ (parseMethodDescriptor yX12_roll.desc).map (fun d => d.parameters.length) = some 0 := by decide +kernel
def kd_X12_copyOrIndex : List (Nat × List (Instr × Nat)) := [(0, [(.aload_n 0, 1), (.getfield 266, 3), (.iconst 1, 1), (.if_icmp .ge 5, 3), (.iconst 3, 1), (.ireturn, 1)]),
  (10, [(.aload_n 0, 1), (.iconst 0, 1), (.invokevirtual 316, 3), (.iconst 1, 1), (.if_icmp .eq 5, 3), (.iconst 4, 1), (.ireturn, 1)]),
  (21, [(.aload_n 0, 1), (.iconst 0, 1), (.invokevirtual 510, 3), (.istore_n 2, 1), (.aload_n 0, 1), (.getfield 266, 3), (.iconst 1, 1), (.isub, 1), (.istore_n 3, 1), (.iload_n 2, 1), (.ifCond .ge 6, 3), (.bipush 6, 2), (.ireturn, 1)]),
  (41, [(.iload_n 1, 1), (.ifCond .eq 11, 3), (.iload_n 2, 1), (.iload_n 3, 1), (.if_icmp .le 13, 3), (.goto 8, 3)]),
  (53, [(.iload_n 2, 1), (.iload_n 3, 1), (.if_icmp .lt 5, 3)]),
  (58, [(.iconst 3, 1), (.ireturn, 1)]),
  (60, [(.iload_n 1, 1), (.ifCond .ne 22, 3), (.aload_n 0, 1), (.getfield 13, 3), (.iload_n 3, 1), (.iconst 1, 1), (.isub, 1), (.iload_n 2, 1), (.isub, 1), (.aload_n 0, 1), (.getfield 13, 3), (.iload_n 3, 1), (.invokestatic 374, 3), (.iconst 0, 1), (.ireturn, 1)]),
  (83, [(.iload_n 3, 1), (.iload_n 2, 1), (.iadd, 1), (.bipush 60, 2), (.if_icmp .le 6, 3), (.bipush 13, 2), (.ireturn, 1)]),
  (94, [(.iconst 0, 1), (.istore 4, 2)]),
  (97, [(.iload 4, 2), (.iload_n 2, 1), (.if_icmp .ge 30, 3), (.aload_n 0, 1), (.getfield 13, 3), (.iload_n 3, 1), (.iload_n 2, 1), (.isub, 1), (.iload 4, 2), (.iadd, 1), (.aload_n 0, 1), (.getfield 13, 3), (.iload_n 3, 1), (.iload 4, 2), (.iadd, 1), (.invokestatic 374, 3), (.iinc 4 1, 3), (.goto (-30), 3)]),
  (130, [(.aload_n 0, 1), (.iload_n 3, 1), (.iload_n 2, 1), (.iadd, 1), (.putfield 266, 3), (.iconst 0, 1), (.ireturn, 1)])]
def cf_X12_copyOrIndex : Instr → Option rx_C := rx_lkc [(316, (2, some 11, 0, 0, f_X12_kindAt)), (510, (2, some 11, 0, 0, f_X12_valueAt))] [(374, (4, none, 0, 0, f_X12_copy))] []
def f_X12_copyOrIndex : rx_F := rx_fn (rx_lkk kC_X12) (rx_lkf fL_X12) (rx_lkf fP_X12) (rx_lkg gS_X12) (rx_lkg fG_X12) (rx_lkw nW_X12) cf_X12_copyOrIndex (some .int) 0 0 5 kd_X12_copyOrIndex rx_fu
theorem m_X12_copyOrIndex (l : Launch) : rx_M l yX12_copyOrIndex (Cond.code yX12_copyOrIndex cX12_copyOrIndex 5 (some .int) :: rx_WT) { frames := 2, cells := 0, slots := 0, locals := 42 } f_X12_copyOrIndex := rx_met rx_fu (by decide +kernel) kC_X12_ok gS_X12_ok fG_X12_ok fL_X12_ok (fP_X12_ok _) nW_X12_ok rx_ar (by decide +kernel) (rx_lkc_of (rx_n1 (rx_caV 1 11 (m_X12_kindAt l) w_X12_kindAt_c w_X12_kindAt_n (rx_in 1984 (by decide +kernel) rfl) w_X12_kindAt_i w_X12_kindAt_s w_X12_kindAt_d (by decide) rfl rfl) (rx_n1 (rx_caV 1 11 (m_X12_valueAt l) w_X12_valueAt_c w_X12_valueAt_n (rx_in 1988 (by decide +kernel) rfl) w_X12_valueAt_i w_X12_valueAt_s w_X12_valueAt_d (by decide) rfl rfl) rx_n0)) (rx_n1 (rx_caS 4 (m_X12_copy l) w_X12_copy_c w_X12_copy_n (rx_in 1891 (by decide +kernel) rfl) w_X12_copy_t w_X12_copy_d (by decide)) rx_n0) rx_n0)
theorem w_X12_copyOrIndex_c : Cond.code yX12_copyOrIndex cX12_copyOrIndex 5 (some .int) ∈ rx_WT := rx_in 1995 (by decide +kernel) rfl
theorem w_X12_copyOrIndex_n : Cond.initialized yX12_copyOrIndex.cls ∈ rx_WT := rx_in 209 (by decide +kernel) rfl
theorem w_X12_copyOrIndex_i : Cond.instanceMethod yX12_copyOrIndex ∈ rx_WT := rx_in 1994 (by decide +kernel) rfl
theorem w_X12_copyOrIndex_s : Cond.selects yX12_copyOrIndex.cls yX12_copyOrIndex yX12_copyOrIndex ∈ rx_WT := rx_in 124 (by decide +kernel) rfl
theorem w_X12_copyOrIndex_d : yX12_copyOrIndex.cls ≠ "java/lang/invoke/MethodHandle" ∧ yX12_copyOrIndex.cls ≠ "java/lang/invoke/VarHandle" ∧ (parseMethodDescriptor yX12_copyOrIndex.desc).map (fun d => d.parameters.length) = some 1 := by decide +kernel
def kd_X12_topMark : List (Nat × List (Instr × Nat)) := [(0, [(.aload_n 0, 1), (.getfield 266, 3), (.iconst 1, 1), (.isub, 1), (.istore_n 1, 1)]),
  (7, [(.iload_n 1, 1), (.ifCond .lt 21, 3), (.aload_n 0, 1), (.getfield 13, 3), (.iconst 5, 1), (.iload_n 1, 1), (.imul, 1), (.iaload, 1), (.iconst 3, 1), (.if_icmp .eq 9, 3), (.iinc 1 (-1), 3), (.goto (-19), 3)]),
  (29, [(.iload_n 1, 1), (.ireturn, 1)])]
def cf_X12_topMark : Instr → Option rx_C := rx_lkc [] [] []
def f_X12_topMark : rx_F := rx_fn (rx_lkk kC_X12) (rx_lkf fL_X12) (rx_lkf fP_X12) (rx_lkg gS_X12) (rx_lkg fG_X12) (rx_lkw nW_X12) cf_X12_topMark (some .int) 0 0 2 kd_X12_topMark rx_fu
theorem m_X12_topMark (l : Launch) : rx_M l yX12_topMark (Cond.code yX12_topMark cX12_topMark 2 (some .int) :: rx_WT) { frames := 0, cells := 0, slots := 0, locals := 0 } f_X12_topMark := rx_met rx_fu (by decide +kernel) kC_X12_ok gS_X12_ok fG_X12_ok fL_X12_ok (fP_X12_ok _) nW_X12_ok rx_ar (by decide +kernel) (rx_lkc_of rx_n0 rx_n0 rx_n0)
theorem w_X12_topMark_c : Cond.code yX12_topMark cX12_topMark 2 (some .int) ∈ rx_WT := rx_in 1999 (by decide +kernel) rfl
theorem w_X12_topMark_n : Cond.initialized yX12_topMark.cls ∈ rx_WT := rx_in 209 (by decide +kernel) rfl
theorem w_X12_topMark_i : Cond.instanceMethod yX12_topMark ∈ rx_WT := rx_in 1998 (by decide +kernel) rfl
theorem w_X12_topMark_s : Cond.selects yX12_topMark.cls yX12_topMark yX12_topMark ∈ rx_WT := rx_in 125 (by decide +kernel) rfl
theorem w_X12_topMark_d : yX12_topMark.cls ≠ "java/lang/invoke/MethodHandle" ∧ yX12_topMark.cls ≠ "java/lang/invoke/VarHandle" ∧ (parseMethodDescriptor yX12_topMark.desc).map (fun d => d.parameters.length) = some 0 := by decide +kernel
def kd_X12_onStack : List (Nat × List (Instr × Nat)) := [(0, [(.iload_n 1, 1), (.iconst 3, 1), (.if_icmp .ge 104, 3), (.aload_n 0, 1), (.getfield 266, 3), (.iload_n 1, 1), (.iconst 1, 1), (.if_icmp .ne 7, 3), (.iconst 2, 1), (.goto 4, 3)]),
  (18, [(.iconst 1, 1)]),
  (19, [(.if_icmp .ge 5, 3), (.iconst 3, 1), (.ireturn, 1)]),
  (24, [(.iload_n 1, 1), (.ifCond .ne 16, 3), (.aload_n 0, 1), (.dup, 1), (.getfield 266, 3), (.iconst 1, 1), (.isub, 1), (.putfield 266, 3), (.goto 66, 3)]),
  (41, [(.iload_n 1, 1), (.iconst 1, 1), (.if_icmp .ne 20, 3), (.aload_n 0, 1), (.aload_n 0, 1), (.iconst 0, 1), (.invokevirtual 312, 3), (.aload_n 0, 1), (.iconst 1, 1), (.invokevirtual 312, 3), (.invokevirtual 494, 3), (.goto 44, 3)]),
  (63, [(.aload_n 0, 1), (.iconst 1, 1), (.invokevirtual 408, 3), (.ifCond .eq 6, 3), (.bipush 13, 2), (.ireturn, 1)]),
  (74, [(.aload_n 0, 1), (.getfield 13, 3), (.aload_n 0, 1), (.iconst 0, 1), (.invokevirtual 312, 3), (.aload_n 0, 1), (.getfield 13, 3), (.aload_n 0, 1), (.getfield 266, 3), (.invokestatic 374, 3), (.aload_n 0, 1), (.dup, 1), (.getfield 266, 3), (.iconst 1, 1), (.iadd, 1), (.putfield 266, 3)]),
  (104, [(.iconst 0, 1), (.ireturn, 1)]),
  (106, [(.iload_n 1, 1), (.bipush 6, 2), (.if_icmp .ge 30, 3), (.iload_n 1, 1), (.iconst 5, 1), (.if_icmp .ne 10, 3), (.aload_n 0, 1), (.invokevirtual 497, 3), (.goto 17, 3)]),
  (124, [(.aload_n 0, 1), (.iload_n 1, 1), (.iconst 3, 1), (.if_icmp .ne 7, 3), (.iconst 1, 1), (.goto 4, 3)]),
  (134, [(.iconst 0, 1)]),
  (135, [(.invokevirtual 500, 3)]),
  (138, [(.ireturn, 1)]),
  (139, [(.iload_n 1, 1), (.bipush 6, 2), (.if_icmp .ne 10, 3), (.aload_n 0, 1), (.iconst 0, 1), (.putfield 266, 3), (.iconst 0, 1), (.ireturn, 1)]),
  (152, [(.iload_n 1, 1), (.bipush 11, 2), (.if_icmp .eq 9, 3), (.iload_n 1, 1), (.bipush 12, 2), (.if_icmp .ne 54, 3)]),
  (164, [(.aload_n 0, 1), (.invokevirtual 504, 3), (.istore_n 2, 1), (.iload_n 2, 1), (.iconst (-1), 1), (.if_icmp .ne 6, 3), (.bipush 8, 2), (.ireturn, 1)]),
  (177, [(.iload_n 1, 1), (.bipush 11, 2), (.if_icmp .ne 10, 3), (.aload_n 0, 1), (.iload_n 2, 1), (.putfield 266, 3), (.iconst 0, 1), (.ireturn, 1)]),
  (190, [(.aload_n 0, 1), (.iconst 1, 1), (.invokevirtual 408, 3), (.ifCond .eq 6, 3), (.bipush 13, 2), (.ireturn, 1)]),
  (201, [(.aload_n 0, 1), (.aload_n 0, 1), (.getfield 266, 3), (.iconst 1, 1), (.isub, 1), (.iload_n 2, 1), (.isub, 1), (.invokevirtual 507, 3), (.iconst 0, 1), (.ireturn, 1)]),
  (215, [(.aload_n 0, 1), (.iconst 1, 1), (.invokevirtual 408, 3), (.ifCond .eq 6, 3), (.bipush 13, 2), (.ireturn, 1)]),
  (226, [(.iload_n 1, 1), (.bipush 7, 2), (.if_icmp .ne 14, 3), (.aload_n 0, 1), (.aload_n 0, 1), (.getfield 266, 3), (.invokevirtual 507, 3), (.goto 12, 3)]),
  (243, [(.aload_n 0, 1), (.iconst 3, 1), (.iconst 0, 1), (.iconst 0, 1), (.iconst 0, 1), (.iconst 0, 1), (.invokevirtual 319, 3)]),
  (252, [(.iconst 0, 1), (.ireturn, 1)])]
def cf_X12_onStack : Instr → Option rx_C := rx_lkc [(312, (2, some 11, 0, 0, f_X12_top)), (494, (3, some 11, 0, 0, f_X12_swap)), (408, (2, some 11, 0, 0, f_X12_isFull)), (497, (1, some 11, 0, 0, f_X12_roll)), (500, (2, some 11, 0, 0, f_X12_copyOrIndex)), (504, (1, some 11, 0, 0, f_X12_topMark)), (507, (2, some 11, 0, 0, f_X12_pushNumber)), (319, (6, some 11, 0, 0, f_X12_push))] [(374, (4, none, 0, 0, f_X12_copy))] []
def f_X12_onStack : rx_F := rx_fn (rx_lkk kC_X12) (rx_lkf fL_X12) (rx_lkf fP_X12) (rx_lkg gS_X12) (rx_lkg fG_X12) (rx_lkw nW_X12) cf_X12_onStack (some .int) 0 0 3 kd_X12_onStack rx_fu
theorem m_X12_onStack (l : Launch) : rx_M l yX12_onStack (Cond.code yX12_onStack cX12_onStack 3 (some .int) :: rx_WT) { frames := 3, cells := 0, slots := 0, locals := 73 } f_X12_onStack := rx_met rx_fu (by decide +kernel) kC_X12_ok gS_X12_ok fG_X12_ok fL_X12_ok (fP_X12_ok _) nW_X12_ok rx_ar (by decide +kernel) (rx_lkc_of (rx_n1 (rx_caV 1 11 (m_X12_top l) w_X12_top_c w_X12_top_n (rx_in 1972 (by decide +kernel) rfl) w_X12_top_i w_X12_top_s w_X12_top_d (by decide) rfl rfl) (rx_n1 (rx_caV 2 11 (m_X12_swap l) w_X12_swap_c w_X12_swap_n (rx_in 1976 (by decide +kernel) rfl) w_X12_swap_i w_X12_swap_s w_X12_swap_d (by decide) rfl rfl) (rx_n1 (rx_caV 1 11 (m_X12_isFull l) w_X12_isFull_c w_X12_isFull_n (rx_in 1948 (by decide +kernel) rfl) w_X12_isFull_i w_X12_isFull_s w_X12_isFull_d (by decide) rfl rfl) (rx_n1 (rx_caV 0 11 (m_X12_roll l) w_X12_roll_c w_X12_roll_n (rx_in 1980 (by decide +kernel) rfl) w_X12_roll_i w_X12_roll_s w_X12_roll_d (by decide) rfl rfl) (rx_n1 (rx_caV 1 11 (m_X12_copyOrIndex l) w_X12_copyOrIndex_c w_X12_copyOrIndex_n (rx_in 1992 (by decide +kernel) rfl) w_X12_copyOrIndex_i w_X12_copyOrIndex_s w_X12_copyOrIndex_d (by decide) rfl rfl) (rx_n1 (rx_caV 0 11 (m_X12_topMark l) w_X12_topMark_c w_X12_topMark_n (rx_in 1996 (by decide +kernel) rfl) w_X12_topMark_i w_X12_topMark_s w_X12_topMark_d (by decide) rfl rfl) (rx_n1 (rx_caV 1 11 (m_X12_pushNumber l) w_X12_pushNumber_c w_X12_pushNumber_n (rx_in 2000 (by decide +kernel) rfl) w_X12_pushNumber_i w_X12_pushNumber_s w_X12_pushNumber_d (by decide) rfl rfl) (rx_n1 (rx_caV 5 11 (m_X12_push l) w_X12_push_c w_X12_push_n (rx_in 1956 (by decide +kernel) rfl) w_X12_push_i w_X12_push_s w_X12_push_d (by decide) rfl rfl) rx_n0)))))))) (rx_n1 (rx_caS 4 (m_X12_copy l) w_X12_copy_c w_X12_copy_n (rx_in 1891 (by decide +kernel) rfl) w_X12_copy_t w_X12_copy_d (by decide)) rx_n0) rx_n0)
theorem w_X12_onStack_c : Cond.code yX12_onStack cX12_onStack 3 (some .int) ∈ rx_WT := rx_in 1971 (by decide +kernel) rfl
theorem w_X12_onStack_n : Cond.initialized yX12_onStack.cls ∈ rx_WT := rx_in 209 (by decide +kernel) rfl
theorem w_X12_onStack_i : Cond.instanceMethod yX12_onStack ∈ rx_WT := rx_in 1970 (by decide +kernel) rfl
theorem w_X12_onStack_s : Cond.selects yX12_onStack.cls yX12_onStack yX12_onStack ∈ rx_WT := rx_in 118 (by decide +kernel) rfl
theorem w_X12_onStack_d : yX12_onStack.cls ≠ "java/lang/invoke/MethodHandle" ∧ yX12_onStack.cls ≠ "java/lang/invoke/VarHandle" ∧ (parseMethodDescriptor yX12_onStack.desc).map (fun d => d.parameters.length) = some 1 := by decide +kernel
def kd_X12_twoNumbers : List (Nat × List (Instr × Nat)) := [(0, [(.aload_n 0, 1), (.getfield 266, 3), (.iconst 2, 1), (.if_icmp .ge 5, 3), (.iconst 3, 1), (.ireturn, 1)]),
  (10, [(.aload_n 0, 1), (.iconst 0, 1), (.invokevirtual 316, 3), (.iconst 1, 1), (.if_icmp .ne 12, 3), (.aload_n 0, 1), (.iconst 1, 1), (.invokevirtual 316, 3), (.iconst 1, 1), (.if_icmp .eq 5, 3)]),
  (28, [(.iconst 4, 1), (.ireturn, 1)]),
  (30, [(.aload_n 0, 1), (.iconst 0, 1), (.invokevirtual 510, 3), (.istore_n 2, 1), (.aload_n 0, 1), (.iconst 1, 1), (.invokevirtual 510, 3), (.istore_n 3, 1), (.iload_n 1, 1), (.bipush 16, 2), (.if_icmp .lt 10, 3), (.iload_n 2, 1), (.ifCond .ne 6, 3), (.bipush 7, 2), (.ireturn, 1)]),
  (55, [(.aload_n 0, 1), (.aload_n 0, 1), (.getfield 266, 3), (.iconst 2, 1), (.isub, 1), (.putfield 266, 3), (.aload_n 0, 1), (.iload_n 1, 1), (.bipush 13, 2), (.if_icmp .ne 9, 3), (.iload_n 3, 1), (.iload_n 2, 1), (.iadd, 1), (.goto 42, 3)]),
  (78, [(.iload_n 1, 1), (.bipush 14, 2), (.if_icmp .ne 9, 3), (.iload_n 3, 1), (.iload_n 2, 1), (.isub, 1), (.goto 30, 3)]),
  (90, [(.iload_n 1, 1), (.bipush 15, 2), (.if_icmp .ne 9, 3), (.iload_n 3, 1), (.iload_n 2, 1), (.imul, 1), (.goto 18, 3)]),
  (102, [(.iload_n 1, 1), (.bipush 16, 2), (.if_icmp .ne 9, 3), (.iload_n 3, 1), (.iload_n 2, 1), (.idiv, 1), (.goto 6, 3)]),
  (114, [(.iload_n 3, 1), (.iload_n 2, 1), (.irem, 1)]),
  (117, [(.invokevirtual 507, 3), (.iconst 0, 1), (.ireturn, 1)])]
def cf_X12_twoNumbers : Instr → Option rx_C := rx_lkc [(316, (2, some 11, 0, 0, f_X12_kindAt)), (510, (2, some 11, 0, 0, f_X12_valueAt)), (507, (2, some 11, 0, 0, f_X12_pushNumber))] [] []
def f_X12_twoNumbers : rx_F := rx_fn (rx_lkk kC_X12) (rx_lkf fL_X12) (rx_lkf fP_X12) (rx_lkg gS_X12) (rx_lkg fG_X12) (rx_lkw nW_X12) cf_X12_twoNumbers (some .int) 0 0 4 kd_X12_twoNumbers rx_fu
theorem m_X12_twoNumbers (l : Launch) : rx_M l yX12_twoNumbers (Cond.code yX12_twoNumbers cX12_twoNumbers 4 (some .int) :: rx_WT) { frames := 3, cells := 0, slots := 0, locals := 73 } f_X12_twoNumbers := rx_met rx_fu (by decide +kernel) kC_X12_ok gS_X12_ok fG_X12_ok fL_X12_ok (fP_X12_ok _) nW_X12_ok rx_ar (by decide +kernel) (rx_lkc_of (rx_n1 (rx_caV 1 11 (m_X12_kindAt l) w_X12_kindAt_c w_X12_kindAt_n (rx_in 1984 (by decide +kernel) rfl) w_X12_kindAt_i w_X12_kindAt_s w_X12_kindAt_d (by decide) rfl rfl) (rx_n1 (rx_caV 1 11 (m_X12_valueAt l) w_X12_valueAt_c w_X12_valueAt_n (rx_in 1988 (by decide +kernel) rfl) w_X12_valueAt_i w_X12_valueAt_s w_X12_valueAt_d (by decide) rfl rfl) (rx_n1 (rx_caV 1 11 (m_X12_pushNumber l) w_X12_pushNumber_c w_X12_pushNumber_n (rx_in 2000 (by decide +kernel) rfl) w_X12_pushNumber_i w_X12_pushNumber_s w_X12_pushNumber_d (by decide) rfl rfl) rx_n0))) rx_n0 rx_n0)
theorem w_X12_twoNumbers_c : Cond.code yX12_twoNumbers cX12_twoNumbers 4 (some .int) ∈ rx_WT := rx_in 2007 (by decide +kernel) rfl
theorem w_X12_twoNumbers_n : Cond.initialized yX12_twoNumbers.cls ∈ rx_WT := rx_in 209 (by decide +kernel) rfl
theorem w_X12_twoNumbers_i : Cond.instanceMethod yX12_twoNumbers ∈ rx_WT := rx_in 2006 (by decide +kernel) rfl
theorem w_X12_twoNumbers_s : Cond.selects yX12_twoNumbers.cls yX12_twoNumbers yX12_twoNumbers ∈ rx_WT := rx_in 127 (by decide +kernel) rfl
theorem w_X12_twoNumbers_d : yX12_twoNumbers.cls ≠ "java/lang/invoke/MethodHandle" ∧ yX12_twoNumbers.cls ≠ "java/lang/invoke/VarHandle" ∧ (parseMethodDescriptor yX12_twoNumbers.desc).map (fun d => d.parameters.length) = some 1 := by decide +kernel
def kd_X12_oneNumber : List (Nat × List (Instr × Nat)) := [(0, [(.aload_n 0, 1), (.getfield 266, 3), (.iconst 1, 1), (.if_icmp .ge 5, 3), (.iconst 3, 1), (.ireturn, 1)]),
  (10, [(.aload_n 0, 1), (.iconst 0, 1), (.invokevirtual 316, 3), (.iconst 1, 1), (.if_icmp .eq 5, 3), (.iconst 4, 1), (.ireturn, 1)]),
  (21, [(.aload_n 0, 1), (.iconst 0, 1), (.invokevirtual 510, 3), (.istore_n 2, 1), (.aload_n 0, 1), (.dup, 1), (.getfield 266, 3), (.iconst 1, 1), (.isub, 1), (.putfield 266, 3), (.aload_n 0, 1), (.iload_n 1, 1), (.bipush 18, 2), (.if_icmp .eq 7, 3), (.iload_n 2, 1), (.ifCond .ge 8, 3)]),
  (48, [(.iload_n 2, 1), (.ineg, 1), (.goto 4, 3)]),
  (53, [(.iload_n 2, 1)]),
  (54, [(.invokevirtual 507, 3), (.iconst 0, 1), (.ireturn, 1)])]
def cf_X12_oneNumber : Instr → Option rx_C := rx_lkc [(316, (2, some 11, 0, 0, f_X12_kindAt)), (510, (2, some 11, 0, 0, f_X12_valueAt)), (507, (2, some 11, 0, 0, f_X12_pushNumber))] [] []
def f_X12_oneNumber : rx_F := rx_fn (rx_lkk kC_X12) (rx_lkf fL_X12) (rx_lkf fP_X12) (rx_lkg gS_X12) (rx_lkg fG_X12) (rx_lkw nW_X12) cf_X12_oneNumber (some .int) 0 0 3 kd_X12_oneNumber rx_fu
theorem m_X12_oneNumber (l : Launch) : rx_M l yX12_oneNumber (Cond.code yX12_oneNumber cX12_oneNumber 3 (some .int) :: rx_WT) { frames := 3, cells := 0, slots := 0, locals := 73 } f_X12_oneNumber := rx_met rx_fu (by decide +kernel) kC_X12_ok gS_X12_ok fG_X12_ok fL_X12_ok (fP_X12_ok _) nW_X12_ok rx_ar (by decide +kernel) (rx_lkc_of (rx_n1 (rx_caV 1 11 (m_X12_kindAt l) w_X12_kindAt_c w_X12_kindAt_n (rx_in 1984 (by decide +kernel) rfl) w_X12_kindAt_i w_X12_kindAt_s w_X12_kindAt_d (by decide) rfl rfl) (rx_n1 (rx_caV 1 11 (m_X12_valueAt l) w_X12_valueAt_c w_X12_valueAt_n (rx_in 1988 (by decide +kernel) rfl) w_X12_valueAt_i w_X12_valueAt_s w_X12_valueAt_d (by decide) rfl rfl) (rx_n1 (rx_caV 1 11 (m_X12_pushNumber l) w_X12_pushNumber_c w_X12_pushNumber_n (rx_in 2000 (by decide +kernel) rfl) w_X12_pushNumber_i w_X12_pushNumber_s w_X12_pushNumber_d (by decide) rfl rfl) rx_n0))) rx_n0 rx_n0)
theorem w_X12_oneNumber_c : Cond.code yX12_oneNumber cX12_oneNumber 3 (some .int) ∈ rx_WT := rx_in 2011 (by decide +kernel) rfl
theorem w_X12_oneNumber_n : Cond.initialized yX12_oneNumber.cls ∈ rx_WT := rx_in 209 (by decide +kernel) rfl
theorem w_X12_oneNumber_i : Cond.instanceMethod yX12_oneNumber ∈ rx_WT := rx_in 2010 (by decide +kernel) rfl
theorem w_X12_oneNumber_s : Cond.selects yX12_oneNumber.cls yX12_oneNumber yX12_oneNumber ∈ rx_WT := rx_in 128 (by decide +kernel) rfl
theorem w_X12_oneNumber_d : yX12_oneNumber.cls ≠ "java/lang/invoke/MethodHandle" ∧ yX12_oneNumber.cls ≠ "java/lang/invoke/VarHandle" ∧ (parseMethodDescriptor yX12_oneNumber.desc).map (fun d => d.parameters.length) = some 1 := by decide +kernel
def kd_X12_isWord : List (Nat × List (Instr × Nat)) := [(0, [(.aload_n 0, 1), (.iload_n 1, 1), (.invokevirtual 316, 3), (.iconst 4, 1), (.if_icmp .eq 13, 3), (.aload_n 0, 1), (.iload_n 1, 1), (.invokevirtual 316, 3), (.bipush 6, 2), (.if_icmp .ne 7, 3)]),
  (19, [(.iconst 1, 1), (.goto 4, 3)]),
  (23, [(.iconst 0, 1)]),
  (24, [(.ireturn, 1)])]
def cf_X12_isWord : Instr → Option rx_C := rx_lkc [(316, (2, some 11, 0, 0, f_X12_kindAt))] [] []
def f_X12_isWord : rx_F := rx_fn (rx_lkk kC_X12) (rx_lkf fL_X12) (rx_lkf fP_X12) (rx_lkg gS_X12) (rx_lkg fG_X12) (rx_lkw nW_X12) cf_X12_isWord (some .boolean) 0 0 2 kd_X12_isWord rx_fu
theorem m_X12_isWord (l : Launch) : rx_M l yX12_isWord (Cond.code yX12_isWord cX12_isWord 2 (some .boolean) :: rx_WT) { frames := 2, cells := 0, slots := 0, locals := 42 } f_X12_isWord := rx_met rx_fu (by decide +kernel) kC_X12_ok gS_X12_ok fG_X12_ok fL_X12_ok (fP_X12_ok _) nW_X12_ok rx_ar (by decide +kernel) (rx_lkc_of (rx_n1 (rx_caV 1 11 (m_X12_kindAt l) w_X12_kindAt_c w_X12_kindAt_n (rx_in 1984 (by decide +kernel) rfl) w_X12_kindAt_i w_X12_kindAt_s w_X12_kindAt_d (by decide) rfl rfl) rx_n0) rx_n0 rx_n0)
theorem w_X12_isWord_c : Cond.code yX12_isWord cX12_isWord 2 (some .boolean) ∈ rx_WT := rx_in 2023 (by decide +kernel) rfl
theorem w_X12_isWord_n : Cond.initialized yX12_isWord.cls ∈ rx_WT := rx_in 209 (by decide +kernel) rfl
theorem w_X12_isWord_i : Cond.instanceMethod yX12_isWord ∈ rx_WT := rx_in 2022 (by decide +kernel) rfl
theorem w_X12_isWord_s : Cond.selects yX12_isWord.cls yX12_isWord yX12_isWord ∈ rx_WT := rx_in 131 (by decide +kernel) rfl
theorem w_X12_isWord_d : yX12_isWord.cls ≠ "java/lang/invoke/MethodHandle" ∧ yX12_isWord.cls ≠ "java/lang/invoke/VarHandle" ∧ (parseMethodDescriptor yX12_isWord.desc).map (fun d => d.parameters.length) = some 1 := by decide +kernel
def kd_X12_bytesOf : List (Nat × List (Instr × Nat)) := [(0, [(.aload_n 0, 1), (.iload_n 1, 1), (.invokevirtual 316, 3), (.iconst 4, 1), (.if_icmp .ne 16, 3), (.aload_n 0, 1), (.getfield 37, 3), (.aload_n 0, 1), (.iload_n 1, 1), (.invokevirtual 510, 3), (.iaload, 1), (.goto 8, 3)]),
  (22, [(.aload_n 0, 1), (.iload_n 1, 1), (.invokevirtual 513, 3)]),
  (27, [(.ireturn, 1)])]
def cf_X12_bytesOf : Instr → Option rx_C := rx_lkc [(316, (2, some 11, 0, 0, f_X12_kindAt)), (510, (2, some 11, 0, 0, f_X12_valueAt)), (513, (2, some 11, 0, 0, f_X12_lengthAt))] [] []
def f_X12_bytesOf : rx_F := rx_fn (rx_lkk kC_X12) (rx_lkf fL_X12) (rx_lkf fP_X12) (rx_lkg gS_X12) (rx_lkg fG_X12) (rx_lkw nW_X12) cf_X12_bytesOf (some .int) 0 0 2 kd_X12_bytesOf rx_fu
theorem m_X12_bytesOf (l : Launch) : rx_M l yX12_bytesOf (Cond.code yX12_bytesOf cX12_bytesOf 2 (some .int) :: rx_WT) { frames := 2, cells := 0, slots := 0, locals := 42 } f_X12_bytesOf := rx_met rx_fu (by decide +kernel) kC_X12_ok gS_X12_ok fG_X12_ok fL_X12_ok (fP_X12_ok _) nW_X12_ok rx_ar (by decide +kernel) (rx_lkc_of (rx_n1 (rx_caV 1 11 (m_X12_kindAt l) w_X12_kindAt_c w_X12_kindAt_n (rx_in 1984 (by decide +kernel) rfl) w_X12_kindAt_i w_X12_kindAt_s w_X12_kindAt_d (by decide) rfl rfl) (rx_n1 (rx_caV 1 11 (m_X12_valueAt l) w_X12_valueAt_c w_X12_valueAt_n (rx_in 1988 (by decide +kernel) rfl) w_X12_valueAt_i w_X12_valueAt_s w_X12_valueAt_d (by decide) rfl rfl) (rx_n1 (rx_caV 1 11 (m_X12_lengthAt l) w_X12_lengthAt_c w_X12_lengthAt_n (rx_in 2032 (by decide +kernel) rfl) w_X12_lengthAt_i w_X12_lengthAt_s w_X12_lengthAt_d (by decide) rfl rfl) rx_n0))) rx_n0 rx_n0)
theorem w_X12_bytesOf_c : Cond.code yX12_bytesOf cX12_bytesOf 2 (some .int) ∈ rx_WT := rx_in 2031 (by decide +kernel) rfl
theorem w_X12_bytesOf_n : Cond.initialized yX12_bytesOf.cls ∈ rx_WT := rx_in 209 (by decide +kernel) rfl
theorem w_X12_bytesOf_i : Cond.instanceMethod yX12_bytesOf ∈ rx_WT := rx_in 2030 (by decide +kernel) rfl
theorem w_X12_bytesOf_s : Cond.selects yX12_bytesOf.cls yX12_bytesOf yX12_bytesOf ∈ rx_WT := rx_in 133 (by decide +kernel) rfl
theorem w_X12_bytesOf_d : yX12_bytesOf.cls ≠ "java/lang/invoke/MethodHandle" ∧ yX12_bytesOf.cls ≠ "java/lang/invoke/VarHandle" ∧ (parseMethodDescriptor yX12_bytesOf.desc).map (fun d => d.parameters.length) = some 1 := by decide +kernel
def kd_X12_byteOf : List (Nat × List (Instr × Nat)) := [(0, [(.aload_n 0, 1), (.iload_n 1, 1), (.invokevirtual 316, 3), (.iconst 4, 1), (.if_icmp .ne 21, 3), (.aload_n 0, 1), (.getfield 40, 3), (.bipush 16, 2), (.aload_n 0, 1), (.iload_n 1, 1), (.invokevirtual 510, 3), (.imul, 1), (.iload_n 2, 1), (.iadd, 1), (.iaload, 1), (.goto 15, 3)]),
  (27, [(.aload_n 0, 1), (.getfield 34, 3), (.aload_n 0, 1), (.iload_n 1, 1), (.invokevirtual 510, 3), (.iload_n 2, 1), (.iadd, 1), (.iaload, 1)]),
  (39, [(.ireturn, 1)])]
def cf_X12_byteOf : Instr → Option rx_C := rx_lkc [(316, (2, some 11, 0, 0, f_X12_kindAt)), (510, (2, some 11, 0, 0, f_X12_valueAt))] [] []
def f_X12_byteOf : rx_F := rx_fn (rx_lkk kC_X12) (rx_lkf fL_X12) (rx_lkf fP_X12) (rx_lkg gS_X12) (rx_lkg fG_X12) (rx_lkw nW_X12) cf_X12_byteOf (some .int) 0 0 3 kd_X12_byteOf rx_fu
theorem m_X12_byteOf (l : Launch) : rx_M l yX12_byteOf (Cond.code yX12_byteOf cX12_byteOf 3 (some .int) :: rx_WT) { frames := 2, cells := 0, slots := 0, locals := 42 } f_X12_byteOf := rx_met rx_fu (by decide +kernel) kC_X12_ok gS_X12_ok fG_X12_ok fL_X12_ok (fP_X12_ok _) nW_X12_ok rx_ar (by decide +kernel) (rx_lkc_of (rx_n1 (rx_caV 1 11 (m_X12_kindAt l) w_X12_kindAt_c w_X12_kindAt_n (rx_in 1984 (by decide +kernel) rfl) w_X12_kindAt_i w_X12_kindAt_s w_X12_kindAt_d (by decide) rfl rfl) (rx_n1 (rx_caV 1 11 (m_X12_valueAt l) w_X12_valueAt_c w_X12_valueAt_n (rx_in 1988 (by decide +kernel) rfl) w_X12_valueAt_i w_X12_valueAt_s w_X12_valueAt_d (by decide) rfl rfl) rx_n0)) rx_n0 rx_n0)
theorem w_X12_byteOf_c : Cond.code yX12_byteOf cX12_byteOf 3 (some .int) ∈ rx_WT := rx_in 2039 (by decide +kernel) rfl
theorem w_X12_byteOf_n : Cond.initialized yX12_byteOf.cls ∈ rx_WT := rx_in 209 (by decide +kernel) rfl
theorem w_X12_byteOf_i : Cond.instanceMethod yX12_byteOf ∈ rx_WT := rx_in 2038 (by decide +kernel) rfl
theorem w_X12_byteOf_s : Cond.selects yX12_byteOf.cls yX12_byteOf yX12_byteOf ∈ rx_WT := rx_in 135 (by decide +kernel) rfl
theorem w_X12_byteOf_d : yX12_byteOf.cls ≠ "java/lang/invoke/MethodHandle" ∧ yX12_byteOf.cls ≠ "java/lang/invoke/VarHandle" ∧ (parseMethodDescriptor yX12_byteOf.desc).map (fun d => d.parameters.length) = some 2 := by decide +kernel
