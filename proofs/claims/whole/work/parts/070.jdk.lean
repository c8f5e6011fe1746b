def kd_J9_floorMod_7cf53 : List (Nat × List (Instr × Nat)) := [(0, [(.iload_n 0, 1), (.iload_n 1, 1), (.irem, 1), (.istore_n 2, 1), (.iload_n 0, 1), (.iload_n 1, 1), (.ixor, 1), (.ifCond .ge 11, 3), (.iload_n 2, 1), (.ifCond .eq 7, 3), (.iload_n 2, 1), (.iload_n 1, 1), (.iadd, 1), (.ireturn, 1)]),
  (18, [(.iload_n 2, 1), (.ireturn, 1)])]
def cf_J9_floorMod_7cf53 : Instr → Option rx_C := rx_lkc [] [] []
def f_J9_floorMod_7cf53 : rx_F := rx_fn (rx_lkk kC_J9) (rx_lkf fL_J9) (rx_lkf fP_J9) (rx_lkg gS_J9) (rx_lkg fG_J9) (rx_lkw nW_J9) cf_J9_floorMod_7cf53 (some .int) 0 0 3 kd_J9_floorMod_7cf53 rx_fu
theorem m_J9_floorMod_7cf53 (l : Launch) : rx_M l yJ9_floorMod_7cf53 (Cond.code yJ9_floorMod_7cf53 cJ9_floorMod_7cf53 3 (some .int) :: rx_WT) { frames := 0, cells := 0, slots := 0, locals := 0 } f_J9_floorMod_7cf53 := rx_met rx_fu (by decide +kernel) kC_J9_ok gS_J9_ok fG_J9_ok fL_J9_ok (fP_J9_ok _) nW_J9_ok rx_ar (by decide +kernel) (rx_lkc_of rx_n0 rx_n0 rx_n0)
theorem w_J9_floorMod_7cf53_c : Cond.code yJ9_floorMod_7cf53 cJ9_floorMod_7cf53 3 (some .int) ∈ rx_WT := rx_in 1220 (by decide +kernel) rfl
theorem w_J9_floorMod_7cf53_n : Cond.initialized yJ9_floorMod_7cf53.cls ∈ rx_WT := rx_in 214 (by decide +kernel) rfl
theorem w_J9_floorMod_7cf53_t : Cond.static yJ9_floorMod_7cf53 ∈ rx_WT := rx_in 1219 (by decide +kernel) rfl
theorem w_J9_floorMod_7cf53_d : yJ9_floorMod_7cf53.cls ≠ "java/lang/invoke/MethodHandle" ∧ yJ9_floorMod_7cf53.cls ≠ "java/lang/invoke/VarHandle" ∧ (parseMethodDescriptor yJ9_floorMod_7cf53.desc).map (fun d => d.parameters.length) = some 2 := by decide +kernel
def kd_J6_compare_7cf53 : List (Nat × List (Instr × Nat)) := [(0, [(.iload_n 0, 1), (.iload_n 1, 1), (.if_icmp .ge 7, 3), (.iconst (-1), 1), (.goto 13, 3)]),
  (9, [(.iload_n 0, 1), (.iload_n 1, 1), (.if_icmp .ne 7, 3), (.iconst 0, 1), (.goto 4, 3)]),
  (18, [(.iconst 1, 1)]),
  (19, [(.ireturn, 1)])]
def cf_J6_compare_7cf53 : Instr → Option rx_C := rx_lkc [] [] []
def f_J6_compare_7cf53 : rx_F := rx_fn (rx_lkk kC_J6) (rx_lkf fL_J6) (rx_lkf fP_J6) (rx_lkg gS_J6) (rx_lkg fG_J6) (rx_lkw nW_J6) cf_J6_compare_7cf53 (some .int) 0 0 2 kd_J6_compare_7cf53 rx_fu
theorem m_J6_compare_7cf53 (l : Launch) : rx_M l yJ6_compare_7cf53 (Cond.code yJ6_compare_7cf53 cJ6_compare_7cf53 2 (some .int) :: rx_WT) { frames := 0, cells := 0, slots := 0, locals := 0 } f_J6_compare_7cf53 := rx_met rx_fu (by decide +kernel) kC_J6_ok gS_J6_ok fG_J6_ok fL_J6_ok (fP_J6_ok _) nW_J6_ok rx_ar (by decide +kernel) (rx_lkc_of rx_n0 rx_n0 rx_n0)
theorem w_J6_compare_7cf53_c : Cond.code yJ6_compare_7cf53 cJ6_compare_7cf53 2 (some .int) ∈ rx_WT := rx_in 1261 (by decide +kernel) rfl
theorem w_J6_compare_7cf53_n : Cond.initialized yJ6_compare_7cf53.cls ∈ rx_WT := rx_in 215 (by decide +kernel) rfl
theorem w_J6_compare_7cf53_t : Cond.static yJ6_compare_7cf53 ∈ rx_WT := rx_in 1260 (by decide +kernel) rfl
theorem w_J6_compare_7cf53_d : yJ6_compare_7cf53.cls ≠ "java/lang/invoke/MethodHandle" ∧ yJ6_compare_7cf53.cls ≠ "java/lang/invoke/VarHandle" ∧ (parseMethodDescriptor yJ6_compare_7cf53.desc).map (fun d => d.parameters.length) = some 2 := by decide +kernel
def kd_J0_coder_7d493 : List (Nat × List (Instr × Nat)) := [(0, [(.getstatic 38, 3), (.ifCond .eq 10, 3), (.aload_n 0, 1), (.getfield 15, 3), (.goto 4, 3)]),
  (13, [(.iconst 1, 1)]),
  (14, [(.ireturn, 1)])]
def cf_J0_coder_7d493 : Instr → Option rx_C := rx_lkc [] [] []
def f_J0_coder_7d493 : rx_F := rx_fn (rx_lkk kC_J0) (rx_lkf fL_J0) (rx_lkf fP_J0) (rx_lkg gS_J0) (rx_lkg fG_J0) (rx_lkw nW_J0) cf_J0_coder_7d493 (some .byte) 0 0 1 kd_J0_coder_7d493 rx_fu
theorem m_J0_coder_7d493 (l : Launch) : rx_M l yJ0_coder_7d493 (Cond.code yJ0_coder_7d493 cJ0_coder_7d493 1 (some .byte) :: rx_WT) { frames := 0, cells := 0, slots := 0, locals := 0 } f_J0_coder_7d493 := rx_met rx_fu (by decide +kernel) kC_J0_ok gS_J0_ok fG_J0_ok fL_J0_ok (fP_J0_ok _) nW_J0_ok rx_ar (by decide +kernel) (rx_lkc_of rx_n0 rx_n0 rx_n0)
theorem w_J0_coder_7d493_c : Cond.code yJ0_coder_7d493 cJ0_coder_7d493 1 (some .byte) ∈ rx_WT := rx_in 247 (by decide +kernel) rfl
theorem w_J0_coder_7d493_n : Cond.initialized yJ0_coder_7d493.cls ∈ rx_WT := rx_in 195 (by decide +kernel) rfl
theorem w_J0_coder_7d493_i : Cond.instanceMethod yJ0_coder_7d493 ∈ rx_WT := rx_in 245 (by decide +kernel) rfl
theorem w_J0_coder_7d493_s : Cond.selects yJ0_coder_7d493.cls yJ0_coder_7d493 yJ0_coder_7d493 ∈ rx_WT := rx_in 246 (by decide +kernel) rfl
theorem w_J0_coder_7d493_d : yJ0_coder_7d493.cls ≠ "java/lang/invoke/MethodHandle" ∧ yJ0_coder_7d493.cls ≠ "java/lang/invoke/VarHandle" ∧ (parseMethodDescriptor yJ0_coder_7d493.desc).map (fun d => d.parameters.length) = some 0 := by decide +kernel
def kd_J0_length_8abf5 : List (Nat × List (Instr × Nat)) := [(0, [(.aload_n 0, 1), (.getfield 9, 3), (.arraylength, 1), (.aload_n 0, 1), (.invokevirtual 335, 3), (.ishr, 1), (.ireturn, 1)])]
def cf_J0_length_8abf5 : Instr → Option rx_C := rx_lkc [(335, (1, some 100, 0, 0, f_J0_coder_7d493))] [] []
def f_J0_length_8abf5 : rx_F := rx_fn (rx_lkk kC_J0) (rx_lkf fL_J0) (rx_lkf fP_J0) (rx_lkg gS_J0) (rx_lkg fG_J0) (rx_lkw nW_J0) cf_J0_length_8abf5 (some .int) 0 0 1 kd_J0_length_8abf5 rx_fu
theorem m_J0_length_8abf5 (l : Launch) : rx_M l yJ0_length_8abf5 (Cond.code yJ0_length_8abf5 cJ0_length_8abf5 1 (some .int) :: rx_WT) { frames := 1, cells := 0, slots := 0, locals := 20 } f_J0_length_8abf5 := rx_met rx_fu (by decide +kernel) kC_J0_ok gS_J0_ok fG_J0_ok fL_J0_ok (fP_J0_ok _) nW_J0_ok rx_ar (by decide +kernel) (rx_lkc_of (rx_n1 (rx_caT 0 (m_J0_coder_7d493 l) w_J0_coder_7d493_c w_J0_coder_7d493_n (rx_in 244 (by decide +kernel) rfl) w_J0_coder_7d493_i w_J0_coder_7d493_s w_J0_coder_7d493_d (by decide) rfl) rx_n0) rx_n0 rx_n0)
theorem w_J0_length_8abf5_c : Cond.code yJ0_length_8abf5 cJ0_length_8abf5 1 (some .int) ∈ rx_WT := rx_in 243 (by decide +kernel) rfl
theorem w_J0_length_8abf5_n : Cond.initialized yJ0_length_8abf5.cls ∈ rx_WT := rx_in 195 (by decide +kernel) rfl
theorem w_J0_length_8abf5_i : Cond.instanceMethod yJ0_length_8abf5 ∈ rx_WT := rx_in 241 (by decide +kernel) rfl
theorem w_J0_length_8abf5_s : Cond.selects yJ0_length_8abf5.cls yJ0_length_8abf5 yJ0_length_8abf5 ∈ rx_WT := rx_in 242 (by decide +kernel) rfl
theorem w_J0_length_8abf5_d : yJ0_length_8abf5.cls ≠ "java/lang/invoke/MethodHandle" ∧ yJ0_length_8abf5.cls ≠ "java/lang/invoke/VarHandle" ∧ (parseMethodDescriptor yJ0_length_8abf5.desc).map (fun d => d.parameters.length) = some 0 := by decide +kernel
def kd_J0_isLatin1_aae02 : List (Nat × List (Instr × Nat)) := [(0, [(.getstatic 38, 3), (.ifCond .eq 14, 3), (.aload_n 0, 1), (.getfield 15, 3), (.ifCond .ne 7, 3), (.iconst 1, 1), (.goto 4, 3)]),
  (17, [(.iconst 0, 1)]),
  (18, [(.ireturn, 1)])]
def cf_J0_isLatin1_aae02 : Instr → Option rx_C := rx_lkc [] [] []
def f_J0_isLatin1_aae02 : rx_F := rx_fn (rx_lkk kC_J0) (rx_lkf fL_J0) (rx_lkf fP_J0) (rx_lkg gS_J0) (rx_lkg fG_J0) (rx_lkw nW_J0) cf_J0_isLatin1_aae02 (some .boolean) 0 0 1 kd_J0_isLatin1_aae02 rx_fu
theorem m_J0_isLatin1_aae02 (l : Launch) : rx_M l yJ0_isLatin1_aae02 (Cond.code yJ0_isLatin1_aae02 cJ0_isLatin1_aae02 1 (some .boolean) :: rx_WT) { frames := 0, cells := 0, slots := 0, locals := 0 } f_J0_isLatin1_aae02 := rx_met rx_fu (by decide +kernel) kC_J0_ok gS_J0_ok fG_J0_ok fL_J0_ok (fP_J0_ok _) nW_J0_ok rx_ar (by decide +kernel) (rx_lkc_of rx_n0 rx_n0 rx_n0)
theorem w_J0_isLatin1_aae02_c : Cond.code yJ0_isLatin1_aae02 cJ0_isLatin1_aae02 1 (some .boolean) ∈ rx_WT := rx_in 257 (by decide +kernel) rfl
theorem w_J0_isLatin1_aae02_n : Cond.initialized yJ0_isLatin1_aae02.cls ∈ rx_WT := rx_in 195 (by decide +kernel) rfl
theorem w_J0_isLatin1_aae02_i : Cond.instanceMethod yJ0_isLatin1_aae02 ∈ rx_WT := rx_in 255 (by decide +kernel) rfl
theorem w_J0_isLatin1_aae02_s : Cond.selects yJ0_isLatin1_aae02.cls yJ0_isLatin1_aae02 yJ0_isLatin1_aae02 ∈ rx_WT := rx_in 256 (by decide +kernel) rfl
theorem w_J0_isLatin1_aae02_d : yJ0_isLatin1_aae02.cls ≠ "java/lang/invoke/MethodHandle" ∧ yJ0_isLatin1_aae02.cls ≠ "java/lang/invoke/VarHandle" ∧ (parseMethodDescriptor yJ0_isLatin1_aae02.desc).map (fun d => d.parameters.length) = some 0 := by decide +kernel
def kd_J3_checkIndex_8e157 : List (Nat × List (Instr × Nat)) := [(0, [(.iload_n 0, 1), (.ifCond .lt 8, 3), (.iload_n 0, 1), (.iload_n 1, 1), (.if_icmp .lt 10, 3)]),
  (9, [(.aload_n 2, 1), (.iload_n 0, 1), (.iload_n 1, 1), (.invokestatic 95, 3), (.athrow, 1)]),
  (16, [(.iload_n 0, 1), (.ireturn, 1)])]
def cf_J3_checkIndex_8e157 : Instr → Option rx_C := rx_lkc [] [] []
def f_J3_checkIndex_8e157 : rx_F := rx_fn (rx_lkk kC_J3) (rx_lkf fL_J3) (rx_lkf fP_J3) (rx_lkg gS_J3) (rx_lkg fG_J3) (rx_lkw nW_J3) cf_J3_checkIndex_8e157 (some .int) 0 0 3 kd_J3_checkIndex_8e157 rx_fu
theorem m_J3_checkIndex_8e157 (l : Launch) : rx_M l yJ3_checkIndex_8e157 (Cond.code yJ3_checkIndex_8e157 cJ3_checkIndex_8e157 3 (some .int) :: rx_WT) { frames := 0, cells := 0, slots := 0, locals := 0 } f_J3_checkIndex_8e157 := rx_met rx_fu (by decide +kernel) kC_J3_ok gS_J3_ok fG_J3_ok fL_J3_ok (fP_J3_ok _) nW_J3_ok rx_ar (by decide +kernel) (rx_lkc_of rx_n0 rx_n0 rx_n0)
theorem w_J3_checkIndex_8e157_c : Cond.code yJ3_checkIndex_8e157 cJ3_checkIndex_8e157 3 (some .int) ∈ rx_WT := rx_in 268 (by decide +kernel) rfl
theorem w_J3_checkIndex_8e157_n : Cond.initialized yJ3_checkIndex_8e157.cls ∈ rx_WT := rx_in 197 (by decide +kernel) rfl
theorem w_J3_checkIndex_8e157_t : Cond.static yJ3_checkIndex_8e157 ∈ rx_WT := rx_in 267 (by decide +kernel) rfl
theorem w_J3_checkIndex_8e157_d : yJ3_checkIndex_8e157.cls ≠ "java/lang/invoke/MethodHandle" ∧ yJ3_checkIndex_8e157.cls ≠ "java/lang/invoke/VarHandle" ∧ (parseMethodDescriptor yJ3_checkIndex_8e157.desc).map (fun d => d.parameters.length) = some 3 := by decide +kernel
def kd_J0_checkIndex_df160 : List (Nat × List (Instr × Nat)) := [(0, [(.iload_n 0, 1), (.iload_n 1, 1), (.getstatic 1053, 3), (.invokestatic 1059, 3), (.pop, 1), (.return_, 1)])]
def cf_J0_checkIndex_df160 : Instr → Option rx_C := rx_lkc [] [(1059, (3, none, 0, 0, f_J3_checkIndex_8e157))] []
def f_J0_checkIndex_df160 : rx_F := fun vh As => match As with
  | [.int i, .int n] => if i < 0 then none else if n ≤ i then none else some (none, vh)
  | _ => none
theorem j3_ck {v : Value} (hv : v = .null ∨ v = .ref 0) {i n : Int32} (h1 : ¬ i < 0) (h2 : i < n) : f_J3_checkIndex_8e157 [] [.int i, .int n, v] = some (some (.int i), []) := by
  rcases hv with rfl | rfl
  · exact ry_fn_eq (ry_f h1 (ry_t h2 rfl))
  · exact ry_fn_eq (ry_f h1 (ry_t h2 rfl))
theorem m_J0_checkIndex_df160 (l : Launch) : rx_M l yJ0_checkIndex_df160 (Cond.code yJ0_checkIndex_df160 cJ0_checkIndex_df160 2 none :: rx_WT) { frames := 1, cells := 0, slots := 0, locals := 22 } f_J0_checkIndex_df160 := by
  intro D tys ca ad vh As rv vh' sz hty hF
  have key : ∃ i n, As = [.int i, .int n] ∧ ¬ i < 0 ∧ i < n ∧ rv = none ∧ vh = vh' := by
    unfold f_J0_checkIndex_df160 at hF
    split at hF
    · rename_i i n
      split at hF
      · cases hF
      · rename_i h1
        split at hF
        · cases hF
        · rename_i h2
          cases hF
          exact ⟨i, n, rfl, h1, Int32.not_le.mp h2, rfl, rfl⟩
    · cases hF
  obtain ⟨i, n, rfl, h1, h2, rfl, rfl⟩ := key
  refine rx_ofW (cc := cJ0_checkIndex_df160) (maxL := 2) (ret := none) (by decide +kernel) rfl ?_
  intro p e s m args below meth c s₁ B hml hv
  obtain ⟨rfl, hsz, hP, hK, hD0, hJ⟩ := hv
  have hx := B.exec
  have hb := B.bytes
  have hr := B.returns
  have hts := atoms_spec (ws := Cond.code yJ0_checkIndex_df160 cJ0_checkIndex_df160 2 none :: rx_WT) B.pre
  have hts2 : ∀ w ∈ rx_WT, w.before (List.map (rx_v ad) [Value.int i, Value.int n]).toArray s = true := fun w hw => hts w (List.mem_cons_of_mem _ hw)
  have hown : s.vm.findClass yJ0_checkIndex_df160.cls = some m.cls := findClass_of_methodNamed B.named
  have hlocks := B.notSynchronized
  subst hsz
  have hD := hD0.self (sz := s.heap.size)
  have hJ0 : rx_J ad (fun q => s.heap.size ≤ q) s s.heap := hJ.to (B := fun q => s.heap.size ≤ q) va_S.rf (fun q hq => Or.inr hq) (State.WarmedH.refl s)
  have hl := lv_entry (List.map (rx_v ad) [Value.int i, Value.int n]) (n := 2) (show 2 ≤ 2 from Nat.le_refl 2)
  rw [lg_entry_eq]
  generalize (lg_sl (List.map (rx_v ad) [Value.int i, Value.int n]) ++ List.replicate (2 - (lg_sl (List.map (rx_v ad) [Value.int i, Value.int n])).length) Slot.unset).toArray = ls at hl ⊢
  have d0 : decode cJ0_checkIndex_df160 0 = .ok (.iload_n 0, 1) := by decide +kernel
  have d1 : decode cJ0_checkIndex_df160 1 = .ok (.iload_n 1, 1) := by decide +kernel
  have d2 : decode cJ0_checkIndex_df160 2 = .ok (.getstatic 1053, 3) := by decide +kernel
  have d5 : decode cJ0_checkIndex_df160 5 = .ok (.invokestatic 1059, 3) := by decide +kernel
  have d8 : decode cJ0_checkIndex_df160 8 = .ok (.pop, 1) := by decide +kernel
  have d9 : decode cJ0_checkIndex_df160 9 = .ok (.return_, 1) := by decide +kernel
  refine lv_iload_n hx hb d0 rfl (lv_at hl 0 rfl) ?_
  refine lv_iload_n hx hb d1 rfl (lv_at hl 1 rfl) ?_
  have fin : ∀ v : Value, (v = .null ∨ ∃ t, v = .ref t) → W p l e (headSpec (Cond.code yJ0_checkIndex_df160 cJ0_checkIndex_df160 2 none :: rx_WT) { frames := 1, cells := 0, slots := 0, locals := 22 }).room s m (List.map (rx_v ad) [Value.int i, Value.int n]).toArray below meth c s.heap [] 0 0 (MQ below (rx_Q D ca ad vh none vh 0 (va_A (rx_w ad ca vh) s.heap.size)) (List.map (rx_v ad) [Value.int i, Value.int n]).toArray s 0 0 (va_A (rx_w ad ca vh) s.heap.size)) (F0 m 5 ls (v :: .int n :: .int i :: [])) := by
    intro v hv
    obtain ⟨ad2, vv, e1, e2, e3⟩ : ∃ (ad2 : Nat → Nat) (vv : Value), (vv = .null ∨ vv = .ref 0) ∧ rx_v ad2 vv = v ∧ ∀ k, 1000000 ≤ k → ad2 k = ad k := by
      rcases hv with rfl | ⟨t, rfl⟩
      · exact ⟨ad, .null, .inl rfl, rfl, fun _ _ => rfl⟩
      · exact ⟨fun k => if k = 0 then t else ad k, .ref 0, .inr rfl, rfl, fun k hk => if_neg (by omega)⟩
    subst e2
    refine rx_caS (own := yJ0_checkIndex_df160.cls) (R := { frames := 1, cells := 0, slots := 0, locals := 22 }) 3 (m_J3_checkIndex_8e157 l) w_J3_checkIndex_8e157_c w_J3_checkIndex_8e157_n (rx_in 266 (by decide +kernel) rfl) w_J3_checkIndex_8e157_t w_J3_checkIndex_8e157_d (by decide) p e s m _ below meth c _ cJ0_checkIndex_df160 2 D tys ca (fun q => s.heap.size ≤ q) 0 0 hx hb hml hown hts2 hK hty (fun q hq => hq) (Nat.le_refl _) (Nat.le_refl _) ad2 [] [.int i, .int n, vv] (some (.int i)) [] [] s.heap [] ls 5 0 0 rfl rfl (j3_ck e1 h1 h2) (by decide) d5 hl.1 (hJ0.congr e3) (fun k q hk => (by simp [rx_w] at hk)) ⟨fun i j p q hk => (by simp [rx_w] at hk), fun k q hk => (by simp [rx_w] at hk)⟩ va_S.rf (Nat.le_refl _) (Nat.le_refl _) ?_
    intro ad' H' locs' _ _ _ _ _ _ hS'
    refine lv_pop hx hb d8 rfl ?_
    refine W.vret hx hb hr (fun t ht hW => ?_) (fun q hq => Or.inr (hS'.2.2 q hq)) d9
    refine ⟨⟨ad, fun _ _ => rfl, fun _ => rfl, Nat.le_refl _, Nat.le_refl _, rfl, ?_, hD⟩, by rw [ht]; exact hS'.1, fun q q1 q2 => by rw [ht]; exact hS'.2.1 q q1 (fun z => absurd q1 (Nat.not_lt.mpr z))⟩
    rw [ht]
    exact hP.kept (fun k q hk => hS'.2.1 q.1 (hP k q hk).lt (fun z => absurd (hP k q hk).lt (Nat.not_lt.mpr z)))
  have hfl : Cond.fieldLink yJ0_checkIndex_df160.cls 1053 "jdk/internal/util/Preconditions" "SIOOBE_FORMATTER" "Ljava/util/function/BiFunction;" ∈ rx_WT := rx_in 264 (by decide +kernel) rfl
  rcases hJ0.2.2.2.2.2 with hz | ⟨t, hz⟩
  · exact va_gets hx hb hz va_S.rf hown (hts2 _ hfl) (fun _ h => h) d2 (fin _ (.inl rfl))
  · exact va_gets hx hb hz va_S.rf hown (hts2 _ hfl) (fun _ h => h) d2 (fin _ (.inr ⟨t, rfl⟩))
theorem w_J0_checkIndex_df160_c : Cond.code yJ0_checkIndex_df160 cJ0_checkIndex_df160 2 none ∈ rx_WT := rx_in 263 (by decide +kernel) rfl
theorem w_J0_checkIndex_df160_n : Cond.initialized yJ0_checkIndex_df160.cls ∈ rx_WT := rx_in 195 (by decide +kernel) rfl
theorem w_J0_checkIndex_df160_t : Cond.static yJ0_checkIndex_df160 ∈ rx_WT := rx_in 262 (by decide +kernel) rfl
theorem w_J0_checkIndex_df160_d : yJ0_checkIndex_df160.cls ≠ "java/lang/invoke/MethodHandle" ∧ yJ0_checkIndex_df160.cls ≠ "java/lang/invoke/VarHandle" ∧ (parseMethodDescriptor yJ0_checkIndex_df160.desc).map (fun d => d.parameters.length) = some 2 := by decide +kernel
def kd_J1_charAt_3b067 : List (Nat × List (Instr × Nat)) := [(0, [(.iload_n 1, 1), (.aload_n 0, 1), (.arraylength, 1), (.invokestatic 9, 3), (.aload_n 0, 1), (.iload_n 1, 1), (.baload, 1), (.sipush 255, 3), (.iand, 1), (.i2c, 1), (.ireturn, 1)])]
def cf_J1_charAt_3b067 : Instr → Option rx_C := rx_lkc [] [(9, (2, none, 0, 0, f_J0_checkIndex_df160))] []
def f_J1_charAt_3b067 : rx_F := rx_fn (rx_lkk kC_J1) (rx_lkf fL_J1) (rx_lkf fP_J1) (rx_lkg gS_J1) (rx_lkg fG_J1) (rx_lkw nW_J1) cf_J1_charAt_3b067 (some .char) 0 0 2 kd_J1_charAt_3b067 rx_fu
theorem m_J1_charAt_3b067 (l : Launch) : rx_M l yJ1_charAt_3b067 (Cond.code yJ1_charAt_3b067 cJ1_charAt_3b067 2 (some .char) :: rx_WT) { frames := 2, cells := 0, slots := 0, locals := 43 } f_J1_charAt_3b067 := rx_met rx_fu (by decide +kernel) kC_J1_ok gS_J1_ok fG_J1_ok fL_J1_ok (fP_J1_ok _) nW_J1_ok rx_ar (by decide +kernel) (rx_lkc_of rx_n0 (rx_n1 (rx_caS 2 (m_J0_checkIndex_df160 l) w_J0_checkIndex_df160_c w_J0_checkIndex_df160_n (rx_in 261 (by decide +kernel) rfl) w_J0_checkIndex_df160_t w_J0_checkIndex_df160_d (by decide)) rx_n0) rx_n0)
theorem w_J1_charAt_3b067_c : Cond.code yJ1_charAt_3b067 cJ1_charAt_3b067 2 (some .char) ∈ rx_WT := rx_in 260 (by decide +kernel) rfl
theorem w_J1_charAt_3b067_n : Cond.initialized yJ1_charAt_3b067.cls ∈ rx_WT := rx_in 196 (by decide +kernel) rfl
theorem w_J1_charAt_3b067_t : Cond.static yJ1_charAt_3b067 ∈ rx_WT := rx_in 259 (by decide +kernel) rfl
theorem w_J1_charAt_3b067_d : yJ1_charAt_3b067.cls ≠ "java/lang/invoke/MethodHandle" ∧ yJ1_charAt_3b067.cls ≠ "java/lang/invoke/VarHandle" ∧ (parseMethodDescriptor yJ1_charAt_3b067.desc).map (fun d => d.parameters.length) = some 2 := by decide +kernel
def kd_J2_length_9d52b : List (Nat × List (Instr × Nat)) := [(0, [(.aload_n 0, 1), (.arraylength, 1), (.iconst 1, 1), (.ishr, 1), (.ireturn, 1)])]
def cf_J2_length_9d52b : Instr → Option rx_C := rx_lkc [] [] []
def f_J2_length_9d52b : rx_F := rx_fn (rx_lkk kC_J2) (rx_lkf fL_J2) (rx_lkf fP_J2) (rx_lkg gS_J2) (rx_lkg fG_J2) (rx_lkw nW_J2) cf_J2_length_9d52b (some .int) 0 0 1 kd_J2_length_9d52b rx_fu
theorem m_J2_length_9d52b (l : Launch) : rx_M l yJ2_length_9d52b (Cond.code yJ2_length_9d52b cJ2_length_9d52b 1 (some .int) :: rx_WT) { frames := 0, cells := 0, slots := 0, locals := 0 } f_J2_length_9d52b := rx_met rx_fu (by decide +kernel) kC_J2_ok gS_J2_ok fG_J2_ok fL_J2_ok (fP_J2_ok _) nW_J2_ok rx_ar (by decide +kernel) (rx_lkc_of rx_n0 rx_n0 rx_n0)
theorem w_J2_length_9d52b_c : Cond.code yJ2_length_9d52b cJ2_length_9d52b 1 (some .int) ∈ rx_WT := rx_in 277 (by decide +kernel) rfl
theorem w_J2_length_9d52b_n : Cond.initialized yJ2_length_9d52b.cls ∈ rx_WT := rx_in 198 (by decide +kernel) rfl
theorem w_J2_length_9d52b_t : Cond.static yJ2_length_9d52b ∈ rx_WT := rx_in 276 (by decide +kernel) rfl
theorem w_J2_length_9d52b_d : yJ2_length_9d52b.cls ≠ "java/lang/invoke/MethodHandle" ∧ yJ2_length_9d52b.cls ≠ "java/lang/invoke/VarHandle" ∧ (parseMethodDescriptor yJ2_length_9d52b.desc).map (fun d => d.parameters.length) = some 1 := by decide +kernel
def kd_J2_checkIndex_2214a : List (Nat × List (Instr × Nat)) := [(0, [(.iload_n 0, 1), (.aload_n 1, 1), (.invokestatic 48, 3), (.invokestatic 414, 3), (.return_, 1)])]
def cf_J2_checkIndex_2214a : Instr → Option rx_C := rx_lkc [] [(48, (1, none, 0, 0, f_J2_length_9d52b)), (414, (2, none, 0, 0, f_J0_checkIndex_df160))] []
def f_J2_checkIndex_2214a : rx_F := rx_fn (rx_lkk kC_J2) (rx_lkf fL_J2) (rx_lkf fP_J2) (rx_lkg gS_J2) (rx_lkg fG_J2) (rx_lkw nW_J2) cf_J2_checkIndex_2214a none 0 0 2 kd_J2_checkIndex_2214a rx_fu
theorem m_J2_checkIndex_2214a (l : Launch) : rx_M l yJ2_checkIndex_2214a (Cond.code yJ2_checkIndex_2214a cJ2_checkIndex_2214a 2 none :: rx_WT) { frames := 2, cells := 0, slots := 0, locals := 43 } f_J2_checkIndex_2214a := rx_met rx_fu (by decide +kernel) kC_J2_ok gS_J2_ok fG_J2_ok fL_J2_ok (fP_J2_ok _) nW_J2_ok rx_ar (by decide +kernel) (rx_lkc_of rx_n0 (rx_n1 (rx_caS 1 (m_J2_length_9d52b l) w_J2_length_9d52b_c w_J2_length_9d52b_n (rx_in 275 (by decide +kernel) rfl) w_J2_length_9d52b_t w_J2_length_9d52b_d (by decide)) (rx_n1 (rx_caS 2 (m_J0_checkIndex_df160 l) w_J0_checkIndex_df160_c w_J0_checkIndex_df160_n (rx_in 278 (by decide +kernel) rfl) w_J0_checkIndex_df160_t w_J0_checkIndex_df160_d (by decide)) rx_n0)) rx_n0)
theorem w_J2_checkIndex_2214a_c : Cond.code yJ2_checkIndex_2214a cJ2_checkIndex_2214a 2 none ∈ rx_WT := rx_in 274 (by decide +kernel) rfl
theorem w_J2_checkIndex_2214a_n : Cond.initialized yJ2_checkIndex_2214a.cls ∈ rx_WT := rx_in 198 (by decide +kernel) rfl
theorem w_J2_checkIndex_2214a_t : Cond.static yJ2_checkIndex_2214a ∈ rx_WT := rx_in 273 (by decide +kernel) rfl
theorem w_J2_checkIndex_2214a_d : yJ2_checkIndex_2214a.cls ≠ "java/lang/invoke/MethodHandle" ∧ yJ2_checkIndex_2214a.cls ≠ "java/lang/invoke/VarHandle" ∧ (parseMethodDescriptor yJ2_checkIndex_2214a.desc).map (fun d => d.parameters.length) = some 2 := by decide +kernel
def kd_J2_getChar_3b067 : List (Nat × List (Instr × Nat)) := [(0, [(.getstatic 44, 3), (.ifCond .ne 25, 3), (.iload_n 1, 1), (.ifCond .lt 11, 3), (.iload_n 1, 1), (.aload_n 0, 1), (.invokestatic 48, 3), (.if_icmp .lt 13, 3)]),
  (18, [(.new 52, 3), (.dup, 1), (.ldc 54, 2), (.invokespecial 56, 3), (.athrow, 1)]),
  (28, [(.iload_n 1, 1), (.iconst 1, 1), (.ishl, 1), (.istore_n 1, 1), (.aload_n 0, 1), (.iload_n 1, 1), (.iinc 1 1, 3), (.baload, 1), (.sipush 255, 3), (.iand, 1), (.getstatic 59, 3), (.ishl, 1), (.aload_n 0, 1), (.iload_n 1, 1), (.baload, 1), (.sipush 255, 3), (.iand, 1), (.getstatic 63, 3), (.ishl, 1), (.ior, 1), (.i2c, 1), (.ireturn, 1)])]
def cf_J2_getChar_3b067 : Instr → Option rx_C := rx_lkc [] [(48, (1, none, 0, 0, f_J2_length_9d52b))] []
def f_J2_getChar_3b067 : rx_F := rx_fn (rx_lkk kC_J2) (rx_lkf fL_J2) (rx_lkf fP_J2) (rx_lkg gS_J2) (rx_lkg fG_J2) (rx_lkw nW_J2) cf_J2_getChar_3b067 (some .char) 0 0 2 kd_J2_getChar_3b067 rx_fu
theorem m_J2_getChar_3b067 (l : Launch) : rx_M l yJ2_getChar_3b067 (Cond.code yJ2_getChar_3b067 cJ2_getChar_3b067 2 (some .char) :: rx_WT) { frames := 1, cells := 0, slots := 0, locals := 20 } f_J2_getChar_3b067 := rx_met rx_fu (by decide +kernel) kC_J2_ok gS_J2_ok fG_J2_ok fL_J2_ok (fP_J2_ok _) nW_J2_ok rx_ar (by decide +kernel) (rx_lkc_of rx_n0 (rx_n1 (rx_caS 1 (m_J2_length_9d52b l) w_J2_length_9d52b_c w_J2_length_9d52b_n (rx_in 275 (by decide +kernel) rfl) w_J2_length_9d52b_t w_J2_length_9d52b_d (by decide)) rx_n0) rx_n0)
theorem w_J2_getChar_3b067_c : Cond.code yJ2_getChar_3b067 cJ2_getChar_3b067 2 (some .char) ∈ rx_WT := rx_in 281 (by decide +kernel) rfl
theorem w_J2_getChar_3b067_n : Cond.initialized yJ2_getChar_3b067.cls ∈ rx_WT := rx_in 198 (by decide +kernel) rfl
theorem w_J2_getChar_3b067_t : Cond.static yJ2_getChar_3b067 ∈ rx_WT := rx_in 280 (by decide +kernel) rfl
theorem w_J2_getChar_3b067_d : yJ2_getChar_3b067.cls ≠ "java/lang/invoke/MethodHandle" ∧ yJ2_getChar_3b067.cls ≠ "java/lang/invoke/VarHandle" ∧ (parseMethodDescriptor yJ2_getChar_3b067.desc).map (fun d => d.parameters.length) = some 2 := by decide +kernel
def kd_J2_charAt_3b067 : List (Nat × List (Instr × Nat)) := [(0, [(.iload_n 1, 1), (.aload_n 0, 1), (.invokestatic 67, 3), (.aload_n 0, 1), (.iload_n 1, 1), (.invokestatic 71, 3), (.ireturn, 1)])]
def cf_J2_charAt_3b067 : Instr → Option rx_C := rx_lkc [] [(67, (2, none, 0, 0, f_J2_checkIndex_2214a)), (71, (2, none, 0, 0, f_J2_getChar_3b067))] []
def f_J2_charAt_3b067 : rx_F := rx_fn (rx_lkk kC_J2) (rx_lkf fL_J2) (rx_lkf fP_J2) (rx_lkg gS_J2) (rx_lkg fG_J2) (rx_lkw nW_J2) cf_J2_charAt_3b067 (some .char) 0 0 2 kd_J2_charAt_3b067 rx_fu
theorem m_J2_charAt_3b067 (l : Launch) : rx_M l yJ2_charAt_3b067 (Cond.code yJ2_charAt_3b067 cJ2_charAt_3b067 2 (some .char) :: rx_WT) { frames := 3, cells := 0, slots := 0, locals := 64 } f_J2_charAt_3b067 := rx_met rx_fu (by decide +kernel) kC_J2_ok gS_J2_ok fG_J2_ok fL_J2_ok (fP_J2_ok _) nW_J2_ok rx_ar (by decide +kernel) (rx_lkc_of rx_n0 (rx_n1 (rx_caS 2 (m_J2_checkIndex_2214a l) w_J2_checkIndex_2214a_c w_J2_checkIndex_2214a_n (rx_in 272 (by decide +kernel) rfl) w_J2_checkIndex_2214a_t w_J2_checkIndex_2214a_d (by decide)) (rx_n1 (rx_caS 2 (m_J2_getChar_3b067 l) w_J2_getChar_3b067_c w_J2_getChar_3b067_n (rx_in 279 (by decide +kernel) rfl) w_J2_getChar_3b067_t w_J2_getChar_3b067_d (by decide)) rx_n0)) rx_n0)
theorem w_J2_charAt_3b067_c : Cond.code yJ2_charAt_3b067 cJ2_charAt_3b067 2 (some .char) ∈ rx_WT := rx_in 271 (by decide +kernel) rfl
theorem w_J2_charAt_3b067_n : Cond.initialized yJ2_charAt_3b067.cls ∈ rx_WT := rx_in 198 (by decide +kernel) rfl
theorem w_J2_charAt_3b067_t : Cond.static yJ2_charAt_3b067 ∈ rx_WT := rx_in 270 (by decide +kernel) rfl
theorem w_J2_charAt_3b067_d : yJ2_charAt_3b067.cls ≠ "java/lang/invoke/MethodHandle" ∧ yJ2_charAt_3b067.cls ≠ "java/lang/invoke/VarHandle" ∧ (parseMethodDescriptor yJ2_charAt_3b067.desc).map (fun d => d.parameters.length) = some 2 := by decide +kernel
def kd_J0_charAt_5068e : List (Nat × List (Instr × Nat)) := [(0, [(.aload_n 0, 1), (.invokevirtual 492, 3), (.ifCond .eq 12, 3), (.aload_n 0, 1), (.getfield 9, 3), (.iload_n 1, 1), (.invokestatic 495, 3), (.ireturn, 1)]),
  (16, [(.aload_n 0, 1), (.getfield 9, 3), (.iload_n 1, 1), (.invokestatic 498, 3), (.ireturn, 1)])]
def cf_J0_charAt_5068e : Instr → Option rx_C := rx_lkc [(492, (1, some 100, 0, 0, f_J0_isLatin1_aae02))] [(495, (2, none, 0, 0, f_J1_charAt_3b067)), (498, (2, none, 0, 0, f_J2_charAt_3b067))] []
def f_J0_charAt_5068e : rx_F := rx_fn (rx_lkk kC_J0) (rx_lkf fL_J0) (rx_lkf fP_J0) (rx_lkg gS_J0) (rx_lkg fG_J0) (rx_lkw nW_J0) cf_J0_charAt_5068e (some .char) 0 0 2 kd_J0_charAt_5068e rx_fu
theorem m_J0_charAt_5068e (l : Launch) : rx_M l yJ0_charAt_5068e (Cond.code yJ0_charAt_5068e cJ0_charAt_5068e 2 (some .char) :: rx_WT) { frames := 4, cells := 0, slots := 0, locals := 85 } f_J0_charAt_5068e := rx_met rx_fu (by decide +kernel) kC_J0_ok gS_J0_ok fG_J0_ok fL_J0_ok (fP_J0_ok _) nW_J0_ok rx_ar (by decide +kernel) (rx_lkc_of (rx_n1 (rx_caT 0 (m_J0_isLatin1_aae02 l) w_J0_isLatin1_aae02_c w_J0_isLatin1_aae02_n (rx_in 254 (by decide +kernel) rfl) w_J0_isLatin1_aae02_i w_J0_isLatin1_aae02_s w_J0_isLatin1_aae02_d (by decide) rfl) rx_n0) (rx_n1 (rx_caS 2 (m_J1_charAt_3b067 l) w_J1_charAt_3b067_c w_J1_charAt_3b067_n (rx_in 258 (by decide +kernel) rfl) w_J1_charAt_3b067_t w_J1_charAt_3b067_d (by decide)) (rx_n1 (rx_caS 2 (m_J2_charAt_3b067 l) w_J2_charAt_3b067_c w_J2_charAt_3b067_n (rx_in 269 (by decide +kernel) rfl) w_J2_charAt_3b067_t w_J2_charAt_3b067_d (by decide)) rx_n0)) rx_n0)
theorem w_J0_charAt_5068e_c : Cond.code yJ0_charAt_5068e cJ0_charAt_5068e 2 (some .char) ∈ rx_WT := rx_in 253 (by decide +kernel) rfl
theorem w_J0_charAt_5068e_n : Cond.initialized yJ0_charAt_5068e.cls ∈ rx_WT := rx_in 195 (by decide +kernel) rfl
theorem w_J0_charAt_5068e_i : Cond.instanceMethod yJ0_charAt_5068e ∈ rx_WT := rx_in 251 (by decide +kernel) rfl
theorem w_J0_charAt_5068e_s : Cond.selects yJ0_charAt_5068e.cls yJ0_charAt_5068e yJ0_charAt_5068e ∈ rx_WT := rx_in 252 (by decide +kernel) rfl
theorem w_J0_charAt_5068e_d : yJ0_charAt_5068e.cls ≠ "java/lang/invoke/MethodHandle" ∧ yJ0_charAt_5068e.cls ≠ "java/lang/invoke/VarHandle" ∧ (parseMethodDescriptor yJ0_charAt_5068e.desc).map (fun d => d.parameters.length) = some 1 := by decide +kernel
