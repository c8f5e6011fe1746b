def fL_L : List (Nat × Nat × Nat × FieldType × Nat) := []
def fP_L : List (Nat × Nat × Nat × FieldType × Nat) := []
theorem fL_L_ok : rx_flok (rx_lkf fL_L) RL rx_WT vwCl := rx_flok_of (by decide +kernel)
theorem fP_L_ok (nm : String) : rx_fpok (rx_lkf fP_L) RL nm rx_WT vwCl := by
  intro ix ci k ty h
  cases h
def kC_L : List (Nat × Value × Nat) := []
theorem kC_L_ok : rx_kcw (rx_lkk kC_L) RL := rx_kcw_of (by decide +kernel)
def gS_L : List (Nat × Nat × Nat) := []
theorem gS_L_ok : rx_gsok (rx_lkg gS_L) RL rx_WT := rx_gsok_of (by decide +kernel)
def fG_L : List (Nat × Nat × Nat) := []
theorem fG_L_ok : rx_fgok (rx_lkg fG_L) RL rx_WT := rx_fgok_of (by decide +kernel)
def nW_L : List (Nat × Nat × Nat × List Value) := []
theorem nW_L_ok : rx_nwok (rx_lkw nW_L) RL rx_WT vwCl := rx_nwn
theorem lk_22 : Cond.classLink RL 22 "java/lang/IndexOutOfBoundsException" ∈ rx_WT := by decide +kernel
theorem lk_13 : Cond.classLink RL 13 "java/lang/IllegalArgumentException" ∈ rx_WT := by decide +kernel
def rx_MW (l : Launch) (y : MethodName) (ws : List Cond) (rm : Room) (F : rx_F) : Prop := ∀ (D : va_G) (tys : List (ClassId × FieldType)) (ca : Nat → ClassId) (ad : Nat → Nat) (vh : rx_H) (As : List Value) (rv : Option Value) (vh' : rx_H) (sz : Nat), rx_tyok tys ca → F vh As = some (rv, vh') →
  Met l y ws rm (rx_PX D tys ca ad vh As sz) (rx_Q D ca ad vh rv vh' rm.cells (va_A (rx_w ad ca vh) sz)) rm.cells rm.slots (va_A (rx_w ad ca vh) sz)
/-- the class throws, seen from the wrapper: its object at a0, its numbers ps, the row 'out' at o -/
def TW (G : rx_F) (ps : List Int32) (vh : rx_H) (As : List Value) : Prop := ∃ (a0 o : Nat) (fs : List Value), As = .ref a0 :: (ps.map Value.int ++ [.ref o]) ∧ vh[a0]? = some (.inr (10, fs)) ∧ o < vh.length ∧ lfX 38 G vh (.ref a0 :: ps.map Value.int) = some (none, vh) ∧ vh.all (rx_we vh.length) = true ∧ vh.length < 1000000
theorem wv_lt {k n : Nat} (h : k < n) : rx_wv n (.ref k) = true := by
  show (Nat.blt k n || Nat.ble 1000000 k) = true
  rw [show Nat.blt k n = true from Nat.ble_eq_true_of_le h]
  rfl
def kn_run : List (Nat × List (Instr × Nat)) := [(0, [(.aload_n 2, 1), (.iconst 0, 1), (.aload_n 0, 1), (.iload_n 1, 1), (.invokevirtual 7, 3), (.i2l, 1), (.lastore, 1), (.goto 6, 3)]), (15, [(.iconst 0, 1), (.ireturn, 1)])]
def kp_run : List (Nat × List (Instr × Nat)) := [(0, [(.aload_n 2, 1), (.iconst 0, 1), (.aload_n 0, 1), (.iload_n 1, 1)])]
def kh_run : List (Nat × List (Instr × Nat)) := [(12, [(.astore_n 3, 1), (.iconst 1, 1), (.ireturn, 1)])]
noncomputable def FN_run : rx_F := rx_fn (rx_lkk kC_L) (rx_lkf fL_L) (rx_lkf fP_L) (rx_lkg gS_L) (rx_lkg fG_L) (rx_lkw nW_L) (rx_lkc [(7, (2, some 10, 0, 0, lC f_X11_run))] [] []) (some .int) 1 6 4 kn_run 10
theorem nw_run (l : Launch) : rx_M l yL_run (Cond.codeWith yL_run cL_run 4 (some .int) [(0, 9, 12, 13)] :: rx_WT) { frames := 12, cells := 1, slots := 6, locals := 300 } FN_run := rx_metH 10 (by decide +kernel) kC_L_ok gS_L_ok fG_L_ok fL_L_ok (fP_L_ok _) nW_L_ok rx_ar (by decide +kernel) (rx_lkc_of (rx_n1 (rx_caV 1 10 (rx_M.lift _ _ _ _ (m_X11_run l) rfl) w_X11_run_c w_X11_run_n (by decide +kernel) w_X11_run_i w_X11_run_s w_X11_run_d (by decide) rfl rfl) rx_n0) rx_n0 rx_n0)
theorem wp_run {vh : rx_H} {a0 o : Nat} {p0 : Int32} (ha : a0 < vh.length) (ho : o < vh.length) : rx_fnS (rx_lkk kC_L) (rx_lkf fL_L) (rx_lkf fP_L) (rx_lkg gS_L) (rx_lkg fG_L) (rx_lkw nW_L) (rx_lkc [] [] []) (some .int) 1 6 4 kp_run 4 (StW ([.int p0].reverse ++ .ref a0 :: [.int 0, .ref o])) 10 vh [.ref a0, .int p0, .ref o] = some (none, vh) := by
  refine ry_fnS_eq ?_
  refine ry_t ⟨rfl, rfl, rfl, ?_⟩ rfl
  show (rx_wv vh.length (.ref a0) && (rx_wv vh.length (.int p0) && (rx_wv vh.length (.ref o) && true))) = true
  rw [wv_lt ha, wv_lt ho]
  rfl
noncomputable def FX_run_1 : rx_F := fun vh As => @ite _ (∃ p0, TW g_X11_run_11 [p0] vh As) (Classical.propDecidable _) (some (some (.int 1), vh)) none
theorem mw_run_1 (l : Launch) (hl : l.stackTraces = false) : rx_MW l yL_run (Cond.codeWith yL_run cL_run 4 (some .int) [(0, 9, 12, 13)] :: rx_WT) { frames := 12, cells := 1, slots := 6, locals := 300 } FX_run_1 := by
  intro D tys ca ad vh As rv vh' sz hty hF
  unfold FX_run_1 at hF
  by_cases c : ∃ p0, TW g_X11_run_11 [p0] vh As
  · rw [if_pos c] at hF
    cases hF
    obtain ⟨p0, a0, o, fs, rfl, h1, h2, h3, h4, h5⟩ := c
    exact rx_metHX (cd := kp_run) (ch := kh_run) (cf := rx_lkc [] [] []) 10 4 7 1 10 (by decide +kernel) kC_L_ok gS_L_ok fG_L_ok fL_L_ok (fP_L_ok _) nW_L_ok rx_ar (by decide +kernel) (by decide +kernel) (rx_lkc_of rx_n0 rx_n0 rx_n0) (rx_MX.lift 38 (mx_X11_run_11 l hl)) w_X11_run_c w_X11_run_n (by decide +kernel) w_X11_run_i w_X11_run_s w_X11_run_d (by decide) rfl rfl (by decide +kernel) [] [] { startPc := 0, endPc := 9, handlerPc := 12, catchType := 13 } rfl (fun z hz => nomatch hz) (by decide) (by decide) lk_13 (by decide +kernel) (by decide) (by decide) hty a0 fs [.int p0] [.int 0, .ref o] (wp_run (List.getElem?_eq_some_iff.mp h1).1 h2) h1 h3 rfl (show 1 + (1 + 0) ≤ 8 by decide) h4 h5 (fun ls => rfl)
  · rw [if_neg c] at hF
    cases hF
theorem wx_run_1 {I I' : Nat → Int32} {L L' : Nat → Int64} {T T' : Nat → Nat → Int32} {U U' : Nat → Nat → Int64} {J : Nat → Int32} {S : Nat → Nat → Int32} {K : Nat → Int64} {f : Nat → Int64} {p0 : Int32} (h : g_X11_run_11 (wc I L T U) [.ref 0, .int p0] = some (none, wc I L T U)) : FX_run_1 (wl I L T U J S K f) [.ref 0, .int p0, .ref 58] = some (some (.int 1), wl I L T U J S K f) := if_pos ⟨p0, 0, 58, [.ref 1, .ref 5, .ref 9, .ref 16, .ref 19, .ref 24], rfl, rfl, (show 58 < 59 by decide), lfX_eq h, rfl, (show 59 < 1000000 by decide)⟩
theorem mw_run_0 (l : Launch) : rx_MW l yL_run (Cond.codeWith yL_run cL_run 4 (some .int) [(0, 9, 12, 13)] :: rx_WT) { frames := 12, cells := 1, slots := 6, locals := 300 } FN_run := fun D tys ca ad vh As rv vh' sz hty hF => met_mono (nw_run l D tys ca ad vh As rv vh' sz hty hF) (fun _ _ h => h.1) (fun _ _ _ _ _ h => h) (fun _ h => h)
theorem wn_run {I I' : Nat → Int32} {L L' : Nat → Int64} {T T' : Nat → Nat → Int32} {U U' : Nat → Nat → Int64} {J : Nat → Int32} {S : Nat → Nat → Int32} {K : Nat → Int64} {f : Nat → Int64} {p0 r : Int32} (h : f_X11_run (wc I L T U) [.ref 0, .int p0] = some (some (.int r), wc I' L' T' U')) : FN_run (wl I L T U J S K f) [.ref 0, .int p0, .ref 58] = some (some (.int 0), wl I' L' T' U' J S K (vp_updL f 0 r.toInt64)) := by
  refine ry_fn_eq ?_
  refine ry_b (lC_eq h (fun _ _ => rfl)) ?_
  refine ry_f (c := (0 : Int32) < 0 ∨ 1 ≤ (0 : Int32).toNatClampNeg) (by decide) ?_
  rfl
def kn_count : List (Nat × List (Instr × Nat)) := [(0, [(.aload_n 2, 1), (.iconst 0, 1), (.aload_n 0, 1), (.iload_n 1, 1), (.invokevirtual 15, 3), (.i2l, 1), (.lastore, 1), (.goto 6, 3)]), (15, [(.iconst 0, 1), (.ireturn, 1)])]
def kp_count : List (Nat × List (Instr × Nat)) := [(0, [(.aload_n 2, 1), (.iconst 0, 1), (.aload_n 0, 1), (.iload_n 1, 1)])]
def kh_count : List (Nat × List (Instr × Nat)) := [(12, [(.astore_n 3, 1), (.iconst 1, 1), (.ireturn, 1)])]
noncomputable def FN_count : rx_F := rx_fn (rx_lkk kC_L) (rx_lkf fL_L) (rx_lkf fP_L) (rx_lkg gS_L) (rx_lkg fG_L) (rx_lkw nW_L) (rx_lkc [(15, (2, some 10, 0, 0, lC f_X11_count))] [] []) (some .int) 1 6 4 kn_count 10
theorem nw_count (l : Launch) : rx_M l yL_count (Cond.codeWith yL_count cL_count 4 (some .int) [(0, 9, 12, 13)] :: rx_WT) { frames := 12, cells := 1, slots := 6, locals := 300 } FN_count := rx_metH 10 (by decide +kernel) kC_L_ok gS_L_ok fG_L_ok fL_L_ok (fP_L_ok _) nW_L_ok rx_ar (by decide +kernel) (rx_lkc_of (rx_n1 (rx_caV 1 10 (rx_M.lift _ _ _ _ (m_X11_count l) rfl) w_X11_count_c w_X11_count_n (by decide +kernel) w_X11_count_i w_X11_count_s w_X11_count_d (by decide) rfl rfl) rx_n0) rx_n0 rx_n0)
theorem wp_count {vh : rx_H} {a0 o : Nat} {p0 : Int32} (ha : a0 < vh.length) (ho : o < vh.length) : rx_fnS (rx_lkk kC_L) (rx_lkf fL_L) (rx_lkf fP_L) (rx_lkg gS_L) (rx_lkg fG_L) (rx_lkw nW_L) (rx_lkc [] [] []) (some .int) 1 6 4 kp_count 4 (StW ([.int p0].reverse ++ .ref a0 :: [.int 0, .ref o])) 10 vh [.ref a0, .int p0, .ref o] = some (none, vh) := by
  refine ry_fnS_eq ?_
  refine ry_t ⟨rfl, rfl, rfl, ?_⟩ rfl
  show (rx_wv vh.length (.ref a0) && (rx_wv vh.length (.int p0) && (rx_wv vh.length (.ref o) && true))) = true
  rw [wv_lt ha, wv_lt ho]
  rfl
noncomputable def FX_count_1 : rx_F := fun vh As => @ite _ (∃ p0, TW g_X11_count_112 [p0] vh As) (Classical.propDecidable _) (some (some (.int 1), vh)) none
theorem mw_count_1 (l : Launch) (hl : l.stackTraces = false) : rx_MW l yL_count (Cond.codeWith yL_count cL_count 4 (some .int) [(0, 9, 12, 13)] :: rx_WT) { frames := 12, cells := 1, slots := 6, locals := 300 } FX_count_1 := by
  intro D tys ca ad vh As rv vh' sz hty hF
  unfold FX_count_1 at hF
  by_cases c : ∃ p0, TW g_X11_count_112 [p0] vh As
  · rw [if_pos c] at hF
    cases hF
    obtain ⟨p0, a0, o, fs, rfl, h1, h2, h3, h4, h5⟩ := c
    exact rx_metHX (cd := kp_count) (ch := kh_count) (cf := rx_lkc [] [] []) 10 4 15 1 10 (by decide +kernel) kC_L_ok gS_L_ok fG_L_ok fL_L_ok (fP_L_ok _) nW_L_ok rx_ar (by decide +kernel) (by decide +kernel) (rx_lkc_of rx_n0 rx_n0 rx_n0) (rx_MX.lift 38 (mx_X11_count_112 l hl)) w_X11_count_c w_X11_count_n (by decide +kernel) w_X11_count_i w_X11_count_s w_X11_count_d (by decide) rfl rfl (by decide +kernel) [] [] { startPc := 0, endPc := 9, handlerPc := 12, catchType := 13 } rfl (fun z hz => nomatch hz) (by decide) (by decide) lk_13 (by decide +kernel) (by decide) (by decide) hty a0 fs [.int p0] [.int 0, .ref o] (wp_count (List.getElem?_eq_some_iff.mp h1).1 h2) h1 h3 rfl (show 1 + (1 + 0) ≤ 8 by decide) h4 h5 (fun ls => rfl)
  · rw [if_neg c] at hF
    cases hF
theorem wx_count_1 {I I' : Nat → Int32} {L L' : Nat → Int64} {T T' : Nat → Nat → Int32} {U U' : Nat → Nat → Int64} {J : Nat → Int32} {S : Nat → Nat → Int32} {K : Nat → Int64} {f : Nat → Int64} {p0 : Int32} (h : g_X11_count_112 (wc I L T U) [.ref 0, .int p0] = some (none, wc I L T U)) : FX_count_1 (wl I L T U J S K f) [.ref 0, .int p0, .ref 58] = some (some (.int 1), wl I L T U J S K f) := if_pos ⟨p0, 0, 58, [.ref 1, .ref 5, .ref 9, .ref 16, .ref 19, .ref 24], rfl, rfl, (show 58 < 59 by decide), lfX_eq h, rfl, (show 59 < 1000000 by decide)⟩
theorem mw_count_0 (l : Launch) : rx_MW l yL_count (Cond.codeWith yL_count cL_count 4 (some .int) [(0, 9, 12, 13)] :: rx_WT) { frames := 12, cells := 1, slots := 6, locals := 300 } FN_count := fun D tys ca ad vh As rv vh' sz hty hF => met_mono (nw_count l D tys ca ad vh As rv vh' sz hty hF) (fun _ _ h => h.1) (fun _ _ _ _ _ h => h) (fun _ h => h)
theorem wn_count {I I' : Nat → Int32} {L L' : Nat → Int64} {T T' : Nat → Nat → Int32} {U U' : Nat → Nat → Int64} {J : Nat → Int32} {S : Nat → Nat → Int32} {K : Nat → Int64} {f : Nat → Int64} {p0 r : Int32} (h : f_X11_count (wc I L T U) [.ref 0, .int p0] = some (some (.int r), wc I' L' T' U')) : FN_count (wl I L T U J S K f) [.ref 0, .int p0, .ref 58] = some (some (.int 0), wl I' L' T' U' J S K (vp_updL f 0 r.toInt64)) := by
  refine ry_fn_eq ?_
  refine ry_b (lC_eq h (fun _ _ => rfl)) ?_
  refine ry_f (c := (0 : Int32) < 0 ∨ 1 ≤ (0 : Int32).toNatClampNeg) (by decide) ?_
  rfl
def kn_at : List (Nat × List (Instr × Nat)) := [(0, [(.aload_n 3, 1), (.iconst 0, 1), (.aload_n 0, 1), (.iload_n 1, 1), (.iload_n 2, 1), (.invokevirtual 18, 3), (.i2l, 1), (.lastore, 1), (.goto 11, 3)]), (21, [(.iconst 0, 1), (.ireturn, 1)])]
def kp_at : List (Nat × List (Instr × Nat)) := [(0, [(.aload_n 3, 1), (.iconst 0, 1), (.aload_n 0, 1), (.iload_n 1, 1), (.iload_n 2, 1)])]
def kh_at : List (Nat × List (Instr × Nat)) := [(13, [(.astore 4, 2), (.iconst 1, 1), (.ireturn, 1)]), (17, [(.astore 4, 2), (.iconst 2, 1), (.ireturn, 1)])]
noncomputable def FN_at : rx_F := rx_fn (rx_lkk kC_L) (rx_lkf fL_L) (rx_lkf fP_L) (rx_lkg gS_L) (rx_lkg fG_L) (rx_lkw nW_L) (rx_lkc [(18, (3, some 10, 0, 0, lC f_X11_at))] [] []) (some .int) 1 6 5 kn_at 10
theorem nw_at (l : Launch) : rx_M l yL_at (Cond.codeWith yL_at cL_at 5 (some .int) [(0, 10, 13, 22), (0, 10, 17, 13)] :: rx_WT) { frames := 12, cells := 1, slots := 6, locals := 300 } FN_at := rx_metH 10 (by decide +kernel) kC_L_ok gS_L_ok fG_L_ok fL_L_ok (fP_L_ok _) nW_L_ok rx_ar (by decide +kernel) (rx_lkc_of (rx_n1 (rx_caV 2 10 (rx_M.lift _ _ _ _ (m_X11_at l) rfl) w_X11_at_c w_X11_at_n (by decide +kernel) w_X11_at_i w_X11_at_s w_X11_at_d (by decide) rfl rfl) rx_n0) rx_n0 rx_n0)
theorem wp_at {vh : rx_H} {a0 o : Nat} {p0 p1 : Int32} (ha : a0 < vh.length) (ho : o < vh.length) : rx_fnS (rx_lkk kC_L) (rx_lkf fL_L) (rx_lkf fP_L) (rx_lkg gS_L) (rx_lkg fG_L) (rx_lkw nW_L) (rx_lkc [] [] []) (some .int) 1 6 5 kp_at 5 (StW ([.int p0, .int p1].reverse ++ .ref a0 :: [.int 0, .ref o])) 10 vh [.ref a0, .int p0, .int p1, .ref o] = some (none, vh) := by
  refine ry_fnS_eq ?_
  refine ry_t ⟨rfl, rfl, rfl, ?_⟩ rfl
  show (rx_wv vh.length (.ref a0) && (rx_wv vh.length (.int p0) && (rx_wv vh.length (.int p1) && (rx_wv vh.length (.ref o) && true)))) = true
  rw [wv_lt ha, wv_lt ho]
  rfl
noncomputable def FX_at_1 : rx_F := fun vh As => @ite _ (∃ p0 p1, TW g_X11_at_15 [p0, p1] vh As) (Classical.propDecidable _) (some (some (.int 1), vh)) none
theorem mw_at_1 (l : Launch) (hl : l.stackTraces = false) : rx_MW l yL_at (Cond.codeWith yL_at cL_at 5 (some .int) [(0, 10, 13, 22), (0, 10, 17, 13)] :: rx_WT) { frames := 12, cells := 1, slots := 6, locals := 300 } FX_at_1 := by
  intro D tys ca ad vh As rv vh' sz hty hF
  unfold FX_at_1 at hF
  by_cases c : ∃ p0 p1, TW g_X11_at_15 [p0, p1] vh As
  · rw [if_pos c] at hF
    cases hF
    obtain ⟨p0, p1, a0, o, fs, rfl, h1, h2, h3, h4, h5⟩ := c
    exact rx_metHX (cd := kp_at) (ch := kh_at) (cf := rx_lkc [] [] []) 10 5 18 2 10 (by decide +kernel) kC_L_ok gS_L_ok fG_L_ok fL_L_ok (fP_L_ok _) nW_L_ok rx_ar (by decide +kernel) (by decide +kernel) (rx_lkc_of rx_n0 rx_n0 rx_n0) (rx_MX.lift 38 (mx_X11_at_15 l hl)) w_X11_at_c w_X11_at_n (by decide +kernel) w_X11_at_i w_X11_at_s w_X11_at_d (by decide) rfl rfl (by decide +kernel) [] [{ startPc := 0, endPc := 10, handlerPc := 17, catchType := 13 }] { startPc := 0, endPc := 10, handlerPc := 13, catchType := 22 } rfl (fun z hz => nomatch hz) (by decide) (by decide) lk_22 (by decide +kernel) (by decide) (by decide) hty a0 fs [.int p0, .int p1] [.int 0, .ref o] (wp_at (List.getElem?_eq_some_iff.mp h1).1 h2) h1 h3 rfl (show 1 + (1 + 0) ≤ 8 by decide) h4 h5 (fun ls => rfl)
  · rw [if_neg c] at hF
    cases hF
theorem wx_at_1 {I I' : Nat → Int32} {L L' : Nat → Int64} {T T' : Nat → Nat → Int32} {U U' : Nat → Nat → Int64} {J : Nat → Int32} {S : Nat → Nat → Int32} {K : Nat → Int64} {f : Nat → Int64} {p0 p1 : Int32} (h : g_X11_at_15 (wc I L T U) [.ref 0, .int p0, .int p1] = some (none, wc I L T U)) : FX_at_1 (wl I L T U J S K f) [.ref 0, .int p0, .int p1, .ref 58] = some (some (.int 1), wl I L T U J S K f) := if_pos ⟨p0, p1, 0, 58, [.ref 1, .ref 5, .ref 9, .ref 16, .ref 19, .ref 24], rfl, rfl, (show 58 < 59 by decide), lfX_eq h, rfl, (show 59 < 1000000 by decide)⟩
noncomputable def FX_at_2 : rx_F := fun vh As => @ite _ (∃ p0 p1, TW g_X11_at_34 [p0, p1] vh As) (Classical.propDecidable _) (some (some (.int 2), vh)) none
theorem mw_at_2 (l : Launch) (hl : l.stackTraces = false) : rx_MW l yL_at (Cond.codeWith yL_at cL_at 5 (some .int) [(0, 10, 13, 22), (0, 10, 17, 13)] :: rx_WT) { frames := 12, cells := 1, slots := 6, locals := 300 } FX_at_2 := by
  intro D tys ca ad vh As rv vh' sz hty hF
  unfold FX_at_2 at hF
  by_cases c : ∃ p0 p1, TW g_X11_at_34 [p0, p1] vh As
  · rw [if_pos c] at hF
    cases hF
    obtain ⟨p0, p1, a0, o, fs, rfl, h1, h2, h3, h4, h5⟩ := c
    exact rx_metHX (cd := kp_at) (ch := kh_at) (cf := rx_lkc [] [] []) 10 5 18 2 10 (by decide +kernel) kC_L_ok gS_L_ok fG_L_ok fL_L_ok (fP_L_ok _) nW_L_ok rx_ar (by decide +kernel) (by decide +kernel) (rx_lkc_of rx_n0 rx_n0 rx_n0) (rx_MX.lift 38 (mx_X11_at_34 l hl)) w_X11_at_c w_X11_at_n (by decide +kernel) w_X11_at_i w_X11_at_s w_X11_at_d (by decide) rfl rfl (by decide +kernel) [{ startPc := 0, endPc := 10, handlerPc := 13, catchType := 22 }] [] { startPc := 0, endPc := 10, handlerPc := 17, catchType := 13 } rfl (fun z hz => by
        rcases List.mem_cons.mp hz with rfl | hz
        · exact Or.inr ⟨by decide, lk_22, rfl⟩
        · cases hz) (by decide) (by decide) lk_13 (by decide +kernel) (by decide) (by decide) hty a0 fs [.int p0, .int p1] [.int 0, .ref o] (wp_at (List.getElem?_eq_some_iff.mp h1).1 h2) h1 h3 rfl (show 1 + (1 + 0) ≤ 8 by decide) h4 h5 (fun ls => rfl)
  · rw [if_neg c] at hF
    cases hF
theorem wx_at_2 {I I' : Nat → Int32} {L L' : Nat → Int64} {T T' : Nat → Nat → Int32} {U U' : Nat → Nat → Int64} {J : Nat → Int32} {S : Nat → Nat → Int32} {K : Nat → Int64} {f : Nat → Int64} {p0 p1 : Int32} (h : g_X11_at_34 (wc I L T U) [.ref 0, .int p0, .int p1] = some (none, wc I L T U)) : FX_at_2 (wl I L T U J S K f) [.ref 0, .int p0, .int p1, .ref 58] = some (some (.int 2), wl I L T U J S K f) := if_pos ⟨p0, p1, 0, 58, [.ref 1, .ref 5, .ref 9, .ref 16, .ref 19, .ref 24], rfl, rfl, (show 58 < 59 by decide), lfX_eq h, rfl, (show 59 < 1000000 by decide)⟩
theorem mw_at_0 (l : Launch) : rx_MW l yL_at (Cond.codeWith yL_at cL_at 5 (some .int) [(0, 10, 13, 22), (0, 10, 17, 13)] :: rx_WT) { frames := 12, cells := 1, slots := 6, locals := 300 } FN_at := fun D tys ca ad vh As rv vh' sz hty hF => met_mono (nw_at l D tys ca ad vh As rv vh' sz hty hF) (fun _ _ h => h.1) (fun _ _ _ _ _ h => h) (fun _ h => h)
theorem wn_at {I I' : Nat → Int32} {L L' : Nat → Int64} {T T' : Nat → Nat → Int32} {U U' : Nat → Nat → Int64} {J : Nat → Int32} {S : Nat → Nat → Int32} {K : Nat → Int64} {f : Nat → Int64} {p0 p1 r : Int32} (h : f_X11_at (wc I L T U) [.ref 0, .int p0, .int p1] = some (some (.int r), wc I' L' T' U')) : FN_at (wl I L T U J S K f) [.ref 0, .int p0, .int p1, .ref 58] = some (some (.int 0), wl I' L' T' U' J S K (vp_updL f 0 r.toInt64)) := by
  refine ry_fn_eq ?_
  refine ry_b (lC_eq h (fun _ _ => rfl)) ?_
  refine ry_f (c := (0 : Int32) < 0 ∨ 1 ≤ (0 : Int32).toNatClampNeg) (by decide) ?_
  rfl
def kn_value : List (Nat × List (Instr × Nat)) := [(0, [(.aload_n 3, 1), (.iconst 0, 1), (.aload_n 0, 1), (.iload_n 1, 1), (.iload_n 2, 1), (.invokevirtual 24, 3), (.i2l, 1), (.lastore, 1), (.goto 11, 3)]), (21, [(.iconst 0, 1), (.ireturn, 1)])]
def kp_value : List (Nat × List (Instr × Nat)) := [(0, [(.aload_n 3, 1), (.iconst 0, 1), (.aload_n 0, 1), (.iload_n 1, 1), (.iload_n 2, 1)])]
def kh_value : List (Nat × List (Instr × Nat)) := [(13, [(.astore 4, 2), (.iconst 1, 1), (.ireturn, 1)]), (17, [(.astore 4, 2), (.iconst 2, 1), (.ireturn, 1)])]
noncomputable def FN_value : rx_F := rx_fn (rx_lkk kC_L) (rx_lkf fL_L) (rx_lkf fP_L) (rx_lkg gS_L) (rx_lkg fG_L) (rx_lkw nW_L) (rx_lkc [(24, (3, some 10, 0, 0, lC f_X11_value))] [] []) (some .int) 1 6 5 kn_value 10
theorem nw_value (l : Launch) : rx_M l yL_value (Cond.codeWith yL_value cL_value 5 (some .int) [(0, 10, 13, 22), (0, 10, 17, 13)] :: rx_WT) { frames := 12, cells := 1, slots := 6, locals := 300 } FN_value := rx_metH 10 (by decide +kernel) kC_L_ok gS_L_ok fG_L_ok fL_L_ok (fP_L_ok _) nW_L_ok rx_ar (by decide +kernel) (rx_lkc_of (rx_n1 (rx_caV 2 10 (rx_M.lift _ _ _ _ (m_X11_value l) rfl) w_X11_value_c w_X11_value_n (by decide +kernel) w_X11_value_i w_X11_value_s w_X11_value_d (by decide) rfl rfl) rx_n0) rx_n0 rx_n0)
theorem wp_value {vh : rx_H} {a0 o : Nat} {p0 p1 : Int32} (ha : a0 < vh.length) (ho : o < vh.length) : rx_fnS (rx_lkk kC_L) (rx_lkf fL_L) (rx_lkf fP_L) (rx_lkg gS_L) (rx_lkg fG_L) (rx_lkw nW_L) (rx_lkc [] [] []) (some .int) 1 6 5 kp_value 5 (StW ([.int p0, .int p1].reverse ++ .ref a0 :: [.int 0, .ref o])) 10 vh [.ref a0, .int p0, .int p1, .ref o] = some (none, vh) := by
  refine ry_fnS_eq ?_
  refine ry_t ⟨rfl, rfl, rfl, ?_⟩ rfl
  show (rx_wv vh.length (.ref a0) && (rx_wv vh.length (.int p0) && (rx_wv vh.length (.int p1) && (rx_wv vh.length (.ref o) && true)))) = true
  rw [wv_lt ha, wv_lt ho]
  rfl
noncomputable def FX_value_1 : rx_F := fun vh As => @ite _ (∃ p0 p1, TW g_X11_value_15 [p0, p1] vh As) (Classical.propDecidable _) (some (some (.int 1), vh)) none
theorem mw_value_1 (l : Launch) (hl : l.stackTraces = false) : rx_MW l yL_value (Cond.codeWith yL_value cL_value 5 (some .int) [(0, 10, 13, 22), (0, 10, 17, 13)] :: rx_WT) { frames := 12, cells := 1, slots := 6, locals := 300 } FX_value_1 := by
  intro D tys ca ad vh As rv vh' sz hty hF
  unfold FX_value_1 at hF
  by_cases c : ∃ p0 p1, TW g_X11_value_15 [p0, p1] vh As
  · rw [if_pos c] at hF
    cases hF
    obtain ⟨p0, p1, a0, o, fs, rfl, h1, h2, h3, h4, h5⟩ := c
    exact rx_metHX (cd := kp_value) (ch := kh_value) (cf := rx_lkc [] [] []) 10 5 24 2 10 (by decide +kernel) kC_L_ok gS_L_ok fG_L_ok fL_L_ok (fP_L_ok _) nW_L_ok rx_ar (by decide +kernel) (by decide +kernel) (rx_lkc_of rx_n0 rx_n0 rx_n0) (rx_MX.lift 38 (mx_X11_value_15 l hl)) w_X11_value_c w_X11_value_n (by decide +kernel) w_X11_value_i w_X11_value_s w_X11_value_d (by decide) rfl rfl (by decide +kernel) [] [{ startPc := 0, endPc := 10, handlerPc := 17, catchType := 13 }] { startPc := 0, endPc := 10, handlerPc := 13, catchType := 22 } rfl (fun z hz => nomatch hz) (by decide) (by decide) lk_22 (by decide +kernel) (by decide) (by decide) hty a0 fs [.int p0, .int p1] [.int 0, .ref o] (wp_value (List.getElem?_eq_some_iff.mp h1).1 h2) h1 h3 rfl (show 1 + (1 + 0) ≤ 8 by decide) h4 h5 (fun ls => rfl)
  · rw [if_neg c] at hF
    cases hF
theorem wx_value_1 {I I' : Nat → Int32} {L L' : Nat → Int64} {T T' : Nat → Nat → Int32} {U U' : Nat → Nat → Int64} {J : Nat → Int32} {S : Nat → Nat → Int32} {K : Nat → Int64} {f : Nat → Int64} {p0 p1 : Int32} (h : g_X11_value_15 (wc I L T U) [.ref 0, .int p0, .int p1] = some (none, wc I L T U)) : FX_value_1 (wl I L T U J S K f) [.ref 0, .int p0, .int p1, .ref 58] = some (some (.int 1), wl I L T U J S K f) := if_pos ⟨p0, p1, 0, 58, [.ref 1, .ref 5, .ref 9, .ref 16, .ref 19, .ref 24], rfl, rfl, (show 58 < 59 by decide), lfX_eq h, rfl, (show 59 < 1000000 by decide)⟩
noncomputable def FX_value_2 : rx_F := fun vh As => @ite _ (∃ p0 p1, TW g_X11_value_34 [p0, p1] vh As) (Classical.propDecidable _) (some (some (.int 2), vh)) none
theorem mw_value_2 (l : Launch) (hl : l.stackTraces = false) : rx_MW l yL_value (Cond.codeWith yL_value cL_value 5 (some .int) [(0, 10, 13, 22), (0, 10, 17, 13)] :: rx_WT) { frames := 12, cells := 1, slots := 6, locals := 300 } FX_value_2 := by
  intro D tys ca ad vh As rv vh' sz hty hF
  unfold FX_value_2 at hF
  by_cases c : ∃ p0 p1, TW g_X11_value_34 [p0, p1] vh As
  · rw [if_pos c] at hF
    cases hF
    obtain ⟨p0, p1, a0, o, fs, rfl, h1, h2, h3, h4, h5⟩ := c
    exact rx_metHX (cd := kp_value) (ch := kh_value) (cf := rx_lkc [] [] []) 10 5 24 2 10 (by decide +kernel) kC_L_ok gS_L_ok fG_L_ok fL_L_ok (fP_L_ok _) nW_L_ok rx_ar (by decide +kernel) (by decide +kernel) (rx_lkc_of rx_n0 rx_n0 rx_n0) (rx_MX.lift 38 (mx_X11_value_34 l hl)) w_X11_value_c w_X11_value_n (by decide +kernel) w_X11_value_i w_X11_value_s w_X11_value_d (by decide) rfl rfl (by decide +kernel) [{ startPc := 0, endPc := 10, handlerPc := 13, catchType := 22 }] [] { startPc := 0, endPc := 10, handlerPc := 17, catchType := 13 } rfl (fun z hz => by
        rcases List.mem_cons.mp hz with rfl | hz
        · exact Or.inr ⟨by decide, lk_22, rfl⟩
        · cases hz) (by decide) (by decide) lk_13 (by decide +kernel) (by decide) (by decide) hty a0 fs [.int p0, .int p1] [.int 0, .ref o] (wp_value (List.getElem?_eq_some_iff.mp h1).1 h2) h1 h3 rfl (show 1 + (1 + 0) ≤ 8 by decide) h4 h5 (fun ls => rfl)
  · rw [if_neg c] at hF
    cases hF
theorem wx_value_2 {I I' : Nat → Int32} {L L' : Nat → Int64} {T T' : Nat → Nat → Int32} {U U' : Nat → Nat → Int64} {J : Nat → Int32} {S : Nat → Nat → Int32} {K : Nat → Int64} {f : Nat → Int64} {p0 p1 : Int32} (h : g_X11_value_34 (wc I L T U) [.ref 0, .int p0, .int p1] = some (none, wc I L T U)) : FX_value_2 (wl I L T U J S K f) [.ref 0, .int p0, .int p1, .ref 58] = some (some (.int 2), wl I L T U J S K f) := if_pos ⟨p0, p1, 0, 58, [.ref 1, .ref 5, .ref 9, .ref 16, .ref 19, .ref 24], rfl, rfl, (show 58 < 59 by decide), lfX_eq h, rfl, (show 59 < 1000000 by decide)⟩
theorem mw_value_0 (l : Launch) : rx_MW l yL_value (Cond.codeWith yL_value cL_value 5 (some .int) [(0, 10, 13, 22), (0, 10, 17, 13)] :: rx_WT) { frames := 12, cells := 1, slots := 6, locals := 300 } FN_value := fun D tys ca ad vh As rv vh' sz hty hF => met_mono (nw_value l D tys ca ad vh As rv vh' sz hty hF) (fun _ _ h => h.1) (fun _ _ _ _ _ h => h) (fun _ h => h)
theorem wn_value {I I' : Nat → Int32} {L L' : Nat → Int64} {T T' : Nat → Nat → Int32} {U U' : Nat → Nat → Int64} {J : Nat → Int32} {S : Nat → Nat → Int32} {K : Nat → Int64} {f : Nat → Int64} {p0 p1 r : Int32} (h : f_X11_value (wc I L T U) [.ref 0, .int p0, .int p1] = some (some (.int r), wc I' L' T' U')) : FN_value (wl I L T U J S K f) [.ref 0, .int p0, .int p1, .ref 58] = some (some (.int 0), wl I' L' T' U' J S K (vp_updL f 0 r.toInt64)) := by
  refine ry_fn_eq ?_
  refine ry_b (lC_eq h (fun _ _ => rfl)) ?_
  refine ry_f (c := (0 : Int32) < 0 ∨ 1 ≤ (0 : Int32).toNatClampNeg) (by decide) ?_
  rfl
def kn_octet : List (Nat × List (Instr × Nat)) := [(0, [(.aload_n 2, 1), (.iconst 0, 1), (.aload_n 0, 1), (.iload_n 1, 1), (.invokevirtual 27, 3), (.i2l, 1), (.lastore, 1), (.goto 6, 3)]), (15, [(.iconst 0, 1), (.ireturn, 1)])]
def kp_octet : List (Nat × List (Instr × Nat)) := [(0, [(.aload_n 2, 1), (.iconst 0, 1), (.aload_n 0, 1), (.iload_n 1, 1)])]
def kh_octet : List (Nat × List (Instr × Nat)) := [(12, [(.astore_n 3, 1), (.iconst 1, 1), (.ireturn, 1)])]
noncomputable def FN_octet : rx_F := rx_fn (rx_lkk kC_L) (rx_lkf fL_L) (rx_lkf fP_L) (rx_lkg gS_L) (rx_lkg fG_L) (rx_lkw nW_L) (rx_lkc [(27, (2, some 10, 0, 0, lC f_X11_octet))] [] []) (some .int) 1 6 4 kn_octet 10
theorem nw_octet (l : Launch) : rx_M l yL_octet (Cond.codeWith yL_octet cL_octet 4 (some .int) [(0, 9, 12, 22)] :: rx_WT) { frames := 12, cells := 1, slots := 6, locals := 300 } FN_octet := rx_metH 10 (by decide +kernel) kC_L_ok gS_L_ok fG_L_ok fL_L_ok (fP_L_ok _) nW_L_ok rx_ar (by decide +kernel) (rx_lkc_of (rx_n1 (rx_caV 1 10 (rx_M.lift _ _ _ _ (m_X11_octet l) rfl) w_X11_octet_c w_X11_octet_n (by decide +kernel) w_X11_octet_i w_X11_octet_s w_X11_octet_d (by decide) rfl rfl) rx_n0) rx_n0 rx_n0)
theorem wp_octet {vh : rx_H} {a0 o : Nat} {p0 : Int32} (ha : a0 < vh.length) (ho : o < vh.length) : rx_fnS (rx_lkk kC_L) (rx_lkf fL_L) (rx_lkf fP_L) (rx_lkg gS_L) (rx_lkg fG_L) (rx_lkw nW_L) (rx_lkc [] [] []) (some .int) 1 6 4 kp_octet 4 (StW ([.int p0].reverse ++ .ref a0 :: [.int 0, .ref o])) 10 vh [.ref a0, .int p0, .ref o] = some (none, vh) := by
  refine ry_fnS_eq ?_
  refine ry_t ⟨rfl, rfl, rfl, ?_⟩ rfl
  show (rx_wv vh.length (.ref a0) && (rx_wv vh.length (.int p0) && (rx_wv vh.length (.ref o) && true))) = true
  rw [wv_lt ha, wv_lt ho]
  rfl
noncomputable def FX_octet_1 : rx_F := fun vh As => @ite _ (∃ p0, TW g_X11_octet_15 [p0] vh As) (Classical.propDecidable _) (some (some (.int 1), vh)) none
theorem mw_octet_1 (l : Launch) (hl : l.stackTraces = false) : rx_MW l yL_octet (Cond.codeWith yL_octet cL_octet 4 (some .int) [(0, 9, 12, 22)] :: rx_WT) { frames := 12, cells := 1, slots := 6, locals := 300 } FX_octet_1 := by
  intro D tys ca ad vh As rv vh' sz hty hF
  unfold FX_octet_1 at hF
  by_cases c : ∃ p0, TW g_X11_octet_15 [p0] vh As
  · rw [if_pos c] at hF
    cases hF
    obtain ⟨p0, a0, o, fs, rfl, h1, h2, h3, h4, h5⟩ := c
    exact rx_metHX (cd := kp_octet) (ch := kh_octet) (cf := rx_lkc [] [] []) 10 4 27 1 10 (by decide +kernel) kC_L_ok gS_L_ok fG_L_ok fL_L_ok (fP_L_ok _) nW_L_ok rx_ar (by decide +kernel) (by decide +kernel) (rx_lkc_of rx_n0 rx_n0 rx_n0) (rx_MX.lift 38 (mx_X11_octet_15 l hl)) w_X11_octet_c w_X11_octet_n (by decide +kernel) w_X11_octet_i w_X11_octet_s w_X11_octet_d (by decide) rfl rfl (by decide +kernel) [] [] { startPc := 0, endPc := 9, handlerPc := 12, catchType := 22 } rfl (fun z hz => nomatch hz) (by decide) (by decide) lk_22 (by decide +kernel) (by decide) (by decide) hty a0 fs [.int p0] [.int 0, .ref o] (wp_octet (List.getElem?_eq_some_iff.mp h1).1 h2) h1 h3 rfl (show 1 + (1 + 0) ≤ 8 by decide) h4 h5 (fun ls => rfl)
  · rw [if_neg c] at hF
    cases hF
theorem wx_octet_1 {I I' : Nat → Int32} {L L' : Nat → Int64} {T T' : Nat → Nat → Int32} {U U' : Nat → Nat → Int64} {J : Nat → Int32} {S : Nat → Nat → Int32} {K : Nat → Int64} {f : Nat → Int64} {p0 : Int32} (h : g_X11_octet_15 (wc I L T U) [.ref 0, .int p0] = some (none, wc I L T U)) : FX_octet_1 (wl I L T U J S K f) [.ref 0, .int p0, .ref 58] = some (some (.int 1), wl I L T U J S K f) := if_pos ⟨p0, 0, 58, [.ref 1, .ref 5, .ref 9, .ref 16, .ref 19, .ref 24], rfl, rfl, (show 58 < 59 by decide), lfX_eq h, rfl, (show 59 < 1000000 by decide)⟩
theorem mw_octet_0 (l : Launch) : rx_MW l yL_octet (Cond.codeWith yL_octet cL_octet 4 (some .int) [(0, 9, 12, 22)] :: rx_WT) { frames := 12, cells := 1, slots := 6, locals := 300 } FN_octet := fun D tys ca ad vh As rv vh' sz hty hF => met_mono (nw_octet l D tys ca ad vh As rv vh' sz hty hF) (fun _ _ h => h.1) (fun _ _ _ _ _ h => h) (fun _ h => h)
theorem wn_octet {I I' : Nat → Int32} {L L' : Nat → Int64} {T T' : Nat → Nat → Int32} {U U' : Nat → Nat → Int64} {J : Nat → Int32} {S : Nat → Nat → Int32} {K : Nat → Int64} {f : Nat → Int64} {p0 r : Int32} (h : f_X11_octet (wc I L T U) [.ref 0, .int p0] = some (some (.int r), wc I' L' T' U')) : FN_octet (wl I L T U J S K f) [.ref 0, .int p0, .ref 58] = some (some (.int 0), wl I' L' T' U' J S K (vp_updL f 0 r.toInt64)) := by
  refine ry_fn_eq ?_
  refine ry_b (lC_eq h (fun _ _ => rfl)) ?_
  refine ry_f (c := (0 : Int32) < 0 ∨ 1 ≤ (0 : Int32).toNatClampNeg) (by decide) ?_
  rfl
def kn_dictionary : List (Nat × List (Instr × Nat)) := [(0, [(.aload 4, 2), (.iconst 0, 1), (.aload_n 0, 1), (.iload_n 1, 1), (.iload_n 2, 1), (.iload_n 3, 1), (.invokevirtual 30, 3), (.i2l, 1), (.lastore, 1), (.goto 11, 3)]), (23, [(.iconst 0, 1), (.ireturn, 1)])]
def kp_dictionary : List (Nat × List (Instr × Nat)) := [(0, [(.aload 4, 2), (.iconst 0, 1), (.aload_n 0, 1), (.iload_n 1, 1), (.iload_n 2, 1), (.iload_n 3, 1)])]
def kh_dictionary : List (Nat × List (Instr × Nat)) := [(15, [(.astore 5, 2), (.iconst 1, 1), (.ireturn, 1)]), (19, [(.astore 5, 2), (.iconst 2, 1), (.ireturn, 1)])]
noncomputable def FN_dictionary : rx_F := rx_fn (rx_lkk kC_L) (rx_lkf fL_L) (rx_lkf fP_L) (rx_lkg gS_L) (rx_lkg fG_L) (rx_lkw nW_L) (rx_lkc [(30, (4, some 10, 0, 0, lC f_X11_dictionary))] [] []) (some .int) 1 6 6 kn_dictionary 10
theorem nw_dictionary (l : Launch) : rx_M l yL_dictionary (Cond.codeWith yL_dictionary cL_dictionary 6 (some .int) [(0, 12, 15, 22), (0, 12, 19, 13)] :: rx_WT) { frames := 12, cells := 1, slots := 6, locals := 300 } FN_dictionary := rx_metH 10 (by decide +kernel) kC_L_ok gS_L_ok fG_L_ok fL_L_ok (fP_L_ok _) nW_L_ok rx_ar (by decide +kernel) (rx_lkc_of (rx_n1 (rx_caV 3 10 (rx_M.lift _ _ _ _ (m_X11_dictionary l) rfl) w_X11_dictionary_c w_X11_dictionary_n (by decide +kernel) w_X11_dictionary_i w_X11_dictionary_s w_X11_dictionary_d (by decide) rfl rfl) rx_n0) rx_n0 rx_n0)
theorem wp_dictionary {vh : rx_H} {a0 o : Nat} {p0 p1 p2 : Int32} (ha : a0 < vh.length) (ho : o < vh.length) : rx_fnS (rx_lkk kC_L) (rx_lkf fL_L) (rx_lkf fP_L) (rx_lkg gS_L) (rx_lkg fG_L) (rx_lkw nW_L) (rx_lkc [] [] []) (some .int) 1 6 6 kp_dictionary 7 (StW ([.int p0, .int p1, .int p2].reverse ++ .ref a0 :: [.int 0, .ref o])) 10 vh [.ref a0, .int p0, .int p1, .int p2, .ref o] = some (none, vh) := by
  refine ry_fnS_eq ?_
  refine ry_t ⟨rfl, rfl, rfl, ?_⟩ rfl
  show (rx_wv vh.length (.ref a0) && (rx_wv vh.length (.int p0) && (rx_wv vh.length (.int p1) && (rx_wv vh.length (.int p2) && (rx_wv vh.length (.ref o) && true))))) = true
  rw [wv_lt ha, wv_lt ho]
  rfl
noncomputable def FX_dictionary_1 : rx_F := fun vh As => @ite _ (∃ p0 p1 p2, TW g_X11_dictionary_33 [p0, p1, p2] vh As) (Classical.propDecidable _) (some (some (.int 1), vh)) none
theorem mw_dictionary_1 (l : Launch) (hl : l.stackTraces = false) : rx_MW l yL_dictionary (Cond.codeWith yL_dictionary cL_dictionary 6 (some .int) [(0, 12, 15, 22), (0, 12, 19, 13)] :: rx_WT) { frames := 12, cells := 1, slots := 6, locals := 300 } FX_dictionary_1 := by
  intro D tys ca ad vh As rv vh' sz hty hF
  unfold FX_dictionary_1 at hF
  by_cases c : ∃ p0 p1 p2, TW g_X11_dictionary_33 [p0, p1, p2] vh As
  · rw [if_pos c] at hF
    cases hF
    obtain ⟨p0, p1, p2, a0, o, fs, rfl, h1, h2, h3, h4, h5⟩ := c
    exact rx_metHX (cd := kp_dictionary) (ch := kh_dictionary) (cf := rx_lkc [] [] []) 10 7 30 3 10 (by decide +kernel) kC_L_ok gS_L_ok fG_L_ok fL_L_ok (fP_L_ok _) nW_L_ok rx_ar (by decide +kernel) (by decide +kernel) (rx_lkc_of rx_n0 rx_n0 rx_n0) (rx_MX.lift 38 (mx_X11_dictionary_33 l hl)) w_X11_dictionary_c w_X11_dictionary_n (by decide +kernel) w_X11_dictionary_i w_X11_dictionary_s w_X11_dictionary_d (by decide) rfl rfl (by decide +kernel) [] [{ startPc := 0, endPc := 12, handlerPc := 19, catchType := 13 }] { startPc := 0, endPc := 12, handlerPc := 15, catchType := 22 } rfl (fun z hz => nomatch hz) (by decide) (by decide) lk_22 (by decide +kernel) (by decide) (by decide) hty a0 fs [.int p0, .int p1, .int p2] [.int 0, .ref o] (wp_dictionary (List.getElem?_eq_some_iff.mp h1).1 h2) h1 h3 rfl (show 1 + (1 + 0) ≤ 8 by decide) h4 h5 (fun ls => rfl)
  · rw [if_neg c] at hF
    cases hF
theorem wx_dictionary_1 {I I' : Nat → Int32} {L L' : Nat → Int64} {T T' : Nat → Nat → Int32} {U U' : Nat → Nat → Int64} {J : Nat → Int32} {S : Nat → Nat → Int32} {K : Nat → Int64} {f : Nat → Int64} {p0 p1 p2 : Int32} (h : g_X11_dictionary_33 (wc I L T U) [.ref 0, .int p0, .int p1, .int p2] = some (none, wc I L T U)) : FX_dictionary_1 (wl I L T U J S K f) [.ref 0, .int p0, .int p1, .int p2, .ref 58] = some (some (.int 1), wl I L T U J S K f) := if_pos ⟨p0, p1, p2, 0, 58, [.ref 1, .ref 5, .ref 9, .ref 16, .ref 19, .ref 24], rfl, rfl, (show 58 < 59 by decide), lfX_eq h, rfl, (show 59 < 1000000 by decide)⟩
noncomputable def FX_dictionary_2 : rx_F := fun vh As => @ite _ (∃ p0 p1 p2, TW g_X11_dictionary_81 [p0, p1, p2] vh As) (Classical.propDecidable _) (some (some (.int 2), vh)) none
theorem mw_dictionary_2 (l : Launch) (hl : l.stackTraces = false) : rx_MW l yL_dictionary (Cond.codeWith yL_dictionary cL_dictionary 6 (some .int) [(0, 12, 15, 22), (0, 12, 19, 13)] :: rx_WT) { frames := 12, cells := 1, slots := 6, locals := 300 } FX_dictionary_2 := by
  intro D tys ca ad vh As rv vh' sz hty hF
  unfold FX_dictionary_2 at hF
  by_cases c : ∃ p0 p1 p2, TW g_X11_dictionary_81 [p0, p1, p2] vh As
  · rw [if_pos c] at hF
    cases hF
    obtain ⟨p0, p1, p2, a0, o, fs, rfl, h1, h2, h3, h4, h5⟩ := c
    exact rx_metHX (cd := kp_dictionary) (ch := kh_dictionary) (cf := rx_lkc [] [] []) 10 7 30 3 10 (by decide +kernel) kC_L_ok gS_L_ok fG_L_ok fL_L_ok (fP_L_ok _) nW_L_ok rx_ar (by decide +kernel) (by decide +kernel) (rx_lkc_of rx_n0 rx_n0 rx_n0) (rx_MX.lift 38 (mx_X11_dictionary_81 l hl)) w_X11_dictionary_c w_X11_dictionary_n (by decide +kernel) w_X11_dictionary_i w_X11_dictionary_s w_X11_dictionary_d (by decide) rfl rfl (by decide +kernel) [{ startPc := 0, endPc := 12, handlerPc := 15, catchType := 22 }] [] { startPc := 0, endPc := 12, handlerPc := 19, catchType := 13 } rfl (fun z hz => by
        rcases List.mem_cons.mp hz with rfl | hz
        · exact Or.inr ⟨by decide, lk_22, rfl⟩
        · cases hz) (by decide) (by decide) lk_13 (by decide +kernel) (by decide) (by decide) hty a0 fs [.int p0, .int p1, .int p2] [.int 0, .ref o] (wp_dictionary (List.getElem?_eq_some_iff.mp h1).1 h2) h1 h3 rfl (show 1 + (1 + 0) ≤ 8 by decide) h4 h5 (fun ls => rfl)
  · rw [if_neg c] at hF
    cases hF
theorem wx_dictionary_2 {I I' : Nat → Int32} {L L' : Nat → Int64} {T T' : Nat → Nat → Int32} {U U' : Nat → Nat → Int64} {J : Nat → Int32} {S : Nat → Nat → Int32} {K : Nat → Int64} {f : Nat → Int64} {p0 p1 p2 : Int32} (h : g_X11_dictionary_81 (wc I L T U) [.ref 0, .int p0, .int p1, .int p2] = some (none, wc I L T U)) : FX_dictionary_2 (wl I L T U J S K f) [.ref 0, .int p0, .int p1, .int p2, .ref 58] = some (some (.int 2), wl I L T U J S K f) := if_pos ⟨p0, p1, p2, 0, 58, [.ref 1, .ref 5, .ref 9, .ref 16, .ref 19, .ref 24], rfl, rfl, (show 58 < 59 by decide), lfX_eq h, rfl, (show 59 < 1000000 by decide)⟩
theorem mw_dictionary_0 (l : Launch) : rx_MW l yL_dictionary (Cond.codeWith yL_dictionary cL_dictionary 6 (some .int) [(0, 12, 15, 22), (0, 12, 19, 13)] :: rx_WT) { frames := 12, cells := 1, slots := 6, locals := 300 } FN_dictionary := fun D tys ca ad vh As rv vh' sz hty hF => met_mono (nw_dictionary l D tys ca ad vh As rv vh' sz hty hF) (fun _ _ h => h.1) (fun _ _ _ _ _ h => h) (fun _ h => h)
theorem wn_dictionary {I I' : Nat → Int32} {L L' : Nat → Int64} {T T' : Nat → Nat → Int32} {U U' : Nat → Nat → Int64} {J : Nat → Int32} {S : Nat → Nat → Int32} {K : Nat → Int64} {f : Nat → Int64} {p0 p1 p2 r : Int32} (h : f_X11_dictionary (wc I L T U) [.ref 0, .int p0, .int p1, .int p2] = some (some (.int r), wc I' L' T' U')) : FN_dictionary (wl I L T U J S K f) [.ref 0, .int p0, .int p1, .int p2, .ref 58] = some (some (.int 0), wl I' L' T' U' J S K (vp_updL f 0 r.toInt64)) := by
  refine ry_fn_eq ?_
  refine ry_b (lC_eq h (fun _ _ => rfl)) ?_
  refine ry_f (c := (0 : Int32) < 0 ∨ 1 ≤ (0 : Int32).toNatClampNeg) (by decide) ?_
  rfl
def kn_name : List (Nat × List (Instr × Nat)) := [(0, [(.aload_n 3, 1), (.iconst 0, 1), (.aload_n 0, 1), (.iload_n 1, 1), (.iload_n 2, 1), (.invokevirtual 34, 3), (.i2l, 1), (.lastore, 1), (.goto 7, 3)]), (17, [(.iconst 0, 1), (.ireturn, 1)])]
def kp_name : List (Nat × List (Instr × Nat)) := [(0, [(.aload_n 3, 1), (.iconst 0, 1), (.aload_n 0, 1), (.iload_n 1, 1), (.iload_n 2, 1)])]
def kh_name : List (Nat × List (Instr × Nat)) := [(13, [(.astore 4, 2), (.iconst 1, 1), (.ireturn, 1)])]
noncomputable def FN_name : rx_F := rx_fn (rx_lkk kC_L) (rx_lkf fL_L) (rx_lkf fP_L) (rx_lkg gS_L) (rx_lkg fG_L) (rx_lkw nW_L) (rx_lkc [(34, (3, some 10, 0, 0, lC f_X11_name))] [] []) (some .int) 1 6 5 kn_name 10
theorem nw_name (l : Launch) : rx_M l yL_name (Cond.codeWith yL_name cL_name 5 (some .int) [(0, 10, 13, 22)] :: rx_WT) { frames := 12, cells := 1, slots := 6, locals := 300 } FN_name := rx_metH 10 (by decide +kernel) kC_L_ok gS_L_ok fG_L_ok fL_L_ok (fP_L_ok _) nW_L_ok rx_ar (by decide +kernel) (rx_lkc_of (rx_n1 (rx_caV 2 10 (rx_M.lift _ _ _ _ (m_X11_name l) rfl) w_X11_name_c w_X11_name_n (by decide +kernel) w_X11_name_i w_X11_name_s w_X11_name_d (by decide) rfl rfl) rx_n0) rx_n0 rx_n0)
theorem wp_name {vh : rx_H} {a0 o : Nat} {p0 p1 : Int32} (ha : a0 < vh.length) (ho : o < vh.length) : rx_fnS (rx_lkk kC_L) (rx_lkf fL_L) (rx_lkf fP_L) (rx_lkg gS_L) (rx_lkg fG_L) (rx_lkw nW_L) (rx_lkc [] [] []) (some .int) 1 6 5 kp_name 5 (StW ([.int p0, .int p1].reverse ++ .ref a0 :: [.int 0, .ref o])) 10 vh [.ref a0, .int p0, .int p1, .ref o] = some (none, vh) := by
  refine ry_fnS_eq ?_
  refine ry_t ⟨rfl, rfl, rfl, ?_⟩ rfl
  show (rx_wv vh.length (.ref a0) && (rx_wv vh.length (.int p0) && (rx_wv vh.length (.int p1) && (rx_wv vh.length (.ref o) && true)))) = true
  rw [wv_lt ha, wv_lt ho]
  rfl
noncomputable def FX_name_1 : rx_F := fun vh As => @ite _ (∃ p0 p1, TW g_X11_name_32 [p0, p1] vh As) (Classical.propDecidable _) (some (some (.int 1), vh)) none
theorem mw_name_1 (l : Launch) (hl : l.stackTraces = false) : rx_MW l yL_name (Cond.codeWith yL_name cL_name 5 (some .int) [(0, 10, 13, 22)] :: rx_WT) { frames := 12, cells := 1, slots := 6, locals := 300 } FX_name_1 := by
  intro D tys ca ad vh As rv vh' sz hty hF
  unfold FX_name_1 at hF
  by_cases c : ∃ p0 p1, TW g_X11_name_32 [p0, p1] vh As
  · rw [if_pos c] at hF
    cases hF
    obtain ⟨p0, p1, a0, o, fs, rfl, h1, h2, h3, h4, h5⟩ := c
    exact rx_metHX (cd := kp_name) (ch := kh_name) (cf := rx_lkc [] [] []) 10 5 34 2 10 (by decide +kernel) kC_L_ok gS_L_ok fG_L_ok fL_L_ok (fP_L_ok _) nW_L_ok rx_ar (by decide +kernel) (by decide +kernel) (rx_lkc_of rx_n0 rx_n0 rx_n0) (rx_MX.lift 38 (mx_X11_name_32 l hl)) w_X11_name_c w_X11_name_n (by decide +kernel) w_X11_name_i w_X11_name_s w_X11_name_d (by decide) rfl rfl (by decide +kernel) [] [] { startPc := 0, endPc := 10, handlerPc := 13, catchType := 22 } rfl (fun z hz => nomatch hz) (by decide) (by decide) lk_22 (by decide +kernel) (by decide) (by decide) hty a0 fs [.int p0, .int p1] [.int 0, .ref o] (wp_name (List.getElem?_eq_some_iff.mp h1).1 h2) h1 h3 rfl (show 1 + (1 + 0) ≤ 8 by decide) h4 h5 (fun ls => rfl)
  · rw [if_neg c] at hF
    cases hF
theorem wx_name_1 {I I' : Nat → Int32} {L L' : Nat → Int64} {T T' : Nat → Nat → Int32} {U U' : Nat → Nat → Int64} {J : Nat → Int32} {S : Nat → Nat → Int32} {K : Nat → Int64} {f : Nat → Int64} {p0 p1 : Int32} (h : g_X11_name_32 (wc I L T U) [.ref 0, .int p0, .int p1] = some (none, wc I L T U)) : FX_name_1 (wl I L T U J S K f) [.ref 0, .int p0, .int p1, .ref 58] = some (some (.int 1), wl I L T U J S K f) := if_pos ⟨p0, p1, 0, 58, [.ref 1, .ref 5, .ref 9, .ref 16, .ref 19, .ref 24], rfl, rfl, (show 58 < 59 by decide), lfX_eq h, rfl, (show 59 < 1000000 by decide)⟩
theorem mw_name_0 (l : Launch) : rx_MW l yL_name (Cond.codeWith yL_name cL_name 5 (some .int) [(0, 10, 13, 22)] :: rx_WT) { frames := 12, cells := 1, slots := 6, locals := 300 } FN_name := fun D tys ca ad vh As rv vh' sz hty hF => met_mono (nw_name l D tys ca ad vh As rv vh' sz hty hF) (fun _ _ h => h.1) (fun _ _ _ _ _ h => h) (fun _ h => h)
theorem wn_name {I I' : Nat → Int32} {L L' : Nat → Int64} {T T' : Nat → Nat → Int32} {U U' : Nat → Nat → Int64} {J : Nat → Int32} {S : Nat → Nat → Int32} {K : Nat → Int64} {f : Nat → Int64} {p0 p1 r : Int32} (h : f_X11_name (wc I L T U) [.ref 0, .int p0, .int p1] = some (some (.int r), wc I' L' T' U')) : FN_name (wl I L T U J S K f) [.ref 0, .int p0, .int p1, .ref 58] = some (some (.int 0), wl I' L' T' U' J S K (vp_updL f 0 r.toInt64)) := by
  refine ry_fn_eq ?_
  refine ry_b (lC_eq h (fun _ _ => rfl)) ?_
  refine ry_f (c := (0 : Int32) < 0 ∨ 1 ≤ (0 : Int32).toNatClampNeg) (by decide) ?_
  rfl
def kn_error : List (Nat × List (Instr × Nat)) := [(0, [(.aload_n 2, 1), (.iconst 0, 1), (.aload_n 0, 1), (.iload_n 1, 1), (.invokevirtual 37, 3), (.i2l, 1), (.lastore, 1), (.goto 6, 3)]), (15, [(.iconst 0, 1), (.ireturn, 1)])]
def kp_error : List (Nat × List (Instr × Nat)) := [(0, [(.aload_n 2, 1), (.iconst 0, 1), (.aload_n 0, 1), (.iload_n 1, 1)])]
def kh_error : List (Nat × List (Instr × Nat)) := [(12, [(.astore_n 3, 1), (.iconst 1, 1), (.ireturn, 1)])]
noncomputable def FN_error : rx_F := rx_fn (rx_lkk kC_L) (rx_lkf fL_L) (rx_lkf fP_L) (rx_lkg gS_L) (rx_lkg fG_L) (rx_lkw nW_L) (rx_lkc [(37, (2, some 10, 0, 0, lC f_X11_error))] [] []) (some .int) 1 6 4 kn_error 10
theorem nw_error (l : Launch) : rx_M l yL_error (Cond.codeWith yL_error cL_error 4 (some .int) [(0, 9, 12, 13)] :: rx_WT) { frames := 12, cells := 1, slots := 6, locals := 300 } FN_error := rx_metH 10 (by decide +kernel) kC_L_ok gS_L_ok fG_L_ok fL_L_ok (fP_L_ok _) nW_L_ok rx_ar (by decide +kernel) (rx_lkc_of (rx_n1 (rx_caV 1 10 (rx_M.lift _ _ _ _ (m_X11_error l) rfl) w_X11_error_c w_X11_error_n (by decide +kernel) w_X11_error_i w_X11_error_s w_X11_error_d (by decide) rfl rfl) rx_n0) rx_n0 rx_n0)
theorem wp_error {vh : rx_H} {a0 o : Nat} {p0 : Int32} (ha : a0 < vh.length) (ho : o < vh.length) : rx_fnS (rx_lkk kC_L) (rx_lkf fL_L) (rx_lkf fP_L) (rx_lkg gS_L) (rx_lkg fG_L) (rx_lkw nW_L) (rx_lkc [] [] []) (some .int) 1 6 4 kp_error 4 (StW ([.int p0].reverse ++ .ref a0 :: [.int 0, .ref o])) 10 vh [.ref a0, .int p0, .ref o] = some (none, vh) := by
  refine ry_fnS_eq ?_
  refine ry_t ⟨rfl, rfl, rfl, ?_⟩ rfl
  show (rx_wv vh.length (.ref a0) && (rx_wv vh.length (.int p0) && (rx_wv vh.length (.ref o) && true))) = true
  rw [wv_lt ha, wv_lt ho]
  rfl
noncomputable def FX_error_1 : rx_F := fun vh As => @ite _ (∃ p0, TW g_X11_error_9 [p0] vh As) (Classical.propDecidable _) (some (some (.int 1), vh)) none
theorem mw_error_1 (l : Launch) (hl : l.stackTraces = false) : rx_MW l yL_error (Cond.codeWith yL_error cL_error 4 (some .int) [(0, 9, 12, 13)] :: rx_WT) { frames := 12, cells := 1, slots := 6, locals := 300 } FX_error_1 := by
  intro D tys ca ad vh As rv vh' sz hty hF
  unfold FX_error_1 at hF
  by_cases c : ∃ p0, TW g_X11_error_9 [p0] vh As
  · rw [if_pos c] at hF
    cases hF
    obtain ⟨p0, a0, o, fs, rfl, h1, h2, h3, h4, h5⟩ := c
    exact rx_metHX (cd := kp_error) (ch := kh_error) (cf := rx_lkc [] [] []) 10 4 37 1 10 (by decide +kernel) kC_L_ok gS_L_ok fG_L_ok fL_L_ok (fP_L_ok _) nW_L_ok rx_ar (by decide +kernel) (by decide +kernel) (rx_lkc_of rx_n0 rx_n0 rx_n0) (rx_MX.lift 38 (mx_X11_error_9 l hl)) w_X11_error_c w_X11_error_n (by decide +kernel) w_X11_error_i w_X11_error_s w_X11_error_d (by decide) rfl rfl (by decide +kernel) [] [] { startPc := 0, endPc := 9, handlerPc := 12, catchType := 13 } rfl (fun z hz => nomatch hz) (by decide) (by decide) lk_13 (by decide +kernel) (by decide) (by decide) hty a0 fs [.int p0] [.int 0, .ref o] (wp_error (List.getElem?_eq_some_iff.mp h1).1 h2) h1 h3 rfl (show 1 + (1 + 0) ≤ 8 by decide) h4 h5 (fun ls => rfl)
  · rw [if_neg c] at hF
    cases hF
theorem wx_error_1 {I I' : Nat → Int32} {L L' : Nat → Int64} {T T' : Nat → Nat → Int32} {U U' : Nat → Nat → Int64} {J : Nat → Int32} {S : Nat → Nat → Int32} {K : Nat → Int64} {f : Nat → Int64} {p0 : Int32} (h : g_X11_error_9 (wc I L T U) [.ref 0, .int p0] = some (none, wc I L T U)) : FX_error_1 (wl I L T U J S K f) [.ref 0, .int p0, .ref 58] = some (some (.int 1), wl I L T U J S K f) := if_pos ⟨p0, 0, 58, [.ref 1, .ref 5, .ref 9, .ref 16, .ref 19, .ref 24], rfl, rfl, (show 58 < 59 by decide), lfX_eq h, rfl, (show 59 < 1000000 by decide)⟩
theorem mw_error_0 (l : Launch) : rx_MW l yL_error (Cond.codeWith yL_error cL_error 4 (some .int) [(0, 9, 12, 13)] :: rx_WT) { frames := 12, cells := 1, slots := 6, locals := 300 } FN_error := fun D tys ca ad vh As rv vh' sz hty hF => met_mono (nw_error l D tys ca ad vh As rv vh' sz hty hF) (fun _ _ h => h.1) (fun _ _ _ _ _ h => h) (fun _ h => h)
theorem wn_error {I I' : Nat → Int32} {L L' : Nat → Int64} {T T' : Nat → Nat → Int32} {U U' : Nat → Nat → Int64} {J : Nat → Int32} {S : Nat → Nat → Int32} {K : Nat → Int64} {f : Nat → Int64} {p0 r : Int32} (h : f_X11_error (wc I L T U) [.ref 0, .int p0] = some (some (.int r), wc I' L' T' U')) : FN_error (wl I L T U J S K f) [.ref 0, .int p0, .ref 58] = some (some (.int 0), wl I' L' T' U' J S K (vp_updL f 0 r.toInt64)) := by
  refine ry_fn_eq ?_
  refine ry_b (lC_eq h (fun _ _ => rfl)) ?_
  refine ry_f (c := (0 : Int32) < 0 ∨ 1 ≤ (0 : Int32).toNatClampNeg) (by decide) ?_
  rfl
def kn_out : List (Nat × List (Instr × Nat)) := [(0, [(.aload_n 2, 1), (.iconst 0, 1), (.aload_n 0, 1), (.iload_n 1, 1), (.invokevirtual 40, 3), (.i2l, 1), (.lastore, 1), (.goto 6, 3)]), (15, [(.iconst 0, 1), (.ireturn, 1)])]
def kp_out : List (Nat × List (Instr × Nat)) := [(0, [(.aload_n 2, 1), (.iconst 0, 1), (.aload_n 0, 1), (.iload_n 1, 1)])]
def kh_out : List (Nat × List (Instr × Nat)) := [(12, [(.astore_n 3, 1), (.iconst 1, 1), (.ireturn, 1)])]
noncomputable def FN_out : rx_F := rx_fn (rx_lkk kC_L) (rx_lkf fL_L) (rx_lkf fP_L) (rx_lkg gS_L) (rx_lkg fG_L) (rx_lkw nW_L) (rx_lkc [(40, (2, some 10, 0, 0, lC f_X11_out))] [] []) (some .int) 1 6 4 kn_out 10
theorem nw_out (l : Launch) : rx_M l yL_out (Cond.codeWith yL_out cL_out 4 (some .int) [(0, 9, 12, 22)] :: rx_WT) { frames := 12, cells := 1, slots := 6, locals := 300 } FN_out := rx_metH 10 (by decide +kernel) kC_L_ok gS_L_ok fG_L_ok fL_L_ok (fP_L_ok _) nW_L_ok rx_ar (by decide +kernel) (rx_lkc_of (rx_n1 (rx_caV 1 10 (rx_M.lift _ _ _ _ (m_X11_out l) rfl) w_X11_out_c w_X11_out_n (by decide +kernel) w_X11_out_i w_X11_out_s w_X11_out_d (by decide) rfl rfl) rx_n0) rx_n0 rx_n0)
theorem wp_out {vh : rx_H} {a0 o : Nat} {p0 : Int32} (ha : a0 < vh.length) (ho : o < vh.length) : rx_fnS (rx_lkk kC_L) (rx_lkf fL_L) (rx_lkf fP_L) (rx_lkg gS_L) (rx_lkg fG_L) (rx_lkw nW_L) (rx_lkc [] [] []) (some .int) 1 6 4 kp_out 4 (StW ([.int p0].reverse ++ .ref a0 :: [.int 0, .ref o])) 10 vh [.ref a0, .int p0, .ref o] = some (none, vh) := by
  refine ry_fnS_eq ?_
  refine ry_t ⟨rfl, rfl, rfl, ?_⟩ rfl
  show (rx_wv vh.length (.ref a0) && (rx_wv vh.length (.int p0) && (rx_wv vh.length (.ref o) && true))) = true
  rw [wv_lt ha, wv_lt ho]
  rfl
noncomputable def FX_out_1 : rx_F := fun vh As => @ite _ (∃ p0, TW g_X11_out_15 [p0] vh As) (Classical.propDecidable _) (some (some (.int 1), vh)) none
theorem mw_out_1 (l : Launch) (hl : l.stackTraces = false) : rx_MW l yL_out (Cond.codeWith yL_out cL_out 4 (some .int) [(0, 9, 12, 22)] :: rx_WT) { frames := 12, cells := 1, slots := 6, locals := 300 } FX_out_1 := by
  intro D tys ca ad vh As rv vh' sz hty hF
  unfold FX_out_1 at hF
  by_cases c : ∃ p0, TW g_X11_out_15 [p0] vh As
  · rw [if_pos c] at hF
    cases hF
    obtain ⟨p0, a0, o, fs, rfl, h1, h2, h3, h4, h5⟩ := c
    exact rx_metHX (cd := kp_out) (ch := kh_out) (cf := rx_lkc [] [] []) 10 4 40 1 10 (by decide +kernel) kC_L_ok gS_L_ok fG_L_ok fL_L_ok (fP_L_ok _) nW_L_ok rx_ar (by decide +kernel) (by decide +kernel) (rx_lkc_of rx_n0 rx_n0 rx_n0) (rx_MX.lift 38 (mx_X11_out_15 l hl)) w_X11_out_c w_X11_out_n (by decide +kernel) w_X11_out_i w_X11_out_s w_X11_out_d (by decide) rfl rfl (by decide +kernel) [] [] { startPc := 0, endPc := 9, handlerPc := 12, catchType := 22 } rfl (fun z hz => nomatch hz) (by decide) (by decide) lk_22 (by decide +kernel) (by decide) (by decide) hty a0 fs [.int p0] [.int 0, .ref o] (wp_out (List.getElem?_eq_some_iff.mp h1).1 h2) h1 h3 rfl (show 1 + (1 + 0) ≤ 8 by decide) h4 h5 (fun ls => rfl)
  · rw [if_neg c] at hF
    cases hF
theorem wx_out_1 {I I' : Nat → Int32} {L L' : Nat → Int64} {T T' : Nat → Nat → Int32} {U U' : Nat → Nat → Int64} {J : Nat → Int32} {S : Nat → Nat → Int32} {K : Nat → Int64} {f : Nat → Int64} {p0 : Int32} (h : g_X11_out_15 (wc I L T U) [.ref 0, .int p0] = some (none, wc I L T U)) : FX_out_1 (wl I L T U J S K f) [.ref 0, .int p0, .ref 58] = some (some (.int 1), wl I L T U J S K f) := if_pos ⟨p0, 0, 58, [.ref 1, .ref 5, .ref 9, .ref 16, .ref 19, .ref 24], rfl, rfl, (show 58 < 59 by decide), lfX_eq h, rfl, (show 59 < 1000000 by decide)⟩
theorem mw_out_0 (l : Launch) : rx_MW l yL_out (Cond.codeWith yL_out cL_out 4 (some .int) [(0, 9, 12, 22)] :: rx_WT) { frames := 12, cells := 1, slots := 6, locals := 300 } FN_out := fun D tys ca ad vh As rv vh' sz hty hF => met_mono (nw_out l D tys ca ad vh As rv vh' sz hty hF) (fun _ _ h => h.1) (fun _ _ _ _ _ h => h) (fun _ h => h)
theorem wn_out {I I' : Nat → Int32} {L L' : Nat → Int64} {T T' : Nat → Nat → Int32} {U U' : Nat → Nat → Int64} {J : Nat → Int32} {S : Nat → Nat → Int32} {K : Nat → Int64} {f : Nat → Int64} {p0 r : Int32} (h : f_X11_out (wc I L T U) [.ref 0, .int p0] = some (some (.int r), wc I' L' T' U')) : FN_out (wl I L T U J S K f) [.ref 0, .int p0, .ref 58] = some (some (.int 0), wl I' L' T' U' J S K (vp_updL f 0 r.toInt64)) := by
  refine ry_fn_eq ?_
  refine ry_b (lC_eq h (fun _ _ => rfl)) ?_
  refine ry_f (c := (0 : Int32) < 0 ∨ 1 ≤ (0 : Int32).toNatClampNeg) (by decide) ?_
  rfl
