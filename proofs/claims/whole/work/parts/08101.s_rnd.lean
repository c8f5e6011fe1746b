def nB12 : List Value := [.int 0, .int 0, .null, .int 0, .int 0, .int 0, .null, .int 0, .int 0, .null, .null, .null, .null, .null, .int 0, .null, .int 0, .null, .int 0, .int 0, .null, .null, .int 0, .null, .int 0, .int 0, .int 0, .null, .null, .null, .int 0, .int 0, .int 0, .int 0, .null, .int 0, .null, .int 0, .null, .int 0, .int 0, .int 0, .null]
def kC_M : List (Nat × Value × Nat) := [(47, .long 4294967295, 2306)]
theorem kC_M_ok : rx_kcw (rx_lkk kC_M) RL := rx_kcw_of (by decide +kernel)
def nW_M : List (Nat × Nat × Nat × List Value) := [(8, 10, 6, [.null, .null, .null, .null, .null, .null]), (44, 11, 43, nB12)]
theorem nW_M_ok : rx_nwok (rx_lkw nW_M) RL rx_WT vwCl := by
  intro ix ci N fs h
  have hm := rx_lkn_mem h
  simp only [nW_M, List.mem_cons, List.not_mem_nil, or_false, Prod.mk.injEq] at hm
  rcases hm with ⟨rfl, rfl, rfl, rfl⟩ | ⟨rfl, rfl, rfl, rfl⟩
  · exact ⟨RX11, TX11, tyX11, rfl, (rx_kinds 10 _ rfl).1, tyX11_ok, rx_in 217 (by decide +kernel) rfl, rx_in 218 (by decide +kernel) rfl, rx_in 193 (by decide +kernel) rfl, by decide +kernel, rfl⟩
  · exact ⟨RX12, TX12, tyX12, rfl, (rx_kinds 11 _ rfl).1, tyX12_ok, rx_in 1604 (by decide +kernel) rfl, rx_in 1605 (by decide +kernel) rfl, rx_in 209 (by decide +kernel) rfl, by decide +kernel, rfl⟩
def LDS : List Nat := [35, 102, 112, 124, 134, 144, 156, 171, 184, 238, 251, 294, 300, 313, 319, 362, 368, 381, 387, 430, 443, 486, 492, 498, 511, 517, 523, 566, 572, 585, 591, 634, 647, 690, 703]
theorem LDS_ok : LDS.all (fun q => decide (decode code q = .ok (.iaload, 1))) = true := by decide +kernel
theorem LD26 : decode code 26 = .ok (.arraylength, 1) := by decide +kernel
/-- the law's locals between two rounds -/
abbrev LSw (i : Int32) : rx_L := [(4, .int i), (3, .ref 58), (2, .ref 38), (1, .ref 0), (0, .ref 1000050)]
abbrev StL (i : Int32) (n1 n2 : Nat) : rx_L → List Value → rx_H → Nat → Nat → Prop := fun ls st _ nc ns => st = [] ∧ nc = n1 ∧ ns = n2 ∧ rx_lk ls 4 = some (.int i) ∧ rx_lk ls 3 = some (.ref 58) ∧ rx_lk ls 2 = some (.ref 38) ∧ rx_lk ls 1 = some (.ref 0) ∧ rx_lk ls 0 = some (.ref 1000050)
noncomputable abbrev RLw (cf : Instr → Option rx_C) (cd : List (Nat × List (Instr × Nat))) (Ls : Nat) (xs : Nat → Int32) (P : Nat) (St : rx_L → List Value → rx_H → Nat → Nat → Prop) : Nat → rx_K := ry_runL (rx_lkk kC_M) (rx_lkf fL_L) (rx_lkf fP_L) (rx_lkg gS_L) (rx_lkg fG_L) (rx_lkw nW_M) cf (some .boolean) 1095 42951 cd LDS 26 Ls xs P St
def cdl_type : List (Nat × List (Instr × Nat)) := [(23, [(.iload 4, 2), (.aload_n 0, 1)]), (27, [(.iconst 4, 1), (.isub, 1), (.if_icmp .gt 717, 3), (.aload_n 0, 1), (.iload 4, 2)]), (36, [(.bipush 15, 2), (.iand, 1), (.tableswitch 701 0 10 #[57, 126, 182, 193, 249, 317, 385, 441, 521, 589, 645], 57)]), (96, [(.aload_n 1, 1), (.aload_n 0, 1), (.iload 4, 2), (.iconst 1, 1), (.iadd, 1)]), (103, [(.i2l, 1), (.bipush 32, 2), (.lshl, 1), (.aload_n 0, 1), (.iload 4, 2), (.iconst 2, 1), (.iadd, 1)]), (113, [(.i2l, 1), (.ldc2_w 47, 3), (.land, 1), (.lor, 1), (.aload_n 0, 1), (.iload 4, 2), (.iconst 3, 1), (.iadd, 1)]), (125, [(.invokevirtual 49, 3), (.aload_n 2, 1), (.aload_n 0, 1), (.iload 4, 2), (.iconst 1, 1), (.iadd, 1)]), (135, [(.i2l, 1), (.bipush 32, 2), (.lshl, 1), (.aload_n 0, 1), (.iload 4, 2), (.iconst 2, 1), (.iadd, 1)]), (145, [(.i2l, 1), (.ldc2_w 47, 3), (.land, 1), (.lor, 1), (.aload_n 0, 1), (.iload 4, 2), (.iconst 3, 1), (.iadd, 1)]), (157, [(.invokevirtual 53, 3), (.if_icmp .eq 580, 3), (.iconst 0, 1), (.ireturn, 1)])]
theorem cdl_type_ok : cdl_type.all (fun q => rx_dec code 7 q.1 q.2) = true := by decide +kernel
def cfl_type (FC FM : rx_F) : Instr → Option rx_C := rx_lkc [(49, (3, some 10, 0, 0, FC)), (53, (3, some 11, 0, 0, FM))] [] []

set_option maxRecDepth 100000 in
theorem hd_type {FC FM : rx_F} {I : Nat → Int32} {L : Nat → Int64} {T : Nat → Nat → Int32} {U : Nat → Nat → Int64} {J : Nat → Int32} {S : Nat → Nat → Int32} {K : Nat → Int64} {f : Nat → Int64} {Ls : Nat} {xs : Nat → Int32} {i : Int32} {nc ns : Nat} (h0 : ¬ (Int32.ofNat Ls - 4 < i)) (hi : ¬ (i < 0 ∨ Ls ≤ i.toNatClampNeg)) {St : rx_L → List Value → rx_H → Nat → Nat → Prop} {n : Nat} : RLw (cfl_type FC FM) cdl_type Ls xs 740 St (n + 5) 23 (LSw i) [] (wl I L T U J S K f) nc ns = RLw (cfl_type FC FM) cdl_type Ls xs 740 St n (((39 : Nat) : Int) + rx_tsw (xs i.toNatClampNeg &&& 15) 701 0 [57, 126, 182, 193, 249, 317, 385, 441, 521, 589, 645]).toNat (LSw i) [] (wl I L T U J S K f) nc ns := ry_f h0 (ry_f hi rfl)
abbrev wrd (a b : Int32) : Int64 := (a.toInt64 <<< ((32 : Int32).toInt64 &&& 63)) ||| (b.toInt64 &&& 4294967295)
set_option maxRecDepth 100000 in
theorem rd_type {FC FM : rx_F} {I : Nat → Int32} {L : Nat → Int64} {T : Nat → Nat → Int32} {U : Nat → Nat → Int64} {J : Nat → Int32} {S : Nat → Nat → Int32} {K : Nat → Int64} {f : Nat → Int64} {I1 : Nat → Int32} {L1 : Nat → Int64} {T1 : Nat → Nat → Int32} {U1 : Nat → Nat → Int64} {J1 : Nat → Int32} {S1 : Nat → Nat → Int32} {K1 : Nat → Int64} {f1 : Nat → Int64} {I2 : Nat → Int32} {L2 : Nat → Int64} {T2 : Nat → Nat → Int32} {U2 : Nat → Nat → Int64} {J2 : Nat → Int32} {S2 : Nat → Nat → Int32} {K2 : Nat → Int64} {f2 : Nat → Int64} {Ls : Nat} {xs : Nat → Int32} {i : Int32} {nc ns : Nat} (h0 : ¬ (Int32.ofNat Ls - 4 < i)) (hi : ¬ (i < 0 ∨ Ls ≤ i.toNatClampNeg)) (hv : rx_tsw (xs i.toNatClampNeg &&& 15) 701 0 [57, 126, 182, 193, 249, 317, 385, 441, 521, 589, 645] = 57) (h1 : ¬ (i + 1 < 0 ∨ Ls ≤ (i + 1).toNatClampNeg)) (h2 : ¬ (i + 2 < 0 ∨ Ls ≤ (i + 2).toNatClampNeg)) (h3 : ¬ (i + 3 < 0 ∨ Ls ≤ (i + 3).toNatClampNeg)) (hc : Nat.ble (nc + 0) 1095 = true) (hs : Nat.ble (ns + 0) 42951 = true) {r : Int32}
    (hC : FC (wl I L T U J S K f) [.ref 0, .long (wrd (xs (i + 1).toNatClampNeg) (xs (i + 2).toNatClampNeg)), .int (xs (i + 3).toNatClampNeg)] = some (some (.int r), (wl I1 L1 T1 U1 J1 S1 K1 f1))) (hM : FM (wl I1 L1 T1 U1 J1 S1 K1 f1) [.ref 38, .long (wrd (xs (i + 1).toNatClampNeg) (xs (i + 2).toNatClampNeg)), .int (xs (i + 3).toNatClampNeg)] = some (some (.int r), (wl I2 L2 T2 U2 J2 S2 K2 f2))) :
    RLw (cfl_type FC FM) cdl_type Ls xs 740 (StL i nc ns) 40 23 (LSw i) [] (wl I L T U J S K f) nc ns = some (none, (wl I2 L2 T2 U2 J2 S2 K2 f2)) := by
  refine (hd_type (n := 35) h0 hi).trans ?_
  rw [hv]
  refine ry_f h1 (ry_f h2 (ry_f h3 ?_))
  refine ry_cw hc hs rfl rfl hC ?_
  refine ry_f h1 (ry_f h2 (ry_f h3 ?_))
  refine ry_cw hc hs rfl rfl hM ?_
  exact ry_t rfl (ry_t ⟨rfl, rfl, rfl, rfl, rfl, rfl, rfl, rfl⟩ rfl)
def cdl_reset : List (Nat × List (Instr × Nat)) := [(23, [(.iload 4, 2), (.aload_n 0, 1)]), (27, [(.iconst 4, 1), (.isub, 1), (.if_icmp .gt 717, 3), (.aload_n 0, 1), (.iload 4, 2)]), (36, [(.bipush 15, 2), (.iand, 1), (.tableswitch 701 0 10 #[57, 126, 182, 193, 249, 317, 385, 441, 521, 589, 645], 57)]), (221, [(.aload_n 1, 1), (.invokevirtual 64, 3), (.aload_n 2, 1), (.invokevirtual 67, 3), (.goto 511, 3)])]
theorem cdl_reset_ok : cdl_reset.all (fun q => rx_dec code 7 q.1 q.2) = true := by decide +kernel
def cfl_reset (FC FM : rx_F) : Instr → Option rx_C := rx_lkc [(64, (1, some 10, 0, 0, FC)), (67, (1, some 11, 0, 0, FM))] [] []

set_option maxRecDepth 100000 in
theorem hd_reset {FC FM : rx_F} {I : Nat → Int32} {L : Nat → Int64} {T : Nat → Nat → Int32} {U : Nat → Nat → Int64} {J : Nat → Int32} {S : Nat → Nat → Int32} {K : Nat → Int64} {f : Nat → Int64} {Ls : Nat} {xs : Nat → Int32} {i : Int32} {nc ns : Nat} (h0 : ¬ (Int32.ofNat Ls - 4 < i)) (hi : ¬ (i < 0 ∨ Ls ≤ i.toNatClampNeg)) {St : rx_L → List Value → rx_H → Nat → Nat → Prop} {n : Nat} : RLw (cfl_reset FC FM) cdl_reset Ls xs 740 St (n + 5) 23 (LSw i) [] (wl I L T U J S K f) nc ns = RLw (cfl_reset FC FM) cdl_reset Ls xs 740 St n (((39 : Nat) : Int) + rx_tsw (xs i.toNatClampNeg &&& 15) 701 0 [57, 126, 182, 193, 249, 317, 385, 441, 521, 589, 645]).toNat (LSw i) [] (wl I L T U J S K f) nc ns := ry_f h0 (ry_f hi rfl)
set_option maxRecDepth 100000 in
theorem rd_reset {FC FM : rx_F} {I : Nat → Int32} {L : Nat → Int64} {T : Nat → Nat → Int32} {U : Nat → Nat → Int64} {J : Nat → Int32} {S : Nat → Nat → Int32} {K : Nat → Int64} {f : Nat → Int64} {I1 : Nat → Int32} {L1 : Nat → Int64} {T1 : Nat → Nat → Int32} {U1 : Nat → Nat → Int64} {J1 : Nat → Int32} {S1 : Nat → Nat → Int32} {K1 : Nat → Int64} {f1 : Nat → Int64} {I2 : Nat → Int32} {L2 : Nat → Int64} {T2 : Nat → Nat → Int32} {U2 : Nat → Nat → Int64} {J2 : Nat → Int32} {S2 : Nat → Nat → Int32} {K2 : Nat → Int64} {f2 : Nat → Int64} {Ls : Nat} {xs : Nat → Int32} {i : Int32} {nc ns : Nat} (h0 : ¬ (Int32.ofNat Ls - 4 < i)) (hi : ¬ (i < 0 ∨ Ls ≤ i.toNatClampNeg)) (hv : rx_tsw (xs i.toNatClampNeg &&& 15) 701 0 [57, 126, 182, 193, 249, 317, 385, 441, 521, 589, 645] = 182) (hc : Nat.ble (nc + 0) 1095 = true) (hs : Nat.ble (ns + 0) 42951 = true) (hC : FC (wl I L T U J S K f) [.ref 0] = some (none, (wl I1 L1 T1 U1 J1 S1 K1 f1))) (hM : FM (wl I1 L1 T1 U1 J1 S1 K1 f1) [.ref 38] = some (none, (wl I2 L2 T2 U2 J2 S2 K2 f2))) :
    RLw (cfl_reset FC FM) cdl_reset Ls xs 740 (StL i nc ns) 40 23 (LSw i) [] (wl I L T U J S K f) nc ns = some (none, (wl I2 L2 T2 U2 J2 S2 K2 f2)) := by
  refine (hd_reset (n := 35) h0 hi).trans ?_
  rw [hv]
  refine ry_cw hc hs rfl rfl hC ?_
  refine ry_cw hc hs rfl rfl hM ?_
  exact ry_t ⟨rfl, rfl, rfl, rfl, rfl, rfl, rfl, rfl⟩ rfl
def cdl_none : List (Nat × List (Instr × Nat)) := [(23, [(.iload 4, 2), (.aload_n 0, 1)]), (27, [(.iconst 4, 1), (.isub, 1), (.if_icmp .gt 717, 3), (.aload_n 0, 1), (.iload 4, 2)]), (36, [(.bipush 15, 2), (.iand, 1), (.tableswitch 701 0 10 #[57, 126, 182, 193, 249, 317, 385, 441, 521, 589, 645], 57)])]
theorem cdl_none_ok : cdl_none.all (fun q => rx_dec code 7 q.1 q.2) = true := by decide +kernel
def cfl_none : Instr → Option rx_C := rx_lkc [] [] []

set_option maxRecDepth 100000 in
theorem hd_none  {I : Nat → Int32} {L : Nat → Int64} {T : Nat → Nat → Int32} {U : Nat → Nat → Int64} {J : Nat → Int32} {S : Nat → Nat → Int32} {K : Nat → Int64} {f : Nat → Int64} {Ls : Nat} {xs : Nat → Int32} {i : Int32} {nc ns : Nat} (h0 : ¬ (Int32.ofNat Ls - 4 < i)) (hi : ¬ (i < 0 ∨ Ls ≤ i.toNatClampNeg)) {St : rx_L → List Value → rx_H → Nat → Nat → Prop} {n : Nat} : RLw cfl_none cdl_none Ls xs 740 St (n + 5) 23 (LSw i) [] (wl I L T U J S K f) nc ns = RLw cfl_none cdl_none Ls xs 740 St n (((39 : Nat) : Int) + rx_tsw (xs i.toNatClampNeg &&& 15) 701 0 [57, 126, 182, 193, 249, 317, 385, 441, 521, 589, 645]).toNat (LSw i) [] (wl I L T U J S K f) nc ns := ry_f h0 (ry_f hi rfl)
set_option maxRecDepth 100000 in
theorem rd_none {I : Nat → Int32} {L : Nat → Int64} {T : Nat → Nat → Int32} {U : Nat → Nat → Int64} {J : Nat → Int32} {S : Nat → Nat → Int32} {K : Nat → Int64} {f : Nat → Int64} {Ls : Nat} {xs : Nat → Int32} {i : Int32} {nc ns : Nat} (h0 : ¬ (Int32.ofNat Ls - 4 < i)) (hi : ¬ (i < 0 ∨ Ls ≤ i.toNatClampNeg)) (hv : rx_tsw (xs i.toNatClampNeg &&& 15) 701 0 [57, 126, 182, 193, 249, 317, 385, 441, 521, 589, 645] = 701) : RLw cfl_none cdl_none Ls xs 740 (StL i nc ns) 40 23 (LSw i) [] (wl I L T U J S K f) nc ns = some (none, wl I L T U J S K f) := by
  refine (hd_none (n := 35) h0 hi).trans ?_
  rw [hv]
  exact ry_t ⟨rfl, rfl, rfl, rfl, rfl, rfl, rfl, rfl⟩ rfl
def cdl_end : List (Nat × List (Instr × Nat)) := [(23, [(.iload 4, 2), (.aload_n 0, 1)]), (27, [(.iconst 4, 1), (.isub, 1), (.if_icmp .gt 717, 3), (.aload_n 0, 1), (.iload 4, 2)]), (36, [(.bipush 15, 2), (.iand, 1), (.tableswitch 701 0 10 #[57, 126, 182, 193, 249, 317, 385, 441, 521, 589, 645], 57)]), (746, [(.iconst 1, 1), (.ireturn, 1)])]
theorem cdl_end_ok : cdl_end.all (fun q => rx_dec code 7 q.1 q.2) = true := by decide +kernel
set_option maxRecDepth 100000 in
theorem rd_end {I : Nat → Int32} {L : Nat → Int64} {T : Nat → Nat → Int32} {U : Nat → Nat → Int64} {J : Nat → Int32} {S : Nat → Nat → Int32} {K : Nat → Int64} {f : Nat → Int64} {Ls : Nat} {xs : Nat → Int32} {i : Int32} {nc ns : Nat} (h0 : Int32.ofNat Ls - 4 < i) : RLw cfl_none cdl_end Ls xs 740 (fun _ _ _ _ _ => False) 40 23 (LSw i) [] (wl I L T U J S K f) nc ns = some (some (.int 1), wl I L T U J S K f) := ry_t h0 (ry_t (Or.inr rfl) rfl)
def cdl_inc : List (Nat × List (Instr × Nat)) := [(740, [(.iinc 4 4, 3), (.goto (-720), 3)])]
theorem cdl_inc_ok : cdl_inc.all (fun q => rx_dec code 7 q.1 q.2) = true := by decide +kernel
set_option maxRecDepth 100000 in
theorem rd_inc {I : Nat → Int32} {L : Nat → Int64} {T : Nat → Nat → Int32} {U : Nat → Nat → Int64} {J : Nat → Int32} {S : Nat → Nat → Int32} {K : Nat → Int64} {f : Nat → Int64} {Ls : Nat} {xs : Nat → Int32} {i : Int32} {nc ns : Nat} : RLw cfl_none cdl_inc Ls xs 23 (StL (i + 4) nc ns) 40 740 (LSw i) [] (wl I L T U J S K f) nc ns = some (none, wl I L T U J S K f) := ry_t ⟨rfl, rfl, rfl, rfl, rfl, rfl, rfl, rfl⟩ rfl
def cdl_run : List (Nat × List (Instr × Nat)) := [(23, [(.iload 4, 2), (.aload_n 0, 1)]), (27, [(.iconst 4, 1), (.isub, 1), (.if_icmp .gt 717, 3), (.aload_n 0, 1), (.iload 4, 2)]), (36, [(.bipush 15, 2), (.iand, 1), (.tableswitch 701 0 10 #[57, 126, 182, 193, 249, 317, 385, 441, 521, 589, 645], 57)]), (165, [(.aload_n 1, 1), (.aload_n 0, 1), (.iload 4, 2), (.iconst 1, 1), (.iadd, 1)]), (172, [(.aload_n 3, 1), (.invokestatic 54, 3), (.istore 5, 2), (.aload_n 2, 1), (.aload_n 0, 1), (.iload 4, 2), (.iconst 1, 1), (.iadd, 1)]), (185, [(.invokevirtual 59, 3), (.istore 6, 2), (.aload_n 2, 1), (.invokevirtual 60, 3), (.iload 5, 2), (.if_icmp .eq 5, 3), (.iconst 0, 1), (.ireturn, 1)]), (201, [(.iload 5, 2), (.ifCond .ne 15, 3), (.aload_n 3, 1), (.iconst 0, 1), (.laload, 1), (.iload 6, 2), (.i2l, 1), (.lcmp, 1), (.ifCond .eq 5, 3), (.iconst 0, 1), (.ireturn, 1)]), (218, [(.goto 522, 3)])]
theorem cdl_run_ok : cdl_run.all (fun q => rx_dec code 7 q.1 q.2) = true := by decide +kernel
def cfl_run (FW FM FT : rx_F) : Instr → Option rx_C := rx_lkc [(59, (2, some 11, 0, 0, FM)), (60, (1, some 11, 0, 0, FT))] [(54, (3, none, 1, 6, FW))] []
set_option maxRecDepth 100000 in
theorem hd_run {FW FM FT : rx_F} {I : Nat → Int32} {L : Nat → Int64} {T : Nat → Nat → Int32} {U : Nat → Nat → Int64} {J : Nat → Int32} {S : Nat → Nat → Int32} {K : Nat → Int64} {f : Nat → Int64} {Ls : Nat} {xs : Nat → Int32} {i : Int32} {nc ns : Nat} (h0 : ¬ (Int32.ofNat Ls - 4 < i)) (hi : ¬ (i < 0 ∨ Ls ≤ i.toNatClampNeg)) {St : rx_L → List Value → rx_H → Nat → Nat → Prop} {n : Nat} : RLw (cfl_run FW FM FT) cdl_run Ls xs 740 St (n + 5) 23 (LSw i) [] (wl I L T U J S K f) nc ns = RLw (cfl_run FW FM FT) cdl_run Ls xs 740 St n (((39 : Nat) : Int) + rx_tsw (xs i.toNatClampNeg &&& 15) 701 0 [57, 126, 182, 193, 249, 317, 385, 441, 521, 589, 645]).toNat (LSw i) [] (wl I L T U J S K f) nc ns := ry_f h0 (ry_f hi rfl)
set_option maxRecDepth 100000 in
theorem rn_run {FW FM FT : rx_F} {I : Nat → Int32} {L : Nat → Int64} {T : Nat → Nat → Int32} {U : Nat → Nat → Int64} {J : Nat → Int32} {S : Nat → Nat → Int32} {K : Nat → Int64} {f : Nat → Int64} {I1 : Nat → Int32} {L1 : Nat → Int64} {T1 : Nat → Nat → Int32} {U1 : Nat → Nat → Int64} {J1 : Nat → Int32} {S1 : Nat → Nat → Int32} {K1 : Nat → Int64} {f1 : Nat → Int64} {I2 : Nat → Int32} {L2 : Nat → Int64} {T2 : Nat → Nat → Int32} {U2 : Nat → Nat → Int64} {J2 : Nat → Int32} {S2 : Nat → Nat → Int32} {K2 : Nat → Int64} {f2 : Nat → Int64} {Ls : Nat} {xs : Nat → Int32} {i : Int32} {nc ns : Nat} (h0 : ¬ (Int32.ofNat Ls - 4 < i)) (hi : ¬ (i < 0 ∨ Ls ≤ i.toNatClampNeg)) (hv : rx_tsw (xs i.toNatClampNeg &&& 15) 701 0 [57, 126, 182, 193, 249, 317, 385, 441, 521, 589, 645] = 126) (h1 : ¬ (i + 1 < 0 ∨ Ls ≤ (i + 1).toNatClampNeg)) (hc : Nat.ble (nc + 1) 1095 = true) (hs : Nat.ble (ns + 6) 42951 = true) {r : Int32} (hf : f2 0 = r.toInt64) {t : Int32} (ht : t = 0)
    (hW : FW (wl I L T U J S K f) [.ref 0, .int (xs (i + 1).toNatClampNeg), .ref 58] = some (some (.int 0), (wl I1 L1 T1 U1 J1 S1 K1 f1))) (hM : FM (wl I1 L1 T1 U1 J1 S1 K1 f1) [.ref 38, .int (xs (i + 1).toNatClampNeg)] = some (some (.int r), (wl I2 L2 T2 U2 J2 S2 K2 f2))) (hT : FT (wl I2 L2 T2 U2 J2 S2 K2 f2) [.ref 38] = some (some (.int t), (wl I2 L2 T2 U2 J2 S2 K2 f2))) :
    RLw (cfl_run FW FM FT) cdl_run Ls xs 740 (StL i (nc + 1) (ns + 6)) 40 23 (LSw i) [] (wl I L T U J S K f) nc ns = some (none, (wl I2 L2 T2 U2 J2 S2 K2 f2)) := by
  refine (hd_run (n := 35) h0 hi).trans ?_
  rw [hv]
  refine ry_f h1 ?_
  refine ry_cw hc hs rfl rfl hW ?_
  refine ry_f h1 ?_
  refine ry_cw hc hs rfl rfl hM ?_
  refine ry_cw hc hs rfl rfl hT ?_
  refine ry_t ht (ry_f (c := Int32.ofInt 0 < 0 ∨ 1 ≤ (Int32.ofInt 0).toNatClampNeg) (by decide) (ry_t ?_ (ry_t ⟨rfl, rfl, rfl, rfl, rfl, rfl, rfl, rfl⟩ rfl)))
  show lg_cmp (f2 0) r.toInt64 = 0
  rw [hf]
  unfold lg_cmp
  rw [if_neg (by simp), if_pos rfl]
set_option maxRecDepth 100000 in
theorem rt_run {FW FM FT : rx_F} {I : Nat → Int32} {L : Nat → Int64} {T : Nat → Nat → Int32} {U : Nat → Nat → Int64} {J : Nat → Int32} {S : Nat → Nat → Int32} {K : Nat → Int64} {f : Nat → Int64} {I1 : Nat → Int32} {L1 : Nat → Int64} {T1 : Nat → Nat → Int32} {U1 : Nat → Nat → Int64} {J1 : Nat → Int32} {S1 : Nat → Nat → Int32} {K1 : Nat → Int64} {f1 : Nat → Int64} {I2 : Nat → Int32} {L2 : Nat → Int64} {T2 : Nat → Nat → Int32} {U2 : Nat → Nat → Int64} {J2 : Nat → Int32} {S2 : Nat → Nat → Int32} {K2 : Nat → Int64} {f2 : Nat → Int64} {Ls : Nat} {xs : Nat → Int32} {i : Int32} {nc ns : Nat} (h0 : ¬ (Int32.ofNat Ls - 4 < i)) (hi : ¬ (i < 0 ∨ Ls ≤ i.toNatClampNeg)) (hv : rx_tsw (xs i.toNatClampNeg &&& 15) 701 0 [57, 126, 182, 193, 249, 317, 385, 441, 521, 589, 645] = 126) (h1 : ¬ (i + 1 < 0 ∨ Ls ≤ (i + 1).toNatClampNeg)) (hc : Nat.ble (nc + 1) 1095 = true) (hs : Nat.ble (ns + 6) 42951 = true) {k r : Int32} (hk : ¬ k = 0) {t : Int32} (ht : t = k)
    (hW : FW (wl I L T U J S K f) [.ref 0, .int (xs (i + 1).toNatClampNeg), .ref 58] = some (some (.int k), (wl I1 L1 T1 U1 J1 S1 K1 f1))) (hM : FM (wl I1 L1 T1 U1 J1 S1 K1 f1) [.ref 38, .int (xs (i + 1).toNatClampNeg)] = some (some (.int r), (wl I2 L2 T2 U2 J2 S2 K2 f2))) (hT : FT (wl I2 L2 T2 U2 J2 S2 K2 f2) [.ref 38] = some (some (.int t), (wl I2 L2 T2 U2 J2 S2 K2 f2))) :
    RLw (cfl_run FW FM FT) cdl_run Ls xs 740 (StL i (nc + 1) (ns + 6)) 40 23 (LSw i) [] (wl I L T U J S K f) nc ns = some (none, (wl I2 L2 T2 U2 J2 S2 K2 f2)) := by
  refine (hd_run (n := 35) h0 hi).trans ?_
  rw [hv]
  refine ry_f h1 ?_
  refine ry_cw hc hs rfl rfl hW ?_
  refine ry_f h1 ?_
  refine ry_cw hc hs rfl rfl hM ?_
  refine ry_cw hc hs rfl rfl hT ?_
  exact ry_t ht (ry_f hk (ry_t ⟨rfl, rfl, rfl, rfl, rfl, rfl, rfl, rfl⟩ rfl))
def cdl_count : List (Nat × List (Instr × Nat)) := [(23, [(.iload 4, 2), (.aload_n 0, 1)]), (27, [(.iconst 4, 1), (.isub, 1), (.if_icmp .gt 717, 3), (.aload_n 0, 1), (.iload 4, 2)]), (36, [(.bipush 15, 2), (.iand, 1), (.tableswitch 701 0 10 #[57, 126, 182, 193, 249, 317, 385, 441, 521, 589, 645], 57)]), (232, [(.aload_n 1, 1), (.aload_n 0, 1), (.iload 4, 2), (.iconst 1, 1), (.iadd, 1)]), (239, [(.aload_n 3, 1), (.invokestatic 68, 3), (.istore 5, 2), (.aload_n 2, 1), (.aload_n 0, 1), (.iload 4, 2), (.iconst 1, 1), (.iadd, 1)]), (252, [(.invokevirtual 70, 3), (.istore 6, 2), (.aload_n 2, 1), (.invokevirtual 60, 3), (.iload 5, 2), (.if_icmp .eq 5, 3), (.iconst 0, 1), (.ireturn, 1)]), (268, [(.iload 5, 2), (.ifCond .ne 15, 3), (.aload_n 3, 1), (.iconst 0, 1), (.laload, 1), (.iload 6, 2), (.i2l, 1), (.lcmp, 1), (.ifCond .eq 5, 3), (.iconst 0, 1), (.ireturn, 1)]), (285, [(.goto 455, 3)])]
theorem cdl_count_ok : cdl_count.all (fun q => rx_dec code 7 q.1 q.2) = true := by decide +kernel
def cfl_count (FW FM FT : rx_F) : Instr → Option rx_C := rx_lkc [(70, (2, some 11, 0, 0, FM)), (60, (1, some 11, 0, 0, FT))] [(68, (3, none, 1, 6, FW))] []
set_option maxRecDepth 100000 in
theorem hd_count {FW FM FT : rx_F} {I : Nat → Int32} {L : Nat → Int64} {T : Nat → Nat → Int32} {U : Nat → Nat → Int64} {J : Nat → Int32} {S : Nat → Nat → Int32} {K : Nat → Int64} {f : Nat → Int64} {Ls : Nat} {xs : Nat → Int32} {i : Int32} {nc ns : Nat} (h0 : ¬ (Int32.ofNat Ls - 4 < i)) (hi : ¬ (i < 0 ∨ Ls ≤ i.toNatClampNeg)) {St : rx_L → List Value → rx_H → Nat → Nat → Prop} {n : Nat} : RLw (cfl_count FW FM FT) cdl_count Ls xs 740 St (n + 5) 23 (LSw i) [] (wl I L T U J S K f) nc ns = RLw (cfl_count FW FM FT) cdl_count Ls xs 740 St n (((39 : Nat) : Int) + rx_tsw (xs i.toNatClampNeg &&& 15) 701 0 [57, 126, 182, 193, 249, 317, 385, 441, 521, 589, 645]).toNat (LSw i) [] (wl I L T U J S K f) nc ns := ry_f h0 (ry_f hi rfl)
set_option maxRecDepth 100000 in
theorem rn_count {FW FM FT : rx_F} {I : Nat → Int32} {L : Nat → Int64} {T : Nat → Nat → Int32} {U : Nat → Nat → Int64} {J : Nat → Int32} {S : Nat → Nat → Int32} {K : Nat → Int64} {f : Nat → Int64} {I1 : Nat → Int32} {L1 : Nat → Int64} {T1 : Nat → Nat → Int32} {U1 : Nat → Nat → Int64} {J1 : Nat → Int32} {S1 : Nat → Nat → Int32} {K1 : Nat → Int64} {f1 : Nat → Int64} {I2 : Nat → Int32} {L2 : Nat → Int64} {T2 : Nat → Nat → Int32} {U2 : Nat → Nat → Int64} {J2 : Nat → Int32} {S2 : Nat → Nat → Int32} {K2 : Nat → Int64} {f2 : Nat → Int64} {Ls : Nat} {xs : Nat → Int32} {i : Int32} {nc ns : Nat} (h0 : ¬ (Int32.ofNat Ls - 4 < i)) (hi : ¬ (i < 0 ∨ Ls ≤ i.toNatClampNeg)) (hv : rx_tsw (xs i.toNatClampNeg &&& 15) 701 0 [57, 126, 182, 193, 249, 317, 385, 441, 521, 589, 645] = 193) (h1 : ¬ (i + 1 < 0 ∨ Ls ≤ (i + 1).toNatClampNeg)) (hc : Nat.ble (nc + 1) 1095 = true) (hs : Nat.ble (ns + 6) 42951 = true) {r : Int32} (hf : f2 0 = r.toInt64) {t : Int32} (ht : t = 0)
    (hW : FW (wl I L T U J S K f) [.ref 0, .int (xs (i + 1).toNatClampNeg), .ref 58] = some (some (.int 0), (wl I1 L1 T1 U1 J1 S1 K1 f1))) (hM : FM (wl I1 L1 T1 U1 J1 S1 K1 f1) [.ref 38, .int (xs (i + 1).toNatClampNeg)] = some (some (.int r), (wl I2 L2 T2 U2 J2 S2 K2 f2))) (hT : FT (wl I2 L2 T2 U2 J2 S2 K2 f2) [.ref 38] = some (some (.int t), (wl I2 L2 T2 U2 J2 S2 K2 f2))) :
    RLw (cfl_count FW FM FT) cdl_count Ls xs 740 (StL i (nc + 1) (ns + 6)) 40 23 (LSw i) [] (wl I L T U J S K f) nc ns = some (none, (wl I2 L2 T2 U2 J2 S2 K2 f2)) := by
  refine (hd_count (n := 35) h0 hi).trans ?_
  rw [hv]
  refine ry_f h1 ?_
  refine ry_cw hc hs rfl rfl hW ?_
  refine ry_f h1 ?_
  refine ry_cw hc hs rfl rfl hM ?_
  refine ry_cw hc hs rfl rfl hT ?_
  refine ry_t ht (ry_f (c := Int32.ofInt 0 < 0 ∨ 1 ≤ (Int32.ofInt 0).toNatClampNeg) (by decide) (ry_t ?_ (ry_t ⟨rfl, rfl, rfl, rfl, rfl, rfl, rfl, rfl⟩ rfl)))
  show lg_cmp (f2 0) r.toInt64 = 0
  rw [hf]
  unfold lg_cmp
  rw [if_neg (by simp), if_pos rfl]
set_option maxRecDepth 100000 in
theorem rt_count {FW FM FT : rx_F} {I : Nat → Int32} {L : Nat → Int64} {T : Nat → Nat → Int32} {U : Nat → Nat → Int64} {J : Nat → Int32} {S : Nat → Nat → Int32} {K : Nat → Int64} {f : Nat → Int64} {I1 : Nat → Int32} {L1 : Nat → Int64} {T1 : Nat → Nat → Int32} {U1 : Nat → Nat → Int64} {J1 : Nat → Int32} {S1 : Nat → Nat → Int32} {K1 : Nat → Int64} {f1 : Nat → Int64} {I2 : Nat → Int32} {L2 : Nat → Int64} {T2 : Nat → Nat → Int32} {U2 : Nat → Nat → Int64} {J2 : Nat → Int32} {S2 : Nat → Nat → Int32} {K2 : Nat → Int64} {f2 : Nat → Int64} {Ls : Nat} {xs : Nat → Int32} {i : Int32} {nc ns : Nat} (h0 : ¬ (Int32.ofNat Ls - 4 < i)) (hi : ¬ (i < 0 ∨ Ls ≤ i.toNatClampNeg)) (hv : rx_tsw (xs i.toNatClampNeg &&& 15) 701 0 [57, 126, 182, 193, 249, 317, 385, 441, 521, 589, 645] = 193) (h1 : ¬ (i + 1 < 0 ∨ Ls ≤ (i + 1).toNatClampNeg)) (hc : Nat.ble (nc + 1) 1095 = true) (hs : Nat.ble (ns + 6) 42951 = true) {k r : Int32} (hk : ¬ k = 0) {t : Int32} (ht : t = k)
    (hW : FW (wl I L T U J S K f) [.ref 0, .int (xs (i + 1).toNatClampNeg), .ref 58] = some (some (.int k), (wl I1 L1 T1 U1 J1 S1 K1 f1))) (hM : FM (wl I1 L1 T1 U1 J1 S1 K1 f1) [.ref 38, .int (xs (i + 1).toNatClampNeg)] = some (some (.int r), (wl I2 L2 T2 U2 J2 S2 K2 f2))) (hT : FT (wl I2 L2 T2 U2 J2 S2 K2 f2) [.ref 38] = some (some (.int t), (wl I2 L2 T2 U2 J2 S2 K2 f2))) :
    RLw (cfl_count FW FM FT) cdl_count Ls xs 740 (StL i (nc + 1) (ns + 6)) 40 23 (LSw i) [] (wl I L T U J S K f) nc ns = some (none, (wl I2 L2 T2 U2 J2 S2 K2 f2)) := by
  refine (hd_count (n := 35) h0 hi).trans ?_
  rw [hv]
  refine ry_f h1 ?_
  refine ry_cw hc hs rfl rfl hW ?_
  refine ry_f h1 ?_
  refine ry_cw hc hs rfl rfl hM ?_
  refine ry_cw hc hs rfl rfl hT ?_
  exact ry_t ht (ry_f hk (ry_t ⟨rfl, rfl, rfl, rfl, rfl, rfl, rfl, rfl⟩ rfl))
def cdl_at : List (Nat × List (Instr × Nat)) := [(23, [(.iload 4, 2), (.aload_n 0, 1)]), (27, [(.iconst 4, 1), (.isub, 1), (.if_icmp .gt 717, 3), (.aload_n 0, 1), (.iload 4, 2)]), (36, [(.bipush 15, 2), (.iand, 1), (.tableswitch 701 0 10 #[57, 126, 182, 193, 249, 317, 385, 441, 521, 589, 645], 57)]), (288, [(.aload_n 1, 1), (.aload_n 0, 1), (.iload 4, 2), (.iconst 1, 1), (.iadd, 1)]), (295, [(.aload_n 0, 1), (.iload 4, 2), (.iconst 2, 1), (.iadd, 1)]), (301, [(.aload_n 3, 1), (.invokestatic 71, 3), (.istore 5, 2), (.aload_n 2, 1), (.aload_n 0, 1), (.iload 4, 2), (.iconst 1, 1), (.iadd, 1)]), (314, [(.aload_n 0, 1), (.iload 4, 2), (.iconst 2, 1), (.iadd, 1)]), (320, [(.invokevirtual 74, 3), (.istore 6, 2), (.aload_n 2, 1), (.invokevirtual 60, 3), (.iload 5, 2), (.if_icmp .eq 5, 3), (.iconst 0, 1), (.ireturn, 1)]), (336, [(.iload 5, 2), (.ifCond .ne 15, 3), (.aload_n 3, 1), (.iconst 0, 1), (.laload, 1), (.iload 6, 2), (.i2l, 1), (.lcmp, 1), (.ifCond .eq 5, 3), (.iconst 0, 1), (.ireturn, 1)]), (353, [(.goto 387, 3)])]
theorem cdl_at_ok : cdl_at.all (fun q => rx_dec code 7 q.1 q.2) = true := by decide +kernel
def cfl_at (FW FM FT : rx_F) : Instr → Option rx_C := rx_lkc [(74, (3, some 11, 0, 0, FM)), (60, (1, some 11, 0, 0, FT))] [(71, (4, none, 1, 6, FW))] []
set_option maxRecDepth 100000 in
theorem hd_at {FW FM FT : rx_F} {I : Nat → Int32} {L : Nat → Int64} {T : Nat → Nat → Int32} {U : Nat → Nat → Int64} {J : Nat → Int32} {S : Nat → Nat → Int32} {K : Nat → Int64} {f : Nat → Int64} {Ls : Nat} {xs : Nat → Int32} {i : Int32} {nc ns : Nat} (h0 : ¬ (Int32.ofNat Ls - 4 < i)) (hi : ¬ (i < 0 ∨ Ls ≤ i.toNatClampNeg)) {St : rx_L → List Value → rx_H → Nat → Nat → Prop} {n : Nat} : RLw (cfl_at FW FM FT) cdl_at Ls xs 740 St (n + 5) 23 (LSw i) [] (wl I L T U J S K f) nc ns = RLw (cfl_at FW FM FT) cdl_at Ls xs 740 St n (((39 : Nat) : Int) + rx_tsw (xs i.toNatClampNeg &&& 15) 701 0 [57, 126, 182, 193, 249, 317, 385, 441, 521, 589, 645]).toNat (LSw i) [] (wl I L T U J S K f) nc ns := ry_f h0 (ry_f hi rfl)
set_option maxRecDepth 100000 in
theorem rn_at {FW FM FT : rx_F} {I : Nat → Int32} {L : Nat → Int64} {T : Nat → Nat → Int32} {U : Nat → Nat → Int64} {J : Nat → Int32} {S : Nat → Nat → Int32} {K : Nat → Int64} {f : Nat → Int64} {I1 : Nat → Int32} {L1 : Nat → Int64} {T1 : Nat → Nat → Int32} {U1 : Nat → Nat → Int64} {J1 : Nat → Int32} {S1 : Nat → Nat → Int32} {K1 : Nat → Int64} {f1 : Nat → Int64} {I2 : Nat → Int32} {L2 : Nat → Int64} {T2 : Nat → Nat → Int32} {U2 : Nat → Nat → Int64} {J2 : Nat → Int32} {S2 : Nat → Nat → Int32} {K2 : Nat → Int64} {f2 : Nat → Int64} {Ls : Nat} {xs : Nat → Int32} {i : Int32} {nc ns : Nat} (h0 : ¬ (Int32.ofNat Ls - 4 < i)) (hi : ¬ (i < 0 ∨ Ls ≤ i.toNatClampNeg)) (hv : rx_tsw (xs i.toNatClampNeg &&& 15) 701 0 [57, 126, 182, 193, 249, 317, 385, 441, 521, 589, 645] = 249) (h1 : ¬ (i + 1 < 0 ∨ Ls ≤ (i + 1).toNatClampNeg)) (h2 : ¬ (i + 2 < 0 ∨ Ls ≤ (i + 2).toNatClampNeg)) (hc : Nat.ble (nc + 1) 1095 = true) (hs : Nat.ble (ns + 6) 42951 = true) {r : Int32} (hf : f2 0 = r.toInt64) {t : Int32} (ht : t = 0)
    (hW : FW (wl I L T U J S K f) [.ref 0, .int (xs (i + 1).toNatClampNeg), .int (xs (i + 2).toNatClampNeg), .ref 58] = some (some (.int 0), (wl I1 L1 T1 U1 J1 S1 K1 f1))) (hM : FM (wl I1 L1 T1 U1 J1 S1 K1 f1) [.ref 38, .int (xs (i + 1).toNatClampNeg), .int (xs (i + 2).toNatClampNeg)] = some (some (.int r), (wl I2 L2 T2 U2 J2 S2 K2 f2))) (hT : FT (wl I2 L2 T2 U2 J2 S2 K2 f2) [.ref 38] = some (some (.int t), (wl I2 L2 T2 U2 J2 S2 K2 f2))) :
    RLw (cfl_at FW FM FT) cdl_at Ls xs 740 (StL i (nc + 1) (ns + 6)) 40 23 (LSw i) [] (wl I L T U J S K f) nc ns = some (none, (wl I2 L2 T2 U2 J2 S2 K2 f2)) := by
  refine (hd_at (n := 35) h0 hi).trans ?_
  rw [hv]
  refine ry_f h1 (ry_f h2 ?_)
  refine ry_cw hc hs rfl rfl hW ?_
  refine ry_f h1 (ry_f h2 ?_)
  refine ry_cw hc hs rfl rfl hM ?_
  refine ry_cw hc hs rfl rfl hT ?_
  refine ry_t ht (ry_f (c := Int32.ofInt 0 < 0 ∨ 1 ≤ (Int32.ofInt 0).toNatClampNeg) (by decide) (ry_t ?_ (ry_t ⟨rfl, rfl, rfl, rfl, rfl, rfl, rfl, rfl⟩ rfl)))
  show lg_cmp (f2 0) r.toInt64 = 0
  rw [hf]
  unfold lg_cmp
  rw [if_neg (by simp), if_pos rfl]
set_option maxRecDepth 100000 in
theorem rt_at {FW FM FT : rx_F} {I : Nat → Int32} {L : Nat → Int64} {T : Nat → Nat → Int32} {U : Nat → Nat → Int64} {J : Nat → Int32} {S : Nat → Nat → Int32} {K : Nat → Int64} {f : Nat → Int64} {I1 : Nat → Int32} {L1 : Nat → Int64} {T1 : Nat → Nat → Int32} {U1 : Nat → Nat → Int64} {J1 : Nat → Int32} {S1 : Nat → Nat → Int32} {K1 : Nat → Int64} {f1 : Nat → Int64} {I2 : Nat → Int32} {L2 : Nat → Int64} {T2 : Nat → Nat → Int32} {U2 : Nat → Nat → Int64} {J2 : Nat → Int32} {S2 : Nat → Nat → Int32} {K2 : Nat → Int64} {f2 : Nat → Int64} {Ls : Nat} {xs : Nat → Int32} {i : Int32} {nc ns : Nat} (h0 : ¬ (Int32.ofNat Ls - 4 < i)) (hi : ¬ (i < 0 ∨ Ls ≤ i.toNatClampNeg)) (hv : rx_tsw (xs i.toNatClampNeg &&& 15) 701 0 [57, 126, 182, 193, 249, 317, 385, 441, 521, 589, 645] = 249) (h1 : ¬ (i + 1 < 0 ∨ Ls ≤ (i + 1).toNatClampNeg)) (h2 : ¬ (i + 2 < 0 ∨ Ls ≤ (i + 2).toNatClampNeg)) (hc : Nat.ble (nc + 1) 1095 = true) (hs : Nat.ble (ns + 6) 42951 = true) {k r : Int32} (hk : ¬ k = 0) {t : Int32} (ht : t = k)
    (hW : FW (wl I L T U J S K f) [.ref 0, .int (xs (i + 1).toNatClampNeg), .int (xs (i + 2).toNatClampNeg), .ref 58] = some (some (.int k), (wl I1 L1 T1 U1 J1 S1 K1 f1))) (hM : FM (wl I1 L1 T1 U1 J1 S1 K1 f1) [.ref 38, .int (xs (i + 1).toNatClampNeg), .int (xs (i + 2).toNatClampNeg)] = some (some (.int r), (wl I2 L2 T2 U2 J2 S2 K2 f2))) (hT : FT (wl I2 L2 T2 U2 J2 S2 K2 f2) [.ref 38] = some (some (.int t), (wl I2 L2 T2 U2 J2 S2 K2 f2))) :
    RLw (cfl_at FW FM FT) cdl_at Ls xs 740 (StL i (nc + 1) (ns + 6)) 40 23 (LSw i) [] (wl I L T U J S K f) nc ns = some (none, (wl I2 L2 T2 U2 J2 S2 K2 f2)) := by
  refine (hd_at (n := 35) h0 hi).trans ?_
  rw [hv]
  refine ry_f h1 (ry_f h2 ?_)
  refine ry_cw hc hs rfl rfl hW ?_
  refine ry_f h1 (ry_f h2 ?_)
  refine ry_cw hc hs rfl rfl hM ?_
  refine ry_cw hc hs rfl rfl hT ?_
  exact ry_t ht (ry_f hk (ry_t ⟨rfl, rfl, rfl, rfl, rfl, rfl, rfl, rfl⟩ rfl))
def cdl_value : List (Nat × List (Instr × Nat)) := [(23, [(.iload 4, 2), (.aload_n 0, 1)]), (27, [(.iconst 4, 1), (.isub, 1), (.if_icmp .gt 717, 3), (.aload_n 0, 1), (.iload 4, 2)]), (36, [(.bipush 15, 2), (.iand, 1), (.tableswitch 701 0 10 #[57, 126, 182, 193, 249, 317, 385, 441, 521, 589, 645], 57)]), (356, [(.aload_n 1, 1), (.aload_n 0, 1), (.iload 4, 2), (.iconst 1, 1), (.iadd, 1)]), (363, [(.aload_n 0, 1), (.iload 4, 2), (.iconst 2, 1), (.iadd, 1)]), (369, [(.aload_n 3, 1), (.invokestatic 75, 3), (.istore 5, 2), (.aload_n 2, 1), (.aload_n 0, 1), (.iload 4, 2), (.iconst 1, 1), (.iadd, 1)]), (382, [(.aload_n 0, 1), (.iload 4, 2), (.iconst 2, 1), (.iadd, 1)]), (388, [(.invokevirtual 77, 3), (.istore 6, 2), (.aload_n 2, 1), (.invokevirtual 60, 3), (.iload 5, 2), (.if_icmp .eq 5, 3), (.iconst 0, 1), (.ireturn, 1)]), (404, [(.iload 5, 2), (.ifCond .ne 15, 3), (.aload_n 3, 1), (.iconst 0, 1), (.laload, 1), (.iload 6, 2), (.i2l, 1), (.lcmp, 1), (.ifCond .eq 5, 3), (.iconst 0, 1), (.ireturn, 1)]), (421, [(.goto 319, 3)])]
theorem cdl_value_ok : cdl_value.all (fun q => rx_dec code 7 q.1 q.2) = true := by decide +kernel
def cfl_value (FW FM FT : rx_F) : Instr → Option rx_C := rx_lkc [(77, (3, some 11, 0, 0, FM)), (60, (1, some 11, 0, 0, FT))] [(75, (4, none, 1, 6, FW))] []
set_option maxRecDepth 100000 in
theorem hd_value {FW FM FT : rx_F} {I : Nat → Int32} {L : Nat → Int64} {T : Nat → Nat → Int32} {U : Nat → Nat → Int64} {J : Nat → Int32} {S : Nat → Nat → Int32} {K : Nat → Int64} {f : Nat → Int64} {Ls : Nat} {xs : Nat → Int32} {i : Int32} {nc ns : Nat} (h0 : ¬ (Int32.ofNat Ls - 4 < i)) (hi : ¬ (i < 0 ∨ Ls ≤ i.toNatClampNeg)) {St : rx_L → List Value → rx_H → Nat → Nat → Prop} {n : Nat} : RLw (cfl_value FW FM FT) cdl_value Ls xs 740 St (n + 5) 23 (LSw i) [] (wl I L T U J S K f) nc ns = RLw (cfl_value FW FM FT) cdl_value Ls xs 740 St n (((39 : Nat) : Int) + rx_tsw (xs i.toNatClampNeg &&& 15) 701 0 [57, 126, 182, 193, 249, 317, 385, 441, 521, 589, 645]).toNat (LSw i) [] (wl I L T U J S K f) nc ns := ry_f h0 (ry_f hi rfl)
set_option maxRecDepth 100000 in
theorem rn_value {FW FM FT : rx_F} {I : Nat → Int32} {L : Nat → Int64} {T : Nat → Nat → Int32} {U : Nat → Nat → Int64} {J : Nat → Int32} {S : Nat → Nat → Int32} {K : Nat → Int64} {f : Nat → Int64} {I1 : Nat → Int32} {L1 : Nat → Int64} {T1 : Nat → Nat → Int32} {U1 : Nat → Nat → Int64} {J1 : Nat → Int32} {S1 : Nat → Nat → Int32} {K1 : Nat → Int64} {f1 : Nat → Int64} {I2 : Nat → Int32} {L2 : Nat → Int64} {T2 : Nat → Nat → Int32} {U2 : Nat → Nat → Int64} {J2 : Nat → Int32} {S2 : Nat → Nat → Int32} {K2 : Nat → Int64} {f2 : Nat → Int64} {Ls : Nat} {xs : Nat → Int32} {i : Int32} {nc ns : Nat} (h0 : ¬ (Int32.ofNat Ls - 4 < i)) (hi : ¬ (i < 0 ∨ Ls ≤ i.toNatClampNeg)) (hv : rx_tsw (xs i.toNatClampNeg &&& 15) 701 0 [57, 126, 182, 193, 249, 317, 385, 441, 521, 589, 645] = 317) (h1 : ¬ (i + 1 < 0 ∨ Ls ≤ (i + 1).toNatClampNeg)) (h2 : ¬ (i + 2 < 0 ∨ Ls ≤ (i + 2).toNatClampNeg)) (hc : Nat.ble (nc + 1) 1095 = true) (hs : Nat.ble (ns + 6) 42951 = true) {r : Int32} (hf : f2 0 = r.toInt64) {t : Int32} (ht : t = 0)
    (hW : FW (wl I L T U J S K f) [.ref 0, .int (xs (i + 1).toNatClampNeg), .int (xs (i + 2).toNatClampNeg), .ref 58] = some (some (.int 0), (wl I1 L1 T1 U1 J1 S1 K1 f1))) (hM : FM (wl I1 L1 T1 U1 J1 S1 K1 f1) [.ref 38, .int (xs (i + 1).toNatClampNeg), .int (xs (i + 2).toNatClampNeg)] = some (some (.int r), (wl I2 L2 T2 U2 J2 S2 K2 f2))) (hT : FT (wl I2 L2 T2 U2 J2 S2 K2 f2) [.ref 38] = some (some (.int t), (wl I2 L2 T2 U2 J2 S2 K2 f2))) :
    RLw (cfl_value FW FM FT) cdl_value Ls xs 740 (StL i (nc + 1) (ns + 6)) 40 23 (LSw i) [] (wl I L T U J S K f) nc ns = some (none, (wl I2 L2 T2 U2 J2 S2 K2 f2)) := by
  refine (hd_value (n := 35) h0 hi).trans ?_
  rw [hv]
  refine ry_f h1 (ry_f h2 ?_)
  refine ry_cw hc hs rfl rfl hW ?_
  refine ry_f h1 (ry_f h2 ?_)
  refine ry_cw hc hs rfl rfl hM ?_
  refine ry_cw hc hs rfl rfl hT ?_
  refine ry_t ht (ry_f (c := Int32.ofInt 0 < 0 ∨ 1 ≤ (Int32.ofInt 0).toNatClampNeg) (by decide) (ry_t ?_ (ry_t ⟨rfl, rfl, rfl, rfl, rfl, rfl, rfl, rfl⟩ rfl)))
  show lg_cmp (f2 0) r.toInt64 = 0
  rw [hf]
  unfold lg_cmp
  rw [if_neg (by simp), if_pos rfl]
set_option maxRecDepth 100000 in
theorem rt_value {FW FM FT : rx_F} {I : Nat → Int32} {L : Nat → Int64} {T : Nat → Nat → Int32} {U : Nat → Nat → Int64} {J : Nat → Int32} {S : Nat → Nat → Int32} {K : Nat → Int64} {f : Nat → Int64} {I1 : Nat → Int32} {L1 : Nat → Int64} {T1 : Nat → Nat → Int32} {U1 : Nat → Nat → Int64} {J1 : Nat → Int32} {S1 : Nat → Nat → Int32} {K1 : Nat → Int64} {f1 : Nat → Int64} {I2 : Nat → Int32} {L2 : Nat → Int64} {T2 : Nat → Nat → Int32} {U2 : Nat → Nat → Int64} {J2 : Nat → Int32} {S2 : Nat → Nat → Int32} {K2 : Nat → Int64} {f2 : Nat → Int64} {Ls : Nat} {xs : Nat → Int32} {i : Int32} {nc ns : Nat} (h0 : ¬ (Int32.ofNat Ls - 4 < i)) (hi : ¬ (i < 0 ∨ Ls ≤ i.toNatClampNeg)) (hv : rx_tsw (xs i.toNatClampNeg &&& 15) 701 0 [57, 126, 182, 193, 249, 317, 385, 441, 521, 589, 645] = 317) (h1 : ¬ (i + 1 < 0 ∨ Ls ≤ (i + 1).toNatClampNeg)) (h2 : ¬ (i + 2 < 0 ∨ Ls ≤ (i + 2).toNatClampNeg)) (hc : Nat.ble (nc + 1) 1095 = true) (hs : Nat.ble (ns + 6) 42951 = true) {k r : Int32} (hk : ¬ k = 0) {t : Int32} (ht : t = k)
    (hW : FW (wl I L T U J S K f) [.ref 0, .int (xs (i + 1).toNatClampNeg), .int (xs (i + 2).toNatClampNeg), .ref 58] = some (some (.int k), (wl I1 L1 T1 U1 J1 S1 K1 f1))) (hM : FM (wl I1 L1 T1 U1 J1 S1 K1 f1) [.ref 38, .int (xs (i + 1).toNatClampNeg), .int (xs (i + 2).toNatClampNeg)] = some (some (.int r), (wl I2 L2 T2 U2 J2 S2 K2 f2))) (hT : FT (wl I2 L2 T2 U2 J2 S2 K2 f2) [.ref 38] = some (some (.int t), (wl I2 L2 T2 U2 J2 S2 K2 f2))) :
    RLw (cfl_value FW FM FT) cdl_value Ls xs 740 (StL i (nc + 1) (ns + 6)) 40 23 (LSw i) [] (wl I L T U J S K f) nc ns = some (none, (wl I2 L2 T2 U2 J2 S2 K2 f2)) := by
  refine (hd_value (n := 35) h0 hi).trans ?_
  rw [hv]
  refine ry_f h1 (ry_f h2 ?_)
  refine ry_cw hc hs rfl rfl hW ?_
  refine ry_f h1 (ry_f h2 ?_)
  refine ry_cw hc hs rfl rfl hM ?_
  refine ry_cw hc hs rfl rfl hT ?_
  exact ry_t ht (ry_f hk (ry_t ⟨rfl, rfl, rfl, rfl, rfl, rfl, rfl, rfl⟩ rfl))
def cdl_octet : List (Nat × List (Instr × Nat)) := [(23, [(.iload 4, 2), (.aload_n 0, 1)]), (27, [(.iconst 4, 1), (.isub, 1), (.if_icmp .gt 717, 3), (.aload_n 0, 1), (.iload 4, 2)]), (36, [(.bipush 15, 2), (.iand, 1), (.tableswitch 701 0 10 #[57, 126, 182, 193, 249, 317, 385, 441, 521, 589, 645], 57)]), (424, [(.aload_n 1, 1), (.aload_n 0, 1), (.iload 4, 2), (.iconst 1, 1), (.iadd, 1)]), (431, [(.aload_n 3, 1), (.invokestatic 78, 3), (.istore 5, 2), (.aload_n 2, 1), (.aload_n 0, 1), (.iload 4, 2), (.iconst 1, 1), (.iadd, 1)]), (444, [(.invokevirtual 80, 3), (.istore 6, 2), (.aload_n 2, 1), (.invokevirtual 60, 3), (.iload 5, 2), (.if_icmp .eq 5, 3), (.iconst 0, 1), (.ireturn, 1)]), (460, [(.iload 5, 2), (.ifCond .ne 15, 3), (.aload_n 3, 1), (.iconst 0, 1), (.laload, 1), (.iload 6, 2), (.i2l, 1), (.lcmp, 1), (.ifCond .eq 5, 3), (.iconst 0, 1), (.ireturn, 1)]), (477, [(.goto 263, 3)])]
theorem cdl_octet_ok : cdl_octet.all (fun q => rx_dec code 7 q.1 q.2) = true := by decide +kernel
def cfl_octet (FW FM FT : rx_F) : Instr → Option rx_C := rx_lkc [(80, (2, some 11, 0, 0, FM)), (60, (1, some 11, 0, 0, FT))] [(78, (3, none, 1, 6, FW))] []
set_option maxRecDepth 100000 in
theorem hd_octet {FW FM FT : rx_F} {I : Nat → Int32} {L : Nat → Int64} {T : Nat → Nat → Int32} {U : Nat → Nat → Int64} {J : Nat → Int32} {S : Nat → Nat → Int32} {K : Nat → Int64} {f : Nat → Int64} {Ls : Nat} {xs : Nat → Int32} {i : Int32} {nc ns : Nat} (h0 : ¬ (Int32.ofNat Ls - 4 < i)) (hi : ¬ (i < 0 ∨ Ls ≤ i.toNatClampNeg)) {St : rx_L → List Value → rx_H → Nat → Nat → Prop} {n : Nat} : RLw (cfl_octet FW FM FT) cdl_octet Ls xs 740 St (n + 5) 23 (LSw i) [] (wl I L T U J S K f) nc ns = RLw (cfl_octet FW FM FT) cdl_octet Ls xs 740 St n (((39 : Nat) : Int) + rx_tsw (xs i.toNatClampNeg &&& 15) 701 0 [57, 126, 182, 193, 249, 317, 385, 441, 521, 589, 645]).toNat (LSw i) [] (wl I L T U J S K f) nc ns := ry_f h0 (ry_f hi rfl)
set_option maxRecDepth 100000 in
theorem rn_octet {FW FM FT : rx_F} {I : Nat → Int32} {L : Nat → Int64} {T : Nat → Nat → Int32} {U : Nat → Nat → Int64} {J : Nat → Int32} {S : Nat → Nat → Int32} {K : Nat → Int64} {f : Nat → Int64} {I1 : Nat → Int32} {L1 : Nat → Int64} {T1 : Nat → Nat → Int32} {U1 : Nat → Nat → Int64} {J1 : Nat → Int32} {S1 : Nat → Nat → Int32} {K1 : Nat → Int64} {f1 : Nat → Int64} {I2 : Nat → Int32} {L2 : Nat → Int64} {T2 : Nat → Nat → Int32} {U2 : Nat → Nat → Int64} {J2 : Nat → Int32} {S2 : Nat → Nat → Int32} {K2 : Nat → Int64} {f2 : Nat → Int64} {Ls : Nat} {xs : Nat → Int32} {i : Int32} {nc ns : Nat} (h0 : ¬ (Int32.ofNat Ls - 4 < i)) (hi : ¬ (i < 0 ∨ Ls ≤ i.toNatClampNeg)) (hv : rx_tsw (xs i.toNatClampNeg &&& 15) 701 0 [57, 126, 182, 193, 249, 317, 385, 441, 521, 589, 645] = 385) (h1 : ¬ (i + 1 < 0 ∨ Ls ≤ (i + 1).toNatClampNeg)) (hc : Nat.ble (nc + 1) 1095 = true) (hs : Nat.ble (ns + 6) 42951 = true) {r : Int32} (hf : f2 0 = r.toInt64) {t : Int32} (ht : t = 0)
    (hW : FW (wl I L T U J S K f) [.ref 0, .int (xs (i + 1).toNatClampNeg), .ref 58] = some (some (.int 0), (wl I1 L1 T1 U1 J1 S1 K1 f1))) (hM : FM (wl I1 L1 T1 U1 J1 S1 K1 f1) [.ref 38, .int (xs (i + 1).toNatClampNeg)] = some (some (.int r), (wl I2 L2 T2 U2 J2 S2 K2 f2))) (hT : FT (wl I2 L2 T2 U2 J2 S2 K2 f2) [.ref 38] = some (some (.int t), (wl I2 L2 T2 U2 J2 S2 K2 f2))) :
    RLw (cfl_octet FW FM FT) cdl_octet Ls xs 740 (StL i (nc + 1) (ns + 6)) 40 23 (LSw i) [] (wl I L T U J S K f) nc ns = some (none, (wl I2 L2 T2 U2 J2 S2 K2 f2)) := by
  refine (hd_octet (n := 35) h0 hi).trans ?_
  rw [hv]
  refine ry_f h1 ?_
  refine ry_cw hc hs rfl rfl hW ?_
  refine ry_f h1 ?_
  refine ry_cw hc hs rfl rfl hM ?_
  refine ry_cw hc hs rfl rfl hT ?_
  refine ry_t ht (ry_f (c := Int32.ofInt 0 < 0 ∨ 1 ≤ (Int32.ofInt 0).toNatClampNeg) (by decide) (ry_t ?_ (ry_t ⟨rfl, rfl, rfl, rfl, rfl, rfl, rfl, rfl⟩ rfl)))
  show lg_cmp (f2 0) r.toInt64 = 0
  rw [hf]
  unfold lg_cmp
  rw [if_neg (by simp), if_pos rfl]
set_option maxRecDepth 100000 in
theorem rt_octet {FW FM FT : rx_F} {I : Nat → Int32} {L : Nat → Int64} {T : Nat → Nat → Int32} {U : Nat → Nat → Int64} {J : Nat → Int32} {S : Nat → Nat → Int32} {K : Nat → Int64} {f : Nat → Int64} {I1 : Nat → Int32} {L1 : Nat → Int64} {T1 : Nat → Nat → Int32} {U1 : Nat → Nat → Int64} {J1 : Nat → Int32} {S1 : Nat → Nat → Int32} {K1 : Nat → Int64} {f1 : Nat → Int64} {I2 : Nat → Int32} {L2 : Nat → Int64} {T2 : Nat → Nat → Int32} {U2 : Nat → Nat → Int64} {J2 : Nat → Int32} {S2 : Nat → Nat → Int32} {K2 : Nat → Int64} {f2 : Nat → Int64} {Ls : Nat} {xs : Nat → Int32} {i : Int32} {nc ns : Nat} (h0 : ¬ (Int32.ofNat Ls - 4 < i)) (hi : ¬ (i < 0 ∨ Ls ≤ i.toNatClampNeg)) (hv : rx_tsw (xs i.toNatClampNeg &&& 15) 701 0 [57, 126, 182, 193, 249, 317, 385, 441, 521, 589, 645] = 385) (h1 : ¬ (i + 1 < 0 ∨ Ls ≤ (i + 1).toNatClampNeg)) (hc : Nat.ble (nc + 1) 1095 = true) (hs : Nat.ble (ns + 6) 42951 = true) {k r : Int32} (hk : ¬ k = 0) {t : Int32} (ht : t = k)
    (hW : FW (wl I L T U J S K f) [.ref 0, .int (xs (i + 1).toNatClampNeg), .ref 58] = some (some (.int k), (wl I1 L1 T1 U1 J1 S1 K1 f1))) (hM : FM (wl I1 L1 T1 U1 J1 S1 K1 f1) [.ref 38, .int (xs (i + 1).toNatClampNeg)] = some (some (.int r), (wl I2 L2 T2 U2 J2 S2 K2 f2))) (hT : FT (wl I2 L2 T2 U2 J2 S2 K2 f2) [.ref 38] = some (some (.int t), (wl I2 L2 T2 U2 J2 S2 K2 f2))) :
    RLw (cfl_octet FW FM FT) cdl_octet Ls xs 740 (StL i (nc + 1) (ns + 6)) 40 23 (LSw i) [] (wl I L T U J S K f) nc ns = some (none, (wl I2 L2 T2 U2 J2 S2 K2 f2)) := by
  refine (hd_octet (n := 35) h0 hi).trans ?_
  rw [hv]
  refine ry_f h1 ?_
  refine ry_cw hc hs rfl rfl hW ?_
  refine ry_f h1 ?_
  refine ry_cw hc hs rfl rfl hM ?_
  refine ry_cw hc hs rfl rfl hT ?_
  exact ry_t ht (ry_f hk (ry_t ⟨rfl, rfl, rfl, rfl, rfl, rfl, rfl, rfl⟩ rfl))
def cdl_dictionary : List (Nat × List (Instr × Nat)) := [(23, [(.iload 4, 2), (.aload_n 0, 1)]), (27, [(.iconst 4, 1), (.isub, 1), (.if_icmp .gt 717, 3), (.aload_n 0, 1), (.iload 4, 2)]), (36, [(.bipush 15, 2), (.iand, 1), (.tableswitch 701 0 10 #[57, 126, 182, 193, 249, 317, 385, 441, 521, 589, 645], 57)]), (480, [(.aload_n 1, 1), (.aload_n 0, 1), (.iload 4, 2), (.iconst 1, 1), (.iadd, 1)]), (487, [(.aload_n 0, 1), (.iload 4, 2), (.iconst 2, 1), (.iadd, 1)]), (493, [(.aload_n 0, 1), (.iload 4, 2), (.iconst 3, 1), (.iadd, 1)]), (499, [(.aload_n 3, 1), (.invokestatic 81, 3), (.istore 5, 2), (.aload_n 2, 1), (.aload_n 0, 1), (.iload 4, 2), (.iconst 1, 1), (.iadd, 1)]), (512, [(.aload_n 0, 1), (.iload 4, 2), (.iconst 2, 1), (.iadd, 1)]), (518, [(.aload_n 0, 1), (.iload 4, 2), (.iconst 3, 1), (.iadd, 1)]), (524, [(.invokevirtual 84, 3), (.istore 6, 2), (.aload_n 2, 1), (.invokevirtual 60, 3), (.iload 5, 2), (.if_icmp .eq 5, 3), (.iconst 0, 1), (.ireturn, 1)]), (540, [(.iload 5, 2), (.ifCond .ne 15, 3), (.aload_n 3, 1), (.iconst 0, 1), (.laload, 1), (.iload 6, 2), (.i2l, 1), (.lcmp, 1), (.ifCond .eq 5, 3), (.iconst 0, 1), (.ireturn, 1)]), (557, [(.goto 183, 3)])]
theorem cdl_dictionary_ok : cdl_dictionary.all (fun q => rx_dec code 7 q.1 q.2) = true := by decide +kernel
def cfl_dictionary (FW FM FT : rx_F) : Instr → Option rx_C := rx_lkc [(84, (4, some 11, 0, 0, FM)), (60, (1, some 11, 0, 0, FT))] [(81, (5, none, 1, 6, FW))] []
set_option maxRecDepth 100000 in
theorem hd_dictionary {FW FM FT : rx_F} {I : Nat → Int32} {L : Nat → Int64} {T : Nat → Nat → Int32} {U : Nat → Nat → Int64} {J : Nat → Int32} {S : Nat → Nat → Int32} {K : Nat → Int64} {f : Nat → Int64} {Ls : Nat} {xs : Nat → Int32} {i : Int32} {nc ns : Nat} (h0 : ¬ (Int32.ofNat Ls - 4 < i)) (hi : ¬ (i < 0 ∨ Ls ≤ i.toNatClampNeg)) {St : rx_L → List Value → rx_H → Nat → Nat → Prop} {n : Nat} : RLw (cfl_dictionary FW FM FT) cdl_dictionary Ls xs 740 St (n + 5) 23 (LSw i) [] (wl I L T U J S K f) nc ns = RLw (cfl_dictionary FW FM FT) cdl_dictionary Ls xs 740 St n (((39 : Nat) : Int) + rx_tsw (xs i.toNatClampNeg &&& 15) 701 0 [57, 126, 182, 193, 249, 317, 385, 441, 521, 589, 645]).toNat (LSw i) [] (wl I L T U J S K f) nc ns := ry_f h0 (ry_f hi rfl)
set_option maxRecDepth 100000 in
theorem rn_dictionary {FW FM FT : rx_F} {I : Nat → Int32} {L : Nat → Int64} {T : Nat → Nat → Int32} {U : Nat → Nat → Int64} {J : Nat → Int32} {S : Nat → Nat → Int32} {K : Nat → Int64} {f : Nat → Int64} {I1 : Nat → Int32} {L1 : Nat → Int64} {T1 : Nat → Nat → Int32} {U1 : Nat → Nat → Int64} {J1 : Nat → Int32} {S1 : Nat → Nat → Int32} {K1 : Nat → Int64} {f1 : Nat → Int64} {I2 : Nat → Int32} {L2 : Nat → Int64} {T2 : Nat → Nat → Int32} {U2 : Nat → Nat → Int64} {J2 : Nat → Int32} {S2 : Nat → Nat → Int32} {K2 : Nat → Int64} {f2 : Nat → Int64} {Ls : Nat} {xs : Nat → Int32} {i : Int32} {nc ns : Nat} (h0 : ¬ (Int32.ofNat Ls - 4 < i)) (hi : ¬ (i < 0 ∨ Ls ≤ i.toNatClampNeg)) (hv : rx_tsw (xs i.toNatClampNeg &&& 15) 701 0 [57, 126, 182, 193, 249, 317, 385, 441, 521, 589, 645] = 441) (h1 : ¬ (i + 1 < 0 ∨ Ls ≤ (i + 1).toNatClampNeg)) (h2 : ¬ (i + 2 < 0 ∨ Ls ≤ (i + 2).toNatClampNeg)) (h3 : ¬ (i + 3 < 0 ∨ Ls ≤ (i + 3).toNatClampNeg)) (hc : Nat.ble (nc + 1) 1095 = true) (hs : Nat.ble (ns + 6) 42951 = true) {r : Int32} (hf : f2 0 = r.toInt64) {t : Int32} (ht : t = 0)
    (hW : FW (wl I L T U J S K f) [.ref 0, .int (xs (i + 1).toNatClampNeg), .int (xs (i + 2).toNatClampNeg), .int (xs (i + 3).toNatClampNeg), .ref 58] = some (some (.int 0), (wl I1 L1 T1 U1 J1 S1 K1 f1))) (hM : FM (wl I1 L1 T1 U1 J1 S1 K1 f1) [.ref 38, .int (xs (i + 1).toNatClampNeg), .int (xs (i + 2).toNatClampNeg), .int (xs (i + 3).toNatClampNeg)] = some (some (.int r), (wl I2 L2 T2 U2 J2 S2 K2 f2))) (hT : FT (wl I2 L2 T2 U2 J2 S2 K2 f2) [.ref 38] = some (some (.int t), (wl I2 L2 T2 U2 J2 S2 K2 f2))) :
    RLw (cfl_dictionary FW FM FT) cdl_dictionary Ls xs 740 (StL i (nc + 1) (ns + 6)) 40 23 (LSw i) [] (wl I L T U J S K f) nc ns = some (none, (wl I2 L2 T2 U2 J2 S2 K2 f2)) := by
  refine (hd_dictionary (n := 35) h0 hi).trans ?_
  rw [hv]
  refine ry_f h1 (ry_f h2 (ry_f h3 ?_))
  refine ry_cw hc hs rfl rfl hW ?_
  refine ry_f h1 (ry_f h2 (ry_f h3 ?_))
  refine ry_cw hc hs rfl rfl hM ?_
  refine ry_cw hc hs rfl rfl hT ?_
  refine ry_t ht (ry_f (c := Int32.ofInt 0 < 0 ∨ 1 ≤ (Int32.ofInt 0).toNatClampNeg) (by decide) (ry_t ?_ (ry_t ⟨rfl, rfl, rfl, rfl, rfl, rfl, rfl, rfl⟩ rfl)))
  show lg_cmp (f2 0) r.toInt64 = 0
  rw [hf]
  unfold lg_cmp
  rw [if_neg (by simp), if_pos rfl]
set_option maxRecDepth 100000 in
theorem rt_dictionary {FW FM FT : rx_F} {I : Nat → Int32} {L : Nat → Int64} {T : Nat → Nat → Int32} {U : Nat → Nat → Int64} {J : Nat → Int32} {S : Nat → Nat → Int32} {K : Nat → Int64} {f : Nat → Int64} {I1 : Nat → Int32} {L1 : Nat → Int64} {T1 : Nat → Nat → Int32} {U1 : Nat → Nat → Int64} {J1 : Nat → Int32} {S1 : Nat → Nat → Int32} {K1 : Nat → Int64} {f1 : Nat → Int64} {I2 : Nat → Int32} {L2 : Nat → Int64} {T2 : Nat → Nat → Int32} {U2 : Nat → Nat → Int64} {J2 : Nat → Int32} {S2 : Nat → Nat → Int32} {K2 : Nat → Int64} {f2 : Nat → Int64} {Ls : Nat} {xs : Nat → Int32} {i : Int32} {nc ns : Nat} (h0 : ¬ (Int32.ofNat Ls - 4 < i)) (hi : ¬ (i < 0 ∨ Ls ≤ i.toNatClampNeg)) (hv : rx_tsw (xs i.toNatClampNeg &&& 15) 701 0 [57, 126, 182, 193, 249, 317, 385, 441, 521, 589, 645] = 441) (h1 : ¬ (i + 1 < 0 ∨ Ls ≤ (i + 1).toNatClampNeg)) (h2 : ¬ (i + 2 < 0 ∨ Ls ≤ (i + 2).toNatClampNeg)) (h3 : ¬ (i + 3 < 0 ∨ Ls ≤ (i + 3).toNatClampNeg)) (hc : Nat.ble (nc + 1) 1095 = true) (hs : Nat.ble (ns + 6) 42951 = true) {k r : Int32} (hk : ¬ k = 0) {t : Int32} (ht : t = k)
    (hW : FW (wl I L T U J S K f) [.ref 0, .int (xs (i + 1).toNatClampNeg), .int (xs (i + 2).toNatClampNeg), .int (xs (i + 3).toNatClampNeg), .ref 58] = some (some (.int k), (wl I1 L1 T1 U1 J1 S1 K1 f1))) (hM : FM (wl I1 L1 T1 U1 J1 S1 K1 f1) [.ref 38, .int (xs (i + 1).toNatClampNeg), .int (xs (i + 2).toNatClampNeg), .int (xs (i + 3).toNatClampNeg)] = some (some (.int r), (wl I2 L2 T2 U2 J2 S2 K2 f2))) (hT : FT (wl I2 L2 T2 U2 J2 S2 K2 f2) [.ref 38] = some (some (.int t), (wl I2 L2 T2 U2 J2 S2 K2 f2))) :
    RLw (cfl_dictionary FW FM FT) cdl_dictionary Ls xs 740 (StL i (nc + 1) (ns + 6)) 40 23 (LSw i) [] (wl I L T U J S K f) nc ns = some (none, (wl I2 L2 T2 U2 J2 S2 K2 f2)) := by
  refine (hd_dictionary (n := 35) h0 hi).trans ?_
  rw [hv]
  refine ry_f h1 (ry_f h2 (ry_f h3 ?_))
  refine ry_cw hc hs rfl rfl hW ?_
  refine ry_f h1 (ry_f h2 (ry_f h3 ?_))
  refine ry_cw hc hs rfl rfl hM ?_
  refine ry_cw hc hs rfl rfl hT ?_
  exact ry_t ht (ry_f hk (ry_t ⟨rfl, rfl, rfl, rfl, rfl, rfl, rfl, rfl⟩ rfl))
def cdl_name : List (Nat × List (Instr × Nat)) := [(23, [(.iload 4, 2), (.aload_n 0, 1)]), (27, [(.iconst 4, 1), (.isub, 1), (.if_icmp .gt 717, 3), (.aload_n 0, 1), (.iload 4, 2)]), (36, [(.bipush 15, 2), (.iand, 1), (.tableswitch 701 0 10 #[57, 126, 182, 193, 249, 317, 385, 441, 521, 589, 645], 57)]), (560, [(.aload_n 1, 1), (.aload_n 0, 1), (.iload 4, 2), (.iconst 1, 1), (.iadd, 1)]), (567, [(.aload_n 0, 1), (.iload 4, 2), (.iconst 2, 1), (.iadd, 1)]), (573, [(.aload_n 3, 1), (.invokestatic 85, 3), (.istore 5, 2), (.aload_n 2, 1), (.aload_n 0, 1), (.iload 4, 2), (.iconst 1, 1), (.iadd, 1)]), (586, [(.aload_n 0, 1), (.iload 4, 2), (.iconst 2, 1), (.iadd, 1)]), (592, [(.invokevirtual 87, 3), (.istore 6, 2), (.aload_n 2, 1), (.invokevirtual 60, 3), (.iload 5, 2), (.if_icmp .eq 5, 3), (.iconst 0, 1), (.ireturn, 1)]), (608, [(.iload 5, 2), (.ifCond .ne 15, 3), (.aload_n 3, 1), (.iconst 0, 1), (.laload, 1), (.iload 6, 2), (.i2l, 1), (.lcmp, 1), (.ifCond .eq 5, 3), (.iconst 0, 1), (.ireturn, 1)]), (625, [(.goto 115, 3)])]
theorem cdl_name_ok : cdl_name.all (fun q => rx_dec code 7 q.1 q.2) = true := by decide +kernel
def cfl_name (FW FM FT : rx_F) : Instr → Option rx_C := rx_lkc [(87, (3, some 11, 0, 0, FM)), (60, (1, some 11, 0, 0, FT))] [(85, (4, none, 1, 6, FW))] []
set_option maxRecDepth 100000 in
theorem hd_name {FW FM FT : rx_F} {I : Nat → Int32} {L : Nat → Int64} {T : Nat → Nat → Int32} {U : Nat → Nat → Int64} {J : Nat → Int32} {S : Nat → Nat → Int32} {K : Nat → Int64} {f : Nat → Int64} {Ls : Nat} {xs : Nat → Int32} {i : Int32} {nc ns : Nat} (h0 : ¬ (Int32.ofNat Ls - 4 < i)) (hi : ¬ (i < 0 ∨ Ls ≤ i.toNatClampNeg)) {St : rx_L → List Value → rx_H → Nat → Nat → Prop} {n : Nat} : RLw (cfl_name FW FM FT) cdl_name Ls xs 740 St (n + 5) 23 (LSw i) [] (wl I L T U J S K f) nc ns = RLw (cfl_name FW FM FT) cdl_name Ls xs 740 St n (((39 : Nat) : Int) + rx_tsw (xs i.toNatClampNeg &&& 15) 701 0 [57, 126, 182, 193, 249, 317, 385, 441, 521, 589, 645]).toNat (LSw i) [] (wl I L T U J S K f) nc ns := ry_f h0 (ry_f hi rfl)
set_option maxRecDepth 100000 in
theorem rn_name {FW FM FT : rx_F} {I : Nat → Int32} {L : Nat → Int64} {T : Nat → Nat → Int32} {U : Nat → Nat → Int64} {J : Nat → Int32} {S : Nat → Nat → Int32} {K : Nat → Int64} {f : Nat → Int64} {I1 : Nat → Int32} {L1 : Nat → Int64} {T1 : Nat → Nat → Int32} {U1 : Nat → Nat → Int64} {J1 : Nat → Int32} {S1 : Nat → Nat → Int32} {K1 : Nat → Int64} {f1 : Nat → Int64} {I2 : Nat → Int32} {L2 : Nat → Int64} {T2 : Nat → Nat → Int32} {U2 : Nat → Nat → Int64} {J2 : Nat → Int32} {S2 : Nat → Nat → Int32} {K2 : Nat → Int64} {f2 : Nat → Int64} {Ls : Nat} {xs : Nat → Int32} {i : Int32} {nc ns : Nat} (h0 : ¬ (Int32.ofNat Ls - 4 < i)) (hi : ¬ (i < 0 ∨ Ls ≤ i.toNatClampNeg)) (hv : rx_tsw (xs i.toNatClampNeg &&& 15) 701 0 [57, 126, 182, 193, 249, 317, 385, 441, 521, 589, 645] = 521) (h1 : ¬ (i + 1 < 0 ∨ Ls ≤ (i + 1).toNatClampNeg)) (h2 : ¬ (i + 2 < 0 ∨ Ls ≤ (i + 2).toNatClampNeg)) (hc : Nat.ble (nc + 1) 1095 = true) (hs : Nat.ble (ns + 6) 42951 = true) {r : Int32} (hf : f2 0 = r.toInt64) {t : Int32} (ht : t = 0)
    (hW : FW (wl I L T U J S K f) [.ref 0, .int (xs (i + 1).toNatClampNeg), .int (xs (i + 2).toNatClampNeg), .ref 58] = some (some (.int 0), (wl I1 L1 T1 U1 J1 S1 K1 f1))) (hM : FM (wl I1 L1 T1 U1 J1 S1 K1 f1) [.ref 38, .int (xs (i + 1).toNatClampNeg), .int (xs (i + 2).toNatClampNeg)] = some (some (.int r), (wl I2 L2 T2 U2 J2 S2 K2 f2))) (hT : FT (wl I2 L2 T2 U2 J2 S2 K2 f2) [.ref 38] = some (some (.int t), (wl I2 L2 T2 U2 J2 S2 K2 f2))) :
    RLw (cfl_name FW FM FT) cdl_name Ls xs 740 (StL i (nc + 1) (ns + 6)) 40 23 (LSw i) [] (wl I L T U J S K f) nc ns = some (none, (wl I2 L2 T2 U2 J2 S2 K2 f2)) := by
  refine (hd_name (n := 35) h0 hi).trans ?_
  rw [hv]
  refine ry_f h1 (ry_f h2 ?_)
  refine ry_cw hc hs rfl rfl hW ?_
  refine ry_f h1 (ry_f h2 ?_)
  refine ry_cw hc hs rfl rfl hM ?_
  refine ry_cw hc hs rfl rfl hT ?_
  refine ry_t ht (ry_f (c := Int32.ofInt 0 < 0 ∨ 1 ≤ (Int32.ofInt 0).toNatClampNeg) (by decide) (ry_t ?_ (ry_t ⟨rfl, rfl, rfl, rfl, rfl, rfl, rfl, rfl⟩ rfl)))
  show lg_cmp (f2 0) r.toInt64 = 0
  rw [hf]
  unfold lg_cmp
  rw [if_neg (by simp), if_pos rfl]
set_option maxRecDepth 100000 in
theorem rt_name {FW FM FT : rx_F} {I : Nat → Int32} {L : Nat → Int64} {T : Nat → Nat → Int32} {U : Nat → Nat → Int64} {J : Nat → Int32} {S : Nat → Nat → Int32} {K : Nat → Int64} {f : Nat → Int64} {I1 : Nat → Int32} {L1 : Nat → Int64} {T1 : Nat → Nat → Int32} {U1 : Nat → Nat → Int64} {J1 : Nat → Int32} {S1 : Nat → Nat → Int32} {K1 : Nat → Int64} {f1 : Nat → Int64} {I2 : Nat → Int32} {L2 : Nat → Int64} {T2 : Nat → Nat → Int32} {U2 : Nat → Nat → Int64} {J2 : Nat → Int32} {S2 : Nat → Nat → Int32} {K2 : Nat → Int64} {f2 : Nat → Int64} {Ls : Nat} {xs : Nat → Int32} {i : Int32} {nc ns : Nat} (h0 : ¬ (Int32.ofNat Ls - 4 < i)) (hi : ¬ (i < 0 ∨ Ls ≤ i.toNatClampNeg)) (hv : rx_tsw (xs i.toNatClampNeg &&& 15) 701 0 [57, 126, 182, 193, 249, 317, 385, 441, 521, 589, 645] = 521) (h1 : ¬ (i + 1 < 0 ∨ Ls ≤ (i + 1).toNatClampNeg)) (h2 : ¬ (i + 2 < 0 ∨ Ls ≤ (i + 2).toNatClampNeg)) (hc : Nat.ble (nc + 1) 1095 = true) (hs : Nat.ble (ns + 6) 42951 = true) {k r : Int32} (hk : ¬ k = 0) {t : Int32} (ht : t = k)
    (hW : FW (wl I L T U J S K f) [.ref 0, .int (xs (i + 1).toNatClampNeg), .int (xs (i + 2).toNatClampNeg), .ref 58] = some (some (.int k), (wl I1 L1 T1 U1 J1 S1 K1 f1))) (hM : FM (wl I1 L1 T1 U1 J1 S1 K1 f1) [.ref 38, .int (xs (i + 1).toNatClampNeg), .int (xs (i + 2).toNatClampNeg)] = some (some (.int r), (wl I2 L2 T2 U2 J2 S2 K2 f2))) (hT : FT (wl I2 L2 T2 U2 J2 S2 K2 f2) [.ref 38] = some (some (.int t), (wl I2 L2 T2 U2 J2 S2 K2 f2))) :
    RLw (cfl_name FW FM FT) cdl_name Ls xs 740 (StL i (nc + 1) (ns + 6)) 40 23 (LSw i) [] (wl I L T U J S K f) nc ns = some (none, (wl I2 L2 T2 U2 J2 S2 K2 f2)) := by
  refine (hd_name (n := 35) h0 hi).trans ?_
  rw [hv]
  refine ry_f h1 (ry_f h2 ?_)
  refine ry_cw hc hs rfl rfl hW ?_
  refine ry_f h1 (ry_f h2 ?_)
  refine ry_cw hc hs rfl rfl hM ?_
  refine ry_cw hc hs rfl rfl hT ?_
  exact ry_t ht (ry_f hk (ry_t ⟨rfl, rfl, rfl, rfl, rfl, rfl, rfl, rfl⟩ rfl))
def cdl_error : List (Nat × List (Instr × Nat)) := [(23, [(.iload 4, 2), (.aload_n 0, 1)]), (27, [(.iconst 4, 1), (.isub, 1), (.if_icmp .gt 717, 3), (.aload_n 0, 1), (.iload 4, 2)]), (36, [(.bipush 15, 2), (.iand, 1), (.tableswitch 701 0 10 #[57, 126, 182, 193, 249, 317, 385, 441, 521, 589, 645], 57)]), (628, [(.aload_n 1, 1), (.aload_n 0, 1), (.iload 4, 2), (.iconst 1, 1), (.iadd, 1)]), (635, [(.aload_n 3, 1), (.invokestatic 88, 3), (.istore 5, 2), (.aload_n 2, 1), (.aload_n 0, 1), (.iload 4, 2), (.iconst 1, 1), (.iadd, 1)]), (648, [(.invokevirtual 90, 3), (.istore 6, 2), (.aload_n 2, 1), (.invokevirtual 60, 3), (.iload 5, 2), (.if_icmp .eq 5, 3), (.iconst 0, 1), (.ireturn, 1)]), (664, [(.iload 5, 2), (.ifCond .ne 15, 3), (.aload_n 3, 1), (.iconst 0, 1), (.laload, 1), (.iload 6, 2), (.i2l, 1), (.lcmp, 1), (.ifCond .eq 5, 3), (.iconst 0, 1), (.ireturn, 1)]), (681, [(.goto 59, 3)])]
theorem cdl_error_ok : cdl_error.all (fun q => rx_dec code 7 q.1 q.2) = true := by decide +kernel
def cfl_error (FW FM FT : rx_F) : Instr → Option rx_C := rx_lkc [(90, (2, some 11, 0, 0, FM)), (60, (1, some 11, 0, 0, FT))] [(88, (3, none, 1, 6, FW))] []
set_option maxRecDepth 100000 in
theorem hd_error {FW FM FT : rx_F} {I : Nat → Int32} {L : Nat → Int64} {T : Nat → Nat → Int32} {U : Nat → Nat → Int64} {J : Nat → Int32} {S : Nat → Nat → Int32} {K : Nat → Int64} {f : Nat → Int64} {Ls : Nat} {xs : Nat → Int32} {i : Int32} {nc ns : Nat} (h0 : ¬ (Int32.ofNat Ls - 4 < i)) (hi : ¬ (i < 0 ∨ Ls ≤ i.toNatClampNeg)) {St : rx_L → List Value → rx_H → Nat → Nat → Prop} {n : Nat} : RLw (cfl_error FW FM FT) cdl_error Ls xs 740 St (n + 5) 23 (LSw i) [] (wl I L T U J S K f) nc ns = RLw (cfl_error FW FM FT) cdl_error Ls xs 740 St n (((39 : Nat) : Int) + rx_tsw (xs i.toNatClampNeg &&& 15) 701 0 [57, 126, 182, 193, 249, 317, 385, 441, 521, 589, 645]).toNat (LSw i) [] (wl I L T U J S K f) nc ns := ry_f h0 (ry_f hi rfl)
set_option maxRecDepth 100000 in
theorem rn_error {FW FM FT : rx_F} {I : Nat → Int32} {L : Nat → Int64} {T : Nat → Nat → Int32} {U : Nat → Nat → Int64} {J : Nat → Int32} {S : Nat → Nat → Int32} {K : Nat → Int64} {f : Nat → Int64} {I1 : Nat → Int32} {L1 : Nat → Int64} {T1 : Nat → Nat → Int32} {U1 : Nat → Nat → Int64} {J1 : Nat → Int32} {S1 : Nat → Nat → Int32} {K1 : Nat → Int64} {f1 : Nat → Int64} {I2 : Nat → Int32} {L2 : Nat → Int64} {T2 : Nat → Nat → Int32} {U2 : Nat → Nat → Int64} {J2 : Nat → Int32} {S2 : Nat → Nat → Int32} {K2 : Nat → Int64} {f2 : Nat → Int64} {Ls : Nat} {xs : Nat → Int32} {i : Int32} {nc ns : Nat} (h0 : ¬ (Int32.ofNat Ls - 4 < i)) (hi : ¬ (i < 0 ∨ Ls ≤ i.toNatClampNeg)) (hv : rx_tsw (xs i.toNatClampNeg &&& 15) 701 0 [57, 126, 182, 193, 249, 317, 385, 441, 521, 589, 645] = 589) (h1 : ¬ (i + 1 < 0 ∨ Ls ≤ (i + 1).toNatClampNeg)) (hc : Nat.ble (nc + 1) 1095 = true) (hs : Nat.ble (ns + 6) 42951 = true) {r : Int32} (hf : f2 0 = r.toInt64) {t : Int32} (ht : t = 0)
    (hW : FW (wl I L T U J S K f) [.ref 0, .int (xs (i + 1).toNatClampNeg), .ref 58] = some (some (.int 0), (wl I1 L1 T1 U1 J1 S1 K1 f1))) (hM : FM (wl I1 L1 T1 U1 J1 S1 K1 f1) [.ref 38, .int (xs (i + 1).toNatClampNeg)] = some (some (.int r), (wl I2 L2 T2 U2 J2 S2 K2 f2))) (hT : FT (wl I2 L2 T2 U2 J2 S2 K2 f2) [.ref 38] = some (some (.int t), (wl I2 L2 T2 U2 J2 S2 K2 f2))) :
    RLw (cfl_error FW FM FT) cdl_error Ls xs 740 (StL i (nc + 1) (ns + 6)) 40 23 (LSw i) [] (wl I L T U J S K f) nc ns = some (none, (wl I2 L2 T2 U2 J2 S2 K2 f2)) := by
  refine (hd_error (n := 35) h0 hi).trans ?_
  rw [hv]
  refine ry_f h1 ?_
  refine ry_cw hc hs rfl rfl hW ?_
  refine ry_f h1 ?_
  refine ry_cw hc hs rfl rfl hM ?_
  refine ry_cw hc hs rfl rfl hT ?_
  refine ry_t ht (ry_f (c := Int32.ofInt 0 < 0 ∨ 1 ≤ (Int32.ofInt 0).toNatClampNeg) (by decide) (ry_t ?_ (ry_t ⟨rfl, rfl, rfl, rfl, rfl, rfl, rfl, rfl⟩ rfl)))
  show lg_cmp (f2 0) r.toInt64 = 0
  rw [hf]
  unfold lg_cmp
  rw [if_neg (by simp), if_pos rfl]
set_option maxRecDepth 100000 in
theorem rt_error {FW FM FT : rx_F} {I : Nat → Int32} {L : Nat → Int64} {T : Nat → Nat → Int32} {U : Nat → Nat → Int64} {J : Nat → Int32} {S : Nat → Nat → Int32} {K : Nat → Int64} {f : Nat → Int64} {I1 : Nat → Int32} {L1 : Nat → Int64} {T1 : Nat → Nat → Int32} {U1 : Nat → Nat → Int64} {J1 : Nat → Int32} {S1 : Nat → Nat → Int32} {K1 : Nat → Int64} {f1 : Nat → Int64} {I2 : Nat → Int32} {L2 : Nat → Int64} {T2 : Nat → Nat → Int32} {U2 : Nat → Nat → Int64} {J2 : Nat → Int32} {S2 : Nat → Nat → Int32} {K2 : Nat → Int64} {f2 : Nat → Int64} {Ls : Nat} {xs : Nat → Int32} {i : Int32} {nc ns : Nat} (h0 : ¬ (Int32.ofNat Ls - 4 < i)) (hi : ¬ (i < 0 ∨ Ls ≤ i.toNatClampNeg)) (hv : rx_tsw (xs i.toNatClampNeg &&& 15) 701 0 [57, 126, 182, 193, 249, 317, 385, 441, 521, 589, 645] = 589) (h1 : ¬ (i + 1 < 0 ∨ Ls ≤ (i + 1).toNatClampNeg)) (hc : Nat.ble (nc + 1) 1095 = true) (hs : Nat.ble (ns + 6) 42951 = true) {k r : Int32} (hk : ¬ k = 0) {t : Int32} (ht : t = k)
    (hW : FW (wl I L T U J S K f) [.ref 0, .int (xs (i + 1).toNatClampNeg), .ref 58] = some (some (.int k), (wl I1 L1 T1 U1 J1 S1 K1 f1))) (hM : FM (wl I1 L1 T1 U1 J1 S1 K1 f1) [.ref 38, .int (xs (i + 1).toNatClampNeg)] = some (some (.int r), (wl I2 L2 T2 U2 J2 S2 K2 f2))) (hT : FT (wl I2 L2 T2 U2 J2 S2 K2 f2) [.ref 38] = some (some (.int t), (wl I2 L2 T2 U2 J2 S2 K2 f2))) :
    RLw (cfl_error FW FM FT) cdl_error Ls xs 740 (StL i (nc + 1) (ns + 6)) 40 23 (LSw i) [] (wl I L T U J S K f) nc ns = some (none, (wl I2 L2 T2 U2 J2 S2 K2 f2)) := by
  refine (hd_error (n := 35) h0 hi).trans ?_
  rw [hv]
  refine ry_f h1 ?_
  refine ry_cw hc hs rfl rfl hW ?_
  refine ry_f h1 ?_
  refine ry_cw hc hs rfl rfl hM ?_
  refine ry_cw hc hs rfl rfl hT ?_
  exact ry_t ht (ry_f hk (ry_t ⟨rfl, rfl, rfl, rfl, rfl, rfl, rfl, rfl⟩ rfl))
def cdl_out : List (Nat × List (Instr × Nat)) := [(23, [(.iload 4, 2), (.aload_n 0, 1)]), (27, [(.iconst 4, 1), (.isub, 1), (.if_icmp .gt 717, 3), (.aload_n 0, 1), (.iload 4, 2)]), (36, [(.bipush 15, 2), (.iand, 1), (.tableswitch 701 0 10 #[57, 126, 182, 193, 249, 317, 385, 441, 521, 589, 645], 57)]), (684, [(.aload_n 1, 1), (.aload_n 0, 1), (.iload 4, 2), (.iconst 1, 1), (.iadd, 1)]), (691, [(.aload_n 3, 1), (.invokestatic 91, 3), (.istore 5, 2), (.aload_n 2, 1), (.aload_n 0, 1), (.iload 4, 2), (.iconst 1, 1), (.iadd, 1)]), (704, [(.invokevirtual 93, 3), (.istore 6, 2), (.aload_n 2, 1), (.invokevirtual 60, 3), (.iload 5, 2), (.if_icmp .eq 5, 3), (.iconst 0, 1), (.ireturn, 1)]), (720, [(.iload 5, 2), (.ifCond .ne 15, 3), (.aload_n 3, 1), (.iconst 0, 1), (.laload, 1), (.iload 6, 2), (.i2l, 1), (.lcmp, 1), (.ifCond .eq 5, 3), (.iconst 0, 1), (.ireturn, 1)]), (737, [(.goto 3, 3)])]
theorem cdl_out_ok : cdl_out.all (fun q => rx_dec code 7 q.1 q.2) = true := by decide +kernel
def cfl_out (FW FM FT : rx_F) : Instr → Option rx_C := rx_lkc [(93, (2, some 11, 0, 0, FM)), (60, (1, some 11, 0, 0, FT))] [(91, (3, none, 1, 6, FW))] []
set_option maxRecDepth 100000 in
theorem hd_out {FW FM FT : rx_F} {I : Nat → Int32} {L : Nat → Int64} {T : Nat → Nat → Int32} {U : Nat → Nat → Int64} {J : Nat → Int32} {S : Nat → Nat → Int32} {K : Nat → Int64} {f : Nat → Int64} {Ls : Nat} {xs : Nat → Int32} {i : Int32} {nc ns : Nat} (h0 : ¬ (Int32.ofNat Ls - 4 < i)) (hi : ¬ (i < 0 ∨ Ls ≤ i.toNatClampNeg)) {St : rx_L → List Value → rx_H → Nat → Nat → Prop} {n : Nat} : RLw (cfl_out FW FM FT) cdl_out Ls xs 740 St (n + 5) 23 (LSw i) [] (wl I L T U J S K f) nc ns = RLw (cfl_out FW FM FT) cdl_out Ls xs 740 St n (((39 : Nat) : Int) + rx_tsw (xs i.toNatClampNeg &&& 15) 701 0 [57, 126, 182, 193, 249, 317, 385, 441, 521, 589, 645]).toNat (LSw i) [] (wl I L T U J S K f) nc ns := ry_f h0 (ry_f hi rfl)
set_option maxRecDepth 100000 in
theorem rn_out {FW FM FT : rx_F} {I : Nat → Int32} {L : Nat → Int64} {T : Nat → Nat → Int32} {U : Nat → Nat → Int64} {J : Nat → Int32} {S : Nat → Nat → Int32} {K : Nat → Int64} {f : Nat → Int64} {I1 : Nat → Int32} {L1 : Nat → Int64} {T1 : Nat → Nat → Int32} {U1 : Nat → Nat → Int64} {J1 : Nat → Int32} {S1 : Nat → Nat → Int32} {K1 : Nat → Int64} {f1 : Nat → Int64} {I2 : Nat → Int32} {L2 : Nat → Int64} {T2 : Nat → Nat → Int32} {U2 : Nat → Nat → Int64} {J2 : Nat → Int32} {S2 : Nat → Nat → Int32} {K2 : Nat → Int64} {f2 : Nat → Int64} {Ls : Nat} {xs : Nat → Int32} {i : Int32} {nc ns : Nat} (h0 : ¬ (Int32.ofNat Ls - 4 < i)) (hi : ¬ (i < 0 ∨ Ls ≤ i.toNatClampNeg)) (hv : rx_tsw (xs i.toNatClampNeg &&& 15) 701 0 [57, 126, 182, 193, 249, 317, 385, 441, 521, 589, 645] = 645) (h1 : ¬ (i + 1 < 0 ∨ Ls ≤ (i + 1).toNatClampNeg)) (hc : Nat.ble (nc + 1) 1095 = true) (hs : Nat.ble (ns + 6) 42951 = true) {r : Int32} (hf : f2 0 = r.toInt64) {t : Int32} (ht : t = 0)
    (hW : FW (wl I L T U J S K f) [.ref 0, .int (xs (i + 1).toNatClampNeg), .ref 58] = some (some (.int 0), (wl I1 L1 T1 U1 J1 S1 K1 f1))) (hM : FM (wl I1 L1 T1 U1 J1 S1 K1 f1) [.ref 38, .int (xs (i + 1).toNatClampNeg)] = some (some (.int r), (wl I2 L2 T2 U2 J2 S2 K2 f2))) (hT : FT (wl I2 L2 T2 U2 J2 S2 K2 f2) [.ref 38] = some (some (.int t), (wl I2 L2 T2 U2 J2 S2 K2 f2))) :
    RLw (cfl_out FW FM FT) cdl_out Ls xs 740 (StL i (nc + 1) (ns + 6)) 40 23 (LSw i) [] (wl I L T U J S K f) nc ns = some (none, (wl I2 L2 T2 U2 J2 S2 K2 f2)) := by
  refine (hd_out (n := 35) h0 hi).trans ?_
  rw [hv]
  refine ry_f h1 ?_
  refine ry_cw hc hs rfl rfl hW ?_
  refine ry_f h1 ?_
  refine ry_cw hc hs rfl rfl hM ?_
  refine ry_cw hc hs rfl rfl hT ?_
  refine ry_t ht (ry_f (c := Int32.ofInt 0 < 0 ∨ 1 ≤ (Int32.ofInt 0).toNatClampNeg) (by decide) (ry_t ?_ (ry_t ⟨rfl, rfl, rfl, rfl, rfl, rfl, rfl, rfl⟩ rfl)))
  show lg_cmp (f2 0) r.toInt64 = 0
  rw [hf]
  unfold lg_cmp
  rw [if_neg (by simp), if_pos rfl]
set_option maxRecDepth 100000 in
theorem rt_out {FW FM FT : rx_F} {I : Nat → Int32} {L : Nat → Int64} {T : Nat → Nat → Int32} {U : Nat → Nat → Int64} {J : Nat → Int32} {S : Nat → Nat → Int32} {K : Nat → Int64} {f : Nat → Int64} {I1 : Nat → Int32} {L1 : Nat → Int64} {T1 : Nat → Nat → Int32} {U1 : Nat → Nat → Int64} {J1 : Nat → Int32} {S1 : Nat → Nat → Int32} {K1 : Nat → Int64} {f1 : Nat → Int64} {I2 : Nat → Int32} {L2 : Nat → Int64} {T2 : Nat → Nat → Int32} {U2 : Nat → Nat → Int64} {J2 : Nat → Int32} {S2 : Nat → Nat → Int32} {K2 : Nat → Int64} {f2 : Nat → Int64} {Ls : Nat} {xs : Nat → Int32} {i : Int32} {nc ns : Nat} (h0 : ¬ (Int32.ofNat Ls - 4 < i)) (hi : ¬ (i < 0 ∨ Ls ≤ i.toNatClampNeg)) (hv : rx_tsw (xs i.toNatClampNeg &&& 15) 701 0 [57, 126, 182, 193, 249, 317, 385, 441, 521, 589, 645] = 645) (h1 : ¬ (i + 1 < 0 ∨ Ls ≤ (i + 1).toNatClampNeg)) (hc : Nat.ble (nc + 1) 1095 = true) (hs : Nat.ble (ns + 6) 42951 = true) {k r : Int32} (hk : ¬ k = 0) {t : Int32} (ht : t = k)
    (hW : FW (wl I L T U J S K f) [.ref 0, .int (xs (i + 1).toNatClampNeg), .ref 58] = some (some (.int k), (wl I1 L1 T1 U1 J1 S1 K1 f1))) (hM : FM (wl I1 L1 T1 U1 J1 S1 K1 f1) [.ref 38, .int (xs (i + 1).toNatClampNeg)] = some (some (.int r), (wl I2 L2 T2 U2 J2 S2 K2 f2))) (hT : FT (wl I2 L2 T2 U2 J2 S2 K2 f2) [.ref 38] = some (some (.int t), (wl I2 L2 T2 U2 J2 S2 K2 f2))) :
    RLw (cfl_out FW FM FT) cdl_out Ls xs 740 (StL i (nc + 1) (ns + 6)) 40 23 (LSw i) [] (wl I L T U J S K f) nc ns = some (none, (wl I2 L2 T2 U2 J2 S2 K2 f2)) := by
  refine (hd_out (n := 35) h0 hi).trans ?_
  rw [hv]
  refine ry_f h1 ?_
  refine ry_cw hc hs rfl rfl hW ?_
  refine ry_f h1 ?_
  refine ry_cw hc hs rfl rfl hM ?_
  refine ry_cw hc hs rfl rfl hT ?_
  exact ry_t ht (ry_f hk (ry_t ⟨rfl, rfl, rfl, rfl, rfl, rfl, rfl, rfl⟩ rfl))
