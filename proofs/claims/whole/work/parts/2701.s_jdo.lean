theorem jdo : HDO := by
  intro N I L T U J S K n op ho hS
  obtain ⟨g, hg⟩ := RO_g hS.1.1
  by_cases h0 : op = 0
  · subst h0
    exact du_A (by decide) j_0 hS hg
  by_cases h1 : op = 1
  · subst h1
    exact du_A (by decide) j_1 hS hg
  by_cases h2 : op = 2
  · subst h2
    exact du_A (by decide) j_2 hS hg
  by_cases h3 : op = 3
  · subst h3
    exact du_A (by decide) j_3 hS hg
  by_cases h4 : op = 4
  · subst h4
    exact du_A (by decide) j_4 hS hg
  by_cases h5 : op = 5
  · subst h5
    exact du_A (by decide) j_5 hS hg
  by_cases h6 : op = 6
  · subst h6
    exact du_A (by decide) j_6 hS hg
  by_cases h7 : op = 7
  · subst h7
    exact du_A (by decide) j_7 hS hg
  by_cases h8 : op = 8
  · subst h8
    exact du_A (by decide) j_8 hS hg
  by_cases h9 : op = 9
  · subst h9
    exact du_A (by decide) j_9 hS hg
  by_cases h10 : op = 10
  · subst h10
    exact du_A (by decide) j_10 hS hg
  by_cases h11 : op = 11
  · subst h11
    exact du_A (by decide) j_11 hS hg
  by_cases h12 : op = 12
  · subst h12
    exact du_A (by decide) j_12 hS hg
  by_cases h13 : op = 13
  · subst h13
    exact du_A (by decide) j_13 hS hg
  by_cases h14 : op = 14
  · subst h14
    exact du_A (by decide) j_14 hS hg
  by_cases h15 : op = 15
  · subst h15
    exact du_A (by decide) j_15 hS hg
  by_cases h16 : op = 16
  · subst h16
    exact du_A (by decide) j_16 hS hg
  by_cases h17 : op = 17
  · subst h17
    exact du_A (by decide) j_17 hS hg
  by_cases h18 : op = 18
  · subst h18
    exact du_A (by decide) j_18 hS hg
  by_cases h19 : op = 19
  · subst h19
    exact du_A (by decide) j_19 hS hg
  by_cases h20 : op = 20
  · subst h20
    exact du_A (by decide) j_20 hS hg
  by_cases h21 : op = 21
  · subst h21
    exact du_A (by decide) j_21 hS hg
  by_cases h22 : op = 22
  · subst h22
    exact du_A (by decide) j_22 hS hg
  by_cases h23 : op = 23
  · subst h23
    exact du_A (by decide) j_23 hS hg
  by_cases h24 : op = 24
  · subst h24
    exact du_A (by decide) j_24 hS hg
  by_cases h25 : op = 25
  · subst h25
    exact du_A (by decide) j_25 hS hg
  by_cases h26 : op = 26
  · subst h26
    exact du_A (by decide) j_26 hS hg
  by_cases h27 : op = 27
  · subst h27
    exact du_A (by decide) j_27 hS hg
  by_cases h28 : op = 28
  · subst h28
    exact du_A (by decide) j_28 hS hg
  by_cases h29 : op = 29
  · subst h29
    exact du_A (by decide) j_29 hS hg
  by_cases h30 : op = 30
  · subst h30
    exact du_A (by decide) j_30 hS hg
  by_cases h31 : op = 31
  · subst h31
    exact du_A (by decide) j_31 hS hg
  by_cases h32 : op = 32
  · subst h32
    exact du_A (by decide) j_32 hS hg
  by_cases h33 : op = 33
  · subst h33
    exact du_B (by decide) (by decide) j_33 hS hg
  by_cases h34 : op = 34
  · subst h34
    exact du_B (by decide) (by decide) j_34 hS hg
  by_cases h35 : op = 35
  · subst h35
    exact du_C (k := 0) rfl (by decide) (by decide +kernel) j_35 j_35d hS hg
  by_cases h36 : op = 36
  · subst h36
    exact du_C (k := 1) rfl (by decide) (by decide +kernel) j_36 j_36d hS hg
  by_cases h37 : op = 37
  · subst h37
    exact du_C (k := 2) rfl (by decide) (by decide +kernel) j_37 j_37d hS hg
  by_cases h38 : op = 38
  · subst h38
    exact du_B (by decide) (by decide) j_38 hS hg
  by_cases h39 : op = 39
  · subst h39
    exact du_B (by decide) (by decide) j_39 hS hg
  by_cases h40 : op = 40
  · subst h40
    exact du_B (by decide) (by decide) j_40 hS hg
  by_cases h41 : op = 41
  · subst h41
    exact du_B (by decide) (by decide) j_41 hS hg
  by_cases h42 : op = 42
  · subst h42
    exact du_B (by decide) (by decide) j_42 hS hg
  by_cases h43 : op = 43
  · subst h43
    exact du_D (by decide) j_43 hS hg
  by_cases h44 : op = 44
  · subst h44
    exact du_D (by decide) j_44 hS hg
  by_cases h45 : op = 45
  · subst h45
    exact du_D (by decide) j_45 hS hg
  by_cases h46 : op = 46
  · subst h46
    exact du_D (by decide) j_46 hS hg
  by_cases h47 : op = 47
  · subst h47
    exact du_D (by decide) j_47 hS hg
  by_cases h48 : op = 48
  · subst h48
    exact du_D (by decide) j_48 hS hg
  by_cases h49 : op = 49
  · subst h49
    exact du_D (by decide) j_49 hS hg
  by_cases h50 : op = 50
  · subst h50
    exact du_D (by decide) j_50 hS hg
  by_cases h51 : op = 51
  · subst h51
    exact du_D (by decide) j_51 hS hg
  by_cases h52 : op = 52
  · subst h52
    exact du_D (by decide) j_52 hS hg
  by_cases h53 : op = 53
  · subst h53
    exact du_D (by decide) j_53 hS hg
  by_cases h54 : op = 54
  · subst h54
    exact du_D (by decide) j_54 hS hg
  by_cases h55 : op = 55
  · subst h55
    exact du_D (by decide) j_55 hS hg
  by_cases h56 : op = 56
  · subst h56
    exact du_E (by decide) hS hg (jc_56 hS hg)
  by_cases h57 : op = 57
  · subst h57
    exact du_E (by decide) hS hg (jc_57 hS hg)
  by_cases h58 : op = 58
  · subst h58
    exact du_E (by decide) hS hg (jc_58 hS hg)
  by_cases h59 : op = 59
  · subst h59
    exact du_E (by decide) hS hg (jc_59 hS hg)
  by_cases h60 : op = 60
  · subst h60
    exact du_E (by decide) hS hg (jc_60 hS hg)
  by_cases h61 : op = 61
  · subst h61
    exact du_E (by decide) hS hg (jc_61 hS hg)
  by_cases h62 : op = 62
  · subst h62
    exact du_E (by decide) hS hg (jc_62 hS hg)
  by_cases h63 : op = 63
  · subst h63
    exact du_E (by decide) hS hg (jc_63 hS hg)
  by_cases h64 : op = 64
  · subst h64
    exact du_E (by decide) hS hg (jc_64 hS hg)
  by_cases h65 : op = 65
  · subst h65
    exact du_E (by decide) hS hg (jc_65 hS hg)
  by_cases h66 : op = 66
  · subst h66
    exact du_E (by decide) hS hg (jc_66 hS hg)
  by_cases h67 : op = 67
  · subst h67
    exact du_F rfl j_67 hS hg
  by_cases h68 : op = 68
  · subst h68
    exact du_G (by decide) j_68 hS hg
  by_cases h69 : op = 69
  · subst h69
    exact du_G (by decide) j_69 hS hg
  by_cases h70 : op = 70
  · subst h70
    exact du_G (by decide) j_70 hS hg
  by_cases h71 : op = 71
  · subst h71
    exact du_G (by decide) j_71 hS hg
  by_cases h72 : op = 72
  · subst h72
    exact du_G (by decide) j_72 hS hg
  by_cases h73 : op = 73
  · subst h73
    exact du_G (by decide) j_73 hS hg
  omega
