theorem al {P : Nat → Prop} {n : Nat} (h : ∀ k, k < n → P k) (hn : P n) : ∀ k, k < n + 1 → P k := by
  intro k hk
  by_cases e : k = n
  · rw [e]
    exact hn
  · exact h k (by omega)
set_option maxRecDepth 100000 in
theorem sc_0_0 (I : Nat → Int32) (L : Nat → Int64) (T : Nat → Nat → Int32) (U : Nat → Nat → Int64) : f_J0_charAt_5068e (wn I L T U) [.ref 1000100, .int (nI 0)] = some (some (.int (nI 112)), wn I L T U) := rfl
set_option maxRecDepth 100000 in
theorem sc_0_1 (I : Nat → Int32) (L : Nat → Int64) (T : Nat → Nat → Int32) (U : Nat → Nat → Int64) : f_J0_charAt_5068e (wn I L T U) [.ref 1000100, .int (nI 1)] = some (some (.int (nI 111)), wn I L T U) := rfl
set_option maxRecDepth 100000 in
theorem sc_0_2 (I : Nat → Int32) (L : Nat → Int64) (T : Nat → Nat → Int32) (U : Nat → Nat → Int64) : f_J0_charAt_5068e (wn I L T U) [.ref 1000100, .int (nI 2)] = some (some (.int (nI 112)), wn I L T U) := rfl
set_option maxRecDepth 100000 in
theorem sc_0_3 (I : Nat → Int32) (L : Nat → Int64) (T : Nat → Nat → Int32) (U : Nat → Nat → Int64) : f_J0_charAt_5068e (wn I L T U) [.ref 1000100, .int (nI 3)] = some (some (.int (nI 32)), wn I L T U) := rfl
set_option maxRecDepth 100000 in
theorem sc_0_4 (I : Nat → Int32) (L : Nat → Int64) (T : Nat → Nat → Int32) (U : Nat → Nat → Int64) : f_J0_charAt_5068e (wn I L T U) [.ref 1000100, .int (nI 4)] = some (some (.int (nI 101)), wn I L T U) := rfl
set_option maxRecDepth 100000 in
theorem sc_0_5 (I : Nat → Int32) (L : Nat → Int64) (T : Nat → Nat → Int32) (U : Nat → Nat → Int64) : f_J0_charAt_5068e (wn I L T U) [.ref 1000100, .int (nI 5)] = some (some (.int (nI 120)), wn I L T U) := rfl
set_option maxRecDepth 100000 in
theorem sc_0_6 (I : Nat → Int32) (L : Nat → Int64) (T : Nat → Nat → Int32) (U : Nat → Nat → Int64) : f_J0_charAt_5068e (wn I L T U) [.ref 1000100, .int (nI 6)] = some (some (.int (nI 99)), wn I L T U) := rfl
set_option maxRecDepth 100000 in
theorem sc_0_7 (I : Nat → Int32) (L : Nat → Int64) (T : Nat → Nat → Int32) (U : Nat → Nat → Int64) : f_J0_charAt_5068e (wn I L T U) [.ref 1000100, .int (nI 7)] = some (some (.int (nI 104)), wn I L T U) := rfl
set_option maxRecDepth 100000 in
theorem sc_0_8 (I : Nat → Int32) (L : Nat → Int64) (T : Nat → Nat → Int32) (U : Nat → Nat → Int64) : f_J0_charAt_5068e (wn I L T U) [.ref 1000100, .int (nI 8)] = some (some (.int (nI 32)), wn I L T U) := rfl
set_option maxRecDepth 100000 in
theorem sc_0_9 (I : Nat → Int32) (L : Nat → Int64) (T : Nat → Nat → Int32) (U : Nat → Nat → Int64) : f_J0_charAt_5068e (wn I L T U) [.ref 1000100, .int (nI 9)] = some (some (.int (nI 100)), wn I L T U) := rfl
set_option maxRecDepth 100000 in
theorem sc_0_10 (I : Nat → Int32) (L : Nat → Int64) (T : Nat → Nat → Int32) (U : Nat → Nat → Int64) : f_J0_charAt_5068e (wn I L T U) [.ref 1000100, .int (nI 10)] = some (some (.int (nI 117)), wn I L T U) := rfl
set_option maxRecDepth 100000 in
theorem sc_0_11 (I : Nat → Int32) (L : Nat → Int64) (T : Nat → Nat → Int32) (U : Nat → Nat → Int64) : f_J0_charAt_5068e (wn I L T U) [.ref 1000100, .int (nI 11)] = some (some (.int (nI 112)), wn I L T U) := rfl
set_option maxRecDepth 100000 in
theorem sc_0_12 (I : Nat → Int32) (L : Nat → Int64) (T : Nat → Nat → Int32) (U : Nat → Nat → Int64) : f_J0_charAt_5068e (wn I L T U) [.ref 1000100, .int (nI 12)] = some (some (.int (nI 32)), wn I L T U) := rfl
set_option maxRecDepth 100000 in
theorem sc_0_13 (I : Nat → Int32) (L : Nat → Int64) (T : Nat → Nat → Int32) (U : Nat → Nat → Int64) : f_J0_charAt_5068e (wn I L T U) [.ref 1000100, .int (nI 13)] = some (some (.int (nI 99)), wn I L T U) := rfl
set_option maxRecDepth 100000 in
theorem sc_0_14 (I : Nat → Int32) (L : Nat → Int64) (T : Nat → Nat → Int32) (U : Nat → Nat → Int64) : f_J0_charAt_5068e (wn I L T U) [.ref 1000100, .int (nI 14)] = some (some (.int (nI 111)), wn I L T U) := rfl
set_option maxRecDepth 100000 in
theorem sc_0_15 (I : Nat → Int32) (L : Nat → Int64) (T : Nat → Nat → Int32) (U : Nat → Nat → Int64) : f_J0_charAt_5068e (wn I L T U) [.ref 1000100, .int (nI 15)] = some (some (.int (nI 112)), wn I L T U) := rfl
set_option maxRecDepth 100000 in
theorem sc_0_16 (I : Nat → Int32) (L : Nat → Int64) (T : Nat → Nat → Int32) (U : Nat → Nat → Int64) : f_J0_charAt_5068e (wn I L T U) [.ref 1000100, .int (nI 16)] = some (some (.int (nI 121)), wn I L T U) := rfl
set_option maxRecDepth 100000 in
theorem sc_0_17 (I : Nat → Int32) (L : Nat → Int64) (T : Nat → Nat → Int32) (U : Nat → Nat → Int64) : f_J0_charAt_5068e (wn I L T U) [.ref 1000100, .int (nI 17)] = some (some (.int (nI 32)), wn I L T U) := rfl
set_option maxRecDepth 100000 in
theorem sc_0_18 (I : Nat → Int32) (L : Nat → Int64) (T : Nat → Nat → Int32) (U : Nat → Nat → Int64) : f_J0_charAt_5068e (wn I L T U) [.ref 1000100, .int (nI 18)] = some (some (.int (nI 105)), wn I L T U) := rfl
set_option maxRecDepth 100000 in
theorem sc_0_19 (I : Nat → Int32) (L : Nat → Int64) (T : Nat → Nat → Int32) (U : Nat → Nat → Int64) : f_J0_charAt_5068e (wn I L T U) [.ref 1000100, .int (nI 19)] = some (some (.int (nI 110)), wn I L T U) := rfl
set_option maxRecDepth 100000 in
theorem sc_0_20 (I : Nat → Int32) (L : Nat → Int64) (T : Nat → Nat → Int32) (U : Nat → Nat → Int64) : f_J0_charAt_5068e (wn I L T U) [.ref 1000100, .int (nI 20)] = some (some (.int (nI 100)), wn I L T U) := rfl
set_option maxRecDepth 100000 in
theorem sc_0_21 (I : Nat → Int32) (L : Nat → Int64) (T : Nat → Nat → Int32) (U : Nat → Nat → Int64) : f_J0_charAt_5068e (wn I L T U) [.ref 1000100, .int (nI 21)] = some (some (.int (nI 101)), wn I L T U) := rfl
set_option maxRecDepth 100000 in
theorem sc_0_22 (I : Nat → Int32) (L : Nat → Int64) (T : Nat → Nat → Int32) (U : Nat → Nat → Int64) : f_J0_charAt_5068e (wn I L T U) [.ref 1000100, .int (nI 22)] = some (some (.int (nI 120)), wn I L T U) := rfl
set_option maxRecDepth 100000 in
theorem sc_0_23 (I : Nat → Int32) (L : Nat → Int64) (T : Nat → Nat → Int32) (U : Nat → Nat → Int64) : f_J0_charAt_5068e (wn I L T U) [.ref 1000100, .int (nI 23)] = some (some (.int (nI 32)), wn I L T U) := rfl
set_option maxRecDepth 100000 in
theorem sc_0_24 (I : Nat → Int32) (L : Nat → Int64) (T : Nat → Nat → Int32) (U : Nat → Nat → Int64) : f_J0_charAt_5068e (wn I L T U) [.ref 1000100, .int (nI 24)] = some (some (.int (nI 114)), wn I L T U) := rfl
set_option maxRecDepth 100000 in
theorem sc_0_25 (I : Nat → Int32) (L : Nat → Int64) (T : Nat → Nat → Int32) (U : Nat → Nat → Int64) : f_J0_charAt_5068e (wn I L T U) [.ref 1000100, .int (nI 25)] = some (some (.int (nI 111)), wn I L T U) := rfl
set_option maxRecDepth 100000 in
theorem sc_0_26 (I : Nat → Int32) (L : Nat → Int64) (T : Nat → Nat → Int32) (U : Nat → Nat → Int64) : f_J0_charAt_5068e (wn I L T U) [.ref 1000100, .int (nI 26)] = some (some (.int (nI 108)), wn I L T U) := rfl
set_option maxRecDepth 100000 in
theorem sc_0_27 (I : Nat → Int32) (L : Nat → Int64) (T : Nat → Nat → Int32) (U : Nat → Nat → Int64) : f_J0_charAt_5068e (wn I L T U) [.ref 1000100, .int (nI 27)] = some (some (.int (nI 108)), wn I L T U) := rfl
set_option maxRecDepth 100000 in
theorem sc_0_28 (I : Nat → Int32) (L : Nat → Int64) (T : Nat → Nat → Int32) (U : Nat → Nat → Int64) : f_J0_charAt_5068e (wn I L T U) [.ref 1000100, .int (nI 28)] = some (some (.int (nI 32)), wn I L T U) := rfl
set_option maxRecDepth 100000 in
theorem sc_0_29 (I : Nat → Int32) (L : Nat → Int64) (T : Nat → Nat → Int32) (U : Nat → Nat → Int64) : f_J0_charAt_5068e (wn I L T U) [.ref 1000100, .int (nI 29)] = some (some (.int (nI 99)), wn I L T U) := rfl
set_option maxRecDepth 100000 in
theorem sc_0_30 (I : Nat → Int32) (L : Nat → Int64) (T : Nat → Nat → Int32) (U : Nat → Nat → Int64) : f_J0_charAt_5068e (wn I L T U) [.ref 1000100, .int (nI 30)] = some (some (.int (nI 108)), wn I L T U) := rfl
set_option maxRecDepth 100000 in
theorem sc_0_31 (I : Nat → Int32) (L : Nat → Int64) (T : Nat → Nat → Int32) (U : Nat → Nat → Int64) : f_J0_charAt_5068e (wn I L T U) [.ref 1000100, .int (nI 31)] = some (some (.int (nI 101)), wn I L T U) := rfl
set_option maxRecDepth 100000 in
theorem sc_0_32 (I : Nat → Int32) (L : Nat → Int64) (T : Nat → Nat → Int32) (U : Nat → Nat → Int64) : f_J0_charAt_5068e (wn I L T U) [.ref 1000100, .int (nI 32)] = some (some (.int (nI 97)), wn I L T U) := rfl
set_option maxRecDepth 100000 in
theorem sc_0_33 (I : Nat → Int32) (L : Nat → Int64) (T : Nat → Nat → Int32) (U : Nat → Nat → Int64) : f_J0_charAt_5068e (wn I L T U) [.ref 1000100, .int (nI 33)] = some (some (.int (nI 114)), wn I L T U) := rfl
set_option maxRecDepth 100000 in
theorem sc_0_34 (I : Nat → Int32) (L : Nat → Int64) (T : Nat → Nat → Int32) (U : Nat → Nat → Int64) : f_J0_charAt_5068e (wn I L T U) [.ref 1000100, .int (nI 34)] = some (some (.int (nI 32)), wn I L T U) := rfl
set_option maxRecDepth 100000 in
theorem sc_0_35 (I : Nat → Int32) (L : Nat → Int64) (T : Nat → Nat → Int32) (U : Nat → Nat → Int64) : f_J0_charAt_5068e (wn I L T U) [.ref 1000100, .int (nI 35)] = some (some (.int (nI 99)), wn I L T U) := rfl
set_option maxRecDepth 100000 in
theorem sc_0_36 (I : Nat → Int32) (L : Nat → Int64) (T : Nat → Nat → Int32) (U : Nat → Nat → Int64) : f_J0_charAt_5068e (wn I L T U) [.ref 1000100, .int (nI 36)] = some (some (.int (nI 111)), wn I L T U) := rfl
set_option maxRecDepth 100000 in
theorem sc_0_37 (I : Nat → Int32) (L : Nat → Int64) (T : Nat → Nat → Int32) (U : Nat → Nat → Int64) : f_J0_charAt_5068e (wn I L T U) [.ref 1000100, .int (nI 37)] = some (some (.int (nI 117)), wn I L T U) := rfl
set_option maxRecDepth 100000 in
theorem sc_0_38 (I : Nat → Int32) (L : Nat → Int64) (T : Nat → Nat → Int32) (U : Nat → Nat → Int64) : f_J0_charAt_5068e (wn I L T U) [.ref 1000100, .int (nI 38)] = some (some (.int (nI 110)), wn I L T U) := rfl
set_option maxRecDepth 100000 in
theorem sc_0_39 (I : Nat → Int32) (L : Nat → Int64) (T : Nat → Nat → Int32) (U : Nat → Nat → Int64) : f_J0_charAt_5068e (wn I L T U) [.ref 1000100, .int (nI 39)] = some (some (.int (nI 116)), wn I L T U) := rfl
set_option maxRecDepth 100000 in
theorem sc_0_40 (I : Nat → Int32) (L : Nat → Int64) (T : Nat → Nat → Int32) (U : Nat → Nat → Int64) : f_J0_charAt_5068e (wn I L T U) [.ref 1000100, .int (nI 40)] = some (some (.int (nI 32)), wn I L T U) := rfl
set_option maxRecDepth 100000 in
theorem sc_0_41 (I : Nat → Int32) (L : Nat → Int64) (T : Nat → Nat → Int32) (U : Nat → Nat → Int64) : f_J0_charAt_5068e (wn I L T U) [.ref 1000100, .int (nI 41)] = some (some (.int (nI 109)), wn I L T U) := rfl
set_option maxRecDepth 100000 in
theorem sc_0_42 (I : Nat → Int32) (L : Nat → Int64) (T : Nat → Nat → Int32) (U : Nat → Nat → Int64) : f_J0_charAt_5068e (wn I L T U) [.ref 1000100, .int (nI 42)] = some (some (.int (nI 97)), wn I L T U) := rfl
set_option maxRecDepth 100000 in
theorem sc_0_43 (I : Nat → Int32) (L : Nat → Int64) (T : Nat → Nat → Int32) (U : Nat → Nat → Int64) : f_J0_charAt_5068e (wn I L T U) [.ref 1000100, .int (nI 43)] = some (some (.int (nI 114)), wn I L T U) := rfl
set_option maxRecDepth 100000 in
theorem sc_0_44 (I : Nat → Int32) (L : Nat → Int64) (T : Nat → Nat → Int32) (U : Nat → Nat → Int64) : f_J0_charAt_5068e (wn I L T U) [.ref 1000100, .int (nI 44)] = some (some (.int (nI 107)), wn I L T U) := rfl
set_option maxRecDepth 100000 in
theorem sc_0_45 (I : Nat → Int32) (L : Nat → Int64) (T : Nat → Nat → Int32) (U : Nat → Nat → Int64) : f_J0_charAt_5068e (wn I L T U) [.ref 1000100, .int (nI 45)] = some (some (.int (nI 32)), wn I L T U) := rfl
set_option maxRecDepth 100000 in
theorem sc_0_46 (I : Nat → Int32) (L : Nat → Int64) (T : Nat → Nat → Int32) (U : Nat → Nat → Int64) : f_J0_charAt_5068e (wn I L T U) [.ref 1000100, .int (nI 46)] = some (some (.int (nI 91)), wn I L T U) := rfl
set_option maxRecDepth 100000 in
theorem sc_0_47 (I : Nat → Int32) (L : Nat → Int64) (T : Nat → Nat → Int32) (U : Nat → Nat → Int64) : f_J0_charAt_5068e (wn I L T U) [.ref 1000100, .int (nI 47)] = some (some (.int (nI 32)), wn I L T U) := rfl
set_option maxRecDepth 100000 in
theorem sc_0_48 (I : Nat → Int32) (L : Nat → Int64) (T : Nat → Nat → Int32) (U : Nat → Nat → Int64) : f_J0_charAt_5068e (wn I L T U) [.ref 1000100, .int (nI 48)] = some (some (.int (nI 60)), wn I L T U) := rfl
set_option maxRecDepth 100000 in
theorem sc_0_49 (I : Nat → Int32) (L : Nat → Int64) (T : Nat → Nat → Int32) (U : Nat → Nat → Int64) : f_J0_charAt_5068e (wn I L T U) [.ref 1000100, .int (nI 49)] = some (some (.int (nI 60)), wn I L T U) := rfl
set_option maxRecDepth 100000 in
theorem sc_0_50 (I : Nat → Int32) (L : Nat → Int64) (T : Nat → Nat → Int32) (U : Nat → Nat → Int64) : f_J0_charAt_5068e (wn I L T U) [.ref 1000100, .int (nI 50)] = some (some (.int (nI 32)), wn I L T U) := rfl
set_option maxRecDepth 100000 in
theorem sc_0_51 (I : Nat → Int32) (L : Nat → Int64) (T : Nat → Nat → Int32) (U : Nat → Nat → Int64) : f_J0_charAt_5068e (wn I L T U) [.ref 1000100, .int (nI 51)] = some (some (.int (nI 99)), wn I L T U) := rfl
set_option maxRecDepth 100000 in
theorem sc_0_52 (I : Nat → Int32) (L : Nat → Int64) (T : Nat → Nat → Int32) (U : Nat → Nat → Int64) : f_J0_charAt_5068e (wn I L T U) [.ref 1000100, .int (nI 52)] = some (some (.int (nI 108)), wn I L T U) := rfl
set_option maxRecDepth 100000 in
theorem sc_0_53 (I : Nat → Int32) (L : Nat → Int64) (T : Nat → Nat → Int32) (U : Nat → Nat → Int64) : f_J0_charAt_5068e (wn I L T U) [.ref 1000100, .int (nI 53)] = some (some (.int (nI 101)), wn I L T U) := rfl
set_option maxRecDepth 100000 in
theorem sc_0_54 (I : Nat → Int32) (L : Nat → Int64) (T : Nat → Nat → Int32) (U : Nat → Nat → Int64) : f_J0_charAt_5068e (wn I L T U) [.ref 1000100, .int (nI 54)] = some (some (.int (nI 97)), wn I L T U) := rfl
set_option maxRecDepth 100000 in
theorem sc_0_55 (I : Nat → Int32) (L : Nat → Int64) (T : Nat → Nat → Int32) (U : Nat → Nat → Int64) : f_J0_charAt_5068e (wn I L T U) [.ref 1000100, .int (nI 55)] = some (some (.int (nI 114)), wn I L T U) := rfl
set_option maxRecDepth 100000 in
theorem sc_0_56 (I : Nat → Int32) (L : Nat → Int64) (T : Nat → Nat → Int32) (U : Nat → Nat → Int64) : f_J0_charAt_5068e (wn I L T U) [.ref 1000100, .int (nI 56)] = some (some (.int (nI 116)), wn I L T U) := rfl
set_option maxRecDepth 100000 in
theorem sc_0_57 (I : Nat → Int32) (L : Nat → Int64) (T : Nat → Nat → Int32) (U : Nat → Nat → Int64) : f_J0_charAt_5068e (wn I L T U) [.ref 1000100, .int (nI 57)] = some (some (.int (nI 111)), wn I L T U) := rfl
set_option maxRecDepth 100000 in
theorem sc_0_58 (I : Nat → Int32) (L : Nat → Int64) (T : Nat → Nat → Int32) (U : Nat → Nat → Int64) : f_J0_charAt_5068e (wn I L T U) [.ref 1000100, .int (nI 58)] = some (some (.int (nI 109)), wn I L T U) := rfl
set_option maxRecDepth 100000 in
theorem sc_0_59 (I : Nat → Int32) (L : Nat → Int64) (T : Nat → Nat → Int32) (U : Nat → Nat → Int64) : f_J0_charAt_5068e (wn I L T U) [.ref 1000100, .int (nI 59)] = some (some (.int (nI 97)), wn I L T U) := rfl
set_option maxRecDepth 100000 in
theorem sc_0_60 (I : Nat → Int32) (L : Nat → Int64) (T : Nat → Nat → Int32) (U : Nat → Nat → Int64) : f_J0_charAt_5068e (wn I L T U) [.ref 1000100, .int (nI 60)] = some (some (.int (nI 114)), wn I L T U) := rfl
set_option maxRecDepth 100000 in
theorem sc_0_61 (I : Nat → Int32) (L : Nat → Int64) (T : Nat → Nat → Int32) (U : Nat → Nat → Int64) : f_J0_charAt_5068e (wn I L T U) [.ref 1000100, .int (nI 61)] = some (some (.int (nI 107)), wn I L T U) := rfl
set_option maxRecDepth 100000 in
theorem sc_0_62 (I : Nat → Int32) (L : Nat → Int64) (T : Nat → Nat → Int32) (U : Nat → Nat → Int64) : f_J0_charAt_5068e (wn I L T U) [.ref 1000100, .int (nI 62)] = some (some (.int (nI 32)), wn I L T U) := rfl
set_option maxRecDepth 100000 in
theorem sc_0_63 (I : Nat → Int32) (L : Nat → Int64) (T : Nat → Nat → Int32) (U : Nat → Nat → Int64) : f_J0_charAt_5068e (wn I L T U) [.ref 1000100, .int (nI 63)] = some (some (.int (nI 99)), wn I L T U) := rfl
set_option maxRecDepth 100000 in
theorem sc_0_64 (I : Nat → Int32) (L : Nat → Int64) (T : Nat → Nat → Int32) (U : Nat → Nat → Int64) : f_J0_charAt_5068e (wn I L T U) [.ref 1000100, .int (nI 64)] = some (some (.int (nI 111)), wn I L T U) := rfl
set_option maxRecDepth 100000 in
theorem sc_0_65 (I : Nat → Int32) (L : Nat → Int64) (T : Nat → Nat → Int32) (U : Nat → Nat → Int64) : f_J0_charAt_5068e (wn I L T U) [.ref 1000100, .int (nI 65)] = some (some (.int (nI 117)), wn I L T U) := rfl
set_option maxRecDepth 100000 in
theorem sc_0_66 (I : Nat → Int32) (L : Nat → Int64) (T : Nat → Nat → Int32) (U : Nat → Nat → Int64) : f_J0_charAt_5068e (wn I L T U) [.ref 1000100, .int (nI 66)] = some (some (.int (nI 110)), wn I L T U) := rfl
set_option maxRecDepth 100000 in
theorem sc_0_67 (I : Nat → Int32) (L : Nat → Int64) (T : Nat → Nat → Int32) (U : Nat → Nat → Int64) : f_J0_charAt_5068e (wn I L T U) [.ref 1000100, .int (nI 67)] = some (some (.int (nI 116)), wn I L T U) := rfl
set_option maxRecDepth 100000 in
theorem sc_0_68 (I : Nat → Int32) (L : Nat → Int64) (T : Nat → Nat → Int32) (U : Nat → Nat → Int64) : f_J0_charAt_5068e (wn I L T U) [.ref 1000100, .int (nI 68)] = some (some (.int (nI 116)), wn I L T U) := rfl
set_option maxRecDepth 100000 in
theorem sc_0_69 (I : Nat → Int32) (L : Nat → Int64) (T : Nat → Nat → Int32) (U : Nat → Nat → Int64) : f_J0_charAt_5068e (wn I L T U) [.ref 1000100, .int (nI 69)] = some (some (.int (nI 111)), wn I L T U) := rfl
set_option maxRecDepth 100000 in
theorem sc_0_70 (I : Nat → Int32) (L : Nat → Int64) (T : Nat → Nat → Int32) (U : Nat → Nat → Int64) : f_J0_charAt_5068e (wn I L T U) [.ref 1000100, .int (nI 70)] = some (some (.int (nI 109)), wn I L T U) := rfl
set_option maxRecDepth 100000 in
theorem sc_0_71 (I : Nat → Int32) (L : Nat → Int64) (T : Nat → Nat → Int32) (U : Nat → Nat → Int64) : f_J0_charAt_5068e (wn I L T U) [.ref 1000100, .int (nI 71)] = some (some (.int (nI 97)), wn I L T U) := rfl
set_option maxRecDepth 100000 in
theorem sc_0_72 (I : Nat → Int32) (L : Nat → Int64) (T : Nat → Nat → Int32) (U : Nat → Nat → Int64) : f_J0_charAt_5068e (wn I L T U) [.ref 1000100, .int (nI 72)] = some (some (.int (nI 114)), wn I L T U) := rfl
set_option maxRecDepth 100000 in
theorem sc_0_73 (I : Nat → Int32) (L : Nat → Int64) (T : Nat → Nat → Int32) (U : Nat → Nat → Int64) : f_J0_charAt_5068e (wn I L T U) [.ref 1000100, .int (nI 73)] = some (some (.int (nI 107)), wn I L T U) := rfl
set_option maxRecDepth 100000 in
theorem sc_0_74 (I : Nat → Int32) (L : Nat → Int64) (T : Nat → Nat → Int32) (U : Nat → Nat → Int64) : f_J0_charAt_5068e (wn I L T U) [.ref 1000100, .int (nI 74)] = some (some (.int (nI 32)), wn I L T U) := rfl
def ch_0 (k : Nat) : Nat := [112, 111, 112, 32, 101, 120, 99, 104, 32, 100, 117, 112, 32, 99, 111, 112, 121, 32, 105, 110, 100, 101, 120, 32, 114, 111, 108, 108, 32, 99, 108, 101, 97, 114, 32, 99, 111, 117, 110, 116, 32, 109, 97, 114, 107, 32, 91, 32, 60, 60, 32, 99, 108, 101, 97, 114, 116, 111, 109, 97, 114, 107, 32, 99, 111, 117, 110, 116, 116, 111, 109, 97, 114, 107, 32].getD k 0
set_option maxRecDepth 100000 in
theorem sc_0 {I : Nat → Int32} {L : Nat → Int64} {T : Nat → Nat → Int32} {U : Nat → Nat → Int64} : ∀ k, k < 75 → f_J0_charAt_5068e (wn I L T U) [.ref 1000100, .int (nI k)] = some (some (.int (nI (ch_0 k))), wn I L T U) := (al (al (al (al (al (al (al (al (al (al (al (al (al (al (al (al (al (al (al (al (al (al (al (al (al (al (al (al (al (al (al (al (al (al (al (al (al (al (al (al (al (al (al (al (al (al (al (al (al (al (al (al (al (al (al (al (al (al (al (al (al (al (al (al (al (al (al (al (al (al (al (al (al (al (al (fun k h => absurd h (Nat.not_lt_zero k)) (sc_0_0 I L T U)) (sc_0_1 I L T U)) (sc_0_2 I L T U)) (sc_0_3 I L T U)) (sc_0_4 I L T U)) (sc_0_5 I L T U)) (sc_0_6 I L T U)) (sc_0_7 I L T U)) (sc_0_8 I L T U)) (sc_0_9 I L T U)) (sc_0_10 I L T U)) (sc_0_11 I L T U)) (sc_0_12 I L T U)) (sc_0_13 I L T U)) (sc_0_14 I L T U)) (sc_0_15 I L T U)) (sc_0_16 I L T U)) (sc_0_17 I L T U)) (sc_0_18 I L T U)) (sc_0_19 I L T U)) (sc_0_20 I L T U)) (sc_0_21 I L T U)) (sc_0_22 I L T U)) (sc_0_23 I L T U)) (sc_0_24 I L T U)) (sc_0_25 I L T U)) (sc_0_26 I L T U)) (sc_0_27 I L T U)) (sc_0_28 I L T U)) (sc_0_29 I L T U)) (sc_0_30 I L T U)) (sc_0_31 I L T U)) (sc_0_32 I L T U)) (sc_0_33 I L T U)) (sc_0_34 I L T U)) (sc_0_35 I L T U)) (sc_0_36 I L T U)) (sc_0_37 I L T U)) (sc_0_38 I L T U)) (sc_0_39 I L T U)) (sc_0_40 I L T U)) (sc_0_41 I L T U)) (sc_0_42 I L T U)) (sc_0_43 I L T U)) (sc_0_44 I L T U)) (sc_0_45 I L T U)) (sc_0_46 I L T U)) (sc_0_47 I L T U)) (sc_0_48 I L T U)) (sc_0_49 I L T U)) (sc_0_50 I L T U)) (sc_0_51 I L T U)) (sc_0_52 I L T U)) (sc_0_53 I L T U)) (sc_0_54 I L T U)) (sc_0_55 I L T U)) (sc_0_56 I L T U)) (sc_0_57 I L T U)) (sc_0_58 I L T U)) (sc_0_59 I L T U)) (sc_0_60 I L T U)) (sc_0_61 I L T U)) (sc_0_62 I L T U)) (sc_0_63 I L T U)) (sc_0_64 I L T U)) (sc_0_65 I L T U)) (sc_0_66 I L T U)) (sc_0_67 I L T U)) (sc_0_68 I L T U)) (sc_0_69 I L T U)) (sc_0_70 I L T U)) (sc_0_71 I L T U)) (sc_0_72 I L T U)) (sc_0_73 I L T U)) (sc_0_74 I L T U))
set_option maxRecDepth 100000 in
theorem sc_1_0 (I : Nat → Int32) (L : Nat → Int64) (T : Nat → Nat → Int32) (U : Nat → Nat → Int64) : f_J0_charAt_5068e (wn I L T U) [.ref 1000101, .int (nI 0)] = some (some (.int (nI 97)), wn I L T U) := rfl
set_option maxRecDepth 100000 in
theorem sc_1_1 (I : Nat → Int32) (L : Nat → Int64) (T : Nat → Nat → Int32) (U : Nat → Nat → Int64) : f_J0_charAt_5068e (wn I L T U) [.ref 1000101, .int (nI 1)] = some (some (.int (nI 100)), wn I L T U) := rfl
set_option maxRecDepth 100000 in
theorem sc_1_2 (I : Nat → Int32) (L : Nat → Int64) (T : Nat → Nat → Int32) (U : Nat → Nat → Int64) : f_J0_charAt_5068e (wn I L T U) [.ref 1000101, .int (nI 2)] = some (some (.int (nI 100)), wn I L T U) := rfl
set_option maxRecDepth 100000 in
theorem sc_1_3 (I : Nat → Int32) (L : Nat → Int64) (T : Nat → Nat → Int32) (U : Nat → Nat → Int64) : f_J0_charAt_5068e (wn I L T U) [.ref 1000101, .int (nI 3)] = some (some (.int (nI 32)), wn I L T U) := rfl
set_option maxRecDepth 100000 in
theorem sc_1_4 (I : Nat → Int32) (L : Nat → Int64) (T : Nat → Nat → Int32) (U : Nat → Nat → Int64) : f_J0_charAt_5068e (wn I L T U) [.ref 1000101, .int (nI 4)] = some (some (.int (nI 115)), wn I L T U) := rfl
set_option maxRecDepth 100000 in
theorem sc_1_5 (I : Nat → Int32) (L : Nat → Int64) (T : Nat → Nat → Int32) (U : Nat → Nat → Int64) : f_J0_charAt_5068e (wn I L T U) [.ref 1000101, .int (nI 5)] = some (some (.int (nI 117)), wn I L T U) := rfl
set_option maxRecDepth 100000 in
theorem sc_1_6 (I : Nat → Int32) (L : Nat → Int64) (T : Nat → Nat → Int32) (U : Nat → Nat → Int64) : f_J0_charAt_5068e (wn I L T U) [.ref 1000101, .int (nI 6)] = some (some (.int (nI 98)), wn I L T U) := rfl
set_option maxRecDepth 100000 in
theorem sc_1_7 (I : Nat → Int32) (L : Nat → Int64) (T : Nat → Nat → Int32) (U : Nat → Nat → Int64) : f_J0_charAt_5068e (wn I L T U) [.ref 1000101, .int (nI 7)] = some (some (.int (nI 32)), wn I L T U) := rfl
set_option maxRecDepth 100000 in
theorem sc_1_8 (I : Nat → Int32) (L : Nat → Int64) (T : Nat → Nat → Int32) (U : Nat → Nat → Int64) : f_J0_charAt_5068e (wn I L T U) [.ref 1000101, .int (nI 8)] = some (some (.int (nI 109)), wn I L T U) := rfl
set_option maxRecDepth 100000 in
theorem sc_1_9 (I : Nat → Int32) (L : Nat → Int64) (T : Nat → Nat → Int32) (U : Nat → Nat → Int64) : f_J0_charAt_5068e (wn I L T U) [.ref 1000101, .int (nI 9)] = some (some (.int (nI 117)), wn I L T U) := rfl
set_option maxRecDepth 100000 in
theorem sc_1_10 (I : Nat → Int32) (L : Nat → Int64) (T : Nat → Nat → Int32) (U : Nat → Nat → Int64) : f_J0_charAt_5068e (wn I L T U) [.ref 1000101, .int (nI 10)] = some (some (.int (nI 108)), wn I L T U) := rfl
set_option maxRecDepth 100000 in
theorem sc_1_11 (I : Nat → Int32) (L : Nat → Int64) (T : Nat → Nat → Int32) (U : Nat → Nat → Int64) : f_J0_charAt_5068e (wn I L T U) [.ref 1000101, .int (nI 11)] = some (some (.int (nI 32)), wn I L T U) := rfl
set_option maxRecDepth 100000 in
theorem sc_1_12 (I : Nat → Int32) (L : Nat → Int64) (T : Nat → Nat → Int32) (U : Nat → Nat → Int64) : f_J0_charAt_5068e (wn I L T U) [.ref 1000101, .int (nI 12)] = some (some (.int (nI 105)), wn I L T U) := rfl
set_option maxRecDepth 100000 in
theorem sc_1_13 (I : Nat → Int32) (L : Nat → Int64) (T : Nat → Nat → Int32) (U : Nat → Nat → Int64) : f_J0_charAt_5068e (wn I L T U) [.ref 1000101, .int (nI 13)] = some (some (.int (nI 100)), wn I L T U) := rfl
set_option maxRecDepth 100000 in
theorem sc_1_14 (I : Nat → Int32) (L : Nat → Int64) (T : Nat → Nat → Int32) (U : Nat → Nat → Int64) : f_J0_charAt_5068e (wn I L T U) [.ref 1000101, .int (nI 14)] = some (some (.int (nI 105)), wn I L T U) := rfl
set_option maxRecDepth 100000 in
theorem sc_1_15 (I : Nat → Int32) (L : Nat → Int64) (T : Nat → Nat → Int32) (U : Nat → Nat → Int64) : f_J0_charAt_5068e (wn I L T U) [.ref 1000101, .int (nI 15)] = some (some (.int (nI 118)), wn I L T U) := rfl
set_option maxRecDepth 100000 in
theorem sc_1_16 (I : Nat → Int32) (L : Nat → Int64) (T : Nat → Nat → Int32) (U : Nat → Nat → Int64) : f_J0_charAt_5068e (wn I L T U) [.ref 1000101, .int (nI 16)] = some (some (.int (nI 32)), wn I L T U) := rfl
set_option maxRecDepth 100000 in
theorem sc_1_17 (I : Nat → Int32) (L : Nat → Int64) (T : Nat → Nat → Int32) (U : Nat → Nat → Int64) : f_J0_charAt_5068e (wn I L T U) [.ref 1000101, .int (nI 17)] = some (some (.int (nI 109)), wn I L T U) := rfl
set_option maxRecDepth 100000 in
theorem sc_1_18 (I : Nat → Int32) (L : Nat → Int64) (T : Nat → Nat → Int32) (U : Nat → Nat → Int64) : f_J0_charAt_5068e (wn I L T U) [.ref 1000101, .int (nI 18)] = some (some (.int (nI 111)), wn I L T U) := rfl
set_option maxRecDepth 100000 in
theorem sc_1_19 (I : Nat → Int32) (L : Nat → Int64) (T : Nat → Nat → Int32) (U : Nat → Nat → Int64) : f_J0_charAt_5068e (wn I L T U) [.ref 1000101, .int (nI 19)] = some (some (.int (nI 100)), wn I L T U) := rfl
set_option maxRecDepth 100000 in
theorem sc_1_20 (I : Nat → Int32) (L : Nat → Int64) (T : Nat → Nat → Int32) (U : Nat → Nat → Int64) : f_J0_charAt_5068e (wn I L T U) [.ref 1000101, .int (nI 20)] = some (some (.int (nI 32)), wn I L T U) := rfl
set_option maxRecDepth 100000 in
theorem sc_1_21 (I : Nat → Int32) (L : Nat → Int64) (T : Nat → Nat → Int32) (U : Nat → Nat → Int64) : f_J0_charAt_5068e (wn I L T U) [.ref 1000101, .int (nI 21)] = some (some (.int (nI 110)), wn I L T U) := rfl
set_option maxRecDepth 100000 in
theorem sc_1_22 (I : Nat → Int32) (L : Nat → Int64) (T : Nat → Nat → Int32) (U : Nat → Nat → Int64) : f_J0_charAt_5068e (wn I L T U) [.ref 1000101, .int (nI 22)] = some (some (.int (nI 101)), wn I L T U) := rfl
set_option maxRecDepth 100000 in
theorem sc_1_23 (I : Nat → Int32) (L : Nat → Int64) (T : Nat → Nat → Int32) (U : Nat → Nat → Int64) : f_J0_charAt_5068e (wn I L T U) [.ref 1000101, .int (nI 23)] = some (some (.int (nI 103)), wn I L T U) := rfl
set_option maxRecDepth 100000 in
theorem sc_1_24 (I : Nat → Int32) (L : Nat → Int64) (T : Nat → Nat → Int32) (U : Nat → Nat → Int64) : f_J0_charAt_5068e (wn I L T U) [.ref 1000101, .int (nI 24)] = some (some (.int (nI 32)), wn I L T U) := rfl
set_option maxRecDepth 100000 in
theorem sc_1_25 (I : Nat → Int32) (L : Nat → Int64) (T : Nat → Nat → Int32) (U : Nat → Nat → Int64) : f_J0_charAt_5068e (wn I L T U) [.ref 1000101, .int (nI 25)] = some (some (.int (nI 97)), wn I L T U) := rfl
set_option maxRecDepth 100000 in
theorem sc_1_26 (I : Nat → Int32) (L : Nat → Int64) (T : Nat → Nat → Int32) (U : Nat → Nat → Int64) : f_J0_charAt_5068e (wn I L T U) [.ref 1000101, .int (nI 26)] = some (some (.int (nI 98)), wn I L T U) := rfl
set_option maxRecDepth 100000 in
theorem sc_1_27 (I : Nat → Int32) (L : Nat → Int64) (T : Nat → Nat → Int32) (U : Nat → Nat → Int64) : f_J0_charAt_5068e (wn I L T U) [.ref 1000101, .int (nI 27)] = some (some (.int (nI 115)), wn I L T U) := rfl
set_option maxRecDepth 100000 in
theorem sc_1_28 (I : Nat → Int32) (L : Nat → Int64) (T : Nat → Nat → Int32) (U : Nat → Nat → Int64) : f_J0_charAt_5068e (wn I L T U) [.ref 1000101, .int (nI 28)] = some (some (.int (nI 32)), wn I L T U) := rfl
set_option maxRecDepth 100000 in
theorem sc_1_29 (I : Nat → Int32) (L : Nat → Int64) (T : Nat → Nat → Int32) (U : Nat → Nat → Int64) : f_J0_charAt_5068e (wn I L T U) [.ref 1000101, .int (nI 29)] = some (some (.int (nI 101)), wn I L T U) := rfl
set_option maxRecDepth 100000 in
theorem sc_1_30 (I : Nat → Int32) (L : Nat → Int64) (T : Nat → Nat → Int32) (U : Nat → Nat → Int64) : f_J0_charAt_5068e (wn I L T U) [.ref 1000101, .int (nI 30)] = some (some (.int (nI 113)), wn I L T U) := rfl
set_option maxRecDepth 100000 in
theorem sc_1_31 (I : Nat → Int32) (L : Nat → Int64) (T : Nat → Nat → Int32) (U : Nat → Nat → Int64) : f_J0_charAt_5068e (wn I L T U) [.ref 1000101, .int (nI 31)] = some (some (.int (nI 32)), wn I L T U) := rfl
set_option maxRecDepth 100000 in
theorem sc_1_32 (I : Nat → Int32) (L : Nat → Int64) (T : Nat → Nat → Int32) (U : Nat → Nat → Int64) : f_J0_charAt_5068e (wn I L T U) [.ref 1000101, .int (nI 32)] = some (some (.int (nI 110)), wn I L T U) := rfl
set_option maxRecDepth 100000 in
theorem sc_1_33 (I : Nat → Int32) (L : Nat → Int64) (T : Nat → Nat → Int32) (U : Nat → Nat → Int64) : f_J0_charAt_5068e (wn I L T U) [.ref 1000101, .int (nI 33)] = some (some (.int (nI 101)), wn I L T U) := rfl
set_option maxRecDepth 100000 in
theorem sc_1_34 (I : Nat → Int32) (L : Nat → Int64) (T : Nat → Nat → Int32) (U : Nat → Nat → Int64) : f_J0_charAt_5068e (wn I L T U) [.ref 1000101, .int (nI 34)] = some (some (.int (nI 32)), wn I L T U) := rfl
set_option maxRecDepth 100000 in
theorem sc_1_35 (I : Nat → Int32) (L : Nat → Int64) (T : Nat → Nat → Int32) (U : Nat → Nat → Int64) : f_J0_charAt_5068e (wn I L T U) [.ref 1000101, .int (nI 35)] = some (some (.int (nI 108)), wn I L T U) := rfl
set_option maxRecDepth 100000 in
theorem sc_1_36 (I : Nat → Int32) (L : Nat → Int64) (T : Nat → Nat → Int32) (U : Nat → Nat → Int64) : f_J0_charAt_5068e (wn I L T U) [.ref 1000101, .int (nI 36)] = some (some (.int (nI 116)), wn I L T U) := rfl
set_option maxRecDepth 100000 in
theorem sc_1_37 (I : Nat → Int32) (L : Nat → Int64) (T : Nat → Nat → Int32) (U : Nat → Nat → Int64) : f_J0_charAt_5068e (wn I L T U) [.ref 1000101, .int (nI 37)] = some (some (.int (nI 32)), wn I L T U) := rfl
set_option maxRecDepth 100000 in
theorem sc_1_38 (I : Nat → Int32) (L : Nat → Int64) (T : Nat → Nat → Int32) (U : Nat → Nat → Int64) : f_J0_charAt_5068e (wn I L T U) [.ref 1000101, .int (nI 38)] = some (some (.int (nI 108)), wn I L T U) := rfl
set_option maxRecDepth 100000 in
theorem sc_1_39 (I : Nat → Int32) (L : Nat → Int64) (T : Nat → Nat → Int32) (U : Nat → Nat → Int64) : f_J0_charAt_5068e (wn I L T U) [.ref 1000101, .int (nI 39)] = some (some (.int (nI 101)), wn I L T U) := rfl
set_option maxRecDepth 100000 in
theorem sc_1_40 (I : Nat → Int32) (L : Nat → Int64) (T : Nat → Nat → Int32) (U : Nat → Nat → Int64) : f_J0_charAt_5068e (wn I L T U) [.ref 1000101, .int (nI 40)] = some (some (.int (nI 32)), wn I L T U) := rfl
set_option maxRecDepth 100000 in
theorem sc_1_41 (I : Nat → Int32) (L : Nat → Int64) (T : Nat → Nat → Int32) (U : Nat → Nat → Int64) : f_J0_charAt_5068e (wn I L T U) [.ref 1000101, .int (nI 41)] = some (some (.int (nI 103)), wn I L T U) := rfl
set_option maxRecDepth 100000 in
theorem sc_1_42 (I : Nat → Int32) (L : Nat → Int64) (T : Nat → Nat → Int32) (U : Nat → Nat → Int64) : f_J0_charAt_5068e (wn I L T U) [.ref 1000101, .int (nI 42)] = some (some (.int (nI 116)), wn I L T U) := rfl
set_option maxRecDepth 100000 in
theorem sc_1_43 (I : Nat → Int32) (L : Nat → Int64) (T : Nat → Nat → Int32) (U : Nat → Nat → Int64) : f_J0_charAt_5068e (wn I L T U) [.ref 1000101, .int (nI 43)] = some (some (.int (nI 32)), wn I L T U) := rfl
set_option maxRecDepth 100000 in
theorem sc_1_44 (I : Nat → Int32) (L : Nat → Int64) (T : Nat → Nat → Int32) (U : Nat → Nat → Int64) : f_J0_charAt_5068e (wn I L T U) [.ref 1000101, .int (nI 44)] = some (some (.int (nI 103)), wn I L T U) := rfl
set_option maxRecDepth 100000 in
theorem sc_1_45 (I : Nat → Int32) (L : Nat → Int64) (T : Nat → Nat → Int32) (U : Nat → Nat → Int64) : f_J0_charAt_5068e (wn I L T U) [.ref 1000101, .int (nI 45)] = some (some (.int (nI 101)), wn I L T U) := rfl
set_option maxRecDepth 100000 in
theorem sc_1_46 (I : Nat → Int32) (L : Nat → Int64) (T : Nat → Nat → Int32) (U : Nat → Nat → Int64) : f_J0_charAt_5068e (wn I L T U) [.ref 1000101, .int (nI 46)] = some (some (.int (nI 32)), wn I L T U) := rfl
set_option maxRecDepth 100000 in
theorem sc_1_47 (I : Nat → Int32) (L : Nat → Int64) (T : Nat → Nat → Int32) (U : Nat → Nat → Int64) : f_J0_charAt_5068e (wn I L T U) [.ref 1000101, .int (nI 47)] = some (some (.int (nI 97)), wn I L T U) := rfl
set_option maxRecDepth 100000 in
theorem sc_1_48 (I : Nat → Int32) (L : Nat → Int64) (T : Nat → Nat → Int32) (U : Nat → Nat → Int64) : f_J0_charAt_5068e (wn I L T U) [.ref 1000101, .int (nI 48)] = some (some (.int (nI 110)), wn I L T U) := rfl
set_option maxRecDepth 100000 in
theorem sc_1_49 (I : Nat → Int32) (L : Nat → Int64) (T : Nat → Nat → Int32) (U : Nat → Nat → Int64) : f_J0_charAt_5068e (wn I L T U) [.ref 1000101, .int (nI 49)] = some (some (.int (nI 100)), wn I L T U) := rfl
set_option maxRecDepth 100000 in
theorem sc_1_50 (I : Nat → Int32) (L : Nat → Int64) (T : Nat → Nat → Int32) (U : Nat → Nat → Int64) : f_J0_charAt_5068e (wn I L T U) [.ref 1000101, .int (nI 50)] = some (some (.int (nI 32)), wn I L T U) := rfl
set_option maxRecDepth 100000 in
theorem sc_1_51 (I : Nat → Int32) (L : Nat → Int64) (T : Nat → Nat → Int32) (U : Nat → Nat → Int64) : f_J0_charAt_5068e (wn I L T U) [.ref 1000101, .int (nI 51)] = some (some (.int (nI 111)), wn I L T U) := rfl
set_option maxRecDepth 100000 in
theorem sc_1_52 (I : Nat → Int32) (L : Nat → Int64) (T : Nat → Nat → Int32) (U : Nat → Nat → Int64) : f_J0_charAt_5068e (wn I L T U) [.ref 1000101, .int (nI 52)] = some (some (.int (nI 114)), wn I L T U) := rfl
set_option maxRecDepth 100000 in
theorem sc_1_53 (I : Nat → Int32) (L : Nat → Int64) (T : Nat → Nat → Int32) (U : Nat → Nat → Int64) : f_J0_charAt_5068e (wn I L T U) [.ref 1000101, .int (nI 53)] = some (some (.int (nI 32)), wn I L T U) := rfl
set_option maxRecDepth 100000 in
theorem sc_1_54 (I : Nat → Int32) (L : Nat → Int64) (T : Nat → Nat → Int32) (U : Nat → Nat → Int64) : f_J0_charAt_5068e (wn I L T U) [.ref 1000101, .int (nI 54)] = some (some (.int (nI 120)), wn I L T U) := rfl
set_option maxRecDepth 100000 in
theorem sc_1_55 (I : Nat → Int32) (L : Nat → Int64) (T : Nat → Nat → Int32) (U : Nat → Nat → Int64) : f_J0_charAt_5068e (wn I L T U) [.ref 1000101, .int (nI 55)] = some (some (.int (nI 111)), wn I L T U) := rfl
set_option maxRecDepth 100000 in
theorem sc_1_56 (I : Nat → Int32) (L : Nat → Int64) (T : Nat → Nat → Int32) (U : Nat → Nat → Int64) : f_J0_charAt_5068e (wn I L T U) [.ref 1000101, .int (nI 56)] = some (some (.int (nI 114)), wn I L T U) := rfl
set_option maxRecDepth 100000 in
theorem sc_1_57 (I : Nat → Int32) (L : Nat → Int64) (T : Nat → Nat → Int32) (U : Nat → Nat → Int64) : f_J0_charAt_5068e (wn I L T U) [.ref 1000101, .int (nI 57)] = some (some (.int (nI 32)), wn I L T U) := rfl
set_option maxRecDepth 100000 in
theorem sc_1_58 (I : Nat → Int32) (L : Nat → Int64) (T : Nat → Nat → Int32) (U : Nat → Nat → Int64) : f_J0_charAt_5068e (wn I L T U) [.ref 1000101, .int (nI 58)] = some (some (.int (nI 110)), wn I L T U) := rfl
set_option maxRecDepth 100000 in
theorem sc_1_59 (I : Nat → Int32) (L : Nat → Int64) (T : Nat → Nat → Int32) (U : Nat → Nat → Int64) : f_J0_charAt_5068e (wn I L T U) [.ref 1000101, .int (nI 59)] = some (some (.int (nI 111)), wn I L T U) := rfl
set_option maxRecDepth 100000 in
theorem sc_1_60 (I : Nat → Int32) (L : Nat → Int64) (T : Nat → Nat → Int32) (U : Nat → Nat → Int64) : f_J0_charAt_5068e (wn I L T U) [.ref 1000101, .int (nI 60)] = some (some (.int (nI 116)), wn I L T U) := rfl
set_option maxRecDepth 100000 in
theorem sc_1_61 (I : Nat → Int32) (L : Nat → Int64) (T : Nat → Nat → Int32) (U : Nat → Nat → Int64) : f_J0_charAt_5068e (wn I L T U) [.ref 1000101, .int (nI 61)] = some (some (.int (nI 32)), wn I L T U) := rfl
def ch_1 (k : Nat) : Nat := [97, 100, 100, 32, 115, 117, 98, 32, 109, 117, 108, 32, 105, 100, 105, 118, 32, 109, 111, 100, 32, 110, 101, 103, 32, 97, 98, 115, 32, 101, 113, 32, 110, 101, 32, 108, 116, 32, 108, 101, 32, 103, 116, 32, 103, 101, 32, 97, 110, 100, 32, 111, 114, 32, 120, 111, 114, 32, 110, 111, 116, 32].getD k 0
set_option maxRecDepth 100000 in
theorem sc_1 {I : Nat → Int32} {L : Nat → Int64} {T : Nat → Nat → Int32} {U : Nat → Nat → Int64} : ∀ k, k < 62 → f_J0_charAt_5068e (wn I L T U) [.ref 1000101, .int (nI k)] = some (some (.int (nI (ch_1 k))), wn I L T U) := (al (al (al (al (al (al (al (al (al (al (al (al (al (al (al (al (al (al (al (al (al (al (al (al (al (al (al (al (al (al (al (al (al (al (al (al (al (al (al (al (al (al (al (al (al (al (al (al (al (al (al (al (al (al (al (al (al (al (al (al (al (al (fun k h => absurd h (Nat.not_lt_zero k)) (sc_1_0 I L T U)) (sc_1_1 I L T U)) (sc_1_2 I L T U)) (sc_1_3 I L T U)) (sc_1_4 I L T U)) (sc_1_5 I L T U)) (sc_1_6 I L T U)) (sc_1_7 I L T U)) (sc_1_8 I L T U)) (sc_1_9 I L T U)) (sc_1_10 I L T U)) (sc_1_11 I L T U)) (sc_1_12 I L T U)) (sc_1_13 I L T U)) (sc_1_14 I L T U)) (sc_1_15 I L T U)) (sc_1_16 I L T U)) (sc_1_17 I L T U)) (sc_1_18 I L T U)) (sc_1_19 I L T U)) (sc_1_20 I L T U)) (sc_1_21 I L T U)) (sc_1_22 I L T U)) (sc_1_23 I L T U)) (sc_1_24 I L T U)) (sc_1_25 I L T U)) (sc_1_26 I L T U)) (sc_1_27 I L T U)) (sc_1_28 I L T U)) (sc_1_29 I L T U)) (sc_1_30 I L T U)) (sc_1_31 I L T U)) (sc_1_32 I L T U)) (sc_1_33 I L T U)) (sc_1_34 I L T U)) (sc_1_35 I L T U)) (sc_1_36 I L T U)) (sc_1_37 I L T U)) (sc_1_38 I L T U)) (sc_1_39 I L T U)) (sc_1_40 I L T U)) (sc_1_41 I L T U)) (sc_1_42 I L T U)) (sc_1_43 I L T U)) (sc_1_44 I L T U)) (sc_1_45 I L T U)) (sc_1_46 I L T U)) (sc_1_47 I L T U)) (sc_1_48 I L T U)) (sc_1_49 I L T U)) (sc_1_50 I L T U)) (sc_1_51 I L T U)) (sc_1_52 I L T U)) (sc_1_53 I L T U)) (sc_1_54 I L T U)) (sc_1_55 I L T U)) (sc_1_56 I L T U)) (sc_1_57 I L T U)) (sc_1_58 I L T U)) (sc_1_59 I L T U)) (sc_1_60 I L T U)) (sc_1_61 I L T U))
set_option maxRecDepth 100000 in
theorem sc_2_0 (I : Nat → Int32) (L : Nat → Int64) (T : Nat → Nat → Int32) (U : Nat → Nat → Int64) : f_J0_charAt_5068e (wn I L T U) [.ref 1000102, .int (nI 0)] = some (some (.int (nI 116)), wn I L T U) := rfl
set_option maxRecDepth 100000 in
theorem sc_2_1 (I : Nat → Int32) (L : Nat → Int64) (T : Nat → Nat → Int32) (U : Nat → Nat → Int64) : f_J0_charAt_5068e (wn I L T U) [.ref 1000102, .int (nI 1)] = some (some (.int (nI 114)), wn I L T U) := rfl
set_option maxRecDepth 100000 in
theorem sc_2_2 (I : Nat → Int32) (L : Nat → Int64) (T : Nat → Nat → Int32) (U : Nat → Nat → Int64) : f_J0_charAt_5068e (wn I L T U) [.ref 1000102, .int (nI 2)] = some (some (.int (nI 117)), wn I L T U) := rfl
set_option maxRecDepth 100000 in
theorem sc_2_3 (I : Nat → Int32) (L : Nat → Int64) (T : Nat → Nat → Int32) (U : Nat → Nat → Int64) : f_J0_charAt_5068e (wn I L T U) [.ref 1000102, .int (nI 3)] = some (some (.int (nI 101)), wn I L T U) := rfl
set_option maxRecDepth 100000 in
theorem sc_2_4 (I : Nat → Int32) (L : Nat → Int64) (T : Nat → Nat → Int32) (U : Nat → Nat → Int64) : f_J0_charAt_5068e (wn I L T U) [.ref 1000102, .int (nI 4)] = some (some (.int (nI 32)), wn I L T U) := rfl
set_option maxRecDepth 100000 in
theorem sc_2_5 (I : Nat → Int32) (L : Nat → Int64) (T : Nat → Nat → Int32) (U : Nat → Nat → Int64) : f_J0_charAt_5068e (wn I L T U) [.ref 1000102, .int (nI 5)] = some (some (.int (nI 102)), wn I L T U) := rfl
set_option maxRecDepth 100000 in
theorem sc_2_6 (I : Nat → Int32) (L : Nat → Int64) (T : Nat → Nat → Int32) (U : Nat → Nat → Int64) : f_J0_charAt_5068e (wn I L T U) [.ref 1000102, .int (nI 6)] = some (some (.int (nI 97)), wn I L T U) := rfl
set_option maxRecDepth 100000 in
theorem sc_2_7 (I : Nat → Int32) (L : Nat → Int64) (T : Nat → Nat → Int32) (U : Nat → Nat → Int64) : f_J0_charAt_5068e (wn I L T U) [.ref 1000102, .int (nI 7)] = some (some (.int (nI 108)), wn I L T U) := rfl
set_option maxRecDepth 100000 in
theorem sc_2_8 (I : Nat → Int32) (L : Nat → Int64) (T : Nat → Nat → Int32) (U : Nat → Nat → Int64) : f_J0_charAt_5068e (wn I L T U) [.ref 1000102, .int (nI 8)] = some (some (.int (nI 115)), wn I L T U) := rfl
set_option maxRecDepth 100000 in
theorem sc_2_9 (I : Nat → Int32) (L : Nat → Int64) (T : Nat → Nat → Int32) (U : Nat → Nat → Int64) : f_J0_charAt_5068e (wn I L T U) [.ref 1000102, .int (nI 9)] = some (some (.int (nI 101)), wn I L T U) := rfl
set_option maxRecDepth 100000 in
theorem sc_2_10 (I : Nat → Int32) (L : Nat → Int64) (T : Nat → Nat → Int32) (U : Nat → Nat → Int64) : f_J0_charAt_5068e (wn I L T U) [.ref 1000102, .int (nI 10)] = some (some (.int (nI 32)), wn I L T U) := rfl
set_option maxRecDepth 100000 in
theorem sc_2_11 (I : Nat → Int32) (L : Nat → Int64) (T : Nat → Nat → Int32) (U : Nat → Nat → Int64) : f_J0_charAt_5068e (wn I L T U) [.ref 1000102, .int (nI 11)] = some (some (.int (nI 110)), wn I L T U) := rfl
set_option maxRecDepth 100000 in
theorem sc_2_12 (I : Nat → Int32) (L : Nat → Int64) (T : Nat → Nat → Int32) (U : Nat → Nat → Int64) : f_J0_charAt_5068e (wn I L T U) [.ref 1000102, .int (nI 12)] = some (some (.int (nI 117)), wn I L T U) := rfl
set_option maxRecDepth 100000 in
theorem sc_2_13 (I : Nat → Int32) (L : Nat → Int64) (T : Nat → Nat → Int32) (U : Nat → Nat → Int64) : f_J0_charAt_5068e (wn I L T U) [.ref 1000102, .int (nI 13)] = some (some (.int (nI 108)), wn I L T U) := rfl
set_option maxRecDepth 100000 in
theorem sc_2_14 (I : Nat → Int32) (L : Nat → Int64) (T : Nat → Nat → Int32) (U : Nat → Nat → Int64) : f_J0_charAt_5068e (wn I L T U) [.ref 1000102, .int (nI 14)] = some (some (.int (nI 108)), wn I L T U) := rfl
set_option maxRecDepth 100000 in
theorem sc_2_15 (I : Nat → Int32) (L : Nat → Int64) (T : Nat → Nat → Int32) (U : Nat → Nat → Int64) : f_J0_charAt_5068e (wn I L T U) [.ref 1000102, .int (nI 15)] = some (some (.int (nI 32)), wn I L T U) := rfl
set_option maxRecDepth 100000 in
theorem sc_2_16 (I : Nat → Int32) (L : Nat → Int64) (T : Nat → Nat → Int32) (U : Nat → Nat → Int64) : f_J0_charAt_5068e (wn I L T U) [.ref 1000102, .int (nI 16)] = some (some (.int (nI 97)), wn I L T U) := rfl
set_option maxRecDepth 100000 in
theorem sc_2_17 (I : Nat → Int32) (L : Nat → Int64) (T : Nat → Nat → Int32) (U : Nat → Nat → Int64) : f_J0_charAt_5068e (wn I L T U) [.ref 1000102, .int (nI 17)] = some (some (.int (nI 114)), wn I L T U) := rfl
set_option maxRecDepth 100000 in
theorem sc_2_18 (I : Nat → Int32) (L : Nat → Int64) (T : Nat → Nat → Int32) (U : Nat → Nat → Int64) : f_J0_charAt_5068e (wn I L T U) [.ref 1000102, .int (nI 18)] = some (some (.int (nI 114)), wn I L T U) := rfl
set_option maxRecDepth 100000 in
theorem sc_2_19 (I : Nat → Int32) (L : Nat → Int64) (T : Nat → Nat → Int32) (U : Nat → Nat → Int64) : f_J0_charAt_5068e (wn I L T U) [.ref 1000102, .int (nI 19)] = some (some (.int (nI 97)), wn I L T U) := rfl
set_option maxRecDepth 100000 in
theorem sc_2_20 (I : Nat → Int32) (L : Nat → Int64) (T : Nat → Nat → Int32) (U : Nat → Nat → Int64) : f_J0_charAt_5068e (wn I L T U) [.ref 1000102, .int (nI 20)] = some (some (.int (nI 121)), wn I L T U) := rfl
set_option maxRecDepth 100000 in
theorem sc_2_21 (I : Nat → Int32) (L : Nat → Int64) (T : Nat → Nat → Int32) (U : Nat → Nat → Int64) : f_J0_charAt_5068e (wn I L T U) [.ref 1000102, .int (nI 21)] = some (some (.int (nI 32)), wn I L T U) := rfl
set_option maxRecDepth 100000 in
theorem sc_2_22 (I : Nat → Int32) (L : Nat → Int64) (T : Nat → Nat → Int32) (U : Nat → Nat → Int64) : f_J0_charAt_5068e (wn I L T U) [.ref 1000102, .int (nI 22)] = some (some (.int (nI 115)), wn I L T U) := rfl
set_option maxRecDepth 100000 in
theorem sc_2_23 (I : Nat → Int32) (L : Nat → Int64) (T : Nat → Nat → Int32) (U : Nat → Nat → Int64) : f_J0_charAt_5068e (wn I L T U) [.ref 1000102, .int (nI 23)] = some (some (.int (nI 116)), wn I L T U) := rfl
set_option maxRecDepth 100000 in
theorem sc_2_24 (I : Nat → Int32) (L : Nat → Int64) (T : Nat → Nat → Int32) (U : Nat → Nat → Int64) : f_J0_charAt_5068e (wn I L T U) [.ref 1000102, .int (nI 24)] = some (some (.int (nI 114)), wn I L T U) := rfl
set_option maxRecDepth 100000 in
theorem sc_2_25 (I : Nat → Int32) (L : Nat → Int64) (T : Nat → Nat → Int32) (U : Nat → Nat → Int64) : f_J0_charAt_5068e (wn I L T U) [.ref 1000102, .int (nI 25)] = some (some (.int (nI 105)), wn I L T U) := rfl
set_option maxRecDepth 100000 in
theorem sc_2_26 (I : Nat → Int32) (L : Nat → Int64) (T : Nat → Nat → Int32) (U : Nat → Nat → Int64) : f_J0_charAt_5068e (wn I L T U) [.ref 1000102, .int (nI 26)] = some (some (.int (nI 110)), wn I L T U) := rfl
set_option maxRecDepth 100000 in
theorem sc_2_27 (I : Nat → Int32) (L : Nat → Int64) (T : Nat → Nat → Int32) (U : Nat → Nat → Int64) : f_J0_charAt_5068e (wn I L T U) [.ref 1000102, .int (nI 27)] = some (some (.int (nI 103)), wn I L T U) := rfl
set_option maxRecDepth 100000 in
theorem sc_2_28 (I : Nat → Int32) (L : Nat → Int64) (T : Nat → Nat → Int32) (U : Nat → Nat → Int64) : f_J0_charAt_5068e (wn I L T U) [.ref 1000102, .int (nI 28)] = some (some (.int (nI 32)), wn I L T U) := rfl
set_option maxRecDepth 100000 in
theorem sc_2_29 (I : Nat → Int32) (L : Nat → Int64) (T : Nat → Nat → Int32) (U : Nat → Nat → Int64) : f_J0_charAt_5068e (wn I L T U) [.ref 1000102, .int (nI 29)] = some (some (.int (nI 108)), wn I L T U) := rfl
set_option maxRecDepth 100000 in
theorem sc_2_30 (I : Nat → Int32) (L : Nat → Int64) (T : Nat → Nat → Int32) (U : Nat → Nat → Int64) : f_J0_charAt_5068e (wn I L T U) [.ref 1000102, .int (nI 30)] = some (some (.int (nI 101)), wn I L T U) := rfl
set_option maxRecDepth 100000 in
theorem sc_2_31 (I : Nat → Int32) (L : Nat → Int64) (T : Nat → Nat → Int32) (U : Nat → Nat → Int64) : f_J0_charAt_5068e (wn I L T U) [.ref 1000102, .int (nI 31)] = some (some (.int (nI 110)), wn I L T U) := rfl
set_option maxRecDepth 100000 in
theorem sc_2_32 (I : Nat → Int32) (L : Nat → Int64) (T : Nat → Nat → Int32) (U : Nat → Nat → Int64) : f_J0_charAt_5068e (wn I L T U) [.ref 1000102, .int (nI 32)] = some (some (.int (nI 103)), wn I L T U) := rfl
set_option maxRecDepth 100000 in
theorem sc_2_33 (I : Nat → Int32) (L : Nat → Int64) (T : Nat → Nat → Int32) (U : Nat → Nat → Int64) : f_J0_charAt_5068e (wn I L T U) [.ref 1000102, .int (nI 33)] = some (some (.int (nI 116)), wn I L T U) := rfl
set_option maxRecDepth 100000 in
theorem sc_2_34 (I : Nat → Int32) (L : Nat → Int64) (T : Nat → Nat → Int32) (U : Nat → Nat → Int64) : f_J0_charAt_5068e (wn I L T U) [.ref 1000102, .int (nI 34)] = some (some (.int (nI 104)), wn I L T U) := rfl
set_option maxRecDepth 100000 in
theorem sc_2_35 (I : Nat → Int32) (L : Nat → Int64) (T : Nat → Nat → Int32) (U : Nat → Nat → Int64) : f_J0_charAt_5068e (wn I L T U) [.ref 1000102, .int (nI 35)] = some (some (.int (nI 32)), wn I L T U) := rfl
set_option maxRecDepth 100000 in
theorem sc_2_36 (I : Nat → Int32) (L : Nat → Int64) (T : Nat → Nat → Int32) (U : Nat → Nat → Int64) : f_J0_charAt_5068e (wn I L T U) [.ref 1000102, .int (nI 36)] = some (some (.int (nI 103)), wn I L T U) := rfl
set_option maxRecDepth 100000 in
theorem sc_2_37 (I : Nat → Int32) (L : Nat → Int64) (T : Nat → Nat → Int32) (U : Nat → Nat → Int64) : f_J0_charAt_5068e (wn I L T U) [.ref 1000102, .int (nI 37)] = some (some (.int (nI 101)), wn I L T U) := rfl
set_option maxRecDepth 100000 in
theorem sc_2_38 (I : Nat → Int32) (L : Nat → Int64) (T : Nat → Nat → Int32) (U : Nat → Nat → Int64) : f_J0_charAt_5068e (wn I L T U) [.ref 1000102, .int (nI 38)] = some (some (.int (nI 116)), wn I L T U) := rfl
set_option maxRecDepth 100000 in
theorem sc_2_39 (I : Nat → Int32) (L : Nat → Int64) (T : Nat → Nat → Int32) (U : Nat → Nat → Int64) : f_J0_charAt_5068e (wn I L T U) [.ref 1000102, .int (nI 39)] = some (some (.int (nI 32)), wn I L T U) := rfl
set_option maxRecDepth 100000 in
theorem sc_2_40 (I : Nat → Int32) (L : Nat → Int64) (T : Nat → Nat → Int32) (U : Nat → Nat → Int64) : f_J0_charAt_5068e (wn I L T U) [.ref 1000102, .int (nI 40)] = some (some (.int (nI 112)), wn I L T U) := rfl
set_option maxRecDepth 100000 in
theorem sc_2_41 (I : Nat → Int32) (L : Nat → Int64) (T : Nat → Nat → Int32) (U : Nat → Nat → Int64) : f_J0_charAt_5068e (wn I L T U) [.ref 1000102, .int (nI 41)] = some (some (.int (nI 117)), wn I L T U) := rfl
set_option maxRecDepth 100000 in
theorem sc_2_42 (I : Nat → Int32) (L : Nat → Int64) (T : Nat → Nat → Int32) (U : Nat → Nat → Int64) : f_J0_charAt_5068e (wn I L T U) [.ref 1000102, .int (nI 42)] = some (some (.int (nI 116)), wn I L T U) := rfl
set_option maxRecDepth 100000 in
theorem sc_2_43 (I : Nat → Int32) (L : Nat → Int64) (T : Nat → Nat → Int32) (U : Nat → Nat → Int64) : f_J0_charAt_5068e (wn I L T U) [.ref 1000102, .int (nI 43)] = some (some (.int (nI 32)), wn I L T U) := rfl
set_option maxRecDepth 100000 in
theorem sc_2_44 (I : Nat → Int32) (L : Nat → Int64) (T : Nat → Nat → Int32) (U : Nat → Nat → Int64) : f_J0_charAt_5068e (wn I L T U) [.ref 1000102, .int (nI 44)] = some (some (.int (nI 103)), wn I L T U) := rfl
set_option maxRecDepth 100000 in
theorem sc_2_45 (I : Nat → Int32) (L : Nat → Int64) (T : Nat → Nat → Int32) (U : Nat → Nat → Int64) : f_J0_charAt_5068e (wn I L T U) [.ref 1000102, .int (nI 45)] = some (some (.int (nI 101)), wn I L T U) := rfl
set_option maxRecDepth 100000 in
theorem sc_2_46 (I : Nat → Int32) (L : Nat → Int64) (T : Nat → Nat → Int32) (U : Nat → Nat → Int64) : f_J0_charAt_5068e (wn I L T U) [.ref 1000102, .int (nI 46)] = some (some (.int (nI 116)), wn I L T U) := rfl
set_option maxRecDepth 100000 in
theorem sc_2_47 (I : Nat → Int32) (L : Nat → Int64) (T : Nat → Nat → Int32) (U : Nat → Nat → Int64) : f_J0_charAt_5068e (wn I L T U) [.ref 1000102, .int (nI 47)] = some (some (.int (nI 105)), wn I L T U) := rfl
set_option maxRecDepth 100000 in
theorem sc_2_48 (I : Nat → Int32) (L : Nat → Int64) (T : Nat → Nat → Int32) (U : Nat → Nat → Int64) : f_J0_charAt_5068e (wn I L T U) [.ref 1000102, .int (nI 48)] = some (some (.int (nI 110)), wn I L T U) := rfl
set_option maxRecDepth 100000 in
theorem sc_2_49 (I : Nat → Int32) (L : Nat → Int64) (T : Nat → Nat → Int32) (U : Nat → Nat → Int64) : f_J0_charAt_5068e (wn I L T U) [.ref 1000102, .int (nI 49)] = some (some (.int (nI 116)), wn I L T U) := rfl
set_option maxRecDepth 100000 in
theorem sc_2_50 (I : Nat → Int32) (L : Nat → Int64) (T : Nat → Nat → Int32) (U : Nat → Nat → Int64) : f_J0_charAt_5068e (wn I L T U) [.ref 1000102, .int (nI 50)] = some (some (.int (nI 101)), wn I L T U) := rfl
set_option maxRecDepth 100000 in
theorem sc_2_51 (I : Nat → Int32) (L : Nat → Int64) (T : Nat → Nat → Int32) (U : Nat → Nat → Int64) : f_J0_charAt_5068e (wn I L T U) [.ref 1000102, .int (nI 51)] = some (some (.int (nI 114)), wn I L T U) := rfl
set_option maxRecDepth 100000 in
theorem sc_2_52 (I : Nat → Int32) (L : Nat → Int64) (T : Nat → Nat → Int32) (U : Nat → Nat → Int64) : f_J0_charAt_5068e (wn I L T U) [.ref 1000102, .int (nI 52)] = some (some (.int (nI 118)), wn I L T U) := rfl
set_option maxRecDepth 100000 in
theorem sc_2_53 (I : Nat → Int32) (L : Nat → Int64) (T : Nat → Nat → Int32) (U : Nat → Nat → Int64) : f_J0_charAt_5068e (wn I L T U) [.ref 1000102, .int (nI 53)] = some (some (.int (nI 97)), wn I L T U) := rfl
set_option maxRecDepth 100000 in
theorem sc_2_54 (I : Nat → Int32) (L : Nat → Int64) (T : Nat → Nat → Int32) (U : Nat → Nat → Int64) : f_J0_charAt_5068e (wn I L T U) [.ref 1000102, .int (nI 54)] = some (some (.int (nI 108)), wn I L T U) := rfl
set_option maxRecDepth 100000 in
theorem sc_2_55 (I : Nat → Int32) (L : Nat → Int64) (T : Nat → Nat → Int32) (U : Nat → Nat → Int64) : f_J0_charAt_5068e (wn I L T U) [.ref 1000102, .int (nI 55)] = some (some (.int (nI 32)), wn I L T U) := rfl
set_option maxRecDepth 100000 in
theorem sc_2_56 (I : Nat → Int32) (L : Nat → Int64) (T : Nat → Nat → Int32) (U : Nat → Nat → Int64) : f_J0_charAt_5068e (wn I L T U) [.ref 1000102, .int (nI 56)] = some (some (.int (nI 112)), wn I L T U) := rfl
set_option maxRecDepth 100000 in
theorem sc_2_57 (I : Nat → Int32) (L : Nat → Int64) (T : Nat → Nat → Int32) (U : Nat → Nat → Int64) : f_J0_charAt_5068e (wn I L T U) [.ref 1000102, .int (nI 57)] = some (some (.int (nI 117)), wn I L T U) := rfl
set_option maxRecDepth 100000 in
theorem sc_2_58 (I : Nat → Int32) (L : Nat → Int64) (T : Nat → Nat → Int32) (U : Nat → Nat → Int64) : f_J0_charAt_5068e (wn I L T U) [.ref 1000102, .int (nI 58)] = some (some (.int (nI 116)), wn I L T U) := rfl
set_option maxRecDepth 100000 in
theorem sc_2_59 (I : Nat → Int32) (L : Nat → Int64) (T : Nat → Nat → Int32) (U : Nat → Nat → Int64) : f_J0_charAt_5068e (wn I L T U) [.ref 1000102, .int (nI 59)] = some (some (.int (nI 105)), wn I L T U) := rfl
set_option maxRecDepth 100000 in
theorem sc_2_60 (I : Nat → Int32) (L : Nat → Int64) (T : Nat → Nat → Int32) (U : Nat → Nat → Int64) : f_J0_charAt_5068e (wn I L T U) [.ref 1000102, .int (nI 60)] = some (some (.int (nI 110)), wn I L T U) := rfl
set_option maxRecDepth 100000 in
theorem sc_2_61 (I : Nat → Int32) (L : Nat → Int64) (T : Nat → Nat → Int32) (U : Nat → Nat → Int64) : f_J0_charAt_5068e (wn I L T U) [.ref 1000102, .int (nI 61)] = some (some (.int (nI 116)), wn I L T U) := rfl
set_option maxRecDepth 100000 in
theorem sc_2_62 (I : Nat → Int32) (L : Nat → Int64) (T : Nat → Nat → Int32) (U : Nat → Nat → Int64) : f_J0_charAt_5068e (wn I L T U) [.ref 1000102, .int (nI 62)] = some (some (.int (nI 101)), wn I L T U) := rfl
set_option maxRecDepth 100000 in
theorem sc_2_63 (I : Nat → Int32) (L : Nat → Int64) (T : Nat → Nat → Int32) (U : Nat → Nat → Int64) : f_J0_charAt_5068e (wn I L T U) [.ref 1000102, .int (nI 63)] = some (some (.int (nI 114)), wn I L T U) := rfl
set_option maxRecDepth 100000 in
theorem sc_2_64 (I : Nat → Int32) (L : Nat → Int64) (T : Nat → Nat → Int32) (U : Nat → Nat → Int64) : f_J0_charAt_5068e (wn I L T U) [.ref 1000102, .int (nI 64)] = some (some (.int (nI 118)), wn I L T U) := rfl
set_option maxRecDepth 100000 in
theorem sc_2_65 (I : Nat → Int32) (L : Nat → Int64) (T : Nat → Nat → Int32) (U : Nat → Nat → Int64) : f_J0_charAt_5068e (wn I L T U) [.ref 1000102, .int (nI 65)] = some (some (.int (nI 97)), wn I L T U) := rfl
set_option maxRecDepth 100000 in
theorem sc_2_66 (I : Nat → Int32) (L : Nat → Int64) (T : Nat → Nat → Int32) (U : Nat → Nat → Int64) : f_J0_charAt_5068e (wn I L T U) [.ref 1000102, .int (nI 66)] = some (some (.int (nI 108)), wn I L T U) := rfl
set_option maxRecDepth 100000 in
theorem sc_2_67 (I : Nat → Int32) (L : Nat → Int64) (T : Nat → Nat → Int32) (U : Nat → Nat → Int64) : f_J0_charAt_5068e (wn I L T U) [.ref 1000102, .int (nI 67)] = some (some (.int (nI 32)), wn I L T U) := rfl
set_option maxRecDepth 100000 in
theorem sc_2_68 (I : Nat → Int32) (L : Nat → Int64) (T : Nat → Nat → Int32) (U : Nat → Nat → Int64) : f_J0_charAt_5068e (wn I L T U) [.ref 1000102, .int (nI 68)] = some (some (.int (nI 97)), wn I L T U) := rfl
set_option maxRecDepth 100000 in
theorem sc_2_69 (I : Nat → Int32) (L : Nat → Int64) (T : Nat → Nat → Int32) (U : Nat → Nat → Int64) : f_J0_charAt_5068e (wn I L T U) [.ref 1000102, .int (nI 69)] = some (some (.int (nI 108)), wn I L T U) := rfl
set_option maxRecDepth 100000 in
theorem sc_2_70 (I : Nat → Int32) (L : Nat → Int64) (T : Nat → Nat → Int32) (U : Nat → Nat → Int64) : f_J0_charAt_5068e (wn I L T U) [.ref 1000102, .int (nI 70)] = some (some (.int (nI 111)), wn I L T U) := rfl
set_option maxRecDepth 100000 in
theorem sc_2_71 (I : Nat → Int32) (L : Nat → Int64) (T : Nat → Nat → Int32) (U : Nat → Nat → Int64) : f_J0_charAt_5068e (wn I L T U) [.ref 1000102, .int (nI 71)] = some (some (.int (nI 97)), wn I L T U) := rfl
set_option maxRecDepth 100000 in
theorem sc_2_72 (I : Nat → Int32) (L : Nat → Int64) (T : Nat → Nat → Int32) (U : Nat → Nat → Int64) : f_J0_charAt_5068e (wn I L T U) [.ref 1000102, .int (nI 72)] = some (some (.int (nI 100)), wn I L T U) := rfl
set_option maxRecDepth 100000 in
theorem sc_2_73 (I : Nat → Int32) (L : Nat → Int64) (T : Nat → Nat → Int32) (U : Nat → Nat → Int64) : f_J0_charAt_5068e (wn I L T U) [.ref 1000102, .int (nI 73)] = some (some (.int (nI 32)), wn I L T U) := rfl
set_option maxRecDepth 100000 in
theorem sc_2_74 (I : Nat → Int32) (L : Nat → Int64) (T : Nat → Nat → Int32) (U : Nat → Nat → Int64) : f_J0_charAt_5068e (wn I L T U) [.ref 1000102, .int (nI 74)] = some (some (.int (nI 97)), wn I L T U) := rfl
set_option maxRecDepth 100000 in
theorem sc_2_75 (I : Nat → Int32) (L : Nat → Int64) (T : Nat → Nat → Int32) (U : Nat → Nat → Int64) : f_J0_charAt_5068e (wn I L T U) [.ref 1000102, .int (nI 75)] = some (some (.int (nI 115)), wn I L T U) := rfl
set_option maxRecDepth 100000 in
theorem sc_2_76 (I : Nat → Int32) (L : Nat → Int64) (T : Nat → Nat → Int32) (U : Nat → Nat → Int64) : f_J0_charAt_5068e (wn I L T U) [.ref 1000102, .int (nI 76)] = some (some (.int (nI 116)), wn I L T U) := rfl
set_option maxRecDepth 100000 in
theorem sc_2_77 (I : Nat → Int32) (L : Nat → Int64) (T : Nat → Nat → Int32) (U : Nat → Nat → Int64) : f_J0_charAt_5068e (wn I L T U) [.ref 1000102, .int (nI 77)] = some (some (.int (nI 111)), wn I L T U) := rfl
set_option maxRecDepth 100000 in
theorem sc_2_78 (I : Nat → Int32) (L : Nat → Int64) (T : Nat → Nat → Int32) (U : Nat → Nat → Int64) : f_J0_charAt_5068e (wn I L T U) [.ref 1000102, .int (nI 78)] = some (some (.int (nI 114)), wn I L T U) := rfl
set_option maxRecDepth 100000 in
theorem sc_2_79 (I : Nat → Int32) (L : Nat → Int64) (T : Nat → Nat → Int32) (U : Nat → Nat → Int64) : f_J0_charAt_5068e (wn I L T U) [.ref 1000102, .int (nI 79)] = some (some (.int (nI 101)), wn I L T U) := rfl
set_option maxRecDepth 100000 in
theorem sc_2_80 (I : Nat → Int32) (L : Nat → Int64) (T : Nat → Nat → Int32) (U : Nat → Nat → Int64) : f_J0_charAt_5068e (wn I L T U) [.ref 1000102, .int (nI 80)] = some (some (.int (nI 32)), wn I L T U) := rfl
def ch_2 (k : Nat) : Nat := [116, 114, 117, 101, 32, 102, 97, 108, 115, 101, 32, 110, 117, 108, 108, 32, 97, 114, 114, 97, 121, 32, 115, 116, 114, 105, 110, 103, 32, 108, 101, 110, 103, 116, 104, 32, 103, 101, 116, 32, 112, 117, 116, 32, 103, 101, 116, 105, 110, 116, 101, 114, 118, 97, 108, 32, 112, 117, 116, 105, 110, 116, 101, 114, 118, 97, 108, 32, 97, 108, 111, 97, 100, 32, 97, 115, 116, 111, 114, 101, 32].getD k 0
set_option maxRecDepth 100000 in
theorem sc_2 {I : Nat → Int32} {L : Nat → Int64} {T : Nat → Nat → Int32} {U : Nat → Nat → Int64} : ∀ k, k < 81 → f_J0_charAt_5068e (wn I L T U) [.ref 1000102, .int (nI k)] = some (some (.int (nI (ch_2 k))), wn I L T U) := (al (al (al (al (al (al (al (al (al (al (al (al (al (al (al (al (al (al (al (al (al (al (al (al (al (al (al (al (al (al (al (al (al (al (al (al (al (al (al (al (al (al (al (al (al (al (al (al (al (al (al (al (al (al (al (al (al (al (al (al (al (al (al (al (al (al (al (al (al (al (al (al (al (al (al (al (al (al (al (al (al (fun k h => absurd h (Nat.not_lt_zero k)) (sc_2_0 I L T U)) (sc_2_1 I L T U)) (sc_2_2 I L T U)) (sc_2_3 I L T U)) (sc_2_4 I L T U)) (sc_2_5 I L T U)) (sc_2_6 I L T U)) (sc_2_7 I L T U)) (sc_2_8 I L T U)) (sc_2_9 I L T U)) (sc_2_10 I L T U)) (sc_2_11 I L T U)) (sc_2_12 I L T U)) (sc_2_13 I L T U)) (sc_2_14 I L T U)) (sc_2_15 I L T U)) (sc_2_16 I L T U)) (sc_2_17 I L T U)) (sc_2_18 I L T U)) (sc_2_19 I L T U)) (sc_2_20 I L T U)) (sc_2_21 I L T U)) (sc_2_22 I L T U)) (sc_2_23 I L T U)) (sc_2_24 I L T U)) (sc_2_25 I L T U)) (sc_2_26 I L T U)) (sc_2_27 I L T U)) (sc_2_28 I L T U)) (sc_2_29 I L T U)) (sc_2_30 I L T U)) (sc_2_31 I L T U)) (sc_2_32 I L T U)) (sc_2_33 I L T U)) (sc_2_34 I L T U)) (sc_2_35 I L T U)) (sc_2_36 I L T U)) (sc_2_37 I L T U)) (sc_2_38 I L T U)) (sc_2_39 I L T U)) (sc_2_40 I L T U)) (sc_2_41 I L T U)) (sc_2_42 I L T U)) (sc_2_43 I L T U)) (sc_2_44 I L T U)) (sc_2_45 I L T U)) (sc_2_46 I L T U)) (sc_2_47 I L T U)) (sc_2_48 I L T U)) (sc_2_49 I L T U)) (sc_2_50 I L T U)) (sc_2_51 I L T U)) (sc_2_52 I L T U)) (sc_2_53 I L T U)) (sc_2_54 I L T U)) (sc_2_55 I L T U)) (sc_2_56 I L T U)) (sc_2_57 I L T U)) (sc_2_58 I L T U)) (sc_2_59 I L T U)) (sc_2_60 I L T U)) (sc_2_61 I L T U)) (sc_2_62 I L T U)) (sc_2_63 I L T U)) (sc_2_64 I L T U)) (sc_2_65 I L T U)) (sc_2_66 I L T U)) (sc_2_67 I L T U)) (sc_2_68 I L T U)) (sc_2_69 I L T U)) (sc_2_70 I L T U)) (sc_2_71 I L T U)) (sc_2_72 I L T U)) (sc_2_73 I L T U)) (sc_2_74 I L T U)) (sc_2_75 I L T U)) (sc_2_76 I L T U)) (sc_2_77 I L T U)) (sc_2_78 I L T U)) (sc_2_79 I L T U)) (sc_2_80 I L T U))
set_option maxRecDepth 100000 in
theorem sc_3_0 (I : Nat → Int32) (L : Nat → Int64) (T : Nat → Nat → Int32) (U : Nat → Nat → Int64) : f_J0_charAt_5068e (wn I L T U) [.ref 1000103, .int (nI 0)] = some (some (.int (nI 93)), wn I L T U) := rfl
set_option maxRecDepth 100000 in
theorem sc_3_1 (I : Nat → Int32) (L : Nat → Int64) (T : Nat → Nat → Int32) (U : Nat → Nat → Int64) : f_J0_charAt_5068e (wn I L T U) [.ref 1000103, .int (nI 1)] = some (some (.int (nI 32)), wn I L T U) := rfl
set_option maxRecDepth 100000 in
theorem sc_3_2 (I : Nat → Int32) (L : Nat → Int64) (T : Nat → Nat → Int32) (U : Nat → Nat → Int64) : f_J0_charAt_5068e (wn I L T U) [.ref 1000103, .int (nI 2)] = some (some (.int (nI 62)), wn I L T U) := rfl
set_option maxRecDepth 100000 in
theorem sc_3_3 (I : Nat → Int32) (L : Nat → Int64) (T : Nat → Nat → Int32) (U : Nat → Nat → Int64) : f_J0_charAt_5068e (wn I L T U) [.ref 1000103, .int (nI 3)] = some (some (.int (nI 62)), wn I L T U) := rfl
set_option maxRecDepth 100000 in
theorem sc_3_4 (I : Nat → Int32) (L : Nat → Int64) (T : Nat → Nat → Int32) (U : Nat → Nat → Int64) : f_J0_charAt_5068e (wn I L T U) [.ref 1000103, .int (nI 4)] = some (some (.int (nI 32)), wn I L T U) := rfl
set_option maxRecDepth 100000 in
theorem sc_3_5 (I : Nat → Int32) (L : Nat → Int64) (T : Nat → Nat → Int32) (U : Nat → Nat → Int64) : f_J0_charAt_5068e (wn I L T U) [.ref 1000103, .int (nI 5)] = some (some (.int (nI 100)), wn I L T U) := rfl
set_option maxRecDepth 100000 in
theorem sc_3_6 (I : Nat → Int32) (L : Nat → Int64) (T : Nat → Nat → Int32) (U : Nat → Nat → Int64) : f_J0_charAt_5068e (wn I L T U) [.ref 1000103, .int (nI 6)] = some (some (.int (nI 105)), wn I L T U) := rfl
set_option maxRecDepth 100000 in
theorem sc_3_7 (I : Nat → Int32) (L : Nat → Int64) (T : Nat → Nat → Int32) (U : Nat → Nat → Int64) : f_J0_charAt_5068e (wn I L T U) [.ref 1000103, .int (nI 7)] = some (some (.int (nI 99)), wn I L T U) := rfl
set_option maxRecDepth 100000 in
theorem sc_3_8 (I : Nat → Int32) (L : Nat → Int64) (T : Nat → Nat → Int32) (U : Nat → Nat → Int64) : f_J0_charAt_5068e (wn I L T U) [.ref 1000103, .int (nI 8)] = some (some (.int (nI 116)), wn I L T U) := rfl
set_option maxRecDepth 100000 in
theorem sc_3_9 (I : Nat → Int32) (L : Nat → Int64) (T : Nat → Nat → Int32) (U : Nat → Nat → Int64) : f_J0_charAt_5068e (wn I L T U) [.ref 1000103, .int (nI 9)] = some (some (.int (nI 32)), wn I L T U) := rfl
set_option maxRecDepth 100000 in
theorem sc_3_10 (I : Nat → Int32) (L : Nat → Int64) (T : Nat → Nat → Int32) (U : Nat → Nat → Int64) : f_J0_charAt_5068e (wn I L T U) [.ref 1000103, .int (nI 10)] = some (some (.int (nI 98)), wn I L T U) := rfl
set_option maxRecDepth 100000 in
theorem sc_3_11 (I : Nat → Int32) (L : Nat → Int64) (T : Nat → Nat → Int32) (U : Nat → Nat → Int64) : f_J0_charAt_5068e (wn I L T U) [.ref 1000103, .int (nI 11)] = some (some (.int (nI 101)), wn I L T U) := rfl
set_option maxRecDepth 100000 in
theorem sc_3_12 (I : Nat → Int32) (L : Nat → Int64) (T : Nat → Nat → Int32) (U : Nat → Nat → Int64) : f_J0_charAt_5068e (wn I L T U) [.ref 1000103, .int (nI 12)] = some (some (.int (nI 103)), wn I L T U) := rfl
set_option maxRecDepth 100000 in
theorem sc_3_13 (I : Nat → Int32) (L : Nat → Int64) (T : Nat → Nat → Int32) (U : Nat → Nat → Int64) : f_J0_charAt_5068e (wn I L T U) [.ref 1000103, .int (nI 13)] = some (some (.int (nI 105)), wn I L T U) := rfl
set_option maxRecDepth 100000 in
theorem sc_3_14 (I : Nat → Int32) (L : Nat → Int64) (T : Nat → Nat → Int32) (U : Nat → Nat → Int64) : f_J0_charAt_5068e (wn I L T U) [.ref 1000103, .int (nI 14)] = some (some (.int (nI 110)), wn I L T U) := rfl
set_option maxRecDepth 100000 in
theorem sc_3_15 (I : Nat → Int32) (L : Nat → Int64) (T : Nat → Nat → Int32) (U : Nat → Nat → Int64) : f_J0_charAt_5068e (wn I L T U) [.ref 1000103, .int (nI 15)] = some (some (.int (nI 32)), wn I L T U) := rfl
set_option maxRecDepth 100000 in
theorem sc_3_16 (I : Nat → Int32) (L : Nat → Int64) (T : Nat → Nat → Int32) (U : Nat → Nat → Int64) : f_J0_charAt_5068e (wn I L T U) [.ref 1000103, .int (nI 16)] = some (some (.int (nI 101)), wn I L T U) := rfl
set_option maxRecDepth 100000 in
theorem sc_3_17 (I : Nat → Int32) (L : Nat → Int64) (T : Nat → Nat → Int32) (U : Nat → Nat → Int64) : f_J0_charAt_5068e (wn I L T U) [.ref 1000103, .int (nI 17)] = some (some (.int (nI 110)), wn I L T U) := rfl
set_option maxRecDepth 100000 in
theorem sc_3_18 (I : Nat → Int32) (L : Nat → Int64) (T : Nat → Nat → Int32) (U : Nat → Nat → Int64) : f_J0_charAt_5068e (wn I L T U) [.ref 1000103, .int (nI 18)] = some (some (.int (nI 100)), wn I L T U) := rfl
set_option maxRecDepth 100000 in
theorem sc_3_19 (I : Nat → Int32) (L : Nat → Int64) (T : Nat → Nat → Int32) (U : Nat → Nat → Int64) : f_J0_charAt_5068e (wn I L T U) [.ref 1000103, .int (nI 19)] = some (some (.int (nI 32)), wn I L T U) := rfl
set_option maxRecDepth 100000 in
theorem sc_3_20 (I : Nat → Int32) (L : Nat → Int64) (T : Nat → Nat → Int32) (U : Nat → Nat → Int64) : f_J0_charAt_5068e (wn I L T U) [.ref 1000103, .int (nI 20)] = some (some (.int (nI 100)), wn I L T U) := rfl
set_option maxRecDepth 100000 in
theorem sc_3_21 (I : Nat → Int32) (L : Nat → Int64) (T : Nat → Nat → Int32) (U : Nat → Nat → Int64) : f_J0_charAt_5068e (wn I L T U) [.ref 1000103, .int (nI 21)] = some (some (.int (nI 101)), wn I L T U) := rfl
set_option maxRecDepth 100000 in
theorem sc_3_22 (I : Nat → Int32) (L : Nat → Int64) (T : Nat → Nat → Int32) (U : Nat → Nat → Int64) : f_J0_charAt_5068e (wn I L T U) [.ref 1000103, .int (nI 22)] = some (some (.int (nI 102)), wn I L T U) := rfl
set_option maxRecDepth 100000 in
theorem sc_3_23 (I : Nat → Int32) (L : Nat → Int64) (T : Nat → Nat → Int32) (U : Nat → Nat → Int64) : f_J0_charAt_5068e (wn I L T U) [.ref 1000103, .int (nI 23)] = some (some (.int (nI 32)), wn I L T U) := rfl
set_option maxRecDepth 100000 in
theorem sc_3_24 (I : Nat → Int32) (L : Nat → Int64) (T : Nat → Nat → Int32) (U : Nat → Nat → Int64) : f_J0_charAt_5068e (wn I L T U) [.ref 1000103, .int (nI 24)] = some (some (.int (nI 108)), wn I L T U) := rfl
set_option maxRecDepth 100000 in
theorem sc_3_25 (I : Nat → Int32) (L : Nat → Int64) (T : Nat → Nat → Int32) (U : Nat → Nat → Int64) : f_J0_charAt_5068e (wn I L T U) [.ref 1000103, .int (nI 25)] = some (some (.int (nI 111)), wn I L T U) := rfl
set_option maxRecDepth 100000 in
theorem sc_3_26 (I : Nat → Int32) (L : Nat → Int64) (T : Nat → Nat → Int32) (U : Nat → Nat → Int64) : f_J0_charAt_5068e (wn I L T U) [.ref 1000103, .int (nI 26)] = some (some (.int (nI 97)), wn I L T U) := rfl
set_option maxRecDepth 100000 in
theorem sc_3_27 (I : Nat → Int32) (L : Nat → Int64) (T : Nat → Nat → Int32) (U : Nat → Nat → Int64) : f_J0_charAt_5068e (wn I L T U) [.ref 1000103, .int (nI 27)] = some (some (.int (nI 100)), wn I L T U) := rfl
set_option maxRecDepth 100000 in
theorem sc_3_28 (I : Nat → Int32) (L : Nat → Int64) (T : Nat → Nat → Int32) (U : Nat → Nat → Int64) : f_J0_charAt_5068e (wn I L T U) [.ref 1000103, .int (nI 28)] = some (some (.int (nI 32)), wn I L T U) := rfl
set_option maxRecDepth 100000 in
theorem sc_3_29 (I : Nat → Int32) (L : Nat → Int64) (T : Nat → Nat → Int32) (U : Nat → Nat → Int64) : f_J0_charAt_5068e (wn I L T U) [.ref 1000103, .int (nI 29)] = some (some (.int (nI 115)), wn I L T U) := rfl
set_option maxRecDepth 100000 in
theorem sc_3_30 (I : Nat → Int32) (L : Nat → Int64) (T : Nat → Nat → Int32) (U : Nat → Nat → Int64) : f_J0_charAt_5068e (wn I L T U) [.ref 1000103, .int (nI 30)] = some (some (.int (nI 116)), wn I L T U) := rfl
set_option maxRecDepth 100000 in
theorem sc_3_31 (I : Nat → Int32) (L : Nat → Int64) (T : Nat → Nat → Int32) (U : Nat → Nat → Int64) : f_J0_charAt_5068e (wn I L T U) [.ref 1000103, .int (nI 31)] = some (some (.int (nI 111)), wn I L T U) := rfl
set_option maxRecDepth 100000 in
theorem sc_3_32 (I : Nat → Int32) (L : Nat → Int64) (T : Nat → Nat → Int32) (U : Nat → Nat → Int64) : f_J0_charAt_5068e (wn I L T U) [.ref 1000103, .int (nI 32)] = some (some (.int (nI 114)), wn I L T U) := rfl
set_option maxRecDepth 100000 in
theorem sc_3_33 (I : Nat → Int32) (L : Nat → Int64) (T : Nat → Nat → Int32) (U : Nat → Nat → Int64) : f_J0_charAt_5068e (wn I L T U) [.ref 1000103, .int (nI 33)] = some (some (.int (nI 101)), wn I L T U) := rfl
set_option maxRecDepth 100000 in
theorem sc_3_34 (I : Nat → Int32) (L : Nat → Int64) (T : Nat → Nat → Int32) (U : Nat → Nat → Int64) : f_J0_charAt_5068e (wn I L T U) [.ref 1000103, .int (nI 34)] = some (some (.int (nI 32)), wn I L T U) := rfl
set_option maxRecDepth 100000 in
theorem sc_3_35 (I : Nat → Int32) (L : Nat → Int64) (T : Nat → Nat → Int32) (U : Nat → Nat → Int64) : f_J0_charAt_5068e (wn I L T U) [.ref 1000103, .int (nI 35)] = some (some (.int (nI 107)), wn I L T U) := rfl
set_option maxRecDepth 100000 in
theorem sc_3_36 (I : Nat → Int32) (L : Nat → Int64) (T : Nat → Nat → Int32) (U : Nat → Nat → Int64) : f_J0_charAt_5068e (wn I L T U) [.ref 1000103, .int (nI 36)] = some (some (.int (nI 110)), wn I L T U) := rfl
set_option maxRecDepth 100000 in
theorem sc_3_37 (I : Nat → Int32) (L : Nat → Int64) (T : Nat → Nat → Int32) (U : Nat → Nat → Int64) : f_J0_charAt_5068e (wn I L T U) [.ref 1000103, .int (nI 37)] = some (some (.int (nI 111)), wn I L T U) := rfl
set_option maxRecDepth 100000 in
theorem sc_3_38 (I : Nat → Int32) (L : Nat → Int64) (T : Nat → Nat → Int32) (U : Nat → Nat → Int64) : f_J0_charAt_5068e (wn I L T U) [.ref 1000103, .int (nI 38)] = some (some (.int (nI 119)), wn I L T U) := rfl
set_option maxRecDepth 100000 in
theorem sc_3_39 (I : Nat → Int32) (L : Nat → Int64) (T : Nat → Nat → Int32) (U : Nat → Nat → Int64) : f_J0_charAt_5068e (wn I L T U) [.ref 1000103, .int (nI 39)] = some (some (.int (nI 110)), wn I L T U) := rfl
set_option maxRecDepth 100000 in
theorem sc_3_40 (I : Nat → Int32) (L : Nat → Int64) (T : Nat → Nat → Int32) (U : Nat → Nat → Int64) : f_J0_charAt_5068e (wn I L T U) [.ref 1000103, .int (nI 40)] = some (some (.int (nI 32)), wn I L T U) := rfl
set_option maxRecDepth 100000 in
theorem sc_3_41 (I : Nat → Int32) (L : Nat → Int64) (T : Nat → Nat → Int32) (U : Nat → Nat → Int64) : f_J0_charAt_5068e (wn I L T U) [.ref 1000103, .int (nI 41)] = some (some (.int (nI 119)), wn I L T U) := rfl
set_option maxRecDepth 100000 in
theorem sc_3_42 (I : Nat → Int32) (L : Nat → Int64) (T : Nat → Nat → Int32) (U : Nat → Nat → Int64) : f_J0_charAt_5068e (wn I L T U) [.ref 1000103, .int (nI 42)] = some (some (.int (nI 104)), wn I L T U) := rfl
set_option maxRecDepth 100000 in
theorem sc_3_43 (I : Nat → Int32) (L : Nat → Int64) (T : Nat → Nat → Int32) (U : Nat → Nat → Int64) : f_J0_charAt_5068e (wn I L T U) [.ref 1000103, .int (nI 43)] = some (some (.int (nI 101)), wn I L T U) := rfl
set_option maxRecDepth 100000 in
theorem sc_3_44 (I : Nat → Int32) (L : Nat → Int64) (T : Nat → Nat → Int32) (U : Nat → Nat → Int64) : f_J0_charAt_5068e (wn I L T U) [.ref 1000103, .int (nI 44)] = some (some (.int (nI 114)), wn I L T U) := rfl
set_option maxRecDepth 100000 in
theorem sc_3_45 (I : Nat → Int32) (L : Nat → Int64) (T : Nat → Nat → Int32) (U : Nat → Nat → Int64) : f_J0_charAt_5068e (wn I L T U) [.ref 1000103, .int (nI 45)] = some (some (.int (nI 101)), wn I L T U) := rfl
set_option maxRecDepth 100000 in
theorem sc_3_46 (I : Nat → Int32) (L : Nat → Int64) (T : Nat → Nat → Int32) (U : Nat → Nat → Int64) : f_J0_charAt_5068e (wn I L T U) [.ref 1000103, .int (nI 46)] = some (some (.int (nI 32)), wn I L T U) := rfl
set_option maxRecDepth 100000 in
theorem sc_3_47 (I : Nat → Int32) (L : Nat → Int64) (T : Nat → Nat → Int32) (U : Nat → Nat → Int64) : f_J0_charAt_5068e (wn I L T U) [.ref 1000103, .int (nI 47)] = some (some (.int (nI 117)), wn I L T U) := rfl
set_option maxRecDepth 100000 in
theorem sc_3_48 (I : Nat → Int32) (L : Nat → Int64) (T : Nat → Nat → Int32) (U : Nat → Nat → Int64) : f_J0_charAt_5068e (wn I L T U) [.ref 1000103, .int (nI 48)] = some (some (.int (nI 110)), wn I L T U) := rfl
set_option maxRecDepth 100000 in
theorem sc_3_49 (I : Nat → Int32) (L : Nat → Int64) (T : Nat → Nat → Int32) (U : Nat → Nat → Int64) : f_J0_charAt_5068e (wn I L T U) [.ref 1000103, .int (nI 49)] = some (some (.int (nI 100)), wn I L T U) := rfl
set_option maxRecDepth 100000 in
theorem sc_3_50 (I : Nat → Int32) (L : Nat → Int64) (T : Nat → Nat → Int32) (U : Nat → Nat → Int64) : f_J0_charAt_5068e (wn I L T U) [.ref 1000103, .int (nI 50)] = some (some (.int (nI 101)), wn I L T U) := rfl
set_option maxRecDepth 100000 in
theorem sc_3_51 (I : Nat → Int32) (L : Nat → Int64) (T : Nat → Nat → Int32) (U : Nat → Nat → Int64) : f_J0_charAt_5068e (wn I L T U) [.ref 1000103, .int (nI 51)] = some (some (.int (nI 102)), wn I L T U) := rfl
set_option maxRecDepth 100000 in
theorem sc_3_52 (I : Nat → Int32) (L : Nat → Int64) (T : Nat → Nat → Int32) (U : Nat → Nat → Int64) : f_J0_charAt_5068e (wn I L T U) [.ref 1000103, .int (nI 52)] = some (some (.int (nI 32)), wn I L T U) := rfl
set_option maxRecDepth 100000 in
theorem sc_3_53 (I : Nat → Int32) (L : Nat → Int64) (T : Nat → Nat → Int32) (U : Nat → Nat → Int64) : f_J0_charAt_5068e (wn I L T U) [.ref 1000103, .int (nI 53)] = some (some (.int (nI 99)), wn I L T U) := rfl
set_option maxRecDepth 100000 in
theorem sc_3_54 (I : Nat → Int32) (L : Nat → Int64) (T : Nat → Nat → Int32) (U : Nat → Nat → Int64) : f_J0_charAt_5068e (wn I L T U) [.ref 1000103, .int (nI 54)] = some (some (.int (nI 117)), wn I L T U) := rfl
set_option maxRecDepth 100000 in
theorem sc_3_55 (I : Nat → Int32) (L : Nat → Int64) (T : Nat → Nat → Int32) (U : Nat → Nat → Int64) : f_J0_charAt_5068e (wn I L T U) [.ref 1000103, .int (nI 55)] = some (some (.int (nI 114)), wn I L T U) := rfl
set_option maxRecDepth 100000 in
theorem sc_3_56 (I : Nat → Int32) (L : Nat → Int64) (T : Nat → Nat → Int32) (U : Nat → Nat → Int64) : f_J0_charAt_5068e (wn I L T U) [.ref 1000103, .int (nI 56)] = some (some (.int (nI 114)), wn I L T U) := rfl
set_option maxRecDepth 100000 in
theorem sc_3_57 (I : Nat → Int32) (L : Nat → Int64) (T : Nat → Nat → Int32) (U : Nat → Nat → Int64) : f_J0_charAt_5068e (wn I L T U) [.ref 1000103, .int (nI 57)] = some (some (.int (nI 101)), wn I L T U) := rfl
set_option maxRecDepth 100000 in
theorem sc_3_58 (I : Nat → Int32) (L : Nat → Int64) (T : Nat → Nat → Int32) (U : Nat → Nat → Int64) : f_J0_charAt_5068e (wn I L T U) [.ref 1000103, .int (nI 58)] = some (some (.int (nI 110)), wn I L T U) := rfl
set_option maxRecDepth 100000 in
theorem sc_3_59 (I : Nat → Int32) (L : Nat → Int64) (T : Nat → Nat → Int32) (U : Nat → Nat → Int64) : f_J0_charAt_5068e (wn I L T U) [.ref 1000103, .int (nI 59)] = some (some (.int (nI 116)), wn I L T U) := rfl
set_option maxRecDepth 100000 in
theorem sc_3_60 (I : Nat → Int32) (L : Nat → Int64) (T : Nat → Nat → Int32) (U : Nat → Nat → Int64) : f_J0_charAt_5068e (wn I L T U) [.ref 1000103, .int (nI 60)] = some (some (.int (nI 100)), wn I L T U) := rfl
set_option maxRecDepth 100000 in
theorem sc_3_61 (I : Nat → Int32) (L : Nat → Int64) (T : Nat → Nat → Int32) (U : Nat → Nat → Int64) : f_J0_charAt_5068e (wn I L T U) [.ref 1000103, .int (nI 61)] = some (some (.int (nI 105)), wn I L T U) := rfl
set_option maxRecDepth 100000 in
theorem sc_3_62 (I : Nat → Int32) (L : Nat → Int64) (T : Nat → Nat → Int32) (U : Nat → Nat → Int64) : f_J0_charAt_5068e (wn I L T U) [.ref 1000103, .int (nI 62)] = some (some (.int (nI 99)), wn I L T U) := rfl
set_option maxRecDepth 100000 in
theorem sc_3_63 (I : Nat → Int32) (L : Nat → Int64) (T : Nat → Nat → Int32) (U : Nat → Nat → Int64) : f_J0_charAt_5068e (wn I L T U) [.ref 1000103, .int (nI 63)] = some (some (.int (nI 116)), wn I L T U) := rfl
set_option maxRecDepth 100000 in
theorem sc_3_64 (I : Nat → Int32) (L : Nat → Int64) (T : Nat → Nat → Int32) (U : Nat → Nat → Int64) : f_J0_charAt_5068e (wn I L T U) [.ref 1000103, .int (nI 64)] = some (some (.int (nI 32)), wn I L T U) := rfl
set_option maxRecDepth 100000 in
theorem sc_3_65 (I : Nat → Int32) (L : Nat → Int64) (T : Nat → Nat → Int32) (U : Nat → Nat → Int64) : f_J0_charAt_5068e (wn I L T U) [.ref 1000103, .int (nI 65)] = some (some (.int (nI 99)), wn I L T U) := rfl
set_option maxRecDepth 100000 in
theorem sc_3_66 (I : Nat → Int32) (L : Nat → Int64) (T : Nat → Nat → Int32) (U : Nat → Nat → Int64) : f_J0_charAt_5068e (wn I L T U) [.ref 1000103, .int (nI 66)] = some (some (.int (nI 111)), wn I L T U) := rfl
set_option maxRecDepth 100000 in
theorem sc_3_67 (I : Nat → Int32) (L : Nat → Int64) (T : Nat → Nat → Int32) (U : Nat → Nat → Int64) : f_J0_charAt_5068e (wn I L T U) [.ref 1000103, .int (nI 67)] = some (some (.int (nI 117)), wn I L T U) := rfl
set_option maxRecDepth 100000 in
theorem sc_3_68 (I : Nat → Int32) (L : Nat → Int64) (T : Nat → Nat → Int32) (U : Nat → Nat → Int64) : f_J0_charAt_5068e (wn I L T U) [.ref 1000103, .int (nI 68)] = some (some (.int (nI 110)), wn I L T U) := rfl
set_option maxRecDepth 100000 in
theorem sc_3_69 (I : Nat → Int32) (L : Nat → Int64) (T : Nat → Nat → Int32) (U : Nat → Nat → Int64) : f_J0_charAt_5068e (wn I L T U) [.ref 1000103, .int (nI 69)] = some (some (.int (nI 116)), wn I L T U) := rfl
set_option maxRecDepth 100000 in
theorem sc_3_70 (I : Nat → Int32) (L : Nat → Int64) (T : Nat → Nat → Int32) (U : Nat → Nat → Int64) : f_J0_charAt_5068e (wn I L T U) [.ref 1000103, .int (nI 70)] = some (some (.int (nI 100)), wn I L T U) := rfl
set_option maxRecDepth 100000 in
theorem sc_3_71 (I : Nat → Int32) (L : Nat → Int64) (T : Nat → Nat → Int32) (U : Nat → Nat → Int64) : f_J0_charAt_5068e (wn I L T U) [.ref 1000103, .int (nI 71)] = some (some (.int (nI 105)), wn I L T U) := rfl
set_option maxRecDepth 100000 in
theorem sc_3_72 (I : Nat → Int32) (L : Nat → Int64) (T : Nat → Nat → Int32) (U : Nat → Nat → Int64) : f_J0_charAt_5068e (wn I L T U) [.ref 1000103, .int (nI 72)] = some (some (.int (nI 99)), wn I L T U) := rfl
set_option maxRecDepth 100000 in
theorem sc_3_73 (I : Nat → Int32) (L : Nat → Int64) (T : Nat → Nat → Int32) (U : Nat → Nat → Int64) : f_J0_charAt_5068e (wn I L T U) [.ref 1000103, .int (nI 73)] = some (some (.int (nI 116)), wn I L T U) := rfl
set_option maxRecDepth 100000 in
theorem sc_3_74 (I : Nat → Int32) (L : Nat → Int64) (T : Nat → Nat → Int32) (U : Nat → Nat → Int64) : f_J0_charAt_5068e (wn I L T U) [.ref 1000103, .int (nI 74)] = some (some (.int (nI 115)), wn I L T U) := rfl
set_option maxRecDepth 100000 in
theorem sc_3_75 (I : Nat → Int32) (L : Nat → Int64) (T : Nat → Nat → Int32) (U : Nat → Nat → Int64) : f_J0_charAt_5068e (wn I L T U) [.ref 1000103, .int (nI 75)] = some (some (.int (nI 116)), wn I L T U) := rfl
set_option maxRecDepth 100000 in
theorem sc_3_76 (I : Nat → Int32) (L : Nat → Int64) (T : Nat → Nat → Int32) (U : Nat → Nat → Int64) : f_J0_charAt_5068e (wn I L T U) [.ref 1000103, .int (nI 76)] = some (some (.int (nI 97)), wn I L T U) := rfl
set_option maxRecDepth 100000 in
theorem sc_3_77 (I : Nat → Int32) (L : Nat → Int64) (T : Nat → Nat → Int32) (U : Nat → Nat → Int64) : f_J0_charAt_5068e (wn I L T U) [.ref 1000103, .int (nI 77)] = some (some (.int (nI 99)), wn I L T U) := rfl
set_option maxRecDepth 100000 in
theorem sc_3_78 (I : Nat → Int32) (L : Nat → Int64) (T : Nat → Nat → Int32) (U : Nat → Nat → Int64) : f_J0_charAt_5068e (wn I L T U) [.ref 1000103, .int (nI 78)] = some (some (.int (nI 107)), wn I L T U) := rfl
set_option maxRecDepth 100000 in
theorem sc_3_79 (I : Nat → Int32) (L : Nat → Int64) (T : Nat → Nat → Int32) (U : Nat → Nat → Int64) : f_J0_charAt_5068e (wn I L T U) [.ref 1000103, .int (nI 79)] = some (some (.int (nI 32)), wn I L T U) := rfl
def ch_3 (k : Nat) : Nat := [93, 32, 62, 62, 32, 100, 105, 99, 116, 32, 98, 101, 103, 105, 110, 32, 101, 110, 100, 32, 100, 101, 102, 32, 108, 111, 97, 100, 32, 115, 116, 111, 114, 101, 32, 107, 110, 111, 119, 110, 32, 119, 104, 101, 114, 101, 32, 117, 110, 100, 101, 102, 32, 99, 117, 114, 114, 101, 110, 116, 100, 105, 99, 116, 32, 99, 111, 117, 110, 116, 100, 105, 99, 116, 115, 116, 97, 99, 107, 32].getD k 0
set_option maxRecDepth 100000 in
theorem sc_3 {I : Nat → Int32} {L : Nat → Int64} {T : Nat → Nat → Int32} {U : Nat → Nat → Int64} : ∀ k, k < 80 → f_J0_charAt_5068e (wn I L T U) [.ref 1000103, .int (nI k)] = some (some (.int (nI (ch_3 k))), wn I L T U) := (al (al (al (al (al (al (al (al (al (al (al (al (al (al (al (al (al (al (al (al (al (al (al (al (al (al (al (al (al (al (al (al (al (al (al (al (al (al (al (al (al (al (al (al (al (al (al (al (al (al (al (al (al (al (al (al (al (al (al (al (al (al (al (al (al (al (al (al (al (al (al (al (al (al (al (al (al (al (al (al (fun k h => absurd h (Nat.not_lt_zero k)) (sc_3_0 I L T U)) (sc_3_1 I L T U)) (sc_3_2 I L T U)) (sc_3_3 I L T U)) (sc_3_4 I L T U)) (sc_3_5 I L T U)) (sc_3_6 I L T U)) (sc_3_7 I L T U)) (sc_3_8 I L T U)) (sc_3_9 I L T U)) (sc_3_10 I L T U)) (sc_3_11 I L T U)) (sc_3_12 I L T U)) (sc_3_13 I L T U)) (sc_3_14 I L T U)) (sc_3_15 I L T U)) (sc_3_16 I L T U)) (sc_3_17 I L T U)) (sc_3_18 I L T U)) (sc_3_19 I L T U)) (sc_3_20 I L T U)) (sc_3_21 I L T U)) (sc_3_22 I L T U)) (sc_3_23 I L T U)) (sc_3_24 I L T U)) (sc_3_25 I L T U)) (sc_3_26 I L T U)) (sc_3_27 I L T U)) (sc_3_28 I L T U)) (sc_3_29 I L T U)) (sc_3_30 I L T U)) (sc_3_31 I L T U)) (sc_3_32 I L T U)) (sc_3_33 I L T U)) (sc_3_34 I L T U)) (sc_3_35 I L T U)) (sc_3_36 I L T U)) (sc_3_37 I L T U)) (sc_3_38 I L T U)) (sc_3_39 I L T U)) (sc_3_40 I L T U)) (sc_3_41 I L T U)) (sc_3_42 I L T U)) (sc_3_43 I L T U)) (sc_3_44 I L T U)) (sc_3_45 I L T U)) (sc_3_46 I L T U)) (sc_3_47 I L T U)) (sc_3_48 I L T U)) (sc_3_49 I L T U)) (sc_3_50 I L T U)) (sc_3_51 I L T U)) (sc_3_52 I L T U)) (sc_3_53 I L T U)) (sc_3_54 I L T U)) (sc_3_55 I L T U)) (sc_3_56 I L T U)) (sc_3_57 I L T U)) (sc_3_58 I L T U)) (sc_3_59 I L T U)) (sc_3_60 I L T U)) (sc_3_61 I L T U)) (sc_3_62 I L T U)) (sc_3_63 I L T U)) (sc_3_64 I L T U)) (sc_3_65 I L T U)) (sc_3_66 I L T U)) (sc_3_67 I L T U)) (sc_3_68 I L T U)) (sc_3_69 I L T U)) (sc_3_70 I L T U)) (sc_3_71 I L T U)) (sc_3_72 I L T U)) (sc_3_73 I L T U)) (sc_3_74 I L T U)) (sc_3_75 I L T U)) (sc_3_76 I L T U)) (sc_3_77 I L T U)) (sc_3_78 I L T U)) (sc_3_79 I L T U))
set_option maxRecDepth 100000 in
theorem sc_4_0 (I : Nat → Int32) (L : Nat → Int64) (T : Nat → Nat → Int32) (U : Nat → Nat → Int64) : f_J0_charAt_5068e (wn I L T U) [.ref 1000104, .int (nI 0)] = some (some (.int (nI 109)), wn I L T U) := rfl
set_option maxRecDepth 100000 in
theorem sc_4_1 (I : Nat → Int32) (L : Nat → Int64) (T : Nat → Nat → Int32) (U : Nat → Nat → Int64) : f_J0_charAt_5068e (wn I L T U) [.ref 1000104, .int (nI 1)] = some (some (.int (nI 97)), wn I L T U) := rfl
set_option maxRecDepth 100000 in
theorem sc_4_2 (I : Nat → Int32) (L : Nat → Int64) (T : Nat → Nat → Int32) (U : Nat → Nat → Int64) : f_J0_charAt_5068e (wn I L T U) [.ref 1000104, .int (nI 2)] = some (some (.int (nI 120)), wn I L T U) := rfl
set_option maxRecDepth 100000 in
theorem sc_4_3 (I : Nat → Int32) (L : Nat → Int64) (T : Nat → Nat → Int32) (U : Nat → Nat → Int64) : f_J0_charAt_5068e (wn I L T U) [.ref 1000104, .int (nI 3)] = some (some (.int (nI 108)), wn I L T U) := rfl
set_option maxRecDepth 100000 in
theorem sc_4_4 (I : Nat → Int32) (L : Nat → Int64) (T : Nat → Nat → Int32) (U : Nat → Nat → Int64) : f_J0_charAt_5068e (wn I L T U) [.ref 1000104, .int (nI 4)] = some (some (.int (nI 101)), wn I L T U) := rfl
set_option maxRecDepth 100000 in
theorem sc_4_5 (I : Nat → Int32) (L : Nat → Int64) (T : Nat → Nat → Int32) (U : Nat → Nat → Int64) : f_J0_charAt_5068e (wn I L T U) [.ref 1000104, .int (nI 5)] = some (some (.int (nI 110)), wn I L T U) := rfl
set_option maxRecDepth 100000 in
theorem sc_4_6 (I : Nat → Int32) (L : Nat → Int64) (T : Nat → Nat → Int32) (U : Nat → Nat → Int64) : f_J0_charAt_5068e (wn I L T U) [.ref 1000104, .int (nI 6)] = some (some (.int (nI 103)), wn I L T U) := rfl
set_option maxRecDepth 100000 in
theorem sc_4_7 (I : Nat → Int32) (L : Nat → Int64) (T : Nat → Nat → Int32) (U : Nat → Nat → Int64) : f_J0_charAt_5068e (wn I L T U) [.ref 1000104, .int (nI 7)] = some (some (.int (nI 116)), wn I L T U) := rfl
set_option maxRecDepth 100000 in
theorem sc_4_8 (I : Nat → Int32) (L : Nat → Int64) (T : Nat → Nat → Int32) (U : Nat → Nat → Int64) : f_J0_charAt_5068e (wn I L T U) [.ref 1000104, .int (nI 8)] = some (some (.int (nI 104)), wn I L T U) := rfl
set_option maxRecDepth 100000 in
theorem sc_4_9 (I : Nat → Int32) (L : Nat → Int64) (T : Nat → Nat → Int32) (U : Nat → Nat → Int64) : f_J0_charAt_5068e (wn I L T U) [.ref 1000104, .int (nI 9)] = some (some (.int (nI 32)), wn I L T U) := rfl
set_option maxRecDepth 100000 in
theorem sc_4_10 (I : Nat → Int32) (L : Nat → Int64) (T : Nat → Nat → Int32) (U : Nat → Nat → Int64) : f_J0_charAt_5068e (wn I L T U) [.ref 1000104, .int (nI 10)] = some (some (.int (nI 101)), wn I L T U) := rfl
set_option maxRecDepth 100000 in
theorem sc_4_11 (I : Nat → Int32) (L : Nat → Int64) (T : Nat → Nat → Int32) (U : Nat → Nat → Int64) : f_J0_charAt_5068e (wn I L T U) [.ref 1000104, .int (nI 11)] = some (some (.int (nI 120)), wn I L T U) := rfl
set_option maxRecDepth 100000 in
theorem sc_4_12 (I : Nat → Int32) (L : Nat → Int64) (T : Nat → Nat → Int32) (U : Nat → Nat → Int64) : f_J0_charAt_5068e (wn I L T U) [.ref 1000104, .int (nI 12)] = some (some (.int (nI 101)), wn I L T U) := rfl
set_option maxRecDepth 100000 in
theorem sc_4_13 (I : Nat → Int32) (L : Nat → Int64) (T : Nat → Nat → Int32) (U : Nat → Nat → Int64) : f_J0_charAt_5068e (wn I L T U) [.ref 1000104, .int (nI 13)] = some (some (.int (nI 99)), wn I L T U) := rfl
set_option maxRecDepth 100000 in
theorem sc_4_14 (I : Nat → Int32) (L : Nat → Int64) (T : Nat → Nat → Int32) (U : Nat → Nat → Int64) : f_J0_charAt_5068e (wn I L T U) [.ref 1000104, .int (nI 14)] = some (some (.int (nI 32)), wn I L T U) := rfl
set_option maxRecDepth 100000 in
theorem sc_4_15 (I : Nat → Int32) (L : Nat → Int64) (T : Nat → Nat → Int32) (U : Nat → Nat → Int64) : f_J0_charAt_5068e (wn I L T U) [.ref 1000104, .int (nI 15)] = some (some (.int (nI 105)), wn I L T U) := rfl
set_option maxRecDepth 100000 in
theorem sc_4_16 (I : Nat → Int32) (L : Nat → Int64) (T : Nat → Nat → Int32) (U : Nat → Nat → Int64) : f_J0_charAt_5068e (wn I L T U) [.ref 1000104, .int (nI 16)] = some (some (.int (nI 102)), wn I L T U) := rfl
set_option maxRecDepth 100000 in
theorem sc_4_17 (I : Nat → Int32) (L : Nat → Int64) (T : Nat → Nat → Int32) (U : Nat → Nat → Int64) : f_J0_charAt_5068e (wn I L T U) [.ref 1000104, .int (nI 17)] = some (some (.int (nI 32)), wn I L T U) := rfl
set_option maxRecDepth 100000 in
theorem sc_4_18 (I : Nat → Int32) (L : Nat → Int64) (T : Nat → Nat → Int32) (U : Nat → Nat → Int64) : f_J0_charAt_5068e (wn I L T U) [.ref 1000104, .int (nI 18)] = some (some (.int (nI 105)), wn I L T U) := rfl
set_option maxRecDepth 100000 in
theorem sc_4_19 (I : Nat → Int32) (L : Nat → Int64) (T : Nat → Nat → Int32) (U : Nat → Nat → Int64) : f_J0_charAt_5068e (wn I L T U) [.ref 1000104, .int (nI 19)] = some (some (.int (nI 102)), wn I L T U) := rfl
set_option maxRecDepth 100000 in
theorem sc_4_20 (I : Nat → Int32) (L : Nat → Int64) (T : Nat → Nat → Int32) (U : Nat → Nat → Int64) : f_J0_charAt_5068e (wn I L T U) [.ref 1000104, .int (nI 20)] = some (some (.int (nI 101)), wn I L T U) := rfl
set_option maxRecDepth 100000 in
theorem sc_4_21 (I : Nat → Int32) (L : Nat → Int64) (T : Nat → Nat → Int32) (U : Nat → Nat → Int64) : f_J0_charAt_5068e (wn I L T U) [.ref 1000104, .int (nI 21)] = some (some (.int (nI 108)), wn I L T U) := rfl
set_option maxRecDepth 100000 in
theorem sc_4_22 (I : Nat → Int32) (L : Nat → Int64) (T : Nat → Nat → Int32) (U : Nat → Nat → Int64) : f_J0_charAt_5068e (wn I L T U) [.ref 1000104, .int (nI 22)] = some (some (.int (nI 115)), wn I L T U) := rfl
set_option maxRecDepth 100000 in
theorem sc_4_23 (I : Nat → Int32) (L : Nat → Int64) (T : Nat → Nat → Int32) (U : Nat → Nat → Int64) : f_J0_charAt_5068e (wn I L T U) [.ref 1000104, .int (nI 23)] = some (some (.int (nI 101)), wn I L T U) := rfl
set_option maxRecDepth 100000 in
theorem sc_4_24 (I : Nat → Int32) (L : Nat → Int64) (T : Nat → Nat → Int32) (U : Nat → Nat → Int64) : f_J0_charAt_5068e (wn I L T U) [.ref 1000104, .int (nI 24)] = some (some (.int (nI 32)), wn I L T U) := rfl
set_option maxRecDepth 100000 in
theorem sc_4_25 (I : Nat → Int32) (L : Nat → Int64) (T : Nat → Nat → Int32) (U : Nat → Nat → Int64) : f_J0_charAt_5068e (wn I L T U) [.ref 1000104, .int (nI 25)] = some (some (.int (nI 102)), wn I L T U) := rfl
set_option maxRecDepth 100000 in
theorem sc_4_26 (I : Nat → Int32) (L : Nat → Int64) (T : Nat → Nat → Int32) (U : Nat → Nat → Int64) : f_J0_charAt_5068e (wn I L T U) [.ref 1000104, .int (nI 26)] = some (some (.int (nI 111)), wn I L T U) := rfl
set_option maxRecDepth 100000 in
theorem sc_4_27 (I : Nat → Int32) (L : Nat → Int64) (T : Nat → Nat → Int32) (U : Nat → Nat → Int64) : f_J0_charAt_5068e (wn I L T U) [.ref 1000104, .int (nI 27)] = some (some (.int (nI 114)), wn I L T U) := rfl
set_option maxRecDepth 100000 in
theorem sc_4_28 (I : Nat → Int32) (L : Nat → Int64) (T : Nat → Nat → Int32) (U : Nat → Nat → Int64) : f_J0_charAt_5068e (wn I L T U) [.ref 1000104, .int (nI 28)] = some (some (.int (nI 32)), wn I L T U) := rfl
set_option maxRecDepth 100000 in
theorem sc_4_29 (I : Nat → Int32) (L : Nat → Int64) (T : Nat → Nat → Int32) (U : Nat → Nat → Int64) : f_J0_charAt_5068e (wn I L T U) [.ref 1000104, .int (nI 29)] = some (some (.int (nI 114)), wn I L T U) := rfl
set_option maxRecDepth 100000 in
theorem sc_4_30 (I : Nat → Int32) (L : Nat → Int64) (T : Nat → Nat → Int32) (U : Nat → Nat → Int64) : f_J0_charAt_5068e (wn I L T U) [.ref 1000104, .int (nI 30)] = some (some (.int (nI 101)), wn I L T U) := rfl
set_option maxRecDepth 100000 in
theorem sc_4_31 (I : Nat → Int32) (L : Nat → Int64) (T : Nat → Nat → Int32) (U : Nat → Nat → Int64) : f_J0_charAt_5068e (wn I L T U) [.ref 1000104, .int (nI 31)] = some (some (.int (nI 112)), wn I L T U) := rfl
set_option maxRecDepth 100000 in
theorem sc_4_32 (I : Nat → Int32) (L : Nat → Int64) (T : Nat → Nat → Int32) (U : Nat → Nat → Int64) : f_J0_charAt_5068e (wn I L T U) [.ref 1000104, .int (nI 32)] = some (some (.int (nI 101)), wn I L T U) := rfl
set_option maxRecDepth 100000 in
theorem sc_4_33 (I : Nat → Int32) (L : Nat → Int64) (T : Nat → Nat → Int32) (U : Nat → Nat → Int64) : f_J0_charAt_5068e (wn I L T U) [.ref 1000104, .int (nI 33)] = some (some (.int (nI 97)), wn I L T U) := rfl
set_option maxRecDepth 100000 in
theorem sc_4_34 (I : Nat → Int32) (L : Nat → Int64) (T : Nat → Nat → Int32) (U : Nat → Nat → Int64) : f_J0_charAt_5068e (wn I L T U) [.ref 1000104, .int (nI 34)] = some (some (.int (nI 116)), wn I L T U) := rfl
set_option maxRecDepth 100000 in
theorem sc_4_35 (I : Nat → Int32) (L : Nat → Int64) (T : Nat → Nat → Int32) (U : Nat → Nat → Int64) : f_J0_charAt_5068e (wn I L T U) [.ref 1000104, .int (nI 35)] = some (some (.int (nI 32)), wn I L T U) := rfl
set_option maxRecDepth 100000 in
theorem sc_4_36 (I : Nat → Int32) (L : Nat → Int64) (T : Nat → Nat → Int32) (U : Nat → Nat → Int64) : f_J0_charAt_5068e (wn I L T U) [.ref 1000104, .int (nI 36)] = some (some (.int (nI 108)), wn I L T U) := rfl
set_option maxRecDepth 100000 in
theorem sc_4_37 (I : Nat → Int32) (L : Nat → Int64) (T : Nat → Nat → Int32) (U : Nat → Nat → Int64) : f_J0_charAt_5068e (wn I L T U) [.ref 1000104, .int (nI 37)] = some (some (.int (nI 111)), wn I L T U) := rfl
set_option maxRecDepth 100000 in
theorem sc_4_38 (I : Nat → Int32) (L : Nat → Int64) (T : Nat → Nat → Int32) (U : Nat → Nat → Int64) : f_J0_charAt_5068e (wn I L T U) [.ref 1000104, .int (nI 38)] = some (some (.int (nI 111)), wn I L T U) := rfl
set_option maxRecDepth 100000 in
theorem sc_4_39 (I : Nat → Int32) (L : Nat → Int64) (T : Nat → Nat → Int32) (U : Nat → Nat → Int64) : f_J0_charAt_5068e (wn I L T U) [.ref 1000104, .int (nI 39)] = some (some (.int (nI 112)), wn I L T U) := rfl
set_option maxRecDepth 100000 in
theorem sc_4_40 (I : Nat → Int32) (L : Nat → Int64) (T : Nat → Nat → Int32) (U : Nat → Nat → Int64) : f_J0_charAt_5068e (wn I L T U) [.ref 1000104, .int (nI 40)] = some (some (.int (nI 32)), wn I L T U) := rfl
set_option maxRecDepth 100000 in
theorem sc_4_41 (I : Nat → Int32) (L : Nat → Int64) (T : Nat → Nat → Int32) (U : Nat → Nat → Int64) : f_J0_charAt_5068e (wn I L T U) [.ref 1000104, .int (nI 41)] = some (some (.int (nI 102)), wn I L T U) := rfl
set_option maxRecDepth 100000 in
theorem sc_4_42 (I : Nat → Int32) (L : Nat → Int64) (T : Nat → Nat → Int32) (U : Nat → Nat → Int64) : f_J0_charAt_5068e (wn I L T U) [.ref 1000104, .int (nI 42)] = some (some (.int (nI 111)), wn I L T U) := rfl
set_option maxRecDepth 100000 in
theorem sc_4_43 (I : Nat → Int32) (L : Nat → Int64) (T : Nat → Nat → Int32) (U : Nat → Nat → Int64) : f_J0_charAt_5068e (wn I L T U) [.ref 1000104, .int (nI 43)] = some (some (.int (nI 114)), wn I L T U) := rfl
set_option maxRecDepth 100000 in
theorem sc_4_44 (I : Nat → Int32) (L : Nat → Int64) (T : Nat → Nat → Int32) (U : Nat → Nat → Int64) : f_J0_charAt_5068e (wn I L T U) [.ref 1000104, .int (nI 44)] = some (some (.int (nI 97)), wn I L T U) := rfl
set_option maxRecDepth 100000 in
theorem sc_4_45 (I : Nat → Int32) (L : Nat → Int64) (T : Nat → Nat → Int32) (U : Nat → Nat → Int64) : f_J0_charAt_5068e (wn I L T U) [.ref 1000104, .int (nI 45)] = some (some (.int (nI 108)), wn I L T U) := rfl
set_option maxRecDepth 100000 in
theorem sc_4_46 (I : Nat → Int32) (L : Nat → Int64) (T : Nat → Nat → Int32) (U : Nat → Nat → Int64) : f_J0_charAt_5068e (wn I L T U) [.ref 1000104, .int (nI 46)] = some (some (.int (nI 108)), wn I L T U) := rfl
set_option maxRecDepth 100000 in
theorem sc_4_47 (I : Nat → Int32) (L : Nat → Int64) (T : Nat → Nat → Int32) (U : Nat → Nat → Int64) : f_J0_charAt_5068e (wn I L T U) [.ref 1000104, .int (nI 47)] = some (some (.int (nI 32)), wn I L T U) := rfl
set_option maxRecDepth 100000 in
theorem sc_4_48 (I : Nat → Int32) (L : Nat → Int64) (T : Nat → Nat → Int32) (U : Nat → Nat → Int64) : f_J0_charAt_5068e (wn I L T U) [.ref 1000104, .int (nI 48)] = some (some (.int (nI 101)), wn I L T U) := rfl
set_option maxRecDepth 100000 in
theorem sc_4_49 (I : Nat → Int32) (L : Nat → Int64) (T : Nat → Nat → Int32) (U : Nat → Nat → Int64) : f_J0_charAt_5068e (wn I L T U) [.ref 1000104, .int (nI 49)] = some (some (.int (nI 120)), wn I L T U) := rfl
set_option maxRecDepth 100000 in
theorem sc_4_50 (I : Nat → Int32) (L : Nat → Int64) (T : Nat → Nat → Int32) (U : Nat → Nat → Int64) : f_J0_charAt_5068e (wn I L T U) [.ref 1000104, .int (nI 50)] = some (some (.int (nI 105)), wn I L T U) := rfl
set_option maxRecDepth 100000 in
theorem sc_4_51 (I : Nat → Int32) (L : Nat → Int64) (T : Nat → Nat → Int32) (U : Nat → Nat → Int64) : f_J0_charAt_5068e (wn I L T U) [.ref 1000104, .int (nI 51)] = some (some (.int (nI 116)), wn I L T U) := rfl
set_option maxRecDepth 100000 in
theorem sc_4_52 (I : Nat → Int32) (L : Nat → Int64) (T : Nat → Nat → Int32) (U : Nat → Nat → Int64) : f_J0_charAt_5068e (wn I L T U) [.ref 1000104, .int (nI 52)] = some (some (.int (nI 32)), wn I L T U) := rfl
set_option maxRecDepth 100000 in
theorem sc_4_53 (I : Nat → Int32) (L : Nat → Int64) (T : Nat → Nat → Int32) (U : Nat → Nat → Int64) : f_J0_charAt_5068e (wn I L T U) [.ref 1000104, .int (nI 53)] = some (some (.int (nI 115)), wn I L T U) := rfl
set_option maxRecDepth 100000 in
theorem sc_4_54 (I : Nat → Int32) (L : Nat → Int64) (T : Nat → Nat → Int32) (U : Nat → Nat → Int64) : f_J0_charAt_5068e (wn I L T U) [.ref 1000104, .int (nI 54)] = some (some (.int (nI 116)), wn I L T U) := rfl
set_option maxRecDepth 100000 in
theorem sc_4_55 (I : Nat → Int32) (L : Nat → Int64) (T : Nat → Nat → Int32) (U : Nat → Nat → Int64) : f_J0_charAt_5068e (wn I L T U) [.ref 1000104, .int (nI 55)] = some (some (.int (nI 111)), wn I L T U) := rfl
set_option maxRecDepth 100000 in
theorem sc_4_56 (I : Nat → Int32) (L : Nat → Int64) (T : Nat → Nat → Int32) (U : Nat → Nat → Int64) : f_J0_charAt_5068e (wn I L T U) [.ref 1000104, .int (nI 56)] = some (some (.int (nI 112)), wn I L T U) := rfl
set_option maxRecDepth 100000 in
theorem sc_4_57 (I : Nat → Int32) (L : Nat → Int64) (T : Nat → Nat → Int32) (U : Nat → Nat → Int64) : f_J0_charAt_5068e (wn I L T U) [.ref 1000104, .int (nI 57)] = some (some (.int (nI 32)), wn I L T U) := rfl
set_option maxRecDepth 100000 in
theorem sc_4_58 (I : Nat → Int32) (L : Nat → Int64) (T : Nat → Nat → Int32) (U : Nat → Nat → Int64) : f_J0_charAt_5068e (wn I L T U) [.ref 1000104, .int (nI 58)] = some (some (.int (nI 115)), wn I L T U) := rfl
set_option maxRecDepth 100000 in
theorem sc_4_59 (I : Nat → Int32) (L : Nat → Int64) (T : Nat → Nat → Int32) (U : Nat → Nat → Int64) : f_J0_charAt_5068e (wn I L T U) [.ref 1000104, .int (nI 59)] = some (some (.int (nI 116)), wn I L T U) := rfl
set_option maxRecDepth 100000 in
theorem sc_4_60 (I : Nat → Int32) (L : Nat → Int64) (T : Nat → Nat → Int32) (U : Nat → Nat → Int64) : f_J0_charAt_5068e (wn I L T U) [.ref 1000104, .int (nI 60)] = some (some (.int (nI 111)), wn I L T U) := rfl
set_option maxRecDepth 100000 in
theorem sc_4_61 (I : Nat → Int32) (L : Nat → Int64) (T : Nat → Nat → Int32) (U : Nat → Nat → Int64) : f_J0_charAt_5068e (wn I L T U) [.ref 1000104, .int (nI 61)] = some (some (.int (nI 112)), wn I L T U) := rfl
set_option maxRecDepth 100000 in
theorem sc_4_62 (I : Nat → Int32) (L : Nat → Int64) (T : Nat → Nat → Int32) (U : Nat → Nat → Int64) : f_J0_charAt_5068e (wn I L T U) [.ref 1000104, .int (nI 62)] = some (some (.int (nI 112)), wn I L T U) := rfl
set_option maxRecDepth 100000 in
theorem sc_4_63 (I : Nat → Int32) (L : Nat → Int64) (T : Nat → Nat → Int32) (U : Nat → Nat → Int64) : f_J0_charAt_5068e (wn I L T U) [.ref 1000104, .int (nI 63)] = some (some (.int (nI 101)), wn I L T U) := rfl
set_option maxRecDepth 100000 in
theorem sc_4_64 (I : Nat → Int32) (L : Nat → Int64) (T : Nat → Nat → Int32) (U : Nat → Nat → Int64) : f_J0_charAt_5068e (wn I L T U) [.ref 1000104, .int (nI 64)] = some (some (.int (nI 100)), wn I L T U) := rfl
set_option maxRecDepth 100000 in
theorem sc_4_65 (I : Nat → Int32) (L : Nat → Int64) (T : Nat → Nat → Int32) (U : Nat → Nat → Int64) : f_J0_charAt_5068e (wn I L T U) [.ref 1000104, .int (nI 65)] = some (some (.int (nI 32)), wn I L T U) := rfl
set_option maxRecDepth 100000 in
theorem sc_4_66 (I : Nat → Int32) (L : Nat → Int64) (T : Nat → Nat → Int32) (U : Nat → Nat → Int64) : f_J0_charAt_5068e (wn I L T U) [.ref 1000104, .int (nI 66)] = some (some (.int (nI 113)), wn I L T U) := rfl
set_option maxRecDepth 100000 in
theorem sc_4_67 (I : Nat → Int32) (L : Nat → Int64) (T : Nat → Nat → Int32) (U : Nat → Nat → Int64) : f_J0_charAt_5068e (wn I L T U) [.ref 1000104, .int (nI 67)] = some (some (.int (nI 117)), wn I L T U) := rfl
set_option maxRecDepth 100000 in
theorem sc_4_68 (I : Nat → Int32) (L : Nat → Int64) (T : Nat → Nat → Int32) (U : Nat → Nat → Int64) : f_J0_charAt_5068e (wn I L T U) [.ref 1000104, .int (nI 68)] = some (some (.int (nI 105)), wn I L T U) := rfl
set_option maxRecDepth 100000 in
theorem sc_4_69 (I : Nat → Int32) (L : Nat → Int64) (T : Nat → Nat → Int32) (U : Nat → Nat → Int64) : f_J0_charAt_5068e (wn I L T U) [.ref 1000104, .int (nI 69)] = some (some (.int (nI 116)), wn I L T U) := rfl
set_option maxRecDepth 100000 in
theorem sc_4_70 (I : Nat → Int32) (L : Nat → Int64) (T : Nat → Nat → Int32) (U : Nat → Nat → Int64) : f_J0_charAt_5068e (wn I L T U) [.ref 1000104, .int (nI 70)] = some (some (.int (nI 32)), wn I L T U) := rfl
def ch_4 (k : Nat) : Nat := [109, 97, 120, 108, 101, 110, 103, 116, 104, 32, 101, 120, 101, 99, 32, 105, 102, 32, 105, 102, 101, 108, 115, 101, 32, 102, 111, 114, 32, 114, 101, 112, 101, 97, 116, 32, 108, 111, 111, 112, 32, 102, 111, 114, 97, 108, 108, 32, 101, 120, 105, 116, 32, 115, 116, 111, 112, 32, 115, 116, 111, 112, 112, 101, 100, 32, 113, 117, 105, 116, 32].getD k 0
set_option maxRecDepth 100000 in
theorem sc_4 {I : Nat → Int32} {L : Nat → Int64} {T : Nat → Nat → Int32} {U : Nat → Nat → Int64} : ∀ k, k < 71 → f_J0_charAt_5068e (wn I L T U) [.ref 1000104, .int (nI k)] = some (some (.int (nI (ch_4 k))), wn I L T U) := (al (al (al (al (al (al (al (al (al (al (al (al (al (al (al (al (al (al (al (al (al (al (al (al (al (al (al (al (al (al (al (al (al (al (al (al (al (al (al (al (al (al (al (al (al (al (al (al (al (al (al (al (al (al (al (al (al (al (al (al (al (al (al (al (al (al (al (al (al (al (al (fun k h => absurd h (Nat.not_lt_zero k)) (sc_4_0 I L T U)) (sc_4_1 I L T U)) (sc_4_2 I L T U)) (sc_4_3 I L T U)) (sc_4_4 I L T U)) (sc_4_5 I L T U)) (sc_4_6 I L T U)) (sc_4_7 I L T U)) (sc_4_8 I L T U)) (sc_4_9 I L T U)) (sc_4_10 I L T U)) (sc_4_11 I L T U)) (sc_4_12 I L T U)) (sc_4_13 I L T U)) (sc_4_14 I L T U)) (sc_4_15 I L T U)) (sc_4_16 I L T U)) (sc_4_17 I L T U)) (sc_4_18 I L T U)) (sc_4_19 I L T U)) (sc_4_20 I L T U)) (sc_4_21 I L T U)) (sc_4_22 I L T U)) (sc_4_23 I L T U)) (sc_4_24 I L T U)) (sc_4_25 I L T U)) (sc_4_26 I L T U)) (sc_4_27 I L T U)) (sc_4_28 I L T U)) (sc_4_29 I L T U)) (sc_4_30 I L T U)) (sc_4_31 I L T U)) (sc_4_32 I L T U)) (sc_4_33 I L T U)) (sc_4_34 I L T U)) (sc_4_35 I L T U)) (sc_4_36 I L T U)) (sc_4_37 I L T U)) (sc_4_38 I L T U)) (sc_4_39 I L T U)) (sc_4_40 I L T U)) (sc_4_41 I L T U)) (sc_4_42 I L T U)) (sc_4_43 I L T U)) (sc_4_44 I L T U)) (sc_4_45 I L T U)) (sc_4_46 I L T U)) (sc_4_47 I L T U)) (sc_4_48 I L T U)) (sc_4_49 I L T U)) (sc_4_50 I L T U)) (sc_4_51 I L T U)) (sc_4_52 I L T U)) (sc_4_53 I L T U)) (sc_4_54 I L T U)) (sc_4_55 I L T U)) (sc_4_56 I L T U)) (sc_4_57 I L T U)) (sc_4_58 I L T U)) (sc_4_59 I L T U)) (sc_4_60 I L T U)) (sc_4_61 I L T U)) (sc_4_62 I L T U)) (sc_4_63 I L T U)) (sc_4_64 I L T U)) (sc_4_65 I L T U)) (sc_4_66 I L T U)) (sc_4_67 I L T U)) (sc_4_68 I L T U)) (sc_4_69 I L T U)) (sc_4_70 I L T U))
set_option maxRecDepth 100000 in
theorem sc_5_0 (I : Nat → Int32) (L : Nat → Int64) (T : Nat → Nat → Int32) (U : Nat → Nat → Int64) : f_J0_charAt_5068e (wn I L T U) [.ref 1000105, .int (nI 0)] = some (some (.int (nI 98)), wn I L T U) := rfl
set_option maxRecDepth 100000 in
theorem sc_5_1 (I : Nat → Int32) (L : Nat → Int64) (T : Nat → Nat → Int32) (U : Nat → Nat → Int64) : f_J0_charAt_5068e (wn I L T U) [.ref 1000105, .int (nI 1)] = some (some (.int (nI 105)), wn I L T U) := rfl
set_option maxRecDepth 100000 in
theorem sc_5_2 (I : Nat → Int32) (L : Nat → Int64) (T : Nat → Nat → Int32) (U : Nat → Nat → Int64) : f_J0_charAt_5068e (wn I L T U) [.ref 1000105, .int (nI 2)] = some (some (.int (nI 110)), wn I L T U) := rfl
set_option maxRecDepth 100000 in
theorem sc_5_3 (I : Nat → Int32) (L : Nat → Int64) (T : Nat → Nat → Int32) (U : Nat → Nat → Int64) : f_J0_charAt_5068e (wn I L T U) [.ref 1000105, .int (nI 3)] = some (some (.int (nI 100)), wn I L T U) := rfl
set_option maxRecDepth 100000 in
theorem sc_5_4 (I : Nat → Int32) (L : Nat → Int64) (T : Nat → Nat → Int32) (U : Nat → Nat → Int64) : f_J0_charAt_5068e (wn I L T U) [.ref 1000105, .int (nI 4)] = some (some (.int (nI 32)), wn I L T U) := rfl
set_option maxRecDepth 100000 in
theorem sc_5_5 (I : Nat → Int32) (L : Nat → Int64) (T : Nat → Nat → Int32) (U : Nat → Nat → Int64) : f_J0_charAt_5068e (wn I L T U) [.ref 1000105, .int (nI 5)] = some (some (.int (nI 99)), wn I L T U) := rfl
set_option maxRecDepth 100000 in
theorem sc_5_6 (I : Nat → Int32) (L : Nat → Int64) (T : Nat → Nat → Int32) (U : Nat → Nat → Int64) : f_J0_charAt_5068e (wn I L T U) [.ref 1000105, .int (nI 6)] = some (some (.int (nI 118)), wn I L T U) := rfl
set_option maxRecDepth 100000 in
theorem sc_5_7 (I : Nat → Int32) (L : Nat → Int64) (T : Nat → Nat → Int32) (U : Nat → Nat → Int64) : f_J0_charAt_5068e (wn I L T U) [.ref 1000105, .int (nI 7)] = some (some (.int (nI 120)), wn I L T U) := rfl
set_option maxRecDepth 100000 in
theorem sc_5_8 (I : Nat → Int32) (L : Nat → Int64) (T : Nat → Nat → Int32) (U : Nat → Nat → Int64) : f_J0_charAt_5068e (wn I L T U) [.ref 1000105, .int (nI 8)] = some (some (.int (nI 32)), wn I L T U) := rfl
set_option maxRecDepth 100000 in
theorem sc_5_9 (I : Nat → Int32) (L : Nat → Int64) (T : Nat → Nat → Int32) (U : Nat → Nat → Int64) : f_J0_charAt_5068e (wn I L T U) [.ref 1000105, .int (nI 9)] = some (some (.int (nI 99)), wn I L T U) := rfl
set_option maxRecDepth 100000 in
theorem sc_5_10 (I : Nat → Int32) (L : Nat → Int64) (T : Nat → Nat → Int32) (U : Nat → Nat → Int64) : f_J0_charAt_5068e (wn I L T U) [.ref 1000105, .int (nI 10)] = some (some (.int (nI 118)), wn I L T U) := rfl
set_option maxRecDepth 100000 in
theorem sc_5_11 (I : Nat → Int32) (L : Nat → Int64) (T : Nat → Nat → Int32) (U : Nat → Nat → Int64) : f_J0_charAt_5068e (wn I L T U) [.ref 1000105, .int (nI 11)] = some (some (.int (nI 108)), wn I L T U) := rfl
set_option maxRecDepth 100000 in
theorem sc_5_12 (I : Nat → Int32) (L : Nat → Int64) (T : Nat → Nat → Int32) (U : Nat → Nat → Int64) : f_J0_charAt_5068e (wn I L T U) [.ref 1000105, .int (nI 12)] = some (some (.int (nI 105)), wn I L T U) := rfl
set_option maxRecDepth 100000 in
theorem sc_5_13 (I : Nat → Int32) (L : Nat → Int64) (T : Nat → Nat → Int32) (U : Nat → Nat → Int64) : f_J0_charAt_5068e (wn I L T U) [.ref 1000105, .int (nI 13)] = some (some (.int (nI 116)), wn I L T U) := rfl
set_option maxRecDepth 100000 in
theorem sc_5_14 (I : Nat → Int32) (L : Nat → Int64) (T : Nat → Nat → Int32) (U : Nat → Nat → Int64) : f_J0_charAt_5068e (wn I L T U) [.ref 1000105, .int (nI 14)] = some (some (.int (nI 32)), wn I L T U) := rfl
set_option maxRecDepth 100000 in
theorem sc_5_15 (I : Nat → Int32) (L : Nat → Int64) (T : Nat → Nat → Int32) (U : Nat → Nat → Int64) : f_J0_charAt_5068e (wn I L T U) [.ref 1000105, .int (nI 15)] = some (some (.int (nI 120)), wn I L T U) := rfl
set_option maxRecDepth 100000 in
theorem sc_5_16 (I : Nat → Int32) (L : Nat → Int64) (T : Nat → Nat → Int32) (U : Nat → Nat → Int64) : f_J0_charAt_5068e (wn I L T U) [.ref 1000105, .int (nI 16)] = some (some (.int (nI 99)), wn I L T U) := rfl
set_option maxRecDepth 100000 in
theorem sc_5_17 (I : Nat → Int32) (L : Nat → Int64) (T : Nat → Nat → Int32) (U : Nat → Nat → Int64) : f_J0_charAt_5068e (wn I L T U) [.ref 1000105, .int (nI 17)] = some (some (.int (nI 104)), wn I L T U) := rfl
set_option maxRecDepth 100000 in
theorem sc_5_18 (I : Nat → Int32) (L : Nat → Int64) (T : Nat → Nat → Int32) (U : Nat → Nat → Int64) : f_J0_charAt_5068e (wn I L T U) [.ref 1000105, .int (nI 18)] = some (some (.int (nI 101)), wn I L T U) := rfl
set_option maxRecDepth 100000 in
theorem sc_5_19 (I : Nat → Int32) (L : Nat → Int64) (T : Nat → Nat → Int32) (U : Nat → Nat → Int64) : f_J0_charAt_5068e (wn I L T U) [.ref 1000105, .int (nI 19)] = some (some (.int (nI 99)), wn I L T U) := rfl
set_option maxRecDepth 100000 in
theorem sc_5_20 (I : Nat → Int32) (L : Nat → Int64) (T : Nat → Nat → Int32) (U : Nat → Nat → Int64) : f_J0_charAt_5068e (wn I L T U) [.ref 1000105, .int (nI 20)] = some (some (.int (nI 107)), wn I L T U) := rfl
set_option maxRecDepth 100000 in
theorem sc_5_21 (I : Nat → Int32) (L : Nat → Int64) (T : Nat → Nat → Int32) (U : Nat → Nat → Int64) : f_J0_charAt_5068e (wn I L T U) [.ref 1000105, .int (nI 21)] = some (some (.int (nI 32)), wn I L T U) := rfl
set_option maxRecDepth 100000 in
theorem sc_5_22 (I : Nat → Int32) (L : Nat → Int64) (T : Nat → Nat → Int32) (U : Nat → Nat → Int64) : f_J0_charAt_5068e (wn I L T U) [.ref 1000105, .int (nI 22)] = some (some (.int (nI 116)), wn I L T U) := rfl
set_option maxRecDepth 100000 in
theorem sc_5_23 (I : Nat → Int32) (L : Nat → Int64) (T : Nat → Nat → Int32) (U : Nat → Nat → Int64) : f_J0_charAt_5068e (wn I L T U) [.ref 1000105, .int (nI 23)] = some (some (.int (nI 121)), wn I L T U) := rfl
set_option maxRecDepth 100000 in
theorem sc_5_24 (I : Nat → Int32) (L : Nat → Int64) (T : Nat → Nat → Int32) (U : Nat → Nat → Int64) : f_J0_charAt_5068e (wn I L T U) [.ref 1000105, .int (nI 24)] = some (some (.int (nI 112)), wn I L T U) := rfl
set_option maxRecDepth 100000 in
theorem sc_5_25 (I : Nat → Int32) (L : Nat → Int64) (T : Nat → Nat → Int32) (U : Nat → Nat → Int64) : f_J0_charAt_5068e (wn I L T U) [.ref 1000105, .int (nI 25)] = some (some (.int (nI 101)), wn I L T U) := rfl
set_option maxRecDepth 100000 in
theorem sc_5_26 (I : Nat → Int32) (L : Nat → Int64) (T : Nat → Nat → Int32) (U : Nat → Nat → Int64) : f_J0_charAt_5068e (wn I L T U) [.ref 1000105, .int (nI 26)] = some (some (.int (nI 32)), wn I L T U) := rfl
set_option maxRecDepth 100000 in
theorem sc_5_27 (I : Nat → Int32) (L : Nat → Int64) (T : Nat → Nat → Int32) (U : Nat → Nat → Int64) : f_J0_charAt_5068e (wn I L T U) [.ref 1000105, .int (nI 27)] = some (some (.int (nI 61)), wn I L T U) := rfl
set_option maxRecDepth 100000 in
theorem sc_5_28 (I : Nat → Int32) (L : Nat → Int64) (T : Nat → Nat → Int32) (U : Nat → Nat → Int64) : f_J0_charAt_5068e (wn I L T U) [.ref 1000105, .int (nI 28)] = some (some (.int (nI 32)), wn I L T U) := rfl
set_option maxRecDepth 100000 in
theorem sc_5_29 (I : Nat → Int32) (L : Nat → Int64) (T : Nat → Nat → Int32) (U : Nat → Nat → Int64) : f_J0_charAt_5068e (wn I L T U) [.ref 1000105, .int (nI 29)] = some (some (.int (nI 112)), wn I L T U) := rfl
set_option maxRecDepth 100000 in
theorem sc_5_30 (I : Nat → Int32) (L : Nat → Int64) (T : Nat → Nat → Int32) (U : Nat → Nat → Int64) : f_J0_charAt_5068e (wn I L T U) [.ref 1000105, .int (nI 30)] = some (some (.int (nI 114)), wn I L T U) := rfl
set_option maxRecDepth 100000 in
theorem sc_5_31 (I : Nat → Int32) (L : Nat → Int64) (T : Nat → Nat → Int32) (U : Nat → Nat → Int64) : f_J0_charAt_5068e (wn I L T U) [.ref 1000105, .int (nI 31)] = some (some (.int (nI 105)), wn I L T U) := rfl
set_option maxRecDepth 100000 in
theorem sc_5_32 (I : Nat → Int32) (L : Nat → Int64) (T : Nat → Nat → Int32) (U : Nat → Nat → Int64) : f_J0_charAt_5068e (wn I L T U) [.ref 1000105, .int (nI 32)] = some (some (.int (nI 110)), wn I L T U) := rfl
set_option maxRecDepth 100000 in
theorem sc_5_33 (I : Nat → Int32) (L : Nat → Int64) (T : Nat → Nat → Int32) (U : Nat → Nat → Int64) : f_J0_charAt_5068e (wn I L T U) [.ref 1000105, .int (nI 33)] = some (some (.int (nI 116)), wn I L T U) := rfl
set_option maxRecDepth 100000 in
theorem sc_5_34 (I : Nat → Int32) (L : Nat → Int64) (T : Nat → Nat → Int32) (U : Nat → Nat → Int64) : f_J0_charAt_5068e (wn I L T U) [.ref 1000105, .int (nI 34)] = some (some (.int (nI 32)), wn I L T U) := rfl
set_option maxRecDepth 100000 in
theorem sc_5_35 (I : Nat → Int32) (L : Nat → Int64) (T : Nat → Nat → Int32) (U : Nat → Nat → Int64) : f_J0_charAt_5068e (wn I L T U) [.ref 1000105, .int (nI 35)] = some (some (.int (nI 110)), wn I L T U) := rfl
set_option maxRecDepth 100000 in
theorem sc_5_36 (I : Nat → Int32) (L : Nat → Int64) (T : Nat → Nat → Int32) (U : Nat → Nat → Int64) : f_J0_charAt_5068e (wn I L T U) [.ref 1000105, .int (nI 36)] = some (some (.int (nI 117)), wn I L T U) := rfl
set_option maxRecDepth 100000 in
theorem sc_5_37 (I : Nat → Int32) (L : Nat → Int64) (T : Nat → Nat → Int32) (U : Nat → Nat → Int64) : f_J0_charAt_5068e (wn I L T U) [.ref 1000105, .int (nI 37)] = some (some (.int (nI 108)), wn I L T U) := rfl
set_option maxRecDepth 100000 in
theorem sc_5_38 (I : Nat → Int32) (L : Nat → Int64) (T : Nat → Nat → Int32) (U : Nat → Nat → Int64) : f_J0_charAt_5068e (wn I L T U) [.ref 1000105, .int (nI 38)] = some (some (.int (nI 108)), wn I L T U) := rfl
set_option maxRecDepth 100000 in
theorem sc_5_39 (I : Nat → Int32) (L : Nat → Int64) (T : Nat → Nat → Int32) (U : Nat → Nat → Int64) : f_J0_charAt_5068e (wn I L T U) [.ref 1000105, .int (nI 39)] = some (some (.int (nI 116)), wn I L T U) := rfl
set_option maxRecDepth 100000 in
theorem sc_5_40 (I : Nat → Int32) (L : Nat → Int64) (T : Nat → Nat → Int32) (U : Nat → Nat → Int64) : f_J0_charAt_5068e (wn I L T U) [.ref 1000105, .int (nI 40)] = some (some (.int (nI 121)), wn I L T U) := rfl
set_option maxRecDepth 100000 in
theorem sc_5_41 (I : Nat → Int32) (L : Nat → Int64) (T : Nat → Nat → Int32) (U : Nat → Nat → Int64) : f_J0_charAt_5068e (wn I L T U) [.ref 1000105, .int (nI 41)] = some (some (.int (nI 112)), wn I L T U) := rfl
set_option maxRecDepth 100000 in
theorem sc_5_42 (I : Nat → Int32) (L : Nat → Int64) (T : Nat → Nat → Int32) (U : Nat → Nat → Int64) : f_J0_charAt_5068e (wn I L T U) [.ref 1000105, .int (nI 42)] = some (some (.int (nI 101)), wn I L T U) := rfl
set_option maxRecDepth 100000 in
theorem sc_5_43 (I : Nat → Int32) (L : Nat → Int64) (T : Nat → Nat → Int32) (U : Nat → Nat → Int64) : f_J0_charAt_5068e (wn I L T U) [.ref 1000105, .int (nI 43)] = some (some (.int (nI 32)), wn I L T U) := rfl
set_option maxRecDepth 100000 in
theorem sc_5_44 (I : Nat → Int32) (L : Nat → Int64) (T : Nat → Nat → Int32) (U : Nat → Nat → Int64) : f_J0_charAt_5068e (wn I L T U) [.ref 1000105, .int (nI 44)] = some (some (.int (nI 105)), wn I L T U) := rfl
set_option maxRecDepth 100000 in
theorem sc_5_45 (I : Nat → Int32) (L : Nat → Int64) (T : Nat → Nat → Int32) (U : Nat → Nat → Int64) : f_J0_charAt_5068e (wn I L T U) [.ref 1000105, .int (nI 45)] = some (some (.int (nI 110)), wn I L T U) := rfl
set_option maxRecDepth 100000 in
theorem sc_5_46 (I : Nat → Int32) (L : Nat → Int64) (T : Nat → Nat → Int32) (U : Nat → Nat → Int64) : f_J0_charAt_5068e (wn I L T U) [.ref 1000105, .int (nI 46)] = some (some (.int (nI 116)), wn I L T U) := rfl
set_option maxRecDepth 100000 in
theorem sc_5_47 (I : Nat → Int32) (L : Nat → Int64) (T : Nat → Nat → Int32) (U : Nat → Nat → Int64) : f_J0_charAt_5068e (wn I L T U) [.ref 1000105, .int (nI 47)] = some (some (.int (nI 101)), wn I L T U) := rfl
set_option maxRecDepth 100000 in
theorem sc_5_48 (I : Nat → Int32) (L : Nat → Int64) (T : Nat → Nat → Int32) (U : Nat → Nat → Int64) : f_J0_charAt_5068e (wn I L T U) [.ref 1000105, .int (nI 48)] = some (some (.int (nI 103)), wn I L T U) := rfl
set_option maxRecDepth 100000 in
theorem sc_5_49 (I : Nat → Int32) (L : Nat → Int64) (T : Nat → Nat → Int32) (U : Nat → Nat → Int64) : f_J0_charAt_5068e (wn I L T U) [.ref 1000105, .int (nI 49)] = some (some (.int (nI 101)), wn I L T U) := rfl
set_option maxRecDepth 100000 in
theorem sc_5_50 (I : Nat → Int32) (L : Nat → Int64) (T : Nat → Nat → Int32) (U : Nat → Nat → Int64) : f_J0_charAt_5068e (wn I L T U) [.ref 1000105, .int (nI 50)] = some (some (.int (nI 114)), wn I L T U) := rfl
set_option maxRecDepth 100000 in
theorem sc_5_51 (I : Nat → Int32) (L : Nat → Int64) (T : Nat → Nat → Int32) (U : Nat → Nat → Int64) : f_J0_charAt_5068e (wn I L T U) [.ref 1000105, .int (nI 51)] = some (some (.int (nI 116)), wn I L T U) := rfl
set_option maxRecDepth 100000 in
theorem sc_5_52 (I : Nat → Int32) (L : Nat → Int64) (T : Nat → Nat → Int32) (U : Nat → Nat → Int64) : f_J0_charAt_5068e (wn I L T U) [.ref 1000105, .int (nI 52)] = some (some (.int (nI 121)), wn I L T U) := rfl
set_option maxRecDepth 100000 in
theorem sc_5_53 (I : Nat → Int32) (L : Nat → Int64) (T : Nat → Nat → Int32) (U : Nat → Nat → Int64) : f_J0_charAt_5068e (wn I L T U) [.ref 1000105, .int (nI 53)] = some (some (.int (nI 112)), wn I L T U) := rfl
set_option maxRecDepth 100000 in
theorem sc_5_54 (I : Nat → Int32) (L : Nat → Int64) (T : Nat → Nat → Int32) (U : Nat → Nat → Int64) : f_J0_charAt_5068e (wn I L T U) [.ref 1000105, .int (nI 54)] = some (some (.int (nI 101)), wn I L T U) := rfl
set_option maxRecDepth 100000 in
theorem sc_5_55 (I : Nat → Int32) (L : Nat → Int64) (T : Nat → Nat → Int32) (U : Nat → Nat → Int64) : f_J0_charAt_5068e (wn I L T U) [.ref 1000105, .int (nI 55)] = some (some (.int (nI 32)), wn I L T U) := rfl
set_option maxRecDepth 100000 in
theorem sc_5_56 (I : Nat → Int32) (L : Nat → Int64) (T : Nat → Nat → Int32) (U : Nat → Nat → Int64) : f_J0_charAt_5068e (wn I L T U) [.ref 1000105, .int (nI 56)] = some (some (.int (nI 98)), wn I L T U) := rfl
set_option maxRecDepth 100000 in
theorem sc_5_57 (I : Nat → Int32) (L : Nat → Int64) (T : Nat → Nat → Int32) (U : Nat → Nat → Int64) : f_J0_charAt_5068e (wn I L T U) [.ref 1000105, .int (nI 57)] = some (some (.int (nI 111)), wn I L T U) := rfl
set_option maxRecDepth 100000 in
theorem sc_5_58 (I : Nat → Int32) (L : Nat → Int64) (T : Nat → Nat → Int32) (U : Nat → Nat → Int64) : f_J0_charAt_5068e (wn I L T U) [.ref 1000105, .int (nI 58)] = some (some (.int (nI 111)), wn I L T U) := rfl
set_option maxRecDepth 100000 in
theorem sc_5_59 (I : Nat → Int32) (L : Nat → Int64) (T : Nat → Nat → Int32) (U : Nat → Nat → Int64) : f_J0_charAt_5068e (wn I L T U) [.ref 1000105, .int (nI 59)] = some (some (.int (nI 108)), wn I L T U) := rfl
set_option maxRecDepth 100000 in
theorem sc_5_60 (I : Nat → Int32) (L : Nat → Int64) (T : Nat → Nat → Int32) (U : Nat → Nat → Int64) : f_J0_charAt_5068e (wn I L T U) [.ref 1000105, .int (nI 60)] = some (some (.int (nI 101)), wn I L T U) := rfl
set_option maxRecDepth 100000 in
theorem sc_5_61 (I : Nat → Int32) (L : Nat → Int64) (T : Nat → Nat → Int32) (U : Nat → Nat → Int64) : f_J0_charAt_5068e (wn I L T U) [.ref 1000105, .int (nI 61)] = some (some (.int (nI 97)), wn I L T U) := rfl
set_option maxRecDepth 100000 in
theorem sc_5_62 (I : Nat → Int32) (L : Nat → Int64) (T : Nat → Nat → Int32) (U : Nat → Nat → Int64) : f_J0_charAt_5068e (wn I L T U) [.ref 1000105, .int (nI 62)] = some (some (.int (nI 110)), wn I L T U) := rfl
set_option maxRecDepth 100000 in
theorem sc_5_63 (I : Nat → Int32) (L : Nat → Int64) (T : Nat → Nat → Int32) (U : Nat → Nat → Int64) : f_J0_charAt_5068e (wn I L T U) [.ref 1000105, .int (nI 63)] = some (some (.int (nI 116)), wn I L T U) := rfl
set_option maxRecDepth 100000 in
theorem sc_5_64 (I : Nat → Int32) (L : Nat → Int64) (T : Nat → Nat → Int32) (U : Nat → Nat → Int64) : f_J0_charAt_5068e (wn I L T U) [.ref 1000105, .int (nI 64)] = some (some (.int (nI 121)), wn I L T U) := rfl
set_option maxRecDepth 100000 in
theorem sc_5_65 (I : Nat → Int32) (L : Nat → Int64) (T : Nat → Nat → Int32) (U : Nat → Nat → Int64) : f_J0_charAt_5068e (wn I L T U) [.ref 1000105, .int (nI 65)] = some (some (.int (nI 112)), wn I L T U) := rfl
set_option maxRecDepth 100000 in
theorem sc_5_66 (I : Nat → Int32) (L : Nat → Int64) (T : Nat → Nat → Int32) (U : Nat → Nat → Int64) : f_J0_charAt_5068e (wn I L T U) [.ref 1000105, .int (nI 66)] = some (some (.int (nI 101)), wn I L T U) := rfl
set_option maxRecDepth 100000 in
theorem sc_5_67 (I : Nat → Int32) (L : Nat → Int64) (T : Nat → Nat → Int32) (U : Nat → Nat → Int64) : f_J0_charAt_5068e (wn I L T U) [.ref 1000105, .int (nI 67)] = some (some (.int (nI 32)), wn I L T U) := rfl
def ch_5 (k : Nat) : Nat := [98, 105, 110, 100, 32, 99, 118, 120, 32, 99, 118, 108, 105, 116, 32, 120, 99, 104, 101, 99, 107, 32, 116, 121, 112, 101, 32, 61, 32, 112, 114, 105, 110, 116, 32, 110, 117, 108, 108, 116, 121, 112, 101, 32, 105, 110, 116, 101, 103, 101, 114, 116, 121, 112, 101, 32, 98, 111, 111, 108, 101, 97, 110, 116, 121, 112, 101, 32].getD k 0
set_option maxRecDepth 100000 in
theorem sc_5 {I : Nat → Int32} {L : Nat → Int64} {T : Nat → Nat → Int32} {U : Nat → Nat → Int64} : ∀ k, k < 68 → f_J0_charAt_5068e (wn I L T U) [.ref 1000105, .int (nI k)] = some (some (.int (nI (ch_5 k))), wn I L T U) := (al (al (al (al (al (al (al (al (al (al (al (al (al (al (al (al (al (al (al (al (al (al (al (al (al (al (al (al (al (al (al (al (al (al (al (al (al (al (al (al (al (al (al (al (al (al (al (al (al (al (al (al (al (al (al (al (al (al (al (al (al (al (al (al (al (al (al (al (fun k h => absurd h (Nat.not_lt_zero k)) (sc_5_0 I L T U)) (sc_5_1 I L T U)) (sc_5_2 I L T U)) (sc_5_3 I L T U)) (sc_5_4 I L T U)) (sc_5_5 I L T U)) (sc_5_6 I L T U)) (sc_5_7 I L T U)) (sc_5_8 I L T U)) (sc_5_9 I L T U)) (sc_5_10 I L T U)) (sc_5_11 I L T U)) (sc_5_12 I L T U)) (sc_5_13 I L T U)) (sc_5_14 I L T U)) (sc_5_15 I L T U)) (sc_5_16 I L T U)) (sc_5_17 I L T U)) (sc_5_18 I L T U)) (sc_5_19 I L T U)) (sc_5_20 I L T U)) (sc_5_21 I L T U)) (sc_5_22 I L T U)) (sc_5_23 I L T U)) (sc_5_24 I L T U)) (sc_5_25 I L T U)) (sc_5_26 I L T U)) (sc_5_27 I L T U)) (sc_5_28 I L T U)) (sc_5_29 I L T U)) (sc_5_30 I L T U)) (sc_5_31 I L T U)) (sc_5_32 I L T U)) (sc_5_33 I L T U)) (sc_5_34 I L T U)) (sc_5_35 I L T U)) (sc_5_36 I L T U)) (sc_5_37 I L T U)) (sc_5_38 I L T U)) (sc_5_39 I L T U)) (sc_5_40 I L T U)) (sc_5_41 I L T U)) (sc_5_42 I L T U)) (sc_5_43 I L T U)) (sc_5_44 I L T U)) (sc_5_45 I L T U)) (sc_5_46 I L T U)) (sc_5_47 I L T U)) (sc_5_48 I L T U)) (sc_5_49 I L T U)) (sc_5_50 I L T U)) (sc_5_51 I L T U)) (sc_5_52 I L T U)) (sc_5_53 I L T U)) (sc_5_54 I L T U)) (sc_5_55 I L T U)) (sc_5_56 I L T U)) (sc_5_57 I L T U)) (sc_5_58 I L T U)) (sc_5_59 I L T U)) (sc_5_60 I L T U)) (sc_5_61 I L T U)) (sc_5_62 I L T U)) (sc_5_63 I L T U)) (sc_5_64 I L T U)) (sc_5_65 I L T U)) (sc_5_66 I L T U)) (sc_5_67 I L T U))
set_option maxRecDepth 100000 in
theorem sc_6_0 (I : Nat → Int32) (L : Nat → Int64) (T : Nat → Nat → Int32) (U : Nat → Nat → Int64) : f_J0_charAt_5068e (wn I L T U) [.ref 1000106, .int (nI 0)] = some (some (.int (nI 109)), wn I L T U) := rfl
set_option maxRecDepth 100000 in
theorem sc_6_1 (I : Nat → Int32) (L : Nat → Int64) (T : Nat → Nat → Int32) (U : Nat → Nat → Int64) : f_J0_charAt_5068e (wn I L T U) [.ref 1000106, .int (nI 1)] = some (some (.int (nI 97)), wn I L T U) := rfl
set_option maxRecDepth 100000 in
theorem sc_6_2 (I : Nat → Int32) (L : Nat → Int64) (T : Nat → Nat → Int32) (U : Nat → Nat → Int64) : f_J0_charAt_5068e (wn I L T U) [.ref 1000106, .int (nI 2)] = some (some (.int (nI 114)), wn I L T U) := rfl
set_option maxRecDepth 100000 in
theorem sc_6_3 (I : Nat → Int32) (L : Nat → Int64) (T : Nat → Nat → Int32) (U : Nat → Nat → Int64) : f_J0_charAt_5068e (wn I L T U) [.ref 1000106, .int (nI 3)] = some (some (.int (nI 107)), wn I L T U) := rfl
set_option maxRecDepth 100000 in
theorem sc_6_4 (I : Nat → Int32) (L : Nat → Int64) (T : Nat → Nat → Int32) (U : Nat → Nat → Int64) : f_J0_charAt_5068e (wn I L T U) [.ref 1000106, .int (nI 4)] = some (some (.int (nI 116)), wn I L T U) := rfl
set_option maxRecDepth 100000 in
theorem sc_6_5 (I : Nat → Int32) (L : Nat → Int64) (T : Nat → Nat → Int32) (U : Nat → Nat → Int64) : f_J0_charAt_5068e (wn I L T U) [.ref 1000106, .int (nI 5)] = some (some (.int (nI 121)), wn I L T U) := rfl
set_option maxRecDepth 100000 in
theorem sc_6_6 (I : Nat → Int32) (L : Nat → Int64) (T : Nat → Nat → Int32) (U : Nat → Nat → Int64) : f_J0_charAt_5068e (wn I L T U) [.ref 1000106, .int (nI 6)] = some (some (.int (nI 112)), wn I L T U) := rfl
set_option maxRecDepth 100000 in
theorem sc_6_7 (I : Nat → Int32) (L : Nat → Int64) (T : Nat → Nat → Int32) (U : Nat → Nat → Int64) : f_J0_charAt_5068e (wn I L T U) [.ref 1000106, .int (nI 7)] = some (some (.int (nI 101)), wn I L T U) := rfl
set_option maxRecDepth 100000 in
theorem sc_6_8 (I : Nat → Int32) (L : Nat → Int64) (T : Nat → Nat → Int32) (U : Nat → Nat → Int64) : f_J0_charAt_5068e (wn I L T U) [.ref 1000106, .int (nI 8)] = some (some (.int (nI 32)), wn I L T U) := rfl
set_option maxRecDepth 100000 in
theorem sc_6_9 (I : Nat → Int32) (L : Nat → Int64) (T : Nat → Nat → Int32) (U : Nat → Nat → Int64) : f_J0_charAt_5068e (wn I L T U) [.ref 1000106, .int (nI 9)] = some (some (.int (nI 110)), wn I L T U) := rfl
set_option maxRecDepth 100000 in
theorem sc_6_10 (I : Nat → Int32) (L : Nat → Int64) (T : Nat → Nat → Int32) (U : Nat → Nat → Int64) : f_J0_charAt_5068e (wn I L T U) [.ref 1000106, .int (nI 10)] = some (some (.int (nI 97)), wn I L T U) := rfl
set_option maxRecDepth 100000 in
theorem sc_6_11 (I : Nat → Int32) (L : Nat → Int64) (T : Nat → Nat → Int32) (U : Nat → Nat → Int64) : f_J0_charAt_5068e (wn I L T U) [.ref 1000106, .int (nI 11)] = some (some (.int (nI 109)), wn I L T U) := rfl
set_option maxRecDepth 100000 in
theorem sc_6_12 (I : Nat → Int32) (L : Nat → Int64) (T : Nat → Nat → Int32) (U : Nat → Nat → Int64) : f_J0_charAt_5068e (wn I L T U) [.ref 1000106, .int (nI 12)] = some (some (.int (nI 101)), wn I L T U) := rfl
set_option maxRecDepth 100000 in
theorem sc_6_13 (I : Nat → Int32) (L : Nat → Int64) (T : Nat → Nat → Int32) (U : Nat → Nat → Int64) : f_J0_charAt_5068e (wn I L T U) [.ref 1000106, .int (nI 13)] = some (some (.int (nI 116)), wn I L T U) := rfl
set_option maxRecDepth 100000 in
theorem sc_6_14 (I : Nat → Int32) (L : Nat → Int64) (T : Nat → Nat → Int32) (U : Nat → Nat → Int64) : f_J0_charAt_5068e (wn I L T U) [.ref 1000106, .int (nI 14)] = some (some (.int (nI 121)), wn I L T U) := rfl
set_option maxRecDepth 100000 in
theorem sc_6_15 (I : Nat → Int32) (L : Nat → Int64) (T : Nat → Nat → Int32) (U : Nat → Nat → Int64) : f_J0_charAt_5068e (wn I L T U) [.ref 1000106, .int (nI 15)] = some (some (.int (nI 112)), wn I L T U) := rfl
set_option maxRecDepth 100000 in
theorem sc_6_16 (I : Nat → Int32) (L : Nat → Int64) (T : Nat → Nat → Int32) (U : Nat → Nat → Int64) : f_J0_charAt_5068e (wn I L T U) [.ref 1000106, .int (nI 16)] = some (some (.int (nI 101)), wn I L T U) := rfl
set_option maxRecDepth 100000 in
theorem sc_6_17 (I : Nat → Int32) (L : Nat → Int64) (T : Nat → Nat → Int32) (U : Nat → Nat → Int64) : f_J0_charAt_5068e (wn I L T U) [.ref 1000106, .int (nI 17)] = some (some (.int (nI 32)), wn I L T U) := rfl
set_option maxRecDepth 100000 in
theorem sc_6_18 (I : Nat → Int32) (L : Nat → Int64) (T : Nat → Nat → Int32) (U : Nat → Nat → Int64) : f_J0_charAt_5068e (wn I L T U) [.ref 1000106, .int (nI 18)] = some (some (.int (nI 97)), wn I L T U) := rfl
set_option maxRecDepth 100000 in
theorem sc_6_19 (I : Nat → Int32) (L : Nat → Int64) (T : Nat → Nat → Int32) (U : Nat → Nat → Int64) : f_J0_charAt_5068e (wn I L T U) [.ref 1000106, .int (nI 19)] = some (some (.int (nI 114)), wn I L T U) := rfl
set_option maxRecDepth 100000 in
theorem sc_6_20 (I : Nat → Int32) (L : Nat → Int64) (T : Nat → Nat → Int32) (U : Nat → Nat → Int64) : f_J0_charAt_5068e (wn I L T U) [.ref 1000106, .int (nI 20)] = some (some (.int (nI 114)), wn I L T U) := rfl
set_option maxRecDepth 100000 in
theorem sc_6_21 (I : Nat → Int32) (L : Nat → Int64) (T : Nat → Nat → Int32) (U : Nat → Nat → Int64) : f_J0_charAt_5068e (wn I L T U) [.ref 1000106, .int (nI 21)] = some (some (.int (nI 97)), wn I L T U) := rfl
set_option maxRecDepth 100000 in
theorem sc_6_22 (I : Nat → Int32) (L : Nat → Int64) (T : Nat → Nat → Int32) (U : Nat → Nat → Int64) : f_J0_charAt_5068e (wn I L T U) [.ref 1000106, .int (nI 22)] = some (some (.int (nI 121)), wn I L T U) := rfl
set_option maxRecDepth 100000 in
theorem sc_6_23 (I : Nat → Int32) (L : Nat → Int64) (T : Nat → Nat → Int32) (U : Nat → Nat → Int64) : f_J0_charAt_5068e (wn I L T U) [.ref 1000106, .int (nI 23)] = some (some (.int (nI 116)), wn I L T U) := rfl
set_option maxRecDepth 100000 in
theorem sc_6_24 (I : Nat → Int32) (L : Nat → Int64) (T : Nat → Nat → Int32) (U : Nat → Nat → Int64) : f_J0_charAt_5068e (wn I L T U) [.ref 1000106, .int (nI 24)] = some (some (.int (nI 121)), wn I L T U) := rfl
set_option maxRecDepth 100000 in
theorem sc_6_25 (I : Nat → Int32) (L : Nat → Int64) (T : Nat → Nat → Int32) (U : Nat → Nat → Int64) : f_J0_charAt_5068e (wn I L T U) [.ref 1000106, .int (nI 25)] = some (some (.int (nI 112)), wn I L T U) := rfl
set_option maxRecDepth 100000 in
theorem sc_6_26 (I : Nat → Int32) (L : Nat → Int64) (T : Nat → Nat → Int32) (U : Nat → Nat → Int64) : f_J0_charAt_5068e (wn I L T U) [.ref 1000106, .int (nI 26)] = some (some (.int (nI 101)), wn I L T U) := rfl
set_option maxRecDepth 100000 in
theorem sc_6_27 (I : Nat → Int32) (L : Nat → Int64) (T : Nat → Nat → Int32) (U : Nat → Nat → Int64) : f_J0_charAt_5068e (wn I L T U) [.ref 1000106, .int (nI 27)] = some (some (.int (nI 32)), wn I L T U) := rfl
set_option maxRecDepth 100000 in
theorem sc_6_28 (I : Nat → Int32) (L : Nat → Int64) (T : Nat → Nat → Int32) (U : Nat → Nat → Int64) : f_J0_charAt_5068e (wn I L T U) [.ref 1000106, .int (nI 28)] = some (some (.int (nI 115)), wn I L T U) := rfl
set_option maxRecDepth 100000 in
theorem sc_6_29 (I : Nat → Int32) (L : Nat → Int64) (T : Nat → Nat → Int32) (U : Nat → Nat → Int64) : f_J0_charAt_5068e (wn I L T U) [.ref 1000106, .int (nI 29)] = some (some (.int (nI 116)), wn I L T U) := rfl
set_option maxRecDepth 100000 in
theorem sc_6_30 (I : Nat → Int32) (L : Nat → Int64) (T : Nat → Nat → Int32) (U : Nat → Nat → Int64) : f_J0_charAt_5068e (wn I L T U) [.ref 1000106, .int (nI 30)] = some (some (.int (nI 114)), wn I L T U) := rfl
set_option maxRecDepth 100000 in
theorem sc_6_31 (I : Nat → Int32) (L : Nat → Int64) (T : Nat → Nat → Int32) (U : Nat → Nat → Int64) : f_J0_charAt_5068e (wn I L T U) [.ref 1000106, .int (nI 31)] = some (some (.int (nI 105)), wn I L T U) := rfl
set_option maxRecDepth 100000 in
theorem sc_6_32 (I : Nat → Int32) (L : Nat → Int64) (T : Nat → Nat → Int32) (U : Nat → Nat → Int64) : f_J0_charAt_5068e (wn I L T U) [.ref 1000106, .int (nI 32)] = some (some (.int (nI 110)), wn I L T U) := rfl
set_option maxRecDepth 100000 in
theorem sc_6_33 (I : Nat → Int32) (L : Nat → Int64) (T : Nat → Nat → Int32) (U : Nat → Nat → Int64) : f_J0_charAt_5068e (wn I L T U) [.ref 1000106, .int (nI 33)] = some (some (.int (nI 103)), wn I L T U) := rfl
set_option maxRecDepth 100000 in
theorem sc_6_34 (I : Nat → Int32) (L : Nat → Int64) (T : Nat → Nat → Int32) (U : Nat → Nat → Int64) : f_J0_charAt_5068e (wn I L T U) [.ref 1000106, .int (nI 34)] = some (some (.int (nI 116)), wn I L T U) := rfl
set_option maxRecDepth 100000 in
theorem sc_6_35 (I : Nat → Int32) (L : Nat → Int64) (T : Nat → Nat → Int32) (U : Nat → Nat → Int64) : f_J0_charAt_5068e (wn I L T U) [.ref 1000106, .int (nI 35)] = some (some (.int (nI 121)), wn I L T U) := rfl
set_option maxRecDepth 100000 in
theorem sc_6_36 (I : Nat → Int32) (L : Nat → Int64) (T : Nat → Nat → Int32) (U : Nat → Nat → Int64) : f_J0_charAt_5068e (wn I L T U) [.ref 1000106, .int (nI 36)] = some (some (.int (nI 112)), wn I L T U) := rfl
set_option maxRecDepth 100000 in
theorem sc_6_37 (I : Nat → Int32) (L : Nat → Int64) (T : Nat → Nat → Int32) (U : Nat → Nat → Int64) : f_J0_charAt_5068e (wn I L T U) [.ref 1000106, .int (nI 37)] = some (some (.int (nI 101)), wn I L T U) := rfl
set_option maxRecDepth 100000 in
theorem sc_6_38 (I : Nat → Int32) (L : Nat → Int64) (T : Nat → Nat → Int32) (U : Nat → Nat → Int64) : f_J0_charAt_5068e (wn I L T U) [.ref 1000106, .int (nI 38)] = some (some (.int (nI 32)), wn I L T U) := rfl
set_option maxRecDepth 100000 in
theorem sc_6_39 (I : Nat → Int32) (L : Nat → Int64) (T : Nat → Nat → Int32) (U : Nat → Nat → Int64) : f_J0_charAt_5068e (wn I L T U) [.ref 1000106, .int (nI 39)] = some (some (.int (nI 100)), wn I L T U) := rfl
set_option maxRecDepth 100000 in
theorem sc_6_40 (I : Nat → Int32) (L : Nat → Int64) (T : Nat → Nat → Int32) (U : Nat → Nat → Int64) : f_J0_charAt_5068e (wn I L T U) [.ref 1000106, .int (nI 40)] = some (some (.int (nI 105)), wn I L T U) := rfl
set_option maxRecDepth 100000 in
theorem sc_6_41 (I : Nat → Int32) (L : Nat → Int64) (T : Nat → Nat → Int32) (U : Nat → Nat → Int64) : f_J0_charAt_5068e (wn I L T U) [.ref 1000106, .int (nI 41)] = some (some (.int (nI 99)), wn I L T U) := rfl
set_option maxRecDepth 100000 in
theorem sc_6_42 (I : Nat → Int32) (L : Nat → Int64) (T : Nat → Nat → Int32) (U : Nat → Nat → Int64) : f_J0_charAt_5068e (wn I L T U) [.ref 1000106, .int (nI 42)] = some (some (.int (nI 116)), wn I L T U) := rfl
set_option maxRecDepth 100000 in
theorem sc_6_43 (I : Nat → Int32) (L : Nat → Int64) (T : Nat → Nat → Int32) (U : Nat → Nat → Int64) : f_J0_charAt_5068e (wn I L T U) [.ref 1000106, .int (nI 43)] = some (some (.int (nI 116)), wn I L T U) := rfl
set_option maxRecDepth 100000 in
theorem sc_6_44 (I : Nat → Int32) (L : Nat → Int64) (T : Nat → Nat → Int32) (U : Nat → Nat → Int64) : f_J0_charAt_5068e (wn I L T U) [.ref 1000106, .int (nI 44)] = some (some (.int (nI 121)), wn I L T U) := rfl
set_option maxRecDepth 100000 in
theorem sc_6_45 (I : Nat → Int32) (L : Nat → Int64) (T : Nat → Nat → Int32) (U : Nat → Nat → Int64) : f_J0_charAt_5068e (wn I L T U) [.ref 1000106, .int (nI 45)] = some (some (.int (nI 112)), wn I L T U) := rfl
set_option maxRecDepth 100000 in
theorem sc_6_46 (I : Nat → Int32) (L : Nat → Int64) (T : Nat → Nat → Int32) (U : Nat → Nat → Int64) : f_J0_charAt_5068e (wn I L T U) [.ref 1000106, .int (nI 46)] = some (some (.int (nI 101)), wn I L T U) := rfl
set_option maxRecDepth 100000 in
theorem sc_6_47 (I : Nat → Int32) (L : Nat → Int64) (T : Nat → Nat → Int32) (U : Nat → Nat → Int64) : f_J0_charAt_5068e (wn I L T U) [.ref 1000106, .int (nI 47)] = some (some (.int (nI 32)), wn I L T U) := rfl
set_option maxRecDepth 100000 in
theorem sc_6_48 (I : Nat → Int32) (L : Nat → Int64) (T : Nat → Nat → Int32) (U : Nat → Nat → Int64) : f_J0_charAt_5068e (wn I L T U) [.ref 1000106, .int (nI 48)] = some (some (.int (nI 111)), wn I L T U) := rfl
set_option maxRecDepth 100000 in
theorem sc_6_49 (I : Nat → Int32) (L : Nat → Int64) (T : Nat → Nat → Int32) (U : Nat → Nat → Int64) : f_J0_charAt_5068e (wn I L T U) [.ref 1000106, .int (nI 49)] = some (some (.int (nI 112)), wn I L T U) := rfl
set_option maxRecDepth 100000 in
theorem sc_6_50 (I : Nat → Int32) (L : Nat → Int64) (T : Nat → Nat → Int32) (U : Nat → Nat → Int64) : f_J0_charAt_5068e (wn I L T U) [.ref 1000106, .int (nI 50)] = some (some (.int (nI 101)), wn I L T U) := rfl
set_option maxRecDepth 100000 in
theorem sc_6_51 (I : Nat → Int32) (L : Nat → Int64) (T : Nat → Nat → Int32) (U : Nat → Nat → Int64) : f_J0_charAt_5068e (wn I L T U) [.ref 1000106, .int (nI 51)] = some (some (.int (nI 114)), wn I L T U) := rfl
set_option maxRecDepth 100000 in
theorem sc_6_52 (I : Nat → Int32) (L : Nat → Int64) (T : Nat → Nat → Int32) (U : Nat → Nat → Int64) : f_J0_charAt_5068e (wn I L T U) [.ref 1000106, .int (nI 52)] = some (some (.int (nI 97)), wn I L T U) := rfl
set_option maxRecDepth 100000 in
theorem sc_6_53 (I : Nat → Int32) (L : Nat → Int64) (T : Nat → Nat → Int32) (U : Nat → Nat → Int64) : f_J0_charAt_5068e (wn I L T U) [.ref 1000106, .int (nI 53)] = some (some (.int (nI 116)), wn I L T U) := rfl
set_option maxRecDepth 100000 in
theorem sc_6_54 (I : Nat → Int32) (L : Nat → Int64) (T : Nat → Nat → Int32) (U : Nat → Nat → Int64) : f_J0_charAt_5068e (wn I L T U) [.ref 1000106, .int (nI 54)] = some (some (.int (nI 111)), wn I L T U) := rfl
set_option maxRecDepth 100000 in
theorem sc_6_55 (I : Nat → Int32) (L : Nat → Int64) (T : Nat → Nat → Int32) (U : Nat → Nat → Int64) : f_J0_charAt_5068e (wn I L T U) [.ref 1000106, .int (nI 55)] = some (some (.int (nI 114)), wn I L T U) := rfl
set_option maxRecDepth 100000 in
theorem sc_6_56 (I : Nat → Int32) (L : Nat → Int64) (T : Nat → Nat → Int32) (U : Nat → Nat → Int64) : f_J0_charAt_5068e (wn I L T U) [.ref 1000106, .int (nI 56)] = some (some (.int (nI 116)), wn I L T U) := rfl
set_option maxRecDepth 100000 in
theorem sc_6_57 (I : Nat → Int32) (L : Nat → Int64) (T : Nat → Nat → Int32) (U : Nat → Nat → Int64) : f_J0_charAt_5068e (wn I L T U) [.ref 1000106, .int (nI 57)] = some (some (.int (nI 121)), wn I L T U) := rfl
set_option maxRecDepth 100000 in
theorem sc_6_58 (I : Nat → Int32) (L : Nat → Int64) (T : Nat → Nat → Int32) (U : Nat → Nat → Int64) : f_J0_charAt_5068e (wn I L T U) [.ref 1000106, .int (nI 58)] = some (some (.int (nI 112)), wn I L T U) := rfl
set_option maxRecDepth 100000 in
theorem sc_6_59 (I : Nat → Int32) (L : Nat → Int64) (T : Nat → Nat → Int32) (U : Nat → Nat → Int64) : f_J0_charAt_5068e (wn I L T U) [.ref 1000106, .int (nI 59)] = some (some (.int (nI 101)), wn I L T U) := rfl
set_option maxRecDepth 100000 in
theorem sc_6_60 (I : Nat → Int32) (L : Nat → Int64) (T : Nat → Nat → Int32) (U : Nat → Nat → Int64) : f_J0_charAt_5068e (wn I L T U) [.ref 1000106, .int (nI 60)] = some (some (.int (nI 32)), wn I L T U) := rfl
def ch_6 (k : Nat) : Nat := [109, 97, 114, 107, 116, 121, 112, 101, 32, 110, 97, 109, 101, 116, 121, 112, 101, 32, 97, 114, 114, 97, 121, 116, 121, 112, 101, 32, 115, 116, 114, 105, 110, 103, 116, 121, 112, 101, 32, 100, 105, 99, 116, 116, 121, 112, 101, 32, 111, 112, 101, 114, 97, 116, 111, 114, 116, 121, 112, 101, 32].getD k 0
set_option maxRecDepth 100000 in
theorem sc_6 {I : Nat → Int32} {L : Nat → Int64} {T : Nat → Nat → Int32} {U : Nat → Nat → Int64} : ∀ k, k < 61 → f_J0_charAt_5068e (wn I L T U) [.ref 1000106, .int (nI k)] = some (some (.int (nI (ch_6 k))), wn I L T U) := (al (al (al (al (al (al (al (al (al (al (al (al (al (al (al (al (al (al (al (al (al (al (al (al (al (al (al (al (al (al (al (al (al (al (al (al (al (al (al (al (al (al (al (al (al (al (al (al (al (al (al (al (al (al (al (al (al (al (al (al (al (fun k h => absurd h (Nat.not_lt_zero k)) (sc_6_0 I L T U)) (sc_6_1 I L T U)) (sc_6_2 I L T U)) (sc_6_3 I L T U)) (sc_6_4 I L T U)) (sc_6_5 I L T U)) (sc_6_6 I L T U)) (sc_6_7 I L T U)) (sc_6_8 I L T U)) (sc_6_9 I L T U)) (sc_6_10 I L T U)) (sc_6_11 I L T U)) (sc_6_12 I L T U)) (sc_6_13 I L T U)) (sc_6_14 I L T U)) (sc_6_15 I L T U)) (sc_6_16 I L T U)) (sc_6_17 I L T U)) (sc_6_18 I L T U)) (sc_6_19 I L T U)) (sc_6_20 I L T U)) (sc_6_21 I L T U)) (sc_6_22 I L T U)) (sc_6_23 I L T U)) (sc_6_24 I L T U)) (sc_6_25 I L T U)) (sc_6_26 I L T U)) (sc_6_27 I L T U)) (sc_6_28 I L T U)) (sc_6_29 I L T U)) (sc_6_30 I L T U)) (sc_6_31 I L T U)) (sc_6_32 I L T U)) (sc_6_33 I L T U)) (sc_6_34 I L T U)) (sc_6_35 I L T U)) (sc_6_36 I L T U)) (sc_6_37 I L T U)) (sc_6_38 I L T U)) (sc_6_39 I L T U)) (sc_6_40 I L T U)) (sc_6_41 I L T U)) (sc_6_42 I L T U)) (sc_6_43 I L T U)) (sc_6_44 I L T U)) (sc_6_45 I L T U)) (sc_6_46 I L T U)) (sc_6_47 I L T U)) (sc_6_48 I L T U)) (sc_6_49 I L T U)) (sc_6_50 I L T U)) (sc_6_51 I L T U)) (sc_6_52 I L T U)) (sc_6_53 I L T U)) (sc_6_54 I L T U)) (sc_6_55 I L T U)) (sc_6_56 I L T U)) (sc_6_57 I L T U)) (sc_6_58 I L T U)) (sc_6_59 I L T U)) (sc_6_60 I L T U))
