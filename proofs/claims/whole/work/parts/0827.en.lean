/-- a method's start, with as much fuel as it needs -/
theorem rz_en {kc : Nat → Option Value} {fl fp : Nat → Option (Nat × Nat × FieldType)} {gs fg : Nat → Option Nat} {nw : Nat → Option (Nat × Nat × List Value)} {cf : Instr → Option rx_C} {rt : Option FieldType} {nL : Nat} {cd : List (Nat × List (Instr × Nat))} {n : Nat} {vh : rx_H} {As : List Value} {rs : Option Value × rx_H} (m : Nat) (hm : m ≤ n) (hb : Nat.ble ((As.map Value.category).sum) nL = true) (h : rz_run kc fl fp gs fg cf rt cd 0 (rz_args As ++ List.replicate (nL - (As.map Value.category).sum) .null) [] vh m = some rs) : rx_fn kc fl fp gs fg nw cf rt 0 0 nL cd n vh As = some rs := by
  apply rz_fn_eq
  unfold rz_fn
  rw [hb]
  exact rz_mono m n 0 _ _ [] vh hm rz_L.rf rfl h
