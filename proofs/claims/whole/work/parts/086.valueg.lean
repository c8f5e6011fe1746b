theorem bo_1 : (1 : Int32) = 0 ∨ (1 : Int32) = 1 := Or.inr rfl
theorem bo_0 : (0 : Int32) = 0 ∨ (0 : Int32) = 1 := Or.inl rfl
theorem e_exec1 {vh : rx_H} {z : Int64} (h : ¬ lg_cmp (z &&& 281474976710656) 0 = 0) : f_X10_isExecutable vh [.long z] = some (some (.int 1), vh) := ry_fn_eq (ry_f h (ry_t bo_1 rfl))
theorem e_exec0 {vh : rx_H} {z : Int64} (h : lg_cmp (z &&& 281474976710656) 0 = 0) : f_X10_isExecutable vh [.long z] = some (some (.int 0), vh) := ry_fn_eq (ry_t h (ry_t bo_0 rfl))
