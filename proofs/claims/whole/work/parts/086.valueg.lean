theorem e_truthT {vh : rx_H} : f_X10_truth vh [.int 1] = some (some (.long 1125899906842625), vh) := ry_fn_eq rfl
theorem e_truthF {vh : rx_H} : f_X10_truth vh [.int 0] = some (some (.long 1125899906842624), vh) := ry_fn_eq rfl
theorem e_exec1 {vh : rx_H} {z : Int64} (h : ¬ lg_cmp (z &&& 281474976710656) 0 = 0) : f_X10_isExecutable vh [.long z] = some (some (.int 1), vh) := ry_fn_eq (ry_f h rfl)
theorem e_exec0 {vh : rx_H} {z : Int64} (h : lg_cmp (z &&& 281474976710656) 0 = 0) : f_X10_isExecutable vh [.long z] = some (some (.int 0), vh) := ry_fn_eq (ry_t h rfl)
