/-! ===== calls that hold nothing of the script, run by the kernel ===== -/
set_option maxRecDepth 1000000 in
theorem cl_0 : clo_is (ev0 1000000 98 186 0 (lv_args 0 [.ref 41]) [] w1 0 0) none w1 0 0 = true := by decide +kernel
set_option maxRecDepth 1000000 in
theorem cl_1 : clo_is (ev0 1000000 99 211 0 (lv_args 0 [.ref 41, .int 0]) [] w1 0 0) (some (.int 0)) w1 0 0 = true := by decide +kernel
set_option maxRecDepth 1000000 in
theorem cl_2 : clo_is (ev0 1000000 99 211 0 (lv_args 0 [.ref 41, .int 1]) [] w1 0 0) (some (.int 0)) w1 0 0 = true := by decide +kernel
set_option maxRecDepth 1000000 in
theorem cl_3 : clo_is (ev0 1000000 99 211 0 (lv_args 0 [.ref 41, .int 2]) [] w1 0 0) (some (.int 0)) w1 0 0 = true := by decide +kernel
set_option maxRecDepth 1000000 in
theorem cl_4 : clo_is (ev0 1000000 99 211 0 (lv_args 0 [.ref 41, .int 3]) [] (w1.set 67 (.inl (2, .inr ([5])))) 0 0) (some (.int 5)) (w1.set 67 (.inl (2, .inr ([5])))) 0 0 = true := by decide +kernel
set_option maxRecDepth 1000000 in
theorem cl_5 : clo_is (ev0 1000000 99 211 0 (lv_args 0 [.ref 41, .int 4]) [] w1 0 0) (some (.int 0)) w1 0 0 = true := by decide +kernel
set_option maxRecDepth 1000000 in
theorem cl_6 : clo_is (ev0 1000000 99 211 0 (lv_args 0 [.ref 41, .int 5]) [] w1 0 0) (some (.int 0)) w1 0 0 = true := by decide +kernel
set_option maxRecDepth 1000000 in
theorem cl_7 : clo_is (ev0 1000000 99 211 0 (lv_args 0 [.ref 41, .int 6]) [] w1 0 0) (some (.int 0)) w1 0 0 = true := by decide +kernel
set_option maxRecDepth 1000000 in
theorem cl_8 : clo_is (ev0 1000000 99 211 0 (lv_args 0 [.ref 41, .int 7]) [] w1 0 0) (some (.int 0)) w1 0 0 = true := by decide +kernel
set_option maxRecDepth 1000000 in
theorem cl_9 : clo_is (ev0 1000000 99 211 0 (lv_args 0 [.ref 41, .int 8]) [] w1 0 0) (some (.int 0)) w1 0 0 = true := by decide +kernel
set_option maxRecDepth 1000000 in
theorem cl_10 : clo_is (ev0 1000000 99 211 0 (lv_args 0 [.ref 41, .int 9]) [] w1 0 0) (some (.int 0)) w1 0 0 = true := by decide +kernel
set_option maxRecDepth 1000000 in
theorem cl_11 : clo_is (ev0 1000000 99 211 0 (lv_args 0 [.ref 41, .int 10]) [] w1 0 0) (some (.int 0)) w1 0 0 = true := by decide +kernel
set_option maxRecDepth 1000000 in
theorem cl_12 : clo_is (ev0 1000000 99 211 0 (lv_args 0 [.ref 41, .int 11]) [] w1 0 0) (some (.int 0)) w1 0 0 = true := by decide +kernel
