/-! ===== calls that hold nothing of the script, run by the kernel ===== -/
set_option maxRecDepth 1000000 in
theorem cl_0 : clo_is (ev0 1000000 97 34 0 (lv_args 0 [.ref 25, .ref 1]) [] w1 0 0) none w1 0 0 = true := by decide +kernel
set_option maxRecDepth 1000000 in
theorem cl_1 : clo_is (ev0 1000000 97 65 0 (lv_args 0 [.ref 37, .ref 25]) [] (w1.set 0 (.inr (7, [.ref 1, .ref 3, .ref 7, .ref 9, .ref 10, .ref 11, .ref 12, .ref 25, .ref 13, .ref 37, .ref 39, .int 0, .int 0, .int 0]))) 0 0) none ((w1.set 0 (.inr (7, [.ref 1, .ref 3, .ref 7, .ref 9, .ref 10, .ref 11, .ref 12, .ref 25, .ref 13, .ref 37, .ref 39, .int 0, .int 0, .int 0]))).set 37 (.inr (4, [.ref 38, .ref 25]))) 0 0 = true := by decide +kernel
set_option maxRecDepth 1000000 in
theorem cl_2 : clo_is (ev0 1000000 97 65 0 (lv_args 0 [.ref 39, .ref 25]) [] ((w1.set 0 (.inr (7, [.ref 1, .ref 3, .ref 7, .ref 9, .ref 10, .ref 11, .ref 12, .ref 25, .ref 13, .ref 37, .ref 39, .int 0, .int 0, .int 0]))).set 37 (.inr (4, [.ref 38, .ref 25]))) 0 0) none (((w1.set 0 (.inr (7, [.ref 1, .ref 3, .ref 7, .ref 9, .ref 10, .ref 11, .ref 12, .ref 25, .ref 13, .ref 37, .ref 39, .int 0, .int 0, .int 0]))).set 37 (.inr (4, [.ref 38, .ref 25]))).set 39 (.inr (4, [.ref 40, .ref 25]))) 0 0 = true := by decide +kernel
set_option maxRecDepth 1000000 in
theorem cl_3 : clo_is (ev0 1000000 99 169 0 (lv_args 0 [.ref 41, .int 0]) [] (((w1.set 0 (.inr (7, [.ref 1, .ref 3, .ref 7, .ref 9, .ref 10, .ref 11, .ref 12, .ref 25, .ref 13, .ref 37, .ref 39, .int 0, .int 0, .int 0]))).set 37 (.inr (4, [.ref 38, .ref 25]))).set 39 (.inr (4, [.ref 40, .ref 25]))) 0 0) (some (.int 0)) ((((w1.set 0 (.inr (7, [.ref 1, .ref 3, .ref 7, .ref 9, .ref 10, .ref 11, .ref 12, .ref 25, .ref 13, .ref 37, .ref 39, .int 0, .int 0, .int 0]))).set 37 (.inr (4, [.ref 38, .ref 25]))).set 39 (.inr (4, [.ref 40, .ref 25]))).set 41 (.inr (8, [.int 0, .ref 42, .int 0, .int 0, .int 0, .int (-1), .int 0, .int 0, .int (-1), .ref 43, .ref 44, .ref 45, .ref 46, .ref 47, .ref 48, .ref 49, .int 0, .int 0, .int 0, .int 5, .int 0, .int 0, .int 0, .int 5, .ref 50, .ref 51, .ref 52, .ref 53, .ref 54, .int 0, .int 0, .ref 55, .ref 56, .ref 57, .int 0, .int 0, .int 0, .int 0, .int 0, .int 0, .ref 58, .ref 59, .ref 60, .ref 61, .ref 62, .ref 63, .ref 64, .int 0, .int 0, .ref 65, .int 0, .ref 66, .int 0]))) 0 0 = true := by decide +kernel
set_option maxRecDepth 1000000 in
theorem cl_4 : clo_is (ev0 1000000 97 17 0 (lv_args 0 [.ref 20, .ref 1]) [] w1 0 0) none (w1.set 1 (.inr (5, [.ref 2, .int 0, .int 0, .int 0, .int 1, .int 0]))) 0 0 = true := by decide +kernel
set_option maxRecDepth 1000000 in
theorem cl_5 : clo_is (ev0 1000000 99 177 0 (lv_args 0 [.ref 41, .int 0]) [] ((w1.set 1 (.inr (5, [.ref 2, .int 0, .int 0, .int 0, .int 1, .int 0]))).set 67 (.inl (2, .inr ([-9])))) 0 0) (some (.int (-9))) (((w1.set 1 (.inr (5, [.ref 2, .int 0, .int 0, .int 0, .int 1, .int 0]))).set 41 (.inr (8, [.int 0, .ref 42, .int 0, .int 0, .int 0, .int 0, .int 1, .int 0, .int 0, .ref 43, .ref 44, .ref 45, .ref 46, .ref 47, .ref 48, .ref 49, .int 0, .int 0, .int 0, .int 5, .int 0, .int 0, .int 0, .int 5, .ref 50, .ref 51, .ref 52, .ref 53, .ref 54, .int 0, .int 0, .ref 55, .ref 56, .ref 57, .int 0, .int 0, .int 0, .int 0, .int 0, .int 0, .ref 58, .ref 59, .ref 60, .ref 61, .ref 62, .ref 63, .ref 64, .int 0, .int 0, .ref 65, .int 0, .ref 66, .int 0]))).set 67 (.inl (2, .inr ([-9])))) 0 0 = true := by decide +kernel
set_option maxRecDepth 1000000 in
theorem cl_6 : clo_is (ev0 1000000 97 24 0 (lv_args 0 [.ref 3, .ref 37]) [] w1 0 0) none (w1.set 3 (.inr (1, [.ref 4, .ref 5, .ref 6, .int 1, .int 0]))) 0 0 = true := by decide +kernel
set_option maxRecDepth 1000000 in
theorem cl_7 : clo_is (ev0 1000000 99 202 0 (lv_args 0 [.ref 41, .int 0]) [] (w1.set 3 (.inr (1, [.ref 4, .ref 5, .ref 6, .int 1, .int 0]))) 0 0) (some (.int 0)) ((w1.set 3 (.inr (1, [.ref 4, .ref 5, .ref 6, .int 1, .int 0]))).set 41 (.inr (8, [.int 0, .ref 42, .int 0, .int 0, .int 0, .int (-1), .int 0, .int 0, .int (-1), .ref 43, .ref 44, .ref 45, .ref 46, .ref 47, .ref 48, .ref 49, .int 0, .int 0, .int 0, .int 5, .int 0, .int 0, .int 0, .int 5, .ref 50, .ref 51, .ref 52, .ref 53, .ref 54, .int 0, .int 0, .ref 55, .ref 56, .ref 57, .int 0, .int 1, .int 0, .int 0, .int 0, .int 0, .ref 58, .ref 59, .ref 60, .ref 61, .ref 62, .ref 63, .ref 64, .int 0, .int 0, .ref 65, .int 0, .ref 66, .int 0]))) 0 0 = true := by decide +kernel
set_option maxRecDepth 1000000 in
theorem cl_8 : clo_is (ev0 1000000 97 35 0 (lv_args 0 [.ref 13, .ref 1]) [] w1 0 0) none w1 0 0 = true := by decide +kernel
set_option maxRecDepth 1000000 in
theorem cl_9 : clo_is (ev0 1000000 99 206 0 (lv_args 0 [.ref 41, .int 0]) [] w1 0 0) (some (.int 0)) (w1.set 41 (.inr (8, [.int 0, .ref 42, .int 0, .int 0, .int 0, .int (-1), .int 0, .int 0, .int (-1), .ref 43, .ref 44, .ref 45, .ref 46, .ref 47, .ref 48, .ref 49, .int 0, .int 0, .int 0, .int 5, .int 0, .int 0, .int 0, .int 5, .ref 50, .ref 51, .ref 52, .ref 53, .ref 54, .int 0, .int 0, .ref 55, .ref 56, .ref 57, .int 0, .int 0, .int 0, .int 0, .int 0, .int 0, .ref 58, .ref 59, .ref 60, .ref 61, .ref 62, .ref 63, .ref 64, .int 0, .int 0, .ref 65, .int 0, .ref 66, .int 0]))) 0 0 = true := by decide +kernel
set_option maxRecDepth 1000000 in
theorem cl_10 : clo_is (ev0 1000000 97 36 0 (lv_args 0 [.ref 13, .ref 1]) [] w1 0 0) none (w1.set 18 (.inl (0, .inl ([-1, -1, -1, -1, 0, 0, 0, 0])))) 0 0 = true := by decide +kernel
set_option maxRecDepth 1000000 in
theorem cl_11 : clo_is (ev0 1000000 99 207 0 (lv_args 0 [.ref 41, .int 0]) [] (w1.set 18 (.inl (0, .inl ([-1, -1, -1, -1, 0, 0, 0, 0])))) 0 0) (some (.int 0)) (((w1.set 18 (.inl (0, .inl ([-1, -1, -1, -1, 0, 0, 0, 0])))).set 41 (.inr (8, [.int 0, .ref 42, .int 0, .int 0, .int 0, .int (-1), .int 0, .int 0, .int (-1), .ref 43, .ref 44, .ref 45, .ref 46, .ref 47, .ref 48, .ref 49, .int 0, .int 0, .int 0, .int 5, .int 0, .int 0, .int 0, .int 5, .ref 50, .ref 51, .ref 52, .ref 53, .ref 54, .int 0, .int 0, .ref 55, .ref 56, .ref 57, .int 0, .int 0, .int 0, .int 0, .int 0, .int 0, .ref 58, .ref 59, .ref 60, .ref 61, .ref 62, .ref 63, .ref 64, .int 0, .int 0, .ref 65, .int 0, .ref 66, .int 0]))).set 63 (.inl (0, .inl ([-1, -1, -1, -1])))) 0 0 = true := by decide +kernel
set_option maxRecDepth 1000000 in
theorem cl_12 : clo_is (ev0 1000000 98 186 0 (lv_args 0 [.ref 41]) [] w1 0 0) none w1 0 0 = true := by decide +kernel
set_option maxRecDepth 1000000 in
theorem cl_13 : clo_is (ev0 1000000 99 211 0 (lv_args 0 [.ref 41, .int 0]) [] w1 0 0) (some (.int 0)) w1 0 0 = true := by decide +kernel
set_option maxRecDepth 1000000 in
theorem cl_14 : clo_is (ev0 1000000 99 211 0 (lv_args 0 [.ref 41, .int 1]) [] w1 0 0) (some (.int 0)) w1 0 0 = true := by decide +kernel
set_option maxRecDepth 1000000 in
theorem cl_15 : clo_is (ev0 1000000 99 211 0 (lv_args 0 [.ref 41, .int 2]) [] w1 0 0) (some (.int 0)) w1 0 0 = true := by decide +kernel
set_option maxRecDepth 1000000 in
theorem cl_16 : clo_is (ev0 1000000 99 211 0 (lv_args 0 [.ref 41, .int 3]) [] (w1.set 67 (.inl (2, .inr ([5])))) 0 0) (some (.int 5)) (w1.set 67 (.inl (2, .inr ([5])))) 0 0 = true := by decide +kernel
set_option maxRecDepth 1000000 in
theorem cl_17 : clo_is (ev0 1000000 99 211 0 (lv_args 0 [.ref 41, .int 4]) [] w1 0 0) (some (.int 0)) w1 0 0 = true := by decide +kernel
set_option maxRecDepth 1000000 in
theorem cl_18 : clo_is (ev0 1000000 99 211 0 (lv_args 0 [.ref 41, .int 5]) [] w1 0 0) (some (.int 0)) w1 0 0 = true := by decide +kernel
set_option maxRecDepth 1000000 in
theorem cl_19 : clo_is (ev0 1000000 99 211 0 (lv_args 0 [.ref 41, .int 6]) [] w1 0 0) (some (.int 0)) w1 0 0 = true := by decide +kernel
set_option maxRecDepth 1000000 in
theorem cl_20 : clo_is (ev0 1000000 99 211 0 (lv_args 0 [.ref 41, .int 7]) [] w1 0 0) (some (.int 0)) w1 0 0 = true := by decide +kernel
set_option maxRecDepth 1000000 in
theorem cl_21 : clo_is (ev0 1000000 99 211 0 (lv_args 0 [.ref 41, .int 8]) [] w1 0 0) (some (.int 0)) w1 0 0 = true := by decide +kernel
set_option maxRecDepth 1000000 in
theorem cl_22 : clo_is (ev0 1000000 99 211 0 (lv_args 0 [.ref 41, .int 9]) [] w1 0 0) (some (.int 0)) w1 0 0 = true := by decide +kernel
set_option maxRecDepth 1000000 in
theorem cl_23 : clo_is (ev0 1000000 99 211 0 (lv_args 0 [.ref 41, .int 10]) [] w1 0 0) (some (.int 0)) w1 0 0 = true := by decide +kernel
set_option maxRecDepth 1000000 in
theorem cl_24 : clo_is (ev0 1000000 99 211 0 (lv_args 0 [.ref 41, .int 11]) [] w1 0 0) (some (.int 0)) w1 0 0 = true := by decide +kernel
set_option maxRecDepth 1000000 in
theorem cl_25 : clo_is (ev0 1000000 99 230 0 (lv_args 0 [.ref 41, .int 1]) [] (w1.set 67 (.inl (2, .inr ([-1])))) 0 0) (some (.int (-1))) (w1.set 67 (.inl (2, .inr ([-1])))) 0 0 = true := by decide +kernel
set_option maxRecDepth 1000000 in
theorem cl_26 : clo_is (ev0 1000000 99 230 0 (lv_args 0 [.ref 41, .int 0]) [] w1 0 0) (some (.int 0)) w1 0 0 = true := by decide +kernel
set_option maxRecDepth 1000000 in
theorem cl_27 : clo_is (ev0 1000000 99 232 0 (lv_args 0 [.ref 41, .int 1]) [] w1 0 0) (some (.int 0)) w1 0 0 = true := by decide +kernel
set_option maxRecDepth 1000000 in
theorem cl_28 : clo_is (ev0 1000000 99 232 0 (lv_args 0 [.ref 41, .int 0]) [] w1 0 0) (some (.int 0)) w1 0 0 = true := by decide +kernel
set_option maxRecDepth 1000000 in
theorem cl_29 : clo_is (ev0 1000000 99 240 0 (lv_args 0 [.ref 41, .int 1]) [] (w1.set 67 (.inl (2, .inr ([-1])))) 0 0) (some (.int (-1))) (w1.set 67 (.inl (2, .inr ([-1])))) 0 0 = true := by decide +kernel
set_option maxRecDepth 1000000 in
theorem cl_30 : clo_is (ev0 1000000 99 240 0 (lv_args 0 [.ref 41, .int 0]) [] (w1.set 67 (.inl (2, .inr ([-1])))) 0 0) (some (.int (-1))) (w1.set 67 (.inl (2, .inr ([-1])))) 0 0 = true := by decide +kernel
set_option maxRecDepth 1000000 in
theorem cl_31 : clo_is (ev0 1000000 99 241 0 (lv_args 0 [.ref 41]) [] w1 0 0) (some (.int 0)) w1 0 0 = true := by decide +kernel
set_option maxRecDepth 1000000 in
theorem cl_32 : clo_is (ev0 1000000 99 243 0 (lv_args 0 [.ref 41]) [] w1 0 0) (some (.int 0)) w1 0 0 = true := by decide +kernel
set_option maxRecDepth 1000000 in
theorem cl_33 : clo_is (ev0 1000000 99 246 0 (lv_args 0 [.ref 41, .int 0]) [] (w1.set 67 (.inl (2, .inr ([-1])))) 0 0) (some (.int (-1))) (w1.set 67 (.inl (2, .inr ([-1])))) 0 0 = true := by decide +kernel
set_option maxRecDepth 1000000 in
theorem cl_34 : clo_is (ev0 1000000 99 246 0 (lv_args 0 [.ref 41, .int 1]) [] (w1.set 67 (.inl (2, .inr ([-1])))) 0 0) (some (.int (-1))) (w1.set 67 (.inl (2, .inr ([-1])))) 0 0 = true := by decide +kernel
set_option maxRecDepth 1000000 in
theorem cl_35 : clo_is (ev0 1000000 99 249 0 (lv_args 0 [.ref 41]) [] w1 0 0) (some (.int 0)) w1 0 0 = true := by decide +kernel
