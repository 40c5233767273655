/-! ===== the words of the abstract machine stand among the tables of the claim ===== -/
theorem a_gnil {big : List Cond} : GoodIn big [] := fun _ h => nomatch h
theorem goodIn_g {big : List Cond} (ws : List Cond) (gs ps : List Nat) (hp : lEq ws (ps.filterMap (fun i => (pkg gs big)[i]?)) = true) (h : ws.all goodWord = true) : GoodIn big ws := by
  refine goodIn_sub (fun w hw => ?_) h
  rw [lEq_ok hp] at hw
  obtain ⟨i, -, hi⟩ := List.mem_filterMap.mp hw
  exact pkg_mem gs big w (List.mem_of_getElem? hi)
set_option maxRecDepth 100000 in
theorem g_AWF_0 : GoodIn lw_tbl (AWF_of 0) := goodIn_g _ [226, 0, 0, 0, 0, 0] [0, 1, 2, 3, 4, 5] (by decide +kernel) (by decide +kernel)
set_option maxRecDepth 100000 in
theorem g_AWF_1 : GoodIn lw_tbl (AWF_of 1) := goodIn_g _ [160, 0, 0, 0, 1, 147] [0, 1, 2, 3, 4, 5] (by decide +kernel) (by decide +kernel)
set_option maxRecDepth 100000 in
theorem g_AWF_2 : GoodIn lw_tbl (AWF_of 2) := goodIn_g _ [248, 2, 3, 2, 2, 1, 1, 1, 0, 2, 1, 0, 1] [0, 1, 2, 3, 4, 5, 6, 7, 8, 9, 10, 11, 12] (by decide +kernel) (by decide +kernel)
set_option maxRecDepth 100000 in
theorem g_AWF_3 : GoodIn lw_tbl (AWF_of 3) := goodIn_g _ [185, 0, 0, 1, 1, 57, 2, 3] [0, 1, 2, 3, 4, 5, 6, 7] (by decide +kernel) (by decide +kernel)
set_option maxRecDepth 100000 in
theorem g_AWF_4 : GoodIn lw_tbl (AWF_of 4) := goodIn_g _ [246, 13, 5, 3, 7, 33, 2] [0, 1, 2, 3, 4, 5, 6] (by decide +kernel) (by decide +kernel)
set_option maxRecDepth 100000 in
theorem g_AWF_5 : GoodIn lw_tbl (AWF_of 5) := goodIn_g _ [131, 0, 0, 0, 1, 1] [0, 1, 2, 3, 4, 5] (by decide +kernel) (by decide +kernel)
set_option maxRecDepth 100000 in
theorem g_AWF_6 : GoodIn lw_tbl (AWF_of 6) := goodIn_g _ [210, 34, 4, 3, 61] [0, 1, 2, 3, 4] (by decide +kernel) (by decide +kernel)
set_option maxRecDepth 100000 in
theorem g_AWF_7 : GoodIn lw_tbl (AWF_of 7) := goodIn_g _ [135, 1, 1, 24, 1, 21, 1, 1, 54, 5, 3, 1, 2, 1, 4, 2, 2, 1, 36, 7, 0, 0, 0, 0, 0, 0, 0, 0, 0, 0, 0, 0, 0] [0, 1, 2, 3, 4, 5, 6, 7, 8, 9, 10, 11, 12, 13, 14, 15, 16, 17, 18, 19, 20, 21, 22, 23, 24, 25, 26, 27, 28, 29, 30, 31, 32] (by decide +kernel) (by decide +kernel)
set_option maxRecDepth 100000 in
theorem g_AWF_8 : GoodIn lw_tbl (AWF_of 8) := goodIn_g _ [1234, 0, 0, 0, 0, 0, 0, 0, 0, 0, 0, 0, 0, 0, 0, 0, 0, 0, 0, 0, 0, 0, 0, 0, 0, 0, 0, 0, 0, 0, 0, 0, 0, 0, 0, 0, 0, 0, 0, 0, 0, 0, 0, 0, 0, 0, 0, 0, 0, 0, 0, 0, 0] [0, 1, 2, 3, 4, 5, 6, 7, 8, 9, 10, 11, 12, 13, 14, 15, 16, 17, 18, 19, 20, 21, 22, 23, 24, 25, 26, 27, 28, 29, 30, 31, 32, 33, 34, 35, 36, 37, 38, 39, 40, 41, 42, 43, 44, 45, 46, 47, 48, 49, 50, 51, 52] (by decide +kernel) (by decide +kernel)
set_option maxRecDepth 100000 in
theorem g_AWF_9 : GoodIn lw_tbl (AWF_of 9) := a_gnil
set_option maxRecDepth 100000 in
theorem g_AWM_0 : GoodIn lw_tbl (AWM_of 0) := goodIn_g _ [225, 192, 2, 276, 3, 3, 3, 0, 0, 3, 1, 1, 0, 0, 1, 5, 4] [0, 1, 2, 3, 4, 5, 6, 7, 8, 9, 10, 11, 12, 13, 14, 15, 16] (by decide +kernel) (by decide +kernel)
set_option maxRecDepth 100000 in
theorem g_AWM_1 : GoodIn lw_tbl (AWM_of 1) := goodIn_g _ [159, 277, 343] [0, 1, 2] (by decide +kernel) (by decide +kernel)
set_option maxRecDepth 100000 in
theorem g_AWM_2 : GoodIn lw_tbl (AWM_of 2) := goodIn_g _ [219, 341, 3, 3, 11, 1, 59, 3, 0, 0, 3, 2, 9, 202] [0, 1, 2, 3, 4, 5, 6, 7, 8, 9, 10, 11, 12, 13] (by decide +kernel) (by decide +kernel)
set_option maxRecDepth 100000 in
theorem g_AWM_3 : GoodIn lw_tbl (AWM_of 3) := goodIn_g _ [184, 566, 3, 0, 3, 1, 0, 0, 0, 3, 0, 3, 11, 0, 2, 3, 7, 28, 8, 0, 4, 7] [0, 1, 2, 3, 4, 5, 6, 7, 8, 9, 10, 11, 12, 13, 14, 15, 16, 17, 18, 19, 20, 21] (by decide +kernel) (by decide +kernel)
set_option maxRecDepth 100000 in
theorem g_AWM_4 : GoodIn lw_tbl (AWM_of 4) := goodIn_g _ [311, 78, 11, 3, 3, 3, 383, 7, 3, 3, 3, 3, 3, 3, 4, 3, 5, 4, 134] [0, 1, 2, 3, 4, 5, 6, 7, 8, 9, 10, 11, 12, 13, 14, 15, 16, 17, 18] (by decide +kernel) (by decide +kernel)
set_option maxRecDepth 100000 in
theorem g_AWM_5 : GoodIn lw_tbl (AWM_of 5) := goodIn_g _ [130, 246, 178, 16, 3, 9, 9, 37, 3, 20, 9, 63] [0, 1, 2, 3, 4, 5, 6, 7, 8, 9, 10, 11] (by decide +kernel) (by decide +kernel)
set_option maxRecDepth 100000 in
theorem g_AWM_6 : GoodIn lw_tbl (AWM_of 6) := goodIn_g _ [209, 985, 4, 0, 0, 0] [0, 1, 2, 3, 4, 5] (by decide +kernel) (by decide +kernel)
set_option maxRecDepth 100000 in
theorem g_AWM_7 : GoodIn lw_tbl (AWM_of 7) := goodIn_g _ [122, 185, 60, 3, 12, 11, 29, 4, 10, 7, 19, 3, 2, 2, 69, 4, 116, 0, 3, 3, 10, 48, 3, 29, 4, 82, 11, 10, 3, 11, 3, 19, 0, 3, 7, 3, 7, 3, 7, 7, 7, 4, 7, 0, 14, 3, 7, 3, 3, 10, 3, 3, 10, 3, 10, 3, 3, 7, 2, 10, 9, 17, 7, 49] [0, 1, 2, 3, 4, 5, 6, 7, 8, 9, 10, 11, 12, 13, 14, 15, 16, 17, 18, 19, 20, 21, 22, 23, 24, 25, 26, 27, 28, 29, 30, 31, 32, 33, 34, 35, 36, 37, 38, 39, 40, 41, 42, 43, 44, 45, 46, 47, 48, 49, 50, 51, 52, 53, 54, 55, 56, 57, 58, 59, 60, 61, 62, 63] (by decide +kernel) (by decide +kernel)
set_option maxRecDepth 100000 in
theorem g_AWM_8 : GoodIn lw_tbl (AWM_of 8) := goodIn_g _ [1221, 0, 3, 3, 176, 3, 3, 3, 3, 3, 3, 2, 3, 2, 0, 3, 3, 3, 3, 3, 3, 2, 3, 7, 3, 3, 3, 3, 4, 4, 14, 3, 9, 3, 3, 3, 3, 3, 3, 3, 3, 3, 3, 3, 3, 3, 3, 3, 3, 3, 3, 3, 3, 2, 7, 15, 2, 3, 3, 7, 3, 39, 3, 3, 3, 7, 7, 7, 8, 6, 6, 3, 55, 2, 3, 12, 3] [0, 1, 2, 3, 4, 5, 6, 7, 8, 9, 10, 11, 12, 13, 14, 15, 16, 17, 18, 19, 20, 21, 22, 23, 24, 25, 26, 27, 28, 29, 30, 31, 32, 33, 34, 35, 36, 37, 38, 39, 40, 41, 42, 43, 44, 45, 46, 47, 48, 49, 50, 51, 52, 53, 54, 55, 56, 57, 58, 59, 60, 61, 62, 63, 64, 65, 66, 67, 68, 69, 70, 71, 72, 73, 74, 75, 76] (by decide +kernel) (by decide +kernel)
set_option maxRecDepth 100000 in
theorem g_AWM_9 : GoodIn lw_tbl (AWM_of 9) := goodIn_g _ [119, 245, 12, 3, 11, 29, 4, 10, 7, 7, 3, 3, 3, 218, 2, 45, 2, 118, 2, 8, 2, 7, 2, 11, 3, 33, 2, 8, 2, 8, 2, 4, 2, 4, 2, 9, 2, 5, 2, 3, 2, 8, 2, 14, 2, 16, 2, 11, 2, 12, 2, 10, 2, 6, 2, 7, 2, 3, 2, 4, 2, 4, 2, 3, 2, 3, 2, 3, 2, 3, 2, 3, 2, 3, 2, 16, 2, 4, 5, 176, 3, 3, 73, 40, 104, 7, 3, 3, 18, 11, 3, 3, 3, 3, 3, 3, 3, 3, 18, 8, 7, 7, 7, 6, 11, 3, 3, 3, 3, 3, 3, 3, 3, 3, 3, 3, 3, 15, 3, 11, 3, 3] [0, 1, 2, 3, 4, 5, 6, 7, 8, 9, 10, 11, 12, 13, 14, 15, 16, 17, 18, 19, 20, 21, 22, 23, 24, 25, 26, 27, 28, 29, 30, 31, 32, 33, 34, 35, 36, 37, 38, 39, 40, 41, 42, 43, 44, 45, 46, 47, 48, 49, 50, 51, 52, 53, 54, 55, 56, 57, 58, 59, 60, 61, 62, 63, 64, 65, 66, 67, 68, 69, 70, 71, 72, 73, 74, 75, 76, 77, 78, 79, 80, 81, 82, 83, 84, 85, 86, 87, 88, 89, 90, 91, 92, 93, 94, 95, 96, 97, 98, 99, 100, 101, 102, 103, 104, 105, 106, 107, 108, 109, 110, 111, 112, 113, 114, 115, 116, 117, 118, 119, 120, 121] (by decide +kernel) (by decide +kernel)
set_option maxRecDepth 100000 in
theorem g_AWD_0 : GoodIn lw_tbl (AWD_of 0 15) := goodIn_g _ [4, 3, 0, 0, 0, 211, 0, 341, 0, 0, 5, 0, 0, 1, 0, 0, 3, 0, 0, 50, 0, 1, 0, 0, 14, 0, 0, 1, 0, 0, 3, 0, 0, 1, 0, 0, 26, 0, 2, 0, 2, 0, 4, 0] [6, 5, 9, 7, 8, 12, 10, 11, 15, 13, 14, 35, 33, 34, 43, 42, 4, 29, 27, 28, 23, 21, 22, 26, 24, 25, 20, 19, 0, 18, 16, 17, 32, 30, 31, 39, 38, 2, 37, 36, 1, 41, 40, 3] (by decide +kernel) (by decide +kernel)
set_option maxRecDepth 100000 in
theorem g_AWD_15 : GoodIn lw_tbl (AWD_of 15 15) := goodIn_g _ [157, 0, 58, 0, 196, 0, 0, 1, 0, 1, 0, 10, 0, 0, 8, 0, 0, 5, 0, 0, 114, 0, 0, 107, 0, 0, 12, 0, 0, 33, 0, 0, 10, 0, 0, 31, 0, 0, 18, 0, 0] [22, 20, 21, 31, 29, 30, 28, 26, 27, 8, 7, 10, 9, 6, 4, 5, 1, 0, 25, 23, 24, 34, 32, 33, 37, 35, 36, 13, 11, 12, 16, 14, 15, 19, 17, 18, 3, 2, 40, 38, 39] (by decide +kernel) (by decide +kernel)
set_option maxRecDepth 100000 in
theorem g_AWD_30 : GoodIn lw_tbl (AWD_of 30 15) := goodIn_g _ [3, 1, 0, 5, 0, 168, 0, 219, 0, 0, 152, 0, 0, 2, 0, 80, 0, 4, 0, 1, 0, 92, 0, 0, 2, 0, 2, 0, 0, 7, 0, 2, 0, 22, 0, 0, 68, 0, 0, 9, 0, 0] [14, 13, 0, 16, 15, 1, 20, 19, 18, 17, 2, 12, 10, 11, 38, 36, 37, 41, 39, 40, 6, 5, 32, 31, 28, 26, 27, 30, 29, 4, 25, 24, 3, 23, 21, 22, 9, 7, 8, 35, 33, 34] (by decide +kernel) (by decide +kernel)
set_option maxRecDepth 100000 in
theorem g_AWD_45 : GoodIn lw_tbl (AWD_of 45 15) := goodIn_g _ [15, 0, 374, 0, 0, 5, 0, 0, 5, 0, 0, 1, 0, 0, 389, 0, 0, 1, 0, 0, 1, 0, 0, 1, 0, 0, 1, 0, 0, 2, 0, 2, 0, 2, 0, 0, 1, 0, 0, 3, 0, 0, 6, 0, 0] [4, 2, 3, 28, 26, 27, 25, 23, 24, 22, 20, 21, 19, 17, 18, 30, 29, 0, 13, 11, 12, 32, 31, 1, 16, 14, 15, 38, 36, 37, 35, 33, 34, 10, 8, 9, 7, 5, 6, 41, 39, 40, 44, 42, 43] (by decide +kernel) (by decide +kernel)
set_option maxRecDepth 100000 in
theorem g_AWD_60 : GoodIn lw_tbl (AWD_of 60 15) := goodIn_g _ [14, 113, 0, 179, 0, 59, 0, 0, 1, 0, 0, 10, 0, 0, 163, 0, 0, 120, 0, 0, 104, 0, 0, 6, 0, 53, 0, 0, 5, 0, 0, 31, 0, 0, 1, 0, 0, 34, 0, 0, 49, 0, 0] [27, 25, 26, 30, 28, 29, 24, 23, 0, 22, 20, 21, 4, 3, 19, 17, 18, 42, 40, 41, 13, 11, 12, 39, 37, 38, 33, 31, 32, 36, 34, 35, 2, 1, 7, 5, 6, 10, 8, 9, 16, 14, 15] (by decide +kernel) (by decide +kernel)
set_option maxRecDepth 100000 in
theorem g_AWD_75 : GoodIn lw_tbl (AWD_of 75 15) := goodIn_g _ [0, 0, 5, 24, 87, 0, 85, 0, 157, 0, 0, 10, 0, 0, 87, 0, 0, 2, 0, 4, 0, 2, 0, 199, 0, 4, 0, 0, 46, 0, 0, 119, 0, 0, 9, 0, 0, 315, 0, 0, 2, 0] [7, 6, 41, 40, 3, 39, 37, 38, 5, 4, 10, 8, 9, 20, 19, 22, 21, 1, 18, 17, 0, 24, 23, 2, 16, 14, 15, 27, 25, 26, 30, 28, 29, 33, 31, 32, 36, 34, 35, 13, 11, 12] (by decide +kernel) (by decide +kernel)
set_option maxRecDepth 100000 in
theorem g_AWD_90 : GoodIn lw_tbl (AWD_of 90 15) := goodIn_g _ [17, 0, 0, 0, 362, 0, 0, 499, 0, 0, 13, 0, 0, 2, 0, 2, 0, 26, 0, 0, 2, 0, 5, 0, 0, 2, 0, 5, 0, 0, 5, 0, 0, 173, 0, 0, 4, 0, 0, 11, 0, 0, 4, 0, 0] [9, 7, 8, 16, 15, 1, 14, 13, 0, 12, 10, 11, 21, 20, 2, 19, 17, 18, 26, 25, 3, 24, 22, 23, 35, 33, 34, 38, 36, 37, 41, 39, 40, 6, 4, 5, 44, 42, 43, 29, 27, 28, 32, 30, 31] (by decide +kernel) (by decide +kernel)
set_option maxRecDepth 100000 in
theorem g_AWD_105 : GoodIn lw_tbl (AWD_of 105 15) := goodIn_g _ [21, 0, 0, 371, 0, 0, 27, 0, 0, 550, 0, 0, 10, 0, 0, 6, 0, 0, 4, 0, 0, 2, 0, 5, 0, 0, 2, 0, 2, 0, 93, 0, 0, 4, 0, 0, 5, 0, 0, 19, 0, 0, 18, 0, 0] [32, 30, 31, 5, 3, 4, 8, 6, 7, 35, 33, 34, 38, 36, 37, 11, 9, 10, 14, 12, 13, 17, 15, 16, 22, 21, 0, 20, 18, 19, 41, 39, 40, 44, 42, 43, 27, 26, 1, 29, 28, 2, 25, 23, 24] (by decide +kernel) (by decide +kernel)
set_option maxRecDepth 100000 in
theorem g_AWD_120 : GoodIn lw_tbl (AWD_of 120 15) := goodIn_g _ [24, 0, 0, 0, 0, 0, 0, 0, 1005, 0, 0, 3, 0, 2, 0, 2, 0, 4, 0, 0, 2, 0, 2, 0, 4, 0, 0, 2, 0, 2, 0, 5, 0, 0, 1, 0, 1, 0, 15, 0, 0, 2, 0] [12, 11, 0, 16, 15, 2, 14, 13, 1, 10, 8, 9, 42, 41, 7, 40, 38, 39, 23, 22, 4, 21, 20, 3, 19, 17, 18, 30, 29, 6, 28, 27, 5, 26, 24, 25, 35, 34, 37, 36, 33, 31, 32] (by decide +kernel) (by decide +kernel)
set_option maxRecDepth 100000 in
theorem g_AWD_135 : GoodIn lw_tbl (AWD_of 135 15) := goodIn_g _ [33, 0, 0, 0, 393, 0, 0, 8, 0, 0, 5, 0, 0, 5, 0, 0, 1, 0, 0, 638, 0, 0, 1, 0, 80, 0, 0, 17, 0, 0, 2, 0, 0, 8, 0, 2, 0, 2, 0, 175, 0, 233, 0] [23, 22, 21, 19, 20, 26, 24, 25, 29, 27, 28, 6, 4, 5, 9, 7, 8, 12, 10, 11, 15, 13, 14, 18, 16, 17, 32, 30, 31, 40, 39, 3, 42, 41, 34, 33, 0, 38, 37, 2, 36, 35, 1] (by decide +kernel) (by decide +kernel)
set_option maxRecDepth 100000 in
theorem g_AWD_150 : GoodIn lw_tbl (AWD_of 150 15) := goodIn_g _ [37, 0, 0, 0, 0, 0, 1, 1, 0, 0, 1170, 0, 175, 0, 0, 14, 0, 2, 0, 2, 0, 2, 0, 2, 0, 1, 0, 5, 0, 7, 0, 6, 0, 6, 0, 1, 0, 2, 0, 2, 0] [11, 10, 14, 12, 13, 18, 17, 1, 30, 29, 5, 22, 21, 3, 26, 25, 36, 35, 24, 23, 4, 28, 27, 32, 31, 6, 34, 33, 7, 38, 37, 8, 20, 19, 2, 16, 15, 0, 40, 39, 9] (by decide +kernel) (by decide +kernel)
set_option maxRecDepth 100000 in
theorem g_AWD_165 : GoodIn lw_tbl (AWD_of 165 15) := goodIn_g _ [43, 1, 3, 0, 0, 0, 0, 0, 0, 20, 1323, 0, 0, 1, 0, 0, 28, 0, 15, 0, 6, 0, 16, 0, 0, 2, 0, 2, 0, 2, 0, 2, 0, 2, 0, 3, 0, 3, 0, 103, 0, 1, 0] [12, 10, 11, 17, 16, 19, 18, 0, 21, 20, 1, 15, 13, 14, 34, 33, 6, 32, 31, 5, 38, 37, 8, 28, 27, 3, 26, 25, 2, 36, 35, 7, 30, 29, 4, 24, 22, 23, 42, 41, 40, 39, 9] (by decide +kernel) (by decide +kernel)
set_option maxRecDepth 100000 in
theorem g_AWD_180 : GoodIn lw_tbl (AWD_of 180 15) := goodIn_g _ [56, 0, 0, 0, 0, 2, 0, 0, 0, 0, 0, 0, 0, 4, 1448, 0, 1, 0, 9, 0, 2, 0, 2, 0, 2, 0, 10, 0, 2, 0, 2, 0, 2, 0, 2, 0, 2, 0, 2, 0, 2, 0, 18, 0] [43, 42, 13, 21, 20, 2, 17, 16, 23, 22, 3, 19, 18, 1, 15, 14, 0, 25, 24, 4, 29, 28, 6, 27, 26, 5, 35, 34, 9, 33, 32, 8, 37, 36, 10, 39, 38, 11, 31, 30, 7, 41, 40, 12] (by decide +kernel) (by decide +kernel)
set_option maxRecDepth 100000 in
theorem g_AWD_195 : GoodIn lw_tbl (AWD_of 195 15) := goodIn_g _ [61, 0, 8, 0, 0, 0, 2, 0, 0, 0, 2, 1435, 0, 0, 32, 0, 2, 0, 34, 0, 2, 0, 2, 0, 2, 0, 13, 0, 1, 0, 0, 2, 0, 1, 0, 0, 1, 0, 0, 9, 0, 2, 0, 14, 0] [25, 24, 5, 23, 22, 4, 21, 20, 3, 19, 18, 2, 27, 26, 6, 17, 16, 1, 15, 14, 0, 13, 11, 12, 40, 39, 8, 44, 43, 10, 32, 31, 7, 30, 28, 29, 35, 33, 34, 38, 36, 37, 42, 41, 9] (by decide +kernel) (by decide +kernel)
set_option maxRecDepth 100000 in
theorem g_AWD_210 : GoodIn lw_tbl (AWD_of 210 15) := goodIn_g _ [81, 0, 1, 1, 0, 1552, 0, 0, 13, 0, 1, 0, 0, 2, 0, 5, 0, 0, 1, 0, 0, 1, 0, 0, 1, 0, 0, 1, 0, 0, 1, 0, 0, 1, 0, 0, 1, 0, 0, 6, 0, 6, 0, 10, 0] [9, 8, 0, 7, 5, 6, 14, 13, 1, 12, 10, 11, 17, 15, 16, 20, 18, 19, 23, 21, 22, 26, 24, 25, 29, 27, 28, 32, 30, 31, 35, 33, 34, 38, 36, 37, 40, 39, 2, 42, 41, 3, 44, 43, 4] (by decide +kernel) (by decide +kernel)
set_option maxRecDepth 100000 in
theorem g_AWD_225 : GoodIn lw_tbl (AWD_of 225 15) := goodIn_g _ [85, 2, 0, 0, 0, 1611, 0, 0, 6, 0, 5, 0, 1, 0, 0, 6, 0, 0, 2, 0, 1, 0, 0, 2, 0, 1, 0, 0, 2, 0, 1, 0, 0, 1, 0, 1, 0, 0, 2, 0, 2, 0] [11, 10, 9, 8, 0, 7, 5, 6, 14, 12, 13, 19, 18, 1, 17, 15, 16, 24, 23, 2, 22, 20, 21, 29, 28, 27, 25, 26, 34, 33, 32, 30, 31, 41, 40, 4, 39, 38, 3, 37, 35, 36] (by decide +kernel) (by decide +kernel)
set_option maxRecDepth 100000 in
theorem g_AWD_240 : GoodIn lw_tbl (AWD_of 240 15) := goodIn_g _ [92, 0, 1680, 0, 0, 1, 0, 0, 1, 0, 0, 1, 0, 0, 1, 0, 0, 1, 0, 0, 1, 0, 0, 1, 0, 0, 1, 0, 0, 1, 0, 0, 1, 0, 0, 1, 0, 0, 5, 0, 2, 0, 2, 0] [4, 2, 3, 7, 5, 6, 10, 8, 9, 13, 11, 12, 16, 14, 15, 19, 17, 18, 22, 20, 21, 25, 23, 24, 28, 26, 27, 31, 29, 30, 34, 32, 33, 37, 35, 36, 43, 42, 1, 41, 40, 0, 39, 38] (by decide +kernel) (by decide +kernel)
set_option maxRecDepth 100000 in
theorem g_AWD_255 : GoodIn lw_tbl (AWD_of 255 15) := goodIn_g _ [94, 0, 369, 0, 221, 0, 47, 0, 120, 0, 10, 0, 9, 0, 13, 0, 923, 0, 0, 13, 0, 0, 1, 0, 0, 2, 0, 2, 0, 1, 0, 0, 1, 0, 0, 1, 0, 0] [18, 16, 17, 21, 19, 20, 28, 27, 1, 26, 25, 0, 24, 22, 23, 31, 29, 30, 34, 32, 33, 37, 35, 36, 3, 2, 5, 4, 7, 6, 9, 8, 11, 10, 13, 12, 15, 14] (by decide +kernel) (by decide +kernel)
set_option maxRecDepth 100000 in
theorem g_AWD_270 : GoodIn lw_tbl (AWD_of 270 15) := goodIn_g _ [935, 0, 10, 0, 10, 0, 6, 0, 6, 0, 11, 0, 7, 0, 5, 0, 10, 0, 16, 0, 18, 0, 13, 0, 14, 0, 12, 0, 8, 0] [1, 0, 3, 2, 5, 4, 7, 6, 9, 8, 11, 10, 13, 12, 15, 14, 17, 16, 19, 18, 21, 20, 23, 22, 25, 24, 27, 26, 29, 28] (by decide +kernel) (by decide +kernel)
set_option maxRecDepth 100000 in
theorem g_AWD_285 : GoodIn lw_tbl (AWD_of 285 11) := goodIn_g _ [1120, 0, 5, 0, 6, 0, 6, 0, 5, 0, 5, 0, 5, 0, 5, 0, 5, 0, 5, 0, 18, 0] [1, 0, 3, 2, 5, 4, 7, 6, 9, 8, 11, 10, 13, 12, 15, 14, 17, 16, 19, 18, 21, 20] (by decide +kernel) (by decide +kernel)
set_option maxRecDepth 100000 in
theorem g_AWC : GoodIn lw_tbl AWC := goodIn_g _ [96, 0, 0, 0, 0, 0, 0, 0, 0, 0, 12, 7, 13, 1, 1, 1, 1, 1, 4, 11, 1, 1, 1, 1, 4, 12, 1, 1, 1, 1, 3, 5, 3, 5, 10, 1, 1, 1, 1, 1, 36, 1, 1, 1, 1, 1, 1, 1, 1, 1, 1, 1, 1, 3, 9, 1, 16, 1, 1, 1, 1, 1, 1, 1, 1, 1, 1, 1, 1, 1, 854, 69, 1, 1, 1, 1, 1, 1, 1, 1, 1, 1, 1, 1, 1, 1, 1, 1, 1, 1, 1, 1, 1, 1, 1, 1, 1, 1, 1, 1, 1, 1, 1, 1, 1, 1, 1, 1, 1, 1, 1, 1, 1, 1, 1, 1, 1, 1, 1, 1, 1, 1, 1, 1] [7, 3, 6, 4, 8, 2, 5, 1, 9, 0, 33, 34, 35, 36, 37, 38, 39, 18, 19, 20, 21, 22, 23, 32, 40, 41, 42, 43, 44, 45, 46, 47, 48, 49, 50, 51, 52, 24, 25, 26, 27, 28, 29, 53, 54, 55, 11, 12, 13, 14, 15, 16, 17, 30, 31, 10, 56, 57, 58, 59, 60, 61, 62, 63, 64, 65, 66, 67, 68, 69, 70, 71, 72, 73, 74, 75, 76, 77, 78, 79, 80, 81, 82, 83, 84, 85, 86, 87, 88, 89, 90, 91, 92, 93, 94, 95, 96, 97, 98, 99, 100, 101, 102, 103, 104, 105, 106, 107, 108, 109, 110, 111, 112, 113, 114, 115, 116, 117, 118, 119, 120, 121, 122, 123] (by decide +kernel) (by decide +kernel)
set_option maxRecDepth 100000 in
theorem g_AWK : GoodIn lw_tbl AWK := goodIn_g _ [117, 7, 28, 24, 24, 9, 5, 85, 160, 18, 177, 234, 12, 127, 56, 101, 11, 4, 508, 24, 85] [6, 10, 15, 1, 2, 3, 4, 5, 7, 9, 12, 13, 16, 14, 18, 20, 19, 0, 8, 11, 17] (by decide +kernel) (by decide +kernel)
set_option maxRecDepth 100000 in
theorem g_AWB : GoodIn lw_tbl AWB := goodIn_g _ [106, 8, 7, 0, 28, 24, 259, 0, 37, 0, 309, 0, 241, 0, 361] [2, 3, 10, 8, 12, 11, 9, 13, 0, 7, 6, 1, 5, 4, 14] (by decide +kernel) (by decide +kernel)
set_option maxRecDepth 100000 in
theorem g_AWJ : GoodIn lw_tbl AWJ := goodIn_g _ [111, 0, 0, 0, 473, 0, 0, 0, 0, 0, 0, 0, 2, 0, 0, 0, 0, 0, 0, 0, 0, 0, 0, 0, 0, 0, 1, 0, 0, 0, 0, 0, 0, 0, 0, 0, 0, 0, 0, 0, 0, 0, 0, 1, 1, 1245, 0] [4, 5, 12, 13, 0, 6, 45, 7, 8, 9, 0, 10, 11, 46, 14, 45, 15, 16, 17, 0, 18, 11, 46, 19, 20, 1, 21, 22, 23, 24, 25, 26, 27, 2, 28, 29, 30, 3, 31, 32, 33, 34, 35, 36, 37, 38, 39, 40, 41, 42, 43, 44] (by decide +kernel) (by decide +kernel)
set_option maxRecDepth 100000 in
theorem g_AWX0 : ∀ w ∈ (a_xw 100).filter goodWord, w ∈ lw_tbl := fun w hw => pkg_mem [0, 0, 0, 0, 0, 0, 0, 0, 0, 0, 0, 0, 0, 0, 0, 0, 0, 0, 0, 0, 0, 0, 0, 0, 0, 0, 0, 0, 0, 0, 0, 0, 0, 0, 0, 0, 0, 0, 0, 0, 0, 0, 0, 0, 0, 0, 0, 0, 0, 0, 0, 0, 0, 0, 0, 0, 0, 0, 0, 0, 0, 0, 0, 0, 0, 0, 0, 0, 0, 0, 0, 0, 0, 0, 0, 0, 0, 0, 0, 0, 0, 0, 0, 0, 0, 0, 0, 0, 0, 0, 0, 0, 0, 0, 0, 0, 10, 0, 0, 0, 0, 0, 0, 0, 0, 0, 0, 5, 0, 0, 5, 21, 0, 5, 17, 0, 5, 18, 5, 3, 5, 5, 18, 60, 5, 9, 42, 72, 0, 0, 27, 8, 0, 0, 7, 0, 0, 0, 0, 0, 0, 0, 0, 0, 0, 0, 0, 0, 0, 0, 0, 0, 0, 0, 0, 0, 0, 0, 0, 0, 0, 0, 0, 0, 0, 0, 0, 0, 0, 0, 0, 0, 0, 0, 1, 0, 0, 0, 0, 0, 0, 0, 0, 0, 0, 0, 0, 0, 0, 0, 0, 0, 0, 0, 0, 0, 0, 0, 0, 4, 30, 0, 0, 0, 0, 0, 0, 0, 0, 0, 0, 0, 0, 0, 0, 0, 0, 0, 0, 0, 0, 0, 0, 0, 0, 0, 0, 0, 0, 0, 0, 0, 0, 0, 0, 0, 0, 0, 0, 0, 0, 0, 0, 0, 0, 0, 0, 0, 100, 51, 0, 0, 40, 8, 29, 29, 12, 0, 0, 0, 0, 0, 0, 0, 0, 1, 0, 0, 0, 0, 0, 57, 44, 0, 0, 50, 137, 171, 0, 46, 0, 422, 0, 0, 0, 0, 0, 0, 0, 0, 0, 0, 0, 0, 0, 0, 0] _ _ ((by decide +kernel : ∀ w ∈ (a_xw 100).filter goodWord, w ∈ pkg [0, 0, 0, 0, 0, 0, 0, 0, 0, 0, 0, 0, 0, 0, 0, 0, 0, 0, 0, 0, 0, 0, 0, 0, 0, 0, 0, 0, 0, 0, 0, 0, 0, 0, 0, 0, 0, 0, 0, 0, 0, 0, 0, 0, 0, 0, 0, 0, 0, 0, 0, 0, 0, 0, 0, 0, 0, 0, 0, 0, 0, 0, 0, 0, 0, 0, 0, 0, 0, 0, 0, 0, 0, 0, 0, 0, 0, 0, 0, 0, 0, 0, 0, 0, 0, 0, 0, 0, 0, 0, 0, 0, 0, 0, 0, 0, 10, 0, 0, 0, 0, 0, 0, 0, 0, 0, 0, 5, 0, 0, 5, 21, 0, 5, 17, 0, 5, 18, 5, 3, 5, 5, 18, 60, 5, 9, 42, 72, 0, 0, 27, 8, 0, 0, 7, 0, 0, 0, 0, 0, 0, 0, 0, 0, 0, 0, 0, 0, 0, 0, 0, 0, 0, 0, 0, 0, 0, 0, 0, 0, 0, 0, 0, 0, 0, 0, 0, 0, 0, 0, 0, 0, 0, 0, 1, 0, 0, 0, 0, 0, 0, 0, 0, 0, 0, 0, 0, 0, 0, 0, 0, 0, 0, 0, 0, 0, 0, 0, 0, 4, 30, 0, 0, 0, 0, 0, 0, 0, 0, 0, 0, 0, 0, 0, 0, 0, 0, 0, 0, 0, 0, 0, 0, 0, 0, 0, 0, 0, 0, 0, 0, 0, 0, 0, 0, 0, 0, 0, 0, 0, 0, 0, 0, 0, 0, 0, 0, 0, 100, 51, 0, 0, 40, 8, 29, 29, 12, 0, 0, 0, 0, 0, 0, 0, 0, 1, 0, 0, 0, 0, 0, 57, 44, 0, 0, 50, 137, 171, 0, 46, 0, 422, 0, 0, 0, 0, 0, 0, 0, 0, 0, 0, 0, 0, 0, 0, 0] lw_tbl) w hw)
set_option maxRecDepth 100000 in
theorem g_AWX1 : ∀ w ∈ (a_xw 101).filter goodWord, w ∈ lw_tbl := fun w hw => pkg_mem [0, 0, 0, 0, 0, 0, 0, 0, 0, 0, 0, 0, 0, 0, 0, 0, 0, 0, 0, 0, 0, 0, 0, 0, 0, 0, 0, 0, 0, 0, 0, 0, 0, 0, 0, 0, 0, 0, 0, 0, 0, 0, 0, 0, 0, 0, 0, 0, 0, 0, 0, 0, 0, 0, 0, 0, 0, 0, 0, 0, 0, 0, 0, 0, 0, 0, 0, 0, 0, 0, 0, 0, 0, 0, 0, 0, 0, 0, 0, 0, 0, 0, 0, 0, 0, 0, 0, 0, 0, 0, 0, 0, 0, 0, 0, 0, 10, 0, 0, 0, 0, 0, 0, 0, 0, 0, 0, 5, 0, 0, 5, 21, 0, 5, 17, 0, 5, 18, 5, 3, 5, 5, 18, 60, 5, 9, 42, 72, 0, 0, 27, 8, 0, 0, 7, 0, 0, 0, 0, 0, 0, 0, 0, 0, 0, 0, 0, 0, 0, 0, 0, 0, 0, 0, 0, 0, 0, 0, 0, 0, 0, 0, 0, 0, 0, 0, 0, 0, 0, 0, 0, 0, 0, 0, 1, 0, 0, 0, 0, 0, 0, 0, 0, 0, 0, 0, 0, 0, 0, 0, 0, 0, 0, 0, 0, 0, 0, 0, 0, 4, 30, 0, 0, 0, 0, 0, 0, 0, 0, 0, 0, 0, 0, 0, 0, 0, 0, 0, 0, 0, 0, 0, 0, 0, 0, 0, 0, 0, 0, 0, 0, 0, 0, 0, 0, 0, 0, 0, 0, 0, 0, 0, 0, 0, 0, 0, 0, 0, 100, 51, 0, 0, 40, 8, 29, 29, 12, 0, 0, 0, 0, 0, 0, 0, 0, 1, 0, 0, 0, 0, 0, 57, 44, 0, 0, 50, 137, 171, 0, 46, 0, 422, 0, 0, 0, 0, 0, 0, 0, 0, 0, 0, 0, 0, 0, 0, 0] _ _ ((by decide +kernel : ∀ w ∈ (a_xw 101).filter goodWord, w ∈ pkg [0, 0, 0, 0, 0, 0, 0, 0, 0, 0, 0, 0, 0, 0, 0, 0, 0, 0, 0, 0, 0, 0, 0, 0, 0, 0, 0, 0, 0, 0, 0, 0, 0, 0, 0, 0, 0, 0, 0, 0, 0, 0, 0, 0, 0, 0, 0, 0, 0, 0, 0, 0, 0, 0, 0, 0, 0, 0, 0, 0, 0, 0, 0, 0, 0, 0, 0, 0, 0, 0, 0, 0, 0, 0, 0, 0, 0, 0, 0, 0, 0, 0, 0, 0, 0, 0, 0, 0, 0, 0, 0, 0, 0, 0, 0, 0, 10, 0, 0, 0, 0, 0, 0, 0, 0, 0, 0, 5, 0, 0, 5, 21, 0, 5, 17, 0, 5, 18, 5, 3, 5, 5, 18, 60, 5, 9, 42, 72, 0, 0, 27, 8, 0, 0, 7, 0, 0, 0, 0, 0, 0, 0, 0, 0, 0, 0, 0, 0, 0, 0, 0, 0, 0, 0, 0, 0, 0, 0, 0, 0, 0, 0, 0, 0, 0, 0, 0, 0, 0, 0, 0, 0, 0, 0, 1, 0, 0, 0, 0, 0, 0, 0, 0, 0, 0, 0, 0, 0, 0, 0, 0, 0, 0, 0, 0, 0, 0, 0, 0, 4, 30, 0, 0, 0, 0, 0, 0, 0, 0, 0, 0, 0, 0, 0, 0, 0, 0, 0, 0, 0, 0, 0, 0, 0, 0, 0, 0, 0, 0, 0, 0, 0, 0, 0, 0, 0, 0, 0, 0, 0, 0, 0, 0, 0, 0, 0, 0, 0, 100, 51, 0, 0, 40, 8, 29, 29, 12, 0, 0, 0, 0, 0, 0, 0, 0, 1, 0, 0, 0, 0, 0, 57, 44, 0, 0, 50, 137, 171, 0, 46, 0, 422, 0, 0, 0, 0, 0, 0, 0, 0, 0, 0, 0, 0, 0, 0, 0] lw_tbl) w hw)
set_option maxRecDepth 100000 in
theorem g_AWX2 : GoodIn lw_tbl [.initialized (xNm 100), .initialized (xNm 101)] := goodIn_of _ (by decide +kernel)
theorem g_AWX : GoodIn lw_tbl AWX := goodIn_app g_AWX2 (goodIn_app (fun w h => ⟨g_AWX0 w h, good_of_word (List.mem_filter.mp h).2⟩) (fun w h => ⟨g_AWX1 w h, good_of_word (List.mem_filter.mp h).2⟩))
set_option maxRecDepth 100000 in
theorem g_AWN : ∀ w ∈ AWN, w ∈ lw_tbl := by decide +kernel
set_option maxRecDepth 100000 in
theorem AWN_hw : AWN.all a_hw = true := by decide +kernel
theorem a_gflat {α : Type} {big : List Cond} {l : List α} {f : α → List Cond} (h : ∀ a ∈ l, GoodIn big (f a)) : GoodIn big (l.flatMap f) := fun w hw => by
  obtain ⟨a, h1, h2⟩ := List.mem_flatMap.mp hw
  exact h a h1 w h2
theorem g_AWF : GoodIn lw_tbl AWF := a_gflat fun a h => by
  have h := List.mem_range.mp h
  match a, h with
  | 0, _ => exact g_AWF_0
  | 1, _ => exact g_AWF_1
  | 2, _ => exact g_AWF_2
  | 3, _ => exact g_AWF_3
  | 4, _ => exact g_AWF_4
  | 5, _ => exact g_AWF_5
  | 6, _ => exact g_AWF_6
  | 7, _ => exact g_AWF_7
  | 8, _ => exact g_AWF_8
  | 9, _ => exact g_AWF_9
theorem g_AWM : GoodIn lw_tbl AWM := a_gflat fun a h => by
  have h := List.mem_range.mp h
  match a, h with
  | 0, _ => exact g_AWM_0
  | 1, _ => exact g_AWM_1
  | 2, _ => exact g_AWM_2
  | 3, _ => exact g_AWM_3
  | 4, _ => exact g_AWM_4
  | 5, _ => exact g_AWM_5
  | 6, _ => exact g_AWM_6
  | 7, _ => exact g_AWM_7
  | 8, _ => exact g_AWM_8
  | 9, _ => exact g_AWM_9
noncomputable def AWD : List Cond := AWD_of 0 15 ++ (AWD_of 15 15 ++ (AWD_of 30 15 ++ (AWD_of 45 15 ++ (AWD_of 60 15 ++ (AWD_of 75 15 ++ (AWD_of 90 15 ++ (AWD_of 105 15 ++ (AWD_of 120 15 ++ (AWD_of 135 15 ++ (AWD_of 150 15 ++ (AWD_of 165 15 ++ (AWD_of 180 15 ++ (AWD_of 195 15 ++ (AWD_of 210 15 ++ (AWD_of 225 15 ++ (AWD_of 240 15 ++ (AWD_of 255 15 ++ (AWD_of 270 15 ++ (AWD_of 285 11)))))))))))))))))))
theorem g_AWD : GoodIn lw_tbl AWD := goodIn_app g_AWD_0 (goodIn_app g_AWD_15 (goodIn_app g_AWD_30 (goodIn_app g_AWD_45 (goodIn_app g_AWD_60 (goodIn_app g_AWD_75 (goodIn_app g_AWD_90 (goodIn_app g_AWD_105 (goodIn_app g_AWD_120 (goodIn_app g_AWD_135 (goodIn_app g_AWD_150 (goodIn_app g_AWD_165 (goodIn_app g_AWD_180 (goodIn_app g_AWD_195 (goodIn_app g_AWD_210 (goodIn_app g_AWD_225 (goodIn_app g_AWD_240 (goodIn_app g_AWD_255 (goodIn_app g_AWD_270 (g_AWD_285)))))))))))))))))))
noncomputable def ALLW : List Cond := AWF ++ (AWM ++ (AWD ++ (AWC ++ (AWK ++ (AWB ++ (AWJ ++ AWX))))))
theorem g_ALLW : GoodIn lw_tbl ALLW := goodIn_app g_AWF (goodIn_app g_AWM (goodIn_app g_AWD (goodIn_app g_AWC (goodIn_app g_AWK (goodIn_app g_AWB (goodIn_app g_AWJ g_AWX))))))
theorem a_inD {k : Nat} (h : k < 296) : ∀ w ∈ wD k, w ∈ AWD := by
  intro w hw
  have key : ∀ a n : Nat, a ≤ k → k < a + n → w ∈ AWD_of a n := fun a n h1 h2 => List.mem_flatMap.mpr ⟨k - a, List.mem_range.mpr (by omega), by rw [show a + (k - a) = k from by omega]; exact hw⟩
  unfold AWD
  by_cases h0 : k < 15
  · exact List.mem_append_left _ (key 0 15 (by omega) (by omega))
  by_cases h15 : k < 30
  · exact List.mem_append_right _ (List.mem_append_left _ (key 15 15 (by omega) (by omega)))
  by_cases h30 : k < 45
  · exact List.mem_append_right _ (List.mem_append_right _ (List.mem_append_left _ (key 30 15 (by omega) (by omega))))
  by_cases h45 : k < 60
  · exact List.mem_append_right _ (List.mem_append_right _ (List.mem_append_right _ (List.mem_append_left _ (key 45 15 (by omega) (by omega)))))
  by_cases h60 : k < 75
  · exact List.mem_append_right _ (List.mem_append_right _ (List.mem_append_right _ (List.mem_append_right _ (List.mem_append_left _ (key 60 15 (by omega) (by omega))))))
  by_cases h75 : k < 90
  · exact List.mem_append_right _ (List.mem_append_right _ (List.mem_append_right _ (List.mem_append_right _ (List.mem_append_right _ (List.mem_append_left _ (key 75 15 (by omega) (by omega)))))))
  by_cases h90 : k < 105
  · exact List.mem_append_right _ (List.mem_append_right _ (List.mem_append_right _ (List.mem_append_right _ (List.mem_append_right _ (List.mem_append_right _ (List.mem_append_left _ (key 90 15 (by omega) (by omega))))))))
  by_cases h105 : k < 120
  · exact List.mem_append_right _ (List.mem_append_right _ (List.mem_append_right _ (List.mem_append_right _ (List.mem_append_right _ (List.mem_append_right _ (List.mem_append_right _ (List.mem_append_left _ (key 105 15 (by omega) (by omega)))))))))
  by_cases h120 : k < 135
  · exact List.mem_append_right _ (List.mem_append_right _ (List.mem_append_right _ (List.mem_append_right _ (List.mem_append_right _ (List.mem_append_right _ (List.mem_append_right _ (List.mem_append_right _ (List.mem_append_left _ (key 120 15 (by omega) (by omega))))))))))
  by_cases h135 : k < 150
  · exact List.mem_append_right _ (List.mem_append_right _ (List.mem_append_right _ (List.mem_append_right _ (List.mem_append_right _ (List.mem_append_right _ (List.mem_append_right _ (List.mem_append_right _ (List.mem_append_right _ (List.mem_append_left _ (key 135 15 (by omega) (by omega)))))))))))
  by_cases h150 : k < 165
  · exact List.mem_append_right _ (List.mem_append_right _ (List.mem_append_right _ (List.mem_append_right _ (List.mem_append_right _ (List.mem_append_right _ (List.mem_append_right _ (List.mem_append_right _ (List.mem_append_right _ (List.mem_append_right _ (List.mem_append_left _ (key 150 15 (by omega) (by omega))))))))))))
  by_cases h165 : k < 180
  · exact List.mem_append_right _ (List.mem_append_right _ (List.mem_append_right _ (List.mem_append_right _ (List.mem_append_right _ (List.mem_append_right _ (List.mem_append_right _ (List.mem_append_right _ (List.mem_append_right _ (List.mem_append_right _ (List.mem_append_right _ (List.mem_append_left _ (key 165 15 (by omega) (by omega)))))))))))))
  by_cases h180 : k < 195
  · exact List.mem_append_right _ (List.mem_append_right _ (List.mem_append_right _ (List.mem_append_right _ (List.mem_append_right _ (List.mem_append_right _ (List.mem_append_right _ (List.mem_append_right _ (List.mem_append_right _ (List.mem_append_right _ (List.mem_append_right _ (List.mem_append_right _ (List.mem_append_left _ (key 180 15 (by omega) (by omega))))))))))))))
  by_cases h195 : k < 210
  · exact List.mem_append_right _ (List.mem_append_right _ (List.mem_append_right _ (List.mem_append_right _ (List.mem_append_right _ (List.mem_append_right _ (List.mem_append_right _ (List.mem_append_right _ (List.mem_append_right _ (List.mem_append_right _ (List.mem_append_right _ (List.mem_append_right _ (List.mem_append_right _ (List.mem_append_left _ (key 195 15 (by omega) (by omega)))))))))))))))
  by_cases h210 : k < 225
  · exact List.mem_append_right _ (List.mem_append_right _ (List.mem_append_right _ (List.mem_append_right _ (List.mem_append_right _ (List.mem_append_right _ (List.mem_append_right _ (List.mem_append_right _ (List.mem_append_right _ (List.mem_append_right _ (List.mem_append_right _ (List.mem_append_right _ (List.mem_append_right _ (List.mem_append_right _ (List.mem_append_left _ (key 210 15 (by omega) (by omega))))))))))))))))
  by_cases h225 : k < 240
  · exact List.mem_append_right _ (List.mem_append_right _ (List.mem_append_right _ (List.mem_append_right _ (List.mem_append_right _ (List.mem_append_right _ (List.mem_append_right _ (List.mem_append_right _ (List.mem_append_right _ (List.mem_append_right _ (List.mem_append_right _ (List.mem_append_right _ (List.mem_append_right _ (List.mem_append_right _ (List.mem_append_right _ (List.mem_append_left _ (key 225 15 (by omega) (by omega)))))))))))))))))
  by_cases h240 : k < 255
  · exact List.mem_append_right _ (List.mem_append_right _ (List.mem_append_right _ (List.mem_append_right _ (List.mem_append_right _ (List.mem_append_right _ (List.mem_append_right _ (List.mem_append_right _ (List.mem_append_right _ (List.mem_append_right _ (List.mem_append_right _ (List.mem_append_right _ (List.mem_append_right _ (List.mem_append_right _ (List.mem_append_right _ (List.mem_append_right _ (List.mem_append_left _ (key 240 15 (by omega) (by omega))))))))))))))))))
  by_cases h255 : k < 270
  · exact List.mem_append_right _ (List.mem_append_right _ (List.mem_append_right _ (List.mem_append_right _ (List.mem_append_right _ (List.mem_append_right _ (List.mem_append_right _ (List.mem_append_right _ (List.mem_append_right _ (List.mem_append_right _ (List.mem_append_right _ (List.mem_append_right _ (List.mem_append_right _ (List.mem_append_right _ (List.mem_append_right _ (List.mem_append_right _ (List.mem_append_right _ (List.mem_append_left _ (key 255 15 (by omega) (by omega)))))))))))))))))))
  by_cases h270 : k < 285
  · exact List.mem_append_right _ (List.mem_append_right _ (List.mem_append_right _ (List.mem_append_right _ (List.mem_append_right _ (List.mem_append_right _ (List.mem_append_right _ (List.mem_append_right _ (List.mem_append_right _ (List.mem_append_right _ (List.mem_append_right _ (List.mem_append_right _ (List.mem_append_right _ (List.mem_append_right _ (List.mem_append_right _ (List.mem_append_right _ (List.mem_append_right _ (List.mem_append_right _ (List.mem_append_left _ (key 270 15 (by omega) (by omega))))))))))))))))))))
  exact List.mem_append_right _ (List.mem_append_right _ (List.mem_append_right _ (List.mem_append_right _ (List.mem_append_right _ (List.mem_append_right _ (List.mem_append_right _ (List.mem_append_right _ (List.mem_append_right _ (List.mem_append_right _ (List.mem_append_right _ (List.mem_append_right _ (List.mem_append_right _ (List.mem_append_right _ (List.mem_append_right _ (List.mem_append_right _ (List.mem_append_right _ (List.mem_append_right _ (List.mem_append_right _ (key 285 11 (by omega) (by omega))))))))))))))))))))
