/-! ===== the words of the abstract machine stand among the tables of the claim ===== -/
theorem a_gnil {big : List Cond} : GoodIn big [] := fun _ h => nomatch h
def pkg : List Nat → List Cond → List Cond
  | [], _ => []
  | g :: gs, l => match l.drop g with
    | [] => []
    | x :: t => x :: pkg gs t
theorem pkg_mem : ∀ (gs : List Nat) (l : List Cond) (w : Cond), w ∈ pkg gs l → w ∈ l
  | [], _, _, h => nomatch h
  | g :: gs, l, w, h => by
    unfold pkg at h
    cases hd : l.drop g with
    | nil => rw [hd] at h; exact (fun z : w ∈ ([] : List Cond) => nomatch z) h
    | cons x t =>
      rw [hd] at h
      have hx : w ∈ l.drop g := by
        rw [hd]
        have h2 : w ∈ x :: pkg gs t := h
        rcases List.mem_cons.mp h2 with e | e
        · exact List.mem_cons.mpr (Or.inl e)
        · exact List.mem_cons.mpr (Or.inr (pkg_mem gs t w e))
      exact List.mem_of_mem_drop hx
theorem goodIn_g {big : List Cond} (ws : List Cond) (gs ps : List Nat) (hp : ws = ps.filterMap (fun i => (pkg gs big)[i]?)) (h : ws.all goodWord = true) : GoodIn big ws := by
  refine goodIn_sub (fun w hw => ?_) h
  rw [hp] at hw
  obtain ⟨i, -, hi⟩ := List.mem_filterMap.mp hw
  exact pkg_mem gs big w (List.mem_of_getElem? hi)
set_option maxRecDepth 100000 in
theorem e_g_AWF_0 : (AWF_of 0) = ([0, 1, 2, 3, 4, 5] : List Nat).filterMap (fun i => (pkg [226, 0, 0, 0, 0, 0] lw_tbl)[i]?) := by decide +kernel
set_option maxRecDepth 100000 in
theorem e_g_AWF_1 : (AWF_of 1) = ([0, 1, 2, 3, 4, 5] : List Nat).filterMap (fun i => (pkg [160, 0, 0, 0, 1, 147] lw_tbl)[i]?) := by decide +kernel
set_option maxRecDepth 100000 in
theorem e_g_AWF_2 : (AWF_of 2) = ([0, 1, 2, 3, 4, 5, 6, 7, 8, 9, 10, 11, 12] : List Nat).filterMap (fun i => (pkg [248, 2, 3, 2, 2, 1, 1, 1, 0, 2, 1, 0, 1] lw_tbl)[i]?) := by decide +kernel
set_option maxRecDepth 100000 in
theorem e_g_AWF_3 : (AWF_of 3) = ([0, 1, 2, 3, 4, 5, 6, 7] : List Nat).filterMap (fun i => (pkg [185, 0, 0, 1, 1, 57, 2, 3] lw_tbl)[i]?) := by decide +kernel
set_option maxRecDepth 100000 in
theorem e_g_AWF_4 : (AWF_of 4) = ([0, 1, 2, 3, 4, 5, 6] : List Nat).filterMap (fun i => (pkg [246, 13, 5, 3, 7, 33, 2] lw_tbl)[i]?) := by decide +kernel
set_option maxRecDepth 100000 in
theorem e_g_AWF_5 : (AWF_of 5) = ([0, 1, 2, 3, 4, 5] : List Nat).filterMap (fun i => (pkg [131, 0, 0, 0, 1, 1] lw_tbl)[i]?) := by decide +kernel
set_option maxRecDepth 100000 in
theorem e_g_AWF_6 : (AWF_of 6) = ([0, 1, 2, 3, 4] : List Nat).filterMap (fun i => (pkg [210, 34, 4, 3, 61] lw_tbl)[i]?) := by decide +kernel
set_option maxRecDepth 100000 in
theorem e_g_AWF_7 : (AWF_of 7) = ([0, 1, 2, 3, 4, 5, 6, 7, 8, 9, 10, 11, 12, 13, 14, 15, 16, 17, 18, 19, 20, 21, 22, 23, 24, 25, 26, 27, 28, 29, 30, 31, 32] : List Nat).filterMap (fun i => (pkg [135, 1, 1, 24, 1, 21, 1, 1, 54, 5, 3, 1, 2, 1, 4, 2, 2, 1, 36, 7, 0, 0, 0, 0, 0, 0, 0, 0, 0, 0, 0, 0, 0] lw_tbl)[i]?) := by decide +kernel
set_option maxRecDepth 100000 in
theorem e_g_AWF_8 : (AWF_of 8) = ([0, 1, 2, 3, 4, 5, 6, 7, 8, 9, 10, 11, 12, 13, 14, 15, 16, 17, 18, 19, 20, 21, 22, 23, 24, 25, 26, 27, 28, 29, 30, 31, 32, 33, 34, 35, 36, 37, 38, 39, 40, 41, 42, 43, 44, 45, 46, 47, 48, 49, 50, 51, 52] : List Nat).filterMap (fun i => (pkg [1230, 0, 0, 0, 0, 0, 0, 0, 0, 0, 0, 0, 0, 0, 0, 0, 0, 0, 0, 0, 0, 0, 0, 0, 0, 0, 0, 0, 0, 0, 0, 0, 0, 0, 0, 0, 0, 0, 0, 0, 0, 0, 0, 0, 0, 0, 0, 0, 0, 0, 0, 0, 0] lw_tbl)[i]?) := by decide +kernel
set_option maxRecDepth 100000 in
theorem e_g_AWM_0 : (AWM_of 0) = ([0, 1, 2, 3, 4, 5, 6, 7, 8, 9, 10, 11, 12, 13, 14, 15, 16] : List Nat).filterMap (fun i => (pkg [225, 192, 2, 276, 3, 3, 3, 0, 0, 3, 1, 1, 0, 0, 1, 5, 4] lw_tbl)[i]?) := by decide +kernel
set_option maxRecDepth 100000 in
theorem e_g_AWM_1 : (AWM_of 1) = ([0, 1, 2] : List Nat).filterMap (fun i => (pkg [159, 277, 343] lw_tbl)[i]?) := by decide +kernel
set_option maxRecDepth 100000 in
theorem e_g_AWM_2 : (AWM_of 2) = ([0, 1, 2, 3, 4, 5, 6, 7, 8, 9, 10, 11, 12, 13] : List Nat).filterMap (fun i => (pkg [219, 341, 3, 3, 11, 1, 59, 3, 0, 0, 3, 2, 9, 202] lw_tbl)[i]?) := by decide +kernel
set_option maxRecDepth 100000 in
theorem e_g_AWM_3 : (AWM_of 3) = ([0, 1, 2, 3, 4, 5, 6, 7, 8, 9, 10, 11, 12, 13, 14, 15, 16, 17, 18, 19, 20, 21] : List Nat).filterMap (fun i => (pkg [184, 566, 3, 0, 3, 1, 0, 0, 0, 3, 0, 3, 11, 0, 2, 3, 7, 28, 8, 0, 4, 7] lw_tbl)[i]?) := by decide +kernel
set_option maxRecDepth 100000 in
theorem e_g_AWM_4 : (AWM_of 4) = ([0, 1, 2, 3, 4, 5, 6, 7, 8, 9, 10, 11, 12, 13, 14, 15, 16, 17, 18] : List Nat).filterMap (fun i => (pkg [311, 78, 11, 3, 3, 3, 383, 7, 3, 3, 3, 3, 3, 3, 4, 3, 5, 4, 134] lw_tbl)[i]?) := by decide +kernel
set_option maxRecDepth 100000 in
theorem e_g_AWM_5 : (AWM_of 5) = ([0, 1, 2, 3, 4, 5, 6, 7, 8, 9, 10, 11] : List Nat).filterMap (fun i => (pkg [130, 246, 178, 16, 3, 9, 9, 37, 3, 20, 9, 63] lw_tbl)[i]?) := by decide +kernel
set_option maxRecDepth 100000 in
theorem e_g_AWM_6 : (AWM_of 6) = ([0, 1, 2, 3, 4, 5] : List Nat).filterMap (fun i => (pkg [209, 985, 4, 0, 0, 0] lw_tbl)[i]?) := by decide +kernel
set_option maxRecDepth 100000 in
theorem e_g_AWM_7 : (AWM_of 7) = ([0, 1, 2, 3, 4, 5, 6, 7, 8, 9, 10, 11, 12, 13, 14, 15, 16, 17, 18, 19, 20, 21, 22, 23, 24, 25, 26, 27, 28, 29, 30, 31, 32, 33, 34, 35, 36, 37, 38, 39, 40, 41, 42, 43, 44, 45, 46, 47, 48, 49, 50, 51, 52, 53, 54, 55, 56, 57, 58, 59, 60, 61, 62, 63] : List Nat).filterMap (fun i => (pkg [122, 185, 60, 3, 12, 11, 29, 4, 10, 7, 19, 3, 2, 2, 69, 4, 116, 0, 3, 3, 10, 48, 3, 29, 4, 82, 11, 10, 3, 11, 3, 19, 0, 3, 7, 3, 7, 3, 7, 7, 7, 4, 7, 0, 14, 3, 7, 3, 3, 10, 3, 3, 10, 3, 10, 3, 3, 7, 2, 10, 9, 17, 7, 49] lw_tbl)[i]?) := by decide +kernel
set_option maxRecDepth 100000 in
theorem e_g_AWM_8 : (AWM_of 8) = ([0, 1, 2, 3, 4, 5, 6, 7, 8, 9, 10, 11, 12, 13, 14, 15, 16, 17, 18, 19, 20, 21, 22, 23, 24, 25, 26, 27, 28, 29, 30, 31, 32, 33, 34, 35, 36, 37, 38, 39, 40, 41, 42, 43, 44, 45, 46, 47, 48, 49, 50, 51, 52, 53, 54, 55, 56, 57, 58, 59, 60, 61, 62, 63, 64, 65, 66, 67, 68, 69, 70, 71, 72, 73, 74, 75, 76] : List Nat).filterMap (fun i => (pkg [1217, 0, 3, 3, 176, 3, 3, 3, 3, 3, 3, 2, 3, 2, 0, 3, 3, 3, 3, 3, 3, 2, 3, 7, 3, 3, 3, 3, 4, 4, 14, 3, 9, 3, 3, 3, 3, 3, 3, 3, 3, 3, 3, 3, 3, 3, 3, 3, 3, 3, 3, 3, 3, 2, 7, 15, 2, 3, 3, 7, 3, 39, 3, 3, 3, 7, 7, 7, 8, 6, 6, 3, 55, 2, 3, 12, 3] lw_tbl)[i]?) := by decide +kernel
set_option maxRecDepth 100000 in
theorem e_g_AWM_9 : (AWM_of 9) = ([0, 1, 2, 3, 4, 5, 6, 7, 8, 9, 10, 11, 12, 13, 14, 15, 16, 17, 18, 19, 20, 21, 22, 23, 24, 25, 26, 27, 28, 29, 30, 31, 32, 33, 34, 35, 36, 37, 38, 39, 40, 41, 42, 43, 44, 45, 46, 47, 48, 49, 50, 51, 52, 53, 54, 55, 56, 57, 58, 59, 60, 61, 62, 63, 64, 65, 66, 67, 68, 69, 70, 71, 72, 73, 74, 75, 76, 77, 78, 79, 80, 81, 82, 83, 84, 85, 86, 87, 88, 89, 90, 91, 92, 93, 94, 95, 96, 97, 98, 99, 100, 101, 102, 103, 104, 105, 106, 107, 108, 109, 110, 111, 112, 113, 114, 115, 116, 117, 118, 119, 120] : List Nat).filterMap (fun i => (pkg [119, 245, 12, 3, 11, 29, 4, 10, 7, 7, 3, 3, 3, 218, 2, 45, 2, 118, 2, 8, 2, 7, 2, 11, 3, 33, 2, 8, 2, 8, 2, 4, 2, 4, 2, 9, 2, 5, 2, 3, 2, 8, 2, 14, 2, 16, 2, 11, 2, 12, 2, 10, 2, 6, 2, 7, 2, 3, 2, 4, 2, 4, 2, 3, 2, 3, 2, 3, 2, 3, 2, 3, 2, 3, 2, 16, 2, 6, 176, 3, 3, 73, 40, 104, 7, 3, 3, 18, 11, 3, 3, 3, 3, 3, 3, 3, 3, 18, 8, 7, 7, 7, 6, 11, 3, 3, 3, 3, 3, 3, 3, 3, 3, 3, 3, 3, 15, 3, 11, 3, 3] lw_tbl)[i]?) := by decide +kernel
set_option maxRecDepth 100000 in
theorem e_g_AWD_0 : (AWD_of 0 15) = ([6, 5, 9, 7, 8, 12, 10, 11, 15, 13, 14, 35, 33, 34, 43, 42, 4, 29, 27, 28, 23, 21, 22, 26, 24, 25, 20, 19, 0, 18, 16, 17, 32, 30, 31, 39, 38, 2, 37, 36, 1, 41, 40, 3] : List Nat).filterMap (fun i => (pkg [4, 3, 0, 0, 0, 211, 0, 341, 0, 0, 5, 0, 0, 1, 0, 0, 3, 0, 0, 50, 0, 1, 0, 0, 14, 0, 0, 1, 0, 0, 3, 0, 0, 1, 0, 0, 26, 0, 2, 0, 2, 0, 4, 0] lw_tbl)[i]?) := by decide +kernel
set_option maxRecDepth 100000 in
theorem e_g_AWD_15 : (AWD_of 15 15) = ([22, 20, 21, 31, 29, 30, 28, 26, 27, 8, 7, 10, 9, 6, 4, 5, 1, 0, 25, 23, 24, 34, 32, 33, 37, 35, 36, 13, 11, 12, 16, 14, 15, 19, 17, 18, 3, 2, 40, 38, 39] : List Nat).filterMap (fun i => (pkg [157, 0, 58, 0, 196, 0, 0, 1, 0, 1, 0, 10, 0, 0, 8, 0, 0, 5, 0, 0, 114, 0, 0, 107, 0, 0, 12, 0, 0, 33, 0, 0, 10, 0, 0, 31, 0, 0, 18, 0, 0] lw_tbl)[i]?) := by decide +kernel
set_option maxRecDepth 100000 in
theorem e_g_AWD_30 : (AWD_of 30 15) = ([14, 13, 0, 16, 15, 1, 20, 19, 18, 17, 2, 12, 10, 11, 38, 36, 37, 41, 39, 40, 6, 5, 32, 31, 28, 26, 27, 30, 29, 4, 25, 24, 3, 23, 21, 22, 9, 7, 8, 35, 33, 34] : List Nat).filterMap (fun i => (pkg [3, 1, 0, 5, 0, 168, 0, 219, 0, 0, 152, 0, 0, 2, 0, 80, 0, 4, 0, 1, 0, 92, 0, 0, 2, 0, 2, 0, 0, 7, 0, 2, 0, 22, 0, 0, 68, 0, 0, 9, 0, 0] lw_tbl)[i]?) := by decide +kernel
set_option maxRecDepth 100000 in
theorem e_g_AWD_45 : (AWD_of 45 15) = ([4, 2, 3, 28, 26, 27, 25, 23, 24, 22, 20, 21, 19, 17, 18, 30, 29, 0, 13, 11, 12, 32, 31, 1, 16, 14, 15, 38, 36, 37, 35, 33, 34, 10, 8, 9, 7, 5, 6, 41, 39, 40, 44, 42, 43] : List Nat).filterMap (fun i => (pkg [15, 0, 374, 0, 0, 5, 0, 0, 5, 0, 0, 1, 0, 0, 389, 0, 0, 1, 0, 0, 1, 0, 0, 1, 0, 0, 1, 0, 0, 2, 0, 2, 0, 2, 0, 0, 1, 0, 0, 3, 0, 0, 6, 0, 0] lw_tbl)[i]?) := by decide +kernel
set_option maxRecDepth 100000 in
theorem e_g_AWD_60 : (AWD_of 60 15) = ([27, 25, 26, 30, 28, 29, 24, 23, 0, 22, 20, 21, 4, 3, 19, 17, 18, 42, 40, 41, 13, 11, 12, 39, 37, 38, 33, 31, 32, 36, 34, 35, 2, 1, 7, 5, 6, 10, 8, 9, 16, 14, 15] : List Nat).filterMap (fun i => (pkg [14, 113, 0, 179, 0, 59, 0, 0, 1, 0, 0, 10, 0, 0, 163, 0, 0, 120, 0, 0, 104, 0, 0, 6, 0, 53, 0, 0, 5, 0, 0, 31, 0, 0, 1, 0, 0, 34, 0, 0, 49, 0, 0] lw_tbl)[i]?) := by decide +kernel
set_option maxRecDepth 100000 in
theorem e_g_AWD_75 : (AWD_of 75 15) = ([7, 6, 41, 40, 3, 39, 37, 38, 5, 4, 10, 8, 9, 20, 19, 22, 21, 1, 18, 17, 0, 24, 23, 2, 16, 14, 15, 27, 25, 26, 30, 28, 29, 33, 31, 32, 36, 34, 35, 13, 11, 12] : List Nat).filterMap (fun i => (pkg [0, 0, 5, 24, 87, 0, 85, 0, 157, 0, 0, 10, 0, 0, 87, 0, 0, 2, 0, 4, 0, 2, 0, 199, 0, 4, 0, 0, 46, 0, 0, 119, 0, 0, 9, 0, 0, 315, 0, 0, 2, 0] lw_tbl)[i]?) := by decide +kernel
set_option maxRecDepth 100000 in
theorem e_g_AWD_90 : (AWD_of 90 15) = ([9, 7, 8, 16, 15, 1, 14, 13, 0, 12, 10, 11, 21, 20, 2, 19, 17, 18, 26, 25, 3, 24, 22, 23, 35, 33, 34, 38, 36, 37, 41, 39, 40, 6, 4, 5, 44, 42, 43, 29, 27, 28, 32, 30, 31] : List Nat).filterMap (fun i => (pkg [17, 0, 0, 0, 362, 0, 0, 499, 0, 0, 13, 0, 0, 2, 0, 2, 0, 26, 0, 0, 2, 0, 5, 0, 0, 2, 0, 5, 0, 0, 5, 0, 0, 173, 0, 0, 4, 0, 0, 11, 0, 0, 4, 0, 0] lw_tbl)[i]?) := by decide +kernel
set_option maxRecDepth 100000 in
theorem e_g_AWD_105 : (AWD_of 105 15) = ([32, 30, 31, 5, 3, 4, 8, 6, 7, 35, 33, 34, 38, 36, 37, 11, 9, 10, 14, 12, 13, 17, 15, 16, 22, 21, 0, 20, 18, 19, 41, 39, 40, 44, 42, 43, 27, 26, 1, 29, 28, 2, 25, 23, 24] : List Nat).filterMap (fun i => (pkg [21, 0, 0, 371, 0, 0, 27, 0, 0, 550, 0, 0, 10, 0, 0, 6, 0, 0, 4, 0, 0, 2, 0, 5, 0, 0, 2, 0, 2, 0, 93, 0, 0, 4, 0, 0, 5, 0, 0, 19, 0, 0, 18, 0, 0] lw_tbl)[i]?) := by decide +kernel
set_option maxRecDepth 100000 in
theorem e_g_AWD_120 : (AWD_of 120 15) = ([12, 11, 0, 16, 15, 2, 14, 13, 1, 10, 8, 9, 42, 41, 7, 40, 38, 39, 23, 22, 4, 21, 20, 3, 19, 17, 18, 30, 29, 6, 28, 27, 5, 26, 24, 25, 35, 34, 37, 36, 33, 31, 32] : List Nat).filterMap (fun i => (pkg [24, 0, 0, 0, 0, 0, 0, 0, 1005, 0, 0, 3, 0, 2, 0, 2, 0, 4, 0, 0, 2, 0, 2, 0, 4, 0, 0, 2, 0, 2, 0, 5, 0, 0, 1, 0, 1, 0, 15, 0, 0, 2, 0] lw_tbl)[i]?) := by decide +kernel
set_option maxRecDepth 100000 in
theorem e_g_AWD_135 : (AWD_of 135 15) = ([23, 22, 21, 19, 20, 26, 24, 25, 29, 27, 28, 6, 4, 5, 9, 7, 8, 12, 10, 11, 15, 13, 14, 18, 16, 17, 37, 36, 3, 37, 36, 3, 39, 38, 31, 30, 0, 35, 34, 2, 33, 32, 1] : List Nat).filterMap (fun i => (pkg [33, 0, 0, 0, 393, 0, 0, 8, 0, 0, 5, 0, 0, 5, 0, 0, 1, 0, 0, 638, 0, 0, 1, 0, 80, 0, 0, 17, 0, 0, 9, 0, 2, 0, 2, 0, 175, 0, 233, 0] lw_tbl)[i]?) := by decide +kernel
set_option maxRecDepth 100000 in
theorem e_g_AWD_150 : (AWD_of 150 15) = ([11, 10, 14, 12, 13, 18, 17, 1, 30, 29, 5, 22, 21, 3, 26, 25, 36, 35, 24, 23, 4, 28, 27, 32, 31, 6, 34, 33, 7, 38, 37, 8, 20, 19, 2, 16, 15, 0, 40, 39, 9] : List Nat).filterMap (fun i => (pkg [37, 0, 0, 0, 0, 0, 1, 1, 0, 0, 1166, 0, 175, 0, 0, 14, 0, 2, 0, 2, 0, 2, 0, 2, 0, 1, 0, 5, 0, 7, 0, 6, 0, 6, 0, 1, 0, 2, 0, 2, 0] lw_tbl)[i]?) := by decide +kernel
set_option maxRecDepth 100000 in
theorem e_g_AWD_165 : (AWD_of 165 15) = ([12, 10, 11, 17, 16, 19, 18, 0, 21, 20, 1, 15, 13, 14, 34, 33, 6, 32, 31, 5, 38, 37, 8, 28, 27, 3, 26, 25, 2, 36, 35, 7, 30, 29, 4, 24, 22, 23, 42, 41, 40, 39, 9] : List Nat).filterMap (fun i => (pkg [43, 1, 3, 0, 0, 0, 0, 0, 0, 20, 1319, 0, 0, 1, 0, 0, 28, 0, 15, 0, 6, 0, 16, 0, 0, 2, 0, 2, 0, 2, 0, 2, 0, 2, 0, 3, 0, 3, 0, 103, 0, 1, 0] lw_tbl)[i]?) := by decide +kernel
set_option maxRecDepth 100000 in
theorem e_g_AWD_180 : (AWD_of 180 15) = ([43, 42, 13, 21, 20, 2, 17, 16, 23, 22, 3, 19, 18, 1, 15, 14, 0, 25, 24, 4, 29, 28, 6, 27, 26, 5, 35, 34, 9, 33, 32, 8, 37, 36, 10, 39, 38, 11, 31, 30, 7, 41, 40, 12] : List Nat).filterMap (fun i => (pkg [56, 0, 0, 0, 0, 2, 0, 0, 0, 0, 0, 0, 0, 4, 1444, 0, 1, 0, 9, 0, 2, 0, 2, 0, 2, 0, 10, 0, 2, 0, 2, 0, 2, 0, 2, 0, 2, 0, 2, 0, 2, 0, 18, 0] lw_tbl)[i]?) := by decide +kernel
set_option maxRecDepth 100000 in
theorem e_g_AWD_195 : (AWD_of 195 15) = ([25, 24, 5, 23, 22, 4, 21, 20, 3, 19, 18, 2, 27, 26, 6, 17, 16, 1, 15, 14, 0, 13, 11, 12, 40, 39, 8, 44, 43, 10, 32, 31, 7, 30, 28, 29, 35, 33, 34, 38, 36, 37, 42, 41, 9] : List Nat).filterMap (fun i => (pkg [61, 0, 8, 0, 0, 0, 2, 0, 0, 0, 2, 1431, 0, 0, 32, 0, 2, 0, 34, 0, 2, 0, 2, 0, 2, 0, 13, 0, 1, 0, 0, 2, 0, 1, 0, 0, 1, 0, 0, 9, 0, 2, 0, 14, 0] lw_tbl)[i]?) := by decide +kernel
set_option maxRecDepth 100000 in
theorem e_g_AWD_210 : (AWD_of 210 15) = ([9, 8, 0, 7, 5, 6, 14, 13, 1, 12, 10, 11, 17, 15, 16, 20, 18, 19, 23, 21, 22, 26, 24, 25, 29, 27, 28, 32, 30, 31, 35, 33, 34, 38, 36, 37, 40, 39, 2, 42, 41, 3, 44, 43, 4] : List Nat).filterMap (fun i => (pkg [81, 0, 1, 1, 0, 1548, 0, 0, 13, 0, 1, 0, 0, 2, 0, 5, 0, 0, 1, 0, 0, 1, 0, 0, 1, 0, 0, 1, 0, 0, 1, 0, 0, 1, 0, 0, 1, 0, 0, 6, 0, 6, 0, 10, 0] lw_tbl)[i]?) := by decide +kernel
set_option maxRecDepth 100000 in
theorem e_g_AWD_225 : (AWD_of 225 15) = ([11, 10, 9, 8, 0, 7, 5, 6, 14, 12, 13, 19, 18, 1, 17, 15, 16, 24, 23, 2, 22, 20, 21, 29, 28, 27, 25, 26, 34, 33, 32, 30, 31, 41, 40, 4, 39, 38, 3, 37, 35, 36] : List Nat).filterMap (fun i => (pkg [85, 2, 0, 0, 0, 1607, 0, 0, 6, 0, 5, 0, 1, 0, 0, 6, 0, 0, 2, 0, 1, 0, 0, 2, 0, 1, 0, 0, 2, 0, 1, 0, 0, 1, 0, 1, 0, 0, 2, 0, 2, 0] lw_tbl)[i]?) := by decide +kernel
set_option maxRecDepth 100000 in
theorem e_g_AWD_240 : (AWD_of 240 15) = ([4, 2, 3, 7, 5, 6, 10, 8, 9, 13, 11, 12, 16, 14, 15, 19, 17, 18, 22, 20, 21, 25, 23, 24, 28, 26, 27, 31, 29, 30, 34, 32, 33, 37, 35, 36, 43, 42, 1, 41, 40, 0, 39, 38] : List Nat).filterMap (fun i => (pkg [92, 0, 1676, 0, 0, 1, 0, 0, 1, 0, 0, 1, 0, 0, 1, 0, 0, 1, 0, 0, 1, 0, 0, 1, 0, 0, 1, 0, 0, 1, 0, 0, 1, 0, 0, 1, 0, 0, 5, 0, 2, 0, 2, 0] lw_tbl)[i]?) := by decide +kernel
set_option maxRecDepth 100000 in
theorem e_g_AWD_255 : (AWD_of 255 15) = ([18, 16, 17, 21, 19, 20, 28, 27, 1, 26, 25, 0, 24, 22, 23, 31, 29, 30, 34, 32, 33, 37, 35, 36, 3, 2, 5, 4, 7, 6, 9, 8, 11, 10, 13, 12, 15, 14] : List Nat).filterMap (fun i => (pkg [94, 0, 369, 0, 221, 0, 47, 0, 120, 0, 10, 0, 9, 0, 13, 0, 919, 0, 0, 13, 0, 0, 1, 0, 0, 2, 0, 2, 0, 1, 0, 0, 1, 0, 0, 1, 0, 0] lw_tbl)[i]?) := by decide +kernel
set_option maxRecDepth 100000 in
theorem e_g_AWD_270 : (AWD_of 270 15) = ([1, 0, 3, 2, 5, 4, 7, 6, 9, 8, 11, 10, 13, 12, 15, 14, 17, 16, 19, 18, 21, 20, 23, 22, 25, 24, 27, 26, 29, 28] : List Nat).filterMap (fun i => (pkg [935, 0, 10, 0, 10, 0, 6, 0, 6, 0, 11, 0, 7, 0, 5, 0, 10, 0, 16, 0, 18, 0, 13, 0, 14, 0, 12, 0, 8, 0] lw_tbl)[i]?) := by decide +kernel
set_option maxRecDepth 100000 in
theorem e_g_AWD_285 : (AWD_of 285 11) = ([1, 0, 3, 2, 5, 4, 7, 6, 9, 8, 11, 10, 13, 12, 15, 14, 17, 16, 19, 18, 21, 20] : List Nat).filterMap (fun i => (pkg [1120, 0, 5, 0, 6, 0, 6, 0, 5, 0, 5, 0, 5, 0, 5, 0, 5, 0, 5, 0, 18, 0] lw_tbl)[i]?) := by decide +kernel
set_option maxRecDepth 100000 in
theorem e_g_AWC : AWC = ([7, 3, 6, 4, 8, 2, 5, 1, 9, 0, 33, 34, 35, 36, 37, 38, 39, 18, 19, 20, 21, 22, 23, 32, 40, 41, 42, 43, 44, 45, 46, 47, 48, 49, 50, 51, 52, 24, 25, 26, 27, 28, 29, 53, 54, 55, 11, 12, 13, 14, 15, 16, 17, 30, 31, 10, 56, 57, 58, 59, 60, 61, 62, 63, 64, 65, 66, 67, 68, 69, 70, 71, 72, 73, 74, 75, 76, 77, 78, 79, 80, 81, 82, 83, 84, 85, 86, 87, 88, 89, 90, 91, 92, 93, 94, 95, 96, 97, 98, 99, 100, 101, 102, 103, 104, 105, 106, 107, 108, 109, 110, 111, 112, 113, 114, 115, 116, 117, 118, 119, 120, 121, 122, 123] : List Nat).filterMap (fun i => (pkg [96, 0, 0, 0, 0, 0, 0, 0, 0, 0, 12, 7, 13, 1, 1, 1, 1, 1, 4, 11, 1, 1, 1, 1, 4, 12, 1, 1, 1, 1, 3, 5, 3, 5, 10, 1, 1, 1, 1, 1, 36, 1, 1, 1, 1, 1, 1, 1, 1, 1, 1, 1, 1, 3, 9, 1, 16, 1, 1, 1, 1, 1, 1, 1, 1, 1, 1, 1, 1, 1, 850, 69, 1, 1, 1, 1, 1, 1, 1, 1, 1, 1, 1, 1, 1, 1, 1, 1, 1, 1, 1, 1, 1, 1, 1, 1, 1, 1, 1, 1, 1, 1, 1, 1, 1, 1, 1, 1, 1, 1, 1, 1, 1, 1, 1, 1, 1, 1, 1, 1, 1, 1, 1, 1] lw_tbl)[i]?) := by decide +kernel
set_option maxRecDepth 100000 in
theorem e_g_AWK : AWK = ([6, 10, 15, 1, 2, 3, 4, 5, 7, 9, 12, 13, 16, 14, 18, 20, 19, 0, 8, 11, 17] : List Nat).filterMap (fun i => (pkg [117, 7, 28, 24, 24, 9, 5, 85, 160, 18, 177, 234, 12, 127, 56, 101, 11, 0, 508, 24, 85] lw_tbl)[i]?) := by decide +kernel
set_option maxRecDepth 100000 in
theorem e_g_AWB : AWB = ([2, 3, 10, 8, 12, 11, 9, 13, 0, 7, 6, 1, 5, 4, 14] : List Nat).filterMap (fun i => (pkg [106, 8, 7, 0, 28, 24, 259, 0, 37, 0, 309, 0, 241, 0, 357] lw_tbl)[i]?) := by decide +kernel
set_option maxRecDepth 100000 in
theorem e_g_AWJ : AWJ = ([4, 5, 12, 13, 0, 6, 45, 7, 8, 9, 0, 10, 11, 46, 14, 45, 15, 16, 17, 0, 18, 11, 46, 19, 20, 1, 21, 22, 23, 24, 25, 26, 27, 2, 28, 29, 30, 3, 31, 32, 33, 34, 35, 36, 37, 38, 39, 40, 41, 42, 43, 44] : List Nat).filterMap (fun i => (pkg [111, 0, 0, 0, 473, 0, 0, 0, 0, 0, 0, 0, 2, 0, 0, 0, 0, 0, 0, 0, 0, 0, 0, 0, 0, 0, 1, 0, 0, 0, 0, 0, 0, 0, 0, 0, 0, 0, 0, 0, 0, 0, 0, 1, 1, 1241, 0] lw_tbl)[i]?) := by decide +kernel
