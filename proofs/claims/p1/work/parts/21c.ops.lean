/-! ===== the calls on a fresh object, one by one ===== -/
set_option maxRecDepth 100000 in
set_option maxHeartbeats 4000000 in
theorem op_14 {x0 x1 x2 x3 x4 x5 x6 x7 : Int32} : Wp [x0, x1, x2, x3, x4, x5, x6, x7] 100 296 1055 l1 [] w1 68 8870 Qlaw := by
  refine q_aload_n rfl rfl ?_
  refine q_aload_n rfl rfl ?_
  refine q_iload rfl rfl ?_
  refine q_iconstv (v := (1 : Int32)) rfl (by decide +kernel) ?_
  refine q_iaddv (v := (1 : Int32)) rfl (by decide +kernel) ?_
  refine q_script rfl (by decide) rfl ?_
  refine q_aload_n rfl rfl ?_
  refine q_iload rfl rfl ?_
  refine q_iconstv (v := (2 : Int32)) rfl (by decide +kernel) ?_
  refine q_iaddv (v := (2 : Int32)) rfl (by decide +kernel) ?_
  refine q_script rfl (by decide) rfl ?_
  refine q_aload_n rfl rfl ?_
  refine q_iload rfl rfl ?_
  refine q_iconstv (v := (3 : Int32)) rfl (by decide +kernel) ?_
  refine q_iaddv (v := (3 : Int32)) rfl (by decide +kernel) ?_
  refine q_script rfl (by decide) rfl ?_
  refine q_aload_n rfl rfl ?_
  refine q_call rfl rfl rfl rfl ?_
  refine q_aload rfl rfl ?_
  refine q_iconstv (v := (0 : Int32)) rfl (by decide +kernel) ?_
  refine q_aload_n rfl rfl ?_
  refine q_iload_n rfl rfl ?_
  refine q_iload_n rfl rfl ?_
  refine q_iload_n rfl rfl ?_
  refine q_call rfl rfl rfl rfl ?_
  refine q_aload_n rfl rfl ?_
  refine q_iload_n rfl rfl ?_
  refine q_call rfl rfl rfl rfl ?_
  refine q_aload_n rfl rfl ?_
  refine q_iload_n rfl rfl ?_
  refine q_iconstv (v := (0 : Int32)) rfl (by decide +kernel) ?_
  refine q_aload_n rfl rfl ?_
  refine q_get rfl rfl rfl rfl ?_
  refine q_get rfl rfl rfl rfl ?_
  refine q_iconstv (v := (1 : Int32)) rfl (by decide +kernel) ?_
  refine q_isubv (v := (-1 : Int32)) rfl (by decide +kernel) ?_
  refine q_call rfl rfl rfl rfl ?_
  refine q_iload_n rfl rfl ?_
  refine q_iload_n rfl rfl ?_
  by_cases h1 : (x1).toInt < 0
  · refine q_ic_lt_t (t := 14) rfl (by decide) (i_lt (a := (x1).toInt) (b := (0 : Int)) rfl (by decide +kernel) (by omega)) ?_
    refine q_iconstv (v := (0 : Int32)) rfl (by decide +kernel) ?_
    refine q_zret rfl rfl (by decide) ?_
    refine bk_inl ?_
    refine q_call rfl rfl rfl rfl ?_
    refine q_iload_n rfl rfl ?_
    refine q_if_ne_f (t := 25) rfl (by decide) (i_nne (a := (0 : Int)) (b := (0 : Int)) (by decide +kernel) (by decide +kernel) (by omega)) ?_
    refine q_aload_n rfl rfl ?_
    refine q_dup rfl rfl ?_
    refine q_get rfl rfl rfl rfl ?_
    refine q_iconstv (v := (1 : Int32)) rfl (by decide +kernel) ?_
    refine q_iaddv (v := (1 : Int32)) rfl (by decide +kernel) ?_
    refine q_putv (w9 := (w1.set 0 (.inr (7, [.ref 1, .ref 3, .ref 7, .ref 9, .ref 10, .ref 11, .ref 12, .ref 13, .ref 25, .ref 37, .ref 39, .int 0, .int 1, .int 0])))) rfl rfl rfl (by decide) rfl (by decide) rfl ?_
    refine q_fin rfl rfl rfl ?_
    refine bk_out rfl rfl ?_
    refine bk_out rfl rfl ?_
    refine bk_thr (z := (1 : Int32)) rfl ⟨_, _, rfl⟩ rfl ?_
    refine bk_inl ?_
    refine q_istore rfl (by decide) ?_
    refine q_aload_n rfl rfl ?_
    refine q_aload_n rfl rfl ?_
    refine q_iload rfl rfl ?_
    refine q_iconstv (v := (1 : Int32)) rfl (by decide +kernel) ?_
    refine q_iaddv (v := (1 : Int32)) rfl (by decide +kernel) ?_
    refine q_script rfl (by decide) rfl ?_
    refine q_aload_n rfl rfl ?_
    refine q_iload rfl rfl ?_
    refine q_iconstv (v := (2 : Int32)) rfl (by decide +kernel) ?_
    refine q_iaddv (v := (2 : Int32)) rfl (by decide +kernel) ?_
    refine q_script rfl (by decide) rfl ?_
    refine q_aload_n rfl rfl ?_
    refine q_iload rfl rfl ?_
    refine q_iconstv (v := (3 : Int32)) rfl (by decide +kernel) ?_
    refine q_iaddv (v := (3 : Int32)) rfl (by decide +kernel) ?_
    refine q_script rfl (by decide) rfl ?_
    refine q_call rfl rfl rfl rfl ?_
    refine q_aload_n rfl rfl ?_
    refine q_iconstv (v := (0 : Int32)) rfl (by decide +kernel) ?_
    refine q_putv (w9 := (w1.set 0 (.inr (7, [.ref 1, .ref 3, .ref 7, .ref 9, .ref 10, .ref 11, .ref 12, .ref 13, .ref 25, .ref 37, .ref 39, .int 0, .int 1, .int 0])))) rfl rfl rfl (by decide) rfl (by decide) rfl ?_
    refine q_aload_n rfl rfl ?_
    refine q_iload_n rfl rfl ?_
    refine q_aload_n rfl rfl ?_
    refine q_get rfl rfl rfl rfl ?_
    refine q_call rfl rfl rfl rfl ?_
    refine q_aload_n rfl rfl ?_
    refine q_iload_n rfl rfl ?_
    refine q_iconstv (v := (0 : Int32)) rfl (by decide +kernel) ?_
    refine q_iload_n rfl rfl ?_
    refine q_iconstv (v := (1 : Int32)) rfl (by decide +kernel) ?_
    refine q_isubv (v := (-1 : Int32)) rfl (by decide +kernel) ?_
    refine q_call rfl rfl rfl rfl ?_
    refine q_iload_n rfl rfl ?_
    refine q_iload_n rfl rfl ?_
    refine q_ic_lt_t (t := 14) rfl (by decide) (i_lt (a := (x1).toInt) (b := (0 : Int)) rfl (by decide +kernel) (by omega)) ?_
    refine q_iconstv (v := (0 : Int32)) rfl (by decide +kernel) ?_
    refine q_zret rfl rfl (by decide) ?_
    refine bk_inl ?_
    refine q_iconstv (v := (1 : Int32)) rfl (by decide +kernel) ?_
    refine q_iconstv (v := (0 : Int32)) rfl (by decide +kernel) ?_
    refine q_call rfl rfl rfl rfl ?_
    refine q_iload_n rfl rfl ?_
    refine q_if_ne_f (t := 26) rfl (by decide) (i_nne (a := (0 : Int)) (b := (0 : Int)) (by decide +kernel) (by decide +kernel) (by omega)) ?_
    refine q_aload_n rfl rfl ?_
    refine q_get rfl rfl rfl rfl ?_
    refine q_if_ne_f (t := 26) rfl (by decide) (i_nne (a := (0 : Int)) (b := (0 : Int)) (by decide +kernel) (by decide +kernel) (by omega)) ?_
    refine q_aload_n rfl rfl ?_
    refine q_iload_n rfl rfl ?_
    refine q_putv (w9 := ((w1.set 0 (.inr (7, [.ref 1, .ref 3, .ref 7, .ref 9, .ref 10, .ref 11, .ref 12, .ref 13, .ref 25, .ref 37, .ref 39, .int 0, .int 1, .int 0]))).set 41 (.inr (8, [.int 1, .ref 42, .int 0, .int 0, .int 0, .int 0, .int 0, .int 0, .int (-1), .ref 43, .ref 44, .ref 45, .ref 46, .ref 47, .ref 48, .ref 49, .int 0, .int 0, .int 0, .int 5, .int 0, .int 0, .int 0, .int 5, .ref 50, .ref 51, .ref 52, .ref 53, .ref 54, .int 0, .int 0, .ref 55, .ref 56, .ref 57, .int 0, .int 0, .int 0, .int 0, .int 0, .int 0, .ref 58, .ref 59, .ref 60, .ref 61, .ref 62, .ref 63, .ref 64, .int 0, .int 0, .ref 65, .int 0, .ref 66, .int 0])))) rfl rfl rfl (by decide) rfl (by decide) rfl ?_
    refine q_aload_n rfl rfl ?_
    refine q_get rfl rfl rfl rfl ?_
    refine q_iload_n rfl rfl ?_
    refine q_dup2 rfl ⟨rfl, rfl⟩ ?_
    refine q_ialoadv (m := 0) rfl (by decide) (by decide) rfl (by decide +kernel) rfl ?_
    refine q_iconstv (v := (1 : Int32)) rfl (by decide +kernel) ?_
    refine q_iaddv (v := (1 : Int32)) rfl (by decide +kernel) ?_
    refine q_iastorev (m := 0) (w9 := (((w1.set 0 (.inr (7, [.ref 1, .ref 3, .ref 7, .ref 9, .ref 10, .ref 11, .ref 12, .ref 13, .ref 25, .ref 37, .ref 39, .int 0, .int 1, .int 0]))).set 41 (.inr (8, [.int 1, .ref 42, .int 0, .int 0, .int 0, .int 0, .int 0, .int 0, .int (-1), .ref 43, .ref 44, .ref 45, .ref 46, .ref 47, .ref 48, .ref 49, .int 0, .int 0, .int 0, .int 5, .int 0, .int 0, .int 0, .int 5, .ref 50, .ref 51, .ref 52, .ref 53, .ref 54, .int 0, .int 0, .ref 55, .ref 56, .ref 57, .int 0, .int 0, .int 0, .int 0, .int 0, .int 0, .ref 58, .ref 59, .ref 60, .ref 61, .ref 62, .ref 63, .ref 64, .int 0, .int 0, .ref 65, .int 0, .ref 66, .int 0]))).set 42 (.inl (0, .inl ([1, 0]))))) rfl (by decide) rfl (by decide +kernel) (by decide) rfl ?_
    refine q_aload_n rfl rfl ?_
    refine q_get rfl rfl rfl rfl ?_
    refine q_if_ne_t (t := 37) rfl (by decide) (i_ne (a := (1 : Int)) (b := (0 : Int)) (by decide +kernel) (by decide +kernel) (by omega)) ?_
    refine q_iconstv (v := (0 : Int32)) rfl (by decide +kernel) ?_
    refine q_zret rfl rfl (by decide) ?_
    refine bk_inl ?_
    refine q_zret rfl rfl (by decide) ?_
    refine bk_inl ?_
    refine q_if_eq_t (t := 44) rfl (by decide) (i_eq (a := (0 : Int)) (b := (0 : Int)) (by decide +kernel) (by decide +kernel) (by omega)) ?_
    refine q_iconstv (v := (0 : Int32)) rfl (by decide +kernel) ?_
    refine q_iret rfl rfl ?_
    refine bk_inl ?_
    refine q_istore rfl (by decide) ?_
    refine q_aload_n rfl rfl ?_
    refine q_call rfl rfl rfl rfl ?_
    refine q_aload_n rfl rfl ?_
    refine q_get rfl rfl rfl rfl ?_
    refine q_iret rfl rfl ?_
    refine bk_inl ?_
    refine q_iload rfl rfl ?_
    refine q_ic_eq_t (t := 1115) rfl (by decide) (i_eq (a := (1 : Int)) (b := (1 : Int)) (by decide +kernel) (by decide +kernel) (by omega)) ?_
    refine q_iload rfl rfl ?_
    refine q_if_ne_t (t := 1132) rfl (by decide) (i_ne (a := (1 : Int)) (b := (0 : Int)) (by decide +kernel) (by decide +kernel) (by omega)) ?_
    refine q_goto (t := 2739) rfl (by decide) ?_
    refine q_iincv (v := (8 : Int32)) rfl rfl (by decide) (by decide +kernel) ?_
    refine q_goto (t := 23) rfl (by decide) ?_
    exact q_end rfl rfl (by decide) (by decide)
  · refine q_ic_lt_f (t := 14) rfl (by decide) (i_nlt (a := (x1).toInt) (b := (0 : Int)) rfl (by decide +kernel) (by omega)) ?_
    refine q_iload_n rfl rfl ?_
    refine q_iload_n rfl rfl ?_
    refine q_ic_gt_t (t := 14) rfl (by decide) (i_lt_r (a := (x1).toInt) (b := (-1 : Int)) rfl (by decide +kernel) (by omega)) ?_
    refine q_iconstv (v := (0 : Int32)) rfl (by decide +kernel) ?_
    refine q_zret rfl rfl (by decide) ?_
    refine bk_inl ?_
    refine q_call rfl rfl rfl rfl ?_
    refine q_iload_n rfl rfl ?_
    refine q_if_ne_f (t := 25) rfl (by decide) (i_nne (a := (0 : Int)) (b := (0 : Int)) (by decide +kernel) (by decide +kernel) (by omega)) ?_
    refine q_aload_n rfl rfl ?_
    refine q_dup rfl rfl ?_
    refine q_get rfl rfl rfl rfl ?_
    refine q_iconstv (v := (1 : Int32)) rfl (by decide +kernel) ?_
    refine q_iaddv (v := (1 : Int32)) rfl (by decide +kernel) ?_
    refine q_putv (w9 := (w1.set 0 (.inr (7, [.ref 1, .ref 3, .ref 7, .ref 9, .ref 10, .ref 11, .ref 12, .ref 13, .ref 25, .ref 37, .ref 39, .int 0, .int 1, .int 0])))) rfl rfl rfl (by decide) rfl (by decide) rfl ?_
    refine q_fin rfl rfl rfl ?_
    refine bk_out rfl rfl ?_
    refine bk_out rfl rfl ?_
    refine bk_thr (z := (1 : Int32)) rfl ⟨_, _, rfl⟩ rfl ?_
    refine bk_inl ?_
    refine q_istore rfl (by decide) ?_
    refine q_aload_n rfl rfl ?_
    refine q_aload_n rfl rfl ?_
    refine q_iload rfl rfl ?_
    refine q_iconstv (v := (1 : Int32)) rfl (by decide +kernel) ?_
    refine q_iaddv (v := (1 : Int32)) rfl (by decide +kernel) ?_
    refine q_script rfl (by decide) rfl ?_
    refine q_aload_n rfl rfl ?_
    refine q_iload rfl rfl ?_
    refine q_iconstv (v := (2 : Int32)) rfl (by decide +kernel) ?_
    refine q_iaddv (v := (2 : Int32)) rfl (by decide +kernel) ?_
    refine q_script rfl (by decide) rfl ?_
    refine q_aload_n rfl rfl ?_
    refine q_iload rfl rfl ?_
    refine q_iconstv (v := (3 : Int32)) rfl (by decide +kernel) ?_
    refine q_iaddv (v := (3 : Int32)) rfl (by decide +kernel) ?_
    refine q_script rfl (by decide) rfl ?_
    refine q_call rfl rfl rfl rfl ?_
    refine q_aload_n rfl rfl ?_
    refine q_iconstv (v := (0 : Int32)) rfl (by decide +kernel) ?_
    refine q_putv (w9 := (w1.set 0 (.inr (7, [.ref 1, .ref 3, .ref 7, .ref 9, .ref 10, .ref 11, .ref 12, .ref 13, .ref 25, .ref 37, .ref 39, .int 0, .int 1, .int 0])))) rfl rfl rfl (by decide) rfl (by decide) rfl ?_
    refine q_aload_n rfl rfl ?_
    refine q_iload_n rfl rfl ?_
    refine q_aload_n rfl rfl ?_
    refine q_get rfl rfl rfl rfl ?_
    refine q_call rfl rfl rfl rfl ?_
    refine q_aload_n rfl rfl ?_
    refine q_iload_n rfl rfl ?_
    refine q_iconstv (v := (0 : Int32)) rfl (by decide +kernel) ?_
    refine q_iload_n rfl rfl ?_
    refine q_iconstv (v := (1 : Int32)) rfl (by decide +kernel) ?_
    refine q_isubv (v := (-1 : Int32)) rfl (by decide +kernel) ?_
    refine q_call rfl rfl rfl rfl ?_
    refine q_iload_n rfl rfl ?_
    refine q_iload_n rfl rfl ?_
    refine q_ic_lt_f (t := 14) rfl (by decide) (i_nlt (a := (x1).toInt) (b := (0 : Int)) rfl (by decide +kernel) (by omega)) ?_
    refine q_iload_n rfl rfl ?_
    refine q_iload_n rfl rfl ?_
    refine q_ic_gt_t (t := 14) rfl (by decide) (i_lt_r (a := (x1).toInt) (b := (-1 : Int)) rfl (by decide +kernel) (by omega)) ?_
    refine q_iconstv (v := (0 : Int32)) rfl (by decide +kernel) ?_
    refine q_zret rfl rfl (by decide) ?_
    refine bk_inl ?_
    refine q_iconstv (v := (1 : Int32)) rfl (by decide +kernel) ?_
    refine q_iconstv (v := (0 : Int32)) rfl (by decide +kernel) ?_
    refine q_call rfl rfl rfl rfl ?_
    refine q_iload_n rfl rfl ?_
    refine q_if_ne_f (t := 26) rfl (by decide) (i_nne (a := (0 : Int)) (b := (0 : Int)) (by decide +kernel) (by decide +kernel) (by omega)) ?_
    refine q_aload_n rfl rfl ?_
    refine q_get rfl rfl rfl rfl ?_
    refine q_if_ne_f (t := 26) rfl (by decide) (i_nne (a := (0 : Int)) (b := (0 : Int)) (by decide +kernel) (by decide +kernel) (by omega)) ?_
    refine q_aload_n rfl rfl ?_
    refine q_iload_n rfl rfl ?_
    refine q_putv (w9 := ((w1.set 0 (.inr (7, [.ref 1, .ref 3, .ref 7, .ref 9, .ref 10, .ref 11, .ref 12, .ref 13, .ref 25, .ref 37, .ref 39, .int 0, .int 1, .int 0]))).set 41 (.inr (8, [.int 1, .ref 42, .int 0, .int 0, .int 0, .int 0, .int 0, .int 0, .int (-1), .ref 43, .ref 44, .ref 45, .ref 46, .ref 47, .ref 48, .ref 49, .int 0, .int 0, .int 0, .int 5, .int 0, .int 0, .int 0, .int 5, .ref 50, .ref 51, .ref 52, .ref 53, .ref 54, .int 0, .int 0, .ref 55, .ref 56, .ref 57, .int 0, .int 0, .int 0, .int 0, .int 0, .int 0, .ref 58, .ref 59, .ref 60, .ref 61, .ref 62, .ref 63, .ref 64, .int 0, .int 0, .ref 65, .int 0, .ref 66, .int 0])))) rfl rfl rfl (by decide) rfl (by decide) rfl ?_
    refine q_aload_n rfl rfl ?_
    refine q_get rfl rfl rfl rfl ?_
    refine q_iload_n rfl rfl ?_
    refine q_dup2 rfl ⟨rfl, rfl⟩ ?_
    refine q_ialoadv (m := 0) rfl (by decide) (by decide) rfl (by decide +kernel) rfl ?_
    refine q_iconstv (v := (1 : Int32)) rfl (by decide +kernel) ?_
    refine q_iaddv (v := (1 : Int32)) rfl (by decide +kernel) ?_
    refine q_iastorev (m := 0) (w9 := (((w1.set 0 (.inr (7, [.ref 1, .ref 3, .ref 7, .ref 9, .ref 10, .ref 11, .ref 12, .ref 13, .ref 25, .ref 37, .ref 39, .int 0, .int 1, .int 0]))).set 41 (.inr (8, [.int 1, .ref 42, .int 0, .int 0, .int 0, .int 0, .int 0, .int 0, .int (-1), .ref 43, .ref 44, .ref 45, .ref 46, .ref 47, .ref 48, .ref 49, .int 0, .int 0, .int 0, .int 5, .int 0, .int 0, .int 0, .int 5, .ref 50, .ref 51, .ref 52, .ref 53, .ref 54, .int 0, .int 0, .ref 55, .ref 56, .ref 57, .int 0, .int 0, .int 0, .int 0, .int 0, .int 0, .ref 58, .ref 59, .ref 60, .ref 61, .ref 62, .ref 63, .ref 64, .int 0, .int 0, .ref 65, .int 0, .ref 66, .int 0]))).set 42 (.inl (0, .inl ([1, 0]))))) rfl (by decide) rfl (by decide +kernel) (by decide) rfl ?_
    refine q_aload_n rfl rfl ?_
    refine q_get rfl rfl rfl rfl ?_
    refine q_if_ne_t (t := 37) rfl (by decide) (i_ne (a := (1 : Int)) (b := (0 : Int)) (by decide +kernel) (by decide +kernel) (by omega)) ?_
    refine q_iconstv (v := (0 : Int32)) rfl (by decide +kernel) ?_
    refine q_zret rfl rfl (by decide) ?_
    refine bk_inl ?_
    refine q_zret rfl rfl (by decide) ?_
    refine bk_inl ?_
    refine q_if_eq_t (t := 44) rfl (by decide) (i_eq (a := (0 : Int)) (b := (0 : Int)) (by decide +kernel) (by decide +kernel) (by omega)) ?_
    refine q_iconstv (v := (0 : Int32)) rfl (by decide +kernel) ?_
    refine q_iret rfl rfl ?_
    refine bk_inl ?_
    refine q_istore rfl (by decide) ?_
    refine q_aload_n rfl rfl ?_
    refine q_call rfl rfl rfl rfl ?_
    refine q_aload_n rfl rfl ?_
    refine q_get rfl rfl rfl rfl ?_
    refine q_iret rfl rfl ?_
    refine bk_inl ?_
    refine q_iload rfl rfl ?_
    refine q_ic_eq_t (t := 1115) rfl (by decide) (i_eq (a := (1 : Int)) (b := (1 : Int)) (by decide +kernel) (by decide +kernel) (by omega)) ?_
    refine q_iload rfl rfl ?_
    refine q_if_ne_t (t := 1132) rfl (by decide) (i_ne (a := (1 : Int)) (b := (0 : Int)) (by decide +kernel) (by decide +kernel) (by omega)) ?_
    refine q_goto (t := 2739) rfl (by decide) ?_
    refine q_iincv (v := (8 : Int32)) rfl rfl (by decide) (by decide +kernel) ?_
    refine q_goto (t := 23) rfl (by decide) ?_
    exact q_end rfl rfl (by decide) (by decide)
set_option maxRecDepth 100000 in
set_option maxHeartbeats 4000000 in
theorem op_15 {x0 x1 x2 x3 x4 x5 x6 x7 : Int32} : Wp [x0, x1, x2, x3, x4, x5, x6, x7] 100 296 1135 l1 [] w1 68 8870 Qlaw := by
  refine q_aload_n rfl rfl ?_
  refine q_aload_n rfl rfl ?_
  refine q_iload rfl rfl ?_
  refine q_iconstv (v := (1 : Int32)) rfl (by decide +kernel) ?_
  refine q_iaddv (v := (1 : Int32)) rfl (by decide +kernel) ?_
  refine q_script rfl (by decide) rfl ?_
  refine q_aload_n rfl rfl ?_
  refine q_iload rfl rfl ?_
  refine q_iconstv (v := (2 : Int32)) rfl (by decide +kernel) ?_
  refine q_iaddv (v := (2 : Int32)) rfl (by decide +kernel) ?_
  refine q_script rfl (by decide) rfl ?_
  refine q_aload_n rfl rfl ?_
  refine q_iload rfl rfl ?_
  refine q_iconstv (v := (3 : Int32)) rfl (by decide +kernel) ?_
  refine q_iaddv (v := (3 : Int32)) rfl (by decide +kernel) ?_
  refine q_script rfl (by decide) rfl ?_
  refine q_aload_n rfl rfl ?_
  refine q_call rfl rfl rfl rfl ?_
  refine q_aload rfl rfl ?_
  refine q_iconstv (v := (0 : Int32)) rfl (by decide +kernel) ?_
  refine q_aload_n rfl rfl ?_
  refine q_iload_n rfl rfl ?_
  refine q_iload_n rfl rfl ?_
  refine q_iload_n rfl rfl ?_
  refine q_call rfl rfl rfl rfl ?_
  refine q_aload_n rfl rfl ?_
  refine q_iload_n rfl rfl ?_
  refine q_call rfl rfl rfl rfl ?_
  refine q_aload_n rfl rfl ?_
  refine q_iload_n rfl rfl ?_
  refine q_iconstv (v := (0 : Int32)) rfl (by decide +kernel) ?_
  refine q_aload_n rfl rfl ?_
  refine q_get rfl rfl rfl rfl ?_
  refine q_get rfl rfl rfl rfl ?_
  refine q_iconstv (v := (1 : Int32)) rfl (by decide +kernel) ?_
  refine q_isubv (v := (-1 : Int32)) rfl (by decide +kernel) ?_
  refine q_call rfl rfl rfl rfl ?_
  refine q_iload_n rfl rfl ?_
  refine q_iload_n rfl rfl ?_
  by_cases h1 : (x1).toInt < 0
  · refine q_ic_lt_t (t := 14) rfl (by decide) (i_lt (a := (x1).toInt) (b := (0 : Int)) rfl (by decide +kernel) (by omega)) ?_
    refine q_iconstv (v := (0 : Int32)) rfl (by decide +kernel) ?_
    refine q_zret rfl rfl (by decide) ?_
    refine bk_inl ?_
    refine q_call rfl rfl rfl rfl ?_
    refine q_iload_n rfl rfl ?_
    refine q_if_ne_f (t := 25) rfl (by decide) (i_nne (a := (0 : Int)) (b := (0 : Int)) (by decide +kernel) (by decide +kernel) (by omega)) ?_
    refine q_aload_n rfl rfl ?_
    refine q_dup rfl rfl ?_
    refine q_get rfl rfl rfl rfl ?_
    refine q_iconstv (v := (1 : Int32)) rfl (by decide +kernel) ?_
    refine q_iaddv (v := (1 : Int32)) rfl (by decide +kernel) ?_
    refine q_putv (w9 := (w1.set 0 (.inr (7, [.ref 1, .ref 3, .ref 7, .ref 9, .ref 10, .ref 11, .ref 12, .ref 13, .ref 25, .ref 37, .ref 39, .int 0, .int 1, .int 0])))) rfl rfl rfl (by decide) rfl (by decide) rfl ?_
    refine q_fin rfl rfl rfl ?_
    refine bk_out rfl rfl ?_
    refine bk_out rfl rfl ?_
    refine bk_thr (z := (1 : Int32)) rfl ⟨_, _, rfl⟩ rfl ?_
    refine bk_inl ?_
    refine q_istore rfl (by decide) ?_
    refine q_aload_n rfl rfl ?_
    refine q_aload_n rfl rfl ?_
    refine q_iload rfl rfl ?_
    refine q_iconstv (v := (1 : Int32)) rfl (by decide +kernel) ?_
    refine q_iaddv (v := (1 : Int32)) rfl (by decide +kernel) ?_
    refine q_script rfl (by decide) rfl ?_
    refine q_aload_n rfl rfl ?_
    refine q_iload rfl rfl ?_
    refine q_iconstv (v := (2 : Int32)) rfl (by decide +kernel) ?_
    refine q_iaddv (v := (2 : Int32)) rfl (by decide +kernel) ?_
    refine q_script rfl (by decide) rfl ?_
    refine q_aload_n rfl rfl ?_
    refine q_iload rfl rfl ?_
    refine q_iconstv (v := (3 : Int32)) rfl (by decide +kernel) ?_
    refine q_iaddv (v := (3 : Int32)) rfl (by decide +kernel) ?_
    refine q_script rfl (by decide) rfl ?_
    refine q_call rfl rfl rfl rfl ?_
    refine q_aload_n rfl rfl ?_
    refine q_iconstv (v := (0 : Int32)) rfl (by decide +kernel) ?_
    refine q_putv (w9 := (w1.set 0 (.inr (7, [.ref 1, .ref 3, .ref 7, .ref 9, .ref 10, .ref 11, .ref 12, .ref 13, .ref 25, .ref 37, .ref 39, .int 0, .int 1, .int 0])))) rfl rfl rfl (by decide) rfl (by decide) rfl ?_
    refine q_aload_n rfl rfl ?_
    refine q_iload_n rfl rfl ?_
    refine q_aload_n rfl rfl ?_
    refine q_get rfl rfl rfl rfl ?_
    refine q_call rfl rfl rfl rfl ?_
    refine q_aload_n rfl rfl ?_
    refine q_iload_n rfl rfl ?_
    refine q_iconstv (v := (0 : Int32)) rfl (by decide +kernel) ?_
    refine q_iload_n rfl rfl ?_
    refine q_iconstv (v := (1 : Int32)) rfl (by decide +kernel) ?_
    refine q_isubv (v := (-1 : Int32)) rfl (by decide +kernel) ?_
    refine q_call rfl rfl rfl rfl ?_
    refine q_iload_n rfl rfl ?_
    refine q_iload_n rfl rfl ?_
    refine q_ic_lt_t (t := 14) rfl (by decide) (i_lt (a := (x1).toInt) (b := (0 : Int)) rfl (by decide +kernel) (by omega)) ?_
    refine q_iconstv (v := (0 : Int32)) rfl (by decide +kernel) ?_
    refine q_zret rfl rfl (by decide) ?_
    refine bk_inl ?_
    refine q_iconstv (v := (1 : Int32)) rfl (by decide +kernel) ?_
    refine q_iconstv (v := (0 : Int32)) rfl (by decide +kernel) ?_
    refine q_call rfl rfl rfl rfl ?_
    refine q_iload_n rfl rfl ?_
    refine q_if_ne_f (t := 26) rfl (by decide) (i_nne (a := (0 : Int)) (b := (0 : Int)) (by decide +kernel) (by decide +kernel) (by omega)) ?_
    refine q_aload_n rfl rfl ?_
    refine q_get rfl rfl rfl rfl ?_
    refine q_if_ne_f (t := 26) rfl (by decide) (i_nne (a := (0 : Int)) (b := (0 : Int)) (by decide +kernel) (by decide +kernel) (by omega)) ?_
    refine q_aload_n rfl rfl ?_
    refine q_iload_n rfl rfl ?_
    refine q_putv (w9 := ((w1.set 0 (.inr (7, [.ref 1, .ref 3, .ref 7, .ref 9, .ref 10, .ref 11, .ref 12, .ref 13, .ref 25, .ref 37, .ref 39, .int 0, .int 1, .int 0]))).set 41 (.inr (8, [.int 1, .ref 42, .int 0, .int 0, .int 0, .int 0, .int 0, .int 0, .int (-1), .ref 43, .ref 44, .ref 45, .ref 46, .ref 47, .ref 48, .ref 49, .int 0, .int 0, .int 0, .int 5, .int 0, .int 0, .int 0, .int 5, .ref 50, .ref 51, .ref 52, .ref 53, .ref 54, .int 0, .int 0, .ref 55, .ref 56, .ref 57, .int 0, .int 0, .int 0, .int 0, .int 0, .int 0, .ref 58, .ref 59, .ref 60, .ref 61, .ref 62, .ref 63, .ref 64, .int 0, .int 0, .ref 65, .int 0, .ref 66, .int 0])))) rfl rfl rfl (by decide) rfl (by decide) rfl ?_
    refine q_aload_n rfl rfl ?_
    refine q_get rfl rfl rfl rfl ?_
    refine q_iload_n rfl rfl ?_
    refine q_dup2 rfl ⟨rfl, rfl⟩ ?_
    refine q_ialoadv (m := 0) rfl (by decide) (by decide) rfl (by decide +kernel) rfl ?_
    refine q_iconstv (v := (1 : Int32)) rfl (by decide +kernel) ?_
    refine q_iaddv (v := (1 : Int32)) rfl (by decide +kernel) ?_
    refine q_iastorev (m := 0) (w9 := (((w1.set 0 (.inr (7, [.ref 1, .ref 3, .ref 7, .ref 9, .ref 10, .ref 11, .ref 12, .ref 13, .ref 25, .ref 37, .ref 39, .int 0, .int 1, .int 0]))).set 41 (.inr (8, [.int 1, .ref 42, .int 0, .int 0, .int 0, .int 0, .int 0, .int 0, .int (-1), .ref 43, .ref 44, .ref 45, .ref 46, .ref 47, .ref 48, .ref 49, .int 0, .int 0, .int 0, .int 5, .int 0, .int 0, .int 0, .int 5, .ref 50, .ref 51, .ref 52, .ref 53, .ref 54, .int 0, .int 0, .ref 55, .ref 56, .ref 57, .int 0, .int 0, .int 0, .int 0, .int 0, .int 0, .ref 58, .ref 59, .ref 60, .ref 61, .ref 62, .ref 63, .ref 64, .int 0, .int 0, .ref 65, .int 0, .ref 66, .int 0]))).set 42 (.inl (0, .inl ([1, 0]))))) rfl (by decide) rfl (by decide +kernel) (by decide) rfl ?_
    refine q_aload_n rfl rfl ?_
    refine q_get rfl rfl rfl rfl ?_
    refine q_if_ne_t (t := 37) rfl (by decide) (i_ne (a := (1 : Int)) (b := (0 : Int)) (by decide +kernel) (by decide +kernel) (by omega)) ?_
    refine q_iconstv (v := (0 : Int32)) rfl (by decide +kernel) ?_
    refine q_zret rfl rfl (by decide) ?_
    refine bk_inl ?_
    refine q_zret rfl rfl (by decide) ?_
    refine bk_inl ?_
    refine q_if_eq_t (t := 44) rfl (by decide) (i_eq (a := (0 : Int)) (b := (0 : Int)) (by decide +kernel) (by decide +kernel) (by omega)) ?_
    refine q_iconstv (v := (0 : Int32)) rfl (by decide +kernel) ?_
    refine q_iret rfl rfl ?_
    refine bk_inl ?_
    refine q_istore rfl (by decide) ?_
    refine q_aload_n rfl rfl ?_
    refine q_call rfl rfl rfl rfl ?_
    refine q_aload_n rfl rfl ?_
    refine q_get rfl rfl rfl rfl ?_
    refine q_iret rfl rfl ?_
    refine bk_inl ?_
    refine q_iload rfl rfl ?_
    refine q_ic_eq_t (t := 1195) rfl (by decide) (i_eq (a := (1 : Int)) (b := (1 : Int)) (by decide +kernel) (by decide +kernel) (by omega)) ?_
    refine q_iload rfl rfl ?_
    refine q_if_ne_t (t := 1212) rfl (by decide) (i_ne (a := (1 : Int)) (b := (0 : Int)) (by decide +kernel) (by decide +kernel) (by omega)) ?_
    refine q_goto (t := 2739) rfl (by decide) ?_
    refine q_iincv (v := (8 : Int32)) rfl rfl (by decide) (by decide +kernel) ?_
    refine q_goto (t := 23) rfl (by decide) ?_
    exact q_end rfl rfl (by decide) (by decide)
  · refine q_ic_lt_f (t := 14) rfl (by decide) (i_nlt (a := (x1).toInt) (b := (0 : Int)) rfl (by decide +kernel) (by omega)) ?_
    refine q_iload_n rfl rfl ?_
    refine q_iload_n rfl rfl ?_
    refine q_ic_gt_t (t := 14) rfl (by decide) (i_lt_r (a := (x1).toInt) (b := (-1 : Int)) rfl (by decide +kernel) (by omega)) ?_
    refine q_iconstv (v := (0 : Int32)) rfl (by decide +kernel) ?_
    refine q_zret rfl rfl (by decide) ?_
    refine bk_inl ?_
    refine q_call rfl rfl rfl rfl ?_
    refine q_iload_n rfl rfl ?_
    refine q_if_ne_f (t := 25) rfl (by decide) (i_nne (a := (0 : Int)) (b := (0 : Int)) (by decide +kernel) (by decide +kernel) (by omega)) ?_
    refine q_aload_n rfl rfl ?_
    refine q_dup rfl rfl ?_
    refine q_get rfl rfl rfl rfl ?_
    refine q_iconstv (v := (1 : Int32)) rfl (by decide +kernel) ?_
    refine q_iaddv (v := (1 : Int32)) rfl (by decide +kernel) ?_
    refine q_putv (w9 := (w1.set 0 (.inr (7, [.ref 1, .ref 3, .ref 7, .ref 9, .ref 10, .ref 11, .ref 12, .ref 13, .ref 25, .ref 37, .ref 39, .int 0, .int 1, .int 0])))) rfl rfl rfl (by decide) rfl (by decide) rfl ?_
    refine q_fin rfl rfl rfl ?_
    refine bk_out rfl rfl ?_
    refine bk_out rfl rfl ?_
    refine bk_thr (z := (1 : Int32)) rfl ⟨_, _, rfl⟩ rfl ?_
    refine bk_inl ?_
    refine q_istore rfl (by decide) ?_
    refine q_aload_n rfl rfl ?_
    refine q_aload_n rfl rfl ?_
    refine q_iload rfl rfl ?_
    refine q_iconstv (v := (1 : Int32)) rfl (by decide +kernel) ?_
    refine q_iaddv (v := (1 : Int32)) rfl (by decide +kernel) ?_
    refine q_script rfl (by decide) rfl ?_
    refine q_aload_n rfl rfl ?_
    refine q_iload rfl rfl ?_
    refine q_iconstv (v := (2 : Int32)) rfl (by decide +kernel) ?_
    refine q_iaddv (v := (2 : Int32)) rfl (by decide +kernel) ?_
    refine q_script rfl (by decide) rfl ?_
    refine q_aload_n rfl rfl ?_
    refine q_iload rfl rfl ?_
    refine q_iconstv (v := (3 : Int32)) rfl (by decide +kernel) ?_
    refine q_iaddv (v := (3 : Int32)) rfl (by decide +kernel) ?_
    refine q_script rfl (by decide) rfl ?_
    refine q_call rfl rfl rfl rfl ?_
    refine q_aload_n rfl rfl ?_
    refine q_iconstv (v := (0 : Int32)) rfl (by decide +kernel) ?_
    refine q_putv (w9 := (w1.set 0 (.inr (7, [.ref 1, .ref 3, .ref 7, .ref 9, .ref 10, .ref 11, .ref 12, .ref 13, .ref 25, .ref 37, .ref 39, .int 0, .int 1, .int 0])))) rfl rfl rfl (by decide) rfl (by decide) rfl ?_
    refine q_aload_n rfl rfl ?_
    refine q_iload_n rfl rfl ?_
    refine q_aload_n rfl rfl ?_
    refine q_get rfl rfl rfl rfl ?_
    refine q_call rfl rfl rfl rfl ?_
    refine q_aload_n rfl rfl ?_
    refine q_iload_n rfl rfl ?_
    refine q_iconstv (v := (0 : Int32)) rfl (by decide +kernel) ?_
    refine q_iload_n rfl rfl ?_
    refine q_iconstv (v := (1 : Int32)) rfl (by decide +kernel) ?_
    refine q_isubv (v := (-1 : Int32)) rfl (by decide +kernel) ?_
    refine q_call rfl rfl rfl rfl ?_
    refine q_iload_n rfl rfl ?_
    refine q_iload_n rfl rfl ?_
    refine q_ic_lt_f (t := 14) rfl (by decide) (i_nlt (a := (x1).toInt) (b := (0 : Int)) rfl (by decide +kernel) (by omega)) ?_
    refine q_iload_n rfl rfl ?_
    refine q_iload_n rfl rfl ?_
    refine q_ic_gt_t (t := 14) rfl (by decide) (i_lt_r (a := (x1).toInt) (b := (-1 : Int)) rfl (by decide +kernel) (by omega)) ?_
    refine q_iconstv (v := (0 : Int32)) rfl (by decide +kernel) ?_
    refine q_zret rfl rfl (by decide) ?_
    refine bk_inl ?_
    refine q_iconstv (v := (1 : Int32)) rfl (by decide +kernel) ?_
    refine q_iconstv (v := (0 : Int32)) rfl (by decide +kernel) ?_
    refine q_call rfl rfl rfl rfl ?_
    refine q_iload_n rfl rfl ?_
    refine q_if_ne_f (t := 26) rfl (by decide) (i_nne (a := (0 : Int)) (b := (0 : Int)) (by decide +kernel) (by decide +kernel) (by omega)) ?_
    refine q_aload_n rfl rfl ?_
    refine q_get rfl rfl rfl rfl ?_
    refine q_if_ne_f (t := 26) rfl (by decide) (i_nne (a := (0 : Int)) (b := (0 : Int)) (by decide +kernel) (by decide +kernel) (by omega)) ?_
    refine q_aload_n rfl rfl ?_
    refine q_iload_n rfl rfl ?_
    refine q_putv (w9 := ((w1.set 0 (.inr (7, [.ref 1, .ref 3, .ref 7, .ref 9, .ref 10, .ref 11, .ref 12, .ref 13, .ref 25, .ref 37, .ref 39, .int 0, .int 1, .int 0]))).set 41 (.inr (8, [.int 1, .ref 42, .int 0, .int 0, .int 0, .int 0, .int 0, .int 0, .int (-1), .ref 43, .ref 44, .ref 45, .ref 46, .ref 47, .ref 48, .ref 49, .int 0, .int 0, .int 0, .int 5, .int 0, .int 0, .int 0, .int 5, .ref 50, .ref 51, .ref 52, .ref 53, .ref 54, .int 0, .int 0, .ref 55, .ref 56, .ref 57, .int 0, .int 0, .int 0, .int 0, .int 0, .int 0, .ref 58, .ref 59, .ref 60, .ref 61, .ref 62, .ref 63, .ref 64, .int 0, .int 0, .ref 65, .int 0, .ref 66, .int 0])))) rfl rfl rfl (by decide) rfl (by decide) rfl ?_
    refine q_aload_n rfl rfl ?_
    refine q_get rfl rfl rfl rfl ?_
    refine q_iload_n rfl rfl ?_
    refine q_dup2 rfl ⟨rfl, rfl⟩ ?_
    refine q_ialoadv (m := 0) rfl (by decide) (by decide) rfl (by decide +kernel) rfl ?_
    refine q_iconstv (v := (1 : Int32)) rfl (by decide +kernel) ?_
    refine q_iaddv (v := (1 : Int32)) rfl (by decide +kernel) ?_
    refine q_iastorev (m := 0) (w9 := (((w1.set 0 (.inr (7, [.ref 1, .ref 3, .ref 7, .ref 9, .ref 10, .ref 11, .ref 12, .ref 13, .ref 25, .ref 37, .ref 39, .int 0, .int 1, .int 0]))).set 41 (.inr (8, [.int 1, .ref 42, .int 0, .int 0, .int 0, .int 0, .int 0, .int 0, .int (-1), .ref 43, .ref 44, .ref 45, .ref 46, .ref 47, .ref 48, .ref 49, .int 0, .int 0, .int 0, .int 5, .int 0, .int 0, .int 0, .int 5, .ref 50, .ref 51, .ref 52, .ref 53, .ref 54, .int 0, .int 0, .ref 55, .ref 56, .ref 57, .int 0, .int 0, .int 0, .int 0, .int 0, .int 0, .ref 58, .ref 59, .ref 60, .ref 61, .ref 62, .ref 63, .ref 64, .int 0, .int 0, .ref 65, .int 0, .ref 66, .int 0]))).set 42 (.inl (0, .inl ([1, 0]))))) rfl (by decide) rfl (by decide +kernel) (by decide) rfl ?_
    refine q_aload_n rfl rfl ?_
    refine q_get rfl rfl rfl rfl ?_
    refine q_if_ne_t (t := 37) rfl (by decide) (i_ne (a := (1 : Int)) (b := (0 : Int)) (by decide +kernel) (by decide +kernel) (by omega)) ?_
    refine q_iconstv (v := (0 : Int32)) rfl (by decide +kernel) ?_
    refine q_zret rfl rfl (by decide) ?_
    refine bk_inl ?_
    refine q_zret rfl rfl (by decide) ?_
    refine bk_inl ?_
    refine q_if_eq_t (t := 44) rfl (by decide) (i_eq (a := (0 : Int)) (b := (0 : Int)) (by decide +kernel) (by decide +kernel) (by omega)) ?_
    refine q_iconstv (v := (0 : Int32)) rfl (by decide +kernel) ?_
    refine q_iret rfl rfl ?_
    refine bk_inl ?_
    refine q_istore rfl (by decide) ?_
    refine q_aload_n rfl rfl ?_
    refine q_call rfl rfl rfl rfl ?_
    refine q_aload_n rfl rfl ?_
    refine q_get rfl rfl rfl rfl ?_
    refine q_iret rfl rfl ?_
    refine bk_inl ?_
    refine q_iload rfl rfl ?_
    refine q_ic_eq_t (t := 1195) rfl (by decide) (i_eq (a := (1 : Int)) (b := (1 : Int)) (by decide +kernel) (by decide +kernel) (by omega)) ?_
    refine q_iload rfl rfl ?_
    refine q_if_ne_t (t := 1212) rfl (by decide) (i_ne (a := (1 : Int)) (b := (0 : Int)) (by decide +kernel) (by decide +kernel) (by omega)) ?_
    refine q_goto (t := 2739) rfl (by decide) ?_
    refine q_iincv (v := (8 : Int32)) rfl rfl (by decide) (by decide +kernel) ?_
    refine q_goto (t := 23) rfl (by decide) ?_
    exact q_end rfl rfl (by decide) (by decide)
set_option maxRecDepth 100000 in
set_option maxHeartbeats 4000000 in
theorem op_16 {x0 x1 x2 x3 x4 x5 x6 x7 : Int32} : Wp [x0, x1, x2, x3, x4, x5, x6, x7] 100 296 1215 l1 [] w1 68 8870 Qlaw := by
  refine q_aload_n rfl rfl ?_
  refine q_aload_n rfl rfl ?_
  refine q_iload rfl rfl ?_
  refine q_iconstv (v := (1 : Int32)) rfl (by decide +kernel) ?_
  refine q_iaddv (v := (1 : Int32)) rfl (by decide +kernel) ?_
  refine q_script rfl (by decide) rfl ?_
  refine q_aload_n rfl rfl ?_
  refine q_iload rfl rfl ?_
  refine q_iconstv (v := (2 : Int32)) rfl (by decide +kernel) ?_
  refine q_iaddv (v := (2 : Int32)) rfl (by decide +kernel) ?_
  refine q_script rfl (by decide) rfl ?_
  refine q_aload_n rfl rfl ?_
  refine q_iload rfl rfl ?_
  refine q_iconstv (v := (3 : Int32)) rfl (by decide +kernel) ?_
  refine q_iaddv (v := (3 : Int32)) rfl (by decide +kernel) ?_
  refine q_script rfl (by decide) rfl ?_
  refine q_aload_n rfl rfl ?_
  refine q_call rfl rfl rfl rfl ?_
  refine q_aload rfl rfl ?_
  refine q_iconstv (v := (0 : Int32)) rfl (by decide +kernel) ?_
  refine q_aload_n rfl rfl ?_
  refine q_iload_n rfl rfl ?_
  refine q_iload_n rfl rfl ?_
  refine q_iload_n rfl rfl ?_
  refine q_call rfl rfl rfl rfl ?_
  refine q_aload_n rfl rfl ?_
  refine q_iload_n rfl rfl ?_
  refine q_call rfl rfl rfl rfl ?_
  refine q_aload_n rfl rfl ?_
  refine q_iload_n rfl rfl ?_
  refine q_iconstv (v := (0 : Int32)) rfl (by decide +kernel) ?_
  refine q_aload_n rfl rfl ?_
  refine q_get rfl rfl rfl rfl ?_
  refine q_get rfl rfl rfl rfl ?_
  refine q_iconstv (v := (1 : Int32)) rfl (by decide +kernel) ?_
  refine q_isubv (v := (-1 : Int32)) rfl (by decide +kernel) ?_
  refine q_call rfl rfl rfl rfl ?_
  refine q_iload_n rfl rfl ?_
  refine q_iload_n rfl rfl ?_
  by_cases h1 : (x1).toInt < 0
  · refine q_ic_lt_t (t := 14) rfl (by decide) (i_lt (a := (x1).toInt) (b := (0 : Int)) rfl (by decide +kernel) (by omega)) ?_
    refine q_iconstv (v := (0 : Int32)) rfl (by decide +kernel) ?_
    refine q_zret rfl rfl (by decide) ?_
    refine bk_inl ?_
    refine q_call rfl rfl rfl rfl ?_
    refine q_iload_n rfl rfl ?_
    refine q_if_ne_f (t := 25) rfl (by decide) (i_nne (a := (0 : Int)) (b := (0 : Int)) (by decide +kernel) (by decide +kernel) (by omega)) ?_
    refine q_aload_n rfl rfl ?_
    refine q_dup rfl rfl ?_
    refine q_get rfl rfl rfl rfl ?_
    refine q_iconstv (v := (1 : Int32)) rfl (by decide +kernel) ?_
    refine q_iaddv (v := (1 : Int32)) rfl (by decide +kernel) ?_
    refine q_putv (w9 := (w1.set 0 (.inr (7, [.ref 1, .ref 3, .ref 7, .ref 9, .ref 10, .ref 11, .ref 12, .ref 13, .ref 25, .ref 37, .ref 39, .int 0, .int 1, .int 0])))) rfl rfl rfl (by decide) rfl (by decide) rfl ?_
    refine q_fin rfl rfl rfl ?_
    refine bk_out rfl rfl ?_
    refine bk_out rfl rfl ?_
    refine bk_thr (z := (1 : Int32)) rfl ⟨_, _, rfl⟩ rfl ?_
    refine bk_inl ?_
    refine q_istore rfl (by decide) ?_
    refine q_aload_n rfl rfl ?_
    refine q_aload_n rfl rfl ?_
    refine q_iload rfl rfl ?_
    refine q_iconstv (v := (1 : Int32)) rfl (by decide +kernel) ?_
    refine q_iaddv (v := (1 : Int32)) rfl (by decide +kernel) ?_
    refine q_script rfl (by decide) rfl ?_
    refine q_aload_n rfl rfl ?_
    refine q_iload rfl rfl ?_
    refine q_iconstv (v := (2 : Int32)) rfl (by decide +kernel) ?_
    refine q_iaddv (v := (2 : Int32)) rfl (by decide +kernel) ?_
    refine q_script rfl (by decide) rfl ?_
    refine q_aload_n rfl rfl ?_
    refine q_iload rfl rfl ?_
    refine q_iconstv (v := (3 : Int32)) rfl (by decide +kernel) ?_
    refine q_iaddv (v := (3 : Int32)) rfl (by decide +kernel) ?_
    refine q_script rfl (by decide) rfl ?_
    refine q_call rfl rfl rfl rfl ?_
    refine q_aload_n rfl rfl ?_
    refine q_iconstv (v := (0 : Int32)) rfl (by decide +kernel) ?_
    refine q_putv (w9 := (w1.set 0 (.inr (7, [.ref 1, .ref 3, .ref 7, .ref 9, .ref 10, .ref 11, .ref 12, .ref 13, .ref 25, .ref 37, .ref 39, .int 0, .int 1, .int 0])))) rfl rfl rfl (by decide) rfl (by decide) rfl ?_
    refine q_aload_n rfl rfl ?_
    refine q_iload_n rfl rfl ?_
    refine q_aload_n rfl rfl ?_
    refine q_get rfl rfl rfl rfl ?_
    refine q_call rfl rfl rfl rfl ?_
    refine q_aload_n rfl rfl ?_
    refine q_iload_n rfl rfl ?_
    refine q_iconstv (v := (0 : Int32)) rfl (by decide +kernel) ?_
    refine q_iload_n rfl rfl ?_
    refine q_iconstv (v := (1 : Int32)) rfl (by decide +kernel) ?_
    refine q_isubv (v := (-1 : Int32)) rfl (by decide +kernel) ?_
    refine q_call rfl rfl rfl rfl ?_
    refine q_iload_n rfl rfl ?_
    refine q_iload_n rfl rfl ?_
    refine q_ic_lt_t (t := 14) rfl (by decide) (i_lt (a := (x1).toInt) (b := (0 : Int)) rfl (by decide +kernel) (by omega)) ?_
    refine q_iconstv (v := (0 : Int32)) rfl (by decide +kernel) ?_
    refine q_zret rfl rfl (by decide) ?_
    refine bk_inl ?_
    refine q_iconstv (v := (1 : Int32)) rfl (by decide +kernel) ?_
    refine q_iconstv (v := (0 : Int32)) rfl (by decide +kernel) ?_
    refine q_call rfl rfl rfl rfl ?_
    refine q_iload_n rfl rfl ?_
    refine q_if_ne_f (t := 26) rfl (by decide) (i_nne (a := (0 : Int)) (b := (0 : Int)) (by decide +kernel) (by decide +kernel) (by omega)) ?_
    refine q_aload_n rfl rfl ?_
    refine q_get rfl rfl rfl rfl ?_
    refine q_if_ne_f (t := 26) rfl (by decide) (i_nne (a := (0 : Int)) (b := (0 : Int)) (by decide +kernel) (by decide +kernel) (by omega)) ?_
    refine q_aload_n rfl rfl ?_
    refine q_iload_n rfl rfl ?_
    refine q_putv (w9 := ((w1.set 0 (.inr (7, [.ref 1, .ref 3, .ref 7, .ref 9, .ref 10, .ref 11, .ref 12, .ref 13, .ref 25, .ref 37, .ref 39, .int 0, .int 1, .int 0]))).set 41 (.inr (8, [.int 1, .ref 42, .int 0, .int 0, .int 0, .int 0, .int 0, .int 0, .int (-1), .ref 43, .ref 44, .ref 45, .ref 46, .ref 47, .ref 48, .ref 49, .int 0, .int 0, .int 0, .int 5, .int 0, .int 0, .int 0, .int 5, .ref 50, .ref 51, .ref 52, .ref 53, .ref 54, .int 0, .int 0, .ref 55, .ref 56, .ref 57, .int 0, .int 0, .int 0, .int 0, .int 0, .int 0, .ref 58, .ref 59, .ref 60, .ref 61, .ref 62, .ref 63, .ref 64, .int 0, .int 0, .ref 65, .int 0, .ref 66, .int 0])))) rfl rfl rfl (by decide) rfl (by decide) rfl ?_
    refine q_aload_n rfl rfl ?_
    refine q_get rfl rfl rfl rfl ?_
    refine q_iload_n rfl rfl ?_
    refine q_dup2 rfl ⟨rfl, rfl⟩ ?_
    refine q_ialoadv (m := 0) rfl (by decide) (by decide) rfl (by decide +kernel) rfl ?_
    refine q_iconstv (v := (1 : Int32)) rfl (by decide +kernel) ?_
    refine q_iaddv (v := (1 : Int32)) rfl (by decide +kernel) ?_
    refine q_iastorev (m := 0) (w9 := (((w1.set 0 (.inr (7, [.ref 1, .ref 3, .ref 7, .ref 9, .ref 10, .ref 11, .ref 12, .ref 13, .ref 25, .ref 37, .ref 39, .int 0, .int 1, .int 0]))).set 41 (.inr (8, [.int 1, .ref 42, .int 0, .int 0, .int 0, .int 0, .int 0, .int 0, .int (-1), .ref 43, .ref 44, .ref 45, .ref 46, .ref 47, .ref 48, .ref 49, .int 0, .int 0, .int 0, .int 5, .int 0, .int 0, .int 0, .int 5, .ref 50, .ref 51, .ref 52, .ref 53, .ref 54, .int 0, .int 0, .ref 55, .ref 56, .ref 57, .int 0, .int 0, .int 0, .int 0, .int 0, .int 0, .ref 58, .ref 59, .ref 60, .ref 61, .ref 62, .ref 63, .ref 64, .int 0, .int 0, .ref 65, .int 0, .ref 66, .int 0]))).set 42 (.inl (0, .inl ([1, 0]))))) rfl (by decide) rfl (by decide +kernel) (by decide) rfl ?_
    refine q_aload_n rfl rfl ?_
    refine q_get rfl rfl rfl rfl ?_
    refine q_if_ne_t (t := 37) rfl (by decide) (i_ne (a := (1 : Int)) (b := (0 : Int)) (by decide +kernel) (by decide +kernel) (by omega)) ?_
    refine q_iconstv (v := (0 : Int32)) rfl (by decide +kernel) ?_
    refine q_zret rfl rfl (by decide) ?_
    refine bk_inl ?_
    refine q_zret rfl rfl (by decide) ?_
    refine bk_inl ?_
    refine q_if_eq_t (t := 46) rfl (by decide) (i_eq (a := (0 : Int)) (b := (0 : Int)) (by decide +kernel) (by decide +kernel) (by omega)) ?_
    refine q_iconstv (v := (0 : Int32)) rfl (by decide +kernel) ?_
    refine q_iret rfl rfl ?_
    refine bk_inl ?_
    refine q_istore rfl (by decide) ?_
    refine q_aload_n rfl rfl ?_
    refine q_call rfl rfl rfl rfl ?_
    refine q_aload_n rfl rfl ?_
    refine q_get rfl rfl rfl rfl ?_
    refine q_iret rfl rfl ?_
    refine bk_inl ?_
    refine q_iload rfl rfl ?_
    refine q_ic_eq_t (t := 1275) rfl (by decide) (i_eq (a := (1 : Int)) (b := (1 : Int)) (by decide +kernel) (by decide +kernel) (by omega)) ?_
    refine q_iload rfl rfl ?_
    refine q_if_ne_t (t := 1292) rfl (by decide) (i_ne (a := (1 : Int)) (b := (0 : Int)) (by decide +kernel) (by decide +kernel) (by omega)) ?_
    refine q_goto (t := 2739) rfl (by decide) ?_
    refine q_iincv (v := (8 : Int32)) rfl rfl (by decide) (by decide +kernel) ?_
    refine q_goto (t := 23) rfl (by decide) ?_
    exact q_end rfl rfl (by decide) (by decide)
  · refine q_ic_lt_f (t := 14) rfl (by decide) (i_nlt (a := (x1).toInt) (b := (0 : Int)) rfl (by decide +kernel) (by omega)) ?_
    refine q_iload_n rfl rfl ?_
    refine q_iload_n rfl rfl ?_
    refine q_ic_gt_t (t := 14) rfl (by decide) (i_lt_r (a := (x1).toInt) (b := (-1 : Int)) rfl (by decide +kernel) (by omega)) ?_
    refine q_iconstv (v := (0 : Int32)) rfl (by decide +kernel) ?_
    refine q_zret rfl rfl (by decide) ?_
    refine bk_inl ?_
    refine q_call rfl rfl rfl rfl ?_
    refine q_iload_n rfl rfl ?_
    refine q_if_ne_f (t := 25) rfl (by decide) (i_nne (a := (0 : Int)) (b := (0 : Int)) (by decide +kernel) (by decide +kernel) (by omega)) ?_
    refine q_aload_n rfl rfl ?_
    refine q_dup rfl rfl ?_
    refine q_get rfl rfl rfl rfl ?_
    refine q_iconstv (v := (1 : Int32)) rfl (by decide +kernel) ?_
    refine q_iaddv (v := (1 : Int32)) rfl (by decide +kernel) ?_
    refine q_putv (w9 := (w1.set 0 (.inr (7, [.ref 1, .ref 3, .ref 7, .ref 9, .ref 10, .ref 11, .ref 12, .ref 13, .ref 25, .ref 37, .ref 39, .int 0, .int 1, .int 0])))) rfl rfl rfl (by decide) rfl (by decide) rfl ?_
    refine q_fin rfl rfl rfl ?_
    refine bk_out rfl rfl ?_
    refine bk_out rfl rfl ?_
    refine bk_thr (z := (1 : Int32)) rfl ⟨_, _, rfl⟩ rfl ?_
    refine bk_inl ?_
    refine q_istore rfl (by decide) ?_
    refine q_aload_n rfl rfl ?_
    refine q_aload_n rfl rfl ?_
    refine q_iload rfl rfl ?_
    refine q_iconstv (v := (1 : Int32)) rfl (by decide +kernel) ?_
    refine q_iaddv (v := (1 : Int32)) rfl (by decide +kernel) ?_
    refine q_script rfl (by decide) rfl ?_
    refine q_aload_n rfl rfl ?_
    refine q_iload rfl rfl ?_
    refine q_iconstv (v := (2 : Int32)) rfl (by decide +kernel) ?_
    refine q_iaddv (v := (2 : Int32)) rfl (by decide +kernel) ?_
    refine q_script rfl (by decide) rfl ?_
    refine q_aload_n rfl rfl ?_
    refine q_iload rfl rfl ?_
    refine q_iconstv (v := (3 : Int32)) rfl (by decide +kernel) ?_
    refine q_iaddv (v := (3 : Int32)) rfl (by decide +kernel) ?_
    refine q_script rfl (by decide) rfl ?_
    refine q_call rfl rfl rfl rfl ?_
    refine q_aload_n rfl rfl ?_
    refine q_iconstv (v := (0 : Int32)) rfl (by decide +kernel) ?_
    refine q_putv (w9 := (w1.set 0 (.inr (7, [.ref 1, .ref 3, .ref 7, .ref 9, .ref 10, .ref 11, .ref 12, .ref 13, .ref 25, .ref 37, .ref 39, .int 0, .int 1, .int 0])))) rfl rfl rfl (by decide) rfl (by decide) rfl ?_
    refine q_aload_n rfl rfl ?_
    refine q_iload_n rfl rfl ?_
    refine q_aload_n rfl rfl ?_
    refine q_get rfl rfl rfl rfl ?_
    refine q_call rfl rfl rfl rfl ?_
    refine q_aload_n rfl rfl ?_
    refine q_iload_n rfl rfl ?_
    refine q_iconstv (v := (0 : Int32)) rfl (by decide +kernel) ?_
    refine q_iload_n rfl rfl ?_
    refine q_iconstv (v := (1 : Int32)) rfl (by decide +kernel) ?_
    refine q_isubv (v := (-1 : Int32)) rfl (by decide +kernel) ?_
    refine q_call rfl rfl rfl rfl ?_
    refine q_iload_n rfl rfl ?_
    refine q_iload_n rfl rfl ?_
    refine q_ic_lt_f (t := 14) rfl (by decide) (i_nlt (a := (x1).toInt) (b := (0 : Int)) rfl (by decide +kernel) (by omega)) ?_
    refine q_iload_n rfl rfl ?_
    refine q_iload_n rfl rfl ?_
    refine q_ic_gt_t (t := 14) rfl (by decide) (i_lt_r (a := (x1).toInt) (b := (-1 : Int)) rfl (by decide +kernel) (by omega)) ?_
    refine q_iconstv (v := (0 : Int32)) rfl (by decide +kernel) ?_
    refine q_zret rfl rfl (by decide) ?_
    refine bk_inl ?_
    refine q_iconstv (v := (1 : Int32)) rfl (by decide +kernel) ?_
    refine q_iconstv (v := (0 : Int32)) rfl (by decide +kernel) ?_
    refine q_call rfl rfl rfl rfl ?_
    refine q_iload_n rfl rfl ?_
    refine q_if_ne_f (t := 26) rfl (by decide) (i_nne (a := (0 : Int)) (b := (0 : Int)) (by decide +kernel) (by decide +kernel) (by omega)) ?_
    refine q_aload_n rfl rfl ?_
    refine q_get rfl rfl rfl rfl ?_
    refine q_if_ne_f (t := 26) rfl (by decide) (i_nne (a := (0 : Int)) (b := (0 : Int)) (by decide +kernel) (by decide +kernel) (by omega)) ?_
    refine q_aload_n rfl rfl ?_
    refine q_iload_n rfl rfl ?_
    refine q_putv (w9 := ((w1.set 0 (.inr (7, [.ref 1, .ref 3, .ref 7, .ref 9, .ref 10, .ref 11, .ref 12, .ref 13, .ref 25, .ref 37, .ref 39, .int 0, .int 1, .int 0]))).set 41 (.inr (8, [.int 1, .ref 42, .int 0, .int 0, .int 0, .int 0, .int 0, .int 0, .int (-1), .ref 43, .ref 44, .ref 45, .ref 46, .ref 47, .ref 48, .ref 49, .int 0, .int 0, .int 0, .int 5, .int 0, .int 0, .int 0, .int 5, .ref 50, .ref 51, .ref 52, .ref 53, .ref 54, .int 0, .int 0, .ref 55, .ref 56, .ref 57, .int 0, .int 0, .int 0, .int 0, .int 0, .int 0, .ref 58, .ref 59, .ref 60, .ref 61, .ref 62, .ref 63, .ref 64, .int 0, .int 0, .ref 65, .int 0, .ref 66, .int 0])))) rfl rfl rfl (by decide) rfl (by decide) rfl ?_
    refine q_aload_n rfl rfl ?_
    refine q_get rfl rfl rfl rfl ?_
    refine q_iload_n rfl rfl ?_
    refine q_dup2 rfl ⟨rfl, rfl⟩ ?_
    refine q_ialoadv (m := 0) rfl (by decide) (by decide) rfl (by decide +kernel) rfl ?_
    refine q_iconstv (v := (1 : Int32)) rfl (by decide +kernel) ?_
    refine q_iaddv (v := (1 : Int32)) rfl (by decide +kernel) ?_
    refine q_iastorev (m := 0) (w9 := (((w1.set 0 (.inr (7, [.ref 1, .ref 3, .ref 7, .ref 9, .ref 10, .ref 11, .ref 12, .ref 13, .ref 25, .ref 37, .ref 39, .int 0, .int 1, .int 0]))).set 41 (.inr (8, [.int 1, .ref 42, .int 0, .int 0, .int 0, .int 0, .int 0, .int 0, .int (-1), .ref 43, .ref 44, .ref 45, .ref 46, .ref 47, .ref 48, .ref 49, .int 0, .int 0, .int 0, .int 5, .int 0, .int 0, .int 0, .int 5, .ref 50, .ref 51, .ref 52, .ref 53, .ref 54, .int 0, .int 0, .ref 55, .ref 56, .ref 57, .int 0, .int 0, .int 0, .int 0, .int 0, .int 0, .ref 58, .ref 59, .ref 60, .ref 61, .ref 62, .ref 63, .ref 64, .int 0, .int 0, .ref 65, .int 0, .ref 66, .int 0]))).set 42 (.inl (0, .inl ([1, 0]))))) rfl (by decide) rfl (by decide +kernel) (by decide) rfl ?_
    refine q_aload_n rfl rfl ?_
    refine q_get rfl rfl rfl rfl ?_
    refine q_if_ne_t (t := 37) rfl (by decide) (i_ne (a := (1 : Int)) (b := (0 : Int)) (by decide +kernel) (by decide +kernel) (by omega)) ?_
    refine q_iconstv (v := (0 : Int32)) rfl (by decide +kernel) ?_
    refine q_zret rfl rfl (by decide) ?_
    refine bk_inl ?_
    refine q_zret rfl rfl (by decide) ?_
    refine bk_inl ?_
    refine q_if_eq_t (t := 46) rfl (by decide) (i_eq (a := (0 : Int)) (b := (0 : Int)) (by decide +kernel) (by decide +kernel) (by omega)) ?_
    refine q_iconstv (v := (0 : Int32)) rfl (by decide +kernel) ?_
    refine q_iret rfl rfl ?_
    refine bk_inl ?_
    refine q_istore rfl (by decide) ?_
    refine q_aload_n rfl rfl ?_
    refine q_call rfl rfl rfl rfl ?_
    refine q_aload_n rfl rfl ?_
    refine q_get rfl rfl rfl rfl ?_
    refine q_iret rfl rfl ?_
    refine bk_inl ?_
    refine q_iload rfl rfl ?_
    refine q_ic_eq_t (t := 1275) rfl (by decide) (i_eq (a := (1 : Int)) (b := (1 : Int)) (by decide +kernel) (by decide +kernel) (by omega)) ?_
    refine q_iload rfl rfl ?_
    refine q_if_ne_t (t := 1292) rfl (by decide) (i_ne (a := (1 : Int)) (b := (0 : Int)) (by decide +kernel) (by decide +kernel) (by omega)) ?_
    refine q_goto (t := 2739) rfl (by decide) ?_
    refine q_iincv (v := (8 : Int32)) rfl rfl (by decide) (by decide +kernel) ?_
    refine q_goto (t := 23) rfl (by decide) ?_
    exact q_end rfl rfl (by decide) (by decide)
set_option maxRecDepth 100000 in
set_option maxHeartbeats 4000000 in
theorem op_17 {x0 x1 x2 x3 x4 x5 x6 x7 : Int32} : Wp [x0, x1, x2, x3, x4, x5, x6, x7] 100 296 1295 l1 [] w1 68 8870 Qlaw := by
  refine q_aload_n rfl rfl ?_
  refine q_aload_n rfl rfl ?_
  refine q_iload rfl rfl ?_
  refine q_iconstv (v := (1 : Int32)) rfl (by decide +kernel) ?_
  refine q_iaddv (v := (1 : Int32)) rfl (by decide +kernel) ?_
  refine q_script rfl (by decide) rfl ?_
  refine q_aload_n rfl rfl ?_
  refine q_iload rfl rfl ?_
  refine q_iconstv (v := (2 : Int32)) rfl (by decide +kernel) ?_
  refine q_iaddv (v := (2 : Int32)) rfl (by decide +kernel) ?_
  refine q_script rfl (by decide) rfl ?_
  refine q_aload_n rfl rfl ?_
  refine q_call rfl rfl rfl rfl ?_
  refine q_aload_n rfl rfl ?_
  refine q_iconstv (v := (0 : Int32)) rfl (by decide +kernel) ?_
  refine q_aload_n rfl rfl ?_
  refine q_iload_n rfl rfl ?_
  refine q_iload_n rfl rfl ?_
  refine q_call rfl rfl rfl rfl ?_
  refine q_aload_n rfl rfl ?_
  refine q_iload_n rfl rfl ?_
  refine q_call rfl rfl rfl rfl ?_
  refine q_aload_n rfl rfl ?_
  refine q_iload_n rfl rfl ?_
  refine q_iconstv (v := (0 : Int32)) rfl (by decide +kernel) ?_
  refine q_aload_n rfl rfl ?_
  refine q_get rfl rfl rfl rfl ?_
  refine q_get rfl rfl rfl rfl ?_
  refine q_iconstv (v := (1 : Int32)) rfl (by decide +kernel) ?_
  refine q_isubv (v := (-1 : Int32)) rfl (by decide +kernel) ?_
  refine q_call rfl rfl rfl rfl ?_
  refine q_iload_n rfl rfl ?_
  refine q_iload_n rfl rfl ?_
  by_cases h1 : (x1).toInt < 0
  · refine q_ic_lt_t (t := 14) rfl (by decide) (i_lt (a := (x1).toInt) (b := (0 : Int)) rfl (by decide +kernel) (by omega)) ?_
    refine q_iconstv (v := (0 : Int32)) rfl (by decide +kernel) ?_
    refine q_zret rfl rfl (by decide) ?_
    refine bk_inl ?_
    refine q_call rfl rfl rfl rfl ?_
    refine q_iload_n rfl rfl ?_
    refine q_if_ne_f (t := 25) rfl (by decide) (i_nne (a := (0 : Int)) (b := (0 : Int)) (by decide +kernel) (by decide +kernel) (by omega)) ?_
    refine q_aload_n rfl rfl ?_
    refine q_dup rfl rfl ?_
    refine q_get rfl rfl rfl rfl ?_
    refine q_iconstv (v := (1 : Int32)) rfl (by decide +kernel) ?_
    refine q_iaddv (v := (1 : Int32)) rfl (by decide +kernel) ?_
    refine q_putv (w9 := (w1.set 0 (.inr (7, [.ref 1, .ref 3, .ref 7, .ref 9, .ref 10, .ref 11, .ref 12, .ref 13, .ref 25, .ref 37, .ref 39, .int 0, .int 1, .int 0])))) rfl rfl rfl (by decide) rfl (by decide) rfl ?_
    refine q_fin rfl rfl rfl ?_
    refine bk_out rfl rfl ?_
    refine bk_out rfl rfl ?_
    refine bk_thr (z := (1 : Int32)) rfl ⟨_, _, rfl⟩ rfl ?_
    refine bk_inl ?_
    refine q_istore rfl (by decide) ?_
    refine q_aload_n rfl rfl ?_
    refine q_aload_n rfl rfl ?_
    refine q_iload rfl rfl ?_
    refine q_iconstv (v := (1 : Int32)) rfl (by decide +kernel) ?_
    refine q_iaddv (v := (1 : Int32)) rfl (by decide +kernel) ?_
    refine q_script rfl (by decide) rfl ?_
    refine q_aload_n rfl rfl ?_
    refine q_iload rfl rfl ?_
    refine q_iconstv (v := (2 : Int32)) rfl (by decide +kernel) ?_
    refine q_iaddv (v := (2 : Int32)) rfl (by decide +kernel) ?_
    refine q_script rfl (by decide) rfl ?_
    refine q_call rfl rfl rfl rfl ?_
    refine q_aload_n rfl rfl ?_
    refine q_iconstv (v := (0 : Int32)) rfl (by decide +kernel) ?_
    refine q_putv (w9 := (w1.set 0 (.inr (7, [.ref 1, .ref 3, .ref 7, .ref 9, .ref 10, .ref 11, .ref 12, .ref 13, .ref 25, .ref 37, .ref 39, .int 0, .int 1, .int 0])))) rfl rfl rfl (by decide) rfl (by decide) rfl ?_
    refine q_aload_n rfl rfl ?_
    refine q_iload_n rfl rfl ?_
    refine q_aload_n rfl rfl ?_
    refine q_get rfl rfl rfl rfl ?_
    refine q_call rfl rfl rfl rfl ?_
    refine q_aload_n rfl rfl ?_
    refine q_iload_n rfl rfl ?_
    refine q_iconstv (v := (0 : Int32)) rfl (by decide +kernel) ?_
    refine q_iload_n rfl rfl ?_
    refine q_iconstv (v := (1 : Int32)) rfl (by decide +kernel) ?_
    refine q_isubv (v := (-1 : Int32)) rfl (by decide +kernel) ?_
    refine q_call rfl rfl rfl rfl ?_
    refine q_iload_n rfl rfl ?_
    refine q_iload_n rfl rfl ?_
    refine q_ic_lt_t (t := 14) rfl (by decide) (i_lt (a := (x1).toInt) (b := (0 : Int)) rfl (by decide +kernel) (by omega)) ?_
    refine q_iconstv (v := (0 : Int32)) rfl (by decide +kernel) ?_
    refine q_zret rfl rfl (by decide) ?_
    refine bk_inl ?_
    refine q_iconstv (v := (1 : Int32)) rfl (by decide +kernel) ?_
    refine q_iconstv (v := (0 : Int32)) rfl (by decide +kernel) ?_
    refine q_call rfl rfl rfl rfl ?_
    refine q_iload_n rfl rfl ?_
    refine q_if_ne_f (t := 26) rfl (by decide) (i_nne (a := (0 : Int)) (b := (0 : Int)) (by decide +kernel) (by decide +kernel) (by omega)) ?_
    refine q_aload_n rfl rfl ?_
    refine q_get rfl rfl rfl rfl ?_
    refine q_if_ne_f (t := 26) rfl (by decide) (i_nne (a := (0 : Int)) (b := (0 : Int)) (by decide +kernel) (by decide +kernel) (by omega)) ?_
    refine q_aload_n rfl rfl ?_
    refine q_iload_n rfl rfl ?_
    refine q_putv (w9 := ((w1.set 0 (.inr (7, [.ref 1, .ref 3, .ref 7, .ref 9, .ref 10, .ref 11, .ref 12, .ref 13, .ref 25, .ref 37, .ref 39, .int 0, .int 1, .int 0]))).set 41 (.inr (8, [.int 1, .ref 42, .int 0, .int 0, .int 0, .int 0, .int 0, .int 0, .int (-1), .ref 43, .ref 44, .ref 45, .ref 46, .ref 47, .ref 48, .ref 49, .int 0, .int 0, .int 0, .int 5, .int 0, .int 0, .int 0, .int 5, .ref 50, .ref 51, .ref 52, .ref 53, .ref 54, .int 0, .int 0, .ref 55, .ref 56, .ref 57, .int 0, .int 0, .int 0, .int 0, .int 0, .int 0, .ref 58, .ref 59, .ref 60, .ref 61, .ref 62, .ref 63, .ref 64, .int 0, .int 0, .ref 65, .int 0, .ref 66, .int 0])))) rfl rfl rfl (by decide) rfl (by decide) rfl ?_
    refine q_aload_n rfl rfl ?_
    refine q_get rfl rfl rfl rfl ?_
    refine q_iload_n rfl rfl ?_
    refine q_dup2 rfl ⟨rfl, rfl⟩ ?_
    refine q_ialoadv (m := 0) rfl (by decide) (by decide) rfl (by decide +kernel) rfl ?_
    refine q_iconstv (v := (1 : Int32)) rfl (by decide +kernel) ?_
    refine q_iaddv (v := (1 : Int32)) rfl (by decide +kernel) ?_
    refine q_iastorev (m := 0) (w9 := (((w1.set 0 (.inr (7, [.ref 1, .ref 3, .ref 7, .ref 9, .ref 10, .ref 11, .ref 12, .ref 13, .ref 25, .ref 37, .ref 39, .int 0, .int 1, .int 0]))).set 41 (.inr (8, [.int 1, .ref 42, .int 0, .int 0, .int 0, .int 0, .int 0, .int 0, .int (-1), .ref 43, .ref 44, .ref 45, .ref 46, .ref 47, .ref 48, .ref 49, .int 0, .int 0, .int 0, .int 5, .int 0, .int 0, .int 0, .int 5, .ref 50, .ref 51, .ref 52, .ref 53, .ref 54, .int 0, .int 0, .ref 55, .ref 56, .ref 57, .int 0, .int 0, .int 0, .int 0, .int 0, .int 0, .ref 58, .ref 59, .ref 60, .ref 61, .ref 62, .ref 63, .ref 64, .int 0, .int 0, .ref 65, .int 0, .ref 66, .int 0]))).set 42 (.inl (0, .inl ([1, 0]))))) rfl (by decide) rfl (by decide +kernel) (by decide) rfl ?_
    refine q_aload_n rfl rfl ?_
    refine q_get rfl rfl rfl rfl ?_
    refine q_if_ne_t (t := 37) rfl (by decide) (i_ne (a := (1 : Int)) (b := (0 : Int)) (by decide +kernel) (by decide +kernel) (by omega)) ?_
    refine q_iconstv (v := (0 : Int32)) rfl (by decide +kernel) ?_
    refine q_zret rfl rfl (by decide) ?_
    refine bk_inl ?_
    refine q_zret rfl rfl (by decide) ?_
    refine bk_inl ?_
    refine q_if_eq_t (t := 35) rfl (by decide) (i_eq (a := (0 : Int)) (b := (0 : Int)) (by decide +kernel) (by decide +kernel) (by omega)) ?_
    refine q_iconstv (v := (0 : Int32)) rfl (by decide +kernel) ?_
    refine q_iret rfl rfl ?_
    refine bk_inl ?_
    refine q_istore rfl (by decide) ?_
    refine q_aload_n rfl rfl ?_
    refine q_call rfl rfl rfl rfl ?_
    refine q_aload_n rfl rfl ?_
    refine q_get rfl rfl rfl rfl ?_
    refine q_iret rfl rfl ?_
    refine bk_inl ?_
    refine q_iload rfl rfl ?_
    refine q_ic_eq_t (t := 1343) rfl (by decide) (i_eq (a := (1 : Int)) (b := (1 : Int)) (by decide +kernel) (by decide +kernel) (by omega)) ?_
    refine q_iload rfl rfl ?_
    refine q_if_ne_t (t := 1360) rfl (by decide) (i_ne (a := (1 : Int)) (b := (0 : Int)) (by decide +kernel) (by decide +kernel) (by omega)) ?_
    refine q_goto (t := 2739) rfl (by decide) ?_
    refine q_iincv (v := (8 : Int32)) rfl rfl (by decide) (by decide +kernel) ?_
    refine q_goto (t := 23) rfl (by decide) ?_
    exact q_end rfl rfl (by decide) (by decide)
  · refine q_ic_lt_f (t := 14) rfl (by decide) (i_nlt (a := (x1).toInt) (b := (0 : Int)) rfl (by decide +kernel) (by omega)) ?_
    refine q_iload_n rfl rfl ?_
    refine q_iload_n rfl rfl ?_
    refine q_ic_gt_t (t := 14) rfl (by decide) (i_lt_r (a := (x1).toInt) (b := (-1 : Int)) rfl (by decide +kernel) (by omega)) ?_
    refine q_iconstv (v := (0 : Int32)) rfl (by decide +kernel) ?_
    refine q_zret rfl rfl (by decide) ?_
    refine bk_inl ?_
    refine q_call rfl rfl rfl rfl ?_
    refine q_iload_n rfl rfl ?_
    refine q_if_ne_f (t := 25) rfl (by decide) (i_nne (a := (0 : Int)) (b := (0 : Int)) (by decide +kernel) (by decide +kernel) (by omega)) ?_
    refine q_aload_n rfl rfl ?_
    refine q_dup rfl rfl ?_
    refine q_get rfl rfl rfl rfl ?_
    refine q_iconstv (v := (1 : Int32)) rfl (by decide +kernel) ?_
    refine q_iaddv (v := (1 : Int32)) rfl (by decide +kernel) ?_
    refine q_putv (w9 := (w1.set 0 (.inr (7, [.ref 1, .ref 3, .ref 7, .ref 9, .ref 10, .ref 11, .ref 12, .ref 13, .ref 25, .ref 37, .ref 39, .int 0, .int 1, .int 0])))) rfl rfl rfl (by decide) rfl (by decide) rfl ?_
    refine q_fin rfl rfl rfl ?_
    refine bk_out rfl rfl ?_
    refine bk_out rfl rfl ?_
    refine bk_thr (z := (1 : Int32)) rfl ⟨_, _, rfl⟩ rfl ?_
    refine bk_inl ?_
    refine q_istore rfl (by decide) ?_
    refine q_aload_n rfl rfl ?_
    refine q_aload_n rfl rfl ?_
    refine q_iload rfl rfl ?_
    refine q_iconstv (v := (1 : Int32)) rfl (by decide +kernel) ?_
    refine q_iaddv (v := (1 : Int32)) rfl (by decide +kernel) ?_
    refine q_script rfl (by decide) rfl ?_
    refine q_aload_n rfl rfl ?_
    refine q_iload rfl rfl ?_
    refine q_iconstv (v := (2 : Int32)) rfl (by decide +kernel) ?_
    refine q_iaddv (v := (2 : Int32)) rfl (by decide +kernel) ?_
    refine q_script rfl (by decide) rfl ?_
    refine q_call rfl rfl rfl rfl ?_
    refine q_aload_n rfl rfl ?_
    refine q_iconstv (v := (0 : Int32)) rfl (by decide +kernel) ?_
    refine q_putv (w9 := (w1.set 0 (.inr (7, [.ref 1, .ref 3, .ref 7, .ref 9, .ref 10, .ref 11, .ref 12, .ref 13, .ref 25, .ref 37, .ref 39, .int 0, .int 1, .int 0])))) rfl rfl rfl (by decide) rfl (by decide) rfl ?_
    refine q_aload_n rfl rfl ?_
    refine q_iload_n rfl rfl ?_
    refine q_aload_n rfl rfl ?_
    refine q_get rfl rfl rfl rfl ?_
    refine q_call rfl rfl rfl rfl ?_
    refine q_aload_n rfl rfl ?_
    refine q_iload_n rfl rfl ?_
    refine q_iconstv (v := (0 : Int32)) rfl (by decide +kernel) ?_
    refine q_iload_n rfl rfl ?_
    refine q_iconstv (v := (1 : Int32)) rfl (by decide +kernel) ?_
    refine q_isubv (v := (-1 : Int32)) rfl (by decide +kernel) ?_
    refine q_call rfl rfl rfl rfl ?_
    refine q_iload_n rfl rfl ?_
    refine q_iload_n rfl rfl ?_
    refine q_ic_lt_f (t := 14) rfl (by decide) (i_nlt (a := (x1).toInt) (b := (0 : Int)) rfl (by decide +kernel) (by omega)) ?_
    refine q_iload_n rfl rfl ?_
    refine q_iload_n rfl rfl ?_
    refine q_ic_gt_t (t := 14) rfl (by decide) (i_lt_r (a := (x1).toInt) (b := (-1 : Int)) rfl (by decide +kernel) (by omega)) ?_
    refine q_iconstv (v := (0 : Int32)) rfl (by decide +kernel) ?_
    refine q_zret rfl rfl (by decide) ?_
    refine bk_inl ?_
    refine q_iconstv (v := (1 : Int32)) rfl (by decide +kernel) ?_
    refine q_iconstv (v := (0 : Int32)) rfl (by decide +kernel) ?_
    refine q_call rfl rfl rfl rfl ?_
    refine q_iload_n rfl rfl ?_
    refine q_if_ne_f (t := 26) rfl (by decide) (i_nne (a := (0 : Int)) (b := (0 : Int)) (by decide +kernel) (by decide +kernel) (by omega)) ?_
    refine q_aload_n rfl rfl ?_
    refine q_get rfl rfl rfl rfl ?_
    refine q_if_ne_f (t := 26) rfl (by decide) (i_nne (a := (0 : Int)) (b := (0 : Int)) (by decide +kernel) (by decide +kernel) (by omega)) ?_
    refine q_aload_n rfl rfl ?_
    refine q_iload_n rfl rfl ?_
    refine q_putv (w9 := ((w1.set 0 (.inr (7, [.ref 1, .ref 3, .ref 7, .ref 9, .ref 10, .ref 11, .ref 12, .ref 13, .ref 25, .ref 37, .ref 39, .int 0, .int 1, .int 0]))).set 41 (.inr (8, [.int 1, .ref 42, .int 0, .int 0, .int 0, .int 0, .int 0, .int 0, .int (-1), .ref 43, .ref 44, .ref 45, .ref 46, .ref 47, .ref 48, .ref 49, .int 0, .int 0, .int 0, .int 5, .int 0, .int 0, .int 0, .int 5, .ref 50, .ref 51, .ref 52, .ref 53, .ref 54, .int 0, .int 0, .ref 55, .ref 56, .ref 57, .int 0, .int 0, .int 0, .int 0, .int 0, .int 0, .ref 58, .ref 59, .ref 60, .ref 61, .ref 62, .ref 63, .ref 64, .int 0, .int 0, .ref 65, .int 0, .ref 66, .int 0])))) rfl rfl rfl (by decide) rfl (by decide) rfl ?_
    refine q_aload_n rfl rfl ?_
    refine q_get rfl rfl rfl rfl ?_
    refine q_iload_n rfl rfl ?_
    refine q_dup2 rfl ⟨rfl, rfl⟩ ?_
    refine q_ialoadv (m := 0) rfl (by decide) (by decide) rfl (by decide +kernel) rfl ?_
    refine q_iconstv (v := (1 : Int32)) rfl (by decide +kernel) ?_
    refine q_iaddv (v := (1 : Int32)) rfl (by decide +kernel) ?_
    refine q_iastorev (m := 0) (w9 := (((w1.set 0 (.inr (7, [.ref 1, .ref 3, .ref 7, .ref 9, .ref 10, .ref 11, .ref 12, .ref 13, .ref 25, .ref 37, .ref 39, .int 0, .int 1, .int 0]))).set 41 (.inr (8, [.int 1, .ref 42, .int 0, .int 0, .int 0, .int 0, .int 0, .int 0, .int (-1), .ref 43, .ref 44, .ref 45, .ref 46, .ref 47, .ref 48, .ref 49, .int 0, .int 0, .int 0, .int 5, .int 0, .int 0, .int 0, .int 5, .ref 50, .ref 51, .ref 52, .ref 53, .ref 54, .int 0, .int 0, .ref 55, .ref 56, .ref 57, .int 0, .int 0, .int 0, .int 0, .int 0, .int 0, .ref 58, .ref 59, .ref 60, .ref 61, .ref 62, .ref 63, .ref 64, .int 0, .int 0, .ref 65, .int 0, .ref 66, .int 0]))).set 42 (.inl (0, .inl ([1, 0]))))) rfl (by decide) rfl (by decide +kernel) (by decide) rfl ?_
    refine q_aload_n rfl rfl ?_
    refine q_get rfl rfl rfl rfl ?_
    refine q_if_ne_t (t := 37) rfl (by decide) (i_ne (a := (1 : Int)) (b := (0 : Int)) (by decide +kernel) (by decide +kernel) (by omega)) ?_
    refine q_iconstv (v := (0 : Int32)) rfl (by decide +kernel) ?_
    refine q_zret rfl rfl (by decide) ?_
    refine bk_inl ?_
    refine q_zret rfl rfl (by decide) ?_
    refine bk_inl ?_
    refine q_if_eq_t (t := 35) rfl (by decide) (i_eq (a := (0 : Int)) (b := (0 : Int)) (by decide +kernel) (by decide +kernel) (by omega)) ?_
    refine q_iconstv (v := (0 : Int32)) rfl (by decide +kernel) ?_
    refine q_iret rfl rfl ?_
    refine bk_inl ?_
    refine q_istore rfl (by decide) ?_
    refine q_aload_n rfl rfl ?_
    refine q_call rfl rfl rfl rfl ?_
    refine q_aload_n rfl rfl ?_
    refine q_get rfl rfl rfl rfl ?_
    refine q_iret rfl rfl ?_
    refine bk_inl ?_
    refine q_iload rfl rfl ?_
    refine q_ic_eq_t (t := 1343) rfl (by decide) (i_eq (a := (1 : Int)) (b := (1 : Int)) (by decide +kernel) (by decide +kernel) (by omega)) ?_
    refine q_iload rfl rfl ?_
    refine q_if_ne_t (t := 1360) rfl (by decide) (i_ne (a := (1 : Int)) (b := (0 : Int)) (by decide +kernel) (by decide +kernel) (by omega)) ?_
    refine q_goto (t := 2739) rfl (by decide) ?_
    refine q_iincv (v := (8 : Int32)) rfl rfl (by decide) (by decide +kernel) ?_
    refine q_goto (t := 23) rfl (by decide) ?_
    exact q_end rfl rfl (by decide) (by decide)
set_option maxRecDepth 100000 in
set_option maxHeartbeats 4000000 in
theorem op_18 {x0 x1 x2 x3 x4 x5 x6 x7 : Int32} : Wp [x0, x1, x2, x3, x4, x5, x6, x7] 100 296 1363 l1 [] w1 68 8870 Qlaw := by
  refine q_aload_n rfl rfl ?_
  refine q_aload_n rfl rfl ?_
  refine q_iload rfl rfl ?_
  refine q_iconstv (v := (1 : Int32)) rfl (by decide +kernel) ?_
  refine q_iaddv (v := (1 : Int32)) rfl (by decide +kernel) ?_
  refine q_script rfl (by decide) rfl ?_
  refine q_aload_n rfl rfl ?_
  refine q_iload rfl rfl ?_
  refine q_iconstv (v := (2 : Int32)) rfl (by decide +kernel) ?_
  refine q_iaddv (v := (2 : Int32)) rfl (by decide +kernel) ?_
  refine q_script rfl (by decide) rfl ?_
  refine q_aload_n rfl rfl ?_
  refine q_call rfl rfl rfl rfl ?_
  refine q_aload_n rfl rfl ?_
  refine q_iconstv (v := (0 : Int32)) rfl (by decide +kernel) ?_
  refine q_aload_n rfl rfl ?_
  refine q_iload_n rfl rfl ?_
  refine q_iload_n rfl rfl ?_
  refine q_call rfl rfl rfl rfl ?_
  refine q_aload_n rfl rfl ?_
  refine q_aload_n rfl rfl ?_
  refine q_iload_n rfl rfl ?_
  refine q_call rfl rfl rfl rfl ?_
  refine q_iload_n rfl rfl ?_
  refine q_iconstv (v := (0 : Int32)) rfl (by decide +kernel) ?_
  refine q_iconstv (v := (1 : Int32)) rfl (by decide +kernel) ?_
  refine q_aload_n rfl rfl ?_
  refine q_get rfl rfl rfl rfl ?_
  refine q_get rfl rfl rfl rfl ?_
  refine q_ishlv (v := (1 : Int32)) rfl (by decide +kernel) ?_
  refine q_iconstv (v := (1 : Int32)) rfl (by decide +kernel) ?_
  refine q_isubv (v := (0 : Int32)) rfl (by decide +kernel) ?_
  refine q_call rfl rfl rfl rfl ?_
  refine q_iload_n rfl rfl ?_
  refine q_iload_n rfl rfl ?_
  by_cases h1 : (x1).toInt < 0
  · refine q_ic_lt_t (t := 14) rfl (by decide) (i_lt (a := (x1).toInt) (b := (0 : Int)) rfl (by decide +kernel) (by omega)) ?_
    refine q_iconstv (v := (0 : Int32)) rfl (by decide +kernel) ?_
    refine q_zret rfl rfl (by decide) ?_
    refine bk_inl ?_
    refine q_zret rfl rfl (by decide) ?_
    refine bk_inl ?_
    refine q_if_eq_t (t := 22) rfl (by decide) (i_eq (a := (0 : Int)) (b := (0 : Int)) (by decide +kernel) (by decide +kernel) (by omega)) ?_
    refine q_iconstv (v := (0 : Int32)) rfl (by decide +kernel) ?_
    refine q_call rfl rfl rfl rfl ?_
    refine q_iload_n rfl rfl ?_
    refine q_if_ne_f (t := 25) rfl (by decide) (i_nne (a := (0 : Int)) (b := (0 : Int)) (by decide +kernel) (by decide +kernel) (by omega)) ?_
    refine q_aload_n rfl rfl ?_
    refine q_dup rfl rfl ?_
    refine q_get rfl rfl rfl rfl ?_
    refine q_iconstv (v := (1 : Int32)) rfl (by decide +kernel) ?_
    refine q_iaddv (v := (1 : Int32)) rfl (by decide +kernel) ?_
    refine q_putv (w9 := (w1.set 0 (.inr (7, [.ref 1, .ref 3, .ref 7, .ref 9, .ref 10, .ref 11, .ref 12, .ref 13, .ref 25, .ref 37, .ref 39, .int 0, .int 0, .int 1])))) rfl rfl rfl (by decide) rfl (by decide) rfl ?_
    refine q_fin rfl rfl rfl ?_
    refine bk_out rfl rfl ?_
    refine bk_thr (z := (1 : Int32)) rfl ⟨_, _, rfl⟩ rfl ?_
    refine bk_inl ?_
    refine q_istore rfl (by decide) ?_
    refine q_aload_n rfl rfl ?_
    refine q_aload_n rfl rfl ?_
    refine q_iload rfl rfl ?_
    refine q_iconstv (v := (1 : Int32)) rfl (by decide +kernel) ?_
    refine q_iaddv (v := (1 : Int32)) rfl (by decide +kernel) ?_
    refine q_script rfl (by decide) rfl ?_
    refine q_aload_n rfl rfl ?_
    refine q_iload rfl rfl ?_
    refine q_iconstv (v := (2 : Int32)) rfl (by decide +kernel) ?_
    refine q_iaddv (v := (2 : Int32)) rfl (by decide +kernel) ?_
    refine q_script rfl (by decide) rfl ?_
    refine q_call rfl rfl rfl rfl ?_
    refine q_aload_n rfl rfl ?_
    refine q_iconstv (v := (0 : Int32)) rfl (by decide +kernel) ?_
    refine q_putv (w9 := (w1.set 0 (.inr (7, [.ref 1, .ref 3, .ref 7, .ref 9, .ref 10, .ref 11, .ref 12, .ref 13, .ref 25, .ref 37, .ref 39, .int 0, .int 0, .int 1])))) rfl rfl rfl (by decide) rfl (by decide) rfl ?_
    refine q_aload_n rfl rfl ?_
    refine q_aload_n rfl rfl ?_
    refine q_iload_n rfl rfl ?_
    refine q_call rfl rfl rfl rfl ?_
    refine q_iload_n rfl rfl ?_
    refine q_if_lt_t (t := 18) rfl (by decide) (i_lt (a := (x1).toInt) (b := (0 : Int)) rfl (by decide +kernel) (by omega)) ?_
    refine q_iconstv (v := (0 : Int32)) rfl (by decide +kernel) ?_
    refine q_zret rfl rfl (by decide) ?_
    refine bk_inl ?_
    refine q_if_eq_t (t := 27) rfl (by decide) (i_eq (a := (0 : Int)) (b := (0 : Int)) (by decide +kernel) (by decide +kernel) (by omega)) ?_
    refine q_iconstv (v := (0 : Int32)) rfl (by decide +kernel) ?_
    refine q_iconstv (v := (1 : Int32)) rfl (by decide +kernel) ?_
    refine q_iconstv (v := (1 : Int32)) rfl (by decide +kernel) ?_
    refine q_call rfl rfl rfl rfl ?_
    refine q_iload_n rfl rfl ?_
    refine q_if_ne_f (t := 26) rfl (by decide) (i_nne (a := (0 : Int)) (b := (0 : Int)) (by decide +kernel) (by decide +kernel) (by omega)) ?_
    refine q_aload_n rfl rfl ?_
    refine q_get rfl rfl rfl rfl ?_
    refine q_if_ne_f (t := 26) rfl (by decide) (i_nne (a := (0 : Int)) (b := (0 : Int)) (by decide +kernel) (by decide +kernel) (by omega)) ?_
    refine q_aload_n rfl rfl ?_
    refine q_iload_n rfl rfl ?_
    refine q_putv (w9 := ((w1.set 0 (.inr (7, [.ref 1, .ref 3, .ref 7, .ref 9, .ref 10, .ref 11, .ref 12, .ref 13, .ref 25, .ref 37, .ref 39, .int 0, .int 0, .int 1]))).set 41 (.inr (8, [.int 1, .ref 42, .int 0, .int 0, .int 0, .int 0, .int 0, .int 0, .int (-1), .ref 43, .ref 44, .ref 45, .ref 46, .ref 47, .ref 48, .ref 49, .int 0, .int 0, .int 0, .int 5, .int 0, .int 0, .int 0, .int 5, .ref 50, .ref 51, .ref 52, .ref 53, .ref 54, .int 0, .int 0, .ref 55, .ref 56, .ref 57, .int 0, .int 0, .int 0, .int 0, .int 0, .int 0, .ref 58, .ref 59, .ref 60, .ref 61, .ref 62, .ref 63, .ref 64, .int 0, .int 0, .ref 65, .int 0, .ref 66, .int 0])))) rfl rfl rfl (by decide) rfl (by decide) rfl ?_
    refine q_aload_n rfl rfl ?_
    refine q_get rfl rfl rfl rfl ?_
    refine q_iload_n rfl rfl ?_
    refine q_dup2 rfl ⟨rfl, rfl⟩ ?_
    refine q_ialoadv (m := 1) rfl (by decide) (by decide) rfl (by decide +kernel) rfl ?_
    refine q_iconstv (v := (1 : Int32)) rfl (by decide +kernel) ?_
    refine q_iaddv (v := (1 : Int32)) rfl (by decide +kernel) ?_
    refine q_iastorev (m := 1) (w9 := (((w1.set 0 (.inr (7, [.ref 1, .ref 3, .ref 7, .ref 9, .ref 10, .ref 11, .ref 12, .ref 13, .ref 25, .ref 37, .ref 39, .int 0, .int 0, .int 1]))).set 41 (.inr (8, [.int 1, .ref 42, .int 0, .int 0, .int 0, .int 0, .int 0, .int 0, .int (-1), .ref 43, .ref 44, .ref 45, .ref 46, .ref 47, .ref 48, .ref 49, .int 0, .int 0, .int 0, .int 5, .int 0, .int 0, .int 0, .int 5, .ref 50, .ref 51, .ref 52, .ref 53, .ref 54, .int 0, .int 0, .ref 55, .ref 56, .ref 57, .int 0, .int 0, .int 0, .int 0, .int 0, .int 0, .ref 58, .ref 59, .ref 60, .ref 61, .ref 62, .ref 63, .ref 64, .int 0, .int 0, .ref 65, .int 0, .ref 66, .int 0]))).set 42 (.inl (0, .inl ([0, 1]))))) rfl (by decide) rfl (by decide +kernel) (by decide) rfl ?_
    refine q_aload_n rfl rfl ?_
    refine q_get rfl rfl rfl rfl ?_
    refine q_if_ne_t (t := 37) rfl (by decide) (i_ne (a := (1 : Int)) (b := (0 : Int)) (by decide +kernel) (by decide +kernel) (by omega)) ?_
    refine q_iconstv (v := (0 : Int32)) rfl (by decide +kernel) ?_
    refine q_zret rfl rfl (by decide) ?_
    refine bk_inl ?_
    refine q_if_ne_f (t := 38) rfl (by decide) (i_nne (a := (0 : Int)) (b := (0 : Int)) (by decide +kernel) (by decide +kernel) (by omega)) ?_
    refine q_iconstv (v := (0 : Int32)) rfl (by decide +kernel) ?_
    refine q_iret rfl rfl ?_
    refine bk_inl ?_
    refine q_istore rfl (by decide) ?_
    refine q_aload_n rfl rfl ?_
    refine q_call rfl rfl rfl rfl ?_
    refine q_aload_n rfl rfl ?_
    refine q_get rfl rfl rfl rfl ?_
    refine q_iret rfl rfl ?_
    refine bk_inl ?_
    refine q_iload rfl rfl ?_
    refine q_ic_eq_t (t := 1411) rfl (by decide) (i_eq (a := (1 : Int)) (b := (1 : Int)) (by decide +kernel) (by decide +kernel) (by omega)) ?_
    refine q_iload rfl rfl ?_
    refine q_if_ne_t (t := 1428) rfl (by decide) (i_ne (a := (1 : Int)) (b := (0 : Int)) (by decide +kernel) (by decide +kernel) (by omega)) ?_
    refine q_goto (t := 2739) rfl (by decide) ?_
    refine q_iincv (v := (8 : Int32)) rfl rfl (by decide) (by decide +kernel) ?_
    refine q_goto (t := 23) rfl (by decide) ?_
    exact q_end rfl rfl (by decide) (by decide)
  · refine q_ic_lt_f (t := 14) rfl (by decide) (i_nlt (a := (x1).toInt) (b := (0 : Int)) rfl (by decide +kernel) (by omega)) ?_
    refine q_iload_n rfl rfl ?_
    refine q_iload_n rfl rfl ?_
    by_cases h2 : (x1).toInt > 0
    · refine q_ic_gt_t (t := 14) rfl (by decide) (i_lt_r (a := (x1).toInt) (b := (0 : Int)) rfl (by decide +kernel) (by omega)) ?_
      refine q_iconstv (v := (0 : Int32)) rfl (by decide +kernel) ?_
      refine q_zret rfl rfl (by decide) ?_
      refine bk_inl ?_
      refine q_zret rfl rfl (by decide) ?_
      refine bk_inl ?_
      refine q_if_eq_t (t := 22) rfl (by decide) (i_eq (a := (0 : Int)) (b := (0 : Int)) (by decide +kernel) (by decide +kernel) (by omega)) ?_
      refine q_iconstv (v := (0 : Int32)) rfl (by decide +kernel) ?_
      refine q_call rfl rfl rfl rfl ?_
      refine q_iload_n rfl rfl ?_
      refine q_if_ne_f (t := 25) rfl (by decide) (i_nne (a := (0 : Int)) (b := (0 : Int)) (by decide +kernel) (by decide +kernel) (by omega)) ?_
      refine q_aload_n rfl rfl ?_
      refine q_dup rfl rfl ?_
      refine q_get rfl rfl rfl rfl ?_
      refine q_iconstv (v := (1 : Int32)) rfl (by decide +kernel) ?_
      refine q_iaddv (v := (1 : Int32)) rfl (by decide +kernel) ?_
      refine q_putv (w9 := (w1.set 0 (.inr (7, [.ref 1, .ref 3, .ref 7, .ref 9, .ref 10, .ref 11, .ref 12, .ref 13, .ref 25, .ref 37, .ref 39, .int 0, .int 0, .int 1])))) rfl rfl rfl (by decide) rfl (by decide) rfl ?_
      refine q_fin rfl rfl rfl ?_
      refine bk_out rfl rfl ?_
      refine bk_thr (z := (1 : Int32)) rfl ⟨_, _, rfl⟩ rfl ?_
      refine bk_inl ?_
      refine q_istore rfl (by decide) ?_
      refine q_aload_n rfl rfl ?_
      refine q_aload_n rfl rfl ?_
      refine q_iload rfl rfl ?_
      refine q_iconstv (v := (1 : Int32)) rfl (by decide +kernel) ?_
      refine q_iaddv (v := (1 : Int32)) rfl (by decide +kernel) ?_
      refine q_script rfl (by decide) rfl ?_
      refine q_aload_n rfl rfl ?_
      refine q_iload rfl rfl ?_
      refine q_iconstv (v := (2 : Int32)) rfl (by decide +kernel) ?_
      refine q_iaddv (v := (2 : Int32)) rfl (by decide +kernel) ?_
      refine q_script rfl (by decide) rfl ?_
      refine q_call rfl rfl rfl rfl ?_
      refine q_aload_n rfl rfl ?_
      refine q_iconstv (v := (0 : Int32)) rfl (by decide +kernel) ?_
      refine q_putv (w9 := (w1.set 0 (.inr (7, [.ref 1, .ref 3, .ref 7, .ref 9, .ref 10, .ref 11, .ref 12, .ref 13, .ref 25, .ref 37, .ref 39, .int 0, .int 0, .int 1])))) rfl rfl rfl (by decide) rfl (by decide) rfl ?_
      refine q_aload_n rfl rfl ?_
      refine q_aload_n rfl rfl ?_
      refine q_iload_n rfl rfl ?_
      refine q_call rfl rfl rfl rfl ?_
      refine q_iload_n rfl rfl ?_
      refine q_if_lt_f (t := 18) rfl (by decide) (i_nlt (a := (x1).toInt) (b := (0 : Int)) rfl (by decide +kernel) (by omega)) ?_
      refine q_iload_n rfl rfl ?_
      refine q_iconstv (v := (1 : Int32)) rfl (by decide +kernel) ?_
      refine q_aload_n rfl rfl ?_
      refine q_get rfl rfl rfl rfl ?_
      refine q_ishlv (v := (1 : Int32)) rfl (by decide +kernel) ?_
      refine q_ic_ge_t (t := 18) rfl (by decide) (i_le_r (a := (x1).toInt) (b := (1 : Int)) rfl (by decide +kernel) (by omega)) ?_
      refine q_iconstv (v := (0 : Int32)) rfl (by decide +kernel) ?_
      refine q_zret rfl rfl (by decide) ?_
      refine bk_inl ?_
      refine q_if_eq_t (t := 27) rfl (by decide) (i_eq (a := (0 : Int)) (b := (0 : Int)) (by decide +kernel) (by decide +kernel) (by omega)) ?_
      refine q_iconstv (v := (0 : Int32)) rfl (by decide +kernel) ?_
      refine q_iconstv (v := (1 : Int32)) rfl (by decide +kernel) ?_
      refine q_iconstv (v := (1 : Int32)) rfl (by decide +kernel) ?_
      refine q_call rfl rfl rfl rfl ?_
      refine q_iload_n rfl rfl ?_
      refine q_if_ne_f (t := 26) rfl (by decide) (i_nne (a := (0 : Int)) (b := (0 : Int)) (by decide +kernel) (by decide +kernel) (by omega)) ?_
      refine q_aload_n rfl rfl ?_
      refine q_get rfl rfl rfl rfl ?_
      refine q_if_ne_f (t := 26) rfl (by decide) (i_nne (a := (0 : Int)) (b := (0 : Int)) (by decide +kernel) (by decide +kernel) (by omega)) ?_
      refine q_aload_n rfl rfl ?_
      refine q_iload_n rfl rfl ?_
      refine q_putv (w9 := ((w1.set 0 (.inr (7, [.ref 1, .ref 3, .ref 7, .ref 9, .ref 10, .ref 11, .ref 12, .ref 13, .ref 25, .ref 37, .ref 39, .int 0, .int 0, .int 1]))).set 41 (.inr (8, [.int 1, .ref 42, .int 0, .int 0, .int 0, .int 0, .int 0, .int 0, .int (-1), .ref 43, .ref 44, .ref 45, .ref 46, .ref 47, .ref 48, .ref 49, .int 0, .int 0, .int 0, .int 5, .int 0, .int 0, .int 0, .int 5, .ref 50, .ref 51, .ref 52, .ref 53, .ref 54, .int 0, .int 0, .ref 55, .ref 56, .ref 57, .int 0, .int 0, .int 0, .int 0, .int 0, .int 0, .ref 58, .ref 59, .ref 60, .ref 61, .ref 62, .ref 63, .ref 64, .int 0, .int 0, .ref 65, .int 0, .ref 66, .int 0])))) rfl rfl rfl (by decide) rfl (by decide) rfl ?_
      refine q_aload_n rfl rfl ?_
      refine q_get rfl rfl rfl rfl ?_
      refine q_iload_n rfl rfl ?_
      refine q_dup2 rfl ⟨rfl, rfl⟩ ?_
      refine q_ialoadv (m := 1) rfl (by decide) (by decide) rfl (by decide +kernel) rfl ?_
      refine q_iconstv (v := (1 : Int32)) rfl (by decide +kernel) ?_
      refine q_iaddv (v := (1 : Int32)) rfl (by decide +kernel) ?_
      refine q_iastorev (m := 1) (w9 := (((w1.set 0 (.inr (7, [.ref 1, .ref 3, .ref 7, .ref 9, .ref 10, .ref 11, .ref 12, .ref 13, .ref 25, .ref 37, .ref 39, .int 0, .int 0, .int 1]))).set 41 (.inr (8, [.int 1, .ref 42, .int 0, .int 0, .int 0, .int 0, .int 0, .int 0, .int (-1), .ref 43, .ref 44, .ref 45, .ref 46, .ref 47, .ref 48, .ref 49, .int 0, .int 0, .int 0, .int 5, .int 0, .int 0, .int 0, .int 5, .ref 50, .ref 51, .ref 52, .ref 53, .ref 54, .int 0, .int 0, .ref 55, .ref 56, .ref 57, .int 0, .int 0, .int 0, .int 0, .int 0, .int 0, .ref 58, .ref 59, .ref 60, .ref 61, .ref 62, .ref 63, .ref 64, .int 0, .int 0, .ref 65, .int 0, .ref 66, .int 0]))).set 42 (.inl (0, .inl ([0, 1]))))) rfl (by decide) rfl (by decide +kernel) (by decide) rfl ?_
      refine q_aload_n rfl rfl ?_
      refine q_get rfl rfl rfl rfl ?_
      refine q_if_ne_t (t := 37) rfl (by decide) (i_ne (a := (1 : Int)) (b := (0 : Int)) (by decide +kernel) (by decide +kernel) (by omega)) ?_
      refine q_iconstv (v := (0 : Int32)) rfl (by decide +kernel) ?_
      refine q_zret rfl rfl (by decide) ?_
      refine bk_inl ?_
      refine q_if_ne_f (t := 38) rfl (by decide) (i_nne (a := (0 : Int)) (b := (0 : Int)) (by decide +kernel) (by decide +kernel) (by omega)) ?_
      refine q_iconstv (v := (0 : Int32)) rfl (by decide +kernel) ?_
      refine q_iret rfl rfl ?_
      refine bk_inl ?_
      refine q_istore rfl (by decide) ?_
      refine q_aload_n rfl rfl ?_
      refine q_call rfl rfl rfl rfl ?_
      refine q_aload_n rfl rfl ?_
      refine q_get rfl rfl rfl rfl ?_
      refine q_iret rfl rfl ?_
      refine bk_inl ?_
      refine q_iload rfl rfl ?_
      refine q_ic_eq_t (t := 1411) rfl (by decide) (i_eq (a := (1 : Int)) (b := (1 : Int)) (by decide +kernel) (by decide +kernel) (by omega)) ?_
      refine q_iload rfl rfl ?_
      refine q_if_ne_t (t := 1428) rfl (by decide) (i_ne (a := (1 : Int)) (b := (0 : Int)) (by decide +kernel) (by decide +kernel) (by omega)) ?_
      refine q_goto (t := 2739) rfl (by decide) ?_
      refine q_iincv (v := (8 : Int32)) rfl rfl (by decide) (by decide +kernel) ?_
      refine q_goto (t := 23) rfl (by decide) ?_
      exact q_end rfl rfl (by decide) (by decide)
    · refine q_ic_gt_f (t := 14) rfl (by decide) (i_nlt_r (a := (x1).toInt) (b := (0 : Int)) rfl (by decide +kernel) (by omega)) ?_
      obtain rfl : x1 = (0 : Int32) := i_eq (a := (x1).toInt) (b := 0) rfl (by decide +kernel) (by omega)
      refine q_iconstv (v := (1 : Int32)) rfl (by decide +kernel) ?_
      refine q_goto (t := 15) rfl (by decide) ?_
      refine q_zret rfl rfl (by decide) ?_
      refine bk_inl ?_
      refine q_zret rfl rfl (by decide) ?_
      refine bk_inl ?_
      refine q_if_eq_f (t := 22) rfl (by decide) (i_ne (a := (1 : Int)) (b := (0 : Int)) (by decide +kernel) (by decide +kernel) (by omega)) ?_
      refine q_iload_n rfl rfl ?_
      refine q_iconstv (v := (0 : Int32)) rfl (by decide +kernel) ?_
      refine q_iconstv (v := (1 : Int32)) rfl (by decide +kernel) ?_
      refine q_call rfl rfl rfl rfl ?_
      refine q_iload_n rfl rfl ?_
      refine q_iload_n rfl rfl ?_
      by_cases h3 : (x2).toInt < 0
      · refine q_ic_lt_t (t := 14) rfl (by decide) (i_lt (a := (x2).toInt) (b := (0 : Int)) rfl (by decide +kernel) (by omega)) ?_
        refine q_iconstv (v := (0 : Int32)) rfl (by decide +kernel) ?_
        refine q_zret rfl rfl (by decide) ?_
        refine bk_inl ?_
        refine q_if_eq_t (t := 22) rfl (by decide) (i_eq (a := (0 : Int)) (b := (0 : Int)) (by decide +kernel) (by decide +kernel) (by omega)) ?_
        refine q_iconstv (v := (0 : Int32)) rfl (by decide +kernel) ?_
        refine q_call rfl rfl rfl rfl ?_
        refine q_iload_n rfl rfl ?_
        refine q_if_ne_f (t := 25) rfl (by decide) (i_nne (a := (0 : Int)) (b := (0 : Int)) (by decide +kernel) (by decide +kernel) (by omega)) ?_
        refine q_aload_n rfl rfl ?_
        refine q_dup rfl rfl ?_
        refine q_get rfl rfl rfl rfl ?_
        refine q_iconstv (v := (1 : Int32)) rfl (by decide +kernel) ?_
        refine q_iaddv (v := (1 : Int32)) rfl (by decide +kernel) ?_
        refine q_putv (w9 := (w1.set 0 (.inr (7, [.ref 1, .ref 3, .ref 7, .ref 9, .ref 10, .ref 11, .ref 12, .ref 13, .ref 25, .ref 37, .ref 39, .int 0, .int 0, .int 1])))) rfl rfl rfl (by decide) rfl (by decide) rfl ?_
        refine q_fin rfl rfl rfl ?_
        refine bk_out rfl rfl ?_
        refine bk_thr (z := (1 : Int32)) rfl ⟨_, _, rfl⟩ rfl ?_
        refine bk_inl ?_
        refine q_istore rfl (by decide) ?_
        refine q_aload_n rfl rfl ?_
        refine q_aload_n rfl rfl ?_
        refine q_iload rfl rfl ?_
        refine q_iconstv (v := (1 : Int32)) rfl (by decide +kernel) ?_
        refine q_iaddv (v := (1 : Int32)) rfl (by decide +kernel) ?_
        refine q_script rfl (by decide) rfl ?_
        refine q_aload_n rfl rfl ?_
        refine q_iload rfl rfl ?_
        refine q_iconstv (v := (2 : Int32)) rfl (by decide +kernel) ?_
        refine q_iaddv (v := (2 : Int32)) rfl (by decide +kernel) ?_
        refine q_script rfl (by decide) rfl ?_
        refine q_call rfl rfl rfl rfl ?_
        refine q_aload_n rfl rfl ?_
        refine q_iconstv (v := (0 : Int32)) rfl (by decide +kernel) ?_
        refine q_putv (w9 := (w1.set 0 (.inr (7, [.ref 1, .ref 3, .ref 7, .ref 9, .ref 10, .ref 11, .ref 12, .ref 13, .ref 25, .ref 37, .ref 39, .int 0, .int 0, .int 1])))) rfl rfl rfl (by decide) rfl (by decide) rfl ?_
        refine q_aload_n rfl rfl ?_
        refine q_aload_n rfl rfl ?_
        refine q_iload_n rfl rfl ?_
        refine q_call rfl rfl rfl rfl ?_
        refine q_iload_n rfl rfl ?_
        refine q_if_lt_f (t := 18) rfl (by decide) (i_nlt (a := (0 : Int)) (b := (0 : Int)) (by decide +kernel) (by decide +kernel) (by omega)) ?_
        refine q_iload_n rfl rfl ?_
        refine q_iconstv (v := (1 : Int32)) rfl (by decide +kernel) ?_
        refine q_aload_n rfl rfl ?_
        refine q_get rfl rfl rfl rfl ?_
        refine q_ishlv (v := (1 : Int32)) rfl (by decide +kernel) ?_
        refine q_ic_ge_f (t := 18) rfl (by decide) (i_nle_r (a := (0 : Int)) (b := (1 : Int)) (by decide +kernel) (by decide +kernel) (by omega)) ?_
        refine q_iconstv (v := (1 : Int32)) rfl (by decide +kernel) ?_
        refine q_goto (t := 19) rfl (by decide) ?_
        refine q_zret rfl rfl (by decide) ?_
        refine bk_inl ?_
        refine q_if_eq_f (t := 27) rfl (by decide) (i_ne (a := (1 : Int)) (b := (0 : Int)) (by decide +kernel) (by decide +kernel) (by omega)) ?_
        refine q_iload_n rfl rfl ?_
        refine q_iconstv (v := (0 : Int32)) rfl (by decide +kernel) ?_
        refine q_iconstv (v := (1 : Int32)) rfl (by decide +kernel) ?_
        refine q_call rfl rfl rfl rfl ?_
        refine q_iload_n rfl rfl ?_
        refine q_iload_n rfl rfl ?_
        refine q_ic_lt_t (t := 14) rfl (by decide) (i_lt (a := (x2).toInt) (b := (0 : Int)) rfl (by decide +kernel) (by omega)) ?_
        refine q_iconstv (v := (0 : Int32)) rfl (by decide +kernel) ?_
        refine q_zret rfl rfl (by decide) ?_
        refine bk_inl ?_
        refine q_if_eq_t (t := 27) rfl (by decide) (i_eq (a := (0 : Int)) (b := (0 : Int)) (by decide +kernel) (by decide +kernel) (by omega)) ?_
        refine q_iconstv (v := (0 : Int32)) rfl (by decide +kernel) ?_
        refine q_iconstv (v := (1 : Int32)) rfl (by decide +kernel) ?_
        refine q_iconstv (v := (1 : Int32)) rfl (by decide +kernel) ?_
        refine q_call rfl rfl rfl rfl ?_
        refine q_iload_n rfl rfl ?_
        refine q_if_ne_f (t := 26) rfl (by decide) (i_nne (a := (0 : Int)) (b := (0 : Int)) (by decide +kernel) (by decide +kernel) (by omega)) ?_
        refine q_aload_n rfl rfl ?_
        refine q_get rfl rfl rfl rfl ?_
        refine q_if_ne_f (t := 26) rfl (by decide) (i_nne (a := (0 : Int)) (b := (0 : Int)) (by decide +kernel) (by decide +kernel) (by omega)) ?_
        refine q_aload_n rfl rfl ?_
        refine q_iload_n rfl rfl ?_
        refine q_putv (w9 := ((w1.set 0 (.inr (7, [.ref 1, .ref 3, .ref 7, .ref 9, .ref 10, .ref 11, .ref 12, .ref 13, .ref 25, .ref 37, .ref 39, .int 0, .int 0, .int 1]))).set 41 (.inr (8, [.int 1, .ref 42, .int 0, .int 0, .int 0, .int 0, .int 0, .int 0, .int (-1), .ref 43, .ref 44, .ref 45, .ref 46, .ref 47, .ref 48, .ref 49, .int 0, .int 0, .int 0, .int 5, .int 0, .int 0, .int 0, .int 5, .ref 50, .ref 51, .ref 52, .ref 53, .ref 54, .int 0, .int 0, .ref 55, .ref 56, .ref 57, .int 0, .int 0, .int 0, .int 0, .int 0, .int 0, .ref 58, .ref 59, .ref 60, .ref 61, .ref 62, .ref 63, .ref 64, .int 0, .int 0, .ref 65, .int 0, .ref 66, .int 0])))) rfl rfl rfl (by decide) rfl (by decide) rfl ?_
        refine q_aload_n rfl rfl ?_
        refine q_get rfl rfl rfl rfl ?_
        refine q_iload_n rfl rfl ?_
        refine q_dup2 rfl ⟨rfl, rfl⟩ ?_
        refine q_ialoadv (m := 1) rfl (by decide) (by decide) rfl (by decide +kernel) rfl ?_
        refine q_iconstv (v := (1 : Int32)) rfl (by decide +kernel) ?_
        refine q_iaddv (v := (1 : Int32)) rfl (by decide +kernel) ?_
        refine q_iastorev (m := 1) (w9 := (((w1.set 0 (.inr (7, [.ref 1, .ref 3, .ref 7, .ref 9, .ref 10, .ref 11, .ref 12, .ref 13, .ref 25, .ref 37, .ref 39, .int 0, .int 0, .int 1]))).set 41 (.inr (8, [.int 1, .ref 42, .int 0, .int 0, .int 0, .int 0, .int 0, .int 0, .int (-1), .ref 43, .ref 44, .ref 45, .ref 46, .ref 47, .ref 48, .ref 49, .int 0, .int 0, .int 0, .int 5, .int 0, .int 0, .int 0, .int 5, .ref 50, .ref 51, .ref 52, .ref 53, .ref 54, .int 0, .int 0, .ref 55, .ref 56, .ref 57, .int 0, .int 0, .int 0, .int 0, .int 0, .int 0, .ref 58, .ref 59, .ref 60, .ref 61, .ref 62, .ref 63, .ref 64, .int 0, .int 0, .ref 65, .int 0, .ref 66, .int 0]))).set 42 (.inl (0, .inl ([0, 1]))))) rfl (by decide) rfl (by decide +kernel) (by decide) rfl ?_
        refine q_aload_n rfl rfl ?_
        refine q_get rfl rfl rfl rfl ?_
        refine q_if_ne_t (t := 37) rfl (by decide) (i_ne (a := (1 : Int)) (b := (0 : Int)) (by decide +kernel) (by decide +kernel) (by omega)) ?_
        refine q_iconstv (v := (0 : Int32)) rfl (by decide +kernel) ?_
        refine q_zret rfl rfl (by decide) ?_
        refine bk_inl ?_
        refine q_if_ne_f (t := 38) rfl (by decide) (i_nne (a := (0 : Int)) (b := (0 : Int)) (by decide +kernel) (by decide +kernel) (by omega)) ?_
        refine q_iconstv (v := (0 : Int32)) rfl (by decide +kernel) ?_
        refine q_iret rfl rfl ?_
        refine bk_inl ?_
        refine q_istore rfl (by decide) ?_
        refine q_aload_n rfl rfl ?_
        refine q_call rfl rfl rfl rfl ?_
        refine q_aload_n rfl rfl ?_
        refine q_get rfl rfl rfl rfl ?_
        refine q_iret rfl rfl ?_
        refine bk_inl ?_
        refine q_iload rfl rfl ?_
        refine q_ic_eq_t (t := 1411) rfl (by decide) (i_eq (a := (1 : Int)) (b := (1 : Int)) (by decide +kernel) (by decide +kernel) (by omega)) ?_
        refine q_iload rfl rfl ?_
        refine q_if_ne_t (t := 1428) rfl (by decide) (i_ne (a := (1 : Int)) (b := (0 : Int)) (by decide +kernel) (by decide +kernel) (by omega)) ?_
        refine q_goto (t := 2739) rfl (by decide) ?_
        refine q_iincv (v := (8 : Int32)) rfl rfl (by decide) (by decide +kernel) ?_
        refine q_goto (t := 23) rfl (by decide) ?_
        exact q_end rfl rfl (by decide) (by decide)
      · refine q_ic_lt_f (t := 14) rfl (by decide) (i_nlt (a := (x2).toInt) (b := (0 : Int)) rfl (by decide +kernel) (by omega)) ?_
        refine q_iload_n rfl rfl ?_
        refine q_iload_n rfl rfl ?_
        by_cases h4 : (x2).toInt > 1
        · refine q_ic_gt_t (t := 14) rfl (by decide) (i_lt_r (a := (x2).toInt) (b := (1 : Int)) rfl (by decide +kernel) (by omega)) ?_
          refine q_iconstv (v := (0 : Int32)) rfl (by decide +kernel) ?_
          refine q_zret rfl rfl (by decide) ?_
          refine bk_inl ?_
          refine q_if_eq_t (t := 22) rfl (by decide) (i_eq (a := (0 : Int)) (b := (0 : Int)) (by decide +kernel) (by decide +kernel) (by omega)) ?_
          refine q_iconstv (v := (0 : Int32)) rfl (by decide +kernel) ?_
          refine q_call rfl rfl rfl rfl ?_
          refine q_iload_n rfl rfl ?_
          refine q_if_ne_f (t := 25) rfl (by decide) (i_nne (a := (0 : Int)) (b := (0 : Int)) (by decide +kernel) (by decide +kernel) (by omega)) ?_
          refine q_aload_n rfl rfl ?_
          refine q_dup rfl rfl ?_
          refine q_get rfl rfl rfl rfl ?_
          refine q_iconstv (v := (1 : Int32)) rfl (by decide +kernel) ?_
          refine q_iaddv (v := (1 : Int32)) rfl (by decide +kernel) ?_
          refine q_putv (w9 := (w1.set 0 (.inr (7, [.ref 1, .ref 3, .ref 7, .ref 9, .ref 10, .ref 11, .ref 12, .ref 13, .ref 25, .ref 37, .ref 39, .int 0, .int 0, .int 1])))) rfl rfl rfl (by decide) rfl (by decide) rfl ?_
          refine q_fin rfl rfl rfl ?_
          refine bk_out rfl rfl ?_
          refine bk_thr (z := (1 : Int32)) rfl ⟨_, _, rfl⟩ rfl ?_
          refine bk_inl ?_
          refine q_istore rfl (by decide) ?_
          refine q_aload_n rfl rfl ?_
          refine q_aload_n rfl rfl ?_
          refine q_iload rfl rfl ?_
          refine q_iconstv (v := (1 : Int32)) rfl (by decide +kernel) ?_
          refine q_iaddv (v := (1 : Int32)) rfl (by decide +kernel) ?_
          refine q_script rfl (by decide) rfl ?_
          refine q_aload_n rfl rfl ?_
          refine q_iload rfl rfl ?_
          refine q_iconstv (v := (2 : Int32)) rfl (by decide +kernel) ?_
          refine q_iaddv (v := (2 : Int32)) rfl (by decide +kernel) ?_
          refine q_script rfl (by decide) rfl ?_
          refine q_call rfl rfl rfl rfl ?_
          refine q_aload_n rfl rfl ?_
          refine q_iconstv (v := (0 : Int32)) rfl (by decide +kernel) ?_
          refine q_putv (w9 := (w1.set 0 (.inr (7, [.ref 1, .ref 3, .ref 7, .ref 9, .ref 10, .ref 11, .ref 12, .ref 13, .ref 25, .ref 37, .ref 39, .int 0, .int 0, .int 1])))) rfl rfl rfl (by decide) rfl (by decide) rfl ?_
          refine q_aload_n rfl rfl ?_
          refine q_aload_n rfl rfl ?_
          refine q_iload_n rfl rfl ?_
          refine q_call rfl rfl rfl rfl ?_
          refine q_iload_n rfl rfl ?_
          refine q_if_lt_f (t := 18) rfl (by decide) (i_nlt (a := (0 : Int)) (b := (0 : Int)) (by decide +kernel) (by decide +kernel) (by omega)) ?_
          refine q_iload_n rfl rfl ?_
          refine q_iconstv (v := (1 : Int32)) rfl (by decide +kernel) ?_
          refine q_aload_n rfl rfl ?_
          refine q_get rfl rfl rfl rfl ?_
          refine q_ishlv (v := (1 : Int32)) rfl (by decide +kernel) ?_
          refine q_ic_ge_f (t := 18) rfl (by decide) (i_nle_r (a := (0 : Int)) (b := (1 : Int)) (by decide +kernel) (by decide +kernel) (by omega)) ?_
          refine q_iconstv (v := (1 : Int32)) rfl (by decide +kernel) ?_
          refine q_goto (t := 19) rfl (by decide) ?_
          refine q_zret rfl rfl (by decide) ?_
          refine bk_inl ?_
          refine q_if_eq_f (t := 27) rfl (by decide) (i_ne (a := (1 : Int)) (b := (0 : Int)) (by decide +kernel) (by decide +kernel) (by omega)) ?_
          refine q_iload_n rfl rfl ?_
          refine q_iconstv (v := (0 : Int32)) rfl (by decide +kernel) ?_
          refine q_iconstv (v := (1 : Int32)) rfl (by decide +kernel) ?_
          refine q_call rfl rfl rfl rfl ?_
          refine q_iload_n rfl rfl ?_
          refine q_iload_n rfl rfl ?_
          refine q_ic_lt_f (t := 14) rfl (by decide) (i_nlt (a := (x2).toInt) (b := (0 : Int)) rfl (by decide +kernel) (by omega)) ?_
          refine q_iload_n rfl rfl ?_
          refine q_iload_n rfl rfl ?_
          refine q_ic_gt_t (t := 14) rfl (by decide) (i_lt_r (a := (x2).toInt) (b := (1 : Int)) rfl (by decide +kernel) (by omega)) ?_
          refine q_iconstv (v := (0 : Int32)) rfl (by decide +kernel) ?_
          refine q_zret rfl rfl (by decide) ?_
          refine bk_inl ?_
          refine q_if_eq_t (t := 27) rfl (by decide) (i_eq (a := (0 : Int)) (b := (0 : Int)) (by decide +kernel) (by decide +kernel) (by omega)) ?_
          refine q_iconstv (v := (0 : Int32)) rfl (by decide +kernel) ?_
          refine q_iconstv (v := (1 : Int32)) rfl (by decide +kernel) ?_
          refine q_iconstv (v := (1 : Int32)) rfl (by decide +kernel) ?_
          refine q_call rfl rfl rfl rfl ?_
          refine q_iload_n rfl rfl ?_
          refine q_if_ne_f (t := 26) rfl (by decide) (i_nne (a := (0 : Int)) (b := (0 : Int)) (by decide +kernel) (by decide +kernel) (by omega)) ?_
          refine q_aload_n rfl rfl ?_
          refine q_get rfl rfl rfl rfl ?_
          refine q_if_ne_f (t := 26) rfl (by decide) (i_nne (a := (0 : Int)) (b := (0 : Int)) (by decide +kernel) (by decide +kernel) (by omega)) ?_
          refine q_aload_n rfl rfl ?_
          refine q_iload_n rfl rfl ?_
          refine q_putv (w9 := ((w1.set 0 (.inr (7, [.ref 1, .ref 3, .ref 7, .ref 9, .ref 10, .ref 11, .ref 12, .ref 13, .ref 25, .ref 37, .ref 39, .int 0, .int 0, .int 1]))).set 41 (.inr (8, [.int 1, .ref 42, .int 0, .int 0, .int 0, .int 0, .int 0, .int 0, .int (-1), .ref 43, .ref 44, .ref 45, .ref 46, .ref 47, .ref 48, .ref 49, .int 0, .int 0, .int 0, .int 5, .int 0, .int 0, .int 0, .int 5, .ref 50, .ref 51, .ref 52, .ref 53, .ref 54, .int 0, .int 0, .ref 55, .ref 56, .ref 57, .int 0, .int 0, .int 0, .int 0, .int 0, .int 0, .ref 58, .ref 59, .ref 60, .ref 61, .ref 62, .ref 63, .ref 64, .int 0, .int 0, .ref 65, .int 0, .ref 66, .int 0])))) rfl rfl rfl (by decide) rfl (by decide) rfl ?_
          refine q_aload_n rfl rfl ?_
          refine q_get rfl rfl rfl rfl ?_
          refine q_iload_n rfl rfl ?_
          refine q_dup2 rfl ⟨rfl, rfl⟩ ?_
          refine q_ialoadv (m := 1) rfl (by decide) (by decide) rfl (by decide +kernel) rfl ?_
          refine q_iconstv (v := (1 : Int32)) rfl (by decide +kernel) ?_
          refine q_iaddv (v := (1 : Int32)) rfl (by decide +kernel) ?_
          refine q_iastorev (m := 1) (w9 := (((w1.set 0 (.inr (7, [.ref 1, .ref 3, .ref 7, .ref 9, .ref 10, .ref 11, .ref 12, .ref 13, .ref 25, .ref 37, .ref 39, .int 0, .int 0, .int 1]))).set 41 (.inr (8, [.int 1, .ref 42, .int 0, .int 0, .int 0, .int 0, .int 0, .int 0, .int (-1), .ref 43, .ref 44, .ref 45, .ref 46, .ref 47, .ref 48, .ref 49, .int 0, .int 0, .int 0, .int 5, .int 0, .int 0, .int 0, .int 5, .ref 50, .ref 51, .ref 52, .ref 53, .ref 54, .int 0, .int 0, .ref 55, .ref 56, .ref 57, .int 0, .int 0, .int 0, .int 0, .int 0, .int 0, .ref 58, .ref 59, .ref 60, .ref 61, .ref 62, .ref 63, .ref 64, .int 0, .int 0, .ref 65, .int 0, .ref 66, .int 0]))).set 42 (.inl (0, .inl ([0, 1]))))) rfl (by decide) rfl (by decide +kernel) (by decide) rfl ?_
          refine q_aload_n rfl rfl ?_
          refine q_get rfl rfl rfl rfl ?_
          refine q_if_ne_t (t := 37) rfl (by decide) (i_ne (a := (1 : Int)) (b := (0 : Int)) (by decide +kernel) (by decide +kernel) (by omega)) ?_
          refine q_iconstv (v := (0 : Int32)) rfl (by decide +kernel) ?_
          refine q_zret rfl rfl (by decide) ?_
          refine bk_inl ?_
          refine q_if_ne_f (t := 38) rfl (by decide) (i_nne (a := (0 : Int)) (b := (0 : Int)) (by decide +kernel) (by decide +kernel) (by omega)) ?_
          refine q_iconstv (v := (0 : Int32)) rfl (by decide +kernel) ?_
          refine q_iret rfl rfl ?_
          refine bk_inl ?_
          refine q_istore rfl (by decide) ?_
          refine q_aload_n rfl rfl ?_
          refine q_call rfl rfl rfl rfl ?_
          refine q_aload_n rfl rfl ?_
          refine q_get rfl rfl rfl rfl ?_
          refine q_iret rfl rfl ?_
          refine bk_inl ?_
          refine q_iload rfl rfl ?_
          refine q_ic_eq_t (t := 1411) rfl (by decide) (i_eq (a := (1 : Int)) (b := (1 : Int)) (by decide +kernel) (by decide +kernel) (by omega)) ?_
          refine q_iload rfl rfl ?_
          refine q_if_ne_t (t := 1428) rfl (by decide) (i_ne (a := (1 : Int)) (b := (0 : Int)) (by decide +kernel) (by decide +kernel) (by omega)) ?_
          refine q_goto (t := 2739) rfl (by decide) ?_
          refine q_iincv (v := (8 : Int32)) rfl rfl (by decide) (by decide +kernel) ?_
          refine q_goto (t := 23) rfl (by decide) ?_
          exact q_end rfl rfl (by decide) (by decide)
        · refine q_ic_gt_f (t := 14) rfl (by decide) (i_nlt_r (a := (x2).toInt) (b := (1 : Int)) rfl (by decide +kernel) (by omega)) ?_
          refine q_iconstv (v := (1 : Int32)) rfl (by decide +kernel) ?_
          refine q_goto (t := 15) rfl (by decide) ?_
          refine q_zret rfl rfl (by decide) ?_
          refine bk_inl ?_
          refine q_if_eq_f (t := 22) rfl (by decide) (i_ne (a := (1 : Int)) (b := (0 : Int)) (by decide +kernel) (by decide +kernel) (by omega)) ?_
          refine q_iconstv (v := (1 : Int32)) rfl (by decide +kernel) ?_
          refine q_goto (t := 23) rfl (by decide) ?_
          refine q_call rfl rfl rfl rfl ?_
          refine q_iload_n rfl rfl ?_
          refine q_if_ne_t (t := 25) rfl (by decide) (i_ne (a := (1 : Int)) (b := (0 : Int)) (by decide +kernel) (by decide +kernel) (by omega)) ?_
          refine q_vret rfl rfl ?_
          refine bk_inl ?_
          refine q_iload_n rfl rfl ?_
          refine q_iload_n rfl rfl ?_
          refine q_inegv (v := (0 : Int32)) rfl (by decide +kernel) ?_
          refine q_iandv (v := (0 : Int32)) rfl (by decide +kernel) ?_
          refine q_istore_n rfl (by decide) ?_
          refine q_aload_n rfl rfl ?_
          refine q_iload_n rfl rfl ?_
          refine q_call rfl rfl rfl rfl ?_
          refine q_iconstv (v := (0 : Int32)) rfl (by decide +kernel) ?_
          refine q_istore_n rfl (by decide) ?_
          refine q_iconstv (v := (0 : Int32)) rfl (by decide +kernel) ?_
          refine q_istore_n rfl (by decide) ?_
          refine q_iload_n rfl rfl ?_
          refine q_aload_n rfl rfl ?_
          refine q_get rfl rfl rfl rfl ?_
          refine q_get rfl rfl rfl rfl ?_
          refine q_ic_ge_t (t := 41) rfl (by decide) (i_le_r (a := (0 : Int)) (b := (0 : Int)) (by decide +kernel) (by decide +kernel) (by omega)) ?_
          refine q_iload_n rfl rfl ?_
          refine q_iret rfl rfl ?_
          refine bk_inl ?_
          refine q_istore rfl (by decide) ?_
          refine q_iload rfl rfl ?_
          refine q_istore rfl (by decide) ?_
          refine q_iload_n rfl rfl ?_
          refine q_istore rfl (by decide) ?_
          refine q_iconstv (v := (0 : Int32)) rfl (by decide +kernel) ?_
          refine q_istore rfl (by decide) ?_
          refine q_iload rfl rfl ?_
          refine q_iload_n rfl rfl ?_
          refine q_ic_gt_f (t := 122) rfl (by decide) (i_nlt_r (a := (0 : Int)) (b := (0 : Int)) (by decide +kernel) (by decide +kernel) (by omega)) ?_
          refine q_iload rfl rfl ?_
          refine q_iload_n rfl rfl ?_
          refine q_iconstv (v := (-1 : Int32)) rfl (by decide +kernel) ?_
          refine q_ixorv (v := (-1 : Int32)) rfl (by decide +kernel) ?_
          refine q_iandv (v := (0 : Int32)) rfl (by decide +kernel) ?_
          refine q_if_ne_f (t := 116) rfl (by decide) (i_nne (a := (0 : Int)) (b := (0 : Int)) (by decide +kernel) (by decide +kernel) (by omega)) ?_
          refine q_iload rfl rfl ?_
          refine q_iload_n rfl rfl ?_
          refine q_iandv (v := (0 : Int32)) rfl (by decide +kernel) ?_
          refine q_iload_n rfl rfl ?_
          refine q_ic_ne_f (t := 116) rfl (by decide) (i_nne (a := (0 : Int)) (b := (0 : Int)) (by decide +kernel) (by decide +kernel) (by omega)) ?_
          refine q_iload rfl rfl ?_
          refine q_iconstv (v := (2 : Int32)) rfl (by decide +kernel) ?_
          refine q_aload_n rfl rfl ?_
          refine q_iload rfl rfl ?_
          refine q_call rfl rfl rfl rfl ?_
          refine q_iconstv (v := (0 : Int32)) rfl (by decide +kernel) ?_
          refine q_istore_n rfl (by decide) ?_
          refine q_iconstv (v := (0 : Int32)) rfl (by decide +kernel) ?_
          refine q_istore_n rfl (by decide) ?_
          refine q_iload_n rfl rfl ?_
          refine q_aload_n rfl rfl ?_
          refine q_get rfl rfl rfl rfl ?_
          refine q_get rfl rfl rfl rfl ?_
          refine q_ic_ge_t (t := 41) rfl (by decide) (i_le_r (a := (0 : Int)) (b := (0 : Int)) (by decide +kernel) (by decide +kernel) (by omega)) ?_
          refine q_iload_n rfl rfl ?_
          refine q_iret rfl rfl ?_
          refine bk_inl ?_
          refine q_imulv (v := (0 : Int32)) rfl (by decide +kernel) ?_
          refine q_isubv (v := (0 : Int32)) rfl (by decide +kernel) ?_
          refine q_mabs (z := (0 : Int32)) rfl rfl ⟨by decide, Nat.le_of_ble_eq_true rfl⟩ (by decide +kernel) ?_
          refine q_istore rfl (by decide) ?_
          refine q_iload rfl rfl ?_
          refine q_iload rfl rfl ?_
          refine q_ic_lt_f (t := 108) rfl (by decide) (i_nlt (a := (0 : Int)) (b := (0 : Int)) (by decide +kernel) (by decide +kernel) (by omega)) ?_
          refine q_iload rfl rfl ?_
          refine q_iload rfl rfl ?_
          refine q_ic_ne_f (t := 116) rfl (by decide) (i_nne (a := (0 : Int)) (b := (0 : Int)) (by decide +kernel) (by decide +kernel) (by omega)) ?_
          refine q_iload rfl rfl ?_
          refine q_iload rfl rfl ?_
          refine q_ic_ge_t (t := 116) rfl (by decide) (i_le_r (a := (0 : Int)) (b := (0 : Int)) (by decide +kernel) (by decide +kernel) (by omega)) ?_
          refine q_iincv (v := (1 : Int32)) rfl rfl (by decide) (by decide +kernel) ?_
          refine q_goto (t := 48) rfl (by decide) ?_
          refine q_iload rfl rfl ?_
          refine q_iload_n rfl rfl ?_
          refine q_ic_gt_t (t := 122) rfl (by decide) (i_lt_r (a := (1 : Int)) (b := (0 : Int)) (by decide +kernel) (by decide +kernel) (by omega)) ?_
          refine q_iload_n rfl rfl ?_
          by_cases h5 : (x2).toInt ≠ 0
          · refine q_if_ne_t (t := 131) rfl (by decide) (i_ne (a := (x2).toInt) (b := (0 : Int)) rfl (by decide +kernel) (by omega)) ?_
            obtain rfl : x2 = (1 : Int32) := i_eq (a := (x2).toInt) (b := 1) rfl (by decide +kernel) (by omega)
            refine q_iload rfl rfl ?_
            refine q_iret rfl rfl ?_
            refine bk_inl ?_
            refine q_i2lv (v := (0 : Int64)) rfl (by decide +kernel) ?_
            refine q_lastorev (m := 0) (w9 := w1) rfl (by decide) rfl (by decide +kernel) (by decide) rfl ?_
            refine q_goto (t := 17) rfl (by decide) ?_
            refine q_iconstv (v := (0 : Int32)) rfl (by decide +kernel) ?_
            refine q_iret rfl rfl ?_
            refine bk_inl ?_
            refine q_istore rfl (by decide) ?_
            refine q_aload_n rfl rfl ?_
            refine q_aload_n rfl rfl ?_
            refine q_iload rfl rfl ?_
            refine q_iconstv (v := (1 : Int32)) rfl (by decide +kernel) ?_
            refine q_iaddv (v := (1 : Int32)) rfl (by decide +kernel) ?_
            refine q_script rfl (by decide) rfl ?_
            refine q_aload_n rfl rfl ?_
            refine q_iload rfl rfl ?_
            refine q_iconstv (v := (2 : Int32)) rfl (by decide +kernel) ?_
            refine q_iaddv (v := (2 : Int32)) rfl (by decide +kernel) ?_
            refine q_script rfl (by decide) rfl ?_
            refine q_call rfl rfl rfl rfl ?_
            refine q_aload_n rfl rfl ?_
            refine q_iconstv (v := (0 : Int32)) rfl (by decide +kernel) ?_
            refine q_putv (w9 := w1) rfl rfl rfl (by decide) rfl (by decide) rfl ?_
            refine q_aload_n rfl rfl ?_
            refine q_aload_n rfl rfl ?_
            refine q_iload_n rfl rfl ?_
            refine q_call rfl rfl rfl rfl ?_
            refine q_iload_n rfl rfl ?_
            refine q_if_lt_f (t := 18) rfl (by decide) (i_nlt (a := (0 : Int)) (b := (0 : Int)) (by decide +kernel) (by decide +kernel) (by omega)) ?_
            refine q_iload_n rfl rfl ?_
            refine q_iconstv (v := (1 : Int32)) rfl (by decide +kernel) ?_
            refine q_aload_n rfl rfl ?_
            refine q_get rfl rfl rfl rfl ?_
            refine q_ishlv (v := (1 : Int32)) rfl (by decide +kernel) ?_
            refine q_ic_ge_f (t := 18) rfl (by decide) (i_nle_r (a := (0 : Int)) (b := (1 : Int)) (by decide +kernel) (by decide +kernel) (by omega)) ?_
            refine q_iconstv (v := (1 : Int32)) rfl (by decide +kernel) ?_
            refine q_goto (t := 19) rfl (by decide) ?_
            refine q_zret rfl rfl (by decide) ?_
            refine bk_inl ?_
            refine q_if_eq_f (t := 27) rfl (by decide) (i_ne (a := (1 : Int)) (b := (0 : Int)) (by decide +kernel) (by decide +kernel) (by omega)) ?_
            refine q_iload_n rfl rfl ?_
            refine q_iconstv (v := (0 : Int32)) rfl (by decide +kernel) ?_
            refine q_iconstv (v := (1 : Int32)) rfl (by decide +kernel) ?_
            refine q_call rfl rfl rfl rfl ?_
            refine q_iload_n rfl rfl ?_
            refine q_iload_n rfl rfl ?_
            refine q_ic_lt_f (t := 14) rfl (by decide) (i_nlt (a := (1 : Int)) (b := (0 : Int)) (by decide +kernel) (by decide +kernel) (by omega)) ?_
            refine q_iload_n rfl rfl ?_
            refine q_iload_n rfl rfl ?_
            refine q_ic_gt_f (t := 14) rfl (by decide) (i_nlt_r (a := (1 : Int)) (b := (1 : Int)) (by decide +kernel) (by decide +kernel) (by omega)) ?_
            refine q_iconstv (v := (1 : Int32)) rfl (by decide +kernel) ?_
            refine q_goto (t := 15) rfl (by decide) ?_
            refine q_zret rfl rfl (by decide) ?_
            refine bk_inl ?_
            refine q_if_eq_f (t := 27) rfl (by decide) (i_ne (a := (1 : Int)) (b := (0 : Int)) (by decide +kernel) (by decide +kernel) (by omega)) ?_
            refine q_iconstv (v := (1 : Int32)) rfl (by decide +kernel) ?_
            refine q_goto (t := 28) rfl (by decide) ?_
            refine q_iconstv (v := (1 : Int32)) rfl (by decide +kernel) ?_
            refine q_iconstv (v := (1 : Int32)) rfl (by decide +kernel) ?_
            refine q_call rfl rfl rfl rfl ?_
            refine q_iload_n rfl rfl ?_
            refine q_if_ne_t (t := 26) rfl (by decide) (i_ne (a := (1 : Int)) (b := (0 : Int)) (by decide +kernel) (by decide +kernel) (by omega)) ?_
            refine q_aload_n rfl rfl ?_
            refine q_get rfl rfl rfl rfl ?_
            refine q_if_ne_f (t := 37) rfl (by decide) (i_nne (a := (0 : Int)) (b := (0 : Int)) (by decide +kernel) (by decide +kernel) (by omega)) ?_
            refine q_iconstv (v := (1 : Int32)) rfl (by decide +kernel) ?_
            refine q_goto (t := 38) rfl (by decide) ?_
            refine q_zret rfl rfl (by decide) ?_
            refine bk_inl ?_
            refine q_if_ne_t (t := 38) rfl (by decide) (i_ne (a := (1 : Int)) (b := (0 : Int)) (by decide +kernel) (by decide +kernel) (by omega)) ?_
            refine q_iload_n rfl rfl ?_
            refine q_if_ne_f (t := 44) rfl (by decide) (i_nne (a := (0 : Int)) (b := (0 : Int)) (by decide +kernel) (by decide +kernel) (by omega)) ?_
            refine q_iconstv (v := (0 : Int32)) rfl (by decide +kernel) ?_
            refine q_iret rfl rfl ?_
            refine bk_inl ?_
            refine q_istore rfl (by decide) ?_
            refine q_aload_n rfl rfl ?_
            refine q_call rfl rfl rfl rfl ?_
            refine q_aload_n rfl rfl ?_
            refine q_get rfl rfl rfl rfl ?_
            refine q_iret rfl rfl ?_
            refine bk_inl ?_
            refine q_iload rfl rfl ?_
            refine q_ic_eq_t (t := 1411) rfl (by decide) (i_eq (a := (0 : Int)) (b := (0 : Int)) (by decide +kernel) (by decide +kernel) (by omega)) ?_
            refine q_iload rfl rfl ?_
            refine q_if_ne_f (t := 1428) rfl (by decide) (i_nne (a := (0 : Int)) (b := (0 : Int)) (by decide +kernel) (by decide +kernel) (by omega)) ?_
            refine q_aload_n rfl rfl ?_
            refine q_iconstv (v := (0 : Int32)) rfl (by decide +kernel) ?_
            refine q_laloadv (m := 0) rfl (by decide) rfl (by decide +kernel) rfl ?_
            refine q_iload rfl rfl ?_
            refine q_i2lv (v := (0 : Int64)) rfl (by decide +kernel) ?_
            refine q_lcmpv (v := (0 : Int32)) rfl (by decide +kernel) ?_
            refine q_if_eq_t (t := 1428) rfl (by decide) (i_eq (a := (0 : Int)) (b := (0 : Int)) (by decide +kernel) (by decide +kernel) (by omega)) ?_
            refine q_goto (t := 2739) rfl (by decide) ?_
            refine q_iincv (v := (8 : Int32)) rfl rfl (by decide) (by decide +kernel) ?_
            refine q_goto (t := 23) rfl (by decide) ?_
            exact q_end rfl rfl (by decide) (by decide)
          · refine q_if_ne_f (t := 131) rfl (by decide) (i_nne (a := (x2).toInt) (b := (0 : Int)) rfl (by decide +kernel) (by omega)) ?_
            obtain rfl : x2 = (0 : Int32) := i_eq (a := (x2).toInt) (b := 0) rfl (by decide +kernel) (by omega)
            refine q_iload rfl rfl ?_
            refine q_goto (t := 133) rfl (by decide) ?_
            refine q_iret rfl rfl ?_
            refine bk_inl ?_
            refine q_i2lv (v := (0 : Int64)) rfl (by decide +kernel) ?_
            refine q_lastorev (m := 0) (w9 := w1) rfl (by decide) rfl (by decide +kernel) (by decide) rfl ?_
            refine q_goto (t := 17) rfl (by decide) ?_
            refine q_iconstv (v := (0 : Int32)) rfl (by decide +kernel) ?_
            refine q_iret rfl rfl ?_
            refine bk_inl ?_
            refine q_istore rfl (by decide) ?_
            refine q_aload_n rfl rfl ?_
            refine q_aload_n rfl rfl ?_
            refine q_iload rfl rfl ?_
            refine q_iconstv (v := (1 : Int32)) rfl (by decide +kernel) ?_
            refine q_iaddv (v := (1 : Int32)) rfl (by decide +kernel) ?_
            refine q_script rfl (by decide) rfl ?_
            refine q_aload_n rfl rfl ?_
            refine q_iload rfl rfl ?_
            refine q_iconstv (v := (2 : Int32)) rfl (by decide +kernel) ?_
            refine q_iaddv (v := (2 : Int32)) rfl (by decide +kernel) ?_
            refine q_script rfl (by decide) rfl ?_
            refine q_call rfl rfl rfl rfl ?_
            refine q_aload_n rfl rfl ?_
            refine q_iconstv (v := (0 : Int32)) rfl (by decide +kernel) ?_
            refine q_putv (w9 := w1) rfl rfl rfl (by decide) rfl (by decide) rfl ?_
            refine q_aload_n rfl rfl ?_
            refine q_aload_n rfl rfl ?_
            refine q_iload_n rfl rfl ?_
            refine q_call rfl rfl rfl rfl ?_
            refine q_iload_n rfl rfl ?_
            refine q_if_lt_f (t := 18) rfl (by decide) (i_nlt (a := (0 : Int)) (b := (0 : Int)) (by decide +kernel) (by decide +kernel) (by omega)) ?_
            refine q_iload_n rfl rfl ?_
            refine q_iconstv (v := (1 : Int32)) rfl (by decide +kernel) ?_
            refine q_aload_n rfl rfl ?_
            refine q_get rfl rfl rfl rfl ?_
            refine q_ishlv (v := (1 : Int32)) rfl (by decide +kernel) ?_
            refine q_ic_ge_f (t := 18) rfl (by decide) (i_nle_r (a := (0 : Int)) (b := (1 : Int)) (by decide +kernel) (by decide +kernel) (by omega)) ?_
            refine q_iconstv (v := (1 : Int32)) rfl (by decide +kernel) ?_
            refine q_goto (t := 19) rfl (by decide) ?_
            refine q_zret rfl rfl (by decide) ?_
            refine bk_inl ?_
            refine q_if_eq_f (t := 27) rfl (by decide) (i_ne (a := (1 : Int)) (b := (0 : Int)) (by decide +kernel) (by decide +kernel) (by omega)) ?_
            refine q_iload_n rfl rfl ?_
            refine q_iconstv (v := (0 : Int32)) rfl (by decide +kernel) ?_
            refine q_iconstv (v := (1 : Int32)) rfl (by decide +kernel) ?_
            refine q_call rfl rfl rfl rfl ?_
            refine q_iload_n rfl rfl ?_
            refine q_iload_n rfl rfl ?_
            refine q_ic_lt_f (t := 14) rfl (by decide) (i_nlt (a := (0 : Int)) (b := (0 : Int)) (by decide +kernel) (by decide +kernel) (by omega)) ?_
            refine q_iload_n rfl rfl ?_
            refine q_iload_n rfl rfl ?_
            refine q_ic_gt_f (t := 14) rfl (by decide) (i_nlt_r (a := (0 : Int)) (b := (1 : Int)) (by decide +kernel) (by decide +kernel) (by omega)) ?_
            refine q_iconstv (v := (1 : Int32)) rfl (by decide +kernel) ?_
            refine q_goto (t := 15) rfl (by decide) ?_
            refine q_zret rfl rfl (by decide) ?_
            refine bk_inl ?_
            refine q_if_eq_f (t := 27) rfl (by decide) (i_ne (a := (1 : Int)) (b := (0 : Int)) (by decide +kernel) (by decide +kernel) (by omega)) ?_
            refine q_iconstv (v := (1 : Int32)) rfl (by decide +kernel) ?_
            refine q_goto (t := 28) rfl (by decide) ?_
            refine q_iconstv (v := (1 : Int32)) rfl (by decide +kernel) ?_
            refine q_iconstv (v := (1 : Int32)) rfl (by decide +kernel) ?_
            refine q_call rfl rfl rfl rfl ?_
            refine q_iload_n rfl rfl ?_
            refine q_if_ne_t (t := 26) rfl (by decide) (i_ne (a := (1 : Int)) (b := (0 : Int)) (by decide +kernel) (by decide +kernel) (by omega)) ?_
            refine q_aload_n rfl rfl ?_
            refine q_get rfl rfl rfl rfl ?_
            refine q_if_ne_f (t := 37) rfl (by decide) (i_nne (a := (0 : Int)) (b := (0 : Int)) (by decide +kernel) (by decide +kernel) (by omega)) ?_
            refine q_iconstv (v := (1 : Int32)) rfl (by decide +kernel) ?_
            refine q_goto (t := 38) rfl (by decide) ?_
            refine q_zret rfl rfl (by decide) ?_
            refine bk_inl ?_
            refine q_if_ne_t (t := 38) rfl (by decide) (i_ne (a := (1 : Int)) (b := (0 : Int)) (by decide +kernel) (by decide +kernel) (by omega)) ?_
            refine q_iload_n rfl rfl ?_
            refine q_if_ne_f (t := 44) rfl (by decide) (i_nne (a := (0 : Int)) (b := (0 : Int)) (by decide +kernel) (by decide +kernel) (by omega)) ?_
            refine q_iconstv (v := (0 : Int32)) rfl (by decide +kernel) ?_
            refine q_iret rfl rfl ?_
            refine bk_inl ?_
            refine q_istore rfl (by decide) ?_
            refine q_aload_n rfl rfl ?_
            refine q_call rfl rfl rfl rfl ?_
            refine q_aload_n rfl rfl ?_
            refine q_get rfl rfl rfl rfl ?_
            refine q_iret rfl rfl ?_
            refine bk_inl ?_
            refine q_iload rfl rfl ?_
            refine q_ic_eq_t (t := 1411) rfl (by decide) (i_eq (a := (0 : Int)) (b := (0 : Int)) (by decide +kernel) (by decide +kernel) (by omega)) ?_
            refine q_iload rfl rfl ?_
            refine q_if_ne_f (t := 1428) rfl (by decide) (i_nne (a := (0 : Int)) (b := (0 : Int)) (by decide +kernel) (by decide +kernel) (by omega)) ?_
            refine q_aload_n rfl rfl ?_
            refine q_iconstv (v := (0 : Int32)) rfl (by decide +kernel) ?_
            refine q_laloadv (m := 0) rfl (by decide) rfl (by decide +kernel) rfl ?_
            refine q_iload rfl rfl ?_
            refine q_i2lv (v := (0 : Int64)) rfl (by decide +kernel) ?_
            refine q_lcmpv (v := (0 : Int32)) rfl (by decide +kernel) ?_
            refine q_if_eq_t (t := 1428) rfl (by decide) (i_eq (a := (0 : Int)) (b := (0 : Int)) (by decide +kernel) (by decide +kernel) (by omega)) ?_
            refine q_goto (t := 2739) rfl (by decide) ?_
            refine q_iincv (v := (8 : Int32)) rfl rfl (by decide) (by decide +kernel) ?_
            refine q_goto (t := 23) rfl (by decide) ?_
            exact q_end rfl rfl (by decide) (by decide)
