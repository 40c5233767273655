/-! ===== the calls on a fresh object, one by one ===== -/
set_option maxRecDepth 100000 in
set_option maxHeartbeats 4000000 in
theorem op_38 {x0 x1 x2 x3 x4 x5 x6 x7 : Int32} : Wp [x0, x1, x2, x3, x4, x5, x6, x7] 100 296 2545 l1 [] w1 68 8870 Qlaw := by
  refine q_aload_n rfl rfl ?_
  refine q_aload_n rfl rfl ?_
  refine q_iload rfl rfl ?_
  refine q_iconstv (v := (1 : Int32)) rfl (by decide +kernel) ?_
  refine q_iaddv (v := (1 : Int32)) rfl (by decide +kernel) ?_
  refine q_script rfl (by decide) rfl ?_
  refine q_aload_n rfl rfl ?_
  refine q_iload rfl rfl ?_
  refine q_iconstv (v := (2 : Int32)) rfl (by decide +kernel) ?_
  refine q_iaddv (v := (2 : Int32)) rfl (by decide +kernel) ?_
  refine q_script rfl (by decide) rfl ?_
  refine q_aload_n rfl rfl ?_
  refine q_iload rfl rfl ?_
  refine q_iconstv (v := (3 : Int32)) rfl (by decide +kernel) ?_
  refine q_iaddv (v := (3 : Int32)) rfl (by decide +kernel) ?_
  refine q_script rfl (by decide) rfl ?_
  refine q_aload_n rfl rfl ?_
  refine q_iload rfl rfl ?_
  refine q_iconstv (v := (4 : Int32)) rfl (by decide +kernel) ?_
  refine q_iaddv (v := (4 : Int32)) rfl (by decide +kernel) ?_
  refine q_script rfl (by decide) rfl ?_
  refine q_aload_n rfl rfl ?_
  refine q_iload rfl rfl ?_
  refine q_iconstv (v := (5 : Int32)) rfl (by decide +kernel) ?_
  refine q_iaddv (v := (5 : Int32)) rfl (by decide +kernel) ?_
  refine q_script rfl (by decide) rfl ?_
  refine q_aload_n rfl rfl ?_
  refine q_iload rfl rfl ?_
  refine q_bipushv (v := (6 : Int32)) rfl (by decide +kernel) ?_
  refine q_iaddv (v := (6 : Int32)) rfl (by decide +kernel) ?_
  refine q_script rfl (by decide) rfl ?_
  refine q_aload_n rfl rfl ?_
  refine q_call rfl rfl rfl rfl ?_
  refine q_aload rfl rfl ?_
  refine q_iconstv (v := (0 : Int32)) rfl (by decide +kernel) ?_
  refine q_aload_n rfl rfl ?_
  refine q_iload_n rfl rfl ?_
  refine q_iload_n rfl rfl ?_
  refine q_iload_n rfl rfl ?_
  refine q_iload rfl rfl ?_
  refine q_iload rfl rfl ?_
  refine q_iload rfl rfl ?_
  refine q_call rfl rfl rfl rfl ?_
  refine q_aload_n rfl rfl ?_
  refine q_iload_n rfl rfl ?_
  refine q_iconstv (v := (1 : Int32)) rfl (by decide +kernel) ?_
  refine q_bipushv (v := (10 : Int32)) rfl (by decide +kernel) ?_
  refine q_call rfl rfl rfl rfl ?_
  refine q_iload_n rfl rfl ?_
  refine q_iload_n rfl rfl ?_
  by_cases h1 : (x2).toInt < 1
  · refine q_ic_lt_t (t := 14) rfl (by decide) (i_lt (a := (x2).toInt) (b := (1 : Int)) rfl (by decide +kernel) (by omega)) ?_
    refine q_iconstv (v := (0 : Int32)) rfl (by decide +kernel) ?_
    refine q_zret rfl rfl (by decide) ?_
    refine bk_inl ?_
    refine q_if_eq_t (t := 64) rfl (by decide) (i_eq (a := (0 : Int)) (b := (0 : Int)) (by decide +kernel) (by decide +kernel) (by omega)) ?_
    refine q_iconstv (v := (0 : Int32)) rfl (by decide +kernel) ?_
    refine q_call rfl rfl rfl rfl ?_
    refine q_iload_n rfl rfl ?_
    refine q_if_ne_f (t := 25) rfl (by decide) (i_nne (a := (0 : Int)) (b := (0 : Int)) (by decide +kernel) (by decide +kernel) (by omega)) ?_
    refine q_aload_n rfl rfl ?_
    refine q_dup rfl rfl ?_
    refine q_get rfl rfl rfl rfl ?_
    refine q_iconstv (v := (1 : Int32)) rfl (by decide +kernel) ?_
    refine q_iaddv (v := (1 : Int32)) rfl (by decide +kernel) ?_
    refine q_putv (w9 := (w1.set 0 (.inr (7, [.ref 1, .ref 3, .ref 7, .ref 9, .ref 10, .ref 11, .ref 12, .ref 13, .ref 25, .ref 37, .ref 39, .int 0, .int 0, .int 1])))) rfl rfl rfl (by decide) rfl (by decide) rfl ?_
    refine q_fin rfl rfl rfl ?_
    refine bk_out rfl rfl ?_
    refine bk_thr (z := (1 : Int32)) rfl ⟨_, _, rfl⟩ rfl ?_
    refine bk_inl ?_
    refine q_istore rfl (by decide) ?_
    refine q_aload_n rfl rfl ?_
    refine q_aload_n rfl rfl ?_
    refine q_iload rfl rfl ?_
    refine q_iconstv (v := (1 : Int32)) rfl (by decide +kernel) ?_
    refine q_iaddv (v := (1 : Int32)) rfl (by decide +kernel) ?_
    refine q_script rfl (by decide) rfl ?_
    refine q_aload_n rfl rfl ?_
    refine q_iload rfl rfl ?_
    refine q_iconstv (v := (2 : Int32)) rfl (by decide +kernel) ?_
    refine q_iaddv (v := (2 : Int32)) rfl (by decide +kernel) ?_
    refine q_script rfl (by decide) rfl ?_
    refine q_aload_n rfl rfl ?_
    refine q_iload rfl rfl ?_
    refine q_iconstv (v := (3 : Int32)) rfl (by decide +kernel) ?_
    refine q_iaddv (v := (3 : Int32)) rfl (by decide +kernel) ?_
    refine q_script rfl (by decide) rfl ?_
    refine q_aload_n rfl rfl ?_
    refine q_iload rfl rfl ?_
    refine q_iconstv (v := (4 : Int32)) rfl (by decide +kernel) ?_
    refine q_iaddv (v := (4 : Int32)) rfl (by decide +kernel) ?_
    refine q_script rfl (by decide) rfl ?_
    refine q_aload_n rfl rfl ?_
    refine q_iload rfl rfl ?_
    refine q_iconstv (v := (5 : Int32)) rfl (by decide +kernel) ?_
    refine q_iaddv (v := (5 : Int32)) rfl (by decide +kernel) ?_
    refine q_script rfl (by decide) rfl ?_
    refine q_aload_n rfl rfl ?_
    refine q_iload rfl rfl ?_
    refine q_bipushv (v := (6 : Int32)) rfl (by decide +kernel) ?_
    refine q_iaddv (v := (6 : Int32)) rfl (by decide +kernel) ?_
    refine q_script rfl (by decide) rfl ?_
    refine q_call rfl rfl rfl rfl ?_
    refine q_aload_n rfl rfl ?_
    refine q_iconstv (v := (0 : Int32)) rfl (by decide +kernel) ?_
    refine q_putv (w9 := (w1.set 0 (.inr (7, [.ref 1, .ref 3, .ref 7, .ref 9, .ref 10, .ref 11, .ref 12, .ref 13, .ref 25, .ref 37, .ref 39, .int 0, .int 0, .int 1])))) rfl rfl rfl (by decide) rfl (by decide) rfl ?_
    refine q_aload_n rfl rfl ?_
    refine q_iload_n rfl rfl ?_
    refine q_iconstv (v := (1 : Int32)) rfl (by decide +kernel) ?_
    refine q_bipushv (v := (10 : Int32)) rfl (by decide +kernel) ?_
    refine q_call rfl rfl rfl rfl ?_
    refine q_iload_n rfl rfl ?_
    refine q_iload_n rfl rfl ?_
    refine q_ic_lt_t (t := 14) rfl (by decide) (i_lt (a := (x2).toInt) (b := (1 : Int)) rfl (by decide +kernel) (by omega)) ?_
    refine q_iconstv (v := (0 : Int32)) rfl (by decide +kernel) ?_
    refine q_zret rfl rfl (by decide) ?_
    refine bk_inl ?_
    refine q_if_eq_t (t := 54) rfl (by decide) (i_eq (a := (0 : Int)) (b := (0 : Int)) (by decide +kernel) (by decide +kernel) (by omega)) ?_
    refine q_iconstv (v := (0 : Int32)) rfl (by decide +kernel) ?_
    refine q_iconstv (v := (1 : Int32)) rfl (by decide +kernel) ?_
    refine q_iconstv (v := (1 : Int32)) rfl (by decide +kernel) ?_
    refine q_call rfl rfl rfl rfl ?_
    refine q_iload_n rfl rfl ?_
    refine q_if_ne_f (t := 26) rfl (by decide) (i_nne (a := (0 : Int)) (b := (0 : Int)) (by decide +kernel) (by decide +kernel) (by omega)) ?_
    refine q_aload_n rfl rfl ?_
    refine q_get rfl rfl rfl rfl ?_
    refine q_if_ne_f (t := 26) rfl (by decide) (i_nne (a := (0 : Int)) (b := (0 : Int)) (by decide +kernel) (by decide +kernel) (by omega)) ?_
    refine q_aload_n rfl rfl ?_
    refine q_iload_n rfl rfl ?_
    refine q_putv (w9 := ((w1.set 0 (.inr (7, [.ref 1, .ref 3, .ref 7, .ref 9, .ref 10, .ref 11, .ref 12, .ref 13, .ref 25, .ref 37, .ref 39, .int 0, .int 0, .int 1]))).set 41 (.inr (8, [.int 1, .ref 42, .int 0, .int 0, .int 0, .int 0, .int 0, .int 0, .int (-1), .ref 43, .ref 44, .ref 45, .ref 46, .ref 47, .ref 48, .ref 49, .int 0, .int 0, .int 0, .int 5, .int 0, .int 0, .int 0, .int 5, .ref 50, .ref 51, .ref 52, .ref 53, .ref 54, .int 0, .int 0, .ref 55, .ref 56, .ref 57, .int 0, .int 0, .int 0, .int 0, .int 0, .int 0, .ref 58, .ref 59, .ref 60, .ref 61, .ref 62, .ref 63, .ref 64, .int 0, .int 0, .ref 65, .int 0, .ref 66, .int 0])))) rfl rfl rfl (by decide) rfl (by decide) rfl ?_
    refine q_aload_n rfl rfl ?_
    refine q_get rfl rfl rfl rfl ?_
    refine q_iload_n rfl rfl ?_
    refine q_dup2 rfl ⟨rfl, rfl⟩ ?_
    refine q_ialoadv (m := 1) rfl (by decide) (by decide) rfl (by decide +kernel) rfl ?_
    refine q_iconstv (v := (1 : Int32)) rfl (by decide +kernel) ?_
    refine q_iaddv (v := (1 : Int32)) rfl (by decide +kernel) ?_
    refine q_iastorev (m := 1) (w9 := (((w1.set 0 (.inr (7, [.ref 1, .ref 3, .ref 7, .ref 9, .ref 10, .ref 11, .ref 12, .ref 13, .ref 25, .ref 37, .ref 39, .int 0, .int 0, .int 1]))).set 41 (.inr (8, [.int 1, .ref 42, .int 0, .int 0, .int 0, .int 0, .int 0, .int 0, .int (-1), .ref 43, .ref 44, .ref 45, .ref 46, .ref 47, .ref 48, .ref 49, .int 0, .int 0, .int 0, .int 5, .int 0, .int 0, .int 0, .int 5, .ref 50, .ref 51, .ref 52, .ref 53, .ref 54, .int 0, .int 0, .ref 55, .ref 56, .ref 57, .int 0, .int 0, .int 0, .int 0, .int 0, .int 0, .ref 58, .ref 59, .ref 60, .ref 61, .ref 62, .ref 63, .ref 64, .int 0, .int 0, .ref 65, .int 0, .ref 66, .int 0]))).set 42 (.inl (0, .inl ([0, 1]))))) rfl (by decide) rfl (by decide +kernel) (by decide) rfl ?_
    refine q_aload_n rfl rfl ?_
    refine q_get rfl rfl rfl rfl ?_
    refine q_if_ne_t (t := 37) rfl (by decide) (i_ne (a := (1 : Int)) (b := (0 : Int)) (by decide +kernel) (by decide +kernel) (by omega)) ?_
    refine q_iconstv (v := (0 : Int32)) rfl (by decide +kernel) ?_
    refine q_zret rfl rfl (by decide) ?_
    refine bk_inl ?_
    refine q_if_ne_f (t := 65) rfl (by decide) (i_nne (a := (0 : Int)) (b := (0 : Int)) (by decide +kernel) (by decide +kernel) (by omega)) ?_
    refine q_iconstv (v := (0 : Int32)) rfl (by decide +kernel) ?_
    refine q_iret rfl rfl ?_
    refine bk_inl ?_
    refine q_istore rfl (by decide) ?_
    refine q_aload_n rfl rfl ?_
    refine q_call rfl rfl rfl rfl ?_
    refine q_aload_n rfl rfl ?_
    refine q_get rfl rfl rfl rfl ?_
    refine q_iret rfl rfl ?_
    refine bk_inl ?_
    refine q_iload rfl rfl ?_
    refine q_ic_eq_t (t := 2643) rfl (by decide) (i_eq (a := (1 : Int)) (b := (1 : Int)) (by decide +kernel) (by decide +kernel) (by omega)) ?_
    refine q_iload rfl rfl ?_
    refine q_if_ne_t (t := 2660) rfl (by decide) (i_ne (a := (1 : Int)) (b := (0 : Int)) (by decide +kernel) (by decide +kernel) (by omega)) ?_
    refine q_goto (t := 2739) rfl (by decide) ?_
    refine q_iincv (v := (8 : Int32)) rfl rfl (by decide) (by decide +kernel) ?_
    refine q_goto (t := 23) rfl (by decide) ?_
    exact q_end rfl rfl (by decide) (by decide)
  · refine q_ic_lt_f (t := 14) rfl (by decide) (i_nlt (a := (x2).toInt) (b := (1 : Int)) rfl (by decide +kernel) (by omega)) ?_
    refine q_iload_n rfl rfl ?_
    refine q_iload_n rfl rfl ?_
    by_cases h2 : (x2).toInt > 10
    · refine q_ic_gt_t (t := 14) rfl (by decide) (i_lt_r (a := (x2).toInt) (b := (10 : Int)) rfl (by decide +kernel) (by omega)) ?_
      refine q_iconstv (v := (0 : Int32)) rfl (by decide +kernel) ?_
      refine q_zret rfl rfl (by decide) ?_
      refine bk_inl ?_
      refine q_if_eq_t (t := 64) rfl (by decide) (i_eq (a := (0 : Int)) (b := (0 : Int)) (by decide +kernel) (by decide +kernel) (by omega)) ?_
      refine q_iconstv (v := (0 : Int32)) rfl (by decide +kernel) ?_
      refine q_call rfl rfl rfl rfl ?_
      refine q_iload_n rfl rfl ?_
      refine q_if_ne_f (t := 25) rfl (by decide) (i_nne (a := (0 : Int)) (b := (0 : Int)) (by decide +kernel) (by decide +kernel) (by omega)) ?_
      refine q_aload_n rfl rfl ?_
      refine q_dup rfl rfl ?_
      refine q_get rfl rfl rfl rfl ?_
      refine q_iconstv (v := (1 : Int32)) rfl (by decide +kernel) ?_
      refine q_iaddv (v := (1 : Int32)) rfl (by decide +kernel) ?_
      refine q_putv (w9 := (w1.set 0 (.inr (7, [.ref 1, .ref 3, .ref 7, .ref 9, .ref 10, .ref 11, .ref 12, .ref 13, .ref 25, .ref 37, .ref 39, .int 0, .int 0, .int 1])))) rfl rfl rfl (by decide) rfl (by decide) rfl ?_
      refine q_fin rfl rfl rfl ?_
      refine bk_out rfl rfl ?_
      refine bk_thr (z := (1 : Int32)) rfl ⟨_, _, rfl⟩ rfl ?_
      refine bk_inl ?_
      refine q_istore rfl (by decide) ?_
      refine q_aload_n rfl rfl ?_
      refine q_aload_n rfl rfl ?_
      refine q_iload rfl rfl ?_
      refine q_iconstv (v := (1 : Int32)) rfl (by decide +kernel) ?_
      refine q_iaddv (v := (1 : Int32)) rfl (by decide +kernel) ?_
      refine q_script rfl (by decide) rfl ?_
      refine q_aload_n rfl rfl ?_
      refine q_iload rfl rfl ?_
      refine q_iconstv (v := (2 : Int32)) rfl (by decide +kernel) ?_
      refine q_iaddv (v := (2 : Int32)) rfl (by decide +kernel) ?_
      refine q_script rfl (by decide) rfl ?_
      refine q_aload_n rfl rfl ?_
      refine q_iload rfl rfl ?_
      refine q_iconstv (v := (3 : Int32)) rfl (by decide +kernel) ?_
      refine q_iaddv (v := (3 : Int32)) rfl (by decide +kernel) ?_
      refine q_script rfl (by decide) rfl ?_
      refine q_aload_n rfl rfl ?_
      refine q_iload rfl rfl ?_
      refine q_iconstv (v := (4 : Int32)) rfl (by decide +kernel) ?_
      refine q_iaddv (v := (4 : Int32)) rfl (by decide +kernel) ?_
      refine q_script rfl (by decide) rfl ?_
      refine q_aload_n rfl rfl ?_
      refine q_iload rfl rfl ?_
      refine q_iconstv (v := (5 : Int32)) rfl (by decide +kernel) ?_
      refine q_iaddv (v := (5 : Int32)) rfl (by decide +kernel) ?_
      refine q_script rfl (by decide) rfl ?_
      refine q_aload_n rfl rfl ?_
      refine q_iload rfl rfl ?_
      refine q_bipushv (v := (6 : Int32)) rfl (by decide +kernel) ?_
      refine q_iaddv (v := (6 : Int32)) rfl (by decide +kernel) ?_
      refine q_script rfl (by decide) rfl ?_
      refine q_call rfl rfl rfl rfl ?_
      refine q_aload_n rfl rfl ?_
      refine q_iconstv (v := (0 : Int32)) rfl (by decide +kernel) ?_
      refine q_putv (w9 := (w1.set 0 (.inr (7, [.ref 1, .ref 3, .ref 7, .ref 9, .ref 10, .ref 11, .ref 12, .ref 13, .ref 25, .ref 37, .ref 39, .int 0, .int 0, .int 1])))) rfl rfl rfl (by decide) rfl (by decide) rfl ?_
      refine q_aload_n rfl rfl ?_
      refine q_iload_n rfl rfl ?_
      refine q_iconstv (v := (1 : Int32)) rfl (by decide +kernel) ?_
      refine q_bipushv (v := (10 : Int32)) rfl (by decide +kernel) ?_
      refine q_call rfl rfl rfl rfl ?_
      refine q_iload_n rfl rfl ?_
      refine q_iload_n rfl rfl ?_
      refine q_ic_lt_f (t := 14) rfl (by decide) (i_nlt (a := (x2).toInt) (b := (1 : Int)) rfl (by decide +kernel) (by omega)) ?_
      refine q_iload_n rfl rfl ?_
      refine q_iload_n rfl rfl ?_
      refine q_ic_gt_t (t := 14) rfl (by decide) (i_lt_r (a := (x2).toInt) (b := (10 : Int)) rfl (by decide +kernel) (by omega)) ?_
      refine q_iconstv (v := (0 : Int32)) rfl (by decide +kernel) ?_
      refine q_zret rfl rfl (by decide) ?_
      refine bk_inl ?_
      refine q_if_eq_t (t := 54) rfl (by decide) (i_eq (a := (0 : Int)) (b := (0 : Int)) (by decide +kernel) (by decide +kernel) (by omega)) ?_
      refine q_iconstv (v := (0 : Int32)) rfl (by decide +kernel) ?_
      refine q_iconstv (v := (1 : Int32)) rfl (by decide +kernel) ?_
      refine q_iconstv (v := (1 : Int32)) rfl (by decide +kernel) ?_
      refine q_call rfl rfl rfl rfl ?_
      refine q_iload_n rfl rfl ?_
      refine q_if_ne_f (t := 26) rfl (by decide) (i_nne (a := (0 : Int)) (b := (0 : Int)) (by decide +kernel) (by decide +kernel) (by omega)) ?_
      refine q_aload_n rfl rfl ?_
      refine q_get rfl rfl rfl rfl ?_
      refine q_if_ne_f (t := 26) rfl (by decide) (i_nne (a := (0 : Int)) (b := (0 : Int)) (by decide +kernel) (by decide +kernel) (by omega)) ?_
      refine q_aload_n rfl rfl ?_
      refine q_iload_n rfl rfl ?_
      refine q_putv (w9 := ((w1.set 0 (.inr (7, [.ref 1, .ref 3, .ref 7, .ref 9, .ref 10, .ref 11, .ref 12, .ref 13, .ref 25, .ref 37, .ref 39, .int 0, .int 0, .int 1]))).set 41 (.inr (8, [.int 1, .ref 42, .int 0, .int 0, .int 0, .int 0, .int 0, .int 0, .int (-1), .ref 43, .ref 44, .ref 45, .ref 46, .ref 47, .ref 48, .ref 49, .int 0, .int 0, .int 0, .int 5, .int 0, .int 0, .int 0, .int 5, .ref 50, .ref 51, .ref 52, .ref 53, .ref 54, .int 0, .int 0, .ref 55, .ref 56, .ref 57, .int 0, .int 0, .int 0, .int 0, .int 0, .int 0, .ref 58, .ref 59, .ref 60, .ref 61, .ref 62, .ref 63, .ref 64, .int 0, .int 0, .ref 65, .int 0, .ref 66, .int 0])))) rfl rfl rfl (by decide) rfl (by decide) rfl ?_
      refine q_aload_n rfl rfl ?_
      refine q_get rfl rfl rfl rfl ?_
      refine q_iload_n rfl rfl ?_
      refine q_dup2 rfl ⟨rfl, rfl⟩ ?_
      refine q_ialoadv (m := 1) rfl (by decide) (by decide) rfl (by decide +kernel) rfl ?_
      refine q_iconstv (v := (1 : Int32)) rfl (by decide +kernel) ?_
      refine q_iaddv (v := (1 : Int32)) rfl (by decide +kernel) ?_
      refine q_iastorev (m := 1) (w9 := (((w1.set 0 (.inr (7, [.ref 1, .ref 3, .ref 7, .ref 9, .ref 10, .ref 11, .ref 12, .ref 13, .ref 25, .ref 37, .ref 39, .int 0, .int 0, .int 1]))).set 41 (.inr (8, [.int 1, .ref 42, .int 0, .int 0, .int 0, .int 0, .int 0, .int 0, .int (-1), .ref 43, .ref 44, .ref 45, .ref 46, .ref 47, .ref 48, .ref 49, .int 0, .int 0, .int 0, .int 5, .int 0, .int 0, .int 0, .int 5, .ref 50, .ref 51, .ref 52, .ref 53, .ref 54, .int 0, .int 0, .ref 55, .ref 56, .ref 57, .int 0, .int 0, .int 0, .int 0, .int 0, .int 0, .ref 58, .ref 59, .ref 60, .ref 61, .ref 62, .ref 63, .ref 64, .int 0, .int 0, .ref 65, .int 0, .ref 66, .int 0]))).set 42 (.inl (0, .inl ([0, 1]))))) rfl (by decide) rfl (by decide +kernel) (by decide) rfl ?_
      refine q_aload_n rfl rfl ?_
      refine q_get rfl rfl rfl rfl ?_
      refine q_if_ne_t (t := 37) rfl (by decide) (i_ne (a := (1 : Int)) (b := (0 : Int)) (by decide +kernel) (by decide +kernel) (by omega)) ?_
      refine q_iconstv (v := (0 : Int32)) rfl (by decide +kernel) ?_
      refine q_zret rfl rfl (by decide) ?_
      refine bk_inl ?_
      refine q_if_ne_f (t := 65) rfl (by decide) (i_nne (a := (0 : Int)) (b := (0 : Int)) (by decide +kernel) (by decide +kernel) (by omega)) ?_
      refine q_iconstv (v := (0 : Int32)) rfl (by decide +kernel) ?_
      refine q_iret rfl rfl ?_
      refine bk_inl ?_
      refine q_istore rfl (by decide) ?_
      refine q_aload_n rfl rfl ?_
      refine q_call rfl rfl rfl rfl ?_
      refine q_aload_n rfl rfl ?_
      refine q_get rfl rfl rfl rfl ?_
      refine q_iret rfl rfl ?_
      refine bk_inl ?_
      refine q_iload rfl rfl ?_
      refine q_ic_eq_t (t := 2643) rfl (by decide) (i_eq (a := (1 : Int)) (b := (1 : Int)) (by decide +kernel) (by decide +kernel) (by omega)) ?_
      refine q_iload rfl rfl ?_
      refine q_if_ne_t (t := 2660) rfl (by decide) (i_ne (a := (1 : Int)) (b := (0 : Int)) (by decide +kernel) (by decide +kernel) (by omega)) ?_
      refine q_goto (t := 2739) rfl (by decide) ?_
      refine q_iincv (v := (8 : Int32)) rfl rfl (by decide) (by decide +kernel) ?_
      refine q_goto (t := 23) rfl (by decide) ?_
      exact q_end rfl rfl (by decide) (by decide)
    · refine q_ic_gt_f (t := 14) rfl (by decide) (i_nlt_r (a := (x2).toInt) (b := (10 : Int)) rfl (by decide +kernel) (by omega)) ?_
      refine q_iconstv (v := (1 : Int32)) rfl (by decide +kernel) ?_
      refine q_goto (t := 15) rfl (by decide) ?_
      refine q_zret rfl rfl (by decide) ?_
      refine bk_inl ?_
      refine q_if_eq_f (t := 64) rfl (by decide) (i_ne (a := (1 : Int)) (b := (0 : Int)) (by decide +kernel) (by decide +kernel) (by omega)) ?_
      refine q_iload_n rfl rfl ?_
      refine q_iconstv (v := (0 : Int32)) rfl (by decide +kernel) ?_
      refine q_bipushv (v := (16 : Int32)) rfl (by decide +kernel) ?_
      refine q_call rfl rfl rfl rfl ?_
      refine q_iload_n rfl rfl ?_
      refine q_iload_n rfl rfl ?_
      by_cases h3 : (x3).toInt < 0
      · refine q_ic_lt_t (t := 14) rfl (by decide) (i_lt (a := (x3).toInt) (b := (0 : Int)) rfl (by decide +kernel) (by omega)) ?_
        refine q_iconstv (v := (0 : Int32)) rfl (by decide +kernel) ?_
        refine q_zret rfl rfl (by decide) ?_
        refine bk_inl ?_
        refine q_if_eq_t (t := 64) rfl (by decide) (i_eq (a := (0 : Int)) (b := (0 : Int)) (by decide +kernel) (by decide +kernel) (by omega)) ?_
        refine q_iconstv (v := (0 : Int32)) rfl (by decide +kernel) ?_
        refine q_call rfl rfl rfl rfl ?_
        refine q_iload_n rfl rfl ?_
        refine q_if_ne_f (t := 25) rfl (by decide) (i_nne (a := (0 : Int)) (b := (0 : Int)) (by decide +kernel) (by decide +kernel) (by omega)) ?_
        refine q_aload_n rfl rfl ?_
        refine q_dup rfl rfl ?_
        refine q_get rfl rfl rfl rfl ?_
        refine q_iconstv (v := (1 : Int32)) rfl (by decide +kernel) ?_
        refine q_iaddv (v := (1 : Int32)) rfl (by decide +kernel) ?_
        refine q_putv (w9 := (w1.set 0 (.inr (7, [.ref 1, .ref 3, .ref 7, .ref 9, .ref 10, .ref 11, .ref 12, .ref 13, .ref 25, .ref 37, .ref 39, .int 0, .int 0, .int 1])))) rfl rfl rfl (by decide) rfl (by decide) rfl ?_
        refine q_fin rfl rfl rfl ?_
        refine bk_out rfl rfl ?_
        refine bk_thr (z := (1 : Int32)) rfl ⟨_, _, rfl⟩ rfl ?_
        refine bk_inl ?_
        refine q_istore rfl (by decide) ?_
        refine q_aload_n rfl rfl ?_
        refine q_aload_n rfl rfl ?_
        refine q_iload rfl rfl ?_
        refine q_iconstv (v := (1 : Int32)) rfl (by decide +kernel) ?_
        refine q_iaddv (v := (1 : Int32)) rfl (by decide +kernel) ?_
        refine q_script rfl (by decide) rfl ?_
        refine q_aload_n rfl rfl ?_
        refine q_iload rfl rfl ?_
        refine q_iconstv (v := (2 : Int32)) rfl (by decide +kernel) ?_
        refine q_iaddv (v := (2 : Int32)) rfl (by decide +kernel) ?_
        refine q_script rfl (by decide) rfl ?_
        refine q_aload_n rfl rfl ?_
        refine q_iload rfl rfl ?_
        refine q_iconstv (v := (3 : Int32)) rfl (by decide +kernel) ?_
        refine q_iaddv (v := (3 : Int32)) rfl (by decide +kernel) ?_
        refine q_script rfl (by decide) rfl ?_
        refine q_aload_n rfl rfl ?_
        refine q_iload rfl rfl ?_
        refine q_iconstv (v := (4 : Int32)) rfl (by decide +kernel) ?_
        refine q_iaddv (v := (4 : Int32)) rfl (by decide +kernel) ?_
        refine q_script rfl (by decide) rfl ?_
        refine q_aload_n rfl rfl ?_
        refine q_iload rfl rfl ?_
        refine q_iconstv (v := (5 : Int32)) rfl (by decide +kernel) ?_
        refine q_iaddv (v := (5 : Int32)) rfl (by decide +kernel) ?_
        refine q_script rfl (by decide) rfl ?_
        refine q_aload_n rfl rfl ?_
        refine q_iload rfl rfl ?_
        refine q_bipushv (v := (6 : Int32)) rfl (by decide +kernel) ?_
        refine q_iaddv (v := (6 : Int32)) rfl (by decide +kernel) ?_
        refine q_script rfl (by decide) rfl ?_
        refine q_call rfl rfl rfl rfl ?_
        refine q_aload_n rfl rfl ?_
        refine q_iconstv (v := (0 : Int32)) rfl (by decide +kernel) ?_
        refine q_putv (w9 := (w1.set 0 (.inr (7, [.ref 1, .ref 3, .ref 7, .ref 9, .ref 10, .ref 11, .ref 12, .ref 13, .ref 25, .ref 37, .ref 39, .int 0, .int 0, .int 1])))) rfl rfl rfl (by decide) rfl (by decide) rfl ?_
        refine q_aload_n rfl rfl ?_
        refine q_iload_n rfl rfl ?_
        refine q_iconstv (v := (1 : Int32)) rfl (by decide +kernel) ?_
        refine q_bipushv (v := (10 : Int32)) rfl (by decide +kernel) ?_
        refine q_call rfl rfl rfl rfl ?_
        refine q_iload_n rfl rfl ?_
        refine q_iload_n rfl rfl ?_
        refine q_ic_lt_f (t := 14) rfl (by decide) (i_nlt (a := (x2).toInt) (b := (1 : Int)) rfl (by decide +kernel) (by omega)) ?_
        refine q_iload_n rfl rfl ?_
        refine q_iload_n rfl rfl ?_
        refine q_ic_gt_f (t := 14) rfl (by decide) (i_nlt_r (a := (x2).toInt) (b := (10 : Int)) rfl (by decide +kernel) (by omega)) ?_
        refine q_iconstv (v := (1 : Int32)) rfl (by decide +kernel) ?_
        refine q_goto (t := 15) rfl (by decide) ?_
        refine q_zret rfl rfl (by decide) ?_
        refine bk_inl ?_
        refine q_if_eq_f (t := 54) rfl (by decide) (i_ne (a := (1 : Int)) (b := (0 : Int)) (by decide +kernel) (by decide +kernel) (by omega)) ?_
        refine q_iload_n rfl rfl ?_
        refine q_iload rfl rfl ?_
        refine q_call rfl rfl rfl rfl ?_
        refine q_iload_n rfl rfl ?_
        refine q_if_lt_t (t := 25) rfl (by decide) (i_lt (a := (x3).toInt) (b := (0 : Int)) rfl (by decide +kernel) (by omega)) ?_
        refine q_iconstv (v := (0 : Int32)) rfl (by decide +kernel) ?_
        refine q_zret rfl rfl (by decide) ?_
        refine bk_inl ?_
        refine q_if_eq_t (t := 54) rfl (by decide) (i_eq (a := (0 : Int)) (b := (0 : Int)) (by decide +kernel) (by decide +kernel) (by omega)) ?_
        refine q_iconstv (v := (0 : Int32)) rfl (by decide +kernel) ?_
        refine q_iconstv (v := (1 : Int32)) rfl (by decide +kernel) ?_
        refine q_iconstv (v := (1 : Int32)) rfl (by decide +kernel) ?_
        refine q_call rfl rfl rfl rfl ?_
        refine q_iload_n rfl rfl ?_
        refine q_if_ne_f (t := 26) rfl (by decide) (i_nne (a := (0 : Int)) (b := (0 : Int)) (by decide +kernel) (by decide +kernel) (by omega)) ?_
        refine q_aload_n rfl rfl ?_
        refine q_get rfl rfl rfl rfl ?_
        refine q_if_ne_f (t := 26) rfl (by decide) (i_nne (a := (0 : Int)) (b := (0 : Int)) (by decide +kernel) (by decide +kernel) (by omega)) ?_
        refine q_aload_n rfl rfl ?_
        refine q_iload_n rfl rfl ?_
        refine q_putv (w9 := ((w1.set 0 (.inr (7, [.ref 1, .ref 3, .ref 7, .ref 9, .ref 10, .ref 11, .ref 12, .ref 13, .ref 25, .ref 37, .ref 39, .int 0, .int 0, .int 1]))).set 41 (.inr (8, [.int 1, .ref 42, .int 0, .int 0, .int 0, .int 0, .int 0, .int 0, .int (-1), .ref 43, .ref 44, .ref 45, .ref 46, .ref 47, .ref 48, .ref 49, .int 0, .int 0, .int 0, .int 5, .int 0, .int 0, .int 0, .int 5, .ref 50, .ref 51, .ref 52, .ref 53, .ref 54, .int 0, .int 0, .ref 55, .ref 56, .ref 57, .int 0, .int 0, .int 0, .int 0, .int 0, .int 0, .ref 58, .ref 59, .ref 60, .ref 61, .ref 62, .ref 63, .ref 64, .int 0, .int 0, .ref 65, .int 0, .ref 66, .int 0])))) rfl rfl rfl (by decide) rfl (by decide) rfl ?_
        refine q_aload_n rfl rfl ?_
        refine q_get rfl rfl rfl rfl ?_
        refine q_iload_n rfl rfl ?_
        refine q_dup2 rfl ⟨rfl, rfl⟩ ?_
        refine q_ialoadv (m := 1) rfl (by decide) (by decide) rfl (by decide +kernel) rfl ?_
        refine q_iconstv (v := (1 : Int32)) rfl (by decide +kernel) ?_
        refine q_iaddv (v := (1 : Int32)) rfl (by decide +kernel) ?_
        refine q_iastorev (m := 1) (w9 := (((w1.set 0 (.inr (7, [.ref 1, .ref 3, .ref 7, .ref 9, .ref 10, .ref 11, .ref 12, .ref 13, .ref 25, .ref 37, .ref 39, .int 0, .int 0, .int 1]))).set 41 (.inr (8, [.int 1, .ref 42, .int 0, .int 0, .int 0, .int 0, .int 0, .int 0, .int (-1), .ref 43, .ref 44, .ref 45, .ref 46, .ref 47, .ref 48, .ref 49, .int 0, .int 0, .int 0, .int 5, .int 0, .int 0, .int 0, .int 5, .ref 50, .ref 51, .ref 52, .ref 53, .ref 54, .int 0, .int 0, .ref 55, .ref 56, .ref 57, .int 0, .int 0, .int 0, .int 0, .int 0, .int 0, .ref 58, .ref 59, .ref 60, .ref 61, .ref 62, .ref 63, .ref 64, .int 0, .int 0, .ref 65, .int 0, .ref 66, .int 0]))).set 42 (.inl (0, .inl ([0, 1]))))) rfl (by decide) rfl (by decide +kernel) (by decide) rfl ?_
        refine q_aload_n rfl rfl ?_
        refine q_get rfl rfl rfl rfl ?_
        refine q_if_ne_t (t := 37) rfl (by decide) (i_ne (a := (1 : Int)) (b := (0 : Int)) (by decide +kernel) (by decide +kernel) (by omega)) ?_
        refine q_iconstv (v := (0 : Int32)) rfl (by decide +kernel) ?_
        refine q_zret rfl rfl (by decide) ?_
        refine bk_inl ?_
        refine q_if_ne_f (t := 65) rfl (by decide) (i_nne (a := (0 : Int)) (b := (0 : Int)) (by decide +kernel) (by decide +kernel) (by omega)) ?_
        refine q_iconstv (v := (0 : Int32)) rfl (by decide +kernel) ?_
        refine q_iret rfl rfl ?_
        refine bk_inl ?_
        refine q_istore rfl (by decide) ?_
        refine q_aload_n rfl rfl ?_
        refine q_call rfl rfl rfl rfl ?_
        refine q_aload_n rfl rfl ?_
        refine q_get rfl rfl rfl rfl ?_
        refine q_iret rfl rfl ?_
        refine bk_inl ?_
        refine q_iload rfl rfl ?_
        refine q_ic_eq_t (t := 2643) rfl (by decide) (i_eq (a := (1 : Int)) (b := (1 : Int)) (by decide +kernel) (by decide +kernel) (by omega)) ?_
        refine q_iload rfl rfl ?_
        refine q_if_ne_t (t := 2660) rfl (by decide) (i_ne (a := (1 : Int)) (b := (0 : Int)) (by decide +kernel) (by decide +kernel) (by omega)) ?_
        refine q_goto (t := 2739) rfl (by decide) ?_
        refine q_iincv (v := (8 : Int32)) rfl rfl (by decide) (by decide +kernel) ?_
        refine q_goto (t := 23) rfl (by decide) ?_
        exact q_end rfl rfl (by decide) (by decide)
      · refine q_ic_lt_f (t := 14) rfl (by decide) (i_nlt (a := (x3).toInt) (b := (0 : Int)) rfl (by decide +kernel) (by omega)) ?_
        refine q_iload_n rfl rfl ?_
        refine q_iload_n rfl rfl ?_
        by_cases h4 : (x3).toInt > 16
        · refine q_ic_gt_t (t := 14) rfl (by decide) (i_lt_r (a := (x3).toInt) (b := (16 : Int)) rfl (by decide +kernel) (by omega)) ?_
          refine q_iconstv (v := (0 : Int32)) rfl (by decide +kernel) ?_
          refine q_zret rfl rfl (by decide) ?_
          refine bk_inl ?_
          refine q_if_eq_t (t := 64) rfl (by decide) (i_eq (a := (0 : Int)) (b := (0 : Int)) (by decide +kernel) (by decide +kernel) (by omega)) ?_
          refine q_iconstv (v := (0 : Int32)) rfl (by decide +kernel) ?_
          refine q_call rfl rfl rfl rfl ?_
          refine q_iload_n rfl rfl ?_
          refine q_if_ne_f (t := 25) rfl (by decide) (i_nne (a := (0 : Int)) (b := (0 : Int)) (by decide +kernel) (by decide +kernel) (by omega)) ?_
          refine q_aload_n rfl rfl ?_
          refine q_dup rfl rfl ?_
          refine q_get rfl rfl rfl rfl ?_
          refine q_iconstv (v := (1 : Int32)) rfl (by decide +kernel) ?_
          refine q_iaddv (v := (1 : Int32)) rfl (by decide +kernel) ?_
          refine q_putv (w9 := (w1.set 0 (.inr (7, [.ref 1, .ref 3, .ref 7, .ref 9, .ref 10, .ref 11, .ref 12, .ref 13, .ref 25, .ref 37, .ref 39, .int 0, .int 0, .int 1])))) rfl rfl rfl (by decide) rfl (by decide) rfl ?_
          refine q_fin rfl rfl rfl ?_
          refine bk_out rfl rfl ?_
          refine bk_thr (z := (1 : Int32)) rfl ⟨_, _, rfl⟩ rfl ?_
          refine bk_inl ?_
          refine q_istore rfl (by decide) ?_
          refine q_aload_n rfl rfl ?_
          refine q_aload_n rfl rfl ?_
          refine q_iload rfl rfl ?_
          refine q_iconstv (v := (1 : Int32)) rfl (by decide +kernel) ?_
          refine q_iaddv (v := (1 : Int32)) rfl (by decide +kernel) ?_
          refine q_script rfl (by decide) rfl ?_
          refine q_aload_n rfl rfl ?_
          refine q_iload rfl rfl ?_
          refine q_iconstv (v := (2 : Int32)) rfl (by decide +kernel) ?_
          refine q_iaddv (v := (2 : Int32)) rfl (by decide +kernel) ?_
          refine q_script rfl (by decide) rfl ?_
          refine q_aload_n rfl rfl ?_
          refine q_iload rfl rfl ?_
          refine q_iconstv (v := (3 : Int32)) rfl (by decide +kernel) ?_
          refine q_iaddv (v := (3 : Int32)) rfl (by decide +kernel) ?_
          refine q_script rfl (by decide) rfl ?_
          refine q_aload_n rfl rfl ?_
          refine q_iload rfl rfl ?_
          refine q_iconstv (v := (4 : Int32)) rfl (by decide +kernel) ?_
          refine q_iaddv (v := (4 : Int32)) rfl (by decide +kernel) ?_
          refine q_script rfl (by decide) rfl ?_
          refine q_aload_n rfl rfl ?_
          refine q_iload rfl rfl ?_
          refine q_iconstv (v := (5 : Int32)) rfl (by decide +kernel) ?_
          refine q_iaddv (v := (5 : Int32)) rfl (by decide +kernel) ?_
          refine q_script rfl (by decide) rfl ?_
          refine q_aload_n rfl rfl ?_
          refine q_iload rfl rfl ?_
          refine q_bipushv (v := (6 : Int32)) rfl (by decide +kernel) ?_
          refine q_iaddv (v := (6 : Int32)) rfl (by decide +kernel) ?_
          refine q_script rfl (by decide) rfl ?_
          refine q_call rfl rfl rfl rfl ?_
          refine q_aload_n rfl rfl ?_
          refine q_iconstv (v := (0 : Int32)) rfl (by decide +kernel) ?_
          refine q_putv (w9 := (w1.set 0 (.inr (7, [.ref 1, .ref 3, .ref 7, .ref 9, .ref 10, .ref 11, .ref 12, .ref 13, .ref 25, .ref 37, .ref 39, .int 0, .int 0, .int 1])))) rfl rfl rfl (by decide) rfl (by decide) rfl ?_
          refine q_aload_n rfl rfl ?_
          refine q_iload_n rfl rfl ?_
          refine q_iconstv (v := (1 : Int32)) rfl (by decide +kernel) ?_
          refine q_bipushv (v := (10 : Int32)) rfl (by decide +kernel) ?_
          refine q_call rfl rfl rfl rfl ?_
          refine q_iload_n rfl rfl ?_
          refine q_iload_n rfl rfl ?_
          refine q_ic_lt_f (t := 14) rfl (by decide) (i_nlt (a := (x2).toInt) (b := (1 : Int)) rfl (by decide +kernel) (by omega)) ?_
          refine q_iload_n rfl rfl ?_
          refine q_iload_n rfl rfl ?_
          refine q_ic_gt_f (t := 14) rfl (by decide) (i_nlt_r (a := (x2).toInt) (b := (10 : Int)) rfl (by decide +kernel) (by omega)) ?_
          refine q_iconstv (v := (1 : Int32)) rfl (by decide +kernel) ?_
          refine q_goto (t := 15) rfl (by decide) ?_
          refine q_zret rfl rfl (by decide) ?_
          refine bk_inl ?_
          refine q_if_eq_f (t := 54) rfl (by decide) (i_ne (a := (1 : Int)) (b := (0 : Int)) (by decide +kernel) (by decide +kernel) (by omega)) ?_
          refine q_iload_n rfl rfl ?_
          refine q_iload rfl rfl ?_
          refine q_call rfl rfl rfl rfl ?_
          refine q_iload_n rfl rfl ?_
          refine q_if_lt_f (t := 25) rfl (by decide) (i_nlt (a := (x3).toInt) (b := (0 : Int)) rfl (by decide +kernel) (by omega)) ?_
          refine q_iload_n rfl rfl ?_
          refine q_bipushv (v := (16 : Int32)) rfl (by decide +kernel) ?_
          refine q_ic_gt_t (t := 25) rfl (by decide) (i_lt_r (a := (x3).toInt) (b := (16 : Int)) rfl (by decide +kernel) (by omega)) ?_
          refine q_iconstv (v := (0 : Int32)) rfl (by decide +kernel) ?_
          refine q_zret rfl rfl (by decide) ?_
          refine bk_inl ?_
          refine q_if_eq_t (t := 54) rfl (by decide) (i_eq (a := (0 : Int)) (b := (0 : Int)) (by decide +kernel) (by decide +kernel) (by omega)) ?_
          refine q_iconstv (v := (0 : Int32)) rfl (by decide +kernel) ?_
          refine q_iconstv (v := (1 : Int32)) rfl (by decide +kernel) ?_
          refine q_iconstv (v := (1 : Int32)) rfl (by decide +kernel) ?_
          refine q_call rfl rfl rfl rfl ?_
          refine q_iload_n rfl rfl ?_
          refine q_if_ne_f (t := 26) rfl (by decide) (i_nne (a := (0 : Int)) (b := (0 : Int)) (by decide +kernel) (by decide +kernel) (by omega)) ?_
          refine q_aload_n rfl rfl ?_
          refine q_get rfl rfl rfl rfl ?_
          refine q_if_ne_f (t := 26) rfl (by decide) (i_nne (a := (0 : Int)) (b := (0 : Int)) (by decide +kernel) (by decide +kernel) (by omega)) ?_
          refine q_aload_n rfl rfl ?_
          refine q_iload_n rfl rfl ?_
          refine q_putv (w9 := ((w1.set 0 (.inr (7, [.ref 1, .ref 3, .ref 7, .ref 9, .ref 10, .ref 11, .ref 12, .ref 13, .ref 25, .ref 37, .ref 39, .int 0, .int 0, .int 1]))).set 41 (.inr (8, [.int 1, .ref 42, .int 0, .int 0, .int 0, .int 0, .int 0, .int 0, .int (-1), .ref 43, .ref 44, .ref 45, .ref 46, .ref 47, .ref 48, .ref 49, .int 0, .int 0, .int 0, .int 5, .int 0, .int 0, .int 0, .int 5, .ref 50, .ref 51, .ref 52, .ref 53, .ref 54, .int 0, .int 0, .ref 55, .ref 56, .ref 57, .int 0, .int 0, .int 0, .int 0, .int 0, .int 0, .ref 58, .ref 59, .ref 60, .ref 61, .ref 62, .ref 63, .ref 64, .int 0, .int 0, .ref 65, .int 0, .ref 66, .int 0])))) rfl rfl rfl (by decide) rfl (by decide) rfl ?_
          refine q_aload_n rfl rfl ?_
          refine q_get rfl rfl rfl rfl ?_
          refine q_iload_n rfl rfl ?_
          refine q_dup2 rfl ⟨rfl, rfl⟩ ?_
          refine q_ialoadv (m := 1) rfl (by decide) (by decide) rfl (by decide +kernel) rfl ?_
          refine q_iconstv (v := (1 : Int32)) rfl (by decide +kernel) ?_
          refine q_iaddv (v := (1 : Int32)) rfl (by decide +kernel) ?_
          refine q_iastorev (m := 1) (w9 := (((w1.set 0 (.inr (7, [.ref 1, .ref 3, .ref 7, .ref 9, .ref 10, .ref 11, .ref 12, .ref 13, .ref 25, .ref 37, .ref 39, .int 0, .int 0, .int 1]))).set 41 (.inr (8, [.int 1, .ref 42, .int 0, .int 0, .int 0, .int 0, .int 0, .int 0, .int (-1), .ref 43, .ref 44, .ref 45, .ref 46, .ref 47, .ref 48, .ref 49, .int 0, .int 0, .int 0, .int 5, .int 0, .int 0, .int 0, .int 5, .ref 50, .ref 51, .ref 52, .ref 53, .ref 54, .int 0, .int 0, .ref 55, .ref 56, .ref 57, .int 0, .int 0, .int 0, .int 0, .int 0, .int 0, .ref 58, .ref 59, .ref 60, .ref 61, .ref 62, .ref 63, .ref 64, .int 0, .int 0, .ref 65, .int 0, .ref 66, .int 0]))).set 42 (.inl (0, .inl ([0, 1]))))) rfl (by decide) rfl (by decide +kernel) (by decide) rfl ?_
          refine q_aload_n rfl rfl ?_
          refine q_get rfl rfl rfl rfl ?_
          refine q_if_ne_t (t := 37) rfl (by decide) (i_ne (a := (1 : Int)) (b := (0 : Int)) (by decide +kernel) (by decide +kernel) (by omega)) ?_
          refine q_iconstv (v := (0 : Int32)) rfl (by decide +kernel) ?_
          refine q_zret rfl rfl (by decide) ?_
          refine bk_inl ?_
          refine q_if_ne_f (t := 65) rfl (by decide) (i_nne (a := (0 : Int)) (b := (0 : Int)) (by decide +kernel) (by decide +kernel) (by omega)) ?_
          refine q_iconstv (v := (0 : Int32)) rfl (by decide +kernel) ?_
          refine q_iret rfl rfl ?_
          refine bk_inl ?_
          refine q_istore rfl (by decide) ?_
          refine q_aload_n rfl rfl ?_
          refine q_call rfl rfl rfl rfl ?_
          refine q_aload_n rfl rfl ?_
          refine q_get rfl rfl rfl rfl ?_
          refine q_iret rfl rfl ?_
          refine bk_inl ?_
          refine q_iload rfl rfl ?_
          refine q_ic_eq_t (t := 2643) rfl (by decide) (i_eq (a := (1 : Int)) (b := (1 : Int)) (by decide +kernel) (by decide +kernel) (by omega)) ?_
          refine q_iload rfl rfl ?_
          refine q_if_ne_t (t := 2660) rfl (by decide) (i_ne (a := (1 : Int)) (b := (0 : Int)) (by decide +kernel) (by decide +kernel) (by omega)) ?_
          refine q_goto (t := 2739) rfl (by decide) ?_
          refine q_iincv (v := (8 : Int32)) rfl rfl (by decide) (by decide +kernel) ?_
          refine q_goto (t := 23) rfl (by decide) ?_
          exact q_end rfl rfl (by decide) (by decide)
        · refine q_ic_gt_f (t := 14) rfl (by decide) (i_nlt_r (a := (x3).toInt) (b := (16 : Int)) rfl (by decide +kernel) (by omega)) ?_
          refine q_iconstv (v := (1 : Int32)) rfl (by decide +kernel) ?_
          refine q_goto (t := 15) rfl (by decide) ?_
          refine q_zret rfl rfl (by decide) ?_
          refine bk_inl ?_
          refine q_if_eq_f (t := 64) rfl (by decide) (i_ne (a := (1 : Int)) (b := (0 : Int)) (by decide +kernel) (by decide +kernel) (by omega)) ?_
          refine q_iload rfl rfl ?_
          refine q_iconstv (v := (1 : Int32)) rfl (by decide +kernel) ?_
          refine q_bipushv (v := (48 : Int32)) rfl (by decide +kernel) ?_
          refine q_call rfl rfl rfl rfl ?_
          refine q_iload_n rfl rfl ?_
          refine q_iload_n rfl rfl ?_
          by_cases h5 : (x4).toInt < 1
          · refine q_ic_lt_t (t := 14) rfl (by decide) (i_lt (a := (x4).toInt) (b := (1 : Int)) rfl (by decide +kernel) (by omega)) ?_
            refine q_iconstv (v := (0 : Int32)) rfl (by decide +kernel) ?_
            refine q_zret rfl rfl (by decide) ?_
            refine bk_inl ?_
            refine q_if_eq_t (t := 64) rfl (by decide) (i_eq (a := (0 : Int)) (b := (0 : Int)) (by decide +kernel) (by decide +kernel) (by omega)) ?_
            refine q_iconstv (v := (0 : Int32)) rfl (by decide +kernel) ?_
            refine q_call rfl rfl rfl rfl ?_
            refine q_iload_n rfl rfl ?_
            refine q_if_ne_f (t := 25) rfl (by decide) (i_nne (a := (0 : Int)) (b := (0 : Int)) (by decide +kernel) (by decide +kernel) (by omega)) ?_
            refine q_aload_n rfl rfl ?_
            refine q_dup rfl rfl ?_
            refine q_get rfl rfl rfl rfl ?_
            refine q_iconstv (v := (1 : Int32)) rfl (by decide +kernel) ?_
            refine q_iaddv (v := (1 : Int32)) rfl (by decide +kernel) ?_
            refine q_putv (w9 := (w1.set 0 (.inr (7, [.ref 1, .ref 3, .ref 7, .ref 9, .ref 10, .ref 11, .ref 12, .ref 13, .ref 25, .ref 37, .ref 39, .int 0, .int 0, .int 1])))) rfl rfl rfl (by decide) rfl (by decide) rfl ?_
            refine q_fin rfl rfl rfl ?_
            refine bk_out rfl rfl ?_
            refine bk_thr (z := (1 : Int32)) rfl ⟨_, _, rfl⟩ rfl ?_
            refine bk_inl ?_
            refine q_istore rfl (by decide) ?_
            refine q_aload_n rfl rfl ?_
            refine q_aload_n rfl rfl ?_
            refine q_iload rfl rfl ?_
            refine q_iconstv (v := (1 : Int32)) rfl (by decide +kernel) ?_
            refine q_iaddv (v := (1 : Int32)) rfl (by decide +kernel) ?_
            refine q_script rfl (by decide) rfl ?_
            refine q_aload_n rfl rfl ?_
            refine q_iload rfl rfl ?_
            refine q_iconstv (v := (2 : Int32)) rfl (by decide +kernel) ?_
            refine q_iaddv (v := (2 : Int32)) rfl (by decide +kernel) ?_
            refine q_script rfl (by decide) rfl ?_
            refine q_aload_n rfl rfl ?_
            refine q_iload rfl rfl ?_
            refine q_iconstv (v := (3 : Int32)) rfl (by decide +kernel) ?_
            refine q_iaddv (v := (3 : Int32)) rfl (by decide +kernel) ?_
            refine q_script rfl (by decide) rfl ?_
            refine q_aload_n rfl rfl ?_
            refine q_iload rfl rfl ?_
            refine q_iconstv (v := (4 : Int32)) rfl (by decide +kernel) ?_
            refine q_iaddv (v := (4 : Int32)) rfl (by decide +kernel) ?_
            refine q_script rfl (by decide) rfl ?_
            refine q_aload_n rfl rfl ?_
            refine q_iload rfl rfl ?_
            refine q_iconstv (v := (5 : Int32)) rfl (by decide +kernel) ?_
            refine q_iaddv (v := (5 : Int32)) rfl (by decide +kernel) ?_
            refine q_script rfl (by decide) rfl ?_
            refine q_aload_n rfl rfl ?_
            refine q_iload rfl rfl ?_
            refine q_bipushv (v := (6 : Int32)) rfl (by decide +kernel) ?_
            refine q_iaddv (v := (6 : Int32)) rfl (by decide +kernel) ?_
            refine q_script rfl (by decide) rfl ?_
            refine q_call rfl rfl rfl rfl ?_
            refine q_aload_n rfl rfl ?_
            refine q_iconstv (v := (0 : Int32)) rfl (by decide +kernel) ?_
            refine q_putv (w9 := (w1.set 0 (.inr (7, [.ref 1, .ref 3, .ref 7, .ref 9, .ref 10, .ref 11, .ref 12, .ref 13, .ref 25, .ref 37, .ref 39, .int 0, .int 0, .int 1])))) rfl rfl rfl (by decide) rfl (by decide) rfl ?_
            refine q_aload_n rfl rfl ?_
            refine q_iload_n rfl rfl ?_
            refine q_iconstv (v := (1 : Int32)) rfl (by decide +kernel) ?_
            refine q_bipushv (v := (10 : Int32)) rfl (by decide +kernel) ?_
            refine q_call rfl rfl rfl rfl ?_
            refine q_iload_n rfl rfl ?_
            refine q_iload_n rfl rfl ?_
            refine q_ic_lt_f (t := 14) rfl (by decide) (i_nlt (a := (x2).toInt) (b := (1 : Int)) rfl (by decide +kernel) (by omega)) ?_
            refine q_iload_n rfl rfl ?_
            refine q_iload_n rfl rfl ?_
            refine q_ic_gt_f (t := 14) rfl (by decide) (i_nlt_r (a := (x2).toInt) (b := (10 : Int)) rfl (by decide +kernel) (by omega)) ?_
            refine q_iconstv (v := (1 : Int32)) rfl (by decide +kernel) ?_
            refine q_goto (t := 15) rfl (by decide) ?_
            refine q_zret rfl rfl (by decide) ?_
            refine bk_inl ?_
            refine q_if_eq_f (t := 54) rfl (by decide) (i_ne (a := (1 : Int)) (b := (0 : Int)) (by decide +kernel) (by decide +kernel) (by omega)) ?_
            refine q_iload_n rfl rfl ?_
            refine q_iload rfl rfl ?_
            refine q_call rfl rfl rfl rfl ?_
            refine q_iload_n rfl rfl ?_
            refine q_if_lt_f (t := 25) rfl (by decide) (i_nlt (a := (x3).toInt) (b := (0 : Int)) rfl (by decide +kernel) (by omega)) ?_
            refine q_iload_n rfl rfl ?_
            refine q_bipushv (v := (16 : Int32)) rfl (by decide +kernel) ?_
            refine q_ic_gt_f (t := 25) rfl (by decide) (i_nlt_r (a := (x3).toInt) (b := (16 : Int)) rfl (by decide +kernel) (by omega)) ?_
            refine q_iload_n rfl rfl ?_
            refine q_iconstv (v := (1 : Int32)) rfl (by decide +kernel) ?_
            refine q_ic_lt_t (t := 25) rfl (by decide) (i_lt (a := (x4).toInt) (b := (1 : Int)) rfl (by decide +kernel) (by omega)) ?_
            refine q_iconstv (v := (0 : Int32)) rfl (by decide +kernel) ?_
            refine q_zret rfl rfl (by decide) ?_
            refine bk_inl ?_
            refine q_if_eq_t (t := 54) rfl (by decide) (i_eq (a := (0 : Int)) (b := (0 : Int)) (by decide +kernel) (by decide +kernel) (by omega)) ?_
            refine q_iconstv (v := (0 : Int32)) rfl (by decide +kernel) ?_
            refine q_iconstv (v := (1 : Int32)) rfl (by decide +kernel) ?_
            refine q_iconstv (v := (1 : Int32)) rfl (by decide +kernel) ?_
            refine q_call rfl rfl rfl rfl ?_
            refine q_iload_n rfl rfl ?_
            refine q_if_ne_f (t := 26) rfl (by decide) (i_nne (a := (0 : Int)) (b := (0 : Int)) (by decide +kernel) (by decide +kernel) (by omega)) ?_
            refine q_aload_n rfl rfl ?_
            refine q_get rfl rfl rfl rfl ?_
            refine q_if_ne_f (t := 26) rfl (by decide) (i_nne (a := (0 : Int)) (b := (0 : Int)) (by decide +kernel) (by decide +kernel) (by omega)) ?_
            refine q_aload_n rfl rfl ?_
            refine q_iload_n rfl rfl ?_
            refine q_putv (w9 := ((w1.set 0 (.inr (7, [.ref 1, .ref 3, .ref 7, .ref 9, .ref 10, .ref 11, .ref 12, .ref 13, .ref 25, .ref 37, .ref 39, .int 0, .int 0, .int 1]))).set 41 (.inr (8, [.int 1, .ref 42, .int 0, .int 0, .int 0, .int 0, .int 0, .int 0, .int (-1), .ref 43, .ref 44, .ref 45, .ref 46, .ref 47, .ref 48, .ref 49, .int 0, .int 0, .int 0, .int 5, .int 0, .int 0, .int 0, .int 5, .ref 50, .ref 51, .ref 52, .ref 53, .ref 54, .int 0, .int 0, .ref 55, .ref 56, .ref 57, .int 0, .int 0, .int 0, .int 0, .int 0, .int 0, .ref 58, .ref 59, .ref 60, .ref 61, .ref 62, .ref 63, .ref 64, .int 0, .int 0, .ref 65, .int 0, .ref 66, .int 0])))) rfl rfl rfl (by decide) rfl (by decide) rfl ?_
            refine q_aload_n rfl rfl ?_
            refine q_get rfl rfl rfl rfl ?_
            refine q_iload_n rfl rfl ?_
            refine q_dup2 rfl ⟨rfl, rfl⟩ ?_
            refine q_ialoadv (m := 1) rfl (by decide) (by decide) rfl (by decide +kernel) rfl ?_
            refine q_iconstv (v := (1 : Int32)) rfl (by decide +kernel) ?_
            refine q_iaddv (v := (1 : Int32)) rfl (by decide +kernel) ?_
            refine q_iastorev (m := 1) (w9 := (((w1.set 0 (.inr (7, [.ref 1, .ref 3, .ref 7, .ref 9, .ref 10, .ref 11, .ref 12, .ref 13, .ref 25, .ref 37, .ref 39, .int 0, .int 0, .int 1]))).set 41 (.inr (8, [.int 1, .ref 42, .int 0, .int 0, .int 0, .int 0, .int 0, .int 0, .int (-1), .ref 43, .ref 44, .ref 45, .ref 46, .ref 47, .ref 48, .ref 49, .int 0, .int 0, .int 0, .int 5, .int 0, .int 0, .int 0, .int 5, .ref 50, .ref 51, .ref 52, .ref 53, .ref 54, .int 0, .int 0, .ref 55, .ref 56, .ref 57, .int 0, .int 0, .int 0, .int 0, .int 0, .int 0, .ref 58, .ref 59, .ref 60, .ref 61, .ref 62, .ref 63, .ref 64, .int 0, .int 0, .ref 65, .int 0, .ref 66, .int 0]))).set 42 (.inl (0, .inl ([0, 1]))))) rfl (by decide) rfl (by decide +kernel) (by decide) rfl ?_
            refine q_aload_n rfl rfl ?_
            refine q_get rfl rfl rfl rfl ?_
            refine q_if_ne_t (t := 37) rfl (by decide) (i_ne (a := (1 : Int)) (b := (0 : Int)) (by decide +kernel) (by decide +kernel) (by omega)) ?_
            refine q_iconstv (v := (0 : Int32)) rfl (by decide +kernel) ?_
            refine q_zret rfl rfl (by decide) ?_
            refine bk_inl ?_
            refine q_if_ne_f (t := 65) rfl (by decide) (i_nne (a := (0 : Int)) (b := (0 : Int)) (by decide +kernel) (by decide +kernel) (by omega)) ?_
            refine q_iconstv (v := (0 : Int32)) rfl (by decide +kernel) ?_
            refine q_iret rfl rfl ?_
            refine bk_inl ?_
            refine q_istore rfl (by decide) ?_
            refine q_aload_n rfl rfl ?_
            refine q_call rfl rfl rfl rfl ?_
            refine q_aload_n rfl rfl ?_
            refine q_get rfl rfl rfl rfl ?_
            refine q_iret rfl rfl ?_
            refine bk_inl ?_
            refine q_iload rfl rfl ?_
            refine q_ic_eq_t (t := 2643) rfl (by decide) (i_eq (a := (1 : Int)) (b := (1 : Int)) (by decide +kernel) (by decide +kernel) (by omega)) ?_
            refine q_iload rfl rfl ?_
            refine q_if_ne_t (t := 2660) rfl (by decide) (i_ne (a := (1 : Int)) (b := (0 : Int)) (by decide +kernel) (by decide +kernel) (by omega)) ?_
            refine q_goto (t := 2739) rfl (by decide) ?_
            refine q_iincv (v := (8 : Int32)) rfl rfl (by decide) (by decide +kernel) ?_
            refine q_goto (t := 23) rfl (by decide) ?_
            exact q_end rfl rfl (by decide) (by decide)
          · refine q_ic_lt_f (t := 14) rfl (by decide) (i_nlt (a := (x4).toInt) (b := (1 : Int)) rfl (by decide +kernel) (by omega)) ?_
            refine q_iload_n rfl rfl ?_
            refine q_iload_n rfl rfl ?_
            by_cases h6 : (x4).toInt > 48
            · refine q_ic_gt_t (t := 14) rfl (by decide) (i_lt_r (a := (x4).toInt) (b := (48 : Int)) rfl (by decide +kernel) (by omega)) ?_
              refine q_iconstv (v := (0 : Int32)) rfl (by decide +kernel) ?_
              refine q_zret rfl rfl (by decide) ?_
              refine bk_inl ?_
              refine q_if_eq_t (t := 64) rfl (by decide) (i_eq (a := (0 : Int)) (b := (0 : Int)) (by decide +kernel) (by decide +kernel) (by omega)) ?_
              refine q_iconstv (v := (0 : Int32)) rfl (by decide +kernel) ?_
              refine q_call rfl rfl rfl rfl ?_
              refine q_iload_n rfl rfl ?_
              refine q_if_ne_f (t := 25) rfl (by decide) (i_nne (a := (0 : Int)) (b := (0 : Int)) (by decide +kernel) (by decide +kernel) (by omega)) ?_
              refine q_aload_n rfl rfl ?_
              refine q_dup rfl rfl ?_
              refine q_get rfl rfl rfl rfl ?_
              refine q_iconstv (v := (1 : Int32)) rfl (by decide +kernel) ?_
              refine q_iaddv (v := (1 : Int32)) rfl (by decide +kernel) ?_
              refine q_putv (w9 := (w1.set 0 (.inr (7, [.ref 1, .ref 3, .ref 7, .ref 9, .ref 10, .ref 11, .ref 12, .ref 13, .ref 25, .ref 37, .ref 39, .int 0, .int 0, .int 1])))) rfl rfl rfl (by decide) rfl (by decide) rfl ?_
              refine q_fin rfl rfl rfl ?_
              refine bk_out rfl rfl ?_
              refine bk_thr (z := (1 : Int32)) rfl ⟨_, _, rfl⟩ rfl ?_
              refine bk_inl ?_
              refine q_istore rfl (by decide) ?_
              refine q_aload_n rfl rfl ?_
              refine q_aload_n rfl rfl ?_
              refine q_iload rfl rfl ?_
              refine q_iconstv (v := (1 : Int32)) rfl (by decide +kernel) ?_
              refine q_iaddv (v := (1 : Int32)) rfl (by decide +kernel) ?_
              refine q_script rfl (by decide) rfl ?_
              refine q_aload_n rfl rfl ?_
              refine q_iload rfl rfl ?_
              refine q_iconstv (v := (2 : Int32)) rfl (by decide +kernel) ?_
              refine q_iaddv (v := (2 : Int32)) rfl (by decide +kernel) ?_
              refine q_script rfl (by decide) rfl ?_
              refine q_aload_n rfl rfl ?_
              refine q_iload rfl rfl ?_
              refine q_iconstv (v := (3 : Int32)) rfl (by decide +kernel) ?_
              refine q_iaddv (v := (3 : Int32)) rfl (by decide +kernel) ?_
              refine q_script rfl (by decide) rfl ?_
              refine q_aload_n rfl rfl ?_
              refine q_iload rfl rfl ?_
              refine q_iconstv (v := (4 : Int32)) rfl (by decide +kernel) ?_
              refine q_iaddv (v := (4 : Int32)) rfl (by decide +kernel) ?_
              refine q_script rfl (by decide) rfl ?_
              refine q_aload_n rfl rfl ?_
              refine q_iload rfl rfl ?_
              refine q_iconstv (v := (5 : Int32)) rfl (by decide +kernel) ?_
              refine q_iaddv (v := (5 : Int32)) rfl (by decide +kernel) ?_
              refine q_script rfl (by decide) rfl ?_
              refine q_aload_n rfl rfl ?_
              refine q_iload rfl rfl ?_
              refine q_bipushv (v := (6 : Int32)) rfl (by decide +kernel) ?_
              refine q_iaddv (v := (6 : Int32)) rfl (by decide +kernel) ?_
              refine q_script rfl (by decide) rfl ?_
              refine q_call rfl rfl rfl rfl ?_
              refine q_aload_n rfl rfl ?_
              refine q_iconstv (v := (0 : Int32)) rfl (by decide +kernel) ?_
              refine q_putv (w9 := (w1.set 0 (.inr (7, [.ref 1, .ref 3, .ref 7, .ref 9, .ref 10, .ref 11, .ref 12, .ref 13, .ref 25, .ref 37, .ref 39, .int 0, .int 0, .int 1])))) rfl rfl rfl (by decide) rfl (by decide) rfl ?_
              refine q_aload_n rfl rfl ?_
              refine q_iload_n rfl rfl ?_
              refine q_iconstv (v := (1 : Int32)) rfl (by decide +kernel) ?_
              refine q_bipushv (v := (10 : Int32)) rfl (by decide +kernel) ?_
              refine q_call rfl rfl rfl rfl ?_
              refine q_iload_n rfl rfl ?_
              refine q_iload_n rfl rfl ?_
              refine q_ic_lt_f (t := 14) rfl (by decide) (i_nlt (a := (x2).toInt) (b := (1 : Int)) rfl (by decide +kernel) (by omega)) ?_
              refine q_iload_n rfl rfl ?_
              refine q_iload_n rfl rfl ?_
              refine q_ic_gt_f (t := 14) rfl (by decide) (i_nlt_r (a := (x2).toInt) (b := (10 : Int)) rfl (by decide +kernel) (by omega)) ?_
              refine q_iconstv (v := (1 : Int32)) rfl (by decide +kernel) ?_
              refine q_goto (t := 15) rfl (by decide) ?_
              refine q_zret rfl rfl (by decide) ?_
              refine bk_inl ?_
              refine q_if_eq_f (t := 54) rfl (by decide) (i_ne (a := (1 : Int)) (b := (0 : Int)) (by decide +kernel) (by decide +kernel) (by omega)) ?_
              refine q_iload_n rfl rfl ?_
              refine q_iload rfl rfl ?_
              refine q_call rfl rfl rfl rfl ?_
              refine q_iload_n rfl rfl ?_
              refine q_if_lt_f (t := 25) rfl (by decide) (i_nlt (a := (x3).toInt) (b := (0 : Int)) rfl (by decide +kernel) (by omega)) ?_
              refine q_iload_n rfl rfl ?_
              refine q_bipushv (v := (16 : Int32)) rfl (by decide +kernel) ?_
              refine q_ic_gt_f (t := 25) rfl (by decide) (i_nlt_r (a := (x3).toInt) (b := (16 : Int)) rfl (by decide +kernel) (by omega)) ?_
              refine q_iload_n rfl rfl ?_
              refine q_iconstv (v := (1 : Int32)) rfl (by decide +kernel) ?_
              refine q_ic_lt_f (t := 25) rfl (by decide) (i_nlt (a := (x4).toInt) (b := (1 : Int)) rfl (by decide +kernel) (by omega)) ?_
              refine q_iload_n rfl rfl ?_
              refine q_bipushv (v := (48 : Int32)) rfl (by decide +kernel) ?_
              refine q_ic_gt_t (t := 25) rfl (by decide) (i_lt_r (a := (x4).toInt) (b := (48 : Int)) rfl (by decide +kernel) (by omega)) ?_
              refine q_iconstv (v := (0 : Int32)) rfl (by decide +kernel) ?_
              refine q_zret rfl rfl (by decide) ?_
              refine bk_inl ?_
              refine q_if_eq_t (t := 54) rfl (by decide) (i_eq (a := (0 : Int)) (b := (0 : Int)) (by decide +kernel) (by decide +kernel) (by omega)) ?_
              refine q_iconstv (v := (0 : Int32)) rfl (by decide +kernel) ?_
              refine q_iconstv (v := (1 : Int32)) rfl (by decide +kernel) ?_
              refine q_iconstv (v := (1 : Int32)) rfl (by decide +kernel) ?_
              refine q_call rfl rfl rfl rfl ?_
              refine q_iload_n rfl rfl ?_
              refine q_if_ne_f (t := 26) rfl (by decide) (i_nne (a := (0 : Int)) (b := (0 : Int)) (by decide +kernel) (by decide +kernel) (by omega)) ?_
              refine q_aload_n rfl rfl ?_
              refine q_get rfl rfl rfl rfl ?_
              refine q_if_ne_f (t := 26) rfl (by decide) (i_nne (a := (0 : Int)) (b := (0 : Int)) (by decide +kernel) (by decide +kernel) (by omega)) ?_
              refine q_aload_n rfl rfl ?_
              refine q_iload_n rfl rfl ?_
              refine q_putv (w9 := ((w1.set 0 (.inr (7, [.ref 1, .ref 3, .ref 7, .ref 9, .ref 10, .ref 11, .ref 12, .ref 13, .ref 25, .ref 37, .ref 39, .int 0, .int 0, .int 1]))).set 41 (.inr (8, [.int 1, .ref 42, .int 0, .int 0, .int 0, .int 0, .int 0, .int 0, .int (-1), .ref 43, .ref 44, .ref 45, .ref 46, .ref 47, .ref 48, .ref 49, .int 0, .int 0, .int 0, .int 5, .int 0, .int 0, .int 0, .int 5, .ref 50, .ref 51, .ref 52, .ref 53, .ref 54, .int 0, .int 0, .ref 55, .ref 56, .ref 57, .int 0, .int 0, .int 0, .int 0, .int 0, .int 0, .ref 58, .ref 59, .ref 60, .ref 61, .ref 62, .ref 63, .ref 64, .int 0, .int 0, .ref 65, .int 0, .ref 66, .int 0])))) rfl rfl rfl (by decide) rfl (by decide) rfl ?_
              refine q_aload_n rfl rfl ?_
              refine q_get rfl rfl rfl rfl ?_
              refine q_iload_n rfl rfl ?_
              refine q_dup2 rfl ⟨rfl, rfl⟩ ?_
              refine q_ialoadv (m := 1) rfl (by decide) (by decide) rfl (by decide +kernel) rfl ?_
              refine q_iconstv (v := (1 : Int32)) rfl (by decide +kernel) ?_
              refine q_iaddv (v := (1 : Int32)) rfl (by decide +kernel) ?_
              refine q_iastorev (m := 1) (w9 := (((w1.set 0 (.inr (7, [.ref 1, .ref 3, .ref 7, .ref 9, .ref 10, .ref 11, .ref 12, .ref 13, .ref 25, .ref 37, .ref 39, .int 0, .int 0, .int 1]))).set 41 (.inr (8, [.int 1, .ref 42, .int 0, .int 0, .int 0, .int 0, .int 0, .int 0, .int (-1), .ref 43, .ref 44, .ref 45, .ref 46, .ref 47, .ref 48, .ref 49, .int 0, .int 0, .int 0, .int 5, .int 0, .int 0, .int 0, .int 5, .ref 50, .ref 51, .ref 52, .ref 53, .ref 54, .int 0, .int 0, .ref 55, .ref 56, .ref 57, .int 0, .int 0, .int 0, .int 0, .int 0, .int 0, .ref 58, .ref 59, .ref 60, .ref 61, .ref 62, .ref 63, .ref 64, .int 0, .int 0, .ref 65, .int 0, .ref 66, .int 0]))).set 42 (.inl (0, .inl ([0, 1]))))) rfl (by decide) rfl (by decide +kernel) (by decide) rfl ?_
              refine q_aload_n rfl rfl ?_
              refine q_get rfl rfl rfl rfl ?_
              refine q_if_ne_t (t := 37) rfl (by decide) (i_ne (a := (1 : Int)) (b := (0 : Int)) (by decide +kernel) (by decide +kernel) (by omega)) ?_
              refine q_iconstv (v := (0 : Int32)) rfl (by decide +kernel) ?_
              refine q_zret rfl rfl (by decide) ?_
              refine bk_inl ?_
              refine q_if_ne_f (t := 65) rfl (by decide) (i_nne (a := (0 : Int)) (b := (0 : Int)) (by decide +kernel) (by decide +kernel) (by omega)) ?_
              refine q_iconstv (v := (0 : Int32)) rfl (by decide +kernel) ?_
              refine q_iret rfl rfl ?_
              refine bk_inl ?_
              refine q_istore rfl (by decide) ?_
              refine q_aload_n rfl rfl ?_
              refine q_call rfl rfl rfl rfl ?_
              refine q_aload_n rfl rfl ?_
              refine q_get rfl rfl rfl rfl ?_
              refine q_iret rfl rfl ?_
              refine bk_inl ?_
              refine q_iload rfl rfl ?_
              refine q_ic_eq_t (t := 2643) rfl (by decide) (i_eq (a := (1 : Int)) (b := (1 : Int)) (by decide +kernel) (by decide +kernel) (by omega)) ?_
              refine q_iload rfl rfl ?_
              refine q_if_ne_t (t := 2660) rfl (by decide) (i_ne (a := (1 : Int)) (b := (0 : Int)) (by decide +kernel) (by decide +kernel) (by omega)) ?_
              refine q_goto (t := 2739) rfl (by decide) ?_
              refine q_iincv (v := (8 : Int32)) rfl rfl (by decide) (by decide +kernel) ?_
              refine q_goto (t := 23) rfl (by decide) ?_
              exact q_end rfl rfl (by decide) (by decide)
            · refine q_ic_gt_f (t := 14) rfl (by decide) (i_nlt_r (a := (x4).toInt) (b := (48 : Int)) rfl (by decide +kernel) (by omega)) ?_
              refine q_iconstv (v := (1 : Int32)) rfl (by decide +kernel) ?_
              refine q_goto (t := 15) rfl (by decide) ?_
              refine q_zret rfl rfl (by decide) ?_
              refine bk_inl ?_
              refine q_if_eq_f (t := 64) rfl (by decide) (i_ne (a := (1 : Int)) (b := (0 : Int)) (by decide +kernel) (by decide +kernel) (by omega)) ?_
              refine q_iload rfl rfl ?_
              refine q_iconstv (v := (0 : Int32)) rfl (by decide +kernel) ?_
              refine q_iconstv (v := (2 : Int32)) rfl (by decide +kernel) ?_
              refine q_call rfl rfl rfl rfl ?_
              refine q_iload_n rfl rfl ?_
              refine q_iload_n rfl rfl ?_
              by_cases h7 : (x5).toInt < 0
              · refine q_ic_lt_t (t := 14) rfl (by decide) (i_lt (a := (x5).toInt) (b := (0 : Int)) rfl (by decide +kernel) (by omega)) ?_
                refine q_iconstv (v := (0 : Int32)) rfl (by decide +kernel) ?_
                refine q_zret rfl rfl (by decide) ?_
                refine bk_inl ?_
                refine q_if_eq_t (t := 64) rfl (by decide) (i_eq (a := (0 : Int)) (b := (0 : Int)) (by decide +kernel) (by decide +kernel) (by omega)) ?_
                refine q_iconstv (v := (0 : Int32)) rfl (by decide +kernel) ?_
                refine q_call rfl rfl rfl rfl ?_
                refine q_iload_n rfl rfl ?_
                refine q_if_ne_f (t := 25) rfl (by decide) (i_nne (a := (0 : Int)) (b := (0 : Int)) (by decide +kernel) (by decide +kernel) (by omega)) ?_
                refine q_aload_n rfl rfl ?_
                refine q_dup rfl rfl ?_
                refine q_get rfl rfl rfl rfl ?_
                refine q_iconstv (v := (1 : Int32)) rfl (by decide +kernel) ?_
                refine q_iaddv (v := (1 : Int32)) rfl (by decide +kernel) ?_
                refine q_putv (w9 := (w1.set 0 (.inr (7, [.ref 1, .ref 3, .ref 7, .ref 9, .ref 10, .ref 11, .ref 12, .ref 13, .ref 25, .ref 37, .ref 39, .int 0, .int 0, .int 1])))) rfl rfl rfl (by decide) rfl (by decide) rfl ?_
                refine q_fin rfl rfl rfl ?_
                refine bk_out rfl rfl ?_
                refine bk_thr (z := (1 : Int32)) rfl ⟨_, _, rfl⟩ rfl ?_
                refine bk_inl ?_
                refine q_istore rfl (by decide) ?_
                refine q_aload_n rfl rfl ?_
                refine q_aload_n rfl rfl ?_
                refine q_iload rfl rfl ?_
                refine q_iconstv (v := (1 : Int32)) rfl (by decide +kernel) ?_
                refine q_iaddv (v := (1 : Int32)) rfl (by decide +kernel) ?_
                refine q_script rfl (by decide) rfl ?_
                refine q_aload_n rfl rfl ?_
                refine q_iload rfl rfl ?_
                refine q_iconstv (v := (2 : Int32)) rfl (by decide +kernel) ?_
                refine q_iaddv (v := (2 : Int32)) rfl (by decide +kernel) ?_
                refine q_script rfl (by decide) rfl ?_
                refine q_aload_n rfl rfl ?_
                refine q_iload rfl rfl ?_
                refine q_iconstv (v := (3 : Int32)) rfl (by decide +kernel) ?_
                refine q_iaddv (v := (3 : Int32)) rfl (by decide +kernel) ?_
                refine q_script rfl (by decide) rfl ?_
                refine q_aload_n rfl rfl ?_
                refine q_iload rfl rfl ?_
                refine q_iconstv (v := (4 : Int32)) rfl (by decide +kernel) ?_
                refine q_iaddv (v := (4 : Int32)) rfl (by decide +kernel) ?_
                refine q_script rfl (by decide) rfl ?_
                refine q_aload_n rfl rfl ?_
                refine q_iload rfl rfl ?_
                refine q_iconstv (v := (5 : Int32)) rfl (by decide +kernel) ?_
                refine q_iaddv (v := (5 : Int32)) rfl (by decide +kernel) ?_
                refine q_script rfl (by decide) rfl ?_
                refine q_aload_n rfl rfl ?_
                refine q_iload rfl rfl ?_
                refine q_bipushv (v := (6 : Int32)) rfl (by decide +kernel) ?_
                refine q_iaddv (v := (6 : Int32)) rfl (by decide +kernel) ?_
                refine q_script rfl (by decide) rfl ?_
                refine q_call rfl rfl rfl rfl ?_
                refine q_aload_n rfl rfl ?_
                refine q_iconstv (v := (0 : Int32)) rfl (by decide +kernel) ?_
                refine q_putv (w9 := (w1.set 0 (.inr (7, [.ref 1, .ref 3, .ref 7, .ref 9, .ref 10, .ref 11, .ref 12, .ref 13, .ref 25, .ref 37, .ref 39, .int 0, .int 0, .int 1])))) rfl rfl rfl (by decide) rfl (by decide) rfl ?_
                refine q_aload_n rfl rfl ?_
                refine q_iload_n rfl rfl ?_
                refine q_iconstv (v := (1 : Int32)) rfl (by decide +kernel) ?_
                refine q_bipushv (v := (10 : Int32)) rfl (by decide +kernel) ?_
                refine q_call rfl rfl rfl rfl ?_
                refine q_iload_n rfl rfl ?_
                refine q_iload_n rfl rfl ?_
                refine q_ic_lt_f (t := 14) rfl (by decide) (i_nlt (a := (x2).toInt) (b := (1 : Int)) rfl (by decide +kernel) (by omega)) ?_
                refine q_iload_n rfl rfl ?_
                refine q_iload_n rfl rfl ?_
                refine q_ic_gt_f (t := 14) rfl (by decide) (i_nlt_r (a := (x2).toInt) (b := (10 : Int)) rfl (by decide +kernel) (by omega)) ?_
                refine q_iconstv (v := (1 : Int32)) rfl (by decide +kernel) ?_
                refine q_goto (t := 15) rfl (by decide) ?_
                refine q_zret rfl rfl (by decide) ?_
                refine bk_inl ?_
                refine q_if_eq_f (t := 54) rfl (by decide) (i_ne (a := (1 : Int)) (b := (0 : Int)) (by decide +kernel) (by decide +kernel) (by omega)) ?_
                refine q_iload_n rfl rfl ?_
                refine q_iload rfl rfl ?_
                refine q_call rfl rfl rfl rfl ?_
                refine q_iload_n rfl rfl ?_
                refine q_if_lt_f (t := 25) rfl (by decide) (i_nlt (a := (x3).toInt) (b := (0 : Int)) rfl (by decide +kernel) (by omega)) ?_
                refine q_iload_n rfl rfl ?_
                refine q_bipushv (v := (16 : Int32)) rfl (by decide +kernel) ?_
                refine q_ic_gt_f (t := 25) rfl (by decide) (i_nlt_r (a := (x3).toInt) (b := (16 : Int)) rfl (by decide +kernel) (by omega)) ?_
                refine q_iload_n rfl rfl ?_
                refine q_iconstv (v := (1 : Int32)) rfl (by decide +kernel) ?_
                refine q_ic_lt_f (t := 25) rfl (by decide) (i_nlt (a := (x4).toInt) (b := (1 : Int)) rfl (by decide +kernel) (by omega)) ?_
                refine q_iload_n rfl rfl ?_
                refine q_bipushv (v := (48 : Int32)) rfl (by decide +kernel) ?_
                refine q_ic_gt_f (t := 25) rfl (by decide) (i_nlt_r (a := (x4).toInt) (b := (48 : Int)) rfl (by decide +kernel) (by omega)) ?_
                refine q_iconstv (v := (1 : Int32)) rfl (by decide +kernel) ?_
                refine q_goto (t := 26) rfl (by decide) ?_
                refine q_zret rfl rfl (by decide) ?_
                refine bk_inl ?_
                refine q_if_eq_f (t := 54) rfl (by decide) (i_ne (a := (1 : Int)) (b := (0 : Int)) (by decide +kernel) (by decide +kernel) (by omega)) ?_
                refine q_iload rfl rfl ?_
                refine q_iconstv (v := (0 : Int32)) rfl (by decide +kernel) ?_
                refine q_iconstv (v := (2 : Int32)) rfl (by decide +kernel) ?_
                refine q_call rfl rfl rfl rfl ?_
                refine q_iload_n rfl rfl ?_
                refine q_iload_n rfl rfl ?_
                refine q_ic_lt_t (t := 14) rfl (by decide) (i_lt (a := (x5).toInt) (b := (0 : Int)) rfl (by decide +kernel) (by omega)) ?_
                refine q_iconstv (v := (0 : Int32)) rfl (by decide +kernel) ?_
                refine q_zret rfl rfl (by decide) ?_
                refine bk_inl ?_
                refine q_if_eq_t (t := 54) rfl (by decide) (i_eq (a := (0 : Int)) (b := (0 : Int)) (by decide +kernel) (by decide +kernel) (by omega)) ?_
                refine q_iconstv (v := (0 : Int32)) rfl (by decide +kernel) ?_
                refine q_iconstv (v := (1 : Int32)) rfl (by decide +kernel) ?_
                refine q_iconstv (v := (1 : Int32)) rfl (by decide +kernel) ?_
                refine q_call rfl rfl rfl rfl ?_
                refine q_iload_n rfl rfl ?_
                refine q_if_ne_f (t := 26) rfl (by decide) (i_nne (a := (0 : Int)) (b := (0 : Int)) (by decide +kernel) (by decide +kernel) (by omega)) ?_
                refine q_aload_n rfl rfl ?_
                refine q_get rfl rfl rfl rfl ?_
                refine q_if_ne_f (t := 26) rfl (by decide) (i_nne (a := (0 : Int)) (b := (0 : Int)) (by decide +kernel) (by decide +kernel) (by omega)) ?_
                refine q_aload_n rfl rfl ?_
                refine q_iload_n rfl rfl ?_
                refine q_putv (w9 := ((w1.set 0 (.inr (7, [.ref 1, .ref 3, .ref 7, .ref 9, .ref 10, .ref 11, .ref 12, .ref 13, .ref 25, .ref 37, .ref 39, .int 0, .int 0, .int 1]))).set 41 (.inr (8, [.int 1, .ref 42, .int 0, .int 0, .int 0, .int 0, .int 0, .int 0, .int (-1), .ref 43, .ref 44, .ref 45, .ref 46, .ref 47, .ref 48, .ref 49, .int 0, .int 0, .int 0, .int 5, .int 0, .int 0, .int 0, .int 5, .ref 50, .ref 51, .ref 52, .ref 53, .ref 54, .int 0, .int 0, .ref 55, .ref 56, .ref 57, .int 0, .int 0, .int 0, .int 0, .int 0, .int 0, .ref 58, .ref 59, .ref 60, .ref 61, .ref 62, .ref 63, .ref 64, .int 0, .int 0, .ref 65, .int 0, .ref 66, .int 0])))) rfl rfl rfl (by decide) rfl (by decide) rfl ?_
                refine q_aload_n rfl rfl ?_
                refine q_get rfl rfl rfl rfl ?_
                refine q_iload_n rfl rfl ?_
                refine q_dup2 rfl ⟨rfl, rfl⟩ ?_
                refine q_ialoadv (m := 1) rfl (by decide) (by decide) rfl (by decide +kernel) rfl ?_
                refine q_iconstv (v := (1 : Int32)) rfl (by decide +kernel) ?_
                refine q_iaddv (v := (1 : Int32)) rfl (by decide +kernel) ?_
                refine q_iastorev (m := 1) (w9 := (((w1.set 0 (.inr (7, [.ref 1, .ref 3, .ref 7, .ref 9, .ref 10, .ref 11, .ref 12, .ref 13, .ref 25, .ref 37, .ref 39, .int 0, .int 0, .int 1]))).set 41 (.inr (8, [.int 1, .ref 42, .int 0, .int 0, .int 0, .int 0, .int 0, .int 0, .int (-1), .ref 43, .ref 44, .ref 45, .ref 46, .ref 47, .ref 48, .ref 49, .int 0, .int 0, .int 0, .int 5, .int 0, .int 0, .int 0, .int 5, .ref 50, .ref 51, .ref 52, .ref 53, .ref 54, .int 0, .int 0, .ref 55, .ref 56, .ref 57, .int 0, .int 0, .int 0, .int 0, .int 0, .int 0, .ref 58, .ref 59, .ref 60, .ref 61, .ref 62, .ref 63, .ref 64, .int 0, .int 0, .ref 65, .int 0, .ref 66, .int 0]))).set 42 (.inl (0, .inl ([0, 1]))))) rfl (by decide) rfl (by decide +kernel) (by decide) rfl ?_
                refine q_aload_n rfl rfl ?_
                refine q_get rfl rfl rfl rfl ?_
                refine q_if_ne_t (t := 37) rfl (by decide) (i_ne (a := (1 : Int)) (b := (0 : Int)) (by decide +kernel) (by decide +kernel) (by omega)) ?_
                refine q_iconstv (v := (0 : Int32)) rfl (by decide +kernel) ?_
                refine q_zret rfl rfl (by decide) ?_
                refine bk_inl ?_
                refine q_if_ne_f (t := 65) rfl (by decide) (i_nne (a := (0 : Int)) (b := (0 : Int)) (by decide +kernel) (by decide +kernel) (by omega)) ?_
                refine q_iconstv (v := (0 : Int32)) rfl (by decide +kernel) ?_
                refine q_iret rfl rfl ?_
                refine bk_inl ?_
                refine q_istore rfl (by decide) ?_
                refine q_aload_n rfl rfl ?_
                refine q_call rfl rfl rfl rfl ?_
                refine q_aload_n rfl rfl ?_
                refine q_get rfl rfl rfl rfl ?_
                refine q_iret rfl rfl ?_
                refine bk_inl ?_
                refine q_iload rfl rfl ?_
                refine q_ic_eq_t (t := 2643) rfl (by decide) (i_eq (a := (1 : Int)) (b := (1 : Int)) (by decide +kernel) (by decide +kernel) (by omega)) ?_
                refine q_iload rfl rfl ?_
                refine q_if_ne_t (t := 2660) rfl (by decide) (i_ne (a := (1 : Int)) (b := (0 : Int)) (by decide +kernel) (by decide +kernel) (by omega)) ?_
                refine q_goto (t := 2739) rfl (by decide) ?_
                refine q_iincv (v := (8 : Int32)) rfl rfl (by decide) (by decide +kernel) ?_
                refine q_goto (t := 23) rfl (by decide) ?_
                exact q_end rfl rfl (by decide) (by decide)
              · refine q_ic_lt_f (t := 14) rfl (by decide) (i_nlt (a := (x5).toInt) (b := (0 : Int)) rfl (by decide +kernel) (by omega)) ?_
                refine q_iload_n rfl rfl ?_
                refine q_iload_n rfl rfl ?_
                by_cases h8 : (x5).toInt > 2
                · refine q_ic_gt_t (t := 14) rfl (by decide) (i_lt_r (a := (x5).toInt) (b := (2 : Int)) rfl (by decide +kernel) (by omega)) ?_
                  refine q_iconstv (v := (0 : Int32)) rfl (by decide +kernel) ?_
                  refine q_zret rfl rfl (by decide) ?_
                  refine bk_inl ?_
                  refine q_if_eq_t (t := 64) rfl (by decide) (i_eq (a := (0 : Int)) (b := (0 : Int)) (by decide +kernel) (by decide +kernel) (by omega)) ?_
                  refine q_iconstv (v := (0 : Int32)) rfl (by decide +kernel) ?_
                  refine q_call rfl rfl rfl rfl ?_
                  refine q_iload_n rfl rfl ?_
                  refine q_if_ne_f (t := 25) rfl (by decide) (i_nne (a := (0 : Int)) (b := (0 : Int)) (by decide +kernel) (by decide +kernel) (by omega)) ?_
                  refine q_aload_n rfl rfl ?_
                  refine q_dup rfl rfl ?_
                  refine q_get rfl rfl rfl rfl ?_
                  refine q_iconstv (v := (1 : Int32)) rfl (by decide +kernel) ?_
                  refine q_iaddv (v := (1 : Int32)) rfl (by decide +kernel) ?_
                  refine q_putv (w9 := (w1.set 0 (.inr (7, [.ref 1, .ref 3, .ref 7, .ref 9, .ref 10, .ref 11, .ref 12, .ref 13, .ref 25, .ref 37, .ref 39, .int 0, .int 0, .int 1])))) rfl rfl rfl (by decide) rfl (by decide) rfl ?_
                  refine q_fin rfl rfl rfl ?_
                  refine bk_out rfl rfl ?_
                  refine bk_thr (z := (1 : Int32)) rfl ⟨_, _, rfl⟩ rfl ?_
                  refine bk_inl ?_
                  refine q_istore rfl (by decide) ?_
                  refine q_aload_n rfl rfl ?_
                  refine q_aload_n rfl rfl ?_
                  refine q_iload rfl rfl ?_
                  refine q_iconstv (v := (1 : Int32)) rfl (by decide +kernel) ?_
                  refine q_iaddv (v := (1 : Int32)) rfl (by decide +kernel) ?_
                  refine q_script rfl (by decide) rfl ?_
                  refine q_aload_n rfl rfl ?_
                  refine q_iload rfl rfl ?_
                  refine q_iconstv (v := (2 : Int32)) rfl (by decide +kernel) ?_
                  refine q_iaddv (v := (2 : Int32)) rfl (by decide +kernel) ?_
                  refine q_script rfl (by decide) rfl ?_
                  refine q_aload_n rfl rfl ?_
                  refine q_iload rfl rfl ?_
                  refine q_iconstv (v := (3 : Int32)) rfl (by decide +kernel) ?_
                  refine q_iaddv (v := (3 : Int32)) rfl (by decide +kernel) ?_
                  refine q_script rfl (by decide) rfl ?_
                  refine q_aload_n rfl rfl ?_
                  refine q_iload rfl rfl ?_
                  refine q_iconstv (v := (4 : Int32)) rfl (by decide +kernel) ?_
                  refine q_iaddv (v := (4 : Int32)) rfl (by decide +kernel) ?_
                  refine q_script rfl (by decide) rfl ?_
                  refine q_aload_n rfl rfl ?_
                  refine q_iload rfl rfl ?_
                  refine q_iconstv (v := (5 : Int32)) rfl (by decide +kernel) ?_
                  refine q_iaddv (v := (5 : Int32)) rfl (by decide +kernel) ?_
                  refine q_script rfl (by decide) rfl ?_
                  refine q_aload_n rfl rfl ?_
                  refine q_iload rfl rfl ?_
                  refine q_bipushv (v := (6 : Int32)) rfl (by decide +kernel) ?_
                  refine q_iaddv (v := (6 : Int32)) rfl (by decide +kernel) ?_
                  refine q_script rfl (by decide) rfl ?_
                  refine q_call rfl rfl rfl rfl ?_
                  refine q_aload_n rfl rfl ?_
                  refine q_iconstv (v := (0 : Int32)) rfl (by decide +kernel) ?_
                  refine q_putv (w9 := (w1.set 0 (.inr (7, [.ref 1, .ref 3, .ref 7, .ref 9, .ref 10, .ref 11, .ref 12, .ref 13, .ref 25, .ref 37, .ref 39, .int 0, .int 0, .int 1])))) rfl rfl rfl (by decide) rfl (by decide) rfl ?_
                  refine q_aload_n rfl rfl ?_
                  refine q_iload_n rfl rfl ?_
                  refine q_iconstv (v := (1 : Int32)) rfl (by decide +kernel) ?_
                  refine q_bipushv (v := (10 : Int32)) rfl (by decide +kernel) ?_
                  refine q_call rfl rfl rfl rfl ?_
                  refine q_iload_n rfl rfl ?_
                  refine q_iload_n rfl rfl ?_
                  refine q_ic_lt_f (t := 14) rfl (by decide) (i_nlt (a := (x2).toInt) (b := (1 : Int)) rfl (by decide +kernel) (by omega)) ?_
                  refine q_iload_n rfl rfl ?_
                  refine q_iload_n rfl rfl ?_
                  refine q_ic_gt_f (t := 14) rfl (by decide) (i_nlt_r (a := (x2).toInt) (b := (10 : Int)) rfl (by decide +kernel) (by omega)) ?_
                  refine q_iconstv (v := (1 : Int32)) rfl (by decide +kernel) ?_
                  refine q_goto (t := 15) rfl (by decide) ?_
                  refine q_zret rfl rfl (by decide) ?_
                  refine bk_inl ?_
                  refine q_if_eq_f (t := 54) rfl (by decide) (i_ne (a := (1 : Int)) (b := (0 : Int)) (by decide +kernel) (by decide +kernel) (by omega)) ?_
                  refine q_iload_n rfl rfl ?_
                  refine q_iload rfl rfl ?_
                  refine q_call rfl rfl rfl rfl ?_
                  refine q_iload_n rfl rfl ?_
                  refine q_if_lt_f (t := 25) rfl (by decide) (i_nlt (a := (x3).toInt) (b := (0 : Int)) rfl (by decide +kernel) (by omega)) ?_
                  refine q_iload_n rfl rfl ?_
                  refine q_bipushv (v := (16 : Int32)) rfl (by decide +kernel) ?_
                  refine q_ic_gt_f (t := 25) rfl (by decide) (i_nlt_r (a := (x3).toInt) (b := (16 : Int)) rfl (by decide +kernel) (by omega)) ?_
                  refine q_iload_n rfl rfl ?_
                  refine q_iconstv (v := (1 : Int32)) rfl (by decide +kernel) ?_
                  refine q_ic_lt_f (t := 25) rfl (by decide) (i_nlt (a := (x4).toInt) (b := (1 : Int)) rfl (by decide +kernel) (by omega)) ?_
                  refine q_iload_n rfl rfl ?_
                  refine q_bipushv (v := (48 : Int32)) rfl (by decide +kernel) ?_
                  refine q_ic_gt_f (t := 25) rfl (by decide) (i_nlt_r (a := (x4).toInt) (b := (48 : Int)) rfl (by decide +kernel) (by omega)) ?_
                  refine q_iconstv (v := (1 : Int32)) rfl (by decide +kernel) ?_
                  refine q_goto (t := 26) rfl (by decide) ?_
                  refine q_zret rfl rfl (by decide) ?_
                  refine bk_inl ?_
                  refine q_if_eq_f (t := 54) rfl (by decide) (i_ne (a := (1 : Int)) (b := (0 : Int)) (by decide +kernel) (by decide +kernel) (by omega)) ?_
                  refine q_iload rfl rfl ?_
                  refine q_iconstv (v := (0 : Int32)) rfl (by decide +kernel) ?_
                  refine q_iconstv (v := (2 : Int32)) rfl (by decide +kernel) ?_
                  refine q_call rfl rfl rfl rfl ?_
                  refine q_iload_n rfl rfl ?_
                  refine q_iload_n rfl rfl ?_
                  refine q_ic_lt_f (t := 14) rfl (by decide) (i_nlt (a := (x5).toInt) (b := (0 : Int)) rfl (by decide +kernel) (by omega)) ?_
                  refine q_iload_n rfl rfl ?_
                  refine q_iload_n rfl rfl ?_
                  refine q_ic_gt_t (t := 14) rfl (by decide) (i_lt_r (a := (x5).toInt) (b := (2 : Int)) rfl (by decide +kernel) (by omega)) ?_
                  refine q_iconstv (v := (0 : Int32)) rfl (by decide +kernel) ?_
                  refine q_zret rfl rfl (by decide) ?_
                  refine bk_inl ?_
                  refine q_if_eq_t (t := 54) rfl (by decide) (i_eq (a := (0 : Int)) (b := (0 : Int)) (by decide +kernel) (by decide +kernel) (by omega)) ?_
                  refine q_iconstv (v := (0 : Int32)) rfl (by decide +kernel) ?_
                  refine q_iconstv (v := (1 : Int32)) rfl (by decide +kernel) ?_
                  refine q_iconstv (v := (1 : Int32)) rfl (by decide +kernel) ?_
                  refine q_call rfl rfl rfl rfl ?_
                  refine q_iload_n rfl rfl ?_
                  refine q_if_ne_f (t := 26) rfl (by decide) (i_nne (a := (0 : Int)) (b := (0 : Int)) (by decide +kernel) (by decide +kernel) (by omega)) ?_
                  refine q_aload_n rfl rfl ?_
                  refine q_get rfl rfl rfl rfl ?_
                  refine q_if_ne_f (t := 26) rfl (by decide) (i_nne (a := (0 : Int)) (b := (0 : Int)) (by decide +kernel) (by decide +kernel) (by omega)) ?_
                  refine q_aload_n rfl rfl ?_
                  refine q_iload_n rfl rfl ?_
                  refine q_putv (w9 := ((w1.set 0 (.inr (7, [.ref 1, .ref 3, .ref 7, .ref 9, .ref 10, .ref 11, .ref 12, .ref 13, .ref 25, .ref 37, .ref 39, .int 0, .int 0, .int 1]))).set 41 (.inr (8, [.int 1, .ref 42, .int 0, .int 0, .int 0, .int 0, .int 0, .int 0, .int (-1), .ref 43, .ref 44, .ref 45, .ref 46, .ref 47, .ref 48, .ref 49, .int 0, .int 0, .int 0, .int 5, .int 0, .int 0, .int 0, .int 5, .ref 50, .ref 51, .ref 52, .ref 53, .ref 54, .int 0, .int 0, .ref 55, .ref 56, .ref 57, .int 0, .int 0, .int 0, .int 0, .int 0, .int 0, .ref 58, .ref 59, .ref 60, .ref 61, .ref 62, .ref 63, .ref 64, .int 0, .int 0, .ref 65, .int 0, .ref 66, .int 0])))) rfl rfl rfl (by decide) rfl (by decide) rfl ?_
                  refine q_aload_n rfl rfl ?_
                  refine q_get rfl rfl rfl rfl ?_
                  refine q_iload_n rfl rfl ?_
                  refine q_dup2 rfl ⟨rfl, rfl⟩ ?_
                  refine q_ialoadv (m := 1) rfl (by decide) (by decide) rfl (by decide +kernel) rfl ?_
                  refine q_iconstv (v := (1 : Int32)) rfl (by decide +kernel) ?_
                  refine q_iaddv (v := (1 : Int32)) rfl (by decide +kernel) ?_
                  refine q_iastorev (m := 1) (w9 := (((w1.set 0 (.inr (7, [.ref 1, .ref 3, .ref 7, .ref 9, .ref 10, .ref 11, .ref 12, .ref 13, .ref 25, .ref 37, .ref 39, .int 0, .int 0, .int 1]))).set 41 (.inr (8, [.int 1, .ref 42, .int 0, .int 0, .int 0, .int 0, .int 0, .int 0, .int (-1), .ref 43, .ref 44, .ref 45, .ref 46, .ref 47, .ref 48, .ref 49, .int 0, .int 0, .int 0, .int 5, .int 0, .int 0, .int 0, .int 5, .ref 50, .ref 51, .ref 52, .ref 53, .ref 54, .int 0, .int 0, .ref 55, .ref 56, .ref 57, .int 0, .int 0, .int 0, .int 0, .int 0, .int 0, .ref 58, .ref 59, .ref 60, .ref 61, .ref 62, .ref 63, .ref 64, .int 0, .int 0, .ref 65, .int 0, .ref 66, .int 0]))).set 42 (.inl (0, .inl ([0, 1]))))) rfl (by decide) rfl (by decide +kernel) (by decide) rfl ?_
                  refine q_aload_n rfl rfl ?_
                  refine q_get rfl rfl rfl rfl ?_
                  refine q_if_ne_t (t := 37) rfl (by decide) (i_ne (a := (1 : Int)) (b := (0 : Int)) (by decide +kernel) (by decide +kernel) (by omega)) ?_
                  refine q_iconstv (v := (0 : Int32)) rfl (by decide +kernel) ?_
                  refine q_zret rfl rfl (by decide) ?_
                  refine bk_inl ?_
                  refine q_if_ne_f (t := 65) rfl (by decide) (i_nne (a := (0 : Int)) (b := (0 : Int)) (by decide +kernel) (by decide +kernel) (by omega)) ?_
                  refine q_iconstv (v := (0 : Int32)) rfl (by decide +kernel) ?_
                  refine q_iret rfl rfl ?_
                  refine bk_inl ?_
                  refine q_istore rfl (by decide) ?_
                  refine q_aload_n rfl rfl ?_
                  refine q_call rfl rfl rfl rfl ?_
                  refine q_aload_n rfl rfl ?_
                  refine q_get rfl rfl rfl rfl ?_
                  refine q_iret rfl rfl ?_
                  refine bk_inl ?_
                  refine q_iload rfl rfl ?_
                  refine q_ic_eq_t (t := 2643) rfl (by decide) (i_eq (a := (1 : Int)) (b := (1 : Int)) (by decide +kernel) (by decide +kernel) (by omega)) ?_
                  refine q_iload rfl rfl ?_
                  refine q_if_ne_t (t := 2660) rfl (by decide) (i_ne (a := (1 : Int)) (b := (0 : Int)) (by decide +kernel) (by decide +kernel) (by omega)) ?_
                  refine q_goto (t := 2739) rfl (by decide) ?_
                  refine q_iincv (v := (8 : Int32)) rfl rfl (by decide) (by decide +kernel) ?_
                  refine q_goto (t := 23) rfl (by decide) ?_
                  exact q_end rfl rfl (by decide) (by decide)
                · refine q_ic_gt_f (t := 14) rfl (by decide) (i_nlt_r (a := (x5).toInt) (b := (2 : Int)) rfl (by decide +kernel) (by omega)) ?_
                  refine q_iconstv (v := (1 : Int32)) rfl (by decide +kernel) ?_
                  refine q_goto (t := 15) rfl (by decide) ?_
                  refine q_zret rfl rfl (by decide) ?_
                  refine bk_inl ?_
                  refine q_if_eq_f (t := 64) rfl (by decide) (i_ne (a := (1 : Int)) (b := (0 : Int)) (by decide +kernel) (by decide +kernel) (by omega)) ?_
                  refine q_iload rfl rfl ?_
                  refine q_iconstv (v := (0 : Int32)) rfl (by decide +kernel) ?_
                  refine q_aload_n rfl rfl ?_
                  refine q_get rfl rfl rfl rfl ?_
                  refine q_get rfl rfl rfl rfl ?_
                  refine q_iconstv (v := (1 : Int32)) rfl (by decide +kernel) ?_
                  refine q_isubv (v := (-1 : Int32)) rfl (by decide +kernel) ?_
                  refine q_call rfl rfl rfl rfl ?_
                  refine q_iload_n rfl rfl ?_
                  refine q_iload_n rfl rfl ?_
                  by_cases h9 : (x6).toInt < 0
                  · refine q_ic_lt_t (t := 14) rfl (by decide) (i_lt (a := (x6).toInt) (b := (0 : Int)) rfl (by decide +kernel) (by omega)) ?_
                    refine q_iconstv (v := (0 : Int32)) rfl (by decide +kernel) ?_
                    refine q_zret rfl rfl (by decide) ?_
                    refine bk_inl ?_
                    refine q_if_eq_t (t := 64) rfl (by decide) (i_eq (a := (0 : Int)) (b := (0 : Int)) (by decide +kernel) (by decide +kernel) (by omega)) ?_
                    refine q_iconstv (v := (0 : Int32)) rfl (by decide +kernel) ?_
                    refine q_call rfl rfl rfl rfl ?_
                    refine q_iload_n rfl rfl ?_
                    refine q_if_ne_f (t := 25) rfl (by decide) (i_nne (a := (0 : Int)) (b := (0 : Int)) (by decide +kernel) (by decide +kernel) (by omega)) ?_
                    refine q_aload_n rfl rfl ?_
                    refine q_dup rfl rfl ?_
                    refine q_get rfl rfl rfl rfl ?_
                    refine q_iconstv (v := (1 : Int32)) rfl (by decide +kernel) ?_
                    refine q_iaddv (v := (1 : Int32)) rfl (by decide +kernel) ?_
                    refine q_putv (w9 := (w1.set 0 (.inr (7, [.ref 1, .ref 3, .ref 7, .ref 9, .ref 10, .ref 11, .ref 12, .ref 13, .ref 25, .ref 37, .ref 39, .int 0, .int 0, .int 1])))) rfl rfl rfl (by decide) rfl (by decide) rfl ?_
                    refine q_fin rfl rfl rfl ?_
                    refine bk_out rfl rfl ?_
                    refine bk_thr (z := (1 : Int32)) rfl ⟨_, _, rfl⟩ rfl ?_
                    refine bk_inl ?_
                    refine q_istore rfl (by decide) ?_
                    refine q_aload_n rfl rfl ?_
                    refine q_aload_n rfl rfl ?_
                    refine q_iload rfl rfl ?_
                    refine q_iconstv (v := (1 : Int32)) rfl (by decide +kernel) ?_
                    refine q_iaddv (v := (1 : Int32)) rfl (by decide +kernel) ?_
                    refine q_script rfl (by decide) rfl ?_
                    refine q_aload_n rfl rfl ?_
                    refine q_iload rfl rfl ?_
                    refine q_iconstv (v := (2 : Int32)) rfl (by decide +kernel) ?_
                    refine q_iaddv (v := (2 : Int32)) rfl (by decide +kernel) ?_
                    refine q_script rfl (by decide) rfl ?_
                    refine q_aload_n rfl rfl ?_
                    refine q_iload rfl rfl ?_
                    refine q_iconstv (v := (3 : Int32)) rfl (by decide +kernel) ?_
                    refine q_iaddv (v := (3 : Int32)) rfl (by decide +kernel) ?_
                    refine q_script rfl (by decide) rfl ?_
                    refine q_aload_n rfl rfl ?_
                    refine q_iload rfl rfl ?_
                    refine q_iconstv (v := (4 : Int32)) rfl (by decide +kernel) ?_
                    refine q_iaddv (v := (4 : Int32)) rfl (by decide +kernel) ?_
                    refine q_script rfl (by decide) rfl ?_
                    refine q_aload_n rfl rfl ?_
                    refine q_iload rfl rfl ?_
                    refine q_iconstv (v := (5 : Int32)) rfl (by decide +kernel) ?_
                    refine q_iaddv (v := (5 : Int32)) rfl (by decide +kernel) ?_
                    refine q_script rfl (by decide) rfl ?_
                    refine q_aload_n rfl rfl ?_
                    refine q_iload rfl rfl ?_
                    refine q_bipushv (v := (6 : Int32)) rfl (by decide +kernel) ?_
                    refine q_iaddv (v := (6 : Int32)) rfl (by decide +kernel) ?_
                    refine q_script rfl (by decide) rfl ?_
                    refine q_call rfl rfl rfl rfl ?_
                    refine q_aload_n rfl rfl ?_
                    refine q_iconstv (v := (0 : Int32)) rfl (by decide +kernel) ?_
                    refine q_putv (w9 := (w1.set 0 (.inr (7, [.ref 1, .ref 3, .ref 7, .ref 9, .ref 10, .ref 11, .ref 12, .ref 13, .ref 25, .ref 37, .ref 39, .int 0, .int 0, .int 1])))) rfl rfl rfl (by decide) rfl (by decide) rfl ?_
                    refine q_aload_n rfl rfl ?_
                    refine q_iload_n rfl rfl ?_
                    refine q_iconstv (v := (1 : Int32)) rfl (by decide +kernel) ?_
                    refine q_bipushv (v := (10 : Int32)) rfl (by decide +kernel) ?_
                    refine q_call rfl rfl rfl rfl ?_
                    refine q_iload_n rfl rfl ?_
                    refine q_iload_n rfl rfl ?_
                    refine q_ic_lt_f (t := 14) rfl (by decide) (i_nlt (a := (x2).toInt) (b := (1 : Int)) rfl (by decide +kernel) (by omega)) ?_
                    refine q_iload_n rfl rfl ?_
                    refine q_iload_n rfl rfl ?_
                    refine q_ic_gt_f (t := 14) rfl (by decide) (i_nlt_r (a := (x2).toInt) (b := (10 : Int)) rfl (by decide +kernel) (by omega)) ?_
                    refine q_iconstv (v := (1 : Int32)) rfl (by decide +kernel) ?_
                    refine q_goto (t := 15) rfl (by decide) ?_
                    refine q_zret rfl rfl (by decide) ?_
                    refine bk_inl ?_
                    refine q_if_eq_f (t := 54) rfl (by decide) (i_ne (a := (1 : Int)) (b := (0 : Int)) (by decide +kernel) (by decide +kernel) (by omega)) ?_
                    refine q_iload_n rfl rfl ?_
                    refine q_iload rfl rfl ?_
                    refine q_call rfl rfl rfl rfl ?_
                    refine q_iload_n rfl rfl ?_
                    refine q_if_lt_f (t := 25) rfl (by decide) (i_nlt (a := (x3).toInt) (b := (0 : Int)) rfl (by decide +kernel) (by omega)) ?_
                    refine q_iload_n rfl rfl ?_
                    refine q_bipushv (v := (16 : Int32)) rfl (by decide +kernel) ?_
                    refine q_ic_gt_f (t := 25) rfl (by decide) (i_nlt_r (a := (x3).toInt) (b := (16 : Int)) rfl (by decide +kernel) (by omega)) ?_
                    refine q_iload_n rfl rfl ?_
                    refine q_iconstv (v := (1 : Int32)) rfl (by decide +kernel) ?_
                    refine q_ic_lt_f (t := 25) rfl (by decide) (i_nlt (a := (x4).toInt) (b := (1 : Int)) rfl (by decide +kernel) (by omega)) ?_
                    refine q_iload_n rfl rfl ?_
                    refine q_bipushv (v := (48 : Int32)) rfl (by decide +kernel) ?_
                    refine q_ic_gt_f (t := 25) rfl (by decide) (i_nlt_r (a := (x4).toInt) (b := (48 : Int)) rfl (by decide +kernel) (by omega)) ?_
                    refine q_iconstv (v := (1 : Int32)) rfl (by decide +kernel) ?_
                    refine q_goto (t := 26) rfl (by decide) ?_
                    refine q_zret rfl rfl (by decide) ?_
                    refine bk_inl ?_
                    refine q_if_eq_f (t := 54) rfl (by decide) (i_ne (a := (1 : Int)) (b := (0 : Int)) (by decide +kernel) (by decide +kernel) (by omega)) ?_
                    refine q_iload rfl rfl ?_
                    refine q_iconstv (v := (0 : Int32)) rfl (by decide +kernel) ?_
                    refine q_iconstv (v := (2 : Int32)) rfl (by decide +kernel) ?_
                    refine q_call rfl rfl rfl rfl ?_
                    refine q_iload_n rfl rfl ?_
                    refine q_iload_n rfl rfl ?_
                    refine q_ic_lt_f (t := 14) rfl (by decide) (i_nlt (a := (x5).toInt) (b := (0 : Int)) rfl (by decide +kernel) (by omega)) ?_
                    refine q_iload_n rfl rfl ?_
                    refine q_iload_n rfl rfl ?_
                    refine q_ic_gt_f (t := 14) rfl (by decide) (i_nlt_r (a := (x5).toInt) (b := (2 : Int)) rfl (by decide +kernel) (by omega)) ?_
                    refine q_iconstv (v := (1 : Int32)) rfl (by decide +kernel) ?_
                    refine q_goto (t := 15) rfl (by decide) ?_
                    refine q_zret rfl rfl (by decide) ?_
                    refine bk_inl ?_
                    refine q_if_eq_f (t := 54) rfl (by decide) (i_ne (a := (1 : Int)) (b := (0 : Int)) (by decide +kernel) (by decide +kernel) (by omega)) ?_
                    refine q_iload rfl rfl ?_
                    refine q_iconstv (v := (0 : Int32)) rfl (by decide +kernel) ?_
                    refine q_aload_n rfl rfl ?_
                    refine q_get rfl rfl rfl rfl ?_
                    refine q_iconstv (v := (1 : Int32)) rfl (by decide +kernel) ?_
                    refine q_isubv (v := (-1 : Int32)) rfl (by decide +kernel) ?_
                    refine q_call rfl rfl rfl rfl ?_
                    refine q_iload_n rfl rfl ?_
                    refine q_iload_n rfl rfl ?_
                    refine q_ic_lt_t (t := 14) rfl (by decide) (i_lt (a := (x6).toInt) (b := (0 : Int)) rfl (by decide +kernel) (by omega)) ?_
                    refine q_iconstv (v := (0 : Int32)) rfl (by decide +kernel) ?_
                    refine q_zret rfl rfl (by decide) ?_
                    refine bk_inl ?_
                    refine q_if_eq_t (t := 54) rfl (by decide) (i_eq (a := (0 : Int)) (b := (0 : Int)) (by decide +kernel) (by decide +kernel) (by omega)) ?_
                    refine q_iconstv (v := (0 : Int32)) rfl (by decide +kernel) ?_
                    refine q_iconstv (v := (1 : Int32)) rfl (by decide +kernel) ?_
                    refine q_iconstv (v := (1 : Int32)) rfl (by decide +kernel) ?_
                    refine q_call rfl rfl rfl rfl ?_
                    refine q_iload_n rfl rfl ?_
                    refine q_if_ne_f (t := 26) rfl (by decide) (i_nne (a := (0 : Int)) (b := (0 : Int)) (by decide +kernel) (by decide +kernel) (by omega)) ?_
                    refine q_aload_n rfl rfl ?_
                    refine q_get rfl rfl rfl rfl ?_
                    refine q_if_ne_f (t := 26) rfl (by decide) (i_nne (a := (0 : Int)) (b := (0 : Int)) (by decide +kernel) (by decide +kernel) (by omega)) ?_
                    refine q_aload_n rfl rfl ?_
                    refine q_iload_n rfl rfl ?_
                    refine q_putv (w9 := ((w1.set 0 (.inr (7, [.ref 1, .ref 3, .ref 7, .ref 9, .ref 10, .ref 11, .ref 12, .ref 13, .ref 25, .ref 37, .ref 39, .int 0, .int 0, .int 1]))).set 41 (.inr (8, [.int 1, .ref 42, .int 0, .int 0, .int 0, .int 0, .int 0, .int 0, .int (-1), .ref 43, .ref 44, .ref 45, .ref 46, .ref 47, .ref 48, .ref 49, .int 0, .int 0, .int 0, .int 5, .int 0, .int 0, .int 0, .int 5, .ref 50, .ref 51, .ref 52, .ref 53, .ref 54, .int 0, .int 0, .ref 55, .ref 56, .ref 57, .int 0, .int 0, .int 0, .int 0, .int 0, .int 0, .ref 58, .ref 59, .ref 60, .ref 61, .ref 62, .ref 63, .ref 64, .int 0, .int 0, .ref 65, .int 0, .ref 66, .int 0])))) rfl rfl rfl (by decide) rfl (by decide) rfl ?_
                    refine q_aload_n rfl rfl ?_
                    refine q_get rfl rfl rfl rfl ?_
                    refine q_iload_n rfl rfl ?_
                    refine q_dup2 rfl ⟨rfl, rfl⟩ ?_
                    refine q_ialoadv (m := 1) rfl (by decide) (by decide) rfl (by decide +kernel) rfl ?_
                    refine q_iconstv (v := (1 : Int32)) rfl (by decide +kernel) ?_
                    refine q_iaddv (v := (1 : Int32)) rfl (by decide +kernel) ?_
                    refine q_iastorev (m := 1) (w9 := (((w1.set 0 (.inr (7, [.ref 1, .ref 3, .ref 7, .ref 9, .ref 10, .ref 11, .ref 12, .ref 13, .ref 25, .ref 37, .ref 39, .int 0, .int 0, .int 1]))).set 41 (.inr (8, [.int 1, .ref 42, .int 0, .int 0, .int 0, .int 0, .int 0, .int 0, .int (-1), .ref 43, .ref 44, .ref 45, .ref 46, .ref 47, .ref 48, .ref 49, .int 0, .int 0, .int 0, .int 5, .int 0, .int 0, .int 0, .int 5, .ref 50, .ref 51, .ref 52, .ref 53, .ref 54, .int 0, .int 0, .ref 55, .ref 56, .ref 57, .int 0, .int 0, .int 0, .int 0, .int 0, .int 0, .ref 58, .ref 59, .ref 60, .ref 61, .ref 62, .ref 63, .ref 64, .int 0, .int 0, .ref 65, .int 0, .ref 66, .int 0]))).set 42 (.inl (0, .inl ([0, 1]))))) rfl (by decide) rfl (by decide +kernel) (by decide) rfl ?_
                    refine q_aload_n rfl rfl ?_
                    refine q_get rfl rfl rfl rfl ?_
                    refine q_if_ne_t (t := 37) rfl (by decide) (i_ne (a := (1 : Int)) (b := (0 : Int)) (by decide +kernel) (by decide +kernel) (by omega)) ?_
                    refine q_iconstv (v := (0 : Int32)) rfl (by decide +kernel) ?_
                    refine q_zret rfl rfl (by decide) ?_
                    refine bk_inl ?_
                    refine q_if_ne_f (t := 65) rfl (by decide) (i_nne (a := (0 : Int)) (b := (0 : Int)) (by decide +kernel) (by decide +kernel) (by omega)) ?_
                    refine q_iconstv (v := (0 : Int32)) rfl (by decide +kernel) ?_
                    refine q_iret rfl rfl ?_
                    refine bk_inl ?_
                    refine q_istore rfl (by decide) ?_
                    refine q_aload_n rfl rfl ?_
                    refine q_call rfl rfl rfl rfl ?_
                    refine q_aload_n rfl rfl ?_
                    refine q_get rfl rfl rfl rfl ?_
                    refine q_iret rfl rfl ?_
                    refine bk_inl ?_
                    refine q_iload rfl rfl ?_
                    refine q_ic_eq_t (t := 2643) rfl (by decide) (i_eq (a := (1 : Int)) (b := (1 : Int)) (by decide +kernel) (by decide +kernel) (by omega)) ?_
                    refine q_iload rfl rfl ?_
                    refine q_if_ne_t (t := 2660) rfl (by decide) (i_ne (a := (1 : Int)) (b := (0 : Int)) (by decide +kernel) (by decide +kernel) (by omega)) ?_
                    refine q_goto (t := 2739) rfl (by decide) ?_
                    refine q_iincv (v := (8 : Int32)) rfl rfl (by decide) (by decide +kernel) ?_
                    refine q_goto (t := 23) rfl (by decide) ?_
                    exact q_end rfl rfl (by decide) (by decide)
                  · refine q_ic_lt_f (t := 14) rfl (by decide) (i_nlt (a := (x6).toInt) (b := (0 : Int)) rfl (by decide +kernel) (by omega)) ?_
                    refine q_iload_n rfl rfl ?_
                    refine q_iload_n rfl rfl ?_
                    refine q_ic_gt_t (t := 14) rfl (by decide) (i_lt_r (a := (x6).toInt) (b := (-1 : Int)) rfl (by decide +kernel) (by omega)) ?_
                    refine q_iconstv (v := (0 : Int32)) rfl (by decide +kernel) ?_
                    refine q_zret rfl rfl (by decide) ?_
                    refine bk_inl ?_
                    refine q_if_eq_t (t := 64) rfl (by decide) (i_eq (a := (0 : Int)) (b := (0 : Int)) (by decide +kernel) (by decide +kernel) (by omega)) ?_
                    refine q_iconstv (v := (0 : Int32)) rfl (by decide +kernel) ?_
                    refine q_call rfl rfl rfl rfl ?_
                    refine q_iload_n rfl rfl ?_
                    refine q_if_ne_f (t := 25) rfl (by decide) (i_nne (a := (0 : Int)) (b := (0 : Int)) (by decide +kernel) (by decide +kernel) (by omega)) ?_
                    refine q_aload_n rfl rfl ?_
                    refine q_dup rfl rfl ?_
                    refine q_get rfl rfl rfl rfl ?_
                    refine q_iconstv (v := (1 : Int32)) rfl (by decide +kernel) ?_
                    refine q_iaddv (v := (1 : Int32)) rfl (by decide +kernel) ?_
                    refine q_putv (w9 := (w1.set 0 (.inr (7, [.ref 1, .ref 3, .ref 7, .ref 9, .ref 10, .ref 11, .ref 12, .ref 13, .ref 25, .ref 37, .ref 39, .int 0, .int 0, .int 1])))) rfl rfl rfl (by decide) rfl (by decide) rfl ?_
                    refine q_fin rfl rfl rfl ?_
                    refine bk_out rfl rfl ?_
                    refine bk_thr (z := (1 : Int32)) rfl ⟨_, _, rfl⟩ rfl ?_
                    refine bk_inl ?_
                    refine q_istore rfl (by decide) ?_
                    refine q_aload_n rfl rfl ?_
                    refine q_aload_n rfl rfl ?_
                    refine q_iload rfl rfl ?_
                    refine q_iconstv (v := (1 : Int32)) rfl (by decide +kernel) ?_
                    refine q_iaddv (v := (1 : Int32)) rfl (by decide +kernel) ?_
                    refine q_script rfl (by decide) rfl ?_
                    refine q_aload_n rfl rfl ?_
                    refine q_iload rfl rfl ?_
                    refine q_iconstv (v := (2 : Int32)) rfl (by decide +kernel) ?_
                    refine q_iaddv (v := (2 : Int32)) rfl (by decide +kernel) ?_
                    refine q_script rfl (by decide) rfl ?_
                    refine q_aload_n rfl rfl ?_
                    refine q_iload rfl rfl ?_
                    refine q_iconstv (v := (3 : Int32)) rfl (by decide +kernel) ?_
                    refine q_iaddv (v := (3 : Int32)) rfl (by decide +kernel) ?_
                    refine q_script rfl (by decide) rfl ?_
                    refine q_aload_n rfl rfl ?_
                    refine q_iload rfl rfl ?_
                    refine q_iconstv (v := (4 : Int32)) rfl (by decide +kernel) ?_
                    refine q_iaddv (v := (4 : Int32)) rfl (by decide +kernel) ?_
                    refine q_script rfl (by decide) rfl ?_
                    refine q_aload_n rfl rfl ?_
                    refine q_iload rfl rfl ?_
                    refine q_iconstv (v := (5 : Int32)) rfl (by decide +kernel) ?_
                    refine q_iaddv (v := (5 : Int32)) rfl (by decide +kernel) ?_
                    refine q_script rfl (by decide) rfl ?_
                    refine q_aload_n rfl rfl ?_
                    refine q_iload rfl rfl ?_
                    refine q_bipushv (v := (6 : Int32)) rfl (by decide +kernel) ?_
                    refine q_iaddv (v := (6 : Int32)) rfl (by decide +kernel) ?_
                    refine q_script rfl (by decide) rfl ?_
                    refine q_call rfl rfl rfl rfl ?_
                    refine q_aload_n rfl rfl ?_
                    refine q_iconstv (v := (0 : Int32)) rfl (by decide +kernel) ?_
                    refine q_putv (w9 := (w1.set 0 (.inr (7, [.ref 1, .ref 3, .ref 7, .ref 9, .ref 10, .ref 11, .ref 12, .ref 13, .ref 25, .ref 37, .ref 39, .int 0, .int 0, .int 1])))) rfl rfl rfl (by decide) rfl (by decide) rfl ?_
                    refine q_aload_n rfl rfl ?_
                    refine q_iload_n rfl rfl ?_
                    refine q_iconstv (v := (1 : Int32)) rfl (by decide +kernel) ?_
                    refine q_bipushv (v := (10 : Int32)) rfl (by decide +kernel) ?_
                    refine q_call rfl rfl rfl rfl ?_
                    refine q_iload_n rfl rfl ?_
                    refine q_iload_n rfl rfl ?_
                    refine q_ic_lt_f (t := 14) rfl (by decide) (i_nlt (a := (x2).toInt) (b := (1 : Int)) rfl (by decide +kernel) (by omega)) ?_
                    refine q_iload_n rfl rfl ?_
                    refine q_iload_n rfl rfl ?_
                    refine q_ic_gt_f (t := 14) rfl (by decide) (i_nlt_r (a := (x2).toInt) (b := (10 : Int)) rfl (by decide +kernel) (by omega)) ?_
                    refine q_iconstv (v := (1 : Int32)) rfl (by decide +kernel) ?_
                    refine q_goto (t := 15) rfl (by decide) ?_
                    refine q_zret rfl rfl (by decide) ?_
                    refine bk_inl ?_
                    refine q_if_eq_f (t := 54) rfl (by decide) (i_ne (a := (1 : Int)) (b := (0 : Int)) (by decide +kernel) (by decide +kernel) (by omega)) ?_
                    refine q_iload_n rfl rfl ?_
                    refine q_iload rfl rfl ?_
                    refine q_call rfl rfl rfl rfl ?_
                    refine q_iload_n rfl rfl ?_
                    refine q_if_lt_f (t := 25) rfl (by decide) (i_nlt (a := (x3).toInt) (b := (0 : Int)) rfl (by decide +kernel) (by omega)) ?_
                    refine q_iload_n rfl rfl ?_
                    refine q_bipushv (v := (16 : Int32)) rfl (by decide +kernel) ?_
                    refine q_ic_gt_f (t := 25) rfl (by decide) (i_nlt_r (a := (x3).toInt) (b := (16 : Int)) rfl (by decide +kernel) (by omega)) ?_
                    refine q_iload_n rfl rfl ?_
                    refine q_iconstv (v := (1 : Int32)) rfl (by decide +kernel) ?_
                    refine q_ic_lt_f (t := 25) rfl (by decide) (i_nlt (a := (x4).toInt) (b := (1 : Int)) rfl (by decide +kernel) (by omega)) ?_
                    refine q_iload_n rfl rfl ?_
                    refine q_bipushv (v := (48 : Int32)) rfl (by decide +kernel) ?_
                    refine q_ic_gt_f (t := 25) rfl (by decide) (i_nlt_r (a := (x4).toInt) (b := (48 : Int)) rfl (by decide +kernel) (by omega)) ?_
                    refine q_iconstv (v := (1 : Int32)) rfl (by decide +kernel) ?_
                    refine q_goto (t := 26) rfl (by decide) ?_
                    refine q_zret rfl rfl (by decide) ?_
                    refine bk_inl ?_
                    refine q_if_eq_f (t := 54) rfl (by decide) (i_ne (a := (1 : Int)) (b := (0 : Int)) (by decide +kernel) (by decide +kernel) (by omega)) ?_
                    refine q_iload rfl rfl ?_
                    refine q_iconstv (v := (0 : Int32)) rfl (by decide +kernel) ?_
                    refine q_iconstv (v := (2 : Int32)) rfl (by decide +kernel) ?_
                    refine q_call rfl rfl rfl rfl ?_
                    refine q_iload_n rfl rfl ?_
                    refine q_iload_n rfl rfl ?_
                    refine q_ic_lt_f (t := 14) rfl (by decide) (i_nlt (a := (x5).toInt) (b := (0 : Int)) rfl (by decide +kernel) (by omega)) ?_
                    refine q_iload_n rfl rfl ?_
                    refine q_iload_n rfl rfl ?_
                    refine q_ic_gt_f (t := 14) rfl (by decide) (i_nlt_r (a := (x5).toInt) (b := (2 : Int)) rfl (by decide +kernel) (by omega)) ?_
                    refine q_iconstv (v := (1 : Int32)) rfl (by decide +kernel) ?_
                    refine q_goto (t := 15) rfl (by decide) ?_
                    refine q_zret rfl rfl (by decide) ?_
                    refine bk_inl ?_
                    refine q_if_eq_f (t := 54) rfl (by decide) (i_ne (a := (1 : Int)) (b := (0 : Int)) (by decide +kernel) (by decide +kernel) (by omega)) ?_
                    refine q_iload rfl rfl ?_
                    refine q_iconstv (v := (0 : Int32)) rfl (by decide +kernel) ?_
                    refine q_aload_n rfl rfl ?_
                    refine q_get rfl rfl rfl rfl ?_
                    refine q_iconstv (v := (1 : Int32)) rfl (by decide +kernel) ?_
                    refine q_isubv (v := (-1 : Int32)) rfl (by decide +kernel) ?_
                    refine q_call rfl rfl rfl rfl ?_
                    refine q_iload_n rfl rfl ?_
                    refine q_iload_n rfl rfl ?_
                    refine q_ic_lt_f (t := 14) rfl (by decide) (i_nlt (a := (x6).toInt) (b := (0 : Int)) rfl (by decide +kernel) (by omega)) ?_
                    refine q_iload_n rfl rfl ?_
                    refine q_iload_n rfl rfl ?_
                    refine q_ic_gt_t (t := 14) rfl (by decide) (i_lt_r (a := (x6).toInt) (b := (-1 : Int)) rfl (by decide +kernel) (by omega)) ?_
                    refine q_iconstv (v := (0 : Int32)) rfl (by decide +kernel) ?_
                    refine q_zret rfl rfl (by decide) ?_
                    refine bk_inl ?_
                    refine q_if_eq_t (t := 54) rfl (by decide) (i_eq (a := (0 : Int)) (b := (0 : Int)) (by decide +kernel) (by decide +kernel) (by omega)) ?_
                    refine q_iconstv (v := (0 : Int32)) rfl (by decide +kernel) ?_
                    refine q_iconstv (v := (1 : Int32)) rfl (by decide +kernel) ?_
                    refine q_iconstv (v := (1 : Int32)) rfl (by decide +kernel) ?_
                    refine q_call rfl rfl rfl rfl ?_
                    refine q_iload_n rfl rfl ?_
                    refine q_if_ne_f (t := 26) rfl (by decide) (i_nne (a := (0 : Int)) (b := (0 : Int)) (by decide +kernel) (by decide +kernel) (by omega)) ?_
                    refine q_aload_n rfl rfl ?_
                    refine q_get rfl rfl rfl rfl ?_
                    refine q_if_ne_f (t := 26) rfl (by decide) (i_nne (a := (0 : Int)) (b := (0 : Int)) (by decide +kernel) (by decide +kernel) (by omega)) ?_
                    refine q_aload_n rfl rfl ?_
                    refine q_iload_n rfl rfl ?_
                    refine q_putv (w9 := ((w1.set 0 (.inr (7, [.ref 1, .ref 3, .ref 7, .ref 9, .ref 10, .ref 11, .ref 12, .ref 13, .ref 25, .ref 37, .ref 39, .int 0, .int 0, .int 1]))).set 41 (.inr (8, [.int 1, .ref 42, .int 0, .int 0, .int 0, .int 0, .int 0, .int 0, .int (-1), .ref 43, .ref 44, .ref 45, .ref 46, .ref 47, .ref 48, .ref 49, .int 0, .int 0, .int 0, .int 5, .int 0, .int 0, .int 0, .int 5, .ref 50, .ref 51, .ref 52, .ref 53, .ref 54, .int 0, .int 0, .ref 55, .ref 56, .ref 57, .int 0, .int 0, .int 0, .int 0, .int 0, .int 0, .ref 58, .ref 59, .ref 60, .ref 61, .ref 62, .ref 63, .ref 64, .int 0, .int 0, .ref 65, .int 0, .ref 66, .int 0])))) rfl rfl rfl (by decide) rfl (by decide) rfl ?_
                    refine q_aload_n rfl rfl ?_
                    refine q_get rfl rfl rfl rfl ?_
                    refine q_iload_n rfl rfl ?_
                    refine q_dup2 rfl ⟨rfl, rfl⟩ ?_
                    refine q_ialoadv (m := 1) rfl (by decide) (by decide) rfl (by decide +kernel) rfl ?_
                    refine q_iconstv (v := (1 : Int32)) rfl (by decide +kernel) ?_
                    refine q_iaddv (v := (1 : Int32)) rfl (by decide +kernel) ?_
                    refine q_iastorev (m := 1) (w9 := (((w1.set 0 (.inr (7, [.ref 1, .ref 3, .ref 7, .ref 9, .ref 10, .ref 11, .ref 12, .ref 13, .ref 25, .ref 37, .ref 39, .int 0, .int 0, .int 1]))).set 41 (.inr (8, [.int 1, .ref 42, .int 0, .int 0, .int 0, .int 0, .int 0, .int 0, .int (-1), .ref 43, .ref 44, .ref 45, .ref 46, .ref 47, .ref 48, .ref 49, .int 0, .int 0, .int 0, .int 5, .int 0, .int 0, .int 0, .int 5, .ref 50, .ref 51, .ref 52, .ref 53, .ref 54, .int 0, .int 0, .ref 55, .ref 56, .ref 57, .int 0, .int 0, .int 0, .int 0, .int 0, .int 0, .ref 58, .ref 59, .ref 60, .ref 61, .ref 62, .ref 63, .ref 64, .int 0, .int 0, .ref 65, .int 0, .ref 66, .int 0]))).set 42 (.inl (0, .inl ([0, 1]))))) rfl (by decide) rfl (by decide +kernel) (by decide) rfl ?_
                    refine q_aload_n rfl rfl ?_
                    refine q_get rfl rfl rfl rfl ?_
                    refine q_if_ne_t (t := 37) rfl (by decide) (i_ne (a := (1 : Int)) (b := (0 : Int)) (by decide +kernel) (by decide +kernel) (by omega)) ?_
                    refine q_iconstv (v := (0 : Int32)) rfl (by decide +kernel) ?_
                    refine q_zret rfl rfl (by decide) ?_
                    refine bk_inl ?_
                    refine q_if_ne_f (t := 65) rfl (by decide) (i_nne (a := (0 : Int)) (b := (0 : Int)) (by decide +kernel) (by decide +kernel) (by omega)) ?_
                    refine q_iconstv (v := (0 : Int32)) rfl (by decide +kernel) ?_
                    refine q_iret rfl rfl ?_
                    refine bk_inl ?_
                    refine q_istore rfl (by decide) ?_
                    refine q_aload_n rfl rfl ?_
                    refine q_call rfl rfl rfl rfl ?_
                    refine q_aload_n rfl rfl ?_
                    refine q_get rfl rfl rfl rfl ?_
                    refine q_iret rfl rfl ?_
                    refine bk_inl ?_
                    refine q_iload rfl rfl ?_
                    refine q_ic_eq_t (t := 2643) rfl (by decide) (i_eq (a := (1 : Int)) (b := (1 : Int)) (by decide +kernel) (by decide +kernel) (by omega)) ?_
                    refine q_iload rfl rfl ?_
                    refine q_if_ne_t (t := 2660) rfl (by decide) (i_ne (a := (1 : Int)) (b := (0 : Int)) (by decide +kernel) (by decide +kernel) (by omega)) ?_
                    refine q_goto (t := 2739) rfl (by decide) ?_
                    refine q_iincv (v := (8 : Int32)) rfl rfl (by decide) (by decide +kernel) ?_
                    refine q_goto (t := 23) rfl (by decide) ?_
                    exact q_end rfl rfl (by decide) (by decide)
set_option maxRecDepth 100000 in
set_option maxHeartbeats 4000000 in
theorem op_40 {x0 x1 x2 x3 x4 x5 x6 x7 : Int32} : Wp [x0, x1, x2, x3, x4, x5, x6, x7] 100 296 2676 l1 [] w1 68 8870 Qlaw := by
  refine q_aload_n rfl rfl ?_
  refine q_call rfl rfl rfl rfl ?_
  refine q_aload_n rfl rfl ?_
  refine q_get rfl rfl rfl rfl ?_
  refine q_get rfl rfl rfl rfl ?_
  refine q_if_ne_f (t := 12) rfl (by decide) (i_nne (a := (0 : Int)) (b := (0 : Int)) (by decide +kernel) (by decide +kernel) (by omega)) ?_
  refine q_iconstv (v := (-1 : Int32)) rfl (by decide +kernel) ?_
  refine q_iret rfl rfl ?_
  refine bk_inl ?_
  refine q_aload_n rfl rfl ?_
  refine q_call rfl rfl rfl rfl ?_
  refine q_aload_n rfl rfl ?_
  refine q_iconstv (v := (0 : Int32)) rfl (by decide +kernel) ?_
  refine q_putv (w9 := w1) rfl rfl rfl (by decide) rfl (by decide) rfl ?_
  refine q_aload_n rfl rfl ?_
  refine q_get rfl rfl rfl rfl ?_
  refine q_if_ne_f (t := 14) rfl (by decide) (i_nne (a := (0 : Int)) (b := (0 : Int)) (by decide +kernel) (by decide +kernel) (by omega)) ?_
  refine q_iconstv (v := (-1 : Int32)) rfl (by decide +kernel) ?_
  refine q_iret rfl rfl ?_
  refine bk_inl ?_
  refine q_ic_eq_t (t := 2739) rfl (by decide) (i_eq (a := (-1 : Int)) (b := (-1 : Int)) (by decide +kernel) (by decide +kernel) (by omega)) ?_
  refine q_iincv (v := (8 : Int32)) rfl rfl (by decide) (by decide +kernel) ?_
  refine q_goto (t := 23) rfl (by decide) ?_
  exact q_end rfl rfl (by decide) (by decide)
set_option maxRecDepth 100000 in
set_option maxHeartbeats 4000000 in
theorem op_41 {x0 x1 x2 x3 x4 x5 x6 x7 : Int32} : Wp [x0, x1, x2, x3, x4, x5, x6, x7] 100 296 2689 l1 [] w1 68 8870 Qlaw := by
  refine q_aload_n rfl rfl ?_
  refine q_aload_n rfl rfl ?_
  refine q_iload rfl rfl ?_
  refine q_iconstv (v := (1 : Int32)) rfl (by decide +kernel) ?_
  refine q_iaddv (v := (1 : Int32)) rfl (by decide +kernel) ?_
  refine q_script rfl (by decide) rfl ?_
  refine q_call rfl rfl rfl rfl ?_
  refine q_iload_n rfl rfl ?_
  by_cases h1 : (x1).toInt = 0
  · skip
    obtain rfl : x1 = (0 : Int32) := i_eq (a := (x1).toInt) (b := 0) rfl (by decide +kernel) (by omega)
    refine q_lsw (t := 28) (off := 27) rfl (by decide) (by decide +kernel) (by decide) ?_
    refine q_aload_n rfl rfl ?_
    refine q_get rfl rfl rfl rfl ?_
    refine q_iret rfl rfl ?_
    refine bk_inl ?_
    refine q_aload_n rfl rfl ?_
    refine q_aload_n rfl rfl ?_
    refine q_iload rfl rfl ?_
    refine q_iconstv (v := (1 : Int32)) rfl (by decide +kernel) ?_
    refine q_iaddv (v := (1 : Int32)) rfl (by decide +kernel) ?_
    refine q_script rfl (by decide) rfl ?_
    refine q_call rfl rfl rfl rfl ?_
    refine q_aload_n rfl rfl ?_
    refine q_iconstv (v := (0 : Int32)) rfl (by decide +kernel) ?_
    refine q_putv (w9 := w1) rfl rfl rfl (by decide) rfl (by decide) rfl ?_
    refine q_iload_n rfl rfl ?_
    refine q_iconstv (v := (0 : Int32)) rfl (by decide +kernel) ?_
    refine q_iconstv (v := (1 : Int32)) rfl (by decide +kernel) ?_
    refine q_call rfl rfl rfl rfl ?_
    refine q_iload_n rfl rfl ?_
    refine q_iload_n rfl rfl ?_
    refine q_ic_lt_f (t := 14) rfl (by decide) (i_nlt (a := (0 : Int)) (b := (0 : Int)) (by decide +kernel) (by decide +kernel) (by omega)) ?_
    refine q_iload_n rfl rfl ?_
    refine q_iload_n rfl rfl ?_
    refine q_ic_gt_f (t := 14) rfl (by decide) (i_nlt_r (a := (0 : Int)) (b := (1 : Int)) (by decide +kernel) (by decide +kernel) (by omega)) ?_
    refine q_iconstv (v := (1 : Int32)) rfl (by decide +kernel) ?_
    refine q_goto (t := 15) rfl (by decide) ?_
    refine q_zret rfl rfl (by decide) ?_
    refine bk_inl ?_
    refine q_if_eq_f (t := 23) rfl (by decide) (i_ne (a := (1 : Int)) (b := (0 : Int)) (by decide +kernel) (by decide +kernel) (by omega)) ?_
    refine q_aload_n rfl rfl ?_
    refine q_get rfl rfl rfl rfl ?_
    refine q_iload_n rfl rfl ?_
    refine q_ialoadv (m := 0) rfl (by decide) (by decide) rfl (by decide +kernel) rfl ?_
    refine q_goto (t := 24) rfl (by decide) ?_
    refine q_iret rfl rfl ?_
    refine bk_inl ?_
    refine q_ic_eq_t (t := 2739) rfl (by decide) (i_eq (a := (0 : Int)) (b := (0 : Int)) (by decide +kernel) (by decide +kernel) (by omega)) ?_
    refine q_iincv (v := (8 : Int32)) rfl rfl (by decide) (by decide +kernel) ?_
    refine q_goto (t := 23) rfl (by decide) ?_
    exact q_end rfl rfl (by decide) (by decide)
  by_cases h2 : (x1).toInt = 1
  · skip
    obtain rfl : x1 = (1 : Int32) := i_eq (a := (x1).toInt) (b := 1) rfl (by decide +kernel) (by omega)
    refine q_lsw (t := 33) (off := 32) rfl (by decide) (by decide +kernel) (by decide) ?_
    refine q_aload_n rfl rfl ?_
    refine q_get rfl rfl rfl rfl ?_
    refine q_iret rfl rfl ?_
    refine bk_inl ?_
    refine q_aload_n rfl rfl ?_
    refine q_aload_n rfl rfl ?_
    refine q_iload rfl rfl ?_
    refine q_iconstv (v := (1 : Int32)) rfl (by decide +kernel) ?_
    refine q_iaddv (v := (1 : Int32)) rfl (by decide +kernel) ?_
    refine q_script rfl (by decide) rfl ?_
    refine q_call rfl rfl rfl rfl ?_
    refine q_aload_n rfl rfl ?_
    refine q_iconstv (v := (0 : Int32)) rfl (by decide +kernel) ?_
    refine q_putv (w9 := w1) rfl rfl rfl (by decide) rfl (by decide) rfl ?_
    refine q_iload_n rfl rfl ?_
    refine q_iconstv (v := (0 : Int32)) rfl (by decide +kernel) ?_
    refine q_iconstv (v := (1 : Int32)) rfl (by decide +kernel) ?_
    refine q_call rfl rfl rfl rfl ?_
    refine q_iload_n rfl rfl ?_
    refine q_iload_n rfl rfl ?_
    refine q_ic_lt_f (t := 14) rfl (by decide) (i_nlt (a := (1 : Int)) (b := (0 : Int)) (by decide +kernel) (by decide +kernel) (by omega)) ?_
    refine q_iload_n rfl rfl ?_
    refine q_iload_n rfl rfl ?_
    refine q_ic_gt_f (t := 14) rfl (by decide) (i_nlt_r (a := (1 : Int)) (b := (1 : Int)) (by decide +kernel) (by decide +kernel) (by omega)) ?_
    refine q_iconstv (v := (1 : Int32)) rfl (by decide +kernel) ?_
    refine q_goto (t := 15) rfl (by decide) ?_
    refine q_zret rfl rfl (by decide) ?_
    refine bk_inl ?_
    refine q_if_eq_f (t := 23) rfl (by decide) (i_ne (a := (1 : Int)) (b := (0 : Int)) (by decide +kernel) (by decide +kernel) (by omega)) ?_
    refine q_aload_n rfl rfl ?_
    refine q_get rfl rfl rfl rfl ?_
    refine q_iload_n rfl rfl ?_
    refine q_ialoadv (m := 1) rfl (by decide) (by decide) rfl (by decide +kernel) rfl ?_
    refine q_goto (t := 24) rfl (by decide) ?_
    refine q_iret rfl rfl ?_
    refine bk_inl ?_
    refine q_ic_eq_t (t := 2739) rfl (by decide) (i_eq (a := (0 : Int)) (b := (0 : Int)) (by decide +kernel) (by decide +kernel) (by omega)) ?_
    refine q_iincv (v := (8 : Int32)) rfl rfl (by decide) (by decide +kernel) ?_
    refine q_goto (t := 23) rfl (by decide) ?_
    exact q_end rfl rfl (by decide) (by decide)
  refine q_lsw (t := 38) (off := 37) rfl (by decide) (by simp [Op.lookupswitch.offset, Ne.symm h1, Ne.symm h2]) (by decide) ?_
  refine q_iconstv (v := (-1 : Int32)) rfl (by decide +kernel) ?_
  refine q_iret rfl rfl ?_
  refine bk_inl ?_
  refine q_aload_n rfl rfl ?_
  refine q_aload_n rfl rfl ?_
  refine q_iload rfl rfl ?_
  refine q_iconstv (v := (1 : Int32)) rfl (by decide +kernel) ?_
  refine q_iaddv (v := (1 : Int32)) rfl (by decide +kernel) ?_
  refine q_script rfl (by decide) rfl ?_
  refine q_call rfl rfl rfl rfl ?_
  refine q_aload_n rfl rfl ?_
  refine q_iconstv (v := (0 : Int32)) rfl (by decide +kernel) ?_
  refine q_putv (w9 := w1) rfl rfl rfl (by decide) rfl (by decide) rfl ?_
  refine q_iload_n rfl rfl ?_
  refine q_iconstv (v := (0 : Int32)) rfl (by decide +kernel) ?_
  refine q_iconstv (v := (1 : Int32)) rfl (by decide +kernel) ?_
  refine q_call rfl rfl rfl rfl ?_
  refine q_iload_n rfl rfl ?_
  refine q_iload_n rfl rfl ?_
  by_cases h3 : (x1).toInt < 0
  · refine q_ic_lt_t (t := 14) rfl (by decide) (i_lt (a := (x1).toInt) (b := (0 : Int)) rfl (by decide +kernel) (by omega)) ?_
    refine q_iconstv (v := (0 : Int32)) rfl (by decide +kernel) ?_
    refine q_zret rfl rfl (by decide) ?_
    refine bk_inl ?_
    refine q_if_eq_t (t := 23) rfl (by decide) (i_eq (a := (0 : Int)) (b := (0 : Int)) (by decide +kernel) (by decide +kernel) (by omega)) ?_
    refine q_iconstv (v := (-1 : Int32)) rfl (by decide +kernel) ?_
    refine q_iret rfl rfl ?_
    refine bk_inl ?_
    refine q_ic_eq_t (t := 2739) rfl (by decide) (i_eq (a := (-1 : Int)) (b := (-1 : Int)) (by decide +kernel) (by decide +kernel) (by omega)) ?_
    refine q_iincv (v := (8 : Int32)) rfl rfl (by decide) (by decide +kernel) ?_
    refine q_goto (t := 23) rfl (by decide) ?_
    exact q_end rfl rfl (by decide) (by decide)
  · refine q_ic_lt_f (t := 14) rfl (by decide) (i_nlt (a := (x1).toInt) (b := (0 : Int)) rfl (by decide +kernel) (by omega)) ?_
    refine q_iload_n rfl rfl ?_
    refine q_iload_n rfl rfl ?_
    refine q_ic_gt_t (t := 14) rfl (by decide) (i_lt_r (a := (x1).toInt) (b := (1 : Int)) rfl (by decide +kernel) (by omega)) ?_
    refine q_iconstv (v := (0 : Int32)) rfl (by decide +kernel) ?_
    refine q_zret rfl rfl (by decide) ?_
    refine bk_inl ?_
    refine q_if_eq_t (t := 23) rfl (by decide) (i_eq (a := (0 : Int)) (b := (0 : Int)) (by decide +kernel) (by decide +kernel) (by omega)) ?_
    refine q_iconstv (v := (-1 : Int32)) rfl (by decide +kernel) ?_
    refine q_iret rfl rfl ?_
    refine bk_inl ?_
    refine q_ic_eq_t (t := 2739) rfl (by decide) (i_eq (a := (-1 : Int)) (b := (-1 : Int)) (by decide +kernel) (by decide +kernel) (by omega)) ?_
    refine q_iincv (v := (8 : Int32)) rfl rfl (by decide) (by decide +kernel) ?_
    refine q_goto (t := 23) rfl (by decide) ?_
    exact q_end rfl rfl (by decide) (by decide)
set_option maxRecDepth 100000 in
set_option maxHeartbeats 4000000 in
theorem op_42 {x0 x1 x2 x3 x4 x5 x6 x7 : Int32} : Wp [x0, x1, x2, x3, x4, x5, x6, x7] 100 296 2714 l1 [] w1 68 8870 Qlaw := by
  refine q_aload_n rfl rfl ?_
  refine q_aload_n rfl rfl ?_
  refine q_iload rfl rfl ?_
  refine q_iconstv (v := (1 : Int32)) rfl (by decide +kernel) ?_
  refine q_iaddv (v := (1 : Int32)) rfl (by decide +kernel) ?_
  refine q_script rfl (by decide) rfl ?_
  refine q_call rfl rfl rfl rfl ?_
  refine q_iload_n rfl rfl ?_
  by_cases h1 : (x1).toInt < 0
  · refine q_tsw_o (t := 52) rfl (Or.inl (by omega)) (by decide) ?_
    refine q_iconstv (v := (-1 : Int32)) rfl (by decide +kernel) ?_
    refine q_iret rfl rfl ?_
    refine bk_inl ?_
    refine q_aload_n rfl rfl ?_
    refine q_aload_n rfl rfl ?_
    refine q_iload rfl rfl ?_
    refine q_iconstv (v := (1 : Int32)) rfl (by decide +kernel) ?_
    refine q_iaddv (v := (1 : Int32)) rfl (by decide +kernel) ?_
    refine q_script rfl (by decide) rfl ?_
    refine q_call rfl rfl rfl rfl ?_
    refine q_aload_n rfl rfl ?_
    refine q_iconstv (v := (0 : Int32)) rfl (by decide +kernel) ?_
    refine q_putv (w9 := w1) rfl rfl rfl (by decide) rfl (by decide) rfl ?_
    refine q_iload_n rfl rfl ?_
    refine q_if_ne_t (t := 16) rfl (by decide) (i_ne (a := (x1).toInt) (b := (0 : Int)) rfl (by decide +kernel) (by omega)) ?_
    refine q_iload_n rfl rfl ?_
    refine q_iconstv (v := (1 : Int32)) rfl (by decide +kernel) ?_
    refine q_ic_ne_t (t := 28) rfl (by decide) (i_ne (a := (x1).toInt) (b := (1 : Int)) rfl (by decide +kernel) (by omega)) ?_
    refine q_iload_n rfl rfl ?_
    refine q_iconstv (v := (2 : Int32)) rfl (by decide +kernel) ?_
    refine q_ic_ne_t (t := 40) rfl (by decide) (i_ne (a := (x1).toInt) (b := (2 : Int)) rfl (by decide +kernel) (by omega)) ?_
    refine q_iconstv (v := (-1 : Int32)) rfl (by decide +kernel) ?_
    refine q_iret rfl rfl ?_
    refine bk_inl ?_
    refine q_ic_eq_t (t := 2739) rfl (by decide) (i_eq (a := (-1 : Int)) (b := (-1 : Int)) (by decide +kernel) (by decide +kernel) (by omega)) ?_
    refine q_iincv (v := (8 : Int32)) rfl rfl (by decide) (by decide +kernel) ?_
    refine q_goto (t := 23) rfl (by decide) ?_
    exact q_end rfl rfl (by decide) (by decide)
  by_cases h2 : (x1).toInt > 2
  · refine q_tsw_o (t := 52) rfl (Or.inr (by omega)) (by decide) ?_
    refine q_iconstv (v := (-1 : Int32)) rfl (by decide +kernel) ?_
    refine q_iret rfl rfl ?_
    refine bk_inl ?_
    refine q_aload_n rfl rfl ?_
    refine q_aload_n rfl rfl ?_
    refine q_iload rfl rfl ?_
    refine q_iconstv (v := (1 : Int32)) rfl (by decide +kernel) ?_
    refine q_iaddv (v := (1 : Int32)) rfl (by decide +kernel) ?_
    refine q_script rfl (by decide) rfl ?_
    refine q_call rfl rfl rfl rfl ?_
    refine q_aload_n rfl rfl ?_
    refine q_iconstv (v := (0 : Int32)) rfl (by decide +kernel) ?_
    refine q_putv (w9 := w1) rfl rfl rfl (by decide) rfl (by decide) rfl ?_
    refine q_iload_n rfl rfl ?_
    refine q_if_ne_t (t := 16) rfl (by decide) (i_ne (a := (x1).toInt) (b := (0 : Int)) rfl (by decide +kernel) (by omega)) ?_
    refine q_iload_n rfl rfl ?_
    refine q_iconstv (v := (1 : Int32)) rfl (by decide +kernel) ?_
    refine q_ic_ne_t (t := 28) rfl (by decide) (i_ne (a := (x1).toInt) (b := (1 : Int)) rfl (by decide +kernel) (by omega)) ?_
    refine q_iload_n rfl rfl ?_
    refine q_iconstv (v := (2 : Int32)) rfl (by decide +kernel) ?_
    refine q_ic_ne_t (t := 40) rfl (by decide) (i_ne (a := (x1).toInt) (b := (2 : Int)) rfl (by decide +kernel) (by omega)) ?_
    refine q_iconstv (v := (-1 : Int32)) rfl (by decide +kernel) ?_
    refine q_iret rfl rfl ?_
    refine bk_inl ?_
    refine q_ic_eq_t (t := 2739) rfl (by decide) (i_eq (a := (-1 : Int)) (b := (-1 : Int)) (by decide +kernel) (by decide +kernel) (by omega)) ?_
    refine q_iincv (v := (8 : Int32)) rfl rfl (by decide) (by decide +kernel) ?_
    refine q_goto (t := 23) rfl (by decide) ?_
    exact q_end rfl rfl (by decide) (by decide)
  by_cases h3 : (x1).toInt = 0
  · skip
    obtain rfl : x1 = (0 : Int32) := i_eq (a := (x1).toInt) (b := 0) rfl (by decide +kernel) (by omega)
    refine q_tsw_i (t := 28) rfl (by decide +kernel) rfl (by decide) ?_
    refine q_aload_n rfl rfl ?_
    refine q_get rfl rfl rfl rfl ?_
    refine q_get rfl rfl rfl rfl ?_
    refine q_iret rfl rfl ?_
    refine bk_inl ?_
    refine q_aload_n rfl rfl ?_
    refine q_aload_n rfl rfl ?_
    refine q_iload rfl rfl ?_
    refine q_iconstv (v := (1 : Int32)) rfl (by decide +kernel) ?_
    refine q_iaddv (v := (1 : Int32)) rfl (by decide +kernel) ?_
    refine q_script rfl (by decide) rfl ?_
    refine q_call rfl rfl rfl rfl ?_
    refine q_aload_n rfl rfl ?_
    refine q_iconstv (v := (0 : Int32)) rfl (by decide +kernel) ?_
    refine q_putv (w9 := w1) rfl rfl rfl (by decide) rfl (by decide) rfl ?_
    refine q_iload_n rfl rfl ?_
    refine q_if_ne_f (t := 16) rfl (by decide) (i_nne (a := (0 : Int)) (b := (0 : Int)) (by decide +kernel) (by decide +kernel) (by omega)) ?_
    refine q_aload_n rfl rfl ?_
    refine q_get rfl rfl rfl rfl ?_
    refine q_goto (t := 41) rfl (by decide) ?_
    refine q_iret rfl rfl ?_
    refine bk_inl ?_
    refine q_ic_eq_t (t := 2739) rfl (by decide) (i_eq (a := (0 : Int)) (b := (0 : Int)) (by decide +kernel) (by decide +kernel) (by omega)) ?_
    refine q_iincv (v := (8 : Int32)) rfl rfl (by decide) (by decide +kernel) ?_
    refine q_goto (t := 23) rfl (by decide) ?_
    exact q_end rfl rfl (by decide) (by decide)
  by_cases h4 : (x1).toInt = 1
  · skip
    obtain rfl : x1 = (1 : Int32) := i_eq (a := (x1).toInt) (b := 1) rfl (by decide +kernel) (by omega)
    refine q_tsw_i (t := 36) rfl (by decide +kernel) rfl (by decide) ?_
    refine q_aload_n rfl rfl ?_
    refine q_get rfl rfl rfl rfl ?_
    refine q_get rfl rfl rfl rfl ?_
    refine q_iret rfl rfl ?_
    refine bk_inl ?_
    refine q_aload_n rfl rfl ?_
    refine q_aload_n rfl rfl ?_
    refine q_iload rfl rfl ?_
    refine q_iconstv (v := (1 : Int32)) rfl (by decide +kernel) ?_
    refine q_iaddv (v := (1 : Int32)) rfl (by decide +kernel) ?_
    refine q_script rfl (by decide) rfl ?_
    refine q_call rfl rfl rfl rfl ?_
    refine q_aload_n rfl rfl ?_
    refine q_iconstv (v := (0 : Int32)) rfl (by decide +kernel) ?_
    refine q_putv (w9 := w1) rfl rfl rfl (by decide) rfl (by decide) rfl ?_
    refine q_iload_n rfl rfl ?_
    refine q_if_ne_t (t := 16) rfl (by decide) (i_ne (a := (1 : Int)) (b := (0 : Int)) (by decide +kernel) (by decide +kernel) (by omega)) ?_
    refine q_iload_n rfl rfl ?_
    refine q_iconstv (v := (1 : Int32)) rfl (by decide +kernel) ?_
    refine q_ic_ne_f (t := 28) rfl (by decide) (i_nne (a := (1 : Int)) (b := (1 : Int)) (by decide +kernel) (by decide +kernel) (by omega)) ?_
    refine q_aload_n rfl rfl ?_
    refine q_get rfl rfl rfl rfl ?_
    refine q_goto (t := 41) rfl (by decide) ?_
    refine q_iret rfl rfl ?_
    refine bk_inl ?_
    refine q_ic_eq_t (t := 2739) rfl (by decide) (i_eq (a := (0 : Int)) (b := (0 : Int)) (by decide +kernel) (by decide +kernel) (by omega)) ?_
    refine q_iincv (v := (8 : Int32)) rfl rfl (by decide) (by decide +kernel) ?_
    refine q_goto (t := 23) rfl (by decide) ?_
    exact q_end rfl rfl (by decide) (by decide)
  obtain rfl : x1 = (2 : Int32) := i_eq (a := (x1).toInt) (b := 2) rfl (by decide +kernel) (by omega)
  refine q_tsw_i (t := 44) rfl (by decide +kernel) rfl (by decide) ?_
  refine q_aload_n rfl rfl ?_
  refine q_get rfl rfl rfl rfl ?_
  refine q_get rfl rfl rfl rfl ?_
  refine q_iret rfl rfl ?_
  refine bk_inl ?_
  refine q_aload_n rfl rfl ?_
  refine q_aload_n rfl rfl ?_
  refine q_iload rfl rfl ?_
  refine q_iconstv (v := (1 : Int32)) rfl (by decide +kernel) ?_
  refine q_iaddv (v := (1 : Int32)) rfl (by decide +kernel) ?_
  refine q_script rfl (by decide) rfl ?_
  refine q_call rfl rfl rfl rfl ?_
  refine q_aload_n rfl rfl ?_
  refine q_iconstv (v := (0 : Int32)) rfl (by decide +kernel) ?_
  refine q_putv (w9 := w1) rfl rfl rfl (by decide) rfl (by decide) rfl ?_
  refine q_iload_n rfl rfl ?_
  refine q_if_ne_t (t := 16) rfl (by decide) (i_ne (a := (2 : Int)) (b := (0 : Int)) (by decide +kernel) (by decide +kernel) (by omega)) ?_
  refine q_iload_n rfl rfl ?_
  refine q_iconstv (v := (1 : Int32)) rfl (by decide +kernel) ?_
  refine q_ic_ne_t (t := 28) rfl (by decide) (i_ne (a := (2 : Int)) (b := (1 : Int)) (by decide +kernel) (by decide +kernel) (by omega)) ?_
  refine q_iload_n rfl rfl ?_
  refine q_iconstv (v := (2 : Int32)) rfl (by decide +kernel) ?_
  refine q_ic_ne_f (t := 40) rfl (by decide) (i_nne (a := (2 : Int)) (b := (2 : Int)) (by decide +kernel) (by decide +kernel) (by omega)) ?_
  refine q_aload_n rfl rfl ?_
  refine q_get rfl rfl rfl rfl ?_
  refine q_goto (t := 41) rfl (by decide) ?_
  refine q_iret rfl rfl ?_
  refine bk_inl ?_
  refine q_ic_eq_t (t := 2739) rfl (by decide) (i_eq (a := (0 : Int)) (b := (0 : Int)) (by decide +kernel) (by decide +kernel) (by omega)) ?_
  refine q_iincv (v := (8 : Int32)) rfl rfl (by decide) (by decide +kernel) ?_
  refine q_goto (t := 23) rfl (by decide) ?_
  exact q_end rfl rfl (by decide) (by decide)
