/-! ===== the calls on a fresh object, one by one ===== -/
set_option maxRecDepth 100000 in
set_option maxHeartbeats 4000000 in
theorem op_8 {x0 x1 x2 x3 x4 x5 x6 x7 : Int32} : Wp [x0, x1, x2, x3, x4, x5, x6, x7] 100 296 607 l1 [] w1 68 8870 Qlaw := by
  refine q_aload_n rfl rfl ?_
  refine q_aload_n rfl rfl ?_
  refine q_iload rfl rfl ?_
  refine q_iconstv (v := (1 : Int32)) rfl (by decide +kernel) ?_
  refine q_iaddv (v := (1 : Int32)) rfl (by decide +kernel) ?_
  refine q_script rfl (by decide) rfl ?_
  refine q_aload_n rfl rfl ?_
  refine q_call rfl rfl rfl rfl ?_
  refine q_aload_n rfl rfl ?_
  refine q_iconstv (v := (0 : Int32)) rfl (by decide +kernel) ?_
  refine q_aload_n rfl rfl ?_
  refine q_iload_n rfl rfl ?_
  refine q_call rfl rfl rfl rfl ?_
  refine q_aload_n rfl rfl ?_
  refine q_iload_n rfl rfl ?_
  refine q_iconstv (v := (0 : Int32)) rfl (by decide +kernel) ?_
  refine q_bipushv (v := (12 : Int32)) rfl (by decide +kernel) ?_
  refine q_call rfl rfl rfl rfl ?_
  refine q_iload_n rfl rfl ?_
  refine q_iload_n rfl rfl ?_
  by_cases h1 : (x1).toInt < 0
  · refine q_ic_lt_t (t := 14) rfl (by decide) (i_lt (a := (x1).toInt) (b := (0 : Int)) rfl (by decide +kernel) (by omega)) ?_
    refine q_iconstv (v := (0 : Int32)) rfl (by decide +kernel) ?_
    refine q_zret rfl rfl (by decide) ?_
    refine bk_inl ?_
    refine q_call rfl rfl rfl rfl ?_
    refine q_iload_n rfl rfl ?_
    refine q_if_ne_f (t := 25) rfl (by decide) (i_nne (a := (0 : Int)) (b := (0 : Int)) (by decide +kernel) (by decide +kernel) (by omega)) ?_
    refine q_aload_n rfl rfl ?_
    refine q_dup rfl rfl ?_
    refine q_get rfl rfl rfl rfl ?_
    refine q_iconstv (v := (1 : Int32)) rfl (by decide +kernel) ?_
    refine q_iaddv (v := (1 : Int32)) rfl (by decide +kernel) ?_
    refine q_putv (w9 := (w1.set 0 (.inr (7, [.ref 1, .ref 3, .ref 7, .ref 9, .ref 10, .ref 11, .ref 12, .ref 13, .ref 25, .ref 37, .ref 39, .int 0, .int 0, .int 1])))) rfl rfl rfl (by decide) rfl (by decide) rfl ?_
    refine q_fin rfl rfl rfl ?_
    refine bk_out rfl rfl ?_
    refine bk_thr (z := (1 : Int32)) rfl ⟨_, _, rfl⟩ rfl ?_
    refine bk_inl ?_
    refine q_istore rfl (by decide) ?_
    refine q_aload_n rfl rfl ?_
    refine q_aload_n rfl rfl ?_
    refine q_iload rfl rfl ?_
    refine q_iconstv (v := (1 : Int32)) rfl (by decide +kernel) ?_
    refine q_iaddv (v := (1 : Int32)) rfl (by decide +kernel) ?_
    refine q_script rfl (by decide) rfl ?_
    refine q_call rfl rfl rfl rfl ?_
    refine q_aload_n rfl rfl ?_
    refine q_iconstv (v := (0 : Int32)) rfl (by decide +kernel) ?_
    refine q_putv (w9 := (w1.set 0 (.inr (7, [.ref 1, .ref 3, .ref 7, .ref 9, .ref 10, .ref 11, .ref 12, .ref 13, .ref 25, .ref 37, .ref 39, .int 0, .int 0, .int 1])))) rfl rfl rfl (by decide) rfl (by decide) rfl ?_
    refine q_aload_n rfl rfl ?_
    refine q_iload_n rfl rfl ?_
    refine q_iconstv (v := (0 : Int32)) rfl (by decide +kernel) ?_
    refine q_bipushv (v := (12 : Int32)) rfl (by decide +kernel) ?_
    refine q_call rfl rfl rfl rfl ?_
    refine q_iload_n rfl rfl ?_
    refine q_iload_n rfl rfl ?_
    refine q_ic_lt_t (t := 14) rfl (by decide) (i_lt (a := (x1).toInt) (b := (0 : Int)) rfl (by decide +kernel) (by omega)) ?_
    refine q_iconstv (v := (0 : Int32)) rfl (by decide +kernel) ?_
    refine q_zret rfl rfl (by decide) ?_
    refine bk_inl ?_
    refine q_iconstv (v := (1 : Int32)) rfl (by decide +kernel) ?_
    refine q_iconstv (v := (1 : Int32)) rfl (by decide +kernel) ?_
    refine q_call rfl rfl rfl rfl ?_
    refine q_iload_n rfl rfl ?_
    refine q_if_ne_f (t := 26) rfl (by decide) (i_nne (a := (0 : Int)) (b := (0 : Int)) (by decide +kernel) (by decide +kernel) (by omega)) ?_
    refine q_aload_n rfl rfl ?_
    refine q_get rfl rfl rfl rfl ?_
    refine q_if_ne_f (t := 26) rfl (by decide) (i_nne (a := (0 : Int)) (b := (0 : Int)) (by decide +kernel) (by decide +kernel) (by omega)) ?_
    refine q_aload_n rfl rfl ?_
    refine q_iload_n rfl rfl ?_
    refine q_putv (w9 := ((w1.set 0 (.inr (7, [.ref 1, .ref 3, .ref 7, .ref 9, .ref 10, .ref 11, .ref 12, .ref 13, .ref 25, .ref 37, .ref 39, .int 0, .int 0, .int 1]))).set 41 (.inr (8, [.int 1, .ref 42, .int 0, .int 0, .int 0, .int 0, .int 0, .int 0, .int (-1), .ref 43, .ref 44, .ref 45, .ref 46, .ref 47, .ref 48, .ref 49, .int 0, .int 0, .int 0, .int 5, .int 0, .int 0, .int 0, .int 5, .ref 50, .ref 51, .ref 52, .ref 53, .ref 54, .int 0, .int 0, .ref 55, .ref 56, .ref 57, .int 0, .int 0, .int 0, .int 0, .int 0, .int 0, .ref 58, .ref 59, .ref 60, .ref 61, .ref 62, .ref 63, .ref 64, .int 0, .int 0, .ref 65, .int 0, .ref 66, .int 0])))) rfl rfl rfl (by decide) rfl (by decide) rfl ?_
    refine q_aload_n rfl rfl ?_
    refine q_get rfl rfl rfl rfl ?_
    refine q_iload_n rfl rfl ?_
    refine q_dup2 rfl ⟨rfl, rfl⟩ ?_
    refine q_ialoadv (m := 1) rfl (by decide) (by decide) rfl (by decide +kernel) rfl ?_
    refine q_iconstv (v := (1 : Int32)) rfl (by decide +kernel) ?_
    refine q_iaddv (v := (1 : Int32)) rfl (by decide +kernel) ?_
    refine q_iastorev (m := 1) (w9 := (((w1.set 0 (.inr (7, [.ref 1, .ref 3, .ref 7, .ref 9, .ref 10, .ref 11, .ref 12, .ref 13, .ref 25, .ref 37, .ref 39, .int 0, .int 0, .int 1]))).set 41 (.inr (8, [.int 1, .ref 42, .int 0, .int 0, .int 0, .int 0, .int 0, .int 0, .int (-1), .ref 43, .ref 44, .ref 45, .ref 46, .ref 47, .ref 48, .ref 49, .int 0, .int 0, .int 0, .int 5, .int 0, .int 0, .int 0, .int 5, .ref 50, .ref 51, .ref 52, .ref 53, .ref 54, .int 0, .int 0, .ref 55, .ref 56, .ref 57, .int 0, .int 0, .int 0, .int 0, .int 0, .int 0, .ref 58, .ref 59, .ref 60, .ref 61, .ref 62, .ref 63, .ref 64, .int 0, .int 0, .ref 65, .int 0, .ref 66, .int 0]))).set 42 (.inl (0, .inl ([0, 1]))))) rfl (by decide) rfl (by decide +kernel) (by decide) rfl ?_
    refine q_aload_n rfl rfl ?_
    refine q_get rfl rfl rfl rfl ?_
    refine q_if_ne_t (t := 37) rfl (by decide) (i_ne (a := (1 : Int)) (b := (0 : Int)) (by decide +kernel) (by decide +kernel) (by omega)) ?_
    refine q_iconstv (v := (0 : Int32)) rfl (by decide +kernel) ?_
    refine q_zret rfl rfl (by decide) ?_
    refine bk_inl ?_
    refine q_if_ne_f (t := 23) rfl (by decide) (i_nne (a := (0 : Int)) (b := (0 : Int)) (by decide +kernel) (by decide +kernel) (by omega)) ?_
    refine q_iconstv (v := (0 : Int32)) rfl (by decide +kernel) ?_
    refine q_iret rfl rfl ?_
    refine bk_inl ?_
    refine q_istore rfl (by decide) ?_
    refine q_aload_n rfl rfl ?_
    refine q_call rfl rfl rfl rfl ?_
    refine q_aload_n rfl rfl ?_
    refine q_get rfl rfl rfl rfl ?_
    refine q_iret rfl rfl ?_
    refine bk_inl ?_
    refine q_iload rfl rfl ?_
    refine q_ic_eq_t (t := 643) rfl (by decide) (i_eq (a := (1 : Int)) (b := (1 : Int)) (by decide +kernel) (by decide +kernel) (by omega)) ?_
    refine q_iload rfl rfl ?_
    refine q_if_ne_t (t := 660) rfl (by decide) (i_ne (a := (1 : Int)) (b := (0 : Int)) (by decide +kernel) (by decide +kernel) (by omega)) ?_
    refine q_goto (t := 2739) rfl (by decide) ?_
    refine q_iincv (v := (8 : Int32)) rfl rfl (by decide) (by decide +kernel) ?_
    refine q_goto (t := 23) rfl (by decide) ?_
    exact q_end rfl rfl (by decide) (by decide)
  · refine q_ic_lt_f (t := 14) rfl (by decide) (i_nlt (a := (x1).toInt) (b := (0 : Int)) rfl (by decide +kernel) (by omega)) ?_
    refine q_iload_n rfl rfl ?_
    refine q_iload_n rfl rfl ?_
    by_cases h2 : (x1).toInt > 12
    · refine q_ic_gt_t (t := 14) rfl (by decide) (i_lt_r (a := (x1).toInt) (b := (12 : Int)) rfl (by decide +kernel) (by omega)) ?_
      refine q_iconstv (v := (0 : Int32)) rfl (by decide +kernel) ?_
      refine q_zret rfl rfl (by decide) ?_
      refine bk_inl ?_
      refine q_call rfl rfl rfl rfl ?_
      refine q_iload_n rfl rfl ?_
      refine q_if_ne_f (t := 25) rfl (by decide) (i_nne (a := (0 : Int)) (b := (0 : Int)) (by decide +kernel) (by decide +kernel) (by omega)) ?_
      refine q_aload_n rfl rfl ?_
      refine q_dup rfl rfl ?_
      refine q_get rfl rfl rfl rfl ?_
      refine q_iconstv (v := (1 : Int32)) rfl (by decide +kernel) ?_
      refine q_iaddv (v := (1 : Int32)) rfl (by decide +kernel) ?_
      refine q_putv (w9 := (w1.set 0 (.inr (7, [.ref 1, .ref 3, .ref 7, .ref 9, .ref 10, .ref 11, .ref 12, .ref 13, .ref 25, .ref 37, .ref 39, .int 0, .int 0, .int 1])))) rfl rfl rfl (by decide) rfl (by decide) rfl ?_
      refine q_fin rfl rfl rfl ?_
      refine bk_out rfl rfl ?_
      refine bk_thr (z := (1 : Int32)) rfl ⟨_, _, rfl⟩ rfl ?_
      refine bk_inl ?_
      refine q_istore rfl (by decide) ?_
      refine q_aload_n rfl rfl ?_
      refine q_aload_n rfl rfl ?_
      refine q_iload rfl rfl ?_
      refine q_iconstv (v := (1 : Int32)) rfl (by decide +kernel) ?_
      refine q_iaddv (v := (1 : Int32)) rfl (by decide +kernel) ?_
      refine q_script rfl (by decide) rfl ?_
      refine q_call rfl rfl rfl rfl ?_
      refine q_aload_n rfl rfl ?_
      refine q_iconstv (v := (0 : Int32)) rfl (by decide +kernel) ?_
      refine q_putv (w9 := (w1.set 0 (.inr (7, [.ref 1, .ref 3, .ref 7, .ref 9, .ref 10, .ref 11, .ref 12, .ref 13, .ref 25, .ref 37, .ref 39, .int 0, .int 0, .int 1])))) rfl rfl rfl (by decide) rfl (by decide) rfl ?_
      refine q_aload_n rfl rfl ?_
      refine q_iload_n rfl rfl ?_
      refine q_iconstv (v := (0 : Int32)) rfl (by decide +kernel) ?_
      refine q_bipushv (v := (12 : Int32)) rfl (by decide +kernel) ?_
      refine q_call rfl rfl rfl rfl ?_
      refine q_iload_n rfl rfl ?_
      refine q_iload_n rfl rfl ?_
      refine q_ic_lt_f (t := 14) rfl (by decide) (i_nlt (a := (x1).toInt) (b := (0 : Int)) rfl (by decide +kernel) (by omega)) ?_
      refine q_iload_n rfl rfl ?_
      refine q_iload_n rfl rfl ?_
      refine q_ic_gt_t (t := 14) rfl (by decide) (i_lt_r (a := (x1).toInt) (b := (12 : Int)) rfl (by decide +kernel) (by omega)) ?_
      refine q_iconstv (v := (0 : Int32)) rfl (by decide +kernel) ?_
      refine q_zret rfl rfl (by decide) ?_
      refine bk_inl ?_
      refine q_iconstv (v := (1 : Int32)) rfl (by decide +kernel) ?_
      refine q_iconstv (v := (1 : Int32)) rfl (by decide +kernel) ?_
      refine q_call rfl rfl rfl rfl ?_
      refine q_iload_n rfl rfl ?_
      refine q_if_ne_f (t := 26) rfl (by decide) (i_nne (a := (0 : Int)) (b := (0 : Int)) (by decide +kernel) (by decide +kernel) (by omega)) ?_
      refine q_aload_n rfl rfl ?_
      refine q_get rfl rfl rfl rfl ?_
      refine q_if_ne_f (t := 26) rfl (by decide) (i_nne (a := (0 : Int)) (b := (0 : Int)) (by decide +kernel) (by decide +kernel) (by omega)) ?_
      refine q_aload_n rfl rfl ?_
      refine q_iload_n rfl rfl ?_
      refine q_putv (w9 := ((w1.set 0 (.inr (7, [.ref 1, .ref 3, .ref 7, .ref 9, .ref 10, .ref 11, .ref 12, .ref 13, .ref 25, .ref 37, .ref 39, .int 0, .int 0, .int 1]))).set 41 (.inr (8, [.int 1, .ref 42, .int 0, .int 0, .int 0, .int 0, .int 0, .int 0, .int (-1), .ref 43, .ref 44, .ref 45, .ref 46, .ref 47, .ref 48, .ref 49, .int 0, .int 0, .int 0, .int 5, .int 0, .int 0, .int 0, .int 5, .ref 50, .ref 51, .ref 52, .ref 53, .ref 54, .int 0, .int 0, .ref 55, .ref 56, .ref 57, .int 0, .int 0, .int 0, .int 0, .int 0, .int 0, .ref 58, .ref 59, .ref 60, .ref 61, .ref 62, .ref 63, .ref 64, .int 0, .int 0, .ref 65, .int 0, .ref 66, .int 0])))) rfl rfl rfl (by decide) rfl (by decide) rfl ?_
      refine q_aload_n rfl rfl ?_
      refine q_get rfl rfl rfl rfl ?_
      refine q_iload_n rfl rfl ?_
      refine q_dup2 rfl ⟨rfl, rfl⟩ ?_
      refine q_ialoadv (m := 1) rfl (by decide) (by decide) rfl (by decide +kernel) rfl ?_
      refine q_iconstv (v := (1 : Int32)) rfl (by decide +kernel) ?_
      refine q_iaddv (v := (1 : Int32)) rfl (by decide +kernel) ?_
      refine q_iastorev (m := 1) (w9 := (((w1.set 0 (.inr (7, [.ref 1, .ref 3, .ref 7, .ref 9, .ref 10, .ref 11, .ref 12, .ref 13, .ref 25, .ref 37, .ref 39, .int 0, .int 0, .int 1]))).set 41 (.inr (8, [.int 1, .ref 42, .int 0, .int 0, .int 0, .int 0, .int 0, .int 0, .int (-1), .ref 43, .ref 44, .ref 45, .ref 46, .ref 47, .ref 48, .ref 49, .int 0, .int 0, .int 0, .int 5, .int 0, .int 0, .int 0, .int 5, .ref 50, .ref 51, .ref 52, .ref 53, .ref 54, .int 0, .int 0, .ref 55, .ref 56, .ref 57, .int 0, .int 0, .int 0, .int 0, .int 0, .int 0, .ref 58, .ref 59, .ref 60, .ref 61, .ref 62, .ref 63, .ref 64, .int 0, .int 0, .ref 65, .int 0, .ref 66, .int 0]))).set 42 (.inl (0, .inl ([0, 1]))))) rfl (by decide) rfl (by decide +kernel) (by decide) rfl ?_
      refine q_aload_n rfl rfl ?_
      refine q_get rfl rfl rfl rfl ?_
      refine q_if_ne_t (t := 37) rfl (by decide) (i_ne (a := (1 : Int)) (b := (0 : Int)) (by decide +kernel) (by decide +kernel) (by omega)) ?_
      refine q_iconstv (v := (0 : Int32)) rfl (by decide +kernel) ?_
      refine q_zret rfl rfl (by decide) ?_
      refine bk_inl ?_
      refine q_if_ne_f (t := 23) rfl (by decide) (i_nne (a := (0 : Int)) (b := (0 : Int)) (by decide +kernel) (by decide +kernel) (by omega)) ?_
      refine q_iconstv (v := (0 : Int32)) rfl (by decide +kernel) ?_
      refine q_iret rfl rfl ?_
      refine bk_inl ?_
      refine q_istore rfl (by decide) ?_
      refine q_aload_n rfl rfl ?_
      refine q_call rfl rfl rfl rfl ?_
      refine q_aload_n rfl rfl ?_
      refine q_get rfl rfl rfl rfl ?_
      refine q_iret rfl rfl ?_
      refine bk_inl ?_
      refine q_iload rfl rfl ?_
      refine q_ic_eq_t (t := 643) rfl (by decide) (i_eq (a := (1 : Int)) (b := (1 : Int)) (by decide +kernel) (by decide +kernel) (by omega)) ?_
      refine q_iload rfl rfl ?_
      refine q_if_ne_t (t := 660) rfl (by decide) (i_ne (a := (1 : Int)) (b := (0 : Int)) (by decide +kernel) (by decide +kernel) (by omega)) ?_
      refine q_goto (t := 2739) rfl (by decide) ?_
      refine q_iincv (v := (8 : Int32)) rfl rfl (by decide) (by decide +kernel) ?_
      refine q_goto (t := 23) rfl (by decide) ?_
      exact q_end rfl rfl (by decide) (by decide)
    · refine q_ic_gt_f (t := 14) rfl (by decide) (i_nlt_r (a := (x1).toInt) (b := (12 : Int)) rfl (by decide +kernel) (by omega)) ?_
      refine q_iconstv (v := (1 : Int32)) rfl (by decide +kernel) ?_
      refine q_goto (t := 15) rfl (by decide) ?_
      refine q_zret rfl rfl (by decide) ?_
      refine bk_inl ?_
      refine q_call rfl rfl rfl rfl ?_
      refine q_iload_n rfl rfl ?_
      refine q_if_ne_t (t := 25) rfl (by decide) (i_ne (a := (1 : Int)) (b := (0 : Int)) (by decide +kernel) (by decide +kernel) (by omega)) ?_
      refine q_vret rfl rfl ?_
      refine bk_inl ?_
      refine q_iload_n rfl rfl ?_
      by_cases h3 : (x1).toInt > 11
      · refine q_tsw_o (t := 181) rfl (Or.inr (by omega)) (by decide) ?_
        refine q_aload_n rfl rfl ?_
        refine q_get rfl rfl rfl rfl ?_
        refine q_get rfl rfl rfl rfl ?_
        refine q_iret rfl rfl ?_
        refine bk_inl ?_
        refine q_i2lv (v := (0 : Int64)) rfl (by decide +kernel) ?_
        refine q_lastorev (m := 0) (w9 := w1) rfl (by decide) rfl (by decide +kernel) (by decide) rfl ?_
        refine q_goto (t := 15) rfl (by decide) ?_
        refine q_iconstv (v := (0 : Int32)) rfl (by decide +kernel) ?_
        refine q_iret rfl rfl ?_
        refine bk_inl ?_
        refine q_istore rfl (by decide) ?_
        refine q_aload_n rfl rfl ?_
        refine q_aload_n rfl rfl ?_
        refine q_iload rfl rfl ?_
        refine q_iconstv (v := (1 : Int32)) rfl (by decide +kernel) ?_
        refine q_iaddv (v := (1 : Int32)) rfl (by decide +kernel) ?_
        refine q_script rfl (by decide) rfl ?_
        refine q_call rfl rfl rfl rfl ?_
        refine q_aload_n rfl rfl ?_
        refine q_iconstv (v := (0 : Int32)) rfl (by decide +kernel) ?_
        refine q_putv (w9 := w1) rfl rfl rfl (by decide) rfl (by decide) rfl ?_
        refine q_aload_n rfl rfl ?_
        refine q_iload_n rfl rfl ?_
        refine q_iconstv (v := (0 : Int32)) rfl (by decide +kernel) ?_
        refine q_bipushv (v := (12 : Int32)) rfl (by decide +kernel) ?_
        refine q_call rfl rfl rfl rfl ?_
        refine q_iload_n rfl rfl ?_
        refine q_iload_n rfl rfl ?_
        refine q_ic_lt_f (t := 14) rfl (by decide) (i_nlt (a := (x1).toInt) (b := (0 : Int)) rfl (by decide +kernel) (by omega)) ?_
        refine q_iload_n rfl rfl ?_
        refine q_iload_n rfl rfl ?_
        refine q_ic_gt_f (t := 14) rfl (by decide) (i_nlt_r (a := (x1).toInt) (b := (12 : Int)) rfl (by decide +kernel) (by omega)) ?_
        refine q_iconstv (v := (1 : Int32)) rfl (by decide +kernel) ?_
        refine q_goto (t := 15) rfl (by decide) ?_
        refine q_zret rfl rfl (by decide) ?_
        refine bk_inl ?_
        refine q_iconstv (v := (1 : Int32)) rfl (by decide +kernel) ?_
        refine q_iconstv (v := (1 : Int32)) rfl (by decide +kernel) ?_
        refine q_call rfl rfl rfl rfl ?_
        refine q_iload_n rfl rfl ?_
        refine q_if_ne_t (t := 26) rfl (by decide) (i_ne (a := (1 : Int)) (b := (0 : Int)) (by decide +kernel) (by decide +kernel) (by omega)) ?_
        refine q_aload_n rfl rfl ?_
        refine q_get rfl rfl rfl rfl ?_
        refine q_if_ne_f (t := 37) rfl (by decide) (i_nne (a := (0 : Int)) (b := (0 : Int)) (by decide +kernel) (by decide +kernel) (by omega)) ?_
        refine q_iconstv (v := (1 : Int32)) rfl (by decide +kernel) ?_
        refine q_goto (t := 38) rfl (by decide) ?_
        refine q_zret rfl rfl (by decide) ?_
        refine bk_inl ?_
        refine q_if_ne_t (t := 23) rfl (by decide) (i_ne (a := (1 : Int)) (b := (0 : Int)) (by decide +kernel) (by decide +kernel) (by omega)) ?_
        refine q_aload_n rfl rfl ?_
        refine q_clo (v := none) (w9 := w1) (a := 0) (b := 0) (ags := [.ref 41]) rfl rfl rfl rfl cl_12 ?_
        refine q_iload_n rfl rfl ?_
        refine q_iconstv (v := (4 : Int32)) rfl (by decide +kernel) ?_
        refine q_ic_ge_t (t := 72) rfl (by decide) (i_le_r (a := (x1).toInt) (b := (4 : Int)) rfl (by decide +kernel) (by omega)) ?_
        refine q_iload_n rfl rfl ?_
        refine q_bipushv (v := (8 : Int32)) rfl (by decide +kernel) ?_
        refine q_ic_ge_t (t := 119) rfl (by decide) (i_le_r (a := (x1).toInt) (b := (8 : Int)) rfl (by decide +kernel) (by omega)) ?_
        refine q_iload_n rfl rfl ?_
        refine q_bipushv (v := (10 : Int32)) rfl (by decide +kernel) ?_
        refine q_ic_ge_t (t := 143) rfl (by decide) (i_le_r (a := (x1).toInt) (b := (10 : Int)) rfl (by decide +kernel) (by omega)) ?_
        refine q_iload_n rfl rfl ?_
        refine q_bipushv (v := (10 : Int32)) rfl (by decide +kernel) ?_
        refine q_ic_ne_t (t := 156) rfl (by decide) (i_ne (a := (x1).toInt) (b := (10 : Int)) rfl (by decide +kernel) (by omega)) ?_
        refine q_iload_n rfl rfl ?_
        refine q_bipushv (v := (11 : Int32)) rfl (by decide +kernel) ?_
        refine q_ic_ne_t (t := 169) rfl (by decide) (i_ne (a := (x1).toInt) (b := (11 : Int)) rfl (by decide +kernel) (by omega)) ?_
        refine q_aload_n rfl rfl ?_
        refine q_get rfl rfl rfl rfl ?_
        refine q_iret rfl rfl ?_
        refine bk_inl ?_
        refine q_istore rfl (by decide) ?_
        refine q_aload_n rfl rfl ?_
        refine q_call rfl rfl rfl rfl ?_
        refine q_aload_n rfl rfl ?_
        refine q_get rfl rfl rfl rfl ?_
        refine q_iret rfl rfl ?_
        refine bk_inl ?_
        refine q_iload rfl rfl ?_
        refine q_ic_eq_t (t := 643) rfl (by decide) (i_eq (a := (0 : Int)) (b := (0 : Int)) (by decide +kernel) (by decide +kernel) (by omega)) ?_
        refine q_iload rfl rfl ?_
        refine q_if_ne_f (t := 660) rfl (by decide) (i_nne (a := (0 : Int)) (b := (0 : Int)) (by decide +kernel) (by decide +kernel) (by omega)) ?_
        refine q_aload_n rfl rfl ?_
        refine q_iconstv (v := (0 : Int32)) rfl (by decide +kernel) ?_
        refine q_laloadv (m := 0) rfl (by decide) rfl (by decide +kernel) rfl ?_
        refine q_iload rfl rfl ?_
        refine q_i2lv (v := (0 : Int64)) rfl (by decide +kernel) ?_
        refine q_lcmpv (v := (0 : Int32)) rfl (by decide +kernel) ?_
        refine q_if_eq_t (t := 660) rfl (by decide) (i_eq (a := (0 : Int)) (b := (0 : Int)) (by decide +kernel) (by decide +kernel) (by omega)) ?_
        refine q_goto (t := 2739) rfl (by decide) ?_
        refine q_iincv (v := (8 : Int32)) rfl rfl (by decide) (by decide +kernel) ?_
        refine q_goto (t := 23) rfl (by decide) ?_
        exact q_end rfl rfl (by decide) (by decide)
      by_cases h4 : (x1).toInt = 0
      · skip
        obtain rfl : x1 = (0 : Int32) := i_eq (a := (x1).toInt) (b := 0) rfl (by decide +kernel) (by omega)
        refine q_tsw_i (t := 76) rfl (by decide +kernel) rfl (by decide) ?_
        refine q_aload_n rfl rfl ?_
        refine q_get rfl rfl rfl rfl ?_
        refine q_get rfl rfl rfl rfl ?_
        refine q_iret rfl rfl ?_
        refine bk_inl ?_
        refine q_i2lv (v := (0 : Int64)) rfl (by decide +kernel) ?_
        refine q_lastorev (m := 0) (w9 := w1) rfl (by decide) rfl (by decide +kernel) (by decide) rfl ?_
        refine q_goto (t := 15) rfl (by decide) ?_
        refine q_iconstv (v := (0 : Int32)) rfl (by decide +kernel) ?_
        refine q_iret rfl rfl ?_
        refine bk_inl ?_
        refine q_istore rfl (by decide) ?_
        refine q_aload_n rfl rfl ?_
        refine q_aload_n rfl rfl ?_
        refine q_iload rfl rfl ?_
        refine q_iconstv (v := (1 : Int32)) rfl (by decide +kernel) ?_
        refine q_iaddv (v := (1 : Int32)) rfl (by decide +kernel) ?_
        refine q_script rfl (by decide) rfl ?_
        refine q_clo (v := (some (.int 0))) (w9 := w1) (a := 0) (b := 0) (ags := [.ref 41, .int 0]) rfl rfl rfl rfl cl_13 ?_
        refine q_istore rfl (by decide) ?_
        refine q_aload_n rfl rfl ?_
        refine q_call rfl rfl rfl rfl ?_
        refine q_aload_n rfl rfl ?_
        refine q_get rfl rfl rfl rfl ?_
        refine q_iret rfl rfl ?_
        refine bk_inl ?_
        refine q_iload rfl rfl ?_
        refine q_ic_eq_t (t := 643) rfl (by decide) (i_eq (a := (0 : Int)) (b := (0 : Int)) (by decide +kernel) (by decide +kernel) (by omega)) ?_
        refine q_iload rfl rfl ?_
        refine q_if_ne_f (t := 660) rfl (by decide) (i_nne (a := (0 : Int)) (b := (0 : Int)) (by decide +kernel) (by decide +kernel) (by omega)) ?_
        refine q_aload_n rfl rfl ?_
        refine q_iconstv (v := (0 : Int32)) rfl (by decide +kernel) ?_
        refine q_laloadv (m := 0) rfl (by decide) rfl (by decide +kernel) rfl ?_
        refine q_iload rfl rfl ?_
        refine q_i2lv (v := (0 : Int64)) rfl (by decide +kernel) ?_
        refine q_lcmpv (v := (0 : Int32)) rfl (by decide +kernel) ?_
        refine q_if_eq_t (t := 660) rfl (by decide) (i_eq (a := (0 : Int)) (b := (0 : Int)) (by decide +kernel) (by decide +kernel) (by omega)) ?_
        refine q_goto (t := 2739) rfl (by decide) ?_
        refine q_iincv (v := (8 : Int32)) rfl rfl (by decide) (by decide +kernel) ?_
        refine q_goto (t := 23) rfl (by decide) ?_
        exact q_end rfl rfl (by decide) (by decide)
      by_cases h5 : (x1).toInt = 1
      · skip
        obtain rfl : x1 = (1 : Int32) := i_eq (a := (x1).toInt) (b := 1) rfl (by decide +kernel) (by omega)
        refine q_tsw_i (t := 84) rfl (by decide +kernel) rfl (by decide) ?_
        refine q_aload_n rfl rfl ?_
        refine q_get rfl rfl rfl rfl ?_
        refine q_get rfl rfl rfl rfl ?_
        refine q_iret rfl rfl ?_
        refine bk_inl ?_
        refine q_i2lv (v := (0 : Int64)) rfl (by decide +kernel) ?_
        refine q_lastorev (m := 0) (w9 := w1) rfl (by decide) rfl (by decide +kernel) (by decide) rfl ?_
        refine q_goto (t := 15) rfl (by decide) ?_
        refine q_iconstv (v := (0 : Int32)) rfl (by decide +kernel) ?_
        refine q_iret rfl rfl ?_
        refine bk_inl ?_
        refine q_istore rfl (by decide) ?_
        refine q_aload_n rfl rfl ?_
        refine q_aload_n rfl rfl ?_
        refine q_iload rfl rfl ?_
        refine q_iconstv (v := (1 : Int32)) rfl (by decide +kernel) ?_
        refine q_iaddv (v := (1 : Int32)) rfl (by decide +kernel) ?_
        refine q_script rfl (by decide) rfl ?_
        refine q_clo (v := (some (.int 0))) (w9 := w1) (a := 0) (b := 0) (ags := [.ref 41, .int 1]) rfl rfl rfl rfl cl_14 ?_
        refine q_istore rfl (by decide) ?_
        refine q_aload_n rfl rfl ?_
        refine q_call rfl rfl rfl rfl ?_
        refine q_aload_n rfl rfl ?_
        refine q_get rfl rfl rfl rfl ?_
        refine q_iret rfl rfl ?_
        refine bk_inl ?_
        refine q_iload rfl rfl ?_
        refine q_ic_eq_t (t := 643) rfl (by decide) (i_eq (a := (0 : Int)) (b := (0 : Int)) (by decide +kernel) (by decide +kernel) (by omega)) ?_
        refine q_iload rfl rfl ?_
        refine q_if_ne_f (t := 660) rfl (by decide) (i_nne (a := (0 : Int)) (b := (0 : Int)) (by decide +kernel) (by decide +kernel) (by omega)) ?_
        refine q_aload_n rfl rfl ?_
        refine q_iconstv (v := (0 : Int32)) rfl (by decide +kernel) ?_
        refine q_laloadv (m := 0) rfl (by decide) rfl (by decide +kernel) rfl ?_
        refine q_iload rfl rfl ?_
        refine q_i2lv (v := (0 : Int64)) rfl (by decide +kernel) ?_
        refine q_lcmpv (v := (0 : Int32)) rfl (by decide +kernel) ?_
        refine q_if_eq_t (t := 660) rfl (by decide) (i_eq (a := (0 : Int)) (b := (0 : Int)) (by decide +kernel) (by decide +kernel) (by omega)) ?_
        refine q_goto (t := 2739) rfl (by decide) ?_
        refine q_iincv (v := (8 : Int32)) rfl rfl (by decide) (by decide +kernel) ?_
        refine q_goto (t := 23) rfl (by decide) ?_
        exact q_end rfl rfl (by decide) (by decide)
      by_cases h6 : (x1).toInt = 2
      · skip
        obtain rfl : x1 = (2 : Int32) := i_eq (a := (x1).toInt) (b := 2) rfl (by decide +kernel) (by omega)
        refine q_tsw_i (t := 92) rfl (by decide +kernel) rfl (by decide) ?_
        refine q_aload_n rfl rfl ?_
        refine q_get rfl rfl rfl rfl ?_
        refine q_get rfl rfl rfl rfl ?_
        refine q_iret rfl rfl ?_
        refine bk_inl ?_
        refine q_i2lv (v := (0 : Int64)) rfl (by decide +kernel) ?_
        refine q_lastorev (m := 0) (w9 := w1) rfl (by decide) rfl (by decide +kernel) (by decide) rfl ?_
        refine q_goto (t := 15) rfl (by decide) ?_
        refine q_iconstv (v := (0 : Int32)) rfl (by decide +kernel) ?_
        refine q_iret rfl rfl ?_
        refine bk_inl ?_
        refine q_istore rfl (by decide) ?_
        refine q_aload_n rfl rfl ?_
        refine q_aload_n rfl rfl ?_
        refine q_iload rfl rfl ?_
        refine q_iconstv (v := (1 : Int32)) rfl (by decide +kernel) ?_
        refine q_iaddv (v := (1 : Int32)) rfl (by decide +kernel) ?_
        refine q_script rfl (by decide) rfl ?_
        refine q_clo (v := (some (.int 0))) (w9 := w1) (a := 0) (b := 0) (ags := [.ref 41, .int 2]) rfl rfl rfl rfl cl_15 ?_
        refine q_istore rfl (by decide) ?_
        refine q_aload_n rfl rfl ?_
        refine q_call rfl rfl rfl rfl ?_
        refine q_aload_n rfl rfl ?_
        refine q_get rfl rfl rfl rfl ?_
        refine q_iret rfl rfl ?_
        refine bk_inl ?_
        refine q_iload rfl rfl ?_
        refine q_ic_eq_t (t := 643) rfl (by decide) (i_eq (a := (0 : Int)) (b := (0 : Int)) (by decide +kernel) (by decide +kernel) (by omega)) ?_
        refine q_iload rfl rfl ?_
        refine q_if_ne_f (t := 660) rfl (by decide) (i_nne (a := (0 : Int)) (b := (0 : Int)) (by decide +kernel) (by decide +kernel) (by omega)) ?_
        refine q_aload_n rfl rfl ?_
        refine q_iconstv (v := (0 : Int32)) rfl (by decide +kernel) ?_
        refine q_laloadv (m := 0) rfl (by decide) rfl (by decide +kernel) rfl ?_
        refine q_iload rfl rfl ?_
        refine q_i2lv (v := (0 : Int64)) rfl (by decide +kernel) ?_
        refine q_lcmpv (v := (0 : Int32)) rfl (by decide +kernel) ?_
        refine q_if_eq_t (t := 660) rfl (by decide) (i_eq (a := (0 : Int)) (b := (0 : Int)) (by decide +kernel) (by decide +kernel) (by omega)) ?_
        refine q_goto (t := 2739) rfl (by decide) ?_
        refine q_iincv (v := (8 : Int32)) rfl rfl (by decide) (by decide +kernel) ?_
        refine q_goto (t := 23) rfl (by decide) ?_
        exact q_end rfl rfl (by decide) (by decide)
      by_cases h7 : (x1).toInt = 3
      · skip
        obtain rfl : x1 = (3 : Int32) := i_eq (a := (x1).toInt) (b := 3) rfl (by decide +kernel) (by omega)
        refine q_tsw_i (t := 100) rfl (by decide +kernel) rfl (by decide) ?_
        refine q_aload_n rfl rfl ?_
        refine q_get rfl rfl rfl rfl ?_
        refine q_get rfl rfl rfl rfl ?_
        refine q_iret rfl rfl ?_
        refine bk_inl ?_
        refine q_i2lv (v := (5 : Int64)) rfl (by decide +kernel) ?_
        refine q_lastorev (m := 0) (w9 := (w1.set 67 (.inl (2, .inr ([5]))))) rfl (by decide) rfl (by decide +kernel) (by decide) rfl ?_
        refine q_goto (t := 15) rfl (by decide) ?_
        refine q_iconstv (v := (0 : Int32)) rfl (by decide +kernel) ?_
        refine q_iret rfl rfl ?_
        refine bk_inl ?_
        refine q_istore rfl (by decide) ?_
        refine q_aload_n rfl rfl ?_
        refine q_aload_n rfl rfl ?_
        refine q_iload rfl rfl ?_
        refine q_iconstv (v := (1 : Int32)) rfl (by decide +kernel) ?_
        refine q_iaddv (v := (1 : Int32)) rfl (by decide +kernel) ?_
        refine q_script rfl (by decide) rfl ?_
        refine q_clo (v := (some (.int 5))) (w9 := (w1.set 67 (.inl (2, .inr ([5]))))) (a := 0) (b := 0) (ags := [.ref 41, .int 3]) rfl rfl rfl rfl cl_16 ?_
        refine q_istore rfl (by decide) ?_
        refine q_aload_n rfl rfl ?_
        refine q_call rfl rfl rfl rfl ?_
        refine q_aload_n rfl rfl ?_
        refine q_get rfl rfl rfl rfl ?_
        refine q_iret rfl rfl ?_
        refine bk_inl ?_
        refine q_iload rfl rfl ?_
        refine q_ic_eq_t (t := 643) rfl (by decide) (i_eq (a := (0 : Int)) (b := (0 : Int)) (by decide +kernel) (by decide +kernel) (by omega)) ?_
        refine q_iload rfl rfl ?_
        refine q_if_ne_f (t := 660) rfl (by decide) (i_nne (a := (0 : Int)) (b := (0 : Int)) (by decide +kernel) (by decide +kernel) (by omega)) ?_
        refine q_aload_n rfl rfl ?_
        refine q_iconstv (v := (0 : Int32)) rfl (by decide +kernel) ?_
        refine q_laloadv (m := 0) rfl (by decide) rfl (by decide +kernel) rfl ?_
        refine q_iload rfl rfl ?_
        refine q_i2lv (v := (5 : Int64)) rfl (by decide +kernel) ?_
        refine q_lcmpv (v := (0 : Int32)) rfl (by decide +kernel) ?_
        refine q_if_eq_t (t := 660) rfl (by decide) (i_eq (a := (0 : Int)) (b := (0 : Int)) (by decide +kernel) (by decide +kernel) (by omega)) ?_
        refine q_goto (t := 2739) rfl (by decide) ?_
        refine q_iincv (v := (8 : Int32)) rfl rfl (by decide) (by decide +kernel) ?_
        refine q_goto (t := 23) rfl (by decide) ?_
        exact q_end rfl rfl (by decide) (by decide)
      by_cases h8 : (x1).toInt = 4
      · skip
        obtain rfl : x1 = (4 : Int32) := i_eq (a := (x1).toInt) (b := 4) rfl (by decide +kernel) (by omega)
        refine q_tsw_i (t := 108) rfl (by decide +kernel) rfl (by decide) ?_
        refine q_aload_n rfl rfl ?_
        refine q_get rfl rfl rfl rfl ?_
        refine q_get rfl rfl rfl rfl ?_
        refine q_bipushv (v := (31 : Int32)) rfl (by decide +kernel) ?_
        refine q_ialoadv (m := 31) rfl (by decide) (by decide) rfl (by decide +kernel) rfl ?_
        refine q_iret rfl rfl ?_
        refine bk_inl ?_
        refine q_i2lv (v := (0 : Int64)) rfl (by decide +kernel) ?_
        refine q_lastorev (m := 0) (w9 := w1) rfl (by decide) rfl (by decide +kernel) (by decide) rfl ?_
        refine q_goto (t := 15) rfl (by decide) ?_
        refine q_iconstv (v := (0 : Int32)) rfl (by decide +kernel) ?_
        refine q_iret rfl rfl ?_
        refine bk_inl ?_
        refine q_istore rfl (by decide) ?_
        refine q_aload_n rfl rfl ?_
        refine q_aload_n rfl rfl ?_
        refine q_iload rfl rfl ?_
        refine q_iconstv (v := (1 : Int32)) rfl (by decide +kernel) ?_
        refine q_iaddv (v := (1 : Int32)) rfl (by decide +kernel) ?_
        refine q_script rfl (by decide) rfl ?_
        refine q_clo (v := (some (.int 0))) (w9 := w1) (a := 0) (b := 0) (ags := [.ref 41, .int 4]) rfl rfl rfl rfl cl_17 ?_
        refine q_istore rfl (by decide) ?_
        refine q_aload_n rfl rfl ?_
        refine q_call rfl rfl rfl rfl ?_
        refine q_aload_n rfl rfl ?_
        refine q_get rfl rfl rfl rfl ?_
        refine q_iret rfl rfl ?_
        refine bk_inl ?_
        refine q_iload rfl rfl ?_
        refine q_ic_eq_t (t := 643) rfl (by decide) (i_eq (a := (0 : Int)) (b := (0 : Int)) (by decide +kernel) (by decide +kernel) (by omega)) ?_
        refine q_iload rfl rfl ?_
        refine q_if_ne_f (t := 660) rfl (by decide) (i_nne (a := (0 : Int)) (b := (0 : Int)) (by decide +kernel) (by decide +kernel) (by omega)) ?_
        refine q_aload_n rfl rfl ?_
        refine q_iconstv (v := (0 : Int32)) rfl (by decide +kernel) ?_
        refine q_laloadv (m := 0) rfl (by decide) rfl (by decide +kernel) rfl ?_
        refine q_iload rfl rfl ?_
        refine q_i2lv (v := (0 : Int64)) rfl (by decide +kernel) ?_
        refine q_lcmpv (v := (0 : Int32)) rfl (by decide +kernel) ?_
        refine q_if_eq_t (t := 660) rfl (by decide) (i_eq (a := (0 : Int)) (b := (0 : Int)) (by decide +kernel) (by decide +kernel) (by omega)) ?_
        refine q_goto (t := 2739) rfl (by decide) ?_
        refine q_iincv (v := (8 : Int32)) rfl rfl (by decide) (by decide +kernel) ?_
        refine q_goto (t := 23) rfl (by decide) ?_
        exact q_end rfl rfl (by decide) (by decide)
      by_cases h9 : (x1).toInt = 5
      · skip
        obtain rfl : x1 = (5 : Int32) := i_eq (a := (x1).toInt) (b := 5) rfl (by decide +kernel) (by omega)
        refine q_tsw_i (t := 119) rfl (by decide +kernel) rfl (by decide) ?_
        refine q_aload_n rfl rfl ?_
        refine q_get rfl rfl rfl rfl ?_
        refine q_call rfl rfl rfl rfl ?_
        refine q_iconstv (v := (0 : Int32)) rfl (by decide +kernel) ?_
        refine q_istore_n rfl (by decide) ?_
        refine q_iconstv (v := (0 : Int32)) rfl (by decide +kernel) ?_
        refine q_istore_n rfl (by decide) ?_
        refine q_iload_n rfl rfl ?_
        refine q_aload_n rfl rfl ?_
        refine q_get rfl rfl rfl rfl ?_
        refine q_get rfl rfl rfl rfl ?_
        refine q_ic_ge_t (t := 29) rfl (by decide) (i_le_r (a := (0 : Int)) (b := (0 : Int)) (by decide +kernel) (by decide +kernel) (by omega)) ?_
        refine q_iload_n rfl rfl ?_
        refine q_iret rfl rfl ?_
        refine bk_inl ?_
        refine q_iret rfl rfl ?_
        refine bk_inl ?_
        refine q_i2lv (v := (0 : Int64)) rfl (by decide +kernel) ?_
        refine q_lastorev (m := 0) (w9 := w1) rfl (by decide) rfl (by decide +kernel) (by decide) rfl ?_
        refine q_goto (t := 15) rfl (by decide) ?_
        refine q_iconstv (v := (0 : Int32)) rfl (by decide +kernel) ?_
        refine q_iret rfl rfl ?_
        refine bk_inl ?_
        refine q_istore rfl (by decide) ?_
        refine q_aload_n rfl rfl ?_
        refine q_aload_n rfl rfl ?_
        refine q_iload rfl rfl ?_
        refine q_iconstv (v := (1 : Int32)) rfl (by decide +kernel) ?_
        refine q_iaddv (v := (1 : Int32)) rfl (by decide +kernel) ?_
        refine q_script rfl (by decide) rfl ?_
        refine q_clo (v := (some (.int 0))) (w9 := w1) (a := 0) (b := 0) (ags := [.ref 41, .int 5]) rfl rfl rfl rfl cl_18 ?_
        refine q_istore rfl (by decide) ?_
        refine q_aload_n rfl rfl ?_
        refine q_call rfl rfl rfl rfl ?_
        refine q_aload_n rfl rfl ?_
        refine q_get rfl rfl rfl rfl ?_
        refine q_iret rfl rfl ?_
        refine bk_inl ?_
        refine q_iload rfl rfl ?_
        refine q_ic_eq_t (t := 643) rfl (by decide) (i_eq (a := (0 : Int)) (b := (0 : Int)) (by decide +kernel) (by decide +kernel) (by omega)) ?_
        refine q_iload rfl rfl ?_
        refine q_if_ne_f (t := 660) rfl (by decide) (i_nne (a := (0 : Int)) (b := (0 : Int)) (by decide +kernel) (by decide +kernel) (by omega)) ?_
        refine q_aload_n rfl rfl ?_
        refine q_iconstv (v := (0 : Int32)) rfl (by decide +kernel) ?_
        refine q_laloadv (m := 0) rfl (by decide) rfl (by decide +kernel) rfl ?_
        refine q_iload rfl rfl ?_
        refine q_i2lv (v := (0 : Int64)) rfl (by decide +kernel) ?_
        refine q_lcmpv (v := (0 : Int32)) rfl (by decide +kernel) ?_
        refine q_if_eq_t (t := 660) rfl (by decide) (i_eq (a := (0 : Int)) (b := (0 : Int)) (by decide +kernel) (by decide +kernel) (by omega)) ?_
        refine q_goto (t := 2739) rfl (by decide) ?_
        refine q_iincv (v := (8 : Int32)) rfl rfl (by decide) (by decide +kernel) ?_
        refine q_goto (t := 23) rfl (by decide) ?_
        exact q_end rfl rfl (by decide) (by decide)
      by_cases h10 : (x1).toInt = 6
      · skip
        obtain rfl : x1 = (6 : Int32) := i_eq (a := (x1).toInt) (b := 6) rfl (by decide +kernel) (by omega)
        refine q_tsw_i (t := 127) rfl (by decide +kernel) rfl (by decide) ?_
        refine q_aload_n rfl rfl ?_
        refine q_get rfl rfl rfl rfl ?_
        refine q_get rfl rfl rfl rfl ?_
        refine q_bipushv (v := (32 : Int32)) rfl (by decide +kernel) ?_
        refine q_ialoadv (m := 32) rfl (by decide) (by decide) rfl (by decide +kernel) rfl ?_
        refine q_iret rfl rfl ?_
        refine bk_inl ?_
        refine q_i2lv (v := (0 : Int64)) rfl (by decide +kernel) ?_
        refine q_lastorev (m := 0) (w9 := w1) rfl (by decide) rfl (by decide +kernel) (by decide) rfl ?_
        refine q_goto (t := 15) rfl (by decide) ?_
        refine q_iconstv (v := (0 : Int32)) rfl (by decide +kernel) ?_
        refine q_iret rfl rfl ?_
        refine bk_inl ?_
        refine q_istore rfl (by decide) ?_
        refine q_aload_n rfl rfl ?_
        refine q_aload_n rfl rfl ?_
        refine q_iload rfl rfl ?_
        refine q_iconstv (v := (1 : Int32)) rfl (by decide +kernel) ?_
        refine q_iaddv (v := (1 : Int32)) rfl (by decide +kernel) ?_
        refine q_script rfl (by decide) rfl ?_
        refine q_clo (v := (some (.int 0))) (w9 := w1) (a := 0) (b := 0) (ags := [.ref 41, .int 6]) rfl rfl rfl rfl cl_19 ?_
        refine q_istore rfl (by decide) ?_
        refine q_aload_n rfl rfl ?_
        refine q_call rfl rfl rfl rfl ?_
        refine q_aload_n rfl rfl ?_
        refine q_get rfl rfl rfl rfl ?_
        refine q_iret rfl rfl ?_
        refine bk_inl ?_
        refine q_iload rfl rfl ?_
        refine q_ic_eq_t (t := 643) rfl (by decide) (i_eq (a := (0 : Int)) (b := (0 : Int)) (by decide +kernel) (by decide +kernel) (by omega)) ?_
        refine q_iload rfl rfl ?_
        refine q_if_ne_f (t := 660) rfl (by decide) (i_nne (a := (0 : Int)) (b := (0 : Int)) (by decide +kernel) (by decide +kernel) (by omega)) ?_
        refine q_aload_n rfl rfl ?_
        refine q_iconstv (v := (0 : Int32)) rfl (by decide +kernel) ?_
        refine q_laloadv (m := 0) rfl (by decide) rfl (by decide +kernel) rfl ?_
        refine q_iload rfl rfl ?_
        refine q_i2lv (v := (0 : Int64)) rfl (by decide +kernel) ?_
        refine q_lcmpv (v := (0 : Int32)) rfl (by decide +kernel) ?_
        refine q_if_eq_t (t := 660) rfl (by decide) (i_eq (a := (0 : Int)) (b := (0 : Int)) (by decide +kernel) (by decide +kernel) (by omega)) ?_
        refine q_goto (t := 2739) rfl (by decide) ?_
        refine q_iincv (v := (8 : Int32)) rfl rfl (by decide) (by decide +kernel) ?_
        refine q_goto (t := 23) rfl (by decide) ?_
        exact q_end rfl rfl (by decide) (by decide)
      by_cases h11 : (x1).toInt = 7
      · skip
        obtain rfl : x1 = (7 : Int32) := i_eq (a := (x1).toInt) (b := 7) rfl (by decide +kernel) (by omega)
        refine q_tsw_i (t := 138) rfl (by decide +kernel) rfl (by decide) ?_
        refine q_aload_n rfl rfl ?_
        refine q_get rfl rfl rfl rfl ?_
        refine q_get rfl rfl rfl rfl ?_
        refine q_bipushv (v := (33 : Int32)) rfl (by decide +kernel) ?_
        refine q_ialoadv (m := 33) rfl (by decide) (by decide) rfl (by decide +kernel) rfl ?_
        refine q_iret rfl rfl ?_
        refine bk_inl ?_
        refine q_i2lv (v := (0 : Int64)) rfl (by decide +kernel) ?_
        refine q_lastorev (m := 0) (w9 := w1) rfl (by decide) rfl (by decide +kernel) (by decide) rfl ?_
        refine q_goto (t := 15) rfl (by decide) ?_
        refine q_iconstv (v := (0 : Int32)) rfl (by decide +kernel) ?_
        refine q_iret rfl rfl ?_
        refine bk_inl ?_
        refine q_istore rfl (by decide) ?_
        refine q_aload_n rfl rfl ?_
        refine q_aload_n rfl rfl ?_
        refine q_iload rfl rfl ?_
        refine q_iconstv (v := (1 : Int32)) rfl (by decide +kernel) ?_
        refine q_iaddv (v := (1 : Int32)) rfl (by decide +kernel) ?_
        refine q_script rfl (by decide) rfl ?_
        refine q_clo (v := (some (.int 0))) (w9 := w1) (a := 0) (b := 0) (ags := [.ref 41, .int 7]) rfl rfl rfl rfl cl_20 ?_
        refine q_istore rfl (by decide) ?_
        refine q_aload_n rfl rfl ?_
        refine q_call rfl rfl rfl rfl ?_
        refine q_aload_n rfl rfl ?_
        refine q_get rfl rfl rfl rfl ?_
        refine q_iret rfl rfl ?_
        refine bk_inl ?_
        refine q_iload rfl rfl ?_
        refine q_ic_eq_t (t := 643) rfl (by decide) (i_eq (a := (0 : Int)) (b := (0 : Int)) (by decide +kernel) (by decide +kernel) (by omega)) ?_
        refine q_iload rfl rfl ?_
        refine q_if_ne_f (t := 660) rfl (by decide) (i_nne (a := (0 : Int)) (b := (0 : Int)) (by decide +kernel) (by decide +kernel) (by omega)) ?_
        refine q_aload_n rfl rfl ?_
        refine q_iconstv (v := (0 : Int32)) rfl (by decide +kernel) ?_
        refine q_laloadv (m := 0) rfl (by decide) rfl (by decide +kernel) rfl ?_
        refine q_iload rfl rfl ?_
        refine q_i2lv (v := (0 : Int64)) rfl (by decide +kernel) ?_
        refine q_lcmpv (v := (0 : Int32)) rfl (by decide +kernel) ?_
        refine q_if_eq_t (t := 660) rfl (by decide) (i_eq (a := (0 : Int)) (b := (0 : Int)) (by decide +kernel) (by decide +kernel) (by omega)) ?_
        refine q_goto (t := 2739) rfl (by decide) ?_
        refine q_iincv (v := (8 : Int32)) rfl rfl (by decide) (by decide +kernel) ?_
        refine q_goto (t := 23) rfl (by decide) ?_
        exact q_end rfl rfl (by decide) (by decide)
      by_cases h12 : (x1).toInt = 8
      · skip
        obtain rfl : x1 = (8 : Int32) := i_eq (a := (x1).toInt) (b := 8) rfl (by decide +kernel) (by omega)
        refine q_tsw_i (t := 149) rfl (by decide +kernel) rfl (by decide) ?_
        refine q_aload_n rfl rfl ?_
        refine q_get rfl rfl rfl rfl ?_
        refine q_call rfl rfl rfl rfl ?_
        refine q_iconstv (v := (0 : Int32)) rfl (by decide +kernel) ?_
        refine q_istore_n rfl (by decide) ?_
        refine q_iconstv (v := (0 : Int32)) rfl (by decide +kernel) ?_
        refine q_istore_n rfl (by decide) ?_
        refine q_iload_n rfl rfl ?_
        refine q_aload_n rfl rfl ?_
        refine q_get rfl rfl rfl rfl ?_
        refine q_get rfl rfl rfl rfl ?_
        refine q_ic_ge_t (t := 35) rfl (by decide) (i_le_r (a := (0 : Int)) (b := (0 : Int)) (by decide +kernel) (by decide +kernel) (by omega)) ?_
        refine q_iload_n rfl rfl ?_
        refine q_iret rfl rfl ?_
        refine bk_inl ?_
        refine q_iret rfl rfl ?_
        refine bk_inl ?_
        refine q_i2lv (v := (0 : Int64)) rfl (by decide +kernel) ?_
        refine q_lastorev (m := 0) (w9 := w1) rfl (by decide) rfl (by decide +kernel) (by decide) rfl ?_
        refine q_goto (t := 15) rfl (by decide) ?_
        refine q_iconstv (v := (0 : Int32)) rfl (by decide +kernel) ?_
        refine q_iret rfl rfl ?_
        refine bk_inl ?_
        refine q_istore rfl (by decide) ?_
        refine q_aload_n rfl rfl ?_
        refine q_aload_n rfl rfl ?_
        refine q_iload rfl rfl ?_
        refine q_iconstv (v := (1 : Int32)) rfl (by decide +kernel) ?_
        refine q_iaddv (v := (1 : Int32)) rfl (by decide +kernel) ?_
        refine q_script rfl (by decide) rfl ?_
        refine q_clo (v := (some (.int 0))) (w9 := w1) (a := 0) (b := 0) (ags := [.ref 41, .int 8]) rfl rfl rfl rfl cl_21 ?_
        refine q_istore rfl (by decide) ?_
        refine q_aload_n rfl rfl ?_
        refine q_call rfl rfl rfl rfl ?_
        refine q_aload_n rfl rfl ?_
        refine q_get rfl rfl rfl rfl ?_
        refine q_iret rfl rfl ?_
        refine bk_inl ?_
        refine q_iload rfl rfl ?_
        refine q_ic_eq_t (t := 643) rfl (by decide) (i_eq (a := (0 : Int)) (b := (0 : Int)) (by decide +kernel) (by decide +kernel) (by omega)) ?_
        refine q_iload rfl rfl ?_
        refine q_if_ne_f (t := 660) rfl (by decide) (i_nne (a := (0 : Int)) (b := (0 : Int)) (by decide +kernel) (by decide +kernel) (by omega)) ?_
        refine q_aload_n rfl rfl ?_
        refine q_iconstv (v := (0 : Int32)) rfl (by decide +kernel) ?_
        refine q_laloadv (m := 0) rfl (by decide) rfl (by decide +kernel) rfl ?_
        refine q_iload rfl rfl ?_
        refine q_i2lv (v := (0 : Int64)) rfl (by decide +kernel) ?_
        refine q_lcmpv (v := (0 : Int32)) rfl (by decide +kernel) ?_
        refine q_if_eq_t (t := 660) rfl (by decide) (i_eq (a := (0 : Int)) (b := (0 : Int)) (by decide +kernel) (by decide +kernel) (by omega)) ?_
        refine q_goto (t := 2739) rfl (by decide) ?_
        refine q_iincv (v := (8 : Int32)) rfl rfl (by decide) (by decide +kernel) ?_
        refine q_goto (t := 23) rfl (by decide) ?_
        exact q_end rfl rfl (by decide) (by decide)
      by_cases h13 : (x1).toInt = 9
      · skip
        obtain rfl : x1 = (9 : Int32) := i_eq (a := (x1).toInt) (b := 9) rfl (by decide +kernel) (by omega)
        refine q_tsw_i (t := 157) rfl (by decide +kernel) rfl (by decide) ?_
        refine q_aload_n rfl rfl ?_
        refine q_get rfl rfl rfl rfl ?_
        refine q_get rfl rfl rfl rfl ?_
        refine q_bipushv (v := (30 : Int32)) rfl (by decide +kernel) ?_
        refine q_ialoadv (m := 30) rfl (by decide) (by decide) rfl (by decide +kernel) rfl ?_
        refine q_iret rfl rfl ?_
        refine bk_inl ?_
        refine q_i2lv (v := (0 : Int64)) rfl (by decide +kernel) ?_
        refine q_lastorev (m := 0) (w9 := w1) rfl (by decide) rfl (by decide +kernel) (by decide) rfl ?_
        refine q_goto (t := 15) rfl (by decide) ?_
        refine q_iconstv (v := (0 : Int32)) rfl (by decide +kernel) ?_
        refine q_iret rfl rfl ?_
        refine bk_inl ?_
        refine q_istore rfl (by decide) ?_
        refine q_aload_n rfl rfl ?_
        refine q_aload_n rfl rfl ?_
        refine q_iload rfl rfl ?_
        refine q_iconstv (v := (1 : Int32)) rfl (by decide +kernel) ?_
        refine q_iaddv (v := (1 : Int32)) rfl (by decide +kernel) ?_
        refine q_script rfl (by decide) rfl ?_
        refine q_clo (v := (some (.int 0))) (w9 := w1) (a := 0) (b := 0) (ags := [.ref 41, .int 9]) rfl rfl rfl rfl cl_22 ?_
        refine q_istore rfl (by decide) ?_
        refine q_aload_n rfl rfl ?_
        refine q_call rfl rfl rfl rfl ?_
        refine q_aload_n rfl rfl ?_
        refine q_get rfl rfl rfl rfl ?_
        refine q_iret rfl rfl ?_
        refine bk_inl ?_
        refine q_iload rfl rfl ?_
        refine q_ic_eq_t (t := 643) rfl (by decide) (i_eq (a := (0 : Int)) (b := (0 : Int)) (by decide +kernel) (by decide +kernel) (by omega)) ?_
        refine q_iload rfl rfl ?_
        refine q_if_ne_f (t := 660) rfl (by decide) (i_nne (a := (0 : Int)) (b := (0 : Int)) (by decide +kernel) (by decide +kernel) (by omega)) ?_
        refine q_aload_n rfl rfl ?_
        refine q_iconstv (v := (0 : Int32)) rfl (by decide +kernel) ?_
        refine q_laloadv (m := 0) rfl (by decide) rfl (by decide +kernel) rfl ?_
        refine q_iload rfl rfl ?_
        refine q_i2lv (v := (0 : Int64)) rfl (by decide +kernel) ?_
        refine q_lcmpv (v := (0 : Int32)) rfl (by decide +kernel) ?_
        refine q_if_eq_t (t := 660) rfl (by decide) (i_eq (a := (0 : Int)) (b := (0 : Int)) (by decide +kernel) (by decide +kernel) (by omega)) ?_
        refine q_goto (t := 2739) rfl (by decide) ?_
        refine q_iincv (v := (8 : Int32)) rfl rfl (by decide) (by decide +kernel) ?_
        refine q_goto (t := 23) rfl (by decide) ?_
        exact q_end rfl rfl (by decide) (by decide)
      by_cases h14 : (x1).toInt = 10
      · skip
        obtain rfl : x1 = (10 : Int32) := i_eq (a := (x1).toInt) (b := 10) rfl (by decide +kernel) (by omega)
        refine q_tsw_i (t := 168) rfl (by decide +kernel) rfl (by decide) ?_
        refine q_aload_n rfl rfl ?_
        refine q_get rfl rfl rfl rfl ?_
        refine q_iret rfl rfl ?_
        refine bk_inl ?_
        refine q_i2lv (v := (0 : Int64)) rfl (by decide +kernel) ?_
        refine q_lastorev (m := 0) (w9 := w1) rfl (by decide) rfl (by decide +kernel) (by decide) rfl ?_
        refine q_goto (t := 15) rfl (by decide) ?_
        refine q_iconstv (v := (0 : Int32)) rfl (by decide +kernel) ?_
        refine q_iret rfl rfl ?_
        refine bk_inl ?_
        refine q_istore rfl (by decide) ?_
        refine q_aload_n rfl rfl ?_
        refine q_aload_n rfl rfl ?_
        refine q_iload rfl rfl ?_
        refine q_iconstv (v := (1 : Int32)) rfl (by decide +kernel) ?_
        refine q_iaddv (v := (1 : Int32)) rfl (by decide +kernel) ?_
        refine q_script rfl (by decide) rfl ?_
        refine q_clo (v := (some (.int 0))) (w9 := w1) (a := 0) (b := 0) (ags := [.ref 41, .int 10]) rfl rfl rfl rfl cl_23 ?_
        refine q_istore rfl (by decide) ?_
        refine q_aload_n rfl rfl ?_
        refine q_call rfl rfl rfl rfl ?_
        refine q_aload_n rfl rfl ?_
        refine q_get rfl rfl rfl rfl ?_
        refine q_iret rfl rfl ?_
        refine bk_inl ?_
        refine q_iload rfl rfl ?_
        refine q_ic_eq_t (t := 643) rfl (by decide) (i_eq (a := (0 : Int)) (b := (0 : Int)) (by decide +kernel) (by decide +kernel) (by omega)) ?_
        refine q_iload rfl rfl ?_
        refine q_if_ne_f (t := 660) rfl (by decide) (i_nne (a := (0 : Int)) (b := (0 : Int)) (by decide +kernel) (by decide +kernel) (by omega)) ?_
        refine q_aload_n rfl rfl ?_
        refine q_iconstv (v := (0 : Int32)) rfl (by decide +kernel) ?_
        refine q_laloadv (m := 0) rfl (by decide) rfl (by decide +kernel) rfl ?_
        refine q_iload rfl rfl ?_
        refine q_i2lv (v := (0 : Int64)) rfl (by decide +kernel) ?_
        refine q_lcmpv (v := (0 : Int32)) rfl (by decide +kernel) ?_
        refine q_if_eq_t (t := 660) rfl (by decide) (i_eq (a := (0 : Int)) (b := (0 : Int)) (by decide +kernel) (by decide +kernel) (by omega)) ?_
        refine q_goto (t := 2739) rfl (by decide) ?_
        refine q_iincv (v := (8 : Int32)) rfl rfl (by decide) (by decide +kernel) ?_
        refine q_goto (t := 23) rfl (by decide) ?_
        exact q_end rfl rfl (by decide) (by decide)
      obtain rfl : x1 = (11 : Int32) := i_eq (a := (x1).toInt) (b := 11) rfl (by decide +kernel) (by omega)
      refine q_tsw_i (t := 173) rfl (by decide +kernel) rfl (by decide) ?_
      refine q_aload_n rfl rfl ?_
      refine q_get rfl rfl rfl rfl ?_
      refine q_get rfl rfl rfl rfl ?_
      refine q_iret rfl rfl ?_
      refine bk_inl ?_
      refine q_i2lv (v := (0 : Int64)) rfl (by decide +kernel) ?_
      refine q_lastorev (m := 0) (w9 := w1) rfl (by decide) rfl (by decide +kernel) (by decide) rfl ?_
      refine q_goto (t := 15) rfl (by decide) ?_
      refine q_iconstv (v := (0 : Int32)) rfl (by decide +kernel) ?_
      refine q_iret rfl rfl ?_
      refine bk_inl ?_
      refine q_istore rfl (by decide) ?_
      refine q_aload_n rfl rfl ?_
      refine q_aload_n rfl rfl ?_
      refine q_iload rfl rfl ?_
      refine q_iconstv (v := (1 : Int32)) rfl (by decide +kernel) ?_
      refine q_iaddv (v := (1 : Int32)) rfl (by decide +kernel) ?_
      refine q_script rfl (by decide) rfl ?_
      refine q_clo (v := (some (.int 0))) (w9 := w1) (a := 0) (b := 0) (ags := [.ref 41, .int 11]) rfl rfl rfl rfl cl_24 ?_
      refine q_istore rfl (by decide) ?_
      refine q_aload_n rfl rfl ?_
      refine q_call rfl rfl rfl rfl ?_
      refine q_aload_n rfl rfl ?_
      refine q_get rfl rfl rfl rfl ?_
      refine q_iret rfl rfl ?_
      refine bk_inl ?_
      refine q_iload rfl rfl ?_
      refine q_ic_eq_t (t := 643) rfl (by decide) (i_eq (a := (0 : Int)) (b := (0 : Int)) (by decide +kernel) (by decide +kernel) (by omega)) ?_
      refine q_iload rfl rfl ?_
      refine q_if_ne_f (t := 660) rfl (by decide) (i_nne (a := (0 : Int)) (b := (0 : Int)) (by decide +kernel) (by decide +kernel) (by omega)) ?_
      refine q_aload_n rfl rfl ?_
      refine q_iconstv (v := (0 : Int32)) rfl (by decide +kernel) ?_
      refine q_laloadv (m := 0) rfl (by decide) rfl (by decide +kernel) rfl ?_
      refine q_iload rfl rfl ?_
      refine q_i2lv (v := (0 : Int64)) rfl (by decide +kernel) ?_
      refine q_lcmpv (v := (0 : Int32)) rfl (by decide +kernel) ?_
      refine q_if_eq_t (t := 660) rfl (by decide) (i_eq (a := (0 : Int)) (b := (0 : Int)) (by decide +kernel) (by decide +kernel) (by omega)) ?_
      refine q_goto (t := 2739) rfl (by decide) ?_
      refine q_iincv (v := (8 : Int32)) rfl rfl (by decide) (by decide +kernel) ?_
      refine q_goto (t := 23) rfl (by decide) ?_
      exact q_end rfl rfl (by decide) (by decide)
set_option maxRecDepth 100000 in
set_option maxHeartbeats 4000000 in
theorem op_9 {x0 x1 x2 x3 x4 x5 x6 x7 : Int32} : Wp [x0, x1, x2, x3, x4, x5, x6, x7] 100 296 663 l1 [] w1 68 8870 Qlaw := by
  refine q_aload_n rfl rfl ?_
  refine q_aload_n rfl rfl ?_
  refine q_iload rfl rfl ?_
  refine q_iconstv (v := (1 : Int32)) rfl (by decide +kernel) ?_
  refine q_iaddv (v := (1 : Int32)) rfl (by decide +kernel) ?_
  refine q_script rfl (by decide) rfl ?_
  refine q_aload_n rfl rfl ?_
  refine q_iload rfl rfl ?_
  refine q_iconstv (v := (2 : Int32)) rfl (by decide +kernel) ?_
  refine q_iaddv (v := (2 : Int32)) rfl (by decide +kernel) ?_
  refine q_script rfl (by decide) rfl ?_
  refine q_aload_n rfl rfl ?_
  refine q_call rfl rfl rfl rfl ?_
  refine q_aload_n rfl rfl ?_
  refine q_iconstv (v := (0 : Int32)) rfl (by decide +kernel) ?_
  refine q_aload_n rfl rfl ?_
  refine q_iload_n rfl rfl ?_
  refine q_iload_n rfl rfl ?_
  refine q_call rfl rfl rfl rfl ?_
  refine q_aload_n rfl rfl ?_
  refine q_iload_n rfl rfl ?_
  refine q_call rfl rfl rfl rfl ?_
  refine q_aload_n rfl rfl ?_
  refine q_iload_n rfl rfl ?_
  refine q_iconstv (v := (0 : Int32)) rfl (by decide +kernel) ?_
  refine q_aload_n rfl rfl ?_
  refine q_get rfl rfl rfl rfl ?_
  refine q_get rfl rfl rfl rfl ?_
  refine q_iconstv (v := (1 : Int32)) rfl (by decide +kernel) ?_
  refine q_isubv (v := (-1 : Int32)) rfl (by decide +kernel) ?_
  refine q_call rfl rfl rfl rfl ?_
  refine q_iload_n rfl rfl ?_
  refine q_iload_n rfl rfl ?_
  by_cases h1 : (x1).toInt < 0
  · refine q_ic_lt_t (t := 14) rfl (by decide) (i_lt (a := (x1).toInt) (b := (0 : Int)) rfl (by decide +kernel) (by omega)) ?_
    refine q_iconstv (v := (0 : Int32)) rfl (by decide +kernel) ?_
    refine q_zret rfl rfl (by decide) ?_
    refine bk_inl ?_
    refine q_call rfl rfl rfl rfl ?_
    refine q_iload_n rfl rfl ?_
    refine q_if_ne_f (t := 25) rfl (by decide) (i_nne (a := (0 : Int)) (b := (0 : Int)) (by decide +kernel) (by decide +kernel) (by omega)) ?_
    refine q_aload_n rfl rfl ?_
    refine q_dup rfl rfl ?_
    refine q_get rfl rfl rfl rfl ?_
    refine q_iconstv (v := (1 : Int32)) rfl (by decide +kernel) ?_
    refine q_iaddv (v := (1 : Int32)) rfl (by decide +kernel) ?_
    refine q_putv (w9 := (w1.set 0 (.inr (7, [.ref 1, .ref 3, .ref 7, .ref 9, .ref 10, .ref 11, .ref 12, .ref 13, .ref 25, .ref 37, .ref 39, .int 0, .int 1, .int 0])))) rfl rfl rfl (by decide) rfl (by decide) rfl ?_
    refine q_fin rfl rfl rfl ?_
    refine bk_out rfl rfl ?_
    refine bk_out rfl rfl ?_
    refine bk_thr (z := (1 : Int32)) rfl ⟨_, _, rfl⟩ rfl ?_
    refine bk_inl ?_
    refine q_istore rfl (by decide) ?_
    refine q_aload_n rfl rfl ?_
    refine q_aload_n rfl rfl ?_
    refine q_iload rfl rfl ?_
    refine q_iconstv (v := (1 : Int32)) rfl (by decide +kernel) ?_
    refine q_iaddv (v := (1 : Int32)) rfl (by decide +kernel) ?_
    refine q_script rfl (by decide) rfl ?_
    refine q_aload_n rfl rfl ?_
    refine q_iload rfl rfl ?_
    refine q_iconstv (v := (2 : Int32)) rfl (by decide +kernel) ?_
    refine q_iaddv (v := (2 : Int32)) rfl (by decide +kernel) ?_
    refine q_script rfl (by decide) rfl ?_
    refine q_call rfl rfl rfl rfl ?_
    refine q_aload_n rfl rfl ?_
    refine q_iconstv (v := (0 : Int32)) rfl (by decide +kernel) ?_
    refine q_putv (w9 := (w1.set 0 (.inr (7, [.ref 1, .ref 3, .ref 7, .ref 9, .ref 10, .ref 11, .ref 12, .ref 13, .ref 25, .ref 37, .ref 39, .int 0, .int 1, .int 0])))) rfl rfl rfl (by decide) rfl (by decide) rfl ?_
    refine q_aload_n rfl rfl ?_
    refine q_iload_n rfl rfl ?_
    refine q_aload_n rfl rfl ?_
    refine q_get rfl rfl rfl rfl ?_
    refine q_call rfl rfl rfl rfl ?_
    refine q_aload_n rfl rfl ?_
    refine q_iload_n rfl rfl ?_
    refine q_iconstv (v := (0 : Int32)) rfl (by decide +kernel) ?_
    refine q_iload_n rfl rfl ?_
    refine q_iconstv (v := (1 : Int32)) rfl (by decide +kernel) ?_
    refine q_isubv (v := (-1 : Int32)) rfl (by decide +kernel) ?_
    refine q_call rfl rfl rfl rfl ?_
    refine q_iload_n rfl rfl ?_
    refine q_iload_n rfl rfl ?_
    refine q_ic_lt_t (t := 14) rfl (by decide) (i_lt (a := (x1).toInt) (b := (0 : Int)) rfl (by decide +kernel) (by omega)) ?_
    refine q_iconstv (v := (0 : Int32)) rfl (by decide +kernel) ?_
    refine q_zret rfl rfl (by decide) ?_
    refine bk_inl ?_
    refine q_iconstv (v := (1 : Int32)) rfl (by decide +kernel) ?_
    refine q_iconstv (v := (0 : Int32)) rfl (by decide +kernel) ?_
    refine q_call rfl rfl rfl rfl ?_
    refine q_iload_n rfl rfl ?_
    refine q_if_ne_f (t := 26) rfl (by decide) (i_nne (a := (0 : Int)) (b := (0 : Int)) (by decide +kernel) (by decide +kernel) (by omega)) ?_
    refine q_aload_n rfl rfl ?_
    refine q_get rfl rfl rfl rfl ?_
    refine q_if_ne_f (t := 26) rfl (by decide) (i_nne (a := (0 : Int)) (b := (0 : Int)) (by decide +kernel) (by decide +kernel) (by omega)) ?_
    refine q_aload_n rfl rfl ?_
    refine q_iload_n rfl rfl ?_
    refine q_putv (w9 := ((w1.set 0 (.inr (7, [.ref 1, .ref 3, .ref 7, .ref 9, .ref 10, .ref 11, .ref 12, .ref 13, .ref 25, .ref 37, .ref 39, .int 0, .int 1, .int 0]))).set 41 (.inr (8, [.int 1, .ref 42, .int 0, .int 0, .int 0, .int 0, .int 0, .int 0, .int (-1), .ref 43, .ref 44, .ref 45, .ref 46, .ref 47, .ref 48, .ref 49, .int 0, .int 0, .int 0, .int 5, .int 0, .int 0, .int 0, .int 5, .ref 50, .ref 51, .ref 52, .ref 53, .ref 54, .int 0, .int 0, .ref 55, .ref 56, .ref 57, .int 0, .int 0, .int 0, .int 0, .int 0, .int 0, .ref 58, .ref 59, .ref 60, .ref 61, .ref 62, .ref 63, .ref 64, .int 0, .int 0, .ref 65, .int 0, .ref 66, .int 0])))) rfl rfl rfl (by decide) rfl (by decide) rfl ?_
    refine q_aload_n rfl rfl ?_
    refine q_get rfl rfl rfl rfl ?_
    refine q_iload_n rfl rfl ?_
    refine q_dup2 rfl ⟨rfl, rfl⟩ ?_
    refine q_ialoadv (m := 0) rfl (by decide) (by decide) rfl (by decide +kernel) rfl ?_
    refine q_iconstv (v := (1 : Int32)) rfl (by decide +kernel) ?_
    refine q_iaddv (v := (1 : Int32)) rfl (by decide +kernel) ?_
    refine q_iastorev (m := 0) (w9 := (((w1.set 0 (.inr (7, [.ref 1, .ref 3, .ref 7, .ref 9, .ref 10, .ref 11, .ref 12, .ref 13, .ref 25, .ref 37, .ref 39, .int 0, .int 1, .int 0]))).set 41 (.inr (8, [.int 1, .ref 42, .int 0, .int 0, .int 0, .int 0, .int 0, .int 0, .int (-1), .ref 43, .ref 44, .ref 45, .ref 46, .ref 47, .ref 48, .ref 49, .int 0, .int 0, .int 0, .int 5, .int 0, .int 0, .int 0, .int 5, .ref 50, .ref 51, .ref 52, .ref 53, .ref 54, .int 0, .int 0, .ref 55, .ref 56, .ref 57, .int 0, .int 0, .int 0, .int 0, .int 0, .int 0, .ref 58, .ref 59, .ref 60, .ref 61, .ref 62, .ref 63, .ref 64, .int 0, .int 0, .ref 65, .int 0, .ref 66, .int 0]))).set 42 (.inl (0, .inl ([1, 0]))))) rfl (by decide) rfl (by decide +kernel) (by decide) rfl ?_
    refine q_aload_n rfl rfl ?_
    refine q_get rfl rfl rfl rfl ?_
    refine q_if_ne_t (t := 37) rfl (by decide) (i_ne (a := (1 : Int)) (b := (0 : Int)) (by decide +kernel) (by decide +kernel) (by omega)) ?_
    refine q_iconstv (v := (0 : Int32)) rfl (by decide +kernel) ?_
    refine q_zret rfl rfl (by decide) ?_
    refine bk_inl ?_
    refine q_zret rfl rfl (by decide) ?_
    refine bk_inl ?_
    refine q_if_eq_t (t := 33) rfl (by decide) (i_eq (a := (0 : Int)) (b := (0 : Int)) (by decide +kernel) (by decide +kernel) (by omega)) ?_
    refine q_iconstv (v := (0 : Int32)) rfl (by decide +kernel) ?_
    refine q_iret rfl rfl ?_
    refine bk_inl ?_
    refine q_istore rfl (by decide) ?_
    refine q_aload_n rfl rfl ?_
    refine q_call rfl rfl rfl rfl ?_
    refine q_aload_n rfl rfl ?_
    refine q_get rfl rfl rfl rfl ?_
    refine q_iret rfl rfl ?_
    refine bk_inl ?_
    refine q_iload rfl rfl ?_
    refine q_ic_eq_t (t := 711) rfl (by decide) (i_eq (a := (1 : Int)) (b := (1 : Int)) (by decide +kernel) (by decide +kernel) (by omega)) ?_
    refine q_iload rfl rfl ?_
    refine q_if_ne_t (t := 728) rfl (by decide) (i_ne (a := (1 : Int)) (b := (0 : Int)) (by decide +kernel) (by decide +kernel) (by omega)) ?_
    refine q_goto (t := 2739) rfl (by decide) ?_
    refine q_iincv (v := (8 : Int32)) rfl rfl (by decide) (by decide +kernel) ?_
    refine q_goto (t := 23) rfl (by decide) ?_
    exact q_end rfl rfl (by decide) (by decide)
  · refine q_ic_lt_f (t := 14) rfl (by decide) (i_nlt (a := (x1).toInt) (b := (0 : Int)) rfl (by decide +kernel) (by omega)) ?_
    refine q_iload_n rfl rfl ?_
    refine q_iload_n rfl rfl ?_
    refine q_ic_gt_t (t := 14) rfl (by decide) (i_lt_r (a := (x1).toInt) (b := (-1 : Int)) rfl (by decide +kernel) (by omega)) ?_
    refine q_iconstv (v := (0 : Int32)) rfl (by decide +kernel) ?_
    refine q_zret rfl rfl (by decide) ?_
    refine bk_inl ?_
    refine q_call rfl rfl rfl rfl ?_
    refine q_iload_n rfl rfl ?_
    refine q_if_ne_f (t := 25) rfl (by decide) (i_nne (a := (0 : Int)) (b := (0 : Int)) (by decide +kernel) (by decide +kernel) (by omega)) ?_
    refine q_aload_n rfl rfl ?_
    refine q_dup rfl rfl ?_
    refine q_get rfl rfl rfl rfl ?_
    refine q_iconstv (v := (1 : Int32)) rfl (by decide +kernel) ?_
    refine q_iaddv (v := (1 : Int32)) rfl (by decide +kernel) ?_
    refine q_putv (w9 := (w1.set 0 (.inr (7, [.ref 1, .ref 3, .ref 7, .ref 9, .ref 10, .ref 11, .ref 12, .ref 13, .ref 25, .ref 37, .ref 39, .int 0, .int 1, .int 0])))) rfl rfl rfl (by decide) rfl (by decide) rfl ?_
    refine q_fin rfl rfl rfl ?_
    refine bk_out rfl rfl ?_
    refine bk_out rfl rfl ?_
    refine bk_thr (z := (1 : Int32)) rfl ⟨_, _, rfl⟩ rfl ?_
    refine bk_inl ?_
    refine q_istore rfl (by decide) ?_
    refine q_aload_n rfl rfl ?_
    refine q_aload_n rfl rfl ?_
    refine q_iload rfl rfl ?_
    refine q_iconstv (v := (1 : Int32)) rfl (by decide +kernel) ?_
    refine q_iaddv (v := (1 : Int32)) rfl (by decide +kernel) ?_
    refine q_script rfl (by decide) rfl ?_
    refine q_aload_n rfl rfl ?_
    refine q_iload rfl rfl ?_
    refine q_iconstv (v := (2 : Int32)) rfl (by decide +kernel) ?_
    refine q_iaddv (v := (2 : Int32)) rfl (by decide +kernel) ?_
    refine q_script rfl (by decide) rfl ?_
    refine q_call rfl rfl rfl rfl ?_
    refine q_aload_n rfl rfl ?_
    refine q_iconstv (v := (0 : Int32)) rfl (by decide +kernel) ?_
    refine q_putv (w9 := (w1.set 0 (.inr (7, [.ref 1, .ref 3, .ref 7, .ref 9, .ref 10, .ref 11, .ref 12, .ref 13, .ref 25, .ref 37, .ref 39, .int 0, .int 1, .int 0])))) rfl rfl rfl (by decide) rfl (by decide) rfl ?_
    refine q_aload_n rfl rfl ?_
    refine q_iload_n rfl rfl ?_
    refine q_aload_n rfl rfl ?_
    refine q_get rfl rfl rfl rfl ?_
    refine q_call rfl rfl rfl rfl ?_
    refine q_aload_n rfl rfl ?_
    refine q_iload_n rfl rfl ?_
    refine q_iconstv (v := (0 : Int32)) rfl (by decide +kernel) ?_
    refine q_iload_n rfl rfl ?_
    refine q_iconstv (v := (1 : Int32)) rfl (by decide +kernel) ?_
    refine q_isubv (v := (-1 : Int32)) rfl (by decide +kernel) ?_
    refine q_call rfl rfl rfl rfl ?_
    refine q_iload_n rfl rfl ?_
    refine q_iload_n rfl rfl ?_
    refine q_ic_lt_f (t := 14) rfl (by decide) (i_nlt (a := (x1).toInt) (b := (0 : Int)) rfl (by decide +kernel) (by omega)) ?_
    refine q_iload_n rfl rfl ?_
    refine q_iload_n rfl rfl ?_
    refine q_ic_gt_t (t := 14) rfl (by decide) (i_lt_r (a := (x1).toInt) (b := (-1 : Int)) rfl (by decide +kernel) (by omega)) ?_
    refine q_iconstv (v := (0 : Int32)) rfl (by decide +kernel) ?_
    refine q_zret rfl rfl (by decide) ?_
    refine bk_inl ?_
    refine q_iconstv (v := (1 : Int32)) rfl (by decide +kernel) ?_
    refine q_iconstv (v := (0 : Int32)) rfl (by decide +kernel) ?_
    refine q_call rfl rfl rfl rfl ?_
    refine q_iload_n rfl rfl ?_
    refine q_if_ne_f (t := 26) rfl (by decide) (i_nne (a := (0 : Int)) (b := (0 : Int)) (by decide +kernel) (by decide +kernel) (by omega)) ?_
    refine q_aload_n rfl rfl ?_
    refine q_get rfl rfl rfl rfl ?_
    refine q_if_ne_f (t := 26) rfl (by decide) (i_nne (a := (0 : Int)) (b := (0 : Int)) (by decide +kernel) (by decide +kernel) (by omega)) ?_
    refine q_aload_n rfl rfl ?_
    refine q_iload_n rfl rfl ?_
    refine q_putv (w9 := ((w1.set 0 (.inr (7, [.ref 1, .ref 3, .ref 7, .ref 9, .ref 10, .ref 11, .ref 12, .ref 13, .ref 25, .ref 37, .ref 39, .int 0, .int 1, .int 0]))).set 41 (.inr (8, [.int 1, .ref 42, .int 0, .int 0, .int 0, .int 0, .int 0, .int 0, .int (-1), .ref 43, .ref 44, .ref 45, .ref 46, .ref 47, .ref 48, .ref 49, .int 0, .int 0, .int 0, .int 5, .int 0, .int 0, .int 0, .int 5, .ref 50, .ref 51, .ref 52, .ref 53, .ref 54, .int 0, .int 0, .ref 55, .ref 56, .ref 57, .int 0, .int 0, .int 0, .int 0, .int 0, .int 0, .ref 58, .ref 59, .ref 60, .ref 61, .ref 62, .ref 63, .ref 64, .int 0, .int 0, .ref 65, .int 0, .ref 66, .int 0])))) rfl rfl rfl (by decide) rfl (by decide) rfl ?_
    refine q_aload_n rfl rfl ?_
    refine q_get rfl rfl rfl rfl ?_
    refine q_iload_n rfl rfl ?_
    refine q_dup2 rfl ⟨rfl, rfl⟩ ?_
    refine q_ialoadv (m := 0) rfl (by decide) (by decide) rfl (by decide +kernel) rfl ?_
    refine q_iconstv (v := (1 : Int32)) rfl (by decide +kernel) ?_
    refine q_iaddv (v := (1 : Int32)) rfl (by decide +kernel) ?_
    refine q_iastorev (m := 0) (w9 := (((w1.set 0 (.inr (7, [.ref 1, .ref 3, .ref 7, .ref 9, .ref 10, .ref 11, .ref 12, .ref 13, .ref 25, .ref 37, .ref 39, .int 0, .int 1, .int 0]))).set 41 (.inr (8, [.int 1, .ref 42, .int 0, .int 0, .int 0, .int 0, .int 0, .int 0, .int (-1), .ref 43, .ref 44, .ref 45, .ref 46, .ref 47, .ref 48, .ref 49, .int 0, .int 0, .int 0, .int 5, .int 0, .int 0, .int 0, .int 5, .ref 50, .ref 51, .ref 52, .ref 53, .ref 54, .int 0, .int 0, .ref 55, .ref 56, .ref 57, .int 0, .int 0, .int 0, .int 0, .int 0, .int 0, .ref 58, .ref 59, .ref 60, .ref 61, .ref 62, .ref 63, .ref 64, .int 0, .int 0, .ref 65, .int 0, .ref 66, .int 0]))).set 42 (.inl (0, .inl ([1, 0]))))) rfl (by decide) rfl (by decide +kernel) (by decide) rfl ?_
    refine q_aload_n rfl rfl ?_
    refine q_get rfl rfl rfl rfl ?_
    refine q_if_ne_t (t := 37) rfl (by decide) (i_ne (a := (1 : Int)) (b := (0 : Int)) (by decide +kernel) (by decide +kernel) (by omega)) ?_
    refine q_iconstv (v := (0 : Int32)) rfl (by decide +kernel) ?_
    refine q_zret rfl rfl (by decide) ?_
    refine bk_inl ?_
    refine q_zret rfl rfl (by decide) ?_
    refine bk_inl ?_
    refine q_if_eq_t (t := 33) rfl (by decide) (i_eq (a := (0 : Int)) (b := (0 : Int)) (by decide +kernel) (by decide +kernel) (by omega)) ?_
    refine q_iconstv (v := (0 : Int32)) rfl (by decide +kernel) ?_
    refine q_iret rfl rfl ?_
    refine bk_inl ?_
    refine q_istore rfl (by decide) ?_
    refine q_aload_n rfl rfl ?_
    refine q_call rfl rfl rfl rfl ?_
    refine q_aload_n rfl rfl ?_
    refine q_get rfl rfl rfl rfl ?_
    refine q_iret rfl rfl ?_
    refine bk_inl ?_
    refine q_iload rfl rfl ?_
    refine q_ic_eq_t (t := 711) rfl (by decide) (i_eq (a := (1 : Int)) (b := (1 : Int)) (by decide +kernel) (by decide +kernel) (by omega)) ?_
    refine q_iload rfl rfl ?_
    refine q_if_ne_t (t := 728) rfl (by decide) (i_ne (a := (1 : Int)) (b := (0 : Int)) (by decide +kernel) (by decide +kernel) (by omega)) ?_
    refine q_goto (t := 2739) rfl (by decide) ?_
    refine q_iincv (v := (8 : Int32)) rfl rfl (by decide) (by decide +kernel) ?_
    refine q_goto (t := 23) rfl (by decide) ?_
    exact q_end rfl rfl (by decide) (by decide)
set_option maxRecDepth 100000 in
set_option maxHeartbeats 4000000 in
theorem op_10 {x0 x1 x2 x3 x4 x5 x6 x7 : Int32} : Wp [x0, x1, x2, x3, x4, x5, x6, x7] 100 296 731 l1 [] w1 68 8870 Qlaw := by
  refine q_aload_n rfl rfl ?_
  refine q_aload_n rfl rfl ?_
  refine q_iload rfl rfl ?_
  refine q_iconstv (v := (1 : Int32)) rfl (by decide +kernel) ?_
  refine q_iaddv (v := (1 : Int32)) rfl (by decide +kernel) ?_
  refine q_script rfl (by decide) rfl ?_
  refine q_aload_n rfl rfl ?_
  refine q_iload rfl rfl ?_
  refine q_iconstv (v := (2 : Int32)) rfl (by decide +kernel) ?_
  refine q_iaddv (v := (2 : Int32)) rfl (by decide +kernel) ?_
  refine q_script rfl (by decide) rfl ?_
  refine q_aload_n rfl rfl ?_
  refine q_call rfl rfl rfl rfl ?_
  refine q_aload_n rfl rfl ?_
  refine q_iconstv (v := (0 : Int32)) rfl (by decide +kernel) ?_
  refine q_aload_n rfl rfl ?_
  refine q_iload_n rfl rfl ?_
  refine q_iload_n rfl rfl ?_
  refine q_call rfl rfl rfl rfl ?_
  refine q_aload_n rfl rfl ?_
  refine q_iload_n rfl rfl ?_
  refine q_call rfl rfl rfl rfl ?_
  refine q_aload_n rfl rfl ?_
  refine q_iload_n rfl rfl ?_
  refine q_iconstv (v := (0 : Int32)) rfl (by decide +kernel) ?_
  refine q_aload_n rfl rfl ?_
  refine q_get rfl rfl rfl rfl ?_
  refine q_get rfl rfl rfl rfl ?_
  refine q_iconstv (v := (1 : Int32)) rfl (by decide +kernel) ?_
  refine q_isubv (v := (-1 : Int32)) rfl (by decide +kernel) ?_
  refine q_call rfl rfl rfl rfl ?_
  refine q_iload_n rfl rfl ?_
  refine q_iload_n rfl rfl ?_
  by_cases h1 : (x1).toInt < 0
  · refine q_ic_lt_t (t := 14) rfl (by decide) (i_lt (a := (x1).toInt) (b := (0 : Int)) rfl (by decide +kernel) (by omega)) ?_
    refine q_iconstv (v := (0 : Int32)) rfl (by decide +kernel) ?_
    refine q_zret rfl rfl (by decide) ?_
    refine bk_inl ?_
    refine q_call rfl rfl rfl rfl ?_
    refine q_iload_n rfl rfl ?_
    refine q_if_ne_f (t := 25) rfl (by decide) (i_nne (a := (0 : Int)) (b := (0 : Int)) (by decide +kernel) (by decide +kernel) (by omega)) ?_
    refine q_aload_n rfl rfl ?_
    refine q_dup rfl rfl ?_
    refine q_get rfl rfl rfl rfl ?_
    refine q_iconstv (v := (1 : Int32)) rfl (by decide +kernel) ?_
    refine q_iaddv (v := (1 : Int32)) rfl (by decide +kernel) ?_
    refine q_putv (w9 := (w1.set 0 (.inr (7, [.ref 1, .ref 3, .ref 7, .ref 9, .ref 10, .ref 11, .ref 12, .ref 13, .ref 25, .ref 37, .ref 39, .int 0, .int 1, .int 0])))) rfl rfl rfl (by decide) rfl (by decide) rfl ?_
    refine q_fin rfl rfl rfl ?_
    refine bk_out rfl rfl ?_
    refine bk_out rfl rfl ?_
    refine bk_thr (z := (1 : Int32)) rfl ⟨_, _, rfl⟩ rfl ?_
    refine bk_inl ?_
    refine q_istore rfl (by decide) ?_
    refine q_aload_n rfl rfl ?_
    refine q_aload_n rfl rfl ?_
    refine q_iload rfl rfl ?_
    refine q_iconstv (v := (1 : Int32)) rfl (by decide +kernel) ?_
    refine q_iaddv (v := (1 : Int32)) rfl (by decide +kernel) ?_
    refine q_script rfl (by decide) rfl ?_
    refine q_aload_n rfl rfl ?_
    refine q_iload rfl rfl ?_
    refine q_iconstv (v := (2 : Int32)) rfl (by decide +kernel) ?_
    refine q_iaddv (v := (2 : Int32)) rfl (by decide +kernel) ?_
    refine q_script rfl (by decide) rfl ?_
    refine q_call rfl rfl rfl rfl ?_
    refine q_aload_n rfl rfl ?_
    refine q_iconstv (v := (0 : Int32)) rfl (by decide +kernel) ?_
    refine q_putv (w9 := (w1.set 0 (.inr (7, [.ref 1, .ref 3, .ref 7, .ref 9, .ref 10, .ref 11, .ref 12, .ref 13, .ref 25, .ref 37, .ref 39, .int 0, .int 1, .int 0])))) rfl rfl rfl (by decide) rfl (by decide) rfl ?_
    refine q_aload_n rfl rfl ?_
    refine q_iload_n rfl rfl ?_
    refine q_aload_n rfl rfl ?_
    refine q_get rfl rfl rfl rfl ?_
    refine q_call rfl rfl rfl rfl ?_
    refine q_aload_n rfl rfl ?_
    refine q_iload_n rfl rfl ?_
    refine q_iconstv (v := (0 : Int32)) rfl (by decide +kernel) ?_
    refine q_iload_n rfl rfl ?_
    refine q_iconstv (v := (1 : Int32)) rfl (by decide +kernel) ?_
    refine q_isubv (v := (-1 : Int32)) rfl (by decide +kernel) ?_
    refine q_call rfl rfl rfl rfl ?_
    refine q_iload_n rfl rfl ?_
    refine q_iload_n rfl rfl ?_
    refine q_ic_lt_t (t := 14) rfl (by decide) (i_lt (a := (x1).toInt) (b := (0 : Int)) rfl (by decide +kernel) (by omega)) ?_
    refine q_iconstv (v := (0 : Int32)) rfl (by decide +kernel) ?_
    refine q_zret rfl rfl (by decide) ?_
    refine bk_inl ?_
    refine q_iconstv (v := (1 : Int32)) rfl (by decide +kernel) ?_
    refine q_iconstv (v := (0 : Int32)) rfl (by decide +kernel) ?_
    refine q_call rfl rfl rfl rfl ?_
    refine q_iload_n rfl rfl ?_
    refine q_if_ne_f (t := 26) rfl (by decide) (i_nne (a := (0 : Int)) (b := (0 : Int)) (by decide +kernel) (by decide +kernel) (by omega)) ?_
    refine q_aload_n rfl rfl ?_
    refine q_get rfl rfl rfl rfl ?_
    refine q_if_ne_f (t := 26) rfl (by decide) (i_nne (a := (0 : Int)) (b := (0 : Int)) (by decide +kernel) (by decide +kernel) (by omega)) ?_
    refine q_aload_n rfl rfl ?_
    refine q_iload_n rfl rfl ?_
    refine q_putv (w9 := ((w1.set 0 (.inr (7, [.ref 1, .ref 3, .ref 7, .ref 9, .ref 10, .ref 11, .ref 12, .ref 13, .ref 25, .ref 37, .ref 39, .int 0, .int 1, .int 0]))).set 41 (.inr (8, [.int 1, .ref 42, .int 0, .int 0, .int 0, .int 0, .int 0, .int 0, .int (-1), .ref 43, .ref 44, .ref 45, .ref 46, .ref 47, .ref 48, .ref 49, .int 0, .int 0, .int 0, .int 5, .int 0, .int 0, .int 0, .int 5, .ref 50, .ref 51, .ref 52, .ref 53, .ref 54, .int 0, .int 0, .ref 55, .ref 56, .ref 57, .int 0, .int 0, .int 0, .int 0, .int 0, .int 0, .ref 58, .ref 59, .ref 60, .ref 61, .ref 62, .ref 63, .ref 64, .int 0, .int 0, .ref 65, .int 0, .ref 66, .int 0])))) rfl rfl rfl (by decide) rfl (by decide) rfl ?_
    refine q_aload_n rfl rfl ?_
    refine q_get rfl rfl rfl rfl ?_
    refine q_iload_n rfl rfl ?_
    refine q_dup2 rfl ⟨rfl, rfl⟩ ?_
    refine q_ialoadv (m := 0) rfl (by decide) (by decide) rfl (by decide +kernel) rfl ?_
    refine q_iconstv (v := (1 : Int32)) rfl (by decide +kernel) ?_
    refine q_iaddv (v := (1 : Int32)) rfl (by decide +kernel) ?_
    refine q_iastorev (m := 0) (w9 := (((w1.set 0 (.inr (7, [.ref 1, .ref 3, .ref 7, .ref 9, .ref 10, .ref 11, .ref 12, .ref 13, .ref 25, .ref 37, .ref 39, .int 0, .int 1, .int 0]))).set 41 (.inr (8, [.int 1, .ref 42, .int 0, .int 0, .int 0, .int 0, .int 0, .int 0, .int (-1), .ref 43, .ref 44, .ref 45, .ref 46, .ref 47, .ref 48, .ref 49, .int 0, .int 0, .int 0, .int 5, .int 0, .int 0, .int 0, .int 5, .ref 50, .ref 51, .ref 52, .ref 53, .ref 54, .int 0, .int 0, .ref 55, .ref 56, .ref 57, .int 0, .int 0, .int 0, .int 0, .int 0, .int 0, .ref 58, .ref 59, .ref 60, .ref 61, .ref 62, .ref 63, .ref 64, .int 0, .int 0, .ref 65, .int 0, .ref 66, .int 0]))).set 42 (.inl (0, .inl ([1, 0]))))) rfl (by decide) rfl (by decide +kernel) (by decide) rfl ?_
    refine q_aload_n rfl rfl ?_
    refine q_get rfl rfl rfl rfl ?_
    refine q_if_ne_t (t := 37) rfl (by decide) (i_ne (a := (1 : Int)) (b := (0 : Int)) (by decide +kernel) (by decide +kernel) (by omega)) ?_
    refine q_iconstv (v := (0 : Int32)) rfl (by decide +kernel) ?_
    refine q_zret rfl rfl (by decide) ?_
    refine bk_inl ?_
    refine q_zret rfl rfl (by decide) ?_
    refine bk_inl ?_
    refine q_if_eq_t (t := 32) rfl (by decide) (i_eq (a := (0 : Int)) (b := (0 : Int)) (by decide +kernel) (by decide +kernel) (by omega)) ?_
    refine q_iconstv (v := (0 : Int32)) rfl (by decide +kernel) ?_
    refine q_iret rfl rfl ?_
    refine bk_inl ?_
    refine q_istore rfl (by decide) ?_
    refine q_aload_n rfl rfl ?_
    refine q_call rfl rfl rfl rfl ?_
    refine q_aload_n rfl rfl ?_
    refine q_get rfl rfl rfl rfl ?_
    refine q_iret rfl rfl ?_
    refine bk_inl ?_
    refine q_iload rfl rfl ?_
    refine q_ic_eq_t (t := 779) rfl (by decide) (i_eq (a := (1 : Int)) (b := (1 : Int)) (by decide +kernel) (by decide +kernel) (by omega)) ?_
    refine q_iload rfl rfl ?_
    refine q_if_ne_t (t := 796) rfl (by decide) (i_ne (a := (1 : Int)) (b := (0 : Int)) (by decide +kernel) (by decide +kernel) (by omega)) ?_
    refine q_goto (t := 2739) rfl (by decide) ?_
    refine q_iincv (v := (8 : Int32)) rfl rfl (by decide) (by decide +kernel) ?_
    refine q_goto (t := 23) rfl (by decide) ?_
    exact q_end rfl rfl (by decide) (by decide)
  · refine q_ic_lt_f (t := 14) rfl (by decide) (i_nlt (a := (x1).toInt) (b := (0 : Int)) rfl (by decide +kernel) (by omega)) ?_
    refine q_iload_n rfl rfl ?_
    refine q_iload_n rfl rfl ?_
    refine q_ic_gt_t (t := 14) rfl (by decide) (i_lt_r (a := (x1).toInt) (b := (-1 : Int)) rfl (by decide +kernel) (by omega)) ?_
    refine q_iconstv (v := (0 : Int32)) rfl (by decide +kernel) ?_
    refine q_zret rfl rfl (by decide) ?_
    refine bk_inl ?_
    refine q_call rfl rfl rfl rfl ?_
    refine q_iload_n rfl rfl ?_
    refine q_if_ne_f (t := 25) rfl (by decide) (i_nne (a := (0 : Int)) (b := (0 : Int)) (by decide +kernel) (by decide +kernel) (by omega)) ?_
    refine q_aload_n rfl rfl ?_
    refine q_dup rfl rfl ?_
    refine q_get rfl rfl rfl rfl ?_
    refine q_iconstv (v := (1 : Int32)) rfl (by decide +kernel) ?_
    refine q_iaddv (v := (1 : Int32)) rfl (by decide +kernel) ?_
    refine q_putv (w9 := (w1.set 0 (.inr (7, [.ref 1, .ref 3, .ref 7, .ref 9, .ref 10, .ref 11, .ref 12, .ref 13, .ref 25, .ref 37, .ref 39, .int 0, .int 1, .int 0])))) rfl rfl rfl (by decide) rfl (by decide) rfl ?_
    refine q_fin rfl rfl rfl ?_
    refine bk_out rfl rfl ?_
    refine bk_out rfl rfl ?_
    refine bk_thr (z := (1 : Int32)) rfl ⟨_, _, rfl⟩ rfl ?_
    refine bk_inl ?_
    refine q_istore rfl (by decide) ?_
    refine q_aload_n rfl rfl ?_
    refine q_aload_n rfl rfl ?_
    refine q_iload rfl rfl ?_
    refine q_iconstv (v := (1 : Int32)) rfl (by decide +kernel) ?_
    refine q_iaddv (v := (1 : Int32)) rfl (by decide +kernel) ?_
    refine q_script rfl (by decide) rfl ?_
    refine q_aload_n rfl rfl ?_
    refine q_iload rfl rfl ?_
    refine q_iconstv (v := (2 : Int32)) rfl (by decide +kernel) ?_
    refine q_iaddv (v := (2 : Int32)) rfl (by decide +kernel) ?_
    refine q_script rfl (by decide) rfl ?_
    refine q_call rfl rfl rfl rfl ?_
    refine q_aload_n rfl rfl ?_
    refine q_iconstv (v := (0 : Int32)) rfl (by decide +kernel) ?_
    refine q_putv (w9 := (w1.set 0 (.inr (7, [.ref 1, .ref 3, .ref 7, .ref 9, .ref 10, .ref 11, .ref 12, .ref 13, .ref 25, .ref 37, .ref 39, .int 0, .int 1, .int 0])))) rfl rfl rfl (by decide) rfl (by decide) rfl ?_
    refine q_aload_n rfl rfl ?_
    refine q_iload_n rfl rfl ?_
    refine q_aload_n rfl rfl ?_
    refine q_get rfl rfl rfl rfl ?_
    refine q_call rfl rfl rfl rfl ?_
    refine q_aload_n rfl rfl ?_
    refine q_iload_n rfl rfl ?_
    refine q_iconstv (v := (0 : Int32)) rfl (by decide +kernel) ?_
    refine q_iload_n rfl rfl ?_
    refine q_iconstv (v := (1 : Int32)) rfl (by decide +kernel) ?_
    refine q_isubv (v := (-1 : Int32)) rfl (by decide +kernel) ?_
    refine q_call rfl rfl rfl rfl ?_
    refine q_iload_n rfl rfl ?_
    refine q_iload_n rfl rfl ?_
    refine q_ic_lt_f (t := 14) rfl (by decide) (i_nlt (a := (x1).toInt) (b := (0 : Int)) rfl (by decide +kernel) (by omega)) ?_
    refine q_iload_n rfl rfl ?_
    refine q_iload_n rfl rfl ?_
    refine q_ic_gt_t (t := 14) rfl (by decide) (i_lt_r (a := (x1).toInt) (b := (-1 : Int)) rfl (by decide +kernel) (by omega)) ?_
    refine q_iconstv (v := (0 : Int32)) rfl (by decide +kernel) ?_
    refine q_zret rfl rfl (by decide) ?_
    refine bk_inl ?_
    refine q_iconstv (v := (1 : Int32)) rfl (by decide +kernel) ?_
    refine q_iconstv (v := (0 : Int32)) rfl (by decide +kernel) ?_
    refine q_call rfl rfl rfl rfl ?_
    refine q_iload_n rfl rfl ?_
    refine q_if_ne_f (t := 26) rfl (by decide) (i_nne (a := (0 : Int)) (b := (0 : Int)) (by decide +kernel) (by decide +kernel) (by omega)) ?_
    refine q_aload_n rfl rfl ?_
    refine q_get rfl rfl rfl rfl ?_
    refine q_if_ne_f (t := 26) rfl (by decide) (i_nne (a := (0 : Int)) (b := (0 : Int)) (by decide +kernel) (by decide +kernel) (by omega)) ?_
    refine q_aload_n rfl rfl ?_
    refine q_iload_n rfl rfl ?_
    refine q_putv (w9 := ((w1.set 0 (.inr (7, [.ref 1, .ref 3, .ref 7, .ref 9, .ref 10, .ref 11, .ref 12, .ref 13, .ref 25, .ref 37, .ref 39, .int 0, .int 1, .int 0]))).set 41 (.inr (8, [.int 1, .ref 42, .int 0, .int 0, .int 0, .int 0, .int 0, .int 0, .int (-1), .ref 43, .ref 44, .ref 45, .ref 46, .ref 47, .ref 48, .ref 49, .int 0, .int 0, .int 0, .int 5, .int 0, .int 0, .int 0, .int 5, .ref 50, .ref 51, .ref 52, .ref 53, .ref 54, .int 0, .int 0, .ref 55, .ref 56, .ref 57, .int 0, .int 0, .int 0, .int 0, .int 0, .int 0, .ref 58, .ref 59, .ref 60, .ref 61, .ref 62, .ref 63, .ref 64, .int 0, .int 0, .ref 65, .int 0, .ref 66, .int 0])))) rfl rfl rfl (by decide) rfl (by decide) rfl ?_
    refine q_aload_n rfl rfl ?_
    refine q_get rfl rfl rfl rfl ?_
    refine q_iload_n rfl rfl ?_
    refine q_dup2 rfl ⟨rfl, rfl⟩ ?_
    refine q_ialoadv (m := 0) rfl (by decide) (by decide) rfl (by decide +kernel) rfl ?_
    refine q_iconstv (v := (1 : Int32)) rfl (by decide +kernel) ?_
    refine q_iaddv (v := (1 : Int32)) rfl (by decide +kernel) ?_
    refine q_iastorev (m := 0) (w9 := (((w1.set 0 (.inr (7, [.ref 1, .ref 3, .ref 7, .ref 9, .ref 10, .ref 11, .ref 12, .ref 13, .ref 25, .ref 37, .ref 39, .int 0, .int 1, .int 0]))).set 41 (.inr (8, [.int 1, .ref 42, .int 0, .int 0, .int 0, .int 0, .int 0, .int 0, .int (-1), .ref 43, .ref 44, .ref 45, .ref 46, .ref 47, .ref 48, .ref 49, .int 0, .int 0, .int 0, .int 5, .int 0, .int 0, .int 0, .int 5, .ref 50, .ref 51, .ref 52, .ref 53, .ref 54, .int 0, .int 0, .ref 55, .ref 56, .ref 57, .int 0, .int 0, .int 0, .int 0, .int 0, .int 0, .ref 58, .ref 59, .ref 60, .ref 61, .ref 62, .ref 63, .ref 64, .int 0, .int 0, .ref 65, .int 0, .ref 66, .int 0]))).set 42 (.inl (0, .inl ([1, 0]))))) rfl (by decide) rfl (by decide +kernel) (by decide) rfl ?_
    refine q_aload_n rfl rfl ?_
    refine q_get rfl rfl rfl rfl ?_
    refine q_if_ne_t (t := 37) rfl (by decide) (i_ne (a := (1 : Int)) (b := (0 : Int)) (by decide +kernel) (by decide +kernel) (by omega)) ?_
    refine q_iconstv (v := (0 : Int32)) rfl (by decide +kernel) ?_
    refine q_zret rfl rfl (by decide) ?_
    refine bk_inl ?_
    refine q_zret rfl rfl (by decide) ?_
    refine bk_inl ?_
    refine q_if_eq_t (t := 32) rfl (by decide) (i_eq (a := (0 : Int)) (b := (0 : Int)) (by decide +kernel) (by decide +kernel) (by omega)) ?_
    refine q_iconstv (v := (0 : Int32)) rfl (by decide +kernel) ?_
    refine q_iret rfl rfl ?_
    refine bk_inl ?_
    refine q_istore rfl (by decide) ?_
    refine q_aload_n rfl rfl ?_
    refine q_call rfl rfl rfl rfl ?_
    refine q_aload_n rfl rfl ?_
    refine q_get rfl rfl rfl rfl ?_
    refine q_iret rfl rfl ?_
    refine bk_inl ?_
    refine q_iload rfl rfl ?_
    refine q_ic_eq_t (t := 779) rfl (by decide) (i_eq (a := (1 : Int)) (b := (1 : Int)) (by decide +kernel) (by decide +kernel) (by omega)) ?_
    refine q_iload rfl rfl ?_
    refine q_if_ne_t (t := 796) rfl (by decide) (i_ne (a := (1 : Int)) (b := (0 : Int)) (by decide +kernel) (by decide +kernel) (by omega)) ?_
    refine q_goto (t := 2739) rfl (by decide) ?_
    refine q_iincv (v := (8 : Int32)) rfl rfl (by decide) (by decide +kernel) ?_
    refine q_goto (t := 23) rfl (by decide) ?_
    exact q_end rfl rfl (by decide) (by decide)
set_option maxRecDepth 100000 in
set_option maxHeartbeats 4000000 in
theorem op_11 {x0 x1 x2 x3 x4 x5 x6 x7 : Int32} : Wp [x0, x1, x2, x3, x4, x5, x6, x7] 100 296 799 l1 [] w1 68 8870 Qlaw := by
  refine q_aload_n rfl rfl ?_
  refine q_aload_n rfl rfl ?_
  refine q_iload rfl rfl ?_
  refine q_iconstv (v := (1 : Int32)) rfl (by decide +kernel) ?_
  refine q_iaddv (v := (1 : Int32)) rfl (by decide +kernel) ?_
  refine q_script rfl (by decide) rfl ?_
  refine q_aload_n rfl rfl ?_
  refine q_iload rfl rfl ?_
  refine q_iconstv (v := (2 : Int32)) rfl (by decide +kernel) ?_
  refine q_iaddv (v := (2 : Int32)) rfl (by decide +kernel) ?_
  refine q_script rfl (by decide) rfl ?_
  refine q_aload_n rfl rfl ?_
  refine q_call rfl rfl rfl rfl ?_
  refine q_aload_n rfl rfl ?_
  refine q_iconstv (v := (0 : Int32)) rfl (by decide +kernel) ?_
  refine q_aload_n rfl rfl ?_
  refine q_iload_n rfl rfl ?_
  refine q_iload_n rfl rfl ?_
  refine q_call rfl rfl rfl rfl ?_
  refine q_aload_n rfl rfl ?_
  refine q_iload_n rfl rfl ?_
  refine q_call rfl rfl rfl rfl ?_
  refine q_aload_n rfl rfl ?_
  refine q_iload_n rfl rfl ?_
  refine q_iconstv (v := (0 : Int32)) rfl (by decide +kernel) ?_
  refine q_aload_n rfl rfl ?_
  refine q_get rfl rfl rfl rfl ?_
  refine q_get rfl rfl rfl rfl ?_
  refine q_iconstv (v := (1 : Int32)) rfl (by decide +kernel) ?_
  refine q_isubv (v := (-1 : Int32)) rfl (by decide +kernel) ?_
  refine q_call rfl rfl rfl rfl ?_
  refine q_iload_n rfl rfl ?_
  refine q_iload_n rfl rfl ?_
  by_cases h1 : (x1).toInt < 0
  · refine q_ic_lt_t (t := 14) rfl (by decide) (i_lt (a := (x1).toInt) (b := (0 : Int)) rfl (by decide +kernel) (by omega)) ?_
    refine q_iconstv (v := (0 : Int32)) rfl (by decide +kernel) ?_
    refine q_zret rfl rfl (by decide) ?_
    refine bk_inl ?_
    refine q_call rfl rfl rfl rfl ?_
    refine q_iload_n rfl rfl ?_
    refine q_if_ne_f (t := 25) rfl (by decide) (i_nne (a := (0 : Int)) (b := (0 : Int)) (by decide +kernel) (by decide +kernel) (by omega)) ?_
    refine q_aload_n rfl rfl ?_
    refine q_dup rfl rfl ?_
    refine q_get rfl rfl rfl rfl ?_
    refine q_iconstv (v := (1 : Int32)) rfl (by decide +kernel) ?_
    refine q_iaddv (v := (1 : Int32)) rfl (by decide +kernel) ?_
    refine q_putv (w9 := (w1.set 0 (.inr (7, [.ref 1, .ref 3, .ref 7, .ref 9, .ref 10, .ref 11, .ref 12, .ref 13, .ref 25, .ref 37, .ref 39, .int 0, .int 1, .int 0])))) rfl rfl rfl (by decide) rfl (by decide) rfl ?_
    refine q_fin rfl rfl rfl ?_
    refine bk_out rfl rfl ?_
    refine bk_out rfl rfl ?_
    refine bk_thr (z := (1 : Int32)) rfl ⟨_, _, rfl⟩ rfl ?_
    refine bk_inl ?_
    refine q_istore rfl (by decide) ?_
    refine q_aload_n rfl rfl ?_
    refine q_aload_n rfl rfl ?_
    refine q_iload rfl rfl ?_
    refine q_iconstv (v := (1 : Int32)) rfl (by decide +kernel) ?_
    refine q_iaddv (v := (1 : Int32)) rfl (by decide +kernel) ?_
    refine q_script rfl (by decide) rfl ?_
    refine q_aload_n rfl rfl ?_
    refine q_iload rfl rfl ?_
    refine q_iconstv (v := (2 : Int32)) rfl (by decide +kernel) ?_
    refine q_iaddv (v := (2 : Int32)) rfl (by decide +kernel) ?_
    refine q_script rfl (by decide) rfl ?_
    refine q_call rfl rfl rfl rfl ?_
    refine q_aload_n rfl rfl ?_
    refine q_iconstv (v := (0 : Int32)) rfl (by decide +kernel) ?_
    refine q_putv (w9 := (w1.set 0 (.inr (7, [.ref 1, .ref 3, .ref 7, .ref 9, .ref 10, .ref 11, .ref 12, .ref 13, .ref 25, .ref 37, .ref 39, .int 0, .int 1, .int 0])))) rfl rfl rfl (by decide) rfl (by decide) rfl ?_
    refine q_aload_n rfl rfl ?_
    refine q_iload_n rfl rfl ?_
    refine q_aload_n rfl rfl ?_
    refine q_get rfl rfl rfl rfl ?_
    refine q_call rfl rfl rfl rfl ?_
    refine q_aload_n rfl rfl ?_
    refine q_iload_n rfl rfl ?_
    refine q_iconstv (v := (0 : Int32)) rfl (by decide +kernel) ?_
    refine q_iload_n rfl rfl ?_
    refine q_iconstv (v := (1 : Int32)) rfl (by decide +kernel) ?_
    refine q_isubv (v := (-1 : Int32)) rfl (by decide +kernel) ?_
    refine q_call rfl rfl rfl rfl ?_
    refine q_iload_n rfl rfl ?_
    refine q_iload_n rfl rfl ?_
    refine q_ic_lt_t (t := 14) rfl (by decide) (i_lt (a := (x1).toInt) (b := (0 : Int)) rfl (by decide +kernel) (by omega)) ?_
    refine q_iconstv (v := (0 : Int32)) rfl (by decide +kernel) ?_
    refine q_zret rfl rfl (by decide) ?_
    refine bk_inl ?_
    refine q_iconstv (v := (1 : Int32)) rfl (by decide +kernel) ?_
    refine q_iconstv (v := (0 : Int32)) rfl (by decide +kernel) ?_
    refine q_call rfl rfl rfl rfl ?_
    refine q_iload_n rfl rfl ?_
    refine q_if_ne_f (t := 26) rfl (by decide) (i_nne (a := (0 : Int)) (b := (0 : Int)) (by decide +kernel) (by decide +kernel) (by omega)) ?_
    refine q_aload_n rfl rfl ?_
    refine q_get rfl rfl rfl rfl ?_
    refine q_if_ne_f (t := 26) rfl (by decide) (i_nne (a := (0 : Int)) (b := (0 : Int)) (by decide +kernel) (by decide +kernel) (by omega)) ?_
    refine q_aload_n rfl rfl ?_
    refine q_iload_n rfl rfl ?_
    refine q_putv (w9 := ((w1.set 0 (.inr (7, [.ref 1, .ref 3, .ref 7, .ref 9, .ref 10, .ref 11, .ref 12, .ref 13, .ref 25, .ref 37, .ref 39, .int 0, .int 1, .int 0]))).set 41 (.inr (8, [.int 1, .ref 42, .int 0, .int 0, .int 0, .int 0, .int 0, .int 0, .int (-1), .ref 43, .ref 44, .ref 45, .ref 46, .ref 47, .ref 48, .ref 49, .int 0, .int 0, .int 0, .int 5, .int 0, .int 0, .int 0, .int 5, .ref 50, .ref 51, .ref 52, .ref 53, .ref 54, .int 0, .int 0, .ref 55, .ref 56, .ref 57, .int 0, .int 0, .int 0, .int 0, .int 0, .int 0, .ref 58, .ref 59, .ref 60, .ref 61, .ref 62, .ref 63, .ref 64, .int 0, .int 0, .ref 65, .int 0, .ref 66, .int 0])))) rfl rfl rfl (by decide) rfl (by decide) rfl ?_
    refine q_aload_n rfl rfl ?_
    refine q_get rfl rfl rfl rfl ?_
    refine q_iload_n rfl rfl ?_
    refine q_dup2 rfl ⟨rfl, rfl⟩ ?_
    refine q_ialoadv (m := 0) rfl (by decide) (by decide) rfl (by decide +kernel) rfl ?_
    refine q_iconstv (v := (1 : Int32)) rfl (by decide +kernel) ?_
    refine q_iaddv (v := (1 : Int32)) rfl (by decide +kernel) ?_
    refine q_iastorev (m := 0) (w9 := (((w1.set 0 (.inr (7, [.ref 1, .ref 3, .ref 7, .ref 9, .ref 10, .ref 11, .ref 12, .ref 13, .ref 25, .ref 37, .ref 39, .int 0, .int 1, .int 0]))).set 41 (.inr (8, [.int 1, .ref 42, .int 0, .int 0, .int 0, .int 0, .int 0, .int 0, .int (-1), .ref 43, .ref 44, .ref 45, .ref 46, .ref 47, .ref 48, .ref 49, .int 0, .int 0, .int 0, .int 5, .int 0, .int 0, .int 0, .int 5, .ref 50, .ref 51, .ref 52, .ref 53, .ref 54, .int 0, .int 0, .ref 55, .ref 56, .ref 57, .int 0, .int 0, .int 0, .int 0, .int 0, .int 0, .ref 58, .ref 59, .ref 60, .ref 61, .ref 62, .ref 63, .ref 64, .int 0, .int 0, .ref 65, .int 0, .ref 66, .int 0]))).set 42 (.inl (0, .inl ([1, 0]))))) rfl (by decide) rfl (by decide +kernel) (by decide) rfl ?_
    refine q_aload_n rfl rfl ?_
    refine q_get rfl rfl rfl rfl ?_
    refine q_if_ne_t (t := 37) rfl (by decide) (i_ne (a := (1 : Int)) (b := (0 : Int)) (by decide +kernel) (by decide +kernel) (by omega)) ?_
    refine q_iconstv (v := (0 : Int32)) rfl (by decide +kernel) ?_
    refine q_zret rfl rfl (by decide) ?_
    refine bk_inl ?_
    refine q_zret rfl rfl (by decide) ?_
    refine bk_inl ?_
    refine q_if_eq_t (t := 32) rfl (by decide) (i_eq (a := (0 : Int)) (b := (0 : Int)) (by decide +kernel) (by decide +kernel) (by omega)) ?_
    refine q_iconstv (v := (0 : Int32)) rfl (by decide +kernel) ?_
    refine q_iret rfl rfl ?_
    refine bk_inl ?_
    refine q_istore rfl (by decide) ?_
    refine q_aload_n rfl rfl ?_
    refine q_call rfl rfl rfl rfl ?_
    refine q_aload_n rfl rfl ?_
    refine q_get rfl rfl rfl rfl ?_
    refine q_iret rfl rfl ?_
    refine bk_inl ?_
    refine q_iload rfl rfl ?_
    refine q_ic_eq_t (t := 847) rfl (by decide) (i_eq (a := (1 : Int)) (b := (1 : Int)) (by decide +kernel) (by decide +kernel) (by omega)) ?_
    refine q_iload rfl rfl ?_
    refine q_if_ne_t (t := 864) rfl (by decide) (i_ne (a := (1 : Int)) (b := (0 : Int)) (by decide +kernel) (by decide +kernel) (by omega)) ?_
    refine q_goto (t := 2739) rfl (by decide) ?_
    refine q_iincv (v := (8 : Int32)) rfl rfl (by decide) (by decide +kernel) ?_
    refine q_goto (t := 23) rfl (by decide) ?_
    exact q_end rfl rfl (by decide) (by decide)
  · refine q_ic_lt_f (t := 14) rfl (by decide) (i_nlt (a := (x1).toInt) (b := (0 : Int)) rfl (by decide +kernel) (by omega)) ?_
    refine q_iload_n rfl rfl ?_
    refine q_iload_n rfl rfl ?_
    refine q_ic_gt_t (t := 14) rfl (by decide) (i_lt_r (a := (x1).toInt) (b := (-1 : Int)) rfl (by decide +kernel) (by omega)) ?_
    refine q_iconstv (v := (0 : Int32)) rfl (by decide +kernel) ?_
    refine q_zret rfl rfl (by decide) ?_
    refine bk_inl ?_
    refine q_call rfl rfl rfl rfl ?_
    refine q_iload_n rfl rfl ?_
    refine q_if_ne_f (t := 25) rfl (by decide) (i_nne (a := (0 : Int)) (b := (0 : Int)) (by decide +kernel) (by decide +kernel) (by omega)) ?_
    refine q_aload_n rfl rfl ?_
    refine q_dup rfl rfl ?_
    refine q_get rfl rfl rfl rfl ?_
    refine q_iconstv (v := (1 : Int32)) rfl (by decide +kernel) ?_
    refine q_iaddv (v := (1 : Int32)) rfl (by decide +kernel) ?_
    refine q_putv (w9 := (w1.set 0 (.inr (7, [.ref 1, .ref 3, .ref 7, .ref 9, .ref 10, .ref 11, .ref 12, .ref 13, .ref 25, .ref 37, .ref 39, .int 0, .int 1, .int 0])))) rfl rfl rfl (by decide) rfl (by decide) rfl ?_
    refine q_fin rfl rfl rfl ?_
    refine bk_out rfl rfl ?_
    refine bk_out rfl rfl ?_
    refine bk_thr (z := (1 : Int32)) rfl ⟨_, _, rfl⟩ rfl ?_
    refine bk_inl ?_
    refine q_istore rfl (by decide) ?_
    refine q_aload_n rfl rfl ?_
    refine q_aload_n rfl rfl ?_
    refine q_iload rfl rfl ?_
    refine q_iconstv (v := (1 : Int32)) rfl (by decide +kernel) ?_
    refine q_iaddv (v := (1 : Int32)) rfl (by decide +kernel) ?_
    refine q_script rfl (by decide) rfl ?_
    refine q_aload_n rfl rfl ?_
    refine q_iload rfl rfl ?_
    refine q_iconstv (v := (2 : Int32)) rfl (by decide +kernel) ?_
    refine q_iaddv (v := (2 : Int32)) rfl (by decide +kernel) ?_
    refine q_script rfl (by decide) rfl ?_
    refine q_call rfl rfl rfl rfl ?_
    refine q_aload_n rfl rfl ?_
    refine q_iconstv (v := (0 : Int32)) rfl (by decide +kernel) ?_
    refine q_putv (w9 := (w1.set 0 (.inr (7, [.ref 1, .ref 3, .ref 7, .ref 9, .ref 10, .ref 11, .ref 12, .ref 13, .ref 25, .ref 37, .ref 39, .int 0, .int 1, .int 0])))) rfl rfl rfl (by decide) rfl (by decide) rfl ?_
    refine q_aload_n rfl rfl ?_
    refine q_iload_n rfl rfl ?_
    refine q_aload_n rfl rfl ?_
    refine q_get rfl rfl rfl rfl ?_
    refine q_call rfl rfl rfl rfl ?_
    refine q_aload_n rfl rfl ?_
    refine q_iload_n rfl rfl ?_
    refine q_iconstv (v := (0 : Int32)) rfl (by decide +kernel) ?_
    refine q_iload_n rfl rfl ?_
    refine q_iconstv (v := (1 : Int32)) rfl (by decide +kernel) ?_
    refine q_isubv (v := (-1 : Int32)) rfl (by decide +kernel) ?_
    refine q_call rfl rfl rfl rfl ?_
    refine q_iload_n rfl rfl ?_
    refine q_iload_n rfl rfl ?_
    refine q_ic_lt_f (t := 14) rfl (by decide) (i_nlt (a := (x1).toInt) (b := (0 : Int)) rfl (by decide +kernel) (by omega)) ?_
    refine q_iload_n rfl rfl ?_
    refine q_iload_n rfl rfl ?_
    refine q_ic_gt_t (t := 14) rfl (by decide) (i_lt_r (a := (x1).toInt) (b := (-1 : Int)) rfl (by decide +kernel) (by omega)) ?_
    refine q_iconstv (v := (0 : Int32)) rfl (by decide +kernel) ?_
    refine q_zret rfl rfl (by decide) ?_
    refine bk_inl ?_
    refine q_iconstv (v := (1 : Int32)) rfl (by decide +kernel) ?_
    refine q_iconstv (v := (0 : Int32)) rfl (by decide +kernel) ?_
    refine q_call rfl rfl rfl rfl ?_
    refine q_iload_n rfl rfl ?_
    refine q_if_ne_f (t := 26) rfl (by decide) (i_nne (a := (0 : Int)) (b := (0 : Int)) (by decide +kernel) (by decide +kernel) (by omega)) ?_
    refine q_aload_n rfl rfl ?_
    refine q_get rfl rfl rfl rfl ?_
    refine q_if_ne_f (t := 26) rfl (by decide) (i_nne (a := (0 : Int)) (b := (0 : Int)) (by decide +kernel) (by decide +kernel) (by omega)) ?_
    refine q_aload_n rfl rfl ?_
    refine q_iload_n rfl rfl ?_
    refine q_putv (w9 := ((w1.set 0 (.inr (7, [.ref 1, .ref 3, .ref 7, .ref 9, .ref 10, .ref 11, .ref 12, .ref 13, .ref 25, .ref 37, .ref 39, .int 0, .int 1, .int 0]))).set 41 (.inr (8, [.int 1, .ref 42, .int 0, .int 0, .int 0, .int 0, .int 0, .int 0, .int (-1), .ref 43, .ref 44, .ref 45, .ref 46, .ref 47, .ref 48, .ref 49, .int 0, .int 0, .int 0, .int 5, .int 0, .int 0, .int 0, .int 5, .ref 50, .ref 51, .ref 52, .ref 53, .ref 54, .int 0, .int 0, .ref 55, .ref 56, .ref 57, .int 0, .int 0, .int 0, .int 0, .int 0, .int 0, .ref 58, .ref 59, .ref 60, .ref 61, .ref 62, .ref 63, .ref 64, .int 0, .int 0, .ref 65, .int 0, .ref 66, .int 0])))) rfl rfl rfl (by decide) rfl (by decide) rfl ?_
    refine q_aload_n rfl rfl ?_
    refine q_get rfl rfl rfl rfl ?_
    refine q_iload_n rfl rfl ?_
    refine q_dup2 rfl ⟨rfl, rfl⟩ ?_
    refine q_ialoadv (m := 0) rfl (by decide) (by decide) rfl (by decide +kernel) rfl ?_
    refine q_iconstv (v := (1 : Int32)) rfl (by decide +kernel) ?_
    refine q_iaddv (v := (1 : Int32)) rfl (by decide +kernel) ?_
    refine q_iastorev (m := 0) (w9 := (((w1.set 0 (.inr (7, [.ref 1, .ref 3, .ref 7, .ref 9, .ref 10, .ref 11, .ref 12, .ref 13, .ref 25, .ref 37, .ref 39, .int 0, .int 1, .int 0]))).set 41 (.inr (8, [.int 1, .ref 42, .int 0, .int 0, .int 0, .int 0, .int 0, .int 0, .int (-1), .ref 43, .ref 44, .ref 45, .ref 46, .ref 47, .ref 48, .ref 49, .int 0, .int 0, .int 0, .int 5, .int 0, .int 0, .int 0, .int 5, .ref 50, .ref 51, .ref 52, .ref 53, .ref 54, .int 0, .int 0, .ref 55, .ref 56, .ref 57, .int 0, .int 0, .int 0, .int 0, .int 0, .int 0, .ref 58, .ref 59, .ref 60, .ref 61, .ref 62, .ref 63, .ref 64, .int 0, .int 0, .ref 65, .int 0, .ref 66, .int 0]))).set 42 (.inl (0, .inl ([1, 0]))))) rfl (by decide) rfl (by decide +kernel) (by decide) rfl ?_
    refine q_aload_n rfl rfl ?_
    refine q_get rfl rfl rfl rfl ?_
    refine q_if_ne_t (t := 37) rfl (by decide) (i_ne (a := (1 : Int)) (b := (0 : Int)) (by decide +kernel) (by decide +kernel) (by omega)) ?_
    refine q_iconstv (v := (0 : Int32)) rfl (by decide +kernel) ?_
    refine q_zret rfl rfl (by decide) ?_
    refine bk_inl ?_
    refine q_zret rfl rfl (by decide) ?_
    refine bk_inl ?_
    refine q_if_eq_t (t := 32) rfl (by decide) (i_eq (a := (0 : Int)) (b := (0 : Int)) (by decide +kernel) (by decide +kernel) (by omega)) ?_
    refine q_iconstv (v := (0 : Int32)) rfl (by decide +kernel) ?_
    refine q_iret rfl rfl ?_
    refine bk_inl ?_
    refine q_istore rfl (by decide) ?_
    refine q_aload_n rfl rfl ?_
    refine q_call rfl rfl rfl rfl ?_
    refine q_aload_n rfl rfl ?_
    refine q_get rfl rfl rfl rfl ?_
    refine q_iret rfl rfl ?_
    refine bk_inl ?_
    refine q_iload rfl rfl ?_
    refine q_ic_eq_t (t := 847) rfl (by decide) (i_eq (a := (1 : Int)) (b := (1 : Int)) (by decide +kernel) (by decide +kernel) (by omega)) ?_
    refine q_iload rfl rfl ?_
    refine q_if_ne_t (t := 864) rfl (by decide) (i_ne (a := (1 : Int)) (b := (0 : Int)) (by decide +kernel) (by decide +kernel) (by omega)) ?_
    refine q_goto (t := 2739) rfl (by decide) ?_
    refine q_iincv (v := (8 : Int32)) rfl rfl (by decide) (by decide +kernel) ?_
    refine q_goto (t := 23) rfl (by decide) ?_
    exact q_end rfl rfl (by decide) (by decide)
set_option maxRecDepth 100000 in
set_option maxHeartbeats 4000000 in
theorem op_12 {x0 x1 x2 x3 x4 x5 x6 x7 : Int32} : Wp [x0, x1, x2, x3, x4, x5, x6, x7] 100 296 867 l1 [] w1 68 8870 Qlaw := by
  refine q_aload_n rfl rfl ?_
  refine q_aload_n rfl rfl ?_
  refine q_iload rfl rfl ?_
  refine q_iconstv (v := (1 : Int32)) rfl (by decide +kernel) ?_
  refine q_iaddv (v := (1 : Int32)) rfl (by decide +kernel) ?_
  refine q_script rfl (by decide) rfl ?_
  refine q_aload_n rfl rfl ?_
  refine q_call rfl rfl rfl rfl ?_
  refine q_aload_n rfl rfl ?_
  refine q_iconstv (v := (0 : Int32)) rfl (by decide +kernel) ?_
  refine q_aload_n rfl rfl ?_
  refine q_iload_n rfl rfl ?_
  refine q_call rfl rfl rfl rfl ?_
  refine q_aload_n rfl rfl ?_
  refine q_iload_n rfl rfl ?_
  refine q_call rfl rfl rfl rfl ?_
  refine q_aload_n rfl rfl ?_
  refine q_iload_n rfl rfl ?_
  refine q_iconstv (v := (0 : Int32)) rfl (by decide +kernel) ?_
  refine q_aload_n rfl rfl ?_
  refine q_get rfl rfl rfl rfl ?_
  refine q_get rfl rfl rfl rfl ?_
  refine q_iconstv (v := (1 : Int32)) rfl (by decide +kernel) ?_
  refine q_isubv (v := (-1 : Int32)) rfl (by decide +kernel) ?_
  refine q_call rfl rfl rfl rfl ?_
  refine q_iload_n rfl rfl ?_
  refine q_iload_n rfl rfl ?_
  by_cases h1 : (x1).toInt < 0
  · refine q_ic_lt_t (t := 14) rfl (by decide) (i_lt (a := (x1).toInt) (b := (0 : Int)) rfl (by decide +kernel) (by omega)) ?_
    refine q_iconstv (v := (0 : Int32)) rfl (by decide +kernel) ?_
    refine q_zret rfl rfl (by decide) ?_
    refine bk_inl ?_
    refine q_call rfl rfl rfl rfl ?_
    refine q_iload_n rfl rfl ?_
    refine q_if_ne_f (t := 25) rfl (by decide) (i_nne (a := (0 : Int)) (b := (0 : Int)) (by decide +kernel) (by decide +kernel) (by omega)) ?_
    refine q_aload_n rfl rfl ?_
    refine q_dup rfl rfl ?_
    refine q_get rfl rfl rfl rfl ?_
    refine q_iconstv (v := (1 : Int32)) rfl (by decide +kernel) ?_
    refine q_iaddv (v := (1 : Int32)) rfl (by decide +kernel) ?_
    refine q_putv (w9 := (w1.set 0 (.inr (7, [.ref 1, .ref 3, .ref 7, .ref 9, .ref 10, .ref 11, .ref 12, .ref 13, .ref 25, .ref 37, .ref 39, .int 0, .int 1, .int 0])))) rfl rfl rfl (by decide) rfl (by decide) rfl ?_
    refine q_fin rfl rfl rfl ?_
    refine bk_out rfl rfl ?_
    refine bk_out rfl rfl ?_
    refine bk_thr (z := (1 : Int32)) rfl ⟨_, _, rfl⟩ rfl ?_
    refine bk_inl ?_
    refine q_istore rfl (by decide) ?_
    refine q_aload_n rfl rfl ?_
    refine q_aload_n rfl rfl ?_
    refine q_iload rfl rfl ?_
    refine q_iconstv (v := (1 : Int32)) rfl (by decide +kernel) ?_
    refine q_iaddv (v := (1 : Int32)) rfl (by decide +kernel) ?_
    refine q_script rfl (by decide) rfl ?_
    refine q_call rfl rfl rfl rfl ?_
    refine q_aload_n rfl rfl ?_
    refine q_iconstv (v := (0 : Int32)) rfl (by decide +kernel) ?_
    refine q_putv (w9 := (w1.set 0 (.inr (7, [.ref 1, .ref 3, .ref 7, .ref 9, .ref 10, .ref 11, .ref 12, .ref 13, .ref 25, .ref 37, .ref 39, .int 0, .int 1, .int 0])))) rfl rfl rfl (by decide) rfl (by decide) rfl ?_
    refine q_aload_n rfl rfl ?_
    refine q_iload_n rfl rfl ?_
    refine q_aload_n rfl rfl ?_
    refine q_get rfl rfl rfl rfl ?_
    refine q_call rfl rfl rfl rfl ?_
    refine q_aload_n rfl rfl ?_
    refine q_iload_n rfl rfl ?_
    refine q_iconstv (v := (0 : Int32)) rfl (by decide +kernel) ?_
    refine q_iload_n rfl rfl ?_
    refine q_iconstv (v := (1 : Int32)) rfl (by decide +kernel) ?_
    refine q_isubv (v := (-1 : Int32)) rfl (by decide +kernel) ?_
    refine q_call rfl rfl rfl rfl ?_
    refine q_iload_n rfl rfl ?_
    refine q_iload_n rfl rfl ?_
    refine q_ic_lt_t (t := 14) rfl (by decide) (i_lt (a := (x1).toInt) (b := (0 : Int)) rfl (by decide +kernel) (by omega)) ?_
    refine q_iconstv (v := (0 : Int32)) rfl (by decide +kernel) ?_
    refine q_zret rfl rfl (by decide) ?_
    refine bk_inl ?_
    refine q_iconstv (v := (1 : Int32)) rfl (by decide +kernel) ?_
    refine q_iconstv (v := (0 : Int32)) rfl (by decide +kernel) ?_
    refine q_call rfl rfl rfl rfl ?_
    refine q_iload_n rfl rfl ?_
    refine q_if_ne_f (t := 26) rfl (by decide) (i_nne (a := (0 : Int)) (b := (0 : Int)) (by decide +kernel) (by decide +kernel) (by omega)) ?_
    refine q_aload_n rfl rfl ?_
    refine q_get rfl rfl rfl rfl ?_
    refine q_if_ne_f (t := 26) rfl (by decide) (i_nne (a := (0 : Int)) (b := (0 : Int)) (by decide +kernel) (by decide +kernel) (by omega)) ?_
    refine q_aload_n rfl rfl ?_
    refine q_iload_n rfl rfl ?_
    refine q_putv (w9 := ((w1.set 0 (.inr (7, [.ref 1, .ref 3, .ref 7, .ref 9, .ref 10, .ref 11, .ref 12, .ref 13, .ref 25, .ref 37, .ref 39, .int 0, .int 1, .int 0]))).set 41 (.inr (8, [.int 1, .ref 42, .int 0, .int 0, .int 0, .int 0, .int 0, .int 0, .int (-1), .ref 43, .ref 44, .ref 45, .ref 46, .ref 47, .ref 48, .ref 49, .int 0, .int 0, .int 0, .int 5, .int 0, .int 0, .int 0, .int 5, .ref 50, .ref 51, .ref 52, .ref 53, .ref 54, .int 0, .int 0, .ref 55, .ref 56, .ref 57, .int 0, .int 0, .int 0, .int 0, .int 0, .int 0, .ref 58, .ref 59, .ref 60, .ref 61, .ref 62, .ref 63, .ref 64, .int 0, .int 0, .ref 65, .int 0, .ref 66, .int 0])))) rfl rfl rfl (by decide) rfl (by decide) rfl ?_
    refine q_aload_n rfl rfl ?_
    refine q_get rfl rfl rfl rfl ?_
    refine q_iload_n rfl rfl ?_
    refine q_dup2 rfl ⟨rfl, rfl⟩ ?_
    refine q_ialoadv (m := 0) rfl (by decide) (by decide) rfl (by decide +kernel) rfl ?_
    refine q_iconstv (v := (1 : Int32)) rfl (by decide +kernel) ?_
    refine q_iaddv (v := (1 : Int32)) rfl (by decide +kernel) ?_
    refine q_iastorev (m := 0) (w9 := (((w1.set 0 (.inr (7, [.ref 1, .ref 3, .ref 7, .ref 9, .ref 10, .ref 11, .ref 12, .ref 13, .ref 25, .ref 37, .ref 39, .int 0, .int 1, .int 0]))).set 41 (.inr (8, [.int 1, .ref 42, .int 0, .int 0, .int 0, .int 0, .int 0, .int 0, .int (-1), .ref 43, .ref 44, .ref 45, .ref 46, .ref 47, .ref 48, .ref 49, .int 0, .int 0, .int 0, .int 5, .int 0, .int 0, .int 0, .int 5, .ref 50, .ref 51, .ref 52, .ref 53, .ref 54, .int 0, .int 0, .ref 55, .ref 56, .ref 57, .int 0, .int 0, .int 0, .int 0, .int 0, .int 0, .ref 58, .ref 59, .ref 60, .ref 61, .ref 62, .ref 63, .ref 64, .int 0, .int 0, .ref 65, .int 0, .ref 66, .int 0]))).set 42 (.inl (0, .inl ([1, 0]))))) rfl (by decide) rfl (by decide +kernel) (by decide) rfl ?_
    refine q_aload_n rfl rfl ?_
    refine q_get rfl rfl rfl rfl ?_
    refine q_if_ne_t (t := 37) rfl (by decide) (i_ne (a := (1 : Int)) (b := (0 : Int)) (by decide +kernel) (by decide +kernel) (by omega)) ?_
    refine q_iconstv (v := (0 : Int32)) rfl (by decide +kernel) ?_
    refine q_zret rfl rfl (by decide) ?_
    refine bk_inl ?_
    refine q_zret rfl rfl (by decide) ?_
    refine bk_inl ?_
    refine q_if_ne_f (t := 19) rfl (by decide) (i_nne (a := (0 : Int)) (b := (0 : Int)) (by decide +kernel) (by decide +kernel) (by omega)) ?_
    refine q_iconstv (v := (0 : Int32)) rfl (by decide +kernel) ?_
    refine q_iret rfl rfl ?_
    refine bk_inl ?_
    refine q_istore rfl (by decide) ?_
    refine q_aload_n rfl rfl ?_
    refine q_call rfl rfl rfl rfl ?_
    refine q_aload_n rfl rfl ?_
    refine q_get rfl rfl rfl rfl ?_
    refine q_iret rfl rfl ?_
    refine bk_inl ?_
    refine q_iload rfl rfl ?_
    refine q_ic_eq_t (t := 903) rfl (by decide) (i_eq (a := (1 : Int)) (b := (1 : Int)) (by decide +kernel) (by decide +kernel) (by omega)) ?_
    refine q_iload rfl rfl ?_
    refine q_if_ne_t (t := 920) rfl (by decide) (i_ne (a := (1 : Int)) (b := (0 : Int)) (by decide +kernel) (by decide +kernel) (by omega)) ?_
    refine q_goto (t := 2739) rfl (by decide) ?_
    refine q_iincv (v := (8 : Int32)) rfl rfl (by decide) (by decide +kernel) ?_
    refine q_goto (t := 23) rfl (by decide) ?_
    exact q_end rfl rfl (by decide) (by decide)
  · refine q_ic_lt_f (t := 14) rfl (by decide) (i_nlt (a := (x1).toInt) (b := (0 : Int)) rfl (by decide +kernel) (by omega)) ?_
    refine q_iload_n rfl rfl ?_
    refine q_iload_n rfl rfl ?_
    refine q_ic_gt_t (t := 14) rfl (by decide) (i_lt_r (a := (x1).toInt) (b := (-1 : Int)) rfl (by decide +kernel) (by omega)) ?_
    refine q_iconstv (v := (0 : Int32)) rfl (by decide +kernel) ?_
    refine q_zret rfl rfl (by decide) ?_
    refine bk_inl ?_
    refine q_call rfl rfl rfl rfl ?_
    refine q_iload_n rfl rfl ?_
    refine q_if_ne_f (t := 25) rfl (by decide) (i_nne (a := (0 : Int)) (b := (0 : Int)) (by decide +kernel) (by decide +kernel) (by omega)) ?_
    refine q_aload_n rfl rfl ?_
    refine q_dup rfl rfl ?_
    refine q_get rfl rfl rfl rfl ?_
    refine q_iconstv (v := (1 : Int32)) rfl (by decide +kernel) ?_
    refine q_iaddv (v := (1 : Int32)) rfl (by decide +kernel) ?_
    refine q_putv (w9 := (w1.set 0 (.inr (7, [.ref 1, .ref 3, .ref 7, .ref 9, .ref 10, .ref 11, .ref 12, .ref 13, .ref 25, .ref 37, .ref 39, .int 0, .int 1, .int 0])))) rfl rfl rfl (by decide) rfl (by decide) rfl ?_
    refine q_fin rfl rfl rfl ?_
    refine bk_out rfl rfl ?_
    refine bk_out rfl rfl ?_
    refine bk_thr (z := (1 : Int32)) rfl ⟨_, _, rfl⟩ rfl ?_
    refine bk_inl ?_
    refine q_istore rfl (by decide) ?_
    refine q_aload_n rfl rfl ?_
    refine q_aload_n rfl rfl ?_
    refine q_iload rfl rfl ?_
    refine q_iconstv (v := (1 : Int32)) rfl (by decide +kernel) ?_
    refine q_iaddv (v := (1 : Int32)) rfl (by decide +kernel) ?_
    refine q_script rfl (by decide) rfl ?_
    refine q_call rfl rfl rfl rfl ?_
    refine q_aload_n rfl rfl ?_
    refine q_iconstv (v := (0 : Int32)) rfl (by decide +kernel) ?_
    refine q_putv (w9 := (w1.set 0 (.inr (7, [.ref 1, .ref 3, .ref 7, .ref 9, .ref 10, .ref 11, .ref 12, .ref 13, .ref 25, .ref 37, .ref 39, .int 0, .int 1, .int 0])))) rfl rfl rfl (by decide) rfl (by decide) rfl ?_
    refine q_aload_n rfl rfl ?_
    refine q_iload_n rfl rfl ?_
    refine q_aload_n rfl rfl ?_
    refine q_get rfl rfl rfl rfl ?_
    refine q_call rfl rfl rfl rfl ?_
    refine q_aload_n rfl rfl ?_
    refine q_iload_n rfl rfl ?_
    refine q_iconstv (v := (0 : Int32)) rfl (by decide +kernel) ?_
    refine q_iload_n rfl rfl ?_
    refine q_iconstv (v := (1 : Int32)) rfl (by decide +kernel) ?_
    refine q_isubv (v := (-1 : Int32)) rfl (by decide +kernel) ?_
    refine q_call rfl rfl rfl rfl ?_
    refine q_iload_n rfl rfl ?_
    refine q_iload_n rfl rfl ?_
    refine q_ic_lt_f (t := 14) rfl (by decide) (i_nlt (a := (x1).toInt) (b := (0 : Int)) rfl (by decide +kernel) (by omega)) ?_
    refine q_iload_n rfl rfl ?_
    refine q_iload_n rfl rfl ?_
    refine q_ic_gt_t (t := 14) rfl (by decide) (i_lt_r (a := (x1).toInt) (b := (-1 : Int)) rfl (by decide +kernel) (by omega)) ?_
    refine q_iconstv (v := (0 : Int32)) rfl (by decide +kernel) ?_
    refine q_zret rfl rfl (by decide) ?_
    refine bk_inl ?_
    refine q_iconstv (v := (1 : Int32)) rfl (by decide +kernel) ?_
    refine q_iconstv (v := (0 : Int32)) rfl (by decide +kernel) ?_
    refine q_call rfl rfl rfl rfl ?_
    refine q_iload_n rfl rfl ?_
    refine q_if_ne_f (t := 26) rfl (by decide) (i_nne (a := (0 : Int)) (b := (0 : Int)) (by decide +kernel) (by decide +kernel) (by omega)) ?_
    refine q_aload_n rfl rfl ?_
    refine q_get rfl rfl rfl rfl ?_
    refine q_if_ne_f (t := 26) rfl (by decide) (i_nne (a := (0 : Int)) (b := (0 : Int)) (by decide +kernel) (by decide +kernel) (by omega)) ?_
    refine q_aload_n rfl rfl ?_
    refine q_iload_n rfl rfl ?_
    refine q_putv (w9 := ((w1.set 0 (.inr (7, [.ref 1, .ref 3, .ref 7, .ref 9, .ref 10, .ref 11, .ref 12, .ref 13, .ref 25, .ref 37, .ref 39, .int 0, .int 1, .int 0]))).set 41 (.inr (8, [.int 1, .ref 42, .int 0, .int 0, .int 0, .int 0, .int 0, .int 0, .int (-1), .ref 43, .ref 44, .ref 45, .ref 46, .ref 47, .ref 48, .ref 49, .int 0, .int 0, .int 0, .int 5, .int 0, .int 0, .int 0, .int 5, .ref 50, .ref 51, .ref 52, .ref 53, .ref 54, .int 0, .int 0, .ref 55, .ref 56, .ref 57, .int 0, .int 0, .int 0, .int 0, .int 0, .int 0, .ref 58, .ref 59, .ref 60, .ref 61, .ref 62, .ref 63, .ref 64, .int 0, .int 0, .ref 65, .int 0, .ref 66, .int 0])))) rfl rfl rfl (by decide) rfl (by decide) rfl ?_
    refine q_aload_n rfl rfl ?_
    refine q_get rfl rfl rfl rfl ?_
    refine q_iload_n rfl rfl ?_
    refine q_dup2 rfl ⟨rfl, rfl⟩ ?_
    refine q_ialoadv (m := 0) rfl (by decide) (by decide) rfl (by decide +kernel) rfl ?_
    refine q_iconstv (v := (1 : Int32)) rfl (by decide +kernel) ?_
    refine q_iaddv (v := (1 : Int32)) rfl (by decide +kernel) ?_
    refine q_iastorev (m := 0) (w9 := (((w1.set 0 (.inr (7, [.ref 1, .ref 3, .ref 7, .ref 9, .ref 10, .ref 11, .ref 12, .ref 13, .ref 25, .ref 37, .ref 39, .int 0, .int 1, .int 0]))).set 41 (.inr (8, [.int 1, .ref 42, .int 0, .int 0, .int 0, .int 0, .int 0, .int 0, .int (-1), .ref 43, .ref 44, .ref 45, .ref 46, .ref 47, .ref 48, .ref 49, .int 0, .int 0, .int 0, .int 5, .int 0, .int 0, .int 0, .int 5, .ref 50, .ref 51, .ref 52, .ref 53, .ref 54, .int 0, .int 0, .ref 55, .ref 56, .ref 57, .int 0, .int 0, .int 0, .int 0, .int 0, .int 0, .ref 58, .ref 59, .ref 60, .ref 61, .ref 62, .ref 63, .ref 64, .int 0, .int 0, .ref 65, .int 0, .ref 66, .int 0]))).set 42 (.inl (0, .inl ([1, 0]))))) rfl (by decide) rfl (by decide +kernel) (by decide) rfl ?_
    refine q_aload_n rfl rfl ?_
    refine q_get rfl rfl rfl rfl ?_
    refine q_if_ne_t (t := 37) rfl (by decide) (i_ne (a := (1 : Int)) (b := (0 : Int)) (by decide +kernel) (by decide +kernel) (by omega)) ?_
    refine q_iconstv (v := (0 : Int32)) rfl (by decide +kernel) ?_
    refine q_zret rfl rfl (by decide) ?_
    refine bk_inl ?_
    refine q_zret rfl rfl (by decide) ?_
    refine bk_inl ?_
    refine q_if_ne_f (t := 19) rfl (by decide) (i_nne (a := (0 : Int)) (b := (0 : Int)) (by decide +kernel) (by decide +kernel) (by omega)) ?_
    refine q_iconstv (v := (0 : Int32)) rfl (by decide +kernel) ?_
    refine q_iret rfl rfl ?_
    refine bk_inl ?_
    refine q_istore rfl (by decide) ?_
    refine q_aload_n rfl rfl ?_
    refine q_call rfl rfl rfl rfl ?_
    refine q_aload_n rfl rfl ?_
    refine q_get rfl rfl rfl rfl ?_
    refine q_iret rfl rfl ?_
    refine bk_inl ?_
    refine q_iload rfl rfl ?_
    refine q_ic_eq_t (t := 903) rfl (by decide) (i_eq (a := (1 : Int)) (b := (1 : Int)) (by decide +kernel) (by decide +kernel) (by omega)) ?_
    refine q_iload rfl rfl ?_
    refine q_if_ne_t (t := 920) rfl (by decide) (i_ne (a := (1 : Int)) (b := (0 : Int)) (by decide +kernel) (by decide +kernel) (by omega)) ?_
    refine q_goto (t := 2739) rfl (by decide) ?_
    refine q_iincv (v := (8 : Int32)) rfl rfl (by decide) (by decide +kernel) ?_
    refine q_goto (t := 23) rfl (by decide) ?_
    exact q_end rfl rfl (by decide) (by decide)
