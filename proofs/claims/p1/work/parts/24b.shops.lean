/-! ===== shops, by what: 1 ===== -/
set_option maxRecDepth 100000 in
set_option maxHeartbeats 4000000 in
theorem op_23_1 {x0 x1 x2 x4 x5 x6 x7 : Int32} : Wp [x0, x1, x2, 1, x4, x5, x6, x7] 100 296 1714 l1 [] w1 68 8870 Qlaw := by
  refine q_aload_n rfl rfl ?_
  refine q_aload_n rfl rfl ?_
  refine q_iload rfl rfl ?_
  refine q_iconstv (v := (1 : Int32)) rfl (by decide +kernel) ?_
  refine q_iaddv (v := (1 : Int32)) rfl (by decide +kernel) ?_
  refine q_script rfl (by decide) rfl ?_
  refine q_aload_n rfl rfl ?_
  refine q_iload rfl rfl ?_
  refine q_iconstv (v := (2 : Int32)) rfl (by decide +kernel) ?_
  refine q_iaddv (v := (2 : Int32)) rfl (by decide +kernel) ?_
  refine q_script rfl (by decide) rfl ?_
  refine q_aload_n rfl rfl ?_
  refine q_iload rfl rfl ?_
  refine q_iconstv (v := (3 : Int32)) rfl (by decide +kernel) ?_
  refine q_iaddv (v := (3 : Int32)) rfl (by decide +kernel) ?_
  refine q_script rfl (by decide) rfl ?_
  refine q_aload_n rfl rfl ?_
  refine q_call rfl rfl rfl rfl ?_
  refine q_aload rfl rfl ?_
  refine q_iconstv (v := (0 : Int32)) rfl (by decide +kernel) ?_
  refine q_aload_n rfl rfl ?_
  refine q_iload_n rfl rfl ?_
  refine q_iload_n rfl rfl ?_
  refine q_iload_n rfl rfl ?_
  refine q_call rfl rfl rfl rfl ?_
  refine q_aload_n rfl rfl ?_
  refine q_iload_n rfl rfl ?_
  refine q_iconstv (v := (0 : Int32)) rfl (by decide +kernel) ?_
  refine q_bipushv (v := (99 : Int32)) rfl (by decide +kernel) ?_
  refine q_call rfl rfl rfl rfl ?_
  refine q_iload_n rfl rfl ?_
  refine q_iload_n rfl rfl ?_
  by_cases h1 : (x1).toInt < 0
  · refine q_ic_lt_t (t := 14) rfl (by decide) (i_lt (a := (x1).toInt) (b := (0 : Int)) rfl (by decide +kernel) (by omega)) ?_
    refine q_iconstv (v := (0 : Int32)) rfl (by decide +kernel) ?_
    refine q_zret rfl rfl (by decide) ?_
    refine bk_inl ?_
    refine q_if_eq_t (t := 34) rfl (by decide) (i_eq (a := (0 : Int)) (b := (0 : Int)) (by decide +kernel) (by decide +kernel) (by omega)) ?_
    refine q_iconstv (v := (0 : Int32)) rfl (by decide +kernel) ?_
    refine q_call rfl rfl rfl rfl ?_
    refine q_iload_n rfl rfl ?_
    refine q_if_ne_f (t := 25) rfl (by decide) (i_nne (a := (0 : Int)) (b := (0 : Int)) (by decide +kernel) (by decide +kernel) (by omega)) ?_
    refine q_aload_n rfl rfl ?_
    refine q_dup rfl rfl ?_
    refine q_get rfl rfl rfl rfl ?_
    refine q_iconstv (v := (1 : Int32)) rfl (by decide +kernel) ?_
    refine q_iaddv (v := (1 : Int32)) rfl (by decide +kernel) ?_
    refine q_putv (w9 := (w1.set 0 (.inr (7, [.ref 1, .ref 3, .ref 7, .ref 9, .ref 10, .ref 11, .ref 12, .ref 13, .ref 25, .ref 37, .ref 39, .int 0, .int 0, .int 1])))) rfl rfl rfl (by decide) rfl (by decide) rfl ?_
    refine q_fin rfl rfl rfl ?_
    refine bk_out rfl rfl ?_
    refine bk_thr (z := (1 : Int32)) rfl ⟨_, _, rfl⟩ rfl ?_
    refine bk_inl ?_
    refine q_istore rfl (by decide) ?_
    refine q_aload_n rfl rfl ?_
    refine q_aload_n rfl rfl ?_
    refine q_iload rfl rfl ?_
    refine q_iconstv (v := (1 : Int32)) rfl (by decide +kernel) ?_
    refine q_iaddv (v := (1 : Int32)) rfl (by decide +kernel) ?_
    refine q_script rfl (by decide) rfl ?_
    refine q_aload_n rfl rfl ?_
    refine q_iload rfl rfl ?_
    refine q_iconstv (v := (2 : Int32)) rfl (by decide +kernel) ?_
    refine q_iaddv (v := (2 : Int32)) rfl (by decide +kernel) ?_
    refine q_script rfl (by decide) rfl ?_
    refine q_aload_n rfl rfl ?_
    refine q_iload rfl rfl ?_
    refine q_iconstv (v := (3 : Int32)) rfl (by decide +kernel) ?_
    refine q_iaddv (v := (3 : Int32)) rfl (by decide +kernel) ?_
    refine q_script rfl (by decide) rfl ?_
    refine q_call rfl rfl rfl rfl ?_
    refine q_aload_n rfl rfl ?_
    refine q_iconstv (v := (0 : Int32)) rfl (by decide +kernel) ?_
    refine q_putv (w9 := (w1.set 0 (.inr (7, [.ref 1, .ref 3, .ref 7, .ref 9, .ref 10, .ref 11, .ref 12, .ref 13, .ref 25, .ref 37, .ref 39, .int 0, .int 0, .int 1])))) rfl rfl rfl (by decide) rfl (by decide) rfl ?_
    refine q_aload_n rfl rfl ?_
    refine q_iload_n rfl rfl ?_
    refine q_iconstv (v := (0 : Int32)) rfl (by decide +kernel) ?_
    refine q_bipushv (v := (99 : Int32)) rfl (by decide +kernel) ?_
    refine q_call rfl rfl rfl rfl ?_
    refine q_iload_n rfl rfl ?_
    refine q_iload_n rfl rfl ?_
    refine q_ic_lt_t (t := 14) rfl (by decide) (i_lt (a := (x1).toInt) (b := (0 : Int)) rfl (by decide +kernel) (by omega)) ?_
    refine q_iconstv (v := (0 : Int32)) rfl (by decide +kernel) ?_
    refine q_zret rfl rfl (by decide) ?_
    refine bk_inl ?_
    refine q_if_eq_t (t := 39) rfl (by decide) (i_eq (a := (0 : Int)) (b := (0 : Int)) (by decide +kernel) (by decide +kernel) (by omega)) ?_
    refine q_iconstv (v := (0 : Int32)) rfl (by decide +kernel) ?_
    refine q_iconstv (v := (1 : Int32)) rfl (by decide +kernel) ?_
    refine q_iconstv (v := (1 : Int32)) rfl (by decide +kernel) ?_
    refine q_call rfl rfl rfl rfl ?_
    refine q_iload_n rfl rfl ?_
    refine q_if_ne_f (t := 26) rfl (by decide) (i_nne (a := (0 : Int)) (b := (0 : Int)) (by decide +kernel) (by decide +kernel) (by omega)) ?_
    refine q_aload_n rfl rfl ?_
    refine q_get rfl rfl rfl rfl ?_
    refine q_if_ne_f (t := 26) rfl (by decide) (i_nne (a := (0 : Int)) (b := (0 : Int)) (by decide +kernel) (by decide +kernel) (by omega)) ?_
    refine q_aload_n rfl rfl ?_
    refine q_iload_n rfl rfl ?_
    refine q_putv (w9 := ((w1.set 0 (.inr (7, [.ref 1, .ref 3, .ref 7, .ref 9, .ref 10, .ref 11, .ref 12, .ref 13, .ref 25, .ref 37, .ref 39, .int 0, .int 0, .int 1]))).set 41 (.inr (8, [.int 1, .ref 42, .int 0, .int 0, .int 0, .int 0, .int 0, .int 0, .int (-1), .ref 43, .ref 44, .ref 45, .ref 46, .ref 47, .ref 48, .ref 49, .int 0, .int 0, .int 0, .int 5, .int 0, .int 0, .int 0, .int 5, .ref 50, .ref 51, .ref 52, .ref 53, .ref 54, .int 0, .int 0, .ref 55, .ref 56, .ref 57, .int 0, .int 0, .int 0, .int 0, .int 0, .int 0, .ref 58, .ref 59, .ref 60, .ref 61, .ref 62, .ref 63, .ref 64, .int 0, .int 0, .ref 65, .int 0, .ref 66, .int 0])))) rfl rfl rfl (by decide) rfl (by decide) rfl ?_
    refine q_aload_n rfl rfl ?_
    refine q_get rfl rfl rfl rfl ?_
    refine q_iload_n rfl rfl ?_
    refine q_dup2 rfl ⟨rfl, rfl⟩ ?_
    refine q_ialoadv (m := 1) rfl (by decide) (by decide) rfl (by decide +kernel) rfl ?_
    refine q_iconstv (v := (1 : Int32)) rfl (by decide +kernel) ?_
    refine q_iaddv (v := (1 : Int32)) rfl (by decide +kernel) ?_
    refine q_iastorev (m := 1) (w9 := (((w1.set 0 (.inr (7, [.ref 1, .ref 3, .ref 7, .ref 9, .ref 10, .ref 11, .ref 12, .ref 13, .ref 25, .ref 37, .ref 39, .int 0, .int 0, .int 1]))).set 41 (.inr (8, [.int 1, .ref 42, .int 0, .int 0, .int 0, .int 0, .int 0, .int 0, .int (-1), .ref 43, .ref 44, .ref 45, .ref 46, .ref 47, .ref 48, .ref 49, .int 0, .int 0, .int 0, .int 5, .int 0, .int 0, .int 0, .int 5, .ref 50, .ref 51, .ref 52, .ref 53, .ref 54, .int 0, .int 0, .ref 55, .ref 56, .ref 57, .int 0, .int 0, .int 0, .int 0, .int 0, .int 0, .ref 58, .ref 59, .ref 60, .ref 61, .ref 62, .ref 63, .ref 64, .int 0, .int 0, .ref 65, .int 0, .ref 66, .int 0]))).set 42 (.inl (0, .inl ([0, 1]))))) rfl (by decide) rfl (by decide +kernel) (by decide) rfl ?_
    refine q_aload_n rfl rfl ?_
    refine q_get rfl rfl rfl rfl ?_
    refine q_if_ne_t (t := 37) rfl (by decide) (i_ne (a := (1 : Int)) (b := (0 : Int)) (by decide +kernel) (by decide +kernel) (by omega)) ?_
    refine q_iconstv (v := (0 : Int32)) rfl (by decide +kernel) ?_
    refine q_zret rfl rfl (by decide) ?_
    refine bk_inl ?_
    refine q_if_ne_f (t := 50) rfl (by decide) (i_nne (a := (0 : Int)) (b := (0 : Int)) (by decide +kernel) (by decide +kernel) (by omega)) ?_
    refine q_iconstv (v := (0 : Int32)) rfl (by decide +kernel) ?_
    refine q_iret rfl rfl ?_
    refine bk_inl ?_
    refine q_istore rfl (by decide) ?_
    refine q_aload_n rfl rfl ?_
    refine q_call rfl rfl rfl rfl ?_
    refine q_aload_n rfl rfl ?_
    refine q_get rfl rfl rfl rfl ?_
    refine q_iret rfl rfl ?_
    refine bk_inl ?_
    refine q_iload rfl rfl ?_
    refine q_ic_eq_t (t := 1774) rfl (by decide) (i_eq (a := (1 : Int)) (b := (1 : Int)) (by decide +kernel) (by decide +kernel) (by omega)) ?_
    refine q_iload rfl rfl ?_
    refine q_if_ne_t (t := 1791) rfl (by decide) (i_ne (a := (1 : Int)) (b := (0 : Int)) (by decide +kernel) (by decide +kernel) (by omega)) ?_
    refine q_goto (t := 2739) rfl (by decide) ?_
    refine q_iincv (v := (8 : Int32)) rfl rfl (by decide) (by decide +kernel) ?_
    refine q_goto (t := 23) rfl (by decide) ?_
    exact q_end rfl rfl (by decide) (by decide)
  · refine q_ic_lt_f (t := 14) rfl (by decide) (i_nlt (a := (x1).toInt) (b := (0 : Int)) rfl (by decide +kernel) (by omega)) ?_
    refine q_iload_n rfl rfl ?_
    refine q_iload_n rfl rfl ?_
    by_cases h2 : (x1).toInt > 99
    · refine q_ic_gt_t (t := 14) rfl (by decide) (i_lt_r (a := (x1).toInt) (b := (99 : Int)) rfl (by decide +kernel) (by omega)) ?_
      refine q_iconstv (v := (0 : Int32)) rfl (by decide +kernel) ?_
      refine q_zret rfl rfl (by decide) ?_
      refine bk_inl ?_
      refine q_if_eq_t (t := 34) rfl (by decide) (i_eq (a := (0 : Int)) (b := (0 : Int)) (by decide +kernel) (by decide +kernel) (by omega)) ?_
      refine q_iconstv (v := (0 : Int32)) rfl (by decide +kernel) ?_
      refine q_call rfl rfl rfl rfl ?_
      refine q_iload_n rfl rfl ?_
      refine q_if_ne_f (t := 25) rfl (by decide) (i_nne (a := (0 : Int)) (b := (0 : Int)) (by decide +kernel) (by decide +kernel) (by omega)) ?_
      refine q_aload_n rfl rfl ?_
      refine q_dup rfl rfl ?_
      refine q_get rfl rfl rfl rfl ?_
      refine q_iconstv (v := (1 : Int32)) rfl (by decide +kernel) ?_
      refine q_iaddv (v := (1 : Int32)) rfl (by decide +kernel) ?_
      refine q_putv (w9 := (w1.set 0 (.inr (7, [.ref 1, .ref 3, .ref 7, .ref 9, .ref 10, .ref 11, .ref 12, .ref 13, .ref 25, .ref 37, .ref 39, .int 0, .int 0, .int 1])))) rfl rfl rfl (by decide) rfl (by decide) rfl ?_
      refine q_fin rfl rfl rfl ?_
      refine bk_out rfl rfl ?_
      refine bk_thr (z := (1 : Int32)) rfl ⟨_, _, rfl⟩ rfl ?_
      refine bk_inl ?_
      refine q_istore rfl (by decide) ?_
      refine q_aload_n rfl rfl ?_
      refine q_aload_n rfl rfl ?_
      refine q_iload rfl rfl ?_
      refine q_iconstv (v := (1 : Int32)) rfl (by decide +kernel) ?_
      refine q_iaddv (v := (1 : Int32)) rfl (by decide +kernel) ?_
      refine q_script rfl (by decide) rfl ?_
      refine q_aload_n rfl rfl ?_
      refine q_iload rfl rfl ?_
      refine q_iconstv (v := (2 : Int32)) rfl (by decide +kernel) ?_
      refine q_iaddv (v := (2 : Int32)) rfl (by decide +kernel) ?_
      refine q_script rfl (by decide) rfl ?_
      refine q_aload_n rfl rfl ?_
      refine q_iload rfl rfl ?_
      refine q_iconstv (v := (3 : Int32)) rfl (by decide +kernel) ?_
      refine q_iaddv (v := (3 : Int32)) rfl (by decide +kernel) ?_
      refine q_script rfl (by decide) rfl ?_
      refine q_call rfl rfl rfl rfl ?_
      refine q_aload_n rfl rfl ?_
      refine q_iconstv (v := (0 : Int32)) rfl (by decide +kernel) ?_
      refine q_putv (w9 := (w1.set 0 (.inr (7, [.ref 1, .ref 3, .ref 7, .ref 9, .ref 10, .ref 11, .ref 12, .ref 13, .ref 25, .ref 37, .ref 39, .int 0, .int 0, .int 1])))) rfl rfl rfl (by decide) rfl (by decide) rfl ?_
      refine q_aload_n rfl rfl ?_
      refine q_iload_n rfl rfl ?_
      refine q_iconstv (v := (0 : Int32)) rfl (by decide +kernel) ?_
      refine q_bipushv (v := (99 : Int32)) rfl (by decide +kernel) ?_
      refine q_call rfl rfl rfl rfl ?_
      refine q_iload_n rfl rfl ?_
      refine q_iload_n rfl rfl ?_
      refine q_ic_lt_f (t := 14) rfl (by decide) (i_nlt (a := (x1).toInt) (b := (0 : Int)) rfl (by decide +kernel) (by omega)) ?_
      refine q_iload_n rfl rfl ?_
      refine q_iload_n rfl rfl ?_
      refine q_ic_gt_t (t := 14) rfl (by decide) (i_lt_r (a := (x1).toInt) (b := (99 : Int)) rfl (by decide +kernel) (by omega)) ?_
      refine q_iconstv (v := (0 : Int32)) rfl (by decide +kernel) ?_
      refine q_zret rfl rfl (by decide) ?_
      refine bk_inl ?_
      refine q_if_eq_t (t := 39) rfl (by decide) (i_eq (a := (0 : Int)) (b := (0 : Int)) (by decide +kernel) (by decide +kernel) (by omega)) ?_
      refine q_iconstv (v := (0 : Int32)) rfl (by decide +kernel) ?_
      refine q_iconstv (v := (1 : Int32)) rfl (by decide +kernel) ?_
      refine q_iconstv (v := (1 : Int32)) rfl (by decide +kernel) ?_
      refine q_call rfl rfl rfl rfl ?_
      refine q_iload_n rfl rfl ?_
      refine q_if_ne_f (t := 26) rfl (by decide) (i_nne (a := (0 : Int)) (b := (0 : Int)) (by decide +kernel) (by decide +kernel) (by omega)) ?_
      refine q_aload_n rfl rfl ?_
      refine q_get rfl rfl rfl rfl ?_
      refine q_if_ne_f (t := 26) rfl (by decide) (i_nne (a := (0 : Int)) (b := (0 : Int)) (by decide +kernel) (by decide +kernel) (by omega)) ?_
      refine q_aload_n rfl rfl ?_
      refine q_iload_n rfl rfl ?_
      refine q_putv (w9 := ((w1.set 0 (.inr (7, [.ref 1, .ref 3, .ref 7, .ref 9, .ref 10, .ref 11, .ref 12, .ref 13, .ref 25, .ref 37, .ref 39, .int 0, .int 0, .int 1]))).set 41 (.inr (8, [.int 1, .ref 42, .int 0, .int 0, .int 0, .int 0, .int 0, .int 0, .int (-1), .ref 43, .ref 44, .ref 45, .ref 46, .ref 47, .ref 48, .ref 49, .int 0, .int 0, .int 0, .int 5, .int 0, .int 0, .int 0, .int 5, .ref 50, .ref 51, .ref 52, .ref 53, .ref 54, .int 0, .int 0, .ref 55, .ref 56, .ref 57, .int 0, .int 0, .int 0, .int 0, .int 0, .int 0, .ref 58, .ref 59, .ref 60, .ref 61, .ref 62, .ref 63, .ref 64, .int 0, .int 0, .ref 65, .int 0, .ref 66, .int 0])))) rfl rfl rfl (by decide) rfl (by decide) rfl ?_
      refine q_aload_n rfl rfl ?_
      refine q_get rfl rfl rfl rfl ?_
      refine q_iload_n rfl rfl ?_
      refine q_dup2 rfl ⟨rfl, rfl⟩ ?_
      refine q_ialoadv (m := 1) rfl (by decide) (by decide) rfl (by decide +kernel) rfl ?_
      refine q_iconstv (v := (1 : Int32)) rfl (by decide +kernel) ?_
      refine q_iaddv (v := (1 : Int32)) rfl (by decide +kernel) ?_
      refine q_iastorev (m := 1) (w9 := (((w1.set 0 (.inr (7, [.ref 1, .ref 3, .ref 7, .ref 9, .ref 10, .ref 11, .ref 12, .ref 13, .ref 25, .ref 37, .ref 39, .int 0, .int 0, .int 1]))).set 41 (.inr (8, [.int 1, .ref 42, .int 0, .int 0, .int 0, .int 0, .int 0, .int 0, .int (-1), .ref 43, .ref 44, .ref 45, .ref 46, .ref 47, .ref 48, .ref 49, .int 0, .int 0, .int 0, .int 5, .int 0, .int 0, .int 0, .int 5, .ref 50, .ref 51, .ref 52, .ref 53, .ref 54, .int 0, .int 0, .ref 55, .ref 56, .ref 57, .int 0, .int 0, .int 0, .int 0, .int 0, .int 0, .ref 58, .ref 59, .ref 60, .ref 61, .ref 62, .ref 63, .ref 64, .int 0, .int 0, .ref 65, .int 0, .ref 66, .int 0]))).set 42 (.inl (0, .inl ([0, 1]))))) rfl (by decide) rfl (by decide +kernel) (by decide) rfl ?_
      refine q_aload_n rfl rfl ?_
      refine q_get rfl rfl rfl rfl ?_
      refine q_if_ne_t (t := 37) rfl (by decide) (i_ne (a := (1 : Int)) (b := (0 : Int)) (by decide +kernel) (by decide +kernel) (by omega)) ?_
      refine q_iconstv (v := (0 : Int32)) rfl (by decide +kernel) ?_
      refine q_zret rfl rfl (by decide) ?_
      refine bk_inl ?_
      refine q_if_ne_f (t := 50) rfl (by decide) (i_nne (a := (0 : Int)) (b := (0 : Int)) (by decide +kernel) (by decide +kernel) (by omega)) ?_
      refine q_iconstv (v := (0 : Int32)) rfl (by decide +kernel) ?_
      refine q_iret rfl rfl ?_
      refine bk_inl ?_
      refine q_istore rfl (by decide) ?_
      refine q_aload_n rfl rfl ?_
      refine q_call rfl rfl rfl rfl ?_
      refine q_aload_n rfl rfl ?_
      refine q_get rfl rfl rfl rfl ?_
      refine q_iret rfl rfl ?_
      refine bk_inl ?_
      refine q_iload rfl rfl ?_
      refine q_ic_eq_t (t := 1774) rfl (by decide) (i_eq (a := (1 : Int)) (b := (1 : Int)) (by decide +kernel) (by decide +kernel) (by omega)) ?_
      refine q_iload rfl rfl ?_
      refine q_if_ne_t (t := 1791) rfl (by decide) (i_ne (a := (1 : Int)) (b := (0 : Int)) (by decide +kernel) (by decide +kernel) (by omega)) ?_
      refine q_goto (t := 2739) rfl (by decide) ?_
      refine q_iincv (v := (8 : Int32)) rfl rfl (by decide) (by decide +kernel) ?_
      refine q_goto (t := 23) rfl (by decide) ?_
      exact q_end rfl rfl (by decide) (by decide)
    · refine q_ic_gt_f (t := 14) rfl (by decide) (i_nlt_r (a := (x1).toInt) (b := (99 : Int)) rfl (by decide +kernel) (by omega)) ?_
      refine q_iconstv (v := (1 : Int32)) rfl (by decide +kernel) ?_
      refine q_goto (t := 15) rfl (by decide) ?_
      refine q_zret rfl rfl (by decide) ?_
      refine bk_inl ?_
      refine q_if_eq_f (t := 34) rfl (by decide) (i_ne (a := (1 : Int)) (b := (0 : Int)) (by decide +kernel) (by decide +kernel) (by omega)) ?_
      refine q_iload_n rfl rfl ?_
      refine q_iconstv (v := (0 : Int32)) rfl (by decide +kernel) ?_
      refine q_bipushv (v := (99 : Int32)) rfl (by decide +kernel) ?_
      refine q_call rfl rfl rfl rfl ?_
      refine q_iload_n rfl rfl ?_
      refine q_iload_n rfl rfl ?_
      by_cases h3 : (x2).toInt < 0
      · refine q_ic_lt_t (t := 14) rfl (by decide) (i_lt (a := (x2).toInt) (b := (0 : Int)) rfl (by decide +kernel) (by omega)) ?_
        refine q_iconstv (v := (0 : Int32)) rfl (by decide +kernel) ?_
        refine q_zret rfl rfl (by decide) ?_
        refine bk_inl ?_
        refine q_if_eq_t (t := 34) rfl (by decide) (i_eq (a := (0 : Int)) (b := (0 : Int)) (by decide +kernel) (by decide +kernel) (by omega)) ?_
        refine q_iconstv (v := (0 : Int32)) rfl (by decide +kernel) ?_
        refine q_call rfl rfl rfl rfl ?_
        refine q_iload_n rfl rfl ?_
        refine q_if_ne_f (t := 25) rfl (by decide) (i_nne (a := (0 : Int)) (b := (0 : Int)) (by decide +kernel) (by decide +kernel) (by omega)) ?_
        refine q_aload_n rfl rfl ?_
        refine q_dup rfl rfl ?_
        refine q_get rfl rfl rfl rfl ?_
        refine q_iconstv (v := (1 : Int32)) rfl (by decide +kernel) ?_
        refine q_iaddv (v := (1 : Int32)) rfl (by decide +kernel) ?_
        refine q_putv (w9 := (w1.set 0 (.inr (7, [.ref 1, .ref 3, .ref 7, .ref 9, .ref 10, .ref 11, .ref 12, .ref 13, .ref 25, .ref 37, .ref 39, .int 0, .int 0, .int 1])))) rfl rfl rfl (by decide) rfl (by decide) rfl ?_
        refine q_fin rfl rfl rfl ?_
        refine bk_out rfl rfl ?_
        refine bk_thr (z := (1 : Int32)) rfl ⟨_, _, rfl⟩ rfl ?_
        refine bk_inl ?_
        refine q_istore rfl (by decide) ?_
        refine q_aload_n rfl rfl ?_
        refine q_aload_n rfl rfl ?_
        refine q_iload rfl rfl ?_
        refine q_iconstv (v := (1 : Int32)) rfl (by decide +kernel) ?_
        refine q_iaddv (v := (1 : Int32)) rfl (by decide +kernel) ?_
        refine q_script rfl (by decide) rfl ?_
        refine q_aload_n rfl rfl ?_
        refine q_iload rfl rfl ?_
        refine q_iconstv (v := (2 : Int32)) rfl (by decide +kernel) ?_
        refine q_iaddv (v := (2 : Int32)) rfl (by decide +kernel) ?_
        refine q_script rfl (by decide) rfl ?_
        refine q_aload_n rfl rfl ?_
        refine q_iload rfl rfl ?_
        refine q_iconstv (v := (3 : Int32)) rfl (by decide +kernel) ?_
        refine q_iaddv (v := (3 : Int32)) rfl (by decide +kernel) ?_
        refine q_script rfl (by decide) rfl ?_
        refine q_call rfl rfl rfl rfl ?_
        refine q_aload_n rfl rfl ?_
        refine q_iconstv (v := (0 : Int32)) rfl (by decide +kernel) ?_
        refine q_putv (w9 := (w1.set 0 (.inr (7, [.ref 1, .ref 3, .ref 7, .ref 9, .ref 10, .ref 11, .ref 12, .ref 13, .ref 25, .ref 37, .ref 39, .int 0, .int 0, .int 1])))) rfl rfl rfl (by decide) rfl (by decide) rfl ?_
        refine q_aload_n rfl rfl ?_
        refine q_iload_n rfl rfl ?_
        refine q_iconstv (v := (0 : Int32)) rfl (by decide +kernel) ?_
        refine q_bipushv (v := (99 : Int32)) rfl (by decide +kernel) ?_
        refine q_call rfl rfl rfl rfl ?_
        refine q_iload_n rfl rfl ?_
        refine q_iload_n rfl rfl ?_
        refine q_ic_lt_f (t := 14) rfl (by decide) (i_nlt (a := (x1).toInt) (b := (0 : Int)) rfl (by decide +kernel) (by omega)) ?_
        refine q_iload_n rfl rfl ?_
        refine q_iload_n rfl rfl ?_
        refine q_ic_gt_f (t := 14) rfl (by decide) (i_nlt_r (a := (x1).toInt) (b := (99 : Int)) rfl (by decide +kernel) (by omega)) ?_
        refine q_iconstv (v := (1 : Int32)) rfl (by decide +kernel) ?_
        refine q_goto (t := 15) rfl (by decide) ?_
        refine q_zret rfl rfl (by decide) ?_
        refine bk_inl ?_
        refine q_if_eq_f (t := 39) rfl (by decide) (i_ne (a := (1 : Int)) (b := (0 : Int)) (by decide +kernel) (by decide +kernel) (by omega)) ?_
        refine q_iload_n rfl rfl ?_
        refine q_iconstv (v := (0 : Int32)) rfl (by decide +kernel) ?_
        refine q_bipushv (v := (99 : Int32)) rfl (by decide +kernel) ?_
        refine q_call rfl rfl rfl rfl ?_
        refine q_iload_n rfl rfl ?_
        refine q_iload_n rfl rfl ?_
        refine q_ic_lt_t (t := 14) rfl (by decide) (i_lt (a := (x2).toInt) (b := (0 : Int)) rfl (by decide +kernel) (by omega)) ?_
        refine q_iconstv (v := (0 : Int32)) rfl (by decide +kernel) ?_
        refine q_zret rfl rfl (by decide) ?_
        refine bk_inl ?_
        refine q_if_eq_t (t := 39) rfl (by decide) (i_eq (a := (0 : Int)) (b := (0 : Int)) (by decide +kernel) (by decide +kernel) (by omega)) ?_
        refine q_iconstv (v := (0 : Int32)) rfl (by decide +kernel) ?_
        refine q_iconstv (v := (1 : Int32)) rfl (by decide +kernel) ?_
        refine q_iconstv (v := (1 : Int32)) rfl (by decide +kernel) ?_
        refine q_call rfl rfl rfl rfl ?_
        refine q_iload_n rfl rfl ?_
        refine q_if_ne_f (t := 26) rfl (by decide) (i_nne (a := (0 : Int)) (b := (0 : Int)) (by decide +kernel) (by decide +kernel) (by omega)) ?_
        refine q_aload_n rfl rfl ?_
        refine q_get rfl rfl rfl rfl ?_
        refine q_if_ne_f (t := 26) rfl (by decide) (i_nne (a := (0 : Int)) (b := (0 : Int)) (by decide +kernel) (by decide +kernel) (by omega)) ?_
        refine q_aload_n rfl rfl ?_
        refine q_iload_n rfl rfl ?_
        refine q_putv (w9 := ((w1.set 0 (.inr (7, [.ref 1, .ref 3, .ref 7, .ref 9, .ref 10, .ref 11, .ref 12, .ref 13, .ref 25, .ref 37, .ref 39, .int 0, .int 0, .int 1]))).set 41 (.inr (8, [.int 1, .ref 42, .int 0, .int 0, .int 0, .int 0, .int 0, .int 0, .int (-1), .ref 43, .ref 44, .ref 45, .ref 46, .ref 47, .ref 48, .ref 49, .int 0, .int 0, .int 0, .int 5, .int 0, .int 0, .int 0, .int 5, .ref 50, .ref 51, .ref 52, .ref 53, .ref 54, .int 0, .int 0, .ref 55, .ref 56, .ref 57, .int 0, .int 0, .int 0, .int 0, .int 0, .int 0, .ref 58, .ref 59, .ref 60, .ref 61, .ref 62, .ref 63, .ref 64, .int 0, .int 0, .ref 65, .int 0, .ref 66, .int 0])))) rfl rfl rfl (by decide) rfl (by decide) rfl ?_
        refine q_aload_n rfl rfl ?_
        refine q_get rfl rfl rfl rfl ?_
        refine q_iload_n rfl rfl ?_
        refine q_dup2 rfl ⟨rfl, rfl⟩ ?_
        refine q_ialoadv (m := 1) rfl (by decide) (by decide) rfl (by decide +kernel) rfl ?_
        refine q_iconstv (v := (1 : Int32)) rfl (by decide +kernel) ?_
        refine q_iaddv (v := (1 : Int32)) rfl (by decide +kernel) ?_
        refine q_iastorev (m := 1) (w9 := (((w1.set 0 (.inr (7, [.ref 1, .ref 3, .ref 7, .ref 9, .ref 10, .ref 11, .ref 12, .ref 13, .ref 25, .ref 37, .ref 39, .int 0, .int 0, .int 1]))).set 41 (.inr (8, [.int 1, .ref 42, .int 0, .int 0, .int 0, .int 0, .int 0, .int 0, .int (-1), .ref 43, .ref 44, .ref 45, .ref 46, .ref 47, .ref 48, .ref 49, .int 0, .int 0, .int 0, .int 5, .int 0, .int 0, .int 0, .int 5, .ref 50, .ref 51, .ref 52, .ref 53, .ref 54, .int 0, .int 0, .ref 55, .ref 56, .ref 57, .int 0, .int 0, .int 0, .int 0, .int 0, .int 0, .ref 58, .ref 59, .ref 60, .ref 61, .ref 62, .ref 63, .ref 64, .int 0, .int 0, .ref 65, .int 0, .ref 66, .int 0]))).set 42 (.inl (0, .inl ([0, 1]))))) rfl (by decide) rfl (by decide +kernel) (by decide) rfl ?_
        refine q_aload_n rfl rfl ?_
        refine q_get rfl rfl rfl rfl ?_
        refine q_if_ne_t (t := 37) rfl (by decide) (i_ne (a := (1 : Int)) (b := (0 : Int)) (by decide +kernel) (by decide +kernel) (by omega)) ?_
        refine q_iconstv (v := (0 : Int32)) rfl (by decide +kernel) ?_
        refine q_zret rfl rfl (by decide) ?_
        refine bk_inl ?_
        refine q_if_ne_f (t := 50) rfl (by decide) (i_nne (a := (0 : Int)) (b := (0 : Int)) (by decide +kernel) (by decide +kernel) (by omega)) ?_
        refine q_iconstv (v := (0 : Int32)) rfl (by decide +kernel) ?_
        refine q_iret rfl rfl ?_
        refine bk_inl ?_
        refine q_istore rfl (by decide) ?_
        refine q_aload_n rfl rfl ?_
        refine q_call rfl rfl rfl rfl ?_
        refine q_aload_n rfl rfl ?_
        refine q_get rfl rfl rfl rfl ?_
        refine q_iret rfl rfl ?_
        refine bk_inl ?_
        refine q_iload rfl rfl ?_
        refine q_ic_eq_t (t := 1774) rfl (by decide) (i_eq (a := (1 : Int)) (b := (1 : Int)) (by decide +kernel) (by decide +kernel) (by omega)) ?_
        refine q_iload rfl rfl ?_
        refine q_if_ne_t (t := 1791) rfl (by decide) (i_ne (a := (1 : Int)) (b := (0 : Int)) (by decide +kernel) (by decide +kernel) (by omega)) ?_
        refine q_goto (t := 2739) rfl (by decide) ?_
        refine q_iincv (v := (8 : Int32)) rfl rfl (by decide) (by decide +kernel) ?_
        refine q_goto (t := 23) rfl (by decide) ?_
        exact q_end rfl rfl (by decide) (by decide)
      · refine q_ic_lt_f (t := 14) rfl (by decide) (i_nlt (a := (x2).toInt) (b := (0 : Int)) rfl (by decide +kernel) (by omega)) ?_
        refine q_iload_n rfl rfl ?_
        refine q_iload_n rfl rfl ?_
        by_cases h4 : (x2).toInt > 99
        · refine q_ic_gt_t (t := 14) rfl (by decide) (i_lt_r (a := (x2).toInt) (b := (99 : Int)) rfl (by decide +kernel) (by omega)) ?_
          refine q_iconstv (v := (0 : Int32)) rfl (by decide +kernel) ?_
          refine q_zret rfl rfl (by decide) ?_
          refine bk_inl ?_
          refine q_if_eq_t (t := 34) rfl (by decide) (i_eq (a := (0 : Int)) (b := (0 : Int)) (by decide +kernel) (by decide +kernel) (by omega)) ?_
          refine q_iconstv (v := (0 : Int32)) rfl (by decide +kernel) ?_
          refine q_call rfl rfl rfl rfl ?_
          refine q_iload_n rfl rfl ?_
          refine q_if_ne_f (t := 25) rfl (by decide) (i_nne (a := (0 : Int)) (b := (0 : Int)) (by decide +kernel) (by decide +kernel) (by omega)) ?_
          refine q_aload_n rfl rfl ?_
          refine q_dup rfl rfl ?_
          refine q_get rfl rfl rfl rfl ?_
          refine q_iconstv (v := (1 : Int32)) rfl (by decide +kernel) ?_
          refine q_iaddv (v := (1 : Int32)) rfl (by decide +kernel) ?_
          refine q_putv (w9 := (w1.set 0 (.inr (7, [.ref 1, .ref 3, .ref 7, .ref 9, .ref 10, .ref 11, .ref 12, .ref 13, .ref 25, .ref 37, .ref 39, .int 0, .int 0, .int 1])))) rfl rfl rfl (by decide) rfl (by decide) rfl ?_
          refine q_fin rfl rfl rfl ?_
          refine bk_out rfl rfl ?_
          refine bk_thr (z := (1 : Int32)) rfl ⟨_, _, rfl⟩ rfl ?_
          refine bk_inl ?_
          refine q_istore rfl (by decide) ?_
          refine q_aload_n rfl rfl ?_
          refine q_aload_n rfl rfl ?_
          refine q_iload rfl rfl ?_
          refine q_iconstv (v := (1 : Int32)) rfl (by decide +kernel) ?_
          refine q_iaddv (v := (1 : Int32)) rfl (by decide +kernel) ?_
          refine q_script rfl (by decide) rfl ?_
          refine q_aload_n rfl rfl ?_
          refine q_iload rfl rfl ?_
          refine q_iconstv (v := (2 : Int32)) rfl (by decide +kernel) ?_
          refine q_iaddv (v := (2 : Int32)) rfl (by decide +kernel) ?_
          refine q_script rfl (by decide) rfl ?_
          refine q_aload_n rfl rfl ?_
          refine q_iload rfl rfl ?_
          refine q_iconstv (v := (3 : Int32)) rfl (by decide +kernel) ?_
          refine q_iaddv (v := (3 : Int32)) rfl (by decide +kernel) ?_
          refine q_script rfl (by decide) rfl ?_
          refine q_call rfl rfl rfl rfl ?_
          refine q_aload_n rfl rfl ?_
          refine q_iconstv (v := (0 : Int32)) rfl (by decide +kernel) ?_
          refine q_putv (w9 := (w1.set 0 (.inr (7, [.ref 1, .ref 3, .ref 7, .ref 9, .ref 10, .ref 11, .ref 12, .ref 13, .ref 25, .ref 37, .ref 39, .int 0, .int 0, .int 1])))) rfl rfl rfl (by decide) rfl (by decide) rfl ?_
          refine q_aload_n rfl rfl ?_
          refine q_iload_n rfl rfl ?_
          refine q_iconstv (v := (0 : Int32)) rfl (by decide +kernel) ?_
          refine q_bipushv (v := (99 : Int32)) rfl (by decide +kernel) ?_
          refine q_call rfl rfl rfl rfl ?_
          refine q_iload_n rfl rfl ?_
          refine q_iload_n rfl rfl ?_
          refine q_ic_lt_f (t := 14) rfl (by decide) (i_nlt (a := (x1).toInt) (b := (0 : Int)) rfl (by decide +kernel) (by omega)) ?_
          refine q_iload_n rfl rfl ?_
          refine q_iload_n rfl rfl ?_
          refine q_ic_gt_f (t := 14) rfl (by decide) (i_nlt_r (a := (x1).toInt) (b := (99 : Int)) rfl (by decide +kernel) (by omega)) ?_
          refine q_iconstv (v := (1 : Int32)) rfl (by decide +kernel) ?_
          refine q_goto (t := 15) rfl (by decide) ?_
          refine q_zret rfl rfl (by decide) ?_
          refine bk_inl ?_
          refine q_if_eq_f (t := 39) rfl (by decide) (i_ne (a := (1 : Int)) (b := (0 : Int)) (by decide +kernel) (by decide +kernel) (by omega)) ?_
          refine q_iload_n rfl rfl ?_
          refine q_iconstv (v := (0 : Int32)) rfl (by decide +kernel) ?_
          refine q_bipushv (v := (99 : Int32)) rfl (by decide +kernel) ?_
          refine q_call rfl rfl rfl rfl ?_
          refine q_iload_n rfl rfl ?_
          refine q_iload_n rfl rfl ?_
          refine q_ic_lt_f (t := 14) rfl (by decide) (i_nlt (a := (x2).toInt) (b := (0 : Int)) rfl (by decide +kernel) (by omega)) ?_
          refine q_iload_n rfl rfl ?_
          refine q_iload_n rfl rfl ?_
          refine q_ic_gt_t (t := 14) rfl (by decide) (i_lt_r (a := (x2).toInt) (b := (99 : Int)) rfl (by decide +kernel) (by omega)) ?_
          refine q_iconstv (v := (0 : Int32)) rfl (by decide +kernel) ?_
          refine q_zret rfl rfl (by decide) ?_
          refine bk_inl ?_
          refine q_if_eq_t (t := 39) rfl (by decide) (i_eq (a := (0 : Int)) (b := (0 : Int)) (by decide +kernel) (by decide +kernel) (by omega)) ?_
          refine q_iconstv (v := (0 : Int32)) rfl (by decide +kernel) ?_
          refine q_iconstv (v := (1 : Int32)) rfl (by decide +kernel) ?_
          refine q_iconstv (v := (1 : Int32)) rfl (by decide +kernel) ?_
          refine q_call rfl rfl rfl rfl ?_
          refine q_iload_n rfl rfl ?_
          refine q_if_ne_f (t := 26) rfl (by decide) (i_nne (a := (0 : Int)) (b := (0 : Int)) (by decide +kernel) (by decide +kernel) (by omega)) ?_
          refine q_aload_n rfl rfl ?_
          refine q_get rfl rfl rfl rfl ?_
          refine q_if_ne_f (t := 26) rfl (by decide) (i_nne (a := (0 : Int)) (b := (0 : Int)) (by decide +kernel) (by decide +kernel) (by omega)) ?_
          refine q_aload_n rfl rfl ?_
          refine q_iload_n rfl rfl ?_
          refine q_putv (w9 := ((w1.set 0 (.inr (7, [.ref 1, .ref 3, .ref 7, .ref 9, .ref 10, .ref 11, .ref 12, .ref 13, .ref 25, .ref 37, .ref 39, .int 0, .int 0, .int 1]))).set 41 (.inr (8, [.int 1, .ref 42, .int 0, .int 0, .int 0, .int 0, .int 0, .int 0, .int (-1), .ref 43, .ref 44, .ref 45, .ref 46, .ref 47, .ref 48, .ref 49, .int 0, .int 0, .int 0, .int 5, .int 0, .int 0, .int 0, .int 5, .ref 50, .ref 51, .ref 52, .ref 53, .ref 54, .int 0, .int 0, .ref 55, .ref 56, .ref 57, .int 0, .int 0, .int 0, .int 0, .int 0, .int 0, .ref 58, .ref 59, .ref 60, .ref 61, .ref 62, .ref 63, .ref 64, .int 0, .int 0, .ref 65, .int 0, .ref 66, .int 0])))) rfl rfl rfl (by decide) rfl (by decide) rfl ?_
          refine q_aload_n rfl rfl ?_
          refine q_get rfl rfl rfl rfl ?_
          refine q_iload_n rfl rfl ?_
          refine q_dup2 rfl ⟨rfl, rfl⟩ ?_
          refine q_ialoadv (m := 1) rfl (by decide) (by decide) rfl (by decide +kernel) rfl ?_
          refine q_iconstv (v := (1 : Int32)) rfl (by decide +kernel) ?_
          refine q_iaddv (v := (1 : Int32)) rfl (by decide +kernel) ?_
          refine q_iastorev (m := 1) (w9 := (((w1.set 0 (.inr (7, [.ref 1, .ref 3, .ref 7, .ref 9, .ref 10, .ref 11, .ref 12, .ref 13, .ref 25, .ref 37, .ref 39, .int 0, .int 0, .int 1]))).set 41 (.inr (8, [.int 1, .ref 42, .int 0, .int 0, .int 0, .int 0, .int 0, .int 0, .int (-1), .ref 43, .ref 44, .ref 45, .ref 46, .ref 47, .ref 48, .ref 49, .int 0, .int 0, .int 0, .int 5, .int 0, .int 0, .int 0, .int 5, .ref 50, .ref 51, .ref 52, .ref 53, .ref 54, .int 0, .int 0, .ref 55, .ref 56, .ref 57, .int 0, .int 0, .int 0, .int 0, .int 0, .int 0, .ref 58, .ref 59, .ref 60, .ref 61, .ref 62, .ref 63, .ref 64, .int 0, .int 0, .ref 65, .int 0, .ref 66, .int 0]))).set 42 (.inl (0, .inl ([0, 1]))))) rfl (by decide) rfl (by decide +kernel) (by decide) rfl ?_
          refine q_aload_n rfl rfl ?_
          refine q_get rfl rfl rfl rfl ?_
          refine q_if_ne_t (t := 37) rfl (by decide) (i_ne (a := (1 : Int)) (b := (0 : Int)) (by decide +kernel) (by decide +kernel) (by omega)) ?_
          refine q_iconstv (v := (0 : Int32)) rfl (by decide +kernel) ?_
          refine q_zret rfl rfl (by decide) ?_
          refine bk_inl ?_
          refine q_if_ne_f (t := 50) rfl (by decide) (i_nne (a := (0 : Int)) (b := (0 : Int)) (by decide +kernel) (by decide +kernel) (by omega)) ?_
          refine q_iconstv (v := (0 : Int32)) rfl (by decide +kernel) ?_
          refine q_iret rfl rfl ?_
          refine bk_inl ?_
          refine q_istore rfl (by decide) ?_
          refine q_aload_n rfl rfl ?_
          refine q_call rfl rfl rfl rfl ?_
          refine q_aload_n rfl rfl ?_
          refine q_get rfl rfl rfl rfl ?_
          refine q_iret rfl rfl ?_
          refine bk_inl ?_
          refine q_iload rfl rfl ?_
          refine q_ic_eq_t (t := 1774) rfl (by decide) (i_eq (a := (1 : Int)) (b := (1 : Int)) (by decide +kernel) (by decide +kernel) (by omega)) ?_
          refine q_iload rfl rfl ?_
          refine q_if_ne_t (t := 1791) rfl (by decide) (i_ne (a := (1 : Int)) (b := (0 : Int)) (by decide +kernel) (by decide +kernel) (by omega)) ?_
          refine q_goto (t := 2739) rfl (by decide) ?_
          refine q_iincv (v := (8 : Int32)) rfl rfl (by decide) (by decide +kernel) ?_
          refine q_goto (t := 23) rfl (by decide) ?_
          exact q_end rfl rfl (by decide) (by decide)
        · refine q_ic_gt_f (t := 14) rfl (by decide) (i_nlt_r (a := (x2).toInt) (b := (99 : Int)) rfl (by decide +kernel) (by omega)) ?_
          refine q_iconstv (v := (1 : Int32)) rfl (by decide +kernel) ?_
          refine q_goto (t := 15) rfl (by decide) ?_
          refine q_zret rfl rfl (by decide) ?_
          refine bk_inl ?_
          refine q_if_eq_f (t := 34) rfl (by decide) (i_ne (a := (1 : Int)) (b := (0 : Int)) (by decide +kernel) (by decide +kernel) (by omega)) ?_
          refine q_iload_n rfl rfl ?_
          refine q_iconstv (v := (0 : Int32)) rfl (by decide +kernel) ?_
          refine q_iconstv (v := (2 : Int32)) rfl (by decide +kernel) ?_
          refine q_call rfl rfl rfl rfl ?_
          refine q_iload_n rfl rfl ?_
          refine q_iload_n rfl rfl ?_
          refine q_ic_lt_f (t := 14) rfl (by decide) (i_nlt (a := (1 : Int)) (b := (0 : Int)) (by decide +kernel) (by decide +kernel) (by omega)) ?_
          refine q_iload_n rfl rfl ?_
          refine q_iload_n rfl rfl ?_
          refine q_ic_gt_f (t := 14) rfl (by decide) (i_nlt_r (a := (1 : Int)) (b := (2 : Int)) (by decide +kernel) (by decide +kernel) (by omega)) ?_
          refine q_iconstv (v := (1 : Int32)) rfl (by decide +kernel) ?_
          refine q_goto (t := 15) rfl (by decide) ?_
          refine q_zret rfl rfl (by decide) ?_
          refine bk_inl ?_
          refine q_if_eq_f (t := 34) rfl (by decide) (i_ne (a := (1 : Int)) (b := (0 : Int)) (by decide +kernel) (by decide +kernel) (by omega)) ?_
          refine q_iconstv (v := (1 : Int32)) rfl (by decide +kernel) ?_
          refine q_goto (t := 35) rfl (by decide) ?_
          refine q_call rfl rfl rfl rfl ?_
          refine q_iload_n rfl rfl ?_
          refine q_if_ne_t (t := 25) rfl (by decide) (i_ne (a := (1 : Int)) (b := (0 : Int)) (by decide +kernel) (by decide +kernel) (by omega)) ?_
          refine q_vret rfl rfl ?_
          refine bk_inl ?_
          refine q_iconstv (v := (0 : Int32)) rfl (by decide +kernel) ?_
          refine q_istore rfl (by decide) ?_
          refine q_iconstv (v := (-1 : Int32)) rfl (by decide +kernel) ?_
          refine q_istore rfl (by decide) ?_
          refine q_iconstv (v := (0 : Int32)) rfl (by decide +kernel) ?_
          refine q_istore rfl (by decide) ?_
          refine q_iconstv (v := (0 : Int32)) rfl (by decide +kernel) ?_
          refine q_istore rfl (by decide) ?_
          refine q_iload rfl rfl ?_
          refine q_iconstv (v := (4 : Int32)) rfl (by decide +kernel) ?_
          refine q_ic_ge_f (t := 153) rfl (by decide) (i_nle_r (a := (0 : Int)) (b := (4 : Int)) (by decide +kernel) (by decide +kernel) (by omega)) ?_
          refine q_iload rfl rfl ?_
          refine q_iconstv (v := (2 : Int32)) rfl (by decide +kernel) ?_
          refine q_idivv (v := (0 : Int32)) rfl (by decide) (by decide +kernel) ?_
          refine q_istore rfl (by decide) ?_
          refine q_iload rfl rfl ?_
          refine q_iconstv (v := (2 : Int32)) rfl (by decide +kernel) ?_
          refine q_iremv (v := (0 : Int32)) rfl (by decide) (by decide +kernel) ?_
          refine q_istore rfl (by decide) ?_
          refine q_iload rfl rfl ?_
          refine q_iload rfl rfl ?_
          refine q_iload_n rfl rfl ?_
          refine q_iload_n rfl rfl ?_
          refine q_call rfl rfl rfl rfl ?_
          refine q_iload_n rfl rfl ?_
          refine q_if_ne_f (t := 8) rfl (by decide) (i_nne (a := (0 : Int)) (b := (0 : Int)) (by decide +kernel) (by decide +kernel) (by omega)) ?_
          refine q_iload_n rfl rfl ?_
          refine q_goto (t := 9) rfl (by decide) ?_
          refine q_istore rfl (by decide) ?_
          refine q_iload_n rfl rfl ?_
          refine q_iload_n rfl rfl ?_
          refine q_ic_ne_f (t := 23) rfl (by decide) (i_nne (a := (0 : Int)) (b := (0 : Int)) (by decide +kernel) (by decide +kernel) (by omega)) ?_
          refine q_iload rfl rfl ?_
          refine q_iconstv (v := (2 : Int32)) rfl (by decide +kernel) ?_
          refine q_idiv rfl (i_ne (a := (2 : Int)) (b := 0) (by decide +kernel) (by decide +kernel) (by omega)) ?_
          refine q_goto (t := 25) rfl (by decide) ?_
          refine q_iret rfl rfl ?_
          refine bk_inl ?_
          refine q_istore rfl (by decide) ?_
          refine q_iload rfl rfl ?_
          refine q_iload rfl rfl ?_
          refine q_iload_n rfl rfl ?_
          refine q_iload_n rfl rfl ?_
          refine q_call rfl rfl rfl rfl ?_
          refine q_iload_n rfl rfl ?_
          refine q_if_ne_f (t := 8) rfl (by decide) (i_nne (a := (0 : Int)) (b := (0 : Int)) (by decide +kernel) (by decide +kernel) (by omega)) ?_
          refine q_iload_n rfl rfl ?_
          refine q_goto (t := 9) rfl (by decide) ?_
          refine q_istore rfl (by decide) ?_
          refine q_iload_n rfl rfl ?_
          refine q_iload_n rfl rfl ?_
          refine q_ic_ne_f (t := 23) rfl (by decide) (i_nne (a := (0 : Int)) (b := (0 : Int)) (by decide +kernel) (by decide +kernel) (by omega)) ?_
          refine q_iload rfl rfl ?_
          refine q_iconstv (v := (2 : Int32)) rfl (by decide +kernel) ?_
          refine q_idiv rfl (i_ne (a := (2 : Int)) (b := 0) (by decide +kernel) (by decide +kernel) (by omega)) ?_
          refine q_goto (t := 25) rfl (by decide) ?_
          refine q_iret rfl rfl ?_
          refine bk_inl ?_
          refine q_istore rfl (by decide) ?_
          refine q_iconstv (v := (1 : Int32)) rfl (by decide +kernel) ?_
          refine q_iload rfl rfl ?_
          refine q_isubv (v := (1 : Int32)) rfl (by decide +kernel) ?_
          refine q_iload rfl rfl ?_
          refine q_iload_n rfl rfl ?_
          refine q_iload_n rfl rfl ?_
          refine q_call rfl rfl rfl rfl ?_
          refine q_iload_n rfl rfl ?_
          refine q_if_ne_t (t := 8) rfl (by decide) (i_ne (a := (1 : Int)) (b := (0 : Int)) (by decide +kernel) (by decide +kernel) (by omega)) ?_
          refine q_iload_n rfl rfl ?_
          refine q_istore rfl (by decide) ?_
          refine q_iload_n rfl rfl ?_
          refine q_iload_n rfl rfl ?_
          refine q_ic_ne_t (t := 23) rfl (by decide) (i_ne (a := (1 : Int)) (b := (0 : Int)) (by decide +kernel) (by decide +kernel) (by omega)) ?_
          refine q_iload rfl rfl ?_
          refine q_iret rfl rfl ?_
          refine bk_inl ?_
          refine q_iload rfl rfl ?_
          by_cases h5 : (x2).toInt > ((x1 / (2 : Int32))).toInt
          · refine q_ic_gt_t (t := 147) rfl (by decide) (i_lt_r (a := (x2).toInt) (b := ((x1 / (2 : Int32))).toInt) rfl rfl (by omega)) ?_
            refine q_iincv (v := (1 : Int32)) rfl rfl (by decide) (by decide +kernel) ?_
            refine q_goto (t := 50) rfl (by decide) ?_
            refine q_iload rfl rfl ?_
            refine q_iconstv (v := (4 : Int32)) rfl (by decide +kernel) ?_
            refine q_ic_ge_f (t := 153) rfl (by decide) (i_nle_r (a := (1 : Int)) (b := (4 : Int)) (by decide +kernel) (by decide +kernel) (by omega)) ?_
            refine q_iload rfl rfl ?_
            refine q_iconstv (v := (2 : Int32)) rfl (by decide +kernel) ?_
            refine q_idivv (v := (0 : Int32)) rfl (by decide) (by decide +kernel) ?_
            refine q_istore rfl (by decide) ?_
            refine q_iload rfl rfl ?_
            refine q_iconstv (v := (2 : Int32)) rfl (by decide +kernel) ?_
            refine q_iremv (v := (1 : Int32)) rfl (by decide) (by decide +kernel) ?_
            refine q_istore rfl (by decide) ?_
            refine q_iload rfl rfl ?_
            refine q_iload rfl rfl ?_
            refine q_iload_n rfl rfl ?_
            refine q_iload_n rfl rfl ?_
            refine q_call rfl rfl rfl rfl ?_
            refine q_iload_n rfl rfl ?_
            refine q_if_ne_f (t := 8) rfl (by decide) (i_nne (a := (0 : Int)) (b := (0 : Int)) (by decide +kernel) (by decide +kernel) (by omega)) ?_
            refine q_iload_n rfl rfl ?_
            refine q_goto (t := 9) rfl (by decide) ?_
            refine q_istore rfl (by decide) ?_
            refine q_iload_n rfl rfl ?_
            refine q_iload_n rfl rfl ?_
            refine q_ic_ne_t (t := 23) rfl (by decide) (i_ne (a := (0 : Int)) (b := (1 : Int)) (by decide +kernel) (by decide +kernel) (by omega)) ?_
            refine q_iload rfl rfl ?_
            refine q_iret rfl rfl ?_
            refine bk_inl ?_
            refine q_istore rfl (by decide) ?_
            refine q_iload rfl rfl ?_
            refine q_iload rfl rfl ?_
            refine q_iload_n rfl rfl ?_
            refine q_iload_n rfl rfl ?_
            refine q_call rfl rfl rfl rfl ?_
            refine q_iload_n rfl rfl ?_
            refine q_if_ne_t (t := 8) rfl (by decide) (i_ne (a := (1 : Int)) (b := (0 : Int)) (by decide +kernel) (by decide +kernel) (by omega)) ?_
            refine q_iload_n rfl rfl ?_
            refine q_istore rfl (by decide) ?_
            refine q_iload_n rfl rfl ?_
            refine q_iload_n rfl rfl ?_
            refine q_ic_ne_t (t := 23) rfl (by decide) (i_ne (a := (1 : Int)) (b := (0 : Int)) (by decide +kernel) (by decide +kernel) (by omega)) ?_
            refine q_iload rfl rfl ?_
            refine q_iret rfl rfl ?_
            refine bk_inl ?_
            refine q_istore rfl (by decide) ?_
            refine q_iconstv (v := (1 : Int32)) rfl (by decide +kernel) ?_
            refine q_iload rfl rfl ?_
            refine q_isubv (v := (1 : Int32)) rfl (by decide +kernel) ?_
            refine q_iload rfl rfl ?_
            refine q_iload_n rfl rfl ?_
            refine q_iload_n rfl rfl ?_
            refine q_call rfl rfl rfl rfl ?_
            refine q_iload_n rfl rfl ?_
            refine q_if_ne_t (t := 8) rfl (by decide) (i_ne (a := (1 : Int)) (b := (0 : Int)) (by decide +kernel) (by decide +kernel) (by omega)) ?_
            refine q_iload_n rfl rfl ?_
            refine q_istore rfl (by decide) ?_
            refine q_iload_n rfl rfl ?_
            refine q_iload_n rfl rfl ?_
            refine q_ic_ne_f (t := 23) rfl (by decide) (i_nne (a := (1 : Int)) (b := (1 : Int)) (by decide +kernel) (by decide +kernel) (by omega)) ?_
            refine q_iload rfl rfl ?_
            refine q_iconstv (v := (2 : Int32)) rfl (by decide +kernel) ?_
            refine q_idiv rfl (i_ne (a := (2 : Int)) (b := 0) (by decide +kernel) (by decide +kernel) (by omega)) ?_
            refine q_goto (t := 25) rfl (by decide) ?_
            refine q_iret rfl rfl ?_
            refine bk_inl ?_
            refine q_iload rfl rfl ?_
            by_cases h6 : ((x2 / (2 : Int32))).toInt > (x1).toInt
            · refine q_ic_gt_t (t := 147) rfl (by decide) (i_lt_r (a := ((x2 / (2 : Int32))).toInt) (b := (x1).toInt) rfl rfl (by omega)) ?_
              refine q_iincv (v := (2 : Int32)) rfl rfl (by decide) (by decide +kernel) ?_
              refine q_goto (t := 50) rfl (by decide) ?_
              refine q_iload rfl rfl ?_
              refine q_iconstv (v := (4 : Int32)) rfl (by decide +kernel) ?_
              refine q_ic_ge_f (t := 153) rfl (by decide) (i_nle_r (a := (2 : Int)) (b := (4 : Int)) (by decide +kernel) (by decide +kernel) (by omega)) ?_
              refine q_iload rfl rfl ?_
              refine q_iconstv (v := (2 : Int32)) rfl (by decide +kernel) ?_
              refine q_idivv (v := (1 : Int32)) rfl (by decide) (by decide +kernel) ?_
              refine q_istore rfl (by decide) ?_
              refine q_iload rfl rfl ?_
              refine q_iconstv (v := (2 : Int32)) rfl (by decide +kernel) ?_
              refine q_iremv (v := (0 : Int32)) rfl (by decide) (by decide +kernel) ?_
              refine q_istore rfl (by decide) ?_
              refine q_iload rfl rfl ?_
              refine q_iload rfl rfl ?_
              refine q_iload_n rfl rfl ?_
              refine q_iload_n rfl rfl ?_
              refine q_call rfl rfl rfl rfl ?_
              refine q_iload_n rfl rfl ?_
              refine q_if_ne_t (t := 8) rfl (by decide) (i_ne (a := (1 : Int)) (b := (0 : Int)) (by decide +kernel) (by decide +kernel) (by omega)) ?_
              refine q_iload_n rfl rfl ?_
              refine q_istore rfl (by decide) ?_
              refine q_iload_n rfl rfl ?_
              refine q_iload_n rfl rfl ?_
              refine q_ic_ne_t (t := 23) rfl (by decide) (i_ne (a := (1 : Int)) (b := (0 : Int)) (by decide +kernel) (by decide +kernel) (by omega)) ?_
              refine q_iload rfl rfl ?_
              refine q_iret rfl rfl ?_
              refine bk_inl ?_
              refine q_istore rfl (by decide) ?_
              refine q_iload rfl rfl ?_
              refine q_iload rfl rfl ?_
              refine q_iload_n rfl rfl ?_
              refine q_iload_n rfl rfl ?_
              refine q_call rfl rfl rfl rfl ?_
              refine q_iload_n rfl rfl ?_
              refine q_if_ne_f (t := 8) rfl (by decide) (i_nne (a := (0 : Int)) (b := (0 : Int)) (by decide +kernel) (by decide +kernel) (by omega)) ?_
              refine q_iload_n rfl rfl ?_
              refine q_goto (t := 9) rfl (by decide) ?_
              refine q_istore rfl (by decide) ?_
              refine q_iload_n rfl rfl ?_
              refine q_iload_n rfl rfl ?_
              refine q_ic_ne_t (t := 23) rfl (by decide) (i_ne (a := (0 : Int)) (b := (1 : Int)) (by decide +kernel) (by decide +kernel) (by omega)) ?_
              refine q_iload rfl rfl ?_
              refine q_iret rfl rfl ?_
              refine bk_inl ?_
              refine q_istore rfl (by decide) ?_
              refine q_iconstv (v := (1 : Int32)) rfl (by decide +kernel) ?_
              refine q_iload rfl rfl ?_
              refine q_isubv (v := (0 : Int32)) rfl (by decide +kernel) ?_
              refine q_iload rfl rfl ?_
              refine q_iload_n rfl rfl ?_
              refine q_iload_n rfl rfl ?_
              refine q_call rfl rfl rfl rfl ?_
              refine q_iload_n rfl rfl ?_
              refine q_if_ne_f (t := 8) rfl (by decide) (i_nne (a := (0 : Int)) (b := (0 : Int)) (by decide +kernel) (by decide +kernel) (by omega)) ?_
              refine q_iload_n rfl rfl ?_
              refine q_goto (t := 9) rfl (by decide) ?_
              refine q_istore rfl (by decide) ?_
              refine q_iload_n rfl rfl ?_
              refine q_iload_n rfl rfl ?_
              refine q_ic_ne_f (t := 23) rfl (by decide) (i_nne (a := (0 : Int)) (b := (0 : Int)) (by decide +kernel) (by decide +kernel) (by omega)) ?_
              refine q_iload rfl rfl ?_
              refine q_iconstv (v := (2 : Int32)) rfl (by decide +kernel) ?_
              refine q_idiv rfl (i_ne (a := (2 : Int)) (b := 0) (by decide +kernel) (by decide +kernel) (by omega)) ?_
              refine q_goto (t := 25) rfl (by decide) ?_
              refine q_iret rfl rfl ?_
              refine bk_inl ?_
              refine q_iload rfl rfl ?_
              refine q_ic_gt_f (t := 147) rfl (by decide) (i_nlt_r (a := ((x1 / (2 : Int32))).toInt) (b := (x2).toInt) rfl rfl (by omega)) ?_
              refine q_iconstv (v := (1 : Int32)) rfl (by decide +kernel) ?_
              refine q_iload rfl rfl ?_
              refine q_isubv (v := (1 : Int32)) rfl (by decide +kernel) ?_
              refine q_iload rfl rfl ?_
              refine q_iload_n rfl rfl ?_
              refine q_iload_n rfl rfl ?_
              refine q_call rfl rfl rfl rfl ?_
              refine q_iload_n rfl rfl ?_
              refine q_if_ne_t (t := 8) rfl (by decide) (i_ne (a := (1 : Int)) (b := (0 : Int)) (by decide +kernel) (by decide +kernel) (by omega)) ?_
              refine q_iload_n rfl rfl ?_
              refine q_istore rfl (by decide) ?_
              refine q_iload_n rfl rfl ?_
              refine q_iload_n rfl rfl ?_
              refine q_ic_ne_f (t := 23) rfl (by decide) (i_nne (a := (1 : Int)) (b := (1 : Int)) (by decide +kernel) (by decide +kernel) (by omega)) ?_
              refine q_iload rfl rfl ?_
              refine q_iconstv (v := (2 : Int32)) rfl (by decide +kernel) ?_
              refine q_idiv rfl (i_ne (a := (2 : Int)) (b := 0) (by decide +kernel) (by decide +kernel) (by omega)) ?_
              refine q_goto (t := 25) rfl (by decide) ?_
              refine q_iret rfl rfl ?_
              refine bk_inl ?_
              refine q_iload rfl rfl ?_
              refine q_ic_gt_t (t := 147) rfl (by decide) (i_lt_r (a := ((x2 / (2 : Int32))).toInt) (b := (x1).toInt) rfl rfl (by omega)) ?_
              refine q_iincv (v := (3 : Int32)) rfl rfl (by decide) (by decide +kernel) ?_
              refine q_goto (t := 50) rfl (by decide) ?_
              refine q_iload rfl rfl ?_
              refine q_iconstv (v := (4 : Int32)) rfl (by decide +kernel) ?_
              refine q_ic_ge_f (t := 153) rfl (by decide) (i_nle_r (a := (3 : Int)) (b := (4 : Int)) (by decide +kernel) (by decide +kernel) (by omega)) ?_
              refine q_iload rfl rfl ?_
              refine q_iconstv (v := (2 : Int32)) rfl (by decide +kernel) ?_
              refine q_idivv (v := (1 : Int32)) rfl (by decide) (by decide +kernel) ?_
              refine q_istore rfl (by decide) ?_
              refine q_iload rfl rfl ?_
              refine q_iconstv (v := (2 : Int32)) rfl (by decide +kernel) ?_
              refine q_iremv (v := (1 : Int32)) rfl (by decide) (by decide +kernel) ?_
              refine q_istore rfl (by decide) ?_
              refine q_iload rfl rfl ?_
              refine q_iload rfl rfl ?_
              refine q_iload_n rfl rfl ?_
              refine q_iload_n rfl rfl ?_
              refine q_call rfl rfl rfl rfl ?_
              refine q_iload_n rfl rfl ?_
              refine q_if_ne_t (t := 8) rfl (by decide) (i_ne (a := (1 : Int)) (b := (0 : Int)) (by decide +kernel) (by decide +kernel) (by omega)) ?_
              refine q_iload_n rfl rfl ?_
              refine q_istore rfl (by decide) ?_
              refine q_iload_n rfl rfl ?_
              refine q_iload_n rfl rfl ?_
              refine q_ic_ne_f (t := 23) rfl (by decide) (i_nne (a := (1 : Int)) (b := (1 : Int)) (by decide +kernel) (by decide +kernel) (by omega)) ?_
              refine q_iload rfl rfl ?_
              refine q_iconstv (v := (2 : Int32)) rfl (by decide +kernel) ?_
              refine q_idiv rfl (i_ne (a := (2 : Int)) (b := 0) (by decide +kernel) (by decide +kernel) (by omega)) ?_
              refine q_goto (t := 25) rfl (by decide) ?_
              refine q_iret rfl rfl ?_
              refine bk_inl ?_
              refine q_istore rfl (by decide) ?_
              refine q_iload rfl rfl ?_
              refine q_iload rfl rfl ?_
              refine q_iload_n rfl rfl ?_
              refine q_iload_n rfl rfl ?_
              refine q_call rfl rfl rfl rfl ?_
              refine q_iload_n rfl rfl ?_
              refine q_if_ne_t (t := 8) rfl (by decide) (i_ne (a := (1 : Int)) (b := (0 : Int)) (by decide +kernel) (by decide +kernel) (by omega)) ?_
              refine q_iload_n rfl rfl ?_
              refine q_istore rfl (by decide) ?_
              refine q_iload_n rfl rfl ?_
              refine q_iload_n rfl rfl ?_
              refine q_ic_ne_f (t := 23) rfl (by decide) (i_nne (a := (1 : Int)) (b := (1 : Int)) (by decide +kernel) (by decide +kernel) (by omega)) ?_
              refine q_iload rfl rfl ?_
              refine q_iconstv (v := (2 : Int32)) rfl (by decide +kernel) ?_
              refine q_idiv rfl (i_ne (a := (2 : Int)) (b := 0) (by decide +kernel) (by decide +kernel) (by omega)) ?_
              refine q_goto (t := 25) rfl (by decide) ?_
              refine q_iret rfl rfl ?_
              refine bk_inl ?_
              refine q_istore rfl (by decide) ?_
              refine q_iconstv (v := (1 : Int32)) rfl (by decide +kernel) ?_
              refine q_iload rfl rfl ?_
              refine q_isubv (v := (0 : Int32)) rfl (by decide +kernel) ?_
              refine q_iload rfl rfl ?_
              refine q_iload_n rfl rfl ?_
              refine q_iload_n rfl rfl ?_
              refine q_call rfl rfl rfl rfl ?_
              refine q_iload_n rfl rfl ?_
              refine q_if_ne_f (t := 8) rfl (by decide) (i_nne (a := (0 : Int)) (b := (0 : Int)) (by decide +kernel) (by decide +kernel) (by omega)) ?_
              refine q_iload_n rfl rfl ?_
              refine q_goto (t := 9) rfl (by decide) ?_
              refine q_istore rfl (by decide) ?_
              refine q_iload_n rfl rfl ?_
              refine q_iload_n rfl rfl ?_
              refine q_ic_ne_t (t := 23) rfl (by decide) (i_ne (a := (0 : Int)) (b := (1 : Int)) (by decide +kernel) (by decide +kernel) (by omega)) ?_
              refine q_iload rfl rfl ?_
              refine q_iret rfl rfl ?_
              refine bk_inl ?_
              refine q_iload rfl rfl ?_
              refine q_ic_gt_f (t := 147) rfl (by decide) (i_nlt_r (a := (x1).toInt) (b := ((x2 / (2 : Int32))).toInt) rfl rfl (by omega)) ?_
              refine q_iconstv (v := (1 : Int32)) rfl (by decide +kernel) ?_
              refine q_iload rfl rfl ?_
              refine q_isubv (v := (0 : Int32)) rfl (by decide +kernel) ?_
              refine q_iload rfl rfl ?_
              refine q_iload_n rfl rfl ?_
              refine q_iload_n rfl rfl ?_
              refine q_call rfl rfl rfl rfl ?_
              refine q_iload_n rfl rfl ?_
              refine q_if_ne_f (t := 8) rfl (by decide) (i_nne (a := (0 : Int)) (b := (0 : Int)) (by decide +kernel) (by decide +kernel) (by omega)) ?_
              refine q_iload_n rfl rfl ?_
              refine q_goto (t := 9) rfl (by decide) ?_
              refine q_istore rfl (by decide) ?_
              refine q_iload_n rfl rfl ?_
              refine q_iload_n rfl rfl ?_
              refine q_ic_ne_t (t := 23) rfl (by decide) (i_ne (a := (0 : Int)) (b := (1 : Int)) (by decide +kernel) (by decide +kernel) (by omega)) ?_
              refine q_iload rfl rfl ?_
              refine q_iret rfl rfl ?_
              refine bk_inl ?_
              refine q_iload rfl rfl ?_
              refine q_ic_gt_f (t := 147) rfl (by decide) (i_nlt_r (a := (x1).toInt) (b := ((x2 / (2 : Int32))).toInt) rfl rfl (by omega)) ?_
              refine q_iload rfl rfl ?_
              refine q_if_ne_f (t := 144) rfl (by decide) (i_nne (a := (0 : Int)) (b := (0 : Int)) (by decide +kernel) (by decide +kernel) (by omega)) ?_
              refine q_bipushv (v := (10 : Int32)) rfl (by decide +kernel) ?_
              refine q_iload rfl rfl ?_
              refine q_imulv (v := (10 : Int32)) rfl (by decide +kernel) ?_
              refine q_iload rfl rfl ?_
              refine q_iaddv (v := (11 : Int32)) rfl (by decide +kernel) ?_
              refine q_istore rfl (by decide) ?_
              refine q_iload rfl rfl ?_
              refine q_iload rfl rfl ?_
              refine q_iadd rfl ?_
              refine q_istore rfl (by decide) ?_
              refine q_iincv (v := (1 : Int32)) rfl rfl (by decide) (by decide +kernel) ?_
              refine q_iincv (v := (4 : Int32)) rfl rfl (by decide) (by decide +kernel) ?_
              refine q_goto (t := 50) rfl (by decide) ?_
              refine q_iload rfl rfl ?_
              refine q_iconstv (v := (4 : Int32)) rfl (by decide +kernel) ?_
              refine q_ic_ge_t (t := 153) rfl (by decide) (i_le_r (a := (4 : Int)) (b := (4 : Int)) (by decide +kernel) (by decide +kernel) (by omega)) ?_
              refine q_iload_n rfl rfl ?_
              refine q_lsw (t := 183) (off := 29) rfl (by decide) (by decide +kernel) (by decide) ?_
              refine q_iload rfl rfl ?_
              refine q_iret rfl rfl ?_
              refine bk_inl ?_
              refine q_i2lv (v := (11 : Int64)) rfl (by decide +kernel) ?_
              refine q_lastorev (m := 0) (w9 := (w1.set 67 (.inl (2, .inr ([11]))))) rfl (by decide) rfl (by decide +kernel) (by decide) rfl ?_
              refine q_goto (t := 19) rfl (by decide) ?_
              refine q_iconstv (v := (0 : Int32)) rfl (by decide +kernel) ?_
              refine q_iret rfl rfl ?_
              refine bk_inl ?_
              refine q_istore rfl (by decide) ?_
              refine q_aload_n rfl rfl ?_
              refine q_aload_n rfl rfl ?_
              refine q_iload rfl rfl ?_
              refine q_iconstv (v := (1 : Int32)) rfl (by decide +kernel) ?_
              refine q_iaddv (v := (1 : Int32)) rfl (by decide +kernel) ?_
              refine q_script rfl (by decide) rfl ?_
              refine q_aload_n rfl rfl ?_
              refine q_iload rfl rfl ?_
              refine q_iconstv (v := (2 : Int32)) rfl (by decide +kernel) ?_
              refine q_iaddv (v := (2 : Int32)) rfl (by decide +kernel) ?_
              refine q_script rfl (by decide) rfl ?_
              refine q_aload_n rfl rfl ?_
              refine q_iload rfl rfl ?_
              refine q_iconstv (v := (3 : Int32)) rfl (by decide +kernel) ?_
              refine q_iaddv (v := (3 : Int32)) rfl (by decide +kernel) ?_
              refine q_script rfl (by decide) rfl ?_
              refine q_call rfl rfl rfl rfl ?_
              refine q_aload_n rfl rfl ?_
              refine q_iconstv (v := (0 : Int32)) rfl (by decide +kernel) ?_
              refine q_putv (w9 := (w1.set 67 (.inl (2, .inr ([11]))))) rfl rfl rfl (by decide) rfl (by decide) rfl ?_
              refine q_aload_n rfl rfl ?_
              refine q_iload_n rfl rfl ?_
              refine q_iconstv (v := (0 : Int32)) rfl (by decide +kernel) ?_
              refine q_bipushv (v := (99 : Int32)) rfl (by decide +kernel) ?_
              refine q_call rfl rfl rfl rfl ?_
              refine q_iload_n rfl rfl ?_
              refine q_iload_n rfl rfl ?_
              refine q_ic_lt_f (t := 14) rfl (by decide) (i_nlt (a := (x1).toInt) (b := (0 : Int)) rfl (by decide +kernel) (by omega)) ?_
              refine q_iload_n rfl rfl ?_
              refine q_iload_n rfl rfl ?_
              refine q_ic_gt_f (t := 14) rfl (by decide) (i_nlt_r (a := (x1).toInt) (b := (99 : Int)) rfl (by decide +kernel) (by omega)) ?_
              refine q_iconstv (v := (1 : Int32)) rfl (by decide +kernel) ?_
              refine q_goto (t := 15) rfl (by decide) ?_
              refine q_zret rfl rfl (by decide) ?_
              refine bk_inl ?_
              refine q_if_eq_f (t := 39) rfl (by decide) (i_ne (a := (1 : Int)) (b := (0 : Int)) (by decide +kernel) (by decide +kernel) (by omega)) ?_
              refine q_iload_n rfl rfl ?_
              refine q_iconstv (v := (0 : Int32)) rfl (by decide +kernel) ?_
              refine q_bipushv (v := (99 : Int32)) rfl (by decide +kernel) ?_
              refine q_call rfl rfl rfl rfl ?_
              refine q_iload_n rfl rfl ?_
              refine q_iload_n rfl rfl ?_
              refine q_ic_lt_f (t := 14) rfl (by decide) (i_nlt (a := (x2).toInt) (b := (0 : Int)) rfl (by decide +kernel) (by omega)) ?_
              refine q_iload_n rfl rfl ?_
              refine q_iload_n rfl rfl ?_
              refine q_ic_gt_f (t := 14) rfl (by decide) (i_nlt_r (a := (x2).toInt) (b := (99 : Int)) rfl (by decide +kernel) (by omega)) ?_
              refine q_iconstv (v := (1 : Int32)) rfl (by decide +kernel) ?_
              refine q_goto (t := 15) rfl (by decide) ?_
              refine q_zret rfl rfl (by decide) ?_
              refine bk_inl ?_
              refine q_if_eq_f (t := 39) rfl (by decide) (i_ne (a := (1 : Int)) (b := (0 : Int)) (by decide +kernel) (by decide +kernel) (by omega)) ?_
              refine q_iload_n rfl rfl ?_
              refine q_iconstv (v := (0 : Int32)) rfl (by decide +kernel) ?_
              refine q_iconstv (v := (2 : Int32)) rfl (by decide +kernel) ?_
              refine q_call rfl rfl rfl rfl ?_
              refine q_iload_n rfl rfl ?_
              refine q_iload_n rfl rfl ?_
              refine q_ic_lt_f (t := 14) rfl (by decide) (i_nlt (a := (1 : Int)) (b := (0 : Int)) (by decide +kernel) (by decide +kernel) (by omega)) ?_
              refine q_iload_n rfl rfl ?_
              refine q_iload_n rfl rfl ?_
              refine q_ic_gt_f (t := 14) rfl (by decide) (i_nlt_r (a := (1 : Int)) (b := (2 : Int)) (by decide +kernel) (by decide +kernel) (by omega)) ?_
              refine q_iconstv (v := (1 : Int32)) rfl (by decide +kernel) ?_
              refine q_goto (t := 15) rfl (by decide) ?_
              refine q_zret rfl rfl (by decide) ?_
              refine bk_inl ?_
              refine q_if_eq_f (t := 39) rfl (by decide) (i_ne (a := (1 : Int)) (b := (0 : Int)) (by decide +kernel) (by decide +kernel) (by omega)) ?_
              refine q_iconstv (v := (1 : Int32)) rfl (by decide +kernel) ?_
              refine q_goto (t := 40) rfl (by decide) ?_
              refine q_iconstv (v := (1 : Int32)) rfl (by decide +kernel) ?_
              refine q_iconstv (v := (1 : Int32)) rfl (by decide +kernel) ?_
              refine q_call rfl rfl rfl rfl ?_
              refine q_iload_n rfl rfl ?_
              refine q_if_ne_t (t := 26) rfl (by decide) (i_ne (a := (1 : Int)) (b := (0 : Int)) (by decide +kernel) (by decide +kernel) (by omega)) ?_
              refine q_aload_n rfl rfl ?_
              refine q_get rfl rfl rfl rfl ?_
              refine q_if_ne_f (t := 37) rfl (by decide) (i_nne (a := (0 : Int)) (b := (0 : Int)) (by decide +kernel) (by decide +kernel) (by omega)) ?_
              refine q_iconstv (v := (1 : Int32)) rfl (by decide +kernel) ?_
              refine q_goto (t := 38) rfl (by decide) ?_
              refine q_zret rfl rfl (by decide) ?_
              refine bk_inl ?_
              refine q_if_ne_t (t := 50) rfl (by decide) (i_ne (a := (1 : Int)) (b := (0 : Int)) (by decide +kernel) (by decide +kernel) (by omega)) ?_
              refine q_iconstv (v := (0 : Int32)) rfl (by decide +kernel) ?_
              refine q_istore rfl (by decide) ?_
              refine q_iconstv (v := (-1 : Int32)) rfl (by decide +kernel) ?_
              refine q_istore rfl (by decide) ?_
              refine q_iconstv (v := (0 : Int32)) rfl (by decide +kernel) ?_
              refine q_istore rfl (by decide) ?_
              refine q_iload rfl rfl ?_
              refine q_iconstv (v := (4 : Int32)) rfl (by decide +kernel) ?_
              refine q_ic_ge_f (t := 156) rfl (by decide) (i_nle_r (a := (0 : Int)) (b := (4 : Int)) (by decide +kernel) (by decide +kernel) (by omega)) ?_
              refine q_iload rfl rfl ?_
              refine q_iconstv (v := (2 : Int32)) rfl (by decide +kernel) ?_
              refine q_idivv (v := (0 : Int32)) rfl (by decide) (by decide +kernel) ?_
              refine q_istore rfl (by decide) ?_
              refine q_iload rfl rfl ?_
              refine q_iconstv (v := (2 : Int32)) rfl (by decide +kernel) ?_
              refine q_iremv (v := (0 : Int32)) rfl (by decide) (by decide +kernel) ?_
              refine q_istore rfl (by decide) ?_
              refine q_iconstv (v := (1 : Int32)) rfl (by decide +kernel) ?_
              refine q_iload rfl rfl ?_
              refine q_isubv (v := (1 : Int32)) rfl (by decide +kernel) ?_
              refine q_iload rfl rfl ?_
              refine q_iload_n rfl rfl ?_
              refine q_iload_n rfl rfl ?_
              refine q_call rfl rfl rfl rfl ?_
              refine q_iload_n rfl rfl ?_
              refine q_if_ne_t (t := 18) rfl (by decide) (i_ne (a := (1 : Int)) (b := (0 : Int)) (by decide +kernel) (by decide +kernel) (by omega)) ?_
              refine q_iload_n rfl rfl ?_
              refine q_iconstv (v := (1 : Int32)) rfl (by decide +kernel) ?_
              refine q_ic_ne_t (t := 29) rfl (by decide) (i_ne (a := (0 : Int)) (b := (1 : Int)) (by decide +kernel) (by decide +kernel) (by omega)) ?_
              refine q_iload_n rfl rfl ?_
              refine q_iret rfl rfl ?_
              refine bk_inl ?_
              refine q_iload rfl rfl ?_
              refine q_iload rfl rfl ?_
              refine q_iload_n rfl rfl ?_
              refine q_iload_n rfl rfl ?_
              refine q_call rfl rfl rfl rfl ?_
              refine q_iload_n rfl rfl ?_
              refine q_if_ne_f (t := 18) rfl (by decide) (i_nne (a := (0 : Int)) (b := (0 : Int)) (by decide +kernel) (by decide +kernel) (by omega)) ?_
              refine q_iload_n rfl rfl ?_
              refine q_if_ne_f (t := 14) rfl (by decide) (i_nne (a := (0 : Int)) (b := (0 : Int)) (by decide +kernel) (by decide +kernel) (by omega)) ?_
              refine q_iload_n rfl rfl ?_
              refine q_iconstv (v := (2 : Int32)) rfl (by decide +kernel) ?_
              refine q_idiv rfl (i_ne (a := (2 : Int)) (b := 0) (by decide +kernel) (by decide +kernel) (by omega)) ?_
              refine q_goto (t := 30) rfl (by decide) ?_
              refine q_iret rfl rfl ?_
              refine bk_inl ?_
              refine q_ic_gt_t (t := 150) rfl (by decide) (i_lt_r (a := (x2).toInt) (b := ((x1 / (2 : Int32))).toInt) rfl rfl (by omega)) ?_
              refine q_iincv (v := (1 : Int32)) rfl rfl (by decide) (by decide +kernel) ?_
              refine q_goto (t := 59) rfl (by decide) ?_
              refine q_iload rfl rfl ?_
              refine q_iconstv (v := (4 : Int32)) rfl (by decide +kernel) ?_
              refine q_ic_ge_f (t := 156) rfl (by decide) (i_nle_r (a := (1 : Int)) (b := (4 : Int)) (by decide +kernel) (by decide +kernel) (by omega)) ?_
              refine q_iload rfl rfl ?_
              refine q_iconstv (v := (2 : Int32)) rfl (by decide +kernel) ?_
              refine q_idivv (v := (0 : Int32)) rfl (by decide) (by decide +kernel) ?_
              refine q_istore rfl (by decide) ?_
              refine q_iload rfl rfl ?_
              refine q_iconstv (v := (2 : Int32)) rfl (by decide +kernel) ?_
              refine q_iremv (v := (1 : Int32)) rfl (by decide) (by decide +kernel) ?_
              refine q_istore rfl (by decide) ?_
              refine q_iconstv (v := (1 : Int32)) rfl (by decide +kernel) ?_
              refine q_iload rfl rfl ?_
              refine q_isubv (v := (1 : Int32)) rfl (by decide +kernel) ?_
              refine q_iload rfl rfl ?_
              refine q_iload_n rfl rfl ?_
              refine q_iload_n rfl rfl ?_
              refine q_call rfl rfl rfl rfl ?_
              refine q_iload_n rfl rfl ?_
              refine q_if_ne_t (t := 18) rfl (by decide) (i_ne (a := (1 : Int)) (b := (0 : Int)) (by decide +kernel) (by decide +kernel) (by omega)) ?_
              refine q_iload_n rfl rfl ?_
              refine q_iconstv (v := (1 : Int32)) rfl (by decide +kernel) ?_
              refine q_ic_ne_f (t := 29) rfl (by decide) (i_nne (a := (1 : Int)) (b := (1 : Int)) (by decide +kernel) (by decide +kernel) (by omega)) ?_
              refine q_iload_n rfl rfl ?_
              refine q_iconstv (v := (2 : Int32)) rfl (by decide +kernel) ?_
              refine q_idiv rfl (i_ne (a := (2 : Int)) (b := 0) (by decide +kernel) (by decide +kernel) (by omega)) ?_
              refine q_goto (t := 30) rfl (by decide) ?_
              refine q_iret rfl rfl ?_
              refine bk_inl ?_
              refine q_iload rfl rfl ?_
              refine q_iload rfl rfl ?_
              refine q_iload_n rfl rfl ?_
              refine q_iload_n rfl rfl ?_
              refine q_call rfl rfl rfl rfl ?_
              refine q_iload_n rfl rfl ?_
              refine q_if_ne_f (t := 18) rfl (by decide) (i_nne (a := (0 : Int)) (b := (0 : Int)) (by decide +kernel) (by decide +kernel) (by omega)) ?_
              refine q_iload_n rfl rfl ?_
              refine q_if_ne_t (t := 14) rfl (by decide) (i_ne (a := (1 : Int)) (b := (0 : Int)) (by decide +kernel) (by decide +kernel) (by omega)) ?_
              refine q_iload_n rfl rfl ?_
              refine q_goto (t := 30) rfl (by decide) ?_
              refine q_iret rfl rfl ?_
              refine bk_inl ?_
              refine q_ic_gt_t (t := 150) rfl (by decide) (i_lt_r (a := ((x2 / (2 : Int32))).toInt) (b := (x1).toInt) rfl rfl (by omega)) ?_
              refine q_iincv (v := (2 : Int32)) rfl rfl (by decide) (by decide +kernel) ?_
              refine q_goto (t := 59) rfl (by decide) ?_
              refine q_iload rfl rfl ?_
              refine q_iconstv (v := (4 : Int32)) rfl (by decide +kernel) ?_
              refine q_ic_ge_f (t := 156) rfl (by decide) (i_nle_r (a := (2 : Int)) (b := (4 : Int)) (by decide +kernel) (by decide +kernel) (by omega)) ?_
              refine q_iload rfl rfl ?_
              refine q_iconstv (v := (2 : Int32)) rfl (by decide +kernel) ?_
              refine q_idivv (v := (1 : Int32)) rfl (by decide) (by decide +kernel) ?_
              refine q_istore rfl (by decide) ?_
              refine q_iload rfl rfl ?_
              refine q_iconstv (v := (2 : Int32)) rfl (by decide +kernel) ?_
              refine q_iremv (v := (0 : Int32)) rfl (by decide) (by decide +kernel) ?_
              refine q_istore rfl (by decide) ?_
              refine q_iconstv (v := (1 : Int32)) rfl (by decide +kernel) ?_
              refine q_iload rfl rfl ?_
              refine q_isubv (v := (0 : Int32)) rfl (by decide +kernel) ?_
              refine q_iload rfl rfl ?_
              refine q_iload_n rfl rfl ?_
              refine q_iload_n rfl rfl ?_
              refine q_call rfl rfl rfl rfl ?_
              refine q_iload_n rfl rfl ?_
              refine q_if_ne_f (t := 18) rfl (by decide) (i_nne (a := (0 : Int)) (b := (0 : Int)) (by decide +kernel) (by decide +kernel) (by omega)) ?_
              refine q_iload_n rfl rfl ?_
              refine q_if_ne_f (t := 14) rfl (by decide) (i_nne (a := (0 : Int)) (b := (0 : Int)) (by decide +kernel) (by decide +kernel) (by omega)) ?_
              refine q_iload_n rfl rfl ?_
              refine q_iconstv (v := (2 : Int32)) rfl (by decide +kernel) ?_
              refine q_idiv rfl (i_ne (a := (2 : Int)) (b := 0) (by decide +kernel) (by decide +kernel) (by omega)) ?_
              refine q_goto (t := 30) rfl (by decide) ?_
              refine q_iret rfl rfl ?_
              refine bk_inl ?_
              refine q_iload rfl rfl ?_
              refine q_iload rfl rfl ?_
              refine q_iload_n rfl rfl ?_
              refine q_iload_n rfl rfl ?_
              refine q_call rfl rfl rfl rfl ?_
              refine q_iload_n rfl rfl ?_
              refine q_if_ne_t (t := 18) rfl (by decide) (i_ne (a := (1 : Int)) (b := (0 : Int)) (by decide +kernel) (by decide +kernel) (by omega)) ?_
              refine q_iload_n rfl rfl ?_
              refine q_iconstv (v := (1 : Int32)) rfl (by decide +kernel) ?_
              refine q_ic_ne_t (t := 29) rfl (by decide) (i_ne (a := (0 : Int)) (b := (1 : Int)) (by decide +kernel) (by decide +kernel) (by omega)) ?_
              refine q_iload_n rfl rfl ?_
              refine q_iret rfl rfl ?_
              refine bk_inl ?_
              refine q_ic_gt_f (t := 150) rfl (by decide) (i_nlt_r (a := ((x1 / (2 : Int32))).toInt) (b := (x2).toInt) rfl rfl (by omega)) ?_
              refine q_iconstv (v := (1 : Int32)) rfl (by decide +kernel) ?_
              refine q_iload rfl rfl ?_
              refine q_isubv (v := (1 : Int32)) rfl (by decide +kernel) ?_
              refine q_iload rfl rfl ?_
              refine q_iload_n rfl rfl ?_
              refine q_iload_n rfl rfl ?_
              refine q_call rfl rfl rfl rfl ?_
              refine q_iload_n rfl rfl ?_
              refine q_if_ne_t (t := 18) rfl (by decide) (i_ne (a := (1 : Int)) (b := (0 : Int)) (by decide +kernel) (by decide +kernel) (by omega)) ?_
              refine q_iload_n rfl rfl ?_
              refine q_iconstv (v := (1 : Int32)) rfl (by decide +kernel) ?_
              refine q_ic_ne_f (t := 29) rfl (by decide) (i_nne (a := (1 : Int)) (b := (1 : Int)) (by decide +kernel) (by decide +kernel) (by omega)) ?_
              refine q_iload_n rfl rfl ?_
              refine q_iconstv (v := (2 : Int32)) rfl (by decide +kernel) ?_
              refine q_idiv rfl (i_ne (a := (2 : Int)) (b := 0) (by decide +kernel) (by decide +kernel) (by omega)) ?_
              refine q_goto (t := 30) rfl (by decide) ?_
              refine q_iret rfl rfl ?_
              refine bk_inl ?_
              refine q_iload rfl rfl ?_
              refine q_iload rfl rfl ?_
              refine q_iload_n rfl rfl ?_
              refine q_iload_n rfl rfl ?_
              refine q_call rfl rfl rfl rfl ?_
              refine q_iload_n rfl rfl ?_
              refine q_if_ne_f (t := 18) rfl (by decide) (i_nne (a := (0 : Int)) (b := (0 : Int)) (by decide +kernel) (by decide +kernel) (by omega)) ?_
              refine q_iload_n rfl rfl ?_
              refine q_if_ne_t (t := 14) rfl (by decide) (i_ne (a := (1 : Int)) (b := (0 : Int)) (by decide +kernel) (by decide +kernel) (by omega)) ?_
              refine q_iload_n rfl rfl ?_
              refine q_goto (t := 30) rfl (by decide) ?_
              refine q_iret rfl rfl ?_
              refine bk_inl ?_
              refine q_ic_le_f (t := 126) rfl (by decide) (i_nle (a := ((x2 / (2 : Int32))).toInt) (b := (x1).toInt) rfl rfl (by omega)) ?_
              refine q_goto (t := 150) rfl (by decide) ?_
              refine q_iincv (v := (3 : Int32)) rfl rfl (by decide) (by decide +kernel) ?_
              refine q_goto (t := 59) rfl (by decide) ?_
              refine q_iload rfl rfl ?_
              refine q_iconstv (v := (4 : Int32)) rfl (by decide +kernel) ?_
              refine q_ic_ge_f (t := 156) rfl (by decide) (i_nle_r (a := (3 : Int)) (b := (4 : Int)) (by decide +kernel) (by decide +kernel) (by omega)) ?_
              refine q_iload rfl rfl ?_
              refine q_iconstv (v := (2 : Int32)) rfl (by decide +kernel) ?_
              refine q_idivv (v := (1 : Int32)) rfl (by decide) (by decide +kernel) ?_
              refine q_istore rfl (by decide) ?_
              refine q_iload rfl rfl ?_
              refine q_iconstv (v := (2 : Int32)) rfl (by decide +kernel) ?_
              refine q_iremv (v := (1 : Int32)) rfl (by decide) (by decide +kernel) ?_
              refine q_istore rfl (by decide) ?_
              refine q_iconstv (v := (1 : Int32)) rfl (by decide +kernel) ?_
              refine q_iload rfl rfl ?_
              refine q_isubv (v := (0 : Int32)) rfl (by decide +kernel) ?_
              refine q_iload rfl rfl ?_
              refine q_iload_n rfl rfl ?_
              refine q_iload_n rfl rfl ?_
              refine q_call rfl rfl rfl rfl ?_
              refine q_iload_n rfl rfl ?_
              refine q_if_ne_f (t := 18) rfl (by decide) (i_nne (a := (0 : Int)) (b := (0 : Int)) (by decide +kernel) (by decide +kernel) (by omega)) ?_
              refine q_iload_n rfl rfl ?_
              refine q_if_ne_t (t := 14) rfl (by decide) (i_ne (a := (1 : Int)) (b := (0 : Int)) (by decide +kernel) (by decide +kernel) (by omega)) ?_
              refine q_iload_n rfl rfl ?_
              refine q_goto (t := 30) rfl (by decide) ?_
              refine q_iret rfl rfl ?_
              refine bk_inl ?_
              refine q_iload rfl rfl ?_
              refine q_iload rfl rfl ?_
              refine q_iload_n rfl rfl ?_
              refine q_iload_n rfl rfl ?_
              refine q_call rfl rfl rfl rfl ?_
              refine q_iload_n rfl rfl ?_
              refine q_if_ne_t (t := 18) rfl (by decide) (i_ne (a := (1 : Int)) (b := (0 : Int)) (by decide +kernel) (by decide +kernel) (by omega)) ?_
              refine q_iload_n rfl rfl ?_
              refine q_iconstv (v := (1 : Int32)) rfl (by decide +kernel) ?_
              refine q_ic_ne_f (t := 29) rfl (by decide) (i_nne (a := (1 : Int)) (b := (1 : Int)) (by decide +kernel) (by decide +kernel) (by omega)) ?_
              refine q_iload_n rfl rfl ?_
              refine q_iconstv (v := (2 : Int32)) rfl (by decide +kernel) ?_
              refine q_idiv rfl (i_ne (a := (2 : Int)) (b := 0) (by decide +kernel) (by decide +kernel) (by omega)) ?_
              refine q_goto (t := 30) rfl (by decide) ?_
              refine q_iret rfl rfl ?_
              refine bk_inl ?_
              refine q_ic_gt_f (t := 150) rfl (by decide) (i_nlt_r (a := (x1).toInt) (b := ((x2 / (2 : Int32))).toInt) rfl rfl (by omega)) ?_
              refine q_iconstv (v := (1 : Int32)) rfl (by decide +kernel) ?_
              refine q_iload rfl rfl ?_
              refine q_isubv (v := (0 : Int32)) rfl (by decide +kernel) ?_
              refine q_iload rfl rfl ?_
              refine q_iload_n rfl rfl ?_
              refine q_iload_n rfl rfl ?_
              refine q_call rfl rfl rfl rfl ?_
              refine q_iload_n rfl rfl ?_
              refine q_if_ne_f (t := 18) rfl (by decide) (i_nne (a := (0 : Int)) (b := (0 : Int)) (by decide +kernel) (by decide +kernel) (by omega)) ?_
              refine q_iload_n rfl rfl ?_
              refine q_if_ne_t (t := 14) rfl (by decide) (i_ne (a := (1 : Int)) (b := (0 : Int)) (by decide +kernel) (by decide +kernel) (by omega)) ?_
              refine q_iload_n rfl rfl ?_
              refine q_goto (t := 30) rfl (by decide) ?_
              refine q_iret rfl rfl ?_
              refine bk_inl ?_
              refine q_iload rfl rfl ?_
              refine q_iload rfl rfl ?_
              refine q_iload_n rfl rfl ?_
              refine q_iload_n rfl rfl ?_
              refine q_call rfl rfl rfl rfl ?_
              refine q_iload_n rfl rfl ?_
              refine q_if_ne_t (t := 18) rfl (by decide) (i_ne (a := (1 : Int)) (b := (0 : Int)) (by decide +kernel) (by decide +kernel) (by omega)) ?_
              refine q_iload_n rfl rfl ?_
              refine q_iconstv (v := (1 : Int32)) rfl (by decide +kernel) ?_
              refine q_ic_ne_f (t := 29) rfl (by decide) (i_nne (a := (1 : Int)) (b := (1 : Int)) (by decide +kernel) (by decide +kernel) (by omega)) ?_
              refine q_iload_n rfl rfl ?_
              refine q_iconstv (v := (2 : Int32)) rfl (by decide +kernel) ?_
              refine q_idiv rfl (i_ne (a := (2 : Int)) (b := 0) (by decide +kernel) (by decide +kernel) (by omega)) ?_
              refine q_goto (t := 30) rfl (by decide) ?_
              refine q_iret rfl rfl ?_
              refine bk_inl ?_
              refine q_ic_le_t (t := 126) rfl (by decide) (i_le (a := (x1).toInt) (b := ((x2 / (2 : Int32))).toInt) rfl rfl (by omega)) ?_
              refine q_iincv (v := (1 : Int32)) rfl rfl (by decide) (by decide +kernel) ?_
              refine q_iload rfl rfl ?_
              refine q_iconstv (v := (-1 : Int32)) rfl (by decide +kernel) ?_
              refine q_ic_ne_f (t := 146) rfl (by decide) (i_nne (a := (-1 : Int)) (b := (-1 : Int)) (by decide +kernel) (by decide +kernel) (by omega)) ?_
              refine q_bipushv (v := (10 : Int32)) rfl (by decide +kernel) ?_
              refine q_iload rfl rfl ?_
              refine q_imulv (v := (10 : Int32)) rfl (by decide +kernel) ?_
              refine q_iload rfl rfl ?_
              refine q_iaddv (v := (11 : Int32)) rfl (by decide +kernel) ?_
              refine q_goto (t := 148) rfl (by decide) ?_
              refine q_istore rfl (by decide) ?_
              refine q_iincv (v := (4 : Int32)) rfl rfl (by decide) (by decide +kernel) ?_
              refine q_goto (t := 59) rfl (by decide) ?_
              refine q_iload rfl rfl ?_
              refine q_iconstv (v := (4 : Int32)) rfl (by decide +kernel) ?_
              refine q_ic_ge_t (t := 156) rfl (by decide) (i_le_r (a := (4 : Int)) (b := (4 : Int)) (by decide +kernel) (by decide +kernel) (by omega)) ?_
              refine q_iload_n rfl rfl ?_
              refine q_if_ne_t (t := 165) rfl (by decide) (i_ne (a := (1 : Int)) (b := (0 : Int)) (by decide +kernel) (by decide +kernel) (by omega)) ?_
              refine q_iload_n rfl rfl ?_
              refine q_iconstv (v := (1 : Int32)) rfl (by decide +kernel) ?_
              refine q_ic_ne_f (t := 175) rfl (by decide) (i_nne (a := (1 : Int)) (b := (1 : Int)) (by decide +kernel) (by decide +kernel) (by omega)) ?_
              refine q_iload rfl rfl ?_
              refine q_goto (t := 216) rfl (by decide) ?_
              refine q_iret rfl rfl ?_
              refine bk_inl ?_
              refine q_istore rfl (by decide) ?_
              refine q_aload_n rfl rfl ?_
              refine q_call rfl rfl rfl rfl ?_
              refine q_aload_n rfl rfl ?_
              refine q_get rfl rfl rfl rfl ?_
              refine q_iret rfl rfl ?_
              refine bk_inl ?_
              refine q_iload rfl rfl ?_
              refine q_ic_eq_t (t := 1774) rfl (by decide) (i_eq (a := (0 : Int)) (b := (0 : Int)) (by decide +kernel) (by decide +kernel) (by omega)) ?_
              refine q_iload rfl rfl ?_
              refine q_if_ne_f (t := 1791) rfl (by decide) (i_nne (a := (0 : Int)) (b := (0 : Int)) (by decide +kernel) (by decide +kernel) (by omega)) ?_
              refine q_aload_n rfl rfl ?_
              refine q_iconstv (v := (0 : Int32)) rfl (by decide +kernel) ?_
              refine q_laloadv (m := 0) rfl (by decide) rfl (by decide +kernel) rfl ?_
              refine q_iload rfl rfl ?_
              refine q_i2lv (v := (11 : Int64)) rfl (by decide +kernel) ?_
              refine q_lcmpv (v := (0 : Int32)) rfl (by decide +kernel) ?_
              refine q_if_eq_t (t := 1791) rfl (by decide) (i_eq (a := (0 : Int)) (b := (0 : Int)) (by decide +kernel) (by decide +kernel) (by omega)) ?_
              refine q_goto (t := 2739) rfl (by decide) ?_
              refine q_iincv (v := (8 : Int32)) rfl rfl (by decide) (by decide +kernel) ?_
              refine q_goto (t := 23) rfl (by decide) ?_
              exact q_end rfl rfl (by decide) (by decide)
            · refine q_ic_gt_f (t := 147) rfl (by decide) (i_nlt_r (a := ((x2 / (2 : Int32))).toInt) (b := (x1).toInt) rfl rfl (by omega)) ?_
              refine q_iconstv (v := (1 : Int32)) rfl (by decide +kernel) ?_
              refine q_iload rfl rfl ?_
              refine q_isubv (v := (0 : Int32)) rfl (by decide +kernel) ?_
              refine q_iload rfl rfl ?_
              refine q_iload_n rfl rfl ?_
              refine q_iload_n rfl rfl ?_
              refine q_call rfl rfl rfl rfl ?_
              refine q_iload_n rfl rfl ?_
              refine q_if_ne_f (t := 8) rfl (by decide) (i_nne (a := (0 : Int)) (b := (0 : Int)) (by decide +kernel) (by decide +kernel) (by omega)) ?_
              refine q_iload_n rfl rfl ?_
              refine q_goto (t := 9) rfl (by decide) ?_
              refine q_istore rfl (by decide) ?_
              refine q_iload_n rfl rfl ?_
              refine q_iload_n rfl rfl ?_
              refine q_ic_ne_f (t := 23) rfl (by decide) (i_nne (a := (0 : Int)) (b := (0 : Int)) (by decide +kernel) (by decide +kernel) (by omega)) ?_
              refine q_iload rfl rfl ?_
              refine q_iconstv (v := (2 : Int32)) rfl (by decide +kernel) ?_
              refine q_idiv rfl (i_ne (a := (2 : Int)) (b := 0) (by decide +kernel) (by decide +kernel) (by omega)) ?_
              refine q_goto (t := 25) rfl (by decide) ?_
              refine q_iret rfl rfl ?_
              refine bk_inl ?_
              refine q_iload rfl rfl ?_
              refine q_ic_gt_f (t := 147) rfl (by decide) (i_nlt_r (a := ((x1 / (2 : Int32))).toInt) (b := (x2).toInt) rfl rfl (by omega)) ?_
              refine q_iload rfl rfl ?_
              refine q_if_ne_f (t := 144) rfl (by decide) (i_nne (a := (0 : Int)) (b := (0 : Int)) (by decide +kernel) (by decide +kernel) (by omega)) ?_
              refine q_bipushv (v := (10 : Int32)) rfl (by decide +kernel) ?_
              refine q_iload rfl rfl ?_
              refine q_imulv (v := (0 : Int32)) rfl (by decide +kernel) ?_
              refine q_iload rfl rfl ?_
              refine q_iaddv (v := (1 : Int32)) rfl (by decide +kernel) ?_
              refine q_istore rfl (by decide) ?_
              refine q_iload rfl rfl ?_
              refine q_iload rfl rfl ?_
              refine q_iadd rfl ?_
              refine q_istore rfl (by decide) ?_
              refine q_iincv (v := (1 : Int32)) rfl rfl (by decide) (by decide +kernel) ?_
              refine q_iincv (v := (2 : Int32)) rfl rfl (by decide) (by decide +kernel) ?_
              refine q_goto (t := 50) rfl (by decide) ?_
              refine q_iload rfl rfl ?_
              refine q_iconstv (v := (4 : Int32)) rfl (by decide +kernel) ?_
              refine q_ic_ge_f (t := 153) rfl (by decide) (i_nle_r (a := (2 : Int)) (b := (4 : Int)) (by decide +kernel) (by decide +kernel) (by omega)) ?_
              refine q_iload rfl rfl ?_
              refine q_iconstv (v := (2 : Int32)) rfl (by decide +kernel) ?_
              refine q_idivv (v := (1 : Int32)) rfl (by decide) (by decide +kernel) ?_
              refine q_istore rfl (by decide) ?_
              refine q_iload rfl rfl ?_
              refine q_iconstv (v := (2 : Int32)) rfl (by decide +kernel) ?_
              refine q_iremv (v := (0 : Int32)) rfl (by decide) (by decide +kernel) ?_
              refine q_istore rfl (by decide) ?_
              refine q_iload rfl rfl ?_
              refine q_iload rfl rfl ?_
              refine q_iload_n rfl rfl ?_
              refine q_iload_n rfl rfl ?_
              refine q_call rfl rfl rfl rfl ?_
              refine q_iload_n rfl rfl ?_
              refine q_if_ne_t (t := 8) rfl (by decide) (i_ne (a := (1 : Int)) (b := (0 : Int)) (by decide +kernel) (by decide +kernel) (by omega)) ?_
              refine q_iload_n rfl rfl ?_
              refine q_istore rfl (by decide) ?_
              refine q_iload_n rfl rfl ?_
              refine q_iload_n rfl rfl ?_
              refine q_ic_ne_t (t := 23) rfl (by decide) (i_ne (a := (1 : Int)) (b := (0 : Int)) (by decide +kernel) (by decide +kernel) (by omega)) ?_
              refine q_iload rfl rfl ?_
              refine q_iret rfl rfl ?_
              refine bk_inl ?_
              refine q_istore rfl (by decide) ?_
              refine q_iload rfl rfl ?_
              refine q_iload rfl rfl ?_
              refine q_iload_n rfl rfl ?_
              refine q_iload_n rfl rfl ?_
              refine q_call rfl rfl rfl rfl ?_
              refine q_iload_n rfl rfl ?_
              refine q_if_ne_f (t := 8) rfl (by decide) (i_nne (a := (0 : Int)) (b := (0 : Int)) (by decide +kernel) (by decide +kernel) (by omega)) ?_
              refine q_iload_n rfl rfl ?_
              refine q_goto (t := 9) rfl (by decide) ?_
              refine q_istore rfl (by decide) ?_
              refine q_iload_n rfl rfl ?_
              refine q_iload_n rfl rfl ?_
              refine q_ic_ne_t (t := 23) rfl (by decide) (i_ne (a := (0 : Int)) (b := (1 : Int)) (by decide +kernel) (by decide +kernel) (by omega)) ?_
              refine q_iload rfl rfl ?_
              refine q_iret rfl rfl ?_
              refine bk_inl ?_
              refine q_istore rfl (by decide) ?_
              refine q_iconstv (v := (1 : Int32)) rfl (by decide +kernel) ?_
              refine q_iload rfl rfl ?_
              refine q_isubv (v := (0 : Int32)) rfl (by decide +kernel) ?_
              refine q_iload rfl rfl ?_
              refine q_iload_n rfl rfl ?_
              refine q_iload_n rfl rfl ?_
              refine q_call rfl rfl rfl rfl ?_
              refine q_iload_n rfl rfl ?_
              refine q_if_ne_f (t := 8) rfl (by decide) (i_nne (a := (0 : Int)) (b := (0 : Int)) (by decide +kernel) (by decide +kernel) (by omega)) ?_
              refine q_iload_n rfl rfl ?_
              refine q_goto (t := 9) rfl (by decide) ?_
              refine q_istore rfl (by decide) ?_
              refine q_iload_n rfl rfl ?_
              refine q_iload_n rfl rfl ?_
              refine q_ic_ne_f (t := 23) rfl (by decide) (i_nne (a := (0 : Int)) (b := (0 : Int)) (by decide +kernel) (by decide +kernel) (by omega)) ?_
              refine q_iload rfl rfl ?_
              refine q_iconstv (v := (2 : Int32)) rfl (by decide +kernel) ?_
              refine q_idiv rfl (i_ne (a := (2 : Int)) (b := 0) (by decide +kernel) (by decide +kernel) (by omega)) ?_
              refine q_goto (t := 25) rfl (by decide) ?_
              refine q_iret rfl rfl ?_
              refine bk_inl ?_
              refine q_iload rfl rfl ?_
              refine q_ic_gt_f (t := 147) rfl (by decide) (i_nlt_r (a := ((x1 / (2 : Int32))).toInt) (b := (x2).toInt) rfl rfl (by omega)) ?_
              refine q_iconstv (v := (1 : Int32)) rfl (by decide +kernel) ?_
              refine q_iload rfl rfl ?_
              refine q_isubv (v := (1 : Int32)) rfl (by decide +kernel) ?_
              refine q_iload rfl rfl ?_
              refine q_iload_n rfl rfl ?_
              refine q_iload_n rfl rfl ?_
              refine q_call rfl rfl rfl rfl ?_
              refine q_iload_n rfl rfl ?_
              refine q_if_ne_t (t := 8) rfl (by decide) (i_ne (a := (1 : Int)) (b := (0 : Int)) (by decide +kernel) (by decide +kernel) (by omega)) ?_
              refine q_iload_n rfl rfl ?_
              refine q_istore rfl (by decide) ?_
              refine q_iload_n rfl rfl ?_
              refine q_iload_n rfl rfl ?_
              refine q_ic_ne_f (t := 23) rfl (by decide) (i_nne (a := (1 : Int)) (b := (1 : Int)) (by decide +kernel) (by decide +kernel) (by omega)) ?_
              refine q_iload rfl rfl ?_
              refine q_iconstv (v := (2 : Int32)) rfl (by decide +kernel) ?_
              refine q_idiv rfl (i_ne (a := (2 : Int)) (b := 0) (by decide +kernel) (by decide +kernel) (by omega)) ?_
              refine q_goto (t := 25) rfl (by decide) ?_
              refine q_iret rfl rfl ?_
              refine bk_inl ?_
              refine q_iload rfl rfl ?_
              refine q_ic_gt_f (t := 147) rfl (by decide) (i_nlt_r (a := ((x2 / (2 : Int32))).toInt) (b := (x1).toInt) rfl rfl (by omega)) ?_
              refine q_iload rfl rfl ?_
              refine q_if_ne_t (t := 144) rfl (by decide) (i_ne (a := (1 : Int)) (b := (0 : Int)) (by decide +kernel) (by decide +kernel) (by omega)) ?_
              refine q_iincv (v := (2 : Int32)) rfl rfl (by decide) (by decide +kernel) ?_
              refine q_iincv (v := (3 : Int32)) rfl rfl (by decide) (by decide +kernel) ?_
              refine q_goto (t := 50) rfl (by decide) ?_
              refine q_iload rfl rfl ?_
              refine q_iconstv (v := (4 : Int32)) rfl (by decide +kernel) ?_
              refine q_ic_ge_f (t := 153) rfl (by decide) (i_nle_r (a := (3 : Int)) (b := (4 : Int)) (by decide +kernel) (by decide +kernel) (by omega)) ?_
              refine q_iload rfl rfl ?_
              refine q_iconstv (v := (2 : Int32)) rfl (by decide +kernel) ?_
              refine q_idivv (v := (1 : Int32)) rfl (by decide) (by decide +kernel) ?_
              refine q_istore rfl (by decide) ?_
              refine q_iload rfl rfl ?_
              refine q_iconstv (v := (2 : Int32)) rfl (by decide +kernel) ?_
              refine q_iremv (v := (1 : Int32)) rfl (by decide) (by decide +kernel) ?_
              refine q_istore rfl (by decide) ?_
              refine q_iload rfl rfl ?_
              refine q_iload rfl rfl ?_
              refine q_iload_n rfl rfl ?_
              refine q_iload_n rfl rfl ?_
              refine q_call rfl rfl rfl rfl ?_
              refine q_iload_n rfl rfl ?_
              refine q_if_ne_t (t := 8) rfl (by decide) (i_ne (a := (1 : Int)) (b := (0 : Int)) (by decide +kernel) (by decide +kernel) (by omega)) ?_
              refine q_iload_n rfl rfl ?_
              refine q_istore rfl (by decide) ?_
              refine q_iload_n rfl rfl ?_
              refine q_iload_n rfl rfl ?_
              refine q_ic_ne_f (t := 23) rfl (by decide) (i_nne (a := (1 : Int)) (b := (1 : Int)) (by decide +kernel) (by decide +kernel) (by omega)) ?_
              refine q_iload rfl rfl ?_
              refine q_iconstv (v := (2 : Int32)) rfl (by decide +kernel) ?_
              refine q_idiv rfl (i_ne (a := (2 : Int)) (b := 0) (by decide +kernel) (by decide +kernel) (by omega)) ?_
              refine q_goto (t := 25) rfl (by decide) ?_
              refine q_iret rfl rfl ?_
              refine bk_inl ?_
              refine q_istore rfl (by decide) ?_
              refine q_iload rfl rfl ?_
              refine q_iload rfl rfl ?_
              refine q_iload_n rfl rfl ?_
              refine q_iload_n rfl rfl ?_
              refine q_call rfl rfl rfl rfl ?_
              refine q_iload_n rfl rfl ?_
              refine q_if_ne_t (t := 8) rfl (by decide) (i_ne (a := (1 : Int)) (b := (0 : Int)) (by decide +kernel) (by decide +kernel) (by omega)) ?_
              refine q_iload_n rfl rfl ?_
              refine q_istore rfl (by decide) ?_
              refine q_iload_n rfl rfl ?_
              refine q_iload_n rfl rfl ?_
              refine q_ic_ne_f (t := 23) rfl (by decide) (i_nne (a := (1 : Int)) (b := (1 : Int)) (by decide +kernel) (by decide +kernel) (by omega)) ?_
              refine q_iload rfl rfl ?_
              refine q_iconstv (v := (2 : Int32)) rfl (by decide +kernel) ?_
              refine q_idiv rfl (i_ne (a := (2 : Int)) (b := 0) (by decide +kernel) (by decide +kernel) (by omega)) ?_
              refine q_goto (t := 25) rfl (by decide) ?_
              refine q_iret rfl rfl ?_
              refine bk_inl ?_
              refine q_istore rfl (by decide) ?_
              refine q_iconstv (v := (1 : Int32)) rfl (by decide +kernel) ?_
              refine q_iload rfl rfl ?_
              refine q_isubv (v := (0 : Int32)) rfl (by decide +kernel) ?_
              refine q_iload rfl rfl ?_
              refine q_iload_n rfl rfl ?_
              refine q_iload_n rfl rfl ?_
              refine q_call rfl rfl rfl rfl ?_
              refine q_iload_n rfl rfl ?_
              refine q_if_ne_f (t := 8) rfl (by decide) (i_nne (a := (0 : Int)) (b := (0 : Int)) (by decide +kernel) (by decide +kernel) (by omega)) ?_
              refine q_iload_n rfl rfl ?_
              refine q_goto (t := 9) rfl (by decide) ?_
              refine q_istore rfl (by decide) ?_
              refine q_iload_n rfl rfl ?_
              refine q_iload_n rfl rfl ?_
              refine q_ic_ne_t (t := 23) rfl (by decide) (i_ne (a := (0 : Int)) (b := (1 : Int)) (by decide +kernel) (by decide +kernel) (by omega)) ?_
              refine q_iload rfl rfl ?_
              refine q_iret rfl rfl ?_
              refine bk_inl ?_
              refine q_iload rfl rfl ?_
              by_cases h7 : (x1).toInt > ((x2 / (2 : Int32))).toInt
              · refine q_ic_gt_t (t := 147) rfl (by decide) (i_lt_r (a := (x1).toInt) (b := ((x2 / (2 : Int32))).toInt) rfl rfl (by omega)) ?_
                refine q_iincv (v := (4 : Int32)) rfl rfl (by decide) (by decide +kernel) ?_
                refine q_goto (t := 50) rfl (by decide) ?_
                refine q_iload rfl rfl ?_
                refine q_iconstv (v := (4 : Int32)) rfl (by decide +kernel) ?_
                refine q_ic_ge_t (t := 153) rfl (by decide) (i_le_r (a := (4 : Int)) (b := (4 : Int)) (by decide +kernel) (by decide +kernel) (by omega)) ?_
                refine q_iload_n rfl rfl ?_
                refine q_lsw (t := 183) (off := 29) rfl (by decide) (by decide +kernel) (by decide) ?_
                refine q_iload rfl rfl ?_
                refine q_iret rfl rfl ?_
                refine bk_inl ?_
                refine q_i2lv (v := (1 : Int64)) rfl (by decide +kernel) ?_
                refine q_lastorev (m := 0) (w9 := (w1.set 67 (.inl (2, .inr ([1]))))) rfl (by decide) rfl (by decide +kernel) (by decide) rfl ?_
                refine q_goto (t := 19) rfl (by decide) ?_
                refine q_iconstv (v := (0 : Int32)) rfl (by decide +kernel) ?_
                refine q_iret rfl rfl ?_
                refine bk_inl ?_
                refine q_istore rfl (by decide) ?_
                refine q_aload_n rfl rfl ?_
                refine q_aload_n rfl rfl ?_
                refine q_iload rfl rfl ?_
                refine q_iconstv (v := (1 : Int32)) rfl (by decide +kernel) ?_
                refine q_iaddv (v := (1 : Int32)) rfl (by decide +kernel) ?_
                refine q_script rfl (by decide) rfl ?_
                refine q_aload_n rfl rfl ?_
                refine q_iload rfl rfl ?_
                refine q_iconstv (v := (2 : Int32)) rfl (by decide +kernel) ?_
                refine q_iaddv (v := (2 : Int32)) rfl (by decide +kernel) ?_
                refine q_script rfl (by decide) rfl ?_
                refine q_aload_n rfl rfl ?_
                refine q_iload rfl rfl ?_
                refine q_iconstv (v := (3 : Int32)) rfl (by decide +kernel) ?_
                refine q_iaddv (v := (3 : Int32)) rfl (by decide +kernel) ?_
                refine q_script rfl (by decide) rfl ?_
                refine q_call rfl rfl rfl rfl ?_
                refine q_aload_n rfl rfl ?_
                refine q_iconstv (v := (0 : Int32)) rfl (by decide +kernel) ?_
                refine q_putv (w9 := (w1.set 67 (.inl (2, .inr ([1]))))) rfl rfl rfl (by decide) rfl (by decide) rfl ?_
                refine q_aload_n rfl rfl ?_
                refine q_iload_n rfl rfl ?_
                refine q_iconstv (v := (0 : Int32)) rfl (by decide +kernel) ?_
                refine q_bipushv (v := (99 : Int32)) rfl (by decide +kernel) ?_
                refine q_call rfl rfl rfl rfl ?_
                refine q_iload_n rfl rfl ?_
                refine q_iload_n rfl rfl ?_
                refine q_ic_lt_f (t := 14) rfl (by decide) (i_nlt (a := (x1).toInt) (b := (0 : Int)) rfl (by decide +kernel) (by omega)) ?_
                refine q_iload_n rfl rfl ?_
                refine q_iload_n rfl rfl ?_
                refine q_ic_gt_f (t := 14) rfl (by decide) (i_nlt_r (a := (x1).toInt) (b := (99 : Int)) rfl (by decide +kernel) (by omega)) ?_
                refine q_iconstv (v := (1 : Int32)) rfl (by decide +kernel) ?_
                refine q_goto (t := 15) rfl (by decide) ?_
                refine q_zret rfl rfl (by decide) ?_
                refine bk_inl ?_
                refine q_if_eq_f (t := 39) rfl (by decide) (i_ne (a := (1 : Int)) (b := (0 : Int)) (by decide +kernel) (by decide +kernel) (by omega)) ?_
                refine q_iload_n rfl rfl ?_
                refine q_iconstv (v := (0 : Int32)) rfl (by decide +kernel) ?_
                refine q_bipushv (v := (99 : Int32)) rfl (by decide +kernel) ?_
                refine q_call rfl rfl rfl rfl ?_
                refine q_iload_n rfl rfl ?_
                refine q_iload_n rfl rfl ?_
                refine q_ic_lt_f (t := 14) rfl (by decide) (i_nlt (a := (x2).toInt) (b := (0 : Int)) rfl (by decide +kernel) (by omega)) ?_
                refine q_iload_n rfl rfl ?_
                refine q_iload_n rfl rfl ?_
                refine q_ic_gt_f (t := 14) rfl (by decide) (i_nlt_r (a := (x2).toInt) (b := (99 : Int)) rfl (by decide +kernel) (by omega)) ?_
                refine q_iconstv (v := (1 : Int32)) rfl (by decide +kernel) ?_
                refine q_goto (t := 15) rfl (by decide) ?_
                refine q_zret rfl rfl (by decide) ?_
                refine bk_inl ?_
                refine q_if_eq_f (t := 39) rfl (by decide) (i_ne (a := (1 : Int)) (b := (0 : Int)) (by decide +kernel) (by decide +kernel) (by omega)) ?_
                refine q_iload_n rfl rfl ?_
                refine q_iconstv (v := (0 : Int32)) rfl (by decide +kernel) ?_
                refine q_iconstv (v := (2 : Int32)) rfl (by decide +kernel) ?_
                refine q_call rfl rfl rfl rfl ?_
                refine q_iload_n rfl rfl ?_
                refine q_iload_n rfl rfl ?_
                refine q_ic_lt_f (t := 14) rfl (by decide) (i_nlt (a := (1 : Int)) (b := (0 : Int)) (by decide +kernel) (by decide +kernel) (by omega)) ?_
                refine q_iload_n rfl rfl ?_
                refine q_iload_n rfl rfl ?_
                refine q_ic_gt_f (t := 14) rfl (by decide) (i_nlt_r (a := (1 : Int)) (b := (2 : Int)) (by decide +kernel) (by decide +kernel) (by omega)) ?_
                refine q_iconstv (v := (1 : Int32)) rfl (by decide +kernel) ?_
                refine q_goto (t := 15) rfl (by decide) ?_
                refine q_zret rfl rfl (by decide) ?_
                refine bk_inl ?_
                refine q_if_eq_f (t := 39) rfl (by decide) (i_ne (a := (1 : Int)) (b := (0 : Int)) (by decide +kernel) (by decide +kernel) (by omega)) ?_
                refine q_iconstv (v := (1 : Int32)) rfl (by decide +kernel) ?_
                refine q_goto (t := 40) rfl (by decide) ?_
                refine q_iconstv (v := (1 : Int32)) rfl (by decide +kernel) ?_
                refine q_iconstv (v := (1 : Int32)) rfl (by decide +kernel) ?_
                refine q_call rfl rfl rfl rfl ?_
                refine q_iload_n rfl rfl ?_
                refine q_if_ne_t (t := 26) rfl (by decide) (i_ne (a := (1 : Int)) (b := (0 : Int)) (by decide +kernel) (by decide +kernel) (by omega)) ?_
                refine q_aload_n rfl rfl ?_
                refine q_get rfl rfl rfl rfl ?_
                refine q_if_ne_f (t := 37) rfl (by decide) (i_nne (a := (0 : Int)) (b := (0 : Int)) (by decide +kernel) (by decide +kernel) (by omega)) ?_
                refine q_iconstv (v := (1 : Int32)) rfl (by decide +kernel) ?_
                refine q_goto (t := 38) rfl (by decide) ?_
                refine q_zret rfl rfl (by decide) ?_
                refine bk_inl ?_
                refine q_if_ne_t (t := 50) rfl (by decide) (i_ne (a := (1 : Int)) (b := (0 : Int)) (by decide +kernel) (by decide +kernel) (by omega)) ?_
                refine q_iconstv (v := (0 : Int32)) rfl (by decide +kernel) ?_
                refine q_istore rfl (by decide) ?_
                refine q_iconstv (v := (-1 : Int32)) rfl (by decide +kernel) ?_
                refine q_istore rfl (by decide) ?_
                refine q_iconstv (v := (0 : Int32)) rfl (by decide +kernel) ?_
                refine q_istore rfl (by decide) ?_
                refine q_iload rfl rfl ?_
                refine q_iconstv (v := (4 : Int32)) rfl (by decide +kernel) ?_
                refine q_ic_ge_f (t := 156) rfl (by decide) (i_nle_r (a := (0 : Int)) (b := (4 : Int)) (by decide +kernel) (by decide +kernel) (by omega)) ?_
                refine q_iload rfl rfl ?_
                refine q_iconstv (v := (2 : Int32)) rfl (by decide +kernel) ?_
                refine q_idivv (v := (0 : Int32)) rfl (by decide) (by decide +kernel) ?_
                refine q_istore rfl (by decide) ?_
                refine q_iload rfl rfl ?_
                refine q_iconstv (v := (2 : Int32)) rfl (by decide +kernel) ?_
                refine q_iremv (v := (0 : Int32)) rfl (by decide) (by decide +kernel) ?_
                refine q_istore rfl (by decide) ?_
                refine q_iconstv (v := (1 : Int32)) rfl (by decide +kernel) ?_
                refine q_iload rfl rfl ?_
                refine q_isubv (v := (1 : Int32)) rfl (by decide +kernel) ?_
                refine q_iload rfl rfl ?_
                refine q_iload_n rfl rfl ?_
                refine q_iload_n rfl rfl ?_
                refine q_call rfl rfl rfl rfl ?_
                refine q_iload_n rfl rfl ?_
                refine q_if_ne_t (t := 18) rfl (by decide) (i_ne (a := (1 : Int)) (b := (0 : Int)) (by decide +kernel) (by decide +kernel) (by omega)) ?_
                refine q_iload_n rfl rfl ?_
                refine q_iconstv (v := (1 : Int32)) rfl (by decide +kernel) ?_
                refine q_ic_ne_t (t := 29) rfl (by decide) (i_ne (a := (0 : Int)) (b := (1 : Int)) (by decide +kernel) (by decide +kernel) (by omega)) ?_
                refine q_iload_n rfl rfl ?_
                refine q_iret rfl rfl ?_
                refine bk_inl ?_
                refine q_iload rfl rfl ?_
                refine q_iload rfl rfl ?_
                refine q_iload_n rfl rfl ?_
                refine q_iload_n rfl rfl ?_
                refine q_call rfl rfl rfl rfl ?_
                refine q_iload_n rfl rfl ?_
                refine q_if_ne_f (t := 18) rfl (by decide) (i_nne (a := (0 : Int)) (b := (0 : Int)) (by decide +kernel) (by decide +kernel) (by omega)) ?_
                refine q_iload_n rfl rfl ?_
                refine q_if_ne_f (t := 14) rfl (by decide) (i_nne (a := (0 : Int)) (b := (0 : Int)) (by decide +kernel) (by decide +kernel) (by omega)) ?_
                refine q_iload_n rfl rfl ?_
                refine q_iconstv (v := (2 : Int32)) rfl (by decide +kernel) ?_
                refine q_idiv rfl (i_ne (a := (2 : Int)) (b := 0) (by decide +kernel) (by decide +kernel) (by omega)) ?_
                refine q_goto (t := 30) rfl (by decide) ?_
                refine q_iret rfl rfl ?_
                refine bk_inl ?_
                refine q_ic_gt_t (t := 150) rfl (by decide) (i_lt_r (a := (x2).toInt) (b := ((x1 / (2 : Int32))).toInt) rfl rfl (by omega)) ?_
                refine q_iincv (v := (1 : Int32)) rfl rfl (by decide) (by decide +kernel) ?_
                refine q_goto (t := 59) rfl (by decide) ?_
                refine q_iload rfl rfl ?_
                refine q_iconstv (v := (4 : Int32)) rfl (by decide +kernel) ?_
                refine q_ic_ge_f (t := 156) rfl (by decide) (i_nle_r (a := (1 : Int)) (b := (4 : Int)) (by decide +kernel) (by decide +kernel) (by omega)) ?_
                refine q_iload rfl rfl ?_
                refine q_iconstv (v := (2 : Int32)) rfl (by decide +kernel) ?_
                refine q_idivv (v := (0 : Int32)) rfl (by decide) (by decide +kernel) ?_
                refine q_istore rfl (by decide) ?_
                refine q_iload rfl rfl ?_
                refine q_iconstv (v := (2 : Int32)) rfl (by decide +kernel) ?_
                refine q_iremv (v := (1 : Int32)) rfl (by decide) (by decide +kernel) ?_
                refine q_istore rfl (by decide) ?_
                refine q_iconstv (v := (1 : Int32)) rfl (by decide +kernel) ?_
                refine q_iload rfl rfl ?_
                refine q_isubv (v := (1 : Int32)) rfl (by decide +kernel) ?_
                refine q_iload rfl rfl ?_
                refine q_iload_n rfl rfl ?_
                refine q_iload_n rfl rfl ?_
                refine q_call rfl rfl rfl rfl ?_
                refine q_iload_n rfl rfl ?_
                refine q_if_ne_t (t := 18) rfl (by decide) (i_ne (a := (1 : Int)) (b := (0 : Int)) (by decide +kernel) (by decide +kernel) (by omega)) ?_
                refine q_iload_n rfl rfl ?_
                refine q_iconstv (v := (1 : Int32)) rfl (by decide +kernel) ?_
                refine q_ic_ne_f (t := 29) rfl (by decide) (i_nne (a := (1 : Int)) (b := (1 : Int)) (by decide +kernel) (by decide +kernel) (by omega)) ?_
                refine q_iload_n rfl rfl ?_
                refine q_iconstv (v := (2 : Int32)) rfl (by decide +kernel) ?_
                refine q_idiv rfl (i_ne (a := (2 : Int)) (b := 0) (by decide +kernel) (by decide +kernel) (by omega)) ?_
                refine q_goto (t := 30) rfl (by decide) ?_
                refine q_iret rfl rfl ?_
                refine bk_inl ?_
                refine q_iload rfl rfl ?_
                refine q_iload rfl rfl ?_
                refine q_iload_n rfl rfl ?_
                refine q_iload_n rfl rfl ?_
                refine q_call rfl rfl rfl rfl ?_
                refine q_iload_n rfl rfl ?_
                refine q_if_ne_f (t := 18) rfl (by decide) (i_nne (a := (0 : Int)) (b := (0 : Int)) (by decide +kernel) (by decide +kernel) (by omega)) ?_
                refine q_iload_n rfl rfl ?_
                refine q_if_ne_t (t := 14) rfl (by decide) (i_ne (a := (1 : Int)) (b := (0 : Int)) (by decide +kernel) (by decide +kernel) (by omega)) ?_
                refine q_iload_n rfl rfl ?_
                refine q_goto (t := 30) rfl (by decide) ?_
                refine q_iret rfl rfl ?_
                refine bk_inl ?_
                refine q_ic_gt_f (t := 150) rfl (by decide) (i_nlt_r (a := ((x2 / (2 : Int32))).toInt) (b := (x1).toInt) rfl rfl (by omega)) ?_
                refine q_iconstv (v := (1 : Int32)) rfl (by decide +kernel) ?_
                refine q_iload rfl rfl ?_
                refine q_isubv (v := (0 : Int32)) rfl (by decide +kernel) ?_
                refine q_iload rfl rfl ?_
                refine q_iload_n rfl rfl ?_
                refine q_iload_n rfl rfl ?_
                refine q_call rfl rfl rfl rfl ?_
                refine q_iload_n rfl rfl ?_
                refine q_if_ne_f (t := 18) rfl (by decide) (i_nne (a := (0 : Int)) (b := (0 : Int)) (by decide +kernel) (by decide +kernel) (by omega)) ?_
                refine q_iload_n rfl rfl ?_
                refine q_if_ne_f (t := 14) rfl (by decide) (i_nne (a := (0 : Int)) (b := (0 : Int)) (by decide +kernel) (by decide +kernel) (by omega)) ?_
                refine q_iload_n rfl rfl ?_
                refine q_iconstv (v := (2 : Int32)) rfl (by decide +kernel) ?_
                refine q_idiv rfl (i_ne (a := (2 : Int)) (b := 0) (by decide +kernel) (by decide +kernel) (by omega)) ?_
                refine q_goto (t := 30) rfl (by decide) ?_
                refine q_iret rfl rfl ?_
                refine bk_inl ?_
                refine q_iload rfl rfl ?_
                refine q_iload rfl rfl ?_
                refine q_iload_n rfl rfl ?_
                refine q_iload_n rfl rfl ?_
                refine q_call rfl rfl rfl rfl ?_
                refine q_iload_n rfl rfl ?_
                refine q_if_ne_t (t := 18) rfl (by decide) (i_ne (a := (1 : Int)) (b := (0 : Int)) (by decide +kernel) (by decide +kernel) (by omega)) ?_
                refine q_iload_n rfl rfl ?_
                refine q_iconstv (v := (1 : Int32)) rfl (by decide +kernel) ?_
                refine q_ic_ne_t (t := 29) rfl (by decide) (i_ne (a := (0 : Int)) (b := (1 : Int)) (by decide +kernel) (by decide +kernel) (by omega)) ?_
                refine q_iload_n rfl rfl ?_
                refine q_iret rfl rfl ?_
                refine bk_inl ?_
                refine q_ic_le_t (t := 126) rfl (by decide) (i_le (a := ((x1 / (2 : Int32))).toInt) (b := (x2).toInt) rfl rfl (by omega)) ?_
                refine q_iincv (v := (1 : Int32)) rfl rfl (by decide) (by decide +kernel) ?_
                refine q_iload rfl rfl ?_
                refine q_iconstv (v := (-1 : Int32)) rfl (by decide +kernel) ?_
                refine q_ic_ne_f (t := 146) rfl (by decide) (i_nne (a := (-1 : Int)) (b := (-1 : Int)) (by decide +kernel) (by decide +kernel) (by omega)) ?_
                refine q_bipushv (v := (10 : Int32)) rfl (by decide +kernel) ?_
                refine q_iload rfl rfl ?_
                refine q_imulv (v := (0 : Int32)) rfl (by decide +kernel) ?_
                refine q_iload rfl rfl ?_
                refine q_iaddv (v := (1 : Int32)) rfl (by decide +kernel) ?_
                refine q_goto (t := 148) rfl (by decide) ?_
                refine q_istore rfl (by decide) ?_
                refine q_iincv (v := (2 : Int32)) rfl rfl (by decide) (by decide +kernel) ?_
                refine q_goto (t := 59) rfl (by decide) ?_
                refine q_iload rfl rfl ?_
                refine q_iconstv (v := (4 : Int32)) rfl (by decide +kernel) ?_
                refine q_ic_ge_f (t := 156) rfl (by decide) (i_nle_r (a := (2 : Int)) (b := (4 : Int)) (by decide +kernel) (by decide +kernel) (by omega)) ?_
                refine q_iload rfl rfl ?_
                refine q_iconstv (v := (2 : Int32)) rfl (by decide +kernel) ?_
                refine q_idivv (v := (1 : Int32)) rfl (by decide) (by decide +kernel) ?_
                refine q_istore rfl (by decide) ?_
                refine q_iload rfl rfl ?_
                refine q_iconstv (v := (2 : Int32)) rfl (by decide +kernel) ?_
                refine q_iremv (v := (0 : Int32)) rfl (by decide) (by decide +kernel) ?_
                refine q_istore rfl (by decide) ?_
                refine q_iconstv (v := (1 : Int32)) rfl (by decide +kernel) ?_
                refine q_iload rfl rfl ?_
                refine q_isubv (v := (0 : Int32)) rfl (by decide +kernel) ?_
                refine q_iload rfl rfl ?_
                refine q_iload_n rfl rfl ?_
                refine q_iload_n rfl rfl ?_
                refine q_call rfl rfl rfl rfl ?_
                refine q_iload_n rfl rfl ?_
                refine q_if_ne_f (t := 18) rfl (by decide) (i_nne (a := (0 : Int)) (b := (0 : Int)) (by decide +kernel) (by decide +kernel) (by omega)) ?_
                refine q_iload_n rfl rfl ?_
                refine q_if_ne_f (t := 14) rfl (by decide) (i_nne (a := (0 : Int)) (b := (0 : Int)) (by decide +kernel) (by decide +kernel) (by omega)) ?_
                refine q_iload_n rfl rfl ?_
                refine q_iconstv (v := (2 : Int32)) rfl (by decide +kernel) ?_
                refine q_idiv rfl (i_ne (a := (2 : Int)) (b := 0) (by decide +kernel) (by decide +kernel) (by omega)) ?_
                refine q_goto (t := 30) rfl (by decide) ?_
                refine q_iret rfl rfl ?_
                refine bk_inl ?_
                refine q_iload rfl rfl ?_
                refine q_iload rfl rfl ?_
                refine q_iload_n rfl rfl ?_
                refine q_iload_n rfl rfl ?_
                refine q_call rfl rfl rfl rfl ?_
                refine q_iload_n rfl rfl ?_
                refine q_if_ne_t (t := 18) rfl (by decide) (i_ne (a := (1 : Int)) (b := (0 : Int)) (by decide +kernel) (by decide +kernel) (by omega)) ?_
                refine q_iload_n rfl rfl ?_
                refine q_iconstv (v := (1 : Int32)) rfl (by decide +kernel) ?_
                refine q_ic_ne_t (t := 29) rfl (by decide) (i_ne (a := (0 : Int)) (b := (1 : Int)) (by decide +kernel) (by decide +kernel) (by omega)) ?_
                refine q_iload_n rfl rfl ?_
                refine q_iret rfl rfl ?_
                refine bk_inl ?_
                refine q_ic_gt_f (t := 150) rfl (by decide) (i_nlt_r (a := ((x1 / (2 : Int32))).toInt) (b := (x2).toInt) rfl rfl (by omega)) ?_
                refine q_iconstv (v := (1 : Int32)) rfl (by decide +kernel) ?_
                refine q_iload rfl rfl ?_
                refine q_isubv (v := (1 : Int32)) rfl (by decide +kernel) ?_
                refine q_iload rfl rfl ?_
                refine q_iload_n rfl rfl ?_
                refine q_iload_n rfl rfl ?_
                refine q_call rfl rfl rfl rfl ?_
                refine q_iload_n rfl rfl ?_
                refine q_if_ne_t (t := 18) rfl (by decide) (i_ne (a := (1 : Int)) (b := (0 : Int)) (by decide +kernel) (by decide +kernel) (by omega)) ?_
                refine q_iload_n rfl rfl ?_
                refine q_iconstv (v := (1 : Int32)) rfl (by decide +kernel) ?_
                refine q_ic_ne_f (t := 29) rfl (by decide) (i_nne (a := (1 : Int)) (b := (1 : Int)) (by decide +kernel) (by decide +kernel) (by omega)) ?_
                refine q_iload_n rfl rfl ?_
                refine q_iconstv (v := (2 : Int32)) rfl (by decide +kernel) ?_
                refine q_idiv rfl (i_ne (a := (2 : Int)) (b := 0) (by decide +kernel) (by decide +kernel) (by omega)) ?_
                refine q_goto (t := 30) rfl (by decide) ?_
                refine q_iret rfl rfl ?_
                refine bk_inl ?_
                refine q_iload rfl rfl ?_
                refine q_iload rfl rfl ?_
                refine q_iload_n rfl rfl ?_
                refine q_iload_n rfl rfl ?_
                refine q_call rfl rfl rfl rfl ?_
                refine q_iload_n rfl rfl ?_
                refine q_if_ne_f (t := 18) rfl (by decide) (i_nne (a := (0 : Int)) (b := (0 : Int)) (by decide +kernel) (by decide +kernel) (by omega)) ?_
                refine q_iload_n rfl rfl ?_
                refine q_if_ne_t (t := 14) rfl (by decide) (i_ne (a := (1 : Int)) (b := (0 : Int)) (by decide +kernel) (by decide +kernel) (by omega)) ?_
                refine q_iload_n rfl rfl ?_
                refine q_goto (t := 30) rfl (by decide) ?_
                refine q_iret rfl rfl ?_
                refine bk_inl ?_
                refine q_ic_le_t (t := 126) rfl (by decide) (i_le (a := ((x2 / (2 : Int32))).toInt) (b := (x1).toInt) rfl rfl (by omega)) ?_
                refine q_iincv (v := (2 : Int32)) rfl rfl (by decide) (by decide +kernel) ?_
                refine q_iload rfl rfl ?_
                refine q_iconstv (v := (-1 : Int32)) rfl (by decide +kernel) ?_
                refine q_ic_ne_t (t := 146) rfl (by decide) (i_ne (a := (1 : Int)) (b := (-1 : Int)) (by decide +kernel) (by decide +kernel) (by omega)) ?_
                refine q_iload rfl rfl ?_
                refine q_istore rfl (by decide) ?_
                refine q_iincv (v := (3 : Int32)) rfl rfl (by decide) (by decide +kernel) ?_
                refine q_goto (t := 59) rfl (by decide) ?_
                refine q_iload rfl rfl ?_
                refine q_iconstv (v := (4 : Int32)) rfl (by decide +kernel) ?_
                refine q_ic_ge_f (t := 156) rfl (by decide) (i_nle_r (a := (3 : Int)) (b := (4 : Int)) (by decide +kernel) (by decide +kernel) (by omega)) ?_
                refine q_iload rfl rfl ?_
                refine q_iconstv (v := (2 : Int32)) rfl (by decide +kernel) ?_
                refine q_idivv (v := (1 : Int32)) rfl (by decide) (by decide +kernel) ?_
                refine q_istore rfl (by decide) ?_
                refine q_iload rfl rfl ?_
                refine q_iconstv (v := (2 : Int32)) rfl (by decide +kernel) ?_
                refine q_iremv (v := (1 : Int32)) rfl (by decide) (by decide +kernel) ?_
                refine q_istore rfl (by decide) ?_
                refine q_iconstv (v := (1 : Int32)) rfl (by decide +kernel) ?_
                refine q_iload rfl rfl ?_
                refine q_isubv (v := (0 : Int32)) rfl (by decide +kernel) ?_
                refine q_iload rfl rfl ?_
                refine q_iload_n rfl rfl ?_
                refine q_iload_n rfl rfl ?_
                refine q_call rfl rfl rfl rfl ?_
                refine q_iload_n rfl rfl ?_
                refine q_if_ne_f (t := 18) rfl (by decide) (i_nne (a := (0 : Int)) (b := (0 : Int)) (by decide +kernel) (by decide +kernel) (by omega)) ?_
                refine q_iload_n rfl rfl ?_
                refine q_if_ne_t (t := 14) rfl (by decide) (i_ne (a := (1 : Int)) (b := (0 : Int)) (by decide +kernel) (by decide +kernel) (by omega)) ?_
                refine q_iload_n rfl rfl ?_
                refine q_goto (t := 30) rfl (by decide) ?_
                refine q_iret rfl rfl ?_
                refine bk_inl ?_
                refine q_iload rfl rfl ?_
                refine q_iload rfl rfl ?_
                refine q_iload_n rfl rfl ?_
                refine q_iload_n rfl rfl ?_
                refine q_call rfl rfl rfl rfl ?_
                refine q_iload_n rfl rfl ?_
                refine q_if_ne_t (t := 18) rfl (by decide) (i_ne (a := (1 : Int)) (b := (0 : Int)) (by decide +kernel) (by decide +kernel) (by omega)) ?_
                refine q_iload_n rfl rfl ?_
                refine q_iconstv (v := (1 : Int32)) rfl (by decide +kernel) ?_
                refine q_ic_ne_f (t := 29) rfl (by decide) (i_nne (a := (1 : Int)) (b := (1 : Int)) (by decide +kernel) (by decide +kernel) (by omega)) ?_
                refine q_iload_n rfl rfl ?_
                refine q_iconstv (v := (2 : Int32)) rfl (by decide +kernel) ?_
                refine q_idiv rfl (i_ne (a := (2 : Int)) (b := 0) (by decide +kernel) (by decide +kernel) (by omega)) ?_
                refine q_goto (t := 30) rfl (by decide) ?_
                refine q_iret rfl rfl ?_
                refine bk_inl ?_
                refine q_ic_gt_t (t := 150) rfl (by decide) (i_lt_r (a := (x1).toInt) (b := ((x2 / (2 : Int32))).toInt) rfl rfl (by omega)) ?_
                refine q_iincv (v := (4 : Int32)) rfl rfl (by decide) (by decide +kernel) ?_
                refine q_goto (t := 59) rfl (by decide) ?_
                refine q_iload rfl rfl ?_
                refine q_iconstv (v := (4 : Int32)) rfl (by decide +kernel) ?_
                refine q_ic_ge_t (t := 156) rfl (by decide) (i_le_r (a := (4 : Int)) (b := (4 : Int)) (by decide +kernel) (by decide +kernel) (by omega)) ?_
                refine q_iload_n rfl rfl ?_
                refine q_if_ne_t (t := 165) rfl (by decide) (i_ne (a := (1 : Int)) (b := (0 : Int)) (by decide +kernel) (by decide +kernel) (by omega)) ?_
                refine q_iload_n rfl rfl ?_
                refine q_iconstv (v := (1 : Int32)) rfl (by decide +kernel) ?_
                refine q_ic_ne_f (t := 175) rfl (by decide) (i_nne (a := (1 : Int)) (b := (1 : Int)) (by decide +kernel) (by decide +kernel) (by omega)) ?_
                refine q_iload rfl rfl ?_
                refine q_goto (t := 216) rfl (by decide) ?_
                refine q_iret rfl rfl ?_
                refine bk_inl ?_
                refine q_istore rfl (by decide) ?_
                refine q_aload_n rfl rfl ?_
                refine q_call rfl rfl rfl rfl ?_
                refine q_aload_n rfl rfl ?_
                refine q_get rfl rfl rfl rfl ?_
                refine q_iret rfl rfl ?_
                refine bk_inl ?_
                refine q_iload rfl rfl ?_
                refine q_ic_eq_t (t := 1774) rfl (by decide) (i_eq (a := (0 : Int)) (b := (0 : Int)) (by decide +kernel) (by decide +kernel) (by omega)) ?_
                refine q_iload rfl rfl ?_
                refine q_if_ne_f (t := 1791) rfl (by decide) (i_nne (a := (0 : Int)) (b := (0 : Int)) (by decide +kernel) (by decide +kernel) (by omega)) ?_
                refine q_aload_n rfl rfl ?_
                refine q_iconstv (v := (0 : Int32)) rfl (by decide +kernel) ?_
                refine q_laloadv (m := 0) rfl (by decide) rfl (by decide +kernel) rfl ?_
                refine q_iload rfl rfl ?_
                refine q_i2lv (v := (1 : Int64)) rfl (by decide +kernel) ?_
                refine q_lcmpv (v := (0 : Int32)) rfl (by decide +kernel) ?_
                refine q_if_eq_t (t := 1791) rfl (by decide) (i_eq (a := (0 : Int)) (b := (0 : Int)) (by decide +kernel) (by decide +kernel) (by omega)) ?_
                refine q_goto (t := 2739) rfl (by decide) ?_
                refine q_iincv (v := (8 : Int32)) rfl rfl (by decide) (by decide +kernel) ?_
                refine q_goto (t := 23) rfl (by decide) ?_
                exact q_end rfl rfl (by decide) (by decide)
              · refine q_ic_gt_f (t := 147) rfl (by decide) (i_nlt_r (a := (x1).toInt) (b := ((x2 / (2 : Int32))).toInt) rfl rfl (by omega)) ?_
                refine q_iconstv (v := (1 : Int32)) rfl (by decide +kernel) ?_
                refine q_iload rfl rfl ?_
                refine q_isubv (v := (0 : Int32)) rfl (by decide +kernel) ?_
                refine q_iload rfl rfl ?_
                refine q_iload_n rfl rfl ?_
                refine q_iload_n rfl rfl ?_
                refine q_call rfl rfl rfl rfl ?_
                refine q_iload_n rfl rfl ?_
                refine q_if_ne_f (t := 8) rfl (by decide) (i_nne (a := (0 : Int)) (b := (0 : Int)) (by decide +kernel) (by decide +kernel) (by omega)) ?_
                refine q_iload_n rfl rfl ?_
                refine q_goto (t := 9) rfl (by decide) ?_
                refine q_istore rfl (by decide) ?_
                refine q_iload_n rfl rfl ?_
                refine q_iload_n rfl rfl ?_
                refine q_ic_ne_t (t := 23) rfl (by decide) (i_ne (a := (0 : Int)) (b := (1 : Int)) (by decide +kernel) (by decide +kernel) (by omega)) ?_
                refine q_iload rfl rfl ?_
                refine q_iret rfl rfl ?_
                refine bk_inl ?_
                refine q_iload rfl rfl ?_
                refine q_ic_gt_f (t := 147) rfl (by decide) (i_nlt_r (a := (x1).toInt) (b := ((x2 / (2 : Int32))).toInt) rfl rfl (by omega)) ?_
                refine q_iload rfl rfl ?_
                refine q_if_ne_t (t := 144) rfl (by decide) (i_ne (a := (2 : Int)) (b := (0 : Int)) (by decide +kernel) (by decide +kernel) (by omega)) ?_
                refine q_iincv (v := (3 : Int32)) rfl rfl (by decide) (by decide +kernel) ?_
                refine q_iincv (v := (4 : Int32)) rfl rfl (by decide) (by decide +kernel) ?_
                refine q_goto (t := 50) rfl (by decide) ?_
                refine q_iload rfl rfl ?_
                refine q_iconstv (v := (4 : Int32)) rfl (by decide +kernel) ?_
                refine q_ic_ge_t (t := 153) rfl (by decide) (i_le_r (a := (4 : Int)) (b := (4 : Int)) (by decide +kernel) (by decide +kernel) (by omega)) ?_
                refine q_iload_n rfl rfl ?_
                refine q_lsw (t := 183) (off := 29) rfl (by decide) (by decide +kernel) (by decide) ?_
                refine q_iload rfl rfl ?_
                refine q_iret rfl rfl ?_
                refine bk_inl ?_
                refine q_i2lv (v := (1 : Int64)) rfl (by decide +kernel) ?_
                refine q_lastorev (m := 0) (w9 := (w1.set 67 (.inl (2, .inr ([1]))))) rfl (by decide) rfl (by decide +kernel) (by decide) rfl ?_
                refine q_goto (t := 19) rfl (by decide) ?_
                refine q_iconstv (v := (0 : Int32)) rfl (by decide +kernel) ?_
                refine q_iret rfl rfl ?_
                refine bk_inl ?_
                refine q_istore rfl (by decide) ?_
                refine q_aload_n rfl rfl ?_
                refine q_aload_n rfl rfl ?_
                refine q_iload rfl rfl ?_
                refine q_iconstv (v := (1 : Int32)) rfl (by decide +kernel) ?_
                refine q_iaddv (v := (1 : Int32)) rfl (by decide +kernel) ?_
                refine q_script rfl (by decide) rfl ?_
                refine q_aload_n rfl rfl ?_
                refine q_iload rfl rfl ?_
                refine q_iconstv (v := (2 : Int32)) rfl (by decide +kernel) ?_
                refine q_iaddv (v := (2 : Int32)) rfl (by decide +kernel) ?_
                refine q_script rfl (by decide) rfl ?_
                refine q_aload_n rfl rfl ?_
                refine q_iload rfl rfl ?_
                refine q_iconstv (v := (3 : Int32)) rfl (by decide +kernel) ?_
                refine q_iaddv (v := (3 : Int32)) rfl (by decide +kernel) ?_
                refine q_script rfl (by decide) rfl ?_
                refine q_call rfl rfl rfl rfl ?_
                refine q_aload_n rfl rfl ?_
                refine q_iconstv (v := (0 : Int32)) rfl (by decide +kernel) ?_
                refine q_putv (w9 := (w1.set 67 (.inl (2, .inr ([1]))))) rfl rfl rfl (by decide) rfl (by decide) rfl ?_
                refine q_aload_n rfl rfl ?_
                refine q_iload_n rfl rfl ?_
                refine q_iconstv (v := (0 : Int32)) rfl (by decide +kernel) ?_
                refine q_bipushv (v := (99 : Int32)) rfl (by decide +kernel) ?_
                refine q_call rfl rfl rfl rfl ?_
                refine q_iload_n rfl rfl ?_
                refine q_iload_n rfl rfl ?_
                refine q_ic_lt_f (t := 14) rfl (by decide) (i_nlt (a := (x1).toInt) (b := (0 : Int)) rfl (by decide +kernel) (by omega)) ?_
                refine q_iload_n rfl rfl ?_
                refine q_iload_n rfl rfl ?_
                refine q_ic_gt_f (t := 14) rfl (by decide) (i_nlt_r (a := (x1).toInt) (b := (99 : Int)) rfl (by decide +kernel) (by omega)) ?_
                refine q_iconstv (v := (1 : Int32)) rfl (by decide +kernel) ?_
                refine q_goto (t := 15) rfl (by decide) ?_
                refine q_zret rfl rfl (by decide) ?_
                refine bk_inl ?_
                refine q_if_eq_f (t := 39) rfl (by decide) (i_ne (a := (1 : Int)) (b := (0 : Int)) (by decide +kernel) (by decide +kernel) (by omega)) ?_
                refine q_iload_n rfl rfl ?_
                refine q_iconstv (v := (0 : Int32)) rfl (by decide +kernel) ?_
                refine q_bipushv (v := (99 : Int32)) rfl (by decide +kernel) ?_
                refine q_call rfl rfl rfl rfl ?_
                refine q_iload_n rfl rfl ?_
                refine q_iload_n rfl rfl ?_
                refine q_ic_lt_f (t := 14) rfl (by decide) (i_nlt (a := (x2).toInt) (b := (0 : Int)) rfl (by decide +kernel) (by omega)) ?_
                refine q_iload_n rfl rfl ?_
                refine q_iload_n rfl rfl ?_
                refine q_ic_gt_f (t := 14) rfl (by decide) (i_nlt_r (a := (x2).toInt) (b := (99 : Int)) rfl (by decide +kernel) (by omega)) ?_
                refine q_iconstv (v := (1 : Int32)) rfl (by decide +kernel) ?_
                refine q_goto (t := 15) rfl (by decide) ?_
                refine q_zret rfl rfl (by decide) ?_
                refine bk_inl ?_
                refine q_if_eq_f (t := 39) rfl (by decide) (i_ne (a := (1 : Int)) (b := (0 : Int)) (by decide +kernel) (by decide +kernel) (by omega)) ?_
                refine q_iload_n rfl rfl ?_
                refine q_iconstv (v := (0 : Int32)) rfl (by decide +kernel) ?_
                refine q_iconstv (v := (2 : Int32)) rfl (by decide +kernel) ?_
                refine q_call rfl rfl rfl rfl ?_
                refine q_iload_n rfl rfl ?_
                refine q_iload_n rfl rfl ?_
                refine q_ic_lt_f (t := 14) rfl (by decide) (i_nlt (a := (1 : Int)) (b := (0 : Int)) (by decide +kernel) (by decide +kernel) (by omega)) ?_
                refine q_iload_n rfl rfl ?_
                refine q_iload_n rfl rfl ?_
                refine q_ic_gt_f (t := 14) rfl (by decide) (i_nlt_r (a := (1 : Int)) (b := (2 : Int)) (by decide +kernel) (by decide +kernel) (by omega)) ?_
                refine q_iconstv (v := (1 : Int32)) rfl (by decide +kernel) ?_
                refine q_goto (t := 15) rfl (by decide) ?_
                refine q_zret rfl rfl (by decide) ?_
                refine bk_inl ?_
                refine q_if_eq_f (t := 39) rfl (by decide) (i_ne (a := (1 : Int)) (b := (0 : Int)) (by decide +kernel) (by decide +kernel) (by omega)) ?_
                refine q_iconstv (v := (1 : Int32)) rfl (by decide +kernel) ?_
                refine q_goto (t := 40) rfl (by decide) ?_
                refine q_iconstv (v := (1 : Int32)) rfl (by decide +kernel) ?_
                refine q_iconstv (v := (1 : Int32)) rfl (by decide +kernel) ?_
                refine q_call rfl rfl rfl rfl ?_
                refine q_iload_n rfl rfl ?_
                refine q_if_ne_t (t := 26) rfl (by decide) (i_ne (a := (1 : Int)) (b := (0 : Int)) (by decide +kernel) (by decide +kernel) (by omega)) ?_
                refine q_aload_n rfl rfl ?_
                refine q_get rfl rfl rfl rfl ?_
                refine q_if_ne_f (t := 37) rfl (by decide) (i_nne (a := (0 : Int)) (b := (0 : Int)) (by decide +kernel) (by decide +kernel) (by omega)) ?_
                refine q_iconstv (v := (1 : Int32)) rfl (by decide +kernel) ?_
                refine q_goto (t := 38) rfl (by decide) ?_
                refine q_zret rfl rfl (by decide) ?_
                refine bk_inl ?_
                refine q_if_ne_t (t := 50) rfl (by decide) (i_ne (a := (1 : Int)) (b := (0 : Int)) (by decide +kernel) (by decide +kernel) (by omega)) ?_
                refine q_iconstv (v := (0 : Int32)) rfl (by decide +kernel) ?_
                refine q_istore rfl (by decide) ?_
                refine q_iconstv (v := (-1 : Int32)) rfl (by decide +kernel) ?_
                refine q_istore rfl (by decide) ?_
                refine q_iconstv (v := (0 : Int32)) rfl (by decide +kernel) ?_
                refine q_istore rfl (by decide) ?_
                refine q_iload rfl rfl ?_
                refine q_iconstv (v := (4 : Int32)) rfl (by decide +kernel) ?_
                refine q_ic_ge_f (t := 156) rfl (by decide) (i_nle_r (a := (0 : Int)) (b := (4 : Int)) (by decide +kernel) (by decide +kernel) (by omega)) ?_
                refine q_iload rfl rfl ?_
                refine q_iconstv (v := (2 : Int32)) rfl (by decide +kernel) ?_
                refine q_idivv (v := (0 : Int32)) rfl (by decide) (by decide +kernel) ?_
                refine q_istore rfl (by decide) ?_
                refine q_iload rfl rfl ?_
                refine q_iconstv (v := (2 : Int32)) rfl (by decide +kernel) ?_
                refine q_iremv (v := (0 : Int32)) rfl (by decide) (by decide +kernel) ?_
                refine q_istore rfl (by decide) ?_
                refine q_iconstv (v := (1 : Int32)) rfl (by decide +kernel) ?_
                refine q_iload rfl rfl ?_
                refine q_isubv (v := (1 : Int32)) rfl (by decide +kernel) ?_
                refine q_iload rfl rfl ?_
                refine q_iload_n rfl rfl ?_
                refine q_iload_n rfl rfl ?_
                refine q_call rfl rfl rfl rfl ?_
                refine q_iload_n rfl rfl ?_
                refine q_if_ne_t (t := 18) rfl (by decide) (i_ne (a := (1 : Int)) (b := (0 : Int)) (by decide +kernel) (by decide +kernel) (by omega)) ?_
                refine q_iload_n rfl rfl ?_
                refine q_iconstv (v := (1 : Int32)) rfl (by decide +kernel) ?_
                refine q_ic_ne_t (t := 29) rfl (by decide) (i_ne (a := (0 : Int)) (b := (1 : Int)) (by decide +kernel) (by decide +kernel) (by omega)) ?_
                refine q_iload_n rfl rfl ?_
                refine q_iret rfl rfl ?_
                refine bk_inl ?_
                refine q_iload rfl rfl ?_
                refine q_iload rfl rfl ?_
                refine q_iload_n rfl rfl ?_
                refine q_iload_n rfl rfl ?_
                refine q_call rfl rfl rfl rfl ?_
                refine q_iload_n rfl rfl ?_
                refine q_if_ne_f (t := 18) rfl (by decide) (i_nne (a := (0 : Int)) (b := (0 : Int)) (by decide +kernel) (by decide +kernel) (by omega)) ?_
                refine q_iload_n rfl rfl ?_
                refine q_if_ne_f (t := 14) rfl (by decide) (i_nne (a := (0 : Int)) (b := (0 : Int)) (by decide +kernel) (by decide +kernel) (by omega)) ?_
                refine q_iload_n rfl rfl ?_
                refine q_iconstv (v := (2 : Int32)) rfl (by decide +kernel) ?_
                refine q_idiv rfl (i_ne (a := (2 : Int)) (b := 0) (by decide +kernel) (by decide +kernel) (by omega)) ?_
                refine q_goto (t := 30) rfl (by decide) ?_
                refine q_iret rfl rfl ?_
                refine bk_inl ?_
                refine q_ic_gt_t (t := 150) rfl (by decide) (i_lt_r (a := (x2).toInt) (b := ((x1 / (2 : Int32))).toInt) rfl rfl (by omega)) ?_
                refine q_iincv (v := (1 : Int32)) rfl rfl (by decide) (by decide +kernel) ?_
                refine q_goto (t := 59) rfl (by decide) ?_
                refine q_iload rfl rfl ?_
                refine q_iconstv (v := (4 : Int32)) rfl (by decide +kernel) ?_
                refine q_ic_ge_f (t := 156) rfl (by decide) (i_nle_r (a := (1 : Int)) (b := (4 : Int)) (by decide +kernel) (by decide +kernel) (by omega)) ?_
                refine q_iload rfl rfl ?_
                refine q_iconstv (v := (2 : Int32)) rfl (by decide +kernel) ?_
                refine q_idivv (v := (0 : Int32)) rfl (by decide) (by decide +kernel) ?_
                refine q_istore rfl (by decide) ?_
                refine q_iload rfl rfl ?_
                refine q_iconstv (v := (2 : Int32)) rfl (by decide +kernel) ?_
                refine q_iremv (v := (1 : Int32)) rfl (by decide) (by decide +kernel) ?_
                refine q_istore rfl (by decide) ?_
                refine q_iconstv (v := (1 : Int32)) rfl (by decide +kernel) ?_
                refine q_iload rfl rfl ?_
                refine q_isubv (v := (1 : Int32)) rfl (by decide +kernel) ?_
                refine q_iload rfl rfl ?_
                refine q_iload_n rfl rfl ?_
                refine q_iload_n rfl rfl ?_
                refine q_call rfl rfl rfl rfl ?_
                refine q_iload_n rfl rfl ?_
                refine q_if_ne_t (t := 18) rfl (by decide) (i_ne (a := (1 : Int)) (b := (0 : Int)) (by decide +kernel) (by decide +kernel) (by omega)) ?_
                refine q_iload_n rfl rfl ?_
                refine q_iconstv (v := (1 : Int32)) rfl (by decide +kernel) ?_
                refine q_ic_ne_f (t := 29) rfl (by decide) (i_nne (a := (1 : Int)) (b := (1 : Int)) (by decide +kernel) (by decide +kernel) (by omega)) ?_
                refine q_iload_n rfl rfl ?_
                refine q_iconstv (v := (2 : Int32)) rfl (by decide +kernel) ?_
                refine q_idiv rfl (i_ne (a := (2 : Int)) (b := 0) (by decide +kernel) (by decide +kernel) (by omega)) ?_
                refine q_goto (t := 30) rfl (by decide) ?_
                refine q_iret rfl rfl ?_
                refine bk_inl ?_
                refine q_iload rfl rfl ?_
                refine q_iload rfl rfl ?_
                refine q_iload_n rfl rfl ?_
                refine q_iload_n rfl rfl ?_
                refine q_call rfl rfl rfl rfl ?_
                refine q_iload_n rfl rfl ?_
                refine q_if_ne_f (t := 18) rfl (by decide) (i_nne (a := (0 : Int)) (b := (0 : Int)) (by decide +kernel) (by decide +kernel) (by omega)) ?_
                refine q_iload_n rfl rfl ?_
                refine q_if_ne_t (t := 14) rfl (by decide) (i_ne (a := (1 : Int)) (b := (0 : Int)) (by decide +kernel) (by decide +kernel) (by omega)) ?_
                refine q_iload_n rfl rfl ?_
                refine q_goto (t := 30) rfl (by decide) ?_
                refine q_iret rfl rfl ?_
                refine bk_inl ?_
                refine q_ic_gt_f (t := 150) rfl (by decide) (i_nlt_r (a := ((x2 / (2 : Int32))).toInt) (b := (x1).toInt) rfl rfl (by omega)) ?_
                refine q_iconstv (v := (1 : Int32)) rfl (by decide +kernel) ?_
                refine q_iload rfl rfl ?_
                refine q_isubv (v := (0 : Int32)) rfl (by decide +kernel) ?_
                refine q_iload rfl rfl ?_
                refine q_iload_n rfl rfl ?_
                refine q_iload_n rfl rfl ?_
                refine q_call rfl rfl rfl rfl ?_
                refine q_iload_n rfl rfl ?_
                refine q_if_ne_f (t := 18) rfl (by decide) (i_nne (a := (0 : Int)) (b := (0 : Int)) (by decide +kernel) (by decide +kernel) (by omega)) ?_
                refine q_iload_n rfl rfl ?_
                refine q_if_ne_f (t := 14) rfl (by decide) (i_nne (a := (0 : Int)) (b := (0 : Int)) (by decide +kernel) (by decide +kernel) (by omega)) ?_
                refine q_iload_n rfl rfl ?_
                refine q_iconstv (v := (2 : Int32)) rfl (by decide +kernel) ?_
                refine q_idiv rfl (i_ne (a := (2 : Int)) (b := 0) (by decide +kernel) (by decide +kernel) (by omega)) ?_
                refine q_goto (t := 30) rfl (by decide) ?_
                refine q_iret rfl rfl ?_
                refine bk_inl ?_
                refine q_iload rfl rfl ?_
                refine q_iload rfl rfl ?_
                refine q_iload_n rfl rfl ?_
                refine q_iload_n rfl rfl ?_
                refine q_call rfl rfl rfl rfl ?_
                refine q_iload_n rfl rfl ?_
                refine q_if_ne_t (t := 18) rfl (by decide) (i_ne (a := (1 : Int)) (b := (0 : Int)) (by decide +kernel) (by decide +kernel) (by omega)) ?_
                refine q_iload_n rfl rfl ?_
                refine q_iconstv (v := (1 : Int32)) rfl (by decide +kernel) ?_
                refine q_ic_ne_t (t := 29) rfl (by decide) (i_ne (a := (0 : Int)) (b := (1 : Int)) (by decide +kernel) (by decide +kernel) (by omega)) ?_
                refine q_iload_n rfl rfl ?_
                refine q_iret rfl rfl ?_
                refine bk_inl ?_
                refine q_ic_le_t (t := 126) rfl (by decide) (i_le (a := ((x1 / (2 : Int32))).toInt) (b := (x2).toInt) rfl rfl (by omega)) ?_
                refine q_iincv (v := (1 : Int32)) rfl rfl (by decide) (by decide +kernel) ?_
                refine q_iload rfl rfl ?_
                refine q_iconstv (v := (-1 : Int32)) rfl (by decide +kernel) ?_
                refine q_ic_ne_f (t := 146) rfl (by decide) (i_nne (a := (-1 : Int)) (b := (-1 : Int)) (by decide +kernel) (by decide +kernel) (by omega)) ?_
                refine q_bipushv (v := (10 : Int32)) rfl (by decide +kernel) ?_
                refine q_iload rfl rfl ?_
                refine q_imulv (v := (0 : Int32)) rfl (by decide +kernel) ?_
                refine q_iload rfl rfl ?_
                refine q_iaddv (v := (1 : Int32)) rfl (by decide +kernel) ?_
                refine q_goto (t := 148) rfl (by decide) ?_
                refine q_istore rfl (by decide) ?_
                refine q_iincv (v := (2 : Int32)) rfl rfl (by decide) (by decide +kernel) ?_
                refine q_goto (t := 59) rfl (by decide) ?_
                refine q_iload rfl rfl ?_
                refine q_iconstv (v := (4 : Int32)) rfl (by decide +kernel) ?_
                refine q_ic_ge_f (t := 156) rfl (by decide) (i_nle_r (a := (2 : Int)) (b := (4 : Int)) (by decide +kernel) (by decide +kernel) (by omega)) ?_
                refine q_iload rfl rfl ?_
                refine q_iconstv (v := (2 : Int32)) rfl (by decide +kernel) ?_
                refine q_idivv (v := (1 : Int32)) rfl (by decide) (by decide +kernel) ?_
                refine q_istore rfl (by decide) ?_
                refine q_iload rfl rfl ?_
                refine q_iconstv (v := (2 : Int32)) rfl (by decide +kernel) ?_
                refine q_iremv (v := (0 : Int32)) rfl (by decide) (by decide +kernel) ?_
                refine q_istore rfl (by decide) ?_
                refine q_iconstv (v := (1 : Int32)) rfl (by decide +kernel) ?_
                refine q_iload rfl rfl ?_
                refine q_isubv (v := (0 : Int32)) rfl (by decide +kernel) ?_
                refine q_iload rfl rfl ?_
                refine q_iload_n rfl rfl ?_
                refine q_iload_n rfl rfl ?_
                refine q_call rfl rfl rfl rfl ?_
                refine q_iload_n rfl rfl ?_
                refine q_if_ne_f (t := 18) rfl (by decide) (i_nne (a := (0 : Int)) (b := (0 : Int)) (by decide +kernel) (by decide +kernel) (by omega)) ?_
                refine q_iload_n rfl rfl ?_
                refine q_if_ne_f (t := 14) rfl (by decide) (i_nne (a := (0 : Int)) (b := (0 : Int)) (by decide +kernel) (by decide +kernel) (by omega)) ?_
                refine q_iload_n rfl rfl ?_
                refine q_iconstv (v := (2 : Int32)) rfl (by decide +kernel) ?_
                refine q_idiv rfl (i_ne (a := (2 : Int)) (b := 0) (by decide +kernel) (by decide +kernel) (by omega)) ?_
                refine q_goto (t := 30) rfl (by decide) ?_
                refine q_iret rfl rfl ?_
                refine bk_inl ?_
                refine q_iload rfl rfl ?_
                refine q_iload rfl rfl ?_
                refine q_iload_n rfl rfl ?_
                refine q_iload_n rfl rfl ?_
                refine q_call rfl rfl rfl rfl ?_
                refine q_iload_n rfl rfl ?_
                refine q_if_ne_t (t := 18) rfl (by decide) (i_ne (a := (1 : Int)) (b := (0 : Int)) (by decide +kernel) (by decide +kernel) (by omega)) ?_
                refine q_iload_n rfl rfl ?_
                refine q_iconstv (v := (1 : Int32)) rfl (by decide +kernel) ?_
                refine q_ic_ne_t (t := 29) rfl (by decide) (i_ne (a := (0 : Int)) (b := (1 : Int)) (by decide +kernel) (by decide +kernel) (by omega)) ?_
                refine q_iload_n rfl rfl ?_
                refine q_iret rfl rfl ?_
                refine bk_inl ?_
                refine q_ic_gt_f (t := 150) rfl (by decide) (i_nlt_r (a := ((x1 / (2 : Int32))).toInt) (b := (x2).toInt) rfl rfl (by omega)) ?_
                refine q_iconstv (v := (1 : Int32)) rfl (by decide +kernel) ?_
                refine q_iload rfl rfl ?_
                refine q_isubv (v := (1 : Int32)) rfl (by decide +kernel) ?_
                refine q_iload rfl rfl ?_
                refine q_iload_n rfl rfl ?_
                refine q_iload_n rfl rfl ?_
                refine q_call rfl rfl rfl rfl ?_
                refine q_iload_n rfl rfl ?_
                refine q_if_ne_t (t := 18) rfl (by decide) (i_ne (a := (1 : Int)) (b := (0 : Int)) (by decide +kernel) (by decide +kernel) (by omega)) ?_
                refine q_iload_n rfl rfl ?_
                refine q_iconstv (v := (1 : Int32)) rfl (by decide +kernel) ?_
                refine q_ic_ne_f (t := 29) rfl (by decide) (i_nne (a := (1 : Int)) (b := (1 : Int)) (by decide +kernel) (by decide +kernel) (by omega)) ?_
                refine q_iload_n rfl rfl ?_
                refine q_iconstv (v := (2 : Int32)) rfl (by decide +kernel) ?_
                refine q_idiv rfl (i_ne (a := (2 : Int)) (b := 0) (by decide +kernel) (by decide +kernel) (by omega)) ?_
                refine q_goto (t := 30) rfl (by decide) ?_
                refine q_iret rfl rfl ?_
                refine bk_inl ?_
                refine q_iload rfl rfl ?_
                refine q_iload rfl rfl ?_
                refine q_iload_n rfl rfl ?_
                refine q_iload_n rfl rfl ?_
                refine q_call rfl rfl rfl rfl ?_
                refine q_iload_n rfl rfl ?_
                refine q_if_ne_f (t := 18) rfl (by decide) (i_nne (a := (0 : Int)) (b := (0 : Int)) (by decide +kernel) (by decide +kernel) (by omega)) ?_
                refine q_iload_n rfl rfl ?_
                refine q_if_ne_t (t := 14) rfl (by decide) (i_ne (a := (1 : Int)) (b := (0 : Int)) (by decide +kernel) (by decide +kernel) (by omega)) ?_
                refine q_iload_n rfl rfl ?_
                refine q_goto (t := 30) rfl (by decide) ?_
                refine q_iret rfl rfl ?_
                refine bk_inl ?_
                refine q_ic_le_t (t := 126) rfl (by decide) (i_le (a := ((x2 / (2 : Int32))).toInt) (b := (x1).toInt) rfl rfl (by omega)) ?_
                refine q_iincv (v := (2 : Int32)) rfl rfl (by decide) (by decide +kernel) ?_
                refine q_iload rfl rfl ?_
                refine q_iconstv (v := (-1 : Int32)) rfl (by decide +kernel) ?_
                refine q_ic_ne_t (t := 146) rfl (by decide) (i_ne (a := (1 : Int)) (b := (-1 : Int)) (by decide +kernel) (by decide +kernel) (by omega)) ?_
                refine q_iload rfl rfl ?_
                refine q_istore rfl (by decide) ?_
                refine q_iincv (v := (3 : Int32)) rfl rfl (by decide) (by decide +kernel) ?_
                refine q_goto (t := 59) rfl (by decide) ?_
                refine q_iload rfl rfl ?_
                refine q_iconstv (v := (4 : Int32)) rfl (by decide +kernel) ?_
                refine q_ic_ge_f (t := 156) rfl (by decide) (i_nle_r (a := (3 : Int)) (b := (4 : Int)) (by decide +kernel) (by decide +kernel) (by omega)) ?_
                refine q_iload rfl rfl ?_
                refine q_iconstv (v := (2 : Int32)) rfl (by decide +kernel) ?_
                refine q_idivv (v := (1 : Int32)) rfl (by decide) (by decide +kernel) ?_
                refine q_istore rfl (by decide) ?_
                refine q_iload rfl rfl ?_
                refine q_iconstv (v := (2 : Int32)) rfl (by decide +kernel) ?_
                refine q_iremv (v := (1 : Int32)) rfl (by decide) (by decide +kernel) ?_
                refine q_istore rfl (by decide) ?_
                refine q_iconstv (v := (1 : Int32)) rfl (by decide +kernel) ?_
                refine q_iload rfl rfl ?_
                refine q_isubv (v := (0 : Int32)) rfl (by decide +kernel) ?_
                refine q_iload rfl rfl ?_
                refine q_iload_n rfl rfl ?_
                refine q_iload_n rfl rfl ?_
                refine q_call rfl rfl rfl rfl ?_
                refine q_iload_n rfl rfl ?_
                refine q_if_ne_f (t := 18) rfl (by decide) (i_nne (a := (0 : Int)) (b := (0 : Int)) (by decide +kernel) (by decide +kernel) (by omega)) ?_
                refine q_iload_n rfl rfl ?_
                refine q_if_ne_t (t := 14) rfl (by decide) (i_ne (a := (1 : Int)) (b := (0 : Int)) (by decide +kernel) (by decide +kernel) (by omega)) ?_
                refine q_iload_n rfl rfl ?_
                refine q_goto (t := 30) rfl (by decide) ?_
                refine q_iret rfl rfl ?_
                refine bk_inl ?_
                refine q_iload rfl rfl ?_
                refine q_iload rfl rfl ?_
                refine q_iload_n rfl rfl ?_
                refine q_iload_n rfl rfl ?_
                refine q_call rfl rfl rfl rfl ?_
                refine q_iload_n rfl rfl ?_
                refine q_if_ne_t (t := 18) rfl (by decide) (i_ne (a := (1 : Int)) (b := (0 : Int)) (by decide +kernel) (by decide +kernel) (by omega)) ?_
                refine q_iload_n rfl rfl ?_
                refine q_iconstv (v := (1 : Int32)) rfl (by decide +kernel) ?_
                refine q_ic_ne_f (t := 29) rfl (by decide) (i_nne (a := (1 : Int)) (b := (1 : Int)) (by decide +kernel) (by decide +kernel) (by omega)) ?_
                refine q_iload_n rfl rfl ?_
                refine q_iconstv (v := (2 : Int32)) rfl (by decide +kernel) ?_
                refine q_idiv rfl (i_ne (a := (2 : Int)) (b := 0) (by decide +kernel) (by decide +kernel) (by omega)) ?_
                refine q_goto (t := 30) rfl (by decide) ?_
                refine q_iret rfl rfl ?_
                refine bk_inl ?_
                refine q_ic_gt_f (t := 150) rfl (by decide) (i_nlt_r (a := (x1).toInt) (b := ((x2 / (2 : Int32))).toInt) rfl rfl (by omega)) ?_
                refine q_iconstv (v := (1 : Int32)) rfl (by decide +kernel) ?_
                refine q_iload rfl rfl ?_
                refine q_isubv (v := (0 : Int32)) rfl (by decide +kernel) ?_
                refine q_iload rfl rfl ?_
                refine q_iload_n rfl rfl ?_
                refine q_iload_n rfl rfl ?_
                refine q_call rfl rfl rfl rfl ?_
                refine q_iload_n rfl rfl ?_
                refine q_if_ne_f (t := 18) rfl (by decide) (i_nne (a := (0 : Int)) (b := (0 : Int)) (by decide +kernel) (by decide +kernel) (by omega)) ?_
                refine q_iload_n rfl rfl ?_
                refine q_if_ne_t (t := 14) rfl (by decide) (i_ne (a := (1 : Int)) (b := (0 : Int)) (by decide +kernel) (by decide +kernel) (by omega)) ?_
                refine q_iload_n rfl rfl ?_
                refine q_goto (t := 30) rfl (by decide) ?_
                refine q_iret rfl rfl ?_
                refine bk_inl ?_
                refine q_iload rfl rfl ?_
                refine q_iload rfl rfl ?_
                refine q_iload_n rfl rfl ?_
                refine q_iload_n rfl rfl ?_
                refine q_call rfl rfl rfl rfl ?_
                refine q_iload_n rfl rfl ?_
                refine q_if_ne_t (t := 18) rfl (by decide) (i_ne (a := (1 : Int)) (b := (0 : Int)) (by decide +kernel) (by decide +kernel) (by omega)) ?_
                refine q_iload_n rfl rfl ?_
                refine q_iconstv (v := (1 : Int32)) rfl (by decide +kernel) ?_
                refine q_ic_ne_f (t := 29) rfl (by decide) (i_nne (a := (1 : Int)) (b := (1 : Int)) (by decide +kernel) (by decide +kernel) (by omega)) ?_
                refine q_iload_n rfl rfl ?_
                refine q_iconstv (v := (2 : Int32)) rfl (by decide +kernel) ?_
                refine q_idiv rfl (i_ne (a := (2 : Int)) (b := 0) (by decide +kernel) (by decide +kernel) (by omega)) ?_
                refine q_goto (t := 30) rfl (by decide) ?_
                refine q_iret rfl rfl ?_
                refine bk_inl ?_
                refine q_ic_le_t (t := 126) rfl (by decide) (i_le (a := (x1).toInt) (b := ((x2 / (2 : Int32))).toInt) rfl rfl (by omega)) ?_
                refine q_iincv (v := (3 : Int32)) rfl rfl (by decide) (by decide +kernel) ?_
                refine q_iload rfl rfl ?_
                refine q_iconstv (v := (-1 : Int32)) rfl (by decide +kernel) ?_
                refine q_ic_ne_t (t := 146) rfl (by decide) (i_ne (a := (1 : Int)) (b := (-1 : Int)) (by decide +kernel) (by decide +kernel) (by omega)) ?_
                refine q_iload rfl rfl ?_
                refine q_istore rfl (by decide) ?_
                refine q_iincv (v := (4 : Int32)) rfl rfl (by decide) (by decide +kernel) ?_
                refine q_goto (t := 59) rfl (by decide) ?_
                refine q_iload rfl rfl ?_
                refine q_iconstv (v := (4 : Int32)) rfl (by decide +kernel) ?_
                refine q_ic_ge_t (t := 156) rfl (by decide) (i_le_r (a := (4 : Int)) (b := (4 : Int)) (by decide +kernel) (by decide +kernel) (by omega)) ?_
                refine q_iload_n rfl rfl ?_
                refine q_if_ne_t (t := 165) rfl (by decide) (i_ne (a := (1 : Int)) (b := (0 : Int)) (by decide +kernel) (by decide +kernel) (by omega)) ?_
                refine q_iload_n rfl rfl ?_
                refine q_iconstv (v := (1 : Int32)) rfl (by decide +kernel) ?_
                refine q_ic_ne_f (t := 175) rfl (by decide) (i_nne (a := (1 : Int)) (b := (1 : Int)) (by decide +kernel) (by decide +kernel) (by omega)) ?_
                refine q_iload rfl rfl ?_
                refine q_goto (t := 216) rfl (by decide) ?_
                refine q_iret rfl rfl ?_
                refine bk_inl ?_
                refine q_istore rfl (by decide) ?_
                refine q_aload_n rfl rfl ?_
                refine q_call rfl rfl rfl rfl ?_
                refine q_aload_n rfl rfl ?_
                refine q_get rfl rfl rfl rfl ?_
                refine q_iret rfl rfl ?_
                refine bk_inl ?_
                refine q_iload rfl rfl ?_
                refine q_ic_eq_t (t := 1774) rfl (by decide) (i_eq (a := (0 : Int)) (b := (0 : Int)) (by decide +kernel) (by decide +kernel) (by omega)) ?_
                refine q_iload rfl rfl ?_
                refine q_if_ne_f (t := 1791) rfl (by decide) (i_nne (a := (0 : Int)) (b := (0 : Int)) (by decide +kernel) (by decide +kernel) (by omega)) ?_
                refine q_aload_n rfl rfl ?_
                refine q_iconstv (v := (0 : Int32)) rfl (by decide +kernel) ?_
                refine q_laloadv (m := 0) rfl (by decide) rfl (by decide +kernel) rfl ?_
                refine q_iload rfl rfl ?_
                refine q_i2lv (v := (1 : Int64)) rfl (by decide +kernel) ?_
                refine q_lcmpv (v := (0 : Int32)) rfl (by decide +kernel) ?_
                refine q_if_eq_t (t := 1791) rfl (by decide) (i_eq (a := (0 : Int)) (b := (0 : Int)) (by decide +kernel) (by decide +kernel) (by omega)) ?_
                refine q_goto (t := 2739) rfl (by decide) ?_
                refine q_iincv (v := (8 : Int32)) rfl rfl (by decide) (by decide +kernel) ?_
                refine q_goto (t := 23) rfl (by decide) ?_
                exact q_end rfl rfl (by decide) (by decide)
          · refine q_ic_gt_f (t := 147) rfl (by decide) (i_nlt_r (a := (x2).toInt) (b := ((x1 / (2 : Int32))).toInt) rfl rfl (by omega)) ?_
            refine q_iconstv (v := (1 : Int32)) rfl (by decide +kernel) ?_
            refine q_iload rfl rfl ?_
            refine q_isubv (v := (1 : Int32)) rfl (by decide +kernel) ?_
            refine q_iload rfl rfl ?_
            refine q_iload_n rfl rfl ?_
            refine q_iload_n rfl rfl ?_
            refine q_call rfl rfl rfl rfl ?_
            refine q_iload_n rfl rfl ?_
            refine q_if_ne_t (t := 8) rfl (by decide) (i_ne (a := (1 : Int)) (b := (0 : Int)) (by decide +kernel) (by decide +kernel) (by omega)) ?_
            refine q_iload_n rfl rfl ?_
            refine q_istore rfl (by decide) ?_
            refine q_iload_n rfl rfl ?_
            refine q_iload_n rfl rfl ?_
            refine q_ic_ne_t (t := 23) rfl (by decide) (i_ne (a := (1 : Int)) (b := (0 : Int)) (by decide +kernel) (by decide +kernel) (by omega)) ?_
            refine q_iload rfl rfl ?_
            refine q_iret rfl rfl ?_
            refine bk_inl ?_
            refine q_iload rfl rfl ?_
            refine q_ic_gt_f (t := 147) rfl (by decide) (i_nlt_r (a := (x2).toInt) (b := ((x1 / (2 : Int32))).toInt) rfl rfl (by omega)) ?_
            refine q_iload rfl rfl ?_
            refine q_if_ne_f (t := 144) rfl (by decide) (i_nne (a := (0 : Int)) (b := (0 : Int)) (by decide +kernel) (by decide +kernel) (by omega)) ?_
            refine q_bipushv (v := (10 : Int32)) rfl (by decide +kernel) ?_
            refine q_iload rfl rfl ?_
            refine q_imulv (v := (0 : Int32)) rfl (by decide +kernel) ?_
            refine q_iload rfl rfl ?_
            refine q_iaddv (v := (0 : Int32)) rfl (by decide +kernel) ?_
            refine q_istore rfl (by decide) ?_
            refine q_iload rfl rfl ?_
            refine q_iload rfl rfl ?_
            refine q_iadd rfl ?_
            refine q_istore rfl (by decide) ?_
            refine q_iincv (v := (1 : Int32)) rfl rfl (by decide) (by decide +kernel) ?_
            refine q_iincv (v := (1 : Int32)) rfl rfl (by decide) (by decide +kernel) ?_
            refine q_goto (t := 50) rfl (by decide) ?_
            refine q_iload rfl rfl ?_
            refine q_iconstv (v := (4 : Int32)) rfl (by decide +kernel) ?_
            refine q_ic_ge_f (t := 153) rfl (by decide) (i_nle_r (a := (1 : Int)) (b := (4 : Int)) (by decide +kernel) (by decide +kernel) (by omega)) ?_
            refine q_iload rfl rfl ?_
            refine q_iconstv (v := (2 : Int32)) rfl (by decide +kernel) ?_
            refine q_idivv (v := (0 : Int32)) rfl (by decide) (by decide +kernel) ?_
            refine q_istore rfl (by decide) ?_
            refine q_iload rfl rfl ?_
            refine q_iconstv (v := (2 : Int32)) rfl (by decide +kernel) ?_
            refine q_iremv (v := (1 : Int32)) rfl (by decide) (by decide +kernel) ?_
            refine q_istore rfl (by decide) ?_
            refine q_iload rfl rfl ?_
            refine q_iload rfl rfl ?_
            refine q_iload_n rfl rfl ?_
            refine q_iload_n rfl rfl ?_
            refine q_call rfl rfl rfl rfl ?_
            refine q_iload_n rfl rfl ?_
            refine q_if_ne_f (t := 8) rfl (by decide) (i_nne (a := (0 : Int)) (b := (0 : Int)) (by decide +kernel) (by decide +kernel) (by omega)) ?_
            refine q_iload_n rfl rfl ?_
            refine q_goto (t := 9) rfl (by decide) ?_
            refine q_istore rfl (by decide) ?_
            refine q_iload_n rfl rfl ?_
            refine q_iload_n rfl rfl ?_
            refine q_ic_ne_t (t := 23) rfl (by decide) (i_ne (a := (0 : Int)) (b := (1 : Int)) (by decide +kernel) (by decide +kernel) (by omega)) ?_
            refine q_iload rfl rfl ?_
            refine q_iret rfl rfl ?_
            refine bk_inl ?_
            refine q_istore rfl (by decide) ?_
            refine q_iload rfl rfl ?_
            refine q_iload rfl rfl ?_
            refine q_iload_n rfl rfl ?_
            refine q_iload_n rfl rfl ?_
            refine q_call rfl rfl rfl rfl ?_
            refine q_iload_n rfl rfl ?_
            refine q_if_ne_t (t := 8) rfl (by decide) (i_ne (a := (1 : Int)) (b := (0 : Int)) (by decide +kernel) (by decide +kernel) (by omega)) ?_
            refine q_iload_n rfl rfl ?_
            refine q_istore rfl (by decide) ?_
            refine q_iload_n rfl rfl ?_
            refine q_iload_n rfl rfl ?_
            refine q_ic_ne_t (t := 23) rfl (by decide) (i_ne (a := (1 : Int)) (b := (0 : Int)) (by decide +kernel) (by decide +kernel) (by omega)) ?_
            refine q_iload rfl rfl ?_
            refine q_iret rfl rfl ?_
            refine bk_inl ?_
            refine q_istore rfl (by decide) ?_
            refine q_iconstv (v := (1 : Int32)) rfl (by decide +kernel) ?_
            refine q_iload rfl rfl ?_
            refine q_isubv (v := (1 : Int32)) rfl (by decide +kernel) ?_
            refine q_iload rfl rfl ?_
            refine q_iload_n rfl rfl ?_
            refine q_iload_n rfl rfl ?_
            refine q_call rfl rfl rfl rfl ?_
            refine q_iload_n rfl rfl ?_
            refine q_if_ne_t (t := 8) rfl (by decide) (i_ne (a := (1 : Int)) (b := (0 : Int)) (by decide +kernel) (by decide +kernel) (by omega)) ?_
            refine q_iload_n rfl rfl ?_
            refine q_istore rfl (by decide) ?_
            refine q_iload_n rfl rfl ?_
            refine q_iload_n rfl rfl ?_
            refine q_ic_ne_f (t := 23) rfl (by decide) (i_nne (a := (1 : Int)) (b := (1 : Int)) (by decide +kernel) (by decide +kernel) (by omega)) ?_
            refine q_iload rfl rfl ?_
            refine q_iconstv (v := (2 : Int32)) rfl (by decide +kernel) ?_
            refine q_idiv rfl (i_ne (a := (2 : Int)) (b := 0) (by decide +kernel) (by decide +kernel) (by omega)) ?_
            refine q_goto (t := 25) rfl (by decide) ?_
            refine q_iret rfl rfl ?_
            refine bk_inl ?_
            refine q_iload rfl rfl ?_
            by_cases h8 : ((x2 / (2 : Int32))).toInt > (x1).toInt
            · refine q_ic_gt_t (t := 147) rfl (by decide) (i_lt_r (a := ((x2 / (2 : Int32))).toInt) (b := (x1).toInt) rfl rfl (by omega)) ?_
              refine q_iincv (v := (2 : Int32)) rfl rfl (by decide) (by decide +kernel) ?_
              refine q_goto (t := 50) rfl (by decide) ?_
              refine q_iload rfl rfl ?_
              refine q_iconstv (v := (4 : Int32)) rfl (by decide +kernel) ?_
              refine q_ic_ge_f (t := 153) rfl (by decide) (i_nle_r (a := (2 : Int)) (b := (4 : Int)) (by decide +kernel) (by decide +kernel) (by omega)) ?_
              refine q_iload rfl rfl ?_
              refine q_iconstv (v := (2 : Int32)) rfl (by decide +kernel) ?_
              refine q_idivv (v := (1 : Int32)) rfl (by decide) (by decide +kernel) ?_
              refine q_istore rfl (by decide) ?_
              refine q_iload rfl rfl ?_
              refine q_iconstv (v := (2 : Int32)) rfl (by decide +kernel) ?_
              refine q_iremv (v := (0 : Int32)) rfl (by decide) (by decide +kernel) ?_
              refine q_istore rfl (by decide) ?_
              refine q_iload rfl rfl ?_
              refine q_iload rfl rfl ?_
              refine q_iload_n rfl rfl ?_
              refine q_iload_n rfl rfl ?_
              refine q_call rfl rfl rfl rfl ?_
              refine q_iload_n rfl rfl ?_
              refine q_if_ne_t (t := 8) rfl (by decide) (i_ne (a := (1 : Int)) (b := (0 : Int)) (by decide +kernel) (by decide +kernel) (by omega)) ?_
              refine q_iload_n rfl rfl ?_
              refine q_istore rfl (by decide) ?_
              refine q_iload_n rfl rfl ?_
              refine q_iload_n rfl rfl ?_
              refine q_ic_ne_t (t := 23) rfl (by decide) (i_ne (a := (1 : Int)) (b := (0 : Int)) (by decide +kernel) (by decide +kernel) (by omega)) ?_
              refine q_iload rfl rfl ?_
              refine q_iret rfl rfl ?_
              refine bk_inl ?_
              refine q_istore rfl (by decide) ?_
              refine q_iload rfl rfl ?_
              refine q_iload rfl rfl ?_
              refine q_iload_n rfl rfl ?_
              refine q_iload_n rfl rfl ?_
              refine q_call rfl rfl rfl rfl ?_
              refine q_iload_n rfl rfl ?_
              refine q_if_ne_f (t := 8) rfl (by decide) (i_nne (a := (0 : Int)) (b := (0 : Int)) (by decide +kernel) (by decide +kernel) (by omega)) ?_
              refine q_iload_n rfl rfl ?_
              refine q_goto (t := 9) rfl (by decide) ?_
              refine q_istore rfl (by decide) ?_
              refine q_iload_n rfl rfl ?_
              refine q_iload_n rfl rfl ?_
              refine q_ic_ne_t (t := 23) rfl (by decide) (i_ne (a := (0 : Int)) (b := (1 : Int)) (by decide +kernel) (by decide +kernel) (by omega)) ?_
              refine q_iload rfl rfl ?_
              refine q_iret rfl rfl ?_
              refine bk_inl ?_
              refine q_istore rfl (by decide) ?_
              refine q_iconstv (v := (1 : Int32)) rfl (by decide +kernel) ?_
              refine q_iload rfl rfl ?_
              refine q_isubv (v := (0 : Int32)) rfl (by decide +kernel) ?_
              refine q_iload rfl rfl ?_
              refine q_iload_n rfl rfl ?_
              refine q_iload_n rfl rfl ?_
              refine q_call rfl rfl rfl rfl ?_
              refine q_iload_n rfl rfl ?_
              refine q_if_ne_f (t := 8) rfl (by decide) (i_nne (a := (0 : Int)) (b := (0 : Int)) (by decide +kernel) (by decide +kernel) (by omega)) ?_
              refine q_iload_n rfl rfl ?_
              refine q_goto (t := 9) rfl (by decide) ?_
              refine q_istore rfl (by decide) ?_
              refine q_iload_n rfl rfl ?_
              refine q_iload_n rfl rfl ?_
              refine q_ic_ne_f (t := 23) rfl (by decide) (i_nne (a := (0 : Int)) (b := (0 : Int)) (by decide +kernel) (by decide +kernel) (by omega)) ?_
              refine q_iload rfl rfl ?_
              refine q_iconstv (v := (2 : Int32)) rfl (by decide +kernel) ?_
              refine q_idiv rfl (i_ne (a := (2 : Int)) (b := 0) (by decide +kernel) (by decide +kernel) (by omega)) ?_
              refine q_goto (t := 25) rfl (by decide) ?_
              refine q_iret rfl rfl ?_
              refine bk_inl ?_
              refine q_iload rfl rfl ?_
              by_cases h9 : ((x1 / (2 : Int32))).toInt > (x2).toInt
              · refine q_ic_gt_t (t := 147) rfl (by decide) (i_lt_r (a := ((x1 / (2 : Int32))).toInt) (b := (x2).toInt) rfl rfl (by omega)) ?_
                refine q_iincv (v := (3 : Int32)) rfl rfl (by decide) (by decide +kernel) ?_
                refine q_goto (t := 50) rfl (by decide) ?_
                refine q_iload rfl rfl ?_
                refine q_iconstv (v := (4 : Int32)) rfl (by decide +kernel) ?_
                refine q_ic_ge_f (t := 153) rfl (by decide) (i_nle_r (a := (3 : Int)) (b := (4 : Int)) (by decide +kernel) (by decide +kernel) (by omega)) ?_
                refine q_iload rfl rfl ?_
                refine q_iconstv (v := (2 : Int32)) rfl (by decide +kernel) ?_
                refine q_idivv (v := (1 : Int32)) rfl (by decide) (by decide +kernel) ?_
                refine q_istore rfl (by decide) ?_
                refine q_iload rfl rfl ?_
                refine q_iconstv (v := (2 : Int32)) rfl (by decide +kernel) ?_
                refine q_iremv (v := (1 : Int32)) rfl (by decide) (by decide +kernel) ?_
                refine q_istore rfl (by decide) ?_
                refine q_iload rfl rfl ?_
                refine q_iload rfl rfl ?_
                refine q_iload_n rfl rfl ?_
                refine q_iload_n rfl rfl ?_
                refine q_call rfl rfl rfl rfl ?_
                refine q_iload_n rfl rfl ?_
                refine q_if_ne_t (t := 8) rfl (by decide) (i_ne (a := (1 : Int)) (b := (0 : Int)) (by decide +kernel) (by decide +kernel) (by omega)) ?_
                refine q_iload_n rfl rfl ?_
                refine q_istore rfl (by decide) ?_
                refine q_iload_n rfl rfl ?_
                refine q_iload_n rfl rfl ?_
                refine q_ic_ne_f (t := 23) rfl (by decide) (i_nne (a := (1 : Int)) (b := (1 : Int)) (by decide +kernel) (by decide +kernel) (by omega)) ?_
                refine q_iload rfl rfl ?_
                refine q_iconstv (v := (2 : Int32)) rfl (by decide +kernel) ?_
                refine q_idiv rfl (i_ne (a := (2 : Int)) (b := 0) (by decide +kernel) (by decide +kernel) (by omega)) ?_
                refine q_goto (t := 25) rfl (by decide) ?_
                refine q_iret rfl rfl ?_
                refine bk_inl ?_
                refine q_istore rfl (by decide) ?_
                refine q_iload rfl rfl ?_
                refine q_iload rfl rfl ?_
                refine q_iload_n rfl rfl ?_
                refine q_iload_n rfl rfl ?_
                refine q_call rfl rfl rfl rfl ?_
                refine q_iload_n rfl rfl ?_
                refine q_if_ne_t (t := 8) rfl (by decide) (i_ne (a := (1 : Int)) (b := (0 : Int)) (by decide +kernel) (by decide +kernel) (by omega)) ?_
                refine q_iload_n rfl rfl ?_
                refine q_istore rfl (by decide) ?_
                refine q_iload_n rfl rfl ?_
                refine q_iload_n rfl rfl ?_
                refine q_ic_ne_f (t := 23) rfl (by decide) (i_nne (a := (1 : Int)) (b := (1 : Int)) (by decide +kernel) (by decide +kernel) (by omega)) ?_
                refine q_iload rfl rfl ?_
                refine q_iconstv (v := (2 : Int32)) rfl (by decide +kernel) ?_
                refine q_idiv rfl (i_ne (a := (2 : Int)) (b := 0) (by decide +kernel) (by decide +kernel) (by omega)) ?_
                refine q_goto (t := 25) rfl (by decide) ?_
                refine q_iret rfl rfl ?_
                refine bk_inl ?_
                refine q_istore rfl (by decide) ?_
                refine q_iconstv (v := (1 : Int32)) rfl (by decide +kernel) ?_
                refine q_iload rfl rfl ?_
                refine q_isubv (v := (0 : Int32)) rfl (by decide +kernel) ?_
                refine q_iload rfl rfl ?_
                refine q_iload_n rfl rfl ?_
                refine q_iload_n rfl rfl ?_
                refine q_call rfl rfl rfl rfl ?_
                refine q_iload_n rfl rfl ?_
                refine q_if_ne_f (t := 8) rfl (by decide) (i_nne (a := (0 : Int)) (b := (0 : Int)) (by decide +kernel) (by decide +kernel) (by omega)) ?_
                refine q_iload_n rfl rfl ?_
                refine q_goto (t := 9) rfl (by decide) ?_
                refine q_istore rfl (by decide) ?_
                refine q_iload_n rfl rfl ?_
                refine q_iload_n rfl rfl ?_
                refine q_ic_ne_t (t := 23) rfl (by decide) (i_ne (a := (0 : Int)) (b := (1 : Int)) (by decide +kernel) (by decide +kernel) (by omega)) ?_
                refine q_iload rfl rfl ?_
                refine q_iret rfl rfl ?_
                refine bk_inl ?_
                refine q_iload rfl rfl ?_
                refine q_ic_gt_f (t := 147) rfl (by decide) (i_nlt_r (a := (x1).toInt) (b := ((x2 / (2 : Int32))).toInt) rfl rfl (by omega)) ?_
                refine q_iconstv (v := (1 : Int32)) rfl (by decide +kernel) ?_
                refine q_iload rfl rfl ?_
                refine q_isubv (v := (0 : Int32)) rfl (by decide +kernel) ?_
                refine q_iload rfl rfl ?_
                refine q_iload_n rfl rfl ?_
                refine q_iload_n rfl rfl ?_
                refine q_call rfl rfl rfl rfl ?_
                refine q_iload_n rfl rfl ?_
                refine q_if_ne_f (t := 8) rfl (by decide) (i_nne (a := (0 : Int)) (b := (0 : Int)) (by decide +kernel) (by decide +kernel) (by omega)) ?_
                refine q_iload_n rfl rfl ?_
                refine q_goto (t := 9) rfl (by decide) ?_
                refine q_istore rfl (by decide) ?_
                refine q_iload_n rfl rfl ?_
                refine q_iload_n rfl rfl ?_
                refine q_ic_ne_t (t := 23) rfl (by decide) (i_ne (a := (0 : Int)) (b := (1 : Int)) (by decide +kernel) (by decide +kernel) (by omega)) ?_
                refine q_iload rfl rfl ?_
                refine q_iret rfl rfl ?_
                refine bk_inl ?_
                refine q_iload rfl rfl ?_
                refine q_ic_gt_f (t := 147) rfl (by decide) (i_nlt_r (a := (x1).toInt) (b := ((x2 / (2 : Int32))).toInt) rfl rfl (by omega)) ?_
                refine q_iload rfl rfl ?_
                refine q_if_ne_t (t := 144) rfl (by decide) (i_ne (a := (1 : Int)) (b := (0 : Int)) (by decide +kernel) (by decide +kernel) (by omega)) ?_
                refine q_iincv (v := (2 : Int32)) rfl rfl (by decide) (by decide +kernel) ?_
                refine q_iincv (v := (4 : Int32)) rfl rfl (by decide) (by decide +kernel) ?_
                refine q_goto (t := 50) rfl (by decide) ?_
                refine q_iload rfl rfl ?_
                refine q_iconstv (v := (4 : Int32)) rfl (by decide +kernel) ?_
                refine q_ic_ge_t (t := 153) rfl (by decide) (i_le_r (a := (4 : Int)) (b := (4 : Int)) (by decide +kernel) (by decide +kernel) (by omega)) ?_
                refine q_iload_n rfl rfl ?_
                refine q_lsw (t := 183) (off := 29) rfl (by decide) (by decide +kernel) (by decide) ?_
                refine q_iload rfl rfl ?_
                refine q_iret rfl rfl ?_
                refine bk_inl ?_
                refine q_i2lv (v := (0 : Int64)) rfl (by decide +kernel) ?_
                refine q_lastorev (m := 0) (w9 := w1) rfl (by decide) rfl (by decide +kernel) (by decide) rfl ?_
                refine q_goto (t := 19) rfl (by decide) ?_
                refine q_iconstv (v := (0 : Int32)) rfl (by decide +kernel) ?_
                refine q_iret rfl rfl ?_
                refine bk_inl ?_
                refine q_istore rfl (by decide) ?_
                refine q_aload_n rfl rfl ?_
                refine q_aload_n rfl rfl ?_
                refine q_iload rfl rfl ?_
                refine q_iconstv (v := (1 : Int32)) rfl (by decide +kernel) ?_
                refine q_iaddv (v := (1 : Int32)) rfl (by decide +kernel) ?_
                refine q_script rfl (by decide) rfl ?_
                refine q_aload_n rfl rfl ?_
                refine q_iload rfl rfl ?_
                refine q_iconstv (v := (2 : Int32)) rfl (by decide +kernel) ?_
                refine q_iaddv (v := (2 : Int32)) rfl (by decide +kernel) ?_
                refine q_script rfl (by decide) rfl ?_
                refine q_aload_n rfl rfl ?_
                refine q_iload rfl rfl ?_
                refine q_iconstv (v := (3 : Int32)) rfl (by decide +kernel) ?_
                refine q_iaddv (v := (3 : Int32)) rfl (by decide +kernel) ?_
                refine q_script rfl (by decide) rfl ?_
                refine q_call rfl rfl rfl rfl ?_
                refine q_aload_n rfl rfl ?_
                refine q_iconstv (v := (0 : Int32)) rfl (by decide +kernel) ?_
                refine q_putv (w9 := w1) rfl rfl rfl (by decide) rfl (by decide) rfl ?_
                refine q_aload_n rfl rfl ?_
                refine q_iload_n rfl rfl ?_
                refine q_iconstv (v := (0 : Int32)) rfl (by decide +kernel) ?_
                refine q_bipushv (v := (99 : Int32)) rfl (by decide +kernel) ?_
                refine q_call rfl rfl rfl rfl ?_
                refine q_iload_n rfl rfl ?_
                refine q_iload_n rfl rfl ?_
                refine q_ic_lt_f (t := 14) rfl (by decide) (i_nlt (a := (x1).toInt) (b := (0 : Int)) rfl (by decide +kernel) (by omega)) ?_
                refine q_iload_n rfl rfl ?_
                refine q_iload_n rfl rfl ?_
                refine q_ic_gt_f (t := 14) rfl (by decide) (i_nlt_r (a := (x1).toInt) (b := (99 : Int)) rfl (by decide +kernel) (by omega)) ?_
                refine q_iconstv (v := (1 : Int32)) rfl (by decide +kernel) ?_
                refine q_goto (t := 15) rfl (by decide) ?_
                refine q_zret rfl rfl (by decide) ?_
                refine bk_inl ?_
                refine q_if_eq_f (t := 39) rfl (by decide) (i_ne (a := (1 : Int)) (b := (0 : Int)) (by decide +kernel) (by decide +kernel) (by omega)) ?_
                refine q_iload_n rfl rfl ?_
                refine q_iconstv (v := (0 : Int32)) rfl (by decide +kernel) ?_
                refine q_bipushv (v := (99 : Int32)) rfl (by decide +kernel) ?_
                refine q_call rfl rfl rfl rfl ?_
                refine q_iload_n rfl rfl ?_
                refine q_iload_n rfl rfl ?_
                refine q_ic_lt_f (t := 14) rfl (by decide) (i_nlt (a := (x2).toInt) (b := (0 : Int)) rfl (by decide +kernel) (by omega)) ?_
                refine q_iload_n rfl rfl ?_
                refine q_iload_n rfl rfl ?_
                refine q_ic_gt_f (t := 14) rfl (by decide) (i_nlt_r (a := (x2).toInt) (b := (99 : Int)) rfl (by decide +kernel) (by omega)) ?_
                refine q_iconstv (v := (1 : Int32)) rfl (by decide +kernel) ?_
                refine q_goto (t := 15) rfl (by decide) ?_
                refine q_zret rfl rfl (by decide) ?_
                refine bk_inl ?_
                refine q_if_eq_f (t := 39) rfl (by decide) (i_ne (a := (1 : Int)) (b := (0 : Int)) (by decide +kernel) (by decide +kernel) (by omega)) ?_
                refine q_iload_n rfl rfl ?_
                refine q_iconstv (v := (0 : Int32)) rfl (by decide +kernel) ?_
                refine q_iconstv (v := (2 : Int32)) rfl (by decide +kernel) ?_
                refine q_call rfl rfl rfl rfl ?_
                refine q_iload_n rfl rfl ?_
                refine q_iload_n rfl rfl ?_
                refine q_ic_lt_f (t := 14) rfl (by decide) (i_nlt (a := (1 : Int)) (b := (0 : Int)) (by decide +kernel) (by decide +kernel) (by omega)) ?_
                refine q_iload_n rfl rfl ?_
                refine q_iload_n rfl rfl ?_
                refine q_ic_gt_f (t := 14) rfl (by decide) (i_nlt_r (a := (1 : Int)) (b := (2 : Int)) (by decide +kernel) (by decide +kernel) (by omega)) ?_
                refine q_iconstv (v := (1 : Int32)) rfl (by decide +kernel) ?_
                refine q_goto (t := 15) rfl (by decide) ?_
                refine q_zret rfl rfl (by decide) ?_
                refine bk_inl ?_
                refine q_if_eq_f (t := 39) rfl (by decide) (i_ne (a := (1 : Int)) (b := (0 : Int)) (by decide +kernel) (by decide +kernel) (by omega)) ?_
                refine q_iconstv (v := (1 : Int32)) rfl (by decide +kernel) ?_
                refine q_goto (t := 40) rfl (by decide) ?_
                refine q_iconstv (v := (1 : Int32)) rfl (by decide +kernel) ?_
                refine q_iconstv (v := (1 : Int32)) rfl (by decide +kernel) ?_
                refine q_call rfl rfl rfl rfl ?_
                refine q_iload_n rfl rfl ?_
                refine q_if_ne_t (t := 26) rfl (by decide) (i_ne (a := (1 : Int)) (b := (0 : Int)) (by decide +kernel) (by decide +kernel) (by omega)) ?_
                refine q_aload_n rfl rfl ?_
                refine q_get rfl rfl rfl rfl ?_
                refine q_if_ne_f (t := 37) rfl (by decide) (i_nne (a := (0 : Int)) (b := (0 : Int)) (by decide +kernel) (by decide +kernel) (by omega)) ?_
                refine q_iconstv (v := (1 : Int32)) rfl (by decide +kernel) ?_
                refine q_goto (t := 38) rfl (by decide) ?_
                refine q_zret rfl rfl (by decide) ?_
                refine bk_inl ?_
                refine q_if_ne_t (t := 50) rfl (by decide) (i_ne (a := (1 : Int)) (b := (0 : Int)) (by decide +kernel) (by decide +kernel) (by omega)) ?_
                refine q_iconstv (v := (0 : Int32)) rfl (by decide +kernel) ?_
                refine q_istore rfl (by decide) ?_
                refine q_iconstv (v := (-1 : Int32)) rfl (by decide +kernel) ?_
                refine q_istore rfl (by decide) ?_
                refine q_iconstv (v := (0 : Int32)) rfl (by decide +kernel) ?_
                refine q_istore rfl (by decide) ?_
                refine q_iload rfl rfl ?_
                refine q_iconstv (v := (4 : Int32)) rfl (by decide +kernel) ?_
                refine q_ic_ge_f (t := 156) rfl (by decide) (i_nle_r (a := (0 : Int)) (b := (4 : Int)) (by decide +kernel) (by decide +kernel) (by omega)) ?_
                refine q_iload rfl rfl ?_
                refine q_iconstv (v := (2 : Int32)) rfl (by decide +kernel) ?_
                refine q_idivv (v := (0 : Int32)) rfl (by decide) (by decide +kernel) ?_
                refine q_istore rfl (by decide) ?_
                refine q_iload rfl rfl ?_
                refine q_iconstv (v := (2 : Int32)) rfl (by decide +kernel) ?_
                refine q_iremv (v := (0 : Int32)) rfl (by decide) (by decide +kernel) ?_
                refine q_istore rfl (by decide) ?_
                refine q_iconstv (v := (1 : Int32)) rfl (by decide +kernel) ?_
                refine q_iload rfl rfl ?_
                refine q_isubv (v := (1 : Int32)) rfl (by decide +kernel) ?_
                refine q_iload rfl rfl ?_
                refine q_iload_n rfl rfl ?_
                refine q_iload_n rfl rfl ?_
                refine q_call rfl rfl rfl rfl ?_
                refine q_iload_n rfl rfl ?_
                refine q_if_ne_t (t := 18) rfl (by decide) (i_ne (a := (1 : Int)) (b := (0 : Int)) (by decide +kernel) (by decide +kernel) (by omega)) ?_
                refine q_iload_n rfl rfl ?_
                refine q_iconstv (v := (1 : Int32)) rfl (by decide +kernel) ?_
                refine q_ic_ne_t (t := 29) rfl (by decide) (i_ne (a := (0 : Int)) (b := (1 : Int)) (by decide +kernel) (by decide +kernel) (by omega)) ?_
                refine q_iload_n rfl rfl ?_
                refine q_iret rfl rfl ?_
                refine bk_inl ?_
                refine q_iload rfl rfl ?_
                refine q_iload rfl rfl ?_
                refine q_iload_n rfl rfl ?_
                refine q_iload_n rfl rfl ?_
                refine q_call rfl rfl rfl rfl ?_
                refine q_iload_n rfl rfl ?_
                refine q_if_ne_f (t := 18) rfl (by decide) (i_nne (a := (0 : Int)) (b := (0 : Int)) (by decide +kernel) (by decide +kernel) (by omega)) ?_
                refine q_iload_n rfl rfl ?_
                refine q_if_ne_f (t := 14) rfl (by decide) (i_nne (a := (0 : Int)) (b := (0 : Int)) (by decide +kernel) (by decide +kernel) (by omega)) ?_
                refine q_iload_n rfl rfl ?_
                refine q_iconstv (v := (2 : Int32)) rfl (by decide +kernel) ?_
                refine q_idiv rfl (i_ne (a := (2 : Int)) (b := 0) (by decide +kernel) (by decide +kernel) (by omega)) ?_
                refine q_goto (t := 30) rfl (by decide) ?_
                refine q_iret rfl rfl ?_
                refine bk_inl ?_
                refine q_ic_gt_f (t := 150) rfl (by decide) (i_nlt_r (a := (x2).toInt) (b := ((x1 / (2 : Int32))).toInt) rfl rfl (by omega)) ?_
                refine q_iconstv (v := (1 : Int32)) rfl (by decide +kernel) ?_
                refine q_iload rfl rfl ?_
                refine q_isubv (v := (1 : Int32)) rfl (by decide +kernel) ?_
                refine q_iload rfl rfl ?_
                refine q_iload_n rfl rfl ?_
                refine q_iload_n rfl rfl ?_
                refine q_call rfl rfl rfl rfl ?_
                refine q_iload_n rfl rfl ?_
                refine q_if_ne_t (t := 18) rfl (by decide) (i_ne (a := (1 : Int)) (b := (0 : Int)) (by decide +kernel) (by decide +kernel) (by omega)) ?_
                refine q_iload_n rfl rfl ?_
                refine q_iconstv (v := (1 : Int32)) rfl (by decide +kernel) ?_
                refine q_ic_ne_t (t := 29) rfl (by decide) (i_ne (a := (0 : Int)) (b := (1 : Int)) (by decide +kernel) (by decide +kernel) (by omega)) ?_
                refine q_iload_n rfl rfl ?_
                refine q_iret rfl rfl ?_
                refine bk_inl ?_
                refine q_iload rfl rfl ?_
                refine q_iload rfl rfl ?_
                refine q_iload_n rfl rfl ?_
                refine q_iload_n rfl rfl ?_
                refine q_call rfl rfl rfl rfl ?_
                refine q_iload_n rfl rfl ?_
                refine q_if_ne_f (t := 18) rfl (by decide) (i_nne (a := (0 : Int)) (b := (0 : Int)) (by decide +kernel) (by decide +kernel) (by omega)) ?_
                refine q_iload_n rfl rfl ?_
                refine q_if_ne_f (t := 14) rfl (by decide) (i_nne (a := (0 : Int)) (b := (0 : Int)) (by decide +kernel) (by decide +kernel) (by omega)) ?_
                refine q_iload_n rfl rfl ?_
                refine q_iconstv (v := (2 : Int32)) rfl (by decide +kernel) ?_
                refine q_idiv rfl (i_ne (a := (2 : Int)) (b := 0) (by decide +kernel) (by decide +kernel) (by omega)) ?_
                refine q_goto (t := 30) rfl (by decide) ?_
                refine q_iret rfl rfl ?_
                refine bk_inl ?_
                refine q_ic_le_t (t := 126) rfl (by decide) (i_le (a := (x2).toInt) (b := ((x1 / (2 : Int32))).toInt) rfl rfl (by omega)) ?_
                refine q_iincv (v := (1 : Int32)) rfl rfl (by decide) (by decide +kernel) ?_
                refine q_iload rfl rfl ?_
                refine q_iconstv (v := (-1 : Int32)) rfl (by decide +kernel) ?_
                refine q_ic_ne_f (t := 146) rfl (by decide) (i_nne (a := (-1 : Int)) (b := (-1 : Int)) (by decide +kernel) (by decide +kernel) (by omega)) ?_
                refine q_bipushv (v := (10 : Int32)) rfl (by decide +kernel) ?_
                refine q_iload rfl rfl ?_
                refine q_imulv (v := (0 : Int32)) rfl (by decide +kernel) ?_
                refine q_iload rfl rfl ?_
                refine q_iaddv (v := (0 : Int32)) rfl (by decide +kernel) ?_
                refine q_goto (t := 148) rfl (by decide) ?_
                refine q_istore rfl (by decide) ?_
                refine q_iincv (v := (1 : Int32)) rfl rfl (by decide) (by decide +kernel) ?_
                refine q_goto (t := 59) rfl (by decide) ?_
                refine q_iload rfl rfl ?_
                refine q_iconstv (v := (4 : Int32)) rfl (by decide +kernel) ?_
                refine q_ic_ge_f (t := 156) rfl (by decide) (i_nle_r (a := (1 : Int)) (b := (4 : Int)) (by decide +kernel) (by decide +kernel) (by omega)) ?_
                refine q_iload rfl rfl ?_
                refine q_iconstv (v := (2 : Int32)) rfl (by decide +kernel) ?_
                refine q_idivv (v := (0 : Int32)) rfl (by decide) (by decide +kernel) ?_
                refine q_istore rfl (by decide) ?_
                refine q_iload rfl rfl ?_
                refine q_iconstv (v := (2 : Int32)) rfl (by decide +kernel) ?_
                refine q_iremv (v := (1 : Int32)) rfl (by decide) (by decide +kernel) ?_
                refine q_istore rfl (by decide) ?_
                refine q_iconstv (v := (1 : Int32)) rfl (by decide +kernel) ?_
                refine q_iload rfl rfl ?_
                refine q_isubv (v := (1 : Int32)) rfl (by decide +kernel) ?_
                refine q_iload rfl rfl ?_
                refine q_iload_n rfl rfl ?_
                refine q_iload_n rfl rfl ?_
                refine q_call rfl rfl rfl rfl ?_
                refine q_iload_n rfl rfl ?_
                refine q_if_ne_t (t := 18) rfl (by decide) (i_ne (a := (1 : Int)) (b := (0 : Int)) (by decide +kernel) (by decide +kernel) (by omega)) ?_
                refine q_iload_n rfl rfl ?_
                refine q_iconstv (v := (1 : Int32)) rfl (by decide +kernel) ?_
                refine q_ic_ne_f (t := 29) rfl (by decide) (i_nne (a := (1 : Int)) (b := (1 : Int)) (by decide +kernel) (by decide +kernel) (by omega)) ?_
                refine q_iload_n rfl rfl ?_
                refine q_iconstv (v := (2 : Int32)) rfl (by decide +kernel) ?_
                refine q_idiv rfl (i_ne (a := (2 : Int)) (b := 0) (by decide +kernel) (by decide +kernel) (by omega)) ?_
                refine q_goto (t := 30) rfl (by decide) ?_
                refine q_iret rfl rfl ?_
                refine bk_inl ?_
                refine q_iload rfl rfl ?_
                refine q_iload rfl rfl ?_
                refine q_iload_n rfl rfl ?_
                refine q_iload_n rfl rfl ?_
                refine q_call rfl rfl rfl rfl ?_
                refine q_iload_n rfl rfl ?_
                refine q_if_ne_f (t := 18) rfl (by decide) (i_nne (a := (0 : Int)) (b := (0 : Int)) (by decide +kernel) (by decide +kernel) (by omega)) ?_
                refine q_iload_n rfl rfl ?_
                refine q_if_ne_t (t := 14) rfl (by decide) (i_ne (a := (1 : Int)) (b := (0 : Int)) (by decide +kernel) (by decide +kernel) (by omega)) ?_
                refine q_iload_n rfl rfl ?_
                refine q_goto (t := 30) rfl (by decide) ?_
                refine q_iret rfl rfl ?_
                refine bk_inl ?_
                refine q_ic_gt_t (t := 150) rfl (by decide) (i_lt_r (a := ((x2 / (2 : Int32))).toInt) (b := (x1).toInt) rfl rfl (by omega)) ?_
                refine q_iincv (v := (2 : Int32)) rfl rfl (by decide) (by decide +kernel) ?_
                refine q_goto (t := 59) rfl (by decide) ?_
                refine q_iload rfl rfl ?_
                refine q_iconstv (v := (4 : Int32)) rfl (by decide +kernel) ?_
                refine q_ic_ge_f (t := 156) rfl (by decide) (i_nle_r (a := (2 : Int)) (b := (4 : Int)) (by decide +kernel) (by decide +kernel) (by omega)) ?_
                refine q_iload rfl rfl ?_
                refine q_iconstv (v := (2 : Int32)) rfl (by decide +kernel) ?_
                refine q_idivv (v := (1 : Int32)) rfl (by decide) (by decide +kernel) ?_
                refine q_istore rfl (by decide) ?_
                refine q_iload rfl rfl ?_
                refine q_iconstv (v := (2 : Int32)) rfl (by decide +kernel) ?_
                refine q_iremv (v := (0 : Int32)) rfl (by decide) (by decide +kernel) ?_
                refine q_istore rfl (by decide) ?_
                refine q_iconstv (v := (1 : Int32)) rfl (by decide +kernel) ?_
                refine q_iload rfl rfl ?_
                refine q_isubv (v := (0 : Int32)) rfl (by decide +kernel) ?_
                refine q_iload rfl rfl ?_
                refine q_iload_n rfl rfl ?_
                refine q_iload_n rfl rfl ?_
                refine q_call rfl rfl rfl rfl ?_
                refine q_iload_n rfl rfl ?_
                refine q_if_ne_f (t := 18) rfl (by decide) (i_nne (a := (0 : Int)) (b := (0 : Int)) (by decide +kernel) (by decide +kernel) (by omega)) ?_
                refine q_iload_n rfl rfl ?_
                refine q_if_ne_f (t := 14) rfl (by decide) (i_nne (a := (0 : Int)) (b := (0 : Int)) (by decide +kernel) (by decide +kernel) (by omega)) ?_
                refine q_iload_n rfl rfl ?_
                refine q_iconstv (v := (2 : Int32)) rfl (by decide +kernel) ?_
                refine q_idiv rfl (i_ne (a := (2 : Int)) (b := 0) (by decide +kernel) (by decide +kernel) (by omega)) ?_
                refine q_goto (t := 30) rfl (by decide) ?_
                refine q_iret rfl rfl ?_
                refine bk_inl ?_
                refine q_iload rfl rfl ?_
                refine q_iload rfl rfl ?_
                refine q_iload_n rfl rfl ?_
                refine q_iload_n rfl rfl ?_
                refine q_call rfl rfl rfl rfl ?_
                refine q_iload_n rfl rfl ?_
                refine q_if_ne_t (t := 18) rfl (by decide) (i_ne (a := (1 : Int)) (b := (0 : Int)) (by decide +kernel) (by decide +kernel) (by omega)) ?_
                refine q_iload_n rfl rfl ?_
                refine q_iconstv (v := (1 : Int32)) rfl (by decide +kernel) ?_
                refine q_ic_ne_t (t := 29) rfl (by decide) (i_ne (a := (0 : Int)) (b := (1 : Int)) (by decide +kernel) (by decide +kernel) (by omega)) ?_
                refine q_iload_n rfl rfl ?_
                refine q_iret rfl rfl ?_
                refine bk_inl ?_
                refine q_ic_gt_t (t := 150) rfl (by decide) (i_lt_r (a := ((x1 / (2 : Int32))).toInt) (b := (x2).toInt) rfl rfl (by omega)) ?_
                refine q_iincv (v := (3 : Int32)) rfl rfl (by decide) (by decide +kernel) ?_
                refine q_goto (t := 59) rfl (by decide) ?_
                refine q_iload rfl rfl ?_
                refine q_iconstv (v := (4 : Int32)) rfl (by decide +kernel) ?_
                refine q_ic_ge_f (t := 156) rfl (by decide) (i_nle_r (a := (3 : Int)) (b := (4 : Int)) (by decide +kernel) (by decide +kernel) (by omega)) ?_
                refine q_iload rfl rfl ?_
                refine q_iconstv (v := (2 : Int32)) rfl (by decide +kernel) ?_
                refine q_idivv (v := (1 : Int32)) rfl (by decide) (by decide +kernel) ?_
                refine q_istore rfl (by decide) ?_
                refine q_iload rfl rfl ?_
                refine q_iconstv (v := (2 : Int32)) rfl (by decide +kernel) ?_
                refine q_iremv (v := (1 : Int32)) rfl (by decide) (by decide +kernel) ?_
                refine q_istore rfl (by decide) ?_
                refine q_iconstv (v := (1 : Int32)) rfl (by decide +kernel) ?_
                refine q_iload rfl rfl ?_
                refine q_isubv (v := (0 : Int32)) rfl (by decide +kernel) ?_
                refine q_iload rfl rfl ?_
                refine q_iload_n rfl rfl ?_
                refine q_iload_n rfl rfl ?_
                refine q_call rfl rfl rfl rfl ?_
                refine q_iload_n rfl rfl ?_
                refine q_if_ne_f (t := 18) rfl (by decide) (i_nne (a := (0 : Int)) (b := (0 : Int)) (by decide +kernel) (by decide +kernel) (by omega)) ?_
                refine q_iload_n rfl rfl ?_
                refine q_if_ne_t (t := 14) rfl (by decide) (i_ne (a := (1 : Int)) (b := (0 : Int)) (by decide +kernel) (by decide +kernel) (by omega)) ?_
                refine q_iload_n rfl rfl ?_
                refine q_goto (t := 30) rfl (by decide) ?_
                refine q_iret rfl rfl ?_
                refine bk_inl ?_
                refine q_iload rfl rfl ?_
                refine q_iload rfl rfl ?_
                refine q_iload_n rfl rfl ?_
                refine q_iload_n rfl rfl ?_
                refine q_call rfl rfl rfl rfl ?_
                refine q_iload_n rfl rfl ?_
                refine q_if_ne_t (t := 18) rfl (by decide) (i_ne (a := (1 : Int)) (b := (0 : Int)) (by decide +kernel) (by decide +kernel) (by omega)) ?_
                refine q_iload_n rfl rfl ?_
                refine q_iconstv (v := (1 : Int32)) rfl (by decide +kernel) ?_
                refine q_ic_ne_f (t := 29) rfl (by decide) (i_nne (a := (1 : Int)) (b := (1 : Int)) (by decide +kernel) (by decide +kernel) (by omega)) ?_
                refine q_iload_n rfl rfl ?_
                refine q_iconstv (v := (2 : Int32)) rfl (by decide +kernel) ?_
                refine q_idiv rfl (i_ne (a := (2 : Int)) (b := 0) (by decide +kernel) (by decide +kernel) (by omega)) ?_
                refine q_goto (t := 30) rfl (by decide) ?_
                refine q_iret rfl rfl ?_
                refine bk_inl ?_
                refine q_ic_gt_f (t := 150) rfl (by decide) (i_nlt_r (a := (x1).toInt) (b := ((x2 / (2 : Int32))).toInt) rfl rfl (by omega)) ?_
                refine q_iconstv (v := (1 : Int32)) rfl (by decide +kernel) ?_
                refine q_iload rfl rfl ?_
                refine q_isubv (v := (0 : Int32)) rfl (by decide +kernel) ?_
                refine q_iload rfl rfl ?_
                refine q_iload_n rfl rfl ?_
                refine q_iload_n rfl rfl ?_
                refine q_call rfl rfl rfl rfl ?_
                refine q_iload_n rfl rfl ?_
                refine q_if_ne_f (t := 18) rfl (by decide) (i_nne (a := (0 : Int)) (b := (0 : Int)) (by decide +kernel) (by decide +kernel) (by omega)) ?_
                refine q_iload_n rfl rfl ?_
                refine q_if_ne_t (t := 14) rfl (by decide) (i_ne (a := (1 : Int)) (b := (0 : Int)) (by decide +kernel) (by decide +kernel) (by omega)) ?_
                refine q_iload_n rfl rfl ?_
                refine q_goto (t := 30) rfl (by decide) ?_
                refine q_iret rfl rfl ?_
                refine bk_inl ?_
                refine q_iload rfl rfl ?_
                refine q_iload rfl rfl ?_
                refine q_iload_n rfl rfl ?_
                refine q_iload_n rfl rfl ?_
                refine q_call rfl rfl rfl rfl ?_
                refine q_iload_n rfl rfl ?_
                refine q_if_ne_t (t := 18) rfl (by decide) (i_ne (a := (1 : Int)) (b := (0 : Int)) (by decide +kernel) (by decide +kernel) (by omega)) ?_
                refine q_iload_n rfl rfl ?_
                refine q_iconstv (v := (1 : Int32)) rfl (by decide +kernel) ?_
                refine q_ic_ne_f (t := 29) rfl (by decide) (i_nne (a := (1 : Int)) (b := (1 : Int)) (by decide +kernel) (by decide +kernel) (by omega)) ?_
                refine q_iload_n rfl rfl ?_
                refine q_iconstv (v := (2 : Int32)) rfl (by decide +kernel) ?_
                refine q_idiv rfl (i_ne (a := (2 : Int)) (b := 0) (by decide +kernel) (by decide +kernel) (by omega)) ?_
                refine q_goto (t := 30) rfl (by decide) ?_
                refine q_iret rfl rfl ?_
                refine bk_inl ?_
                refine q_ic_le_t (t := 126) rfl (by decide) (i_le (a := (x1).toInt) (b := ((x2 / (2 : Int32))).toInt) rfl rfl (by omega)) ?_
                refine q_iincv (v := (2 : Int32)) rfl rfl (by decide) (by decide +kernel) ?_
                refine q_iload rfl rfl ?_
                refine q_iconstv (v := (-1 : Int32)) rfl (by decide +kernel) ?_
                refine q_ic_ne_t (t := 146) rfl (by decide) (i_ne (a := (0 : Int)) (b := (-1 : Int)) (by decide +kernel) (by decide +kernel) (by omega)) ?_
                refine q_iload rfl rfl ?_
                refine q_istore rfl (by decide) ?_
                refine q_iincv (v := (4 : Int32)) rfl rfl (by decide) (by decide +kernel) ?_
                refine q_goto (t := 59) rfl (by decide) ?_
                refine q_iload rfl rfl ?_
                refine q_iconstv (v := (4 : Int32)) rfl (by decide +kernel) ?_
                refine q_ic_ge_t (t := 156) rfl (by decide) (i_le_r (a := (4 : Int)) (b := (4 : Int)) (by decide +kernel) (by decide +kernel) (by omega)) ?_
                refine q_iload_n rfl rfl ?_
                refine q_if_ne_t (t := 165) rfl (by decide) (i_ne (a := (1 : Int)) (b := (0 : Int)) (by decide +kernel) (by decide +kernel) (by omega)) ?_
                refine q_iload_n rfl rfl ?_
                refine q_iconstv (v := (1 : Int32)) rfl (by decide +kernel) ?_
                refine q_ic_ne_f (t := 175) rfl (by decide) (i_nne (a := (1 : Int)) (b := (1 : Int)) (by decide +kernel) (by decide +kernel) (by omega)) ?_
                refine q_iload rfl rfl ?_
                refine q_goto (t := 216) rfl (by decide) ?_
                refine q_iret rfl rfl ?_
                refine bk_inl ?_
                refine q_istore rfl (by decide) ?_
                refine q_aload_n rfl rfl ?_
                refine q_call rfl rfl rfl rfl ?_
                refine q_aload_n rfl rfl ?_
                refine q_get rfl rfl rfl rfl ?_
                refine q_iret rfl rfl ?_
                refine bk_inl ?_
                refine q_iload rfl rfl ?_
                refine q_ic_eq_t (t := 1774) rfl (by decide) (i_eq (a := (0 : Int)) (b := (0 : Int)) (by decide +kernel) (by decide +kernel) (by omega)) ?_
                refine q_iload rfl rfl ?_
                refine q_if_ne_f (t := 1791) rfl (by decide) (i_nne (a := (0 : Int)) (b := (0 : Int)) (by decide +kernel) (by decide +kernel) (by omega)) ?_
                refine q_aload_n rfl rfl ?_
                refine q_iconstv (v := (0 : Int32)) rfl (by decide +kernel) ?_
                refine q_laloadv (m := 0) rfl (by decide) rfl (by decide +kernel) rfl ?_
                refine q_iload rfl rfl ?_
                refine q_i2lv (v := (0 : Int64)) rfl (by decide +kernel) ?_
                refine q_lcmpv (v := (0 : Int32)) rfl (by decide +kernel) ?_
                refine q_if_eq_t (t := 1791) rfl (by decide) (i_eq (a := (0 : Int)) (b := (0 : Int)) (by decide +kernel) (by decide +kernel) (by omega)) ?_
                refine q_goto (t := 2739) rfl (by decide) ?_
                refine q_iincv (v := (8 : Int32)) rfl rfl (by decide) (by decide +kernel) ?_
                refine q_goto (t := 23) rfl (by decide) ?_
                exact q_end rfl rfl (by decide) (by decide)
              · refine q_ic_gt_f (t := 147) rfl (by decide) (i_nlt_r (a := ((x1 / (2 : Int32))).toInt) (b := (x2).toInt) rfl rfl (by omega)) ?_
                refine q_iconstv (v := (1 : Int32)) rfl (by decide +kernel) ?_
                refine q_iload rfl rfl ?_
                refine q_isubv (v := (1 : Int32)) rfl (by decide +kernel) ?_
                refine q_iload rfl rfl ?_
                refine q_iload_n rfl rfl ?_
                refine q_iload_n rfl rfl ?_
                refine q_call rfl rfl rfl rfl ?_
                refine q_iload_n rfl rfl ?_
                refine q_if_ne_t (t := 8) rfl (by decide) (i_ne (a := (1 : Int)) (b := (0 : Int)) (by decide +kernel) (by decide +kernel) (by omega)) ?_
                refine q_iload_n rfl rfl ?_
                refine q_istore rfl (by decide) ?_
                refine q_iload_n rfl rfl ?_
                refine q_iload_n rfl rfl ?_
                refine q_ic_ne_f (t := 23) rfl (by decide) (i_nne (a := (1 : Int)) (b := (1 : Int)) (by decide +kernel) (by decide +kernel) (by omega)) ?_
                refine q_iload rfl rfl ?_
                refine q_iconstv (v := (2 : Int32)) rfl (by decide +kernel) ?_
                refine q_idiv rfl (i_ne (a := (2 : Int)) (b := 0) (by decide +kernel) (by decide +kernel) (by omega)) ?_
                refine q_goto (t := 25) rfl (by decide) ?_
                refine q_iret rfl rfl ?_
                refine bk_inl ?_
                refine q_iload rfl rfl ?_
                refine q_ic_gt_t (t := 147) rfl (by decide) (i_lt_r (a := ((x2 / (2 : Int32))).toInt) (b := (x1).toInt) rfl rfl (by omega)) ?_
                refine q_iincv (v := (3 : Int32)) rfl rfl (by decide) (by decide +kernel) ?_
                refine q_goto (t := 50) rfl (by decide) ?_
                refine q_iload rfl rfl ?_
                refine q_iconstv (v := (4 : Int32)) rfl (by decide +kernel) ?_
                refine q_ic_ge_f (t := 153) rfl (by decide) (i_nle_r (a := (3 : Int)) (b := (4 : Int)) (by decide +kernel) (by decide +kernel) (by omega)) ?_
                refine q_iload rfl rfl ?_
                refine q_iconstv (v := (2 : Int32)) rfl (by decide +kernel) ?_
                refine q_idivv (v := (1 : Int32)) rfl (by decide) (by decide +kernel) ?_
                refine q_istore rfl (by decide) ?_
                refine q_iload rfl rfl ?_
                refine q_iconstv (v := (2 : Int32)) rfl (by decide +kernel) ?_
                refine q_iremv (v := (1 : Int32)) rfl (by decide) (by decide +kernel) ?_
                refine q_istore rfl (by decide) ?_
                refine q_iload rfl rfl ?_
                refine q_iload rfl rfl ?_
                refine q_iload_n rfl rfl ?_
                refine q_iload_n rfl rfl ?_
                refine q_call rfl rfl rfl rfl ?_
                refine q_iload_n rfl rfl ?_
                refine q_if_ne_t (t := 8) rfl (by decide) (i_ne (a := (1 : Int)) (b := (0 : Int)) (by decide +kernel) (by decide +kernel) (by omega)) ?_
                refine q_iload_n rfl rfl ?_
                refine q_istore rfl (by decide) ?_
                refine q_iload_n rfl rfl ?_
                refine q_iload_n rfl rfl ?_
                refine q_ic_ne_f (t := 23) rfl (by decide) (i_nne (a := (1 : Int)) (b := (1 : Int)) (by decide +kernel) (by decide +kernel) (by omega)) ?_
                refine q_iload rfl rfl ?_
                refine q_iconstv (v := (2 : Int32)) rfl (by decide +kernel) ?_
                refine q_idiv rfl (i_ne (a := (2 : Int)) (b := 0) (by decide +kernel) (by decide +kernel) (by omega)) ?_
                refine q_goto (t := 25) rfl (by decide) ?_
                refine q_iret rfl rfl ?_
                refine bk_inl ?_
                refine q_istore rfl (by decide) ?_
                refine q_iload rfl rfl ?_
                refine q_iload rfl rfl ?_
                refine q_iload_n rfl rfl ?_
                refine q_iload_n rfl rfl ?_
                refine q_call rfl rfl rfl rfl ?_
                refine q_iload_n rfl rfl ?_
                refine q_if_ne_t (t := 8) rfl (by decide) (i_ne (a := (1 : Int)) (b := (0 : Int)) (by decide +kernel) (by decide +kernel) (by omega)) ?_
                refine q_iload_n rfl rfl ?_
                refine q_istore rfl (by decide) ?_
                refine q_iload_n rfl rfl ?_
                refine q_iload_n rfl rfl ?_
                refine q_ic_ne_f (t := 23) rfl (by decide) (i_nne (a := (1 : Int)) (b := (1 : Int)) (by decide +kernel) (by decide +kernel) (by omega)) ?_
                refine q_iload rfl rfl ?_
                refine q_iconstv (v := (2 : Int32)) rfl (by decide +kernel) ?_
                refine q_idiv rfl (i_ne (a := (2 : Int)) (b := 0) (by decide +kernel) (by decide +kernel) (by omega)) ?_
                refine q_goto (t := 25) rfl (by decide) ?_
                refine q_iret rfl rfl ?_
                refine bk_inl ?_
                refine q_istore rfl (by decide) ?_
                refine q_iconstv (v := (1 : Int32)) rfl (by decide +kernel) ?_
                refine q_iload rfl rfl ?_
                refine q_isubv (v := (0 : Int32)) rfl (by decide +kernel) ?_
                refine q_iload rfl rfl ?_
                refine q_iload_n rfl rfl ?_
                refine q_iload_n rfl rfl ?_
                refine q_call rfl rfl rfl rfl ?_
                refine q_iload_n rfl rfl ?_
                refine q_if_ne_f (t := 8) rfl (by decide) (i_nne (a := (0 : Int)) (b := (0 : Int)) (by decide +kernel) (by decide +kernel) (by omega)) ?_
                refine q_iload_n rfl rfl ?_
                refine q_goto (t := 9) rfl (by decide) ?_
                refine q_istore rfl (by decide) ?_
                refine q_iload_n rfl rfl ?_
                refine q_iload_n rfl rfl ?_
                refine q_ic_ne_t (t := 23) rfl (by decide) (i_ne (a := (0 : Int)) (b := (1 : Int)) (by decide +kernel) (by decide +kernel) (by omega)) ?_
                refine q_iload rfl rfl ?_
                refine q_iret rfl rfl ?_
                refine bk_inl ?_
                refine q_iload rfl rfl ?_
                refine q_ic_gt_f (t := 147) rfl (by decide) (i_nlt_r (a := (x1).toInt) (b := ((x2 / (2 : Int32))).toInt) rfl rfl (by omega)) ?_
                refine q_iconstv (v := (1 : Int32)) rfl (by decide +kernel) ?_
                refine q_iload rfl rfl ?_
                refine q_isubv (v := (0 : Int32)) rfl (by decide +kernel) ?_
                refine q_iload rfl rfl ?_
                refine q_iload_n rfl rfl ?_
                refine q_iload_n rfl rfl ?_
                refine q_call rfl rfl rfl rfl ?_
                refine q_iload_n rfl rfl ?_
                refine q_if_ne_f (t := 8) rfl (by decide) (i_nne (a := (0 : Int)) (b := (0 : Int)) (by decide +kernel) (by decide +kernel) (by omega)) ?_
                refine q_iload_n rfl rfl ?_
                refine q_goto (t := 9) rfl (by decide) ?_
                refine q_istore rfl (by decide) ?_
                refine q_iload_n rfl rfl ?_
                refine q_iload_n rfl rfl ?_
                refine q_ic_ne_t (t := 23) rfl (by decide) (i_ne (a := (0 : Int)) (b := (1 : Int)) (by decide +kernel) (by decide +kernel) (by omega)) ?_
                refine q_iload rfl rfl ?_
                refine q_iret rfl rfl ?_
                refine bk_inl ?_
                refine q_iload rfl rfl ?_
                refine q_ic_gt_f (t := 147) rfl (by decide) (i_nlt_r (a := (x1).toInt) (b := ((x2 / (2 : Int32))).toInt) rfl rfl (by omega)) ?_
                refine q_iload rfl rfl ?_
                refine q_if_ne_t (t := 144) rfl (by decide) (i_ne (a := (1 : Int)) (b := (0 : Int)) (by decide +kernel) (by decide +kernel) (by omega)) ?_
                refine q_iincv (v := (2 : Int32)) rfl rfl (by decide) (by decide +kernel) ?_
                refine q_iincv (v := (4 : Int32)) rfl rfl (by decide) (by decide +kernel) ?_
                refine q_goto (t := 50) rfl (by decide) ?_
                refine q_iload rfl rfl ?_
                refine q_iconstv (v := (4 : Int32)) rfl (by decide +kernel) ?_
                refine q_ic_ge_t (t := 153) rfl (by decide) (i_le_r (a := (4 : Int)) (b := (4 : Int)) (by decide +kernel) (by decide +kernel) (by omega)) ?_
                refine q_iload_n rfl rfl ?_
                refine q_lsw (t := 183) (off := 29) rfl (by decide) (by decide +kernel) (by decide) ?_
                refine q_iload rfl rfl ?_
                refine q_iret rfl rfl ?_
                refine bk_inl ?_
                refine q_i2lv (v := (0 : Int64)) rfl (by decide +kernel) ?_
                refine q_lastorev (m := 0) (w9 := w1) rfl (by decide) rfl (by decide +kernel) (by decide) rfl ?_
                refine q_goto (t := 19) rfl (by decide) ?_
                refine q_iconstv (v := (0 : Int32)) rfl (by decide +kernel) ?_
                refine q_iret rfl rfl ?_
                refine bk_inl ?_
                refine q_istore rfl (by decide) ?_
                refine q_aload_n rfl rfl ?_
                refine q_aload_n rfl rfl ?_
                refine q_iload rfl rfl ?_
                refine q_iconstv (v := (1 : Int32)) rfl (by decide +kernel) ?_
                refine q_iaddv (v := (1 : Int32)) rfl (by decide +kernel) ?_
                refine q_script rfl (by decide) rfl ?_
                refine q_aload_n rfl rfl ?_
                refine q_iload rfl rfl ?_
                refine q_iconstv (v := (2 : Int32)) rfl (by decide +kernel) ?_
                refine q_iaddv (v := (2 : Int32)) rfl (by decide +kernel) ?_
                refine q_script rfl (by decide) rfl ?_
                refine q_aload_n rfl rfl ?_
                refine q_iload rfl rfl ?_
                refine q_iconstv (v := (3 : Int32)) rfl (by decide +kernel) ?_
                refine q_iaddv (v := (3 : Int32)) rfl (by decide +kernel) ?_
                refine q_script rfl (by decide) rfl ?_
                refine q_call rfl rfl rfl rfl ?_
                refine q_aload_n rfl rfl ?_
                refine q_iconstv (v := (0 : Int32)) rfl (by decide +kernel) ?_
                refine q_putv (w9 := w1) rfl rfl rfl (by decide) rfl (by decide) rfl ?_
                refine q_aload_n rfl rfl ?_
                refine q_iload_n rfl rfl ?_
                refine q_iconstv (v := (0 : Int32)) rfl (by decide +kernel) ?_
                refine q_bipushv (v := (99 : Int32)) rfl (by decide +kernel) ?_
                refine q_call rfl rfl rfl rfl ?_
                refine q_iload_n rfl rfl ?_
                refine q_iload_n rfl rfl ?_
                refine q_ic_lt_f (t := 14) rfl (by decide) (i_nlt (a := (x1).toInt) (b := (0 : Int)) rfl (by decide +kernel) (by omega)) ?_
                refine q_iload_n rfl rfl ?_
                refine q_iload_n rfl rfl ?_
                refine q_ic_gt_f (t := 14) rfl (by decide) (i_nlt_r (a := (x1).toInt) (b := (99 : Int)) rfl (by decide +kernel) (by omega)) ?_
                refine q_iconstv (v := (1 : Int32)) rfl (by decide +kernel) ?_
                refine q_goto (t := 15) rfl (by decide) ?_
                refine q_zret rfl rfl (by decide) ?_
                refine bk_inl ?_
                refine q_if_eq_f (t := 39) rfl (by decide) (i_ne (a := (1 : Int)) (b := (0 : Int)) (by decide +kernel) (by decide +kernel) (by omega)) ?_
                refine q_iload_n rfl rfl ?_
                refine q_iconstv (v := (0 : Int32)) rfl (by decide +kernel) ?_
                refine q_bipushv (v := (99 : Int32)) rfl (by decide +kernel) ?_
                refine q_call rfl rfl rfl rfl ?_
                refine q_iload_n rfl rfl ?_
                refine q_iload_n rfl rfl ?_
                refine q_ic_lt_f (t := 14) rfl (by decide) (i_nlt (a := (x2).toInt) (b := (0 : Int)) rfl (by decide +kernel) (by omega)) ?_
                refine q_iload_n rfl rfl ?_
                refine q_iload_n rfl rfl ?_
                refine q_ic_gt_f (t := 14) rfl (by decide) (i_nlt_r (a := (x2).toInt) (b := (99 : Int)) rfl (by decide +kernel) (by omega)) ?_
                refine q_iconstv (v := (1 : Int32)) rfl (by decide +kernel) ?_
                refine q_goto (t := 15) rfl (by decide) ?_
                refine q_zret rfl rfl (by decide) ?_
                refine bk_inl ?_
                refine q_if_eq_f (t := 39) rfl (by decide) (i_ne (a := (1 : Int)) (b := (0 : Int)) (by decide +kernel) (by decide +kernel) (by omega)) ?_
                refine q_iload_n rfl rfl ?_
                refine q_iconstv (v := (0 : Int32)) rfl (by decide +kernel) ?_
                refine q_iconstv (v := (2 : Int32)) rfl (by decide +kernel) ?_
                refine q_call rfl rfl rfl rfl ?_
                refine q_iload_n rfl rfl ?_
                refine q_iload_n rfl rfl ?_
                refine q_ic_lt_f (t := 14) rfl (by decide) (i_nlt (a := (1 : Int)) (b := (0 : Int)) (by decide +kernel) (by decide +kernel) (by omega)) ?_
                refine q_iload_n rfl rfl ?_
                refine q_iload_n rfl rfl ?_
                refine q_ic_gt_f (t := 14) rfl (by decide) (i_nlt_r (a := (1 : Int)) (b := (2 : Int)) (by decide +kernel) (by decide +kernel) (by omega)) ?_
                refine q_iconstv (v := (1 : Int32)) rfl (by decide +kernel) ?_
                refine q_goto (t := 15) rfl (by decide) ?_
                refine q_zret rfl rfl (by decide) ?_
                refine bk_inl ?_
                refine q_if_eq_f (t := 39) rfl (by decide) (i_ne (a := (1 : Int)) (b := (0 : Int)) (by decide +kernel) (by decide +kernel) (by omega)) ?_
                refine q_iconstv (v := (1 : Int32)) rfl (by decide +kernel) ?_
                refine q_goto (t := 40) rfl (by decide) ?_
                refine q_iconstv (v := (1 : Int32)) rfl (by decide +kernel) ?_
                refine q_iconstv (v := (1 : Int32)) rfl (by decide +kernel) ?_
                refine q_call rfl rfl rfl rfl ?_
                refine q_iload_n rfl rfl ?_
                refine q_if_ne_t (t := 26) rfl (by decide) (i_ne (a := (1 : Int)) (b := (0 : Int)) (by decide +kernel) (by decide +kernel) (by omega)) ?_
                refine q_aload_n rfl rfl ?_
                refine q_get rfl rfl rfl rfl ?_
                refine q_if_ne_f (t := 37) rfl (by decide) (i_nne (a := (0 : Int)) (b := (0 : Int)) (by decide +kernel) (by decide +kernel) (by omega)) ?_
                refine q_iconstv (v := (1 : Int32)) rfl (by decide +kernel) ?_
                refine q_goto (t := 38) rfl (by decide) ?_
                refine q_zret rfl rfl (by decide) ?_
                refine bk_inl ?_
                refine q_if_ne_t (t := 50) rfl (by decide) (i_ne (a := (1 : Int)) (b := (0 : Int)) (by decide +kernel) (by decide +kernel) (by omega)) ?_
                refine q_iconstv (v := (0 : Int32)) rfl (by decide +kernel) ?_
                refine q_istore rfl (by decide) ?_
                refine q_iconstv (v := (-1 : Int32)) rfl (by decide +kernel) ?_
                refine q_istore rfl (by decide) ?_
                refine q_iconstv (v := (0 : Int32)) rfl (by decide +kernel) ?_
                refine q_istore rfl (by decide) ?_
                refine q_iload rfl rfl ?_
                refine q_iconstv (v := (4 : Int32)) rfl (by decide +kernel) ?_
                refine q_ic_ge_f (t := 156) rfl (by decide) (i_nle_r (a := (0 : Int)) (b := (4 : Int)) (by decide +kernel) (by decide +kernel) (by omega)) ?_
                refine q_iload rfl rfl ?_
                refine q_iconstv (v := (2 : Int32)) rfl (by decide +kernel) ?_
                refine q_idivv (v := (0 : Int32)) rfl (by decide) (by decide +kernel) ?_
                refine q_istore rfl (by decide) ?_
                refine q_iload rfl rfl ?_
                refine q_iconstv (v := (2 : Int32)) rfl (by decide +kernel) ?_
                refine q_iremv (v := (0 : Int32)) rfl (by decide) (by decide +kernel) ?_
                refine q_istore rfl (by decide) ?_
                refine q_iconstv (v := (1 : Int32)) rfl (by decide +kernel) ?_
                refine q_iload rfl rfl ?_
                refine q_isubv (v := (1 : Int32)) rfl (by decide +kernel) ?_
                refine q_iload rfl rfl ?_
                refine q_iload_n rfl rfl ?_
                refine q_iload_n rfl rfl ?_
                refine q_call rfl rfl rfl rfl ?_
                refine q_iload_n rfl rfl ?_
                refine q_if_ne_t (t := 18) rfl (by decide) (i_ne (a := (1 : Int)) (b := (0 : Int)) (by decide +kernel) (by decide +kernel) (by omega)) ?_
                refine q_iload_n rfl rfl ?_
                refine q_iconstv (v := (1 : Int32)) rfl (by decide +kernel) ?_
                refine q_ic_ne_t (t := 29) rfl (by decide) (i_ne (a := (0 : Int)) (b := (1 : Int)) (by decide +kernel) (by decide +kernel) (by omega)) ?_
                refine q_iload_n rfl rfl ?_
                refine q_iret rfl rfl ?_
                refine bk_inl ?_
                refine q_iload rfl rfl ?_
                refine q_iload rfl rfl ?_
                refine q_iload_n rfl rfl ?_
                refine q_iload_n rfl rfl ?_
                refine q_call rfl rfl rfl rfl ?_
                refine q_iload_n rfl rfl ?_
                refine q_if_ne_f (t := 18) rfl (by decide) (i_nne (a := (0 : Int)) (b := (0 : Int)) (by decide +kernel) (by decide +kernel) (by omega)) ?_
                refine q_iload_n rfl rfl ?_
                refine q_if_ne_f (t := 14) rfl (by decide) (i_nne (a := (0 : Int)) (b := (0 : Int)) (by decide +kernel) (by decide +kernel) (by omega)) ?_
                refine q_iload_n rfl rfl ?_
                refine q_iconstv (v := (2 : Int32)) rfl (by decide +kernel) ?_
                refine q_idiv rfl (i_ne (a := (2 : Int)) (b := 0) (by decide +kernel) (by decide +kernel) (by omega)) ?_
                refine q_goto (t := 30) rfl (by decide) ?_
                refine q_iret rfl rfl ?_
                refine bk_inl ?_
                refine q_ic_gt_f (t := 150) rfl (by decide) (i_nlt_r (a := (x2).toInt) (b := ((x1 / (2 : Int32))).toInt) rfl rfl (by omega)) ?_
                refine q_iconstv (v := (1 : Int32)) rfl (by decide +kernel) ?_
                refine q_iload rfl rfl ?_
                refine q_isubv (v := (1 : Int32)) rfl (by decide +kernel) ?_
                refine q_iload rfl rfl ?_
                refine q_iload_n rfl rfl ?_
                refine q_iload_n rfl rfl ?_
                refine q_call rfl rfl rfl rfl ?_
                refine q_iload_n rfl rfl ?_
                refine q_if_ne_t (t := 18) rfl (by decide) (i_ne (a := (1 : Int)) (b := (0 : Int)) (by decide +kernel) (by decide +kernel) (by omega)) ?_
                refine q_iload_n rfl rfl ?_
                refine q_iconstv (v := (1 : Int32)) rfl (by decide +kernel) ?_
                refine q_ic_ne_t (t := 29) rfl (by decide) (i_ne (a := (0 : Int)) (b := (1 : Int)) (by decide +kernel) (by decide +kernel) (by omega)) ?_
                refine q_iload_n rfl rfl ?_
                refine q_iret rfl rfl ?_
                refine bk_inl ?_
                refine q_iload rfl rfl ?_
                refine q_iload rfl rfl ?_
                refine q_iload_n rfl rfl ?_
                refine q_iload_n rfl rfl ?_
                refine q_call rfl rfl rfl rfl ?_
                refine q_iload_n rfl rfl ?_
                refine q_if_ne_f (t := 18) rfl (by decide) (i_nne (a := (0 : Int)) (b := (0 : Int)) (by decide +kernel) (by decide +kernel) (by omega)) ?_
                refine q_iload_n rfl rfl ?_
                refine q_if_ne_f (t := 14) rfl (by decide) (i_nne (a := (0 : Int)) (b := (0 : Int)) (by decide +kernel) (by decide +kernel) (by omega)) ?_
                refine q_iload_n rfl rfl ?_
                refine q_iconstv (v := (2 : Int32)) rfl (by decide +kernel) ?_
                refine q_idiv rfl (i_ne (a := (2 : Int)) (b := 0) (by decide +kernel) (by decide +kernel) (by omega)) ?_
                refine q_goto (t := 30) rfl (by decide) ?_
                refine q_iret rfl rfl ?_
                refine bk_inl ?_
                refine q_ic_le_t (t := 126) rfl (by decide) (i_le (a := (x2).toInt) (b := ((x1 / (2 : Int32))).toInt) rfl rfl (by omega)) ?_
                refine q_iincv (v := (1 : Int32)) rfl rfl (by decide) (by decide +kernel) ?_
                refine q_iload rfl rfl ?_
                refine q_iconstv (v := (-1 : Int32)) rfl (by decide +kernel) ?_
                refine q_ic_ne_f (t := 146) rfl (by decide) (i_nne (a := (-1 : Int)) (b := (-1 : Int)) (by decide +kernel) (by decide +kernel) (by omega)) ?_
                refine q_bipushv (v := (10 : Int32)) rfl (by decide +kernel) ?_
                refine q_iload rfl rfl ?_
                refine q_imulv (v := (0 : Int32)) rfl (by decide +kernel) ?_
                refine q_iload rfl rfl ?_
                refine q_iaddv (v := (0 : Int32)) rfl (by decide +kernel) ?_
                refine q_goto (t := 148) rfl (by decide) ?_
                refine q_istore rfl (by decide) ?_
                refine q_iincv (v := (1 : Int32)) rfl rfl (by decide) (by decide +kernel) ?_
                refine q_goto (t := 59) rfl (by decide) ?_
                refine q_iload rfl rfl ?_
                refine q_iconstv (v := (4 : Int32)) rfl (by decide +kernel) ?_
                refine q_ic_ge_f (t := 156) rfl (by decide) (i_nle_r (a := (1 : Int)) (b := (4 : Int)) (by decide +kernel) (by decide +kernel) (by omega)) ?_
                refine q_iload rfl rfl ?_
                refine q_iconstv (v := (2 : Int32)) rfl (by decide +kernel) ?_
                refine q_idivv (v := (0 : Int32)) rfl (by decide) (by decide +kernel) ?_
                refine q_istore rfl (by decide) ?_
                refine q_iload rfl rfl ?_
                refine q_iconstv (v := (2 : Int32)) rfl (by decide +kernel) ?_
                refine q_iremv (v := (1 : Int32)) rfl (by decide) (by decide +kernel) ?_
                refine q_istore rfl (by decide) ?_
                refine q_iconstv (v := (1 : Int32)) rfl (by decide +kernel) ?_
                refine q_iload rfl rfl ?_
                refine q_isubv (v := (1 : Int32)) rfl (by decide +kernel) ?_
                refine q_iload rfl rfl ?_
                refine q_iload_n rfl rfl ?_
                refine q_iload_n rfl rfl ?_
                refine q_call rfl rfl rfl rfl ?_
                refine q_iload_n rfl rfl ?_
                refine q_if_ne_t (t := 18) rfl (by decide) (i_ne (a := (1 : Int)) (b := (0 : Int)) (by decide +kernel) (by decide +kernel) (by omega)) ?_
                refine q_iload_n rfl rfl ?_
                refine q_iconstv (v := (1 : Int32)) rfl (by decide +kernel) ?_
                refine q_ic_ne_f (t := 29) rfl (by decide) (i_nne (a := (1 : Int)) (b := (1 : Int)) (by decide +kernel) (by decide +kernel) (by omega)) ?_
                refine q_iload_n rfl rfl ?_
                refine q_iconstv (v := (2 : Int32)) rfl (by decide +kernel) ?_
                refine q_idiv rfl (i_ne (a := (2 : Int)) (b := 0) (by decide +kernel) (by decide +kernel) (by omega)) ?_
                refine q_goto (t := 30) rfl (by decide) ?_
                refine q_iret rfl rfl ?_
                refine bk_inl ?_
                refine q_iload rfl rfl ?_
                refine q_iload rfl rfl ?_
                refine q_iload_n rfl rfl ?_
                refine q_iload_n rfl rfl ?_
                refine q_call rfl rfl rfl rfl ?_
                refine q_iload_n rfl rfl ?_
                refine q_if_ne_f (t := 18) rfl (by decide) (i_nne (a := (0 : Int)) (b := (0 : Int)) (by decide +kernel) (by decide +kernel) (by omega)) ?_
                refine q_iload_n rfl rfl ?_
                refine q_if_ne_t (t := 14) rfl (by decide) (i_ne (a := (1 : Int)) (b := (0 : Int)) (by decide +kernel) (by decide +kernel) (by omega)) ?_
                refine q_iload_n rfl rfl ?_
                refine q_goto (t := 30) rfl (by decide) ?_
                refine q_iret rfl rfl ?_
                refine bk_inl ?_
                refine q_ic_gt_t (t := 150) rfl (by decide) (i_lt_r (a := ((x2 / (2 : Int32))).toInt) (b := (x1).toInt) rfl rfl (by omega)) ?_
                refine q_iincv (v := (2 : Int32)) rfl rfl (by decide) (by decide +kernel) ?_
                refine q_goto (t := 59) rfl (by decide) ?_
                refine q_iload rfl rfl ?_
                refine q_iconstv (v := (4 : Int32)) rfl (by decide +kernel) ?_
                refine q_ic_ge_f (t := 156) rfl (by decide) (i_nle_r (a := (2 : Int)) (b := (4 : Int)) (by decide +kernel) (by decide +kernel) (by omega)) ?_
                refine q_iload rfl rfl ?_
                refine q_iconstv (v := (2 : Int32)) rfl (by decide +kernel) ?_
                refine q_idivv (v := (1 : Int32)) rfl (by decide) (by decide +kernel) ?_
                refine q_istore rfl (by decide) ?_
                refine q_iload rfl rfl ?_
                refine q_iconstv (v := (2 : Int32)) rfl (by decide +kernel) ?_
                refine q_iremv (v := (0 : Int32)) rfl (by decide) (by decide +kernel) ?_
                refine q_istore rfl (by decide) ?_
                refine q_iconstv (v := (1 : Int32)) rfl (by decide +kernel) ?_
                refine q_iload rfl rfl ?_
                refine q_isubv (v := (0 : Int32)) rfl (by decide +kernel) ?_
                refine q_iload rfl rfl ?_
                refine q_iload_n rfl rfl ?_
                refine q_iload_n rfl rfl ?_
                refine q_call rfl rfl rfl rfl ?_
                refine q_iload_n rfl rfl ?_
                refine q_if_ne_f (t := 18) rfl (by decide) (i_nne (a := (0 : Int)) (b := (0 : Int)) (by decide +kernel) (by decide +kernel) (by omega)) ?_
                refine q_iload_n rfl rfl ?_
                refine q_if_ne_f (t := 14) rfl (by decide) (i_nne (a := (0 : Int)) (b := (0 : Int)) (by decide +kernel) (by decide +kernel) (by omega)) ?_
                refine q_iload_n rfl rfl ?_
                refine q_iconstv (v := (2 : Int32)) rfl (by decide +kernel) ?_
                refine q_idiv rfl (i_ne (a := (2 : Int)) (b := 0) (by decide +kernel) (by decide +kernel) (by omega)) ?_
                refine q_goto (t := 30) rfl (by decide) ?_
                refine q_iret rfl rfl ?_
                refine bk_inl ?_
                refine q_iload rfl rfl ?_
                refine q_iload rfl rfl ?_
                refine q_iload_n rfl rfl ?_
                refine q_iload_n rfl rfl ?_
                refine q_call rfl rfl rfl rfl ?_
                refine q_iload_n rfl rfl ?_
                refine q_if_ne_t (t := 18) rfl (by decide) (i_ne (a := (1 : Int)) (b := (0 : Int)) (by decide +kernel) (by decide +kernel) (by omega)) ?_
                refine q_iload_n rfl rfl ?_
                refine q_iconstv (v := (1 : Int32)) rfl (by decide +kernel) ?_
                refine q_ic_ne_t (t := 29) rfl (by decide) (i_ne (a := (0 : Int)) (b := (1 : Int)) (by decide +kernel) (by decide +kernel) (by omega)) ?_
                refine q_iload_n rfl rfl ?_
                refine q_iret rfl rfl ?_
                refine bk_inl ?_
                refine q_ic_gt_f (t := 150) rfl (by decide) (i_nlt_r (a := ((x1 / (2 : Int32))).toInt) (b := (x2).toInt) rfl rfl (by omega)) ?_
                refine q_iconstv (v := (1 : Int32)) rfl (by decide +kernel) ?_
                refine q_iload rfl rfl ?_
                refine q_isubv (v := (1 : Int32)) rfl (by decide +kernel) ?_
                refine q_iload rfl rfl ?_
                refine q_iload_n rfl rfl ?_
                refine q_iload_n rfl rfl ?_
                refine q_call rfl rfl rfl rfl ?_
                refine q_iload_n rfl rfl ?_
                refine q_if_ne_t (t := 18) rfl (by decide) (i_ne (a := (1 : Int)) (b := (0 : Int)) (by decide +kernel) (by decide +kernel) (by omega)) ?_
                refine q_iload_n rfl rfl ?_
                refine q_iconstv (v := (1 : Int32)) rfl (by decide +kernel) ?_
                refine q_ic_ne_f (t := 29) rfl (by decide) (i_nne (a := (1 : Int)) (b := (1 : Int)) (by decide +kernel) (by decide +kernel) (by omega)) ?_
                refine q_iload_n rfl rfl ?_
                refine q_iconstv (v := (2 : Int32)) rfl (by decide +kernel) ?_
                refine q_idiv rfl (i_ne (a := (2 : Int)) (b := 0) (by decide +kernel) (by decide +kernel) (by omega)) ?_
                refine q_goto (t := 30) rfl (by decide) ?_
                refine q_iret rfl rfl ?_
                refine bk_inl ?_
                refine q_iload rfl rfl ?_
                refine q_iload rfl rfl ?_
                refine q_iload_n rfl rfl ?_
                refine q_iload_n rfl rfl ?_
                refine q_call rfl rfl rfl rfl ?_
                refine q_iload_n rfl rfl ?_
                refine q_if_ne_f (t := 18) rfl (by decide) (i_nne (a := (0 : Int)) (b := (0 : Int)) (by decide +kernel) (by decide +kernel) (by omega)) ?_
                refine q_iload_n rfl rfl ?_
                refine q_if_ne_t (t := 14) rfl (by decide) (i_ne (a := (1 : Int)) (b := (0 : Int)) (by decide +kernel) (by decide +kernel) (by omega)) ?_
                refine q_iload_n rfl rfl ?_
                refine q_goto (t := 30) rfl (by decide) ?_
                refine q_iret rfl rfl ?_
                refine bk_inl ?_
                refine q_ic_le_f (t := 126) rfl (by decide) (i_nle (a := ((x2 / (2 : Int32))).toInt) (b := (x1).toInt) rfl rfl (by omega)) ?_
                refine q_goto (t := 150) rfl (by decide) ?_
                refine q_iincv (v := (3 : Int32)) rfl rfl (by decide) (by decide +kernel) ?_
                refine q_goto (t := 59) rfl (by decide) ?_
                refine q_iload rfl rfl ?_
                refine q_iconstv (v := (4 : Int32)) rfl (by decide +kernel) ?_
                refine q_ic_ge_f (t := 156) rfl (by decide) (i_nle_r (a := (3 : Int)) (b := (4 : Int)) (by decide +kernel) (by decide +kernel) (by omega)) ?_
                refine q_iload rfl rfl ?_
                refine q_iconstv (v := (2 : Int32)) rfl (by decide +kernel) ?_
                refine q_idivv (v := (1 : Int32)) rfl (by decide) (by decide +kernel) ?_
                refine q_istore rfl (by decide) ?_
                refine q_iload rfl rfl ?_
                refine q_iconstv (v := (2 : Int32)) rfl (by decide +kernel) ?_
                refine q_iremv (v := (1 : Int32)) rfl (by decide) (by decide +kernel) ?_
                refine q_istore rfl (by decide) ?_
                refine q_iconstv (v := (1 : Int32)) rfl (by decide +kernel) ?_
                refine q_iload rfl rfl ?_
                refine q_isubv (v := (0 : Int32)) rfl (by decide +kernel) ?_
                refine q_iload rfl rfl ?_
                refine q_iload_n rfl rfl ?_
                refine q_iload_n rfl rfl ?_
                refine q_call rfl rfl rfl rfl ?_
                refine q_iload_n rfl rfl ?_
                refine q_if_ne_f (t := 18) rfl (by decide) (i_nne (a := (0 : Int)) (b := (0 : Int)) (by decide +kernel) (by decide +kernel) (by omega)) ?_
                refine q_iload_n rfl rfl ?_
                refine q_if_ne_t (t := 14) rfl (by decide) (i_ne (a := (1 : Int)) (b := (0 : Int)) (by decide +kernel) (by decide +kernel) (by omega)) ?_
                refine q_iload_n rfl rfl ?_
                refine q_goto (t := 30) rfl (by decide) ?_
                refine q_iret rfl rfl ?_
                refine bk_inl ?_
                refine q_iload rfl rfl ?_
                refine q_iload rfl rfl ?_
                refine q_iload_n rfl rfl ?_
                refine q_iload_n rfl rfl ?_
                refine q_call rfl rfl rfl rfl ?_
                refine q_iload_n rfl rfl ?_
                refine q_if_ne_t (t := 18) rfl (by decide) (i_ne (a := (1 : Int)) (b := (0 : Int)) (by decide +kernel) (by decide +kernel) (by omega)) ?_
                refine q_iload_n rfl rfl ?_
                refine q_iconstv (v := (1 : Int32)) rfl (by decide +kernel) ?_
                refine q_ic_ne_f (t := 29) rfl (by decide) (i_nne (a := (1 : Int)) (b := (1 : Int)) (by decide +kernel) (by decide +kernel) (by omega)) ?_
                refine q_iload_n rfl rfl ?_
                refine q_iconstv (v := (2 : Int32)) rfl (by decide +kernel) ?_
                refine q_idiv rfl (i_ne (a := (2 : Int)) (b := 0) (by decide +kernel) (by decide +kernel) (by omega)) ?_
                refine q_goto (t := 30) rfl (by decide) ?_
                refine q_iret rfl rfl ?_
                refine bk_inl ?_
                refine q_ic_gt_f (t := 150) rfl (by decide) (i_nlt_r (a := (x1).toInt) (b := ((x2 / (2 : Int32))).toInt) rfl rfl (by omega)) ?_
                refine q_iconstv (v := (1 : Int32)) rfl (by decide +kernel) ?_
                refine q_iload rfl rfl ?_
                refine q_isubv (v := (0 : Int32)) rfl (by decide +kernel) ?_
                refine q_iload rfl rfl ?_
                refine q_iload_n rfl rfl ?_
                refine q_iload_n rfl rfl ?_
                refine q_call rfl rfl rfl rfl ?_
                refine q_iload_n rfl rfl ?_
                refine q_if_ne_f (t := 18) rfl (by decide) (i_nne (a := (0 : Int)) (b := (0 : Int)) (by decide +kernel) (by decide +kernel) (by omega)) ?_
                refine q_iload_n rfl rfl ?_
                refine q_if_ne_t (t := 14) rfl (by decide) (i_ne (a := (1 : Int)) (b := (0 : Int)) (by decide +kernel) (by decide +kernel) (by omega)) ?_
                refine q_iload_n rfl rfl ?_
                refine q_goto (t := 30) rfl (by decide) ?_
                refine q_iret rfl rfl ?_
                refine bk_inl ?_
                refine q_iload rfl rfl ?_
                refine q_iload rfl rfl ?_
                refine q_iload_n rfl rfl ?_
                refine q_iload_n rfl rfl ?_
                refine q_call rfl rfl rfl rfl ?_
                refine q_iload_n rfl rfl ?_
                refine q_if_ne_t (t := 18) rfl (by decide) (i_ne (a := (1 : Int)) (b := (0 : Int)) (by decide +kernel) (by decide +kernel) (by omega)) ?_
                refine q_iload_n rfl rfl ?_
                refine q_iconstv (v := (1 : Int32)) rfl (by decide +kernel) ?_
                refine q_ic_ne_f (t := 29) rfl (by decide) (i_nne (a := (1 : Int)) (b := (1 : Int)) (by decide +kernel) (by decide +kernel) (by omega)) ?_
                refine q_iload_n rfl rfl ?_
                refine q_iconstv (v := (2 : Int32)) rfl (by decide +kernel) ?_
                refine q_idiv rfl (i_ne (a := (2 : Int)) (b := 0) (by decide +kernel) (by decide +kernel) (by omega)) ?_
                refine q_goto (t := 30) rfl (by decide) ?_
                refine q_iret rfl rfl ?_
                refine bk_inl ?_
                refine q_ic_le_t (t := 126) rfl (by decide) (i_le (a := (x1).toInt) (b := ((x2 / (2 : Int32))).toInt) rfl rfl (by omega)) ?_
                refine q_iincv (v := (2 : Int32)) rfl rfl (by decide) (by decide +kernel) ?_
                refine q_iload rfl rfl ?_
                refine q_iconstv (v := (-1 : Int32)) rfl (by decide +kernel) ?_
                refine q_ic_ne_t (t := 146) rfl (by decide) (i_ne (a := (0 : Int)) (b := (-1 : Int)) (by decide +kernel) (by decide +kernel) (by omega)) ?_
                refine q_iload rfl rfl ?_
                refine q_istore rfl (by decide) ?_
                refine q_iincv (v := (4 : Int32)) rfl rfl (by decide) (by decide +kernel) ?_
                refine q_goto (t := 59) rfl (by decide) ?_
                refine q_iload rfl rfl ?_
                refine q_iconstv (v := (4 : Int32)) rfl (by decide +kernel) ?_
                refine q_ic_ge_t (t := 156) rfl (by decide) (i_le_r (a := (4 : Int)) (b := (4 : Int)) (by decide +kernel) (by decide +kernel) (by omega)) ?_
                refine q_iload_n rfl rfl ?_
                refine q_if_ne_t (t := 165) rfl (by decide) (i_ne (a := (1 : Int)) (b := (0 : Int)) (by decide +kernel) (by decide +kernel) (by omega)) ?_
                refine q_iload_n rfl rfl ?_
                refine q_iconstv (v := (1 : Int32)) rfl (by decide +kernel) ?_
                refine q_ic_ne_f (t := 175) rfl (by decide) (i_nne (a := (1 : Int)) (b := (1 : Int)) (by decide +kernel) (by decide +kernel) (by omega)) ?_
                refine q_iload rfl rfl ?_
                refine q_goto (t := 216) rfl (by decide) ?_
                refine q_iret rfl rfl ?_
                refine bk_inl ?_
                refine q_istore rfl (by decide) ?_
                refine q_aload_n rfl rfl ?_
                refine q_call rfl rfl rfl rfl ?_
                refine q_aload_n rfl rfl ?_
                refine q_get rfl rfl rfl rfl ?_
                refine q_iret rfl rfl ?_
                refine bk_inl ?_
                refine q_iload rfl rfl ?_
                refine q_ic_eq_t (t := 1774) rfl (by decide) (i_eq (a := (0 : Int)) (b := (0 : Int)) (by decide +kernel) (by decide +kernel) (by omega)) ?_
                refine q_iload rfl rfl ?_
                refine q_if_ne_f (t := 1791) rfl (by decide) (i_nne (a := (0 : Int)) (b := (0 : Int)) (by decide +kernel) (by decide +kernel) (by omega)) ?_
                refine q_aload_n rfl rfl ?_
                refine q_iconstv (v := (0 : Int32)) rfl (by decide +kernel) ?_
                refine q_laloadv (m := 0) rfl (by decide) rfl (by decide +kernel) rfl ?_
                refine q_iload rfl rfl ?_
                refine q_i2lv (v := (0 : Int64)) rfl (by decide +kernel) ?_
                refine q_lcmpv (v := (0 : Int32)) rfl (by decide +kernel) ?_
                refine q_if_eq_t (t := 1791) rfl (by decide) (i_eq (a := (0 : Int)) (b := (0 : Int)) (by decide +kernel) (by decide +kernel) (by omega)) ?_
                refine q_goto (t := 2739) rfl (by decide) ?_
                refine q_iincv (v := (8 : Int32)) rfl rfl (by decide) (by decide +kernel) ?_
                refine q_goto (t := 23) rfl (by decide) ?_
                exact q_end rfl rfl (by decide) (by decide)
            · refine q_ic_gt_f (t := 147) rfl (by decide) (i_nlt_r (a := ((x2 / (2 : Int32))).toInt) (b := (x1).toInt) rfl rfl (by omega)) ?_
              refine q_iconstv (v := (1 : Int32)) rfl (by decide +kernel) ?_
              refine q_iload rfl rfl ?_
              refine q_isubv (v := (0 : Int32)) rfl (by decide +kernel) ?_
              refine q_iload rfl rfl ?_
              refine q_iload_n rfl rfl ?_
              refine q_iload_n rfl rfl ?_
              refine q_call rfl rfl rfl rfl ?_
              refine q_iload_n rfl rfl ?_
              refine q_if_ne_f (t := 8) rfl (by decide) (i_nne (a := (0 : Int)) (b := (0 : Int)) (by decide +kernel) (by decide +kernel) (by omega)) ?_
              refine q_iload_n rfl rfl ?_
              refine q_goto (t := 9) rfl (by decide) ?_
              refine q_istore rfl (by decide) ?_
              refine q_iload_n rfl rfl ?_
              refine q_iload_n rfl rfl ?_
              refine q_ic_ne_f (t := 23) rfl (by decide) (i_nne (a := (0 : Int)) (b := (0 : Int)) (by decide +kernel) (by decide +kernel) (by omega)) ?_
              refine q_iload rfl rfl ?_
              refine q_iconstv (v := (2 : Int32)) rfl (by decide +kernel) ?_
              refine q_idiv rfl (i_ne (a := (2 : Int)) (b := 0) (by decide +kernel) (by decide +kernel) (by omega)) ?_
              refine q_goto (t := 25) rfl (by decide) ?_
              refine q_iret rfl rfl ?_
              refine bk_inl ?_
              refine q_iload rfl rfl ?_
              by_cases h10 : ((x1 / (2 : Int32))).toInt > (x2).toInt
              · refine q_ic_gt_t (t := 147) rfl (by decide) (i_lt_r (a := ((x1 / (2 : Int32))).toInt) (b := (x2).toInt) rfl rfl (by omega)) ?_
                refine q_iincv (v := (2 : Int32)) rfl rfl (by decide) (by decide +kernel) ?_
                refine q_goto (t := 50) rfl (by decide) ?_
                refine q_iload rfl rfl ?_
                refine q_iconstv (v := (4 : Int32)) rfl (by decide +kernel) ?_
                refine q_ic_ge_f (t := 153) rfl (by decide) (i_nle_r (a := (2 : Int)) (b := (4 : Int)) (by decide +kernel) (by decide +kernel) (by omega)) ?_
                refine q_iload rfl rfl ?_
                refine q_iconstv (v := (2 : Int32)) rfl (by decide +kernel) ?_
                refine q_idivv (v := (1 : Int32)) rfl (by decide) (by decide +kernel) ?_
                refine q_istore rfl (by decide) ?_
                refine q_iload rfl rfl ?_
                refine q_iconstv (v := (2 : Int32)) rfl (by decide +kernel) ?_
                refine q_iremv (v := (0 : Int32)) rfl (by decide) (by decide +kernel) ?_
                refine q_istore rfl (by decide) ?_
                refine q_iload rfl rfl ?_
                refine q_iload rfl rfl ?_
                refine q_iload_n rfl rfl ?_
                refine q_iload_n rfl rfl ?_
                refine q_call rfl rfl rfl rfl ?_
                refine q_iload_n rfl rfl ?_
                refine q_if_ne_t (t := 8) rfl (by decide) (i_ne (a := (1 : Int)) (b := (0 : Int)) (by decide +kernel) (by decide +kernel) (by omega)) ?_
                refine q_iload_n rfl rfl ?_
                refine q_istore rfl (by decide) ?_
                refine q_iload_n rfl rfl ?_
                refine q_iload_n rfl rfl ?_
                refine q_ic_ne_t (t := 23) rfl (by decide) (i_ne (a := (1 : Int)) (b := (0 : Int)) (by decide +kernel) (by decide +kernel) (by omega)) ?_
                refine q_iload rfl rfl ?_
                refine q_iret rfl rfl ?_
                refine bk_inl ?_
                refine q_istore rfl (by decide) ?_
                refine q_iload rfl rfl ?_
                refine q_iload rfl rfl ?_
                refine q_iload_n rfl rfl ?_
                refine q_iload_n rfl rfl ?_
                refine q_call rfl rfl rfl rfl ?_
                refine q_iload_n rfl rfl ?_
                refine q_if_ne_f (t := 8) rfl (by decide) (i_nne (a := (0 : Int)) (b := (0 : Int)) (by decide +kernel) (by decide +kernel) (by omega)) ?_
                refine q_iload_n rfl rfl ?_
                refine q_goto (t := 9) rfl (by decide) ?_
                refine q_istore rfl (by decide) ?_
                refine q_iload_n rfl rfl ?_
                refine q_iload_n rfl rfl ?_
                refine q_ic_ne_t (t := 23) rfl (by decide) (i_ne (a := (0 : Int)) (b := (1 : Int)) (by decide +kernel) (by decide +kernel) (by omega)) ?_
                refine q_iload rfl rfl ?_
                refine q_iret rfl rfl ?_
                refine bk_inl ?_
                refine q_istore rfl (by decide) ?_
                refine q_iconstv (v := (1 : Int32)) rfl (by decide +kernel) ?_
                refine q_iload rfl rfl ?_
                refine q_isubv (v := (0 : Int32)) rfl (by decide +kernel) ?_
                refine q_iload rfl rfl ?_
                refine q_iload_n rfl rfl ?_
                refine q_iload_n rfl rfl ?_
                refine q_call rfl rfl rfl rfl ?_
                refine q_iload_n rfl rfl ?_
                refine q_if_ne_f (t := 8) rfl (by decide) (i_nne (a := (0 : Int)) (b := (0 : Int)) (by decide +kernel) (by decide +kernel) (by omega)) ?_
                refine q_iload_n rfl rfl ?_
                refine q_goto (t := 9) rfl (by decide) ?_
                refine q_istore rfl (by decide) ?_
                refine q_iload_n rfl rfl ?_
                refine q_iload_n rfl rfl ?_
                refine q_ic_ne_f (t := 23) rfl (by decide) (i_nne (a := (0 : Int)) (b := (0 : Int)) (by decide +kernel) (by decide +kernel) (by omega)) ?_
                refine q_iload rfl rfl ?_
                refine q_iconstv (v := (2 : Int32)) rfl (by decide +kernel) ?_
                refine q_idiv rfl (i_ne (a := (2 : Int)) (b := 0) (by decide +kernel) (by decide +kernel) (by omega)) ?_
                refine q_goto (t := 25) rfl (by decide) ?_
                refine q_iret rfl rfl ?_
                refine bk_inl ?_
                refine q_iload rfl rfl ?_
                refine q_ic_gt_t (t := 147) rfl (by decide) (i_lt_r (a := ((x1 / (2 : Int32))).toInt) (b := (x2).toInt) rfl rfl (by omega)) ?_
                refine q_iincv (v := (3 : Int32)) rfl rfl (by decide) (by decide +kernel) ?_
                refine q_goto (t := 50) rfl (by decide) ?_
                refine q_iload rfl rfl ?_
                refine q_iconstv (v := (4 : Int32)) rfl (by decide +kernel) ?_
                refine q_ic_ge_f (t := 153) rfl (by decide) (i_nle_r (a := (3 : Int)) (b := (4 : Int)) (by decide +kernel) (by decide +kernel) (by omega)) ?_
                refine q_iload rfl rfl ?_
                refine q_iconstv (v := (2 : Int32)) rfl (by decide +kernel) ?_
                refine q_idivv (v := (1 : Int32)) rfl (by decide) (by decide +kernel) ?_
                refine q_istore rfl (by decide) ?_
                refine q_iload rfl rfl ?_
                refine q_iconstv (v := (2 : Int32)) rfl (by decide +kernel) ?_
                refine q_iremv (v := (1 : Int32)) rfl (by decide) (by decide +kernel) ?_
                refine q_istore rfl (by decide) ?_
                refine q_iload rfl rfl ?_
                refine q_iload rfl rfl ?_
                refine q_iload_n rfl rfl ?_
                refine q_iload_n rfl rfl ?_
                refine q_call rfl rfl rfl rfl ?_
                refine q_iload_n rfl rfl ?_
                refine q_if_ne_t (t := 8) rfl (by decide) (i_ne (a := (1 : Int)) (b := (0 : Int)) (by decide +kernel) (by decide +kernel) (by omega)) ?_
                refine q_iload_n rfl rfl ?_
                refine q_istore rfl (by decide) ?_
                refine q_iload_n rfl rfl ?_
                refine q_iload_n rfl rfl ?_
                refine q_ic_ne_f (t := 23) rfl (by decide) (i_nne (a := (1 : Int)) (b := (1 : Int)) (by decide +kernel) (by decide +kernel) (by omega)) ?_
                refine q_iload rfl rfl ?_
                refine q_iconstv (v := (2 : Int32)) rfl (by decide +kernel) ?_
                refine q_idiv rfl (i_ne (a := (2 : Int)) (b := 0) (by decide +kernel) (by decide +kernel) (by omega)) ?_
                refine q_goto (t := 25) rfl (by decide) ?_
                refine q_iret rfl rfl ?_
                refine bk_inl ?_
                refine q_istore rfl (by decide) ?_
                refine q_iload rfl rfl ?_
                refine q_iload rfl rfl ?_
                refine q_iload_n rfl rfl ?_
                refine q_iload_n rfl rfl ?_
                refine q_call rfl rfl rfl rfl ?_
                refine q_iload_n rfl rfl ?_
                refine q_if_ne_t (t := 8) rfl (by decide) (i_ne (a := (1 : Int)) (b := (0 : Int)) (by decide +kernel) (by decide +kernel) (by omega)) ?_
                refine q_iload_n rfl rfl ?_
                refine q_istore rfl (by decide) ?_
                refine q_iload_n rfl rfl ?_
                refine q_iload_n rfl rfl ?_
                refine q_ic_ne_f (t := 23) rfl (by decide) (i_nne (a := (1 : Int)) (b := (1 : Int)) (by decide +kernel) (by decide +kernel) (by omega)) ?_
                refine q_iload rfl rfl ?_
                refine q_iconstv (v := (2 : Int32)) rfl (by decide +kernel) ?_
                refine q_idiv rfl (i_ne (a := (2 : Int)) (b := 0) (by decide +kernel) (by decide +kernel) (by omega)) ?_
                refine q_goto (t := 25) rfl (by decide) ?_
                refine q_iret rfl rfl ?_
                refine bk_inl ?_
                refine q_istore rfl (by decide) ?_
                refine q_iconstv (v := (1 : Int32)) rfl (by decide +kernel) ?_
                refine q_iload rfl rfl ?_
                refine q_isubv (v := (0 : Int32)) rfl (by decide +kernel) ?_
                refine q_iload rfl rfl ?_
                refine q_iload_n rfl rfl ?_
                refine q_iload_n rfl rfl ?_
                refine q_call rfl rfl rfl rfl ?_
                refine q_iload_n rfl rfl ?_
                refine q_if_ne_f (t := 8) rfl (by decide) (i_nne (a := (0 : Int)) (b := (0 : Int)) (by decide +kernel) (by decide +kernel) (by omega)) ?_
                refine q_iload_n rfl rfl ?_
                refine q_goto (t := 9) rfl (by decide) ?_
                refine q_istore rfl (by decide) ?_
                refine q_iload_n rfl rfl ?_
                refine q_iload_n rfl rfl ?_
                refine q_ic_ne_t (t := 23) rfl (by decide) (i_ne (a := (0 : Int)) (b := (1 : Int)) (by decide +kernel) (by decide +kernel) (by omega)) ?_
                refine q_iload rfl rfl ?_
                refine q_iret rfl rfl ?_
                refine bk_inl ?_
                refine q_iload rfl rfl ?_
                by_cases h11 : (x1).toInt > ((x2 / (2 : Int32))).toInt
                · refine q_ic_gt_t (t := 147) rfl (by decide) (i_lt_r (a := (x1).toInt) (b := ((x2 / (2 : Int32))).toInt) rfl rfl (by omega)) ?_
                  refine q_iincv (v := (4 : Int32)) rfl rfl (by decide) (by decide +kernel) ?_
                  refine q_goto (t := 50) rfl (by decide) ?_
                  refine q_iload rfl rfl ?_
                  refine q_iconstv (v := (4 : Int32)) rfl (by decide +kernel) ?_
                  refine q_ic_ge_t (t := 153) rfl (by decide) (i_le_r (a := (4 : Int)) (b := (4 : Int)) (by decide +kernel) (by decide +kernel) (by omega)) ?_
                  refine q_iload_n rfl rfl ?_
                  refine q_lsw (t := 183) (off := 29) rfl (by decide) (by decide +kernel) (by decide) ?_
                  refine q_iload rfl rfl ?_
                  refine q_iret rfl rfl ?_
                  refine bk_inl ?_
                  refine q_i2lv (v := (0 : Int64)) rfl (by decide +kernel) ?_
                  refine q_lastorev (m := 0) (w9 := w1) rfl (by decide) rfl (by decide +kernel) (by decide) rfl ?_
                  refine q_goto (t := 19) rfl (by decide) ?_
                  refine q_iconstv (v := (0 : Int32)) rfl (by decide +kernel) ?_
                  refine q_iret rfl rfl ?_
                  refine bk_inl ?_
                  refine q_istore rfl (by decide) ?_
                  refine q_aload_n rfl rfl ?_
                  refine q_aload_n rfl rfl ?_
                  refine q_iload rfl rfl ?_
                  refine q_iconstv (v := (1 : Int32)) rfl (by decide +kernel) ?_
                  refine q_iaddv (v := (1 : Int32)) rfl (by decide +kernel) ?_
                  refine q_script rfl (by decide) rfl ?_
                  refine q_aload_n rfl rfl ?_
                  refine q_iload rfl rfl ?_
                  refine q_iconstv (v := (2 : Int32)) rfl (by decide +kernel) ?_
                  refine q_iaddv (v := (2 : Int32)) rfl (by decide +kernel) ?_
                  refine q_script rfl (by decide) rfl ?_
                  refine q_aload_n rfl rfl ?_
                  refine q_iload rfl rfl ?_
                  refine q_iconstv (v := (3 : Int32)) rfl (by decide +kernel) ?_
                  refine q_iaddv (v := (3 : Int32)) rfl (by decide +kernel) ?_
                  refine q_script rfl (by decide) rfl ?_
                  refine q_call rfl rfl rfl rfl ?_
                  refine q_aload_n rfl rfl ?_
                  refine q_iconstv (v := (0 : Int32)) rfl (by decide +kernel) ?_
                  refine q_putv (w9 := w1) rfl rfl rfl (by decide) rfl (by decide) rfl ?_
                  refine q_aload_n rfl rfl ?_
                  refine q_iload_n rfl rfl ?_
                  refine q_iconstv (v := (0 : Int32)) rfl (by decide +kernel) ?_
                  refine q_bipushv (v := (99 : Int32)) rfl (by decide +kernel) ?_
                  refine q_call rfl rfl rfl rfl ?_
                  refine q_iload_n rfl rfl ?_
                  refine q_iload_n rfl rfl ?_
                  refine q_ic_lt_f (t := 14) rfl (by decide) (i_nlt (a := (x1).toInt) (b := (0 : Int)) rfl (by decide +kernel) (by omega)) ?_
                  refine q_iload_n rfl rfl ?_
                  refine q_iload_n rfl rfl ?_
                  refine q_ic_gt_f (t := 14) rfl (by decide) (i_nlt_r (a := (x1).toInt) (b := (99 : Int)) rfl (by decide +kernel) (by omega)) ?_
                  refine q_iconstv (v := (1 : Int32)) rfl (by decide +kernel) ?_
                  refine q_goto (t := 15) rfl (by decide) ?_
                  refine q_zret rfl rfl (by decide) ?_
                  refine bk_inl ?_
                  refine q_if_eq_f (t := 39) rfl (by decide) (i_ne (a := (1 : Int)) (b := (0 : Int)) (by decide +kernel) (by decide +kernel) (by omega)) ?_
                  refine q_iload_n rfl rfl ?_
                  refine q_iconstv (v := (0 : Int32)) rfl (by decide +kernel) ?_
                  refine q_bipushv (v := (99 : Int32)) rfl (by decide +kernel) ?_
                  refine q_call rfl rfl rfl rfl ?_
                  refine q_iload_n rfl rfl ?_
                  refine q_iload_n rfl rfl ?_
                  refine q_ic_lt_f (t := 14) rfl (by decide) (i_nlt (a := (x2).toInt) (b := (0 : Int)) rfl (by decide +kernel) (by omega)) ?_
                  refine q_iload_n rfl rfl ?_
                  refine q_iload_n rfl rfl ?_
                  refine q_ic_gt_f (t := 14) rfl (by decide) (i_nlt_r (a := (x2).toInt) (b := (99 : Int)) rfl (by decide +kernel) (by omega)) ?_
                  refine q_iconstv (v := (1 : Int32)) rfl (by decide +kernel) ?_
                  refine q_goto (t := 15) rfl (by decide) ?_
                  refine q_zret rfl rfl (by decide) ?_
                  refine bk_inl ?_
                  refine q_if_eq_f (t := 39) rfl (by decide) (i_ne (a := (1 : Int)) (b := (0 : Int)) (by decide +kernel) (by decide +kernel) (by omega)) ?_
                  refine q_iload_n rfl rfl ?_
                  refine q_iconstv (v := (0 : Int32)) rfl (by decide +kernel) ?_
                  refine q_iconstv (v := (2 : Int32)) rfl (by decide +kernel) ?_
                  refine q_call rfl rfl rfl rfl ?_
                  refine q_iload_n rfl rfl ?_
                  refine q_iload_n rfl rfl ?_
                  refine q_ic_lt_f (t := 14) rfl (by decide) (i_nlt (a := (1 : Int)) (b := (0 : Int)) (by decide +kernel) (by decide +kernel) (by omega)) ?_
                  refine q_iload_n rfl rfl ?_
                  refine q_iload_n rfl rfl ?_
                  refine q_ic_gt_f (t := 14) rfl (by decide) (i_nlt_r (a := (1 : Int)) (b := (2 : Int)) (by decide +kernel) (by decide +kernel) (by omega)) ?_
                  refine q_iconstv (v := (1 : Int32)) rfl (by decide +kernel) ?_
                  refine q_goto (t := 15) rfl (by decide) ?_
                  refine q_zret rfl rfl (by decide) ?_
                  refine bk_inl ?_
                  refine q_if_eq_f (t := 39) rfl (by decide) (i_ne (a := (1 : Int)) (b := (0 : Int)) (by decide +kernel) (by decide +kernel) (by omega)) ?_
                  refine q_iconstv (v := (1 : Int32)) rfl (by decide +kernel) ?_
                  refine q_goto (t := 40) rfl (by decide) ?_
                  refine q_iconstv (v := (1 : Int32)) rfl (by decide +kernel) ?_
                  refine q_iconstv (v := (1 : Int32)) rfl (by decide +kernel) ?_
                  refine q_call rfl rfl rfl rfl ?_
                  refine q_iload_n rfl rfl ?_
                  refine q_if_ne_t (t := 26) rfl (by decide) (i_ne (a := (1 : Int)) (b := (0 : Int)) (by decide +kernel) (by decide +kernel) (by omega)) ?_
                  refine q_aload_n rfl rfl ?_
                  refine q_get rfl rfl rfl rfl ?_
                  refine q_if_ne_f (t := 37) rfl (by decide) (i_nne (a := (0 : Int)) (b := (0 : Int)) (by decide +kernel) (by decide +kernel) (by omega)) ?_
                  refine q_iconstv (v := (1 : Int32)) rfl (by decide +kernel) ?_
                  refine q_goto (t := 38) rfl (by decide) ?_
                  refine q_zret rfl rfl (by decide) ?_
                  refine bk_inl ?_
                  refine q_if_ne_t (t := 50) rfl (by decide) (i_ne (a := (1 : Int)) (b := (0 : Int)) (by decide +kernel) (by decide +kernel) (by omega)) ?_
                  refine q_iconstv (v := (0 : Int32)) rfl (by decide +kernel) ?_
                  refine q_istore rfl (by decide) ?_
                  refine q_iconstv (v := (-1 : Int32)) rfl (by decide +kernel) ?_
                  refine q_istore rfl (by decide) ?_
                  refine q_iconstv (v := (0 : Int32)) rfl (by decide +kernel) ?_
                  refine q_istore rfl (by decide) ?_
                  refine q_iload rfl rfl ?_
                  refine q_iconstv (v := (4 : Int32)) rfl (by decide +kernel) ?_
                  refine q_ic_ge_f (t := 156) rfl (by decide) (i_nle_r (a := (0 : Int)) (b := (4 : Int)) (by decide +kernel) (by decide +kernel) (by omega)) ?_
                  refine q_iload rfl rfl ?_
                  refine q_iconstv (v := (2 : Int32)) rfl (by decide +kernel) ?_
                  refine q_idivv (v := (0 : Int32)) rfl (by decide) (by decide +kernel) ?_
                  refine q_istore rfl (by decide) ?_
                  refine q_iload rfl rfl ?_
                  refine q_iconstv (v := (2 : Int32)) rfl (by decide +kernel) ?_
                  refine q_iremv (v := (0 : Int32)) rfl (by decide) (by decide +kernel) ?_
                  refine q_istore rfl (by decide) ?_
                  refine q_iconstv (v := (1 : Int32)) rfl (by decide +kernel) ?_
                  refine q_iload rfl rfl ?_
                  refine q_isubv (v := (1 : Int32)) rfl (by decide +kernel) ?_
                  refine q_iload rfl rfl ?_
                  refine q_iload_n rfl rfl ?_
                  refine q_iload_n rfl rfl ?_
                  refine q_call rfl rfl rfl rfl ?_
                  refine q_iload_n rfl rfl ?_
                  refine q_if_ne_t (t := 18) rfl (by decide) (i_ne (a := (1 : Int)) (b := (0 : Int)) (by decide +kernel) (by decide +kernel) (by omega)) ?_
                  refine q_iload_n rfl rfl ?_
                  refine q_iconstv (v := (1 : Int32)) rfl (by decide +kernel) ?_
                  refine q_ic_ne_t (t := 29) rfl (by decide) (i_ne (a := (0 : Int)) (b := (1 : Int)) (by decide +kernel) (by decide +kernel) (by omega)) ?_
                  refine q_iload_n rfl rfl ?_
                  refine q_iret rfl rfl ?_
                  refine bk_inl ?_
                  refine q_iload rfl rfl ?_
                  refine q_iload rfl rfl ?_
                  refine q_iload_n rfl rfl ?_
                  refine q_iload_n rfl rfl ?_
                  refine q_call rfl rfl rfl rfl ?_
                  refine q_iload_n rfl rfl ?_
                  refine q_if_ne_f (t := 18) rfl (by decide) (i_nne (a := (0 : Int)) (b := (0 : Int)) (by decide +kernel) (by decide +kernel) (by omega)) ?_
                  refine q_iload_n rfl rfl ?_
                  refine q_if_ne_f (t := 14) rfl (by decide) (i_nne (a := (0 : Int)) (b := (0 : Int)) (by decide +kernel) (by decide +kernel) (by omega)) ?_
                  refine q_iload_n rfl rfl ?_
                  refine q_iconstv (v := (2 : Int32)) rfl (by decide +kernel) ?_
                  refine q_idiv rfl (i_ne (a := (2 : Int)) (b := 0) (by decide +kernel) (by decide +kernel) (by omega)) ?_
                  refine q_goto (t := 30) rfl (by decide) ?_
                  refine q_iret rfl rfl ?_
                  refine bk_inl ?_
                  refine q_ic_gt_f (t := 150) rfl (by decide) (i_nlt_r (a := (x2).toInt) (b := ((x1 / (2 : Int32))).toInt) rfl rfl (by omega)) ?_
                  refine q_iconstv (v := (1 : Int32)) rfl (by decide +kernel) ?_
                  refine q_iload rfl rfl ?_
                  refine q_isubv (v := (1 : Int32)) rfl (by decide +kernel) ?_
                  refine q_iload rfl rfl ?_
                  refine q_iload_n rfl rfl ?_
                  refine q_iload_n rfl rfl ?_
                  refine q_call rfl rfl rfl rfl ?_
                  refine q_iload_n rfl rfl ?_
                  refine q_if_ne_t (t := 18) rfl (by decide) (i_ne (a := (1 : Int)) (b := (0 : Int)) (by decide +kernel) (by decide +kernel) (by omega)) ?_
                  refine q_iload_n rfl rfl ?_
                  refine q_iconstv (v := (1 : Int32)) rfl (by decide +kernel) ?_
                  refine q_ic_ne_t (t := 29) rfl (by decide) (i_ne (a := (0 : Int)) (b := (1 : Int)) (by decide +kernel) (by decide +kernel) (by omega)) ?_
                  refine q_iload_n rfl rfl ?_
                  refine q_iret rfl rfl ?_
                  refine bk_inl ?_
                  refine q_iload rfl rfl ?_
                  refine q_iload rfl rfl ?_
                  refine q_iload_n rfl rfl ?_
                  refine q_iload_n rfl rfl ?_
                  refine q_call rfl rfl rfl rfl ?_
                  refine q_iload_n rfl rfl ?_
                  refine q_if_ne_f (t := 18) rfl (by decide) (i_nne (a := (0 : Int)) (b := (0 : Int)) (by decide +kernel) (by decide +kernel) (by omega)) ?_
                  refine q_iload_n rfl rfl ?_
                  refine q_if_ne_f (t := 14) rfl (by decide) (i_nne (a := (0 : Int)) (b := (0 : Int)) (by decide +kernel) (by decide +kernel) (by omega)) ?_
                  refine q_iload_n rfl rfl ?_
                  refine q_iconstv (v := (2 : Int32)) rfl (by decide +kernel) ?_
                  refine q_idiv rfl (i_ne (a := (2 : Int)) (b := 0) (by decide +kernel) (by decide +kernel) (by omega)) ?_
                  refine q_goto (t := 30) rfl (by decide) ?_
                  refine q_iret rfl rfl ?_
                  refine bk_inl ?_
                  refine q_ic_le_t (t := 126) rfl (by decide) (i_le (a := (x2).toInt) (b := ((x1 / (2 : Int32))).toInt) rfl rfl (by omega)) ?_
                  refine q_iincv (v := (1 : Int32)) rfl rfl (by decide) (by decide +kernel) ?_
                  refine q_iload rfl rfl ?_
                  refine q_iconstv (v := (-1 : Int32)) rfl (by decide +kernel) ?_
                  refine q_ic_ne_f (t := 146) rfl (by decide) (i_nne (a := (-1 : Int)) (b := (-1 : Int)) (by decide +kernel) (by decide +kernel) (by omega)) ?_
                  refine q_bipushv (v := (10 : Int32)) rfl (by decide +kernel) ?_
                  refine q_iload rfl rfl ?_
                  refine q_imulv (v := (0 : Int32)) rfl (by decide +kernel) ?_
                  refine q_iload rfl rfl ?_
                  refine q_iaddv (v := (0 : Int32)) rfl (by decide +kernel) ?_
                  refine q_goto (t := 148) rfl (by decide) ?_
                  refine q_istore rfl (by decide) ?_
                  refine q_iincv (v := (1 : Int32)) rfl rfl (by decide) (by decide +kernel) ?_
                  refine q_goto (t := 59) rfl (by decide) ?_
                  refine q_iload rfl rfl ?_
                  refine q_iconstv (v := (4 : Int32)) rfl (by decide +kernel) ?_
                  refine q_ic_ge_f (t := 156) rfl (by decide) (i_nle_r (a := (1 : Int)) (b := (4 : Int)) (by decide +kernel) (by decide +kernel) (by omega)) ?_
                  refine q_iload rfl rfl ?_
                  refine q_iconstv (v := (2 : Int32)) rfl (by decide +kernel) ?_
                  refine q_idivv (v := (0 : Int32)) rfl (by decide) (by decide +kernel) ?_
                  refine q_istore rfl (by decide) ?_
                  refine q_iload rfl rfl ?_
                  refine q_iconstv (v := (2 : Int32)) rfl (by decide +kernel) ?_
                  refine q_iremv (v := (1 : Int32)) rfl (by decide) (by decide +kernel) ?_
                  refine q_istore rfl (by decide) ?_
                  refine q_iconstv (v := (1 : Int32)) rfl (by decide +kernel) ?_
                  refine q_iload rfl rfl ?_
                  refine q_isubv (v := (1 : Int32)) rfl (by decide +kernel) ?_
                  refine q_iload rfl rfl ?_
                  refine q_iload_n rfl rfl ?_
                  refine q_iload_n rfl rfl ?_
                  refine q_call rfl rfl rfl rfl ?_
                  refine q_iload_n rfl rfl ?_
                  refine q_if_ne_t (t := 18) rfl (by decide) (i_ne (a := (1 : Int)) (b := (0 : Int)) (by decide +kernel) (by decide +kernel) (by omega)) ?_
                  refine q_iload_n rfl rfl ?_
                  refine q_iconstv (v := (1 : Int32)) rfl (by decide +kernel) ?_
                  refine q_ic_ne_f (t := 29) rfl (by decide) (i_nne (a := (1 : Int)) (b := (1 : Int)) (by decide +kernel) (by decide +kernel) (by omega)) ?_
                  refine q_iload_n rfl rfl ?_
                  refine q_iconstv (v := (2 : Int32)) rfl (by decide +kernel) ?_
                  refine q_idiv rfl (i_ne (a := (2 : Int)) (b := 0) (by decide +kernel) (by decide +kernel) (by omega)) ?_
                  refine q_goto (t := 30) rfl (by decide) ?_
                  refine q_iret rfl rfl ?_
                  refine bk_inl ?_
                  refine q_iload rfl rfl ?_
                  refine q_iload rfl rfl ?_
                  refine q_iload_n rfl rfl ?_
                  refine q_iload_n rfl rfl ?_
                  refine q_call rfl rfl rfl rfl ?_
                  refine q_iload_n rfl rfl ?_
                  refine q_if_ne_f (t := 18) rfl (by decide) (i_nne (a := (0 : Int)) (b := (0 : Int)) (by decide +kernel) (by decide +kernel) (by omega)) ?_
                  refine q_iload_n rfl rfl ?_
                  refine q_if_ne_t (t := 14) rfl (by decide) (i_ne (a := (1 : Int)) (b := (0 : Int)) (by decide +kernel) (by decide +kernel) (by omega)) ?_
                  refine q_iload_n rfl rfl ?_
                  refine q_goto (t := 30) rfl (by decide) ?_
                  refine q_iret rfl rfl ?_
                  refine bk_inl ?_
                  refine q_ic_gt_f (t := 150) rfl (by decide) (i_nlt_r (a := ((x2 / (2 : Int32))).toInt) (b := (x1).toInt) rfl rfl (by omega)) ?_
                  refine q_iconstv (v := (1 : Int32)) rfl (by decide +kernel) ?_
                  refine q_iload rfl rfl ?_
                  refine q_isubv (v := (0 : Int32)) rfl (by decide +kernel) ?_
                  refine q_iload rfl rfl ?_
                  refine q_iload_n rfl rfl ?_
                  refine q_iload_n rfl rfl ?_
                  refine q_call rfl rfl rfl rfl ?_
                  refine q_iload_n rfl rfl ?_
                  refine q_if_ne_f (t := 18) rfl (by decide) (i_nne (a := (0 : Int)) (b := (0 : Int)) (by decide +kernel) (by decide +kernel) (by omega)) ?_
                  refine q_iload_n rfl rfl ?_
                  refine q_if_ne_f (t := 14) rfl (by decide) (i_nne (a := (0 : Int)) (b := (0 : Int)) (by decide +kernel) (by decide +kernel) (by omega)) ?_
                  refine q_iload_n rfl rfl ?_
                  refine q_iconstv (v := (2 : Int32)) rfl (by decide +kernel) ?_
                  refine q_idiv rfl (i_ne (a := (2 : Int)) (b := 0) (by decide +kernel) (by decide +kernel) (by omega)) ?_
                  refine q_goto (t := 30) rfl (by decide) ?_
                  refine q_iret rfl rfl ?_
                  refine bk_inl ?_
                  refine q_iload rfl rfl ?_
                  refine q_iload rfl rfl ?_
                  refine q_iload_n rfl rfl ?_
                  refine q_iload_n rfl rfl ?_
                  refine q_call rfl rfl rfl rfl ?_
                  refine q_iload_n rfl rfl ?_
                  refine q_if_ne_t (t := 18) rfl (by decide) (i_ne (a := (1 : Int)) (b := (0 : Int)) (by decide +kernel) (by decide +kernel) (by omega)) ?_
                  refine q_iload_n rfl rfl ?_
                  refine q_iconstv (v := (1 : Int32)) rfl (by decide +kernel) ?_
                  refine q_ic_ne_t (t := 29) rfl (by decide) (i_ne (a := (0 : Int)) (b := (1 : Int)) (by decide +kernel) (by decide +kernel) (by omega)) ?_
                  refine q_iload_n rfl rfl ?_
                  refine q_iret rfl rfl ?_
                  refine bk_inl ?_
                  refine q_ic_le_f (t := 126) rfl (by decide) (i_nle (a := ((x1 / (2 : Int32))).toInt) (b := (x2).toInt) rfl rfl (by omega)) ?_
                  refine q_goto (t := 150) rfl (by decide) ?_
                  refine q_iincv (v := (2 : Int32)) rfl rfl (by decide) (by decide +kernel) ?_
                  refine q_goto (t := 59) rfl (by decide) ?_
                  refine q_iload rfl rfl ?_
                  refine q_iconstv (v := (4 : Int32)) rfl (by decide +kernel) ?_
                  refine q_ic_ge_f (t := 156) rfl (by decide) (i_nle_r (a := (2 : Int)) (b := (4 : Int)) (by decide +kernel) (by decide +kernel) (by omega)) ?_
                  refine q_iload rfl rfl ?_
                  refine q_iconstv (v := (2 : Int32)) rfl (by decide +kernel) ?_
                  refine q_idivv (v := (1 : Int32)) rfl (by decide) (by decide +kernel) ?_
                  refine q_istore rfl (by decide) ?_
                  refine q_iload rfl rfl ?_
                  refine q_iconstv (v := (2 : Int32)) rfl (by decide +kernel) ?_
                  refine q_iremv (v := (0 : Int32)) rfl (by decide) (by decide +kernel) ?_
                  refine q_istore rfl (by decide) ?_
                  refine q_iconstv (v := (1 : Int32)) rfl (by decide +kernel) ?_
                  refine q_iload rfl rfl ?_
                  refine q_isubv (v := (0 : Int32)) rfl (by decide +kernel) ?_
                  refine q_iload rfl rfl ?_
                  refine q_iload_n rfl rfl ?_
                  refine q_iload_n rfl rfl ?_
                  refine q_call rfl rfl rfl rfl ?_
                  refine q_iload_n rfl rfl ?_
                  refine q_if_ne_f (t := 18) rfl (by decide) (i_nne (a := (0 : Int)) (b := (0 : Int)) (by decide +kernel) (by decide +kernel) (by omega)) ?_
                  refine q_iload_n rfl rfl ?_
                  refine q_if_ne_f (t := 14) rfl (by decide) (i_nne (a := (0 : Int)) (b := (0 : Int)) (by decide +kernel) (by decide +kernel) (by omega)) ?_
                  refine q_iload_n rfl rfl ?_
                  refine q_iconstv (v := (2 : Int32)) rfl (by decide +kernel) ?_
                  refine q_idiv rfl (i_ne (a := (2 : Int)) (b := 0) (by decide +kernel) (by decide +kernel) (by omega)) ?_
                  refine q_goto (t := 30) rfl (by decide) ?_
                  refine q_iret rfl rfl ?_
                  refine bk_inl ?_
                  refine q_iload rfl rfl ?_
                  refine q_iload rfl rfl ?_
                  refine q_iload_n rfl rfl ?_
                  refine q_iload_n rfl rfl ?_
                  refine q_call rfl rfl rfl rfl ?_
                  refine q_iload_n rfl rfl ?_
                  refine q_if_ne_t (t := 18) rfl (by decide) (i_ne (a := (1 : Int)) (b := (0 : Int)) (by decide +kernel) (by decide +kernel) (by omega)) ?_
                  refine q_iload_n rfl rfl ?_
                  refine q_iconstv (v := (1 : Int32)) rfl (by decide +kernel) ?_
                  refine q_ic_ne_t (t := 29) rfl (by decide) (i_ne (a := (0 : Int)) (b := (1 : Int)) (by decide +kernel) (by decide +kernel) (by omega)) ?_
                  refine q_iload_n rfl rfl ?_
                  refine q_iret rfl rfl ?_
                  refine bk_inl ?_
                  refine q_ic_gt_t (t := 150) rfl (by decide) (i_lt_r (a := ((x1 / (2 : Int32))).toInt) (b := (x2).toInt) rfl rfl (by omega)) ?_
                  refine q_iincv (v := (3 : Int32)) rfl rfl (by decide) (by decide +kernel) ?_
                  refine q_goto (t := 59) rfl (by decide) ?_
                  refine q_iload rfl rfl ?_
                  refine q_iconstv (v := (4 : Int32)) rfl (by decide +kernel) ?_
                  refine q_ic_ge_f (t := 156) rfl (by decide) (i_nle_r (a := (3 : Int)) (b := (4 : Int)) (by decide +kernel) (by decide +kernel) (by omega)) ?_
                  refine q_iload rfl rfl ?_
                  refine q_iconstv (v := (2 : Int32)) rfl (by decide +kernel) ?_
                  refine q_idivv (v := (1 : Int32)) rfl (by decide) (by decide +kernel) ?_
                  refine q_istore rfl (by decide) ?_
                  refine q_iload rfl rfl ?_
                  refine q_iconstv (v := (2 : Int32)) rfl (by decide +kernel) ?_
                  refine q_iremv (v := (1 : Int32)) rfl (by decide) (by decide +kernel) ?_
                  refine q_istore rfl (by decide) ?_
                  refine q_iconstv (v := (1 : Int32)) rfl (by decide +kernel) ?_
                  refine q_iload rfl rfl ?_
                  refine q_isubv (v := (0 : Int32)) rfl (by decide +kernel) ?_
                  refine q_iload rfl rfl ?_
                  refine q_iload_n rfl rfl ?_
                  refine q_iload_n rfl rfl ?_
                  refine q_call rfl rfl rfl rfl ?_
                  refine q_iload_n rfl rfl ?_
                  refine q_if_ne_f (t := 18) rfl (by decide) (i_nne (a := (0 : Int)) (b := (0 : Int)) (by decide +kernel) (by decide +kernel) (by omega)) ?_
                  refine q_iload_n rfl rfl ?_
                  refine q_if_ne_t (t := 14) rfl (by decide) (i_ne (a := (1 : Int)) (b := (0 : Int)) (by decide +kernel) (by decide +kernel) (by omega)) ?_
                  refine q_iload_n rfl rfl ?_
                  refine q_goto (t := 30) rfl (by decide) ?_
                  refine q_iret rfl rfl ?_
                  refine bk_inl ?_
                  refine q_iload rfl rfl ?_
                  refine q_iload rfl rfl ?_
                  refine q_iload_n rfl rfl ?_
                  refine q_iload_n rfl rfl ?_
                  refine q_call rfl rfl rfl rfl ?_
                  refine q_iload_n rfl rfl ?_
                  refine q_if_ne_t (t := 18) rfl (by decide) (i_ne (a := (1 : Int)) (b := (0 : Int)) (by decide +kernel) (by decide +kernel) (by omega)) ?_
                  refine q_iload_n rfl rfl ?_
                  refine q_iconstv (v := (1 : Int32)) rfl (by decide +kernel) ?_
                  refine q_ic_ne_f (t := 29) rfl (by decide) (i_nne (a := (1 : Int)) (b := (1 : Int)) (by decide +kernel) (by decide +kernel) (by omega)) ?_
                  refine q_iload_n rfl rfl ?_
                  refine q_iconstv (v := (2 : Int32)) rfl (by decide +kernel) ?_
                  refine q_idiv rfl (i_ne (a := (2 : Int)) (b := 0) (by decide +kernel) (by decide +kernel) (by omega)) ?_
                  refine q_goto (t := 30) rfl (by decide) ?_
                  refine q_iret rfl rfl ?_
                  refine bk_inl ?_
                  refine q_ic_gt_t (t := 150) rfl (by decide) (i_lt_r (a := (x1).toInt) (b := ((x2 / (2 : Int32))).toInt) rfl rfl (by omega)) ?_
                  refine q_iincv (v := (4 : Int32)) rfl rfl (by decide) (by decide +kernel) ?_
                  refine q_goto (t := 59) rfl (by decide) ?_
                  refine q_iload rfl rfl ?_
                  refine q_iconstv (v := (4 : Int32)) rfl (by decide +kernel) ?_
                  refine q_ic_ge_t (t := 156) rfl (by decide) (i_le_r (a := (4 : Int)) (b := (4 : Int)) (by decide +kernel) (by decide +kernel) (by omega)) ?_
                  refine q_iload_n rfl rfl ?_
                  refine q_if_ne_t (t := 165) rfl (by decide) (i_ne (a := (1 : Int)) (b := (0 : Int)) (by decide +kernel) (by decide +kernel) (by omega)) ?_
                  refine q_iload_n rfl rfl ?_
                  refine q_iconstv (v := (1 : Int32)) rfl (by decide +kernel) ?_
                  refine q_ic_ne_f (t := 175) rfl (by decide) (i_nne (a := (1 : Int)) (b := (1 : Int)) (by decide +kernel) (by decide +kernel) (by omega)) ?_
                  refine q_iload rfl rfl ?_
                  refine q_goto (t := 216) rfl (by decide) ?_
                  refine q_iret rfl rfl ?_
                  refine bk_inl ?_
                  refine q_istore rfl (by decide) ?_
                  refine q_aload_n rfl rfl ?_
                  refine q_call rfl rfl rfl rfl ?_
                  refine q_aload_n rfl rfl ?_
                  refine q_get rfl rfl rfl rfl ?_
                  refine q_iret rfl rfl ?_
                  refine bk_inl ?_
                  refine q_iload rfl rfl ?_
                  refine q_ic_eq_t (t := 1774) rfl (by decide) (i_eq (a := (0 : Int)) (b := (0 : Int)) (by decide +kernel) (by decide +kernel) (by omega)) ?_
                  refine q_iload rfl rfl ?_
                  refine q_if_ne_f (t := 1791) rfl (by decide) (i_nne (a := (0 : Int)) (b := (0 : Int)) (by decide +kernel) (by decide +kernel) (by omega)) ?_
                  refine q_aload_n rfl rfl ?_
                  refine q_iconstv (v := (0 : Int32)) rfl (by decide +kernel) ?_
                  refine q_laloadv (m := 0) rfl (by decide) rfl (by decide +kernel) rfl ?_
                  refine q_iload rfl rfl ?_
                  refine q_i2lv (v := (0 : Int64)) rfl (by decide +kernel) ?_
                  refine q_lcmpv (v := (0 : Int32)) rfl (by decide +kernel) ?_
                  refine q_if_eq_t (t := 1791) rfl (by decide) (i_eq (a := (0 : Int)) (b := (0 : Int)) (by decide +kernel) (by decide +kernel) (by omega)) ?_
                  refine q_goto (t := 2739) rfl (by decide) ?_
                  refine q_iincv (v := (8 : Int32)) rfl rfl (by decide) (by decide +kernel) ?_
                  refine q_goto (t := 23) rfl (by decide) ?_
                  exact q_end rfl rfl (by decide) (by decide)
                · refine q_ic_gt_f (t := 147) rfl (by decide) (i_nlt_r (a := (x1).toInt) (b := ((x2 / (2 : Int32))).toInt) rfl rfl (by omega)) ?_
                  refine q_iconstv (v := (1 : Int32)) rfl (by decide +kernel) ?_
                  refine q_iload rfl rfl ?_
                  refine q_isubv (v := (0 : Int32)) rfl (by decide +kernel) ?_
                  refine q_iload rfl rfl ?_
                  refine q_iload_n rfl rfl ?_
                  refine q_iload_n rfl rfl ?_
                  refine q_call rfl rfl rfl rfl ?_
                  refine q_iload_n rfl rfl ?_
                  refine q_if_ne_f (t := 8) rfl (by decide) (i_nne (a := (0 : Int)) (b := (0 : Int)) (by decide +kernel) (by decide +kernel) (by omega)) ?_
                  refine q_iload_n rfl rfl ?_
                  refine q_goto (t := 9) rfl (by decide) ?_
                  refine q_istore rfl (by decide) ?_
                  refine q_iload_n rfl rfl ?_
                  refine q_iload_n rfl rfl ?_
                  refine q_ic_ne_t (t := 23) rfl (by decide) (i_ne (a := (0 : Int)) (b := (1 : Int)) (by decide +kernel) (by decide +kernel) (by omega)) ?_
                  refine q_iload rfl rfl ?_
                  refine q_iret rfl rfl ?_
                  refine bk_inl ?_
                  refine q_iload rfl rfl ?_
                  refine q_ic_gt_f (t := 147) rfl (by decide) (i_nlt_r (a := (x1).toInt) (b := ((x2 / (2 : Int32))).toInt) rfl rfl (by omega)) ?_
                  refine q_iload rfl rfl ?_
                  refine q_if_ne_t (t := 144) rfl (by decide) (i_ne (a := (1 : Int)) (b := (0 : Int)) (by decide +kernel) (by decide +kernel) (by omega)) ?_
                  refine q_iincv (v := (2 : Int32)) rfl rfl (by decide) (by decide +kernel) ?_
                  refine q_iincv (v := (4 : Int32)) rfl rfl (by decide) (by decide +kernel) ?_
                  refine q_goto (t := 50) rfl (by decide) ?_
                  refine q_iload rfl rfl ?_
                  refine q_iconstv (v := (4 : Int32)) rfl (by decide +kernel) ?_
                  refine q_ic_ge_t (t := 153) rfl (by decide) (i_le_r (a := (4 : Int)) (b := (4 : Int)) (by decide +kernel) (by decide +kernel) (by omega)) ?_
                  refine q_iload_n rfl rfl ?_
                  refine q_lsw (t := 183) (off := 29) rfl (by decide) (by decide +kernel) (by decide) ?_
                  refine q_iload rfl rfl ?_
                  refine q_iret rfl rfl ?_
                  refine bk_inl ?_
                  refine q_i2lv (v := (0 : Int64)) rfl (by decide +kernel) ?_
                  refine q_lastorev (m := 0) (w9 := w1) rfl (by decide) rfl (by decide +kernel) (by decide) rfl ?_
                  refine q_goto (t := 19) rfl (by decide) ?_
                  refine q_iconstv (v := (0 : Int32)) rfl (by decide +kernel) ?_
                  refine q_iret rfl rfl ?_
                  refine bk_inl ?_
                  refine q_istore rfl (by decide) ?_
                  refine q_aload_n rfl rfl ?_
                  refine q_aload_n rfl rfl ?_
                  refine q_iload rfl rfl ?_
                  refine q_iconstv (v := (1 : Int32)) rfl (by decide +kernel) ?_
                  refine q_iaddv (v := (1 : Int32)) rfl (by decide +kernel) ?_
                  refine q_script rfl (by decide) rfl ?_
                  refine q_aload_n rfl rfl ?_
                  refine q_iload rfl rfl ?_
                  refine q_iconstv (v := (2 : Int32)) rfl (by decide +kernel) ?_
                  refine q_iaddv (v := (2 : Int32)) rfl (by decide +kernel) ?_
                  refine q_script rfl (by decide) rfl ?_
                  refine q_aload_n rfl rfl ?_
                  refine q_iload rfl rfl ?_
                  refine q_iconstv (v := (3 : Int32)) rfl (by decide +kernel) ?_
                  refine q_iaddv (v := (3 : Int32)) rfl (by decide +kernel) ?_
                  refine q_script rfl (by decide) rfl ?_
                  refine q_call rfl rfl rfl rfl ?_
                  refine q_aload_n rfl rfl ?_
                  refine q_iconstv (v := (0 : Int32)) rfl (by decide +kernel) ?_
                  refine q_putv (w9 := w1) rfl rfl rfl (by decide) rfl (by decide) rfl ?_
                  refine q_aload_n rfl rfl ?_
                  refine q_iload_n rfl rfl ?_
                  refine q_iconstv (v := (0 : Int32)) rfl (by decide +kernel) ?_
                  refine q_bipushv (v := (99 : Int32)) rfl (by decide +kernel) ?_
                  refine q_call rfl rfl rfl rfl ?_
                  refine q_iload_n rfl rfl ?_
                  refine q_iload_n rfl rfl ?_
                  refine q_ic_lt_f (t := 14) rfl (by decide) (i_nlt (a := (x1).toInt) (b := (0 : Int)) rfl (by decide +kernel) (by omega)) ?_
                  refine q_iload_n rfl rfl ?_
                  refine q_iload_n rfl rfl ?_
                  refine q_ic_gt_f (t := 14) rfl (by decide) (i_nlt_r (a := (x1).toInt) (b := (99 : Int)) rfl (by decide +kernel) (by omega)) ?_
                  refine q_iconstv (v := (1 : Int32)) rfl (by decide +kernel) ?_
                  refine q_goto (t := 15) rfl (by decide) ?_
                  refine q_zret rfl rfl (by decide) ?_
                  refine bk_inl ?_
                  refine q_if_eq_f (t := 39) rfl (by decide) (i_ne (a := (1 : Int)) (b := (0 : Int)) (by decide +kernel) (by decide +kernel) (by omega)) ?_
                  refine q_iload_n rfl rfl ?_
                  refine q_iconstv (v := (0 : Int32)) rfl (by decide +kernel) ?_
                  refine q_bipushv (v := (99 : Int32)) rfl (by decide +kernel) ?_
                  refine q_call rfl rfl rfl rfl ?_
                  refine q_iload_n rfl rfl ?_
                  refine q_iload_n rfl rfl ?_
                  refine q_ic_lt_f (t := 14) rfl (by decide) (i_nlt (a := (x2).toInt) (b := (0 : Int)) rfl (by decide +kernel) (by omega)) ?_
                  refine q_iload_n rfl rfl ?_
                  refine q_iload_n rfl rfl ?_
                  refine q_ic_gt_f (t := 14) rfl (by decide) (i_nlt_r (a := (x2).toInt) (b := (99 : Int)) rfl (by decide +kernel) (by omega)) ?_
                  refine q_iconstv (v := (1 : Int32)) rfl (by decide +kernel) ?_
                  refine q_goto (t := 15) rfl (by decide) ?_
                  refine q_zret rfl rfl (by decide) ?_
                  refine bk_inl ?_
                  refine q_if_eq_f (t := 39) rfl (by decide) (i_ne (a := (1 : Int)) (b := (0 : Int)) (by decide +kernel) (by decide +kernel) (by omega)) ?_
                  refine q_iload_n rfl rfl ?_
                  refine q_iconstv (v := (0 : Int32)) rfl (by decide +kernel) ?_
                  refine q_iconstv (v := (2 : Int32)) rfl (by decide +kernel) ?_
                  refine q_call rfl rfl rfl rfl ?_
                  refine q_iload_n rfl rfl ?_
                  refine q_iload_n rfl rfl ?_
                  refine q_ic_lt_f (t := 14) rfl (by decide) (i_nlt (a := (1 : Int)) (b := (0 : Int)) (by decide +kernel) (by decide +kernel) (by omega)) ?_
                  refine q_iload_n rfl rfl ?_
                  refine q_iload_n rfl rfl ?_
                  refine q_ic_gt_f (t := 14) rfl (by decide) (i_nlt_r (a := (1 : Int)) (b := (2 : Int)) (by decide +kernel) (by decide +kernel) (by omega)) ?_
                  refine q_iconstv (v := (1 : Int32)) rfl (by decide +kernel) ?_
                  refine q_goto (t := 15) rfl (by decide) ?_
                  refine q_zret rfl rfl (by decide) ?_
                  refine bk_inl ?_
                  refine q_if_eq_f (t := 39) rfl (by decide) (i_ne (a := (1 : Int)) (b := (0 : Int)) (by decide +kernel) (by decide +kernel) (by omega)) ?_
                  refine q_iconstv (v := (1 : Int32)) rfl (by decide +kernel) ?_
                  refine q_goto (t := 40) rfl (by decide) ?_
                  refine q_iconstv (v := (1 : Int32)) rfl (by decide +kernel) ?_
                  refine q_iconstv (v := (1 : Int32)) rfl (by decide +kernel) ?_
                  refine q_call rfl rfl rfl rfl ?_
                  refine q_iload_n rfl rfl ?_
                  refine q_if_ne_t (t := 26) rfl (by decide) (i_ne (a := (1 : Int)) (b := (0 : Int)) (by decide +kernel) (by decide +kernel) (by omega)) ?_
                  refine q_aload_n rfl rfl ?_
                  refine q_get rfl rfl rfl rfl ?_
                  refine q_if_ne_f (t := 37) rfl (by decide) (i_nne (a := (0 : Int)) (b := (0 : Int)) (by decide +kernel) (by decide +kernel) (by omega)) ?_
                  refine q_iconstv (v := (1 : Int32)) rfl (by decide +kernel) ?_
                  refine q_goto (t := 38) rfl (by decide) ?_
                  refine q_zret rfl rfl (by decide) ?_
                  refine bk_inl ?_
                  refine q_if_ne_t (t := 50) rfl (by decide) (i_ne (a := (1 : Int)) (b := (0 : Int)) (by decide +kernel) (by decide +kernel) (by omega)) ?_
                  refine q_iconstv (v := (0 : Int32)) rfl (by decide +kernel) ?_
                  refine q_istore rfl (by decide) ?_
                  refine q_iconstv (v := (-1 : Int32)) rfl (by decide +kernel) ?_
                  refine q_istore rfl (by decide) ?_
                  refine q_iconstv (v := (0 : Int32)) rfl (by decide +kernel) ?_
                  refine q_istore rfl (by decide) ?_
                  refine q_iload rfl rfl ?_
                  refine q_iconstv (v := (4 : Int32)) rfl (by decide +kernel) ?_
                  refine q_ic_ge_f (t := 156) rfl (by decide) (i_nle_r (a := (0 : Int)) (b := (4 : Int)) (by decide +kernel) (by decide +kernel) (by omega)) ?_
                  refine q_iload rfl rfl ?_
                  refine q_iconstv (v := (2 : Int32)) rfl (by decide +kernel) ?_
                  refine q_idivv (v := (0 : Int32)) rfl (by decide) (by decide +kernel) ?_
                  refine q_istore rfl (by decide) ?_
                  refine q_iload rfl rfl ?_
                  refine q_iconstv (v := (2 : Int32)) rfl (by decide +kernel) ?_
                  refine q_iremv (v := (0 : Int32)) rfl (by decide) (by decide +kernel) ?_
                  refine q_istore rfl (by decide) ?_
                  refine q_iconstv (v := (1 : Int32)) rfl (by decide +kernel) ?_
                  refine q_iload rfl rfl ?_
                  refine q_isubv (v := (1 : Int32)) rfl (by decide +kernel) ?_
                  refine q_iload rfl rfl ?_
                  refine q_iload_n rfl rfl ?_
                  refine q_iload_n rfl rfl ?_
                  refine q_call rfl rfl rfl rfl ?_
                  refine q_iload_n rfl rfl ?_
                  refine q_if_ne_t (t := 18) rfl (by decide) (i_ne (a := (1 : Int)) (b := (0 : Int)) (by decide +kernel) (by decide +kernel) (by omega)) ?_
                  refine q_iload_n rfl rfl ?_
                  refine q_iconstv (v := (1 : Int32)) rfl (by decide +kernel) ?_
                  refine q_ic_ne_t (t := 29) rfl (by decide) (i_ne (a := (0 : Int)) (b := (1 : Int)) (by decide +kernel) (by decide +kernel) (by omega)) ?_
                  refine q_iload_n rfl rfl ?_
                  refine q_iret rfl rfl ?_
                  refine bk_inl ?_
                  refine q_iload rfl rfl ?_
                  refine q_iload rfl rfl ?_
                  refine q_iload_n rfl rfl ?_
                  refine q_iload_n rfl rfl ?_
                  refine q_call rfl rfl rfl rfl ?_
                  refine q_iload_n rfl rfl ?_
                  refine q_if_ne_f (t := 18) rfl (by decide) (i_nne (a := (0 : Int)) (b := (0 : Int)) (by decide +kernel) (by decide +kernel) (by omega)) ?_
                  refine q_iload_n rfl rfl ?_
                  refine q_if_ne_f (t := 14) rfl (by decide) (i_nne (a := (0 : Int)) (b := (0 : Int)) (by decide +kernel) (by decide +kernel) (by omega)) ?_
                  refine q_iload_n rfl rfl ?_
                  refine q_iconstv (v := (2 : Int32)) rfl (by decide +kernel) ?_
                  refine q_idiv rfl (i_ne (a := (2 : Int)) (b := 0) (by decide +kernel) (by decide +kernel) (by omega)) ?_
                  refine q_goto (t := 30) rfl (by decide) ?_
                  refine q_iret rfl rfl ?_
                  refine bk_inl ?_
                  refine q_ic_gt_f (t := 150) rfl (by decide) (i_nlt_r (a := (x2).toInt) (b := ((x1 / (2 : Int32))).toInt) rfl rfl (by omega)) ?_
                  refine q_iconstv (v := (1 : Int32)) rfl (by decide +kernel) ?_
                  refine q_iload rfl rfl ?_
                  refine q_isubv (v := (1 : Int32)) rfl (by decide +kernel) ?_
                  refine q_iload rfl rfl ?_
                  refine q_iload_n rfl rfl ?_
                  refine q_iload_n rfl rfl ?_
                  refine q_call rfl rfl rfl rfl ?_
                  refine q_iload_n rfl rfl ?_
                  refine q_if_ne_t (t := 18) rfl (by decide) (i_ne (a := (1 : Int)) (b := (0 : Int)) (by decide +kernel) (by decide +kernel) (by omega)) ?_
                  refine q_iload_n rfl rfl ?_
                  refine q_iconstv (v := (1 : Int32)) rfl (by decide +kernel) ?_
                  refine q_ic_ne_t (t := 29) rfl (by decide) (i_ne (a := (0 : Int)) (b := (1 : Int)) (by decide +kernel) (by decide +kernel) (by omega)) ?_
                  refine q_iload_n rfl rfl ?_
                  refine q_iret rfl rfl ?_
                  refine bk_inl ?_
                  refine q_iload rfl rfl ?_
                  refine q_iload rfl rfl ?_
                  refine q_iload_n rfl rfl ?_
                  refine q_iload_n rfl rfl ?_
                  refine q_call rfl rfl rfl rfl ?_
                  refine q_iload_n rfl rfl ?_
                  refine q_if_ne_f (t := 18) rfl (by decide) (i_nne (a := (0 : Int)) (b := (0 : Int)) (by decide +kernel) (by decide +kernel) (by omega)) ?_
                  refine q_iload_n rfl rfl ?_
                  refine q_if_ne_f (t := 14) rfl (by decide) (i_nne (a := (0 : Int)) (b := (0 : Int)) (by decide +kernel) (by decide +kernel) (by omega)) ?_
                  refine q_iload_n rfl rfl ?_
                  refine q_iconstv (v := (2 : Int32)) rfl (by decide +kernel) ?_
                  refine q_idiv rfl (i_ne (a := (2 : Int)) (b := 0) (by decide +kernel) (by decide +kernel) (by omega)) ?_
                  refine q_goto (t := 30) rfl (by decide) ?_
                  refine q_iret rfl rfl ?_
                  refine bk_inl ?_
                  refine q_ic_le_t (t := 126) rfl (by decide) (i_le (a := (x2).toInt) (b := ((x1 / (2 : Int32))).toInt) rfl rfl (by omega)) ?_
                  refine q_iincv (v := (1 : Int32)) rfl rfl (by decide) (by decide +kernel) ?_
                  refine q_iload rfl rfl ?_
                  refine q_iconstv (v := (-1 : Int32)) rfl (by decide +kernel) ?_
                  refine q_ic_ne_f (t := 146) rfl (by decide) (i_nne (a := (-1 : Int)) (b := (-1 : Int)) (by decide +kernel) (by decide +kernel) (by omega)) ?_
                  refine q_bipushv (v := (10 : Int32)) rfl (by decide +kernel) ?_
                  refine q_iload rfl rfl ?_
                  refine q_imulv (v := (0 : Int32)) rfl (by decide +kernel) ?_
                  refine q_iload rfl rfl ?_
                  refine q_iaddv (v := (0 : Int32)) rfl (by decide +kernel) ?_
                  refine q_goto (t := 148) rfl (by decide) ?_
                  refine q_istore rfl (by decide) ?_
                  refine q_iincv (v := (1 : Int32)) rfl rfl (by decide) (by decide +kernel) ?_
                  refine q_goto (t := 59) rfl (by decide) ?_
                  refine q_iload rfl rfl ?_
                  refine q_iconstv (v := (4 : Int32)) rfl (by decide +kernel) ?_
                  refine q_ic_ge_f (t := 156) rfl (by decide) (i_nle_r (a := (1 : Int)) (b := (4 : Int)) (by decide +kernel) (by decide +kernel) (by omega)) ?_
                  refine q_iload rfl rfl ?_
                  refine q_iconstv (v := (2 : Int32)) rfl (by decide +kernel) ?_
                  refine q_idivv (v := (0 : Int32)) rfl (by decide) (by decide +kernel) ?_
                  refine q_istore rfl (by decide) ?_
                  refine q_iload rfl rfl ?_
                  refine q_iconstv (v := (2 : Int32)) rfl (by decide +kernel) ?_
                  refine q_iremv (v := (1 : Int32)) rfl (by decide) (by decide +kernel) ?_
                  refine q_istore rfl (by decide) ?_
                  refine q_iconstv (v := (1 : Int32)) rfl (by decide +kernel) ?_
                  refine q_iload rfl rfl ?_
                  refine q_isubv (v := (1 : Int32)) rfl (by decide +kernel) ?_
                  refine q_iload rfl rfl ?_
                  refine q_iload_n rfl rfl ?_
                  refine q_iload_n rfl rfl ?_
                  refine q_call rfl rfl rfl rfl ?_
                  refine q_iload_n rfl rfl ?_
                  refine q_if_ne_t (t := 18) rfl (by decide) (i_ne (a := (1 : Int)) (b := (0 : Int)) (by decide +kernel) (by decide +kernel) (by omega)) ?_
                  refine q_iload_n rfl rfl ?_
                  refine q_iconstv (v := (1 : Int32)) rfl (by decide +kernel) ?_
                  refine q_ic_ne_f (t := 29) rfl (by decide) (i_nne (a := (1 : Int)) (b := (1 : Int)) (by decide +kernel) (by decide +kernel) (by omega)) ?_
                  refine q_iload_n rfl rfl ?_
                  refine q_iconstv (v := (2 : Int32)) rfl (by decide +kernel) ?_
                  refine q_idiv rfl (i_ne (a := (2 : Int)) (b := 0) (by decide +kernel) (by decide +kernel) (by omega)) ?_
                  refine q_goto (t := 30) rfl (by decide) ?_
                  refine q_iret rfl rfl ?_
                  refine bk_inl ?_
                  refine q_iload rfl rfl ?_
                  refine q_iload rfl rfl ?_
                  refine q_iload_n rfl rfl ?_
                  refine q_iload_n rfl rfl ?_
                  refine q_call rfl rfl rfl rfl ?_
                  refine q_iload_n rfl rfl ?_
                  refine q_if_ne_f (t := 18) rfl (by decide) (i_nne (a := (0 : Int)) (b := (0 : Int)) (by decide +kernel) (by decide +kernel) (by omega)) ?_
                  refine q_iload_n rfl rfl ?_
                  refine q_if_ne_t (t := 14) rfl (by decide) (i_ne (a := (1 : Int)) (b := (0 : Int)) (by decide +kernel) (by decide +kernel) (by omega)) ?_
                  refine q_iload_n rfl rfl ?_
                  refine q_goto (t := 30) rfl (by decide) ?_
                  refine q_iret rfl rfl ?_
                  refine bk_inl ?_
                  refine q_ic_gt_f (t := 150) rfl (by decide) (i_nlt_r (a := ((x2 / (2 : Int32))).toInt) (b := (x1).toInt) rfl rfl (by omega)) ?_
                  refine q_iconstv (v := (1 : Int32)) rfl (by decide +kernel) ?_
                  refine q_iload rfl rfl ?_
                  refine q_isubv (v := (0 : Int32)) rfl (by decide +kernel) ?_
                  refine q_iload rfl rfl ?_
                  refine q_iload_n rfl rfl ?_
                  refine q_iload_n rfl rfl ?_
                  refine q_call rfl rfl rfl rfl ?_
                  refine q_iload_n rfl rfl ?_
                  refine q_if_ne_f (t := 18) rfl (by decide) (i_nne (a := (0 : Int)) (b := (0 : Int)) (by decide +kernel) (by decide +kernel) (by omega)) ?_
                  refine q_iload_n rfl rfl ?_
                  refine q_if_ne_f (t := 14) rfl (by decide) (i_nne (a := (0 : Int)) (b := (0 : Int)) (by decide +kernel) (by decide +kernel) (by omega)) ?_
                  refine q_iload_n rfl rfl ?_
                  refine q_iconstv (v := (2 : Int32)) rfl (by decide +kernel) ?_
                  refine q_idiv rfl (i_ne (a := (2 : Int)) (b := 0) (by decide +kernel) (by decide +kernel) (by omega)) ?_
                  refine q_goto (t := 30) rfl (by decide) ?_
                  refine q_iret rfl rfl ?_
                  refine bk_inl ?_
                  refine q_iload rfl rfl ?_
                  refine q_iload rfl rfl ?_
                  refine q_iload_n rfl rfl ?_
                  refine q_iload_n rfl rfl ?_
                  refine q_call rfl rfl rfl rfl ?_
                  refine q_iload_n rfl rfl ?_
                  refine q_if_ne_t (t := 18) rfl (by decide) (i_ne (a := (1 : Int)) (b := (0 : Int)) (by decide +kernel) (by decide +kernel) (by omega)) ?_
                  refine q_iload_n rfl rfl ?_
                  refine q_iconstv (v := (1 : Int32)) rfl (by decide +kernel) ?_
                  refine q_ic_ne_t (t := 29) rfl (by decide) (i_ne (a := (0 : Int)) (b := (1 : Int)) (by decide +kernel) (by decide +kernel) (by omega)) ?_
                  refine q_iload_n rfl rfl ?_
                  refine q_iret rfl rfl ?_
                  refine bk_inl ?_
                  refine q_ic_le_f (t := 126) rfl (by decide) (i_nle (a := ((x1 / (2 : Int32))).toInt) (b := (x2).toInt) rfl rfl (by omega)) ?_
                  refine q_goto (t := 150) rfl (by decide) ?_
                  refine q_iincv (v := (2 : Int32)) rfl rfl (by decide) (by decide +kernel) ?_
                  refine q_goto (t := 59) rfl (by decide) ?_
                  refine q_iload rfl rfl ?_
                  refine q_iconstv (v := (4 : Int32)) rfl (by decide +kernel) ?_
                  refine q_ic_ge_f (t := 156) rfl (by decide) (i_nle_r (a := (2 : Int)) (b := (4 : Int)) (by decide +kernel) (by decide +kernel) (by omega)) ?_
                  refine q_iload rfl rfl ?_
                  refine q_iconstv (v := (2 : Int32)) rfl (by decide +kernel) ?_
                  refine q_idivv (v := (1 : Int32)) rfl (by decide) (by decide +kernel) ?_
                  refine q_istore rfl (by decide) ?_
                  refine q_iload rfl rfl ?_
                  refine q_iconstv (v := (2 : Int32)) rfl (by decide +kernel) ?_
                  refine q_iremv (v := (0 : Int32)) rfl (by decide) (by decide +kernel) ?_
                  refine q_istore rfl (by decide) ?_
                  refine q_iconstv (v := (1 : Int32)) rfl (by decide +kernel) ?_
                  refine q_iload rfl rfl ?_
                  refine q_isubv (v := (0 : Int32)) rfl (by decide +kernel) ?_
                  refine q_iload rfl rfl ?_
                  refine q_iload_n rfl rfl ?_
                  refine q_iload_n rfl rfl ?_
                  refine q_call rfl rfl rfl rfl ?_
                  refine q_iload_n rfl rfl ?_
                  refine q_if_ne_f (t := 18) rfl (by decide) (i_nne (a := (0 : Int)) (b := (0 : Int)) (by decide +kernel) (by decide +kernel) (by omega)) ?_
                  refine q_iload_n rfl rfl ?_
                  refine q_if_ne_f (t := 14) rfl (by decide) (i_nne (a := (0 : Int)) (b := (0 : Int)) (by decide +kernel) (by decide +kernel) (by omega)) ?_
                  refine q_iload_n rfl rfl ?_
                  refine q_iconstv (v := (2 : Int32)) rfl (by decide +kernel) ?_
                  refine q_idiv rfl (i_ne (a := (2 : Int)) (b := 0) (by decide +kernel) (by decide +kernel) (by omega)) ?_
                  refine q_goto (t := 30) rfl (by decide) ?_
                  refine q_iret rfl rfl ?_
                  refine bk_inl ?_
                  refine q_iload rfl rfl ?_
                  refine q_iload rfl rfl ?_
                  refine q_iload_n rfl rfl ?_
                  refine q_iload_n rfl rfl ?_
                  refine q_call rfl rfl rfl rfl ?_
                  refine q_iload_n rfl rfl ?_
                  refine q_if_ne_t (t := 18) rfl (by decide) (i_ne (a := (1 : Int)) (b := (0 : Int)) (by decide +kernel) (by decide +kernel) (by omega)) ?_
                  refine q_iload_n rfl rfl ?_
                  refine q_iconstv (v := (1 : Int32)) rfl (by decide +kernel) ?_
                  refine q_ic_ne_t (t := 29) rfl (by decide) (i_ne (a := (0 : Int)) (b := (1 : Int)) (by decide +kernel) (by decide +kernel) (by omega)) ?_
                  refine q_iload_n rfl rfl ?_
                  refine q_iret rfl rfl ?_
                  refine bk_inl ?_
                  refine q_ic_gt_t (t := 150) rfl (by decide) (i_lt_r (a := ((x1 / (2 : Int32))).toInt) (b := (x2).toInt) rfl rfl (by omega)) ?_
                  refine q_iincv (v := (3 : Int32)) rfl rfl (by decide) (by decide +kernel) ?_
                  refine q_goto (t := 59) rfl (by decide) ?_
                  refine q_iload rfl rfl ?_
                  refine q_iconstv (v := (4 : Int32)) rfl (by decide +kernel) ?_
                  refine q_ic_ge_f (t := 156) rfl (by decide) (i_nle_r (a := (3 : Int)) (b := (4 : Int)) (by decide +kernel) (by decide +kernel) (by omega)) ?_
                  refine q_iload rfl rfl ?_
                  refine q_iconstv (v := (2 : Int32)) rfl (by decide +kernel) ?_
                  refine q_idivv (v := (1 : Int32)) rfl (by decide) (by decide +kernel) ?_
                  refine q_istore rfl (by decide) ?_
                  refine q_iload rfl rfl ?_
                  refine q_iconstv (v := (2 : Int32)) rfl (by decide +kernel) ?_
                  refine q_iremv (v := (1 : Int32)) rfl (by decide) (by decide +kernel) ?_
                  refine q_istore rfl (by decide) ?_
                  refine q_iconstv (v := (1 : Int32)) rfl (by decide +kernel) ?_
                  refine q_iload rfl rfl ?_
                  refine q_isubv (v := (0 : Int32)) rfl (by decide +kernel) ?_
                  refine q_iload rfl rfl ?_
                  refine q_iload_n rfl rfl ?_
                  refine q_iload_n rfl rfl ?_
                  refine q_call rfl rfl rfl rfl ?_
                  refine q_iload_n rfl rfl ?_
                  refine q_if_ne_f (t := 18) rfl (by decide) (i_nne (a := (0 : Int)) (b := (0 : Int)) (by decide +kernel) (by decide +kernel) (by omega)) ?_
                  refine q_iload_n rfl rfl ?_
                  refine q_if_ne_t (t := 14) rfl (by decide) (i_ne (a := (1 : Int)) (b := (0 : Int)) (by decide +kernel) (by decide +kernel) (by omega)) ?_
                  refine q_iload_n rfl rfl ?_
                  refine q_goto (t := 30) rfl (by decide) ?_
                  refine q_iret rfl rfl ?_
                  refine bk_inl ?_
                  refine q_iload rfl rfl ?_
                  refine q_iload rfl rfl ?_
                  refine q_iload_n rfl rfl ?_
                  refine q_iload_n rfl rfl ?_
                  refine q_call rfl rfl rfl rfl ?_
                  refine q_iload_n rfl rfl ?_
                  refine q_if_ne_t (t := 18) rfl (by decide) (i_ne (a := (1 : Int)) (b := (0 : Int)) (by decide +kernel) (by decide +kernel) (by omega)) ?_
                  refine q_iload_n rfl rfl ?_
                  refine q_iconstv (v := (1 : Int32)) rfl (by decide +kernel) ?_
                  refine q_ic_ne_f (t := 29) rfl (by decide) (i_nne (a := (1 : Int)) (b := (1 : Int)) (by decide +kernel) (by decide +kernel) (by omega)) ?_
                  refine q_iload_n rfl rfl ?_
                  refine q_iconstv (v := (2 : Int32)) rfl (by decide +kernel) ?_
                  refine q_idiv rfl (i_ne (a := (2 : Int)) (b := 0) (by decide +kernel) (by decide +kernel) (by omega)) ?_
                  refine q_goto (t := 30) rfl (by decide) ?_
                  refine q_iret rfl rfl ?_
                  refine bk_inl ?_
                  refine q_ic_gt_f (t := 150) rfl (by decide) (i_nlt_r (a := (x1).toInt) (b := ((x2 / (2 : Int32))).toInt) rfl rfl (by omega)) ?_
                  refine q_iconstv (v := (1 : Int32)) rfl (by decide +kernel) ?_
                  refine q_iload rfl rfl ?_
                  refine q_isubv (v := (0 : Int32)) rfl (by decide +kernel) ?_
                  refine q_iload rfl rfl ?_
                  refine q_iload_n rfl rfl ?_
                  refine q_iload_n rfl rfl ?_
                  refine q_call rfl rfl rfl rfl ?_
                  refine q_iload_n rfl rfl ?_
                  refine q_if_ne_f (t := 18) rfl (by decide) (i_nne (a := (0 : Int)) (b := (0 : Int)) (by decide +kernel) (by decide +kernel) (by omega)) ?_
                  refine q_iload_n rfl rfl ?_
                  refine q_if_ne_t (t := 14) rfl (by decide) (i_ne (a := (1 : Int)) (b := (0 : Int)) (by decide +kernel) (by decide +kernel) (by omega)) ?_
                  refine q_iload_n rfl rfl ?_
                  refine q_goto (t := 30) rfl (by decide) ?_
                  refine q_iret rfl rfl ?_
                  refine bk_inl ?_
                  refine q_iload rfl rfl ?_
                  refine q_iload rfl rfl ?_
                  refine q_iload_n rfl rfl ?_
                  refine q_iload_n rfl rfl ?_
                  refine q_call rfl rfl rfl rfl ?_
                  refine q_iload_n rfl rfl ?_
                  refine q_if_ne_t (t := 18) rfl (by decide) (i_ne (a := (1 : Int)) (b := (0 : Int)) (by decide +kernel) (by decide +kernel) (by omega)) ?_
                  refine q_iload_n rfl rfl ?_
                  refine q_iconstv (v := (1 : Int32)) rfl (by decide +kernel) ?_
                  refine q_ic_ne_f (t := 29) rfl (by decide) (i_nne (a := (1 : Int)) (b := (1 : Int)) (by decide +kernel) (by decide +kernel) (by omega)) ?_
                  refine q_iload_n rfl rfl ?_
                  refine q_iconstv (v := (2 : Int32)) rfl (by decide +kernel) ?_
                  refine q_idiv rfl (i_ne (a := (2 : Int)) (b := 0) (by decide +kernel) (by decide +kernel) (by omega)) ?_
                  refine q_goto (t := 30) rfl (by decide) ?_
                  refine q_iret rfl rfl ?_
                  refine bk_inl ?_
                  refine q_ic_le_t (t := 126) rfl (by decide) (i_le (a := (x1).toInt) (b := ((x2 / (2 : Int32))).toInt) rfl rfl (by omega)) ?_
                  refine q_iincv (v := (2 : Int32)) rfl rfl (by decide) (by decide +kernel) ?_
                  refine q_iload rfl rfl ?_
                  refine q_iconstv (v := (-1 : Int32)) rfl (by decide +kernel) ?_
                  refine q_ic_ne_t (t := 146) rfl (by decide) (i_ne (a := (0 : Int)) (b := (-1 : Int)) (by decide +kernel) (by decide +kernel) (by omega)) ?_
                  refine q_iload rfl rfl ?_
                  refine q_istore rfl (by decide) ?_
                  refine q_iincv (v := (4 : Int32)) rfl rfl (by decide) (by decide +kernel) ?_
                  refine q_goto (t := 59) rfl (by decide) ?_
                  refine q_iload rfl rfl ?_
                  refine q_iconstv (v := (4 : Int32)) rfl (by decide +kernel) ?_
                  refine q_ic_ge_t (t := 156) rfl (by decide) (i_le_r (a := (4 : Int)) (b := (4 : Int)) (by decide +kernel) (by decide +kernel) (by omega)) ?_
                  refine q_iload_n rfl rfl ?_
                  refine q_if_ne_t (t := 165) rfl (by decide) (i_ne (a := (1 : Int)) (b := (0 : Int)) (by decide +kernel) (by decide +kernel) (by omega)) ?_
                  refine q_iload_n rfl rfl ?_
                  refine q_iconstv (v := (1 : Int32)) rfl (by decide +kernel) ?_
                  refine q_ic_ne_f (t := 175) rfl (by decide) (i_nne (a := (1 : Int)) (b := (1 : Int)) (by decide +kernel) (by decide +kernel) (by omega)) ?_
                  refine q_iload rfl rfl ?_
                  refine q_goto (t := 216) rfl (by decide) ?_
                  refine q_iret rfl rfl ?_
                  refine bk_inl ?_
                  refine q_istore rfl (by decide) ?_
                  refine q_aload_n rfl rfl ?_
                  refine q_call rfl rfl rfl rfl ?_
                  refine q_aload_n rfl rfl ?_
                  refine q_get rfl rfl rfl rfl ?_
                  refine q_iret rfl rfl ?_
                  refine bk_inl ?_
                  refine q_iload rfl rfl ?_
                  refine q_ic_eq_t (t := 1774) rfl (by decide) (i_eq (a := (0 : Int)) (b := (0 : Int)) (by decide +kernel) (by decide +kernel) (by omega)) ?_
                  refine q_iload rfl rfl ?_
                  refine q_if_ne_f (t := 1791) rfl (by decide) (i_nne (a := (0 : Int)) (b := (0 : Int)) (by decide +kernel) (by decide +kernel) (by omega)) ?_
                  refine q_aload_n rfl rfl ?_
                  refine q_iconstv (v := (0 : Int32)) rfl (by decide +kernel) ?_
                  refine q_laloadv (m := 0) rfl (by decide) rfl (by decide +kernel) rfl ?_
                  refine q_iload rfl rfl ?_
                  refine q_i2lv (v := (0 : Int64)) rfl (by decide +kernel) ?_
                  refine q_lcmpv (v := (0 : Int32)) rfl (by decide +kernel) ?_
                  refine q_if_eq_t (t := 1791) rfl (by decide) (i_eq (a := (0 : Int)) (b := (0 : Int)) (by decide +kernel) (by decide +kernel) (by omega)) ?_
                  refine q_goto (t := 2739) rfl (by decide) ?_
                  refine q_iincv (v := (8 : Int32)) rfl rfl (by decide) (by decide +kernel) ?_
                  refine q_goto (t := 23) rfl (by decide) ?_
                  exact q_end rfl rfl (by decide) (by decide)
              · refine q_ic_gt_f (t := 147) rfl (by decide) (i_nlt_r (a := ((x1 / (2 : Int32))).toInt) (b := (x2).toInt) rfl rfl (by omega)) ?_
                refine q_iload rfl rfl ?_
                refine q_if_ne_t (t := 144) rfl (by decide) (i_ne (a := (1 : Int)) (b := (0 : Int)) (by decide +kernel) (by decide +kernel) (by omega)) ?_
                refine q_iincv (v := (2 : Int32)) rfl rfl (by decide) (by decide +kernel) ?_
                refine q_iincv (v := (2 : Int32)) rfl rfl (by decide) (by decide +kernel) ?_
                refine q_goto (t := 50) rfl (by decide) ?_
                refine q_iload rfl rfl ?_
                refine q_iconstv (v := (4 : Int32)) rfl (by decide +kernel) ?_
                refine q_ic_ge_f (t := 153) rfl (by decide) (i_nle_r (a := (2 : Int)) (b := (4 : Int)) (by decide +kernel) (by decide +kernel) (by omega)) ?_
                refine q_iload rfl rfl ?_
                refine q_iconstv (v := (2 : Int32)) rfl (by decide +kernel) ?_
                refine q_idivv (v := (1 : Int32)) rfl (by decide) (by decide +kernel) ?_
                refine q_istore rfl (by decide) ?_
                refine q_iload rfl rfl ?_
                refine q_iconstv (v := (2 : Int32)) rfl (by decide +kernel) ?_
                refine q_iremv (v := (0 : Int32)) rfl (by decide) (by decide +kernel) ?_
                refine q_istore rfl (by decide) ?_
                refine q_iload rfl rfl ?_
                refine q_iload rfl rfl ?_
                refine q_iload_n rfl rfl ?_
                refine q_iload_n rfl rfl ?_
                refine q_call rfl rfl rfl rfl ?_
                refine q_iload_n rfl rfl ?_
                refine q_if_ne_t (t := 8) rfl (by decide) (i_ne (a := (1 : Int)) (b := (0 : Int)) (by decide +kernel) (by decide +kernel) (by omega)) ?_
                refine q_iload_n rfl rfl ?_
                refine q_istore rfl (by decide) ?_
                refine q_iload_n rfl rfl ?_
                refine q_iload_n rfl rfl ?_
                refine q_ic_ne_t (t := 23) rfl (by decide) (i_ne (a := (1 : Int)) (b := (0 : Int)) (by decide +kernel) (by decide +kernel) (by omega)) ?_
                refine q_iload rfl rfl ?_
                refine q_iret rfl rfl ?_
                refine bk_inl ?_
                refine q_istore rfl (by decide) ?_
                refine q_iload rfl rfl ?_
                refine q_iload rfl rfl ?_
                refine q_iload_n rfl rfl ?_
                refine q_iload_n rfl rfl ?_
                refine q_call rfl rfl rfl rfl ?_
                refine q_iload_n rfl rfl ?_
                refine q_if_ne_f (t := 8) rfl (by decide) (i_nne (a := (0 : Int)) (b := (0 : Int)) (by decide +kernel) (by decide +kernel) (by omega)) ?_
                refine q_iload_n rfl rfl ?_
                refine q_goto (t := 9) rfl (by decide) ?_
                refine q_istore rfl (by decide) ?_
                refine q_iload_n rfl rfl ?_
                refine q_iload_n rfl rfl ?_
                refine q_ic_ne_t (t := 23) rfl (by decide) (i_ne (a := (0 : Int)) (b := (1 : Int)) (by decide +kernel) (by decide +kernel) (by omega)) ?_
                refine q_iload rfl rfl ?_
                refine q_iret rfl rfl ?_
                refine bk_inl ?_
                refine q_istore rfl (by decide) ?_
                refine q_iconstv (v := (1 : Int32)) rfl (by decide +kernel) ?_
                refine q_iload rfl rfl ?_
                refine q_isubv (v := (0 : Int32)) rfl (by decide +kernel) ?_
                refine q_iload rfl rfl ?_
                refine q_iload_n rfl rfl ?_
                refine q_iload_n rfl rfl ?_
                refine q_call rfl rfl rfl rfl ?_
                refine q_iload_n rfl rfl ?_
                refine q_if_ne_f (t := 8) rfl (by decide) (i_nne (a := (0 : Int)) (b := (0 : Int)) (by decide +kernel) (by decide +kernel) (by omega)) ?_
                refine q_iload_n rfl rfl ?_
                refine q_goto (t := 9) rfl (by decide) ?_
                refine q_istore rfl (by decide) ?_
                refine q_iload_n rfl rfl ?_
                refine q_iload_n rfl rfl ?_
                refine q_ic_ne_f (t := 23) rfl (by decide) (i_nne (a := (0 : Int)) (b := (0 : Int)) (by decide +kernel) (by decide +kernel) (by omega)) ?_
                refine q_iload rfl rfl ?_
                refine q_iconstv (v := (2 : Int32)) rfl (by decide +kernel) ?_
                refine q_idiv rfl (i_ne (a := (2 : Int)) (b := 0) (by decide +kernel) (by decide +kernel) (by omega)) ?_
                refine q_goto (t := 25) rfl (by decide) ?_
                refine q_iret rfl rfl ?_
                refine bk_inl ?_
                refine q_iload rfl rfl ?_
                refine q_ic_gt_f (t := 147) rfl (by decide) (i_nlt_r (a := ((x1 / (2 : Int32))).toInt) (b := (x2).toInt) rfl rfl (by omega)) ?_
                refine q_iconstv (v := (1 : Int32)) rfl (by decide +kernel) ?_
                refine q_iload rfl rfl ?_
                refine q_isubv (v := (1 : Int32)) rfl (by decide +kernel) ?_
                refine q_iload rfl rfl ?_
                refine q_iload_n rfl rfl ?_
                refine q_iload_n rfl rfl ?_
                refine q_call rfl rfl rfl rfl ?_
                refine q_iload_n rfl rfl ?_
                refine q_if_ne_t (t := 8) rfl (by decide) (i_ne (a := (1 : Int)) (b := (0 : Int)) (by decide +kernel) (by decide +kernel) (by omega)) ?_
                refine q_iload_n rfl rfl ?_
                refine q_istore rfl (by decide) ?_
                refine q_iload_n rfl rfl ?_
                refine q_iload_n rfl rfl ?_
                refine q_ic_ne_f (t := 23) rfl (by decide) (i_nne (a := (1 : Int)) (b := (1 : Int)) (by decide +kernel) (by decide +kernel) (by omega)) ?_
                refine q_iload rfl rfl ?_
                refine q_iconstv (v := (2 : Int32)) rfl (by decide +kernel) ?_
                refine q_idiv rfl (i_ne (a := (2 : Int)) (b := 0) (by decide +kernel) (by decide +kernel) (by omega)) ?_
                refine q_goto (t := 25) rfl (by decide) ?_
                refine q_iret rfl rfl ?_
                refine bk_inl ?_
                refine q_iload rfl rfl ?_
                refine q_ic_gt_f (t := 147) rfl (by decide) (i_nlt_r (a := ((x2 / (2 : Int32))).toInt) (b := (x1).toInt) rfl rfl (by omega)) ?_
                refine q_iload rfl rfl ?_
                refine q_if_ne_t (t := 144) rfl (by decide) (i_ne (a := (2 : Int)) (b := (0 : Int)) (by decide +kernel) (by decide +kernel) (by omega)) ?_
                refine q_iincv (v := (3 : Int32)) rfl rfl (by decide) (by decide +kernel) ?_
                refine q_iincv (v := (3 : Int32)) rfl rfl (by decide) (by decide +kernel) ?_
                refine q_goto (t := 50) rfl (by decide) ?_
                refine q_iload rfl rfl ?_
                refine q_iconstv (v := (4 : Int32)) rfl (by decide +kernel) ?_
                refine q_ic_ge_f (t := 153) rfl (by decide) (i_nle_r (a := (3 : Int)) (b := (4 : Int)) (by decide +kernel) (by decide +kernel) (by omega)) ?_
                refine q_iload rfl rfl ?_
                refine q_iconstv (v := (2 : Int32)) rfl (by decide +kernel) ?_
                refine q_idivv (v := (1 : Int32)) rfl (by decide) (by decide +kernel) ?_
                refine q_istore rfl (by decide) ?_
                refine q_iload rfl rfl ?_
                refine q_iconstv (v := (2 : Int32)) rfl (by decide +kernel) ?_
                refine q_iremv (v := (1 : Int32)) rfl (by decide) (by decide +kernel) ?_
                refine q_istore rfl (by decide) ?_
                refine q_iload rfl rfl ?_
                refine q_iload rfl rfl ?_
                refine q_iload_n rfl rfl ?_
                refine q_iload_n rfl rfl ?_
                refine q_call rfl rfl rfl rfl ?_
                refine q_iload_n rfl rfl ?_
                refine q_if_ne_t (t := 8) rfl (by decide) (i_ne (a := (1 : Int)) (b := (0 : Int)) (by decide +kernel) (by decide +kernel) (by omega)) ?_
                refine q_iload_n rfl rfl ?_
                refine q_istore rfl (by decide) ?_
                refine q_iload_n rfl rfl ?_
                refine q_iload_n rfl rfl ?_
                refine q_ic_ne_f (t := 23) rfl (by decide) (i_nne (a := (1 : Int)) (b := (1 : Int)) (by decide +kernel) (by decide +kernel) (by omega)) ?_
                refine q_iload rfl rfl ?_
                refine q_iconstv (v := (2 : Int32)) rfl (by decide +kernel) ?_
                refine q_idiv rfl (i_ne (a := (2 : Int)) (b := 0) (by decide +kernel) (by decide +kernel) (by omega)) ?_
                refine q_goto (t := 25) rfl (by decide) ?_
                refine q_iret rfl rfl ?_
                refine bk_inl ?_
                refine q_istore rfl (by decide) ?_
                refine q_iload rfl rfl ?_
                refine q_iload rfl rfl ?_
                refine q_iload_n rfl rfl ?_
                refine q_iload_n rfl rfl ?_
                refine q_call rfl rfl rfl rfl ?_
                refine q_iload_n rfl rfl ?_
                refine q_if_ne_t (t := 8) rfl (by decide) (i_ne (a := (1 : Int)) (b := (0 : Int)) (by decide +kernel) (by decide +kernel) (by omega)) ?_
                refine q_iload_n rfl rfl ?_
                refine q_istore rfl (by decide) ?_
                refine q_iload_n rfl rfl ?_
                refine q_iload_n rfl rfl ?_
                refine q_ic_ne_f (t := 23) rfl (by decide) (i_nne (a := (1 : Int)) (b := (1 : Int)) (by decide +kernel) (by decide +kernel) (by omega)) ?_
                refine q_iload rfl rfl ?_
                refine q_iconstv (v := (2 : Int32)) rfl (by decide +kernel) ?_
                refine q_idiv rfl (i_ne (a := (2 : Int)) (b := 0) (by decide +kernel) (by decide +kernel) (by omega)) ?_
                refine q_goto (t := 25) rfl (by decide) ?_
                refine q_iret rfl rfl ?_
                refine bk_inl ?_
                refine q_istore rfl (by decide) ?_
                refine q_iconstv (v := (1 : Int32)) rfl (by decide +kernel) ?_
                refine q_iload rfl rfl ?_
                refine q_isubv (v := (0 : Int32)) rfl (by decide +kernel) ?_
                refine q_iload rfl rfl ?_
                refine q_iload_n rfl rfl ?_
                refine q_iload_n rfl rfl ?_
                refine q_call rfl rfl rfl rfl ?_
                refine q_iload_n rfl rfl ?_
                refine q_if_ne_f (t := 8) rfl (by decide) (i_nne (a := (0 : Int)) (b := (0 : Int)) (by decide +kernel) (by decide +kernel) (by omega)) ?_
                refine q_iload_n rfl rfl ?_
                refine q_goto (t := 9) rfl (by decide) ?_
                refine q_istore rfl (by decide) ?_
                refine q_iload_n rfl rfl ?_
                refine q_iload_n rfl rfl ?_
                refine q_ic_ne_t (t := 23) rfl (by decide) (i_ne (a := (0 : Int)) (b := (1 : Int)) (by decide +kernel) (by decide +kernel) (by omega)) ?_
                refine q_iload rfl rfl ?_
                refine q_iret rfl rfl ?_
                refine bk_inl ?_
                refine q_iload rfl rfl ?_
                by_cases h12 : (x1).toInt > ((x2 / (2 : Int32))).toInt
                · refine q_ic_gt_t (t := 147) rfl (by decide) (i_lt_r (a := (x1).toInt) (b := ((x2 / (2 : Int32))).toInt) rfl rfl (by omega)) ?_
                  refine q_iincv (v := (4 : Int32)) rfl rfl (by decide) (by decide +kernel) ?_
                  refine q_goto (t := 50) rfl (by decide) ?_
                  refine q_iload rfl rfl ?_
                  refine q_iconstv (v := (4 : Int32)) rfl (by decide +kernel) ?_
                  refine q_ic_ge_t (t := 153) rfl (by decide) (i_le_r (a := (4 : Int)) (b := (4 : Int)) (by decide +kernel) (by decide +kernel) (by omega)) ?_
                  refine q_iload_n rfl rfl ?_
                  refine q_lsw (t := 183) (off := 29) rfl (by decide) (by decide +kernel) (by decide) ?_
                  refine q_iload rfl rfl ?_
                  refine q_iret rfl rfl ?_
                  refine bk_inl ?_
                  refine q_i2lv (v := (0 : Int64)) rfl (by decide +kernel) ?_
                  refine q_lastorev (m := 0) (w9 := w1) rfl (by decide) rfl (by decide +kernel) (by decide) rfl ?_
                  refine q_goto (t := 19) rfl (by decide) ?_
                  refine q_iconstv (v := (0 : Int32)) rfl (by decide +kernel) ?_
                  refine q_iret rfl rfl ?_
                  refine bk_inl ?_
                  refine q_istore rfl (by decide) ?_
                  refine q_aload_n rfl rfl ?_
                  refine q_aload_n rfl rfl ?_
                  refine q_iload rfl rfl ?_
                  refine q_iconstv (v := (1 : Int32)) rfl (by decide +kernel) ?_
                  refine q_iaddv (v := (1 : Int32)) rfl (by decide +kernel) ?_
                  refine q_script rfl (by decide) rfl ?_
                  refine q_aload_n rfl rfl ?_
                  refine q_iload rfl rfl ?_
                  refine q_iconstv (v := (2 : Int32)) rfl (by decide +kernel) ?_
                  refine q_iaddv (v := (2 : Int32)) rfl (by decide +kernel) ?_
                  refine q_script rfl (by decide) rfl ?_
                  refine q_aload_n rfl rfl ?_
                  refine q_iload rfl rfl ?_
                  refine q_iconstv (v := (3 : Int32)) rfl (by decide +kernel) ?_
                  refine q_iaddv (v := (3 : Int32)) rfl (by decide +kernel) ?_
                  refine q_script rfl (by decide) rfl ?_
                  refine q_call rfl rfl rfl rfl ?_
                  refine q_aload_n rfl rfl ?_
                  refine q_iconstv (v := (0 : Int32)) rfl (by decide +kernel) ?_
                  refine q_putv (w9 := w1) rfl rfl rfl (by decide) rfl (by decide) rfl ?_
                  refine q_aload_n rfl rfl ?_
                  refine q_iload_n rfl rfl ?_
                  refine q_iconstv (v := (0 : Int32)) rfl (by decide +kernel) ?_
                  refine q_bipushv (v := (99 : Int32)) rfl (by decide +kernel) ?_
                  refine q_call rfl rfl rfl rfl ?_
                  refine q_iload_n rfl rfl ?_
                  refine q_iload_n rfl rfl ?_
                  refine q_ic_lt_f (t := 14) rfl (by decide) (i_nlt (a := (x1).toInt) (b := (0 : Int)) rfl (by decide +kernel) (by omega)) ?_
                  refine q_iload_n rfl rfl ?_
                  refine q_iload_n rfl rfl ?_
                  refine q_ic_gt_f (t := 14) rfl (by decide) (i_nlt_r (a := (x1).toInt) (b := (99 : Int)) rfl (by decide +kernel) (by omega)) ?_
                  refine q_iconstv (v := (1 : Int32)) rfl (by decide +kernel) ?_
                  refine q_goto (t := 15) rfl (by decide) ?_
                  refine q_zret rfl rfl (by decide) ?_
                  refine bk_inl ?_
                  refine q_if_eq_f (t := 39) rfl (by decide) (i_ne (a := (1 : Int)) (b := (0 : Int)) (by decide +kernel) (by decide +kernel) (by omega)) ?_
                  refine q_iload_n rfl rfl ?_
                  refine q_iconstv (v := (0 : Int32)) rfl (by decide +kernel) ?_
                  refine q_bipushv (v := (99 : Int32)) rfl (by decide +kernel) ?_
                  refine q_call rfl rfl rfl rfl ?_
                  refine q_iload_n rfl rfl ?_
                  refine q_iload_n rfl rfl ?_
                  refine q_ic_lt_f (t := 14) rfl (by decide) (i_nlt (a := (x2).toInt) (b := (0 : Int)) rfl (by decide +kernel) (by omega)) ?_
                  refine q_iload_n rfl rfl ?_
                  refine q_iload_n rfl rfl ?_
                  refine q_ic_gt_f (t := 14) rfl (by decide) (i_nlt_r (a := (x2).toInt) (b := (99 : Int)) rfl (by decide +kernel) (by omega)) ?_
                  refine q_iconstv (v := (1 : Int32)) rfl (by decide +kernel) ?_
                  refine q_goto (t := 15) rfl (by decide) ?_
                  refine q_zret rfl rfl (by decide) ?_
                  refine bk_inl ?_
                  refine q_if_eq_f (t := 39) rfl (by decide) (i_ne (a := (1 : Int)) (b := (0 : Int)) (by decide +kernel) (by decide +kernel) (by omega)) ?_
                  refine q_iload_n rfl rfl ?_
                  refine q_iconstv (v := (0 : Int32)) rfl (by decide +kernel) ?_
                  refine q_iconstv (v := (2 : Int32)) rfl (by decide +kernel) ?_
                  refine q_call rfl rfl rfl rfl ?_
                  refine q_iload_n rfl rfl ?_
                  refine q_iload_n rfl rfl ?_
                  refine q_ic_lt_f (t := 14) rfl (by decide) (i_nlt (a := (1 : Int)) (b := (0 : Int)) (by decide +kernel) (by decide +kernel) (by omega)) ?_
                  refine q_iload_n rfl rfl ?_
                  refine q_iload_n rfl rfl ?_
                  refine q_ic_gt_f (t := 14) rfl (by decide) (i_nlt_r (a := (1 : Int)) (b := (2 : Int)) (by decide +kernel) (by decide +kernel) (by omega)) ?_
                  refine q_iconstv (v := (1 : Int32)) rfl (by decide +kernel) ?_
                  refine q_goto (t := 15) rfl (by decide) ?_
                  refine q_zret rfl rfl (by decide) ?_
                  refine bk_inl ?_
                  refine q_if_eq_f (t := 39) rfl (by decide) (i_ne (a := (1 : Int)) (b := (0 : Int)) (by decide +kernel) (by decide +kernel) (by omega)) ?_
                  refine q_iconstv (v := (1 : Int32)) rfl (by decide +kernel) ?_
                  refine q_goto (t := 40) rfl (by decide) ?_
                  refine q_iconstv (v := (1 : Int32)) rfl (by decide +kernel) ?_
                  refine q_iconstv (v := (1 : Int32)) rfl (by decide +kernel) ?_
                  refine q_call rfl rfl rfl rfl ?_
                  refine q_iload_n rfl rfl ?_
                  refine q_if_ne_t (t := 26) rfl (by decide) (i_ne (a := (1 : Int)) (b := (0 : Int)) (by decide +kernel) (by decide +kernel) (by omega)) ?_
                  refine q_aload_n rfl rfl ?_
                  refine q_get rfl rfl rfl rfl ?_
                  refine q_if_ne_f (t := 37) rfl (by decide) (i_nne (a := (0 : Int)) (b := (0 : Int)) (by decide +kernel) (by decide +kernel) (by omega)) ?_
                  refine q_iconstv (v := (1 : Int32)) rfl (by decide +kernel) ?_
                  refine q_goto (t := 38) rfl (by decide) ?_
                  refine q_zret rfl rfl (by decide) ?_
                  refine bk_inl ?_
                  refine q_if_ne_t (t := 50) rfl (by decide) (i_ne (a := (1 : Int)) (b := (0 : Int)) (by decide +kernel) (by decide +kernel) (by omega)) ?_
                  refine q_iconstv (v := (0 : Int32)) rfl (by decide +kernel) ?_
                  refine q_istore rfl (by decide) ?_
                  refine q_iconstv (v := (-1 : Int32)) rfl (by decide +kernel) ?_
                  refine q_istore rfl (by decide) ?_
                  refine q_iconstv (v := (0 : Int32)) rfl (by decide +kernel) ?_
                  refine q_istore rfl (by decide) ?_
                  refine q_iload rfl rfl ?_
                  refine q_iconstv (v := (4 : Int32)) rfl (by decide +kernel) ?_
                  refine q_ic_ge_f (t := 156) rfl (by decide) (i_nle_r (a := (0 : Int)) (b := (4 : Int)) (by decide +kernel) (by decide +kernel) (by omega)) ?_
                  refine q_iload rfl rfl ?_
                  refine q_iconstv (v := (2 : Int32)) rfl (by decide +kernel) ?_
                  refine q_idivv (v := (0 : Int32)) rfl (by decide) (by decide +kernel) ?_
                  refine q_istore rfl (by decide) ?_
                  refine q_iload rfl rfl ?_
                  refine q_iconstv (v := (2 : Int32)) rfl (by decide +kernel) ?_
                  refine q_iremv (v := (0 : Int32)) rfl (by decide) (by decide +kernel) ?_
                  refine q_istore rfl (by decide) ?_
                  refine q_iconstv (v := (1 : Int32)) rfl (by decide +kernel) ?_
                  refine q_iload rfl rfl ?_
                  refine q_isubv (v := (1 : Int32)) rfl (by decide +kernel) ?_
                  refine q_iload rfl rfl ?_
                  refine q_iload_n rfl rfl ?_
                  refine q_iload_n rfl rfl ?_
                  refine q_call rfl rfl rfl rfl ?_
                  refine q_iload_n rfl rfl ?_
                  refine q_if_ne_t (t := 18) rfl (by decide) (i_ne (a := (1 : Int)) (b := (0 : Int)) (by decide +kernel) (by decide +kernel) (by omega)) ?_
                  refine q_iload_n rfl rfl ?_
                  refine q_iconstv (v := (1 : Int32)) rfl (by decide +kernel) ?_
                  refine q_ic_ne_t (t := 29) rfl (by decide) (i_ne (a := (0 : Int)) (b := (1 : Int)) (by decide +kernel) (by decide +kernel) (by omega)) ?_
                  refine q_iload_n rfl rfl ?_
                  refine q_iret rfl rfl ?_
                  refine bk_inl ?_
                  refine q_iload rfl rfl ?_
                  refine q_iload rfl rfl ?_
                  refine q_iload_n rfl rfl ?_
                  refine q_iload_n rfl rfl ?_
                  refine q_call rfl rfl rfl rfl ?_
                  refine q_iload_n rfl rfl ?_
                  refine q_if_ne_f (t := 18) rfl (by decide) (i_nne (a := (0 : Int)) (b := (0 : Int)) (by decide +kernel) (by decide +kernel) (by omega)) ?_
                  refine q_iload_n rfl rfl ?_
                  refine q_if_ne_f (t := 14) rfl (by decide) (i_nne (a := (0 : Int)) (b := (0 : Int)) (by decide +kernel) (by decide +kernel) (by omega)) ?_
                  refine q_iload_n rfl rfl ?_
                  refine q_iconstv (v := (2 : Int32)) rfl (by decide +kernel) ?_
                  refine q_idiv rfl (i_ne (a := (2 : Int)) (b := 0) (by decide +kernel) (by decide +kernel) (by omega)) ?_
                  refine q_goto (t := 30) rfl (by decide) ?_
                  refine q_iret rfl rfl ?_
                  refine bk_inl ?_
                  refine q_ic_gt_f (t := 150) rfl (by decide) (i_nlt_r (a := (x2).toInt) (b := ((x1 / (2 : Int32))).toInt) rfl rfl (by omega)) ?_
                  refine q_iconstv (v := (1 : Int32)) rfl (by decide +kernel) ?_
                  refine q_iload rfl rfl ?_
                  refine q_isubv (v := (1 : Int32)) rfl (by decide +kernel) ?_
                  refine q_iload rfl rfl ?_
                  refine q_iload_n rfl rfl ?_
                  refine q_iload_n rfl rfl ?_
                  refine q_call rfl rfl rfl rfl ?_
                  refine q_iload_n rfl rfl ?_
                  refine q_if_ne_t (t := 18) rfl (by decide) (i_ne (a := (1 : Int)) (b := (0 : Int)) (by decide +kernel) (by decide +kernel) (by omega)) ?_
                  refine q_iload_n rfl rfl ?_
                  refine q_iconstv (v := (1 : Int32)) rfl (by decide +kernel) ?_
                  refine q_ic_ne_t (t := 29) rfl (by decide) (i_ne (a := (0 : Int)) (b := (1 : Int)) (by decide +kernel) (by decide +kernel) (by omega)) ?_
                  refine q_iload_n rfl rfl ?_
                  refine q_iret rfl rfl ?_
                  refine bk_inl ?_
                  refine q_iload rfl rfl ?_
                  refine q_iload rfl rfl ?_
                  refine q_iload_n rfl rfl ?_
                  refine q_iload_n rfl rfl ?_
                  refine q_call rfl rfl rfl rfl ?_
                  refine q_iload_n rfl rfl ?_
                  refine q_if_ne_f (t := 18) rfl (by decide) (i_nne (a := (0 : Int)) (b := (0 : Int)) (by decide +kernel) (by decide +kernel) (by omega)) ?_
                  refine q_iload_n rfl rfl ?_
                  refine q_if_ne_f (t := 14) rfl (by decide) (i_nne (a := (0 : Int)) (b := (0 : Int)) (by decide +kernel) (by decide +kernel) (by omega)) ?_
                  refine q_iload_n rfl rfl ?_
                  refine q_iconstv (v := (2 : Int32)) rfl (by decide +kernel) ?_
                  refine q_idiv rfl (i_ne (a := (2 : Int)) (b := 0) (by decide +kernel) (by decide +kernel) (by omega)) ?_
                  refine q_goto (t := 30) rfl (by decide) ?_
                  refine q_iret rfl rfl ?_
                  refine bk_inl ?_
                  refine q_ic_le_t (t := 126) rfl (by decide) (i_le (a := (x2).toInt) (b := ((x1 / (2 : Int32))).toInt) rfl rfl (by omega)) ?_
                  refine q_iincv (v := (1 : Int32)) rfl rfl (by decide) (by decide +kernel) ?_
                  refine q_iload rfl rfl ?_
                  refine q_iconstv (v := (-1 : Int32)) rfl (by decide +kernel) ?_
                  refine q_ic_ne_f (t := 146) rfl (by decide) (i_nne (a := (-1 : Int)) (b := (-1 : Int)) (by decide +kernel) (by decide +kernel) (by omega)) ?_
                  refine q_bipushv (v := (10 : Int32)) rfl (by decide +kernel) ?_
                  refine q_iload rfl rfl ?_
                  refine q_imulv (v := (0 : Int32)) rfl (by decide +kernel) ?_
                  refine q_iload rfl rfl ?_
                  refine q_iaddv (v := (0 : Int32)) rfl (by decide +kernel) ?_
                  refine q_goto (t := 148) rfl (by decide) ?_
                  refine q_istore rfl (by decide) ?_
                  refine q_iincv (v := (1 : Int32)) rfl rfl (by decide) (by decide +kernel) ?_
                  refine q_goto (t := 59) rfl (by decide) ?_
                  refine q_iload rfl rfl ?_
                  refine q_iconstv (v := (4 : Int32)) rfl (by decide +kernel) ?_
                  refine q_ic_ge_f (t := 156) rfl (by decide) (i_nle_r (a := (1 : Int)) (b := (4 : Int)) (by decide +kernel) (by decide +kernel) (by omega)) ?_
                  refine q_iload rfl rfl ?_
                  refine q_iconstv (v := (2 : Int32)) rfl (by decide +kernel) ?_
                  refine q_idivv (v := (0 : Int32)) rfl (by decide) (by decide +kernel) ?_
                  refine q_istore rfl (by decide) ?_
                  refine q_iload rfl rfl ?_
                  refine q_iconstv (v := (2 : Int32)) rfl (by decide +kernel) ?_
                  refine q_iremv (v := (1 : Int32)) rfl (by decide) (by decide +kernel) ?_
                  refine q_istore rfl (by decide) ?_
                  refine q_iconstv (v := (1 : Int32)) rfl (by decide +kernel) ?_
                  refine q_iload rfl rfl ?_
                  refine q_isubv (v := (1 : Int32)) rfl (by decide +kernel) ?_
                  refine q_iload rfl rfl ?_
                  refine q_iload_n rfl rfl ?_
                  refine q_iload_n rfl rfl ?_
                  refine q_call rfl rfl rfl rfl ?_
                  refine q_iload_n rfl rfl ?_
                  refine q_if_ne_t (t := 18) rfl (by decide) (i_ne (a := (1 : Int)) (b := (0 : Int)) (by decide +kernel) (by decide +kernel) (by omega)) ?_
                  refine q_iload_n rfl rfl ?_
                  refine q_iconstv (v := (1 : Int32)) rfl (by decide +kernel) ?_
                  refine q_ic_ne_f (t := 29) rfl (by decide) (i_nne (a := (1 : Int)) (b := (1 : Int)) (by decide +kernel) (by decide +kernel) (by omega)) ?_
                  refine q_iload_n rfl rfl ?_
                  refine q_iconstv (v := (2 : Int32)) rfl (by decide +kernel) ?_
                  refine q_idiv rfl (i_ne (a := (2 : Int)) (b := 0) (by decide +kernel) (by decide +kernel) (by omega)) ?_
                  refine q_goto (t := 30) rfl (by decide) ?_
                  refine q_iret rfl rfl ?_
                  refine bk_inl ?_
                  refine q_iload rfl rfl ?_
                  refine q_iload rfl rfl ?_
                  refine q_iload_n rfl rfl ?_
                  refine q_iload_n rfl rfl ?_
                  refine q_call rfl rfl rfl rfl ?_
                  refine q_iload_n rfl rfl ?_
                  refine q_if_ne_f (t := 18) rfl (by decide) (i_nne (a := (0 : Int)) (b := (0 : Int)) (by decide +kernel) (by decide +kernel) (by omega)) ?_
                  refine q_iload_n rfl rfl ?_
                  refine q_if_ne_t (t := 14) rfl (by decide) (i_ne (a := (1 : Int)) (b := (0 : Int)) (by decide +kernel) (by decide +kernel) (by omega)) ?_
                  refine q_iload_n rfl rfl ?_
                  refine q_goto (t := 30) rfl (by decide) ?_
                  refine q_iret rfl rfl ?_
                  refine bk_inl ?_
                  refine q_ic_gt_f (t := 150) rfl (by decide) (i_nlt_r (a := ((x2 / (2 : Int32))).toInt) (b := (x1).toInt) rfl rfl (by omega)) ?_
                  refine q_iconstv (v := (1 : Int32)) rfl (by decide +kernel) ?_
                  refine q_iload rfl rfl ?_
                  refine q_isubv (v := (0 : Int32)) rfl (by decide +kernel) ?_
                  refine q_iload rfl rfl ?_
                  refine q_iload_n rfl rfl ?_
                  refine q_iload_n rfl rfl ?_
                  refine q_call rfl rfl rfl rfl ?_
                  refine q_iload_n rfl rfl ?_
                  refine q_if_ne_f (t := 18) rfl (by decide) (i_nne (a := (0 : Int)) (b := (0 : Int)) (by decide +kernel) (by decide +kernel) (by omega)) ?_
                  refine q_iload_n rfl rfl ?_
                  refine q_if_ne_f (t := 14) rfl (by decide) (i_nne (a := (0 : Int)) (b := (0 : Int)) (by decide +kernel) (by decide +kernel) (by omega)) ?_
                  refine q_iload_n rfl rfl ?_
                  refine q_iconstv (v := (2 : Int32)) rfl (by decide +kernel) ?_
                  refine q_idiv rfl (i_ne (a := (2 : Int)) (b := 0) (by decide +kernel) (by decide +kernel) (by omega)) ?_
                  refine q_goto (t := 30) rfl (by decide) ?_
                  refine q_iret rfl rfl ?_
                  refine bk_inl ?_
                  refine q_iload rfl rfl ?_
                  refine q_iload rfl rfl ?_
                  refine q_iload_n rfl rfl ?_
                  refine q_iload_n rfl rfl ?_
                  refine q_call rfl rfl rfl rfl ?_
                  refine q_iload_n rfl rfl ?_
                  refine q_if_ne_t (t := 18) rfl (by decide) (i_ne (a := (1 : Int)) (b := (0 : Int)) (by decide +kernel) (by decide +kernel) (by omega)) ?_
                  refine q_iload_n rfl rfl ?_
                  refine q_iconstv (v := (1 : Int32)) rfl (by decide +kernel) ?_
                  refine q_ic_ne_t (t := 29) rfl (by decide) (i_ne (a := (0 : Int)) (b := (1 : Int)) (by decide +kernel) (by decide +kernel) (by omega)) ?_
                  refine q_iload_n rfl rfl ?_
                  refine q_iret rfl rfl ?_
                  refine bk_inl ?_
                  refine q_ic_le_t (t := 126) rfl (by decide) (i_le (a := ((x1 / (2 : Int32))).toInt) (b := (x2).toInt) rfl rfl (by omega)) ?_
                  refine q_iincv (v := (2 : Int32)) rfl rfl (by decide) (by decide +kernel) ?_
                  refine q_iload rfl rfl ?_
                  refine q_iconstv (v := (-1 : Int32)) rfl (by decide +kernel) ?_
                  refine q_ic_ne_t (t := 146) rfl (by decide) (i_ne (a := (0 : Int)) (b := (-1 : Int)) (by decide +kernel) (by decide +kernel) (by omega)) ?_
                  refine q_iload rfl rfl ?_
                  refine q_istore rfl (by decide) ?_
                  refine q_iincv (v := (2 : Int32)) rfl rfl (by decide) (by decide +kernel) ?_
                  refine q_goto (t := 59) rfl (by decide) ?_
                  refine q_iload rfl rfl ?_
                  refine q_iconstv (v := (4 : Int32)) rfl (by decide +kernel) ?_
                  refine q_ic_ge_f (t := 156) rfl (by decide) (i_nle_r (a := (2 : Int)) (b := (4 : Int)) (by decide +kernel) (by decide +kernel) (by omega)) ?_
                  refine q_iload rfl rfl ?_
                  refine q_iconstv (v := (2 : Int32)) rfl (by decide +kernel) ?_
                  refine q_idivv (v := (1 : Int32)) rfl (by decide) (by decide +kernel) ?_
                  refine q_istore rfl (by decide) ?_
                  refine q_iload rfl rfl ?_
                  refine q_iconstv (v := (2 : Int32)) rfl (by decide +kernel) ?_
                  refine q_iremv (v := (0 : Int32)) rfl (by decide) (by decide +kernel) ?_
                  refine q_istore rfl (by decide) ?_
                  refine q_iconstv (v := (1 : Int32)) rfl (by decide +kernel) ?_
                  refine q_iload rfl rfl ?_
                  refine q_isubv (v := (0 : Int32)) rfl (by decide +kernel) ?_
                  refine q_iload rfl rfl ?_
                  refine q_iload_n rfl rfl ?_
                  refine q_iload_n rfl rfl ?_
                  refine q_call rfl rfl rfl rfl ?_
                  refine q_iload_n rfl rfl ?_
                  refine q_if_ne_f (t := 18) rfl (by decide) (i_nne (a := (0 : Int)) (b := (0 : Int)) (by decide +kernel) (by decide +kernel) (by omega)) ?_
                  refine q_iload_n rfl rfl ?_
                  refine q_if_ne_f (t := 14) rfl (by decide) (i_nne (a := (0 : Int)) (b := (0 : Int)) (by decide +kernel) (by decide +kernel) (by omega)) ?_
                  refine q_iload_n rfl rfl ?_
                  refine q_iconstv (v := (2 : Int32)) rfl (by decide +kernel) ?_
                  refine q_idiv rfl (i_ne (a := (2 : Int)) (b := 0) (by decide +kernel) (by decide +kernel) (by omega)) ?_
                  refine q_goto (t := 30) rfl (by decide) ?_
                  refine q_iret rfl rfl ?_
                  refine bk_inl ?_
                  refine q_iload rfl rfl ?_
                  refine q_iload rfl rfl ?_
                  refine q_iload_n rfl rfl ?_
                  refine q_iload_n rfl rfl ?_
                  refine q_call rfl rfl rfl rfl ?_
                  refine q_iload_n rfl rfl ?_
                  refine q_if_ne_t (t := 18) rfl (by decide) (i_ne (a := (1 : Int)) (b := (0 : Int)) (by decide +kernel) (by decide +kernel) (by omega)) ?_
                  refine q_iload_n rfl rfl ?_
                  refine q_iconstv (v := (1 : Int32)) rfl (by decide +kernel) ?_
                  refine q_ic_ne_t (t := 29) rfl (by decide) (i_ne (a := (0 : Int)) (b := (1 : Int)) (by decide +kernel) (by decide +kernel) (by omega)) ?_
                  refine q_iload_n rfl rfl ?_
                  refine q_iret rfl rfl ?_
                  refine bk_inl ?_
                  refine q_ic_gt_f (t := 150) rfl (by decide) (i_nlt_r (a := ((x1 / (2 : Int32))).toInt) (b := (x2).toInt) rfl rfl (by omega)) ?_
                  refine q_iconstv (v := (1 : Int32)) rfl (by decide +kernel) ?_
                  refine q_iload rfl rfl ?_
                  refine q_isubv (v := (1 : Int32)) rfl (by decide +kernel) ?_
                  refine q_iload rfl rfl ?_
                  refine q_iload_n rfl rfl ?_
                  refine q_iload_n rfl rfl ?_
                  refine q_call rfl rfl rfl rfl ?_
                  refine q_iload_n rfl rfl ?_
                  refine q_if_ne_t (t := 18) rfl (by decide) (i_ne (a := (1 : Int)) (b := (0 : Int)) (by decide +kernel) (by decide +kernel) (by omega)) ?_
                  refine q_iload_n rfl rfl ?_
                  refine q_iconstv (v := (1 : Int32)) rfl (by decide +kernel) ?_
                  refine q_ic_ne_f (t := 29) rfl (by decide) (i_nne (a := (1 : Int)) (b := (1 : Int)) (by decide +kernel) (by decide +kernel) (by omega)) ?_
                  refine q_iload_n rfl rfl ?_
                  refine q_iconstv (v := (2 : Int32)) rfl (by decide +kernel) ?_
                  refine q_idiv rfl (i_ne (a := (2 : Int)) (b := 0) (by decide +kernel) (by decide +kernel) (by omega)) ?_
                  refine q_goto (t := 30) rfl (by decide) ?_
                  refine q_iret rfl rfl ?_
                  refine bk_inl ?_
                  refine q_iload rfl rfl ?_
                  refine q_iload rfl rfl ?_
                  refine q_iload_n rfl rfl ?_
                  refine q_iload_n rfl rfl ?_
                  refine q_call rfl rfl rfl rfl ?_
                  refine q_iload_n rfl rfl ?_
                  refine q_if_ne_f (t := 18) rfl (by decide) (i_nne (a := (0 : Int)) (b := (0 : Int)) (by decide +kernel) (by decide +kernel) (by omega)) ?_
                  refine q_iload_n rfl rfl ?_
                  refine q_if_ne_t (t := 14) rfl (by decide) (i_ne (a := (1 : Int)) (b := (0 : Int)) (by decide +kernel) (by decide +kernel) (by omega)) ?_
                  refine q_iload_n rfl rfl ?_
                  refine q_goto (t := 30) rfl (by decide) ?_
                  refine q_iret rfl rfl ?_
                  refine bk_inl ?_
                  refine q_ic_le_t (t := 126) rfl (by decide) (i_le (a := ((x2 / (2 : Int32))).toInt) (b := (x1).toInt) rfl rfl (by omega)) ?_
                  refine q_iincv (v := (3 : Int32)) rfl rfl (by decide) (by decide +kernel) ?_
                  refine q_iload rfl rfl ?_
                  refine q_iconstv (v := (-1 : Int32)) rfl (by decide +kernel) ?_
                  refine q_ic_ne_t (t := 146) rfl (by decide) (i_ne (a := (0 : Int)) (b := (-1 : Int)) (by decide +kernel) (by decide +kernel) (by omega)) ?_
                  refine q_iload rfl rfl ?_
                  refine q_istore rfl (by decide) ?_
                  refine q_iincv (v := (3 : Int32)) rfl rfl (by decide) (by decide +kernel) ?_
                  refine q_goto (t := 59) rfl (by decide) ?_
                  refine q_iload rfl rfl ?_
                  refine q_iconstv (v := (4 : Int32)) rfl (by decide +kernel) ?_
                  refine q_ic_ge_f (t := 156) rfl (by decide) (i_nle_r (a := (3 : Int)) (b := (4 : Int)) (by decide +kernel) (by decide +kernel) (by omega)) ?_
                  refine q_iload rfl rfl ?_
                  refine q_iconstv (v := (2 : Int32)) rfl (by decide +kernel) ?_
                  refine q_idivv (v := (1 : Int32)) rfl (by decide) (by decide +kernel) ?_
                  refine q_istore rfl (by decide) ?_
                  refine q_iload rfl rfl ?_
                  refine q_iconstv (v := (2 : Int32)) rfl (by decide +kernel) ?_
                  refine q_iremv (v := (1 : Int32)) rfl (by decide) (by decide +kernel) ?_
                  refine q_istore rfl (by decide) ?_
                  refine q_iconstv (v := (1 : Int32)) rfl (by decide +kernel) ?_
                  refine q_iload rfl rfl ?_
                  refine q_isubv (v := (0 : Int32)) rfl (by decide +kernel) ?_
                  refine q_iload rfl rfl ?_
                  refine q_iload_n rfl rfl ?_
                  refine q_iload_n rfl rfl ?_
                  refine q_call rfl rfl rfl rfl ?_
                  refine q_iload_n rfl rfl ?_
                  refine q_if_ne_f (t := 18) rfl (by decide) (i_nne (a := (0 : Int)) (b := (0 : Int)) (by decide +kernel) (by decide +kernel) (by omega)) ?_
                  refine q_iload_n rfl rfl ?_
                  refine q_if_ne_t (t := 14) rfl (by decide) (i_ne (a := (1 : Int)) (b := (0 : Int)) (by decide +kernel) (by decide +kernel) (by omega)) ?_
                  refine q_iload_n rfl rfl ?_
                  refine q_goto (t := 30) rfl (by decide) ?_
                  refine q_iret rfl rfl ?_
                  refine bk_inl ?_
                  refine q_iload rfl rfl ?_
                  refine q_iload rfl rfl ?_
                  refine q_iload_n rfl rfl ?_
                  refine q_iload_n rfl rfl ?_
                  refine q_call rfl rfl rfl rfl ?_
                  refine q_iload_n rfl rfl ?_
                  refine q_if_ne_t (t := 18) rfl (by decide) (i_ne (a := (1 : Int)) (b := (0 : Int)) (by decide +kernel) (by decide +kernel) (by omega)) ?_
                  refine q_iload_n rfl rfl ?_
                  refine q_iconstv (v := (1 : Int32)) rfl (by decide +kernel) ?_
                  refine q_ic_ne_f (t := 29) rfl (by decide) (i_nne (a := (1 : Int)) (b := (1 : Int)) (by decide +kernel) (by decide +kernel) (by omega)) ?_
                  refine q_iload_n rfl rfl ?_
                  refine q_iconstv (v := (2 : Int32)) rfl (by decide +kernel) ?_
                  refine q_idiv rfl (i_ne (a := (2 : Int)) (b := 0) (by decide +kernel) (by decide +kernel) (by omega)) ?_
                  refine q_goto (t := 30) rfl (by decide) ?_
                  refine q_iret rfl rfl ?_
                  refine bk_inl ?_
                  refine q_ic_gt_t (t := 150) rfl (by decide) (i_lt_r (a := (x1).toInt) (b := ((x2 / (2 : Int32))).toInt) rfl rfl (by omega)) ?_
                  refine q_iincv (v := (4 : Int32)) rfl rfl (by decide) (by decide +kernel) ?_
                  refine q_goto (t := 59) rfl (by decide) ?_
                  refine q_iload rfl rfl ?_
                  refine q_iconstv (v := (4 : Int32)) rfl (by decide +kernel) ?_
                  refine q_ic_ge_t (t := 156) rfl (by decide) (i_le_r (a := (4 : Int)) (b := (4 : Int)) (by decide +kernel) (by decide +kernel) (by omega)) ?_
                  refine q_iload_n rfl rfl ?_
                  refine q_if_ne_t (t := 165) rfl (by decide) (i_ne (a := (1 : Int)) (b := (0 : Int)) (by decide +kernel) (by decide +kernel) (by omega)) ?_
                  refine q_iload_n rfl rfl ?_
                  refine q_iconstv (v := (1 : Int32)) rfl (by decide +kernel) ?_
                  refine q_ic_ne_f (t := 175) rfl (by decide) (i_nne (a := (1 : Int)) (b := (1 : Int)) (by decide +kernel) (by decide +kernel) (by omega)) ?_
                  refine q_iload rfl rfl ?_
                  refine q_goto (t := 216) rfl (by decide) ?_
                  refine q_iret rfl rfl ?_
                  refine bk_inl ?_
                  refine q_istore rfl (by decide) ?_
                  refine q_aload_n rfl rfl ?_
                  refine q_call rfl rfl rfl rfl ?_
                  refine q_aload_n rfl rfl ?_
                  refine q_get rfl rfl rfl rfl ?_
                  refine q_iret rfl rfl ?_
                  refine bk_inl ?_
                  refine q_iload rfl rfl ?_
                  refine q_ic_eq_t (t := 1774) rfl (by decide) (i_eq (a := (0 : Int)) (b := (0 : Int)) (by decide +kernel) (by decide +kernel) (by omega)) ?_
                  refine q_iload rfl rfl ?_
                  refine q_if_ne_f (t := 1791) rfl (by decide) (i_nne (a := (0 : Int)) (b := (0 : Int)) (by decide +kernel) (by decide +kernel) (by omega)) ?_
                  refine q_aload_n rfl rfl ?_
                  refine q_iconstv (v := (0 : Int32)) rfl (by decide +kernel) ?_
                  refine q_laloadv (m := 0) rfl (by decide) rfl (by decide +kernel) rfl ?_
                  refine q_iload rfl rfl ?_
                  refine q_i2lv (v := (0 : Int64)) rfl (by decide +kernel) ?_
                  refine q_lcmpv (v := (0 : Int32)) rfl (by decide +kernel) ?_
                  refine q_if_eq_t (t := 1791) rfl (by decide) (i_eq (a := (0 : Int)) (b := (0 : Int)) (by decide +kernel) (by decide +kernel) (by omega)) ?_
                  refine q_goto (t := 2739) rfl (by decide) ?_
                  refine q_iincv (v := (8 : Int32)) rfl rfl (by decide) (by decide +kernel) ?_
                  refine q_goto (t := 23) rfl (by decide) ?_
                  exact q_end rfl rfl (by decide) (by decide)
                · refine q_ic_gt_f (t := 147) rfl (by decide) (i_nlt_r (a := (x1).toInt) (b := ((x2 / (2 : Int32))).toInt) rfl rfl (by omega)) ?_
                  refine q_iconstv (v := (1 : Int32)) rfl (by decide +kernel) ?_
                  refine q_iload rfl rfl ?_
                  refine q_isubv (v := (0 : Int32)) rfl (by decide +kernel) ?_
                  refine q_iload rfl rfl ?_
                  refine q_iload_n rfl rfl ?_
                  refine q_iload_n rfl rfl ?_
                  refine q_call rfl rfl rfl rfl ?_
                  refine q_iload_n rfl rfl ?_
                  refine q_if_ne_f (t := 8) rfl (by decide) (i_nne (a := (0 : Int)) (b := (0 : Int)) (by decide +kernel) (by decide +kernel) (by omega)) ?_
                  refine q_iload_n rfl rfl ?_
                  refine q_goto (t := 9) rfl (by decide) ?_
                  refine q_istore rfl (by decide) ?_
                  refine q_iload_n rfl rfl ?_
                  refine q_iload_n rfl rfl ?_
                  refine q_ic_ne_t (t := 23) rfl (by decide) (i_ne (a := (0 : Int)) (b := (1 : Int)) (by decide +kernel) (by decide +kernel) (by omega)) ?_
                  refine q_iload rfl rfl ?_
                  refine q_iret rfl rfl ?_
                  refine bk_inl ?_
                  refine q_iload rfl rfl ?_
                  refine q_ic_gt_f (t := 147) rfl (by decide) (i_nlt_r (a := (x1).toInt) (b := ((x2 / (2 : Int32))).toInt) rfl rfl (by omega)) ?_
                  refine q_iload rfl rfl ?_
                  refine q_if_ne_t (t := 144) rfl (by decide) (i_ne (a := (3 : Int)) (b := (0 : Int)) (by decide +kernel) (by decide +kernel) (by omega)) ?_
                  refine q_iincv (v := (4 : Int32)) rfl rfl (by decide) (by decide +kernel) ?_
                  refine q_iincv (v := (4 : Int32)) rfl rfl (by decide) (by decide +kernel) ?_
                  refine q_goto (t := 50) rfl (by decide) ?_
                  refine q_iload rfl rfl ?_
                  refine q_iconstv (v := (4 : Int32)) rfl (by decide +kernel) ?_
                  refine q_ic_ge_t (t := 153) rfl (by decide) (i_le_r (a := (4 : Int)) (b := (4 : Int)) (by decide +kernel) (by decide +kernel) (by omega)) ?_
                  refine q_iload_n rfl rfl ?_
                  refine q_lsw (t := 183) (off := 29) rfl (by decide) (by decide +kernel) (by decide) ?_
                  refine q_iload rfl rfl ?_
                  refine q_iret rfl rfl ?_
                  refine bk_inl ?_
                  refine q_i2lv (v := (0 : Int64)) rfl (by decide +kernel) ?_
                  refine q_lastorev (m := 0) (w9 := w1) rfl (by decide) rfl (by decide +kernel) (by decide) rfl ?_
                  refine q_goto (t := 19) rfl (by decide) ?_
                  refine q_iconstv (v := (0 : Int32)) rfl (by decide +kernel) ?_
                  refine q_iret rfl rfl ?_
                  refine bk_inl ?_
                  refine q_istore rfl (by decide) ?_
                  refine q_aload_n rfl rfl ?_
                  refine q_aload_n rfl rfl ?_
                  refine q_iload rfl rfl ?_
                  refine q_iconstv (v := (1 : Int32)) rfl (by decide +kernel) ?_
                  refine q_iaddv (v := (1 : Int32)) rfl (by decide +kernel) ?_
                  refine q_script rfl (by decide) rfl ?_
                  refine q_aload_n rfl rfl ?_
                  refine q_iload rfl rfl ?_
                  refine q_iconstv (v := (2 : Int32)) rfl (by decide +kernel) ?_
                  refine q_iaddv (v := (2 : Int32)) rfl (by decide +kernel) ?_
                  refine q_script rfl (by decide) rfl ?_
                  refine q_aload_n rfl rfl ?_
                  refine q_iload rfl rfl ?_
                  refine q_iconstv (v := (3 : Int32)) rfl (by decide +kernel) ?_
                  refine q_iaddv (v := (3 : Int32)) rfl (by decide +kernel) ?_
                  refine q_script rfl (by decide) rfl ?_
                  refine q_call rfl rfl rfl rfl ?_
                  refine q_aload_n rfl rfl ?_
                  refine q_iconstv (v := (0 : Int32)) rfl (by decide +kernel) ?_
                  refine q_putv (w9 := w1) rfl rfl rfl (by decide) rfl (by decide) rfl ?_
                  refine q_aload_n rfl rfl ?_
                  refine q_iload_n rfl rfl ?_
                  refine q_iconstv (v := (0 : Int32)) rfl (by decide +kernel) ?_
                  refine q_bipushv (v := (99 : Int32)) rfl (by decide +kernel) ?_
                  refine q_call rfl rfl rfl rfl ?_
                  refine q_iload_n rfl rfl ?_
                  refine q_iload_n rfl rfl ?_
                  refine q_ic_lt_f (t := 14) rfl (by decide) (i_nlt (a := (x1).toInt) (b := (0 : Int)) rfl (by decide +kernel) (by omega)) ?_
                  refine q_iload_n rfl rfl ?_
                  refine q_iload_n rfl rfl ?_
                  refine q_ic_gt_f (t := 14) rfl (by decide) (i_nlt_r (a := (x1).toInt) (b := (99 : Int)) rfl (by decide +kernel) (by omega)) ?_
                  refine q_iconstv (v := (1 : Int32)) rfl (by decide +kernel) ?_
                  refine q_goto (t := 15) rfl (by decide) ?_
                  refine q_zret rfl rfl (by decide) ?_
                  refine bk_inl ?_
                  refine q_if_eq_f (t := 39) rfl (by decide) (i_ne (a := (1 : Int)) (b := (0 : Int)) (by decide +kernel) (by decide +kernel) (by omega)) ?_
                  refine q_iload_n rfl rfl ?_
                  refine q_iconstv (v := (0 : Int32)) rfl (by decide +kernel) ?_
                  refine q_bipushv (v := (99 : Int32)) rfl (by decide +kernel) ?_
                  refine q_call rfl rfl rfl rfl ?_
                  refine q_iload_n rfl rfl ?_
                  refine q_iload_n rfl rfl ?_
                  refine q_ic_lt_f (t := 14) rfl (by decide) (i_nlt (a := (x2).toInt) (b := (0 : Int)) rfl (by decide +kernel) (by omega)) ?_
                  refine q_iload_n rfl rfl ?_
                  refine q_iload_n rfl rfl ?_
                  refine q_ic_gt_f (t := 14) rfl (by decide) (i_nlt_r (a := (x2).toInt) (b := (99 : Int)) rfl (by decide +kernel) (by omega)) ?_
                  refine q_iconstv (v := (1 : Int32)) rfl (by decide +kernel) ?_
                  refine q_goto (t := 15) rfl (by decide) ?_
                  refine q_zret rfl rfl (by decide) ?_
                  refine bk_inl ?_
                  refine q_if_eq_f (t := 39) rfl (by decide) (i_ne (a := (1 : Int)) (b := (0 : Int)) (by decide +kernel) (by decide +kernel) (by omega)) ?_
                  refine q_iload_n rfl rfl ?_
                  refine q_iconstv (v := (0 : Int32)) rfl (by decide +kernel) ?_
                  refine q_iconstv (v := (2 : Int32)) rfl (by decide +kernel) ?_
                  refine q_call rfl rfl rfl rfl ?_
                  refine q_iload_n rfl rfl ?_
                  refine q_iload_n rfl rfl ?_
                  refine q_ic_lt_f (t := 14) rfl (by decide) (i_nlt (a := (1 : Int)) (b := (0 : Int)) (by decide +kernel) (by decide +kernel) (by omega)) ?_
                  refine q_iload_n rfl rfl ?_
                  refine q_iload_n rfl rfl ?_
                  refine q_ic_gt_f (t := 14) rfl (by decide) (i_nlt_r (a := (1 : Int)) (b := (2 : Int)) (by decide +kernel) (by decide +kernel) (by omega)) ?_
                  refine q_iconstv (v := (1 : Int32)) rfl (by decide +kernel) ?_
                  refine q_goto (t := 15) rfl (by decide) ?_
                  refine q_zret rfl rfl (by decide) ?_
                  refine bk_inl ?_
                  refine q_if_eq_f (t := 39) rfl (by decide) (i_ne (a := (1 : Int)) (b := (0 : Int)) (by decide +kernel) (by decide +kernel) (by omega)) ?_
                  refine q_iconstv (v := (1 : Int32)) rfl (by decide +kernel) ?_
                  refine q_goto (t := 40) rfl (by decide) ?_
                  refine q_iconstv (v := (1 : Int32)) rfl (by decide +kernel) ?_
                  refine q_iconstv (v := (1 : Int32)) rfl (by decide +kernel) ?_
                  refine q_call rfl rfl rfl rfl ?_
                  refine q_iload_n rfl rfl ?_
                  refine q_if_ne_t (t := 26) rfl (by decide) (i_ne (a := (1 : Int)) (b := (0 : Int)) (by decide +kernel) (by decide +kernel) (by omega)) ?_
                  refine q_aload_n rfl rfl ?_
                  refine q_get rfl rfl rfl rfl ?_
                  refine q_if_ne_f (t := 37) rfl (by decide) (i_nne (a := (0 : Int)) (b := (0 : Int)) (by decide +kernel) (by decide +kernel) (by omega)) ?_
                  refine q_iconstv (v := (1 : Int32)) rfl (by decide +kernel) ?_
                  refine q_goto (t := 38) rfl (by decide) ?_
                  refine q_zret rfl rfl (by decide) ?_
                  refine bk_inl ?_
                  refine q_if_ne_t (t := 50) rfl (by decide) (i_ne (a := (1 : Int)) (b := (0 : Int)) (by decide +kernel) (by decide +kernel) (by omega)) ?_
                  refine q_iconstv (v := (0 : Int32)) rfl (by decide +kernel) ?_
                  refine q_istore rfl (by decide) ?_
                  refine q_iconstv (v := (-1 : Int32)) rfl (by decide +kernel) ?_
                  refine q_istore rfl (by decide) ?_
                  refine q_iconstv (v := (0 : Int32)) rfl (by decide +kernel) ?_
                  refine q_istore rfl (by decide) ?_
                  refine q_iload rfl rfl ?_
                  refine q_iconstv (v := (4 : Int32)) rfl (by decide +kernel) ?_
                  refine q_ic_ge_f (t := 156) rfl (by decide) (i_nle_r (a := (0 : Int)) (b := (4 : Int)) (by decide +kernel) (by decide +kernel) (by omega)) ?_
                  refine q_iload rfl rfl ?_
                  refine q_iconstv (v := (2 : Int32)) rfl (by decide +kernel) ?_
                  refine q_idivv (v := (0 : Int32)) rfl (by decide) (by decide +kernel) ?_
                  refine q_istore rfl (by decide) ?_
                  refine q_iload rfl rfl ?_
                  refine q_iconstv (v := (2 : Int32)) rfl (by decide +kernel) ?_
                  refine q_iremv (v := (0 : Int32)) rfl (by decide) (by decide +kernel) ?_
                  refine q_istore rfl (by decide) ?_
                  refine q_iconstv (v := (1 : Int32)) rfl (by decide +kernel) ?_
                  refine q_iload rfl rfl ?_
                  refine q_isubv (v := (1 : Int32)) rfl (by decide +kernel) ?_
                  refine q_iload rfl rfl ?_
                  refine q_iload_n rfl rfl ?_
                  refine q_iload_n rfl rfl ?_
                  refine q_call rfl rfl rfl rfl ?_
                  refine q_iload_n rfl rfl ?_
                  refine q_if_ne_t (t := 18) rfl (by decide) (i_ne (a := (1 : Int)) (b := (0 : Int)) (by decide +kernel) (by decide +kernel) (by omega)) ?_
                  refine q_iload_n rfl rfl ?_
                  refine q_iconstv (v := (1 : Int32)) rfl (by decide +kernel) ?_
                  refine q_ic_ne_t (t := 29) rfl (by decide) (i_ne (a := (0 : Int)) (b := (1 : Int)) (by decide +kernel) (by decide +kernel) (by omega)) ?_
                  refine q_iload_n rfl rfl ?_
                  refine q_iret rfl rfl ?_
                  refine bk_inl ?_
                  refine q_iload rfl rfl ?_
                  refine q_iload rfl rfl ?_
                  refine q_iload_n rfl rfl ?_
                  refine q_iload_n rfl rfl ?_
                  refine q_call rfl rfl rfl rfl ?_
                  refine q_iload_n rfl rfl ?_
                  refine q_if_ne_f (t := 18) rfl (by decide) (i_nne (a := (0 : Int)) (b := (0 : Int)) (by decide +kernel) (by decide +kernel) (by omega)) ?_
                  refine q_iload_n rfl rfl ?_
                  refine q_if_ne_f (t := 14) rfl (by decide) (i_nne (a := (0 : Int)) (b := (0 : Int)) (by decide +kernel) (by decide +kernel) (by omega)) ?_
                  refine q_iload_n rfl rfl ?_
                  refine q_iconstv (v := (2 : Int32)) rfl (by decide +kernel) ?_
                  refine q_idiv rfl (i_ne (a := (2 : Int)) (b := 0) (by decide +kernel) (by decide +kernel) (by omega)) ?_
                  refine q_goto (t := 30) rfl (by decide) ?_
                  refine q_iret rfl rfl ?_
                  refine bk_inl ?_
                  refine q_ic_gt_f (t := 150) rfl (by decide) (i_nlt_r (a := (x2).toInt) (b := ((x1 / (2 : Int32))).toInt) rfl rfl (by omega)) ?_
                  refine q_iconstv (v := (1 : Int32)) rfl (by decide +kernel) ?_
                  refine q_iload rfl rfl ?_
                  refine q_isubv (v := (1 : Int32)) rfl (by decide +kernel) ?_
                  refine q_iload rfl rfl ?_
                  refine q_iload_n rfl rfl ?_
                  refine q_iload_n rfl rfl ?_
                  refine q_call rfl rfl rfl rfl ?_
                  refine q_iload_n rfl rfl ?_
                  refine q_if_ne_t (t := 18) rfl (by decide) (i_ne (a := (1 : Int)) (b := (0 : Int)) (by decide +kernel) (by decide +kernel) (by omega)) ?_
                  refine q_iload_n rfl rfl ?_
                  refine q_iconstv (v := (1 : Int32)) rfl (by decide +kernel) ?_
                  refine q_ic_ne_t (t := 29) rfl (by decide) (i_ne (a := (0 : Int)) (b := (1 : Int)) (by decide +kernel) (by decide +kernel) (by omega)) ?_
                  refine q_iload_n rfl rfl ?_
                  refine q_iret rfl rfl ?_
                  refine bk_inl ?_
                  refine q_iload rfl rfl ?_
                  refine q_iload rfl rfl ?_
                  refine q_iload_n rfl rfl ?_
                  refine q_iload_n rfl rfl ?_
                  refine q_call rfl rfl rfl rfl ?_
                  refine q_iload_n rfl rfl ?_
                  refine q_if_ne_f (t := 18) rfl (by decide) (i_nne (a := (0 : Int)) (b := (0 : Int)) (by decide +kernel) (by decide +kernel) (by omega)) ?_
                  refine q_iload_n rfl rfl ?_
                  refine q_if_ne_f (t := 14) rfl (by decide) (i_nne (a := (0 : Int)) (b := (0 : Int)) (by decide +kernel) (by decide +kernel) (by omega)) ?_
                  refine q_iload_n rfl rfl ?_
                  refine q_iconstv (v := (2 : Int32)) rfl (by decide +kernel) ?_
                  refine q_idiv rfl (i_ne (a := (2 : Int)) (b := 0) (by decide +kernel) (by decide +kernel) (by omega)) ?_
                  refine q_goto (t := 30) rfl (by decide) ?_
                  refine q_iret rfl rfl ?_
                  refine bk_inl ?_
                  refine q_ic_le_t (t := 126) rfl (by decide) (i_le (a := (x2).toInt) (b := ((x1 / (2 : Int32))).toInt) rfl rfl (by omega)) ?_
                  refine q_iincv (v := (1 : Int32)) rfl rfl (by decide) (by decide +kernel) ?_
                  refine q_iload rfl rfl ?_
                  refine q_iconstv (v := (-1 : Int32)) rfl (by decide +kernel) ?_
                  refine q_ic_ne_f (t := 146) rfl (by decide) (i_nne (a := (-1 : Int)) (b := (-1 : Int)) (by decide +kernel) (by decide +kernel) (by omega)) ?_
                  refine q_bipushv (v := (10 : Int32)) rfl (by decide +kernel) ?_
                  refine q_iload rfl rfl ?_
                  refine q_imulv (v := (0 : Int32)) rfl (by decide +kernel) ?_
                  refine q_iload rfl rfl ?_
                  refine q_iaddv (v := (0 : Int32)) rfl (by decide +kernel) ?_
                  refine q_goto (t := 148) rfl (by decide) ?_
                  refine q_istore rfl (by decide) ?_
                  refine q_iincv (v := (1 : Int32)) rfl rfl (by decide) (by decide +kernel) ?_
                  refine q_goto (t := 59) rfl (by decide) ?_
                  refine q_iload rfl rfl ?_
                  refine q_iconstv (v := (4 : Int32)) rfl (by decide +kernel) ?_
                  refine q_ic_ge_f (t := 156) rfl (by decide) (i_nle_r (a := (1 : Int)) (b := (4 : Int)) (by decide +kernel) (by decide +kernel) (by omega)) ?_
                  refine q_iload rfl rfl ?_
                  refine q_iconstv (v := (2 : Int32)) rfl (by decide +kernel) ?_
                  refine q_idivv (v := (0 : Int32)) rfl (by decide) (by decide +kernel) ?_
                  refine q_istore rfl (by decide) ?_
                  refine q_iload rfl rfl ?_
                  refine q_iconstv (v := (2 : Int32)) rfl (by decide +kernel) ?_
                  refine q_iremv (v := (1 : Int32)) rfl (by decide) (by decide +kernel) ?_
                  refine q_istore rfl (by decide) ?_
                  refine q_iconstv (v := (1 : Int32)) rfl (by decide +kernel) ?_
                  refine q_iload rfl rfl ?_
                  refine q_isubv (v := (1 : Int32)) rfl (by decide +kernel) ?_
                  refine q_iload rfl rfl ?_
                  refine q_iload_n rfl rfl ?_
                  refine q_iload_n rfl rfl ?_
                  refine q_call rfl rfl rfl rfl ?_
                  refine q_iload_n rfl rfl ?_
                  refine q_if_ne_t (t := 18) rfl (by decide) (i_ne (a := (1 : Int)) (b := (0 : Int)) (by decide +kernel) (by decide +kernel) (by omega)) ?_
                  refine q_iload_n rfl rfl ?_
                  refine q_iconstv (v := (1 : Int32)) rfl (by decide +kernel) ?_
                  refine q_ic_ne_f (t := 29) rfl (by decide) (i_nne (a := (1 : Int)) (b := (1 : Int)) (by decide +kernel) (by decide +kernel) (by omega)) ?_
                  refine q_iload_n rfl rfl ?_
                  refine q_iconstv (v := (2 : Int32)) rfl (by decide +kernel) ?_
                  refine q_idiv rfl (i_ne (a := (2 : Int)) (b := 0) (by decide +kernel) (by decide +kernel) (by omega)) ?_
                  refine q_goto (t := 30) rfl (by decide) ?_
                  refine q_iret rfl rfl ?_
                  refine bk_inl ?_
                  refine q_iload rfl rfl ?_
                  refine q_iload rfl rfl ?_
                  refine q_iload_n rfl rfl ?_
                  refine q_iload_n rfl rfl ?_
                  refine q_call rfl rfl rfl rfl ?_
                  refine q_iload_n rfl rfl ?_
                  refine q_if_ne_f (t := 18) rfl (by decide) (i_nne (a := (0 : Int)) (b := (0 : Int)) (by decide +kernel) (by decide +kernel) (by omega)) ?_
                  refine q_iload_n rfl rfl ?_
                  refine q_if_ne_t (t := 14) rfl (by decide) (i_ne (a := (1 : Int)) (b := (0 : Int)) (by decide +kernel) (by decide +kernel) (by omega)) ?_
                  refine q_iload_n rfl rfl ?_
                  refine q_goto (t := 30) rfl (by decide) ?_
                  refine q_iret rfl rfl ?_
                  refine bk_inl ?_
                  refine q_ic_gt_f (t := 150) rfl (by decide) (i_nlt_r (a := ((x2 / (2 : Int32))).toInt) (b := (x1).toInt) rfl rfl (by omega)) ?_
                  refine q_iconstv (v := (1 : Int32)) rfl (by decide +kernel) ?_
                  refine q_iload rfl rfl ?_
                  refine q_isubv (v := (0 : Int32)) rfl (by decide +kernel) ?_
                  refine q_iload rfl rfl ?_
                  refine q_iload_n rfl rfl ?_
                  refine q_iload_n rfl rfl ?_
                  refine q_call rfl rfl rfl rfl ?_
                  refine q_iload_n rfl rfl ?_
                  refine q_if_ne_f (t := 18) rfl (by decide) (i_nne (a := (0 : Int)) (b := (0 : Int)) (by decide +kernel) (by decide +kernel) (by omega)) ?_
                  refine q_iload_n rfl rfl ?_
                  refine q_if_ne_f (t := 14) rfl (by decide) (i_nne (a := (0 : Int)) (b := (0 : Int)) (by decide +kernel) (by decide +kernel) (by omega)) ?_
                  refine q_iload_n rfl rfl ?_
                  refine q_iconstv (v := (2 : Int32)) rfl (by decide +kernel) ?_
                  refine q_idiv rfl (i_ne (a := (2 : Int)) (b := 0) (by decide +kernel) (by decide +kernel) (by omega)) ?_
                  refine q_goto (t := 30) rfl (by decide) ?_
                  refine q_iret rfl rfl ?_
                  refine bk_inl ?_
                  refine q_iload rfl rfl ?_
                  refine q_iload rfl rfl ?_
                  refine q_iload_n rfl rfl ?_
                  refine q_iload_n rfl rfl ?_
                  refine q_call rfl rfl rfl rfl ?_
                  refine q_iload_n rfl rfl ?_
                  refine q_if_ne_t (t := 18) rfl (by decide) (i_ne (a := (1 : Int)) (b := (0 : Int)) (by decide +kernel) (by decide +kernel) (by omega)) ?_
                  refine q_iload_n rfl rfl ?_
                  refine q_iconstv (v := (1 : Int32)) rfl (by decide +kernel) ?_
                  refine q_ic_ne_t (t := 29) rfl (by decide) (i_ne (a := (0 : Int)) (b := (1 : Int)) (by decide +kernel) (by decide +kernel) (by omega)) ?_
                  refine q_iload_n rfl rfl ?_
                  refine q_iret rfl rfl ?_
                  refine bk_inl ?_
                  refine q_ic_le_t (t := 126) rfl (by decide) (i_le (a := ((x1 / (2 : Int32))).toInt) (b := (x2).toInt) rfl rfl (by omega)) ?_
                  refine q_iincv (v := (2 : Int32)) rfl rfl (by decide) (by decide +kernel) ?_
                  refine q_iload rfl rfl ?_
                  refine q_iconstv (v := (-1 : Int32)) rfl (by decide +kernel) ?_
                  refine q_ic_ne_t (t := 146) rfl (by decide) (i_ne (a := (0 : Int)) (b := (-1 : Int)) (by decide +kernel) (by decide +kernel) (by omega)) ?_
                  refine q_iload rfl rfl ?_
                  refine q_istore rfl (by decide) ?_
                  refine q_iincv (v := (2 : Int32)) rfl rfl (by decide) (by decide +kernel) ?_
                  refine q_goto (t := 59) rfl (by decide) ?_
                  refine q_iload rfl rfl ?_
                  refine q_iconstv (v := (4 : Int32)) rfl (by decide +kernel) ?_
                  refine q_ic_ge_f (t := 156) rfl (by decide) (i_nle_r (a := (2 : Int)) (b := (4 : Int)) (by decide +kernel) (by decide +kernel) (by omega)) ?_
                  refine q_iload rfl rfl ?_
                  refine q_iconstv (v := (2 : Int32)) rfl (by decide +kernel) ?_
                  refine q_idivv (v := (1 : Int32)) rfl (by decide) (by decide +kernel) ?_
                  refine q_istore rfl (by decide) ?_
                  refine q_iload rfl rfl ?_
                  refine q_iconstv (v := (2 : Int32)) rfl (by decide +kernel) ?_
                  refine q_iremv (v := (0 : Int32)) rfl (by decide) (by decide +kernel) ?_
                  refine q_istore rfl (by decide) ?_
                  refine q_iconstv (v := (1 : Int32)) rfl (by decide +kernel) ?_
                  refine q_iload rfl rfl ?_
                  refine q_isubv (v := (0 : Int32)) rfl (by decide +kernel) ?_
                  refine q_iload rfl rfl ?_
                  refine q_iload_n rfl rfl ?_
                  refine q_iload_n rfl rfl ?_
                  refine q_call rfl rfl rfl rfl ?_
                  refine q_iload_n rfl rfl ?_
                  refine q_if_ne_f (t := 18) rfl (by decide) (i_nne (a := (0 : Int)) (b := (0 : Int)) (by decide +kernel) (by decide +kernel) (by omega)) ?_
                  refine q_iload_n rfl rfl ?_
                  refine q_if_ne_f (t := 14) rfl (by decide) (i_nne (a := (0 : Int)) (b := (0 : Int)) (by decide +kernel) (by decide +kernel) (by omega)) ?_
                  refine q_iload_n rfl rfl ?_
                  refine q_iconstv (v := (2 : Int32)) rfl (by decide +kernel) ?_
                  refine q_idiv rfl (i_ne (a := (2 : Int)) (b := 0) (by decide +kernel) (by decide +kernel) (by omega)) ?_
                  refine q_goto (t := 30) rfl (by decide) ?_
                  refine q_iret rfl rfl ?_
                  refine bk_inl ?_
                  refine q_iload rfl rfl ?_
                  refine q_iload rfl rfl ?_
                  refine q_iload_n rfl rfl ?_
                  refine q_iload_n rfl rfl ?_
                  refine q_call rfl rfl rfl rfl ?_
                  refine q_iload_n rfl rfl ?_
                  refine q_if_ne_t (t := 18) rfl (by decide) (i_ne (a := (1 : Int)) (b := (0 : Int)) (by decide +kernel) (by decide +kernel) (by omega)) ?_
                  refine q_iload_n rfl rfl ?_
                  refine q_iconstv (v := (1 : Int32)) rfl (by decide +kernel) ?_
                  refine q_ic_ne_t (t := 29) rfl (by decide) (i_ne (a := (0 : Int)) (b := (1 : Int)) (by decide +kernel) (by decide +kernel) (by omega)) ?_
                  refine q_iload_n rfl rfl ?_
                  refine q_iret rfl rfl ?_
                  refine bk_inl ?_
                  refine q_ic_gt_f (t := 150) rfl (by decide) (i_nlt_r (a := ((x1 / (2 : Int32))).toInt) (b := (x2).toInt) rfl rfl (by omega)) ?_
                  refine q_iconstv (v := (1 : Int32)) rfl (by decide +kernel) ?_
                  refine q_iload rfl rfl ?_
                  refine q_isubv (v := (1 : Int32)) rfl (by decide +kernel) ?_
                  refine q_iload rfl rfl ?_
                  refine q_iload_n rfl rfl ?_
                  refine q_iload_n rfl rfl ?_
                  refine q_call rfl rfl rfl rfl ?_
                  refine q_iload_n rfl rfl ?_
                  refine q_if_ne_t (t := 18) rfl (by decide) (i_ne (a := (1 : Int)) (b := (0 : Int)) (by decide +kernel) (by decide +kernel) (by omega)) ?_
                  refine q_iload_n rfl rfl ?_
                  refine q_iconstv (v := (1 : Int32)) rfl (by decide +kernel) ?_
                  refine q_ic_ne_f (t := 29) rfl (by decide) (i_nne (a := (1 : Int)) (b := (1 : Int)) (by decide +kernel) (by decide +kernel) (by omega)) ?_
                  refine q_iload_n rfl rfl ?_
                  refine q_iconstv (v := (2 : Int32)) rfl (by decide +kernel) ?_
                  refine q_idiv rfl (i_ne (a := (2 : Int)) (b := 0) (by decide +kernel) (by decide +kernel) (by omega)) ?_
                  refine q_goto (t := 30) rfl (by decide) ?_
                  refine q_iret rfl rfl ?_
                  refine bk_inl ?_
                  refine q_iload rfl rfl ?_
                  refine q_iload rfl rfl ?_
                  refine q_iload_n rfl rfl ?_
                  refine q_iload_n rfl rfl ?_
                  refine q_call rfl rfl rfl rfl ?_
                  refine q_iload_n rfl rfl ?_
                  refine q_if_ne_f (t := 18) rfl (by decide) (i_nne (a := (0 : Int)) (b := (0 : Int)) (by decide +kernel) (by decide +kernel) (by omega)) ?_
                  refine q_iload_n rfl rfl ?_
                  refine q_if_ne_t (t := 14) rfl (by decide) (i_ne (a := (1 : Int)) (b := (0 : Int)) (by decide +kernel) (by decide +kernel) (by omega)) ?_
                  refine q_iload_n rfl rfl ?_
                  refine q_goto (t := 30) rfl (by decide) ?_
                  refine q_iret rfl rfl ?_
                  refine bk_inl ?_
                  refine q_ic_le_t (t := 126) rfl (by decide) (i_le (a := ((x2 / (2 : Int32))).toInt) (b := (x1).toInt) rfl rfl (by omega)) ?_
                  refine q_iincv (v := (3 : Int32)) rfl rfl (by decide) (by decide +kernel) ?_
                  refine q_iload rfl rfl ?_
                  refine q_iconstv (v := (-1 : Int32)) rfl (by decide +kernel) ?_
                  refine q_ic_ne_t (t := 146) rfl (by decide) (i_ne (a := (0 : Int)) (b := (-1 : Int)) (by decide +kernel) (by decide +kernel) (by omega)) ?_
                  refine q_iload rfl rfl ?_
                  refine q_istore rfl (by decide) ?_
                  refine q_iincv (v := (3 : Int32)) rfl rfl (by decide) (by decide +kernel) ?_
                  refine q_goto (t := 59) rfl (by decide) ?_
                  refine q_iload rfl rfl ?_
                  refine q_iconstv (v := (4 : Int32)) rfl (by decide +kernel) ?_
                  refine q_ic_ge_f (t := 156) rfl (by decide) (i_nle_r (a := (3 : Int)) (b := (4 : Int)) (by decide +kernel) (by decide +kernel) (by omega)) ?_
                  refine q_iload rfl rfl ?_
                  refine q_iconstv (v := (2 : Int32)) rfl (by decide +kernel) ?_
                  refine q_idivv (v := (1 : Int32)) rfl (by decide) (by decide +kernel) ?_
                  refine q_istore rfl (by decide) ?_
                  refine q_iload rfl rfl ?_
                  refine q_iconstv (v := (2 : Int32)) rfl (by decide +kernel) ?_
                  refine q_iremv (v := (1 : Int32)) rfl (by decide) (by decide +kernel) ?_
                  refine q_istore rfl (by decide) ?_
                  refine q_iconstv (v := (1 : Int32)) rfl (by decide +kernel) ?_
                  refine q_iload rfl rfl ?_
                  refine q_isubv (v := (0 : Int32)) rfl (by decide +kernel) ?_
                  refine q_iload rfl rfl ?_
                  refine q_iload_n rfl rfl ?_
                  refine q_iload_n rfl rfl ?_
                  refine q_call rfl rfl rfl rfl ?_
                  refine q_iload_n rfl rfl ?_
                  refine q_if_ne_f (t := 18) rfl (by decide) (i_nne (a := (0 : Int)) (b := (0 : Int)) (by decide +kernel) (by decide +kernel) (by omega)) ?_
                  refine q_iload_n rfl rfl ?_
                  refine q_if_ne_t (t := 14) rfl (by decide) (i_ne (a := (1 : Int)) (b := (0 : Int)) (by decide +kernel) (by decide +kernel) (by omega)) ?_
                  refine q_iload_n rfl rfl ?_
                  refine q_goto (t := 30) rfl (by decide) ?_
                  refine q_iret rfl rfl ?_
                  refine bk_inl ?_
                  refine q_iload rfl rfl ?_
                  refine q_iload rfl rfl ?_
                  refine q_iload_n rfl rfl ?_
                  refine q_iload_n rfl rfl ?_
                  refine q_call rfl rfl rfl rfl ?_
                  refine q_iload_n rfl rfl ?_
                  refine q_if_ne_t (t := 18) rfl (by decide) (i_ne (a := (1 : Int)) (b := (0 : Int)) (by decide +kernel) (by decide +kernel) (by omega)) ?_
                  refine q_iload_n rfl rfl ?_
                  refine q_iconstv (v := (1 : Int32)) rfl (by decide +kernel) ?_
                  refine q_ic_ne_f (t := 29) rfl (by decide) (i_nne (a := (1 : Int)) (b := (1 : Int)) (by decide +kernel) (by decide +kernel) (by omega)) ?_
                  refine q_iload_n rfl rfl ?_
                  refine q_iconstv (v := (2 : Int32)) rfl (by decide +kernel) ?_
                  refine q_idiv rfl (i_ne (a := (2 : Int)) (b := 0) (by decide +kernel) (by decide +kernel) (by omega)) ?_
                  refine q_goto (t := 30) rfl (by decide) ?_
                  refine q_iret rfl rfl ?_
                  refine bk_inl ?_
                  refine q_ic_gt_f (t := 150) rfl (by decide) (i_nlt_r (a := (x1).toInt) (b := ((x2 / (2 : Int32))).toInt) rfl rfl (by omega)) ?_
                  refine q_iconstv (v := (1 : Int32)) rfl (by decide +kernel) ?_
                  refine q_iload rfl rfl ?_
                  refine q_isubv (v := (0 : Int32)) rfl (by decide +kernel) ?_
                  refine q_iload rfl rfl ?_
                  refine q_iload_n rfl rfl ?_
                  refine q_iload_n rfl rfl ?_
                  refine q_call rfl rfl rfl rfl ?_
                  refine q_iload_n rfl rfl ?_
                  refine q_if_ne_f (t := 18) rfl (by decide) (i_nne (a := (0 : Int)) (b := (0 : Int)) (by decide +kernel) (by decide +kernel) (by omega)) ?_
                  refine q_iload_n rfl rfl ?_
                  refine q_if_ne_t (t := 14) rfl (by decide) (i_ne (a := (1 : Int)) (b := (0 : Int)) (by decide +kernel) (by decide +kernel) (by omega)) ?_
                  refine q_iload_n rfl rfl ?_
                  refine q_goto (t := 30) rfl (by decide) ?_
                  refine q_iret rfl rfl ?_
                  refine bk_inl ?_
                  refine q_iload rfl rfl ?_
                  refine q_iload rfl rfl ?_
                  refine q_iload_n rfl rfl ?_
                  refine q_iload_n rfl rfl ?_
                  refine q_call rfl rfl rfl rfl ?_
                  refine q_iload_n rfl rfl ?_
                  refine q_if_ne_t (t := 18) rfl (by decide) (i_ne (a := (1 : Int)) (b := (0 : Int)) (by decide +kernel) (by decide +kernel) (by omega)) ?_
                  refine q_iload_n rfl rfl ?_
                  refine q_iconstv (v := (1 : Int32)) rfl (by decide +kernel) ?_
                  refine q_ic_ne_f (t := 29) rfl (by decide) (i_nne (a := (1 : Int)) (b := (1 : Int)) (by decide +kernel) (by decide +kernel) (by omega)) ?_
                  refine q_iload_n rfl rfl ?_
                  refine q_iconstv (v := (2 : Int32)) rfl (by decide +kernel) ?_
                  refine q_idiv rfl (i_ne (a := (2 : Int)) (b := 0) (by decide +kernel) (by decide +kernel) (by omega)) ?_
                  refine q_goto (t := 30) rfl (by decide) ?_
                  refine q_iret rfl rfl ?_
                  refine bk_inl ?_
                  refine q_ic_le_t (t := 126) rfl (by decide) (i_le (a := (x1).toInt) (b := ((x2 / (2 : Int32))).toInt) rfl rfl (by omega)) ?_
                  refine q_iincv (v := (4 : Int32)) rfl rfl (by decide) (by decide +kernel) ?_
                  refine q_iload rfl rfl ?_
                  refine q_iconstv (v := (-1 : Int32)) rfl (by decide +kernel) ?_
                  refine q_ic_ne_t (t := 146) rfl (by decide) (i_ne (a := (0 : Int)) (b := (-1 : Int)) (by decide +kernel) (by decide +kernel) (by omega)) ?_
                  refine q_iload rfl rfl ?_
                  refine q_istore rfl (by decide) ?_
                  refine q_iincv (v := (4 : Int32)) rfl rfl (by decide) (by decide +kernel) ?_
                  refine q_goto (t := 59) rfl (by decide) ?_
                  refine q_iload rfl rfl ?_
                  refine q_iconstv (v := (4 : Int32)) rfl (by decide +kernel) ?_
                  refine q_ic_ge_t (t := 156) rfl (by decide) (i_le_r (a := (4 : Int)) (b := (4 : Int)) (by decide +kernel) (by decide +kernel) (by omega)) ?_
                  refine q_iload_n rfl rfl ?_
                  refine q_if_ne_t (t := 165) rfl (by decide) (i_ne (a := (1 : Int)) (b := (0 : Int)) (by decide +kernel) (by decide +kernel) (by omega)) ?_
                  refine q_iload_n rfl rfl ?_
                  refine q_iconstv (v := (1 : Int32)) rfl (by decide +kernel) ?_
                  refine q_ic_ne_f (t := 175) rfl (by decide) (i_nne (a := (1 : Int)) (b := (1 : Int)) (by decide +kernel) (by decide +kernel) (by omega)) ?_
                  refine q_iload rfl rfl ?_
                  refine q_goto (t := 216) rfl (by decide) ?_
                  refine q_iret rfl rfl ?_
                  refine bk_inl ?_
                  refine q_istore rfl (by decide) ?_
                  refine q_aload_n rfl rfl ?_
                  refine q_call rfl rfl rfl rfl ?_
                  refine q_aload_n rfl rfl ?_
                  refine q_get rfl rfl rfl rfl ?_
                  refine q_iret rfl rfl ?_
                  refine bk_inl ?_
                  refine q_iload rfl rfl ?_
                  refine q_ic_eq_t (t := 1774) rfl (by decide) (i_eq (a := (0 : Int)) (b := (0 : Int)) (by decide +kernel) (by decide +kernel) (by omega)) ?_
                  refine q_iload rfl rfl ?_
                  refine q_if_ne_f (t := 1791) rfl (by decide) (i_nne (a := (0 : Int)) (b := (0 : Int)) (by decide +kernel) (by decide +kernel) (by omega)) ?_
                  refine q_aload_n rfl rfl ?_
                  refine q_iconstv (v := (0 : Int32)) rfl (by decide +kernel) ?_
                  refine q_laloadv (m := 0) rfl (by decide) rfl (by decide +kernel) rfl ?_
                  refine q_iload rfl rfl ?_
                  refine q_i2lv (v := (0 : Int64)) rfl (by decide +kernel) ?_
                  refine q_lcmpv (v := (0 : Int32)) rfl (by decide +kernel) ?_
                  refine q_if_eq_t (t := 1791) rfl (by decide) (i_eq (a := (0 : Int)) (b := (0 : Int)) (by decide +kernel) (by decide +kernel) (by omega)) ?_
                  refine q_goto (t := 2739) rfl (by decide) ?_
                  refine q_iincv (v := (8 : Int32)) rfl rfl (by decide) (by decide +kernel) ?_
                  refine q_goto (t := 23) rfl (by decide) ?_
                  exact q_end rfl rfl (by decide) (by decide)
