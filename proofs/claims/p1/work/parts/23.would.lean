/-! ===== the calls on a fresh object, one by one ===== -/

set_option maxRecDepth 100000 in
set_option maxHeartbeats 4000000 in
theorem op_13 {x0 x1 x2 x3 x4 x5 x6 x7 : Int32} : Wp [x0, x1, x2, x3, x4, x5, x6, x7] 100 296 923 l1 [] w1 68 8870 Qlaw := by
  refine q_aload_n rfl rfl ?_
  refine q_aload_n rfl rfl ?_
  refine q_iload rfl rfl ?_
  refine q_iconstv (v := (1 : Int32)) rfl (by decide +kernel) ?_
  refine q_iaddv (v := (1 : Int32)) rfl (by decide +kernel) ?_
  refine q_script rfl (by decide) rfl ?_
  refine q_aload_n rfl rfl ?_
  refine q_iload rfl rfl ?_
  refine q_iconstv (v := (2 : Int32)) rfl (by decide +kernel) ?_
  refine q_iaddv (v := (2 : Int32)) rfl (by decide +kernel) ?_
  refine q_script rfl (by decide) rfl ?_
  refine q_aload_n rfl rfl ?_
  refine q_iload rfl rfl ?_
  refine q_iconstv (v := (3 : Int32)) rfl (by decide +kernel) ?_
  refine q_iaddv (v := (3 : Int32)) rfl (by decide +kernel) ?_
  refine q_script rfl (by decide) rfl ?_
  refine q_aload_n rfl rfl ?_
  refine q_iload rfl rfl ?_
  refine q_iconstv (v := (4 : Int32)) rfl (by decide +kernel) ?_
  refine q_iaddv (v := (4 : Int32)) rfl (by decide +kernel) ?_
  refine q_script rfl (by decide) rfl ?_
  refine q_aload_n rfl rfl ?_
  refine q_iload rfl rfl ?_
  refine q_iconstv (v := (5 : Int32)) rfl (by decide +kernel) ?_
  refine q_iaddv (v := (5 : Int32)) rfl (by decide +kernel) ?_
  refine q_script rfl (by decide) rfl ?_
  refine q_aload_n rfl rfl ?_
  refine q_iload rfl rfl ?_
  refine q_bipushv (v := (6 : Int32)) rfl (by decide +kernel) ?_
  refine q_iaddv (v := (6 : Int32)) rfl (by decide +kernel) ?_
  refine q_script rfl (by decide) rfl ?_
  refine q_aload_n rfl rfl ?_
  refine q_iload rfl rfl ?_
  refine q_bipushv (v := (7 : Int32)) rfl (by decide +kernel) ?_
  refine q_iaddv (v := (7 : Int32)) rfl (by decide +kernel) ?_
  refine q_script rfl (by decide) rfl ?_
  refine q_aload_n rfl rfl ?_
  refine q_call rfl rfl rfl rfl ?_
  refine q_aload rfl rfl ?_
  refine q_iconstv (v := (0 : Int32)) rfl (by decide +kernel) ?_
  refine q_aload_n rfl rfl ?_
  refine q_iload_n rfl rfl ?_
  refine q_iload_n rfl rfl ?_
  refine q_iload_n rfl rfl ?_
  refine q_iload rfl rfl ?_
  refine q_iload rfl rfl ?_
  refine q_iload rfl rfl ?_
  refine q_iload rfl rfl ?_
  refine q_call rfl rfl rfl rfl ?_
  refine q_aload_n rfl rfl ?_
  refine q_iload_n rfl rfl ?_
  refine q_iconstv (v := (0 : Int32)) rfl (by decide +kernel) ?_
  refine q_sipushv (v := (9999 : Int32)) rfl (by decide +kernel) ?_
  refine q_call rfl rfl rfl rfl ?_
  refine q_iload_n rfl rfl ?_
  refine q_iload_n rfl rfl ?_
  by_cases h1 : (x1).toInt < 0
  · refine q_ic_lt_t (t := 14) rfl (by decide) (i_lt (a := (x1).toInt) (b := (0 : Int)) rfl (by decide +kernel) (by omega)) ?_
    refine q_iconstv (v := (0 : Int32)) rfl (by decide +kernel) ?_
    refine q_zret rfl rfl (by decide) ?_
    refine bk_inl ?_
    refine q_if_eq_t (t := 84) rfl (by decide) (i_eq (a := (0 : Int)) (b := (0 : Int)) (by decide +kernel) (by decide +kernel) (by omega)) ?_
    refine q_iconstv (v := (0 : Int32)) rfl (by decide +kernel) ?_
    refine q_call rfl rfl rfl rfl ?_
    refine q_iload_n rfl rfl ?_
    refine q_if_ne_f (t := 25) rfl (by decide) (i_nne (a := (0 : Int)) (b := (0 : Int)) (by decide +kernel) (by decide +kernel) (by omega)) ?_
    refine q_aload_n rfl rfl ?_
    refine q_dup rfl rfl ?_
    refine q_get rfl rfl rfl rfl ?_
    refine q_iconstv (v := (1 : Int32)) rfl (by decide +kernel) ?_
    refine q_iaddv (v := (1 : Int32)) rfl (by decide +kernel) ?_
    refine q_putv (w9 := (w1.set 0 (.inr (7, [.ref 1, .ref 3, .ref 7, .ref 9, .ref 10, .ref 11, .ref 12, .ref 13, .ref 25, .ref 37, .ref 39, .int 0, .int 0, .int 1])))) rfl rfl rfl (by decide) rfl (by decide) rfl ?_
    refine q_fin rfl rfl rfl ?_
    refine bk_out rfl rfl ?_
    refine bk_thr (z := (1 : Int32)) rfl ⟨_, _, rfl⟩ rfl ?_
    refine bk_inl ?_
    refine q_istore rfl (by decide) ?_
    refine q_aload_n rfl rfl ?_
    refine q_aload_n rfl rfl ?_
    refine q_iload rfl rfl ?_
    refine q_iconstv (v := (1 : Int32)) rfl (by decide +kernel) ?_
    refine q_iaddv (v := (1 : Int32)) rfl (by decide +kernel) ?_
    refine q_script rfl (by decide) rfl ?_
    refine q_aload_n rfl rfl ?_
    refine q_iload rfl rfl ?_
    refine q_iconstv (v := (2 : Int32)) rfl (by decide +kernel) ?_
    refine q_iaddv (v := (2 : Int32)) rfl (by decide +kernel) ?_
    refine q_script rfl (by decide) rfl ?_
    refine q_aload_n rfl rfl ?_
    refine q_iload rfl rfl ?_
    refine q_iconstv (v := (3 : Int32)) rfl (by decide +kernel) ?_
    refine q_iaddv (v := (3 : Int32)) rfl (by decide +kernel) ?_
    refine q_script rfl (by decide) rfl ?_
    refine q_aload_n rfl rfl ?_
    refine q_iload rfl rfl ?_
    refine q_iconstv (v := (4 : Int32)) rfl (by decide +kernel) ?_
    refine q_iaddv (v := (4 : Int32)) rfl (by decide +kernel) ?_
    refine q_script rfl (by decide) rfl ?_
    refine q_aload_n rfl rfl ?_
    refine q_iload rfl rfl ?_
    refine q_iconstv (v := (5 : Int32)) rfl (by decide +kernel) ?_
    refine q_iaddv (v := (5 : Int32)) rfl (by decide +kernel) ?_
    refine q_script rfl (by decide) rfl ?_
    refine q_aload_n rfl rfl ?_
    refine q_iload rfl rfl ?_
    refine q_bipushv (v := (6 : Int32)) rfl (by decide +kernel) ?_
    refine q_iaddv (v := (6 : Int32)) rfl (by decide +kernel) ?_
    refine q_script rfl (by decide) rfl ?_
    refine q_aload_n rfl rfl ?_
    refine q_iload rfl rfl ?_
    refine q_bipushv (v := (7 : Int32)) rfl (by decide +kernel) ?_
    refine q_iaddv (v := (7 : Int32)) rfl (by decide +kernel) ?_
    refine q_script rfl (by decide) rfl ?_
    refine q_call rfl rfl rfl rfl ?_
    refine q_aload_n rfl rfl ?_
    refine q_iconstv (v := (0 : Int32)) rfl (by decide +kernel) ?_
    refine q_putv (w9 := (w1.set 0 (.inr (7, [.ref 1, .ref 3, .ref 7, .ref 9, .ref 10, .ref 11, .ref 12, .ref 13, .ref 25, .ref 37, .ref 39, .int 0, .int 0, .int 1])))) rfl rfl rfl (by decide) rfl (by decide) rfl ?_
    refine q_aload_n rfl rfl ?_
    refine q_iload_n rfl rfl ?_
    refine q_iconstv (v := (0 : Int32)) rfl (by decide +kernel) ?_
    refine q_sipushv (v := (9999 : Int32)) rfl (by decide +kernel) ?_
    refine q_call rfl rfl rfl rfl ?_
    refine q_iload_n rfl rfl ?_
    refine q_iload_n rfl rfl ?_
    refine q_ic_lt_t (t := 14) rfl (by decide) (i_lt (a := (x1).toInt) (b := (0 : Int)) rfl (by decide +kernel) (by omega)) ?_
    refine q_iconstv (v := (0 : Int32)) rfl (by decide +kernel) ?_
    refine q_zret rfl rfl (by decide) ?_
    refine bk_inl ?_
    refine q_if_eq_t (t := 89) rfl (by decide) (i_eq (a := (0 : Int)) (b := (0 : Int)) (by decide +kernel) (by decide +kernel) (by omega)) ?_
    refine q_iconstv (v := (0 : Int32)) rfl (by decide +kernel) ?_
    refine q_iconstv (v := (1 : Int32)) rfl (by decide +kernel) ?_
    refine q_iconstv (v := (1 : Int32)) rfl (by decide +kernel) ?_
    refine q_call rfl rfl rfl rfl ?_
    refine q_iload_n rfl rfl ?_
    refine q_if_ne_f (t := 26) rfl (by decide) (i_nne (a := (0 : Int)) (b := (0 : Int)) (by decide +kernel) (by decide +kernel) (by omega)) ?_
    refine q_aload_n rfl rfl ?_
    refine q_get rfl rfl rfl rfl ?_
    refine q_if_ne_f (t := 26) rfl (by decide) (i_nne (a := (0 : Int)) (b := (0 : Int)) (by decide +kernel) (by decide +kernel) (by omega)) ?_
    refine q_aload_n rfl rfl ?_
    refine q_iload_n rfl rfl ?_
    refine q_putv (w9 := ((w1.set 0 (.inr (7, [.ref 1, .ref 3, .ref 7, .ref 9, .ref 10, .ref 11, .ref 12, .ref 13, .ref 25, .ref 37, .ref 39, .int 0, .int 0, .int 1]))).set 41 (.inr (8, [.int 1, .ref 42, .int 0, .int 0, .int 0, .int 0, .int 0, .int 0, .int (-1), .ref 43, .ref 44, .ref 45, .ref 46, .ref 47, .ref 48, .ref 49, .int 0, .int 0, .int 0, .int 5, .int 0, .int 0, .int 0, .int 5, .ref 50, .ref 51, .ref 52, .ref 53, .ref 54, .int 0, .int 0, .ref 55, .ref 56, .ref 57, .int 0, .int 0, .int 0, .int 0, .int 0, .int 0, .ref 58, .ref 59, .ref 60, .ref 61, .ref 62, .ref 63, .ref 64, .int 0, .int 0, .ref 65, .int 0, .ref 66, .int 0])))) rfl rfl rfl (by decide) rfl (by decide) rfl ?_
    refine q_aload_n rfl rfl ?_
    refine q_get rfl rfl rfl rfl ?_
    refine q_iload_n rfl rfl ?_
    refine q_dup2 rfl ⟨rfl, rfl⟩ ?_
    refine q_ialoadv (m := 1) rfl (by decide) (by decide) rfl (by decide +kernel) rfl ?_
    refine q_iconstv (v := (1 : Int32)) rfl (by decide +kernel) ?_
    refine q_iaddv (v := (1 : Int32)) rfl (by decide +kernel) ?_
    refine q_iastorev (m := 1) (w9 := (((w1.set 0 (.inr (7, [.ref 1, .ref 3, .ref 7, .ref 9, .ref 10, .ref 11, .ref 12, .ref 13, .ref 25, .ref 37, .ref 39, .int 0, .int 0, .int 1]))).set 41 (.inr (8, [.int 1, .ref 42, .int 0, .int 0, .int 0, .int 0, .int 0, .int 0, .int (-1), .ref 43, .ref 44, .ref 45, .ref 46, .ref 47, .ref 48, .ref 49, .int 0, .int 0, .int 0, .int 5, .int 0, .int 0, .int 0, .int 5, .ref 50, .ref 51, .ref 52, .ref 53, .ref 54, .int 0, .int 0, .ref 55, .ref 56, .ref 57, .int 0, .int 0, .int 0, .int 0, .int 0, .int 0, .ref 58, .ref 59, .ref 60, .ref 61, .ref 62, .ref 63, .ref 64, .int 0, .int 0, .ref 65, .int 0, .ref 66, .int 0]))).set 42 (.inl (0, .inl ([0, 1]))))) rfl (by decide) rfl (by decide +kernel) (Nat.le_of_ble_eq_true rfl) rfl ?_
    refine q_aload_n rfl rfl ?_
    refine q_get rfl rfl rfl rfl ?_
    refine q_if_ne_t (t := 37) rfl (by decide) (i_ne (a := (1 : Int)) (b := (0 : Int)) (by decide +kernel) (by decide +kernel) (by omega)) ?_
    refine q_iconstv (v := (0 : Int32)) rfl (by decide +kernel) ?_
    refine q_zret rfl rfl (by decide) ?_
    refine bk_inl ?_
    refine q_if_ne_f (t := 100) rfl (by decide) (i_nne (a := (0 : Int)) (b := (0 : Int)) (by decide +kernel) (by decide +kernel) (by omega)) ?_
    refine q_iconstv (v := (0 : Int32)) rfl (by decide +kernel) ?_
    refine q_iret rfl rfl ?_
    refine bk_inl ?_
    refine q_istore rfl (by decide) ?_
    refine q_aload_n rfl rfl ?_
    refine q_call rfl rfl rfl rfl ?_
    refine q_aload_n rfl rfl ?_
    refine q_get rfl rfl rfl rfl ?_
    refine q_iret rfl rfl ?_
    refine bk_inl ?_
    refine q_iload rfl rfl ?_
    refine q_ic_eq_t (t := 1035) rfl (by decide) (i_eq (a := (1 : Int)) (b := (1 : Int)) (by decide +kernel) (by decide +kernel) (by omega)) ?_
    refine q_iload rfl rfl ?_
    refine q_if_ne_t (t := 1052) rfl (by decide) (i_ne (a := (1 : Int)) (b := (0 : Int)) (by decide +kernel) (by decide +kernel) (by omega)) ?_
    refine q_goto (t := 2739) rfl (by decide) ?_
    refine q_iincv (v := (8 : Int32)) rfl rfl (by decide) (by decide +kernel) ?_
    refine q_goto (t := 23) rfl (by decide) ?_
    exact q_end rfl rfl (by decide) (by decide)
  · refine q_ic_lt_f (t := 14) rfl (by decide) (i_nlt (a := (x1).toInt) (b := (0 : Int)) rfl (by decide +kernel) (by omega)) ?_
    refine q_iload_n rfl rfl ?_
    refine q_iload_n rfl rfl ?_
    by_cases h2 : (x1).toInt > 9999
    · refine q_ic_gt_t (t := 14) rfl (by decide) (i_lt_r (a := (x1).toInt) (b := (9999 : Int)) rfl (by decide +kernel) (by omega)) ?_
      refine q_iconstv (v := (0 : Int32)) rfl (by decide +kernel) ?_
      refine q_zret rfl rfl (by decide) ?_
      refine bk_inl ?_
      refine q_if_eq_t (t := 84) rfl (by decide) (i_eq (a := (0 : Int)) (b := (0 : Int)) (by decide +kernel) (by decide +kernel) (by omega)) ?_
      refine q_iconstv (v := (0 : Int32)) rfl (by decide +kernel) ?_
      refine q_call rfl rfl rfl rfl ?_
      refine q_iload_n rfl rfl ?_
      refine q_if_ne_f (t := 25) rfl (by decide) (i_nne (a := (0 : Int)) (b := (0 : Int)) (by decide +kernel) (by decide +kernel) (by omega)) ?_
      refine q_aload_n rfl rfl ?_
      refine q_dup rfl rfl ?_
      refine q_get rfl rfl rfl rfl ?_
      refine q_iconstv (v := (1 : Int32)) rfl (by decide +kernel) ?_
      refine q_iaddv (v := (1 : Int32)) rfl (by decide +kernel) ?_
      refine q_putv (w9 := (w1.set 0 (.inr (7, [.ref 1, .ref 3, .ref 7, .ref 9, .ref 10, .ref 11, .ref 12, .ref 13, .ref 25, .ref 37, .ref 39, .int 0, .int 0, .int 1])))) rfl rfl rfl (by decide) rfl (by decide) rfl ?_
      refine q_fin rfl rfl rfl ?_
      refine bk_out rfl rfl ?_
      refine bk_thr (z := (1 : Int32)) rfl ⟨_, _, rfl⟩ rfl ?_
      refine bk_inl ?_
      refine q_istore rfl (by decide) ?_
      refine q_aload_n rfl rfl ?_
      refine q_aload_n rfl rfl ?_
      refine q_iload rfl rfl ?_
      refine q_iconstv (v := (1 : Int32)) rfl (by decide +kernel) ?_
      refine q_iaddv (v := (1 : Int32)) rfl (by decide +kernel) ?_
      refine q_script rfl (by decide) rfl ?_
      refine q_aload_n rfl rfl ?_
      refine q_iload rfl rfl ?_
      refine q_iconstv (v := (2 : Int32)) rfl (by decide +kernel) ?_
      refine q_iaddv (v := (2 : Int32)) rfl (by decide +kernel) ?_
      refine q_script rfl (by decide) rfl ?_
      refine q_aload_n rfl rfl ?_
      refine q_iload rfl rfl ?_
      refine q_iconstv (v := (3 : Int32)) rfl (by decide +kernel) ?_
      refine q_iaddv (v := (3 : Int32)) rfl (by decide +kernel) ?_
      refine q_script rfl (by decide) rfl ?_
      refine q_aload_n rfl rfl ?_
      refine q_iload rfl rfl ?_
      refine q_iconstv (v := (4 : Int32)) rfl (by decide +kernel) ?_
      refine q_iaddv (v := (4 : Int32)) rfl (by decide +kernel) ?_
      refine q_script rfl (by decide) rfl ?_
      refine q_aload_n rfl rfl ?_
      refine q_iload rfl rfl ?_
      refine q_iconstv (v := (5 : Int32)) rfl (by decide +kernel) ?_
      refine q_iaddv (v := (5 : Int32)) rfl (by decide +kernel) ?_
      refine q_script rfl (by decide) rfl ?_
      refine q_aload_n rfl rfl ?_
      refine q_iload rfl rfl ?_
      refine q_bipushv (v := (6 : Int32)) rfl (by decide +kernel) ?_
      refine q_iaddv (v := (6 : Int32)) rfl (by decide +kernel) ?_
      refine q_script rfl (by decide) rfl ?_
      refine q_aload_n rfl rfl ?_
      refine q_iload rfl rfl ?_
      refine q_bipushv (v := (7 : Int32)) rfl (by decide +kernel) ?_
      refine q_iaddv (v := (7 : Int32)) rfl (by decide +kernel) ?_
      refine q_script rfl (by decide) rfl ?_
      refine q_call rfl rfl rfl rfl ?_
      refine q_aload_n rfl rfl ?_
      refine q_iconstv (v := (0 : Int32)) rfl (by decide +kernel) ?_
      refine q_putv (w9 := (w1.set 0 (.inr (7, [.ref 1, .ref 3, .ref 7, .ref 9, .ref 10, .ref 11, .ref 12, .ref 13, .ref 25, .ref 37, .ref 39, .int 0, .int 0, .int 1])))) rfl rfl rfl (by decide) rfl (by decide) rfl ?_
      refine q_aload_n rfl rfl ?_
      refine q_iload_n rfl rfl ?_
      refine q_iconstv (v := (0 : Int32)) rfl (by decide +kernel) ?_
      refine q_sipushv (v := (9999 : Int32)) rfl (by decide +kernel) ?_
      refine q_call rfl rfl rfl rfl ?_
      refine q_iload_n rfl rfl ?_
      refine q_iload_n rfl rfl ?_
      refine q_ic_lt_f (t := 14) rfl (by decide) (i_nlt (a := (x1).toInt) (b := (0 : Int)) rfl (by decide +kernel) (by omega)) ?_
      refine q_iload_n rfl rfl ?_
      refine q_iload_n rfl rfl ?_
      refine q_ic_gt_t (t := 14) rfl (by decide) (i_lt_r (a := (x1).toInt) (b := (9999 : Int)) rfl (by decide +kernel) (by omega)) ?_
      refine q_iconstv (v := (0 : Int32)) rfl (by decide +kernel) ?_
      refine q_zret rfl rfl (by decide) ?_
      refine bk_inl ?_
      refine q_if_eq_t (t := 89) rfl (by decide) (i_eq (a := (0 : Int)) (b := (0 : Int)) (by decide +kernel) (by decide +kernel) (by omega)) ?_
      refine q_iconstv (v := (0 : Int32)) rfl (by decide +kernel) ?_
      refine q_iconstv (v := (1 : Int32)) rfl (by decide +kernel) ?_
      refine q_iconstv (v := (1 : Int32)) rfl (by decide +kernel) ?_
      refine q_call rfl rfl rfl rfl ?_
      refine q_iload_n rfl rfl ?_
      refine q_if_ne_f (t := 26) rfl (by decide) (i_nne (a := (0 : Int)) (b := (0 : Int)) (by decide +kernel) (by decide +kernel) (by omega)) ?_
      refine q_aload_n rfl rfl ?_
      refine q_get rfl rfl rfl rfl ?_
      refine q_if_ne_f (t := 26) rfl (by decide) (i_nne (a := (0 : Int)) (b := (0 : Int)) (by decide +kernel) (by decide +kernel) (by omega)) ?_
      refine q_aload_n rfl rfl ?_
      refine q_iload_n rfl rfl ?_
      refine q_putv (w9 := ((w1.set 0 (.inr (7, [.ref 1, .ref 3, .ref 7, .ref 9, .ref 10, .ref 11, .ref 12, .ref 13, .ref 25, .ref 37, .ref 39, .int 0, .int 0, .int 1]))).set 41 (.inr (8, [.int 1, .ref 42, .int 0, .int 0, .int 0, .int 0, .int 0, .int 0, .int (-1), .ref 43, .ref 44, .ref 45, .ref 46, .ref 47, .ref 48, .ref 49, .int 0, .int 0, .int 0, .int 5, .int 0, .int 0, .int 0, .int 5, .ref 50, .ref 51, .ref 52, .ref 53, .ref 54, .int 0, .int 0, .ref 55, .ref 56, .ref 57, .int 0, .int 0, .int 0, .int 0, .int 0, .int 0, .ref 58, .ref 59, .ref 60, .ref 61, .ref 62, .ref 63, .ref 64, .int 0, .int 0, .ref 65, .int 0, .ref 66, .int 0])))) rfl rfl rfl (by decide) rfl (by decide) rfl ?_
      refine q_aload_n rfl rfl ?_
      refine q_get rfl rfl rfl rfl ?_
      refine q_iload_n rfl rfl ?_
      refine q_dup2 rfl ⟨rfl, rfl⟩ ?_
      refine q_ialoadv (m := 1) rfl (by decide) (by decide) rfl (by decide +kernel) rfl ?_
      refine q_iconstv (v := (1 : Int32)) rfl (by decide +kernel) ?_
      refine q_iaddv (v := (1 : Int32)) rfl (by decide +kernel) ?_
      refine q_iastorev (m := 1) (w9 := (((w1.set 0 (.inr (7, [.ref 1, .ref 3, .ref 7, .ref 9, .ref 10, .ref 11, .ref 12, .ref 13, .ref 25, .ref 37, .ref 39, .int 0, .int 0, .int 1]))).set 41 (.inr (8, [.int 1, .ref 42, .int 0, .int 0, .int 0, .int 0, .int 0, .int 0, .int (-1), .ref 43, .ref 44, .ref 45, .ref 46, .ref 47, .ref 48, .ref 49, .int 0, .int 0, .int 0, .int 5, .int 0, .int 0, .int 0, .int 5, .ref 50, .ref 51, .ref 52, .ref 53, .ref 54, .int 0, .int 0, .ref 55, .ref 56, .ref 57, .int 0, .int 0, .int 0, .int 0, .int 0, .int 0, .ref 58, .ref 59, .ref 60, .ref 61, .ref 62, .ref 63, .ref 64, .int 0, .int 0, .ref 65, .int 0, .ref 66, .int 0]))).set 42 (.inl (0, .inl ([0, 1]))))) rfl (by decide) rfl (by decide +kernel) (Nat.le_of_ble_eq_true rfl) rfl ?_
      refine q_aload_n rfl rfl ?_
      refine q_get rfl rfl rfl rfl ?_
      refine q_if_ne_t (t := 37) rfl (by decide) (i_ne (a := (1 : Int)) (b := (0 : Int)) (by decide +kernel) (by decide +kernel) (by omega)) ?_
      refine q_iconstv (v := (0 : Int32)) rfl (by decide +kernel) ?_
      refine q_zret rfl rfl (by decide) ?_
      refine bk_inl ?_
      refine q_if_ne_f (t := 100) rfl (by decide) (i_nne (a := (0 : Int)) (b := (0 : Int)) (by decide +kernel) (by decide +kernel) (by omega)) ?_
      refine q_iconstv (v := (0 : Int32)) rfl (by decide +kernel) ?_
      refine q_iret rfl rfl ?_
      refine bk_inl ?_
      refine q_istore rfl (by decide) ?_
      refine q_aload_n rfl rfl ?_
      refine q_call rfl rfl rfl rfl ?_
      refine q_aload_n rfl rfl ?_
      refine q_get rfl rfl rfl rfl ?_
      refine q_iret rfl rfl ?_
      refine bk_inl ?_
      refine q_iload rfl rfl ?_
      refine q_ic_eq_t (t := 1035) rfl (by decide) (i_eq (a := (1 : Int)) (b := (1 : Int)) (by decide +kernel) (by decide +kernel) (by omega)) ?_
      refine q_iload rfl rfl ?_
      refine q_if_ne_t (t := 1052) rfl (by decide) (i_ne (a := (1 : Int)) (b := (0 : Int)) (by decide +kernel) (by decide +kernel) (by omega)) ?_
      refine q_goto (t := 2739) rfl (by decide) ?_
      refine q_iincv (v := (8 : Int32)) rfl rfl (by decide) (by decide +kernel) ?_
      refine q_goto (t := 23) rfl (by decide) ?_
      exact q_end rfl rfl (by decide) (by decide)
    · refine q_ic_gt_f (t := 14) rfl (by decide) (i_nlt_r (a := (x1).toInt) (b := (9999 : Int)) rfl (by decide +kernel) (by omega)) ?_
      refine q_iconstv (v := (1 : Int32)) rfl (by decide +kernel) ?_
      refine q_goto (t := 15) rfl (by decide) ?_
      refine q_zret rfl rfl (by decide) ?_
      refine bk_inl ?_
      refine q_if_eq_f (t := 84) rfl (by decide) (i_ne (a := (1 : Int)) (b := (0 : Int)) (by decide +kernel) (by decide +kernel) (by omega)) ?_
      refine q_iload_n rfl rfl ?_
      refine q_iconstv (v := (0 : Int32)) rfl (by decide +kernel) ?_
      refine q_sipushv (v := (9999 : Int32)) rfl (by decide +kernel) ?_
      refine q_call rfl rfl rfl rfl ?_
      refine q_iload_n rfl rfl ?_
      refine q_iload_n rfl rfl ?_
      by_cases h3 : (x2).toInt < 0
      · refine q_ic_lt_t (t := 14) rfl (by decide) (i_lt (a := (x2).toInt) (b := (0 : Int)) rfl (by decide +kernel) (by omega)) ?_
        refine q_iconstv (v := (0 : Int32)) rfl (by decide +kernel) ?_
        refine q_zret rfl rfl (by decide) ?_
        refine bk_inl ?_
        refine q_if_eq_t (t := 84) rfl (by decide) (i_eq (a := (0 : Int)) (b := (0 : Int)) (by decide +kernel) (by decide +kernel) (by omega)) ?_
        refine q_iconstv (v := (0 : Int32)) rfl (by decide +kernel) ?_
        refine q_call rfl rfl rfl rfl ?_
        refine q_iload_n rfl rfl ?_
        refine q_if_ne_f (t := 25) rfl (by decide) (i_nne (a := (0 : Int)) (b := (0 : Int)) (by decide +kernel) (by decide +kernel) (by omega)) ?_
        refine q_aload_n rfl rfl ?_
        refine q_dup rfl rfl ?_
        refine q_get rfl rfl rfl rfl ?_
        refine q_iconstv (v := (1 : Int32)) rfl (by decide +kernel) ?_
        refine q_iaddv (v := (1 : Int32)) rfl (by decide +kernel) ?_
        refine q_putv (w9 := (w1.set 0 (.inr (7, [.ref 1, .ref 3, .ref 7, .ref 9, .ref 10, .ref 11, .ref 12, .ref 13, .ref 25, .ref 37, .ref 39, .int 0, .int 0, .int 1])))) rfl rfl rfl (by decide) rfl (by decide) rfl ?_
        refine q_fin rfl rfl rfl ?_
        refine bk_out rfl rfl ?_
        refine bk_thr (z := (1 : Int32)) rfl ⟨_, _, rfl⟩ rfl ?_
        refine bk_inl ?_
        refine q_istore rfl (by decide) ?_
        refine q_aload_n rfl rfl ?_
        refine q_aload_n rfl rfl ?_
        refine q_iload rfl rfl ?_
        refine q_iconstv (v := (1 : Int32)) rfl (by decide +kernel) ?_
        refine q_iaddv (v := (1 : Int32)) rfl (by decide +kernel) ?_
        refine q_script rfl (by decide) rfl ?_
        refine q_aload_n rfl rfl ?_
        refine q_iload rfl rfl ?_
        refine q_iconstv (v := (2 : Int32)) rfl (by decide +kernel) ?_
        refine q_iaddv (v := (2 : Int32)) rfl (by decide +kernel) ?_
        refine q_script rfl (by decide) rfl ?_
        refine q_aload_n rfl rfl ?_
        refine q_iload rfl rfl ?_
        refine q_iconstv (v := (3 : Int32)) rfl (by decide +kernel) ?_
        refine q_iaddv (v := (3 : Int32)) rfl (by decide +kernel) ?_
        refine q_script rfl (by decide) rfl ?_
        refine q_aload_n rfl rfl ?_
        refine q_iload rfl rfl ?_
        refine q_iconstv (v := (4 : Int32)) rfl (by decide +kernel) ?_
        refine q_iaddv (v := (4 : Int32)) rfl (by decide +kernel) ?_
        refine q_script rfl (by decide) rfl ?_
        refine q_aload_n rfl rfl ?_
        refine q_iload rfl rfl ?_
        refine q_iconstv (v := (5 : Int32)) rfl (by decide +kernel) ?_
        refine q_iaddv (v := (5 : Int32)) rfl (by decide +kernel) ?_
        refine q_script rfl (by decide) rfl ?_
        refine q_aload_n rfl rfl ?_
        refine q_iload rfl rfl ?_
        refine q_bipushv (v := (6 : Int32)) rfl (by decide +kernel) ?_
        refine q_iaddv (v := (6 : Int32)) rfl (by decide +kernel) ?_
        refine q_script rfl (by decide) rfl ?_
        refine q_aload_n rfl rfl ?_
        refine q_iload rfl rfl ?_
        refine q_bipushv (v := (7 : Int32)) rfl (by decide +kernel) ?_
        refine q_iaddv (v := (7 : Int32)) rfl (by decide +kernel) ?_
        refine q_script rfl (by decide) rfl ?_
        refine q_call rfl rfl rfl rfl ?_
        refine q_aload_n rfl rfl ?_
        refine q_iconstv (v := (0 : Int32)) rfl (by decide +kernel) ?_
        refine q_putv (w9 := (w1.set 0 (.inr (7, [.ref 1, .ref 3, .ref 7, .ref 9, .ref 10, .ref 11, .ref 12, .ref 13, .ref 25, .ref 37, .ref 39, .int 0, .int 0, .int 1])))) rfl rfl rfl (by decide) rfl (by decide) rfl ?_
        refine q_aload_n rfl rfl ?_
        refine q_iload_n rfl rfl ?_
        refine q_iconstv (v := (0 : Int32)) rfl (by decide +kernel) ?_
        refine q_sipushv (v := (9999 : Int32)) rfl (by decide +kernel) ?_
        refine q_call rfl rfl rfl rfl ?_
        refine q_iload_n rfl rfl ?_
        refine q_iload_n rfl rfl ?_
        refine q_ic_lt_f (t := 14) rfl (by decide) (i_nlt (a := (x1).toInt) (b := (0 : Int)) rfl (by decide +kernel) (by omega)) ?_
        refine q_iload_n rfl rfl ?_
        refine q_iload_n rfl rfl ?_
        refine q_ic_gt_f (t := 14) rfl (by decide) (i_nlt_r (a := (x1).toInt) (b := (9999 : Int)) rfl (by decide +kernel) (by omega)) ?_
        refine q_iconstv (v := (1 : Int32)) rfl (by decide +kernel) ?_
        refine q_goto (t := 15) rfl (by decide) ?_
        refine q_zret rfl rfl (by decide) ?_
        refine bk_inl ?_
        refine q_if_eq_f (t := 89) rfl (by decide) (i_ne (a := (1 : Int)) (b := (0 : Int)) (by decide +kernel) (by decide +kernel) (by omega)) ?_
        refine q_iload_n rfl rfl ?_
        refine q_iconstv (v := (0 : Int32)) rfl (by decide +kernel) ?_
        refine q_sipushv (v := (9999 : Int32)) rfl (by decide +kernel) ?_
        refine q_call rfl rfl rfl rfl ?_
        refine q_iload_n rfl rfl ?_
        refine q_iload_n rfl rfl ?_
        refine q_ic_lt_t (t := 14) rfl (by decide) (i_lt (a := (x2).toInt) (b := (0 : Int)) rfl (by decide +kernel) (by omega)) ?_
        refine q_iconstv (v := (0 : Int32)) rfl (by decide +kernel) ?_
        refine q_zret rfl rfl (by decide) ?_
        refine bk_inl ?_
        refine q_if_eq_t (t := 89) rfl (by decide) (i_eq (a := (0 : Int)) (b := (0 : Int)) (by decide +kernel) (by decide +kernel) (by omega)) ?_
        refine q_iconstv (v := (0 : Int32)) rfl (by decide +kernel) ?_
        refine q_iconstv (v := (1 : Int32)) rfl (by decide +kernel) ?_
        refine q_iconstv (v := (1 : Int32)) rfl (by decide +kernel) ?_
        refine q_call rfl rfl rfl rfl ?_
        refine q_iload_n rfl rfl ?_
        refine q_if_ne_f (t := 26) rfl (by decide) (i_nne (a := (0 : Int)) (b := (0 : Int)) (by decide +kernel) (by decide +kernel) (by omega)) ?_
        refine q_aload_n rfl rfl ?_
        refine q_get rfl rfl rfl rfl ?_
        refine q_if_ne_f (t := 26) rfl (by decide) (i_nne (a := (0 : Int)) (b := (0 : Int)) (by decide +kernel) (by decide +kernel) (by omega)) ?_
        refine q_aload_n rfl rfl ?_
        refine q_iload_n rfl rfl ?_
        refine q_putv (w9 := ((w1.set 0 (.inr (7, [.ref 1, .ref 3, .ref 7, .ref 9, .ref 10, .ref 11, .ref 12, .ref 13, .ref 25, .ref 37, .ref 39, .int 0, .int 0, .int 1]))).set 41 (.inr (8, [.int 1, .ref 42, .int 0, .int 0, .int 0, .int 0, .int 0, .int 0, .int (-1), .ref 43, .ref 44, .ref 45, .ref 46, .ref 47, .ref 48, .ref 49, .int 0, .int 0, .int 0, .int 5, .int 0, .int 0, .int 0, .int 5, .ref 50, .ref 51, .ref 52, .ref 53, .ref 54, .int 0, .int 0, .ref 55, .ref 56, .ref 57, .int 0, .int 0, .int 0, .int 0, .int 0, .int 0, .ref 58, .ref 59, .ref 60, .ref 61, .ref 62, .ref 63, .ref 64, .int 0, .int 0, .ref 65, .int 0, .ref 66, .int 0])))) rfl rfl rfl (by decide) rfl (by decide) rfl ?_
        refine q_aload_n rfl rfl ?_
        refine q_get rfl rfl rfl rfl ?_
        refine q_iload_n rfl rfl ?_
        refine q_dup2 rfl ⟨rfl, rfl⟩ ?_
        refine q_ialoadv (m := 1) rfl (by decide) (by decide) rfl (by decide +kernel) rfl ?_
        refine q_iconstv (v := (1 : Int32)) rfl (by decide +kernel) ?_
        refine q_iaddv (v := (1 : Int32)) rfl (by decide +kernel) ?_
        refine q_iastorev (m := 1) (w9 := (((w1.set 0 (.inr (7, [.ref 1, .ref 3, .ref 7, .ref 9, .ref 10, .ref 11, .ref 12, .ref 13, .ref 25, .ref 37, .ref 39, .int 0, .int 0, .int 1]))).set 41 (.inr (8, [.int 1, .ref 42, .int 0, .int 0, .int 0, .int 0, .int 0, .int 0, .int (-1), .ref 43, .ref 44, .ref 45, .ref 46, .ref 47, .ref 48, .ref 49, .int 0, .int 0, .int 0, .int 5, .int 0, .int 0, .int 0, .int 5, .ref 50, .ref 51, .ref 52, .ref 53, .ref 54, .int 0, .int 0, .ref 55, .ref 56, .ref 57, .int 0, .int 0, .int 0, .int 0, .int 0, .int 0, .ref 58, .ref 59, .ref 60, .ref 61, .ref 62, .ref 63, .ref 64, .int 0, .int 0, .ref 65, .int 0, .ref 66, .int 0]))).set 42 (.inl (0, .inl ([0, 1]))))) rfl (by decide) rfl (by decide +kernel) (Nat.le_of_ble_eq_true rfl) rfl ?_
        refine q_aload_n rfl rfl ?_
        refine q_get rfl rfl rfl rfl ?_
        refine q_if_ne_t (t := 37) rfl (by decide) (i_ne (a := (1 : Int)) (b := (0 : Int)) (by decide +kernel) (by decide +kernel) (by omega)) ?_
        refine q_iconstv (v := (0 : Int32)) rfl (by decide +kernel) ?_
        refine q_zret rfl rfl (by decide) ?_
        refine bk_inl ?_
        refine q_if_ne_f (t := 100) rfl (by decide) (i_nne (a := (0 : Int)) (b := (0 : Int)) (by decide +kernel) (by decide +kernel) (by omega)) ?_
        refine q_iconstv (v := (0 : Int32)) rfl (by decide +kernel) ?_
        refine q_iret rfl rfl ?_
        refine bk_inl ?_
        refine q_istore rfl (by decide) ?_
        refine q_aload_n rfl rfl ?_
        refine q_call rfl rfl rfl rfl ?_
        refine q_aload_n rfl rfl ?_
        refine q_get rfl rfl rfl rfl ?_
        refine q_iret rfl rfl ?_
        refine bk_inl ?_
        refine q_iload rfl rfl ?_
        refine q_ic_eq_t (t := 1035) rfl (by decide) (i_eq (a := (1 : Int)) (b := (1 : Int)) (by decide +kernel) (by decide +kernel) (by omega)) ?_
        refine q_iload rfl rfl ?_
        refine q_if_ne_t (t := 1052) rfl (by decide) (i_ne (a := (1 : Int)) (b := (0 : Int)) (by decide +kernel) (by decide +kernel) (by omega)) ?_
        refine q_goto (t := 2739) rfl (by decide) ?_
        refine q_iincv (v := (8 : Int32)) rfl rfl (by decide) (by decide +kernel) ?_
        refine q_goto (t := 23) rfl (by decide) ?_
        exact q_end rfl rfl (by decide) (by decide)
      · refine q_ic_lt_f (t := 14) rfl (by decide) (i_nlt (a := (x2).toInt) (b := (0 : Int)) rfl (by decide +kernel) (by omega)) ?_
        refine q_iload_n rfl rfl ?_
        refine q_iload_n rfl rfl ?_
        by_cases h4 : (x2).toInt > 9999
        · refine q_ic_gt_t (t := 14) rfl (by decide) (i_lt_r (a := (x2).toInt) (b := (9999 : Int)) rfl (by decide +kernel) (by omega)) ?_
          refine q_iconstv (v := (0 : Int32)) rfl (by decide +kernel) ?_
          refine q_zret rfl rfl (by decide) ?_
          refine bk_inl ?_
          refine q_if_eq_t (t := 84) rfl (by decide) (i_eq (a := (0 : Int)) (b := (0 : Int)) (by decide +kernel) (by decide +kernel) (by omega)) ?_
          refine q_iconstv (v := (0 : Int32)) rfl (by decide +kernel) ?_
          refine q_call rfl rfl rfl rfl ?_
          refine q_iload_n rfl rfl ?_
          refine q_if_ne_f (t := 25) rfl (by decide) (i_nne (a := (0 : Int)) (b := (0 : Int)) (by decide +kernel) (by decide +kernel) (by omega)) ?_
          refine q_aload_n rfl rfl ?_
          refine q_dup rfl rfl ?_
          refine q_get rfl rfl rfl rfl ?_
          refine q_iconstv (v := (1 : Int32)) rfl (by decide +kernel) ?_
          refine q_iaddv (v := (1 : Int32)) rfl (by decide +kernel) ?_
          refine q_putv (w9 := (w1.set 0 (.inr (7, [.ref 1, .ref 3, .ref 7, .ref 9, .ref 10, .ref 11, .ref 12, .ref 13, .ref 25, .ref 37, .ref 39, .int 0, .int 0, .int 1])))) rfl rfl rfl (by decide) rfl (by decide) rfl ?_
          refine q_fin rfl rfl rfl ?_
          refine bk_out rfl rfl ?_
          refine bk_thr (z := (1 : Int32)) rfl ⟨_, _, rfl⟩ rfl ?_
          refine bk_inl ?_
          refine q_istore rfl (by decide) ?_
          refine q_aload_n rfl rfl ?_
          refine q_aload_n rfl rfl ?_
          refine q_iload rfl rfl ?_
          refine q_iconstv (v := (1 : Int32)) rfl (by decide +kernel) ?_
          refine q_iaddv (v := (1 : Int32)) rfl (by decide +kernel) ?_
          refine q_script rfl (by decide) rfl ?_
          refine q_aload_n rfl rfl ?_
          refine q_iload rfl rfl ?_
          refine q_iconstv (v := (2 : Int32)) rfl (by decide +kernel) ?_
          refine q_iaddv (v := (2 : Int32)) rfl (by decide +kernel) ?_
          refine q_script rfl (by decide) rfl ?_
          refine q_aload_n rfl rfl ?_
          refine q_iload rfl rfl ?_
          refine q_iconstv (v := (3 : Int32)) rfl (by decide +kernel) ?_
          refine q_iaddv (v := (3 : Int32)) rfl (by decide +kernel) ?_
          refine q_script rfl (by decide) rfl ?_
          refine q_aload_n rfl rfl ?_
          refine q_iload rfl rfl ?_
          refine q_iconstv (v := (4 : Int32)) rfl (by decide +kernel) ?_
          refine q_iaddv (v := (4 : Int32)) rfl (by decide +kernel) ?_
          refine q_script rfl (by decide) rfl ?_
          refine q_aload_n rfl rfl ?_
          refine q_iload rfl rfl ?_
          refine q_iconstv (v := (5 : Int32)) rfl (by decide +kernel) ?_
          refine q_iaddv (v := (5 : Int32)) rfl (by decide +kernel) ?_
          refine q_script rfl (by decide) rfl ?_
          refine q_aload_n rfl rfl ?_
          refine q_iload rfl rfl ?_
          refine q_bipushv (v := (6 : Int32)) rfl (by decide +kernel) ?_
          refine q_iaddv (v := (6 : Int32)) rfl (by decide +kernel) ?_
          refine q_script rfl (by decide) rfl ?_
          refine q_aload_n rfl rfl ?_
          refine q_iload rfl rfl ?_
          refine q_bipushv (v := (7 : Int32)) rfl (by decide +kernel) ?_
          refine q_iaddv (v := (7 : Int32)) rfl (by decide +kernel) ?_
          refine q_script rfl (by decide) rfl ?_
          refine q_call rfl rfl rfl rfl ?_
          refine q_aload_n rfl rfl ?_
          refine q_iconstv (v := (0 : Int32)) rfl (by decide +kernel) ?_
          refine q_putv (w9 := (w1.set 0 (.inr (7, [.ref 1, .ref 3, .ref 7, .ref 9, .ref 10, .ref 11, .ref 12, .ref 13, .ref 25, .ref 37, .ref 39, .int 0, .int 0, .int 1])))) rfl rfl rfl (by decide) rfl (by decide) rfl ?_
          refine q_aload_n rfl rfl ?_
          refine q_iload_n rfl rfl ?_
          refine q_iconstv (v := (0 : Int32)) rfl (by decide +kernel) ?_
          refine q_sipushv (v := (9999 : Int32)) rfl (by decide +kernel) ?_
          refine q_call rfl rfl rfl rfl ?_
          refine q_iload_n rfl rfl ?_
          refine q_iload_n rfl rfl ?_
          refine q_ic_lt_f (t := 14) rfl (by decide) (i_nlt (a := (x1).toInt) (b := (0 : Int)) rfl (by decide +kernel) (by omega)) ?_
          refine q_iload_n rfl rfl ?_
          refine q_iload_n rfl rfl ?_
          refine q_ic_gt_f (t := 14) rfl (by decide) (i_nlt_r (a := (x1).toInt) (b := (9999 : Int)) rfl (by decide +kernel) (by omega)) ?_
          refine q_iconstv (v := (1 : Int32)) rfl (by decide +kernel) ?_
          refine q_goto (t := 15) rfl (by decide) ?_
          refine q_zret rfl rfl (by decide) ?_
          refine bk_inl ?_
          refine q_if_eq_f (t := 89) rfl (by decide) (i_ne (a := (1 : Int)) (b := (0 : Int)) (by decide +kernel) (by decide +kernel) (by omega)) ?_
          refine q_iload_n rfl rfl ?_
          refine q_iconstv (v := (0 : Int32)) rfl (by decide +kernel) ?_
          refine q_sipushv (v := (9999 : Int32)) rfl (by decide +kernel) ?_
          refine q_call rfl rfl rfl rfl ?_
          refine q_iload_n rfl rfl ?_
          refine q_iload_n rfl rfl ?_
          refine q_ic_lt_f (t := 14) rfl (by decide) (i_nlt (a := (x2).toInt) (b := (0 : Int)) rfl (by decide +kernel) (by omega)) ?_
          refine q_iload_n rfl rfl ?_
          refine q_iload_n rfl rfl ?_
          refine q_ic_gt_t (t := 14) rfl (by decide) (i_lt_r (a := (x2).toInt) (b := (9999 : Int)) rfl (by decide +kernel) (by omega)) ?_
          refine q_iconstv (v := (0 : Int32)) rfl (by decide +kernel) ?_
          refine q_zret rfl rfl (by decide) ?_
          refine bk_inl ?_
          refine q_if_eq_t (t := 89) rfl (by decide) (i_eq (a := (0 : Int)) (b := (0 : Int)) (by decide +kernel) (by decide +kernel) (by omega)) ?_
          refine q_iconstv (v := (0 : Int32)) rfl (by decide +kernel) ?_
          refine q_iconstv (v := (1 : Int32)) rfl (by decide +kernel) ?_
          refine q_iconstv (v := (1 : Int32)) rfl (by decide +kernel) ?_
          refine q_call rfl rfl rfl rfl ?_
          refine q_iload_n rfl rfl ?_
          refine q_if_ne_f (t := 26) rfl (by decide) (i_nne (a := (0 : Int)) (b := (0 : Int)) (by decide +kernel) (by decide +kernel) (by omega)) ?_
          refine q_aload_n rfl rfl ?_
          refine q_get rfl rfl rfl rfl ?_
          refine q_if_ne_f (t := 26) rfl (by decide) (i_nne (a := (0 : Int)) (b := (0 : Int)) (by decide +kernel) (by decide +kernel) (by omega)) ?_
          refine q_aload_n rfl rfl ?_
          refine q_iload_n rfl rfl ?_
          refine q_putv (w9 := ((w1.set 0 (.inr (7, [.ref 1, .ref 3, .ref 7, .ref 9, .ref 10, .ref 11, .ref 12, .ref 13, .ref 25, .ref 37, .ref 39, .int 0, .int 0, .int 1]))).set 41 (.inr (8, [.int 1, .ref 42, .int 0, .int 0, .int 0, .int 0, .int 0, .int 0, .int (-1), .ref 43, .ref 44, .ref 45, .ref 46, .ref 47, .ref 48, .ref 49, .int 0, .int 0, .int 0, .int 5, .int 0, .int 0, .int 0, .int 5, .ref 50, .ref 51, .ref 52, .ref 53, .ref 54, .int 0, .int 0, .ref 55, .ref 56, .ref 57, .int 0, .int 0, .int 0, .int 0, .int 0, .int 0, .ref 58, .ref 59, .ref 60, .ref 61, .ref 62, .ref 63, .ref 64, .int 0, .int 0, .ref 65, .int 0, .ref 66, .int 0])))) rfl rfl rfl (by decide) rfl (by decide) rfl ?_
          refine q_aload_n rfl rfl ?_
          refine q_get rfl rfl rfl rfl ?_
          refine q_iload_n rfl rfl ?_
          refine q_dup2 rfl ⟨rfl, rfl⟩ ?_
          refine q_ialoadv (m := 1) rfl (by decide) (by decide) rfl (by decide +kernel) rfl ?_
          refine q_iconstv (v := (1 : Int32)) rfl (by decide +kernel) ?_
          refine q_iaddv (v := (1 : Int32)) rfl (by decide +kernel) ?_
          refine q_iastorev (m := 1) (w9 := (((w1.set 0 (.inr (7, [.ref 1, .ref 3, .ref 7, .ref 9, .ref 10, .ref 11, .ref 12, .ref 13, .ref 25, .ref 37, .ref 39, .int 0, .int 0, .int 1]))).set 41 (.inr (8, [.int 1, .ref 42, .int 0, .int 0, .int 0, .int 0, .int 0, .int 0, .int (-1), .ref 43, .ref 44, .ref 45, .ref 46, .ref 47, .ref 48, .ref 49, .int 0, .int 0, .int 0, .int 5, .int 0, .int 0, .int 0, .int 5, .ref 50, .ref 51, .ref 52, .ref 53, .ref 54, .int 0, .int 0, .ref 55, .ref 56, .ref 57, .int 0, .int 0, .int 0, .int 0, .int 0, .int 0, .ref 58, .ref 59, .ref 60, .ref 61, .ref 62, .ref 63, .ref 64, .int 0, .int 0, .ref 65, .int 0, .ref 66, .int 0]))).set 42 (.inl (0, .inl ([0, 1]))))) rfl (by decide) rfl (by decide +kernel) (Nat.le_of_ble_eq_true rfl) rfl ?_
          refine q_aload_n rfl rfl ?_
          refine q_get rfl rfl rfl rfl ?_
          refine q_if_ne_t (t := 37) rfl (by decide) (i_ne (a := (1 : Int)) (b := (0 : Int)) (by decide +kernel) (by decide +kernel) (by omega)) ?_
          refine q_iconstv (v := (0 : Int32)) rfl (by decide +kernel) ?_
          refine q_zret rfl rfl (by decide) ?_
          refine bk_inl ?_
          refine q_if_ne_f (t := 100) rfl (by decide) (i_nne (a := (0 : Int)) (b := (0 : Int)) (by decide +kernel) (by decide +kernel) (by omega)) ?_
          refine q_iconstv (v := (0 : Int32)) rfl (by decide +kernel) ?_
          refine q_iret rfl rfl ?_
          refine bk_inl ?_
          refine q_istore rfl (by decide) ?_
          refine q_aload_n rfl rfl ?_
          refine q_call rfl rfl rfl rfl ?_
          refine q_aload_n rfl rfl ?_
          refine q_get rfl rfl rfl rfl ?_
          refine q_iret rfl rfl ?_
          refine bk_inl ?_
          refine q_iload rfl rfl ?_
          refine q_ic_eq_t (t := 1035) rfl (by decide) (i_eq (a := (1 : Int)) (b := (1 : Int)) (by decide +kernel) (by decide +kernel) (by omega)) ?_
          refine q_iload rfl rfl ?_
          refine q_if_ne_t (t := 1052) rfl (by decide) (i_ne (a := (1 : Int)) (b := (0 : Int)) (by decide +kernel) (by decide +kernel) (by omega)) ?_
          refine q_goto (t := 2739) rfl (by decide) ?_
          refine q_iincv (v := (8 : Int32)) rfl rfl (by decide) (by decide +kernel) ?_
          refine q_goto (t := 23) rfl (by decide) ?_
          exact q_end rfl rfl (by decide) (by decide)
        · refine q_ic_gt_f (t := 14) rfl (by decide) (i_nlt_r (a := (x2).toInt) (b := (9999 : Int)) rfl (by decide +kernel) (by omega)) ?_
          refine q_iconstv (v := (1 : Int32)) rfl (by decide +kernel) ?_
          refine q_goto (t := 15) rfl (by decide) ?_
          refine q_zret rfl rfl (by decide) ?_
          refine bk_inl ?_
          refine q_if_eq_f (t := 84) rfl (by decide) (i_ne (a := (1 : Int)) (b := (0 : Int)) (by decide +kernel) (by decide +kernel) (by omega)) ?_
          refine q_iload_n rfl rfl ?_
          refine q_iconstv (v := (0 : Int32)) rfl (by decide +kernel) ?_
          refine q_sipushv (v := (9999 : Int32)) rfl (by decide +kernel) ?_
          refine q_call rfl rfl rfl rfl ?_
          refine q_iload_n rfl rfl ?_
          refine q_iload_n rfl rfl ?_
          by_cases h5 : (x3).toInt < 0
          · refine q_ic_lt_t (t := 14) rfl (by decide) (i_lt (a := (x3).toInt) (b := (0 : Int)) rfl (by decide +kernel) (by omega)) ?_
            refine q_iconstv (v := (0 : Int32)) rfl (by decide +kernel) ?_
            refine q_zret rfl rfl (by decide) ?_
            refine bk_inl ?_
            refine q_if_eq_t (t := 84) rfl (by decide) (i_eq (a := (0 : Int)) (b := (0 : Int)) (by decide +kernel) (by decide +kernel) (by omega)) ?_
            refine q_iconstv (v := (0 : Int32)) rfl (by decide +kernel) ?_
            refine q_call rfl rfl rfl rfl ?_
            refine q_iload_n rfl rfl ?_
            refine q_if_ne_f (t := 25) rfl (by decide) (i_nne (a := (0 : Int)) (b := (0 : Int)) (by decide +kernel) (by decide +kernel) (by omega)) ?_
            refine q_aload_n rfl rfl ?_
            refine q_dup rfl rfl ?_
            refine q_get rfl rfl rfl rfl ?_
            refine q_iconstv (v := (1 : Int32)) rfl (by decide +kernel) ?_
            refine q_iaddv (v := (1 : Int32)) rfl (by decide +kernel) ?_
            refine q_putv (w9 := (w1.set 0 (.inr (7, [.ref 1, .ref 3, .ref 7, .ref 9, .ref 10, .ref 11, .ref 12, .ref 13, .ref 25, .ref 37, .ref 39, .int 0, .int 0, .int 1])))) rfl rfl rfl (by decide) rfl (by decide) rfl ?_
            refine q_fin rfl rfl rfl ?_
            refine bk_out rfl rfl ?_
            refine bk_thr (z := (1 : Int32)) rfl ⟨_, _, rfl⟩ rfl ?_
            refine bk_inl ?_
            refine q_istore rfl (by decide) ?_
            refine q_aload_n rfl rfl ?_
            refine q_aload_n rfl rfl ?_
            refine q_iload rfl rfl ?_
            refine q_iconstv (v := (1 : Int32)) rfl (by decide +kernel) ?_
            refine q_iaddv (v := (1 : Int32)) rfl (by decide +kernel) ?_
            refine q_script rfl (by decide) rfl ?_
            refine q_aload_n rfl rfl ?_
            refine q_iload rfl rfl ?_
            refine q_iconstv (v := (2 : Int32)) rfl (by decide +kernel) ?_
            refine q_iaddv (v := (2 : Int32)) rfl (by decide +kernel) ?_
            refine q_script rfl (by decide) rfl ?_
            refine q_aload_n rfl rfl ?_
            refine q_iload rfl rfl ?_
            refine q_iconstv (v := (3 : Int32)) rfl (by decide +kernel) ?_
            refine q_iaddv (v := (3 : Int32)) rfl (by decide +kernel) ?_
            refine q_script rfl (by decide) rfl ?_
            refine q_aload_n rfl rfl ?_
            refine q_iload rfl rfl ?_
            refine q_iconstv (v := (4 : Int32)) rfl (by decide +kernel) ?_
            refine q_iaddv (v := (4 : Int32)) rfl (by decide +kernel) ?_
            refine q_script rfl (by decide) rfl ?_
            refine q_aload_n rfl rfl ?_
            refine q_iload rfl rfl ?_
            refine q_iconstv (v := (5 : Int32)) rfl (by decide +kernel) ?_
            refine q_iaddv (v := (5 : Int32)) rfl (by decide +kernel) ?_
            refine q_script rfl (by decide) rfl ?_
            refine q_aload_n rfl rfl ?_
            refine q_iload rfl rfl ?_
            refine q_bipushv (v := (6 : Int32)) rfl (by decide +kernel) ?_
            refine q_iaddv (v := (6 : Int32)) rfl (by decide +kernel) ?_
            refine q_script rfl (by decide) rfl ?_
            refine q_aload_n rfl rfl ?_
            refine q_iload rfl rfl ?_
            refine q_bipushv (v := (7 : Int32)) rfl (by decide +kernel) ?_
            refine q_iaddv (v := (7 : Int32)) rfl (by decide +kernel) ?_
            refine q_script rfl (by decide) rfl ?_
            refine q_call rfl rfl rfl rfl ?_
            refine q_aload_n rfl rfl ?_
            refine q_iconstv (v := (0 : Int32)) rfl (by decide +kernel) ?_
            refine q_putv (w9 := (w1.set 0 (.inr (7, [.ref 1, .ref 3, .ref 7, .ref 9, .ref 10, .ref 11, .ref 12, .ref 13, .ref 25, .ref 37, .ref 39, .int 0, .int 0, .int 1])))) rfl rfl rfl (by decide) rfl (by decide) rfl ?_
            refine q_aload_n rfl rfl ?_
            refine q_iload_n rfl rfl ?_
            refine q_iconstv (v := (0 : Int32)) rfl (by decide +kernel) ?_
            refine q_sipushv (v := (9999 : Int32)) rfl (by decide +kernel) ?_
            refine q_call rfl rfl rfl rfl ?_
            refine q_iload_n rfl rfl ?_
            refine q_iload_n rfl rfl ?_
            refine q_ic_lt_f (t := 14) rfl (by decide) (i_nlt (a := (x1).toInt) (b := (0 : Int)) rfl (by decide +kernel) (by omega)) ?_
            refine q_iload_n rfl rfl ?_
            refine q_iload_n rfl rfl ?_
            refine q_ic_gt_f (t := 14) rfl (by decide) (i_nlt_r (a := (x1).toInt) (b := (9999 : Int)) rfl (by decide +kernel) (by omega)) ?_
            refine q_iconstv (v := (1 : Int32)) rfl (by decide +kernel) ?_
            refine q_goto (t := 15) rfl (by decide) ?_
            refine q_zret rfl rfl (by decide) ?_
            refine bk_inl ?_
            refine q_if_eq_f (t := 89) rfl (by decide) (i_ne (a := (1 : Int)) (b := (0 : Int)) (by decide +kernel) (by decide +kernel) (by omega)) ?_
            refine q_iload_n rfl rfl ?_
            refine q_iconstv (v := (0 : Int32)) rfl (by decide +kernel) ?_
            refine q_sipushv (v := (9999 : Int32)) rfl (by decide +kernel) ?_
            refine q_call rfl rfl rfl rfl ?_
            refine q_iload_n rfl rfl ?_
            refine q_iload_n rfl rfl ?_
            refine q_ic_lt_f (t := 14) rfl (by decide) (i_nlt (a := (x2).toInt) (b := (0 : Int)) rfl (by decide +kernel) (by omega)) ?_
            refine q_iload_n rfl rfl ?_
            refine q_iload_n rfl rfl ?_
            refine q_ic_gt_f (t := 14) rfl (by decide) (i_nlt_r (a := (x2).toInt) (b := (9999 : Int)) rfl (by decide +kernel) (by omega)) ?_
            refine q_iconstv (v := (1 : Int32)) rfl (by decide +kernel) ?_
            refine q_goto (t := 15) rfl (by decide) ?_
            refine q_zret rfl rfl (by decide) ?_
            refine bk_inl ?_
            refine q_if_eq_f (t := 89) rfl (by decide) (i_ne (a := (1 : Int)) (b := (0 : Int)) (by decide +kernel) (by decide +kernel) (by omega)) ?_
            refine q_iload_n rfl rfl ?_
            refine q_iconstv (v := (0 : Int32)) rfl (by decide +kernel) ?_
            refine q_sipushv (v := (9999 : Int32)) rfl (by decide +kernel) ?_
            refine q_call rfl rfl rfl rfl ?_
            refine q_iload_n rfl rfl ?_
            refine q_iload_n rfl rfl ?_
            refine q_ic_lt_t (t := 14) rfl (by decide) (i_lt (a := (x3).toInt) (b := (0 : Int)) rfl (by decide +kernel) (by omega)) ?_
            refine q_iconstv (v := (0 : Int32)) rfl (by decide +kernel) ?_
            refine q_zret rfl rfl (by decide) ?_
            refine bk_inl ?_
            refine q_if_eq_t (t := 89) rfl (by decide) (i_eq (a := (0 : Int)) (b := (0 : Int)) (by decide +kernel) (by decide +kernel) (by omega)) ?_
            refine q_iconstv (v := (0 : Int32)) rfl (by decide +kernel) ?_
            refine q_iconstv (v := (1 : Int32)) rfl (by decide +kernel) ?_
            refine q_iconstv (v := (1 : Int32)) rfl (by decide +kernel) ?_
            refine q_call rfl rfl rfl rfl ?_
            refine q_iload_n rfl rfl ?_
            refine q_if_ne_f (t := 26) rfl (by decide) (i_nne (a := (0 : Int)) (b := (0 : Int)) (by decide +kernel) (by decide +kernel) (by omega)) ?_
            refine q_aload_n rfl rfl ?_
            refine q_get rfl rfl rfl rfl ?_
            refine q_if_ne_f (t := 26) rfl (by decide) (i_nne (a := (0 : Int)) (b := (0 : Int)) (by decide +kernel) (by decide +kernel) (by omega)) ?_
            refine q_aload_n rfl rfl ?_
            refine q_iload_n rfl rfl ?_
            refine q_putv (w9 := ((w1.set 0 (.inr (7, [.ref 1, .ref 3, .ref 7, .ref 9, .ref 10, .ref 11, .ref 12, .ref 13, .ref 25, .ref 37, .ref 39, .int 0, .int 0, .int 1]))).set 41 (.inr (8, [.int 1, .ref 42, .int 0, .int 0, .int 0, .int 0, .int 0, .int 0, .int (-1), .ref 43, .ref 44, .ref 45, .ref 46, .ref 47, .ref 48, .ref 49, .int 0, .int 0, .int 0, .int 5, .int 0, .int 0, .int 0, .int 5, .ref 50, .ref 51, .ref 52, .ref 53, .ref 54, .int 0, .int 0, .ref 55, .ref 56, .ref 57, .int 0, .int 0, .int 0, .int 0, .int 0, .int 0, .ref 58, .ref 59, .ref 60, .ref 61, .ref 62, .ref 63, .ref 64, .int 0, .int 0, .ref 65, .int 0, .ref 66, .int 0])))) rfl rfl rfl (by decide) rfl (by decide) rfl ?_
            refine q_aload_n rfl rfl ?_
            refine q_get rfl rfl rfl rfl ?_
            refine q_iload_n rfl rfl ?_
            refine q_dup2 rfl ⟨rfl, rfl⟩ ?_
            refine q_ialoadv (m := 1) rfl (by decide) (by decide) rfl (by decide +kernel) rfl ?_
            refine q_iconstv (v := (1 : Int32)) rfl (by decide +kernel) ?_
            refine q_iaddv (v := (1 : Int32)) rfl (by decide +kernel) ?_
            refine q_iastorev (m := 1) (w9 := (((w1.set 0 (.inr (7, [.ref 1, .ref 3, .ref 7, .ref 9, .ref 10, .ref 11, .ref 12, .ref 13, .ref 25, .ref 37, .ref 39, .int 0, .int 0, .int 1]))).set 41 (.inr (8, [.int 1, .ref 42, .int 0, .int 0, .int 0, .int 0, .int 0, .int 0, .int (-1), .ref 43, .ref 44, .ref 45, .ref 46, .ref 47, .ref 48, .ref 49, .int 0, .int 0, .int 0, .int 5, .int 0, .int 0, .int 0, .int 5, .ref 50, .ref 51, .ref 52, .ref 53, .ref 54, .int 0, .int 0, .ref 55, .ref 56, .ref 57, .int 0, .int 0, .int 0, .int 0, .int 0, .int 0, .ref 58, .ref 59, .ref 60, .ref 61, .ref 62, .ref 63, .ref 64, .int 0, .int 0, .ref 65, .int 0, .ref 66, .int 0]))).set 42 (.inl (0, .inl ([0, 1]))))) rfl (by decide) rfl (by decide +kernel) (Nat.le_of_ble_eq_true rfl) rfl ?_
            refine q_aload_n rfl rfl ?_
            refine q_get rfl rfl rfl rfl ?_
            refine q_if_ne_t (t := 37) rfl (by decide) (i_ne (a := (1 : Int)) (b := (0 : Int)) (by decide +kernel) (by decide +kernel) (by omega)) ?_
            refine q_iconstv (v := (0 : Int32)) rfl (by decide +kernel) ?_
            refine q_zret rfl rfl (by decide) ?_
            refine bk_inl ?_
            refine q_if_ne_f (t := 100) rfl (by decide) (i_nne (a := (0 : Int)) (b := (0 : Int)) (by decide +kernel) (by decide +kernel) (by omega)) ?_
            refine q_iconstv (v := (0 : Int32)) rfl (by decide +kernel) ?_
            refine q_iret rfl rfl ?_
            refine bk_inl ?_
            refine q_istore rfl (by decide) ?_
            refine q_aload_n rfl rfl ?_
            refine q_call rfl rfl rfl rfl ?_
            refine q_aload_n rfl rfl ?_
            refine q_get rfl rfl rfl rfl ?_
            refine q_iret rfl rfl ?_
            refine bk_inl ?_
            refine q_iload rfl rfl ?_
            refine q_ic_eq_t (t := 1035) rfl (by decide) (i_eq (a := (1 : Int)) (b := (1 : Int)) (by decide +kernel) (by decide +kernel) (by omega)) ?_
            refine q_iload rfl rfl ?_
            refine q_if_ne_t (t := 1052) rfl (by decide) (i_ne (a := (1 : Int)) (b := (0 : Int)) (by decide +kernel) (by decide +kernel) (by omega)) ?_
            refine q_goto (t := 2739) rfl (by decide) ?_
            refine q_iincv (v := (8 : Int32)) rfl rfl (by decide) (by decide +kernel) ?_
            refine q_goto (t := 23) rfl (by decide) ?_
            exact q_end rfl rfl (by decide) (by decide)
          · refine q_ic_lt_f (t := 14) rfl (by decide) (i_nlt (a := (x3).toInt) (b := (0 : Int)) rfl (by decide +kernel) (by omega)) ?_
            refine q_iload_n rfl rfl ?_
            refine q_iload_n rfl rfl ?_
            by_cases h6 : (x3).toInt > 9999
            · refine q_ic_gt_t (t := 14) rfl (by decide) (i_lt_r (a := (x3).toInt) (b := (9999 : Int)) rfl (by decide +kernel) (by omega)) ?_
              refine q_iconstv (v := (0 : Int32)) rfl (by decide +kernel) ?_
              refine q_zret rfl rfl (by decide) ?_
              refine bk_inl ?_
              refine q_if_eq_t (t := 84) rfl (by decide) (i_eq (a := (0 : Int)) (b := (0 : Int)) (by decide +kernel) (by decide +kernel) (by omega)) ?_
              refine q_iconstv (v := (0 : Int32)) rfl (by decide +kernel) ?_
              refine q_call rfl rfl rfl rfl ?_
              refine q_iload_n rfl rfl ?_
              refine q_if_ne_f (t := 25) rfl (by decide) (i_nne (a := (0 : Int)) (b := (0 : Int)) (by decide +kernel) (by decide +kernel) (by omega)) ?_
              refine q_aload_n rfl rfl ?_
              refine q_dup rfl rfl ?_
              refine q_get rfl rfl rfl rfl ?_
              refine q_iconstv (v := (1 : Int32)) rfl (by decide +kernel) ?_
              refine q_iaddv (v := (1 : Int32)) rfl (by decide +kernel) ?_
              refine q_putv (w9 := (w1.set 0 (.inr (7, [.ref 1, .ref 3, .ref 7, .ref 9, .ref 10, .ref 11, .ref 12, .ref 13, .ref 25, .ref 37, .ref 39, .int 0, .int 0, .int 1])))) rfl rfl rfl (by decide) rfl (by decide) rfl ?_
              refine q_fin rfl rfl rfl ?_
              refine bk_out rfl rfl ?_
              refine bk_thr (z := (1 : Int32)) rfl ⟨_, _, rfl⟩ rfl ?_
              refine bk_inl ?_
              refine q_istore rfl (by decide) ?_
              refine q_aload_n rfl rfl ?_
              refine q_aload_n rfl rfl ?_
              refine q_iload rfl rfl ?_
              refine q_iconstv (v := (1 : Int32)) rfl (by decide +kernel) ?_
              refine q_iaddv (v := (1 : Int32)) rfl (by decide +kernel) ?_
              refine q_script rfl (by decide) rfl ?_
              refine q_aload_n rfl rfl ?_
              refine q_iload rfl rfl ?_
              refine q_iconstv (v := (2 : Int32)) rfl (by decide +kernel) ?_
              refine q_iaddv (v := (2 : Int32)) rfl (by decide +kernel) ?_
              refine q_script rfl (by decide) rfl ?_
              refine q_aload_n rfl rfl ?_
              refine q_iload rfl rfl ?_
              refine q_iconstv (v := (3 : Int32)) rfl (by decide +kernel) ?_
              refine q_iaddv (v := (3 : Int32)) rfl (by decide +kernel) ?_
              refine q_script rfl (by decide) rfl ?_
              refine q_aload_n rfl rfl ?_
              refine q_iload rfl rfl ?_
              refine q_iconstv (v := (4 : Int32)) rfl (by decide +kernel) ?_
              refine q_iaddv (v := (4 : Int32)) rfl (by decide +kernel) ?_
              refine q_script rfl (by decide) rfl ?_
              refine q_aload_n rfl rfl ?_
              refine q_iload rfl rfl ?_
              refine q_iconstv (v := (5 : Int32)) rfl (by decide +kernel) ?_
              refine q_iaddv (v := (5 : Int32)) rfl (by decide +kernel) ?_
              refine q_script rfl (by decide) rfl ?_
              refine q_aload_n rfl rfl ?_
              refine q_iload rfl rfl ?_
              refine q_bipushv (v := (6 : Int32)) rfl (by decide +kernel) ?_
              refine q_iaddv (v := (6 : Int32)) rfl (by decide +kernel) ?_
              refine q_script rfl (by decide) rfl ?_
              refine q_aload_n rfl rfl ?_
              refine q_iload rfl rfl ?_
              refine q_bipushv (v := (7 : Int32)) rfl (by decide +kernel) ?_
              refine q_iaddv (v := (7 : Int32)) rfl (by decide +kernel) ?_
              refine q_script rfl (by decide) rfl ?_
              refine q_call rfl rfl rfl rfl ?_
              refine q_aload_n rfl rfl ?_
              refine q_iconstv (v := (0 : Int32)) rfl (by decide +kernel) ?_
              refine q_putv (w9 := (w1.set 0 (.inr (7, [.ref 1, .ref 3, .ref 7, .ref 9, .ref 10, .ref 11, .ref 12, .ref 13, .ref 25, .ref 37, .ref 39, .int 0, .int 0, .int 1])))) rfl rfl rfl (by decide) rfl (by decide) rfl ?_
              refine q_aload_n rfl rfl ?_
              refine q_iload_n rfl rfl ?_
              refine q_iconstv (v := (0 : Int32)) rfl (by decide +kernel) ?_
              refine q_sipushv (v := (9999 : Int32)) rfl (by decide +kernel) ?_
              refine q_call rfl rfl rfl rfl ?_
              refine q_iload_n rfl rfl ?_
              refine q_iload_n rfl rfl ?_
              refine q_ic_lt_f (t := 14) rfl (by decide) (i_nlt (a := (x1).toInt) (b := (0 : Int)) rfl (by decide +kernel) (by omega)) ?_
              refine q_iload_n rfl rfl ?_
              refine q_iload_n rfl rfl ?_
              refine q_ic_gt_f (t := 14) rfl (by decide) (i_nlt_r (a := (x1).toInt) (b := (9999 : Int)) rfl (by decide +kernel) (by omega)) ?_
              refine q_iconstv (v := (1 : Int32)) rfl (by decide +kernel) ?_
              refine q_goto (t := 15) rfl (by decide) ?_
              refine q_zret rfl rfl (by decide) ?_
              refine bk_inl ?_
              refine q_if_eq_f (t := 89) rfl (by decide) (i_ne (a := (1 : Int)) (b := (0 : Int)) (by decide +kernel) (by decide +kernel) (by omega)) ?_
              refine q_iload_n rfl rfl ?_
              refine q_iconstv (v := (0 : Int32)) rfl (by decide +kernel) ?_
              refine q_sipushv (v := (9999 : Int32)) rfl (by decide +kernel) ?_
              refine q_call rfl rfl rfl rfl ?_
              refine q_iload_n rfl rfl ?_
              refine q_iload_n rfl rfl ?_
              refine q_ic_lt_f (t := 14) rfl (by decide) (i_nlt (a := (x2).toInt) (b := (0 : Int)) rfl (by decide +kernel) (by omega)) ?_
              refine q_iload_n rfl rfl ?_
              refine q_iload_n rfl rfl ?_
              refine q_ic_gt_f (t := 14) rfl (by decide) (i_nlt_r (a := (x2).toInt) (b := (9999 : Int)) rfl (by decide +kernel) (by omega)) ?_
              refine q_iconstv (v := (1 : Int32)) rfl (by decide +kernel) ?_
              refine q_goto (t := 15) rfl (by decide) ?_
              refine q_zret rfl rfl (by decide) ?_
              refine bk_inl ?_
              refine q_if_eq_f (t := 89) rfl (by decide) (i_ne (a := (1 : Int)) (b := (0 : Int)) (by decide +kernel) (by decide +kernel) (by omega)) ?_
              refine q_iload_n rfl rfl ?_
              refine q_iconstv (v := (0 : Int32)) rfl (by decide +kernel) ?_
              refine q_sipushv (v := (9999 : Int32)) rfl (by decide +kernel) ?_
              refine q_call rfl rfl rfl rfl ?_
              refine q_iload_n rfl rfl ?_
              refine q_iload_n rfl rfl ?_
              refine q_ic_lt_f (t := 14) rfl (by decide) (i_nlt (a := (x3).toInt) (b := (0 : Int)) rfl (by decide +kernel) (by omega)) ?_
              refine q_iload_n rfl rfl ?_
              refine q_iload_n rfl rfl ?_
              refine q_ic_gt_t (t := 14) rfl (by decide) (i_lt_r (a := (x3).toInt) (b := (9999 : Int)) rfl (by decide +kernel) (by omega)) ?_
              refine q_iconstv (v := (0 : Int32)) rfl (by decide +kernel) ?_
              refine q_zret rfl rfl (by decide) ?_
              refine bk_inl ?_
              refine q_if_eq_t (t := 89) rfl (by decide) (i_eq (a := (0 : Int)) (b := (0 : Int)) (by decide +kernel) (by decide +kernel) (by omega)) ?_
              refine q_iconstv (v := (0 : Int32)) rfl (by decide +kernel) ?_
              refine q_iconstv (v := (1 : Int32)) rfl (by decide +kernel) ?_
              refine q_iconstv (v := (1 : Int32)) rfl (by decide +kernel) ?_
              refine q_call rfl rfl rfl rfl ?_
              refine q_iload_n rfl rfl ?_
              refine q_if_ne_f (t := 26) rfl (by decide) (i_nne (a := (0 : Int)) (b := (0 : Int)) (by decide +kernel) (by decide +kernel) (by omega)) ?_
              refine q_aload_n rfl rfl ?_
              refine q_get rfl rfl rfl rfl ?_
              refine q_if_ne_f (t := 26) rfl (by decide) (i_nne (a := (0 : Int)) (b := (0 : Int)) (by decide +kernel) (by decide +kernel) (by omega)) ?_
              refine q_aload_n rfl rfl ?_
              refine q_iload_n rfl rfl ?_
              refine q_putv (w9 := ((w1.set 0 (.inr (7, [.ref 1, .ref 3, .ref 7, .ref 9, .ref 10, .ref 11, .ref 12, .ref 13, .ref 25, .ref 37, .ref 39, .int 0, .int 0, .int 1]))).set 41 (.inr (8, [.int 1, .ref 42, .int 0, .int 0, .int 0, .int 0, .int 0, .int 0, .int (-1), .ref 43, .ref 44, .ref 45, .ref 46, .ref 47, .ref 48, .ref 49, .int 0, .int 0, .int 0, .int 5, .int 0, .int 0, .int 0, .int 5, .ref 50, .ref 51, .ref 52, .ref 53, .ref 54, .int 0, .int 0, .ref 55, .ref 56, .ref 57, .int 0, .int 0, .int 0, .int 0, .int 0, .int 0, .ref 58, .ref 59, .ref 60, .ref 61, .ref 62, .ref 63, .ref 64, .int 0, .int 0, .ref 65, .int 0, .ref 66, .int 0])))) rfl rfl rfl (by decide) rfl (by decide) rfl ?_
              refine q_aload_n rfl rfl ?_
              refine q_get rfl rfl rfl rfl ?_
              refine q_iload_n rfl rfl ?_
              refine q_dup2 rfl ⟨rfl, rfl⟩ ?_
              refine q_ialoadv (m := 1) rfl (by decide) (by decide) rfl (by decide +kernel) rfl ?_
              refine q_iconstv (v := (1 : Int32)) rfl (by decide +kernel) ?_
              refine q_iaddv (v := (1 : Int32)) rfl (by decide +kernel) ?_
              refine q_iastorev (m := 1) (w9 := (((w1.set 0 (.inr (7, [.ref 1, .ref 3, .ref 7, .ref 9, .ref 10, .ref 11, .ref 12, .ref 13, .ref 25, .ref 37, .ref 39, .int 0, .int 0, .int 1]))).set 41 (.inr (8, [.int 1, .ref 42, .int 0, .int 0, .int 0, .int 0, .int 0, .int 0, .int (-1), .ref 43, .ref 44, .ref 45, .ref 46, .ref 47, .ref 48, .ref 49, .int 0, .int 0, .int 0, .int 5, .int 0, .int 0, .int 0, .int 5, .ref 50, .ref 51, .ref 52, .ref 53, .ref 54, .int 0, .int 0, .ref 55, .ref 56, .ref 57, .int 0, .int 0, .int 0, .int 0, .int 0, .int 0, .ref 58, .ref 59, .ref 60, .ref 61, .ref 62, .ref 63, .ref 64, .int 0, .int 0, .ref 65, .int 0, .ref 66, .int 0]))).set 42 (.inl (0, .inl ([0, 1]))))) rfl (by decide) rfl (by decide +kernel) (Nat.le_of_ble_eq_true rfl) rfl ?_
              refine q_aload_n rfl rfl ?_
              refine q_get rfl rfl rfl rfl ?_
              refine q_if_ne_t (t := 37) rfl (by decide) (i_ne (a := (1 : Int)) (b := (0 : Int)) (by decide +kernel) (by decide +kernel) (by omega)) ?_
              refine q_iconstv (v := (0 : Int32)) rfl (by decide +kernel) ?_
              refine q_zret rfl rfl (by decide) ?_
              refine bk_inl ?_
              refine q_if_ne_f (t := 100) rfl (by decide) (i_nne (a := (0 : Int)) (b := (0 : Int)) (by decide +kernel) (by decide +kernel) (by omega)) ?_
              refine q_iconstv (v := (0 : Int32)) rfl (by decide +kernel) ?_
              refine q_iret rfl rfl ?_
              refine bk_inl ?_
              refine q_istore rfl (by decide) ?_
              refine q_aload_n rfl rfl ?_
              refine q_call rfl rfl rfl rfl ?_
              refine q_aload_n rfl rfl ?_
              refine q_get rfl rfl rfl rfl ?_
              refine q_iret rfl rfl ?_
              refine bk_inl ?_
              refine q_iload rfl rfl ?_
              refine q_ic_eq_t (t := 1035) rfl (by decide) (i_eq (a := (1 : Int)) (b := (1 : Int)) (by decide +kernel) (by decide +kernel) (by omega)) ?_
              refine q_iload rfl rfl ?_
              refine q_if_ne_t (t := 1052) rfl (by decide) (i_ne (a := (1 : Int)) (b := (0 : Int)) (by decide +kernel) (by decide +kernel) (by omega)) ?_
              refine q_goto (t := 2739) rfl (by decide) ?_
              refine q_iincv (v := (8 : Int32)) rfl rfl (by decide) (by decide +kernel) ?_
              refine q_goto (t := 23) rfl (by decide) ?_
              exact q_end rfl rfl (by decide) (by decide)
            · refine q_ic_gt_f (t := 14) rfl (by decide) (i_nlt_r (a := (x3).toInt) (b := (9999 : Int)) rfl (by decide +kernel) (by omega)) ?_
              refine q_iconstv (v := (1 : Int32)) rfl (by decide +kernel) ?_
              refine q_goto (t := 15) rfl (by decide) ?_
              refine q_zret rfl rfl (by decide) ?_
              refine bk_inl ?_
              refine q_if_eq_f (t := 84) rfl (by decide) (i_ne (a := (1 : Int)) (b := (0 : Int)) (by decide +kernel) (by decide +kernel) (by omega)) ?_
              refine q_iload rfl rfl ?_
              refine q_iconstv (v := (0 : Int32)) rfl (by decide +kernel) ?_
              refine q_sipushv (v := (9999 : Int32)) rfl (by decide +kernel) ?_
              refine q_call rfl rfl rfl rfl ?_
              refine q_iload_n rfl rfl ?_
              refine q_iload_n rfl rfl ?_
              by_cases h7 : (x4).toInt < 0
              · refine q_ic_lt_t (t := 14) rfl (by decide) (i_lt (a := (x4).toInt) (b := (0 : Int)) rfl (by decide +kernel) (by omega)) ?_
                refine q_iconstv (v := (0 : Int32)) rfl (by decide +kernel) ?_
                refine q_zret rfl rfl (by decide) ?_
                refine bk_inl ?_
                refine q_if_eq_t (t := 84) rfl (by decide) (i_eq (a := (0 : Int)) (b := (0 : Int)) (by decide +kernel) (by decide +kernel) (by omega)) ?_
                refine q_iconstv (v := (0 : Int32)) rfl (by decide +kernel) ?_
                refine q_call rfl rfl rfl rfl ?_
                refine q_iload_n rfl rfl ?_
                refine q_if_ne_f (t := 25) rfl (by decide) (i_nne (a := (0 : Int)) (b := (0 : Int)) (by decide +kernel) (by decide +kernel) (by omega)) ?_
                refine q_aload_n rfl rfl ?_
                refine q_dup rfl rfl ?_
                refine q_get rfl rfl rfl rfl ?_
                refine q_iconstv (v := (1 : Int32)) rfl (by decide +kernel) ?_
                refine q_iaddv (v := (1 : Int32)) rfl (by decide +kernel) ?_
                refine q_putv (w9 := (w1.set 0 (.inr (7, [.ref 1, .ref 3, .ref 7, .ref 9, .ref 10, .ref 11, .ref 12, .ref 13, .ref 25, .ref 37, .ref 39, .int 0, .int 0, .int 1])))) rfl rfl rfl (by decide) rfl (by decide) rfl ?_
                refine q_fin rfl rfl rfl ?_
                refine bk_out rfl rfl ?_
                refine bk_thr (z := (1 : Int32)) rfl ⟨_, _, rfl⟩ rfl ?_
                refine bk_inl ?_
                refine q_istore rfl (by decide) ?_
                refine q_aload_n rfl rfl ?_
                refine q_aload_n rfl rfl ?_
                refine q_iload rfl rfl ?_
                refine q_iconstv (v := (1 : Int32)) rfl (by decide +kernel) ?_
                refine q_iaddv (v := (1 : Int32)) rfl (by decide +kernel) ?_
                refine q_script rfl (by decide) rfl ?_
                refine q_aload_n rfl rfl ?_
                refine q_iload rfl rfl ?_
                refine q_iconstv (v := (2 : Int32)) rfl (by decide +kernel) ?_
                refine q_iaddv (v := (2 : Int32)) rfl (by decide +kernel) ?_
                refine q_script rfl (by decide) rfl ?_
                refine q_aload_n rfl rfl ?_
                refine q_iload rfl rfl ?_
                refine q_iconstv (v := (3 : Int32)) rfl (by decide +kernel) ?_
                refine q_iaddv (v := (3 : Int32)) rfl (by decide +kernel) ?_
                refine q_script rfl (by decide) rfl ?_
                refine q_aload_n rfl rfl ?_
                refine q_iload rfl rfl ?_
                refine q_iconstv (v := (4 : Int32)) rfl (by decide +kernel) ?_
                refine q_iaddv (v := (4 : Int32)) rfl (by decide +kernel) ?_
                refine q_script rfl (by decide) rfl ?_
                refine q_aload_n rfl rfl ?_
                refine q_iload rfl rfl ?_
                refine q_iconstv (v := (5 : Int32)) rfl (by decide +kernel) ?_
                refine q_iaddv (v := (5 : Int32)) rfl (by decide +kernel) ?_
                refine q_script rfl (by decide) rfl ?_
                refine q_aload_n rfl rfl ?_
                refine q_iload rfl rfl ?_
                refine q_bipushv (v := (6 : Int32)) rfl (by decide +kernel) ?_
                refine q_iaddv (v := (6 : Int32)) rfl (by decide +kernel) ?_
                refine q_script rfl (by decide) rfl ?_
                refine q_aload_n rfl rfl ?_
                refine q_iload rfl rfl ?_
                refine q_bipushv (v := (7 : Int32)) rfl (by decide +kernel) ?_
                refine q_iaddv (v := (7 : Int32)) rfl (by decide +kernel) ?_
                refine q_script rfl (by decide) rfl ?_
                refine q_call rfl rfl rfl rfl ?_
                refine q_aload_n rfl rfl ?_
                refine q_iconstv (v := (0 : Int32)) rfl (by decide +kernel) ?_
                refine q_putv (w9 := (w1.set 0 (.inr (7, [.ref 1, .ref 3, .ref 7, .ref 9, .ref 10, .ref 11, .ref 12, .ref 13, .ref 25, .ref 37, .ref 39, .int 0, .int 0, .int 1])))) rfl rfl rfl (by decide) rfl (by decide) rfl ?_
                refine q_aload_n rfl rfl ?_
                refine q_iload_n rfl rfl ?_
                refine q_iconstv (v := (0 : Int32)) rfl (by decide +kernel) ?_
                refine q_sipushv (v := (9999 : Int32)) rfl (by decide +kernel) ?_
                refine q_call rfl rfl rfl rfl ?_
                refine q_iload_n rfl rfl ?_
                refine q_iload_n rfl rfl ?_
                refine q_ic_lt_f (t := 14) rfl (by decide) (i_nlt (a := (x1).toInt) (b := (0 : Int)) rfl (by decide +kernel) (by omega)) ?_
                refine q_iload_n rfl rfl ?_
                refine q_iload_n rfl rfl ?_
                refine q_ic_gt_f (t := 14) rfl (by decide) (i_nlt_r (a := (x1).toInt) (b := (9999 : Int)) rfl (by decide +kernel) (by omega)) ?_
                refine q_iconstv (v := (1 : Int32)) rfl (by decide +kernel) ?_
                refine q_goto (t := 15) rfl (by decide) ?_
                refine q_zret rfl rfl (by decide) ?_
                refine bk_inl ?_
                refine q_if_eq_f (t := 89) rfl (by decide) (i_ne (a := (1 : Int)) (b := (0 : Int)) (by decide +kernel) (by decide +kernel) (by omega)) ?_
                refine q_iload_n rfl rfl ?_
                refine q_iconstv (v := (0 : Int32)) rfl (by decide +kernel) ?_
                refine q_sipushv (v := (9999 : Int32)) rfl (by decide +kernel) ?_
                refine q_call rfl rfl rfl rfl ?_
                refine q_iload_n rfl rfl ?_
                refine q_iload_n rfl rfl ?_
                refine q_ic_lt_f (t := 14) rfl (by decide) (i_nlt (a := (x2).toInt) (b := (0 : Int)) rfl (by decide +kernel) (by omega)) ?_
                refine q_iload_n rfl rfl ?_
                refine q_iload_n rfl rfl ?_
                refine q_ic_gt_f (t := 14) rfl (by decide) (i_nlt_r (a := (x2).toInt) (b := (9999 : Int)) rfl (by decide +kernel) (by omega)) ?_
                refine q_iconstv (v := (1 : Int32)) rfl (by decide +kernel) ?_
                refine q_goto (t := 15) rfl (by decide) ?_
                refine q_zret rfl rfl (by decide) ?_
                refine bk_inl ?_
                refine q_if_eq_f (t := 89) rfl (by decide) (i_ne (a := (1 : Int)) (b := (0 : Int)) (by decide +kernel) (by decide +kernel) (by omega)) ?_
                refine q_iload_n rfl rfl ?_
                refine q_iconstv (v := (0 : Int32)) rfl (by decide +kernel) ?_
                refine q_sipushv (v := (9999 : Int32)) rfl (by decide +kernel) ?_
                refine q_call rfl rfl rfl rfl ?_
                refine q_iload_n rfl rfl ?_
                refine q_iload_n rfl rfl ?_
                refine q_ic_lt_f (t := 14) rfl (by decide) (i_nlt (a := (x3).toInt) (b := (0 : Int)) rfl (by decide +kernel) (by omega)) ?_
                refine q_iload_n rfl rfl ?_
                refine q_iload_n rfl rfl ?_
                refine q_ic_gt_f (t := 14) rfl (by decide) (i_nlt_r (a := (x3).toInt) (b := (9999 : Int)) rfl (by decide +kernel) (by omega)) ?_
                refine q_iconstv (v := (1 : Int32)) rfl (by decide +kernel) ?_
                refine q_goto (t := 15) rfl (by decide) ?_
                refine q_zret rfl rfl (by decide) ?_
                refine bk_inl ?_
                refine q_if_eq_f (t := 89) rfl (by decide) (i_ne (a := (1 : Int)) (b := (0 : Int)) (by decide +kernel) (by decide +kernel) (by omega)) ?_
                refine q_iload rfl rfl ?_
                refine q_iconstv (v := (0 : Int32)) rfl (by decide +kernel) ?_
                refine q_sipushv (v := (9999 : Int32)) rfl (by decide +kernel) ?_
                refine q_call rfl rfl rfl rfl ?_
                refine q_iload_n rfl rfl ?_
                refine q_iload_n rfl rfl ?_
                refine q_ic_lt_t (t := 14) rfl (by decide) (i_lt (a := (x4).toInt) (b := (0 : Int)) rfl (by decide +kernel) (by omega)) ?_
                refine q_iconstv (v := (0 : Int32)) rfl (by decide +kernel) ?_
                refine q_zret rfl rfl (by decide) ?_
                refine bk_inl ?_
                refine q_if_eq_t (t := 89) rfl (by decide) (i_eq (a := (0 : Int)) (b := (0 : Int)) (by decide +kernel) (by decide +kernel) (by omega)) ?_
                refine q_iconstv (v := (0 : Int32)) rfl (by decide +kernel) ?_
                refine q_iconstv (v := (1 : Int32)) rfl (by decide +kernel) ?_
                refine q_iconstv (v := (1 : Int32)) rfl (by decide +kernel) ?_
                refine q_call rfl rfl rfl rfl ?_
                refine q_iload_n rfl rfl ?_
                refine q_if_ne_f (t := 26) rfl (by decide) (i_nne (a := (0 : Int)) (b := (0 : Int)) (by decide +kernel) (by decide +kernel) (by omega)) ?_
                refine q_aload_n rfl rfl ?_
                refine q_get rfl rfl rfl rfl ?_
                refine q_if_ne_f (t := 26) rfl (by decide) (i_nne (a := (0 : Int)) (b := (0 : Int)) (by decide +kernel) (by decide +kernel) (by omega)) ?_
                refine q_aload_n rfl rfl ?_
                refine q_iload_n rfl rfl ?_
                refine q_putv (w9 := ((w1.set 0 (.inr (7, [.ref 1, .ref 3, .ref 7, .ref 9, .ref 10, .ref 11, .ref 12, .ref 13, .ref 25, .ref 37, .ref 39, .int 0, .int 0, .int 1]))).set 41 (.inr (8, [.int 1, .ref 42, .int 0, .int 0, .int 0, .int 0, .int 0, .int 0, .int (-1), .ref 43, .ref 44, .ref 45, .ref 46, .ref 47, .ref 48, .ref 49, .int 0, .int 0, .int 0, .int 5, .int 0, .int 0, .int 0, .int 5, .ref 50, .ref 51, .ref 52, .ref 53, .ref 54, .int 0, .int 0, .ref 55, .ref 56, .ref 57, .int 0, .int 0, .int 0, .int 0, .int 0, .int 0, .ref 58, .ref 59, .ref 60, .ref 61, .ref 62, .ref 63, .ref 64, .int 0, .int 0, .ref 65, .int 0, .ref 66, .int 0])))) rfl rfl rfl (by decide) rfl (by decide) rfl ?_
                refine q_aload_n rfl rfl ?_
                refine q_get rfl rfl rfl rfl ?_
                refine q_iload_n rfl rfl ?_
                refine q_dup2 rfl ⟨rfl, rfl⟩ ?_
                refine q_ialoadv (m := 1) rfl (by decide) (by decide) rfl (by decide +kernel) rfl ?_
                refine q_iconstv (v := (1 : Int32)) rfl (by decide +kernel) ?_
                refine q_iaddv (v := (1 : Int32)) rfl (by decide +kernel) ?_
                refine q_iastorev (m := 1) (w9 := (((w1.set 0 (.inr (7, [.ref 1, .ref 3, .ref 7, .ref 9, .ref 10, .ref 11, .ref 12, .ref 13, .ref 25, .ref 37, .ref 39, .int 0, .int 0, .int 1]))).set 41 (.inr (8, [.int 1, .ref 42, .int 0, .int 0, .int 0, .int 0, .int 0, .int 0, .int (-1), .ref 43, .ref 44, .ref 45, .ref 46, .ref 47, .ref 48, .ref 49, .int 0, .int 0, .int 0, .int 5, .int 0, .int 0, .int 0, .int 5, .ref 50, .ref 51, .ref 52, .ref 53, .ref 54, .int 0, .int 0, .ref 55, .ref 56, .ref 57, .int 0, .int 0, .int 0, .int 0, .int 0, .int 0, .ref 58, .ref 59, .ref 60, .ref 61, .ref 62, .ref 63, .ref 64, .int 0, .int 0, .ref 65, .int 0, .ref 66, .int 0]))).set 42 (.inl (0, .inl ([0, 1]))))) rfl (by decide) rfl (by decide +kernel) (Nat.le_of_ble_eq_true rfl) rfl ?_
                refine q_aload_n rfl rfl ?_
                refine q_get rfl rfl rfl rfl ?_
                refine q_if_ne_t (t := 37) rfl (by decide) (i_ne (a := (1 : Int)) (b := (0 : Int)) (by decide +kernel) (by decide +kernel) (by omega)) ?_
                refine q_iconstv (v := (0 : Int32)) rfl (by decide +kernel) ?_
                refine q_zret rfl rfl (by decide) ?_
                refine bk_inl ?_
                refine q_if_ne_f (t := 100) rfl (by decide) (i_nne (a := (0 : Int)) (b := (0 : Int)) (by decide +kernel) (by decide +kernel) (by omega)) ?_
                refine q_iconstv (v := (0 : Int32)) rfl (by decide +kernel) ?_
                refine q_iret rfl rfl ?_
                refine bk_inl ?_
                refine q_istore rfl (by decide) ?_
                refine q_aload_n rfl rfl ?_
                refine q_call rfl rfl rfl rfl ?_
                refine q_aload_n rfl rfl ?_
                refine q_get rfl rfl rfl rfl ?_
                refine q_iret rfl rfl ?_
                refine bk_inl ?_
                refine q_iload rfl rfl ?_
                refine q_ic_eq_t (t := 1035) rfl (by decide) (i_eq (a := (1 : Int)) (b := (1 : Int)) (by decide +kernel) (by decide +kernel) (by omega)) ?_
                refine q_iload rfl rfl ?_
                refine q_if_ne_t (t := 1052) rfl (by decide) (i_ne (a := (1 : Int)) (b := (0 : Int)) (by decide +kernel) (by decide +kernel) (by omega)) ?_
                refine q_goto (t := 2739) rfl (by decide) ?_
                refine q_iincv (v := (8 : Int32)) rfl rfl (by decide) (by decide +kernel) ?_
                refine q_goto (t := 23) rfl (by decide) ?_
                exact q_end rfl rfl (by decide) (by decide)
              · refine q_ic_lt_f (t := 14) rfl (by decide) (i_nlt (a := (x4).toInt) (b := (0 : Int)) rfl (by decide +kernel) (by omega)) ?_
                refine q_iload_n rfl rfl ?_
                refine q_iload_n rfl rfl ?_
                by_cases h8 : (x4).toInt > 9999
                · refine q_ic_gt_t (t := 14) rfl (by decide) (i_lt_r (a := (x4).toInt) (b := (9999 : Int)) rfl (by decide +kernel) (by omega)) ?_
                  refine q_iconstv (v := (0 : Int32)) rfl (by decide +kernel) ?_
                  refine q_zret rfl rfl (by decide) ?_
                  refine bk_inl ?_
                  refine q_if_eq_t (t := 84) rfl (by decide) (i_eq (a := (0 : Int)) (b := (0 : Int)) (by decide +kernel) (by decide +kernel) (by omega)) ?_
                  refine q_iconstv (v := (0 : Int32)) rfl (by decide +kernel) ?_
                  refine q_call rfl rfl rfl rfl ?_
                  refine q_iload_n rfl rfl ?_
                  refine q_if_ne_f (t := 25) rfl (by decide) (i_nne (a := (0 : Int)) (b := (0 : Int)) (by decide +kernel) (by decide +kernel) (by omega)) ?_
                  refine q_aload_n rfl rfl ?_
                  refine q_dup rfl rfl ?_
                  refine q_get rfl rfl rfl rfl ?_
                  refine q_iconstv (v := (1 : Int32)) rfl (by decide +kernel) ?_
                  refine q_iaddv (v := (1 : Int32)) rfl (by decide +kernel) ?_
                  refine q_putv (w9 := (w1.set 0 (.inr (7, [.ref 1, .ref 3, .ref 7, .ref 9, .ref 10, .ref 11, .ref 12, .ref 13, .ref 25, .ref 37, .ref 39, .int 0, .int 0, .int 1])))) rfl rfl rfl (by decide) rfl (by decide) rfl ?_
                  refine q_fin rfl rfl rfl ?_
                  refine bk_out rfl rfl ?_
                  refine bk_thr (z := (1 : Int32)) rfl ⟨_, _, rfl⟩ rfl ?_
                  refine bk_inl ?_
                  refine q_istore rfl (by decide) ?_
                  refine q_aload_n rfl rfl ?_
                  refine q_aload_n rfl rfl ?_
                  refine q_iload rfl rfl ?_
                  refine q_iconstv (v := (1 : Int32)) rfl (by decide +kernel) ?_
                  refine q_iaddv (v := (1 : Int32)) rfl (by decide +kernel) ?_
                  refine q_script rfl (by decide) rfl ?_
                  refine q_aload_n rfl rfl ?_
                  refine q_iload rfl rfl ?_
                  refine q_iconstv (v := (2 : Int32)) rfl (by decide +kernel) ?_
                  refine q_iaddv (v := (2 : Int32)) rfl (by decide +kernel) ?_
                  refine q_script rfl (by decide) rfl ?_
                  refine q_aload_n rfl rfl ?_
                  refine q_iload rfl rfl ?_
                  refine q_iconstv (v := (3 : Int32)) rfl (by decide +kernel) ?_
                  refine q_iaddv (v := (3 : Int32)) rfl (by decide +kernel) ?_
                  refine q_script rfl (by decide) rfl ?_
                  refine q_aload_n rfl rfl ?_
                  refine q_iload rfl rfl ?_
                  refine q_iconstv (v := (4 : Int32)) rfl (by decide +kernel) ?_
                  refine q_iaddv (v := (4 : Int32)) rfl (by decide +kernel) ?_
                  refine q_script rfl (by decide) rfl ?_
                  refine q_aload_n rfl rfl ?_
                  refine q_iload rfl rfl ?_
                  refine q_iconstv (v := (5 : Int32)) rfl (by decide +kernel) ?_
                  refine q_iaddv (v := (5 : Int32)) rfl (by decide +kernel) ?_
                  refine q_script rfl (by decide) rfl ?_
                  refine q_aload_n rfl rfl ?_
                  refine q_iload rfl rfl ?_
                  refine q_bipushv (v := (6 : Int32)) rfl (by decide +kernel) ?_
                  refine q_iaddv (v := (6 : Int32)) rfl (by decide +kernel) ?_
                  refine q_script rfl (by decide) rfl ?_
                  refine q_aload_n rfl rfl ?_
                  refine q_iload rfl rfl ?_
                  refine q_bipushv (v := (7 : Int32)) rfl (by decide +kernel) ?_
                  refine q_iaddv (v := (7 : Int32)) rfl (by decide +kernel) ?_
                  refine q_script rfl (by decide) rfl ?_
                  refine q_call rfl rfl rfl rfl ?_
                  refine q_aload_n rfl rfl ?_
                  refine q_iconstv (v := (0 : Int32)) rfl (by decide +kernel) ?_
                  refine q_putv (w9 := (w1.set 0 (.inr (7, [.ref 1, .ref 3, .ref 7, .ref 9, .ref 10, .ref 11, .ref 12, .ref 13, .ref 25, .ref 37, .ref 39, .int 0, .int 0, .int 1])))) rfl rfl rfl (by decide) rfl (by decide) rfl ?_
                  refine q_aload_n rfl rfl ?_
                  refine q_iload_n rfl rfl ?_
                  refine q_iconstv (v := (0 : Int32)) rfl (by decide +kernel) ?_
                  refine q_sipushv (v := (9999 : Int32)) rfl (by decide +kernel) ?_
                  refine q_call rfl rfl rfl rfl ?_
                  refine q_iload_n rfl rfl ?_
                  refine q_iload_n rfl rfl ?_
                  refine q_ic_lt_f (t := 14) rfl (by decide) (i_nlt (a := (x1).toInt) (b := (0 : Int)) rfl (by decide +kernel) (by omega)) ?_
                  refine q_iload_n rfl rfl ?_
                  refine q_iload_n rfl rfl ?_
                  refine q_ic_gt_f (t := 14) rfl (by decide) (i_nlt_r (a := (x1).toInt) (b := (9999 : Int)) rfl (by decide +kernel) (by omega)) ?_
                  refine q_iconstv (v := (1 : Int32)) rfl (by decide +kernel) ?_
                  refine q_goto (t := 15) rfl (by decide) ?_
                  refine q_zret rfl rfl (by decide) ?_
                  refine bk_inl ?_
                  refine q_if_eq_f (t := 89) rfl (by decide) (i_ne (a := (1 : Int)) (b := (0 : Int)) (by decide +kernel) (by decide +kernel) (by omega)) ?_
                  refine q_iload_n rfl rfl ?_
                  refine q_iconstv (v := (0 : Int32)) rfl (by decide +kernel) ?_
                  refine q_sipushv (v := (9999 : Int32)) rfl (by decide +kernel) ?_
                  refine q_call rfl rfl rfl rfl ?_
                  refine q_iload_n rfl rfl ?_
                  refine q_iload_n rfl rfl ?_
                  refine q_ic_lt_f (t := 14) rfl (by decide) (i_nlt (a := (x2).toInt) (b := (0 : Int)) rfl (by decide +kernel) (by omega)) ?_
                  refine q_iload_n rfl rfl ?_
                  refine q_iload_n rfl rfl ?_
                  refine q_ic_gt_f (t := 14) rfl (by decide) (i_nlt_r (a := (x2).toInt) (b := (9999 : Int)) rfl (by decide +kernel) (by omega)) ?_
                  refine q_iconstv (v := (1 : Int32)) rfl (by decide +kernel) ?_
                  refine q_goto (t := 15) rfl (by decide) ?_
                  refine q_zret rfl rfl (by decide) ?_
                  refine bk_inl ?_
                  refine q_if_eq_f (t := 89) rfl (by decide) (i_ne (a := (1 : Int)) (b := (0 : Int)) (by decide +kernel) (by decide +kernel) (by omega)) ?_
                  refine q_iload_n rfl rfl ?_
                  refine q_iconstv (v := (0 : Int32)) rfl (by decide +kernel) ?_
                  refine q_sipushv (v := (9999 : Int32)) rfl (by decide +kernel) ?_
                  refine q_call rfl rfl rfl rfl ?_
                  refine q_iload_n rfl rfl ?_
                  refine q_iload_n rfl rfl ?_
                  refine q_ic_lt_f (t := 14) rfl (by decide) (i_nlt (a := (x3).toInt) (b := (0 : Int)) rfl (by decide +kernel) (by omega)) ?_
                  refine q_iload_n rfl rfl ?_
                  refine q_iload_n rfl rfl ?_
                  refine q_ic_gt_f (t := 14) rfl (by decide) (i_nlt_r (a := (x3).toInt) (b := (9999 : Int)) rfl (by decide +kernel) (by omega)) ?_
                  refine q_iconstv (v := (1 : Int32)) rfl (by decide +kernel) ?_
                  refine q_goto (t := 15) rfl (by decide) ?_
                  refine q_zret rfl rfl (by decide) ?_
                  refine bk_inl ?_
                  refine q_if_eq_f (t := 89) rfl (by decide) (i_ne (a := (1 : Int)) (b := (0 : Int)) (by decide +kernel) (by decide +kernel) (by omega)) ?_
                  refine q_iload rfl rfl ?_
                  refine q_iconstv (v := (0 : Int32)) rfl (by decide +kernel) ?_
                  refine q_sipushv (v := (9999 : Int32)) rfl (by decide +kernel) ?_
                  refine q_call rfl rfl rfl rfl ?_
                  refine q_iload_n rfl rfl ?_
                  refine q_iload_n rfl rfl ?_
                  refine q_ic_lt_f (t := 14) rfl (by decide) (i_nlt (a := (x4).toInt) (b := (0 : Int)) rfl (by decide +kernel) (by omega)) ?_
                  refine q_iload_n rfl rfl ?_
                  refine q_iload_n rfl rfl ?_
                  refine q_ic_gt_t (t := 14) rfl (by decide) (i_lt_r (a := (x4).toInt) (b := (9999 : Int)) rfl (by decide +kernel) (by omega)) ?_
                  refine q_iconstv (v := (0 : Int32)) rfl (by decide +kernel) ?_
                  refine q_zret rfl rfl (by decide) ?_
                  refine bk_inl ?_
                  refine q_if_eq_t (t := 89) rfl (by decide) (i_eq (a := (0 : Int)) (b := (0 : Int)) (by decide +kernel) (by decide +kernel) (by omega)) ?_
                  refine q_iconstv (v := (0 : Int32)) rfl (by decide +kernel) ?_
                  refine q_iconstv (v := (1 : Int32)) rfl (by decide +kernel) ?_
                  refine q_iconstv (v := (1 : Int32)) rfl (by decide +kernel) ?_
                  refine q_call rfl rfl rfl rfl ?_
                  refine q_iload_n rfl rfl ?_
                  refine q_if_ne_f (t := 26) rfl (by decide) (i_nne (a := (0 : Int)) (b := (0 : Int)) (by decide +kernel) (by decide +kernel) (by omega)) ?_
                  refine q_aload_n rfl rfl ?_
                  refine q_get rfl rfl rfl rfl ?_
                  refine q_if_ne_f (t := 26) rfl (by decide) (i_nne (a := (0 : Int)) (b := (0 : Int)) (by decide +kernel) (by decide +kernel) (by omega)) ?_
                  refine q_aload_n rfl rfl ?_
                  refine q_iload_n rfl rfl ?_
                  refine q_putv (w9 := ((w1.set 0 (.inr (7, [.ref 1, .ref 3, .ref 7, .ref 9, .ref 10, .ref 11, .ref 12, .ref 13, .ref 25, .ref 37, .ref 39, .int 0, .int 0, .int 1]))).set 41 (.inr (8, [.int 1, .ref 42, .int 0, .int 0, .int 0, .int 0, .int 0, .int 0, .int (-1), .ref 43, .ref 44, .ref 45, .ref 46, .ref 47, .ref 48, .ref 49, .int 0, .int 0, .int 0, .int 5, .int 0, .int 0, .int 0, .int 5, .ref 50, .ref 51, .ref 52, .ref 53, .ref 54, .int 0, .int 0, .ref 55, .ref 56, .ref 57, .int 0, .int 0, .int 0, .int 0, .int 0, .int 0, .ref 58, .ref 59, .ref 60, .ref 61, .ref 62, .ref 63, .ref 64, .int 0, .int 0, .ref 65, .int 0, .ref 66, .int 0])))) rfl rfl rfl (by decide) rfl (by decide) rfl ?_
                  refine q_aload_n rfl rfl ?_
                  refine q_get rfl rfl rfl rfl ?_
                  refine q_iload_n rfl rfl ?_
                  refine q_dup2 rfl ⟨rfl, rfl⟩ ?_
                  refine q_ialoadv (m := 1) rfl (by decide) (by decide) rfl (by decide +kernel) rfl ?_
                  refine q_iconstv (v := (1 : Int32)) rfl (by decide +kernel) ?_
                  refine q_iaddv (v := (1 : Int32)) rfl (by decide +kernel) ?_
                  refine q_iastorev (m := 1) (w9 := (((w1.set 0 (.inr (7, [.ref 1, .ref 3, .ref 7, .ref 9, .ref 10, .ref 11, .ref 12, .ref 13, .ref 25, .ref 37, .ref 39, .int 0, .int 0, .int 1]))).set 41 (.inr (8, [.int 1, .ref 42, .int 0, .int 0, .int 0, .int 0, .int 0, .int 0, .int (-1), .ref 43, .ref 44, .ref 45, .ref 46, .ref 47, .ref 48, .ref 49, .int 0, .int 0, .int 0, .int 5, .int 0, .int 0, .int 0, .int 5, .ref 50, .ref 51, .ref 52, .ref 53, .ref 54, .int 0, .int 0, .ref 55, .ref 56, .ref 57, .int 0, .int 0, .int 0, .int 0, .int 0, .int 0, .ref 58, .ref 59, .ref 60, .ref 61, .ref 62, .ref 63, .ref 64, .int 0, .int 0, .ref 65, .int 0, .ref 66, .int 0]))).set 42 (.inl (0, .inl ([0, 1]))))) rfl (by decide) rfl (by decide +kernel) (Nat.le_of_ble_eq_true rfl) rfl ?_
                  refine q_aload_n rfl rfl ?_
                  refine q_get rfl rfl rfl rfl ?_
                  refine q_if_ne_t (t := 37) rfl (by decide) (i_ne (a := (1 : Int)) (b := (0 : Int)) (by decide +kernel) (by decide +kernel) (by omega)) ?_
                  refine q_iconstv (v := (0 : Int32)) rfl (by decide +kernel) ?_
                  refine q_zret rfl rfl (by decide) ?_
                  refine bk_inl ?_
                  refine q_if_ne_f (t := 100) rfl (by decide) (i_nne (a := (0 : Int)) (b := (0 : Int)) (by decide +kernel) (by decide +kernel) (by omega)) ?_
                  refine q_iconstv (v := (0 : Int32)) rfl (by decide +kernel) ?_
                  refine q_iret rfl rfl ?_
                  refine bk_inl ?_
                  refine q_istore rfl (by decide) ?_
                  refine q_aload_n rfl rfl ?_
                  refine q_call rfl rfl rfl rfl ?_
                  refine q_aload_n rfl rfl ?_
                  refine q_get rfl rfl rfl rfl ?_
                  refine q_iret rfl rfl ?_
                  refine bk_inl ?_
                  refine q_iload rfl rfl ?_
                  refine q_ic_eq_t (t := 1035) rfl (by decide) (i_eq (a := (1 : Int)) (b := (1 : Int)) (by decide +kernel) (by decide +kernel) (by omega)) ?_
                  refine q_iload rfl rfl ?_
                  refine q_if_ne_t (t := 1052) rfl (by decide) (i_ne (a := (1 : Int)) (b := (0 : Int)) (by decide +kernel) (by decide +kernel) (by omega)) ?_
                  refine q_goto (t := 2739) rfl (by decide) ?_
                  refine q_iincv (v := (8 : Int32)) rfl rfl (by decide) (by decide +kernel) ?_
                  refine q_goto (t := 23) rfl (by decide) ?_
                  exact q_end rfl rfl (by decide) (by decide)
                · refine q_ic_gt_f (t := 14) rfl (by decide) (i_nlt_r (a := (x4).toInt) (b := (9999 : Int)) rfl (by decide +kernel) (by omega)) ?_
                  refine q_iconstv (v := (1 : Int32)) rfl (by decide +kernel) ?_
                  refine q_goto (t := 15) rfl (by decide) ?_
                  refine q_zret rfl rfl (by decide) ?_
                  refine bk_inl ?_
                  refine q_if_eq_f (t := 84) rfl (by decide) (i_ne (a := (1 : Int)) (b := (0 : Int)) (by decide +kernel) (by decide +kernel) (by omega)) ?_
                  refine q_iload rfl rfl ?_
                  refine q_iconstv (v := (0 : Int32)) rfl (by decide +kernel) ?_
                  refine q_sipushv (v := (400 : Int32)) rfl (by decide +kernel) ?_
                  refine q_call rfl rfl rfl rfl ?_
                  refine q_iload_n rfl rfl ?_
                  refine q_iload_n rfl rfl ?_
                  by_cases h9 : (x5).toInt < 0
                  · refine q_ic_lt_t (t := 14) rfl (by decide) (i_lt (a := (x5).toInt) (b := (0 : Int)) rfl (by decide +kernel) (by omega)) ?_
                    refine q_iconstv (v := (0 : Int32)) rfl (by decide +kernel) ?_
                    refine q_zret rfl rfl (by decide) ?_
                    refine bk_inl ?_
                    refine q_if_eq_t (t := 84) rfl (by decide) (i_eq (a := (0 : Int)) (b := (0 : Int)) (by decide +kernel) (by decide +kernel) (by omega)) ?_
                    refine q_iconstv (v := (0 : Int32)) rfl (by decide +kernel) ?_
                    refine q_call rfl rfl rfl rfl ?_
                    refine q_iload_n rfl rfl ?_
                    refine q_if_ne_f (t := 25) rfl (by decide) (i_nne (a := (0 : Int)) (b := (0 : Int)) (by decide +kernel) (by decide +kernel) (by omega)) ?_
                    refine q_aload_n rfl rfl ?_
                    refine q_dup rfl rfl ?_
                    refine q_get rfl rfl rfl rfl ?_
                    refine q_iconstv (v := (1 : Int32)) rfl (by decide +kernel) ?_
                    refine q_iaddv (v := (1 : Int32)) rfl (by decide +kernel) ?_
                    refine q_putv (w9 := (w1.set 0 (.inr (7, [.ref 1, .ref 3, .ref 7, .ref 9, .ref 10, .ref 11, .ref 12, .ref 13, .ref 25, .ref 37, .ref 39, .int 0, .int 0, .int 1])))) rfl rfl rfl (by decide) rfl (by decide) rfl ?_
                    refine q_fin rfl rfl rfl ?_
                    refine bk_out rfl rfl ?_
                    refine bk_thr (z := (1 : Int32)) rfl ⟨_, _, rfl⟩ rfl ?_
                    refine bk_inl ?_
                    refine q_istore rfl (by decide) ?_
                    refine q_aload_n rfl rfl ?_
                    refine q_aload_n rfl rfl ?_
                    refine q_iload rfl rfl ?_
                    refine q_iconstv (v := (1 : Int32)) rfl (by decide +kernel) ?_
                    refine q_iaddv (v := (1 : Int32)) rfl (by decide +kernel) ?_
                    refine q_script rfl (by decide) rfl ?_
                    refine q_aload_n rfl rfl ?_
                    refine q_iload rfl rfl ?_
                    refine q_iconstv (v := (2 : Int32)) rfl (by decide +kernel) ?_
                    refine q_iaddv (v := (2 : Int32)) rfl (by decide +kernel) ?_
                    refine q_script rfl (by decide) rfl ?_
                    refine q_aload_n rfl rfl ?_
                    refine q_iload rfl rfl ?_
                    refine q_iconstv (v := (3 : Int32)) rfl (by decide +kernel) ?_
                    refine q_iaddv (v := (3 : Int32)) rfl (by decide +kernel) ?_
                    refine q_script rfl (by decide) rfl ?_
                    refine q_aload_n rfl rfl ?_
                    refine q_iload rfl rfl ?_
                    refine q_iconstv (v := (4 : Int32)) rfl (by decide +kernel) ?_
                    refine q_iaddv (v := (4 : Int32)) rfl (by decide +kernel) ?_
                    refine q_script rfl (by decide) rfl ?_
                    refine q_aload_n rfl rfl ?_
                    refine q_iload rfl rfl ?_
                    refine q_iconstv (v := (5 : Int32)) rfl (by decide +kernel) ?_
                    refine q_iaddv (v := (5 : Int32)) rfl (by decide +kernel) ?_
                    refine q_script rfl (by decide) rfl ?_
                    refine q_aload_n rfl rfl ?_
                    refine q_iload rfl rfl ?_
                    refine q_bipushv (v := (6 : Int32)) rfl (by decide +kernel) ?_
                    refine q_iaddv (v := (6 : Int32)) rfl (by decide +kernel) ?_
                    refine q_script rfl (by decide) rfl ?_
                    refine q_aload_n rfl rfl ?_
                    refine q_iload rfl rfl ?_
                    refine q_bipushv (v := (7 : Int32)) rfl (by decide +kernel) ?_
                    refine q_iaddv (v := (7 : Int32)) rfl (by decide +kernel) ?_
                    refine q_script rfl (by decide) rfl ?_
                    refine q_call rfl rfl rfl rfl ?_
                    refine q_aload_n rfl rfl ?_
                    refine q_iconstv (v := (0 : Int32)) rfl (by decide +kernel) ?_
                    refine q_putv (w9 := (w1.set 0 (.inr (7, [.ref 1, .ref 3, .ref 7, .ref 9, .ref 10, .ref 11, .ref 12, .ref 13, .ref 25, .ref 37, .ref 39, .int 0, .int 0, .int 1])))) rfl rfl rfl (by decide) rfl (by decide) rfl ?_
                    refine q_aload_n rfl rfl ?_
                    refine q_iload_n rfl rfl ?_
                    refine q_iconstv (v := (0 : Int32)) rfl (by decide +kernel) ?_
                    refine q_sipushv (v := (9999 : Int32)) rfl (by decide +kernel) ?_
                    refine q_call rfl rfl rfl rfl ?_
                    refine q_iload_n rfl rfl ?_
                    refine q_iload_n rfl rfl ?_
                    refine q_ic_lt_f (t := 14) rfl (by decide) (i_nlt (a := (x1).toInt) (b := (0 : Int)) rfl (by decide +kernel) (by omega)) ?_
                    refine q_iload_n rfl rfl ?_
                    refine q_iload_n rfl rfl ?_
                    refine q_ic_gt_f (t := 14) rfl (by decide) (i_nlt_r (a := (x1).toInt) (b := (9999 : Int)) rfl (by decide +kernel) (by omega)) ?_
                    refine q_iconstv (v := (1 : Int32)) rfl (by decide +kernel) ?_
                    refine q_goto (t := 15) rfl (by decide) ?_
                    refine q_zret rfl rfl (by decide) ?_
                    refine bk_inl ?_
                    refine q_if_eq_f (t := 89) rfl (by decide) (i_ne (a := (1 : Int)) (b := (0 : Int)) (by decide +kernel) (by decide +kernel) (by omega)) ?_
                    refine q_iload_n rfl rfl ?_
                    refine q_iconstv (v := (0 : Int32)) rfl (by decide +kernel) ?_
                    refine q_sipushv (v := (9999 : Int32)) rfl (by decide +kernel) ?_
                    refine q_call rfl rfl rfl rfl ?_
                    refine q_iload_n rfl rfl ?_
                    refine q_iload_n rfl rfl ?_
                    refine q_ic_lt_f (t := 14) rfl (by decide) (i_nlt (a := (x2).toInt) (b := (0 : Int)) rfl (by decide +kernel) (by omega)) ?_
                    refine q_iload_n rfl rfl ?_
                    refine q_iload_n rfl rfl ?_
                    refine q_ic_gt_f (t := 14) rfl (by decide) (i_nlt_r (a := (x2).toInt) (b := (9999 : Int)) rfl (by decide +kernel) (by omega)) ?_
                    refine q_iconstv (v := (1 : Int32)) rfl (by decide +kernel) ?_
                    refine q_goto (t := 15) rfl (by decide) ?_
                    refine q_zret rfl rfl (by decide) ?_
                    refine bk_inl ?_
                    refine q_if_eq_f (t := 89) rfl (by decide) (i_ne (a := (1 : Int)) (b := (0 : Int)) (by decide +kernel) (by decide +kernel) (by omega)) ?_
                    refine q_iload_n rfl rfl ?_
                    refine q_iconstv (v := (0 : Int32)) rfl (by decide +kernel) ?_
                    refine q_sipushv (v := (9999 : Int32)) rfl (by decide +kernel) ?_
                    refine q_call rfl rfl rfl rfl ?_
                    refine q_iload_n rfl rfl ?_
                    refine q_iload_n rfl rfl ?_
                    refine q_ic_lt_f (t := 14) rfl (by decide) (i_nlt (a := (x3).toInt) (b := (0 : Int)) rfl (by decide +kernel) (by omega)) ?_
                    refine q_iload_n rfl rfl ?_
                    refine q_iload_n rfl rfl ?_
                    refine q_ic_gt_f (t := 14) rfl (by decide) (i_nlt_r (a := (x3).toInt) (b := (9999 : Int)) rfl (by decide +kernel) (by omega)) ?_
                    refine q_iconstv (v := (1 : Int32)) rfl (by decide +kernel) ?_
                    refine q_goto (t := 15) rfl (by decide) ?_
                    refine q_zret rfl rfl (by decide) ?_
                    refine bk_inl ?_
                    refine q_if_eq_f (t := 89) rfl (by decide) (i_ne (a := (1 : Int)) (b := (0 : Int)) (by decide +kernel) (by decide +kernel) (by omega)) ?_
                    refine q_iload rfl rfl ?_
                    refine q_iconstv (v := (0 : Int32)) rfl (by decide +kernel) ?_
                    refine q_sipushv (v := (9999 : Int32)) rfl (by decide +kernel) ?_
                    refine q_call rfl rfl rfl rfl ?_
                    refine q_iload_n rfl rfl ?_
                    refine q_iload_n rfl rfl ?_
                    refine q_ic_lt_f (t := 14) rfl (by decide) (i_nlt (a := (x4).toInt) (b := (0 : Int)) rfl (by decide +kernel) (by omega)) ?_
                    refine q_iload_n rfl rfl ?_
                    refine q_iload_n rfl rfl ?_
                    refine q_ic_gt_f (t := 14) rfl (by decide) (i_nlt_r (a := (x4).toInt) (b := (9999 : Int)) rfl (by decide +kernel) (by omega)) ?_
                    refine q_iconstv (v := (1 : Int32)) rfl (by decide +kernel) ?_
                    refine q_goto (t := 15) rfl (by decide) ?_
                    refine q_zret rfl rfl (by decide) ?_
                    refine bk_inl ?_
                    refine q_if_eq_f (t := 89) rfl (by decide) (i_ne (a := (1 : Int)) (b := (0 : Int)) (by decide +kernel) (by decide +kernel) (by omega)) ?_
                    refine q_iload rfl rfl ?_
                    refine q_iconstv (v := (0 : Int32)) rfl (by decide +kernel) ?_
                    refine q_sipushv (v := (400 : Int32)) rfl (by decide +kernel) ?_
                    refine q_call rfl rfl rfl rfl ?_
                    refine q_iload_n rfl rfl ?_
                    refine q_iload_n rfl rfl ?_
                    refine q_ic_lt_t (t := 14) rfl (by decide) (i_lt (a := (x5).toInt) (b := (0 : Int)) rfl (by decide +kernel) (by omega)) ?_
                    refine q_iconstv (v := (0 : Int32)) rfl (by decide +kernel) ?_
                    refine q_zret rfl rfl (by decide) ?_
                    refine bk_inl ?_
                    refine q_if_eq_t (t := 89) rfl (by decide) (i_eq (a := (0 : Int)) (b := (0 : Int)) (by decide +kernel) (by decide +kernel) (by omega)) ?_
                    refine q_iconstv (v := (0 : Int32)) rfl (by decide +kernel) ?_
                    refine q_iconstv (v := (1 : Int32)) rfl (by decide +kernel) ?_
                    refine q_iconstv (v := (1 : Int32)) rfl (by decide +kernel) ?_
                    refine q_call rfl rfl rfl rfl ?_
                    refine q_iload_n rfl rfl ?_
                    refine q_if_ne_f (t := 26) rfl (by decide) (i_nne (a := (0 : Int)) (b := (0 : Int)) (by decide +kernel) (by decide +kernel) (by omega)) ?_
                    refine q_aload_n rfl rfl ?_
                    refine q_get rfl rfl rfl rfl ?_
                    refine q_if_ne_f (t := 26) rfl (by decide) (i_nne (a := (0 : Int)) (b := (0 : Int)) (by decide +kernel) (by decide +kernel) (by omega)) ?_
                    refine q_aload_n rfl rfl ?_
                    refine q_iload_n rfl rfl ?_
                    refine q_putv (w9 := ((w1.set 0 (.inr (7, [.ref 1, .ref 3, .ref 7, .ref 9, .ref 10, .ref 11, .ref 12, .ref 13, .ref 25, .ref 37, .ref 39, .int 0, .int 0, .int 1]))).set 41 (.inr (8, [.int 1, .ref 42, .int 0, .int 0, .int 0, .int 0, .int 0, .int 0, .int (-1), .ref 43, .ref 44, .ref 45, .ref 46, .ref 47, .ref 48, .ref 49, .int 0, .int 0, .int 0, .int 5, .int 0, .int 0, .int 0, .int 5, .ref 50, .ref 51, .ref 52, .ref 53, .ref 54, .int 0, .int 0, .ref 55, .ref 56, .ref 57, .int 0, .int 0, .int 0, .int 0, .int 0, .int 0, .ref 58, .ref 59, .ref 60, .ref 61, .ref 62, .ref 63, .ref 64, .int 0, .int 0, .ref 65, .int 0, .ref 66, .int 0])))) rfl rfl rfl (by decide) rfl (by decide) rfl ?_
                    refine q_aload_n rfl rfl ?_
                    refine q_get rfl rfl rfl rfl ?_
                    refine q_iload_n rfl rfl ?_
                    refine q_dup2 rfl ⟨rfl, rfl⟩ ?_
                    refine q_ialoadv (m := 1) rfl (by decide) (by decide) rfl (by decide +kernel) rfl ?_
                    refine q_iconstv (v := (1 : Int32)) rfl (by decide +kernel) ?_
                    refine q_iaddv (v := (1 : Int32)) rfl (by decide +kernel) ?_
                    refine q_iastorev (m := 1) (w9 := (((w1.set 0 (.inr (7, [.ref 1, .ref 3, .ref 7, .ref 9, .ref 10, .ref 11, .ref 12, .ref 13, .ref 25, .ref 37, .ref 39, .int 0, .int 0, .int 1]))).set 41 (.inr (8, [.int 1, .ref 42, .int 0, .int 0, .int 0, .int 0, .int 0, .int 0, .int (-1), .ref 43, .ref 44, .ref 45, .ref 46, .ref 47, .ref 48, .ref 49, .int 0, .int 0, .int 0, .int 5, .int 0, .int 0, .int 0, .int 5, .ref 50, .ref 51, .ref 52, .ref 53, .ref 54, .int 0, .int 0, .ref 55, .ref 56, .ref 57, .int 0, .int 0, .int 0, .int 0, .int 0, .int 0, .ref 58, .ref 59, .ref 60, .ref 61, .ref 62, .ref 63, .ref 64, .int 0, .int 0, .ref 65, .int 0, .ref 66, .int 0]))).set 42 (.inl (0, .inl ([0, 1]))))) rfl (by decide) rfl (by decide +kernel) (Nat.le_of_ble_eq_true rfl) rfl ?_
                    refine q_aload_n rfl rfl ?_
                    refine q_get rfl rfl rfl rfl ?_
                    refine q_if_ne_t (t := 37) rfl (by decide) (i_ne (a := (1 : Int)) (b := (0 : Int)) (by decide +kernel) (by decide +kernel) (by omega)) ?_
                    refine q_iconstv (v := (0 : Int32)) rfl (by decide +kernel) ?_
                    refine q_zret rfl rfl (by decide) ?_
                    refine bk_inl ?_
                    refine q_if_ne_f (t := 100) rfl (by decide) (i_nne (a := (0 : Int)) (b := (0 : Int)) (by decide +kernel) (by decide +kernel) (by omega)) ?_
                    refine q_iconstv (v := (0 : Int32)) rfl (by decide +kernel) ?_
                    refine q_iret rfl rfl ?_
                    refine bk_inl ?_
                    refine q_istore rfl (by decide) ?_
                    refine q_aload_n rfl rfl ?_
                    refine q_call rfl rfl rfl rfl ?_
                    refine q_aload_n rfl rfl ?_
                    refine q_get rfl rfl rfl rfl ?_
                    refine q_iret rfl rfl ?_
                    refine bk_inl ?_
                    refine q_iload rfl rfl ?_
                    refine q_ic_eq_t (t := 1035) rfl (by decide) (i_eq (a := (1 : Int)) (b := (1 : Int)) (by decide +kernel) (by decide +kernel) (by omega)) ?_
                    refine q_iload rfl rfl ?_
                    refine q_if_ne_t (t := 1052) rfl (by decide) (i_ne (a := (1 : Int)) (b := (0 : Int)) (by decide +kernel) (by decide +kernel) (by omega)) ?_
                    refine q_goto (t := 2739) rfl (by decide) ?_
                    refine q_iincv (v := (8 : Int32)) rfl rfl (by decide) (by decide +kernel) ?_
                    refine q_goto (t := 23) rfl (by decide) ?_
                    exact q_end rfl rfl (by decide) (by decide)
                  · refine q_ic_lt_f (t := 14) rfl (by decide) (i_nlt (a := (x5).toInt) (b := (0 : Int)) rfl (by decide +kernel) (by omega)) ?_
                    refine q_iload_n rfl rfl ?_
                    refine q_iload_n rfl rfl ?_
                    by_cases h10 : (x5).toInt > 400
                    · refine q_ic_gt_t (t := 14) rfl (by decide) (i_lt_r (a := (x5).toInt) (b := (400 : Int)) rfl (by decide +kernel) (by omega)) ?_
                      refine q_iconstv (v := (0 : Int32)) rfl (by decide +kernel) ?_
                      refine q_zret rfl rfl (by decide) ?_
                      refine bk_inl ?_
                      refine q_if_eq_t (t := 84) rfl (by decide) (i_eq (a := (0 : Int)) (b := (0 : Int)) (by decide +kernel) (by decide +kernel) (by omega)) ?_
                      refine q_iconstv (v := (0 : Int32)) rfl (by decide +kernel) ?_
                      refine q_call rfl rfl rfl rfl ?_
                      refine q_iload_n rfl rfl ?_
                      refine q_if_ne_f (t := 25) rfl (by decide) (i_nne (a := (0 : Int)) (b := (0 : Int)) (by decide +kernel) (by decide +kernel) (by omega)) ?_
                      refine q_aload_n rfl rfl ?_
                      refine q_dup rfl rfl ?_
                      refine q_get rfl rfl rfl rfl ?_
                      refine q_iconstv (v := (1 : Int32)) rfl (by decide +kernel) ?_
                      refine q_iaddv (v := (1 : Int32)) rfl (by decide +kernel) ?_
                      refine q_putv (w9 := (w1.set 0 (.inr (7, [.ref 1, .ref 3, .ref 7, .ref 9, .ref 10, .ref 11, .ref 12, .ref 13, .ref 25, .ref 37, .ref 39, .int 0, .int 0, .int 1])))) rfl rfl rfl (by decide) rfl (by decide) rfl ?_
                      refine q_fin rfl rfl rfl ?_
                      refine bk_out rfl rfl ?_
                      refine bk_thr (z := (1 : Int32)) rfl ⟨_, _, rfl⟩ rfl ?_
                      refine bk_inl ?_
                      refine q_istore rfl (by decide) ?_
                      refine q_aload_n rfl rfl ?_
                      refine q_aload_n rfl rfl ?_
                      refine q_iload rfl rfl ?_
                      refine q_iconstv (v := (1 : Int32)) rfl (by decide +kernel) ?_
                      refine q_iaddv (v := (1 : Int32)) rfl (by decide +kernel) ?_
                      refine q_script rfl (by decide) rfl ?_
                      refine q_aload_n rfl rfl ?_
                      refine q_iload rfl rfl ?_
                      refine q_iconstv (v := (2 : Int32)) rfl (by decide +kernel) ?_
                      refine q_iaddv (v := (2 : Int32)) rfl (by decide +kernel) ?_
                      refine q_script rfl (by decide) rfl ?_
                      refine q_aload_n rfl rfl ?_
                      refine q_iload rfl rfl ?_
                      refine q_iconstv (v := (3 : Int32)) rfl (by decide +kernel) ?_
                      refine q_iaddv (v := (3 : Int32)) rfl (by decide +kernel) ?_
                      refine q_script rfl (by decide) rfl ?_
                      refine q_aload_n rfl rfl ?_
                      refine q_iload rfl rfl ?_
                      refine q_iconstv (v := (4 : Int32)) rfl (by decide +kernel) ?_
                      refine q_iaddv (v := (4 : Int32)) rfl (by decide +kernel) ?_
                      refine q_script rfl (by decide) rfl ?_
                      refine q_aload_n rfl rfl ?_
                      refine q_iload rfl rfl ?_
                      refine q_iconstv (v := (5 : Int32)) rfl (by decide +kernel) ?_
                      refine q_iaddv (v := (5 : Int32)) rfl (by decide +kernel) ?_
                      refine q_script rfl (by decide) rfl ?_
                      refine q_aload_n rfl rfl ?_
                      refine q_iload rfl rfl ?_
                      refine q_bipushv (v := (6 : Int32)) rfl (by decide +kernel) ?_
                      refine q_iaddv (v := (6 : Int32)) rfl (by decide +kernel) ?_
                      refine q_script rfl (by decide) rfl ?_
                      refine q_aload_n rfl rfl ?_
                      refine q_iload rfl rfl ?_
                      refine q_bipushv (v := (7 : Int32)) rfl (by decide +kernel) ?_
                      refine q_iaddv (v := (7 : Int32)) rfl (by decide +kernel) ?_
                      refine q_script rfl (by decide) rfl ?_
                      refine q_call rfl rfl rfl rfl ?_
                      refine q_aload_n rfl rfl ?_
                      refine q_iconstv (v := (0 : Int32)) rfl (by decide +kernel) ?_
                      refine q_putv (w9 := (w1.set 0 (.inr (7, [.ref 1, .ref 3, .ref 7, .ref 9, .ref 10, .ref 11, .ref 12, .ref 13, .ref 25, .ref 37, .ref 39, .int 0, .int 0, .int 1])))) rfl rfl rfl (by decide) rfl (by decide) rfl ?_
                      refine q_aload_n rfl rfl ?_
                      refine q_iload_n rfl rfl ?_
                      refine q_iconstv (v := (0 : Int32)) rfl (by decide +kernel) ?_
                      refine q_sipushv (v := (9999 : Int32)) rfl (by decide +kernel) ?_
                      refine q_call rfl rfl rfl rfl ?_
                      refine q_iload_n rfl rfl ?_
                      refine q_iload_n rfl rfl ?_
                      refine q_ic_lt_f (t := 14) rfl (by decide) (i_nlt (a := (x1).toInt) (b := (0 : Int)) rfl (by decide +kernel) (by omega)) ?_
                      refine q_iload_n rfl rfl ?_
                      refine q_iload_n rfl rfl ?_
                      refine q_ic_gt_f (t := 14) rfl (by decide) (i_nlt_r (a := (x1).toInt) (b := (9999 : Int)) rfl (by decide +kernel) (by omega)) ?_
                      refine q_iconstv (v := (1 : Int32)) rfl (by decide +kernel) ?_
                      refine q_goto (t := 15) rfl (by decide) ?_
                      refine q_zret rfl rfl (by decide) ?_
                      refine bk_inl ?_
                      refine q_if_eq_f (t := 89) rfl (by decide) (i_ne (a := (1 : Int)) (b := (0 : Int)) (by decide +kernel) (by decide +kernel) (by omega)) ?_
                      refine q_iload_n rfl rfl ?_
                      refine q_iconstv (v := (0 : Int32)) rfl (by decide +kernel) ?_
                      refine q_sipushv (v := (9999 : Int32)) rfl (by decide +kernel) ?_
                      refine q_call rfl rfl rfl rfl ?_
                      refine q_iload_n rfl rfl ?_
                      refine q_iload_n rfl rfl ?_
                      refine q_ic_lt_f (t := 14) rfl (by decide) (i_nlt (a := (x2).toInt) (b := (0 : Int)) rfl (by decide +kernel) (by omega)) ?_
                      refine q_iload_n rfl rfl ?_
                      refine q_iload_n rfl rfl ?_
                      refine q_ic_gt_f (t := 14) rfl (by decide) (i_nlt_r (a := (x2).toInt) (b := (9999 : Int)) rfl (by decide +kernel) (by omega)) ?_
                      refine q_iconstv (v := (1 : Int32)) rfl (by decide +kernel) ?_
                      refine q_goto (t := 15) rfl (by decide) ?_
                      refine q_zret rfl rfl (by decide) ?_
                      refine bk_inl ?_
                      refine q_if_eq_f (t := 89) rfl (by decide) (i_ne (a := (1 : Int)) (b := (0 : Int)) (by decide +kernel) (by decide +kernel) (by omega)) ?_
                      refine q_iload_n rfl rfl ?_
                      refine q_iconstv (v := (0 : Int32)) rfl (by decide +kernel) ?_
                      refine q_sipushv (v := (9999 : Int32)) rfl (by decide +kernel) ?_
                      refine q_call rfl rfl rfl rfl ?_
                      refine q_iload_n rfl rfl ?_
                      refine q_iload_n rfl rfl ?_
                      refine q_ic_lt_f (t := 14) rfl (by decide) (i_nlt (a := (x3).toInt) (b := (0 : Int)) rfl (by decide +kernel) (by omega)) ?_
                      refine q_iload_n rfl rfl ?_
                      refine q_iload_n rfl rfl ?_
                      refine q_ic_gt_f (t := 14) rfl (by decide) (i_nlt_r (a := (x3).toInt) (b := (9999 : Int)) rfl (by decide +kernel) (by omega)) ?_
                      refine q_iconstv (v := (1 : Int32)) rfl (by decide +kernel) ?_
                      refine q_goto (t := 15) rfl (by decide) ?_
                      refine q_zret rfl rfl (by decide) ?_
                      refine bk_inl ?_
                      refine q_if_eq_f (t := 89) rfl (by decide) (i_ne (a := (1 : Int)) (b := (0 : Int)) (by decide +kernel) (by decide +kernel) (by omega)) ?_
                      refine q_iload rfl rfl ?_
                      refine q_iconstv (v := (0 : Int32)) rfl (by decide +kernel) ?_
                      refine q_sipushv (v := (9999 : Int32)) rfl (by decide +kernel) ?_
                      refine q_call rfl rfl rfl rfl ?_
                      refine q_iload_n rfl rfl ?_
                      refine q_iload_n rfl rfl ?_
                      refine q_ic_lt_f (t := 14) rfl (by decide) (i_nlt (a := (x4).toInt) (b := (0 : Int)) rfl (by decide +kernel) (by omega)) ?_
                      refine q_iload_n rfl rfl ?_
                      refine q_iload_n rfl rfl ?_
                      refine q_ic_gt_f (t := 14) rfl (by decide) (i_nlt_r (a := (x4).toInt) (b := (9999 : Int)) rfl (by decide +kernel) (by omega)) ?_
                      refine q_iconstv (v := (1 : Int32)) rfl (by decide +kernel) ?_
                      refine q_goto (t := 15) rfl (by decide) ?_
                      refine q_zret rfl rfl (by decide) ?_
                      refine bk_inl ?_
                      refine q_if_eq_f (t := 89) rfl (by decide) (i_ne (a := (1 : Int)) (b := (0 : Int)) (by decide +kernel) (by decide +kernel) (by omega)) ?_
                      refine q_iload rfl rfl ?_
                      refine q_iconstv (v := (0 : Int32)) rfl (by decide +kernel) ?_
                      refine q_sipushv (v := (400 : Int32)) rfl (by decide +kernel) ?_
                      refine q_call rfl rfl rfl rfl ?_
                      refine q_iload_n rfl rfl ?_
                      refine q_iload_n rfl rfl ?_
                      refine q_ic_lt_f (t := 14) rfl (by decide) (i_nlt (a := (x5).toInt) (b := (0 : Int)) rfl (by decide +kernel) (by omega)) ?_
                      refine q_iload_n rfl rfl ?_
                      refine q_iload_n rfl rfl ?_
                      refine q_ic_gt_t (t := 14) rfl (by decide) (i_lt_r (a := (x5).toInt) (b := (400 : Int)) rfl (by decide +kernel) (by omega)) ?_
                      refine q_iconstv (v := (0 : Int32)) rfl (by decide +kernel) ?_
                      refine q_zret rfl rfl (by decide) ?_
                      refine bk_inl ?_
                      refine q_if_eq_t (t := 89) rfl (by decide) (i_eq (a := (0 : Int)) (b := (0 : Int)) (by decide +kernel) (by decide +kernel) (by omega)) ?_
                      refine q_iconstv (v := (0 : Int32)) rfl (by decide +kernel) ?_
                      refine q_iconstv (v := (1 : Int32)) rfl (by decide +kernel) ?_
                      refine q_iconstv (v := (1 : Int32)) rfl (by decide +kernel) ?_
                      refine q_call rfl rfl rfl rfl ?_
                      refine q_iload_n rfl rfl ?_
                      refine q_if_ne_f (t := 26) rfl (by decide) (i_nne (a := (0 : Int)) (b := (0 : Int)) (by decide +kernel) (by decide +kernel) (by omega)) ?_
                      refine q_aload_n rfl rfl ?_
                      refine q_get rfl rfl rfl rfl ?_
                      refine q_if_ne_f (t := 26) rfl (by decide) (i_nne (a := (0 : Int)) (b := (0 : Int)) (by decide +kernel) (by decide +kernel) (by omega)) ?_
                      refine q_aload_n rfl rfl ?_
                      refine q_iload_n rfl rfl ?_
                      refine q_putv (w9 := ((w1.set 0 (.inr (7, [.ref 1, .ref 3, .ref 7, .ref 9, .ref 10, .ref 11, .ref 12, .ref 13, .ref 25, .ref 37, .ref 39, .int 0, .int 0, .int 1]))).set 41 (.inr (8, [.int 1, .ref 42, .int 0, .int 0, .int 0, .int 0, .int 0, .int 0, .int (-1), .ref 43, .ref 44, .ref 45, .ref 46, .ref 47, .ref 48, .ref 49, .int 0, .int 0, .int 0, .int 5, .int 0, .int 0, .int 0, .int 5, .ref 50, .ref 51, .ref 52, .ref 53, .ref 54, .int 0, .int 0, .ref 55, .ref 56, .ref 57, .int 0, .int 0, .int 0, .int 0, .int 0, .int 0, .ref 58, .ref 59, .ref 60, .ref 61, .ref 62, .ref 63, .ref 64, .int 0, .int 0, .ref 65, .int 0, .ref 66, .int 0])))) rfl rfl rfl (by decide) rfl (by decide) rfl ?_
                      refine q_aload_n rfl rfl ?_
                      refine q_get rfl rfl rfl rfl ?_
                      refine q_iload_n rfl rfl ?_
                      refine q_dup2 rfl ⟨rfl, rfl⟩ ?_
                      refine q_ialoadv (m := 1) rfl (by decide) (by decide) rfl (by decide +kernel) rfl ?_
                      refine q_iconstv (v := (1 : Int32)) rfl (by decide +kernel) ?_
                      refine q_iaddv (v := (1 : Int32)) rfl (by decide +kernel) ?_
                      refine q_iastorev (m := 1) (w9 := (((w1.set 0 (.inr (7, [.ref 1, .ref 3, .ref 7, .ref 9, .ref 10, .ref 11, .ref 12, .ref 13, .ref 25, .ref 37, .ref 39, .int 0, .int 0, .int 1]))).set 41 (.inr (8, [.int 1, .ref 42, .int 0, .int 0, .int 0, .int 0, .int 0, .int 0, .int (-1), .ref 43, .ref 44, .ref 45, .ref 46, .ref 47, .ref 48, .ref 49, .int 0, .int 0, .int 0, .int 5, .int 0, .int 0, .int 0, .int 5, .ref 50, .ref 51, .ref 52, .ref 53, .ref 54, .int 0, .int 0, .ref 55, .ref 56, .ref 57, .int 0, .int 0, .int 0, .int 0, .int 0, .int 0, .ref 58, .ref 59, .ref 60, .ref 61, .ref 62, .ref 63, .ref 64, .int 0, .int 0, .ref 65, .int 0, .ref 66, .int 0]))).set 42 (.inl (0, .inl ([0, 1]))))) rfl (by decide) rfl (by decide +kernel) (Nat.le_of_ble_eq_true rfl) rfl ?_
                      refine q_aload_n rfl rfl ?_
                      refine q_get rfl rfl rfl rfl ?_
                      refine q_if_ne_t (t := 37) rfl (by decide) (i_ne (a := (1 : Int)) (b := (0 : Int)) (by decide +kernel) (by decide +kernel) (by omega)) ?_
                      refine q_iconstv (v := (0 : Int32)) rfl (by decide +kernel) ?_
                      refine q_zret rfl rfl (by decide) ?_
                      refine bk_inl ?_
                      refine q_if_ne_f (t := 100) rfl (by decide) (i_nne (a := (0 : Int)) (b := (0 : Int)) (by decide +kernel) (by decide +kernel) (by omega)) ?_
                      refine q_iconstv (v := (0 : Int32)) rfl (by decide +kernel) ?_
                      refine q_iret rfl rfl ?_
                      refine bk_inl ?_
                      refine q_istore rfl (by decide) ?_
                      refine q_aload_n rfl rfl ?_
                      refine q_call rfl rfl rfl rfl ?_
                      refine q_aload_n rfl rfl ?_
                      refine q_get rfl rfl rfl rfl ?_
                      refine q_iret rfl rfl ?_
                      refine bk_inl ?_
                      refine q_iload rfl rfl ?_
                      refine q_ic_eq_t (t := 1035) rfl (by decide) (i_eq (a := (1 : Int)) (b := (1 : Int)) (by decide +kernel) (by decide +kernel) (by omega)) ?_
                      refine q_iload rfl rfl ?_
                      refine q_if_ne_t (t := 1052) rfl (by decide) (i_ne (a := (1 : Int)) (b := (0 : Int)) (by decide +kernel) (by decide +kernel) (by omega)) ?_
                      refine q_goto (t := 2739) rfl (by decide) ?_
                      refine q_iincv (v := (8 : Int32)) rfl rfl (by decide) (by decide +kernel) ?_
                      refine q_goto (t := 23) rfl (by decide) ?_
                      exact q_end rfl rfl (by decide) (by decide)
                    · refine q_ic_gt_f (t := 14) rfl (by decide) (i_nlt_r (a := (x5).toInt) (b := (400 : Int)) rfl (by decide +kernel) (by omega)) ?_
                      refine q_iconstv (v := (1 : Int32)) rfl (by decide +kernel) ?_
                      refine q_goto (t := 15) rfl (by decide) ?_
                      refine q_zret rfl rfl (by decide) ?_
                      refine bk_inl ?_
                      refine q_if_eq_f (t := 84) rfl (by decide) (i_ne (a := (1 : Int)) (b := (0 : Int)) (by decide +kernel) (by decide +kernel) (by omega)) ?_
                      refine q_iload rfl rfl ?_
                      refine q_iconstv (v := (0 : Int32)) rfl (by decide +kernel) ?_
                      refine q_sipushv (v := (400 : Int32)) rfl (by decide +kernel) ?_
                      refine q_call rfl rfl rfl rfl ?_
                      refine q_iload_n rfl rfl ?_
                      refine q_iload_n rfl rfl ?_
                      by_cases h11 : (x6).toInt < 0
                      · refine q_ic_lt_t (t := 14) rfl (by decide) (i_lt (a := (x6).toInt) (b := (0 : Int)) rfl (by decide +kernel) (by omega)) ?_
                        refine q_iconstv (v := (0 : Int32)) rfl (by decide +kernel) ?_
                        refine q_zret rfl rfl (by decide) ?_
                        refine bk_inl ?_
                        refine q_if_eq_t (t := 84) rfl (by decide) (i_eq (a := (0 : Int)) (b := (0 : Int)) (by decide +kernel) (by decide +kernel) (by omega)) ?_
                        refine q_iconstv (v := (0 : Int32)) rfl (by decide +kernel) ?_
                        refine q_call rfl rfl rfl rfl ?_
                        refine q_iload_n rfl rfl ?_
                        refine q_if_ne_f (t := 25) rfl (by decide) (i_nne (a := (0 : Int)) (b := (0 : Int)) (by decide +kernel) (by decide +kernel) (by omega)) ?_
                        refine q_aload_n rfl rfl ?_
                        refine q_dup rfl rfl ?_
                        refine q_get rfl rfl rfl rfl ?_
                        refine q_iconstv (v := (1 : Int32)) rfl (by decide +kernel) ?_
                        refine q_iaddv (v := (1 : Int32)) rfl (by decide +kernel) ?_
                        refine q_putv (w9 := (w1.set 0 (.inr (7, [.ref 1, .ref 3, .ref 7, .ref 9, .ref 10, .ref 11, .ref 12, .ref 13, .ref 25, .ref 37, .ref 39, .int 0, .int 0, .int 1])))) rfl rfl rfl (by decide) rfl (by decide) rfl ?_
                        refine q_fin rfl rfl rfl ?_
                        refine bk_out rfl rfl ?_
                        refine bk_thr (z := (1 : Int32)) rfl ⟨_, _, rfl⟩ rfl ?_
                        refine bk_inl ?_
                        refine q_istore rfl (by decide) ?_
                        refine q_aload_n rfl rfl ?_
                        refine q_aload_n rfl rfl ?_
                        refine q_iload rfl rfl ?_
                        refine q_iconstv (v := (1 : Int32)) rfl (by decide +kernel) ?_
                        refine q_iaddv (v := (1 : Int32)) rfl (by decide +kernel) ?_
                        refine q_script rfl (by decide) rfl ?_
                        refine q_aload_n rfl rfl ?_
                        refine q_iload rfl rfl ?_
                        refine q_iconstv (v := (2 : Int32)) rfl (by decide +kernel) ?_
                        refine q_iaddv (v := (2 : Int32)) rfl (by decide +kernel) ?_
                        refine q_script rfl (by decide) rfl ?_
                        refine q_aload_n rfl rfl ?_
                        refine q_iload rfl rfl ?_
                        refine q_iconstv (v := (3 : Int32)) rfl (by decide +kernel) ?_
                        refine q_iaddv (v := (3 : Int32)) rfl (by decide +kernel) ?_
                        refine q_script rfl (by decide) rfl ?_
                        refine q_aload_n rfl rfl ?_
                        refine q_iload rfl rfl ?_
                        refine q_iconstv (v := (4 : Int32)) rfl (by decide +kernel) ?_
                        refine q_iaddv (v := (4 : Int32)) rfl (by decide +kernel) ?_
                        refine q_script rfl (by decide) rfl ?_
                        refine q_aload_n rfl rfl ?_
                        refine q_iload rfl rfl ?_
                        refine q_iconstv (v := (5 : Int32)) rfl (by decide +kernel) ?_
                        refine q_iaddv (v := (5 : Int32)) rfl (by decide +kernel) ?_
                        refine q_script rfl (by decide) rfl ?_
                        refine q_aload_n rfl rfl ?_
                        refine q_iload rfl rfl ?_
                        refine q_bipushv (v := (6 : Int32)) rfl (by decide +kernel) ?_
                        refine q_iaddv (v := (6 : Int32)) rfl (by decide +kernel) ?_
                        refine q_script rfl (by decide) rfl ?_
                        refine q_aload_n rfl rfl ?_
                        refine q_iload rfl rfl ?_
                        refine q_bipushv (v := (7 : Int32)) rfl (by decide +kernel) ?_
                        refine q_iaddv (v := (7 : Int32)) rfl (by decide +kernel) ?_
                        refine q_script rfl (by decide) rfl ?_
                        refine q_call rfl rfl rfl rfl ?_
                        refine q_aload_n rfl rfl ?_
                        refine q_iconstv (v := (0 : Int32)) rfl (by decide +kernel) ?_
                        refine q_putv (w9 := (w1.set 0 (.inr (7, [.ref 1, .ref 3, .ref 7, .ref 9, .ref 10, .ref 11, .ref 12, .ref 13, .ref 25, .ref 37, .ref 39, .int 0, .int 0, .int 1])))) rfl rfl rfl (by decide) rfl (by decide) rfl ?_
                        refine q_aload_n rfl rfl ?_
                        refine q_iload_n rfl rfl ?_
                        refine q_iconstv (v := (0 : Int32)) rfl (by decide +kernel) ?_
                        refine q_sipushv (v := (9999 : Int32)) rfl (by decide +kernel) ?_
                        refine q_call rfl rfl rfl rfl ?_
                        refine q_iload_n rfl rfl ?_
                        refine q_iload_n rfl rfl ?_
                        refine q_ic_lt_f (t := 14) rfl (by decide) (i_nlt (a := (x1).toInt) (b := (0 : Int)) rfl (by decide +kernel) (by omega)) ?_
                        refine q_iload_n rfl rfl ?_
                        refine q_iload_n rfl rfl ?_
                        refine q_ic_gt_f (t := 14) rfl (by decide) (i_nlt_r (a := (x1).toInt) (b := (9999 : Int)) rfl (by decide +kernel) (by omega)) ?_
                        refine q_iconstv (v := (1 : Int32)) rfl (by decide +kernel) ?_
                        refine q_goto (t := 15) rfl (by decide) ?_
                        refine q_zret rfl rfl (by decide) ?_
                        refine bk_inl ?_
                        refine q_if_eq_f (t := 89) rfl (by decide) (i_ne (a := (1 : Int)) (b := (0 : Int)) (by decide +kernel) (by decide +kernel) (by omega)) ?_
                        refine q_iload_n rfl rfl ?_
                        refine q_iconstv (v := (0 : Int32)) rfl (by decide +kernel) ?_
                        refine q_sipushv (v := (9999 : Int32)) rfl (by decide +kernel) ?_
                        refine q_call rfl rfl rfl rfl ?_
                        refine q_iload_n rfl rfl ?_
                        refine q_iload_n rfl rfl ?_
                        refine q_ic_lt_f (t := 14) rfl (by decide) (i_nlt (a := (x2).toInt) (b := (0 : Int)) rfl (by decide +kernel) (by omega)) ?_
                        refine q_iload_n rfl rfl ?_
                        refine q_iload_n rfl rfl ?_
                        refine q_ic_gt_f (t := 14) rfl (by decide) (i_nlt_r (a := (x2).toInt) (b := (9999 : Int)) rfl (by decide +kernel) (by omega)) ?_
                        refine q_iconstv (v := (1 : Int32)) rfl (by decide +kernel) ?_
                        refine q_goto (t := 15) rfl (by decide) ?_
                        refine q_zret rfl rfl (by decide) ?_
                        refine bk_inl ?_
                        refine q_if_eq_f (t := 89) rfl (by decide) (i_ne (a := (1 : Int)) (b := (0 : Int)) (by decide +kernel) (by decide +kernel) (by omega)) ?_
                        refine q_iload_n rfl rfl ?_
                        refine q_iconstv (v := (0 : Int32)) rfl (by decide +kernel) ?_
                        refine q_sipushv (v := (9999 : Int32)) rfl (by decide +kernel) ?_
                        refine q_call rfl rfl rfl rfl ?_
                        refine q_iload_n rfl rfl ?_
                        refine q_iload_n rfl rfl ?_
                        refine q_ic_lt_f (t := 14) rfl (by decide) (i_nlt (a := (x3).toInt) (b := (0 : Int)) rfl (by decide +kernel) (by omega)) ?_
                        refine q_iload_n rfl rfl ?_
                        refine q_iload_n rfl rfl ?_
                        refine q_ic_gt_f (t := 14) rfl (by decide) (i_nlt_r (a := (x3).toInt) (b := (9999 : Int)) rfl (by decide +kernel) (by omega)) ?_
                        refine q_iconstv (v := (1 : Int32)) rfl (by decide +kernel) ?_
                        refine q_goto (t := 15) rfl (by decide) ?_
                        refine q_zret rfl rfl (by decide) ?_
                        refine bk_inl ?_
                        refine q_if_eq_f (t := 89) rfl (by decide) (i_ne (a := (1 : Int)) (b := (0 : Int)) (by decide +kernel) (by decide +kernel) (by omega)) ?_
                        refine q_iload rfl rfl ?_
                        refine q_iconstv (v := (0 : Int32)) rfl (by decide +kernel) ?_
                        refine q_sipushv (v := (9999 : Int32)) rfl (by decide +kernel) ?_
                        refine q_call rfl rfl rfl rfl ?_
                        refine q_iload_n rfl rfl ?_
                        refine q_iload_n rfl rfl ?_
                        refine q_ic_lt_f (t := 14) rfl (by decide) (i_nlt (a := (x4).toInt) (b := (0 : Int)) rfl (by decide +kernel) (by omega)) ?_
                        refine q_iload_n rfl rfl ?_
                        refine q_iload_n rfl rfl ?_
                        refine q_ic_gt_f (t := 14) rfl (by decide) (i_nlt_r (a := (x4).toInt) (b := (9999 : Int)) rfl (by decide +kernel) (by omega)) ?_
                        refine q_iconstv (v := (1 : Int32)) rfl (by decide +kernel) ?_
                        refine q_goto (t := 15) rfl (by decide) ?_
                        refine q_zret rfl rfl (by decide) ?_
                        refine bk_inl ?_
                        refine q_if_eq_f (t := 89) rfl (by decide) (i_ne (a := (1 : Int)) (b := (0 : Int)) (by decide +kernel) (by decide +kernel) (by omega)) ?_
                        refine q_iload rfl rfl ?_
                        refine q_iconstv (v := (0 : Int32)) rfl (by decide +kernel) ?_
                        refine q_sipushv (v := (400 : Int32)) rfl (by decide +kernel) ?_
                        refine q_call rfl rfl rfl rfl ?_
                        refine q_iload_n rfl rfl ?_
                        refine q_iload_n rfl rfl ?_
                        refine q_ic_lt_f (t := 14) rfl (by decide) (i_nlt (a := (x5).toInt) (b := (0 : Int)) rfl (by decide +kernel) (by omega)) ?_
                        refine q_iload_n rfl rfl ?_
                        refine q_iload_n rfl rfl ?_
                        refine q_ic_gt_f (t := 14) rfl (by decide) (i_nlt_r (a := (x5).toInt) (b := (400 : Int)) rfl (by decide +kernel) (by omega)) ?_
                        refine q_iconstv (v := (1 : Int32)) rfl (by decide +kernel) ?_
                        refine q_goto (t := 15) rfl (by decide) ?_
                        refine q_zret rfl rfl (by decide) ?_
                        refine bk_inl ?_
                        refine q_if_eq_f (t := 89) rfl (by decide) (i_ne (a := (1 : Int)) (b := (0 : Int)) (by decide +kernel) (by decide +kernel) (by omega)) ?_
                        refine q_iload rfl rfl ?_
                        refine q_iconstv (v := (0 : Int32)) rfl (by decide +kernel) ?_
                        refine q_sipushv (v := (400 : Int32)) rfl (by decide +kernel) ?_
                        refine q_call rfl rfl rfl rfl ?_
                        refine q_iload_n rfl rfl ?_
                        refine q_iload_n rfl rfl ?_
                        refine q_ic_lt_t (t := 14) rfl (by decide) (i_lt (a := (x6).toInt) (b := (0 : Int)) rfl (by decide +kernel) (by omega)) ?_
                        refine q_iconstv (v := (0 : Int32)) rfl (by decide +kernel) ?_
                        refine q_zret rfl rfl (by decide) ?_
                        refine bk_inl ?_
                        refine q_if_eq_t (t := 89) rfl (by decide) (i_eq (a := (0 : Int)) (b := (0 : Int)) (by decide +kernel) (by decide +kernel) (by omega)) ?_
                        refine q_iconstv (v := (0 : Int32)) rfl (by decide +kernel) ?_
                        refine q_iconstv (v := (1 : Int32)) rfl (by decide +kernel) ?_
                        refine q_iconstv (v := (1 : Int32)) rfl (by decide +kernel) ?_
                        refine q_call rfl rfl rfl rfl ?_
                        refine q_iload_n rfl rfl ?_
                        refine q_if_ne_f (t := 26) rfl (by decide) (i_nne (a := (0 : Int)) (b := (0 : Int)) (by decide +kernel) (by decide +kernel) (by omega)) ?_
                        refine q_aload_n rfl rfl ?_
                        refine q_get rfl rfl rfl rfl ?_
                        refine q_if_ne_f (t := 26) rfl (by decide) (i_nne (a := (0 : Int)) (b := (0 : Int)) (by decide +kernel) (by decide +kernel) (by omega)) ?_
                        refine q_aload_n rfl rfl ?_
                        refine q_iload_n rfl rfl ?_
                        refine q_putv (w9 := ((w1.set 0 (.inr (7, [.ref 1, .ref 3, .ref 7, .ref 9, .ref 10, .ref 11, .ref 12, .ref 13, .ref 25, .ref 37, .ref 39, .int 0, .int 0, .int 1]))).set 41 (.inr (8, [.int 1, .ref 42, .int 0, .int 0, .int 0, .int 0, .int 0, .int 0, .int (-1), .ref 43, .ref 44, .ref 45, .ref 46, .ref 47, .ref 48, .ref 49, .int 0, .int 0, .int 0, .int 5, .int 0, .int 0, .int 0, .int 5, .ref 50, .ref 51, .ref 52, .ref 53, .ref 54, .int 0, .int 0, .ref 55, .ref 56, .ref 57, .int 0, .int 0, .int 0, .int 0, .int 0, .int 0, .ref 58, .ref 59, .ref 60, .ref 61, .ref 62, .ref 63, .ref 64, .int 0, .int 0, .ref 65, .int 0, .ref 66, .int 0])))) rfl rfl rfl (by decide) rfl (by decide) rfl ?_
                        refine q_aload_n rfl rfl ?_
                        refine q_get rfl rfl rfl rfl ?_
                        refine q_iload_n rfl rfl ?_
                        refine q_dup2 rfl ⟨rfl, rfl⟩ ?_
                        refine q_ialoadv (m := 1) rfl (by decide) (by decide) rfl (by decide +kernel) rfl ?_
                        refine q_iconstv (v := (1 : Int32)) rfl (by decide +kernel) ?_
                        refine q_iaddv (v := (1 : Int32)) rfl (by decide +kernel) ?_
                        refine q_iastorev (m := 1) (w9 := (((w1.set 0 (.inr (7, [.ref 1, .ref 3, .ref 7, .ref 9, .ref 10, .ref 11, .ref 12, .ref 13, .ref 25, .ref 37, .ref 39, .int 0, .int 0, .int 1]))).set 41 (.inr (8, [.int 1, .ref 42, .int 0, .int 0, .int 0, .int 0, .int 0, .int 0, .int (-1), .ref 43, .ref 44, .ref 45, .ref 46, .ref 47, .ref 48, .ref 49, .int 0, .int 0, .int 0, .int 5, .int 0, .int 0, .int 0, .int 5, .ref 50, .ref 51, .ref 52, .ref 53, .ref 54, .int 0, .int 0, .ref 55, .ref 56, .ref 57, .int 0, .int 0, .int 0, .int 0, .int 0, .int 0, .ref 58, .ref 59, .ref 60, .ref 61, .ref 62, .ref 63, .ref 64, .int 0, .int 0, .ref 65, .int 0, .ref 66, .int 0]))).set 42 (.inl (0, .inl ([0, 1]))))) rfl (by decide) rfl (by decide +kernel) (Nat.le_of_ble_eq_true rfl) rfl ?_
                        refine q_aload_n rfl rfl ?_
                        refine q_get rfl rfl rfl rfl ?_
                        refine q_if_ne_t (t := 37) rfl (by decide) (i_ne (a := (1 : Int)) (b := (0 : Int)) (by decide +kernel) (by decide +kernel) (by omega)) ?_
                        refine q_iconstv (v := (0 : Int32)) rfl (by decide +kernel) ?_
                        refine q_zret rfl rfl (by decide) ?_
                        refine bk_inl ?_
                        refine q_if_ne_f (t := 100) rfl (by decide) (i_nne (a := (0 : Int)) (b := (0 : Int)) (by decide +kernel) (by decide +kernel) (by omega)) ?_
                        refine q_iconstv (v := (0 : Int32)) rfl (by decide +kernel) ?_
                        refine q_iret rfl rfl ?_
                        refine bk_inl ?_
                        refine q_istore rfl (by decide) ?_
                        refine q_aload_n rfl rfl ?_
                        refine q_call rfl rfl rfl rfl ?_
                        refine q_aload_n rfl rfl ?_
                        refine q_get rfl rfl rfl rfl ?_
                        refine q_iret rfl rfl ?_
                        refine bk_inl ?_
                        refine q_iload rfl rfl ?_
                        refine q_ic_eq_t (t := 1035) rfl (by decide) (i_eq (a := (1 : Int)) (b := (1 : Int)) (by decide +kernel) (by decide +kernel) (by omega)) ?_
                        refine q_iload rfl rfl ?_
                        refine q_if_ne_t (t := 1052) rfl (by decide) (i_ne (a := (1 : Int)) (b := (0 : Int)) (by decide +kernel) (by decide +kernel) (by omega)) ?_
                        refine q_goto (t := 2739) rfl (by decide) ?_
                        refine q_iincv (v := (8 : Int32)) rfl rfl (by decide) (by decide +kernel) ?_
                        refine q_goto (t := 23) rfl (by decide) ?_
                        exact q_end rfl rfl (by decide) (by decide)
                      · refine q_ic_lt_f (t := 14) rfl (by decide) (i_nlt (a := (x6).toInt) (b := (0 : Int)) rfl (by decide +kernel) (by omega)) ?_
                        refine q_iload_n rfl rfl ?_
                        refine q_iload_n rfl rfl ?_
                        by_cases h12 : (x6).toInt > 400
                        · refine q_ic_gt_t (t := 14) rfl (by decide) (i_lt_r (a := (x6).toInt) (b := (400 : Int)) rfl (by decide +kernel) (by omega)) ?_
                          refine q_iconstv (v := (0 : Int32)) rfl (by decide +kernel) ?_
                          refine q_zret rfl rfl (by decide) ?_
                          refine bk_inl ?_
                          refine q_if_eq_t (t := 84) rfl (by decide) (i_eq (a := (0 : Int)) (b := (0 : Int)) (by decide +kernel) (by decide +kernel) (by omega)) ?_
                          refine q_iconstv (v := (0 : Int32)) rfl (by decide +kernel) ?_
                          refine q_call rfl rfl rfl rfl ?_
                          refine q_iload_n rfl rfl ?_
                          refine q_if_ne_f (t := 25) rfl (by decide) (i_nne (a := (0 : Int)) (b := (0 : Int)) (by decide +kernel) (by decide +kernel) (by omega)) ?_
                          refine q_aload_n rfl rfl ?_
                          refine q_dup rfl rfl ?_
                          refine q_get rfl rfl rfl rfl ?_
                          refine q_iconstv (v := (1 : Int32)) rfl (by decide +kernel) ?_
                          refine q_iaddv (v := (1 : Int32)) rfl (by decide +kernel) ?_
                          refine q_putv (w9 := (w1.set 0 (.inr (7, [.ref 1, .ref 3, .ref 7, .ref 9, .ref 10, .ref 11, .ref 12, .ref 13, .ref 25, .ref 37, .ref 39, .int 0, .int 0, .int 1])))) rfl rfl rfl (by decide) rfl (by decide) rfl ?_
                          refine q_fin rfl rfl rfl ?_
                          refine bk_out rfl rfl ?_
                          refine bk_thr (z := (1 : Int32)) rfl ⟨_, _, rfl⟩ rfl ?_
                          refine bk_inl ?_
                          refine q_istore rfl (by decide) ?_
                          refine q_aload_n rfl rfl ?_
                          refine q_aload_n rfl rfl ?_
                          refine q_iload rfl rfl ?_
                          refine q_iconstv (v := (1 : Int32)) rfl (by decide +kernel) ?_
                          refine q_iaddv (v := (1 : Int32)) rfl (by decide +kernel) ?_
                          refine q_script rfl (by decide) rfl ?_
                          refine q_aload_n rfl rfl ?_
                          refine q_iload rfl rfl ?_
                          refine q_iconstv (v := (2 : Int32)) rfl (by decide +kernel) ?_
                          refine q_iaddv (v := (2 : Int32)) rfl (by decide +kernel) ?_
                          refine q_script rfl (by decide) rfl ?_
                          refine q_aload_n rfl rfl ?_
                          refine q_iload rfl rfl ?_
                          refine q_iconstv (v := (3 : Int32)) rfl (by decide +kernel) ?_
                          refine q_iaddv (v := (3 : Int32)) rfl (by decide +kernel) ?_
                          refine q_script rfl (by decide) rfl ?_
                          refine q_aload_n rfl rfl ?_
                          refine q_iload rfl rfl ?_
                          refine q_iconstv (v := (4 : Int32)) rfl (by decide +kernel) ?_
                          refine q_iaddv (v := (4 : Int32)) rfl (by decide +kernel) ?_
                          refine q_script rfl (by decide) rfl ?_
                          refine q_aload_n rfl rfl ?_
                          refine q_iload rfl rfl ?_
                          refine q_iconstv (v := (5 : Int32)) rfl (by decide +kernel) ?_
                          refine q_iaddv (v := (5 : Int32)) rfl (by decide +kernel) ?_
                          refine q_script rfl (by decide) rfl ?_
                          refine q_aload_n rfl rfl ?_
                          refine q_iload rfl rfl ?_
                          refine q_bipushv (v := (6 : Int32)) rfl (by decide +kernel) ?_
                          refine q_iaddv (v := (6 : Int32)) rfl (by decide +kernel) ?_
                          refine q_script rfl (by decide) rfl ?_
                          refine q_aload_n rfl rfl ?_
                          refine q_iload rfl rfl ?_
                          refine q_bipushv (v := (7 : Int32)) rfl (by decide +kernel) ?_
                          refine q_iaddv (v := (7 : Int32)) rfl (by decide +kernel) ?_
                          refine q_script rfl (by decide) rfl ?_
                          refine q_call rfl rfl rfl rfl ?_
                          refine q_aload_n rfl rfl ?_
                          refine q_iconstv (v := (0 : Int32)) rfl (by decide +kernel) ?_
                          refine q_putv (w9 := (w1.set 0 (.inr (7, [.ref 1, .ref 3, .ref 7, .ref 9, .ref 10, .ref 11, .ref 12, .ref 13, .ref 25, .ref 37, .ref 39, .int 0, .int 0, .int 1])))) rfl rfl rfl (by decide) rfl (by decide) rfl ?_
                          refine q_aload_n rfl rfl ?_
                          refine q_iload_n rfl rfl ?_
                          refine q_iconstv (v := (0 : Int32)) rfl (by decide +kernel) ?_
                          refine q_sipushv (v := (9999 : Int32)) rfl (by decide +kernel) ?_
                          refine q_call rfl rfl rfl rfl ?_
                          refine q_iload_n rfl rfl ?_
                          refine q_iload_n rfl rfl ?_
                          refine q_ic_lt_f (t := 14) rfl (by decide) (i_nlt (a := (x1).toInt) (b := (0 : Int)) rfl (by decide +kernel) (by omega)) ?_
                          refine q_iload_n rfl rfl ?_
                          refine q_iload_n rfl rfl ?_
                          refine q_ic_gt_f (t := 14) rfl (by decide) (i_nlt_r (a := (x1).toInt) (b := (9999 : Int)) rfl (by decide +kernel) (by omega)) ?_
                          refine q_iconstv (v := (1 : Int32)) rfl (by decide +kernel) ?_
                          refine q_goto (t := 15) rfl (by decide) ?_
                          refine q_zret rfl rfl (by decide) ?_
                          refine bk_inl ?_
                          refine q_if_eq_f (t := 89) rfl (by decide) (i_ne (a := (1 : Int)) (b := (0 : Int)) (by decide +kernel) (by decide +kernel) (by omega)) ?_
                          refine q_iload_n rfl rfl ?_
                          refine q_iconstv (v := (0 : Int32)) rfl (by decide +kernel) ?_
                          refine q_sipushv (v := (9999 : Int32)) rfl (by decide +kernel) ?_
                          refine q_call rfl rfl rfl rfl ?_
                          refine q_iload_n rfl rfl ?_
                          refine q_iload_n rfl rfl ?_
                          refine q_ic_lt_f (t := 14) rfl (by decide) (i_nlt (a := (x2).toInt) (b := (0 : Int)) rfl (by decide +kernel) (by omega)) ?_
                          refine q_iload_n rfl rfl ?_
                          refine q_iload_n rfl rfl ?_
                          refine q_ic_gt_f (t := 14) rfl (by decide) (i_nlt_r (a := (x2).toInt) (b := (9999 : Int)) rfl (by decide +kernel) (by omega)) ?_
                          refine q_iconstv (v := (1 : Int32)) rfl (by decide +kernel) ?_
                          refine q_goto (t := 15) rfl (by decide) ?_
                          refine q_zret rfl rfl (by decide) ?_
                          refine bk_inl ?_
                          refine q_if_eq_f (t := 89) rfl (by decide) (i_ne (a := (1 : Int)) (b := (0 : Int)) (by decide +kernel) (by decide +kernel) (by omega)) ?_
                          refine q_iload_n rfl rfl ?_
                          refine q_iconstv (v := (0 : Int32)) rfl (by decide +kernel) ?_
                          refine q_sipushv (v := (9999 : Int32)) rfl (by decide +kernel) ?_
                          refine q_call rfl rfl rfl rfl ?_
                          refine q_iload_n rfl rfl ?_
                          refine q_iload_n rfl rfl ?_
                          refine q_ic_lt_f (t := 14) rfl (by decide) (i_nlt (a := (x3).toInt) (b := (0 : Int)) rfl (by decide +kernel) (by omega)) ?_
                          refine q_iload_n rfl rfl ?_
                          refine q_iload_n rfl rfl ?_
                          refine q_ic_gt_f (t := 14) rfl (by decide) (i_nlt_r (a := (x3).toInt) (b := (9999 : Int)) rfl (by decide +kernel) (by omega)) ?_
                          refine q_iconstv (v := (1 : Int32)) rfl (by decide +kernel) ?_
                          refine q_goto (t := 15) rfl (by decide) ?_
                          refine q_zret rfl rfl (by decide) ?_
                          refine bk_inl ?_
                          refine q_if_eq_f (t := 89) rfl (by decide) (i_ne (a := (1 : Int)) (b := (0 : Int)) (by decide +kernel) (by decide +kernel) (by omega)) ?_
                          refine q_iload rfl rfl ?_
                          refine q_iconstv (v := (0 : Int32)) rfl (by decide +kernel) ?_
                          refine q_sipushv (v := (9999 : Int32)) rfl (by decide +kernel) ?_
                          refine q_call rfl rfl rfl rfl ?_
                          refine q_iload_n rfl rfl ?_
                          refine q_iload_n rfl rfl ?_
                          refine q_ic_lt_f (t := 14) rfl (by decide) (i_nlt (a := (x4).toInt) (b := (0 : Int)) rfl (by decide +kernel) (by omega)) ?_
                          refine q_iload_n rfl rfl ?_
                          refine q_iload_n rfl rfl ?_
                          refine q_ic_gt_f (t := 14) rfl (by decide) (i_nlt_r (a := (x4).toInt) (b := (9999 : Int)) rfl (by decide +kernel) (by omega)) ?_
                          refine q_iconstv (v := (1 : Int32)) rfl (by decide +kernel) ?_
                          refine q_goto (t := 15) rfl (by decide) ?_
                          refine q_zret rfl rfl (by decide) ?_
                          refine bk_inl ?_
                          refine q_if_eq_f (t := 89) rfl (by decide) (i_ne (a := (1 : Int)) (b := (0 : Int)) (by decide +kernel) (by decide +kernel) (by omega)) ?_
                          refine q_iload rfl rfl ?_
                          refine q_iconstv (v := (0 : Int32)) rfl (by decide +kernel) ?_
                          refine q_sipushv (v := (400 : Int32)) rfl (by decide +kernel) ?_
                          refine q_call rfl rfl rfl rfl ?_
                          refine q_iload_n rfl rfl ?_
                          refine q_iload_n rfl rfl ?_
                          refine q_ic_lt_f (t := 14) rfl (by decide) (i_nlt (a := (x5).toInt) (b := (0 : Int)) rfl (by decide +kernel) (by omega)) ?_
                          refine q_iload_n rfl rfl ?_
                          refine q_iload_n rfl rfl ?_
                          refine q_ic_gt_f (t := 14) rfl (by decide) (i_nlt_r (a := (x5).toInt) (b := (400 : Int)) rfl (by decide +kernel) (by omega)) ?_
                          refine q_iconstv (v := (1 : Int32)) rfl (by decide +kernel) ?_
                          refine q_goto (t := 15) rfl (by decide) ?_
                          refine q_zret rfl rfl (by decide) ?_
                          refine bk_inl ?_
                          refine q_if_eq_f (t := 89) rfl (by decide) (i_ne (a := (1 : Int)) (b := (0 : Int)) (by decide +kernel) (by decide +kernel) (by omega)) ?_
                          refine q_iload rfl rfl ?_
                          refine q_iconstv (v := (0 : Int32)) rfl (by decide +kernel) ?_
                          refine q_sipushv (v := (400 : Int32)) rfl (by decide +kernel) ?_
                          refine q_call rfl rfl rfl rfl ?_
                          refine q_iload_n rfl rfl ?_
                          refine q_iload_n rfl rfl ?_
                          refine q_ic_lt_f (t := 14) rfl (by decide) (i_nlt (a := (x6).toInt) (b := (0 : Int)) rfl (by decide +kernel) (by omega)) ?_
                          refine q_iload_n rfl rfl ?_
                          refine q_iload_n rfl rfl ?_
                          refine q_ic_gt_t (t := 14) rfl (by decide) (i_lt_r (a := (x6).toInt) (b := (400 : Int)) rfl (by decide +kernel) (by omega)) ?_
                          refine q_iconstv (v := (0 : Int32)) rfl (by decide +kernel) ?_
                          refine q_zret rfl rfl (by decide) ?_
                          refine bk_inl ?_
                          refine q_if_eq_t (t := 89) rfl (by decide) (i_eq (a := (0 : Int)) (b := (0 : Int)) (by decide +kernel) (by decide +kernel) (by omega)) ?_
                          refine q_iconstv (v := (0 : Int32)) rfl (by decide +kernel) ?_
                          refine q_iconstv (v := (1 : Int32)) rfl (by decide +kernel) ?_
                          refine q_iconstv (v := (1 : Int32)) rfl (by decide +kernel) ?_
                          refine q_call rfl rfl rfl rfl ?_
                          refine q_iload_n rfl rfl ?_
                          refine q_if_ne_f (t := 26) rfl (by decide) (i_nne (a := (0 : Int)) (b := (0 : Int)) (by decide +kernel) (by decide +kernel) (by omega)) ?_
                          refine q_aload_n rfl rfl ?_
                          refine q_get rfl rfl rfl rfl ?_
                          refine q_if_ne_f (t := 26) rfl (by decide) (i_nne (a := (0 : Int)) (b := (0 : Int)) (by decide +kernel) (by decide +kernel) (by omega)) ?_
                          refine q_aload_n rfl rfl ?_
                          refine q_iload_n rfl rfl ?_
                          refine q_putv (w9 := ((w1.set 0 (.inr (7, [.ref 1, .ref 3, .ref 7, .ref 9, .ref 10, .ref 11, .ref 12, .ref 13, .ref 25, .ref 37, .ref 39, .int 0, .int 0, .int 1]))).set 41 (.inr (8, [.int 1, .ref 42, .int 0, .int 0, .int 0, .int 0, .int 0, .int 0, .int (-1), .ref 43, .ref 44, .ref 45, .ref 46, .ref 47, .ref 48, .ref 49, .int 0, .int 0, .int 0, .int 5, .int 0, .int 0, .int 0, .int 5, .ref 50, .ref 51, .ref 52, .ref 53, .ref 54, .int 0, .int 0, .ref 55, .ref 56, .ref 57, .int 0, .int 0, .int 0, .int 0, .int 0, .int 0, .ref 58, .ref 59, .ref 60, .ref 61, .ref 62, .ref 63, .ref 64, .int 0, .int 0, .ref 65, .int 0, .ref 66, .int 0])))) rfl rfl rfl (by decide) rfl (by decide) rfl ?_
                          refine q_aload_n rfl rfl ?_
                          refine q_get rfl rfl rfl rfl ?_
                          refine q_iload_n rfl rfl ?_
                          refine q_dup2 rfl ⟨rfl, rfl⟩ ?_
                          refine q_ialoadv (m := 1) rfl (by decide) (by decide) rfl (by decide +kernel) rfl ?_
                          refine q_iconstv (v := (1 : Int32)) rfl (by decide +kernel) ?_
                          refine q_iaddv (v := (1 : Int32)) rfl (by decide +kernel) ?_
                          refine q_iastorev (m := 1) (w9 := (((w1.set 0 (.inr (7, [.ref 1, .ref 3, .ref 7, .ref 9, .ref 10, .ref 11, .ref 12, .ref 13, .ref 25, .ref 37, .ref 39, .int 0, .int 0, .int 1]))).set 41 (.inr (8, [.int 1, .ref 42, .int 0, .int 0, .int 0, .int 0, .int 0, .int 0, .int (-1), .ref 43, .ref 44, .ref 45, .ref 46, .ref 47, .ref 48, .ref 49, .int 0, .int 0, .int 0, .int 5, .int 0, .int 0, .int 0, .int 5, .ref 50, .ref 51, .ref 52, .ref 53, .ref 54, .int 0, .int 0, .ref 55, .ref 56, .ref 57, .int 0, .int 0, .int 0, .int 0, .int 0, .int 0, .ref 58, .ref 59, .ref 60, .ref 61, .ref 62, .ref 63, .ref 64, .int 0, .int 0, .ref 65, .int 0, .ref 66, .int 0]))).set 42 (.inl (0, .inl ([0, 1]))))) rfl (by decide) rfl (by decide +kernel) (Nat.le_of_ble_eq_true rfl) rfl ?_
                          refine q_aload_n rfl rfl ?_
                          refine q_get rfl rfl rfl rfl ?_
                          refine q_if_ne_t (t := 37) rfl (by decide) (i_ne (a := (1 : Int)) (b := (0 : Int)) (by decide +kernel) (by decide +kernel) (by omega)) ?_
                          refine q_iconstv (v := (0 : Int32)) rfl (by decide +kernel) ?_
                          refine q_zret rfl rfl (by decide) ?_
                          refine bk_inl ?_
                          refine q_if_ne_f (t := 100) rfl (by decide) (i_nne (a := (0 : Int)) (b := (0 : Int)) (by decide +kernel) (by decide +kernel) (by omega)) ?_
                          refine q_iconstv (v := (0 : Int32)) rfl (by decide +kernel) ?_
                          refine q_iret rfl rfl ?_
                          refine bk_inl ?_
                          refine q_istore rfl (by decide) ?_
                          refine q_aload_n rfl rfl ?_
                          refine q_call rfl rfl rfl rfl ?_
                          refine q_aload_n rfl rfl ?_
                          refine q_get rfl rfl rfl rfl ?_
                          refine q_iret rfl rfl ?_
                          refine bk_inl ?_
                          refine q_iload rfl rfl ?_
                          refine q_ic_eq_t (t := 1035) rfl (by decide) (i_eq (a := (1 : Int)) (b := (1 : Int)) (by decide +kernel) (by decide +kernel) (by omega)) ?_
                          refine q_iload rfl rfl ?_
                          refine q_if_ne_t (t := 1052) rfl (by decide) (i_ne (a := (1 : Int)) (b := (0 : Int)) (by decide +kernel) (by decide +kernel) (by omega)) ?_
                          refine q_goto (t := 2739) rfl (by decide) ?_
                          refine q_iincv (v := (8 : Int32)) rfl rfl (by decide) (by decide +kernel) ?_
                          refine q_goto (t := 23) rfl (by decide) ?_
                          exact q_end rfl rfl (by decide) (by decide)
                        · refine q_ic_gt_f (t := 14) rfl (by decide) (i_nlt_r (a := (x6).toInt) (b := (400 : Int)) rfl (by decide +kernel) (by omega)) ?_
                          refine q_iconstv (v := (1 : Int32)) rfl (by decide +kernel) ?_
                          refine q_goto (t := 15) rfl (by decide) ?_
                          refine q_zret rfl rfl (by decide) ?_
                          refine bk_inl ?_
                          refine q_if_eq_f (t := 84) rfl (by decide) (i_ne (a := (1 : Int)) (b := (0 : Int)) (by decide +kernel) (by decide +kernel) (by omega)) ?_
                          refine q_iload rfl rfl ?_
                          refine q_iconstv (v := (0 : Int32)) rfl (by decide +kernel) ?_
                          refine q_iconstv (v := (5 : Int32)) rfl (by decide +kernel) ?_
                          refine q_call rfl rfl rfl rfl ?_
                          refine q_iload_n rfl rfl ?_
                          refine q_iload_n rfl rfl ?_
                          by_cases h13 : (x7).toInt < 0
                          · refine q_ic_lt_t (t := 14) rfl (by decide) (i_lt (a := (x7).toInt) (b := (0 : Int)) rfl (by decide +kernel) (by omega)) ?_
                            refine q_iconstv (v := (0 : Int32)) rfl (by decide +kernel) ?_
                            refine q_zret rfl rfl (by decide) ?_
                            refine bk_inl ?_
                            refine q_if_eq_t (t := 84) rfl (by decide) (i_eq (a := (0 : Int)) (b := (0 : Int)) (by decide +kernel) (by decide +kernel) (by omega)) ?_
                            refine q_iconstv (v := (0 : Int32)) rfl (by decide +kernel) ?_
                            refine q_call rfl rfl rfl rfl ?_
                            refine q_iload_n rfl rfl ?_
                            refine q_if_ne_f (t := 25) rfl (by decide) (i_nne (a := (0 : Int)) (b := (0 : Int)) (by decide +kernel) (by decide +kernel) (by omega)) ?_
                            refine q_aload_n rfl rfl ?_
                            refine q_dup rfl rfl ?_
                            refine q_get rfl rfl rfl rfl ?_
                            refine q_iconstv (v := (1 : Int32)) rfl (by decide +kernel) ?_
                            refine q_iaddv (v := (1 : Int32)) rfl (by decide +kernel) ?_
                            refine q_putv (w9 := (w1.set 0 (.inr (7, [.ref 1, .ref 3, .ref 7, .ref 9, .ref 10, .ref 11, .ref 12, .ref 13, .ref 25, .ref 37, .ref 39, .int 0, .int 0, .int 1])))) rfl rfl rfl (by decide) rfl (by decide) rfl ?_
                            refine q_fin rfl rfl rfl ?_
                            refine bk_out rfl rfl ?_
                            refine bk_thr (z := (1 : Int32)) rfl ⟨_, _, rfl⟩ rfl ?_
                            refine bk_inl ?_
                            refine q_istore rfl (by decide) ?_
                            refine q_aload_n rfl rfl ?_
                            refine q_aload_n rfl rfl ?_
                            refine q_iload rfl rfl ?_
                            refine q_iconstv (v := (1 : Int32)) rfl (by decide +kernel) ?_
                            refine q_iaddv (v := (1 : Int32)) rfl (by decide +kernel) ?_
                            refine q_script rfl (by decide) rfl ?_
                            refine q_aload_n rfl rfl ?_
                            refine q_iload rfl rfl ?_
                            refine q_iconstv (v := (2 : Int32)) rfl (by decide +kernel) ?_
                            refine q_iaddv (v := (2 : Int32)) rfl (by decide +kernel) ?_
                            refine q_script rfl (by decide) rfl ?_
                            refine q_aload_n rfl rfl ?_
                            refine q_iload rfl rfl ?_
                            refine q_iconstv (v := (3 : Int32)) rfl (by decide +kernel) ?_
                            refine q_iaddv (v := (3 : Int32)) rfl (by decide +kernel) ?_
                            refine q_script rfl (by decide) rfl ?_
                            refine q_aload_n rfl rfl ?_
                            refine q_iload rfl rfl ?_
                            refine q_iconstv (v := (4 : Int32)) rfl (by decide +kernel) ?_
                            refine q_iaddv (v := (4 : Int32)) rfl (by decide +kernel) ?_
                            refine q_script rfl (by decide) rfl ?_
                            refine q_aload_n rfl rfl ?_
                            refine q_iload rfl rfl ?_
                            refine q_iconstv (v := (5 : Int32)) rfl (by decide +kernel) ?_
                            refine q_iaddv (v := (5 : Int32)) rfl (by decide +kernel) ?_
                            refine q_script rfl (by decide) rfl ?_
                            refine q_aload_n rfl rfl ?_
                            refine q_iload rfl rfl ?_
                            refine q_bipushv (v := (6 : Int32)) rfl (by decide +kernel) ?_
                            refine q_iaddv (v := (6 : Int32)) rfl (by decide +kernel) ?_
                            refine q_script rfl (by decide) rfl ?_
                            refine q_aload_n rfl rfl ?_
                            refine q_iload rfl rfl ?_
                            refine q_bipushv (v := (7 : Int32)) rfl (by decide +kernel) ?_
                            refine q_iaddv (v := (7 : Int32)) rfl (by decide +kernel) ?_
                            refine q_script rfl (by decide) rfl ?_
                            refine q_call rfl rfl rfl rfl ?_
                            refine q_aload_n rfl rfl ?_
                            refine q_iconstv (v := (0 : Int32)) rfl (by decide +kernel) ?_
                            refine q_putv (w9 := (w1.set 0 (.inr (7, [.ref 1, .ref 3, .ref 7, .ref 9, .ref 10, .ref 11, .ref 12, .ref 13, .ref 25, .ref 37, .ref 39, .int 0, .int 0, .int 1])))) rfl rfl rfl (by decide) rfl (by decide) rfl ?_
                            refine q_aload_n rfl rfl ?_
                            refine q_iload_n rfl rfl ?_
                            refine q_iconstv (v := (0 : Int32)) rfl (by decide +kernel) ?_
                            refine q_sipushv (v := (9999 : Int32)) rfl (by decide +kernel) ?_
                            refine q_call rfl rfl rfl rfl ?_
                            refine q_iload_n rfl rfl ?_
                            refine q_iload_n rfl rfl ?_
                            refine q_ic_lt_f (t := 14) rfl (by decide) (i_nlt (a := (x1).toInt) (b := (0 : Int)) rfl (by decide +kernel) (by omega)) ?_
                            refine q_iload_n rfl rfl ?_
                            refine q_iload_n rfl rfl ?_
                            refine q_ic_gt_f (t := 14) rfl (by decide) (i_nlt_r (a := (x1).toInt) (b := (9999 : Int)) rfl (by decide +kernel) (by omega)) ?_
                            refine q_iconstv (v := (1 : Int32)) rfl (by decide +kernel) ?_
                            refine q_goto (t := 15) rfl (by decide) ?_
                            refine q_zret rfl rfl (by decide) ?_
                            refine bk_inl ?_
                            refine q_if_eq_f (t := 89) rfl (by decide) (i_ne (a := (1 : Int)) (b := (0 : Int)) (by decide +kernel) (by decide +kernel) (by omega)) ?_
                            refine q_iload_n rfl rfl ?_
                            refine q_iconstv (v := (0 : Int32)) rfl (by decide +kernel) ?_
                            refine q_sipushv (v := (9999 : Int32)) rfl (by decide +kernel) ?_
                            refine q_call rfl rfl rfl rfl ?_
                            refine q_iload_n rfl rfl ?_
                            refine q_iload_n rfl rfl ?_
                            refine q_ic_lt_f (t := 14) rfl (by decide) (i_nlt (a := (x2).toInt) (b := (0 : Int)) rfl (by decide +kernel) (by omega)) ?_
                            refine q_iload_n rfl rfl ?_
                            refine q_iload_n rfl rfl ?_
                            refine q_ic_gt_f (t := 14) rfl (by decide) (i_nlt_r (a := (x2).toInt) (b := (9999 : Int)) rfl (by decide +kernel) (by omega)) ?_
                            refine q_iconstv (v := (1 : Int32)) rfl (by decide +kernel) ?_
                            refine q_goto (t := 15) rfl (by decide) ?_
                            refine q_zret rfl rfl (by decide) ?_
                            refine bk_inl ?_
                            refine q_if_eq_f (t := 89) rfl (by decide) (i_ne (a := (1 : Int)) (b := (0 : Int)) (by decide +kernel) (by decide +kernel) (by omega)) ?_
                            refine q_iload_n rfl rfl ?_
                            refine q_iconstv (v := (0 : Int32)) rfl (by decide +kernel) ?_
                            refine q_sipushv (v := (9999 : Int32)) rfl (by decide +kernel) ?_
                            refine q_call rfl rfl rfl rfl ?_
                            refine q_iload_n rfl rfl ?_
                            refine q_iload_n rfl rfl ?_
                            refine q_ic_lt_f (t := 14) rfl (by decide) (i_nlt (a := (x3).toInt) (b := (0 : Int)) rfl (by decide +kernel) (by omega)) ?_
                            refine q_iload_n rfl rfl ?_
                            refine q_iload_n rfl rfl ?_
                            refine q_ic_gt_f (t := 14) rfl (by decide) (i_nlt_r (a := (x3).toInt) (b := (9999 : Int)) rfl (by decide +kernel) (by omega)) ?_
                            refine q_iconstv (v := (1 : Int32)) rfl (by decide +kernel) ?_
                            refine q_goto (t := 15) rfl (by decide) ?_
                            refine q_zret rfl rfl (by decide) ?_
                            refine bk_inl ?_
                            refine q_if_eq_f (t := 89) rfl (by decide) (i_ne (a := (1 : Int)) (b := (0 : Int)) (by decide +kernel) (by decide +kernel) (by omega)) ?_
                            refine q_iload rfl rfl ?_
                            refine q_iconstv (v := (0 : Int32)) rfl (by decide +kernel) ?_
                            refine q_sipushv (v := (9999 : Int32)) rfl (by decide +kernel) ?_
                            refine q_call rfl rfl rfl rfl ?_
                            refine q_iload_n rfl rfl ?_
                            refine q_iload_n rfl rfl ?_
                            refine q_ic_lt_f (t := 14) rfl (by decide) (i_nlt (a := (x4).toInt) (b := (0 : Int)) rfl (by decide +kernel) (by omega)) ?_
                            refine q_iload_n rfl rfl ?_
                            refine q_iload_n rfl rfl ?_
                            refine q_ic_gt_f (t := 14) rfl (by decide) (i_nlt_r (a := (x4).toInt) (b := (9999 : Int)) rfl (by decide +kernel) (by omega)) ?_
                            refine q_iconstv (v := (1 : Int32)) rfl (by decide +kernel) ?_
                            refine q_goto (t := 15) rfl (by decide) ?_
                            refine q_zret rfl rfl (by decide) ?_
                            refine bk_inl ?_
                            refine q_if_eq_f (t := 89) rfl (by decide) (i_ne (a := (1 : Int)) (b := (0 : Int)) (by decide +kernel) (by decide +kernel) (by omega)) ?_
                            refine q_iload rfl rfl ?_
                            refine q_iconstv (v := (0 : Int32)) rfl (by decide +kernel) ?_
                            refine q_sipushv (v := (400 : Int32)) rfl (by decide +kernel) ?_
                            refine q_call rfl rfl rfl rfl ?_
                            refine q_iload_n rfl rfl ?_
                            refine q_iload_n rfl rfl ?_
                            refine q_ic_lt_f (t := 14) rfl (by decide) (i_nlt (a := (x5).toInt) (b := (0 : Int)) rfl (by decide +kernel) (by omega)) ?_
                            refine q_iload_n rfl rfl ?_
                            refine q_iload_n rfl rfl ?_
                            refine q_ic_gt_f (t := 14) rfl (by decide) (i_nlt_r (a := (x5).toInt) (b := (400 : Int)) rfl (by decide +kernel) (by omega)) ?_
                            refine q_iconstv (v := (1 : Int32)) rfl (by decide +kernel) ?_
                            refine q_goto (t := 15) rfl (by decide) ?_
                            refine q_zret rfl rfl (by decide) ?_
                            refine bk_inl ?_
                            refine q_if_eq_f (t := 89) rfl (by decide) (i_ne (a := (1 : Int)) (b := (0 : Int)) (by decide +kernel) (by decide +kernel) (by omega)) ?_
                            refine q_iload rfl rfl ?_
                            refine q_iconstv (v := (0 : Int32)) rfl (by decide +kernel) ?_
                            refine q_sipushv (v := (400 : Int32)) rfl (by decide +kernel) ?_
                            refine q_call rfl rfl rfl rfl ?_
                            refine q_iload_n rfl rfl ?_
                            refine q_iload_n rfl rfl ?_
                            refine q_ic_lt_f (t := 14) rfl (by decide) (i_nlt (a := (x6).toInt) (b := (0 : Int)) rfl (by decide +kernel) (by omega)) ?_
                            refine q_iload_n rfl rfl ?_
                            refine q_iload_n rfl rfl ?_
                            refine q_ic_gt_f (t := 14) rfl (by decide) (i_nlt_r (a := (x6).toInt) (b := (400 : Int)) rfl (by decide +kernel) (by omega)) ?_
                            refine q_iconstv (v := (1 : Int32)) rfl (by decide +kernel) ?_
                            refine q_goto (t := 15) rfl (by decide) ?_
                            refine q_zret rfl rfl (by decide) ?_
                            refine bk_inl ?_
                            refine q_if_eq_f (t := 89) rfl (by decide) (i_ne (a := (1 : Int)) (b := (0 : Int)) (by decide +kernel) (by decide +kernel) (by omega)) ?_
                            refine q_iload rfl rfl ?_
                            refine q_iconstv (v := (0 : Int32)) rfl (by decide +kernel) ?_
                            refine q_iconstv (v := (5 : Int32)) rfl (by decide +kernel) ?_
                            refine q_call rfl rfl rfl rfl ?_
                            refine q_iload_n rfl rfl ?_
                            refine q_iload_n rfl rfl ?_
                            refine q_ic_lt_t (t := 14) rfl (by decide) (i_lt (a := (x7).toInt) (b := (0 : Int)) rfl (by decide +kernel) (by omega)) ?_
                            refine q_iconstv (v := (0 : Int32)) rfl (by decide +kernel) ?_
                            refine q_zret rfl rfl (by decide) ?_
                            refine bk_inl ?_
                            refine q_if_eq_t (t := 89) rfl (by decide) (i_eq (a := (0 : Int)) (b := (0 : Int)) (by decide +kernel) (by decide +kernel) (by omega)) ?_
                            refine q_iconstv (v := (0 : Int32)) rfl (by decide +kernel) ?_
                            refine q_iconstv (v := (1 : Int32)) rfl (by decide +kernel) ?_
                            refine q_iconstv (v := (1 : Int32)) rfl (by decide +kernel) ?_
                            refine q_call rfl rfl rfl rfl ?_
                            refine q_iload_n rfl rfl ?_
                            refine q_if_ne_f (t := 26) rfl (by decide) (i_nne (a := (0 : Int)) (b := (0 : Int)) (by decide +kernel) (by decide +kernel) (by omega)) ?_
                            refine q_aload_n rfl rfl ?_
                            refine q_get rfl rfl rfl rfl ?_
                            refine q_if_ne_f (t := 26) rfl (by decide) (i_nne (a := (0 : Int)) (b := (0 : Int)) (by decide +kernel) (by decide +kernel) (by omega)) ?_
                            refine q_aload_n rfl rfl ?_
                            refine q_iload_n rfl rfl ?_
                            refine q_putv (w9 := ((w1.set 0 (.inr (7, [.ref 1, .ref 3, .ref 7, .ref 9, .ref 10, .ref 11, .ref 12, .ref 13, .ref 25, .ref 37, .ref 39, .int 0, .int 0, .int 1]))).set 41 (.inr (8, [.int 1, .ref 42, .int 0, .int 0, .int 0, .int 0, .int 0, .int 0, .int (-1), .ref 43, .ref 44, .ref 45, .ref 46, .ref 47, .ref 48, .ref 49, .int 0, .int 0, .int 0, .int 5, .int 0, .int 0, .int 0, .int 5, .ref 50, .ref 51, .ref 52, .ref 53, .ref 54, .int 0, .int 0, .ref 55, .ref 56, .ref 57, .int 0, .int 0, .int 0, .int 0, .int 0, .int 0, .ref 58, .ref 59, .ref 60, .ref 61, .ref 62, .ref 63, .ref 64, .int 0, .int 0, .ref 65, .int 0, .ref 66, .int 0])))) rfl rfl rfl (by decide) rfl (by decide) rfl ?_
                            refine q_aload_n rfl rfl ?_
                            refine q_get rfl rfl rfl rfl ?_
                            refine q_iload_n rfl rfl ?_
                            refine q_dup2 rfl ⟨rfl, rfl⟩ ?_
                            refine q_ialoadv (m := 1) rfl (by decide) (by decide) rfl (by decide +kernel) rfl ?_
                            refine q_iconstv (v := (1 : Int32)) rfl (by decide +kernel) ?_
                            refine q_iaddv (v := (1 : Int32)) rfl (by decide +kernel) ?_
                            refine q_iastorev (m := 1) (w9 := (((w1.set 0 (.inr (7, [.ref 1, .ref 3, .ref 7, .ref 9, .ref 10, .ref 11, .ref 12, .ref 13, .ref 25, .ref 37, .ref 39, .int 0, .int 0, .int 1]))).set 41 (.inr (8, [.int 1, .ref 42, .int 0, .int 0, .int 0, .int 0, .int 0, .int 0, .int (-1), .ref 43, .ref 44, .ref 45, .ref 46, .ref 47, .ref 48, .ref 49, .int 0, .int 0, .int 0, .int 5, .int 0, .int 0, .int 0, .int 5, .ref 50, .ref 51, .ref 52, .ref 53, .ref 54, .int 0, .int 0, .ref 55, .ref 56, .ref 57, .int 0, .int 0, .int 0, .int 0, .int 0, .int 0, .ref 58, .ref 59, .ref 60, .ref 61, .ref 62, .ref 63, .ref 64, .int 0, .int 0, .ref 65, .int 0, .ref 66, .int 0]))).set 42 (.inl (0, .inl ([0, 1]))))) rfl (by decide) rfl (by decide +kernel) (Nat.le_of_ble_eq_true rfl) rfl ?_
                            refine q_aload_n rfl rfl ?_
                            refine q_get rfl rfl rfl rfl ?_
                            refine q_if_ne_t (t := 37) rfl (by decide) (i_ne (a := (1 : Int)) (b := (0 : Int)) (by decide +kernel) (by decide +kernel) (by omega)) ?_
                            refine q_iconstv (v := (0 : Int32)) rfl (by decide +kernel) ?_
                            refine q_zret rfl rfl (by decide) ?_
                            refine bk_inl ?_
                            refine q_if_ne_f (t := 100) rfl (by decide) (i_nne (a := (0 : Int)) (b := (0 : Int)) (by decide +kernel) (by decide +kernel) (by omega)) ?_
                            refine q_iconstv (v := (0 : Int32)) rfl (by decide +kernel) ?_
                            refine q_iret rfl rfl ?_
                            refine bk_inl ?_
                            refine q_istore rfl (by decide) ?_
                            refine q_aload_n rfl rfl ?_
                            refine q_call rfl rfl rfl rfl ?_
                            refine q_aload_n rfl rfl ?_
                            refine q_get rfl rfl rfl rfl ?_
                            refine q_iret rfl rfl ?_
                            refine bk_inl ?_
                            refine q_iload rfl rfl ?_
                            refine q_ic_eq_t (t := 1035) rfl (by decide) (i_eq (a := (1 : Int)) (b := (1 : Int)) (by decide +kernel) (by decide +kernel) (by omega)) ?_
                            refine q_iload rfl rfl ?_
                            refine q_if_ne_t (t := 1052) rfl (by decide) (i_ne (a := (1 : Int)) (b := (0 : Int)) (by decide +kernel) (by decide +kernel) (by omega)) ?_
                            refine q_goto (t := 2739) rfl (by decide) ?_
                            refine q_iincv (v := (8 : Int32)) rfl rfl (by decide) (by decide +kernel) ?_
                            refine q_goto (t := 23) rfl (by decide) ?_
                            exact q_end rfl rfl (by decide) (by decide)
                          · refine q_ic_lt_f (t := 14) rfl (by decide) (i_nlt (a := (x7).toInt) (b := (0 : Int)) rfl (by decide +kernel) (by omega)) ?_
                            refine q_iload_n rfl rfl ?_
                            refine q_iload_n rfl rfl ?_
                            by_cases h14 : (x7).toInt > 5
                            · refine q_ic_gt_t (t := 14) rfl (by decide) (i_lt_r (a := (x7).toInt) (b := (5 : Int)) rfl (by decide +kernel) (by omega)) ?_
                              refine q_iconstv (v := (0 : Int32)) rfl (by decide +kernel) ?_
                              refine q_zret rfl rfl (by decide) ?_
                              refine bk_inl ?_
                              refine q_if_eq_t (t := 84) rfl (by decide) (i_eq (a := (0 : Int)) (b := (0 : Int)) (by decide +kernel) (by decide +kernel) (by omega)) ?_
                              refine q_iconstv (v := (0 : Int32)) rfl (by decide +kernel) ?_
                              refine q_call rfl rfl rfl rfl ?_
                              refine q_iload_n rfl rfl ?_
                              refine q_if_ne_f (t := 25) rfl (by decide) (i_nne (a := (0 : Int)) (b := (0 : Int)) (by decide +kernel) (by decide +kernel) (by omega)) ?_
                              refine q_aload_n rfl rfl ?_
                              refine q_dup rfl rfl ?_
                              refine q_get rfl rfl rfl rfl ?_
                              refine q_iconstv (v := (1 : Int32)) rfl (by decide +kernel) ?_
                              refine q_iaddv (v := (1 : Int32)) rfl (by decide +kernel) ?_
                              refine q_putv (w9 := (w1.set 0 (.inr (7, [.ref 1, .ref 3, .ref 7, .ref 9, .ref 10, .ref 11, .ref 12, .ref 13, .ref 25, .ref 37, .ref 39, .int 0, .int 0, .int 1])))) rfl rfl rfl (by decide) rfl (by decide) rfl ?_
                              refine q_fin rfl rfl rfl ?_
                              refine bk_out rfl rfl ?_
                              refine bk_thr (z := (1 : Int32)) rfl ⟨_, _, rfl⟩ rfl ?_
                              refine bk_inl ?_
                              refine q_istore rfl (by decide) ?_
                              refine q_aload_n rfl rfl ?_
                              refine q_aload_n rfl rfl ?_
                              refine q_iload rfl rfl ?_
                              refine q_iconstv (v := (1 : Int32)) rfl (by decide +kernel) ?_
                              refine q_iaddv (v := (1 : Int32)) rfl (by decide +kernel) ?_
                              refine q_script rfl (by decide) rfl ?_
                              refine q_aload_n rfl rfl ?_
                              refine q_iload rfl rfl ?_
                              refine q_iconstv (v := (2 : Int32)) rfl (by decide +kernel) ?_
                              refine q_iaddv (v := (2 : Int32)) rfl (by decide +kernel) ?_
                              refine q_script rfl (by decide) rfl ?_
                              refine q_aload_n rfl rfl ?_
                              refine q_iload rfl rfl ?_
                              refine q_iconstv (v := (3 : Int32)) rfl (by decide +kernel) ?_
                              refine q_iaddv (v := (3 : Int32)) rfl (by decide +kernel) ?_
                              refine q_script rfl (by decide) rfl ?_
                              refine q_aload_n rfl rfl ?_
                              refine q_iload rfl rfl ?_
                              refine q_iconstv (v := (4 : Int32)) rfl (by decide +kernel) ?_
                              refine q_iaddv (v := (4 : Int32)) rfl (by decide +kernel) ?_
                              refine q_script rfl (by decide) rfl ?_
                              refine q_aload_n rfl rfl ?_
                              refine q_iload rfl rfl ?_
                              refine q_iconstv (v := (5 : Int32)) rfl (by decide +kernel) ?_
                              refine q_iaddv (v := (5 : Int32)) rfl (by decide +kernel) ?_
                              refine q_script rfl (by decide) rfl ?_
                              refine q_aload_n rfl rfl ?_
                              refine q_iload rfl rfl ?_
                              refine q_bipushv (v := (6 : Int32)) rfl (by decide +kernel) ?_
                              refine q_iaddv (v := (6 : Int32)) rfl (by decide +kernel) ?_
                              refine q_script rfl (by decide) rfl ?_
                              refine q_aload_n rfl rfl ?_
                              refine q_iload rfl rfl ?_
                              refine q_bipushv (v := (7 : Int32)) rfl (by decide +kernel) ?_
                              refine q_iaddv (v := (7 : Int32)) rfl (by decide +kernel) ?_
                              refine q_script rfl (by decide) rfl ?_
                              refine q_call rfl rfl rfl rfl ?_
                              refine q_aload_n rfl rfl ?_
                              refine q_iconstv (v := (0 : Int32)) rfl (by decide +kernel) ?_
                              refine q_putv (w9 := (w1.set 0 (.inr (7, [.ref 1, .ref 3, .ref 7, .ref 9, .ref 10, .ref 11, .ref 12, .ref 13, .ref 25, .ref 37, .ref 39, .int 0, .int 0, .int 1])))) rfl rfl rfl (by decide) rfl (by decide) rfl ?_
                              refine q_aload_n rfl rfl ?_
                              refine q_iload_n rfl rfl ?_
                              refine q_iconstv (v := (0 : Int32)) rfl (by decide +kernel) ?_
                              refine q_sipushv (v := (9999 : Int32)) rfl (by decide +kernel) ?_
                              refine q_call rfl rfl rfl rfl ?_
                              refine q_iload_n rfl rfl ?_
                              refine q_iload_n rfl rfl ?_
                              refine q_ic_lt_f (t := 14) rfl (by decide) (i_nlt (a := (x1).toInt) (b := (0 : Int)) rfl (by decide +kernel) (by omega)) ?_
                              refine q_iload_n rfl rfl ?_
                              refine q_iload_n rfl rfl ?_
                              refine q_ic_gt_f (t := 14) rfl (by decide) (i_nlt_r (a := (x1).toInt) (b := (9999 : Int)) rfl (by decide +kernel) (by omega)) ?_
                              refine q_iconstv (v := (1 : Int32)) rfl (by decide +kernel) ?_
                              refine q_goto (t := 15) rfl (by decide) ?_
                              refine q_zret rfl rfl (by decide) ?_
                              refine bk_inl ?_
                              refine q_if_eq_f (t := 89) rfl (by decide) (i_ne (a := (1 : Int)) (b := (0 : Int)) (by decide +kernel) (by decide +kernel) (by omega)) ?_
                              refine q_iload_n rfl rfl ?_
                              refine q_iconstv (v := (0 : Int32)) rfl (by decide +kernel) ?_
                              refine q_sipushv (v := (9999 : Int32)) rfl (by decide +kernel) ?_
                              refine q_call rfl rfl rfl rfl ?_
                              refine q_iload_n rfl rfl ?_
                              refine q_iload_n rfl rfl ?_
                              refine q_ic_lt_f (t := 14) rfl (by decide) (i_nlt (a := (x2).toInt) (b := (0 : Int)) rfl (by decide +kernel) (by omega)) ?_
                              refine q_iload_n rfl rfl ?_
                              refine q_iload_n rfl rfl ?_
                              refine q_ic_gt_f (t := 14) rfl (by decide) (i_nlt_r (a := (x2).toInt) (b := (9999 : Int)) rfl (by decide +kernel) (by omega)) ?_
                              refine q_iconstv (v := (1 : Int32)) rfl (by decide +kernel) ?_
                              refine q_goto (t := 15) rfl (by decide) ?_
                              refine q_zret rfl rfl (by decide) ?_
                              refine bk_inl ?_
                              refine q_if_eq_f (t := 89) rfl (by decide) (i_ne (a := (1 : Int)) (b := (0 : Int)) (by decide +kernel) (by decide +kernel) (by omega)) ?_
                              refine q_iload_n rfl rfl ?_
                              refine q_iconstv (v := (0 : Int32)) rfl (by decide +kernel) ?_
                              refine q_sipushv (v := (9999 : Int32)) rfl (by decide +kernel) ?_
                              refine q_call rfl rfl rfl rfl ?_
                              refine q_iload_n rfl rfl ?_
                              refine q_iload_n rfl rfl ?_
                              refine q_ic_lt_f (t := 14) rfl (by decide) (i_nlt (a := (x3).toInt) (b := (0 : Int)) rfl (by decide +kernel) (by omega)) ?_
                              refine q_iload_n rfl rfl ?_
                              refine q_iload_n rfl rfl ?_
                              refine q_ic_gt_f (t := 14) rfl (by decide) (i_nlt_r (a := (x3).toInt) (b := (9999 : Int)) rfl (by decide +kernel) (by omega)) ?_
                              refine q_iconstv (v := (1 : Int32)) rfl (by decide +kernel) ?_
                              refine q_goto (t := 15) rfl (by decide) ?_
                              refine q_zret rfl rfl (by decide) ?_
                              refine bk_inl ?_
                              refine q_if_eq_f (t := 89) rfl (by decide) (i_ne (a := (1 : Int)) (b := (0 : Int)) (by decide +kernel) (by decide +kernel) (by omega)) ?_
                              refine q_iload rfl rfl ?_
                              refine q_iconstv (v := (0 : Int32)) rfl (by decide +kernel) ?_
                              refine q_sipushv (v := (9999 : Int32)) rfl (by decide +kernel) ?_
                              refine q_call rfl rfl rfl rfl ?_
                              refine q_iload_n rfl rfl ?_
                              refine q_iload_n rfl rfl ?_
                              refine q_ic_lt_f (t := 14) rfl (by decide) (i_nlt (a := (x4).toInt) (b := (0 : Int)) rfl (by decide +kernel) (by omega)) ?_
                              refine q_iload_n rfl rfl ?_
                              refine q_iload_n rfl rfl ?_
                              refine q_ic_gt_f (t := 14) rfl (by decide) (i_nlt_r (a := (x4).toInt) (b := (9999 : Int)) rfl (by decide +kernel) (by omega)) ?_
                              refine q_iconstv (v := (1 : Int32)) rfl (by decide +kernel) ?_
                              refine q_goto (t := 15) rfl (by decide) ?_
                              refine q_zret rfl rfl (by decide) ?_
                              refine bk_inl ?_
                              refine q_if_eq_f (t := 89) rfl (by decide) (i_ne (a := (1 : Int)) (b := (0 : Int)) (by decide +kernel) (by decide +kernel) (by omega)) ?_
                              refine q_iload rfl rfl ?_
                              refine q_iconstv (v := (0 : Int32)) rfl (by decide +kernel) ?_
                              refine q_sipushv (v := (400 : Int32)) rfl (by decide +kernel) ?_
                              refine q_call rfl rfl rfl rfl ?_
                              refine q_iload_n rfl rfl ?_
                              refine q_iload_n rfl rfl ?_
                              refine q_ic_lt_f (t := 14) rfl (by decide) (i_nlt (a := (x5).toInt) (b := (0 : Int)) rfl (by decide +kernel) (by omega)) ?_
                              refine q_iload_n rfl rfl ?_
                              refine q_iload_n rfl rfl ?_
                              refine q_ic_gt_f (t := 14) rfl (by decide) (i_nlt_r (a := (x5).toInt) (b := (400 : Int)) rfl (by decide +kernel) (by omega)) ?_
                              refine q_iconstv (v := (1 : Int32)) rfl (by decide +kernel) ?_
                              refine q_goto (t := 15) rfl (by decide) ?_
                              refine q_zret rfl rfl (by decide) ?_
                              refine bk_inl ?_
                              refine q_if_eq_f (t := 89) rfl (by decide) (i_ne (a := (1 : Int)) (b := (0 : Int)) (by decide +kernel) (by decide +kernel) (by omega)) ?_
                              refine q_iload rfl rfl ?_
                              refine q_iconstv (v := (0 : Int32)) rfl (by decide +kernel) ?_
                              refine q_sipushv (v := (400 : Int32)) rfl (by decide +kernel) ?_
                              refine q_call rfl rfl rfl rfl ?_
                              refine q_iload_n rfl rfl ?_
                              refine q_iload_n rfl rfl ?_
                              refine q_ic_lt_f (t := 14) rfl (by decide) (i_nlt (a := (x6).toInt) (b := (0 : Int)) rfl (by decide +kernel) (by omega)) ?_
                              refine q_iload_n rfl rfl ?_
                              refine q_iload_n rfl rfl ?_
                              refine q_ic_gt_f (t := 14) rfl (by decide) (i_nlt_r (a := (x6).toInt) (b := (400 : Int)) rfl (by decide +kernel) (by omega)) ?_
                              refine q_iconstv (v := (1 : Int32)) rfl (by decide +kernel) ?_
                              refine q_goto (t := 15) rfl (by decide) ?_
                              refine q_zret rfl rfl (by decide) ?_
                              refine bk_inl ?_
                              refine q_if_eq_f (t := 89) rfl (by decide) (i_ne (a := (1 : Int)) (b := (0 : Int)) (by decide +kernel) (by decide +kernel) (by omega)) ?_
                              refine q_iload rfl rfl ?_
                              refine q_iconstv (v := (0 : Int32)) rfl (by decide +kernel) ?_
                              refine q_iconstv (v := (5 : Int32)) rfl (by decide +kernel) ?_
                              refine q_call rfl rfl rfl rfl ?_
                              refine q_iload_n rfl rfl ?_
                              refine q_iload_n rfl rfl ?_
                              refine q_ic_lt_f (t := 14) rfl (by decide) (i_nlt (a := (x7).toInt) (b := (0 : Int)) rfl (by decide +kernel) (by omega)) ?_
                              refine q_iload_n rfl rfl ?_
                              refine q_iload_n rfl rfl ?_
                              refine q_ic_gt_t (t := 14) rfl (by decide) (i_lt_r (a := (x7).toInt) (b := (5 : Int)) rfl (by decide +kernel) (by omega)) ?_
                              refine q_iconstv (v := (0 : Int32)) rfl (by decide +kernel) ?_
                              refine q_zret rfl rfl (by decide) ?_
                              refine bk_inl ?_
                              refine q_if_eq_t (t := 89) rfl (by decide) (i_eq (a := (0 : Int)) (b := (0 : Int)) (by decide +kernel) (by decide +kernel) (by omega)) ?_
                              refine q_iconstv (v := (0 : Int32)) rfl (by decide +kernel) ?_
                              refine q_iconstv (v := (1 : Int32)) rfl (by decide +kernel) ?_
                              refine q_iconstv (v := (1 : Int32)) rfl (by decide +kernel) ?_
                              refine q_call rfl rfl rfl rfl ?_
                              refine q_iload_n rfl rfl ?_
                              refine q_if_ne_f (t := 26) rfl (by decide) (i_nne (a := (0 : Int)) (b := (0 : Int)) (by decide +kernel) (by decide +kernel) (by omega)) ?_
                              refine q_aload_n rfl rfl ?_
                              refine q_get rfl rfl rfl rfl ?_
                              refine q_if_ne_f (t := 26) rfl (by decide) (i_nne (a := (0 : Int)) (b := (0 : Int)) (by decide +kernel) (by decide +kernel) (by omega)) ?_
                              refine q_aload_n rfl rfl ?_
                              refine q_iload_n rfl rfl ?_
                              refine q_putv (w9 := ((w1.set 0 (.inr (7, [.ref 1, .ref 3, .ref 7, .ref 9, .ref 10, .ref 11, .ref 12, .ref 13, .ref 25, .ref 37, .ref 39, .int 0, .int 0, .int 1]))).set 41 (.inr (8, [.int 1, .ref 42, .int 0, .int 0, .int 0, .int 0, .int 0, .int 0, .int (-1), .ref 43, .ref 44, .ref 45, .ref 46, .ref 47, .ref 48, .ref 49, .int 0, .int 0, .int 0, .int 5, .int 0, .int 0, .int 0, .int 5, .ref 50, .ref 51, .ref 52, .ref 53, .ref 54, .int 0, .int 0, .ref 55, .ref 56, .ref 57, .int 0, .int 0, .int 0, .int 0, .int 0, .int 0, .ref 58, .ref 59, .ref 60, .ref 61, .ref 62, .ref 63, .ref 64, .int 0, .int 0, .ref 65, .int 0, .ref 66, .int 0])))) rfl rfl rfl (by decide) rfl (by decide) rfl ?_
                              refine q_aload_n rfl rfl ?_
                              refine q_get rfl rfl rfl rfl ?_
                              refine q_iload_n rfl rfl ?_
                              refine q_dup2 rfl ⟨rfl, rfl⟩ ?_
                              refine q_ialoadv (m := 1) rfl (by decide) (by decide) rfl (by decide +kernel) rfl ?_
                              refine q_iconstv (v := (1 : Int32)) rfl (by decide +kernel) ?_
                              refine q_iaddv (v := (1 : Int32)) rfl (by decide +kernel) ?_
                              refine q_iastorev (m := 1) (w9 := (((w1.set 0 (.inr (7, [.ref 1, .ref 3, .ref 7, .ref 9, .ref 10, .ref 11, .ref 12, .ref 13, .ref 25, .ref 37, .ref 39, .int 0, .int 0, .int 1]))).set 41 (.inr (8, [.int 1, .ref 42, .int 0, .int 0, .int 0, .int 0, .int 0, .int 0, .int (-1), .ref 43, .ref 44, .ref 45, .ref 46, .ref 47, .ref 48, .ref 49, .int 0, .int 0, .int 0, .int 5, .int 0, .int 0, .int 0, .int 5, .ref 50, .ref 51, .ref 52, .ref 53, .ref 54, .int 0, .int 0, .ref 55, .ref 56, .ref 57, .int 0, .int 0, .int 0, .int 0, .int 0, .int 0, .ref 58, .ref 59, .ref 60, .ref 61, .ref 62, .ref 63, .ref 64, .int 0, .int 0, .ref 65, .int 0, .ref 66, .int 0]))).set 42 (.inl (0, .inl ([0, 1]))))) rfl (by decide) rfl (by decide +kernel) (Nat.le_of_ble_eq_true rfl) rfl ?_
                              refine q_aload_n rfl rfl ?_
                              refine q_get rfl rfl rfl rfl ?_
                              refine q_if_ne_t (t := 37) rfl (by decide) (i_ne (a := (1 : Int)) (b := (0 : Int)) (by decide +kernel) (by decide +kernel) (by omega)) ?_
                              refine q_iconstv (v := (0 : Int32)) rfl (by decide +kernel) ?_
                              refine q_zret rfl rfl (by decide) ?_
                              refine bk_inl ?_
                              refine q_if_ne_f (t := 100) rfl (by decide) (i_nne (a := (0 : Int)) (b := (0 : Int)) (by decide +kernel) (by decide +kernel) (by omega)) ?_
                              refine q_iconstv (v := (0 : Int32)) rfl (by decide +kernel) ?_
                              refine q_iret rfl rfl ?_
                              refine bk_inl ?_
                              refine q_istore rfl (by decide) ?_
                              refine q_aload_n rfl rfl ?_
                              refine q_call rfl rfl rfl rfl ?_
                              refine q_aload_n rfl rfl ?_
                              refine q_get rfl rfl rfl rfl ?_
                              refine q_iret rfl rfl ?_
                              refine bk_inl ?_
                              refine q_iload rfl rfl ?_
                              refine q_ic_eq_t (t := 1035) rfl (by decide) (i_eq (a := (1 : Int)) (b := (1 : Int)) (by decide +kernel) (by decide +kernel) (by omega)) ?_
                              refine q_iload rfl rfl ?_
                              refine q_if_ne_t (t := 1052) rfl (by decide) (i_ne (a := (1 : Int)) (b := (0 : Int)) (by decide +kernel) (by decide +kernel) (by omega)) ?_
                              refine q_goto (t := 2739) rfl (by decide) ?_
                              refine q_iincv (v := (8 : Int32)) rfl rfl (by decide) (by decide +kernel) ?_
                              refine q_goto (t := 23) rfl (by decide) ?_
                              exact q_end rfl rfl (by decide) (by decide)
                            · refine q_ic_gt_f (t := 14) rfl (by decide) (i_nlt_r (a := (x7).toInt) (b := (5 : Int)) rfl (by decide +kernel) (by omega)) ?_
                              refine q_iconstv (v := (1 : Int32)) rfl (by decide +kernel) ?_
                              refine q_goto (t := 15) rfl (by decide) ?_
                              refine q_zret rfl rfl (by decide) ?_
                              refine bk_inl ?_
                              refine q_if_eq_f (t := 84) rfl (by decide) (i_ne (a := (1 : Int)) (b := (0 : Int)) (by decide +kernel) (by decide +kernel) (by omega)) ?_
                              refine q_iconstv (v := (1 : Int32)) rfl (by decide +kernel) ?_
                              refine q_goto (t := 85) rfl (by decide) ?_
                              refine q_call rfl rfl rfl rfl ?_
                              refine q_iload_n rfl rfl ?_
                              refine q_if_ne_t (t := 25) rfl (by decide) (i_ne (a := (1 : Int)) (b := (0 : Int)) (by decide +kernel) (by decide +kernel) (by omega)) ?_
                              refine q_vret rfl rfl ?_
                              refine bk_inl ?_
                              refine q_aload_n rfl rfl ?_
                              refine q_get rfl rfl rfl rfl ?_
                              refine q_get rfl rfl rfl rfl ?_
                              refine q_iload_n rfl rfl ?_
                              refine q_iload_n rfl rfl ?_
                              refine q_iload_n rfl rfl ?_
                              refine q_iload rfl rfl ?_
                              refine q_iload rfl rfl ?_
                              refine q_iload rfl rfl ?_
                              refine q_iload rfl rfl ?_
                              refine q_call rfl rfl rfl rfl ?_
                              refine q_iload_n rfl rfl ?_
                              refine q_iload_n rfl rfl ?_
                              refine q_iadd rfl ?_
                              refine q_iload_n rfl rfl ?_
                              refine q_iadd rfl ?_
                              refine q_iload rfl rfl ?_
                              refine q_iadd rfl ?_
                              refine q_istore rfl (by decide) ?_
                              refine q_aload_n rfl rfl ?_
                              refine q_get rfl rfl rfl rfl ?_
                              refine q_if_ne_f (t := 39) rfl (by decide) (i_nne (a := (0 : Int)) (b := (0 : Int)) (by decide +kernel) (by decide +kernel) (by omega)) ?_
                              refine q_iload rfl rfl ?_
                              refine q_if_lt_f (t := 37) rfl (by decide) (i_nlt (a := ((((x1).toInt + (x2).toInt) + (x3).toInt) + (x4).toInt)) (b := (0 : Int)) (i_add (i_add (i_add rfl rfl (by omega) (by omega)) rfl (by omega) (by omega)) rfl (by omega) (by omega)) (by decide +kernel) (by omega)) ?_
                              refine q_iload_n rfl rfl ?_
                              refine q_bipushv (v := (90 : Int32)) rfl (by decide +kernel) ?_
                              refine q_imul rfl ?_
                              refine q_iload rfl rfl ?_
                              refine q_iconstv (v := (1 : Int32)) rfl (by decide +kernel) ?_
                              refine q_iadd rfl ?_
                              refine q_idiv rfl (i_ne (a := (((((x1).toInt + (x2).toInt) + (x3).toInt) + (x4).toInt) + (1 : Int))) (b := 0) (i_add (i_add (i_add (i_add rfl rfl (by omega) (by omega)) rfl (by omega) (by omega)) rfl (by omega) (by omega)) (by decide +kernel) (by omega) (by omega)) (by decide +kernel) (by omega)) ?_
                              refine q_call rfl rfl rfl rfl ?_
                              refine q_iload_n rfl rfl ?_
                              by_cases h15 : (((x1 * (90 : Int32)) / ((((x1 + x2) + x3) + x4) + (1 : Int32)))).toInt ≥ 0
                              · refine q_if_ge_t (t := 8) rfl (by decide) (i_le_r (a := (((x1 * (90 : Int32)) / ((((x1 + x2) + x3) + x4) + (1 : Int32)))).toInt) (b := (0 : Int)) rfl (by decide +kernel) (by omega)) ?_
                                refine q_iload_n rfl rfl ?_
                                refine q_bipushv (v := (99 : Int32)) rfl (by decide +kernel) ?_
                                by_cases h16 : (((x1 * (90 : Int32)) / ((((x1 + x2) + x3) + x4) + (1 : Int32)))).toInt ≤ 99
                                · refine q_ic_le_t (t := 19) rfl (by decide) (i_le (a := (((x1 * (90 : Int32)) / ((((x1 + x2) + x3) + x4) + (1 : Int32)))).toInt) (b := (99 : Int)) rfl (by decide +kernel) (by omega)) ?_
                                  refine q_iload_n rfl rfl ?_
                                  refine q_iret rfl rfl ?_
                                  refine bk_inl ?_
                                  refine q_goto (t := 38) rfl (by decide) ?_
                                  refine q_iret rfl rfl ?_
                                  refine bk_inl ?_
                                  refine q_iret rfl rfl ?_
                                  refine bk_inl ?_
                                  refine q_i2l rfl ?_
                                  refine q_lastorev (m := 0) (w9 := (w1.set 67 (.inl (2, .inr ([((x1 * (90 : Int32)) / ((((x1 + x2) + x3) + x4) + (1 : Int32))).toInt64]))))) rfl (by decide) rfl (by decide +kernel) (by decide) rfl ?_
                                  refine q_goto (t := 27) rfl (by decide) ?_
                                  refine q_iconstv (v := (0 : Int32)) rfl (by decide +kernel) ?_
                                  refine q_iret rfl rfl ?_
                                  refine bk_inl ?_
                                  refine q_istore rfl (by decide) ?_
                                  refine q_aload_n rfl rfl ?_
                                  refine q_aload_n rfl rfl ?_
                                  refine q_iload rfl rfl ?_
                                  refine q_iconstv (v := (1 : Int32)) rfl (by decide +kernel) ?_
                                  refine q_iaddv (v := (1 : Int32)) rfl (by decide +kernel) ?_
                                  refine q_script rfl (by decide) rfl ?_
                                  refine q_aload_n rfl rfl ?_
                                  refine q_iload rfl rfl ?_
                                  refine q_iconstv (v := (2 : Int32)) rfl (by decide +kernel) ?_
                                  refine q_iaddv (v := (2 : Int32)) rfl (by decide +kernel) ?_
                                  refine q_script rfl (by decide) rfl ?_
                                  refine q_aload_n rfl rfl ?_
                                  refine q_iload rfl rfl ?_
                                  refine q_iconstv (v := (3 : Int32)) rfl (by decide +kernel) ?_
                                  refine q_iaddv (v := (3 : Int32)) rfl (by decide +kernel) ?_
                                  refine q_script rfl (by decide) rfl ?_
                                  refine q_aload_n rfl rfl ?_
                                  refine q_iload rfl rfl ?_
                                  refine q_iconstv (v := (4 : Int32)) rfl (by decide +kernel) ?_
                                  refine q_iaddv (v := (4 : Int32)) rfl (by decide +kernel) ?_
                                  refine q_script rfl (by decide) rfl ?_
                                  refine q_aload_n rfl rfl ?_
                                  refine q_iload rfl rfl ?_
                                  refine q_iconstv (v := (5 : Int32)) rfl (by decide +kernel) ?_
                                  refine q_iaddv (v := (5 : Int32)) rfl (by decide +kernel) ?_
                                  refine q_script rfl (by decide) rfl ?_
                                  refine q_aload_n rfl rfl ?_
                                  refine q_iload rfl rfl ?_
                                  refine q_bipushv (v := (6 : Int32)) rfl (by decide +kernel) ?_
                                  refine q_iaddv (v := (6 : Int32)) rfl (by decide +kernel) ?_
                                  refine q_script rfl (by decide) rfl ?_
                                  refine q_aload_n rfl rfl ?_
                                  refine q_iload rfl rfl ?_
                                  refine q_bipushv (v := (7 : Int32)) rfl (by decide +kernel) ?_
                                  refine q_iaddv (v := (7 : Int32)) rfl (by decide +kernel) ?_
                                  refine q_script rfl (by decide) rfl ?_
                                  refine q_call rfl rfl rfl rfl ?_
                                  refine q_aload_n rfl rfl ?_
                                  refine q_iconstv (v := (0 : Int32)) rfl (by decide +kernel) ?_
                                  refine q_putv (w9 := (w1.set 67 (.inl (2, .inr ([((x1 * (90 : Int32)) / ((((x1 + x2) + x3) + x4) + (1 : Int32))).toInt64]))))) rfl rfl rfl (by decide) rfl (by decide) rfl ?_
                                  refine q_aload_n rfl rfl ?_
                                  refine q_iload_n rfl rfl ?_
                                  refine q_iconstv (v := (0 : Int32)) rfl (by decide +kernel) ?_
                                  refine q_sipushv (v := (9999 : Int32)) rfl (by decide +kernel) ?_
                                  refine q_call rfl rfl rfl rfl ?_
                                  refine q_iload_n rfl rfl ?_
                                  refine q_iload_n rfl rfl ?_
                                  refine q_ic_lt_f (t := 14) rfl (by decide) (i_nlt (a := (x1).toInt) (b := (0 : Int)) rfl (by decide +kernel) (by omega)) ?_
                                  refine q_iload_n rfl rfl ?_
                                  refine q_iload_n rfl rfl ?_
                                  refine q_ic_gt_f (t := 14) rfl (by decide) (i_nlt_r (a := (x1).toInt) (b := (9999 : Int)) rfl (by decide +kernel) (by omega)) ?_
                                  refine q_iconstv (v := (1 : Int32)) rfl (by decide +kernel) ?_
                                  refine q_goto (t := 15) rfl (by decide) ?_
                                  refine q_zret rfl rfl (by decide) ?_
                                  refine bk_inl ?_
                                  refine q_if_eq_f (t := 89) rfl (by decide) (i_ne (a := (1 : Int)) (b := (0 : Int)) (by decide +kernel) (by decide +kernel) (by omega)) ?_
                                  refine q_iload_n rfl rfl ?_
                                  refine q_iconstv (v := (0 : Int32)) rfl (by decide +kernel) ?_
                                  refine q_sipushv (v := (9999 : Int32)) rfl (by decide +kernel) ?_
                                  refine q_call rfl rfl rfl rfl ?_
                                  refine q_iload_n rfl rfl ?_
                                  refine q_iload_n rfl rfl ?_
                                  refine q_ic_lt_f (t := 14) rfl (by decide) (i_nlt (a := (x2).toInt) (b := (0 : Int)) rfl (by decide +kernel) (by omega)) ?_
                                  refine q_iload_n rfl rfl ?_
                                  refine q_iload_n rfl rfl ?_
                                  refine q_ic_gt_f (t := 14) rfl (by decide) (i_nlt_r (a := (x2).toInt) (b := (9999 : Int)) rfl (by decide +kernel) (by omega)) ?_
                                  refine q_iconstv (v := (1 : Int32)) rfl (by decide +kernel) ?_
                                  refine q_goto (t := 15) rfl (by decide) ?_
                                  refine q_zret rfl rfl (by decide) ?_
                                  refine bk_inl ?_
                                  refine q_if_eq_f (t := 89) rfl (by decide) (i_ne (a := (1 : Int)) (b := (0 : Int)) (by decide +kernel) (by decide +kernel) (by omega)) ?_
                                  refine q_iload_n rfl rfl ?_
                                  refine q_iconstv (v := (0 : Int32)) rfl (by decide +kernel) ?_
                                  refine q_sipushv (v := (9999 : Int32)) rfl (by decide +kernel) ?_
                                  refine q_call rfl rfl rfl rfl ?_
                                  refine q_iload_n rfl rfl ?_
                                  refine q_iload_n rfl rfl ?_
                                  refine q_ic_lt_f (t := 14) rfl (by decide) (i_nlt (a := (x3).toInt) (b := (0 : Int)) rfl (by decide +kernel) (by omega)) ?_
                                  refine q_iload_n rfl rfl ?_
                                  refine q_iload_n rfl rfl ?_
                                  refine q_ic_gt_f (t := 14) rfl (by decide) (i_nlt_r (a := (x3).toInt) (b := (9999 : Int)) rfl (by decide +kernel) (by omega)) ?_
                                  refine q_iconstv (v := (1 : Int32)) rfl (by decide +kernel) ?_
                                  refine q_goto (t := 15) rfl (by decide) ?_
                                  refine q_zret rfl rfl (by decide) ?_
                                  refine bk_inl ?_
                                  refine q_if_eq_f (t := 89) rfl (by decide) (i_ne (a := (1 : Int)) (b := (0 : Int)) (by decide +kernel) (by decide +kernel) (by omega)) ?_
                                  refine q_iload rfl rfl ?_
                                  refine q_iconstv (v := (0 : Int32)) rfl (by decide +kernel) ?_
                                  refine q_sipushv (v := (9999 : Int32)) rfl (by decide +kernel) ?_
                                  refine q_call rfl rfl rfl rfl ?_
                                  refine q_iload_n rfl rfl ?_
                                  refine q_iload_n rfl rfl ?_
                                  refine q_ic_lt_f (t := 14) rfl (by decide) (i_nlt (a := (x4).toInt) (b := (0 : Int)) rfl (by decide +kernel) (by omega)) ?_
                                  refine q_iload_n rfl rfl ?_
                                  refine q_iload_n rfl rfl ?_
                                  refine q_ic_gt_f (t := 14) rfl (by decide) (i_nlt_r (a := (x4).toInt) (b := (9999 : Int)) rfl (by decide +kernel) (by omega)) ?_
                                  refine q_iconstv (v := (1 : Int32)) rfl (by decide +kernel) ?_
                                  refine q_goto (t := 15) rfl (by decide) ?_
                                  refine q_zret rfl rfl (by decide) ?_
                                  refine bk_inl ?_
                                  refine q_if_eq_f (t := 89) rfl (by decide) (i_ne (a := (1 : Int)) (b := (0 : Int)) (by decide +kernel) (by decide +kernel) (by omega)) ?_
                                  refine q_iload rfl rfl ?_
                                  refine q_iconstv (v := (0 : Int32)) rfl (by decide +kernel) ?_
                                  refine q_sipushv (v := (400 : Int32)) rfl (by decide +kernel) ?_
                                  refine q_call rfl rfl rfl rfl ?_
                                  refine q_iload_n rfl rfl ?_
                                  refine q_iload_n rfl rfl ?_
                                  refine q_ic_lt_f (t := 14) rfl (by decide) (i_nlt (a := (x5).toInt) (b := (0 : Int)) rfl (by decide +kernel) (by omega)) ?_
                                  refine q_iload_n rfl rfl ?_
                                  refine q_iload_n rfl rfl ?_
                                  refine q_ic_gt_f (t := 14) rfl (by decide) (i_nlt_r (a := (x5).toInt) (b := (400 : Int)) rfl (by decide +kernel) (by omega)) ?_
                                  refine q_iconstv (v := (1 : Int32)) rfl (by decide +kernel) ?_
                                  refine q_goto (t := 15) rfl (by decide) ?_
                                  refine q_zret rfl rfl (by decide) ?_
                                  refine bk_inl ?_
                                  refine q_if_eq_f (t := 89) rfl (by decide) (i_ne (a := (1 : Int)) (b := (0 : Int)) (by decide +kernel) (by decide +kernel) (by omega)) ?_
                                  refine q_iload rfl rfl ?_
                                  refine q_iconstv (v := (0 : Int32)) rfl (by decide +kernel) ?_
                                  refine q_sipushv (v := (400 : Int32)) rfl (by decide +kernel) ?_
                                  refine q_call rfl rfl rfl rfl ?_
                                  refine q_iload_n rfl rfl ?_
                                  refine q_iload_n rfl rfl ?_
                                  refine q_ic_lt_f (t := 14) rfl (by decide) (i_nlt (a := (x6).toInt) (b := (0 : Int)) rfl (by decide +kernel) (by omega)) ?_
                                  refine q_iload_n rfl rfl ?_
                                  refine q_iload_n rfl rfl ?_
                                  refine q_ic_gt_f (t := 14) rfl (by decide) (i_nlt_r (a := (x6).toInt) (b := (400 : Int)) rfl (by decide +kernel) (by omega)) ?_
                                  refine q_iconstv (v := (1 : Int32)) rfl (by decide +kernel) ?_
                                  refine q_goto (t := 15) rfl (by decide) ?_
                                  refine q_zret rfl rfl (by decide) ?_
                                  refine bk_inl ?_
                                  refine q_if_eq_f (t := 89) rfl (by decide) (i_ne (a := (1 : Int)) (b := (0 : Int)) (by decide +kernel) (by decide +kernel) (by omega)) ?_
                                  refine q_iload rfl rfl ?_
                                  refine q_iconstv (v := (0 : Int32)) rfl (by decide +kernel) ?_
                                  refine q_iconstv (v := (5 : Int32)) rfl (by decide +kernel) ?_
                                  refine q_call rfl rfl rfl rfl ?_
                                  refine q_iload_n rfl rfl ?_
                                  refine q_iload_n rfl rfl ?_
                                  refine q_ic_lt_f (t := 14) rfl (by decide) (i_nlt (a := (x7).toInt) (b := (0 : Int)) rfl (by decide +kernel) (by omega)) ?_
                                  refine q_iload_n rfl rfl ?_
                                  refine q_iload_n rfl rfl ?_
                                  refine q_ic_gt_f (t := 14) rfl (by decide) (i_nlt_r (a := (x7).toInt) (b := (5 : Int)) rfl (by decide +kernel) (by omega)) ?_
                                  refine q_iconstv (v := (1 : Int32)) rfl (by decide +kernel) ?_
                                  refine q_goto (t := 15) rfl (by decide) ?_
                                  refine q_zret rfl rfl (by decide) ?_
                                  refine bk_inl ?_
                                  refine q_if_eq_f (t := 89) rfl (by decide) (i_ne (a := (1 : Int)) (b := (0 : Int)) (by decide +kernel) (by decide +kernel) (by omega)) ?_
                                  refine q_iconstv (v := (1 : Int32)) rfl (by decide +kernel) ?_
                                  refine q_goto (t := 90) rfl (by decide) ?_
                                  refine q_iconstv (v := (1 : Int32)) rfl (by decide +kernel) ?_
                                  refine q_iconstv (v := (1 : Int32)) rfl (by decide +kernel) ?_
                                  refine q_call rfl rfl rfl rfl ?_
                                  refine q_iload_n rfl rfl ?_
                                  refine q_if_ne_t (t := 26) rfl (by decide) (i_ne (a := (1 : Int)) (b := (0 : Int)) (by decide +kernel) (by decide +kernel) (by omega)) ?_
                                  refine q_aload_n rfl rfl ?_
                                  refine q_get rfl rfl rfl rfl ?_
                                  refine q_if_ne_f (t := 37) rfl (by decide) (i_nne (a := (0 : Int)) (b := (0 : Int)) (by decide +kernel) (by decide +kernel) (by omega)) ?_
                                  refine q_iconstv (v := (1 : Int32)) rfl (by decide +kernel) ?_
                                  refine q_goto (t := 38) rfl (by decide) ?_
                                  refine q_zret rfl rfl (by decide) ?_
                                  refine bk_inl ?_
                                  refine q_if_ne_t (t := 100) rfl (by decide) (i_ne (a := (1 : Int)) (b := (0 : Int)) (by decide +kernel) (by decide +kernel) (by omega)) ?_
                                  refine q_aload_n rfl rfl ?_
                                  refine q_iload_n rfl rfl ?_
                                  refine q_iload_n rfl rfl ?_
                                  refine q_iload_n rfl rfl ?_
                                  refine q_iload rfl rfl ?_
                                  refine q_iload rfl rfl ?_
                                  refine q_iload rfl rfl ?_
                                  refine q_iload rfl rfl ?_
                                  refine q_call rfl rfl rfl rfl ?_
                                  refine q_aload_n rfl rfl ?_
                                  refine q_get rfl rfl rfl rfl ?_
                                  refine q_iconstv (v := (0 : Int32)) rfl (by decide +kernel) ?_
                                  refine q_iload_n rfl rfl ?_
                                  refine q_iastorev (m := 0) (w9 := ((w1.set 55 (.inl (0, .inl ([x1, 0, 0, 0, 0, 0, 0, 0])))).set 67 (.inl (2, .inr ([((x1 * (90 : Int32)) / ((((x1 + x2) + x3) + x4) + (1 : Int32))).toInt64]))))) rfl (by decide) rfl (by decide +kernel) (Nat.le_of_ble_eq_true rfl) rfl ?_
                                  refine q_aload_n rfl rfl ?_
                                  refine q_get rfl rfl rfl rfl ?_
                                  refine q_iconstv (v := (1 : Int32)) rfl (by decide +kernel) ?_
                                  refine q_iload_n rfl rfl ?_
                                  refine q_iastorev (m := 1) (w9 := ((w1.set 55 (.inl (0, .inl ([x1, x2, 0, 0, 0, 0, 0, 0])))).set 67 (.inl (2, .inr ([((x1 * (90 : Int32)) / ((((x1 + x2) + x3) + x4) + (1 : Int32))).toInt64]))))) rfl (by decide) rfl (by decide +kernel) (Nat.le_of_ble_eq_true rfl) rfl ?_
                                  refine q_aload_n rfl rfl ?_
                                  refine q_get rfl rfl rfl rfl ?_
                                  refine q_iconstv (v := (2 : Int32)) rfl (by decide +kernel) ?_
                                  refine q_iload_n rfl rfl ?_
                                  refine q_iastorev (m := 2) (w9 := ((w1.set 55 (.inl (0, .inl ([x1, x2, x3, 0, 0, 0, 0, 0])))).set 67 (.inl (2, .inr ([((x1 * (90 : Int32)) / ((((x1 + x2) + x3) + x4) + (1 : Int32))).toInt64]))))) rfl (by decide) rfl (by decide +kernel) (Nat.le_of_ble_eq_true rfl) rfl ?_
                                  refine q_aload_n rfl rfl ?_
                                  refine q_get rfl rfl rfl rfl ?_
                                  refine q_iconstv (v := (3 : Int32)) rfl (by decide +kernel) ?_
                                  refine q_iload rfl rfl ?_
                                  refine q_iastorev (m := 3) (w9 := ((w1.set 55 (.inl (0, .inl ([x1, x2, x3, x4, 0, 0, 0, 0])))).set 67 (.inl (2, .inr ([((x1 * (90 : Int32)) / ((((x1 + x2) + x3) + x4) + (1 : Int32))).toInt64]))))) rfl (by decide) rfl (by decide +kernel) (Nat.le_of_ble_eq_true rfl) rfl ?_
                                  refine q_aload_n rfl rfl ?_
                                  refine q_get rfl rfl rfl rfl ?_
                                  refine q_iconstv (v := (4 : Int32)) rfl (by decide +kernel) ?_
                                  refine q_iload_n rfl rfl ?_
                                  refine q_iload_n rfl rfl ?_
                                  refine q_iadd rfl ?_
                                  refine q_iload_n rfl rfl ?_
                                  refine q_iadd rfl ?_
                                  refine q_iload rfl rfl ?_
                                  refine q_iadd rfl ?_
                                  refine q_iastorev (m := 4) (w9 := ((w1.set 55 (.inl (0, .inl ([x1, x2, x3, x4, (((x1 + x2) + x3) + x4), 0, 0, 0])))).set 67 (.inl (2, .inr ([((x1 * (90 : Int32)) / ((((x1 + x2) + x3) + x4) + (1 : Int32))).toInt64]))))) rfl (by decide) rfl (by decide +kernel) (Nat.le_of_ble_eq_true rfl) rfl ?_
                                  refine q_aload_n rfl rfl ?_
                                  refine q_get rfl rfl rfl rfl ?_
                                  refine q_iconstv (v := (5 : Int32)) rfl (by decide +kernel) ?_
                                  refine q_iload rfl rfl ?_
                                  refine q_iastorev (m := 5) (w9 := ((w1.set 55 (.inl (0, .inl ([x1, x2, x3, x4, (((x1 + x2) + x3) + x4), x5, 0, 0])))).set 67 (.inl (2, .inr ([((x1 * (90 : Int32)) / ((((x1 + x2) + x3) + x4) + (1 : Int32))).toInt64]))))) rfl (by decide) rfl (by decide +kernel) (Nat.le_of_ble_eq_true rfl) rfl ?_
                                  refine q_aload_n rfl rfl ?_
                                  refine q_get rfl rfl rfl rfl ?_
                                  refine q_bipushv (v := (6 : Int32)) rfl (by decide +kernel) ?_
                                  refine q_iload rfl rfl ?_
                                  refine q_iastorev (m := 6) (w9 := ((w1.set 55 (.inl (0, .inl ([x1, x2, x3, x4, (((x1 + x2) + x3) + x4), x5, x6, 0])))).set 67 (.inl (2, .inr ([((x1 * (90 : Int32)) / ((((x1 + x2) + x3) + x4) + (1 : Int32))).toInt64]))))) rfl (by decide) rfl (by decide +kernel) (Nat.le_of_ble_eq_true rfl) rfl ?_
                                  refine q_aload_n rfl rfl ?_
                                  refine q_get rfl rfl rfl rfl ?_
                                  refine q_bipushv (v := (7 : Int32)) rfl (by decide +kernel) ?_
                                  refine q_iload rfl rfl ?_
                                  refine q_iastorev (m := 7) (w9 := ((w1.set 55 (.inl (0, .inl ([x1, x2, x3, x4, (((x1 + x2) + x3) + x4), x5, x6, x7])))).set 67 (.inl (2, .inr ([((x1 * (90 : Int32)) / ((((x1 + x2) + x3) + x4) + (1 : Int32))).toInt64]))))) rfl (by decide) rfl (by decide +kernel) (Nat.le_of_ble_eq_true rfl) rfl ?_
                                  refine q_aload_n rfl rfl ?_
                                  refine q_call rfl rfl rfl rfl ?_
                                  refine q_aload_n rfl rfl ?_
                                  refine q_get rfl rfl rfl rfl ?_
                                  refine q_if_ne_f (t := 28) rfl (by decide) (i_nne (a := (0 : Int)) (b := (0 : Int)) (by decide +kernel) (by decide +kernel) (by omega)) ?_
                                  refine q_aload_n rfl rfl ?_
                                  refine q_get rfl rfl rfl rfl ?_
                                  refine q_iconstv (v := (0 : Int32)) rfl (by decide +kernel) ?_
                                  refine q_ialoadv (m := 0) rfl (by decide) (by decide) rfl (by decide +kernel) rfl ?_
                                  refine q_bipushv (v := (90 : Int32)) rfl (by decide +kernel) ?_
                                  refine q_imul rfl ?_
                                  refine q_aload_n rfl rfl ?_
                                  refine q_get rfl rfl rfl rfl ?_
                                  refine q_iconstv (v := (4 : Int32)) rfl (by decide +kernel) ?_
                                  refine q_ialoadv (m := 4) rfl (by decide) (by decide) rfl (by decide +kernel) rfl ?_
                                  refine q_iconstv (v := (1 : Int32)) rfl (by decide +kernel) ?_
                                  refine q_iadd rfl ?_
                                  refine q_idiv rfl (i_ne (a := (((((x1).toInt + (x2).toInt) + (x3).toInt) + (x4).toInt) + (1 : Int))) (b := 0) (i_add (i_add (i_add (i_add rfl rfl (by omega) (by omega)) rfl (by omega) (by omega)) rfl (by omega) (by omega)) (by decide +kernel) (by omega) (by omega)) (by decide +kernel) (by omega)) ?_
                                  refine q_goto (t := 32) rfl (by decide) ?_
                                  refine q_istore_n rfl (by decide) ?_
                                  refine q_iload_n rfl rfl ?_
                                  refine q_if_ge_t (t := 41) rfl (by decide) (i_le_r (a := (((x1 * (90 : Int32)) / ((((x1 + x2) + x3) + x4) + (1 : Int32)))).toInt) (b := (0 : Int)) rfl (by decide +kernel) (by omega)) ?_
                                  refine q_iload_n rfl rfl ?_
                                  refine q_bipushv (v := (99 : Int32)) rfl (by decide +kernel) ?_
                                  refine q_ic_le_t (t := 52) rfl (by decide) (i_le (a := (((x1 * (90 : Int32)) / ((((x1 + x2) + x3) + x4) + (1 : Int32)))).toInt) (b := (99 : Int)) rfl (by decide +kernel) (by omega)) ?_
                                  refine q_iload_n rfl rfl ?_
                                  refine q_iret rfl rfl ?_
                                  refine bk_inl ?_
                                  refine q_iret rfl rfl ?_
                                  refine bk_inl ?_
                                  refine q_iret rfl rfl ?_
                                  refine bk_inl ?_
                                  refine q_istore rfl (by decide) ?_
                                  refine q_aload_n rfl rfl ?_
                                  refine q_call rfl rfl rfl rfl ?_
                                  refine q_aload_n rfl rfl ?_
                                  refine q_get rfl rfl rfl rfl ?_
                                  refine q_iret rfl rfl ?_
                                  refine bk_inl ?_
                                  refine q_iload rfl rfl ?_
                                  refine q_ic_eq_t (t := 1035) rfl (by decide) (i_eq (a := (0 : Int)) (b := (0 : Int)) (by decide +kernel) (by decide +kernel) (by omega)) ?_
                                  refine q_iload rfl rfl ?_
                                  refine q_if_ne_f (t := 1052) rfl (by decide) (i_nne (a := (0 : Int)) (b := (0 : Int)) (by decide +kernel) (by decide +kernel) (by omega)) ?_
                                  refine q_aload_n rfl rfl ?_
                                  refine q_iconstv (v := (0 : Int32)) rfl (by decide +kernel) ?_
                                  refine q_laloadv (m := 0) rfl (by decide) rfl (by decide +kernel) rfl ?_
                                  refine q_iload rfl rfl ?_
                                  refine q_i2l rfl ?_
                                  refine q_lcmp_eq rfl ?_
                                  refine q_if_eq_t (t := 1052) rfl (by decide) (i_eq (a := (0 : Int)) (b := (0 : Int)) (by decide +kernel) (by decide +kernel) (by omega)) ?_
                                  refine q_goto (t := 2739) rfl (by decide) ?_
                                  refine q_iincv (v := (8 : Int32)) rfl rfl (by decide) (by decide +kernel) ?_
                                  refine q_goto (t := 23) rfl (by decide) ?_
                                  exact q_end rfl rfl (by decide) (by decide)
                                · refine q_ic_le_f (t := 19) rfl (by decide) (i_nle (a := (((x1 * (90 : Int32)) / ((((x1 + x2) + x3) + x4) + (1 : Int32)))).toInt) (b := (99 : Int)) rfl (by decide +kernel) (by omega)) ?_
                                  refine q_bipushv (v := (99 : Int32)) rfl (by decide +kernel) ?_
                                  refine q_goto (t := 20) rfl (by decide) ?_
                                  refine q_iret rfl rfl ?_
                                  refine bk_inl ?_
                                  refine q_goto (t := 38) rfl (by decide) ?_
                                  refine q_iret rfl rfl ?_
                                  refine bk_inl ?_
                                  refine q_iret rfl rfl ?_
                                  refine bk_inl ?_
                                  refine q_i2lv (v := (99 : Int64)) rfl (by decide +kernel) ?_
                                  refine q_lastorev (m := 0) (w9 := (w1.set 67 (.inl (2, .inr ([99]))))) rfl (by decide) rfl (by decide +kernel) (by decide) rfl ?_
                                  refine q_goto (t := 27) rfl (by decide) ?_
                                  refine q_iconstv (v := (0 : Int32)) rfl (by decide +kernel) ?_
                                  refine q_iret rfl rfl ?_
                                  refine bk_inl ?_
                                  refine q_istore rfl (by decide) ?_
                                  refine q_aload_n rfl rfl ?_
                                  refine q_aload_n rfl rfl ?_
                                  refine q_iload rfl rfl ?_
                                  refine q_iconstv (v := (1 : Int32)) rfl (by decide +kernel) ?_
                                  refine q_iaddv (v := (1 : Int32)) rfl (by decide +kernel) ?_
                                  refine q_script rfl (by decide) rfl ?_
                                  refine q_aload_n rfl rfl ?_
                                  refine q_iload rfl rfl ?_
                                  refine q_iconstv (v := (2 : Int32)) rfl (by decide +kernel) ?_
                                  refine q_iaddv (v := (2 : Int32)) rfl (by decide +kernel) ?_
                                  refine q_script rfl (by decide) rfl ?_
                                  refine q_aload_n rfl rfl ?_
                                  refine q_iload rfl rfl ?_
                                  refine q_iconstv (v := (3 : Int32)) rfl (by decide +kernel) ?_
                                  refine q_iaddv (v := (3 : Int32)) rfl (by decide +kernel) ?_
                                  refine q_script rfl (by decide) rfl ?_
                                  refine q_aload_n rfl rfl ?_
                                  refine q_iload rfl rfl ?_
                                  refine q_iconstv (v := (4 : Int32)) rfl (by decide +kernel) ?_
                                  refine q_iaddv (v := (4 : Int32)) rfl (by decide +kernel) ?_
                                  refine q_script rfl (by decide) rfl ?_
                                  refine q_aload_n rfl rfl ?_
                                  refine q_iload rfl rfl ?_
                                  refine q_iconstv (v := (5 : Int32)) rfl (by decide +kernel) ?_
                                  refine q_iaddv (v := (5 : Int32)) rfl (by decide +kernel) ?_
                                  refine q_script rfl (by decide) rfl ?_
                                  refine q_aload_n rfl rfl ?_
                                  refine q_iload rfl rfl ?_
                                  refine q_bipushv (v := (6 : Int32)) rfl (by decide +kernel) ?_
                                  refine q_iaddv (v := (6 : Int32)) rfl (by decide +kernel) ?_
                                  refine q_script rfl (by decide) rfl ?_
                                  refine q_aload_n rfl rfl ?_
                                  refine q_iload rfl rfl ?_
                                  refine q_bipushv (v := (7 : Int32)) rfl (by decide +kernel) ?_
                                  refine q_iaddv (v := (7 : Int32)) rfl (by decide +kernel) ?_
                                  refine q_script rfl (by decide) rfl ?_
                                  refine q_call rfl rfl rfl rfl ?_
                                  refine q_aload_n rfl rfl ?_
                                  refine q_iconstv (v := (0 : Int32)) rfl (by decide +kernel) ?_
                                  refine q_putv (w9 := (w1.set 67 (.inl (2, .inr ([99]))))) rfl rfl rfl (by decide) rfl (by decide) rfl ?_
                                  refine q_aload_n rfl rfl ?_
                                  refine q_iload_n rfl rfl ?_
                                  refine q_iconstv (v := (0 : Int32)) rfl (by decide +kernel) ?_
                                  refine q_sipushv (v := (9999 : Int32)) rfl (by decide +kernel) ?_
                                  refine q_call rfl rfl rfl rfl ?_
                                  refine q_iload_n rfl rfl ?_
                                  refine q_iload_n rfl rfl ?_
                                  refine q_ic_lt_f (t := 14) rfl (by decide) (i_nlt (a := (x1).toInt) (b := (0 : Int)) rfl (by decide +kernel) (by omega)) ?_
                                  refine q_iload_n rfl rfl ?_
                                  refine q_iload_n rfl rfl ?_
                                  refine q_ic_gt_f (t := 14) rfl (by decide) (i_nlt_r (a := (x1).toInt) (b := (9999 : Int)) rfl (by decide +kernel) (by omega)) ?_
                                  refine q_iconstv (v := (1 : Int32)) rfl (by decide +kernel) ?_
                                  refine q_goto (t := 15) rfl (by decide) ?_
                                  refine q_zret rfl rfl (by decide) ?_
                                  refine bk_inl ?_
                                  refine q_if_eq_f (t := 89) rfl (by decide) (i_ne (a := (1 : Int)) (b := (0 : Int)) (by decide +kernel) (by decide +kernel) (by omega)) ?_
                                  refine q_iload_n rfl rfl ?_
                                  refine q_iconstv (v := (0 : Int32)) rfl (by decide +kernel) ?_
                                  refine q_sipushv (v := (9999 : Int32)) rfl (by decide +kernel) ?_
                                  refine q_call rfl rfl rfl rfl ?_
                                  refine q_iload_n rfl rfl ?_
                                  refine q_iload_n rfl rfl ?_
                                  refine q_ic_lt_f (t := 14) rfl (by decide) (i_nlt (a := (x2).toInt) (b := (0 : Int)) rfl (by decide +kernel) (by omega)) ?_
                                  refine q_iload_n rfl rfl ?_
                                  refine q_iload_n rfl rfl ?_
                                  refine q_ic_gt_f (t := 14) rfl (by decide) (i_nlt_r (a := (x2).toInt) (b := (9999 : Int)) rfl (by decide +kernel) (by omega)) ?_
                                  refine q_iconstv (v := (1 : Int32)) rfl (by decide +kernel) ?_
                                  refine q_goto (t := 15) rfl (by decide) ?_
                                  refine q_zret rfl rfl (by decide) ?_
                                  refine bk_inl ?_
                                  refine q_if_eq_f (t := 89) rfl (by decide) (i_ne (a := (1 : Int)) (b := (0 : Int)) (by decide +kernel) (by decide +kernel) (by omega)) ?_
                                  refine q_iload_n rfl rfl ?_
                                  refine q_iconstv (v := (0 : Int32)) rfl (by decide +kernel) ?_
                                  refine q_sipushv (v := (9999 : Int32)) rfl (by decide +kernel) ?_
                                  refine q_call rfl rfl rfl rfl ?_
                                  refine q_iload_n rfl rfl ?_
                                  refine q_iload_n rfl rfl ?_
                                  refine q_ic_lt_f (t := 14) rfl (by decide) (i_nlt (a := (x3).toInt) (b := (0 : Int)) rfl (by decide +kernel) (by omega)) ?_
                                  refine q_iload_n rfl rfl ?_
                                  refine q_iload_n rfl rfl ?_
                                  refine q_ic_gt_f (t := 14) rfl (by decide) (i_nlt_r (a := (x3).toInt) (b := (9999 : Int)) rfl (by decide +kernel) (by omega)) ?_
                                  refine q_iconstv (v := (1 : Int32)) rfl (by decide +kernel) ?_
                                  refine q_goto (t := 15) rfl (by decide) ?_
                                  refine q_zret rfl rfl (by decide) ?_
                                  refine bk_inl ?_
                                  refine q_if_eq_f (t := 89) rfl (by decide) (i_ne (a := (1 : Int)) (b := (0 : Int)) (by decide +kernel) (by decide +kernel) (by omega)) ?_
                                  refine q_iload rfl rfl ?_
                                  refine q_iconstv (v := (0 : Int32)) rfl (by decide +kernel) ?_
                                  refine q_sipushv (v := (9999 : Int32)) rfl (by decide +kernel) ?_
                                  refine q_call rfl rfl rfl rfl ?_
                                  refine q_iload_n rfl rfl ?_
                                  refine q_iload_n rfl rfl ?_
                                  refine q_ic_lt_f (t := 14) rfl (by decide) (i_nlt (a := (x4).toInt) (b := (0 : Int)) rfl (by decide +kernel) (by omega)) ?_
                                  refine q_iload_n rfl rfl ?_
                                  refine q_iload_n rfl rfl ?_
                                  refine q_ic_gt_f (t := 14) rfl (by decide) (i_nlt_r (a := (x4).toInt) (b := (9999 : Int)) rfl (by decide +kernel) (by omega)) ?_
                                  refine q_iconstv (v := (1 : Int32)) rfl (by decide +kernel) ?_
                                  refine q_goto (t := 15) rfl (by decide) ?_
                                  refine q_zret rfl rfl (by decide) ?_
                                  refine bk_inl ?_
                                  refine q_if_eq_f (t := 89) rfl (by decide) (i_ne (a := (1 : Int)) (b := (0 : Int)) (by decide +kernel) (by decide +kernel) (by omega)) ?_
                                  refine q_iload rfl rfl ?_
                                  refine q_iconstv (v := (0 : Int32)) rfl (by decide +kernel) ?_
                                  refine q_sipushv (v := (400 : Int32)) rfl (by decide +kernel) ?_
                                  refine q_call rfl rfl rfl rfl ?_
                                  refine q_iload_n rfl rfl ?_
                                  refine q_iload_n rfl rfl ?_
                                  refine q_ic_lt_f (t := 14) rfl (by decide) (i_nlt (a := (x5).toInt) (b := (0 : Int)) rfl (by decide +kernel) (by omega)) ?_
                                  refine q_iload_n rfl rfl ?_
                                  refine q_iload_n rfl rfl ?_
                                  refine q_ic_gt_f (t := 14) rfl (by decide) (i_nlt_r (a := (x5).toInt) (b := (400 : Int)) rfl (by decide +kernel) (by omega)) ?_
                                  refine q_iconstv (v := (1 : Int32)) rfl (by decide +kernel) ?_
                                  refine q_goto (t := 15) rfl (by decide) ?_
                                  refine q_zret rfl rfl (by decide) ?_
                                  refine bk_inl ?_
                                  refine q_if_eq_f (t := 89) rfl (by decide) (i_ne (a := (1 : Int)) (b := (0 : Int)) (by decide +kernel) (by decide +kernel) (by omega)) ?_
                                  refine q_iload rfl rfl ?_
                                  refine q_iconstv (v := (0 : Int32)) rfl (by decide +kernel) ?_
                                  refine q_sipushv (v := (400 : Int32)) rfl (by decide +kernel) ?_
                                  refine q_call rfl rfl rfl rfl ?_
                                  refine q_iload_n rfl rfl ?_
                                  refine q_iload_n rfl rfl ?_
                                  refine q_ic_lt_f (t := 14) rfl (by decide) (i_nlt (a := (x6).toInt) (b := (0 : Int)) rfl (by decide +kernel) (by omega)) ?_
                                  refine q_iload_n rfl rfl ?_
                                  refine q_iload_n rfl rfl ?_
                                  refine q_ic_gt_f (t := 14) rfl (by decide) (i_nlt_r (a := (x6).toInt) (b := (400 : Int)) rfl (by decide +kernel) (by omega)) ?_
                                  refine q_iconstv (v := (1 : Int32)) rfl (by decide +kernel) ?_
                                  refine q_goto (t := 15) rfl (by decide) ?_
                                  refine q_zret rfl rfl (by decide) ?_
                                  refine bk_inl ?_
                                  refine q_if_eq_f (t := 89) rfl (by decide) (i_ne (a := (1 : Int)) (b := (0 : Int)) (by decide +kernel) (by decide +kernel) (by omega)) ?_
                                  refine q_iload rfl rfl ?_
                                  refine q_iconstv (v := (0 : Int32)) rfl (by decide +kernel) ?_
                                  refine q_iconstv (v := (5 : Int32)) rfl (by decide +kernel) ?_
                                  refine q_call rfl rfl rfl rfl ?_
                                  refine q_iload_n rfl rfl ?_
                                  refine q_iload_n rfl rfl ?_
                                  refine q_ic_lt_f (t := 14) rfl (by decide) (i_nlt (a := (x7).toInt) (b := (0 : Int)) rfl (by decide +kernel) (by omega)) ?_
                                  refine q_iload_n rfl rfl ?_
                                  refine q_iload_n rfl rfl ?_
                                  refine q_ic_gt_f (t := 14) rfl (by decide) (i_nlt_r (a := (x7).toInt) (b := (5 : Int)) rfl (by decide +kernel) (by omega)) ?_
                                  refine q_iconstv (v := (1 : Int32)) rfl (by decide +kernel) ?_
                                  refine q_goto (t := 15) rfl (by decide) ?_
                                  refine q_zret rfl rfl (by decide) ?_
                                  refine bk_inl ?_
                                  refine q_if_eq_f (t := 89) rfl (by decide) (i_ne (a := (1 : Int)) (b := (0 : Int)) (by decide +kernel) (by decide +kernel) (by omega)) ?_
                                  refine q_iconstv (v := (1 : Int32)) rfl (by decide +kernel) ?_
                                  refine q_goto (t := 90) rfl (by decide) ?_
                                  refine q_iconstv (v := (1 : Int32)) rfl (by decide +kernel) ?_
                                  refine q_iconstv (v := (1 : Int32)) rfl (by decide +kernel) ?_
                                  refine q_call rfl rfl rfl rfl ?_
                                  refine q_iload_n rfl rfl ?_
                                  refine q_if_ne_t (t := 26) rfl (by decide) (i_ne (a := (1 : Int)) (b := (0 : Int)) (by decide +kernel) (by decide +kernel) (by omega)) ?_
                                  refine q_aload_n rfl rfl ?_
                                  refine q_get rfl rfl rfl rfl ?_
                                  refine q_if_ne_f (t := 37) rfl (by decide) (i_nne (a := (0 : Int)) (b := (0 : Int)) (by decide +kernel) (by decide +kernel) (by omega)) ?_
                                  refine q_iconstv (v := (1 : Int32)) rfl (by decide +kernel) ?_
                                  refine q_goto (t := 38) rfl (by decide) ?_
                                  refine q_zret rfl rfl (by decide) ?_
                                  refine bk_inl ?_
                                  refine q_if_ne_t (t := 100) rfl (by decide) (i_ne (a := (1 : Int)) (b := (0 : Int)) (by decide +kernel) (by decide +kernel) (by omega)) ?_
                                  refine q_aload_n rfl rfl ?_
                                  refine q_iload_n rfl rfl ?_
                                  refine q_iload_n rfl rfl ?_
                                  refine q_iload_n rfl rfl ?_
                                  refine q_iload rfl rfl ?_
                                  refine q_iload rfl rfl ?_
                                  refine q_iload rfl rfl ?_
                                  refine q_iload rfl rfl ?_
                                  refine q_call rfl rfl rfl rfl ?_
                                  refine q_aload_n rfl rfl ?_
                                  refine q_get rfl rfl rfl rfl ?_
                                  refine q_iconstv (v := (0 : Int32)) rfl (by decide +kernel) ?_
                                  refine q_iload_n rfl rfl ?_
                                  refine q_iastorev (m := 0) (w9 := ((w1.set 55 (.inl (0, .inl ([x1, 0, 0, 0, 0, 0, 0, 0])))).set 67 (.inl (2, .inr ([99]))))) rfl (by decide) rfl (by decide +kernel) (Nat.le_of_ble_eq_true rfl) rfl ?_
                                  refine q_aload_n rfl rfl ?_
                                  refine q_get rfl rfl rfl rfl ?_
                                  refine q_iconstv (v := (1 : Int32)) rfl (by decide +kernel) ?_
                                  refine q_iload_n rfl rfl ?_
                                  refine q_iastorev (m := 1) (w9 := ((w1.set 55 (.inl (0, .inl ([x1, x2, 0, 0, 0, 0, 0, 0])))).set 67 (.inl (2, .inr ([99]))))) rfl (by decide) rfl (by decide +kernel) (Nat.le_of_ble_eq_true rfl) rfl ?_
                                  refine q_aload_n rfl rfl ?_
                                  refine q_get rfl rfl rfl rfl ?_
                                  refine q_iconstv (v := (2 : Int32)) rfl (by decide +kernel) ?_
                                  refine q_iload_n rfl rfl ?_
                                  refine q_iastorev (m := 2) (w9 := ((w1.set 55 (.inl (0, .inl ([x1, x2, x3, 0, 0, 0, 0, 0])))).set 67 (.inl (2, .inr ([99]))))) rfl (by decide) rfl (by decide +kernel) (Nat.le_of_ble_eq_true rfl) rfl ?_
                                  refine q_aload_n rfl rfl ?_
                                  refine q_get rfl rfl rfl rfl ?_
                                  refine q_iconstv (v := (3 : Int32)) rfl (by decide +kernel) ?_
                                  refine q_iload rfl rfl ?_
                                  refine q_iastorev (m := 3) (w9 := ((w1.set 55 (.inl (0, .inl ([x1, x2, x3, x4, 0, 0, 0, 0])))).set 67 (.inl (2, .inr ([99]))))) rfl (by decide) rfl (by decide +kernel) (Nat.le_of_ble_eq_true rfl) rfl ?_
                                  refine q_aload_n rfl rfl ?_
                                  refine q_get rfl rfl rfl rfl ?_
                                  refine q_iconstv (v := (4 : Int32)) rfl (by decide +kernel) ?_
                                  refine q_iload_n rfl rfl ?_
                                  refine q_iload_n rfl rfl ?_
                                  refine q_iadd rfl ?_
                                  refine q_iload_n rfl rfl ?_
                                  refine q_iadd rfl ?_
                                  refine q_iload rfl rfl ?_
                                  refine q_iadd rfl ?_
                                  refine q_iastorev (m := 4) (w9 := ((w1.set 55 (.inl (0, .inl ([x1, x2, x3, x4, (((x1 + x2) + x3) + x4), 0, 0, 0])))).set 67 (.inl (2, .inr ([99]))))) rfl (by decide) rfl (by decide +kernel) (Nat.le_of_ble_eq_true rfl) rfl ?_
                                  refine q_aload_n rfl rfl ?_
                                  refine q_get rfl rfl rfl rfl ?_
                                  refine q_iconstv (v := (5 : Int32)) rfl (by decide +kernel) ?_
                                  refine q_iload rfl rfl ?_
                                  refine q_iastorev (m := 5) (w9 := ((w1.set 55 (.inl (0, .inl ([x1, x2, x3, x4, (((x1 + x2) + x3) + x4), x5, 0, 0])))).set 67 (.inl (2, .inr ([99]))))) rfl (by decide) rfl (by decide +kernel) (Nat.le_of_ble_eq_true rfl) rfl ?_
                                  refine q_aload_n rfl rfl ?_
                                  refine q_get rfl rfl rfl rfl ?_
                                  refine q_bipushv (v := (6 : Int32)) rfl (by decide +kernel) ?_
                                  refine q_iload rfl rfl ?_
                                  refine q_iastorev (m := 6) (w9 := ((w1.set 55 (.inl (0, .inl ([x1, x2, x3, x4, (((x1 + x2) + x3) + x4), x5, x6, 0])))).set 67 (.inl (2, .inr ([99]))))) rfl (by decide) rfl (by decide +kernel) (Nat.le_of_ble_eq_true rfl) rfl ?_
                                  refine q_aload_n rfl rfl ?_
                                  refine q_get rfl rfl rfl rfl ?_
                                  refine q_bipushv (v := (7 : Int32)) rfl (by decide +kernel) ?_
                                  refine q_iload rfl rfl ?_
                                  refine q_iastorev (m := 7) (w9 := ((w1.set 55 (.inl (0, .inl ([x1, x2, x3, x4, (((x1 + x2) + x3) + x4), x5, x6, x7])))).set 67 (.inl (2, .inr ([99]))))) rfl (by decide) rfl (by decide +kernel) (Nat.le_of_ble_eq_true rfl) rfl ?_
                                  refine q_aload_n rfl rfl ?_
                                  refine q_call rfl rfl rfl rfl ?_
                                  refine q_aload_n rfl rfl ?_
                                  refine q_get rfl rfl rfl rfl ?_
                                  refine q_if_ne_f (t := 28) rfl (by decide) (i_nne (a := (0 : Int)) (b := (0 : Int)) (by decide +kernel) (by decide +kernel) (by omega)) ?_
                                  refine q_aload_n rfl rfl ?_
                                  refine q_get rfl rfl rfl rfl ?_
                                  refine q_iconstv (v := (0 : Int32)) rfl (by decide +kernel) ?_
                                  refine q_ialoadv (m := 0) rfl (by decide) (by decide) rfl (by decide +kernel) rfl ?_
                                  refine q_bipushv (v := (90 : Int32)) rfl (by decide +kernel) ?_
                                  refine q_imul rfl ?_
                                  refine q_aload_n rfl rfl ?_
                                  refine q_get rfl rfl rfl rfl ?_
                                  refine q_iconstv (v := (4 : Int32)) rfl (by decide +kernel) ?_
                                  refine q_ialoadv (m := 4) rfl (by decide) (by decide) rfl (by decide +kernel) rfl ?_
                                  refine q_iconstv (v := (1 : Int32)) rfl (by decide +kernel) ?_
                                  refine q_iadd rfl ?_
                                  refine q_idiv rfl (i_ne (a := (((((x1).toInt + (x2).toInt) + (x3).toInt) + (x4).toInt) + (1 : Int))) (b := 0) (i_add (i_add (i_add (i_add rfl rfl (by omega) (by omega)) rfl (by omega) (by omega)) rfl (by omega) (by omega)) (by decide +kernel) (by omega) (by omega)) (by decide +kernel) (by omega)) ?_
                                  refine q_goto (t := 32) rfl (by decide) ?_
                                  refine q_istore_n rfl (by decide) ?_
                                  refine q_iload_n rfl rfl ?_
                                  refine q_if_ge_t (t := 41) rfl (by decide) (i_le_r (a := (((x1 * (90 : Int32)) / ((((x1 + x2) + x3) + x4) + (1 : Int32)))).toInt) (b := (0 : Int)) rfl (by decide +kernel) (by omega)) ?_
                                  refine q_iload_n rfl rfl ?_
                                  refine q_bipushv (v := (99 : Int32)) rfl (by decide +kernel) ?_
                                  refine q_ic_le_f (t := 52) rfl (by decide) (i_nle (a := (((x1 * (90 : Int32)) / ((((x1 + x2) + x3) + x4) + (1 : Int32)))).toInt) (b := (99 : Int)) rfl (by decide +kernel) (by omega)) ?_
                                  refine q_bipushv (v := (99 : Int32)) rfl (by decide +kernel) ?_
                                  refine q_goto (t := 53) rfl (by decide) ?_
                                  refine q_iret rfl rfl ?_
                                  refine bk_inl ?_
                                  refine q_iret rfl rfl ?_
                                  refine bk_inl ?_
                                  refine q_iret rfl rfl ?_
                                  refine bk_inl ?_
                                  refine q_istore rfl (by decide) ?_
                                  refine q_aload_n rfl rfl ?_
                                  refine q_call rfl rfl rfl rfl ?_
                                  refine q_aload_n rfl rfl ?_
                                  refine q_get rfl rfl rfl rfl ?_
                                  refine q_iret rfl rfl ?_
                                  refine bk_inl ?_
                                  refine q_iload rfl rfl ?_
                                  refine q_ic_eq_t (t := 1035) rfl (by decide) (i_eq (a := (0 : Int)) (b := (0 : Int)) (by decide +kernel) (by decide +kernel) (by omega)) ?_
                                  refine q_iload rfl rfl ?_
                                  refine q_if_ne_f (t := 1052) rfl (by decide) (i_nne (a := (0 : Int)) (b := (0 : Int)) (by decide +kernel) (by decide +kernel) (by omega)) ?_
                                  refine q_aload_n rfl rfl ?_
                                  refine q_iconstv (v := (0 : Int32)) rfl (by decide +kernel) ?_
                                  refine q_laloadv (m := 0) rfl (by decide) rfl (by decide +kernel) rfl ?_
                                  refine q_iload rfl rfl ?_
                                  refine q_i2lv (v := (99 : Int64)) rfl (by decide +kernel) ?_
                                  refine q_lcmpv (v := (0 : Int32)) rfl (by decide +kernel) ?_
                                  refine q_if_eq_t (t := 1052) rfl (by decide) (i_eq (a := (0 : Int)) (b := (0 : Int)) (by decide +kernel) (by decide +kernel) (by omega)) ?_
                                  refine q_goto (t := 2739) rfl (by decide) ?_
                                  refine q_iincv (v := (8 : Int32)) rfl rfl (by decide) (by decide +kernel) ?_
                                  refine q_goto (t := 23) rfl (by decide) ?_
                                  exact q_end rfl rfl (by decide) (by decide)
                              · refine q_if_ge_f (t := 8) rfl (by decide) (i_nle_r (a := (((x1 * (90 : Int32)) / ((((x1 + x2) + x3) + x4) + (1 : Int32)))).toInt) (b := (0 : Int)) rfl (by decide +kernel) (by omega)) ?_
                                refine q_iconstv (v := (0 : Int32)) rfl (by decide +kernel) ?_
                                refine q_goto (t := 20) rfl (by decide) ?_
                                refine q_iret rfl rfl ?_
                                refine bk_inl ?_
                                refine q_goto (t := 38) rfl (by decide) ?_
                                refine q_iret rfl rfl ?_
                                refine bk_inl ?_
                                refine q_iret rfl rfl ?_
                                refine bk_inl ?_
                                refine q_i2lv (v := (0 : Int64)) rfl (by decide +kernel) ?_
                                refine q_lastorev (m := 0) (w9 := w1) rfl (by decide) rfl (by decide +kernel) (by decide) rfl ?_
                                refine q_goto (t := 27) rfl (by decide) ?_
                                refine q_iconstv (v := (0 : Int32)) rfl (by decide +kernel) ?_
                                refine q_iret rfl rfl ?_
                                refine bk_inl ?_
                                refine q_istore rfl (by decide) ?_
                                refine q_aload_n rfl rfl ?_
                                refine q_aload_n rfl rfl ?_
                                refine q_iload rfl rfl ?_
                                refine q_iconstv (v := (1 : Int32)) rfl (by decide +kernel) ?_
                                refine q_iaddv (v := (1 : Int32)) rfl (by decide +kernel) ?_
                                refine q_script rfl (by decide) rfl ?_
                                refine q_aload_n rfl rfl ?_
                                refine q_iload rfl rfl ?_
                                refine q_iconstv (v := (2 : Int32)) rfl (by decide +kernel) ?_
                                refine q_iaddv (v := (2 : Int32)) rfl (by decide +kernel) ?_
                                refine q_script rfl (by decide) rfl ?_
                                refine q_aload_n rfl rfl ?_
                                refine q_iload rfl rfl ?_
                                refine q_iconstv (v := (3 : Int32)) rfl (by decide +kernel) ?_
                                refine q_iaddv (v := (3 : Int32)) rfl (by decide +kernel) ?_
                                refine q_script rfl (by decide) rfl ?_
                                refine q_aload_n rfl rfl ?_
                                refine q_iload rfl rfl ?_
                                refine q_iconstv (v := (4 : Int32)) rfl (by decide +kernel) ?_
                                refine q_iaddv (v := (4 : Int32)) rfl (by decide +kernel) ?_
                                refine q_script rfl (by decide) rfl ?_
                                refine q_aload_n rfl rfl ?_
                                refine q_iload rfl rfl ?_
                                refine q_iconstv (v := (5 : Int32)) rfl (by decide +kernel) ?_
                                refine q_iaddv (v := (5 : Int32)) rfl (by decide +kernel) ?_
                                refine q_script rfl (by decide) rfl ?_
                                refine q_aload_n rfl rfl ?_
                                refine q_iload rfl rfl ?_
                                refine q_bipushv (v := (6 : Int32)) rfl (by decide +kernel) ?_
                                refine q_iaddv (v := (6 : Int32)) rfl (by decide +kernel) ?_
                                refine q_script rfl (by decide) rfl ?_
                                refine q_aload_n rfl rfl ?_
                                refine q_iload rfl rfl ?_
                                refine q_bipushv (v := (7 : Int32)) rfl (by decide +kernel) ?_
                                refine q_iaddv (v := (7 : Int32)) rfl (by decide +kernel) ?_
                                refine q_script rfl (by decide) rfl ?_
                                refine q_call rfl rfl rfl rfl ?_
                                refine q_aload_n rfl rfl ?_
                                refine q_iconstv (v := (0 : Int32)) rfl (by decide +kernel) ?_
                                refine q_putv (w9 := w1) rfl rfl rfl (by decide) rfl (by decide) rfl ?_
                                refine q_aload_n rfl rfl ?_
                                refine q_iload_n rfl rfl ?_
                                refine q_iconstv (v := (0 : Int32)) rfl (by decide +kernel) ?_
                                refine q_sipushv (v := (9999 : Int32)) rfl (by decide +kernel) ?_
                                refine q_call rfl rfl rfl rfl ?_
                                refine q_iload_n rfl rfl ?_
                                refine q_iload_n rfl rfl ?_
                                refine q_ic_lt_f (t := 14) rfl (by decide) (i_nlt (a := (x1).toInt) (b := (0 : Int)) rfl (by decide +kernel) (by omega)) ?_
                                refine q_iload_n rfl rfl ?_
                                refine q_iload_n rfl rfl ?_
                                refine q_ic_gt_f (t := 14) rfl (by decide) (i_nlt_r (a := (x1).toInt) (b := (9999 : Int)) rfl (by decide +kernel) (by omega)) ?_
                                refine q_iconstv (v := (1 : Int32)) rfl (by decide +kernel) ?_
                                refine q_goto (t := 15) rfl (by decide) ?_
                                refine q_zret rfl rfl (by decide) ?_
                                refine bk_inl ?_
                                refine q_if_eq_f (t := 89) rfl (by decide) (i_ne (a := (1 : Int)) (b := (0 : Int)) (by decide +kernel) (by decide +kernel) (by omega)) ?_
                                refine q_iload_n rfl rfl ?_
                                refine q_iconstv (v := (0 : Int32)) rfl (by decide +kernel) ?_
                                refine q_sipushv (v := (9999 : Int32)) rfl (by decide +kernel) ?_
                                refine q_call rfl rfl rfl rfl ?_
                                refine q_iload_n rfl rfl ?_
                                refine q_iload_n rfl rfl ?_
                                refine q_ic_lt_f (t := 14) rfl (by decide) (i_nlt (a := (x2).toInt) (b := (0 : Int)) rfl (by decide +kernel) (by omega)) ?_
                                refine q_iload_n rfl rfl ?_
                                refine q_iload_n rfl rfl ?_
                                refine q_ic_gt_f (t := 14) rfl (by decide) (i_nlt_r (a := (x2).toInt) (b := (9999 : Int)) rfl (by decide +kernel) (by omega)) ?_
                                refine q_iconstv (v := (1 : Int32)) rfl (by decide +kernel) ?_
                                refine q_goto (t := 15) rfl (by decide) ?_
                                refine q_zret rfl rfl (by decide) ?_
                                refine bk_inl ?_
                                refine q_if_eq_f (t := 89) rfl (by decide) (i_ne (a := (1 : Int)) (b := (0 : Int)) (by decide +kernel) (by decide +kernel) (by omega)) ?_
                                refine q_iload_n rfl rfl ?_
                                refine q_iconstv (v := (0 : Int32)) rfl (by decide +kernel) ?_
                                refine q_sipushv (v := (9999 : Int32)) rfl (by decide +kernel) ?_
                                refine q_call rfl rfl rfl rfl ?_
                                refine q_iload_n rfl rfl ?_
                                refine q_iload_n rfl rfl ?_
                                refine q_ic_lt_f (t := 14) rfl (by decide) (i_nlt (a := (x3).toInt) (b := (0 : Int)) rfl (by decide +kernel) (by omega)) ?_
                                refine q_iload_n rfl rfl ?_
                                refine q_iload_n rfl rfl ?_
                                refine q_ic_gt_f (t := 14) rfl (by decide) (i_nlt_r (a := (x3).toInt) (b := (9999 : Int)) rfl (by decide +kernel) (by omega)) ?_
                                refine q_iconstv (v := (1 : Int32)) rfl (by decide +kernel) ?_
                                refine q_goto (t := 15) rfl (by decide) ?_
                                refine q_zret rfl rfl (by decide) ?_
                                refine bk_inl ?_
                                refine q_if_eq_f (t := 89) rfl (by decide) (i_ne (a := (1 : Int)) (b := (0 : Int)) (by decide +kernel) (by decide +kernel) (by omega)) ?_
                                refine q_iload rfl rfl ?_
                                refine q_iconstv (v := (0 : Int32)) rfl (by decide +kernel) ?_
                                refine q_sipushv (v := (9999 : Int32)) rfl (by decide +kernel) ?_
                                refine q_call rfl rfl rfl rfl ?_
                                refine q_iload_n rfl rfl ?_
                                refine q_iload_n rfl rfl ?_
                                refine q_ic_lt_f (t := 14) rfl (by decide) (i_nlt (a := (x4).toInt) (b := (0 : Int)) rfl (by decide +kernel) (by omega)) ?_
                                refine q_iload_n rfl rfl ?_
                                refine q_iload_n rfl rfl ?_
                                refine q_ic_gt_f (t := 14) rfl (by decide) (i_nlt_r (a := (x4).toInt) (b := (9999 : Int)) rfl (by decide +kernel) (by omega)) ?_
                                refine q_iconstv (v := (1 : Int32)) rfl (by decide +kernel) ?_
                                refine q_goto (t := 15) rfl (by decide) ?_
                                refine q_zret rfl rfl (by decide) ?_
                                refine bk_inl ?_
                                refine q_if_eq_f (t := 89) rfl (by decide) (i_ne (a := (1 : Int)) (b := (0 : Int)) (by decide +kernel) (by decide +kernel) (by omega)) ?_
                                refine q_iload rfl rfl ?_
                                refine q_iconstv (v := (0 : Int32)) rfl (by decide +kernel) ?_
                                refine q_sipushv (v := (400 : Int32)) rfl (by decide +kernel) ?_
                                refine q_call rfl rfl rfl rfl ?_
                                refine q_iload_n rfl rfl ?_
                                refine q_iload_n rfl rfl ?_
                                refine q_ic_lt_f (t := 14) rfl (by decide) (i_nlt (a := (x5).toInt) (b := (0 : Int)) rfl (by decide +kernel) (by omega)) ?_
                                refine q_iload_n rfl rfl ?_
                                refine q_iload_n rfl rfl ?_
                                refine q_ic_gt_f (t := 14) rfl (by decide) (i_nlt_r (a := (x5).toInt) (b := (400 : Int)) rfl (by decide +kernel) (by omega)) ?_
                                refine q_iconstv (v := (1 : Int32)) rfl (by decide +kernel) ?_
                                refine q_goto (t := 15) rfl (by decide) ?_
                                refine q_zret rfl rfl (by decide) ?_
                                refine bk_inl ?_
                                refine q_if_eq_f (t := 89) rfl (by decide) (i_ne (a := (1 : Int)) (b := (0 : Int)) (by decide +kernel) (by decide +kernel) (by omega)) ?_
                                refine q_iload rfl rfl ?_
                                refine q_iconstv (v := (0 : Int32)) rfl (by decide +kernel) ?_
                                refine q_sipushv (v := (400 : Int32)) rfl (by decide +kernel) ?_
                                refine q_call rfl rfl rfl rfl ?_
                                refine q_iload_n rfl rfl ?_
                                refine q_iload_n rfl rfl ?_
                                refine q_ic_lt_f (t := 14) rfl (by decide) (i_nlt (a := (x6).toInt) (b := (0 : Int)) rfl (by decide +kernel) (by omega)) ?_
                                refine q_iload_n rfl rfl ?_
                                refine q_iload_n rfl rfl ?_
                                refine q_ic_gt_f (t := 14) rfl (by decide) (i_nlt_r (a := (x6).toInt) (b := (400 : Int)) rfl (by decide +kernel) (by omega)) ?_
                                refine q_iconstv (v := (1 : Int32)) rfl (by decide +kernel) ?_
                                refine q_goto (t := 15) rfl (by decide) ?_
                                refine q_zret rfl rfl (by decide) ?_
                                refine bk_inl ?_
                                refine q_if_eq_f (t := 89) rfl (by decide) (i_ne (a := (1 : Int)) (b := (0 : Int)) (by decide +kernel) (by decide +kernel) (by omega)) ?_
                                refine q_iload rfl rfl ?_
                                refine q_iconstv (v := (0 : Int32)) rfl (by decide +kernel) ?_
                                refine q_iconstv (v := (5 : Int32)) rfl (by decide +kernel) ?_
                                refine q_call rfl rfl rfl rfl ?_
                                refine q_iload_n rfl rfl ?_
                                refine q_iload_n rfl rfl ?_
                                refine q_ic_lt_f (t := 14) rfl (by decide) (i_nlt (a := (x7).toInt) (b := (0 : Int)) rfl (by decide +kernel) (by omega)) ?_
                                refine q_iload_n rfl rfl ?_
                                refine q_iload_n rfl rfl ?_
                                refine q_ic_gt_f (t := 14) rfl (by decide) (i_nlt_r (a := (x7).toInt) (b := (5 : Int)) rfl (by decide +kernel) (by omega)) ?_
                                refine q_iconstv (v := (1 : Int32)) rfl (by decide +kernel) ?_
                                refine q_goto (t := 15) rfl (by decide) ?_
                                refine q_zret rfl rfl (by decide) ?_
                                refine bk_inl ?_
                                refine q_if_eq_f (t := 89) rfl (by decide) (i_ne (a := (1 : Int)) (b := (0 : Int)) (by decide +kernel) (by decide +kernel) (by omega)) ?_
                                refine q_iconstv (v := (1 : Int32)) rfl (by decide +kernel) ?_
                                refine q_goto (t := 90) rfl (by decide) ?_
                                refine q_iconstv (v := (1 : Int32)) rfl (by decide +kernel) ?_
                                refine q_iconstv (v := (1 : Int32)) rfl (by decide +kernel) ?_
                                refine q_call rfl rfl rfl rfl ?_
                                refine q_iload_n rfl rfl ?_
                                refine q_if_ne_t (t := 26) rfl (by decide) (i_ne (a := (1 : Int)) (b := (0 : Int)) (by decide +kernel) (by decide +kernel) (by omega)) ?_
                                refine q_aload_n rfl rfl ?_
                                refine q_get rfl rfl rfl rfl ?_
                                refine q_if_ne_f (t := 37) rfl (by decide) (i_nne (a := (0 : Int)) (b := (0 : Int)) (by decide +kernel) (by decide +kernel) (by omega)) ?_
                                refine q_iconstv (v := (1 : Int32)) rfl (by decide +kernel) ?_
                                refine q_goto (t := 38) rfl (by decide) ?_
                                refine q_zret rfl rfl (by decide) ?_
                                refine bk_inl ?_
                                refine q_if_ne_t (t := 100) rfl (by decide) (i_ne (a := (1 : Int)) (b := (0 : Int)) (by decide +kernel) (by decide +kernel) (by omega)) ?_
                                refine q_aload_n rfl rfl ?_
                                refine q_iload_n rfl rfl ?_
                                refine q_iload_n rfl rfl ?_
                                refine q_iload_n rfl rfl ?_
                                refine q_iload rfl rfl ?_
                                refine q_iload rfl rfl ?_
                                refine q_iload rfl rfl ?_
                                refine q_iload rfl rfl ?_
                                refine q_call rfl rfl rfl rfl ?_
                                refine q_aload_n rfl rfl ?_
                                refine q_get rfl rfl rfl rfl ?_
                                refine q_iconstv (v := (0 : Int32)) rfl (by decide +kernel) ?_
                                refine q_iload_n rfl rfl ?_
                                refine q_iastorev (m := 0) (w9 := (w1.set 55 (.inl (0, .inl ([x1, 0, 0, 0, 0, 0, 0, 0]))))) rfl (by decide) rfl (by decide +kernel) (Nat.le_of_ble_eq_true rfl) rfl ?_
                                refine q_aload_n rfl rfl ?_
                                refine q_get rfl rfl rfl rfl ?_
                                refine q_iconstv (v := (1 : Int32)) rfl (by decide +kernel) ?_
                                refine q_iload_n rfl rfl ?_
                                refine q_iastorev (m := 1) (w9 := (w1.set 55 (.inl (0, .inl ([x1, x2, 0, 0, 0, 0, 0, 0]))))) rfl (by decide) rfl (by decide +kernel) (Nat.le_of_ble_eq_true rfl) rfl ?_
                                refine q_aload_n rfl rfl ?_
                                refine q_get rfl rfl rfl rfl ?_
                                refine q_iconstv (v := (2 : Int32)) rfl (by decide +kernel) ?_
                                refine q_iload_n rfl rfl ?_
                                refine q_iastorev (m := 2) (w9 := (w1.set 55 (.inl (0, .inl ([x1, x2, x3, 0, 0, 0, 0, 0]))))) rfl (by decide) rfl (by decide +kernel) (Nat.le_of_ble_eq_true rfl) rfl ?_
                                refine q_aload_n rfl rfl ?_
                                refine q_get rfl rfl rfl rfl ?_
                                refine q_iconstv (v := (3 : Int32)) rfl (by decide +kernel) ?_
                                refine q_iload rfl rfl ?_
                                refine q_iastorev (m := 3) (w9 := (w1.set 55 (.inl (0, .inl ([x1, x2, x3, x4, 0, 0, 0, 0]))))) rfl (by decide) rfl (by decide +kernel) (Nat.le_of_ble_eq_true rfl) rfl ?_
                                refine q_aload_n rfl rfl ?_
                                refine q_get rfl rfl rfl rfl ?_
                                refine q_iconstv (v := (4 : Int32)) rfl (by decide +kernel) ?_
                                refine q_iload_n rfl rfl ?_
                                refine q_iload_n rfl rfl ?_
                                refine q_iadd rfl ?_
                                refine q_iload_n rfl rfl ?_
                                refine q_iadd rfl ?_
                                refine q_iload rfl rfl ?_
                                refine q_iadd rfl ?_
                                refine q_iastorev (m := 4) (w9 := (w1.set 55 (.inl (0, .inl ([x1, x2, x3, x4, (((x1 + x2) + x3) + x4), 0, 0, 0]))))) rfl (by decide) rfl (by decide +kernel) (Nat.le_of_ble_eq_true rfl) rfl ?_
                                refine q_aload_n rfl rfl ?_
                                refine q_get rfl rfl rfl rfl ?_
                                refine q_iconstv (v := (5 : Int32)) rfl (by decide +kernel) ?_
                                refine q_iload rfl rfl ?_
                                refine q_iastorev (m := 5) (w9 := (w1.set 55 (.inl (0, .inl ([x1, x2, x3, x4, (((x1 + x2) + x3) + x4), x5, 0, 0]))))) rfl (by decide) rfl (by decide +kernel) (Nat.le_of_ble_eq_true rfl) rfl ?_
                                refine q_aload_n rfl rfl ?_
                                refine q_get rfl rfl rfl rfl ?_
                                refine q_bipushv (v := (6 : Int32)) rfl (by decide +kernel) ?_
                                refine q_iload rfl rfl ?_
                                refine q_iastorev (m := 6) (w9 := (w1.set 55 (.inl (0, .inl ([x1, x2, x3, x4, (((x1 + x2) + x3) + x4), x5, x6, 0]))))) rfl (by decide) rfl (by decide +kernel) (Nat.le_of_ble_eq_true rfl) rfl ?_
                                refine q_aload_n rfl rfl ?_
                                refine q_get rfl rfl rfl rfl ?_
                                refine q_bipushv (v := (7 : Int32)) rfl (by decide +kernel) ?_
                                refine q_iload rfl rfl ?_
                                refine q_iastorev (m := 7) (w9 := (w1.set 55 (.inl (0, .inl ([x1, x2, x3, x4, (((x1 + x2) + x3) + x4), x5, x6, x7]))))) rfl (by decide) rfl (by decide +kernel) (Nat.le_of_ble_eq_true rfl) rfl ?_
                                refine q_aload_n rfl rfl ?_
                                refine q_call rfl rfl rfl rfl ?_
                                refine q_aload_n rfl rfl ?_
                                refine q_get rfl rfl rfl rfl ?_
                                refine q_if_ne_f (t := 28) rfl (by decide) (i_nne (a := (0 : Int)) (b := (0 : Int)) (by decide +kernel) (by decide +kernel) (by omega)) ?_
                                refine q_aload_n rfl rfl ?_
                                refine q_get rfl rfl rfl rfl ?_
                                refine q_iconstv (v := (0 : Int32)) rfl (by decide +kernel) ?_
                                refine q_ialoadv (m := 0) rfl (by decide) (by decide) rfl (by decide +kernel) rfl ?_
                                refine q_bipushv (v := (90 : Int32)) rfl (by decide +kernel) ?_
                                refine q_imul rfl ?_
                                refine q_aload_n rfl rfl ?_
                                refine q_get rfl rfl rfl rfl ?_
                                refine q_iconstv (v := (4 : Int32)) rfl (by decide +kernel) ?_
                                refine q_ialoadv (m := 4) rfl (by decide) (by decide) rfl (by decide +kernel) rfl ?_
                                refine q_iconstv (v := (1 : Int32)) rfl (by decide +kernel) ?_
                                refine q_iadd rfl ?_
                                refine q_idiv rfl (i_ne (a := (((((x1).toInt + (x2).toInt) + (x3).toInt) + (x4).toInt) + (1 : Int))) (b := 0) (i_add (i_add (i_add (i_add rfl rfl (by omega) (by omega)) rfl (by omega) (by omega)) rfl (by omega) (by omega)) (by decide +kernel) (by omega) (by omega)) (by decide +kernel) (by omega)) ?_
                                refine q_goto (t := 32) rfl (by decide) ?_
                                refine q_istore_n rfl (by decide) ?_
                                refine q_iload_n rfl rfl ?_
                                refine q_if_ge_f (t := 41) rfl (by decide) (i_nle_r (a := (((x1 * (90 : Int32)) / ((((x1 + x2) + x3) + x4) + (1 : Int32)))).toInt) (b := (0 : Int)) rfl (by decide +kernel) (by omega)) ?_
                                refine q_iconstv (v := (0 : Int32)) rfl (by decide +kernel) ?_
                                refine q_goto (t := 53) rfl (by decide) ?_
                                refine q_iret rfl rfl ?_
                                refine bk_inl ?_
                                refine q_iret rfl rfl ?_
                                refine bk_inl ?_
                                refine q_iret rfl rfl ?_
                                refine bk_inl ?_
                                refine q_istore rfl (by decide) ?_
                                refine q_aload_n rfl rfl ?_
                                refine q_call rfl rfl rfl rfl ?_
                                refine q_aload_n rfl rfl ?_
                                refine q_get rfl rfl rfl rfl ?_
                                refine q_iret rfl rfl ?_
                                refine bk_inl ?_
                                refine q_iload rfl rfl ?_
                                refine q_ic_eq_t (t := 1035) rfl (by decide) (i_eq (a := (0 : Int)) (b := (0 : Int)) (by decide +kernel) (by decide +kernel) (by omega)) ?_
                                refine q_iload rfl rfl ?_
                                refine q_if_ne_f (t := 1052) rfl (by decide) (i_nne (a := (0 : Int)) (b := (0 : Int)) (by decide +kernel) (by decide +kernel) (by omega)) ?_
                                refine q_aload_n rfl rfl ?_
                                refine q_iconstv (v := (0 : Int32)) rfl (by decide +kernel) ?_
                                refine q_laloadv (m := 0) rfl (by decide) rfl (by decide +kernel) rfl ?_
                                refine q_iload rfl rfl ?_
                                refine q_i2lv (v := (0 : Int64)) rfl (by decide +kernel) ?_
                                refine q_lcmpv (v := (0 : Int32)) rfl (by decide +kernel) ?_
                                refine q_if_eq_t (t := 1052) rfl (by decide) (i_eq (a := (0 : Int)) (b := (0 : Int)) (by decide +kernel) (by decide +kernel) (by omega)) ?_
                                refine q_goto (t := 2739) rfl (by decide) ?_
                                refine q_iincv (v := (8 : Int32)) rfl rfl (by decide) (by decide +kernel) ?_
                                refine q_goto (t := 23) rfl (by decide) ?_
                                exact q_end rfl rfl (by decide) (by decide)
