/-! ===== the calls on a fresh object, one by one ===== -/
set_option maxRecDepth 100000 in
set_option maxHeartbeats 4000000 in
theorem op_1 {x0 x1 x2 x3 x4 x5 x6 x7 : Int32} : Wp [x0, x1, x2, x3, x4, x5, x6, x7] 100 296 301 l1 [] w1 68 8870 Qlaw := by
  refine q_aload_n rfl rfl ?_
  refine q_aload_n rfl rfl ?_
  refine q_iload rfl rfl ?_
  refine q_iconstv (v := (1 : Int32)) rfl (by decide +kernel) ?_
  refine q_iaddv (v := (1 : Int32)) rfl (by decide +kernel) ?_
  refine q_script rfl (by decide) rfl ?_
  refine q_aload_n rfl rfl ?_
  refine q_call rfl rfl rfl rfl ?_
  refine q_aload_n rfl rfl ?_
  refine q_iconstv (v := (0 : Int32)) rfl (by decide +kernel) ?_
  refine q_aload_n rfl rfl ?_
  refine q_iload_n rfl rfl ?_
  refine q_call rfl rfl rfl rfl ?_
  refine q_aload_n rfl rfl ?_
  refine q_iload_n rfl rfl ?_
  refine q_sipushv (v := (600 : Int32)) rfl (by decide +kernel) ?_
  refine q_call rfl rfl rfl rfl ?_
  refine q_aload_n rfl rfl ?_
  refine q_iload_n rfl rfl ?_
  refine q_iconstv (v := (0 : Int32)) rfl (by decide +kernel) ?_
  refine q_iload_n rfl rfl ?_
  refine q_aload_n rfl rfl ?_
  refine q_get rfl rfl rfl rfl ?_
  refine q_get rfl rfl rfl rfl ?_
  refine q_mmin (z := (0 : Int32)) rfl rfl ⟨by decide, Nat.le_of_ble_eq_true rfl⟩ (by decide +kernel) ?_
  refine q_call rfl rfl rfl rfl ?_
  refine q_iload_n rfl rfl ?_
  refine q_iload_n rfl rfl ?_
  by_cases h1 : (x1).toInt < 0
  · refine q_ic_lt_t (t := 14) rfl (by decide) (i_lt (a := (x1).toInt) (b := (0 : Int)) rfl (by decide +kernel) (by omega)) ?_
    refine q_iconstv (v := (0 : Int32)) rfl (by decide +kernel) ?_
    refine q_zret rfl rfl (by decide) ?_
    refine bk_inl ?_
    refine q_call rfl rfl rfl rfl ?_
    refine q_iload_n rfl rfl ?_
    refine q_if_ne_f (t := 25) rfl (by decide) (i_nne (a := (0 : Int)) (b := (0 : Int)) (by decide +kernel) (by decide +kernel) (by omega)) ?_
    refine q_aload_n rfl rfl ?_
    refine q_dup rfl rfl ?_
    refine q_get rfl rfl rfl rfl ?_
    refine q_iconstv (v := (1 : Int32)) rfl (by decide +kernel) ?_
    refine q_iaddv (v := (1 : Int32)) rfl (by decide +kernel) ?_
    refine q_putv (w9 := (w1.set 0 (.inr (7, [.ref 1, .ref 3, .ref 7, .ref 9, .ref 10, .ref 11, .ref 12, .ref 13, .ref 25, .ref 37, .ref 39, .int 0, .int 0, .int 1])))) rfl rfl rfl (by decide) rfl (by decide) rfl ?_
    refine q_fin rfl rfl rfl ?_
    refine bk_out rfl rfl ?_
    refine bk_out rfl rfl ?_
    refine bk_thr (z := (1 : Int32)) rfl ⟨_, _, rfl⟩ rfl ?_
    refine bk_inl ?_
    refine q_istore rfl (by decide) ?_
    refine q_aload_n rfl rfl ?_
    refine q_aload_n rfl rfl ?_
    refine q_iload rfl rfl ?_
    refine q_iconstv (v := (1 : Int32)) rfl (by decide +kernel) ?_
    refine q_iaddv (v := (1 : Int32)) rfl (by decide +kernel) ?_
    refine q_script rfl (by decide) rfl ?_
    refine q_call rfl rfl rfl rfl ?_
    refine q_aload_n rfl rfl ?_
    refine q_iconstv (v := (0 : Int32)) rfl (by decide +kernel) ?_
    refine q_putv (w9 := (w1.set 0 (.inr (7, [.ref 1, .ref 3, .ref 7, .ref 9, .ref 10, .ref 11, .ref 12, .ref 13, .ref 25, .ref 37, .ref 39, .int 0, .int 0, .int 1])))) rfl rfl rfl (by decide) rfl (by decide) rfl ?_
    refine q_aload_n rfl rfl ?_
    refine q_iload_n rfl rfl ?_
    refine q_if_lt_t (t := 22) rfl (by decide) (i_lt (a := (x1).toInt) (b := (0 : Int)) rfl (by decide +kernel) (by omega)) ?_
    refine q_iconstv (v := (0 : Int32)) rfl (by decide +kernel) ?_
    refine q_iconstv (v := (1 : Int32)) rfl (by decide +kernel) ?_
    refine q_iconstv (v := (1 : Int32)) rfl (by decide +kernel) ?_
    refine q_call rfl rfl rfl rfl ?_
    refine q_iload_n rfl rfl ?_
    refine q_if_ne_f (t := 26) rfl (by decide) (i_nne (a := (0 : Int)) (b := (0 : Int)) (by decide +kernel) (by decide +kernel) (by omega)) ?_
    refine q_aload_n rfl rfl ?_
    refine q_get rfl rfl rfl rfl ?_
    refine q_if_ne_f (t := 26) rfl (by decide) (i_nne (a := (0 : Int)) (b := (0 : Int)) (by decide +kernel) (by decide +kernel) (by omega)) ?_
    refine q_aload_n rfl rfl ?_
    refine q_iload_n rfl rfl ?_
    refine q_putv (w9 := ((w1.set 0 (.inr (7, [.ref 1, .ref 3, .ref 7, .ref 9, .ref 10, .ref 11, .ref 12, .ref 13, .ref 25, .ref 37, .ref 39, .int 0, .int 0, .int 1]))).set 41 (.inr (8, [.int 1, .ref 42, .int 0, .int 0, .int 0, .int 0, .int 0, .int 0, .int (-1), .ref 43, .ref 44, .ref 45, .ref 46, .ref 47, .ref 48, .ref 49, .int 0, .int 0, .int 0, .int 5, .int 0, .int 0, .int 0, .int 5, .ref 50, .ref 51, .ref 52, .ref 53, .ref 54, .int 0, .int 0, .ref 55, .ref 56, .ref 57, .int 0, .int 0, .int 0, .int 0, .int 0, .int 0, .ref 58, .ref 59, .ref 60, .ref 61, .ref 62, .ref 63, .ref 64, .int 0, .int 0, .ref 65, .int 0, .ref 66, .int 0])))) rfl rfl rfl (by decide) rfl (by decide) rfl ?_
    refine q_aload_n rfl rfl ?_
    refine q_get rfl rfl rfl rfl ?_
    refine q_iload_n rfl rfl ?_
    refine q_dup2 rfl ⟨rfl, rfl⟩ ?_
    refine q_ialoadv (m := 1) rfl (by decide) (by decide) rfl (by decide +kernel) rfl ?_
    refine q_iconstv (v := (1 : Int32)) rfl (by decide +kernel) ?_
    refine q_iaddv (v := (1 : Int32)) rfl (by decide +kernel) ?_
    refine q_iastorev (m := 1) (w9 := (((w1.set 0 (.inr (7, [.ref 1, .ref 3, .ref 7, .ref 9, .ref 10, .ref 11, .ref 12, .ref 13, .ref 25, .ref 37, .ref 39, .int 0, .int 0, .int 1]))).set 41 (.inr (8, [.int 1, .ref 42, .int 0, .int 0, .int 0, .int 0, .int 0, .int 0, .int (-1), .ref 43, .ref 44, .ref 45, .ref 46, .ref 47, .ref 48, .ref 49, .int 0, .int 0, .int 0, .int 5, .int 0, .int 0, .int 0, .int 5, .ref 50, .ref 51, .ref 52, .ref 53, .ref 54, .int 0, .int 0, .ref 55, .ref 56, .ref 57, .int 0, .int 0, .int 0, .int 0, .int 0, .int 0, .ref 58, .ref 59, .ref 60, .ref 61, .ref 62, .ref 63, .ref 64, .int 0, .int 0, .ref 65, .int 0, .ref 66, .int 0]))).set 42 (.inl (0, .inl ([0, 1]))))) rfl (by decide) rfl (by decide +kernel) (by decide) rfl ?_
    refine q_aload_n rfl rfl ?_
    refine q_get rfl rfl rfl rfl ?_
    refine q_if_ne_t (t := 37) rfl (by decide) (i_ne (a := (1 : Int)) (b := (0 : Int)) (by decide +kernel) (by decide +kernel) (by omega)) ?_
    refine q_iconstv (v := (0 : Int32)) rfl (by decide +kernel) ?_
    refine q_zret rfl rfl (by decide) ?_
    refine bk_inl ?_
    refine q_if_ne_f (t := 33) rfl (by decide) (i_nne (a := (0 : Int)) (b := (0 : Int)) (by decide +kernel) (by decide +kernel) (by omega)) ?_
    refine q_iconstv (v := (0 : Int32)) rfl (by decide +kernel) ?_
    refine q_iret rfl rfl ?_
    refine bk_inl ?_
    refine q_istore rfl (by decide) ?_
    refine q_aload_n rfl rfl ?_
    refine q_call rfl rfl rfl rfl ?_
    refine q_aload_n rfl rfl ?_
    refine q_get rfl rfl rfl rfl ?_
    refine q_iret rfl rfl ?_
    refine bk_inl ?_
    refine q_iload rfl rfl ?_
    refine q_ic_eq_t (t := 337) rfl (by decide) (i_eq (a := (1 : Int)) (b := (1 : Int)) (by decide +kernel) (by decide +kernel) (by omega)) ?_
    refine q_iload rfl rfl ?_
    refine q_if_ne_t (t := 354) rfl (by decide) (i_ne (a := (1 : Int)) (b := (0 : Int)) (by decide +kernel) (by decide +kernel) (by omega)) ?_
    refine q_goto (t := 2739) rfl (by decide) ?_
    refine q_iincv (v := (8 : Int32)) rfl rfl (by decide) (by decide +kernel) ?_
    refine q_goto (t := 23) rfl (by decide) ?_
    exact q_end rfl rfl (by decide) (by decide)
  · refine q_ic_lt_f (t := 14) rfl (by decide) (i_nlt (a := (x1).toInt) (b := (0 : Int)) rfl (by decide +kernel) (by omega)) ?_
    refine q_iload_n rfl rfl ?_
    refine q_iload_n rfl rfl ?_
    by_cases h2 : (x1).toInt > 0
    · refine q_ic_gt_t (t := 14) rfl (by decide) (i_lt_r (a := (x1).toInt) (b := (0 : Int)) rfl (by decide +kernel) (by omega)) ?_
      refine q_iconstv (v := (0 : Int32)) rfl (by decide +kernel) ?_
      refine q_zret rfl rfl (by decide) ?_
      refine bk_inl ?_
      refine q_call rfl rfl rfl rfl ?_
      refine q_iload_n rfl rfl ?_
      refine q_if_ne_f (t := 25) rfl (by decide) (i_nne (a := (0 : Int)) (b := (0 : Int)) (by decide +kernel) (by decide +kernel) (by omega)) ?_
      refine q_aload_n rfl rfl ?_
      refine q_dup rfl rfl ?_
      refine q_get rfl rfl rfl rfl ?_
      refine q_iconstv (v := (1 : Int32)) rfl (by decide +kernel) ?_
      refine q_iaddv (v := (1 : Int32)) rfl (by decide +kernel) ?_
      refine q_putv (w9 := (w1.set 0 (.inr (7, [.ref 1, .ref 3, .ref 7, .ref 9, .ref 10, .ref 11, .ref 12, .ref 13, .ref 25, .ref 37, .ref 39, .int 0, .int 0, .int 1])))) rfl rfl rfl (by decide) rfl (by decide) rfl ?_
      refine q_fin rfl rfl rfl ?_
      refine bk_out rfl rfl ?_
      refine bk_out rfl rfl ?_
      refine bk_thr (z := (1 : Int32)) rfl ⟨_, _, rfl⟩ rfl ?_
      refine bk_inl ?_
      refine q_istore rfl (by decide) ?_
      refine q_aload_n rfl rfl ?_
      refine q_aload_n rfl rfl ?_
      refine q_iload rfl rfl ?_
      refine q_iconstv (v := (1 : Int32)) rfl (by decide +kernel) ?_
      refine q_iaddv (v := (1 : Int32)) rfl (by decide +kernel) ?_
      refine q_script rfl (by decide) rfl ?_
      refine q_call rfl rfl rfl rfl ?_
      refine q_aload_n rfl rfl ?_
      refine q_iconstv (v := (0 : Int32)) rfl (by decide +kernel) ?_
      refine q_putv (w9 := (w1.set 0 (.inr (7, [.ref 1, .ref 3, .ref 7, .ref 9, .ref 10, .ref 11, .ref 12, .ref 13, .ref 25, .ref 37, .ref 39, .int 0, .int 0, .int 1])))) rfl rfl rfl (by decide) rfl (by decide) rfl ?_
      refine q_aload_n rfl rfl ?_
      refine q_iload_n rfl rfl ?_
      refine q_if_lt_f (t := 22) rfl (by decide) (i_nlt (a := (x1).toInt) (b := (0 : Int)) rfl (by decide +kernel) (by omega)) ?_
      refine q_iload_n rfl rfl ?_
      refine q_aload_n rfl rfl ?_
      refine q_get rfl rfl rfl rfl ?_
      refine q_ic_gt_t (t := 22) rfl (by decide) (i_lt_r (a := (x1).toInt) (b := (0 : Int)) rfl (by decide +kernel) (by omega)) ?_
      refine q_iconstv (v := (0 : Int32)) rfl (by decide +kernel) ?_
      refine q_iconstv (v := (1 : Int32)) rfl (by decide +kernel) ?_
      refine q_iconstv (v := (1 : Int32)) rfl (by decide +kernel) ?_
      refine q_call rfl rfl rfl rfl ?_
      refine q_iload_n rfl rfl ?_
      refine q_if_ne_f (t := 26) rfl (by decide) (i_nne (a := (0 : Int)) (b := (0 : Int)) (by decide +kernel) (by decide +kernel) (by omega)) ?_
      refine q_aload_n rfl rfl ?_
      refine q_get rfl rfl rfl rfl ?_
      refine q_if_ne_f (t := 26) rfl (by decide) (i_nne (a := (0 : Int)) (b := (0 : Int)) (by decide +kernel) (by decide +kernel) (by omega)) ?_
      refine q_aload_n rfl rfl ?_
      refine q_iload_n rfl rfl ?_
      refine q_putv (w9 := ((w1.set 0 (.inr (7, [.ref 1, .ref 3, .ref 7, .ref 9, .ref 10, .ref 11, .ref 12, .ref 13, .ref 25, .ref 37, .ref 39, .int 0, .int 0, .int 1]))).set 41 (.inr (8, [.int 1, .ref 42, .int 0, .int 0, .int 0, .int 0, .int 0, .int 0, .int (-1), .ref 43, .ref 44, .ref 45, .ref 46, .ref 47, .ref 48, .ref 49, .int 0, .int 0, .int 0, .int 5, .int 0, .int 0, .int 0, .int 5, .ref 50, .ref 51, .ref 52, .ref 53, .ref 54, .int 0, .int 0, .ref 55, .ref 56, .ref 57, .int 0, .int 0, .int 0, .int 0, .int 0, .int 0, .ref 58, .ref 59, .ref 60, .ref 61, .ref 62, .ref 63, .ref 64, .int 0, .int 0, .ref 65, .int 0, .ref 66, .int 0])))) rfl rfl rfl (by decide) rfl (by decide) rfl ?_
      refine q_aload_n rfl rfl ?_
      refine q_get rfl rfl rfl rfl ?_
      refine q_iload_n rfl rfl ?_
      refine q_dup2 rfl ⟨rfl, rfl⟩ ?_
      refine q_ialoadv (m := 1) rfl (by decide) (by decide) rfl (by decide +kernel) rfl ?_
      refine q_iconstv (v := (1 : Int32)) rfl (by decide +kernel) ?_
      refine q_iaddv (v := (1 : Int32)) rfl (by decide +kernel) ?_
      refine q_iastorev (m := 1) (w9 := (((w1.set 0 (.inr (7, [.ref 1, .ref 3, .ref 7, .ref 9, .ref 10, .ref 11, .ref 12, .ref 13, .ref 25, .ref 37, .ref 39, .int 0, .int 0, .int 1]))).set 41 (.inr (8, [.int 1, .ref 42, .int 0, .int 0, .int 0, .int 0, .int 0, .int 0, .int (-1), .ref 43, .ref 44, .ref 45, .ref 46, .ref 47, .ref 48, .ref 49, .int 0, .int 0, .int 0, .int 5, .int 0, .int 0, .int 0, .int 5, .ref 50, .ref 51, .ref 52, .ref 53, .ref 54, .int 0, .int 0, .ref 55, .ref 56, .ref 57, .int 0, .int 0, .int 0, .int 0, .int 0, .int 0, .ref 58, .ref 59, .ref 60, .ref 61, .ref 62, .ref 63, .ref 64, .int 0, .int 0, .ref 65, .int 0, .ref 66, .int 0]))).set 42 (.inl (0, .inl ([0, 1]))))) rfl (by decide) rfl (by decide +kernel) (by decide) rfl ?_
      refine q_aload_n rfl rfl ?_
      refine q_get rfl rfl rfl rfl ?_
      refine q_if_ne_t (t := 37) rfl (by decide) (i_ne (a := (1 : Int)) (b := (0 : Int)) (by decide +kernel) (by decide +kernel) (by omega)) ?_
      refine q_iconstv (v := (0 : Int32)) rfl (by decide +kernel) ?_
      refine q_zret rfl rfl (by decide) ?_
      refine bk_inl ?_
      refine q_if_ne_f (t := 33) rfl (by decide) (i_nne (a := (0 : Int)) (b := (0 : Int)) (by decide +kernel) (by decide +kernel) (by omega)) ?_
      refine q_iconstv (v := (0 : Int32)) rfl (by decide +kernel) ?_
      refine q_iret rfl rfl ?_
      refine bk_inl ?_
      refine q_istore rfl (by decide) ?_
      refine q_aload_n rfl rfl ?_
      refine q_call rfl rfl rfl rfl ?_
      refine q_aload_n rfl rfl ?_
      refine q_get rfl rfl rfl rfl ?_
      refine q_iret rfl rfl ?_
      refine bk_inl ?_
      refine q_iload rfl rfl ?_
      refine q_ic_eq_t (t := 337) rfl (by decide) (i_eq (a := (1 : Int)) (b := (1 : Int)) (by decide +kernel) (by decide +kernel) (by omega)) ?_
      refine q_iload rfl rfl ?_
      refine q_if_ne_t (t := 354) rfl (by decide) (i_ne (a := (1 : Int)) (b := (0 : Int)) (by decide +kernel) (by decide +kernel) (by omega)) ?_
      refine q_goto (t := 2739) rfl (by decide) ?_
      refine q_iincv (v := (8 : Int32)) rfl rfl (by decide) (by decide +kernel) ?_
      refine q_goto (t := 23) rfl (by decide) ?_
      exact q_end rfl rfl (by decide) (by decide)
    · refine q_ic_gt_f (t := 14) rfl (by decide) (i_nlt_r (a := (x1).toInt) (b := (0 : Int)) rfl (by decide +kernel) (by omega)) ?_
      obtain rfl : x1 = (0 : Int32) := i_eq (a := (x1).toInt) (b := 0) rfl (by decide +kernel) (by omega)
      refine q_iconstv (v := (1 : Int32)) rfl (by decide +kernel) ?_
      refine q_goto (t := 15) rfl (by decide) ?_
      refine q_zret rfl rfl (by decide) ?_
      refine bk_inl ?_
      refine q_call rfl rfl rfl rfl ?_
      refine q_iload_n rfl rfl ?_
      refine q_if_ne_t (t := 25) rfl (by decide) (i_ne (a := (1 : Int)) (b := (0 : Int)) (by decide +kernel) (by decide +kernel) (by omega)) ?_
      refine q_vret rfl rfl ?_
      refine bk_inl ?_
      refine q_aload_n rfl rfl ?_
      refine q_get rfl rfl rfl rfl ?_
      refine q_iload_n rfl rfl ?_
      refine q_call rfl rfl rfl rfl ?_
      refine q_aload_n rfl rfl ?_
      refine q_iload_n rfl rfl ?_
      refine q_aload_n rfl rfl ?_
      refine q_get rfl rfl rfl rfl ?_
      refine q_mmin (z := (0 : Int32)) rfl rfl ⟨by decide, Nat.le_of_ble_eq_true rfl⟩ (by decide +kernel) ?_
      refine q_putv (w9 := w1) rfl rfl rfl (by decide) rfl (by decide) rfl ?_
      refine q_aload_n rfl rfl ?_
      refine q_iconstv (v := (0 : Int32)) rfl (by decide +kernel) ?_
      refine q_putv (w9 := w1) rfl rfl rfl (by decide) rfl (by decide) rfl ?_
      refine q_aload_n rfl rfl ?_
      refine q_iconstv (v := (0 : Int32)) rfl (by decide +kernel) ?_
      refine q_putv (w9 := w1) rfl rfl rfl (by decide) rfl (by decide) rfl ?_
      refine q_aload_n rfl rfl ?_
      refine q_iconstv (v := (0 : Int32)) rfl (by decide +kernel) ?_
      refine q_putv (w9 := w1) rfl rfl rfl (by decide) rfl (by decide) rfl ?_
      refine q_aload_n rfl rfl ?_
      refine q_iconstv (v := (-1 : Int32)) rfl (by decide +kernel) ?_
      refine q_putv (w9 := w1) rfl rfl rfl (by decide) rfl (by decide) rfl ?_
      refine q_vret rfl rfl ?_
      refine bk_inl ?_
      refine q_vret rfl rfl ?_
      refine bk_inl ?_
      refine q_aload_n rfl rfl ?_
      refine q_get rfl rfl rfl rfl ?_
      refine q_aload_n rfl rfl ?_
      refine q_get rfl rfl rfl rfl ?_
      refine q_clo (v := none) (w9 := w1) (a := 0) (b := 0) (ags := [.ref 25, .ref 1]) rfl rfl rfl rfl cl_0 ?_
      refine q_aload_n rfl rfl ?_
      refine q_get rfl rfl rfl rfl ?_
      refine q_call rfl rfl rfl rfl ?_
      refine q_aload_n rfl rfl ?_
      refine q_get rfl rfl rfl rfl ?_
      refine q_if_ne_f (t := 11) rfl (by decide) (i_nne (a := (0 : Int)) (b := (0 : Int)) (by decide +kernel) (by decide +kernel) (by omega)) ?_
      refine q_iconstv (v := (1 : Int32)) rfl (by decide +kernel) ?_
      refine q_goto (t := 12) rfl (by decide) ?_
      refine q_zret rfl rfl (by decide) ?_
      refine bk_inl ?_
      refine q_if_eq_f (t := 81) rfl (by decide) (i_ne (a := (1 : Int)) (b := (0 : Int)) (by decide +kernel) (by decide +kernel) (by omega)) ?_
      refine q_aload_n rfl rfl ?_
      refine q_get rfl rfl rfl rfl ?_
      refine q_astore_n rfl (by decide) ?_
      refine q_aload_n rfl rfl ?_
      refine q_aload_n rfl rfl ?_
      refine q_get rfl rfl rfl rfl ?_
      refine q_putv (w9 := (w1.set 0 (.inr (7, [.ref 1, .ref 3, .ref 7, .ref 9, .ref 10, .ref 11, .ref 12, .ref 25, .ref 25, .ref 37, .ref 39, .int 0, .int 0, .int 0])))) rfl rfl rfl (by decide) rfl (by decide) rfl ?_
      refine q_aload_n rfl rfl ?_
      refine q_aload_n rfl rfl ?_
      refine q_putv (w9 := (w1.set 0 (.inr (7, [.ref 1, .ref 3, .ref 7, .ref 9, .ref 10, .ref 11, .ref 12, .ref 25, .ref 13, .ref 37, .ref 39, .int 0, .int 0, .int 0])))) rfl rfl rfl (by decide) rfl (by decide) rfl ?_
      refine q_aload_n rfl rfl ?_
      refine q_get rfl rfl rfl rfl ?_
      refine q_aload_n rfl rfl ?_
      refine q_get rfl rfl rfl rfl ?_
      refine q_clo (v := none) (w9 := ((w1.set 0 (.inr (7, [.ref 1, .ref 3, .ref 7, .ref 9, .ref 10, .ref 11, .ref 12, .ref 25, .ref 13, .ref 37, .ref 39, .int 0, .int 0, .int 0]))).set 37 (.inr (4, [.ref 38, .ref 25])))) (a := 0) (b := 0) (ags := [.ref 37, .ref 25]) rfl rfl rfl rfl cl_1 ?_
      refine q_aload_n rfl rfl ?_
      refine q_get rfl rfl rfl rfl ?_
      refine q_aload_n rfl rfl ?_
      refine q_get rfl rfl rfl rfl ?_
      refine q_clo (v := none) (w9 := (((w1.set 0 (.inr (7, [.ref 1, .ref 3, .ref 7, .ref 9, .ref 10, .ref 11, .ref 12, .ref 25, .ref 13, .ref 37, .ref 39, .int 0, .int 0, .int 0]))).set 37 (.inr (4, [.ref 38, .ref 25]))).set 39 (.inr (4, [.ref 40, .ref 25])))) (a := 0) (b := 0) (ags := [.ref 39, .ref 25]) rfl rfl rfl rfl cl_2 ?_
      refine q_aload_n rfl rfl ?_
      refine q_get rfl rfl rfl rfl ?_
      refine q_call rfl rfl rfl rfl ?_
      refine q_aload_n rfl rfl ?_
      refine q_iconstv (v := (0 : Int32)) rfl (by decide +kernel) ?_
      refine q_putv (w9 := (((w1.set 0 (.inr (7, [.ref 1, .ref 3, .ref 7, .ref 9, .ref 10, .ref 11, .ref 12, .ref 25, .ref 13, .ref 37, .ref 39, .int 0, .int 0, .int 0]))).set 37 (.inr (4, [.ref 38, .ref 25]))).set 39 (.inr (4, [.ref 40, .ref 25])))) rfl rfl rfl (by decide) rfl (by decide) rfl ?_
      refine q_aload_n rfl rfl ?_
      refine q_iconstv (v := (0 : Int32)) rfl (by decide +kernel) ?_
      refine q_putv (w9 := (((w1.set 0 (.inr (7, [.ref 1, .ref 3, .ref 7, .ref 9, .ref 10, .ref 11, .ref 12, .ref 25, .ref 13, .ref 37, .ref 39, .int 0, .int 0, .int 0]))).set 37 (.inr (4, [.ref 38, .ref 25]))).set 39 (.inr (4, [.ref 40, .ref 25])))) rfl rfl rfl (by decide) rfl (by decide) rfl ?_
      refine q_vret rfl rfl ?_
      refine bk_inl ?_
      refine q_aload_n rfl rfl ?_
      refine q_iconstv (v := (0 : Int32)) rfl (by decide +kernel) ?_
      refine q_putv (w9 := (((w1.set 0 (.inr (7, [.ref 1, .ref 3, .ref 7, .ref 9, .ref 10, .ref 11, .ref 12, .ref 25, .ref 13, .ref 37, .ref 39, .int 0, .int 0, .int 0]))).set 37 (.inr (4, [.ref 38, .ref 25]))).set 39 (.inr (4, [.ref 40, .ref 25])))) rfl rfl rfl (by decide) rfl (by decide) rfl ?_
      refine q_aload_n rfl rfl ?_
      refine q_aload_n rfl rfl ?_
      refine q_get rfl rfl rfl rfl ?_
      refine q_get rfl rfl rfl rfl ?_
      refine q_call rfl rfl rfl rfl ?_
      refine q_aload_n rfl rfl ?_
      refine q_get rfl rfl rfl rfl ?_
      refine q_call rfl rfl rfl rfl ?_
      refine q_aload_n rfl rfl ?_
      refine q_get rfl rfl rfl rfl ?_
      refine q_if_ne_f (t := 11) rfl (by decide) (i_nne (a := (0 : Int)) (b := (0 : Int)) (by decide +kernel) (by decide +kernel) (by omega)) ?_
      refine q_iconstv (v := (1 : Int32)) rfl (by decide +kernel) ?_
      refine q_goto (t := 12) rfl (by decide) ?_
      refine q_zret rfl rfl (by decide) ?_
      refine bk_inl ?_
      refine q_if_eq_f (t := 14) rfl (by decide) (i_ne (a := (1 : Int)) (b := (0 : Int)) (by decide +kernel) (by decide +kernel) (by omega)) ?_
      refine q_iload_n rfl rfl ?_
      refine q_goto (t := 24) rfl (by decide) ?_
      refine q_iret rfl rfl ?_
      refine bk_inl ?_
      refine q_iret rfl rfl ?_
      refine bk_inl ?_
      refine q_i2lv (v := (0 : Int64)) rfl (by decide +kernel) ?_
      refine q_lastorev (m := 0) (w9 := (((w1.set 0 (.inr (7, [.ref 1, .ref 3, .ref 7, .ref 9, .ref 10, .ref 11, .ref 12, .ref 25, .ref 13, .ref 37, .ref 39, .int 0, .int 0, .int 0]))).set 37 (.inr (4, [.ref 38, .ref 25]))).set 39 (.inr (4, [.ref 40, .ref 25])))) rfl (by decide) rfl (by decide +kernel) (by decide) rfl ?_
      refine q_goto (t := 15) rfl (by decide) ?_
      refine q_iconstv (v := (0 : Int32)) rfl (by decide +kernel) ?_
      refine q_iret rfl rfl ?_
      refine bk_inl ?_
      refine q_istore rfl (by decide) ?_
      refine q_aload_n rfl rfl ?_
      refine q_aload_n rfl rfl ?_
      refine q_iload rfl rfl ?_
      refine q_iconstv (v := (1 : Int32)) rfl (by decide +kernel) ?_
      refine q_iaddv (v := (1 : Int32)) rfl (by decide +kernel) ?_
      refine q_script rfl (by decide) rfl ?_
      refine q_clo (v := (some (.int 0))) (w9 := ((((w1.set 0 (.inr (7, [.ref 1, .ref 3, .ref 7, .ref 9, .ref 10, .ref 11, .ref 12, .ref 25, .ref 13, .ref 37, .ref 39, .int 0, .int 0, .int 0]))).set 37 (.inr (4, [.ref 38, .ref 25]))).set 39 (.inr (4, [.ref 40, .ref 25]))).set 41 (.inr (8, [.int 0, .ref 42, .int 0, .int 0, .int 0, .int (-1), .int 0, .int 0, .int (-1), .ref 43, .ref 44, .ref 45, .ref 46, .ref 47, .ref 48, .ref 49, .int 0, .int 0, .int 0, .int 5, .int 0, .int 0, .int 0, .int 5, .ref 50, .ref 51, .ref 52, .ref 53, .ref 54, .int 0, .int 0, .ref 55, .ref 56, .ref 57, .int 0, .int 0, .int 0, .int 0, .int 0, .int 0, .ref 58, .ref 59, .ref 60, .ref 61, .ref 62, .ref 63, .ref 64, .int 0, .int 0, .ref 65, .int 0, .ref 66, .int 0])))) (a := 0) (b := 0) (ags := [.ref 41, .int 0]) rfl rfl rfl rfl cl_3 ?_
      refine q_istore rfl (by decide) ?_
      refine q_aload_n rfl rfl ?_
      refine q_call rfl rfl rfl rfl ?_
      refine q_aload_n rfl rfl ?_
      refine q_get rfl rfl rfl rfl ?_
      refine q_iret rfl rfl ?_
      refine bk_inl ?_
      refine q_iload rfl rfl ?_
      refine q_ic_eq_t (t := 337) rfl (by decide) (i_eq (a := (0 : Int)) (b := (0 : Int)) (by decide +kernel) (by decide +kernel) (by omega)) ?_
      refine q_iload rfl rfl ?_
      refine q_if_ne_f (t := 354) rfl (by decide) (i_nne (a := (0 : Int)) (b := (0 : Int)) (by decide +kernel) (by decide +kernel) (by omega)) ?_
      refine q_aload_n rfl rfl ?_
      refine q_iconstv (v := (0 : Int32)) rfl (by decide +kernel) ?_
      refine q_laloadv (m := 0) rfl (by decide) rfl (by decide +kernel) rfl ?_
      refine q_iload rfl rfl ?_
      refine q_i2lv (v := (0 : Int64)) rfl (by decide +kernel) ?_
      refine q_lcmpv (v := (0 : Int32)) rfl (by decide +kernel) ?_
      refine q_if_eq_t (t := 354) rfl (by decide) (i_eq (a := (0 : Int)) (b := (0 : Int)) (by decide +kernel) (by decide +kernel) (by omega)) ?_
      refine q_goto (t := 2739) rfl (by decide) ?_
      refine q_iincv (v := (8 : Int32)) rfl rfl (by decide) (by decide +kernel) ?_
      refine q_goto (t := 23) rfl (by decide) ?_
      exact q_end rfl rfl (by decide) (by decide)
set_option maxRecDepth 100000 in
set_option maxHeartbeats 4000000 in
theorem op_2 {x0 x1 x2 x3 x4 x5 x6 x7 : Int32} : Wp [x0, x1, x2, x3, x4, x5, x6, x7] 100 296 357 l1 [] w1 68 8870 Qlaw := by
  refine q_aload_n rfl rfl ?_
  refine q_aload_n rfl rfl ?_
  refine q_iload rfl rfl ?_
  refine q_iconstv (v := (1 : Int32)) rfl (by decide +kernel) ?_
  refine q_iaddv (v := (1 : Int32)) rfl (by decide +kernel) ?_
  refine q_script rfl (by decide) rfl ?_
  refine q_aload_n rfl rfl ?_
  refine q_call rfl rfl rfl rfl ?_
  refine q_aload_n rfl rfl ?_
  refine q_iconstv (v := (0 : Int32)) rfl (by decide +kernel) ?_
  refine q_aload_n rfl rfl ?_
  refine q_iload_n rfl rfl ?_
  refine q_call rfl rfl rfl rfl ?_
  refine q_aload_n rfl rfl ?_
  refine q_iload_n rfl rfl ?_
  refine q_sipushv (v := (150 : Int32)) rfl (by decide +kernel) ?_
  refine q_call rfl rfl rfl rfl ?_
  refine q_aload_n rfl rfl ?_
  refine q_iload_n rfl rfl ?_
  refine q_iconstv (v := (0 : Int32)) rfl (by decide +kernel) ?_
  refine q_iload_n rfl rfl ?_
  refine q_aload_n rfl rfl ?_
  refine q_get rfl rfl rfl rfl ?_
  refine q_get rfl rfl rfl rfl ?_
  refine q_mmin (z := (0 : Int32)) rfl rfl ⟨by decide, Nat.le_of_ble_eq_true rfl⟩ (by decide +kernel) ?_
  refine q_call rfl rfl rfl rfl ?_
  refine q_iload_n rfl rfl ?_
  refine q_iload_n rfl rfl ?_
  by_cases h1 : (x1).toInt < 0
  · refine q_ic_lt_t (t := 14) rfl (by decide) (i_lt (a := (x1).toInt) (b := (0 : Int)) rfl (by decide +kernel) (by omega)) ?_
    refine q_iconstv (v := (0 : Int32)) rfl (by decide +kernel) ?_
    refine q_zret rfl rfl (by decide) ?_
    refine bk_inl ?_
    refine q_call rfl rfl rfl rfl ?_
    refine q_iload_n rfl rfl ?_
    refine q_if_ne_f (t := 25) rfl (by decide) (i_nne (a := (0 : Int)) (b := (0 : Int)) (by decide +kernel) (by decide +kernel) (by omega)) ?_
    refine q_aload_n rfl rfl ?_
    refine q_dup rfl rfl ?_
    refine q_get rfl rfl rfl rfl ?_
    refine q_iconstv (v := (1 : Int32)) rfl (by decide +kernel) ?_
    refine q_iaddv (v := (1 : Int32)) rfl (by decide +kernel) ?_
    refine q_putv (w9 := (w1.set 0 (.inr (7, [.ref 1, .ref 3, .ref 7, .ref 9, .ref 10, .ref 11, .ref 12, .ref 13, .ref 25, .ref 37, .ref 39, .int 0, .int 0, .int 1])))) rfl rfl rfl (by decide) rfl (by decide) rfl ?_
    refine q_fin rfl rfl rfl ?_
    refine bk_out rfl rfl ?_
    refine bk_out rfl rfl ?_
    refine bk_thr (z := (1 : Int32)) rfl ⟨_, _, rfl⟩ rfl ?_
    refine bk_inl ?_
    refine q_istore rfl (by decide) ?_
    refine q_aload_n rfl rfl ?_
    refine q_aload_n rfl rfl ?_
    refine q_iload rfl rfl ?_
    refine q_iconstv (v := (1 : Int32)) rfl (by decide +kernel) ?_
    refine q_iaddv (v := (1 : Int32)) rfl (by decide +kernel) ?_
    refine q_script rfl (by decide) rfl ?_
    refine q_call rfl rfl rfl rfl ?_
    refine q_aload_n rfl rfl ?_
    refine q_iconstv (v := (0 : Int32)) rfl (by decide +kernel) ?_
    refine q_putv (w9 := (w1.set 0 (.inr (7, [.ref 1, .ref 3, .ref 7, .ref 9, .ref 10, .ref 11, .ref 12, .ref 13, .ref 25, .ref 37, .ref 39, .int 0, .int 0, .int 1])))) rfl rfl rfl (by decide) rfl (by decide) rfl ?_
    refine q_aload_n rfl rfl ?_
    refine q_iload_n rfl rfl ?_
    refine q_if_lt_t (t := 29) rfl (by decide) (i_lt (a := (x1).toInt) (b := (0 : Int)) rfl (by decide +kernel) (by omega)) ?_
    refine q_iconstv (v := (0 : Int32)) rfl (by decide +kernel) ?_
    refine q_iconstv (v := (1 : Int32)) rfl (by decide +kernel) ?_
    refine q_iconstv (v := (1 : Int32)) rfl (by decide +kernel) ?_
    refine q_call rfl rfl rfl rfl ?_
    refine q_iload_n rfl rfl ?_
    refine q_if_ne_f (t := 26) rfl (by decide) (i_nne (a := (0 : Int)) (b := (0 : Int)) (by decide +kernel) (by decide +kernel) (by omega)) ?_
    refine q_aload_n rfl rfl ?_
    refine q_get rfl rfl rfl rfl ?_
    refine q_if_ne_f (t := 26) rfl (by decide) (i_nne (a := (0 : Int)) (b := (0 : Int)) (by decide +kernel) (by decide +kernel) (by omega)) ?_
    refine q_aload_n rfl rfl ?_
    refine q_iload_n rfl rfl ?_
    refine q_putv (w9 := ((w1.set 0 (.inr (7, [.ref 1, .ref 3, .ref 7, .ref 9, .ref 10, .ref 11, .ref 12, .ref 13, .ref 25, .ref 37, .ref 39, .int 0, .int 0, .int 1]))).set 41 (.inr (8, [.int 1, .ref 42, .int 0, .int 0, .int 0, .int 0, .int 0, .int 0, .int (-1), .ref 43, .ref 44, .ref 45, .ref 46, .ref 47, .ref 48, .ref 49, .int 0, .int 0, .int 0, .int 5, .int 0, .int 0, .int 0, .int 5, .ref 50, .ref 51, .ref 52, .ref 53, .ref 54, .int 0, .int 0, .ref 55, .ref 56, .ref 57, .int 0, .int 0, .int 0, .int 0, .int 0, .int 0, .ref 58, .ref 59, .ref 60, .ref 61, .ref 62, .ref 63, .ref 64, .int 0, .int 0, .ref 65, .int 0, .ref 66, .int 0])))) rfl rfl rfl (by decide) rfl (by decide) rfl ?_
    refine q_aload_n rfl rfl ?_
    refine q_get rfl rfl rfl rfl ?_
    refine q_iload_n rfl rfl ?_
    refine q_dup2 rfl ⟨rfl, rfl⟩ ?_
    refine q_ialoadv (m := 1) rfl (by decide) (by decide) rfl (by decide +kernel) rfl ?_
    refine q_iconstv (v := (1 : Int32)) rfl (by decide +kernel) ?_
    refine q_iaddv (v := (1 : Int32)) rfl (by decide +kernel) ?_
    refine q_iastorev (m := 1) (w9 := (((w1.set 0 (.inr (7, [.ref 1, .ref 3, .ref 7, .ref 9, .ref 10, .ref 11, .ref 12, .ref 13, .ref 25, .ref 37, .ref 39, .int 0, .int 0, .int 1]))).set 41 (.inr (8, [.int 1, .ref 42, .int 0, .int 0, .int 0, .int 0, .int 0, .int 0, .int (-1), .ref 43, .ref 44, .ref 45, .ref 46, .ref 47, .ref 48, .ref 49, .int 0, .int 0, .int 0, .int 5, .int 0, .int 0, .int 0, .int 5, .ref 50, .ref 51, .ref 52, .ref 53, .ref 54, .int 0, .int 0, .ref 55, .ref 56, .ref 57, .int 0, .int 0, .int 0, .int 0, .int 0, .int 0, .ref 58, .ref 59, .ref 60, .ref 61, .ref 62, .ref 63, .ref 64, .int 0, .int 0, .ref 65, .int 0, .ref 66, .int 0]))).set 42 (.inl (0, .inl ([0, 1]))))) rfl (by decide) rfl (by decide +kernel) (by decide) rfl ?_
    refine q_aload_n rfl rfl ?_
    refine q_get rfl rfl rfl rfl ?_
    refine q_if_ne_t (t := 37) rfl (by decide) (i_ne (a := (1 : Int)) (b := (0 : Int)) (by decide +kernel) (by decide +kernel) (by omega)) ?_
    refine q_iconstv (v := (0 : Int32)) rfl (by decide +kernel) ?_
    refine q_zret rfl rfl (by decide) ?_
    refine bk_inl ?_
    refine q_if_ne_f (t := 40) rfl (by decide) (i_nne (a := (0 : Int)) (b := (0 : Int)) (by decide +kernel) (by decide +kernel) (by omega)) ?_
    refine q_iconstv (v := (0 : Int32)) rfl (by decide +kernel) ?_
    refine q_iret rfl rfl ?_
    refine bk_inl ?_
    refine q_istore rfl (by decide) ?_
    refine q_aload_n rfl rfl ?_
    refine q_call rfl rfl rfl rfl ?_
    refine q_aload_n rfl rfl ?_
    refine q_get rfl rfl rfl rfl ?_
    refine q_iret rfl rfl ?_
    refine bk_inl ?_
    refine q_iload rfl rfl ?_
    refine q_ic_eq_t (t := 393) rfl (by decide) (i_eq (a := (1 : Int)) (b := (1 : Int)) (by decide +kernel) (by decide +kernel) (by omega)) ?_
    refine q_iload rfl rfl ?_
    refine q_if_ne_t (t := 410) rfl (by decide) (i_ne (a := (1 : Int)) (b := (0 : Int)) (by decide +kernel) (by decide +kernel) (by omega)) ?_
    refine q_goto (t := 2739) rfl (by decide) ?_
    refine q_iincv (v := (8 : Int32)) rfl rfl (by decide) (by decide +kernel) ?_
    refine q_goto (t := 23) rfl (by decide) ?_
    exact q_end rfl rfl (by decide) (by decide)
  · refine q_ic_lt_f (t := 14) rfl (by decide) (i_nlt (a := (x1).toInt) (b := (0 : Int)) rfl (by decide +kernel) (by omega)) ?_
    refine q_iload_n rfl rfl ?_
    refine q_iload_n rfl rfl ?_
    by_cases h2 : (x1).toInt > 0
    · refine q_ic_gt_t (t := 14) rfl (by decide) (i_lt_r (a := (x1).toInt) (b := (0 : Int)) rfl (by decide +kernel) (by omega)) ?_
      refine q_iconstv (v := (0 : Int32)) rfl (by decide +kernel) ?_
      refine q_zret rfl rfl (by decide) ?_
      refine bk_inl ?_
      refine q_call rfl rfl rfl rfl ?_
      refine q_iload_n rfl rfl ?_
      refine q_if_ne_f (t := 25) rfl (by decide) (i_nne (a := (0 : Int)) (b := (0 : Int)) (by decide +kernel) (by decide +kernel) (by omega)) ?_
      refine q_aload_n rfl rfl ?_
      refine q_dup rfl rfl ?_
      refine q_get rfl rfl rfl rfl ?_
      refine q_iconstv (v := (1 : Int32)) rfl (by decide +kernel) ?_
      refine q_iaddv (v := (1 : Int32)) rfl (by decide +kernel) ?_
      refine q_putv (w9 := (w1.set 0 (.inr (7, [.ref 1, .ref 3, .ref 7, .ref 9, .ref 10, .ref 11, .ref 12, .ref 13, .ref 25, .ref 37, .ref 39, .int 0, .int 0, .int 1])))) rfl rfl rfl (by decide) rfl (by decide) rfl ?_
      refine q_fin rfl rfl rfl ?_
      refine bk_out rfl rfl ?_
      refine bk_out rfl rfl ?_
      refine bk_thr (z := (1 : Int32)) rfl ⟨_, _, rfl⟩ rfl ?_
      refine bk_inl ?_
      refine q_istore rfl (by decide) ?_
      refine q_aload_n rfl rfl ?_
      refine q_aload_n rfl rfl ?_
      refine q_iload rfl rfl ?_
      refine q_iconstv (v := (1 : Int32)) rfl (by decide +kernel) ?_
      refine q_iaddv (v := (1 : Int32)) rfl (by decide +kernel) ?_
      refine q_script rfl (by decide) rfl ?_
      refine q_call rfl rfl rfl rfl ?_
      refine q_aload_n rfl rfl ?_
      refine q_iconstv (v := (0 : Int32)) rfl (by decide +kernel) ?_
      refine q_putv (w9 := (w1.set 0 (.inr (7, [.ref 1, .ref 3, .ref 7, .ref 9, .ref 10, .ref 11, .ref 12, .ref 13, .ref 25, .ref 37, .ref 39, .int 0, .int 0, .int 1])))) rfl rfl rfl (by decide) rfl (by decide) rfl ?_
      refine q_aload_n rfl rfl ?_
      refine q_iload_n rfl rfl ?_
      refine q_if_lt_f (t := 29) rfl (by decide) (i_nlt (a := (x1).toInt) (b := (0 : Int)) rfl (by decide +kernel) (by omega)) ?_
      refine q_iload_n rfl rfl ?_
      refine q_aload_n rfl rfl ?_
      refine q_get rfl rfl rfl rfl ?_
      refine q_ic_gt_t (t := 29) rfl (by decide) (i_lt_r (a := (x1).toInt) (b := (0 : Int)) rfl (by decide +kernel) (by omega)) ?_
      refine q_iconstv (v := (0 : Int32)) rfl (by decide +kernel) ?_
      refine q_iconstv (v := (1 : Int32)) rfl (by decide +kernel) ?_
      refine q_iconstv (v := (1 : Int32)) rfl (by decide +kernel) ?_
      refine q_call rfl rfl rfl rfl ?_
      refine q_iload_n rfl rfl ?_
      refine q_if_ne_f (t := 26) rfl (by decide) (i_nne (a := (0 : Int)) (b := (0 : Int)) (by decide +kernel) (by decide +kernel) (by omega)) ?_
      refine q_aload_n rfl rfl ?_
      refine q_get rfl rfl rfl rfl ?_
      refine q_if_ne_f (t := 26) rfl (by decide) (i_nne (a := (0 : Int)) (b := (0 : Int)) (by decide +kernel) (by decide +kernel) (by omega)) ?_
      refine q_aload_n rfl rfl ?_
      refine q_iload_n rfl rfl ?_
      refine q_putv (w9 := ((w1.set 0 (.inr (7, [.ref 1, .ref 3, .ref 7, .ref 9, .ref 10, .ref 11, .ref 12, .ref 13, .ref 25, .ref 37, .ref 39, .int 0, .int 0, .int 1]))).set 41 (.inr (8, [.int 1, .ref 42, .int 0, .int 0, .int 0, .int 0, .int 0, .int 0, .int (-1), .ref 43, .ref 44, .ref 45, .ref 46, .ref 47, .ref 48, .ref 49, .int 0, .int 0, .int 0, .int 5, .int 0, .int 0, .int 0, .int 5, .ref 50, .ref 51, .ref 52, .ref 53, .ref 54, .int 0, .int 0, .ref 55, .ref 56, .ref 57, .int 0, .int 0, .int 0, .int 0, .int 0, .int 0, .ref 58, .ref 59, .ref 60, .ref 61, .ref 62, .ref 63, .ref 64, .int 0, .int 0, .ref 65, .int 0, .ref 66, .int 0])))) rfl rfl rfl (by decide) rfl (by decide) rfl ?_
      refine q_aload_n rfl rfl ?_
      refine q_get rfl rfl rfl rfl ?_
      refine q_iload_n rfl rfl ?_
      refine q_dup2 rfl ⟨rfl, rfl⟩ ?_
      refine q_ialoadv (m := 1) rfl (by decide) (by decide) rfl (by decide +kernel) rfl ?_
      refine q_iconstv (v := (1 : Int32)) rfl (by decide +kernel) ?_
      refine q_iaddv (v := (1 : Int32)) rfl (by decide +kernel) ?_
      refine q_iastorev (m := 1) (w9 := (((w1.set 0 (.inr (7, [.ref 1, .ref 3, .ref 7, .ref 9, .ref 10, .ref 11, .ref 12, .ref 13, .ref 25, .ref 37, .ref 39, .int 0, .int 0, .int 1]))).set 41 (.inr (8, [.int 1, .ref 42, .int 0, .int 0, .int 0, .int 0, .int 0, .int 0, .int (-1), .ref 43, .ref 44, .ref 45, .ref 46, .ref 47, .ref 48, .ref 49, .int 0, .int 0, .int 0, .int 5, .int 0, .int 0, .int 0, .int 5, .ref 50, .ref 51, .ref 52, .ref 53, .ref 54, .int 0, .int 0, .ref 55, .ref 56, .ref 57, .int 0, .int 0, .int 0, .int 0, .int 0, .int 0, .ref 58, .ref 59, .ref 60, .ref 61, .ref 62, .ref 63, .ref 64, .int 0, .int 0, .ref 65, .int 0, .ref 66, .int 0]))).set 42 (.inl (0, .inl ([0, 1]))))) rfl (by decide) rfl (by decide +kernel) (by decide) rfl ?_
      refine q_aload_n rfl rfl ?_
      refine q_get rfl rfl rfl rfl ?_
      refine q_if_ne_t (t := 37) rfl (by decide) (i_ne (a := (1 : Int)) (b := (0 : Int)) (by decide +kernel) (by decide +kernel) (by omega)) ?_
      refine q_iconstv (v := (0 : Int32)) rfl (by decide +kernel) ?_
      refine q_zret rfl rfl (by decide) ?_
      refine bk_inl ?_
      refine q_if_ne_f (t := 40) rfl (by decide) (i_nne (a := (0 : Int)) (b := (0 : Int)) (by decide +kernel) (by decide +kernel) (by omega)) ?_
      refine q_iconstv (v := (0 : Int32)) rfl (by decide +kernel) ?_
      refine q_iret rfl rfl ?_
      refine bk_inl ?_
      refine q_istore rfl (by decide) ?_
      refine q_aload_n rfl rfl ?_
      refine q_call rfl rfl rfl rfl ?_
      refine q_aload_n rfl rfl ?_
      refine q_get rfl rfl rfl rfl ?_
      refine q_iret rfl rfl ?_
      refine bk_inl ?_
      refine q_iload rfl rfl ?_
      refine q_ic_eq_t (t := 393) rfl (by decide) (i_eq (a := (1 : Int)) (b := (1 : Int)) (by decide +kernel) (by decide +kernel) (by omega)) ?_
      refine q_iload rfl rfl ?_
      refine q_if_ne_t (t := 410) rfl (by decide) (i_ne (a := (1 : Int)) (b := (0 : Int)) (by decide +kernel) (by decide +kernel) (by omega)) ?_
      refine q_goto (t := 2739) rfl (by decide) ?_
      refine q_iincv (v := (8 : Int32)) rfl rfl (by decide) (by decide +kernel) ?_
      refine q_goto (t := 23) rfl (by decide) ?_
      exact q_end rfl rfl (by decide) (by decide)
    · refine q_ic_gt_f (t := 14) rfl (by decide) (i_nlt_r (a := (x1).toInt) (b := (0 : Int)) rfl (by decide +kernel) (by omega)) ?_
      obtain rfl : x1 = (0 : Int32) := i_eq (a := (x1).toInt) (b := 0) rfl (by decide +kernel) (by omega)
      refine q_iconstv (v := (1 : Int32)) rfl (by decide +kernel) ?_
      refine q_goto (t := 15) rfl (by decide) ?_
      refine q_zret rfl rfl (by decide) ?_
      refine bk_inl ?_
      refine q_call rfl rfl rfl rfl ?_
      refine q_iload_n rfl rfl ?_
      refine q_if_ne_t (t := 25) rfl (by decide) (i_ne (a := (1 : Int)) (b := (0 : Int)) (by decide +kernel) (by decide +kernel) (by omega)) ?_
      refine q_vret rfl rfl ?_
      refine bk_inl ?_
      refine q_aload_n rfl rfl ?_
      refine q_get rfl rfl rfl rfl ?_
      refine q_iload_n rfl rfl ?_
      refine q_call rfl rfl rfl rfl ?_
      refine q_aload_n rfl rfl ?_
      refine q_iload_n rfl rfl ?_
      refine q_aload_n rfl rfl ?_
      refine q_get rfl rfl rfl rfl ?_
      refine q_mmin (z := (0 : Int32)) rfl rfl ⟨by decide, Nat.le_of_ble_eq_true rfl⟩ (by decide +kernel) ?_
      refine q_putv (w9 := w1) rfl rfl rfl (by decide) rfl (by decide) rfl ?_
      refine q_aload_n rfl rfl ?_
      refine q_iconstv (v := (0 : Int32)) rfl (by decide +kernel) ?_
      refine q_putv (w9 := w1) rfl rfl rfl (by decide) rfl (by decide) rfl ?_
      refine q_aload_n rfl rfl ?_
      refine q_iconstv (v := (0 : Int32)) rfl (by decide +kernel) ?_
      refine q_putv (w9 := w1) rfl rfl rfl (by decide) rfl (by decide) rfl ?_
      refine q_aload_n rfl rfl ?_
      refine q_iconstv (v := (0 : Int32)) rfl (by decide +kernel) ?_
      refine q_putv (w9 := w1) rfl rfl rfl (by decide) rfl (by decide) rfl ?_
      refine q_aload_n rfl rfl ?_
      refine q_iconstv (v := (-1 : Int32)) rfl (by decide +kernel) ?_
      refine q_putv (w9 := w1) rfl rfl rfl (by decide) rfl (by decide) rfl ?_
      refine q_vret rfl rfl ?_
      refine bk_inl ?_
      refine q_vret rfl rfl ?_
      refine bk_inl ?_
      refine q_aload_n rfl rfl ?_
      refine q_get rfl rfl rfl rfl ?_
      refine q_get rfl rfl rfl rfl ?_
      refine q_aload_n rfl rfl ?_
      refine q_get rfl rfl rfl rfl ?_
      refine q_clo (v := none) (w9 := (w1.set 1 (.inr (5, [.ref 2, .int 0, .int 0, .int 0, .int 1, .int 0])))) (a := 0) (b := 0) (ags := [.ref 20, .ref 1]) rfl rfl rfl rfl cl_4 ?_
      refine q_aload_n rfl rfl ?_
      refine q_iconstv (v := (1 : Int32)) rfl (by decide +kernel) ?_
      refine q_call rfl rfl rfl rfl ?_
      refine q_aload_n rfl rfl ?_
      refine q_get rfl rfl rfl rfl ?_
      refine q_call rfl rfl rfl rfl ?_
      refine q_aload_n rfl rfl ?_
      refine q_get rfl rfl rfl rfl ?_
      refine q_if_ne_t (t := 11) rfl (by decide) (i_ne (a := (1 : Int)) (b := (0 : Int)) (by decide +kernel) (by decide +kernel) (by omega)) ?_
      refine q_iconstv (v := (0 : Int32)) rfl (by decide +kernel) ?_
      refine q_zret rfl rfl (by decide) ?_
      refine bk_inl ?_
      refine q_if_eq_t (t := 14) rfl (by decide) (i_eq (a := (0 : Int)) (b := (0 : Int)) (by decide +kernel) (by decide +kernel) (by omega)) ?_
      refine q_aload_n rfl rfl ?_
      refine q_get rfl rfl rfl rfl ?_
      refine q_get rfl rfl rfl rfl ?_
      refine q_bipushv (v := (10 : Int32)) rfl (by decide +kernel) ?_
      refine q_isubv (v := (-9 : Int32)) rfl (by decide +kernel) ?_
      refine q_iret rfl rfl ?_
      refine bk_inl ?_
      refine q_iret rfl rfl ?_
      refine bk_inl ?_
      refine q_i2lv (v := (-9 : Int64)) rfl (by decide +kernel) ?_
      refine q_lastorev (m := 0) (w9 := ((w1.set 1 (.inr (5, [.ref 2, .int 0, .int 0, .int 0, .int 1, .int 0]))).set 67 (.inl (2, .inr ([-9]))))) rfl (by decide) rfl (by decide +kernel) (by decide) rfl ?_
      refine q_goto (t := 15) rfl (by decide) ?_
      refine q_iconstv (v := (0 : Int32)) rfl (by decide +kernel) ?_
      refine q_iret rfl rfl ?_
      refine bk_inl ?_
      refine q_istore rfl (by decide) ?_
      refine q_aload_n rfl rfl ?_
      refine q_aload_n rfl rfl ?_
      refine q_iload rfl rfl ?_
      refine q_iconstv (v := (1 : Int32)) rfl (by decide +kernel) ?_
      refine q_iaddv (v := (1 : Int32)) rfl (by decide +kernel) ?_
      refine q_script rfl (by decide) rfl ?_
      refine q_clo (v := (some (.int (-9)))) (w9 := (((w1.set 1 (.inr (5, [.ref 2, .int 0, .int 0, .int 0, .int 1, .int 0]))).set 41 (.inr (8, [.int 0, .ref 42, .int 0, .int 0, .int 0, .int 0, .int 1, .int 0, .int 0, .ref 43, .ref 44, .ref 45, .ref 46, .ref 47, .ref 48, .ref 49, .int 0, .int 0, .int 0, .int 5, .int 0, .int 0, .int 0, .int 5, .ref 50, .ref 51, .ref 52, .ref 53, .ref 54, .int 0, .int 0, .ref 55, .ref 56, .ref 57, .int 0, .int 0, .int 0, .int 0, .int 0, .int 0, .ref 58, .ref 59, .ref 60, .ref 61, .ref 62, .ref 63, .ref 64, .int 0, .int 0, .ref 65, .int 0, .ref 66, .int 0]))).set 67 (.inl (2, .inr ([-9]))))) (a := 0) (b := 0) (ags := [.ref 41, .int 0]) rfl rfl rfl rfl cl_5 ?_
      refine q_istore rfl (by decide) ?_
      refine q_aload_n rfl rfl ?_
      refine q_call rfl rfl rfl rfl ?_
      refine q_aload_n rfl rfl ?_
      refine q_get rfl rfl rfl rfl ?_
      refine q_iret rfl rfl ?_
      refine bk_inl ?_
      refine q_iload rfl rfl ?_
      refine q_ic_eq_t (t := 393) rfl (by decide) (i_eq (a := (0 : Int)) (b := (0 : Int)) (by decide +kernel) (by decide +kernel) (by omega)) ?_
      refine q_iload rfl rfl ?_
      refine q_if_ne_f (t := 410) rfl (by decide) (i_nne (a := (0 : Int)) (b := (0 : Int)) (by decide +kernel) (by decide +kernel) (by omega)) ?_
      refine q_aload_n rfl rfl ?_
      refine q_iconstv (v := (0 : Int32)) rfl (by decide +kernel) ?_
      refine q_laloadv (m := 0) rfl (by decide) rfl (by decide +kernel) rfl ?_
      refine q_iload rfl rfl ?_
      refine q_i2lv (v := (-9 : Int64)) rfl (by decide +kernel) ?_
      refine q_lcmpv (v := (0 : Int32)) rfl (by decide +kernel) ?_
      refine q_if_eq_t (t := 410) rfl (by decide) (i_eq (a := (0 : Int)) (b := (0 : Int)) (by decide +kernel) (by decide +kernel) (by omega)) ?_
      refine q_goto (t := 2739) rfl (by decide) ?_
      refine q_iincv (v := (8 : Int32)) rfl rfl (by decide) (by decide +kernel) ?_
      refine q_goto (t := 23) rfl (by decide) ?_
      exact q_end rfl rfl (by decide) (by decide)
set_option maxRecDepth 100000 in
set_option maxHeartbeats 4000000 in
theorem op_3 {x0 x1 x2 x3 x4 x5 x6 x7 : Int32} : Wp [x0, x1, x2, x3, x4, x5, x6, x7] 100 296 413 l1 [] w1 68 8870 Qlaw := by
  refine q_aload_n rfl rfl ?_
  refine q_aload_n rfl rfl ?_
  refine q_iload rfl rfl ?_
  refine q_iconstv (v := (1 : Int32)) rfl (by decide +kernel) ?_
  refine q_iaddv (v := (1 : Int32)) rfl (by decide +kernel) ?_
  refine q_script rfl (by decide) rfl ?_
  refine q_aload_n rfl rfl ?_
  refine q_call rfl rfl rfl rfl ?_
  refine q_aload_n rfl rfl ?_
  refine q_iconstv (v := (0 : Int32)) rfl (by decide +kernel) ?_
  refine q_aload_n rfl rfl ?_
  refine q_iload_n rfl rfl ?_
  refine q_call rfl rfl rfl rfl ?_
  refine q_aload_n rfl rfl ?_
  refine q_iload_n rfl rfl ?_
  refine q_sipushv (v := (150 : Int32)) rfl (by decide +kernel) ?_
  refine q_call rfl rfl rfl rfl ?_
  refine q_aload_n rfl rfl ?_
  refine q_iload_n rfl rfl ?_
  refine q_iconstv (v := (0 : Int32)) rfl (by decide +kernel) ?_
  refine q_iload_n rfl rfl ?_
  refine q_aload_n rfl rfl ?_
  refine q_get rfl rfl rfl rfl ?_
  refine q_get rfl rfl rfl rfl ?_
  refine q_mmin (z := (0 : Int32)) rfl rfl ⟨by decide, Nat.le_of_ble_eq_true rfl⟩ (by decide +kernel) ?_
  refine q_call rfl rfl rfl rfl ?_
  refine q_iload_n rfl rfl ?_
  refine q_iload_n rfl rfl ?_
  by_cases h1 : (x1).toInt < 0
  · refine q_ic_lt_t (t := 14) rfl (by decide) (i_lt (a := (x1).toInt) (b := (0 : Int)) rfl (by decide +kernel) (by omega)) ?_
    refine q_iconstv (v := (0 : Int32)) rfl (by decide +kernel) ?_
    refine q_zret rfl rfl (by decide) ?_
    refine bk_inl ?_
    refine q_call rfl rfl rfl rfl ?_
    refine q_iload_n rfl rfl ?_
    refine q_if_ne_f (t := 25) rfl (by decide) (i_nne (a := (0 : Int)) (b := (0 : Int)) (by decide +kernel) (by decide +kernel) (by omega)) ?_
    refine q_aload_n rfl rfl ?_
    refine q_dup rfl rfl ?_
    refine q_get rfl rfl rfl rfl ?_
    refine q_iconstv (v := (1 : Int32)) rfl (by decide +kernel) ?_
    refine q_iaddv (v := (1 : Int32)) rfl (by decide +kernel) ?_
    refine q_putv (w9 := (w1.set 0 (.inr (7, [.ref 1, .ref 3, .ref 7, .ref 9, .ref 10, .ref 11, .ref 12, .ref 13, .ref 25, .ref 37, .ref 39, .int 0, .int 0, .int 1])))) rfl rfl rfl (by decide) rfl (by decide) rfl ?_
    refine q_fin rfl rfl rfl ?_
    refine bk_out rfl rfl ?_
    refine bk_out rfl rfl ?_
    refine bk_thr (z := (1 : Int32)) rfl ⟨_, _, rfl⟩ rfl ?_
    refine bk_inl ?_
    refine q_istore rfl (by decide) ?_
    refine q_aload_n rfl rfl ?_
    refine q_aload_n rfl rfl ?_
    refine q_iload rfl rfl ?_
    refine q_iconstv (v := (1 : Int32)) rfl (by decide +kernel) ?_
    refine q_iaddv (v := (1 : Int32)) rfl (by decide +kernel) ?_
    refine q_script rfl (by decide) rfl ?_
    refine q_call rfl rfl rfl rfl ?_
    refine q_aload_n rfl rfl ?_
    refine q_iconstv (v := (0 : Int32)) rfl (by decide +kernel) ?_
    refine q_putv (w9 := (w1.set 0 (.inr (7, [.ref 1, .ref 3, .ref 7, .ref 9, .ref 10, .ref 11, .ref 12, .ref 13, .ref 25, .ref 37, .ref 39, .int 0, .int 0, .int 1])))) rfl rfl rfl (by decide) rfl (by decide) rfl ?_
    refine q_aload_n rfl rfl ?_
    refine q_iload_n rfl rfl ?_
    refine q_if_lt_t (t := 29) rfl (by decide) (i_lt (a := (x1).toInt) (b := (0 : Int)) rfl (by decide +kernel) (by omega)) ?_
    refine q_iconstv (v := (0 : Int32)) rfl (by decide +kernel) ?_
    refine q_iconstv (v := (1 : Int32)) rfl (by decide +kernel) ?_
    refine q_iconstv (v := (1 : Int32)) rfl (by decide +kernel) ?_
    refine q_call rfl rfl rfl rfl ?_
    refine q_iload_n rfl rfl ?_
    refine q_if_ne_f (t := 26) rfl (by decide) (i_nne (a := (0 : Int)) (b := (0 : Int)) (by decide +kernel) (by decide +kernel) (by omega)) ?_
    refine q_aload_n rfl rfl ?_
    refine q_get rfl rfl rfl rfl ?_
    refine q_if_ne_f (t := 26) rfl (by decide) (i_nne (a := (0 : Int)) (b := (0 : Int)) (by decide +kernel) (by decide +kernel) (by omega)) ?_
    refine q_aload_n rfl rfl ?_
    refine q_iload_n rfl rfl ?_
    refine q_putv (w9 := ((w1.set 0 (.inr (7, [.ref 1, .ref 3, .ref 7, .ref 9, .ref 10, .ref 11, .ref 12, .ref 13, .ref 25, .ref 37, .ref 39, .int 0, .int 0, .int 1]))).set 41 (.inr (8, [.int 1, .ref 42, .int 0, .int 0, .int 0, .int 0, .int 0, .int 0, .int (-1), .ref 43, .ref 44, .ref 45, .ref 46, .ref 47, .ref 48, .ref 49, .int 0, .int 0, .int 0, .int 5, .int 0, .int 0, .int 0, .int 5, .ref 50, .ref 51, .ref 52, .ref 53, .ref 54, .int 0, .int 0, .ref 55, .ref 56, .ref 57, .int 0, .int 0, .int 0, .int 0, .int 0, .int 0, .ref 58, .ref 59, .ref 60, .ref 61, .ref 62, .ref 63, .ref 64, .int 0, .int 0, .ref 65, .int 0, .ref 66, .int 0])))) rfl rfl rfl (by decide) rfl (by decide) rfl ?_
    refine q_aload_n rfl rfl ?_
    refine q_get rfl rfl rfl rfl ?_
    refine q_iload_n rfl rfl ?_
    refine q_dup2 rfl ⟨rfl, rfl⟩ ?_
    refine q_ialoadv (m := 1) rfl (by decide) (by decide) rfl (by decide +kernel) rfl ?_
    refine q_iconstv (v := (1 : Int32)) rfl (by decide +kernel) ?_
    refine q_iaddv (v := (1 : Int32)) rfl (by decide +kernel) ?_
    refine q_iastorev (m := 1) (w9 := (((w1.set 0 (.inr (7, [.ref 1, .ref 3, .ref 7, .ref 9, .ref 10, .ref 11, .ref 12, .ref 13, .ref 25, .ref 37, .ref 39, .int 0, .int 0, .int 1]))).set 41 (.inr (8, [.int 1, .ref 42, .int 0, .int 0, .int 0, .int 0, .int 0, .int 0, .int (-1), .ref 43, .ref 44, .ref 45, .ref 46, .ref 47, .ref 48, .ref 49, .int 0, .int 0, .int 0, .int 5, .int 0, .int 0, .int 0, .int 5, .ref 50, .ref 51, .ref 52, .ref 53, .ref 54, .int 0, .int 0, .ref 55, .ref 56, .ref 57, .int 0, .int 0, .int 0, .int 0, .int 0, .int 0, .ref 58, .ref 59, .ref 60, .ref 61, .ref 62, .ref 63, .ref 64, .int 0, .int 0, .ref 65, .int 0, .ref 66, .int 0]))).set 42 (.inl (0, .inl ([0, 1]))))) rfl (by decide) rfl (by decide +kernel) (by decide) rfl ?_
    refine q_aload_n rfl rfl ?_
    refine q_get rfl rfl rfl rfl ?_
    refine q_if_ne_t (t := 37) rfl (by decide) (i_ne (a := (1 : Int)) (b := (0 : Int)) (by decide +kernel) (by decide +kernel) (by omega)) ?_
    refine q_iconstv (v := (0 : Int32)) rfl (by decide +kernel) ?_
    refine q_zret rfl rfl (by decide) ?_
    refine bk_inl ?_
    refine q_if_ne_f (t := 40) rfl (by decide) (i_nne (a := (0 : Int)) (b := (0 : Int)) (by decide +kernel) (by decide +kernel) (by omega)) ?_
    refine q_iconstv (v := (0 : Int32)) rfl (by decide +kernel) ?_
    refine q_iret rfl rfl ?_
    refine bk_inl ?_
    refine q_istore rfl (by decide) ?_
    refine q_aload_n rfl rfl ?_
    refine q_call rfl rfl rfl rfl ?_
    refine q_aload_n rfl rfl ?_
    refine q_get rfl rfl rfl rfl ?_
    refine q_iret rfl rfl ?_
    refine bk_inl ?_
    refine q_iload rfl rfl ?_
    refine q_ic_eq_t (t := 449) rfl (by decide) (i_eq (a := (1 : Int)) (b := (1 : Int)) (by decide +kernel) (by decide +kernel) (by omega)) ?_
    refine q_iload rfl rfl ?_
    refine q_if_ne_t (t := 466) rfl (by decide) (i_ne (a := (1 : Int)) (b := (0 : Int)) (by decide +kernel) (by decide +kernel) (by omega)) ?_
    refine q_goto (t := 2739) rfl (by decide) ?_
    refine q_iincv (v := (8 : Int32)) rfl rfl (by decide) (by decide +kernel) ?_
    refine q_goto (t := 23) rfl (by decide) ?_
    exact q_end rfl rfl (by decide) (by decide)
  · refine q_ic_lt_f (t := 14) rfl (by decide) (i_nlt (a := (x1).toInt) (b := (0 : Int)) rfl (by decide +kernel) (by omega)) ?_
    refine q_iload_n rfl rfl ?_
    refine q_iload_n rfl rfl ?_
    by_cases h2 : (x1).toInt > 0
    · refine q_ic_gt_t (t := 14) rfl (by decide) (i_lt_r (a := (x1).toInt) (b := (0 : Int)) rfl (by decide +kernel) (by omega)) ?_
      refine q_iconstv (v := (0 : Int32)) rfl (by decide +kernel) ?_
      refine q_zret rfl rfl (by decide) ?_
      refine bk_inl ?_
      refine q_call rfl rfl rfl rfl ?_
      refine q_iload_n rfl rfl ?_
      refine q_if_ne_f (t := 25) rfl (by decide) (i_nne (a := (0 : Int)) (b := (0 : Int)) (by decide +kernel) (by decide +kernel) (by omega)) ?_
      refine q_aload_n rfl rfl ?_
      refine q_dup rfl rfl ?_
      refine q_get rfl rfl rfl rfl ?_
      refine q_iconstv (v := (1 : Int32)) rfl (by decide +kernel) ?_
      refine q_iaddv (v := (1 : Int32)) rfl (by decide +kernel) ?_
      refine q_putv (w9 := (w1.set 0 (.inr (7, [.ref 1, .ref 3, .ref 7, .ref 9, .ref 10, .ref 11, .ref 12, .ref 13, .ref 25, .ref 37, .ref 39, .int 0, .int 0, .int 1])))) rfl rfl rfl (by decide) rfl (by decide) rfl ?_
      refine q_fin rfl rfl rfl ?_
      refine bk_out rfl rfl ?_
      refine bk_out rfl rfl ?_
      refine bk_thr (z := (1 : Int32)) rfl ⟨_, _, rfl⟩ rfl ?_
      refine bk_inl ?_
      refine q_istore rfl (by decide) ?_
      refine q_aload_n rfl rfl ?_
      refine q_aload_n rfl rfl ?_
      refine q_iload rfl rfl ?_
      refine q_iconstv (v := (1 : Int32)) rfl (by decide +kernel) ?_
      refine q_iaddv (v := (1 : Int32)) rfl (by decide +kernel) ?_
      refine q_script rfl (by decide) rfl ?_
      refine q_call rfl rfl rfl rfl ?_
      refine q_aload_n rfl rfl ?_
      refine q_iconstv (v := (0 : Int32)) rfl (by decide +kernel) ?_
      refine q_putv (w9 := (w1.set 0 (.inr (7, [.ref 1, .ref 3, .ref 7, .ref 9, .ref 10, .ref 11, .ref 12, .ref 13, .ref 25, .ref 37, .ref 39, .int 0, .int 0, .int 1])))) rfl rfl rfl (by decide) rfl (by decide) rfl ?_
      refine q_aload_n rfl rfl ?_
      refine q_iload_n rfl rfl ?_
      refine q_if_lt_f (t := 29) rfl (by decide) (i_nlt (a := (x1).toInt) (b := (0 : Int)) rfl (by decide +kernel) (by omega)) ?_
      refine q_iload_n rfl rfl ?_
      refine q_aload_n rfl rfl ?_
      refine q_get rfl rfl rfl rfl ?_
      refine q_ic_gt_t (t := 29) rfl (by decide) (i_lt_r (a := (x1).toInt) (b := (0 : Int)) rfl (by decide +kernel) (by omega)) ?_
      refine q_iconstv (v := (0 : Int32)) rfl (by decide +kernel) ?_
      refine q_iconstv (v := (1 : Int32)) rfl (by decide +kernel) ?_
      refine q_iconstv (v := (1 : Int32)) rfl (by decide +kernel) ?_
      refine q_call rfl rfl rfl rfl ?_
      refine q_iload_n rfl rfl ?_
      refine q_if_ne_f (t := 26) rfl (by decide) (i_nne (a := (0 : Int)) (b := (0 : Int)) (by decide +kernel) (by decide +kernel) (by omega)) ?_
      refine q_aload_n rfl rfl ?_
      refine q_get rfl rfl rfl rfl ?_
      refine q_if_ne_f (t := 26) rfl (by decide) (i_nne (a := (0 : Int)) (b := (0 : Int)) (by decide +kernel) (by decide +kernel) (by omega)) ?_
      refine q_aload_n rfl rfl ?_
      refine q_iload_n rfl rfl ?_
      refine q_putv (w9 := ((w1.set 0 (.inr (7, [.ref 1, .ref 3, .ref 7, .ref 9, .ref 10, .ref 11, .ref 12, .ref 13, .ref 25, .ref 37, .ref 39, .int 0, .int 0, .int 1]))).set 41 (.inr (8, [.int 1, .ref 42, .int 0, .int 0, .int 0, .int 0, .int 0, .int 0, .int (-1), .ref 43, .ref 44, .ref 45, .ref 46, .ref 47, .ref 48, .ref 49, .int 0, .int 0, .int 0, .int 5, .int 0, .int 0, .int 0, .int 5, .ref 50, .ref 51, .ref 52, .ref 53, .ref 54, .int 0, .int 0, .ref 55, .ref 56, .ref 57, .int 0, .int 0, .int 0, .int 0, .int 0, .int 0, .ref 58, .ref 59, .ref 60, .ref 61, .ref 62, .ref 63, .ref 64, .int 0, .int 0, .ref 65, .int 0, .ref 66, .int 0])))) rfl rfl rfl (by decide) rfl (by decide) rfl ?_
      refine q_aload_n rfl rfl ?_
      refine q_get rfl rfl rfl rfl ?_
      refine q_iload_n rfl rfl ?_
      refine q_dup2 rfl ⟨rfl, rfl⟩ ?_
      refine q_ialoadv (m := 1) rfl (by decide) (by decide) rfl (by decide +kernel) rfl ?_
      refine q_iconstv (v := (1 : Int32)) rfl (by decide +kernel) ?_
      refine q_iaddv (v := (1 : Int32)) rfl (by decide +kernel) ?_
      refine q_iastorev (m := 1) (w9 := (((w1.set 0 (.inr (7, [.ref 1, .ref 3, .ref 7, .ref 9, .ref 10, .ref 11, .ref 12, .ref 13, .ref 25, .ref 37, .ref 39, .int 0, .int 0, .int 1]))).set 41 (.inr (8, [.int 1, .ref 42, .int 0, .int 0, .int 0, .int 0, .int 0, .int 0, .int (-1), .ref 43, .ref 44, .ref 45, .ref 46, .ref 47, .ref 48, .ref 49, .int 0, .int 0, .int 0, .int 5, .int 0, .int 0, .int 0, .int 5, .ref 50, .ref 51, .ref 52, .ref 53, .ref 54, .int 0, .int 0, .ref 55, .ref 56, .ref 57, .int 0, .int 0, .int 0, .int 0, .int 0, .int 0, .ref 58, .ref 59, .ref 60, .ref 61, .ref 62, .ref 63, .ref 64, .int 0, .int 0, .ref 65, .int 0, .ref 66, .int 0]))).set 42 (.inl (0, .inl ([0, 1]))))) rfl (by decide) rfl (by decide +kernel) (by decide) rfl ?_
      refine q_aload_n rfl rfl ?_
      refine q_get rfl rfl rfl rfl ?_
      refine q_if_ne_t (t := 37) rfl (by decide) (i_ne (a := (1 : Int)) (b := (0 : Int)) (by decide +kernel) (by decide +kernel) (by omega)) ?_
      refine q_iconstv (v := (0 : Int32)) rfl (by decide +kernel) ?_
      refine q_zret rfl rfl (by decide) ?_
      refine bk_inl ?_
      refine q_if_ne_f (t := 40) rfl (by decide) (i_nne (a := (0 : Int)) (b := (0 : Int)) (by decide +kernel) (by decide +kernel) (by omega)) ?_
      refine q_iconstv (v := (0 : Int32)) rfl (by decide +kernel) ?_
      refine q_iret rfl rfl ?_
      refine bk_inl ?_
      refine q_istore rfl (by decide) ?_
      refine q_aload_n rfl rfl ?_
      refine q_call rfl rfl rfl rfl ?_
      refine q_aload_n rfl rfl ?_
      refine q_get rfl rfl rfl rfl ?_
      refine q_iret rfl rfl ?_
      refine bk_inl ?_
      refine q_iload rfl rfl ?_
      refine q_ic_eq_t (t := 449) rfl (by decide) (i_eq (a := (1 : Int)) (b := (1 : Int)) (by decide +kernel) (by decide +kernel) (by omega)) ?_
      refine q_iload rfl rfl ?_
      refine q_if_ne_t (t := 466) rfl (by decide) (i_ne (a := (1 : Int)) (b := (0 : Int)) (by decide +kernel) (by decide +kernel) (by omega)) ?_
      refine q_goto (t := 2739) rfl (by decide) ?_
      refine q_iincv (v := (8 : Int32)) rfl rfl (by decide) (by decide +kernel) ?_
      refine q_goto (t := 23) rfl (by decide) ?_
      exact q_end rfl rfl (by decide) (by decide)
    · refine q_ic_gt_f (t := 14) rfl (by decide) (i_nlt_r (a := (x1).toInt) (b := (0 : Int)) rfl (by decide +kernel) (by omega)) ?_
      obtain rfl : x1 = (0 : Int32) := i_eq (a := (x1).toInt) (b := 0) rfl (by decide +kernel) (by omega)
      refine q_iconstv (v := (1 : Int32)) rfl (by decide +kernel) ?_
      refine q_goto (t := 15) rfl (by decide) ?_
      refine q_zret rfl rfl (by decide) ?_
      refine bk_inl ?_
      refine q_call rfl rfl rfl rfl ?_
      refine q_iload_n rfl rfl ?_
      refine q_if_ne_t (t := 25) rfl (by decide) (i_ne (a := (1 : Int)) (b := (0 : Int)) (by decide +kernel) (by decide +kernel) (by omega)) ?_
      refine q_vret rfl rfl ?_
      refine bk_inl ?_
      refine q_aload_n rfl rfl ?_
      refine q_get rfl rfl rfl rfl ?_
      refine q_iload_n rfl rfl ?_
      refine q_call rfl rfl rfl rfl ?_
      refine q_aload_n rfl rfl ?_
      refine q_iload_n rfl rfl ?_
      refine q_aload_n rfl rfl ?_
      refine q_get rfl rfl rfl rfl ?_
      refine q_mmin (z := (0 : Int32)) rfl rfl ⟨by decide, Nat.le_of_ble_eq_true rfl⟩ (by decide +kernel) ?_
      refine q_putv (w9 := w1) rfl rfl rfl (by decide) rfl (by decide) rfl ?_
      refine q_aload_n rfl rfl ?_
      refine q_iconstv (v := (0 : Int32)) rfl (by decide +kernel) ?_
      refine q_putv (w9 := w1) rfl rfl rfl (by decide) rfl (by decide) rfl ?_
      refine q_aload_n rfl rfl ?_
      refine q_iconstv (v := (0 : Int32)) rfl (by decide +kernel) ?_
      refine q_putv (w9 := w1) rfl rfl rfl (by decide) rfl (by decide) rfl ?_
      refine q_aload_n rfl rfl ?_
      refine q_iconstv (v := (0 : Int32)) rfl (by decide +kernel) ?_
      refine q_putv (w9 := w1) rfl rfl rfl (by decide) rfl (by decide) rfl ?_
      refine q_aload_n rfl rfl ?_
      refine q_iconstv (v := (-1 : Int32)) rfl (by decide +kernel) ?_
      refine q_putv (w9 := w1) rfl rfl rfl (by decide) rfl (by decide) rfl ?_
      refine q_vret rfl rfl ?_
      refine bk_inl ?_
      refine q_vret rfl rfl ?_
      refine bk_inl ?_
      refine q_aload_n rfl rfl ?_
      refine q_get rfl rfl rfl rfl ?_
      refine q_call rfl rfl rfl rfl ?_
      refine q_aload_n rfl rfl ?_
      refine q_get rfl rfl rfl rfl ?_
      refine q_bipushv (v := (16 : Int32)) rfl (by decide +kernel) ?_
      refine q_ic_lt_t (t := 13) rfl (by decide) (i_lt (a := (0 : Int)) (b := (16 : Int)) (by decide +kernel) (by decide +kernel) (by omega)) ?_
      refine q_iconstv (v := (0 : Int32)) rfl (by decide +kernel) ?_
      refine q_zret rfl rfl (by decide) ?_
      refine bk_inl ?_
      refine q_if_eq_t (t := 21) rfl (by decide) (i_eq (a := (0 : Int)) (b := (0 : Int)) (by decide +kernel) (by decide +kernel) (by omega)) ?_
      refine q_aload_n rfl rfl ?_
      refine q_get rfl rfl rfl rfl ?_
      refine q_aload_n rfl rfl ?_
      refine q_get rfl rfl rfl rfl ?_
      refine q_aload_n rfl rfl ?_
      refine q_get rfl rfl rfl rfl ?_
      refine q_call rfl rfl rfl rfl ?_
      refine q_aload_n rfl rfl ?_
      refine q_iconstv (v := (0 : Int32)) rfl (by decide +kernel) ?_
      refine q_putv (w9 := w1) rfl rfl rfl (by decide) rfl (by decide) rfl ?_
      refine q_aload_n rfl rfl ?_
      refine q_iconstv (v := (0 : Int32)) rfl (by decide +kernel) ?_
      refine q_putv (w9 := w1) rfl rfl rfl (by decide) rfl (by decide) rfl ?_
      refine q_aload_n rfl rfl ?_
      refine q_iconstv (v := (0 : Int32)) rfl (by decide +kernel) ?_
      refine q_putv (w9 := w1) rfl rfl rfl (by decide) rfl (by decide) rfl ?_
      refine q_aload_n rfl rfl ?_
      refine q_iconstv (v := (0 : Int32)) rfl (by decide +kernel) ?_
      refine q_putv (w9 := w1) rfl rfl rfl (by decide) rfl (by decide) rfl ?_
      refine q_aload_n rfl rfl ?_
      refine q_aload_n rfl rfl ?_
      refine q_aload_n rfl rfl ?_
      refine q_iconstv (v := (0 : Int32)) rfl (by decide +kernel) ?_
      refine q_call rfl rfl rfl rfl ?_
      refine q_iconstv (v := (0 : Int32)) rfl (by decide +kernel) ?_
      refine q_istore rfl (by decide) ?_
      refine q_iload rfl rfl ?_
      refine q_bipushv (v := (38 : Int32)) rfl (by decide +kernel) ?_
      refine q_ic_ge_f (t := 129) rfl (by decide) (i_nle_r (a := (0 : Int)) (b := (38 : Int)) (by decide +kernel) (by decide +kernel) (by omega)) ?_
      refine q_aload_n rfl rfl ?_
      refine q_call rfl rfl rfl rfl ?_
      refine q_aload_n rfl rfl ?_
      refine q_call rfl rfl rfl rfl ?_
      refine q_aload_n rfl rfl ?_
      refine q_get rfl rfl rfl rfl ?_
      refine q_if_ne_f (t := 11) rfl (by decide) (i_nne (a := (0 : Int)) (b := (0 : Int)) (by decide +kernel) (by decide +kernel) (by omega)) ?_
      refine q_iconstv (v := (1 : Int32)) rfl (by decide +kernel) ?_
      refine q_goto (t := 12) rfl (by decide) ?_
      refine q_zret rfl rfl (by decide) ?_
      refine bk_inl ?_
      refine q_if_eq_f (t := 22) rfl (by decide) (i_ne (a := (1 : Int)) (b := (0 : Int)) (by decide +kernel) (by decide +kernel) (by omega)) ?_
      refine q_aload_n rfl rfl ?_
      refine q_call rfl rfl rfl rfl ?_
      refine q_aload_n rfl rfl ?_
      refine q_get rfl rfl rfl rfl ?_
      refine q_aload_n rfl rfl ?_
      refine q_get rfl rfl rfl rfl ?_
      refine q_ic_ge_t (t := 38) rfl (by decide) (i_le_r (a := (0 : Int)) (b := (0 : Int)) (by decide +kernel) (by decide +kernel) (by omega)) ?_
      refine q_aload_n rfl rfl ?_
      refine q_get rfl rfl rfl rfl ?_
      refine q_iret rfl rfl ?_
      refine bk_inl ?_
      refine q_aload_n rfl rfl ?_
      refine q_get rfl rfl rfl rfl ?_
      refine q_ic_ge_t (t := 22) rfl (by decide) (i_le_r (a := (0 : Int)) (b := (0 : Int)) (by decide +kernel) (by decide +kernel) (by omega)) ?_
      refine q_iconstv (v := (0 : Int32)) rfl (by decide +kernel) ?_
      refine q_zret rfl rfl (by decide) ?_
      refine bk_inl ?_
      refine q_if_eq_t (t := 129) rfl (by decide) (i_eq (a := (0 : Int)) (b := (0 : Int)) (by decide +kernel) (by decide +kernel) (by omega)) ?_
      refine q_vret rfl rfl ?_
      refine bk_inl ?_
      refine q_vret rfl rfl ?_
      refine bk_inl ?_
      refine q_aload_n rfl rfl ?_
      refine q_get rfl rfl rfl rfl ?_
      refine q_call rfl rfl rfl rfl ?_
      refine q_aload_n rfl rfl ?_
      refine q_get rfl rfl rfl rfl ?_
      refine q_if_ne_f (t := 11) rfl (by decide) (i_nne (a := (0 : Int)) (b := (0 : Int)) (by decide +kernel) (by decide +kernel) (by omega)) ?_
      refine q_iconstv (v := (1 : Int32)) rfl (by decide +kernel) ?_
      refine q_goto (t := 12) rfl (by decide) ?_
      refine q_zret rfl rfl (by decide) ?_
      refine bk_inl ?_
      refine q_if_eq_f (t := 88) rfl (by decide) (i_ne (a := (1 : Int)) (b := (0 : Int)) (by decide +kernel) (by decide +kernel) (by omega)) ?_
      refine q_aload_n rfl rfl ?_
      refine q_get rfl rfl rfl rfl ?_
      refine q_aload_n rfl rfl ?_
      refine q_get rfl rfl rfl rfl ?_
      refine q_clo (v := none) (w9 := (w1.set 3 (.inr (1, [.ref 4, .ref 5, .ref 6, .int 1, .int 0])))) (a := 0) (b := 0) (ags := [.ref 3, .ref 37]) rfl rfl rfl rfl cl_6 ?_
      refine q_aload_n rfl rfl ?_
      refine q_get rfl rfl rfl rfl ?_
      refine q_aload_n rfl rfl ?_
      refine q_get rfl rfl rfl rfl ?_
      refine q_iconstv (v := (0 : Int32)) rfl (by decide +kernel) ?_
      refine q_aload_n rfl rfl ?_
      refine q_get rfl rfl rfl rfl ?_
      refine q_get rfl rfl rfl rfl ?_
      refine q_iconstv (v := (0 : Int32)) rfl (by decide +kernel) ?_
      refine q_call rfl rfl rfl rfl ?_
      refine q_iload_n rfl rfl ?_
      refine q_istore rfl (by decide) ?_
      refine q_iload rfl rfl ?_
      refine q_iload_n rfl rfl ?_
      refine q_ic_ge_t (t := 162) rfl (by decide) (i_le_r (a := (0 : Int)) (b := (0 : Int)) (by decide +kernel) (by decide +kernel) (by omega)) ?_
      refine q_vret rfl rfl ?_
      refine bk_inl ?_
      refine q_aload_n rfl rfl ?_
      refine q_aload_n rfl rfl ?_
      refine q_get rfl rfl rfl rfl ?_
      refine q_get rfl rfl rfl rfl ?_
      refine q_putv (w9 := (w1.set 3 (.inr (1, [.ref 4, .ref 5, .ref 6, .int 1, .int 0])))) rfl rfl rfl (by decide) rfl (by decide) rfl ?_
      refine q_aload_n rfl rfl ?_
      refine q_aload_n rfl rfl ?_
      refine q_get rfl rfl rfl rfl ?_
      refine q_get rfl rfl rfl rfl ?_
      refine q_call rfl rfl rfl rfl ?_
      refine q_aload_n rfl rfl ?_
      refine q_get rfl rfl rfl rfl ?_
      refine q_call rfl rfl rfl rfl ?_
      refine q_aload_n rfl rfl ?_
      refine q_get rfl rfl rfl rfl ?_
      refine q_if_ne_f (t := 11) rfl (by decide) (i_nne (a := (0 : Int)) (b := (0 : Int)) (by decide +kernel) (by decide +kernel) (by omega)) ?_
      refine q_iconstv (v := (1 : Int32)) rfl (by decide +kernel) ?_
      refine q_goto (t := 12) rfl (by decide) ?_
      refine q_zret rfl rfl (by decide) ?_
      refine bk_inl ?_
      refine q_if_eq_f (t := 14) rfl (by decide) (i_ne (a := (1 : Int)) (b := (0 : Int)) (by decide +kernel) (by decide +kernel) (by omega)) ?_
      refine q_iload_n rfl rfl ?_
      refine q_goto (t := 24) rfl (by decide) ?_
      refine q_iret rfl rfl ?_
      refine bk_inl ?_
      refine q_iret rfl rfl ?_
      refine bk_inl ?_
      refine q_i2lv (v := (0 : Int64)) rfl (by decide +kernel) ?_
      refine q_lastorev (m := 0) (w9 := (w1.set 3 (.inr (1, [.ref 4, .ref 5, .ref 6, .int 1, .int 0])))) rfl (by decide) rfl (by decide +kernel) (by decide) rfl ?_
      refine q_goto (t := 15) rfl (by decide) ?_
      refine q_iconstv (v := (0 : Int32)) rfl (by decide +kernel) ?_
      refine q_iret rfl rfl ?_
      refine bk_inl ?_
      refine q_istore rfl (by decide) ?_
      refine q_aload_n rfl rfl ?_
      refine q_aload_n rfl rfl ?_
      refine q_iload rfl rfl ?_
      refine q_iconstv (v := (1 : Int32)) rfl (by decide +kernel) ?_
      refine q_iaddv (v := (1 : Int32)) rfl (by decide +kernel) ?_
      refine q_script rfl (by decide) rfl ?_
      refine q_clo (v := (some (.int 0))) (w9 := ((w1.set 3 (.inr (1, [.ref 4, .ref 5, .ref 6, .int 1, .int 0]))).set 41 (.inr (8, [.int 0, .ref 42, .int 0, .int 0, .int 0, .int (-1), .int 0, .int 0, .int (-1), .ref 43, .ref 44, .ref 45, .ref 46, .ref 47, .ref 48, .ref 49, .int 0, .int 0, .int 0, .int 5, .int 0, .int 0, .int 0, .int 5, .ref 50, .ref 51, .ref 52, .ref 53, .ref 54, .int 0, .int 0, .ref 55, .ref 56, .ref 57, .int 0, .int 1, .int 0, .int 0, .int 0, .int 0, .ref 58, .ref 59, .ref 60, .ref 61, .ref 62, .ref 63, .ref 64, .int 0, .int 0, .ref 65, .int 0, .ref 66, .int 0])))) (a := 0) (b := 0) (ags := [.ref 41, .int 0]) rfl rfl rfl rfl cl_7 ?_
      refine q_istore rfl (by decide) ?_
      refine q_aload_n rfl rfl ?_
      refine q_call rfl rfl rfl rfl ?_
      refine q_aload_n rfl rfl ?_
      refine q_get rfl rfl rfl rfl ?_
      refine q_iret rfl rfl ?_
      refine bk_inl ?_
      refine q_iload rfl rfl ?_
      refine q_ic_eq_t (t := 449) rfl (by decide) (i_eq (a := (0 : Int)) (b := (0 : Int)) (by decide +kernel) (by decide +kernel) (by omega)) ?_
      refine q_iload rfl rfl ?_
      refine q_if_ne_f (t := 466) rfl (by decide) (i_nne (a := (0 : Int)) (b := (0 : Int)) (by decide +kernel) (by decide +kernel) (by omega)) ?_
      refine q_aload_n rfl rfl ?_
      refine q_iconstv (v := (0 : Int32)) rfl (by decide +kernel) ?_
      refine q_laloadv (m := 0) rfl (by decide) rfl (by decide +kernel) rfl ?_
      refine q_iload rfl rfl ?_
      refine q_i2lv (v := (0 : Int64)) rfl (by decide +kernel) ?_
      refine q_lcmpv (v := (0 : Int32)) rfl (by decide +kernel) ?_
      refine q_if_eq_t (t := 466) rfl (by decide) (i_eq (a := (0 : Int)) (b := (0 : Int)) (by decide +kernel) (by decide +kernel) (by omega)) ?_
      refine q_goto (t := 2739) rfl (by decide) ?_
      refine q_iincv (v := (8 : Int32)) rfl rfl (by decide) (by decide +kernel) ?_
      refine q_goto (t := 23) rfl (by decide) ?_
      exact q_end rfl rfl (by decide) (by decide)
set_option maxRecDepth 100000 in
set_option maxHeartbeats 4000000 in
theorem op_4 {x0 x1 x2 x3 x4 x5 x6 x7 : Int32} : Wp [x0, x1, x2, x3, x4, x5, x6, x7] 100 296 469 l1 [] w1 68 8870 Qlaw := by
  refine q_aload_n rfl rfl ?_
  refine q_aload_n rfl rfl ?_
  refine q_iload rfl rfl ?_
  refine q_iconstv (v := (1 : Int32)) rfl (by decide +kernel) ?_
  refine q_iaddv (v := (1 : Int32)) rfl (by decide +kernel) ?_
  refine q_script rfl (by decide) rfl ?_
  refine q_aload_n rfl rfl ?_
  refine q_call rfl rfl rfl rfl ?_
  refine q_aload_n rfl rfl ?_
  refine q_iconstv (v := (0 : Int32)) rfl (by decide +kernel) ?_
  refine q_aload_n rfl rfl ?_
  refine q_iload_n rfl rfl ?_
  refine q_call rfl rfl rfl rfl ?_
  refine q_aload_n rfl rfl ?_
  refine q_iload_n rfl rfl ?_
  refine q_bipushv (v := (60 : Int32)) rfl (by decide +kernel) ?_
  refine q_call rfl rfl rfl rfl ?_
  refine q_aload_n rfl rfl ?_
  refine q_iload_n rfl rfl ?_
  refine q_iconstv (v := (0 : Int32)) rfl (by decide +kernel) ?_
  refine q_iload_n rfl rfl ?_
  refine q_aload_n rfl rfl ?_
  refine q_get rfl rfl rfl rfl ?_
  refine q_get rfl rfl rfl rfl ?_
  refine q_mmin (z := (0 : Int32)) rfl rfl ⟨by decide, Nat.le_of_ble_eq_true rfl⟩ (by decide +kernel) ?_
  refine q_call rfl rfl rfl rfl ?_
  refine q_iload_n rfl rfl ?_
  refine q_iload_n rfl rfl ?_
  by_cases h1 : (x1).toInt < 0
  · refine q_ic_lt_t (t := 14) rfl (by decide) (i_lt (a := (x1).toInt) (b := (0 : Int)) rfl (by decide +kernel) (by omega)) ?_
    refine q_iconstv (v := (0 : Int32)) rfl (by decide +kernel) ?_
    refine q_zret rfl rfl (by decide) ?_
    refine bk_inl ?_
    refine q_call rfl rfl rfl rfl ?_
    refine q_iload_n rfl rfl ?_
    refine q_if_ne_f (t := 25) rfl (by decide) (i_nne (a := (0 : Int)) (b := (0 : Int)) (by decide +kernel) (by decide +kernel) (by omega)) ?_
    refine q_aload_n rfl rfl ?_
    refine q_dup rfl rfl ?_
    refine q_get rfl rfl rfl rfl ?_
    refine q_iconstv (v := (1 : Int32)) rfl (by decide +kernel) ?_
    refine q_iaddv (v := (1 : Int32)) rfl (by decide +kernel) ?_
    refine q_putv (w9 := (w1.set 0 (.inr (7, [.ref 1, .ref 3, .ref 7, .ref 9, .ref 10, .ref 11, .ref 12, .ref 13, .ref 25, .ref 37, .ref 39, .int 0, .int 0, .int 1])))) rfl rfl rfl (by decide) rfl (by decide) rfl ?_
    refine q_fin rfl rfl rfl ?_
    refine bk_out rfl rfl ?_
    refine bk_out rfl rfl ?_
    refine bk_thr (z := (1 : Int32)) rfl ⟨_, _, rfl⟩ rfl ?_
    refine bk_inl ?_
    refine q_istore rfl (by decide) ?_
    refine q_aload_n rfl rfl ?_
    refine q_aload_n rfl rfl ?_
    refine q_iload rfl rfl ?_
    refine q_iconstv (v := (1 : Int32)) rfl (by decide +kernel) ?_
    refine q_iaddv (v := (1 : Int32)) rfl (by decide +kernel) ?_
    refine q_script rfl (by decide) rfl ?_
    refine q_call rfl rfl rfl rfl ?_
    refine q_aload_n rfl rfl ?_
    refine q_iconstv (v := (0 : Int32)) rfl (by decide +kernel) ?_
    refine q_putv (w9 := (w1.set 0 (.inr (7, [.ref 1, .ref 3, .ref 7, .ref 9, .ref 10, .ref 11, .ref 12, .ref 13, .ref 25, .ref 37, .ref 39, .int 0, .int 0, .int 1])))) rfl rfl rfl (by decide) rfl (by decide) rfl ?_
    refine q_aload_n rfl rfl ?_
    refine q_iload_n rfl rfl ?_
    refine q_call rfl rfl rfl rfl ?_
    refine q_aload_n rfl rfl ?_
    refine q_iload_n rfl rfl ?_
    refine q_if_lt_t (t := 23) rfl (by decide) (i_lt (a := (x1).toInt) (b := (0 : Int)) rfl (by decide +kernel) (by omega)) ?_
    refine q_iconstv (v := (0 : Int32)) rfl (by decide +kernel) ?_
    refine q_iconstv (v := (1 : Int32)) rfl (by decide +kernel) ?_
    refine q_iconstv (v := (1 : Int32)) rfl (by decide +kernel) ?_
    refine q_call rfl rfl rfl rfl ?_
    refine q_iload_n rfl rfl ?_
    refine q_if_ne_f (t := 26) rfl (by decide) (i_nne (a := (0 : Int)) (b := (0 : Int)) (by decide +kernel) (by decide +kernel) (by omega)) ?_
    refine q_aload_n rfl rfl ?_
    refine q_get rfl rfl rfl rfl ?_
    refine q_if_ne_f (t := 26) rfl (by decide) (i_nne (a := (0 : Int)) (b := (0 : Int)) (by decide +kernel) (by decide +kernel) (by omega)) ?_
    refine q_aload_n rfl rfl ?_
    refine q_iload_n rfl rfl ?_
    refine q_putv (w9 := ((w1.set 0 (.inr (7, [.ref 1, .ref 3, .ref 7, .ref 9, .ref 10, .ref 11, .ref 12, .ref 13, .ref 25, .ref 37, .ref 39, .int 0, .int 0, .int 1]))).set 41 (.inr (8, [.int 1, .ref 42, .int 0, .int 0, .int 0, .int 0, .int 0, .int 0, .int (-1), .ref 43, .ref 44, .ref 45, .ref 46, .ref 47, .ref 48, .ref 49, .int 0, .int 0, .int 0, .int 5, .int 0, .int 0, .int 0, .int 5, .ref 50, .ref 51, .ref 52, .ref 53, .ref 54, .int 0, .int 0, .ref 55, .ref 56, .ref 57, .int 0, .int 0, .int 0, .int 0, .int 0, .int 0, .ref 58, .ref 59, .ref 60, .ref 61, .ref 62, .ref 63, .ref 64, .int 0, .int 0, .ref 65, .int 0, .ref 66, .int 0])))) rfl rfl rfl (by decide) rfl (by decide) rfl ?_
    refine q_aload_n rfl rfl ?_
    refine q_get rfl rfl rfl rfl ?_
    refine q_iload_n rfl rfl ?_
    refine q_dup2 rfl ⟨rfl, rfl⟩ ?_
    refine q_ialoadv (m := 1) rfl (by decide) (by decide) rfl (by decide +kernel) rfl ?_
    refine q_iconstv (v := (1 : Int32)) rfl (by decide +kernel) ?_
    refine q_iaddv (v := (1 : Int32)) rfl (by decide +kernel) ?_
    refine q_iastorev (m := 1) (w9 := (((w1.set 0 (.inr (7, [.ref 1, .ref 3, .ref 7, .ref 9, .ref 10, .ref 11, .ref 12, .ref 13, .ref 25, .ref 37, .ref 39, .int 0, .int 0, .int 1]))).set 41 (.inr (8, [.int 1, .ref 42, .int 0, .int 0, .int 0, .int 0, .int 0, .int 0, .int (-1), .ref 43, .ref 44, .ref 45, .ref 46, .ref 47, .ref 48, .ref 49, .int 0, .int 0, .int 0, .int 5, .int 0, .int 0, .int 0, .int 5, .ref 50, .ref 51, .ref 52, .ref 53, .ref 54, .int 0, .int 0, .ref 55, .ref 56, .ref 57, .int 0, .int 0, .int 0, .int 0, .int 0, .int 0, .ref 58, .ref 59, .ref 60, .ref 61, .ref 62, .ref 63, .ref 64, .int 0, .int 0, .ref 65, .int 0, .ref 66, .int 0]))).set 42 (.inl (0, .inl ([0, 1]))))) rfl (by decide) rfl (by decide +kernel) (by decide) rfl ?_
    refine q_aload_n rfl rfl ?_
    refine q_get rfl rfl rfl rfl ?_
    refine q_if_ne_t (t := 37) rfl (by decide) (i_ne (a := (1 : Int)) (b := (0 : Int)) (by decide +kernel) (by decide +kernel) (by omega)) ?_
    refine q_iconstv (v := (0 : Int32)) rfl (by decide +kernel) ?_
    refine q_zret rfl rfl (by decide) ?_
    refine bk_inl ?_
    refine q_zret rfl rfl (by decide) ?_
    refine bk_inl ?_
    refine q_if_ne_f (t := 15) rfl (by decide) (i_nne (a := (0 : Int)) (b := (0 : Int)) (by decide +kernel) (by decide +kernel) (by omega)) ?_
    refine q_iconstv (v := (0 : Int32)) rfl (by decide +kernel) ?_
    refine q_iret rfl rfl ?_
    refine bk_inl ?_
    refine q_istore rfl (by decide) ?_
    refine q_aload_n rfl rfl ?_
    refine q_call rfl rfl rfl rfl ?_
    refine q_aload_n rfl rfl ?_
    refine q_get rfl rfl rfl rfl ?_
    refine q_iret rfl rfl ?_
    refine bk_inl ?_
    refine q_iload rfl rfl ?_
    refine q_ic_eq_t (t := 505) rfl (by decide) (i_eq (a := (1 : Int)) (b := (1 : Int)) (by decide +kernel) (by decide +kernel) (by omega)) ?_
    refine q_iload rfl rfl ?_
    refine q_if_ne_t (t := 522) rfl (by decide) (i_ne (a := (1 : Int)) (b := (0 : Int)) (by decide +kernel) (by decide +kernel) (by omega)) ?_
    refine q_goto (t := 2739) rfl (by decide) ?_
    refine q_iincv (v := (8 : Int32)) rfl rfl (by decide) (by decide +kernel) ?_
    refine q_goto (t := 23) rfl (by decide) ?_
    exact q_end rfl rfl (by decide) (by decide)
  · refine q_ic_lt_f (t := 14) rfl (by decide) (i_nlt (a := (x1).toInt) (b := (0 : Int)) rfl (by decide +kernel) (by omega)) ?_
    refine q_iload_n rfl rfl ?_
    refine q_iload_n rfl rfl ?_
    by_cases h2 : (x1).toInt > 0
    · refine q_ic_gt_t (t := 14) rfl (by decide) (i_lt_r (a := (x1).toInt) (b := (0 : Int)) rfl (by decide +kernel) (by omega)) ?_
      refine q_iconstv (v := (0 : Int32)) rfl (by decide +kernel) ?_
      refine q_zret rfl rfl (by decide) ?_
      refine bk_inl ?_
      refine q_call rfl rfl rfl rfl ?_
      refine q_iload_n rfl rfl ?_
      refine q_if_ne_f (t := 25) rfl (by decide) (i_nne (a := (0 : Int)) (b := (0 : Int)) (by decide +kernel) (by decide +kernel) (by omega)) ?_
      refine q_aload_n rfl rfl ?_
      refine q_dup rfl rfl ?_
      refine q_get rfl rfl rfl rfl ?_
      refine q_iconstv (v := (1 : Int32)) rfl (by decide +kernel) ?_
      refine q_iaddv (v := (1 : Int32)) rfl (by decide +kernel) ?_
      refine q_putv (w9 := (w1.set 0 (.inr (7, [.ref 1, .ref 3, .ref 7, .ref 9, .ref 10, .ref 11, .ref 12, .ref 13, .ref 25, .ref 37, .ref 39, .int 0, .int 0, .int 1])))) rfl rfl rfl (by decide) rfl (by decide) rfl ?_
      refine q_fin rfl rfl rfl ?_
      refine bk_out rfl rfl ?_
      refine bk_out rfl rfl ?_
      refine bk_thr (z := (1 : Int32)) rfl ⟨_, _, rfl⟩ rfl ?_
      refine bk_inl ?_
      refine q_istore rfl (by decide) ?_
      refine q_aload_n rfl rfl ?_
      refine q_aload_n rfl rfl ?_
      refine q_iload rfl rfl ?_
      refine q_iconstv (v := (1 : Int32)) rfl (by decide +kernel) ?_
      refine q_iaddv (v := (1 : Int32)) rfl (by decide +kernel) ?_
      refine q_script rfl (by decide) rfl ?_
      refine q_call rfl rfl rfl rfl ?_
      refine q_aload_n rfl rfl ?_
      refine q_iconstv (v := (0 : Int32)) rfl (by decide +kernel) ?_
      refine q_putv (w9 := (w1.set 0 (.inr (7, [.ref 1, .ref 3, .ref 7, .ref 9, .ref 10, .ref 11, .ref 12, .ref 13, .ref 25, .ref 37, .ref 39, .int 0, .int 0, .int 1])))) rfl rfl rfl (by decide) rfl (by decide) rfl ?_
      refine q_aload_n rfl rfl ?_
      refine q_iload_n rfl rfl ?_
      refine q_call rfl rfl rfl rfl ?_
      refine q_aload_n rfl rfl ?_
      refine q_iload_n rfl rfl ?_
      refine q_if_lt_f (t := 23) rfl (by decide) (i_nlt (a := (x1).toInt) (b := (0 : Int)) rfl (by decide +kernel) (by omega)) ?_
      refine q_iload_n rfl rfl ?_
      refine q_aload_n rfl rfl ?_
      refine q_get rfl rfl rfl rfl ?_
      refine q_ic_gt_t (t := 23) rfl (by decide) (i_lt_r (a := (x1).toInt) (b := (0 : Int)) rfl (by decide +kernel) (by omega)) ?_
      refine q_iconstv (v := (0 : Int32)) rfl (by decide +kernel) ?_
      refine q_iconstv (v := (1 : Int32)) rfl (by decide +kernel) ?_
      refine q_iconstv (v := (1 : Int32)) rfl (by decide +kernel) ?_
      refine q_call rfl rfl rfl rfl ?_
      refine q_iload_n rfl rfl ?_
      refine q_if_ne_f (t := 26) rfl (by decide) (i_nne (a := (0 : Int)) (b := (0 : Int)) (by decide +kernel) (by decide +kernel) (by omega)) ?_
      refine q_aload_n rfl rfl ?_
      refine q_get rfl rfl rfl rfl ?_
      refine q_if_ne_f (t := 26) rfl (by decide) (i_nne (a := (0 : Int)) (b := (0 : Int)) (by decide +kernel) (by decide +kernel) (by omega)) ?_
      refine q_aload_n rfl rfl ?_
      refine q_iload_n rfl rfl ?_
      refine q_putv (w9 := ((w1.set 0 (.inr (7, [.ref 1, .ref 3, .ref 7, .ref 9, .ref 10, .ref 11, .ref 12, .ref 13, .ref 25, .ref 37, .ref 39, .int 0, .int 0, .int 1]))).set 41 (.inr (8, [.int 1, .ref 42, .int 0, .int 0, .int 0, .int 0, .int 0, .int 0, .int (-1), .ref 43, .ref 44, .ref 45, .ref 46, .ref 47, .ref 48, .ref 49, .int 0, .int 0, .int 0, .int 5, .int 0, .int 0, .int 0, .int 5, .ref 50, .ref 51, .ref 52, .ref 53, .ref 54, .int 0, .int 0, .ref 55, .ref 56, .ref 57, .int 0, .int 0, .int 0, .int 0, .int 0, .int 0, .ref 58, .ref 59, .ref 60, .ref 61, .ref 62, .ref 63, .ref 64, .int 0, .int 0, .ref 65, .int 0, .ref 66, .int 0])))) rfl rfl rfl (by decide) rfl (by decide) rfl ?_
      refine q_aload_n rfl rfl ?_
      refine q_get rfl rfl rfl rfl ?_
      refine q_iload_n rfl rfl ?_
      refine q_dup2 rfl ⟨rfl, rfl⟩ ?_
      refine q_ialoadv (m := 1) rfl (by decide) (by decide) rfl (by decide +kernel) rfl ?_
      refine q_iconstv (v := (1 : Int32)) rfl (by decide +kernel) ?_
      refine q_iaddv (v := (1 : Int32)) rfl (by decide +kernel) ?_
      refine q_iastorev (m := 1) (w9 := (((w1.set 0 (.inr (7, [.ref 1, .ref 3, .ref 7, .ref 9, .ref 10, .ref 11, .ref 12, .ref 13, .ref 25, .ref 37, .ref 39, .int 0, .int 0, .int 1]))).set 41 (.inr (8, [.int 1, .ref 42, .int 0, .int 0, .int 0, .int 0, .int 0, .int 0, .int (-1), .ref 43, .ref 44, .ref 45, .ref 46, .ref 47, .ref 48, .ref 49, .int 0, .int 0, .int 0, .int 5, .int 0, .int 0, .int 0, .int 5, .ref 50, .ref 51, .ref 52, .ref 53, .ref 54, .int 0, .int 0, .ref 55, .ref 56, .ref 57, .int 0, .int 0, .int 0, .int 0, .int 0, .int 0, .ref 58, .ref 59, .ref 60, .ref 61, .ref 62, .ref 63, .ref 64, .int 0, .int 0, .ref 65, .int 0, .ref 66, .int 0]))).set 42 (.inl (0, .inl ([0, 1]))))) rfl (by decide) rfl (by decide +kernel) (by decide) rfl ?_
      refine q_aload_n rfl rfl ?_
      refine q_get rfl rfl rfl rfl ?_
      refine q_if_ne_t (t := 37) rfl (by decide) (i_ne (a := (1 : Int)) (b := (0 : Int)) (by decide +kernel) (by decide +kernel) (by omega)) ?_
      refine q_iconstv (v := (0 : Int32)) rfl (by decide +kernel) ?_
      refine q_zret rfl rfl (by decide) ?_
      refine bk_inl ?_
      refine q_zret rfl rfl (by decide) ?_
      refine bk_inl ?_
      refine q_if_ne_f (t := 15) rfl (by decide) (i_nne (a := (0 : Int)) (b := (0 : Int)) (by decide +kernel) (by decide +kernel) (by omega)) ?_
      refine q_iconstv (v := (0 : Int32)) rfl (by decide +kernel) ?_
      refine q_iret rfl rfl ?_
      refine bk_inl ?_
      refine q_istore rfl (by decide) ?_
      refine q_aload_n rfl rfl ?_
      refine q_call rfl rfl rfl rfl ?_
      refine q_aload_n rfl rfl ?_
      refine q_get rfl rfl rfl rfl ?_
      refine q_iret rfl rfl ?_
      refine bk_inl ?_
      refine q_iload rfl rfl ?_
      refine q_ic_eq_t (t := 505) rfl (by decide) (i_eq (a := (1 : Int)) (b := (1 : Int)) (by decide +kernel) (by decide +kernel) (by omega)) ?_
      refine q_iload rfl rfl ?_
      refine q_if_ne_t (t := 522) rfl (by decide) (i_ne (a := (1 : Int)) (b := (0 : Int)) (by decide +kernel) (by decide +kernel) (by omega)) ?_
      refine q_goto (t := 2739) rfl (by decide) ?_
      refine q_iincv (v := (8 : Int32)) rfl rfl (by decide) (by decide +kernel) ?_
      refine q_goto (t := 23) rfl (by decide) ?_
      exact q_end rfl rfl (by decide) (by decide)
    · refine q_ic_gt_f (t := 14) rfl (by decide) (i_nlt_r (a := (x1).toInt) (b := (0 : Int)) rfl (by decide +kernel) (by omega)) ?_
      obtain rfl : x1 = (0 : Int32) := i_eq (a := (x1).toInt) (b := 0) rfl (by decide +kernel) (by omega)
      refine q_iconstv (v := (1 : Int32)) rfl (by decide +kernel) ?_
      refine q_goto (t := 15) rfl (by decide) ?_
      refine q_zret rfl rfl (by decide) ?_
      refine bk_inl ?_
      refine q_call rfl rfl rfl rfl ?_
      refine q_iload_n rfl rfl ?_
      refine q_if_ne_t (t := 25) rfl (by decide) (i_ne (a := (1 : Int)) (b := (0 : Int)) (by decide +kernel) (by decide +kernel) (by omega)) ?_
      refine q_vret rfl rfl ?_
      refine bk_inl ?_
      refine q_aload_n rfl rfl ?_
      refine q_get rfl rfl rfl rfl ?_
      refine q_iload_n rfl rfl ?_
      refine q_call rfl rfl rfl rfl ?_
      refine q_aload_n rfl rfl ?_
      refine q_iload_n rfl rfl ?_
      refine q_aload_n rfl rfl ?_
      refine q_get rfl rfl rfl rfl ?_
      refine q_mmin (z := (0 : Int32)) rfl rfl ⟨by decide, Nat.le_of_ble_eq_true rfl⟩ (by decide +kernel) ?_
      refine q_putv (w9 := w1) rfl rfl rfl (by decide) rfl (by decide) rfl ?_
      refine q_aload_n rfl rfl ?_
      refine q_iconstv (v := (0 : Int32)) rfl (by decide +kernel) ?_
      refine q_putv (w9 := w1) rfl rfl rfl (by decide) rfl (by decide) rfl ?_
      refine q_aload_n rfl rfl ?_
      refine q_iconstv (v := (0 : Int32)) rfl (by decide +kernel) ?_
      refine q_putv (w9 := w1) rfl rfl rfl (by decide) rfl (by decide) rfl ?_
      refine q_aload_n rfl rfl ?_
      refine q_iconstv (v := (0 : Int32)) rfl (by decide +kernel) ?_
      refine q_putv (w9 := w1) rfl rfl rfl (by decide) rfl (by decide) rfl ?_
      refine q_aload_n rfl rfl ?_
      refine q_iconstv (v := (-1 : Int32)) rfl (by decide +kernel) ?_
      refine q_putv (w9 := w1) rfl rfl rfl (by decide) rfl (by decide) rfl ?_
      refine q_vret rfl rfl ?_
      refine bk_inl ?_
      refine q_vret rfl rfl ?_
      refine bk_inl ?_
      refine q_aload_n rfl rfl ?_
      refine q_get rfl rfl rfl rfl ?_
      refine q_aload_n rfl rfl ?_
      refine q_get rfl rfl rfl rfl ?_
      refine q_clo (v := none) (w9 := w1) (a := 0) (b := 0) (ags := [.ref 13, .ref 1]) rfl rfl rfl rfl cl_8 ?_
      refine q_aload_n rfl rfl ?_
      refine q_aload_n rfl rfl ?_
      refine q_get rfl rfl rfl rfl ?_
      refine q_get rfl rfl rfl rfl ?_
      refine q_call rfl rfl rfl rfl ?_
      refine q_aload_n rfl rfl ?_
      refine q_get rfl rfl rfl rfl ?_
      refine q_call rfl rfl rfl rfl ?_
      refine q_aload_n rfl rfl ?_
      refine q_get rfl rfl rfl rfl ?_
      refine q_if_ne_f (t := 11) rfl (by decide) (i_nne (a := (0 : Int)) (b := (0 : Int)) (by decide +kernel) (by decide +kernel) (by omega)) ?_
      refine q_iconstv (v := (1 : Int32)) rfl (by decide +kernel) ?_
      refine q_goto (t := 12) rfl (by decide) ?_
      refine q_zret rfl rfl (by decide) ?_
      refine bk_inl ?_
      refine q_if_eq_f (t := 14) rfl (by decide) (i_ne (a := (1 : Int)) (b := (0 : Int)) (by decide +kernel) (by decide +kernel) (by omega)) ?_
      refine q_iload_n rfl rfl ?_
      refine q_goto (t := 24) rfl (by decide) ?_
      refine q_iret rfl rfl ?_
      refine bk_inl ?_
      refine q_iret rfl rfl ?_
      refine bk_inl ?_
      refine q_i2lv (v := (0 : Int64)) rfl (by decide +kernel) ?_
      refine q_lastorev (m := 0) (w9 := w1) rfl (by decide) rfl (by decide +kernel) (by decide) rfl ?_
      refine q_goto (t := 15) rfl (by decide) ?_
      refine q_iconstv (v := (0 : Int32)) rfl (by decide +kernel) ?_
      refine q_iret rfl rfl ?_
      refine bk_inl ?_
      refine q_istore rfl (by decide) ?_
      refine q_aload_n rfl rfl ?_
      refine q_aload_n rfl rfl ?_
      refine q_iload rfl rfl ?_
      refine q_iconstv (v := (1 : Int32)) rfl (by decide +kernel) ?_
      refine q_iaddv (v := (1 : Int32)) rfl (by decide +kernel) ?_
      refine q_script rfl (by decide) rfl ?_
      refine q_clo (v := (some (.int 0))) (w9 := (w1.set 41 (.inr (8, [.int 0, .ref 42, .int 0, .int 0, .int 0, .int (-1), .int 0, .int 0, .int (-1), .ref 43, .ref 44, .ref 45, .ref 46, .ref 47, .ref 48, .ref 49, .int 0, .int 0, .int 0, .int 5, .int 0, .int 0, .int 0, .int 5, .ref 50, .ref 51, .ref 52, .ref 53, .ref 54, .int 0, .int 0, .ref 55, .ref 56, .ref 57, .int 0, .int 0, .int 0, .int 0, .int 0, .int 0, .ref 58, .ref 59, .ref 60, .ref 61, .ref 62, .ref 63, .ref 64, .int 0, .int 0, .ref 65, .int 0, .ref 66, .int 0])))) (a := 0) (b := 0) (ags := [.ref 41, .int 0]) rfl rfl rfl rfl cl_9 ?_
      refine q_istore rfl (by decide) ?_
      refine q_aload_n rfl rfl ?_
      refine q_call rfl rfl rfl rfl ?_
      refine q_aload_n rfl rfl ?_
      refine q_get rfl rfl rfl rfl ?_
      refine q_iret rfl rfl ?_
      refine bk_inl ?_
      refine q_iload rfl rfl ?_
      refine q_ic_eq_t (t := 505) rfl (by decide) (i_eq (a := (0 : Int)) (b := (0 : Int)) (by decide +kernel) (by decide +kernel) (by omega)) ?_
      refine q_iload rfl rfl ?_
      refine q_if_ne_f (t := 522) rfl (by decide) (i_nne (a := (0 : Int)) (b := (0 : Int)) (by decide +kernel) (by decide +kernel) (by omega)) ?_
      refine q_aload_n rfl rfl ?_
      refine q_iconstv (v := (0 : Int32)) rfl (by decide +kernel) ?_
      refine q_laloadv (m := 0) rfl (by decide) rfl (by decide +kernel) rfl ?_
      refine q_iload rfl rfl ?_
      refine q_i2lv (v := (0 : Int64)) rfl (by decide +kernel) ?_
      refine q_lcmpv (v := (0 : Int32)) rfl (by decide +kernel) ?_
      refine q_if_eq_t (t := 522) rfl (by decide) (i_eq (a := (0 : Int)) (b := (0 : Int)) (by decide +kernel) (by decide +kernel) (by omega)) ?_
      refine q_goto (t := 2739) rfl (by decide) ?_
      refine q_iincv (v := (8 : Int32)) rfl rfl (by decide) (by decide +kernel) ?_
      refine q_goto (t := 23) rfl (by decide) ?_
      exact q_end rfl rfl (by decide) (by decide)
set_option maxRecDepth 100000 in
set_option maxHeartbeats 4000000 in
theorem op_5 {x0 x1 x2 x3 x4 x5 x6 x7 : Int32} : Wp [x0, x1, x2, x3, x4, x5, x6, x7] 100 296 525 l1 [] w1 68 8870 Qlaw := by
  refine q_aload_n rfl rfl ?_
  refine q_aload_n rfl rfl ?_
  refine q_iload rfl rfl ?_
  refine q_iconstv (v := (1 : Int32)) rfl (by decide +kernel) ?_
  refine q_iaddv (v := (1 : Int32)) rfl (by decide +kernel) ?_
  refine q_script rfl (by decide) rfl ?_
  refine q_aload_n rfl rfl ?_
  refine q_call rfl rfl rfl rfl ?_
  refine q_aload_n rfl rfl ?_
  refine q_iconstv (v := (0 : Int32)) rfl (by decide +kernel) ?_
  refine q_aload_n rfl rfl ?_
  refine q_iload_n rfl rfl ?_
  refine q_call rfl rfl rfl rfl ?_
  refine q_aload_n rfl rfl ?_
  refine q_iload_n rfl rfl ?_
  refine q_bipushv (v := (60 : Int32)) rfl (by decide +kernel) ?_
  refine q_call rfl rfl rfl rfl ?_
  refine q_aload_n rfl rfl ?_
  refine q_iload_n rfl rfl ?_
  refine q_iconstv (v := (0 : Int32)) rfl (by decide +kernel) ?_
  refine q_iload_n rfl rfl ?_
  refine q_aload_n rfl rfl ?_
  refine q_get rfl rfl rfl rfl ?_
  refine q_get rfl rfl rfl rfl ?_
  refine q_mmin (z := (0 : Int32)) rfl rfl ⟨by decide, Nat.le_of_ble_eq_true rfl⟩ (by decide +kernel) ?_
  refine q_call rfl rfl rfl rfl ?_
  refine q_iload_n rfl rfl ?_
  refine q_iload_n rfl rfl ?_
  by_cases h1 : (x1).toInt < 0
  · refine q_ic_lt_t (t := 14) rfl (by decide) (i_lt (a := (x1).toInt) (b := (0 : Int)) rfl (by decide +kernel) (by omega)) ?_
    refine q_iconstv (v := (0 : Int32)) rfl (by decide +kernel) ?_
    refine q_zret rfl rfl (by decide) ?_
    refine bk_inl ?_
    refine q_call rfl rfl rfl rfl ?_
    refine q_iload_n rfl rfl ?_
    refine q_if_ne_f (t := 25) rfl (by decide) (i_nne (a := (0 : Int)) (b := (0 : Int)) (by decide +kernel) (by decide +kernel) (by omega)) ?_
    refine q_aload_n rfl rfl ?_
    refine q_dup rfl rfl ?_
    refine q_get rfl rfl rfl rfl ?_
    refine q_iconstv (v := (1 : Int32)) rfl (by decide +kernel) ?_
    refine q_iaddv (v := (1 : Int32)) rfl (by decide +kernel) ?_
    refine q_putv (w9 := (w1.set 0 (.inr (7, [.ref 1, .ref 3, .ref 7, .ref 9, .ref 10, .ref 11, .ref 12, .ref 13, .ref 25, .ref 37, .ref 39, .int 0, .int 0, .int 1])))) rfl rfl rfl (by decide) rfl (by decide) rfl ?_
    refine q_fin rfl rfl rfl ?_
    refine bk_out rfl rfl ?_
    refine bk_out rfl rfl ?_
    refine bk_thr (z := (1 : Int32)) rfl ⟨_, _, rfl⟩ rfl ?_
    refine bk_inl ?_
    refine q_istore rfl (by decide) ?_
    refine q_aload_n rfl rfl ?_
    refine q_aload_n rfl rfl ?_
    refine q_iload rfl rfl ?_
    refine q_iconstv (v := (1 : Int32)) rfl (by decide +kernel) ?_
    refine q_iaddv (v := (1 : Int32)) rfl (by decide +kernel) ?_
    refine q_script rfl (by decide) rfl ?_
    refine q_call rfl rfl rfl rfl ?_
    refine q_aload_n rfl rfl ?_
    refine q_iconstv (v := (0 : Int32)) rfl (by decide +kernel) ?_
    refine q_putv (w9 := (w1.set 0 (.inr (7, [.ref 1, .ref 3, .ref 7, .ref 9, .ref 10, .ref 11, .ref 12, .ref 13, .ref 25, .ref 37, .ref 39, .int 0, .int 0, .int 1])))) rfl rfl rfl (by decide) rfl (by decide) rfl ?_
    refine q_aload_n rfl rfl ?_
    refine q_iload_n rfl rfl ?_
    refine q_call rfl rfl rfl rfl ?_
    refine q_aload_n rfl rfl ?_
    refine q_iload_n rfl rfl ?_
    refine q_if_lt_t (t := 23) rfl (by decide) (i_lt (a := (x1).toInt) (b := (0 : Int)) rfl (by decide +kernel) (by omega)) ?_
    refine q_iconstv (v := (0 : Int32)) rfl (by decide +kernel) ?_
    refine q_iconstv (v := (1 : Int32)) rfl (by decide +kernel) ?_
    refine q_iconstv (v := (1 : Int32)) rfl (by decide +kernel) ?_
    refine q_call rfl rfl rfl rfl ?_
    refine q_iload_n rfl rfl ?_
    refine q_if_ne_f (t := 26) rfl (by decide) (i_nne (a := (0 : Int)) (b := (0 : Int)) (by decide +kernel) (by decide +kernel) (by omega)) ?_
    refine q_aload_n rfl rfl ?_
    refine q_get rfl rfl rfl rfl ?_
    refine q_if_ne_f (t := 26) rfl (by decide) (i_nne (a := (0 : Int)) (b := (0 : Int)) (by decide +kernel) (by decide +kernel) (by omega)) ?_
    refine q_aload_n rfl rfl ?_
    refine q_iload_n rfl rfl ?_
    refine q_putv (w9 := ((w1.set 0 (.inr (7, [.ref 1, .ref 3, .ref 7, .ref 9, .ref 10, .ref 11, .ref 12, .ref 13, .ref 25, .ref 37, .ref 39, .int 0, .int 0, .int 1]))).set 41 (.inr (8, [.int 1, .ref 42, .int 0, .int 0, .int 0, .int 0, .int 0, .int 0, .int (-1), .ref 43, .ref 44, .ref 45, .ref 46, .ref 47, .ref 48, .ref 49, .int 0, .int 0, .int 0, .int 5, .int 0, .int 0, .int 0, .int 5, .ref 50, .ref 51, .ref 52, .ref 53, .ref 54, .int 0, .int 0, .ref 55, .ref 56, .ref 57, .int 0, .int 0, .int 0, .int 0, .int 0, .int 0, .ref 58, .ref 59, .ref 60, .ref 61, .ref 62, .ref 63, .ref 64, .int 0, .int 0, .ref 65, .int 0, .ref 66, .int 0])))) rfl rfl rfl (by decide) rfl (by decide) rfl ?_
    refine q_aload_n rfl rfl ?_
    refine q_get rfl rfl rfl rfl ?_
    refine q_iload_n rfl rfl ?_
    refine q_dup2 rfl ⟨rfl, rfl⟩ ?_
    refine q_ialoadv (m := 1) rfl (by decide) (by decide) rfl (by decide +kernel) rfl ?_
    refine q_iconstv (v := (1 : Int32)) rfl (by decide +kernel) ?_
    refine q_iaddv (v := (1 : Int32)) rfl (by decide +kernel) ?_
    refine q_iastorev (m := 1) (w9 := (((w1.set 0 (.inr (7, [.ref 1, .ref 3, .ref 7, .ref 9, .ref 10, .ref 11, .ref 12, .ref 13, .ref 25, .ref 37, .ref 39, .int 0, .int 0, .int 1]))).set 41 (.inr (8, [.int 1, .ref 42, .int 0, .int 0, .int 0, .int 0, .int 0, .int 0, .int (-1), .ref 43, .ref 44, .ref 45, .ref 46, .ref 47, .ref 48, .ref 49, .int 0, .int 0, .int 0, .int 5, .int 0, .int 0, .int 0, .int 5, .ref 50, .ref 51, .ref 52, .ref 53, .ref 54, .int 0, .int 0, .ref 55, .ref 56, .ref 57, .int 0, .int 0, .int 0, .int 0, .int 0, .int 0, .ref 58, .ref 59, .ref 60, .ref 61, .ref 62, .ref 63, .ref 64, .int 0, .int 0, .ref 65, .int 0, .ref 66, .int 0]))).set 42 (.inl (0, .inl ([0, 1]))))) rfl (by decide) rfl (by decide +kernel) (by decide) rfl ?_
    refine q_aload_n rfl rfl ?_
    refine q_get rfl rfl rfl rfl ?_
    refine q_if_ne_t (t := 37) rfl (by decide) (i_ne (a := (1 : Int)) (b := (0 : Int)) (by decide +kernel) (by decide +kernel) (by omega)) ?_
    refine q_iconstv (v := (0 : Int32)) rfl (by decide +kernel) ?_
    refine q_zret rfl rfl (by decide) ?_
    refine bk_inl ?_
    refine q_zret rfl rfl (by decide) ?_
    refine bk_inl ?_
    refine q_if_ne_f (t := 15) rfl (by decide) (i_nne (a := (0 : Int)) (b := (0 : Int)) (by decide +kernel) (by decide +kernel) (by omega)) ?_
    refine q_iconstv (v := (0 : Int32)) rfl (by decide +kernel) ?_
    refine q_iret rfl rfl ?_
    refine bk_inl ?_
    refine q_istore rfl (by decide) ?_
    refine q_aload_n rfl rfl ?_
    refine q_call rfl rfl rfl rfl ?_
    refine q_aload_n rfl rfl ?_
    refine q_get rfl rfl rfl rfl ?_
    refine q_iret rfl rfl ?_
    refine bk_inl ?_
    refine q_iload rfl rfl ?_
    refine q_ic_eq_t (t := 561) rfl (by decide) (i_eq (a := (1 : Int)) (b := (1 : Int)) (by decide +kernel) (by decide +kernel) (by omega)) ?_
    refine q_iload rfl rfl ?_
    refine q_if_ne_t (t := 578) rfl (by decide) (i_ne (a := (1 : Int)) (b := (0 : Int)) (by decide +kernel) (by decide +kernel) (by omega)) ?_
    refine q_goto (t := 2739) rfl (by decide) ?_
    refine q_iincv (v := (8 : Int32)) rfl rfl (by decide) (by decide +kernel) ?_
    refine q_goto (t := 23) rfl (by decide) ?_
    exact q_end rfl rfl (by decide) (by decide)
  · refine q_ic_lt_f (t := 14) rfl (by decide) (i_nlt (a := (x1).toInt) (b := (0 : Int)) rfl (by decide +kernel) (by omega)) ?_
    refine q_iload_n rfl rfl ?_
    refine q_iload_n rfl rfl ?_
    by_cases h2 : (x1).toInt > 0
    · refine q_ic_gt_t (t := 14) rfl (by decide) (i_lt_r (a := (x1).toInt) (b := (0 : Int)) rfl (by decide +kernel) (by omega)) ?_
      refine q_iconstv (v := (0 : Int32)) rfl (by decide +kernel) ?_
      refine q_zret rfl rfl (by decide) ?_
      refine bk_inl ?_
      refine q_call rfl rfl rfl rfl ?_
      refine q_iload_n rfl rfl ?_
      refine q_if_ne_f (t := 25) rfl (by decide) (i_nne (a := (0 : Int)) (b := (0 : Int)) (by decide +kernel) (by decide +kernel) (by omega)) ?_
      refine q_aload_n rfl rfl ?_
      refine q_dup rfl rfl ?_
      refine q_get rfl rfl rfl rfl ?_
      refine q_iconstv (v := (1 : Int32)) rfl (by decide +kernel) ?_
      refine q_iaddv (v := (1 : Int32)) rfl (by decide +kernel) ?_
      refine q_putv (w9 := (w1.set 0 (.inr (7, [.ref 1, .ref 3, .ref 7, .ref 9, .ref 10, .ref 11, .ref 12, .ref 13, .ref 25, .ref 37, .ref 39, .int 0, .int 0, .int 1])))) rfl rfl rfl (by decide) rfl (by decide) rfl ?_
      refine q_fin rfl rfl rfl ?_
      refine bk_out rfl rfl ?_
      refine bk_out rfl rfl ?_
      refine bk_thr (z := (1 : Int32)) rfl ⟨_, _, rfl⟩ rfl ?_
      refine bk_inl ?_
      refine q_istore rfl (by decide) ?_
      refine q_aload_n rfl rfl ?_
      refine q_aload_n rfl rfl ?_
      refine q_iload rfl rfl ?_
      refine q_iconstv (v := (1 : Int32)) rfl (by decide +kernel) ?_
      refine q_iaddv (v := (1 : Int32)) rfl (by decide +kernel) ?_
      refine q_script rfl (by decide) rfl ?_
      refine q_call rfl rfl rfl rfl ?_
      refine q_aload_n rfl rfl ?_
      refine q_iconstv (v := (0 : Int32)) rfl (by decide +kernel) ?_
      refine q_putv (w9 := (w1.set 0 (.inr (7, [.ref 1, .ref 3, .ref 7, .ref 9, .ref 10, .ref 11, .ref 12, .ref 13, .ref 25, .ref 37, .ref 39, .int 0, .int 0, .int 1])))) rfl rfl rfl (by decide) rfl (by decide) rfl ?_
      refine q_aload_n rfl rfl ?_
      refine q_iload_n rfl rfl ?_
      refine q_call rfl rfl rfl rfl ?_
      refine q_aload_n rfl rfl ?_
      refine q_iload_n rfl rfl ?_
      refine q_if_lt_f (t := 23) rfl (by decide) (i_nlt (a := (x1).toInt) (b := (0 : Int)) rfl (by decide +kernel) (by omega)) ?_
      refine q_iload_n rfl rfl ?_
      refine q_aload_n rfl rfl ?_
      refine q_get rfl rfl rfl rfl ?_
      refine q_ic_gt_t (t := 23) rfl (by decide) (i_lt_r (a := (x1).toInt) (b := (0 : Int)) rfl (by decide +kernel) (by omega)) ?_
      refine q_iconstv (v := (0 : Int32)) rfl (by decide +kernel) ?_
      refine q_iconstv (v := (1 : Int32)) rfl (by decide +kernel) ?_
      refine q_iconstv (v := (1 : Int32)) rfl (by decide +kernel) ?_
      refine q_call rfl rfl rfl rfl ?_
      refine q_iload_n rfl rfl ?_
      refine q_if_ne_f (t := 26) rfl (by decide) (i_nne (a := (0 : Int)) (b := (0 : Int)) (by decide +kernel) (by decide +kernel) (by omega)) ?_
      refine q_aload_n rfl rfl ?_
      refine q_get rfl rfl rfl rfl ?_
      refine q_if_ne_f (t := 26) rfl (by decide) (i_nne (a := (0 : Int)) (b := (0 : Int)) (by decide +kernel) (by decide +kernel) (by omega)) ?_
      refine q_aload_n rfl rfl ?_
      refine q_iload_n rfl rfl ?_
      refine q_putv (w9 := ((w1.set 0 (.inr (7, [.ref 1, .ref 3, .ref 7, .ref 9, .ref 10, .ref 11, .ref 12, .ref 13, .ref 25, .ref 37, .ref 39, .int 0, .int 0, .int 1]))).set 41 (.inr (8, [.int 1, .ref 42, .int 0, .int 0, .int 0, .int 0, .int 0, .int 0, .int (-1), .ref 43, .ref 44, .ref 45, .ref 46, .ref 47, .ref 48, .ref 49, .int 0, .int 0, .int 0, .int 5, .int 0, .int 0, .int 0, .int 5, .ref 50, .ref 51, .ref 52, .ref 53, .ref 54, .int 0, .int 0, .ref 55, .ref 56, .ref 57, .int 0, .int 0, .int 0, .int 0, .int 0, .int 0, .ref 58, .ref 59, .ref 60, .ref 61, .ref 62, .ref 63, .ref 64, .int 0, .int 0, .ref 65, .int 0, .ref 66, .int 0])))) rfl rfl rfl (by decide) rfl (by decide) rfl ?_
      refine q_aload_n rfl rfl ?_
      refine q_get rfl rfl rfl rfl ?_
      refine q_iload_n rfl rfl ?_
      refine q_dup2 rfl ⟨rfl, rfl⟩ ?_
      refine q_ialoadv (m := 1) rfl (by decide) (by decide) rfl (by decide +kernel) rfl ?_
      refine q_iconstv (v := (1 : Int32)) rfl (by decide +kernel) ?_
      refine q_iaddv (v := (1 : Int32)) rfl (by decide +kernel) ?_
      refine q_iastorev (m := 1) (w9 := (((w1.set 0 (.inr (7, [.ref 1, .ref 3, .ref 7, .ref 9, .ref 10, .ref 11, .ref 12, .ref 13, .ref 25, .ref 37, .ref 39, .int 0, .int 0, .int 1]))).set 41 (.inr (8, [.int 1, .ref 42, .int 0, .int 0, .int 0, .int 0, .int 0, .int 0, .int (-1), .ref 43, .ref 44, .ref 45, .ref 46, .ref 47, .ref 48, .ref 49, .int 0, .int 0, .int 0, .int 5, .int 0, .int 0, .int 0, .int 5, .ref 50, .ref 51, .ref 52, .ref 53, .ref 54, .int 0, .int 0, .ref 55, .ref 56, .ref 57, .int 0, .int 0, .int 0, .int 0, .int 0, .int 0, .ref 58, .ref 59, .ref 60, .ref 61, .ref 62, .ref 63, .ref 64, .int 0, .int 0, .ref 65, .int 0, .ref 66, .int 0]))).set 42 (.inl (0, .inl ([0, 1]))))) rfl (by decide) rfl (by decide +kernel) (by decide) rfl ?_
      refine q_aload_n rfl rfl ?_
      refine q_get rfl rfl rfl rfl ?_
      refine q_if_ne_t (t := 37) rfl (by decide) (i_ne (a := (1 : Int)) (b := (0 : Int)) (by decide +kernel) (by decide +kernel) (by omega)) ?_
      refine q_iconstv (v := (0 : Int32)) rfl (by decide +kernel) ?_
      refine q_zret rfl rfl (by decide) ?_
      refine bk_inl ?_
      refine q_zret rfl rfl (by decide) ?_
      refine bk_inl ?_
      refine q_if_ne_f (t := 15) rfl (by decide) (i_nne (a := (0 : Int)) (b := (0 : Int)) (by decide +kernel) (by decide +kernel) (by omega)) ?_
      refine q_iconstv (v := (0 : Int32)) rfl (by decide +kernel) ?_
      refine q_iret rfl rfl ?_
      refine bk_inl ?_
      refine q_istore rfl (by decide) ?_
      refine q_aload_n rfl rfl ?_
      refine q_call rfl rfl rfl rfl ?_
      refine q_aload_n rfl rfl ?_
      refine q_get rfl rfl rfl rfl ?_
      refine q_iret rfl rfl ?_
      refine bk_inl ?_
      refine q_iload rfl rfl ?_
      refine q_ic_eq_t (t := 561) rfl (by decide) (i_eq (a := (1 : Int)) (b := (1 : Int)) (by decide +kernel) (by decide +kernel) (by omega)) ?_
      refine q_iload rfl rfl ?_
      refine q_if_ne_t (t := 578) rfl (by decide) (i_ne (a := (1 : Int)) (b := (0 : Int)) (by decide +kernel) (by decide +kernel) (by omega)) ?_
      refine q_goto (t := 2739) rfl (by decide) ?_
      refine q_iincv (v := (8 : Int32)) rfl rfl (by decide) (by decide +kernel) ?_
      refine q_goto (t := 23) rfl (by decide) ?_
      exact q_end rfl rfl (by decide) (by decide)
    · refine q_ic_gt_f (t := 14) rfl (by decide) (i_nlt_r (a := (x1).toInt) (b := (0 : Int)) rfl (by decide +kernel) (by omega)) ?_
      obtain rfl : x1 = (0 : Int32) := i_eq (a := (x1).toInt) (b := 0) rfl (by decide +kernel) (by omega)
      refine q_iconstv (v := (1 : Int32)) rfl (by decide +kernel) ?_
      refine q_goto (t := 15) rfl (by decide) ?_
      refine q_zret rfl rfl (by decide) ?_
      refine bk_inl ?_
      refine q_call rfl rfl rfl rfl ?_
      refine q_iload_n rfl rfl ?_
      refine q_if_ne_t (t := 25) rfl (by decide) (i_ne (a := (1 : Int)) (b := (0 : Int)) (by decide +kernel) (by decide +kernel) (by omega)) ?_
      refine q_vret rfl rfl ?_
      refine bk_inl ?_
      refine q_aload_n rfl rfl ?_
      refine q_get rfl rfl rfl rfl ?_
      refine q_iload_n rfl rfl ?_
      refine q_call rfl rfl rfl rfl ?_
      refine q_aload_n rfl rfl ?_
      refine q_iload_n rfl rfl ?_
      refine q_aload_n rfl rfl ?_
      refine q_get rfl rfl rfl rfl ?_
      refine q_mmin (z := (0 : Int32)) rfl rfl ⟨by decide, Nat.le_of_ble_eq_true rfl⟩ (by decide +kernel) ?_
      refine q_putv (w9 := w1) rfl rfl rfl (by decide) rfl (by decide) rfl ?_
      refine q_aload_n rfl rfl ?_
      refine q_iconstv (v := (0 : Int32)) rfl (by decide +kernel) ?_
      refine q_putv (w9 := w1) rfl rfl rfl (by decide) rfl (by decide) rfl ?_
      refine q_aload_n rfl rfl ?_
      refine q_iconstv (v := (0 : Int32)) rfl (by decide +kernel) ?_
      refine q_putv (w9 := w1) rfl rfl rfl (by decide) rfl (by decide) rfl ?_
      refine q_aload_n rfl rfl ?_
      refine q_iconstv (v := (0 : Int32)) rfl (by decide +kernel) ?_
      refine q_putv (w9 := w1) rfl rfl rfl (by decide) rfl (by decide) rfl ?_
      refine q_aload_n rfl rfl ?_
      refine q_iconstv (v := (-1 : Int32)) rfl (by decide +kernel) ?_
      refine q_putv (w9 := w1) rfl rfl rfl (by decide) rfl (by decide) rfl ?_
      refine q_vret rfl rfl ?_
      refine bk_inl ?_
      refine q_vret rfl rfl ?_
      refine bk_inl ?_
      refine q_aload_n rfl rfl ?_
      refine q_get rfl rfl rfl rfl ?_
      refine q_aload_n rfl rfl ?_
      refine q_get rfl rfl rfl rfl ?_
      refine q_clo (v := none) (w9 := (w1.set 18 (.inl (0, .inl ([-1, -1, -1, -1, 0, 0, 0, 0]))))) (a := 0) (b := 0) (ags := [.ref 13, .ref 1]) rfl rfl rfl rfl cl_10 ?_
      refine q_aload_n rfl rfl ?_
      refine q_aload_n rfl rfl ?_
      refine q_get rfl rfl rfl rfl ?_
      refine q_get rfl rfl rfl rfl ?_
      refine q_call rfl rfl rfl rfl ?_
      refine q_aload_n rfl rfl ?_
      refine q_get rfl rfl rfl rfl ?_
      refine q_call rfl rfl rfl rfl ?_
      refine q_aload_n rfl rfl ?_
      refine q_get rfl rfl rfl rfl ?_
      refine q_if_ne_f (t := 11) rfl (by decide) (i_nne (a := (0 : Int)) (b := (0 : Int)) (by decide +kernel) (by decide +kernel) (by omega)) ?_
      refine q_iconstv (v := (1 : Int32)) rfl (by decide +kernel) ?_
      refine q_goto (t := 12) rfl (by decide) ?_
      refine q_zret rfl rfl (by decide) ?_
      refine bk_inl ?_
      refine q_if_eq_f (t := 14) rfl (by decide) (i_ne (a := (1 : Int)) (b := (0 : Int)) (by decide +kernel) (by decide +kernel) (by omega)) ?_
      refine q_iload_n rfl rfl ?_
      refine q_goto (t := 24) rfl (by decide) ?_
      refine q_iret rfl rfl ?_
      refine bk_inl ?_
      refine q_iret rfl rfl ?_
      refine bk_inl ?_
      refine q_i2lv (v := (0 : Int64)) rfl (by decide +kernel) ?_
      refine q_lastorev (m := 0) (w9 := (w1.set 18 (.inl (0, .inl ([-1, -1, -1, -1, 0, 0, 0, 0]))))) rfl (by decide) rfl (by decide +kernel) (by decide) rfl ?_
      refine q_goto (t := 15) rfl (by decide) ?_
      refine q_iconstv (v := (0 : Int32)) rfl (by decide +kernel) ?_
      refine q_iret rfl rfl ?_
      refine bk_inl ?_
      refine q_istore rfl (by decide) ?_
      refine q_aload_n rfl rfl ?_
      refine q_aload_n rfl rfl ?_
      refine q_iload rfl rfl ?_
      refine q_iconstv (v := (1 : Int32)) rfl (by decide +kernel) ?_
      refine q_iaddv (v := (1 : Int32)) rfl (by decide +kernel) ?_
      refine q_script rfl (by decide) rfl ?_
      refine q_clo (v := (some (.int 0))) (w9 := (((w1.set 18 (.inl (0, .inl ([-1, -1, -1, -1, 0, 0, 0, 0])))).set 41 (.inr (8, [.int 0, .ref 42, .int 0, .int 0, .int 0, .int (-1), .int 0, .int 0, .int (-1), .ref 43, .ref 44, .ref 45, .ref 46, .ref 47, .ref 48, .ref 49, .int 0, .int 0, .int 0, .int 5, .int 0, .int 0, .int 0, .int 5, .ref 50, .ref 51, .ref 52, .ref 53, .ref 54, .int 0, .int 0, .ref 55, .ref 56, .ref 57, .int 0, .int 0, .int 0, .int 0, .int 0, .int 0, .ref 58, .ref 59, .ref 60, .ref 61, .ref 62, .ref 63, .ref 64, .int 0, .int 0, .ref 65, .int 0, .ref 66, .int 0]))).set 63 (.inl (0, .inl ([-1, -1, -1, -1]))))) (a := 0) (b := 0) (ags := [.ref 41, .int 0]) rfl rfl rfl rfl cl_11 ?_
      refine q_istore rfl (by decide) ?_
      refine q_aload_n rfl rfl ?_
      refine q_call rfl rfl rfl rfl ?_
      refine q_aload_n rfl rfl ?_
      refine q_get rfl rfl rfl rfl ?_
      refine q_iret rfl rfl ?_
      refine bk_inl ?_
      refine q_iload rfl rfl ?_
      refine q_ic_eq_t (t := 561) rfl (by decide) (i_eq (a := (0 : Int)) (b := (0 : Int)) (by decide +kernel) (by decide +kernel) (by omega)) ?_
      refine q_iload rfl rfl ?_
      refine q_if_ne_f (t := 578) rfl (by decide) (i_nne (a := (0 : Int)) (b := (0 : Int)) (by decide +kernel) (by decide +kernel) (by omega)) ?_
      refine q_aload_n rfl rfl ?_
      refine q_iconstv (v := (0 : Int32)) rfl (by decide +kernel) ?_
      refine q_laloadv (m := 0) rfl (by decide) rfl (by decide +kernel) rfl ?_
      refine q_iload rfl rfl ?_
      refine q_i2lv (v := (0 : Int64)) rfl (by decide +kernel) ?_
      refine q_lcmpv (v := (0 : Int32)) rfl (by decide +kernel) ?_
      refine q_if_eq_t (t := 578) rfl (by decide) (i_eq (a := (0 : Int)) (b := (0 : Int)) (by decide +kernel) (by decide +kernel) (by omega)) ?_
      refine q_goto (t := 2739) rfl (by decide) ?_
      refine q_iincv (v := (8 : Int32)) rfl rfl (by decide) (by decide +kernel) ?_
      refine q_goto (t := 23) rfl (by decide) ?_
      exact q_end rfl rfl (by decide) (by decide)
set_option maxRecDepth 100000 in
set_option maxHeartbeats 4000000 in
theorem op_6 {x0 x1 x2 x3 x4 x5 x6 x7 : Int32} : Wp [x0, x1, x2, x3, x4, x5, x6, x7] 100 296 581 l1 [] w1 68 8870 Qlaw := by
  refine q_aload_n rfl rfl ?_
  refine q_call rfl rfl rfl rfl ?_
  refine q_aload_n rfl rfl ?_
  refine q_get rfl rfl rfl rfl ?_
  refine q_get rfl rfl rfl rfl ?_
  refine q_iret rfl rfl ?_
  refine bk_inl ?_
  refine q_aload_n rfl rfl ?_
  refine q_call rfl rfl rfl rfl ?_
  refine q_aload_n rfl rfl ?_
  refine q_iconstv (v := (0 : Int32)) rfl (by decide +kernel) ?_
  refine q_putv (w9 := w1) rfl rfl rfl (by decide) rfl (by decide) rfl ?_
  refine q_aload_n rfl rfl ?_
  refine q_get rfl rfl rfl rfl ?_
  refine q_iret rfl rfl ?_
  refine bk_inl ?_
  refine q_ic_eq_t (t := 2739) rfl (by decide) (i_eq (a := (-1 : Int)) (b := (-1 : Int)) (by decide +kernel) (by decide +kernel) (by omega)) ?_
  refine q_iincv (v := (8 : Int32)) rfl rfl (by decide) (by decide +kernel) ?_
  refine q_goto (t := 23) rfl (by decide) ?_
  exact q_end rfl rfl (by decide) (by decide)
set_option maxRecDepth 100000 in
set_option maxHeartbeats 4000000 in
theorem op_7 {x0 x1 x2 x3 x4 x5 x6 x7 : Int32} : Wp [x0, x1, x2, x3, x4, x5, x6, x7] 100 296 594 l1 [] w1 68 8870 Qlaw := by
  refine q_aload_n rfl rfl ?_
  refine q_call rfl rfl rfl rfl ?_
  refine q_aload_n rfl rfl ?_
  refine q_get rfl rfl rfl rfl ?_
  refine q_get rfl rfl rfl rfl ?_
  refine q_if_ne_f (t := 12) rfl (by decide) (i_nne (a := (0 : Int)) (b := (0 : Int)) (by decide +kernel) (by decide +kernel) (by omega)) ?_
  refine q_iconstv (v := (-1 : Int32)) rfl (by decide +kernel) ?_
  refine q_iret rfl rfl ?_
  refine bk_inl ?_
  refine q_aload_n rfl rfl ?_
  refine q_call rfl rfl rfl rfl ?_
  refine q_aload_n rfl rfl ?_
  refine q_iconstv (v := (0 : Int32)) rfl (by decide +kernel) ?_
  refine q_putv (w9 := w1) rfl rfl rfl (by decide) rfl (by decide) rfl ?_
  refine q_aload_n rfl rfl ?_
  refine q_get rfl rfl rfl rfl ?_
  refine q_if_ne_f (t := 14) rfl (by decide) (i_nne (a := (0 : Int)) (b := (0 : Int)) (by decide +kernel) (by decide +kernel) (by omega)) ?_
  refine q_iconstv (v := (-1 : Int32)) rfl (by decide +kernel) ?_
  refine q_iret rfl rfl ?_
  refine bk_inl ?_
  refine q_ic_eq_t (t := 2739) rfl (by decide) (i_eq (a := (-1 : Int)) (b := (-1 : Int)) (by decide +kernel) (by decide +kernel) (by omega)) ?_
  refine q_iincv (v := (8 : Int32)) rfl rfl (by decide) (by decide +kernel) ?_
  refine q_goto (t := 23) rfl (by decide) ?_
  exact q_end rfl rfl (by decide) (by decide)
