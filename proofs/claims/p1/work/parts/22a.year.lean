/-! ===== the year ===== -/
set_option maxRecDepth 1000000 in
theorem cy_0 : clo_is (ev0 1000000 97 66 0 (lv_args 0 [.ref 39, .ref 37]) [] w1 0 0) none w1 0 0 = true := by decide +kernel
set_option maxRecDepth 100000 in
set_option maxHeartbeats 4000000 in
theorem live_48 {sc : List Int32} {x1 x2 x3 : Int32} {Q : AR → Prop} (h1 : 48 ≤ x3.toInt) (h2 : x3.toInt ≤ 48) (K : ∀ D : Nat, Q (.inl none, ((w1.set 9 (.inr (6, [.int (x1)]))).set 40 (.inl (0, .inl ((List.replicate 34 0).set 31 (Int32.ofNat D))))), 0, 0)) : Wp sc 97 77 35 [(8, .int 48), (7, .int 0), (6, .int 0), (5, .int 0), (0, .ref 9), (1, .ref 39), (2, .int (x1)), (3, .int (x2)), (4, .int 48)] [] ((w1.set 9 (.inr (6, [.int (x1)]))).set 40 (.inl (0, .inl ((List.replicate 34 0).set 31 (48))))) 0 0 Q := by
  refine q_iload rfl rfl ?_
  refine q_iload rfl rfl ?_
  refine q_ic_ge_t (t := 159) rfl (by decide) (i_le_r (a := (48 : Int)) (b := (48 : Int)) (by decide +kernel) (by decide +kernel) (by omega)) ?_
  refine q_vret rfl rfl ?_
  exact K 48
set_option maxRecDepth 100000 in
set_option maxHeartbeats 4000000 in
theorem live_47 {sc : List Int32} {x1 x2 x3 : Int32} {Q : AR → Prop} (h1 : 47 ≤ x3.toInt) (h2 : x3.toInt ≤ 48) (K : ∀ D : Nat, Q (.inl none, ((w1.set 9 (.inr (6, [.int (x1)]))).set 40 (.inl (0, .inl ((List.replicate 34 0).set 31 (Int32.ofNat D))))), 0, 0)) : Wp sc 97 77 35 [(8, .int 47), (7, .int 0), (6, .int 0), (5, .int 0), (0, .ref 9), (1, .ref 39), (2, .int (x1)), (3, .int (x2)), (4, .int (x3))] [] ((w1.set 9 (.inr (6, [.int (x1)]))).set 40 (.inl (0, .inl ((List.replicate 34 0).set 31 (47))))) 0 0 Q := by
  refine q_iload rfl rfl ?_
  refine q_iload rfl rfl ?_
  by_cases h101 : (x3).toInt ≤ 47
  · refine q_ic_ge_t (t := 159) rfl (by decide) (i_le_r (a := (47 : Int)) (b := (x3).toInt) (by decide +kernel) rfl (by omega)) ?_
    obtain rfl : x3 = (47 : Int32) := i_eq (a := (x3).toInt) (b := 47) rfl (by decide +kernel) (by omega)
    refine q_vret rfl rfl ?_
    exact K 47
  · refine q_ic_ge_f (t := 159) rfl (by decide) (i_nle_r (a := (47 : Int)) (b := (x3).toInt) (by decide +kernel) rfl (by omega)) ?_
    obtain rfl : x3 = (48 : Int32) := i_eq (a := (x3).toInt) (b := 48) rfl (by decide +kernel) (by omega)
    refine q_iload rfl rfl ?_
    refine q_if_le_t (t := 73) rfl (by decide) (i_le (a := (0 : Int)) (b := (0 : Int)) (by decide +kernel) (by decide +kernel) (by omega)) ?_
    refine q_iload rfl rfl ?_
    refine q_iconstv (v := (3 : Int32)) rfl (by decide +kernel) ?_
    refine q_ic_lt_t (t := 133) rfl (by decide) (i_lt (a := (0 : Int)) (b := (3 : Int)) (by decide +kernel) (by decide +kernel) (by omega)) ?_
    refine q_iload rfl rfl ?_
    refine q_if_le_t (t := 149) rfl (by decide) (i_le (a := (0 : Int)) (b := (0 : Int)) (by decide +kernel) (by decide +kernel) (by omega)) ?_
    refine q_aload_n rfl rfl ?_
    refine q_call rfl rfl rfl rfl ?_
    refine q_iconstv (v := (0 : Int32)) rfl (by decide +kernel) ?_
    refine q_istore_n rfl (by decide) ?_
    refine q_iload_n rfl rfl ?_
    refine q_aload_n rfl rfl ?_
    refine q_get rfl rfl rfl rfl ?_
    refine q_get rfl rfl rfl rfl ?_
    refine q_ic_ge_t (t := 40) rfl (by decide) (i_le_r (a := (0 : Int)) (b := (0 : Int)) (by decide +kernel) (by decide +kernel) (by omega)) ?_
    refine q_aload_n rfl rfl ?_
    refine q_get rfl rfl rfl rfl ?_
    refine q_bipushv (v := (31 : Int32)) rfl (by decide +kernel) ?_
    refine q_dup2 rfl ⟨rfl, rfl⟩ ?_
    refine q_ialoadv (m := 31) rfl (by decide) (by decide) rfl (by decide +kernel) rfl ?_
    refine q_iconstv (v := (1 : Int32)) rfl (by decide +kernel) ?_
    refine q_iaddv (v := (48 : Int32)) rfl (by decide +kernel) ?_
    refine q_iastorev (m := 31) (w9 := ((w1.set 9 (.inr (6, [.int (x1)]))).set 40 (.inl (0, .inl ((List.replicate 34 0).set 31 (48)))))) rfl (by decide) rfl (by decide +kernel) (by decide) rfl ?_
    refine q_vret rfl rfl ?_
    refine bk_inl ?_
    refine q_iincv (v := (48 : Int32)) rfl rfl (by decide) (by decide +kernel) ?_
    refine q_goto (t := 35) rfl (by decide) ?_
    exact live_48 (by omega) h2 K
set_option maxRecDepth 100000 in
set_option maxHeartbeats 4000000 in
theorem live_46 {sc : List Int32} {x1 x2 x3 : Int32} {Q : AR → Prop} (h1 : 46 ≤ x3.toInt) (h2 : x3.toInt ≤ 48) (K : ∀ D : Nat, Q (.inl none, ((w1.set 9 (.inr (6, [.int (x1)]))).set 40 (.inl (0, .inl ((List.replicate 34 0).set 31 (Int32.ofNat D))))), 0, 0)) : Wp sc 97 77 35 [(8, .int 46), (7, .int 0), (6, .int 0), (5, .int 0), (0, .ref 9), (1, .ref 39), (2, .int (x1)), (3, .int (x2)), (4, .int (x3))] [] ((w1.set 9 (.inr (6, [.int (x1)]))).set 40 (.inl (0, .inl ((List.replicate 34 0).set 31 (46))))) 0 0 Q := by
  refine q_iload rfl rfl ?_
  refine q_iload rfl rfl ?_
  by_cases h101 : (x3).toInt ≤ 46
  · refine q_ic_ge_t (t := 159) rfl (by decide) (i_le_r (a := (46 : Int)) (b := (x3).toInt) (by decide +kernel) rfl (by omega)) ?_
    obtain rfl : x3 = (46 : Int32) := i_eq (a := (x3).toInt) (b := 46) rfl (by decide +kernel) (by omega)
    refine q_vret rfl rfl ?_
    exact K 46
  · refine q_ic_ge_f (t := 159) rfl (by decide) (i_nle_r (a := (46 : Int)) (b := (x3).toInt) (by decide +kernel) rfl (by omega)) ?_
    refine q_iload rfl rfl ?_
    refine q_if_le_t (t := 73) rfl (by decide) (i_le (a := (0 : Int)) (b := (0 : Int)) (by decide +kernel) (by decide +kernel) (by omega)) ?_
    refine q_iload rfl rfl ?_
    refine q_iconstv (v := (3 : Int32)) rfl (by decide +kernel) ?_
    refine q_ic_lt_t (t := 133) rfl (by decide) (i_lt (a := (0 : Int)) (b := (3 : Int)) (by decide +kernel) (by decide +kernel) (by omega)) ?_
    refine q_iload rfl rfl ?_
    refine q_if_le_t (t := 149) rfl (by decide) (i_le (a := (0 : Int)) (b := (0 : Int)) (by decide +kernel) (by decide +kernel) (by omega)) ?_
    refine q_aload_n rfl rfl ?_
    refine q_call rfl rfl rfl rfl ?_
    refine q_iconstv (v := (0 : Int32)) rfl (by decide +kernel) ?_
    refine q_istore_n rfl (by decide) ?_
    refine q_iload_n rfl rfl ?_
    refine q_aload_n rfl rfl ?_
    refine q_get rfl rfl rfl rfl ?_
    refine q_get rfl rfl rfl rfl ?_
    refine q_ic_ge_t (t := 40) rfl (by decide) (i_le_r (a := (0 : Int)) (b := (0 : Int)) (by decide +kernel) (by decide +kernel) (by omega)) ?_
    refine q_aload_n rfl rfl ?_
    refine q_get rfl rfl rfl rfl ?_
    refine q_bipushv (v := (31 : Int32)) rfl (by decide +kernel) ?_
    refine q_dup2 rfl ⟨rfl, rfl⟩ ?_
    refine q_ialoadv (m := 31) rfl (by decide) (by decide) rfl (by decide +kernel) rfl ?_
    refine q_iconstv (v := (1 : Int32)) rfl (by decide +kernel) ?_
    refine q_iaddv (v := (47 : Int32)) rfl (by decide +kernel) ?_
    refine q_iastorev (m := 31) (w9 := ((w1.set 9 (.inr (6, [.int (x1)]))).set 40 (.inl (0, .inl ((List.replicate 34 0).set 31 (47)))))) rfl (by decide) rfl (by decide +kernel) (by decide) rfl ?_
    refine q_vret rfl rfl ?_
    refine bk_inl ?_
    refine q_iincv (v := (47 : Int32)) rfl rfl (by decide) (by decide +kernel) ?_
    refine q_goto (t := 35) rfl (by decide) ?_
    exact live_47 (by omega) h2 K
set_option maxRecDepth 100000 in
set_option maxHeartbeats 4000000 in
theorem live_45 {sc : List Int32} {x1 x2 x3 : Int32} {Q : AR → Prop} (h1 : 45 ≤ x3.toInt) (h2 : x3.toInt ≤ 48) (K : ∀ D : Nat, Q (.inl none, ((w1.set 9 (.inr (6, [.int (x1)]))).set 40 (.inl (0, .inl ((List.replicate 34 0).set 31 (Int32.ofNat D))))), 0, 0)) : Wp sc 97 77 35 [(8, .int 45), (7, .int 0), (6, .int 0), (5, .int 0), (0, .ref 9), (1, .ref 39), (2, .int (x1)), (3, .int (x2)), (4, .int (x3))] [] ((w1.set 9 (.inr (6, [.int (x1)]))).set 40 (.inl (0, .inl ((List.replicate 34 0).set 31 (45))))) 0 0 Q := by
  refine q_iload rfl rfl ?_
  refine q_iload rfl rfl ?_
  by_cases h101 : (x3).toInt ≤ 45
  · refine q_ic_ge_t (t := 159) rfl (by decide) (i_le_r (a := (45 : Int)) (b := (x3).toInt) (by decide +kernel) rfl (by omega)) ?_
    obtain rfl : x3 = (45 : Int32) := i_eq (a := (x3).toInt) (b := 45) rfl (by decide +kernel) (by omega)
    refine q_vret rfl rfl ?_
    exact K 45
  · refine q_ic_ge_f (t := 159) rfl (by decide) (i_nle_r (a := (45 : Int)) (b := (x3).toInt) (by decide +kernel) rfl (by omega)) ?_
    refine q_iload rfl rfl ?_
    refine q_if_le_t (t := 73) rfl (by decide) (i_le (a := (0 : Int)) (b := (0 : Int)) (by decide +kernel) (by decide +kernel) (by omega)) ?_
    refine q_iload rfl rfl ?_
    refine q_iconstv (v := (3 : Int32)) rfl (by decide +kernel) ?_
    refine q_ic_lt_t (t := 133) rfl (by decide) (i_lt (a := (0 : Int)) (b := (3 : Int)) (by decide +kernel) (by decide +kernel) (by omega)) ?_
    refine q_iload rfl rfl ?_
    refine q_if_le_t (t := 149) rfl (by decide) (i_le (a := (0 : Int)) (b := (0 : Int)) (by decide +kernel) (by decide +kernel) (by omega)) ?_
    refine q_aload_n rfl rfl ?_
    refine q_call rfl rfl rfl rfl ?_
    refine q_iconstv (v := (0 : Int32)) rfl (by decide +kernel) ?_
    refine q_istore_n rfl (by decide) ?_
    refine q_iload_n rfl rfl ?_
    refine q_aload_n rfl rfl ?_
    refine q_get rfl rfl rfl rfl ?_
    refine q_get rfl rfl rfl rfl ?_
    refine q_ic_ge_t (t := 40) rfl (by decide) (i_le_r (a := (0 : Int)) (b := (0 : Int)) (by decide +kernel) (by decide +kernel) (by omega)) ?_
    refine q_aload_n rfl rfl ?_
    refine q_get rfl rfl rfl rfl ?_
    refine q_bipushv (v := (31 : Int32)) rfl (by decide +kernel) ?_
    refine q_dup2 rfl ⟨rfl, rfl⟩ ?_
    refine q_ialoadv (m := 31) rfl (by decide) (by decide) rfl (by decide +kernel) rfl ?_
    refine q_iconstv (v := (1 : Int32)) rfl (by decide +kernel) ?_
    refine q_iaddv (v := (46 : Int32)) rfl (by decide +kernel) ?_
    refine q_iastorev (m := 31) (w9 := ((w1.set 9 (.inr (6, [.int (x1)]))).set 40 (.inl (0, .inl ((List.replicate 34 0).set 31 (46)))))) rfl (by decide) rfl (by decide +kernel) (by decide) rfl ?_
    refine q_vret rfl rfl ?_
    refine bk_inl ?_
    refine q_iincv (v := (46 : Int32)) rfl rfl (by decide) (by decide +kernel) ?_
    refine q_goto (t := 35) rfl (by decide) ?_
    exact live_46 (by omega) h2 K
set_option maxRecDepth 100000 in
set_option maxHeartbeats 4000000 in
theorem live_44 {sc : List Int32} {x1 x2 x3 : Int32} {Q : AR → Prop} (h1 : 44 ≤ x3.toInt) (h2 : x3.toInt ≤ 48) (K : ∀ D : Nat, Q (.inl none, ((w1.set 9 (.inr (6, [.int (x1)]))).set 40 (.inl (0, .inl ((List.replicate 34 0).set 31 (Int32.ofNat D))))), 0, 0)) : Wp sc 97 77 35 [(8, .int 44), (7, .int 0), (6, .int 0), (5, .int 0), (0, .ref 9), (1, .ref 39), (2, .int (x1)), (3, .int (x2)), (4, .int (x3))] [] ((w1.set 9 (.inr (6, [.int (x1)]))).set 40 (.inl (0, .inl ((List.replicate 34 0).set 31 (44))))) 0 0 Q := by
  refine q_iload rfl rfl ?_
  refine q_iload rfl rfl ?_
  by_cases h101 : (x3).toInt ≤ 44
  · refine q_ic_ge_t (t := 159) rfl (by decide) (i_le_r (a := (44 : Int)) (b := (x3).toInt) (by decide +kernel) rfl (by omega)) ?_
    obtain rfl : x3 = (44 : Int32) := i_eq (a := (x3).toInt) (b := 44) rfl (by decide +kernel) (by omega)
    refine q_vret rfl rfl ?_
    exact K 44
  · refine q_ic_ge_f (t := 159) rfl (by decide) (i_nle_r (a := (44 : Int)) (b := (x3).toInt) (by decide +kernel) rfl (by omega)) ?_
    refine q_iload rfl rfl ?_
    refine q_if_le_t (t := 73) rfl (by decide) (i_le (a := (0 : Int)) (b := (0 : Int)) (by decide +kernel) (by decide +kernel) (by omega)) ?_
    refine q_iload rfl rfl ?_
    refine q_iconstv (v := (3 : Int32)) rfl (by decide +kernel) ?_
    refine q_ic_lt_t (t := 133) rfl (by decide) (i_lt (a := (0 : Int)) (b := (3 : Int)) (by decide +kernel) (by decide +kernel) (by omega)) ?_
    refine q_iload rfl rfl ?_
    refine q_if_le_t (t := 149) rfl (by decide) (i_le (a := (0 : Int)) (b := (0 : Int)) (by decide +kernel) (by decide +kernel) (by omega)) ?_
    refine q_aload_n rfl rfl ?_
    refine q_call rfl rfl rfl rfl ?_
    refine q_iconstv (v := (0 : Int32)) rfl (by decide +kernel) ?_
    refine q_istore_n rfl (by decide) ?_
    refine q_iload_n rfl rfl ?_
    refine q_aload_n rfl rfl ?_
    refine q_get rfl rfl rfl rfl ?_
    refine q_get rfl rfl rfl rfl ?_
    refine q_ic_ge_t (t := 40) rfl (by decide) (i_le_r (a := (0 : Int)) (b := (0 : Int)) (by decide +kernel) (by decide +kernel) (by omega)) ?_
    refine q_aload_n rfl rfl ?_
    refine q_get rfl rfl rfl rfl ?_
    refine q_bipushv (v := (31 : Int32)) rfl (by decide +kernel) ?_
    refine q_dup2 rfl ⟨rfl, rfl⟩ ?_
    refine q_ialoadv (m := 31) rfl (by decide) (by decide) rfl (by decide +kernel) rfl ?_
    refine q_iconstv (v := (1 : Int32)) rfl (by decide +kernel) ?_
    refine q_iaddv (v := (45 : Int32)) rfl (by decide +kernel) ?_
    refine q_iastorev (m := 31) (w9 := ((w1.set 9 (.inr (6, [.int (x1)]))).set 40 (.inl (0, .inl ((List.replicate 34 0).set 31 (45)))))) rfl (by decide) rfl (by decide +kernel) (by decide) rfl ?_
    refine q_vret rfl rfl ?_
    refine bk_inl ?_
    refine q_iincv (v := (45 : Int32)) rfl rfl (by decide) (by decide +kernel) ?_
    refine q_goto (t := 35) rfl (by decide) ?_
    exact live_45 (by omega) h2 K
set_option maxRecDepth 100000 in
set_option maxHeartbeats 4000000 in
theorem live_43 {sc : List Int32} {x1 x2 x3 : Int32} {Q : AR → Prop} (h1 : 43 ≤ x3.toInt) (h2 : x3.toInt ≤ 48) (K : ∀ D : Nat, Q (.inl none, ((w1.set 9 (.inr (6, [.int (x1)]))).set 40 (.inl (0, .inl ((List.replicate 34 0).set 31 (Int32.ofNat D))))), 0, 0)) : Wp sc 97 77 35 [(8, .int 43), (7, .int 0), (6, .int 0), (5, .int 0), (0, .ref 9), (1, .ref 39), (2, .int (x1)), (3, .int (x2)), (4, .int (x3))] [] ((w1.set 9 (.inr (6, [.int (x1)]))).set 40 (.inl (0, .inl ((List.replicate 34 0).set 31 (43))))) 0 0 Q := by
  refine q_iload rfl rfl ?_
  refine q_iload rfl rfl ?_
  by_cases h101 : (x3).toInt ≤ 43
  · refine q_ic_ge_t (t := 159) rfl (by decide) (i_le_r (a := (43 : Int)) (b := (x3).toInt) (by decide +kernel) rfl (by omega)) ?_
    obtain rfl : x3 = (43 : Int32) := i_eq (a := (x3).toInt) (b := 43) rfl (by decide +kernel) (by omega)
    refine q_vret rfl rfl ?_
    exact K 43
  · refine q_ic_ge_f (t := 159) rfl (by decide) (i_nle_r (a := (43 : Int)) (b := (x3).toInt) (by decide +kernel) rfl (by omega)) ?_
    refine q_iload rfl rfl ?_
    refine q_if_le_t (t := 73) rfl (by decide) (i_le (a := (0 : Int)) (b := (0 : Int)) (by decide +kernel) (by decide +kernel) (by omega)) ?_
    refine q_iload rfl rfl ?_
    refine q_iconstv (v := (3 : Int32)) rfl (by decide +kernel) ?_
    refine q_ic_lt_t (t := 133) rfl (by decide) (i_lt (a := (0 : Int)) (b := (3 : Int)) (by decide +kernel) (by decide +kernel) (by omega)) ?_
    refine q_iload rfl rfl ?_
    refine q_if_le_t (t := 149) rfl (by decide) (i_le (a := (0 : Int)) (b := (0 : Int)) (by decide +kernel) (by decide +kernel) (by omega)) ?_
    refine q_aload_n rfl rfl ?_
    refine q_call rfl rfl rfl rfl ?_
    refine q_iconstv (v := (0 : Int32)) rfl (by decide +kernel) ?_
    refine q_istore_n rfl (by decide) ?_
    refine q_iload_n rfl rfl ?_
    refine q_aload_n rfl rfl ?_
    refine q_get rfl rfl rfl rfl ?_
    refine q_get rfl rfl rfl rfl ?_
    refine q_ic_ge_t (t := 40) rfl (by decide) (i_le_r (a := (0 : Int)) (b := (0 : Int)) (by decide +kernel) (by decide +kernel) (by omega)) ?_
    refine q_aload_n rfl rfl ?_
    refine q_get rfl rfl rfl rfl ?_
    refine q_bipushv (v := (31 : Int32)) rfl (by decide +kernel) ?_
    refine q_dup2 rfl ⟨rfl, rfl⟩ ?_
    refine q_ialoadv (m := 31) rfl (by decide) (by decide) rfl (by decide +kernel) rfl ?_
    refine q_iconstv (v := (1 : Int32)) rfl (by decide +kernel) ?_
    refine q_iaddv (v := (44 : Int32)) rfl (by decide +kernel) ?_
    refine q_iastorev (m := 31) (w9 := ((w1.set 9 (.inr (6, [.int (x1)]))).set 40 (.inl (0, .inl ((List.replicate 34 0).set 31 (44)))))) rfl (by decide) rfl (by decide +kernel) (by decide) rfl ?_
    refine q_vret rfl rfl ?_
    refine bk_inl ?_
    refine q_iincv (v := (44 : Int32)) rfl rfl (by decide) (by decide +kernel) ?_
    refine q_goto (t := 35) rfl (by decide) ?_
    exact live_44 (by omega) h2 K
set_option maxRecDepth 100000 in
set_option maxHeartbeats 4000000 in
theorem live_42 {sc : List Int32} {x1 x2 x3 : Int32} {Q : AR → Prop} (h1 : 42 ≤ x3.toInt) (h2 : x3.toInt ≤ 48) (K : ∀ D : Nat, Q (.inl none, ((w1.set 9 (.inr (6, [.int (x1)]))).set 40 (.inl (0, .inl ((List.replicate 34 0).set 31 (Int32.ofNat D))))), 0, 0)) : Wp sc 97 77 35 [(8, .int 42), (7, .int 0), (6, .int 0), (5, .int 0), (0, .ref 9), (1, .ref 39), (2, .int (x1)), (3, .int (x2)), (4, .int (x3))] [] ((w1.set 9 (.inr (6, [.int (x1)]))).set 40 (.inl (0, .inl ((List.replicate 34 0).set 31 (42))))) 0 0 Q := by
  refine q_iload rfl rfl ?_
  refine q_iload rfl rfl ?_
  by_cases h101 : (x3).toInt ≤ 42
  · refine q_ic_ge_t (t := 159) rfl (by decide) (i_le_r (a := (42 : Int)) (b := (x3).toInt) (by decide +kernel) rfl (by omega)) ?_
    obtain rfl : x3 = (42 : Int32) := i_eq (a := (x3).toInt) (b := 42) rfl (by decide +kernel) (by omega)
    refine q_vret rfl rfl ?_
    exact K 42
  · refine q_ic_ge_f (t := 159) rfl (by decide) (i_nle_r (a := (42 : Int)) (b := (x3).toInt) (by decide +kernel) rfl (by omega)) ?_
    refine q_iload rfl rfl ?_
    refine q_if_le_t (t := 73) rfl (by decide) (i_le (a := (0 : Int)) (b := (0 : Int)) (by decide +kernel) (by decide +kernel) (by omega)) ?_
    refine q_iload rfl rfl ?_
    refine q_iconstv (v := (3 : Int32)) rfl (by decide +kernel) ?_
    refine q_ic_lt_t (t := 133) rfl (by decide) (i_lt (a := (0 : Int)) (b := (3 : Int)) (by decide +kernel) (by decide +kernel) (by omega)) ?_
    refine q_iload rfl rfl ?_
    refine q_if_le_t (t := 149) rfl (by decide) (i_le (a := (0 : Int)) (b := (0 : Int)) (by decide +kernel) (by decide +kernel) (by omega)) ?_
    refine q_aload_n rfl rfl ?_
    refine q_call rfl rfl rfl rfl ?_
    refine q_iconstv (v := (0 : Int32)) rfl (by decide +kernel) ?_
    refine q_istore_n rfl (by decide) ?_
    refine q_iload_n rfl rfl ?_
    refine q_aload_n rfl rfl ?_
    refine q_get rfl rfl rfl rfl ?_
    refine q_get rfl rfl rfl rfl ?_
    refine q_ic_ge_t (t := 40) rfl (by decide) (i_le_r (a := (0 : Int)) (b := (0 : Int)) (by decide +kernel) (by decide +kernel) (by omega)) ?_
    refine q_aload_n rfl rfl ?_
    refine q_get rfl rfl rfl rfl ?_
    refine q_bipushv (v := (31 : Int32)) rfl (by decide +kernel) ?_
    refine q_dup2 rfl ⟨rfl, rfl⟩ ?_
    refine q_ialoadv (m := 31) rfl (by decide) (by decide) rfl (by decide +kernel) rfl ?_
    refine q_iconstv (v := (1 : Int32)) rfl (by decide +kernel) ?_
    refine q_iaddv (v := (43 : Int32)) rfl (by decide +kernel) ?_
    refine q_iastorev (m := 31) (w9 := ((w1.set 9 (.inr (6, [.int (x1)]))).set 40 (.inl (0, .inl ((List.replicate 34 0).set 31 (43)))))) rfl (by decide) rfl (by decide +kernel) (by decide) rfl ?_
    refine q_vret rfl rfl ?_
    refine bk_inl ?_
    refine q_iincv (v := (43 : Int32)) rfl rfl (by decide) (by decide +kernel) ?_
    refine q_goto (t := 35) rfl (by decide) ?_
    exact live_43 (by omega) h2 K
set_option maxRecDepth 100000 in
set_option maxHeartbeats 4000000 in
theorem live_41 {sc : List Int32} {x1 x2 x3 : Int32} {Q : AR → Prop} (h1 : 41 ≤ x3.toInt) (h2 : x3.toInt ≤ 48) (K : ∀ D : Nat, Q (.inl none, ((w1.set 9 (.inr (6, [.int (x1)]))).set 40 (.inl (0, .inl ((List.replicate 34 0).set 31 (Int32.ofNat D))))), 0, 0)) : Wp sc 97 77 35 [(8, .int 41), (7, .int 0), (6, .int 0), (5, .int 0), (0, .ref 9), (1, .ref 39), (2, .int (x1)), (3, .int (x2)), (4, .int (x3))] [] ((w1.set 9 (.inr (6, [.int (x1)]))).set 40 (.inl (0, .inl ((List.replicate 34 0).set 31 (41))))) 0 0 Q := by
  refine q_iload rfl rfl ?_
  refine q_iload rfl rfl ?_
  by_cases h101 : (x3).toInt ≤ 41
  · refine q_ic_ge_t (t := 159) rfl (by decide) (i_le_r (a := (41 : Int)) (b := (x3).toInt) (by decide +kernel) rfl (by omega)) ?_
    obtain rfl : x3 = (41 : Int32) := i_eq (a := (x3).toInt) (b := 41) rfl (by decide +kernel) (by omega)
    refine q_vret rfl rfl ?_
    exact K 41
  · refine q_ic_ge_f (t := 159) rfl (by decide) (i_nle_r (a := (41 : Int)) (b := (x3).toInt) (by decide +kernel) rfl (by omega)) ?_
    refine q_iload rfl rfl ?_
    refine q_if_le_t (t := 73) rfl (by decide) (i_le (a := (0 : Int)) (b := (0 : Int)) (by decide +kernel) (by decide +kernel) (by omega)) ?_
    refine q_iload rfl rfl ?_
    refine q_iconstv (v := (3 : Int32)) rfl (by decide +kernel) ?_
    refine q_ic_lt_t (t := 133) rfl (by decide) (i_lt (a := (0 : Int)) (b := (3 : Int)) (by decide +kernel) (by decide +kernel) (by omega)) ?_
    refine q_iload rfl rfl ?_
    refine q_if_le_t (t := 149) rfl (by decide) (i_le (a := (0 : Int)) (b := (0 : Int)) (by decide +kernel) (by decide +kernel) (by omega)) ?_
    refine q_aload_n rfl rfl ?_
    refine q_call rfl rfl rfl rfl ?_
    refine q_iconstv (v := (0 : Int32)) rfl (by decide +kernel) ?_
    refine q_istore_n rfl (by decide) ?_
    refine q_iload_n rfl rfl ?_
    refine q_aload_n rfl rfl ?_
    refine q_get rfl rfl rfl rfl ?_
    refine q_get rfl rfl rfl rfl ?_
    refine q_ic_ge_t (t := 40) rfl (by decide) (i_le_r (a := (0 : Int)) (b := (0 : Int)) (by decide +kernel) (by decide +kernel) (by omega)) ?_
    refine q_aload_n rfl rfl ?_
    refine q_get rfl rfl rfl rfl ?_
    refine q_bipushv (v := (31 : Int32)) rfl (by decide +kernel) ?_
    refine q_dup2 rfl ⟨rfl, rfl⟩ ?_
    refine q_ialoadv (m := 31) rfl (by decide) (by decide) rfl (by decide +kernel) rfl ?_
    refine q_iconstv (v := (1 : Int32)) rfl (by decide +kernel) ?_
    refine q_iaddv (v := (42 : Int32)) rfl (by decide +kernel) ?_
    refine q_iastorev (m := 31) (w9 := ((w1.set 9 (.inr (6, [.int (x1)]))).set 40 (.inl (0, .inl ((List.replicate 34 0).set 31 (42)))))) rfl (by decide) rfl (by decide +kernel) (by decide) rfl ?_
    refine q_vret rfl rfl ?_
    refine bk_inl ?_
    refine q_iincv (v := (42 : Int32)) rfl rfl (by decide) (by decide +kernel) ?_
    refine q_goto (t := 35) rfl (by decide) ?_
    exact live_42 (by omega) h2 K
set_option maxRecDepth 100000 in
set_option maxHeartbeats 4000000 in
theorem live_40 {sc : List Int32} {x1 x2 x3 : Int32} {Q : AR → Prop} (h1 : 40 ≤ x3.toInt) (h2 : x3.toInt ≤ 48) (K : ∀ D : Nat, Q (.inl none, ((w1.set 9 (.inr (6, [.int (x1)]))).set 40 (.inl (0, .inl ((List.replicate 34 0).set 31 (Int32.ofNat D))))), 0, 0)) : Wp sc 97 77 35 [(8, .int 40), (7, .int 0), (6, .int 0), (5, .int 0), (0, .ref 9), (1, .ref 39), (2, .int (x1)), (3, .int (x2)), (4, .int (x3))] [] ((w1.set 9 (.inr (6, [.int (x1)]))).set 40 (.inl (0, .inl ((List.replicate 34 0).set 31 (40))))) 0 0 Q := by
  refine q_iload rfl rfl ?_
  refine q_iload rfl rfl ?_
  by_cases h101 : (x3).toInt ≤ 40
  · refine q_ic_ge_t (t := 159) rfl (by decide) (i_le_r (a := (40 : Int)) (b := (x3).toInt) (by decide +kernel) rfl (by omega)) ?_
    obtain rfl : x3 = (40 : Int32) := i_eq (a := (x3).toInt) (b := 40) rfl (by decide +kernel) (by omega)
    refine q_vret rfl rfl ?_
    exact K 40
  · refine q_ic_ge_f (t := 159) rfl (by decide) (i_nle_r (a := (40 : Int)) (b := (x3).toInt) (by decide +kernel) rfl (by omega)) ?_
    refine q_iload rfl rfl ?_
    refine q_if_le_t (t := 73) rfl (by decide) (i_le (a := (0 : Int)) (b := (0 : Int)) (by decide +kernel) (by decide +kernel) (by omega)) ?_
    refine q_iload rfl rfl ?_
    refine q_iconstv (v := (3 : Int32)) rfl (by decide +kernel) ?_
    refine q_ic_lt_t (t := 133) rfl (by decide) (i_lt (a := (0 : Int)) (b := (3 : Int)) (by decide +kernel) (by decide +kernel) (by omega)) ?_
    refine q_iload rfl rfl ?_
    refine q_if_le_t (t := 149) rfl (by decide) (i_le (a := (0 : Int)) (b := (0 : Int)) (by decide +kernel) (by decide +kernel) (by omega)) ?_
    refine q_aload_n rfl rfl ?_
    refine q_call rfl rfl rfl rfl ?_
    refine q_iconstv (v := (0 : Int32)) rfl (by decide +kernel) ?_
    refine q_istore_n rfl (by decide) ?_
    refine q_iload_n rfl rfl ?_
    refine q_aload_n rfl rfl ?_
    refine q_get rfl rfl rfl rfl ?_
    refine q_get rfl rfl rfl rfl ?_
    refine q_ic_ge_t (t := 40) rfl (by decide) (i_le_r (a := (0 : Int)) (b := (0 : Int)) (by decide +kernel) (by decide +kernel) (by omega)) ?_
    refine q_aload_n rfl rfl ?_
    refine q_get rfl rfl rfl rfl ?_
    refine q_bipushv (v := (31 : Int32)) rfl (by decide +kernel) ?_
    refine q_dup2 rfl ⟨rfl, rfl⟩ ?_
    refine q_ialoadv (m := 31) rfl (by decide) (by decide) rfl (by decide +kernel) rfl ?_
    refine q_iconstv (v := (1 : Int32)) rfl (by decide +kernel) ?_
    refine q_iaddv (v := (41 : Int32)) rfl (by decide +kernel) ?_
    refine q_iastorev (m := 31) (w9 := ((w1.set 9 (.inr (6, [.int (x1)]))).set 40 (.inl (0, .inl ((List.replicate 34 0).set 31 (41)))))) rfl (by decide) rfl (by decide +kernel) (by decide) rfl ?_
    refine q_vret rfl rfl ?_
    refine bk_inl ?_
    refine q_iincv (v := (41 : Int32)) rfl rfl (by decide) (by decide +kernel) ?_
    refine q_goto (t := 35) rfl (by decide) ?_
    exact live_41 (by omega) h2 K
set_option maxRecDepth 100000 in
set_option maxHeartbeats 4000000 in
theorem live_39 {sc : List Int32} {x1 x2 x3 : Int32} {Q : AR → Prop} (h1 : 39 ≤ x3.toInt) (h2 : x3.toInt ≤ 48) (K : ∀ D : Nat, Q (.inl none, ((w1.set 9 (.inr (6, [.int (x1)]))).set 40 (.inl (0, .inl ((List.replicate 34 0).set 31 (Int32.ofNat D))))), 0, 0)) : Wp sc 97 77 35 [(8, .int 39), (7, .int 0), (6, .int 0), (5, .int 0), (0, .ref 9), (1, .ref 39), (2, .int (x1)), (3, .int (x2)), (4, .int (x3))] [] ((w1.set 9 (.inr (6, [.int (x1)]))).set 40 (.inl (0, .inl ((List.replicate 34 0).set 31 (39))))) 0 0 Q := by
  refine q_iload rfl rfl ?_
  refine q_iload rfl rfl ?_
  by_cases h101 : (x3).toInt ≤ 39
  · refine q_ic_ge_t (t := 159) rfl (by decide) (i_le_r (a := (39 : Int)) (b := (x3).toInt) (by decide +kernel) rfl (by omega)) ?_
    obtain rfl : x3 = (39 : Int32) := i_eq (a := (x3).toInt) (b := 39) rfl (by decide +kernel) (by omega)
    refine q_vret rfl rfl ?_
    exact K 39
  · refine q_ic_ge_f (t := 159) rfl (by decide) (i_nle_r (a := (39 : Int)) (b := (x3).toInt) (by decide +kernel) rfl (by omega)) ?_
    refine q_iload rfl rfl ?_
    refine q_if_le_t (t := 73) rfl (by decide) (i_le (a := (0 : Int)) (b := (0 : Int)) (by decide +kernel) (by decide +kernel) (by omega)) ?_
    refine q_iload rfl rfl ?_
    refine q_iconstv (v := (3 : Int32)) rfl (by decide +kernel) ?_
    refine q_ic_lt_t (t := 133) rfl (by decide) (i_lt (a := (0 : Int)) (b := (3 : Int)) (by decide +kernel) (by decide +kernel) (by omega)) ?_
    refine q_iload rfl rfl ?_
    refine q_if_le_t (t := 149) rfl (by decide) (i_le (a := (0 : Int)) (b := (0 : Int)) (by decide +kernel) (by decide +kernel) (by omega)) ?_
    refine q_aload_n rfl rfl ?_
    refine q_call rfl rfl rfl rfl ?_
    refine q_iconstv (v := (0 : Int32)) rfl (by decide +kernel) ?_
    refine q_istore_n rfl (by decide) ?_
    refine q_iload_n rfl rfl ?_
    refine q_aload_n rfl rfl ?_
    refine q_get rfl rfl rfl rfl ?_
    refine q_get rfl rfl rfl rfl ?_
    refine q_ic_ge_t (t := 40) rfl (by decide) (i_le_r (a := (0 : Int)) (b := (0 : Int)) (by decide +kernel) (by decide +kernel) (by omega)) ?_
    refine q_aload_n rfl rfl ?_
    refine q_get rfl rfl rfl rfl ?_
    refine q_bipushv (v := (31 : Int32)) rfl (by decide +kernel) ?_
    refine q_dup2 rfl ⟨rfl, rfl⟩ ?_
    refine q_ialoadv (m := 31) rfl (by decide) (by decide) rfl (by decide +kernel) rfl ?_
    refine q_iconstv (v := (1 : Int32)) rfl (by decide +kernel) ?_
    refine q_iaddv (v := (40 : Int32)) rfl (by decide +kernel) ?_
    refine q_iastorev (m := 31) (w9 := ((w1.set 9 (.inr (6, [.int (x1)]))).set 40 (.inl (0, .inl ((List.replicate 34 0).set 31 (40)))))) rfl (by decide) rfl (by decide +kernel) (by decide) rfl ?_
    refine q_vret rfl rfl ?_
    refine bk_inl ?_
    refine q_iincv (v := (40 : Int32)) rfl rfl (by decide) (by decide +kernel) ?_
    refine q_goto (t := 35) rfl (by decide) ?_
    exact live_40 (by omega) h2 K
set_option maxRecDepth 100000 in
set_option maxHeartbeats 4000000 in
theorem live_38 {sc : List Int32} {x1 x2 x3 : Int32} {Q : AR → Prop} (h1 : 38 ≤ x3.toInt) (h2 : x3.toInt ≤ 48) (K : ∀ D : Nat, Q (.inl none, ((w1.set 9 (.inr (6, [.int (x1)]))).set 40 (.inl (0, .inl ((List.replicate 34 0).set 31 (Int32.ofNat D))))), 0, 0)) : Wp sc 97 77 35 [(8, .int 38), (7, .int 0), (6, .int 0), (5, .int 0), (0, .ref 9), (1, .ref 39), (2, .int (x1)), (3, .int (x2)), (4, .int (x3))] [] ((w1.set 9 (.inr (6, [.int (x1)]))).set 40 (.inl (0, .inl ((List.replicate 34 0).set 31 (38))))) 0 0 Q := by
  refine q_iload rfl rfl ?_
  refine q_iload rfl rfl ?_
  by_cases h101 : (x3).toInt ≤ 38
  · refine q_ic_ge_t (t := 159) rfl (by decide) (i_le_r (a := (38 : Int)) (b := (x3).toInt) (by decide +kernel) rfl (by omega)) ?_
    obtain rfl : x3 = (38 : Int32) := i_eq (a := (x3).toInt) (b := 38) rfl (by decide +kernel) (by omega)
    refine q_vret rfl rfl ?_
    exact K 38
  · refine q_ic_ge_f (t := 159) rfl (by decide) (i_nle_r (a := (38 : Int)) (b := (x3).toInt) (by decide +kernel) rfl (by omega)) ?_
    refine q_iload rfl rfl ?_
    refine q_if_le_t (t := 73) rfl (by decide) (i_le (a := (0 : Int)) (b := (0 : Int)) (by decide +kernel) (by decide +kernel) (by omega)) ?_
    refine q_iload rfl rfl ?_
    refine q_iconstv (v := (3 : Int32)) rfl (by decide +kernel) ?_
    refine q_ic_lt_t (t := 133) rfl (by decide) (i_lt (a := (0 : Int)) (b := (3 : Int)) (by decide +kernel) (by decide +kernel) (by omega)) ?_
    refine q_iload rfl rfl ?_
    refine q_if_le_t (t := 149) rfl (by decide) (i_le (a := (0 : Int)) (b := (0 : Int)) (by decide +kernel) (by decide +kernel) (by omega)) ?_
    refine q_aload_n rfl rfl ?_
    refine q_call rfl rfl rfl rfl ?_
    refine q_iconstv (v := (0 : Int32)) rfl (by decide +kernel) ?_
    refine q_istore_n rfl (by decide) ?_
    refine q_iload_n rfl rfl ?_
    refine q_aload_n rfl rfl ?_
    refine q_get rfl rfl rfl rfl ?_
    refine q_get rfl rfl rfl rfl ?_
    refine q_ic_ge_t (t := 40) rfl (by decide) (i_le_r (a := (0 : Int)) (b := (0 : Int)) (by decide +kernel) (by decide +kernel) (by omega)) ?_
    refine q_aload_n rfl rfl ?_
    refine q_get rfl rfl rfl rfl ?_
    refine q_bipushv (v := (31 : Int32)) rfl (by decide +kernel) ?_
    refine q_dup2 rfl ⟨rfl, rfl⟩ ?_
    refine q_ialoadv (m := 31) rfl (by decide) (by decide) rfl (by decide +kernel) rfl ?_
    refine q_iconstv (v := (1 : Int32)) rfl (by decide +kernel) ?_
    refine q_iaddv (v := (39 : Int32)) rfl (by decide +kernel) ?_
    refine q_iastorev (m := 31) (w9 := ((w1.set 9 (.inr (6, [.int (x1)]))).set 40 (.inl (0, .inl ((List.replicate 34 0).set 31 (39)))))) rfl (by decide) rfl (by decide +kernel) (by decide) rfl ?_
    refine q_vret rfl rfl ?_
    refine bk_inl ?_
    refine q_iincv (v := (39 : Int32)) rfl rfl (by decide) (by decide +kernel) ?_
    refine q_goto (t := 35) rfl (by decide) ?_
    exact live_39 (by omega) h2 K
set_option maxRecDepth 100000 in
set_option maxHeartbeats 4000000 in
theorem live_37 {sc : List Int32} {x1 x2 x3 : Int32} {Q : AR → Prop} (h1 : 37 ≤ x3.toInt) (h2 : x3.toInt ≤ 48) (K : ∀ D : Nat, Q (.inl none, ((w1.set 9 (.inr (6, [.int (x1)]))).set 40 (.inl (0, .inl ((List.replicate 34 0).set 31 (Int32.ofNat D))))), 0, 0)) : Wp sc 97 77 35 [(8, .int 37), (7, .int 0), (6, .int 0), (5, .int 0), (0, .ref 9), (1, .ref 39), (2, .int (x1)), (3, .int (x2)), (4, .int (x3))] [] ((w1.set 9 (.inr (6, [.int (x1)]))).set 40 (.inl (0, .inl ((List.replicate 34 0).set 31 (37))))) 0 0 Q := by
  refine q_iload rfl rfl ?_
  refine q_iload rfl rfl ?_
  by_cases h101 : (x3).toInt ≤ 37
  · refine q_ic_ge_t (t := 159) rfl (by decide) (i_le_r (a := (37 : Int)) (b := (x3).toInt) (by decide +kernel) rfl (by omega)) ?_
    obtain rfl : x3 = (37 : Int32) := i_eq (a := (x3).toInt) (b := 37) rfl (by decide +kernel) (by omega)
    refine q_vret rfl rfl ?_
    exact K 37
  · refine q_ic_ge_f (t := 159) rfl (by decide) (i_nle_r (a := (37 : Int)) (b := (x3).toInt) (by decide +kernel) rfl (by omega)) ?_
    refine q_iload rfl rfl ?_
    refine q_if_le_t (t := 73) rfl (by decide) (i_le (a := (0 : Int)) (b := (0 : Int)) (by decide +kernel) (by decide +kernel) (by omega)) ?_
    refine q_iload rfl rfl ?_
    refine q_iconstv (v := (3 : Int32)) rfl (by decide +kernel) ?_
    refine q_ic_lt_t (t := 133) rfl (by decide) (i_lt (a := (0 : Int)) (b := (3 : Int)) (by decide +kernel) (by decide +kernel) (by omega)) ?_
    refine q_iload rfl rfl ?_
    refine q_if_le_t (t := 149) rfl (by decide) (i_le (a := (0 : Int)) (b := (0 : Int)) (by decide +kernel) (by decide +kernel) (by omega)) ?_
    refine q_aload_n rfl rfl ?_
    refine q_call rfl rfl rfl rfl ?_
    refine q_iconstv (v := (0 : Int32)) rfl (by decide +kernel) ?_
    refine q_istore_n rfl (by decide) ?_
    refine q_iload_n rfl rfl ?_
    refine q_aload_n rfl rfl ?_
    refine q_get rfl rfl rfl rfl ?_
    refine q_get rfl rfl rfl rfl ?_
    refine q_ic_ge_t (t := 40) rfl (by decide) (i_le_r (a := (0 : Int)) (b := (0 : Int)) (by decide +kernel) (by decide +kernel) (by omega)) ?_
    refine q_aload_n rfl rfl ?_
    refine q_get rfl rfl rfl rfl ?_
    refine q_bipushv (v := (31 : Int32)) rfl (by decide +kernel) ?_
    refine q_dup2 rfl ⟨rfl, rfl⟩ ?_
    refine q_ialoadv (m := 31) rfl (by decide) (by decide) rfl (by decide +kernel) rfl ?_
    refine q_iconstv (v := (1 : Int32)) rfl (by decide +kernel) ?_
    refine q_iaddv (v := (38 : Int32)) rfl (by decide +kernel) ?_
    refine q_iastorev (m := 31) (w9 := ((w1.set 9 (.inr (6, [.int (x1)]))).set 40 (.inl (0, .inl ((List.replicate 34 0).set 31 (38)))))) rfl (by decide) rfl (by decide +kernel) (by decide) rfl ?_
    refine q_vret rfl rfl ?_
    refine bk_inl ?_
    refine q_iincv (v := (38 : Int32)) rfl rfl (by decide) (by decide +kernel) ?_
    refine q_goto (t := 35) rfl (by decide) ?_
    exact live_38 (by omega) h2 K
set_option maxRecDepth 100000 in
set_option maxHeartbeats 4000000 in
theorem live_36 {sc : List Int32} {x1 x2 x3 : Int32} {Q : AR → Prop} (h1 : 36 ≤ x3.toInt) (h2 : x3.toInt ≤ 48) (K : ∀ D : Nat, Q (.inl none, ((w1.set 9 (.inr (6, [.int (x1)]))).set 40 (.inl (0, .inl ((List.replicate 34 0).set 31 (Int32.ofNat D))))), 0, 0)) : Wp sc 97 77 35 [(8, .int 36), (7, .int 0), (6, .int 0), (5, .int 0), (0, .ref 9), (1, .ref 39), (2, .int (x1)), (3, .int (x2)), (4, .int (x3))] [] ((w1.set 9 (.inr (6, [.int (x1)]))).set 40 (.inl (0, .inl ((List.replicate 34 0).set 31 (36))))) 0 0 Q := by
  refine q_iload rfl rfl ?_
  refine q_iload rfl rfl ?_
  by_cases h101 : (x3).toInt ≤ 36
  · refine q_ic_ge_t (t := 159) rfl (by decide) (i_le_r (a := (36 : Int)) (b := (x3).toInt) (by decide +kernel) rfl (by omega)) ?_
    obtain rfl : x3 = (36 : Int32) := i_eq (a := (x3).toInt) (b := 36) rfl (by decide +kernel) (by omega)
    refine q_vret rfl rfl ?_
    exact K 36
  · refine q_ic_ge_f (t := 159) rfl (by decide) (i_nle_r (a := (36 : Int)) (b := (x3).toInt) (by decide +kernel) rfl (by omega)) ?_
    refine q_iload rfl rfl ?_
    refine q_if_le_t (t := 73) rfl (by decide) (i_le (a := (0 : Int)) (b := (0 : Int)) (by decide +kernel) (by decide +kernel) (by omega)) ?_
    refine q_iload rfl rfl ?_
    refine q_iconstv (v := (3 : Int32)) rfl (by decide +kernel) ?_
    refine q_ic_lt_t (t := 133) rfl (by decide) (i_lt (a := (0 : Int)) (b := (3 : Int)) (by decide +kernel) (by decide +kernel) (by omega)) ?_
    refine q_iload rfl rfl ?_
    refine q_if_le_t (t := 149) rfl (by decide) (i_le (a := (0 : Int)) (b := (0 : Int)) (by decide +kernel) (by decide +kernel) (by omega)) ?_
    refine q_aload_n rfl rfl ?_
    refine q_call rfl rfl rfl rfl ?_
    refine q_iconstv (v := (0 : Int32)) rfl (by decide +kernel) ?_
    refine q_istore_n rfl (by decide) ?_
    refine q_iload_n rfl rfl ?_
    refine q_aload_n rfl rfl ?_
    refine q_get rfl rfl rfl rfl ?_
    refine q_get rfl rfl rfl rfl ?_
    refine q_ic_ge_t (t := 40) rfl (by decide) (i_le_r (a := (0 : Int)) (b := (0 : Int)) (by decide +kernel) (by decide +kernel) (by omega)) ?_
    refine q_aload_n rfl rfl ?_
    refine q_get rfl rfl rfl rfl ?_
    refine q_bipushv (v := (31 : Int32)) rfl (by decide +kernel) ?_
    refine q_dup2 rfl ⟨rfl, rfl⟩ ?_
    refine q_ialoadv (m := 31) rfl (by decide) (by decide) rfl (by decide +kernel) rfl ?_
    refine q_iconstv (v := (1 : Int32)) rfl (by decide +kernel) ?_
    refine q_iaddv (v := (37 : Int32)) rfl (by decide +kernel) ?_
    refine q_iastorev (m := 31) (w9 := ((w1.set 9 (.inr (6, [.int (x1)]))).set 40 (.inl (0, .inl ((List.replicate 34 0).set 31 (37)))))) rfl (by decide) rfl (by decide +kernel) (by decide) rfl ?_
    refine q_vret rfl rfl ?_
    refine bk_inl ?_
    refine q_iincv (v := (37 : Int32)) rfl rfl (by decide) (by decide +kernel) ?_
    refine q_goto (t := 35) rfl (by decide) ?_
    exact live_37 (by omega) h2 K
set_option maxRecDepth 100000 in
set_option maxHeartbeats 4000000 in
theorem live_35 {sc : List Int32} {x1 x2 x3 : Int32} {Q : AR → Prop} (h1 : 35 ≤ x3.toInt) (h2 : x3.toInt ≤ 48) (K : ∀ D : Nat, Q (.inl none, ((w1.set 9 (.inr (6, [.int (x1)]))).set 40 (.inl (0, .inl ((List.replicate 34 0).set 31 (Int32.ofNat D))))), 0, 0)) : Wp sc 97 77 35 [(8, .int 35), (7, .int 0), (6, .int 0), (5, .int 0), (0, .ref 9), (1, .ref 39), (2, .int (x1)), (3, .int (x2)), (4, .int (x3))] [] ((w1.set 9 (.inr (6, [.int (x1)]))).set 40 (.inl (0, .inl ((List.replicate 34 0).set 31 (35))))) 0 0 Q := by
  refine q_iload rfl rfl ?_
  refine q_iload rfl rfl ?_
  by_cases h101 : (x3).toInt ≤ 35
  · refine q_ic_ge_t (t := 159) rfl (by decide) (i_le_r (a := (35 : Int)) (b := (x3).toInt) (by decide +kernel) rfl (by omega)) ?_
    obtain rfl : x3 = (35 : Int32) := i_eq (a := (x3).toInt) (b := 35) rfl (by decide +kernel) (by omega)
    refine q_vret rfl rfl ?_
    exact K 35
  · refine q_ic_ge_f (t := 159) rfl (by decide) (i_nle_r (a := (35 : Int)) (b := (x3).toInt) (by decide +kernel) rfl (by omega)) ?_
    refine q_iload rfl rfl ?_
    refine q_if_le_t (t := 73) rfl (by decide) (i_le (a := (0 : Int)) (b := (0 : Int)) (by decide +kernel) (by decide +kernel) (by omega)) ?_
    refine q_iload rfl rfl ?_
    refine q_iconstv (v := (3 : Int32)) rfl (by decide +kernel) ?_
    refine q_ic_lt_t (t := 133) rfl (by decide) (i_lt (a := (0 : Int)) (b := (3 : Int)) (by decide +kernel) (by decide +kernel) (by omega)) ?_
    refine q_iload rfl rfl ?_
    refine q_if_le_t (t := 149) rfl (by decide) (i_le (a := (0 : Int)) (b := (0 : Int)) (by decide +kernel) (by decide +kernel) (by omega)) ?_
    refine q_aload_n rfl rfl ?_
    refine q_call rfl rfl rfl rfl ?_
    refine q_iconstv (v := (0 : Int32)) rfl (by decide +kernel) ?_
    refine q_istore_n rfl (by decide) ?_
    refine q_iload_n rfl rfl ?_
    refine q_aload_n rfl rfl ?_
    refine q_get rfl rfl rfl rfl ?_
    refine q_get rfl rfl rfl rfl ?_
    refine q_ic_ge_t (t := 40) rfl (by decide) (i_le_r (a := (0 : Int)) (b := (0 : Int)) (by decide +kernel) (by decide +kernel) (by omega)) ?_
    refine q_aload_n rfl rfl ?_
    refine q_get rfl rfl rfl rfl ?_
    refine q_bipushv (v := (31 : Int32)) rfl (by decide +kernel) ?_
    refine q_dup2 rfl ⟨rfl, rfl⟩ ?_
    refine q_ialoadv (m := 31) rfl (by decide) (by decide) rfl (by decide +kernel) rfl ?_
    refine q_iconstv (v := (1 : Int32)) rfl (by decide +kernel) ?_
    refine q_iaddv (v := (36 : Int32)) rfl (by decide +kernel) ?_
    refine q_iastorev (m := 31) (w9 := ((w1.set 9 (.inr (6, [.int (x1)]))).set 40 (.inl (0, .inl ((List.replicate 34 0).set 31 (36)))))) rfl (by decide) rfl (by decide +kernel) (by decide) rfl ?_
    refine q_vret rfl rfl ?_
    refine bk_inl ?_
    refine q_iincv (v := (36 : Int32)) rfl rfl (by decide) (by decide +kernel) ?_
    refine q_goto (t := 35) rfl (by decide) ?_
    exact live_36 (by omega) h2 K
set_option maxRecDepth 100000 in
set_option maxHeartbeats 4000000 in
theorem live_34 {sc : List Int32} {x1 x2 x3 : Int32} {Q : AR → Prop} (h1 : 34 ≤ x3.toInt) (h2 : x3.toInt ≤ 48) (K : ∀ D : Nat, Q (.inl none, ((w1.set 9 (.inr (6, [.int (x1)]))).set 40 (.inl (0, .inl ((List.replicate 34 0).set 31 (Int32.ofNat D))))), 0, 0)) : Wp sc 97 77 35 [(8, .int 34), (7, .int 0), (6, .int 0), (5, .int 0), (0, .ref 9), (1, .ref 39), (2, .int (x1)), (3, .int (x2)), (4, .int (x3))] [] ((w1.set 9 (.inr (6, [.int (x1)]))).set 40 (.inl (0, .inl ((List.replicate 34 0).set 31 (34))))) 0 0 Q := by
  refine q_iload rfl rfl ?_
  refine q_iload rfl rfl ?_
  by_cases h101 : (x3).toInt ≤ 34
  · refine q_ic_ge_t (t := 159) rfl (by decide) (i_le_r (a := (34 : Int)) (b := (x3).toInt) (by decide +kernel) rfl (by omega)) ?_
    obtain rfl : x3 = (34 : Int32) := i_eq (a := (x3).toInt) (b := 34) rfl (by decide +kernel) (by omega)
    refine q_vret rfl rfl ?_
    exact K 34
  · refine q_ic_ge_f (t := 159) rfl (by decide) (i_nle_r (a := (34 : Int)) (b := (x3).toInt) (by decide +kernel) rfl (by omega)) ?_
    refine q_iload rfl rfl ?_
    refine q_if_le_t (t := 73) rfl (by decide) (i_le (a := (0 : Int)) (b := (0 : Int)) (by decide +kernel) (by decide +kernel) (by omega)) ?_
    refine q_iload rfl rfl ?_
    refine q_iconstv (v := (3 : Int32)) rfl (by decide +kernel) ?_
    refine q_ic_lt_t (t := 133) rfl (by decide) (i_lt (a := (0 : Int)) (b := (3 : Int)) (by decide +kernel) (by decide +kernel) (by omega)) ?_
    refine q_iload rfl rfl ?_
    refine q_if_le_t (t := 149) rfl (by decide) (i_le (a := (0 : Int)) (b := (0 : Int)) (by decide +kernel) (by decide +kernel) (by omega)) ?_
    refine q_aload_n rfl rfl ?_
    refine q_call rfl rfl rfl rfl ?_
    refine q_iconstv (v := (0 : Int32)) rfl (by decide +kernel) ?_
    refine q_istore_n rfl (by decide) ?_
    refine q_iload_n rfl rfl ?_
    refine q_aload_n rfl rfl ?_
    refine q_get rfl rfl rfl rfl ?_
    refine q_get rfl rfl rfl rfl ?_
    refine q_ic_ge_t (t := 40) rfl (by decide) (i_le_r (a := (0 : Int)) (b := (0 : Int)) (by decide +kernel) (by decide +kernel) (by omega)) ?_
    refine q_aload_n rfl rfl ?_
    refine q_get rfl rfl rfl rfl ?_
    refine q_bipushv (v := (31 : Int32)) rfl (by decide +kernel) ?_
    refine q_dup2 rfl ⟨rfl, rfl⟩ ?_
    refine q_ialoadv (m := 31) rfl (by decide) (by decide) rfl (by decide +kernel) rfl ?_
    refine q_iconstv (v := (1 : Int32)) rfl (by decide +kernel) ?_
    refine q_iaddv (v := (35 : Int32)) rfl (by decide +kernel) ?_
    refine q_iastorev (m := 31) (w9 := ((w1.set 9 (.inr (6, [.int (x1)]))).set 40 (.inl (0, .inl ((List.replicate 34 0).set 31 (35)))))) rfl (by decide) rfl (by decide +kernel) (by decide) rfl ?_
    refine q_vret rfl rfl ?_
    refine bk_inl ?_
    refine q_iincv (v := (35 : Int32)) rfl rfl (by decide) (by decide +kernel) ?_
    refine q_goto (t := 35) rfl (by decide) ?_
    exact live_35 (by omega) h2 K
set_option maxRecDepth 100000 in
set_option maxHeartbeats 4000000 in
theorem live_33 {sc : List Int32} {x1 x2 x3 : Int32} {Q : AR → Prop} (h1 : 33 ≤ x3.toInt) (h2 : x3.toInt ≤ 48) (K : ∀ D : Nat, Q (.inl none, ((w1.set 9 (.inr (6, [.int (x1)]))).set 40 (.inl (0, .inl ((List.replicate 34 0).set 31 (Int32.ofNat D))))), 0, 0)) : Wp sc 97 77 35 [(8, .int 33), (7, .int 0), (6, .int 0), (5, .int 0), (0, .ref 9), (1, .ref 39), (2, .int (x1)), (3, .int (x2)), (4, .int (x3))] [] ((w1.set 9 (.inr (6, [.int (x1)]))).set 40 (.inl (0, .inl ((List.replicate 34 0).set 31 (33))))) 0 0 Q := by
  refine q_iload rfl rfl ?_
  refine q_iload rfl rfl ?_
  by_cases h101 : (x3).toInt ≤ 33
  · refine q_ic_ge_t (t := 159) rfl (by decide) (i_le_r (a := (33 : Int)) (b := (x3).toInt) (by decide +kernel) rfl (by omega)) ?_
    obtain rfl : x3 = (33 : Int32) := i_eq (a := (x3).toInt) (b := 33) rfl (by decide +kernel) (by omega)
    refine q_vret rfl rfl ?_
    exact K 33
  · refine q_ic_ge_f (t := 159) rfl (by decide) (i_nle_r (a := (33 : Int)) (b := (x3).toInt) (by decide +kernel) rfl (by omega)) ?_
    refine q_iload rfl rfl ?_
    refine q_if_le_t (t := 73) rfl (by decide) (i_le (a := (0 : Int)) (b := (0 : Int)) (by decide +kernel) (by decide +kernel) (by omega)) ?_
    refine q_iload rfl rfl ?_
    refine q_iconstv (v := (3 : Int32)) rfl (by decide +kernel) ?_
    refine q_ic_lt_t (t := 133) rfl (by decide) (i_lt (a := (0 : Int)) (b := (3 : Int)) (by decide +kernel) (by decide +kernel) (by omega)) ?_
    refine q_iload rfl rfl ?_
    refine q_if_le_t (t := 149) rfl (by decide) (i_le (a := (0 : Int)) (b := (0 : Int)) (by decide +kernel) (by decide +kernel) (by omega)) ?_
    refine q_aload_n rfl rfl ?_
    refine q_call rfl rfl rfl rfl ?_
    refine q_iconstv (v := (0 : Int32)) rfl (by decide +kernel) ?_
    refine q_istore_n rfl (by decide) ?_
    refine q_iload_n rfl rfl ?_
    refine q_aload_n rfl rfl ?_
    refine q_get rfl rfl rfl rfl ?_
    refine q_get rfl rfl rfl rfl ?_
    refine q_ic_ge_t (t := 40) rfl (by decide) (i_le_r (a := (0 : Int)) (b := (0 : Int)) (by decide +kernel) (by decide +kernel) (by omega)) ?_
    refine q_aload_n rfl rfl ?_
    refine q_get rfl rfl rfl rfl ?_
    refine q_bipushv (v := (31 : Int32)) rfl (by decide +kernel) ?_
    refine q_dup2 rfl ⟨rfl, rfl⟩ ?_
    refine q_ialoadv (m := 31) rfl (by decide) (by decide) rfl (by decide +kernel) rfl ?_
    refine q_iconstv (v := (1 : Int32)) rfl (by decide +kernel) ?_
    refine q_iaddv (v := (34 : Int32)) rfl (by decide +kernel) ?_
    refine q_iastorev (m := 31) (w9 := ((w1.set 9 (.inr (6, [.int (x1)]))).set 40 (.inl (0, .inl ((List.replicate 34 0).set 31 (34)))))) rfl (by decide) rfl (by decide +kernel) (by decide) rfl ?_
    refine q_vret rfl rfl ?_
    refine bk_inl ?_
    refine q_iincv (v := (34 : Int32)) rfl rfl (by decide) (by decide +kernel) ?_
    refine q_goto (t := 35) rfl (by decide) ?_
    exact live_34 (by omega) h2 K
set_option maxRecDepth 100000 in
set_option maxHeartbeats 4000000 in
theorem live_32 {sc : List Int32} {x1 x2 x3 : Int32} {Q : AR → Prop} (h1 : 32 ≤ x3.toInt) (h2 : x3.toInt ≤ 48) (K : ∀ D : Nat, Q (.inl none, ((w1.set 9 (.inr (6, [.int (x1)]))).set 40 (.inl (0, .inl ((List.replicate 34 0).set 31 (Int32.ofNat D))))), 0, 0)) : Wp sc 97 77 35 [(8, .int 32), (7, .int 0), (6, .int 0), (5, .int 0), (0, .ref 9), (1, .ref 39), (2, .int (x1)), (3, .int (x2)), (4, .int (x3))] [] ((w1.set 9 (.inr (6, [.int (x1)]))).set 40 (.inl (0, .inl ((List.replicate 34 0).set 31 (32))))) 0 0 Q := by
  refine q_iload rfl rfl ?_
  refine q_iload rfl rfl ?_
  by_cases h101 : (x3).toInt ≤ 32
  · refine q_ic_ge_t (t := 159) rfl (by decide) (i_le_r (a := (32 : Int)) (b := (x3).toInt) (by decide +kernel) rfl (by omega)) ?_
    obtain rfl : x3 = (32 : Int32) := i_eq (a := (x3).toInt) (b := 32) rfl (by decide +kernel) (by omega)
    refine q_vret rfl rfl ?_
    exact K 32
  · refine q_ic_ge_f (t := 159) rfl (by decide) (i_nle_r (a := (32 : Int)) (b := (x3).toInt) (by decide +kernel) rfl (by omega)) ?_
    refine q_iload rfl rfl ?_
    refine q_if_le_t (t := 73) rfl (by decide) (i_le (a := (0 : Int)) (b := (0 : Int)) (by decide +kernel) (by decide +kernel) (by omega)) ?_
    refine q_iload rfl rfl ?_
    refine q_iconstv (v := (3 : Int32)) rfl (by decide +kernel) ?_
    refine q_ic_lt_t (t := 133) rfl (by decide) (i_lt (a := (0 : Int)) (b := (3 : Int)) (by decide +kernel) (by decide +kernel) (by omega)) ?_
    refine q_iload rfl rfl ?_
    refine q_if_le_t (t := 149) rfl (by decide) (i_le (a := (0 : Int)) (b := (0 : Int)) (by decide +kernel) (by decide +kernel) (by omega)) ?_
    refine q_aload_n rfl rfl ?_
    refine q_call rfl rfl rfl rfl ?_
    refine q_iconstv (v := (0 : Int32)) rfl (by decide +kernel) ?_
    refine q_istore_n rfl (by decide) ?_
    refine q_iload_n rfl rfl ?_
    refine q_aload_n rfl rfl ?_
    refine q_get rfl rfl rfl rfl ?_
    refine q_get rfl rfl rfl rfl ?_
    refine q_ic_ge_t (t := 40) rfl (by decide) (i_le_r (a := (0 : Int)) (b := (0 : Int)) (by decide +kernel) (by decide +kernel) (by omega)) ?_
    refine q_aload_n rfl rfl ?_
    refine q_get rfl rfl rfl rfl ?_
    refine q_bipushv (v := (31 : Int32)) rfl (by decide +kernel) ?_
    refine q_dup2 rfl ⟨rfl, rfl⟩ ?_
    refine q_ialoadv (m := 31) rfl (by decide) (by decide) rfl (by decide +kernel) rfl ?_
    refine q_iconstv (v := (1 : Int32)) rfl (by decide +kernel) ?_
    refine q_iaddv (v := (33 : Int32)) rfl (by decide +kernel) ?_
    refine q_iastorev (m := 31) (w9 := ((w1.set 9 (.inr (6, [.int (x1)]))).set 40 (.inl (0, .inl ((List.replicate 34 0).set 31 (33)))))) rfl (by decide) rfl (by decide +kernel) (by decide) rfl ?_
    refine q_vret rfl rfl ?_
    refine bk_inl ?_
    refine q_iincv (v := (33 : Int32)) rfl rfl (by decide) (by decide +kernel) ?_
    refine q_goto (t := 35) rfl (by decide) ?_
    exact live_33 (by omega) h2 K
set_option maxRecDepth 100000 in
set_option maxHeartbeats 4000000 in
theorem live_31 {sc : List Int32} {x1 x2 x3 : Int32} {Q : AR → Prop} (h1 : 31 ≤ x3.toInt) (h2 : x3.toInt ≤ 48) (K : ∀ D : Nat, Q (.inl none, ((w1.set 9 (.inr (6, [.int (x1)]))).set 40 (.inl (0, .inl ((List.replicate 34 0).set 31 (Int32.ofNat D))))), 0, 0)) : Wp sc 97 77 35 [(8, .int 31), (7, .int 0), (6, .int 0), (5, .int 0), (0, .ref 9), (1, .ref 39), (2, .int (x1)), (3, .int (x2)), (4, .int (x3))] [] ((w1.set 9 (.inr (6, [.int (x1)]))).set 40 (.inl (0, .inl ((List.replicate 34 0).set 31 (31))))) 0 0 Q := by
  refine q_iload rfl rfl ?_
  refine q_iload rfl rfl ?_
  by_cases h101 : (x3).toInt ≤ 31
  · refine q_ic_ge_t (t := 159) rfl (by decide) (i_le_r (a := (31 : Int)) (b := (x3).toInt) (by decide +kernel) rfl (by omega)) ?_
    obtain rfl : x3 = (31 : Int32) := i_eq (a := (x3).toInt) (b := 31) rfl (by decide +kernel) (by omega)
    refine q_vret rfl rfl ?_
    exact K 31
  · refine q_ic_ge_f (t := 159) rfl (by decide) (i_nle_r (a := (31 : Int)) (b := (x3).toInt) (by decide +kernel) rfl (by omega)) ?_
    refine q_iload rfl rfl ?_
    refine q_if_le_t (t := 73) rfl (by decide) (i_le (a := (0 : Int)) (b := (0 : Int)) (by decide +kernel) (by decide +kernel) (by omega)) ?_
    refine q_iload rfl rfl ?_
    refine q_iconstv (v := (3 : Int32)) rfl (by decide +kernel) ?_
    refine q_ic_lt_t (t := 133) rfl (by decide) (i_lt (a := (0 : Int)) (b := (3 : Int)) (by decide +kernel) (by decide +kernel) (by omega)) ?_
    refine q_iload rfl rfl ?_
    refine q_if_le_t (t := 149) rfl (by decide) (i_le (a := (0 : Int)) (b := (0 : Int)) (by decide +kernel) (by decide +kernel) (by omega)) ?_
    refine q_aload_n rfl rfl ?_
    refine q_call rfl rfl rfl rfl ?_
    refine q_iconstv (v := (0 : Int32)) rfl (by decide +kernel) ?_
    refine q_istore_n rfl (by decide) ?_
    refine q_iload_n rfl rfl ?_
    refine q_aload_n rfl rfl ?_
    refine q_get rfl rfl rfl rfl ?_
    refine q_get rfl rfl rfl rfl ?_
    refine q_ic_ge_t (t := 40) rfl (by decide) (i_le_r (a := (0 : Int)) (b := (0 : Int)) (by decide +kernel) (by decide +kernel) (by omega)) ?_
    refine q_aload_n rfl rfl ?_
    refine q_get rfl rfl rfl rfl ?_
    refine q_bipushv (v := (31 : Int32)) rfl (by decide +kernel) ?_
    refine q_dup2 rfl ⟨rfl, rfl⟩ ?_
    refine q_ialoadv (m := 31) rfl (by decide) (by decide) rfl (by decide +kernel) rfl ?_
    refine q_iconstv (v := (1 : Int32)) rfl (by decide +kernel) ?_
    refine q_iaddv (v := (32 : Int32)) rfl (by decide +kernel) ?_
    refine q_iastorev (m := 31) (w9 := ((w1.set 9 (.inr (6, [.int (x1)]))).set 40 (.inl (0, .inl ((List.replicate 34 0).set 31 (32)))))) rfl (by decide) rfl (by decide +kernel) (by decide) rfl ?_
    refine q_vret rfl rfl ?_
    refine bk_inl ?_
    refine q_iincv (v := (32 : Int32)) rfl rfl (by decide) (by decide +kernel) ?_
    refine q_goto (t := 35) rfl (by decide) ?_
    exact live_32 (by omega) h2 K
set_option maxRecDepth 100000 in
set_option maxHeartbeats 4000000 in
theorem live_30 {sc : List Int32} {x1 x2 x3 : Int32} {Q : AR → Prop} (h1 : 30 ≤ x3.toInt) (h2 : x3.toInt ≤ 48) (K : ∀ D : Nat, Q (.inl none, ((w1.set 9 (.inr (6, [.int (x1)]))).set 40 (.inl (0, .inl ((List.replicate 34 0).set 31 (Int32.ofNat D))))), 0, 0)) : Wp sc 97 77 35 [(8, .int 30), (7, .int 0), (6, .int 0), (5, .int 0), (0, .ref 9), (1, .ref 39), (2, .int (x1)), (3, .int (x2)), (4, .int (x3))] [] ((w1.set 9 (.inr (6, [.int (x1)]))).set 40 (.inl (0, .inl ((List.replicate 34 0).set 31 (30))))) 0 0 Q := by
  refine q_iload rfl rfl ?_
  refine q_iload rfl rfl ?_
  by_cases h101 : (x3).toInt ≤ 30
  · refine q_ic_ge_t (t := 159) rfl (by decide) (i_le_r (a := (30 : Int)) (b := (x3).toInt) (by decide +kernel) rfl (by omega)) ?_
    obtain rfl : x3 = (30 : Int32) := i_eq (a := (x3).toInt) (b := 30) rfl (by decide +kernel) (by omega)
    refine q_vret rfl rfl ?_
    exact K 30
  · refine q_ic_ge_f (t := 159) rfl (by decide) (i_nle_r (a := (30 : Int)) (b := (x3).toInt) (by decide +kernel) rfl (by omega)) ?_
    refine q_iload rfl rfl ?_
    refine q_if_le_t (t := 73) rfl (by decide) (i_le (a := (0 : Int)) (b := (0 : Int)) (by decide +kernel) (by decide +kernel) (by omega)) ?_
    refine q_iload rfl rfl ?_
    refine q_iconstv (v := (3 : Int32)) rfl (by decide +kernel) ?_
    refine q_ic_lt_t (t := 133) rfl (by decide) (i_lt (a := (0 : Int)) (b := (3 : Int)) (by decide +kernel) (by decide +kernel) (by omega)) ?_
    refine q_iload rfl rfl ?_
    refine q_if_le_t (t := 149) rfl (by decide) (i_le (a := (0 : Int)) (b := (0 : Int)) (by decide +kernel) (by decide +kernel) (by omega)) ?_
    refine q_aload_n rfl rfl ?_
    refine q_call rfl rfl rfl rfl ?_
    refine q_iconstv (v := (0 : Int32)) rfl (by decide +kernel) ?_
    refine q_istore_n rfl (by decide) ?_
    refine q_iload_n rfl rfl ?_
    refine q_aload_n rfl rfl ?_
    refine q_get rfl rfl rfl rfl ?_
    refine q_get rfl rfl rfl rfl ?_
    refine q_ic_ge_t (t := 40) rfl (by decide) (i_le_r (a := (0 : Int)) (b := (0 : Int)) (by decide +kernel) (by decide +kernel) (by omega)) ?_
    refine q_aload_n rfl rfl ?_
    refine q_get rfl rfl rfl rfl ?_
    refine q_bipushv (v := (31 : Int32)) rfl (by decide +kernel) ?_
    refine q_dup2 rfl ⟨rfl, rfl⟩ ?_
    refine q_ialoadv (m := 31) rfl (by decide) (by decide) rfl (by decide +kernel) rfl ?_
    refine q_iconstv (v := (1 : Int32)) rfl (by decide +kernel) ?_
    refine q_iaddv (v := (31 : Int32)) rfl (by decide +kernel) ?_
    refine q_iastorev (m := 31) (w9 := ((w1.set 9 (.inr (6, [.int (x1)]))).set 40 (.inl (0, .inl ((List.replicate 34 0).set 31 (31)))))) rfl (by decide) rfl (by decide +kernel) (by decide) rfl ?_
    refine q_vret rfl rfl ?_
    refine bk_inl ?_
    refine q_iincv (v := (31 : Int32)) rfl rfl (by decide) (by decide +kernel) ?_
    refine q_goto (t := 35) rfl (by decide) ?_
    exact live_31 (by omega) h2 K
set_option maxRecDepth 100000 in
set_option maxHeartbeats 4000000 in
theorem live_29 {sc : List Int32} {x1 x2 x3 : Int32} {Q : AR → Prop} (h1 : 29 ≤ x3.toInt) (h2 : x3.toInt ≤ 48) (K : ∀ D : Nat, Q (.inl none, ((w1.set 9 (.inr (6, [.int (x1)]))).set 40 (.inl (0, .inl ((List.replicate 34 0).set 31 (Int32.ofNat D))))), 0, 0)) : Wp sc 97 77 35 [(8, .int 29), (7, .int 0), (6, .int 0), (5, .int 0), (0, .ref 9), (1, .ref 39), (2, .int (x1)), (3, .int (x2)), (4, .int (x3))] [] ((w1.set 9 (.inr (6, [.int (x1)]))).set 40 (.inl (0, .inl ((List.replicate 34 0).set 31 (29))))) 0 0 Q := by
  refine q_iload rfl rfl ?_
  refine q_iload rfl rfl ?_
  by_cases h101 : (x3).toInt ≤ 29
  · refine q_ic_ge_t (t := 159) rfl (by decide) (i_le_r (a := (29 : Int)) (b := (x3).toInt) (by decide +kernel) rfl (by omega)) ?_
    obtain rfl : x3 = (29 : Int32) := i_eq (a := (x3).toInt) (b := 29) rfl (by decide +kernel) (by omega)
    refine q_vret rfl rfl ?_
    exact K 29
  · refine q_ic_ge_f (t := 159) rfl (by decide) (i_nle_r (a := (29 : Int)) (b := (x3).toInt) (by decide +kernel) rfl (by omega)) ?_
    refine q_iload rfl rfl ?_
    refine q_if_le_t (t := 73) rfl (by decide) (i_le (a := (0 : Int)) (b := (0 : Int)) (by decide +kernel) (by decide +kernel) (by omega)) ?_
    refine q_iload rfl rfl ?_
    refine q_iconstv (v := (3 : Int32)) rfl (by decide +kernel) ?_
    refine q_ic_lt_t (t := 133) rfl (by decide) (i_lt (a := (0 : Int)) (b := (3 : Int)) (by decide +kernel) (by decide +kernel) (by omega)) ?_
    refine q_iload rfl rfl ?_
    refine q_if_le_t (t := 149) rfl (by decide) (i_le (a := (0 : Int)) (b := (0 : Int)) (by decide +kernel) (by decide +kernel) (by omega)) ?_
    refine q_aload_n rfl rfl ?_
    refine q_call rfl rfl rfl rfl ?_
    refine q_iconstv (v := (0 : Int32)) rfl (by decide +kernel) ?_
    refine q_istore_n rfl (by decide) ?_
    refine q_iload_n rfl rfl ?_
    refine q_aload_n rfl rfl ?_
    refine q_get rfl rfl rfl rfl ?_
    refine q_get rfl rfl rfl rfl ?_
    refine q_ic_ge_t (t := 40) rfl (by decide) (i_le_r (a := (0 : Int)) (b := (0 : Int)) (by decide +kernel) (by decide +kernel) (by omega)) ?_
    refine q_aload_n rfl rfl ?_
    refine q_get rfl rfl rfl rfl ?_
    refine q_bipushv (v := (31 : Int32)) rfl (by decide +kernel) ?_
    refine q_dup2 rfl ⟨rfl, rfl⟩ ?_
    refine q_ialoadv (m := 31) rfl (by decide) (by decide) rfl (by decide +kernel) rfl ?_
    refine q_iconstv (v := (1 : Int32)) rfl (by decide +kernel) ?_
    refine q_iaddv (v := (30 : Int32)) rfl (by decide +kernel) ?_
    refine q_iastorev (m := 31) (w9 := ((w1.set 9 (.inr (6, [.int (x1)]))).set 40 (.inl (0, .inl ((List.replicate 34 0).set 31 (30)))))) rfl (by decide) rfl (by decide +kernel) (by decide) rfl ?_
    refine q_vret rfl rfl ?_
    refine bk_inl ?_
    refine q_iincv (v := (30 : Int32)) rfl rfl (by decide) (by decide +kernel) ?_
    refine q_goto (t := 35) rfl (by decide) ?_
    exact live_30 (by omega) h2 K
set_option maxRecDepth 100000 in
set_option maxHeartbeats 4000000 in
theorem live_28 {sc : List Int32} {x1 x2 x3 : Int32} {Q : AR → Prop} (h1 : 28 ≤ x3.toInt) (h2 : x3.toInt ≤ 48) (K : ∀ D : Nat, Q (.inl none, ((w1.set 9 (.inr (6, [.int (x1)]))).set 40 (.inl (0, .inl ((List.replicate 34 0).set 31 (Int32.ofNat D))))), 0, 0)) : Wp sc 97 77 35 [(8, .int 28), (7, .int 0), (6, .int 0), (5, .int 0), (0, .ref 9), (1, .ref 39), (2, .int (x1)), (3, .int (x2)), (4, .int (x3))] [] ((w1.set 9 (.inr (6, [.int (x1)]))).set 40 (.inl (0, .inl ((List.replicate 34 0).set 31 (28))))) 0 0 Q := by
  refine q_iload rfl rfl ?_
  refine q_iload rfl rfl ?_
  by_cases h101 : (x3).toInt ≤ 28
  · refine q_ic_ge_t (t := 159) rfl (by decide) (i_le_r (a := (28 : Int)) (b := (x3).toInt) (by decide +kernel) rfl (by omega)) ?_
    obtain rfl : x3 = (28 : Int32) := i_eq (a := (x3).toInt) (b := 28) rfl (by decide +kernel) (by omega)
    refine q_vret rfl rfl ?_
    exact K 28
  · refine q_ic_ge_f (t := 159) rfl (by decide) (i_nle_r (a := (28 : Int)) (b := (x3).toInt) (by decide +kernel) rfl (by omega)) ?_
    refine q_iload rfl rfl ?_
    refine q_if_le_t (t := 73) rfl (by decide) (i_le (a := (0 : Int)) (b := (0 : Int)) (by decide +kernel) (by decide +kernel) (by omega)) ?_
    refine q_iload rfl rfl ?_
    refine q_iconstv (v := (3 : Int32)) rfl (by decide +kernel) ?_
    refine q_ic_lt_t (t := 133) rfl (by decide) (i_lt (a := (0 : Int)) (b := (3 : Int)) (by decide +kernel) (by decide +kernel) (by omega)) ?_
    refine q_iload rfl rfl ?_
    refine q_if_le_t (t := 149) rfl (by decide) (i_le (a := (0 : Int)) (b := (0 : Int)) (by decide +kernel) (by decide +kernel) (by omega)) ?_
    refine q_aload_n rfl rfl ?_
    refine q_call rfl rfl rfl rfl ?_
    refine q_iconstv (v := (0 : Int32)) rfl (by decide +kernel) ?_
    refine q_istore_n rfl (by decide) ?_
    refine q_iload_n rfl rfl ?_
    refine q_aload_n rfl rfl ?_
    refine q_get rfl rfl rfl rfl ?_
    refine q_get rfl rfl rfl rfl ?_
    refine q_ic_ge_t (t := 40) rfl (by decide) (i_le_r (a := (0 : Int)) (b := (0 : Int)) (by decide +kernel) (by decide +kernel) (by omega)) ?_
    refine q_aload_n rfl rfl ?_
    refine q_get rfl rfl rfl rfl ?_
    refine q_bipushv (v := (31 : Int32)) rfl (by decide +kernel) ?_
    refine q_dup2 rfl ⟨rfl, rfl⟩ ?_
    refine q_ialoadv (m := 31) rfl (by decide) (by decide) rfl (by decide +kernel) rfl ?_
    refine q_iconstv (v := (1 : Int32)) rfl (by decide +kernel) ?_
    refine q_iaddv (v := (29 : Int32)) rfl (by decide +kernel) ?_
    refine q_iastorev (m := 31) (w9 := ((w1.set 9 (.inr (6, [.int (x1)]))).set 40 (.inl (0, .inl ((List.replicate 34 0).set 31 (29)))))) rfl (by decide) rfl (by decide +kernel) (by decide) rfl ?_
    refine q_vret rfl rfl ?_
    refine bk_inl ?_
    refine q_iincv (v := (29 : Int32)) rfl rfl (by decide) (by decide +kernel) ?_
    refine q_goto (t := 35) rfl (by decide) ?_
    exact live_29 (by omega) h2 K
set_option maxRecDepth 100000 in
set_option maxHeartbeats 4000000 in
theorem live_27 {sc : List Int32} {x1 x2 x3 : Int32} {Q : AR → Prop} (h1 : 27 ≤ x3.toInt) (h2 : x3.toInt ≤ 48) (K : ∀ D : Nat, Q (.inl none, ((w1.set 9 (.inr (6, [.int (x1)]))).set 40 (.inl (0, .inl ((List.replicate 34 0).set 31 (Int32.ofNat D))))), 0, 0)) : Wp sc 97 77 35 [(8, .int 27), (7, .int 0), (6, .int 0), (5, .int 0), (0, .ref 9), (1, .ref 39), (2, .int (x1)), (3, .int (x2)), (4, .int (x3))] [] ((w1.set 9 (.inr (6, [.int (x1)]))).set 40 (.inl (0, .inl ((List.replicate 34 0).set 31 (27))))) 0 0 Q := by
  refine q_iload rfl rfl ?_
  refine q_iload rfl rfl ?_
  by_cases h101 : (x3).toInt ≤ 27
  · refine q_ic_ge_t (t := 159) rfl (by decide) (i_le_r (a := (27 : Int)) (b := (x3).toInt) (by decide +kernel) rfl (by omega)) ?_
    obtain rfl : x3 = (27 : Int32) := i_eq (a := (x3).toInt) (b := 27) rfl (by decide +kernel) (by omega)
    refine q_vret rfl rfl ?_
    exact K 27
  · refine q_ic_ge_f (t := 159) rfl (by decide) (i_nle_r (a := (27 : Int)) (b := (x3).toInt) (by decide +kernel) rfl (by omega)) ?_
    refine q_iload rfl rfl ?_
    refine q_if_le_t (t := 73) rfl (by decide) (i_le (a := (0 : Int)) (b := (0 : Int)) (by decide +kernel) (by decide +kernel) (by omega)) ?_
    refine q_iload rfl rfl ?_
    refine q_iconstv (v := (3 : Int32)) rfl (by decide +kernel) ?_
    refine q_ic_lt_t (t := 133) rfl (by decide) (i_lt (a := (0 : Int)) (b := (3 : Int)) (by decide +kernel) (by decide +kernel) (by omega)) ?_
    refine q_iload rfl rfl ?_
    refine q_if_le_t (t := 149) rfl (by decide) (i_le (a := (0 : Int)) (b := (0 : Int)) (by decide +kernel) (by decide +kernel) (by omega)) ?_
    refine q_aload_n rfl rfl ?_
    refine q_call rfl rfl rfl rfl ?_
    refine q_iconstv (v := (0 : Int32)) rfl (by decide +kernel) ?_
    refine q_istore_n rfl (by decide) ?_
    refine q_iload_n rfl rfl ?_
    refine q_aload_n rfl rfl ?_
    refine q_get rfl rfl rfl rfl ?_
    refine q_get rfl rfl rfl rfl ?_
    refine q_ic_ge_t (t := 40) rfl (by decide) (i_le_r (a := (0 : Int)) (b := (0 : Int)) (by decide +kernel) (by decide +kernel) (by omega)) ?_
    refine q_aload_n rfl rfl ?_
    refine q_get rfl rfl rfl rfl ?_
    refine q_bipushv (v := (31 : Int32)) rfl (by decide +kernel) ?_
    refine q_dup2 rfl ⟨rfl, rfl⟩ ?_
    refine q_ialoadv (m := 31) rfl (by decide) (by decide) rfl (by decide +kernel) rfl ?_
    refine q_iconstv (v := (1 : Int32)) rfl (by decide +kernel) ?_
    refine q_iaddv (v := (28 : Int32)) rfl (by decide +kernel) ?_
    refine q_iastorev (m := 31) (w9 := ((w1.set 9 (.inr (6, [.int (x1)]))).set 40 (.inl (0, .inl ((List.replicate 34 0).set 31 (28)))))) rfl (by decide) rfl (by decide +kernel) (by decide) rfl ?_
    refine q_vret rfl rfl ?_
    refine bk_inl ?_
    refine q_iincv (v := (28 : Int32)) rfl rfl (by decide) (by decide +kernel) ?_
    refine q_goto (t := 35) rfl (by decide) ?_
    exact live_28 (by omega) h2 K
set_option maxRecDepth 100000 in
set_option maxHeartbeats 4000000 in
theorem live_26 {sc : List Int32} {x1 x2 x3 : Int32} {Q : AR → Prop} (h1 : 26 ≤ x3.toInt) (h2 : x3.toInt ≤ 48) (K : ∀ D : Nat, Q (.inl none, ((w1.set 9 (.inr (6, [.int (x1)]))).set 40 (.inl (0, .inl ((List.replicate 34 0).set 31 (Int32.ofNat D))))), 0, 0)) : Wp sc 97 77 35 [(8, .int 26), (7, .int 0), (6, .int 0), (5, .int 0), (0, .ref 9), (1, .ref 39), (2, .int (x1)), (3, .int (x2)), (4, .int (x3))] [] ((w1.set 9 (.inr (6, [.int (x1)]))).set 40 (.inl (0, .inl ((List.replicate 34 0).set 31 (26))))) 0 0 Q := by
  refine q_iload rfl rfl ?_
  refine q_iload rfl rfl ?_
  by_cases h101 : (x3).toInt ≤ 26
  · refine q_ic_ge_t (t := 159) rfl (by decide) (i_le_r (a := (26 : Int)) (b := (x3).toInt) (by decide +kernel) rfl (by omega)) ?_
    obtain rfl : x3 = (26 : Int32) := i_eq (a := (x3).toInt) (b := 26) rfl (by decide +kernel) (by omega)
    refine q_vret rfl rfl ?_
    exact K 26
  · refine q_ic_ge_f (t := 159) rfl (by decide) (i_nle_r (a := (26 : Int)) (b := (x3).toInt) (by decide +kernel) rfl (by omega)) ?_
    refine q_iload rfl rfl ?_
    refine q_if_le_t (t := 73) rfl (by decide) (i_le (a := (0 : Int)) (b := (0 : Int)) (by decide +kernel) (by decide +kernel) (by omega)) ?_
    refine q_iload rfl rfl ?_
    refine q_iconstv (v := (3 : Int32)) rfl (by decide +kernel) ?_
    refine q_ic_lt_t (t := 133) rfl (by decide) (i_lt (a := (0 : Int)) (b := (3 : Int)) (by decide +kernel) (by decide +kernel) (by omega)) ?_
    refine q_iload rfl rfl ?_
    refine q_if_le_t (t := 149) rfl (by decide) (i_le (a := (0 : Int)) (b := (0 : Int)) (by decide +kernel) (by decide +kernel) (by omega)) ?_
    refine q_aload_n rfl rfl ?_
    refine q_call rfl rfl rfl rfl ?_
    refine q_iconstv (v := (0 : Int32)) rfl (by decide +kernel) ?_
    refine q_istore_n rfl (by decide) ?_
    refine q_iload_n rfl rfl ?_
    refine q_aload_n rfl rfl ?_
    refine q_get rfl rfl rfl rfl ?_
    refine q_get rfl rfl rfl rfl ?_
    refine q_ic_ge_t (t := 40) rfl (by decide) (i_le_r (a := (0 : Int)) (b := (0 : Int)) (by decide +kernel) (by decide +kernel) (by omega)) ?_
    refine q_aload_n rfl rfl ?_
    refine q_get rfl rfl rfl rfl ?_
    refine q_bipushv (v := (31 : Int32)) rfl (by decide +kernel) ?_
    refine q_dup2 rfl ⟨rfl, rfl⟩ ?_
    refine q_ialoadv (m := 31) rfl (by decide) (by decide) rfl (by decide +kernel) rfl ?_
    refine q_iconstv (v := (1 : Int32)) rfl (by decide +kernel) ?_
    refine q_iaddv (v := (27 : Int32)) rfl (by decide +kernel) ?_
    refine q_iastorev (m := 31) (w9 := ((w1.set 9 (.inr (6, [.int (x1)]))).set 40 (.inl (0, .inl ((List.replicate 34 0).set 31 (27)))))) rfl (by decide) rfl (by decide +kernel) (by decide) rfl ?_
    refine q_vret rfl rfl ?_
    refine bk_inl ?_
    refine q_iincv (v := (27 : Int32)) rfl rfl (by decide) (by decide +kernel) ?_
    refine q_goto (t := 35) rfl (by decide) ?_
    exact live_27 (by omega) h2 K
set_option maxRecDepth 100000 in
set_option maxHeartbeats 4000000 in
theorem live_25 {sc : List Int32} {x1 x2 x3 : Int32} {Q : AR → Prop} (h1 : 25 ≤ x3.toInt) (h2 : x3.toInt ≤ 48) (K : ∀ D : Nat, Q (.inl none, ((w1.set 9 (.inr (6, [.int (x1)]))).set 40 (.inl (0, .inl ((List.replicate 34 0).set 31 (Int32.ofNat D))))), 0, 0)) : Wp sc 97 77 35 [(8, .int 25), (7, .int 0), (6, .int 0), (5, .int 0), (0, .ref 9), (1, .ref 39), (2, .int (x1)), (3, .int (x2)), (4, .int (x3))] [] ((w1.set 9 (.inr (6, [.int (x1)]))).set 40 (.inl (0, .inl ((List.replicate 34 0).set 31 (25))))) 0 0 Q := by
  refine q_iload rfl rfl ?_
  refine q_iload rfl rfl ?_
  by_cases h101 : (x3).toInt ≤ 25
  · refine q_ic_ge_t (t := 159) rfl (by decide) (i_le_r (a := (25 : Int)) (b := (x3).toInt) (by decide +kernel) rfl (by omega)) ?_
    obtain rfl : x3 = (25 : Int32) := i_eq (a := (x3).toInt) (b := 25) rfl (by decide +kernel) (by omega)
    refine q_vret rfl rfl ?_
    exact K 25
  · refine q_ic_ge_f (t := 159) rfl (by decide) (i_nle_r (a := (25 : Int)) (b := (x3).toInt) (by decide +kernel) rfl (by omega)) ?_
    refine q_iload rfl rfl ?_
    refine q_if_le_t (t := 73) rfl (by decide) (i_le (a := (0 : Int)) (b := (0 : Int)) (by decide +kernel) (by decide +kernel) (by omega)) ?_
    refine q_iload rfl rfl ?_
    refine q_iconstv (v := (3 : Int32)) rfl (by decide +kernel) ?_
    refine q_ic_lt_t (t := 133) rfl (by decide) (i_lt (a := (0 : Int)) (b := (3 : Int)) (by decide +kernel) (by decide +kernel) (by omega)) ?_
    refine q_iload rfl rfl ?_
    refine q_if_le_t (t := 149) rfl (by decide) (i_le (a := (0 : Int)) (b := (0 : Int)) (by decide +kernel) (by decide +kernel) (by omega)) ?_
    refine q_aload_n rfl rfl ?_
    refine q_call rfl rfl rfl rfl ?_
    refine q_iconstv (v := (0 : Int32)) rfl (by decide +kernel) ?_
    refine q_istore_n rfl (by decide) ?_
    refine q_iload_n rfl rfl ?_
    refine q_aload_n rfl rfl ?_
    refine q_get rfl rfl rfl rfl ?_
    refine q_get rfl rfl rfl rfl ?_
    refine q_ic_ge_t (t := 40) rfl (by decide) (i_le_r (a := (0 : Int)) (b := (0 : Int)) (by decide +kernel) (by decide +kernel) (by omega)) ?_
    refine q_aload_n rfl rfl ?_
    refine q_get rfl rfl rfl rfl ?_
    refine q_bipushv (v := (31 : Int32)) rfl (by decide +kernel) ?_
    refine q_dup2 rfl ⟨rfl, rfl⟩ ?_
    refine q_ialoadv (m := 31) rfl (by decide) (by decide) rfl (by decide +kernel) rfl ?_
    refine q_iconstv (v := (1 : Int32)) rfl (by decide +kernel) ?_
    refine q_iaddv (v := (26 : Int32)) rfl (by decide +kernel) ?_
    refine q_iastorev (m := 31) (w9 := ((w1.set 9 (.inr (6, [.int (x1)]))).set 40 (.inl (0, .inl ((List.replicate 34 0).set 31 (26)))))) rfl (by decide) rfl (by decide +kernel) (by decide) rfl ?_
    refine q_vret rfl rfl ?_
    refine bk_inl ?_
    refine q_iincv (v := (26 : Int32)) rfl rfl (by decide) (by decide +kernel) ?_
    refine q_goto (t := 35) rfl (by decide) ?_
    exact live_26 (by omega) h2 K
set_option maxRecDepth 100000 in
set_option maxHeartbeats 4000000 in
theorem live_24 {sc : List Int32} {x1 x2 x3 : Int32} {Q : AR → Prop} (h1 : 24 ≤ x3.toInt) (h2 : x3.toInt ≤ 48) (K : ∀ D : Nat, Q (.inl none, ((w1.set 9 (.inr (6, [.int (x1)]))).set 40 (.inl (0, .inl ((List.replicate 34 0).set 31 (Int32.ofNat D))))), 0, 0)) : Wp sc 97 77 35 [(8, .int 24), (7, .int 0), (6, .int 0), (5, .int 0), (0, .ref 9), (1, .ref 39), (2, .int (x1)), (3, .int (x2)), (4, .int (x3))] [] ((w1.set 9 (.inr (6, [.int (x1)]))).set 40 (.inl (0, .inl ((List.replicate 34 0).set 31 (24))))) 0 0 Q := by
  refine q_iload rfl rfl ?_
  refine q_iload rfl rfl ?_
  by_cases h101 : (x3).toInt ≤ 24
  · refine q_ic_ge_t (t := 159) rfl (by decide) (i_le_r (a := (24 : Int)) (b := (x3).toInt) (by decide +kernel) rfl (by omega)) ?_
    obtain rfl : x3 = (24 : Int32) := i_eq (a := (x3).toInt) (b := 24) rfl (by decide +kernel) (by omega)
    refine q_vret rfl rfl ?_
    exact K 24
  · refine q_ic_ge_f (t := 159) rfl (by decide) (i_nle_r (a := (24 : Int)) (b := (x3).toInt) (by decide +kernel) rfl (by omega)) ?_
    refine q_iload rfl rfl ?_
    refine q_if_le_t (t := 73) rfl (by decide) (i_le (a := (0 : Int)) (b := (0 : Int)) (by decide +kernel) (by decide +kernel) (by omega)) ?_
    refine q_iload rfl rfl ?_
    refine q_iconstv (v := (3 : Int32)) rfl (by decide +kernel) ?_
    refine q_ic_lt_t (t := 133) rfl (by decide) (i_lt (a := (0 : Int)) (b := (3 : Int)) (by decide +kernel) (by decide +kernel) (by omega)) ?_
    refine q_iload rfl rfl ?_
    refine q_if_le_t (t := 149) rfl (by decide) (i_le (a := (0 : Int)) (b := (0 : Int)) (by decide +kernel) (by decide +kernel) (by omega)) ?_
    refine q_aload_n rfl rfl ?_
    refine q_call rfl rfl rfl rfl ?_
    refine q_iconstv (v := (0 : Int32)) rfl (by decide +kernel) ?_
    refine q_istore_n rfl (by decide) ?_
    refine q_iload_n rfl rfl ?_
    refine q_aload_n rfl rfl ?_
    refine q_get rfl rfl rfl rfl ?_
    refine q_get rfl rfl rfl rfl ?_
    refine q_ic_ge_t (t := 40) rfl (by decide) (i_le_r (a := (0 : Int)) (b := (0 : Int)) (by decide +kernel) (by decide +kernel) (by omega)) ?_
    refine q_aload_n rfl rfl ?_
    refine q_get rfl rfl rfl rfl ?_
    refine q_bipushv (v := (31 : Int32)) rfl (by decide +kernel) ?_
    refine q_dup2 rfl ⟨rfl, rfl⟩ ?_
    refine q_ialoadv (m := 31) rfl (by decide) (by decide) rfl (by decide +kernel) rfl ?_
    refine q_iconstv (v := (1 : Int32)) rfl (by decide +kernel) ?_
    refine q_iaddv (v := (25 : Int32)) rfl (by decide +kernel) ?_
    refine q_iastorev (m := 31) (w9 := ((w1.set 9 (.inr (6, [.int (x1)]))).set 40 (.inl (0, .inl ((List.replicate 34 0).set 31 (25)))))) rfl (by decide) rfl (by decide +kernel) (by decide) rfl ?_
    refine q_vret rfl rfl ?_
    refine bk_inl ?_
    refine q_iincv (v := (25 : Int32)) rfl rfl (by decide) (by decide +kernel) ?_
    refine q_goto (t := 35) rfl (by decide) ?_
    exact live_25 (by omega) h2 K
set_option maxRecDepth 100000 in
set_option maxHeartbeats 4000000 in
theorem live_23 {sc : List Int32} {x1 x2 x3 : Int32} {Q : AR → Prop} (h1 : 23 ≤ x3.toInt) (h2 : x3.toInt ≤ 48) (K : ∀ D : Nat, Q (.inl none, ((w1.set 9 (.inr (6, [.int (x1)]))).set 40 (.inl (0, .inl ((List.replicate 34 0).set 31 (Int32.ofNat D))))), 0, 0)) : Wp sc 97 77 35 [(8, .int 23), (7, .int 0), (6, .int 0), (5, .int 0), (0, .ref 9), (1, .ref 39), (2, .int (x1)), (3, .int (x2)), (4, .int (x3))] [] ((w1.set 9 (.inr (6, [.int (x1)]))).set 40 (.inl (0, .inl ((List.replicate 34 0).set 31 (23))))) 0 0 Q := by
  refine q_iload rfl rfl ?_
  refine q_iload rfl rfl ?_
  by_cases h101 : (x3).toInt ≤ 23
  · refine q_ic_ge_t (t := 159) rfl (by decide) (i_le_r (a := (23 : Int)) (b := (x3).toInt) (by decide +kernel) rfl (by omega)) ?_
    obtain rfl : x3 = (23 : Int32) := i_eq (a := (x3).toInt) (b := 23) rfl (by decide +kernel) (by omega)
    refine q_vret rfl rfl ?_
    exact K 23
  · refine q_ic_ge_f (t := 159) rfl (by decide) (i_nle_r (a := (23 : Int)) (b := (x3).toInt) (by decide +kernel) rfl (by omega)) ?_
    refine q_iload rfl rfl ?_
    refine q_if_le_t (t := 73) rfl (by decide) (i_le (a := (0 : Int)) (b := (0 : Int)) (by decide +kernel) (by decide +kernel) (by omega)) ?_
    refine q_iload rfl rfl ?_
    refine q_iconstv (v := (3 : Int32)) rfl (by decide +kernel) ?_
    refine q_ic_lt_t (t := 133) rfl (by decide) (i_lt (a := (0 : Int)) (b := (3 : Int)) (by decide +kernel) (by decide +kernel) (by omega)) ?_
    refine q_iload rfl rfl ?_
    refine q_if_le_t (t := 149) rfl (by decide) (i_le (a := (0 : Int)) (b := (0 : Int)) (by decide +kernel) (by decide +kernel) (by omega)) ?_
    refine q_aload_n rfl rfl ?_
    refine q_call rfl rfl rfl rfl ?_
    refine q_iconstv (v := (0 : Int32)) rfl (by decide +kernel) ?_
    refine q_istore_n rfl (by decide) ?_
    refine q_iload_n rfl rfl ?_
    refine q_aload_n rfl rfl ?_
    refine q_get rfl rfl rfl rfl ?_
    refine q_get rfl rfl rfl rfl ?_
    refine q_ic_ge_t (t := 40) rfl (by decide) (i_le_r (a := (0 : Int)) (b := (0 : Int)) (by decide +kernel) (by decide +kernel) (by omega)) ?_
    refine q_aload_n rfl rfl ?_
    refine q_get rfl rfl rfl rfl ?_
    refine q_bipushv (v := (31 : Int32)) rfl (by decide +kernel) ?_
    refine q_dup2 rfl ⟨rfl, rfl⟩ ?_
    refine q_ialoadv (m := 31) rfl (by decide) (by decide) rfl (by decide +kernel) rfl ?_
    refine q_iconstv (v := (1 : Int32)) rfl (by decide +kernel) ?_
    refine q_iaddv (v := (24 : Int32)) rfl (by decide +kernel) ?_
    refine q_iastorev (m := 31) (w9 := ((w1.set 9 (.inr (6, [.int (x1)]))).set 40 (.inl (0, .inl ((List.replicate 34 0).set 31 (24)))))) rfl (by decide) rfl (by decide +kernel) (by decide) rfl ?_
    refine q_vret rfl rfl ?_
    refine bk_inl ?_
    refine q_iincv (v := (24 : Int32)) rfl rfl (by decide) (by decide +kernel) ?_
    refine q_goto (t := 35) rfl (by decide) ?_
    exact live_24 (by omega) h2 K
set_option maxRecDepth 100000 in
set_option maxHeartbeats 4000000 in
theorem live_22 {sc : List Int32} {x1 x2 x3 : Int32} {Q : AR → Prop} (h1 : 22 ≤ x3.toInt) (h2 : x3.toInt ≤ 48) (K : ∀ D : Nat, Q (.inl none, ((w1.set 9 (.inr (6, [.int (x1)]))).set 40 (.inl (0, .inl ((List.replicate 34 0).set 31 (Int32.ofNat D))))), 0, 0)) : Wp sc 97 77 35 [(8, .int 22), (7, .int 0), (6, .int 0), (5, .int 0), (0, .ref 9), (1, .ref 39), (2, .int (x1)), (3, .int (x2)), (4, .int (x3))] [] ((w1.set 9 (.inr (6, [.int (x1)]))).set 40 (.inl (0, .inl ((List.replicate 34 0).set 31 (22))))) 0 0 Q := by
  refine q_iload rfl rfl ?_
  refine q_iload rfl rfl ?_
  by_cases h101 : (x3).toInt ≤ 22
  · refine q_ic_ge_t (t := 159) rfl (by decide) (i_le_r (a := (22 : Int)) (b := (x3).toInt) (by decide +kernel) rfl (by omega)) ?_
    obtain rfl : x3 = (22 : Int32) := i_eq (a := (x3).toInt) (b := 22) rfl (by decide +kernel) (by omega)
    refine q_vret rfl rfl ?_
    exact K 22
  · refine q_ic_ge_f (t := 159) rfl (by decide) (i_nle_r (a := (22 : Int)) (b := (x3).toInt) (by decide +kernel) rfl (by omega)) ?_
    refine q_iload rfl rfl ?_
    refine q_if_le_t (t := 73) rfl (by decide) (i_le (a := (0 : Int)) (b := (0 : Int)) (by decide +kernel) (by decide +kernel) (by omega)) ?_
    refine q_iload rfl rfl ?_
    refine q_iconstv (v := (3 : Int32)) rfl (by decide +kernel) ?_
    refine q_ic_lt_t (t := 133) rfl (by decide) (i_lt (a := (0 : Int)) (b := (3 : Int)) (by decide +kernel) (by decide +kernel) (by omega)) ?_
    refine q_iload rfl rfl ?_
    refine q_if_le_t (t := 149) rfl (by decide) (i_le (a := (0 : Int)) (b := (0 : Int)) (by decide +kernel) (by decide +kernel) (by omega)) ?_
    refine q_aload_n rfl rfl ?_
    refine q_call rfl rfl rfl rfl ?_
    refine q_iconstv (v := (0 : Int32)) rfl (by decide +kernel) ?_
    refine q_istore_n rfl (by decide) ?_
    refine q_iload_n rfl rfl ?_
    refine q_aload_n rfl rfl ?_
    refine q_get rfl rfl rfl rfl ?_
    refine q_get rfl rfl rfl rfl ?_
    refine q_ic_ge_t (t := 40) rfl (by decide) (i_le_r (a := (0 : Int)) (b := (0 : Int)) (by decide +kernel) (by decide +kernel) (by omega)) ?_
    refine q_aload_n rfl rfl ?_
    refine q_get rfl rfl rfl rfl ?_
    refine q_bipushv (v := (31 : Int32)) rfl (by decide +kernel) ?_
    refine q_dup2 rfl ⟨rfl, rfl⟩ ?_
    refine q_ialoadv (m := 31) rfl (by decide) (by decide) rfl (by decide +kernel) rfl ?_
    refine q_iconstv (v := (1 : Int32)) rfl (by decide +kernel) ?_
    refine q_iaddv (v := (23 : Int32)) rfl (by decide +kernel) ?_
    refine q_iastorev (m := 31) (w9 := ((w1.set 9 (.inr (6, [.int (x1)]))).set 40 (.inl (0, .inl ((List.replicate 34 0).set 31 (23)))))) rfl (by decide) rfl (by decide +kernel) (by decide) rfl ?_
    refine q_vret rfl rfl ?_
    refine bk_inl ?_
    refine q_iincv (v := (23 : Int32)) rfl rfl (by decide) (by decide +kernel) ?_
    refine q_goto (t := 35) rfl (by decide) ?_
    exact live_23 (by omega) h2 K
set_option maxRecDepth 100000 in
set_option maxHeartbeats 4000000 in
theorem live_21 {sc : List Int32} {x1 x2 x3 : Int32} {Q : AR → Prop} (h1 : 21 ≤ x3.toInt) (h2 : x3.toInt ≤ 48) (K : ∀ D : Nat, Q (.inl none, ((w1.set 9 (.inr (6, [.int (x1)]))).set 40 (.inl (0, .inl ((List.replicate 34 0).set 31 (Int32.ofNat D))))), 0, 0)) : Wp sc 97 77 35 [(8, .int 21), (7, .int 0), (6, .int 0), (5, .int 0), (0, .ref 9), (1, .ref 39), (2, .int (x1)), (3, .int (x2)), (4, .int (x3))] [] ((w1.set 9 (.inr (6, [.int (x1)]))).set 40 (.inl (0, .inl ((List.replicate 34 0).set 31 (21))))) 0 0 Q := by
  refine q_iload rfl rfl ?_
  refine q_iload rfl rfl ?_
  by_cases h101 : (x3).toInt ≤ 21
  · refine q_ic_ge_t (t := 159) rfl (by decide) (i_le_r (a := (21 : Int)) (b := (x3).toInt) (by decide +kernel) rfl (by omega)) ?_
    obtain rfl : x3 = (21 : Int32) := i_eq (a := (x3).toInt) (b := 21) rfl (by decide +kernel) (by omega)
    refine q_vret rfl rfl ?_
    exact K 21
  · refine q_ic_ge_f (t := 159) rfl (by decide) (i_nle_r (a := (21 : Int)) (b := (x3).toInt) (by decide +kernel) rfl (by omega)) ?_
    refine q_iload rfl rfl ?_
    refine q_if_le_t (t := 73) rfl (by decide) (i_le (a := (0 : Int)) (b := (0 : Int)) (by decide +kernel) (by decide +kernel) (by omega)) ?_
    refine q_iload rfl rfl ?_
    refine q_iconstv (v := (3 : Int32)) rfl (by decide +kernel) ?_
    refine q_ic_lt_t (t := 133) rfl (by decide) (i_lt (a := (0 : Int)) (b := (3 : Int)) (by decide +kernel) (by decide +kernel) (by omega)) ?_
    refine q_iload rfl rfl ?_
    refine q_if_le_t (t := 149) rfl (by decide) (i_le (a := (0 : Int)) (b := (0 : Int)) (by decide +kernel) (by decide +kernel) (by omega)) ?_
    refine q_aload_n rfl rfl ?_
    refine q_call rfl rfl rfl rfl ?_
    refine q_iconstv (v := (0 : Int32)) rfl (by decide +kernel) ?_
    refine q_istore_n rfl (by decide) ?_
    refine q_iload_n rfl rfl ?_
    refine q_aload_n rfl rfl ?_
    refine q_get rfl rfl rfl rfl ?_
    refine q_get rfl rfl rfl rfl ?_
    refine q_ic_ge_t (t := 40) rfl (by decide) (i_le_r (a := (0 : Int)) (b := (0 : Int)) (by decide +kernel) (by decide +kernel) (by omega)) ?_
    refine q_aload_n rfl rfl ?_
    refine q_get rfl rfl rfl rfl ?_
    refine q_bipushv (v := (31 : Int32)) rfl (by decide +kernel) ?_
    refine q_dup2 rfl ⟨rfl, rfl⟩ ?_
    refine q_ialoadv (m := 31) rfl (by decide) (by decide) rfl (by decide +kernel) rfl ?_
    refine q_iconstv (v := (1 : Int32)) rfl (by decide +kernel) ?_
    refine q_iaddv (v := (22 : Int32)) rfl (by decide +kernel) ?_
    refine q_iastorev (m := 31) (w9 := ((w1.set 9 (.inr (6, [.int (x1)]))).set 40 (.inl (0, .inl ((List.replicate 34 0).set 31 (22)))))) rfl (by decide) rfl (by decide +kernel) (by decide) rfl ?_
    refine q_vret rfl rfl ?_
    refine bk_inl ?_
    refine q_iincv (v := (22 : Int32)) rfl rfl (by decide) (by decide +kernel) ?_
    refine q_goto (t := 35) rfl (by decide) ?_
    exact live_22 (by omega) h2 K
set_option maxRecDepth 100000 in
set_option maxHeartbeats 4000000 in
theorem live_20 {sc : List Int32} {x1 x2 x3 : Int32} {Q : AR → Prop} (h1 : 20 ≤ x3.toInt) (h2 : x3.toInt ≤ 48) (K : ∀ D : Nat, Q (.inl none, ((w1.set 9 (.inr (6, [.int (x1)]))).set 40 (.inl (0, .inl ((List.replicate 34 0).set 31 (Int32.ofNat D))))), 0, 0)) : Wp sc 97 77 35 [(8, .int 20), (7, .int 0), (6, .int 0), (5, .int 0), (0, .ref 9), (1, .ref 39), (2, .int (x1)), (3, .int (x2)), (4, .int (x3))] [] ((w1.set 9 (.inr (6, [.int (x1)]))).set 40 (.inl (0, .inl ((List.replicate 34 0).set 31 (20))))) 0 0 Q := by
  refine q_iload rfl rfl ?_
  refine q_iload rfl rfl ?_
  by_cases h101 : (x3).toInt ≤ 20
  · refine q_ic_ge_t (t := 159) rfl (by decide) (i_le_r (a := (20 : Int)) (b := (x3).toInt) (by decide +kernel) rfl (by omega)) ?_
    obtain rfl : x3 = (20 : Int32) := i_eq (a := (x3).toInt) (b := 20) rfl (by decide +kernel) (by omega)
    refine q_vret rfl rfl ?_
    exact K 20
  · refine q_ic_ge_f (t := 159) rfl (by decide) (i_nle_r (a := (20 : Int)) (b := (x3).toInt) (by decide +kernel) rfl (by omega)) ?_
    refine q_iload rfl rfl ?_
    refine q_if_le_t (t := 73) rfl (by decide) (i_le (a := (0 : Int)) (b := (0 : Int)) (by decide +kernel) (by decide +kernel) (by omega)) ?_
    refine q_iload rfl rfl ?_
    refine q_iconstv (v := (3 : Int32)) rfl (by decide +kernel) ?_
    refine q_ic_lt_t (t := 133) rfl (by decide) (i_lt (a := (0 : Int)) (b := (3 : Int)) (by decide +kernel) (by decide +kernel) (by omega)) ?_
    refine q_iload rfl rfl ?_
    refine q_if_le_t (t := 149) rfl (by decide) (i_le (a := (0 : Int)) (b := (0 : Int)) (by decide +kernel) (by decide +kernel) (by omega)) ?_
    refine q_aload_n rfl rfl ?_
    refine q_call rfl rfl rfl rfl ?_
    refine q_iconstv (v := (0 : Int32)) rfl (by decide +kernel) ?_
    refine q_istore_n rfl (by decide) ?_
    refine q_iload_n rfl rfl ?_
    refine q_aload_n rfl rfl ?_
    refine q_get rfl rfl rfl rfl ?_
    refine q_get rfl rfl rfl rfl ?_
    refine q_ic_ge_t (t := 40) rfl (by decide) (i_le_r (a := (0 : Int)) (b := (0 : Int)) (by decide +kernel) (by decide +kernel) (by omega)) ?_
    refine q_aload_n rfl rfl ?_
    refine q_get rfl rfl rfl rfl ?_
    refine q_bipushv (v := (31 : Int32)) rfl (by decide +kernel) ?_
    refine q_dup2 rfl ⟨rfl, rfl⟩ ?_
    refine q_ialoadv (m := 31) rfl (by decide) (by decide) rfl (by decide +kernel) rfl ?_
    refine q_iconstv (v := (1 : Int32)) rfl (by decide +kernel) ?_
    refine q_iaddv (v := (21 : Int32)) rfl (by decide +kernel) ?_
    refine q_iastorev (m := 31) (w9 := ((w1.set 9 (.inr (6, [.int (x1)]))).set 40 (.inl (0, .inl ((List.replicate 34 0).set 31 (21)))))) rfl (by decide) rfl (by decide +kernel) (by decide) rfl ?_
    refine q_vret rfl rfl ?_
    refine bk_inl ?_
    refine q_iincv (v := (21 : Int32)) rfl rfl (by decide) (by decide +kernel) ?_
    refine q_goto (t := 35) rfl (by decide) ?_
    exact live_21 (by omega) h2 K
set_option maxRecDepth 100000 in
set_option maxHeartbeats 4000000 in
theorem live_19 {sc : List Int32} {x1 x2 x3 : Int32} {Q : AR → Prop} (h1 : 19 ≤ x3.toInt) (h2 : x3.toInt ≤ 48) (K : ∀ D : Nat, Q (.inl none, ((w1.set 9 (.inr (6, [.int (x1)]))).set 40 (.inl (0, .inl ((List.replicate 34 0).set 31 (Int32.ofNat D))))), 0, 0)) : Wp sc 97 77 35 [(8, .int 19), (7, .int 0), (6, .int 0), (5, .int 0), (0, .ref 9), (1, .ref 39), (2, .int (x1)), (3, .int (x2)), (4, .int (x3))] [] ((w1.set 9 (.inr (6, [.int (x1)]))).set 40 (.inl (0, .inl ((List.replicate 34 0).set 31 (19))))) 0 0 Q := by
  refine q_iload rfl rfl ?_
  refine q_iload rfl rfl ?_
  by_cases h101 : (x3).toInt ≤ 19
  · refine q_ic_ge_t (t := 159) rfl (by decide) (i_le_r (a := (19 : Int)) (b := (x3).toInt) (by decide +kernel) rfl (by omega)) ?_
    obtain rfl : x3 = (19 : Int32) := i_eq (a := (x3).toInt) (b := 19) rfl (by decide +kernel) (by omega)
    refine q_vret rfl rfl ?_
    exact K 19
  · refine q_ic_ge_f (t := 159) rfl (by decide) (i_nle_r (a := (19 : Int)) (b := (x3).toInt) (by decide +kernel) rfl (by omega)) ?_
    refine q_iload rfl rfl ?_
    refine q_if_le_t (t := 73) rfl (by decide) (i_le (a := (0 : Int)) (b := (0 : Int)) (by decide +kernel) (by decide +kernel) (by omega)) ?_
    refine q_iload rfl rfl ?_
    refine q_iconstv (v := (3 : Int32)) rfl (by decide +kernel) ?_
    refine q_ic_lt_t (t := 133) rfl (by decide) (i_lt (a := (0 : Int)) (b := (3 : Int)) (by decide +kernel) (by decide +kernel) (by omega)) ?_
    refine q_iload rfl rfl ?_
    refine q_if_le_t (t := 149) rfl (by decide) (i_le (a := (0 : Int)) (b := (0 : Int)) (by decide +kernel) (by decide +kernel) (by omega)) ?_
    refine q_aload_n rfl rfl ?_
    refine q_call rfl rfl rfl rfl ?_
    refine q_iconstv (v := (0 : Int32)) rfl (by decide +kernel) ?_
    refine q_istore_n rfl (by decide) ?_
    refine q_iload_n rfl rfl ?_
    refine q_aload_n rfl rfl ?_
    refine q_get rfl rfl rfl rfl ?_
    refine q_get rfl rfl rfl rfl ?_
    refine q_ic_ge_t (t := 40) rfl (by decide) (i_le_r (a := (0 : Int)) (b := (0 : Int)) (by decide +kernel) (by decide +kernel) (by omega)) ?_
    refine q_aload_n rfl rfl ?_
    refine q_get rfl rfl rfl rfl ?_
    refine q_bipushv (v := (31 : Int32)) rfl (by decide +kernel) ?_
    refine q_dup2 rfl ⟨rfl, rfl⟩ ?_
    refine q_ialoadv (m := 31) rfl (by decide) (by decide) rfl (by decide +kernel) rfl ?_
    refine q_iconstv (v := (1 : Int32)) rfl (by decide +kernel) ?_
    refine q_iaddv (v := (20 : Int32)) rfl (by decide +kernel) ?_
    refine q_iastorev (m := 31) (w9 := ((w1.set 9 (.inr (6, [.int (x1)]))).set 40 (.inl (0, .inl ((List.replicate 34 0).set 31 (20)))))) rfl (by decide) rfl (by decide +kernel) (by decide) rfl ?_
    refine q_vret rfl rfl ?_
    refine bk_inl ?_
    refine q_iincv (v := (20 : Int32)) rfl rfl (by decide) (by decide +kernel) ?_
    refine q_goto (t := 35) rfl (by decide) ?_
    exact live_20 (by omega) h2 K
set_option maxRecDepth 100000 in
set_option maxHeartbeats 4000000 in
theorem live_18 {sc : List Int32} {x1 x2 x3 : Int32} {Q : AR → Prop} (h1 : 18 ≤ x3.toInt) (h2 : x3.toInt ≤ 48) (K : ∀ D : Nat, Q (.inl none, ((w1.set 9 (.inr (6, [.int (x1)]))).set 40 (.inl (0, .inl ((List.replicate 34 0).set 31 (Int32.ofNat D))))), 0, 0)) : Wp sc 97 77 35 [(8, .int 18), (7, .int 0), (6, .int 0), (5, .int 0), (0, .ref 9), (1, .ref 39), (2, .int (x1)), (3, .int (x2)), (4, .int (x3))] [] ((w1.set 9 (.inr (6, [.int (x1)]))).set 40 (.inl (0, .inl ((List.replicate 34 0).set 31 (18))))) 0 0 Q := by
  refine q_iload rfl rfl ?_
  refine q_iload rfl rfl ?_
  by_cases h101 : (x3).toInt ≤ 18
  · refine q_ic_ge_t (t := 159) rfl (by decide) (i_le_r (a := (18 : Int)) (b := (x3).toInt) (by decide +kernel) rfl (by omega)) ?_
    obtain rfl : x3 = (18 : Int32) := i_eq (a := (x3).toInt) (b := 18) rfl (by decide +kernel) (by omega)
    refine q_vret rfl rfl ?_
    exact K 18
  · refine q_ic_ge_f (t := 159) rfl (by decide) (i_nle_r (a := (18 : Int)) (b := (x3).toInt) (by decide +kernel) rfl (by omega)) ?_
    refine q_iload rfl rfl ?_
    refine q_if_le_t (t := 73) rfl (by decide) (i_le (a := (0 : Int)) (b := (0 : Int)) (by decide +kernel) (by decide +kernel) (by omega)) ?_
    refine q_iload rfl rfl ?_
    refine q_iconstv (v := (3 : Int32)) rfl (by decide +kernel) ?_
    refine q_ic_lt_t (t := 133) rfl (by decide) (i_lt (a := (0 : Int)) (b := (3 : Int)) (by decide +kernel) (by decide +kernel) (by omega)) ?_
    refine q_iload rfl rfl ?_
    refine q_if_le_t (t := 149) rfl (by decide) (i_le (a := (0 : Int)) (b := (0 : Int)) (by decide +kernel) (by decide +kernel) (by omega)) ?_
    refine q_aload_n rfl rfl ?_
    refine q_call rfl rfl rfl rfl ?_
    refine q_iconstv (v := (0 : Int32)) rfl (by decide +kernel) ?_
    refine q_istore_n rfl (by decide) ?_
    refine q_iload_n rfl rfl ?_
    refine q_aload_n rfl rfl ?_
    refine q_get rfl rfl rfl rfl ?_
    refine q_get rfl rfl rfl rfl ?_
    refine q_ic_ge_t (t := 40) rfl (by decide) (i_le_r (a := (0 : Int)) (b := (0 : Int)) (by decide +kernel) (by decide +kernel) (by omega)) ?_
    refine q_aload_n rfl rfl ?_
    refine q_get rfl rfl rfl rfl ?_
    refine q_bipushv (v := (31 : Int32)) rfl (by decide +kernel) ?_
    refine q_dup2 rfl ⟨rfl, rfl⟩ ?_
    refine q_ialoadv (m := 31) rfl (by decide) (by decide) rfl (by decide +kernel) rfl ?_
    refine q_iconstv (v := (1 : Int32)) rfl (by decide +kernel) ?_
    refine q_iaddv (v := (19 : Int32)) rfl (by decide +kernel) ?_
    refine q_iastorev (m := 31) (w9 := ((w1.set 9 (.inr (6, [.int (x1)]))).set 40 (.inl (0, .inl ((List.replicate 34 0).set 31 (19)))))) rfl (by decide) rfl (by decide +kernel) (by decide) rfl ?_
    refine q_vret rfl rfl ?_
    refine bk_inl ?_
    refine q_iincv (v := (19 : Int32)) rfl rfl (by decide) (by decide +kernel) ?_
    refine q_goto (t := 35) rfl (by decide) ?_
    exact live_19 (by omega) h2 K
set_option maxRecDepth 100000 in
set_option maxHeartbeats 4000000 in
theorem live_17 {sc : List Int32} {x1 x2 x3 : Int32} {Q : AR → Prop} (h1 : 17 ≤ x3.toInt) (h2 : x3.toInt ≤ 48) (K : ∀ D : Nat, Q (.inl none, ((w1.set 9 (.inr (6, [.int (x1)]))).set 40 (.inl (0, .inl ((List.replicate 34 0).set 31 (Int32.ofNat D))))), 0, 0)) : Wp sc 97 77 35 [(8, .int 17), (7, .int 0), (6, .int 0), (5, .int 0), (0, .ref 9), (1, .ref 39), (2, .int (x1)), (3, .int (x2)), (4, .int (x3))] [] ((w1.set 9 (.inr (6, [.int (x1)]))).set 40 (.inl (0, .inl ((List.replicate 34 0).set 31 (17))))) 0 0 Q := by
  refine q_iload rfl rfl ?_
  refine q_iload rfl rfl ?_
  by_cases h101 : (x3).toInt ≤ 17
  · refine q_ic_ge_t (t := 159) rfl (by decide) (i_le_r (a := (17 : Int)) (b := (x3).toInt) (by decide +kernel) rfl (by omega)) ?_
    obtain rfl : x3 = (17 : Int32) := i_eq (a := (x3).toInt) (b := 17) rfl (by decide +kernel) (by omega)
    refine q_vret rfl rfl ?_
    exact K 17
  · refine q_ic_ge_f (t := 159) rfl (by decide) (i_nle_r (a := (17 : Int)) (b := (x3).toInt) (by decide +kernel) rfl (by omega)) ?_
    refine q_iload rfl rfl ?_
    refine q_if_le_t (t := 73) rfl (by decide) (i_le (a := (0 : Int)) (b := (0 : Int)) (by decide +kernel) (by decide +kernel) (by omega)) ?_
    refine q_iload rfl rfl ?_
    refine q_iconstv (v := (3 : Int32)) rfl (by decide +kernel) ?_
    refine q_ic_lt_t (t := 133) rfl (by decide) (i_lt (a := (0 : Int)) (b := (3 : Int)) (by decide +kernel) (by decide +kernel) (by omega)) ?_
    refine q_iload rfl rfl ?_
    refine q_if_le_t (t := 149) rfl (by decide) (i_le (a := (0 : Int)) (b := (0 : Int)) (by decide +kernel) (by decide +kernel) (by omega)) ?_
    refine q_aload_n rfl rfl ?_
    refine q_call rfl rfl rfl rfl ?_
    refine q_iconstv (v := (0 : Int32)) rfl (by decide +kernel) ?_
    refine q_istore_n rfl (by decide) ?_
    refine q_iload_n rfl rfl ?_
    refine q_aload_n rfl rfl ?_
    refine q_get rfl rfl rfl rfl ?_
    refine q_get rfl rfl rfl rfl ?_
    refine q_ic_ge_t (t := 40) rfl (by decide) (i_le_r (a := (0 : Int)) (b := (0 : Int)) (by decide +kernel) (by decide +kernel) (by omega)) ?_
    refine q_aload_n rfl rfl ?_
    refine q_get rfl rfl rfl rfl ?_
    refine q_bipushv (v := (31 : Int32)) rfl (by decide +kernel) ?_
    refine q_dup2 rfl ⟨rfl, rfl⟩ ?_
    refine q_ialoadv (m := 31) rfl (by decide) (by decide) rfl (by decide +kernel) rfl ?_
    refine q_iconstv (v := (1 : Int32)) rfl (by decide +kernel) ?_
    refine q_iaddv (v := (18 : Int32)) rfl (by decide +kernel) ?_
    refine q_iastorev (m := 31) (w9 := ((w1.set 9 (.inr (6, [.int (x1)]))).set 40 (.inl (0, .inl ((List.replicate 34 0).set 31 (18)))))) rfl (by decide) rfl (by decide +kernel) (by decide) rfl ?_
    refine q_vret rfl rfl ?_
    refine bk_inl ?_
    refine q_iincv (v := (18 : Int32)) rfl rfl (by decide) (by decide +kernel) ?_
    refine q_goto (t := 35) rfl (by decide) ?_
    exact live_18 (by omega) h2 K
set_option maxRecDepth 100000 in
set_option maxHeartbeats 4000000 in
theorem live_16 {sc : List Int32} {x1 x2 x3 : Int32} {Q : AR → Prop} (h1 : 16 ≤ x3.toInt) (h2 : x3.toInt ≤ 48) (K : ∀ D : Nat, Q (.inl none, ((w1.set 9 (.inr (6, [.int (x1)]))).set 40 (.inl (0, .inl ((List.replicate 34 0).set 31 (Int32.ofNat D))))), 0, 0)) : Wp sc 97 77 35 [(8, .int 16), (7, .int 0), (6, .int 0), (5, .int 0), (0, .ref 9), (1, .ref 39), (2, .int (x1)), (3, .int (x2)), (4, .int (x3))] [] ((w1.set 9 (.inr (6, [.int (x1)]))).set 40 (.inl (0, .inl ((List.replicate 34 0).set 31 (16))))) 0 0 Q := by
  refine q_iload rfl rfl ?_
  refine q_iload rfl rfl ?_
  by_cases h101 : (x3).toInt ≤ 16
  · refine q_ic_ge_t (t := 159) rfl (by decide) (i_le_r (a := (16 : Int)) (b := (x3).toInt) (by decide +kernel) rfl (by omega)) ?_
    obtain rfl : x3 = (16 : Int32) := i_eq (a := (x3).toInt) (b := 16) rfl (by decide +kernel) (by omega)
    refine q_vret rfl rfl ?_
    exact K 16
  · refine q_ic_ge_f (t := 159) rfl (by decide) (i_nle_r (a := (16 : Int)) (b := (x3).toInt) (by decide +kernel) rfl (by omega)) ?_
    refine q_iload rfl rfl ?_
    refine q_if_le_t (t := 73) rfl (by decide) (i_le (a := (0 : Int)) (b := (0 : Int)) (by decide +kernel) (by decide +kernel) (by omega)) ?_
    refine q_iload rfl rfl ?_
    refine q_iconstv (v := (3 : Int32)) rfl (by decide +kernel) ?_
    refine q_ic_lt_t (t := 133) rfl (by decide) (i_lt (a := (0 : Int)) (b := (3 : Int)) (by decide +kernel) (by decide +kernel) (by omega)) ?_
    refine q_iload rfl rfl ?_
    refine q_if_le_t (t := 149) rfl (by decide) (i_le (a := (0 : Int)) (b := (0 : Int)) (by decide +kernel) (by decide +kernel) (by omega)) ?_
    refine q_aload_n rfl rfl ?_
    refine q_call rfl rfl rfl rfl ?_
    refine q_iconstv (v := (0 : Int32)) rfl (by decide +kernel) ?_
    refine q_istore_n rfl (by decide) ?_
    refine q_iload_n rfl rfl ?_
    refine q_aload_n rfl rfl ?_
    refine q_get rfl rfl rfl rfl ?_
    refine q_get rfl rfl rfl rfl ?_
    refine q_ic_ge_t (t := 40) rfl (by decide) (i_le_r (a := (0 : Int)) (b := (0 : Int)) (by decide +kernel) (by decide +kernel) (by omega)) ?_
    refine q_aload_n rfl rfl ?_
    refine q_get rfl rfl rfl rfl ?_
    refine q_bipushv (v := (31 : Int32)) rfl (by decide +kernel) ?_
    refine q_dup2 rfl ⟨rfl, rfl⟩ ?_
    refine q_ialoadv (m := 31) rfl (by decide) (by decide) rfl (by decide +kernel) rfl ?_
    refine q_iconstv (v := (1 : Int32)) rfl (by decide +kernel) ?_
    refine q_iaddv (v := (17 : Int32)) rfl (by decide +kernel) ?_
    refine q_iastorev (m := 31) (w9 := ((w1.set 9 (.inr (6, [.int (x1)]))).set 40 (.inl (0, .inl ((List.replicate 34 0).set 31 (17)))))) rfl (by decide) rfl (by decide +kernel) (by decide) rfl ?_
    refine q_vret rfl rfl ?_
    refine bk_inl ?_
    refine q_iincv (v := (17 : Int32)) rfl rfl (by decide) (by decide +kernel) ?_
    refine q_goto (t := 35) rfl (by decide) ?_
    exact live_17 (by omega) h2 K
set_option maxRecDepth 100000 in
set_option maxHeartbeats 4000000 in
theorem live_15 {sc : List Int32} {x1 x2 x3 : Int32} {Q : AR → Prop} (h1 : 15 ≤ x3.toInt) (h2 : x3.toInt ≤ 48) (K : ∀ D : Nat, Q (.inl none, ((w1.set 9 (.inr (6, [.int (x1)]))).set 40 (.inl (0, .inl ((List.replicate 34 0).set 31 (Int32.ofNat D))))), 0, 0)) : Wp sc 97 77 35 [(8, .int 15), (7, .int 0), (6, .int 0), (5, .int 0), (0, .ref 9), (1, .ref 39), (2, .int (x1)), (3, .int (x2)), (4, .int (x3))] [] ((w1.set 9 (.inr (6, [.int (x1)]))).set 40 (.inl (0, .inl ((List.replicate 34 0).set 31 (15))))) 0 0 Q := by
  refine q_iload rfl rfl ?_
  refine q_iload rfl rfl ?_
  by_cases h101 : (x3).toInt ≤ 15
  · refine q_ic_ge_t (t := 159) rfl (by decide) (i_le_r (a := (15 : Int)) (b := (x3).toInt) (by decide +kernel) rfl (by omega)) ?_
    obtain rfl : x3 = (15 : Int32) := i_eq (a := (x3).toInt) (b := 15) rfl (by decide +kernel) (by omega)
    refine q_vret rfl rfl ?_
    exact K 15
  · refine q_ic_ge_f (t := 159) rfl (by decide) (i_nle_r (a := (15 : Int)) (b := (x3).toInt) (by decide +kernel) rfl (by omega)) ?_
    refine q_iload rfl rfl ?_
    refine q_if_le_t (t := 73) rfl (by decide) (i_le (a := (0 : Int)) (b := (0 : Int)) (by decide +kernel) (by decide +kernel) (by omega)) ?_
    refine q_iload rfl rfl ?_
    refine q_iconstv (v := (3 : Int32)) rfl (by decide +kernel) ?_
    refine q_ic_lt_t (t := 133) rfl (by decide) (i_lt (a := (0 : Int)) (b := (3 : Int)) (by decide +kernel) (by decide +kernel) (by omega)) ?_
    refine q_iload rfl rfl ?_
    refine q_if_le_t (t := 149) rfl (by decide) (i_le (a := (0 : Int)) (b := (0 : Int)) (by decide +kernel) (by decide +kernel) (by omega)) ?_
    refine q_aload_n rfl rfl ?_
    refine q_call rfl rfl rfl rfl ?_
    refine q_iconstv (v := (0 : Int32)) rfl (by decide +kernel) ?_
    refine q_istore_n rfl (by decide) ?_
    refine q_iload_n rfl rfl ?_
    refine q_aload_n rfl rfl ?_
    refine q_get rfl rfl rfl rfl ?_
    refine q_get rfl rfl rfl rfl ?_
    refine q_ic_ge_t (t := 40) rfl (by decide) (i_le_r (a := (0 : Int)) (b := (0 : Int)) (by decide +kernel) (by decide +kernel) (by omega)) ?_
    refine q_aload_n rfl rfl ?_
    refine q_get rfl rfl rfl rfl ?_
    refine q_bipushv (v := (31 : Int32)) rfl (by decide +kernel) ?_
    refine q_dup2 rfl ⟨rfl, rfl⟩ ?_
    refine q_ialoadv (m := 31) rfl (by decide) (by decide) rfl (by decide +kernel) rfl ?_
    refine q_iconstv (v := (1 : Int32)) rfl (by decide +kernel) ?_
    refine q_iaddv (v := (16 : Int32)) rfl (by decide +kernel) ?_
    refine q_iastorev (m := 31) (w9 := ((w1.set 9 (.inr (6, [.int (x1)]))).set 40 (.inl (0, .inl ((List.replicate 34 0).set 31 (16)))))) rfl (by decide) rfl (by decide +kernel) (by decide) rfl ?_
    refine q_vret rfl rfl ?_
    refine bk_inl ?_
    refine q_iincv (v := (16 : Int32)) rfl rfl (by decide) (by decide +kernel) ?_
    refine q_goto (t := 35) rfl (by decide) ?_
    exact live_16 (by omega) h2 K
set_option maxRecDepth 100000 in
set_option maxHeartbeats 4000000 in
theorem live_14 {sc : List Int32} {x1 x2 x3 : Int32} {Q : AR → Prop} (h1 : 14 ≤ x3.toInt) (h2 : x3.toInt ≤ 48) (K : ∀ D : Nat, Q (.inl none, ((w1.set 9 (.inr (6, [.int (x1)]))).set 40 (.inl (0, .inl ((List.replicate 34 0).set 31 (Int32.ofNat D))))), 0, 0)) : Wp sc 97 77 35 [(8, .int 14), (7, .int 0), (6, .int 0), (5, .int 0), (0, .ref 9), (1, .ref 39), (2, .int (x1)), (3, .int (x2)), (4, .int (x3))] [] ((w1.set 9 (.inr (6, [.int (x1)]))).set 40 (.inl (0, .inl ((List.replicate 34 0).set 31 (14))))) 0 0 Q := by
  refine q_iload rfl rfl ?_
  refine q_iload rfl rfl ?_
  by_cases h101 : (x3).toInt ≤ 14
  · refine q_ic_ge_t (t := 159) rfl (by decide) (i_le_r (a := (14 : Int)) (b := (x3).toInt) (by decide +kernel) rfl (by omega)) ?_
    obtain rfl : x3 = (14 : Int32) := i_eq (a := (x3).toInt) (b := 14) rfl (by decide +kernel) (by omega)
    refine q_vret rfl rfl ?_
    exact K 14
  · refine q_ic_ge_f (t := 159) rfl (by decide) (i_nle_r (a := (14 : Int)) (b := (x3).toInt) (by decide +kernel) rfl (by omega)) ?_
    refine q_iload rfl rfl ?_
    refine q_if_le_t (t := 73) rfl (by decide) (i_le (a := (0 : Int)) (b := (0 : Int)) (by decide +kernel) (by decide +kernel) (by omega)) ?_
    refine q_iload rfl rfl ?_
    refine q_iconstv (v := (3 : Int32)) rfl (by decide +kernel) ?_
    refine q_ic_lt_t (t := 133) rfl (by decide) (i_lt (a := (0 : Int)) (b := (3 : Int)) (by decide +kernel) (by decide +kernel) (by omega)) ?_
    refine q_iload rfl rfl ?_
    refine q_if_le_t (t := 149) rfl (by decide) (i_le (a := (0 : Int)) (b := (0 : Int)) (by decide +kernel) (by decide +kernel) (by omega)) ?_
    refine q_aload_n rfl rfl ?_
    refine q_call rfl rfl rfl rfl ?_
    refine q_iconstv (v := (0 : Int32)) rfl (by decide +kernel) ?_
    refine q_istore_n rfl (by decide) ?_
    refine q_iload_n rfl rfl ?_
    refine q_aload_n rfl rfl ?_
    refine q_get rfl rfl rfl rfl ?_
    refine q_get rfl rfl rfl rfl ?_
    refine q_ic_ge_t (t := 40) rfl (by decide) (i_le_r (a := (0 : Int)) (b := (0 : Int)) (by decide +kernel) (by decide +kernel) (by omega)) ?_
    refine q_aload_n rfl rfl ?_
    refine q_get rfl rfl rfl rfl ?_
    refine q_bipushv (v := (31 : Int32)) rfl (by decide +kernel) ?_
    refine q_dup2 rfl ⟨rfl, rfl⟩ ?_
    refine q_ialoadv (m := 31) rfl (by decide) (by decide) rfl (by decide +kernel) rfl ?_
    refine q_iconstv (v := (1 : Int32)) rfl (by decide +kernel) ?_
    refine q_iaddv (v := (15 : Int32)) rfl (by decide +kernel) ?_
    refine q_iastorev (m := 31) (w9 := ((w1.set 9 (.inr (6, [.int (x1)]))).set 40 (.inl (0, .inl ((List.replicate 34 0).set 31 (15)))))) rfl (by decide) rfl (by decide +kernel) (by decide) rfl ?_
    refine q_vret rfl rfl ?_
    refine bk_inl ?_
    refine q_iincv (v := (15 : Int32)) rfl rfl (by decide) (by decide +kernel) ?_
    refine q_goto (t := 35) rfl (by decide) ?_
    exact live_15 (by omega) h2 K
set_option maxRecDepth 100000 in
set_option maxHeartbeats 4000000 in
theorem live_13 {sc : List Int32} {x1 x2 x3 : Int32} {Q : AR → Prop} (h1 : 13 ≤ x3.toInt) (h2 : x3.toInt ≤ 48) (K : ∀ D : Nat, Q (.inl none, ((w1.set 9 (.inr (6, [.int (x1)]))).set 40 (.inl (0, .inl ((List.replicate 34 0).set 31 (Int32.ofNat D))))), 0, 0)) : Wp sc 97 77 35 [(8, .int 13), (7, .int 0), (6, .int 0), (5, .int 0), (0, .ref 9), (1, .ref 39), (2, .int (x1)), (3, .int (x2)), (4, .int (x3))] [] ((w1.set 9 (.inr (6, [.int (x1)]))).set 40 (.inl (0, .inl ((List.replicate 34 0).set 31 (13))))) 0 0 Q := by
  refine q_iload rfl rfl ?_
  refine q_iload rfl rfl ?_
  by_cases h101 : (x3).toInt ≤ 13
  · refine q_ic_ge_t (t := 159) rfl (by decide) (i_le_r (a := (13 : Int)) (b := (x3).toInt) (by decide +kernel) rfl (by omega)) ?_
    obtain rfl : x3 = (13 : Int32) := i_eq (a := (x3).toInt) (b := 13) rfl (by decide +kernel) (by omega)
    refine q_vret rfl rfl ?_
    exact K 13
  · refine q_ic_ge_f (t := 159) rfl (by decide) (i_nle_r (a := (13 : Int)) (b := (x3).toInt) (by decide +kernel) rfl (by omega)) ?_
    refine q_iload rfl rfl ?_
    refine q_if_le_t (t := 73) rfl (by decide) (i_le (a := (0 : Int)) (b := (0 : Int)) (by decide +kernel) (by decide +kernel) (by omega)) ?_
    refine q_iload rfl rfl ?_
    refine q_iconstv (v := (3 : Int32)) rfl (by decide +kernel) ?_
    refine q_ic_lt_t (t := 133) rfl (by decide) (i_lt (a := (0 : Int)) (b := (3 : Int)) (by decide +kernel) (by decide +kernel) (by omega)) ?_
    refine q_iload rfl rfl ?_
    refine q_if_le_t (t := 149) rfl (by decide) (i_le (a := (0 : Int)) (b := (0 : Int)) (by decide +kernel) (by decide +kernel) (by omega)) ?_
    refine q_aload_n rfl rfl ?_
    refine q_call rfl rfl rfl rfl ?_
    refine q_iconstv (v := (0 : Int32)) rfl (by decide +kernel) ?_
    refine q_istore_n rfl (by decide) ?_
    refine q_iload_n rfl rfl ?_
    refine q_aload_n rfl rfl ?_
    refine q_get rfl rfl rfl rfl ?_
    refine q_get rfl rfl rfl rfl ?_
    refine q_ic_ge_t (t := 40) rfl (by decide) (i_le_r (a := (0 : Int)) (b := (0 : Int)) (by decide +kernel) (by decide +kernel) (by omega)) ?_
    refine q_aload_n rfl rfl ?_
    refine q_get rfl rfl rfl rfl ?_
    refine q_bipushv (v := (31 : Int32)) rfl (by decide +kernel) ?_
    refine q_dup2 rfl ⟨rfl, rfl⟩ ?_
    refine q_ialoadv (m := 31) rfl (by decide) (by decide) rfl (by decide +kernel) rfl ?_
    refine q_iconstv (v := (1 : Int32)) rfl (by decide +kernel) ?_
    refine q_iaddv (v := (14 : Int32)) rfl (by decide +kernel) ?_
    refine q_iastorev (m := 31) (w9 := ((w1.set 9 (.inr (6, [.int (x1)]))).set 40 (.inl (0, .inl ((List.replicate 34 0).set 31 (14)))))) rfl (by decide) rfl (by decide +kernel) (by decide) rfl ?_
    refine q_vret rfl rfl ?_
    refine bk_inl ?_
    refine q_iincv (v := (14 : Int32)) rfl rfl (by decide) (by decide +kernel) ?_
    refine q_goto (t := 35) rfl (by decide) ?_
    exact live_14 (by omega) h2 K
set_option maxRecDepth 100000 in
set_option maxHeartbeats 4000000 in
theorem live_12 {sc : List Int32} {x1 x2 x3 : Int32} {Q : AR → Prop} (h1 : 12 ≤ x3.toInt) (h2 : x3.toInt ≤ 48) (K : ∀ D : Nat, Q (.inl none, ((w1.set 9 (.inr (6, [.int (x1)]))).set 40 (.inl (0, .inl ((List.replicate 34 0).set 31 (Int32.ofNat D))))), 0, 0)) : Wp sc 97 77 35 [(8, .int 12), (7, .int 0), (6, .int 0), (5, .int 0), (0, .ref 9), (1, .ref 39), (2, .int (x1)), (3, .int (x2)), (4, .int (x3))] [] ((w1.set 9 (.inr (6, [.int (x1)]))).set 40 (.inl (0, .inl ((List.replicate 34 0).set 31 (12))))) 0 0 Q := by
  refine q_iload rfl rfl ?_
  refine q_iload rfl rfl ?_
  by_cases h101 : (x3).toInt ≤ 12
  · refine q_ic_ge_t (t := 159) rfl (by decide) (i_le_r (a := (12 : Int)) (b := (x3).toInt) (by decide +kernel) rfl (by omega)) ?_
    obtain rfl : x3 = (12 : Int32) := i_eq (a := (x3).toInt) (b := 12) rfl (by decide +kernel) (by omega)
    refine q_vret rfl rfl ?_
    exact K 12
  · refine q_ic_ge_f (t := 159) rfl (by decide) (i_nle_r (a := (12 : Int)) (b := (x3).toInt) (by decide +kernel) rfl (by omega)) ?_
    refine q_iload rfl rfl ?_
    refine q_if_le_t (t := 73) rfl (by decide) (i_le (a := (0 : Int)) (b := (0 : Int)) (by decide +kernel) (by decide +kernel) (by omega)) ?_
    refine q_iload rfl rfl ?_
    refine q_iconstv (v := (3 : Int32)) rfl (by decide +kernel) ?_
    refine q_ic_lt_t (t := 133) rfl (by decide) (i_lt (a := (0 : Int)) (b := (3 : Int)) (by decide +kernel) (by decide +kernel) (by omega)) ?_
    refine q_iload rfl rfl ?_
    refine q_if_le_t (t := 149) rfl (by decide) (i_le (a := (0 : Int)) (b := (0 : Int)) (by decide +kernel) (by decide +kernel) (by omega)) ?_
    refine q_aload_n rfl rfl ?_
    refine q_call rfl rfl rfl rfl ?_
    refine q_iconstv (v := (0 : Int32)) rfl (by decide +kernel) ?_
    refine q_istore_n rfl (by decide) ?_
    refine q_iload_n rfl rfl ?_
    refine q_aload_n rfl rfl ?_
    refine q_get rfl rfl rfl rfl ?_
    refine q_get rfl rfl rfl rfl ?_
    refine q_ic_ge_t (t := 40) rfl (by decide) (i_le_r (a := (0 : Int)) (b := (0 : Int)) (by decide +kernel) (by decide +kernel) (by omega)) ?_
    refine q_aload_n rfl rfl ?_
    refine q_get rfl rfl rfl rfl ?_
    refine q_bipushv (v := (31 : Int32)) rfl (by decide +kernel) ?_
    refine q_dup2 rfl ⟨rfl, rfl⟩ ?_
    refine q_ialoadv (m := 31) rfl (by decide) (by decide) rfl (by decide +kernel) rfl ?_
    refine q_iconstv (v := (1 : Int32)) rfl (by decide +kernel) ?_
    refine q_iaddv (v := (13 : Int32)) rfl (by decide +kernel) ?_
    refine q_iastorev (m := 31) (w9 := ((w1.set 9 (.inr (6, [.int (x1)]))).set 40 (.inl (0, .inl ((List.replicate 34 0).set 31 (13)))))) rfl (by decide) rfl (by decide +kernel) (by decide) rfl ?_
    refine q_vret rfl rfl ?_
    refine bk_inl ?_
    refine q_iincv (v := (13 : Int32)) rfl rfl (by decide) (by decide +kernel) ?_
    refine q_goto (t := 35) rfl (by decide) ?_
    exact live_13 (by omega) h2 K
set_option maxRecDepth 100000 in
set_option maxHeartbeats 4000000 in
theorem live_11 {sc : List Int32} {x1 x2 x3 : Int32} {Q : AR → Prop} (h1 : 11 ≤ x3.toInt) (h2 : x3.toInt ≤ 48) (K : ∀ D : Nat, Q (.inl none, ((w1.set 9 (.inr (6, [.int (x1)]))).set 40 (.inl (0, .inl ((List.replicate 34 0).set 31 (Int32.ofNat D))))), 0, 0)) : Wp sc 97 77 35 [(8, .int 11), (7, .int 0), (6, .int 0), (5, .int 0), (0, .ref 9), (1, .ref 39), (2, .int (x1)), (3, .int (x2)), (4, .int (x3))] [] ((w1.set 9 (.inr (6, [.int (x1)]))).set 40 (.inl (0, .inl ((List.replicate 34 0).set 31 (11))))) 0 0 Q := by
  refine q_iload rfl rfl ?_
  refine q_iload rfl rfl ?_
  by_cases h101 : (x3).toInt ≤ 11
  · refine q_ic_ge_t (t := 159) rfl (by decide) (i_le_r (a := (11 : Int)) (b := (x3).toInt) (by decide +kernel) rfl (by omega)) ?_
    obtain rfl : x3 = (11 : Int32) := i_eq (a := (x3).toInt) (b := 11) rfl (by decide +kernel) (by omega)
    refine q_vret rfl rfl ?_
    exact K 11
  · refine q_ic_ge_f (t := 159) rfl (by decide) (i_nle_r (a := (11 : Int)) (b := (x3).toInt) (by decide +kernel) rfl (by omega)) ?_
    refine q_iload rfl rfl ?_
    refine q_if_le_t (t := 73) rfl (by decide) (i_le (a := (0 : Int)) (b := (0 : Int)) (by decide +kernel) (by decide +kernel) (by omega)) ?_
    refine q_iload rfl rfl ?_
    refine q_iconstv (v := (3 : Int32)) rfl (by decide +kernel) ?_
    refine q_ic_lt_t (t := 133) rfl (by decide) (i_lt (a := (0 : Int)) (b := (3 : Int)) (by decide +kernel) (by decide +kernel) (by omega)) ?_
    refine q_iload rfl rfl ?_
    refine q_if_le_t (t := 149) rfl (by decide) (i_le (a := (0 : Int)) (b := (0 : Int)) (by decide +kernel) (by decide +kernel) (by omega)) ?_
    refine q_aload_n rfl rfl ?_
    refine q_call rfl rfl rfl rfl ?_
    refine q_iconstv (v := (0 : Int32)) rfl (by decide +kernel) ?_
    refine q_istore_n rfl (by decide) ?_
    refine q_iload_n rfl rfl ?_
    refine q_aload_n rfl rfl ?_
    refine q_get rfl rfl rfl rfl ?_
    refine q_get rfl rfl rfl rfl ?_
    refine q_ic_ge_t (t := 40) rfl (by decide) (i_le_r (a := (0 : Int)) (b := (0 : Int)) (by decide +kernel) (by decide +kernel) (by omega)) ?_
    refine q_aload_n rfl rfl ?_
    refine q_get rfl rfl rfl rfl ?_
    refine q_bipushv (v := (31 : Int32)) rfl (by decide +kernel) ?_
    refine q_dup2 rfl ⟨rfl, rfl⟩ ?_
    refine q_ialoadv (m := 31) rfl (by decide) (by decide) rfl (by decide +kernel) rfl ?_
    refine q_iconstv (v := (1 : Int32)) rfl (by decide +kernel) ?_
    refine q_iaddv (v := (12 : Int32)) rfl (by decide +kernel) ?_
    refine q_iastorev (m := 31) (w9 := ((w1.set 9 (.inr (6, [.int (x1)]))).set 40 (.inl (0, .inl ((List.replicate 34 0).set 31 (12)))))) rfl (by decide) rfl (by decide +kernel) (by decide) rfl ?_
    refine q_vret rfl rfl ?_
    refine bk_inl ?_
    refine q_iincv (v := (12 : Int32)) rfl rfl (by decide) (by decide +kernel) ?_
    refine q_goto (t := 35) rfl (by decide) ?_
    exact live_12 (by omega) h2 K
set_option maxRecDepth 100000 in
set_option maxHeartbeats 4000000 in
theorem live_10 {sc : List Int32} {x1 x2 x3 : Int32} {Q : AR → Prop} (h1 : 10 ≤ x3.toInt) (h2 : x3.toInt ≤ 48) (K : ∀ D : Nat, Q (.inl none, ((w1.set 9 (.inr (6, [.int (x1)]))).set 40 (.inl (0, .inl ((List.replicate 34 0).set 31 (Int32.ofNat D))))), 0, 0)) : Wp sc 97 77 35 [(8, .int 10), (7, .int 0), (6, .int 0), (5, .int 0), (0, .ref 9), (1, .ref 39), (2, .int (x1)), (3, .int (x2)), (4, .int (x3))] [] ((w1.set 9 (.inr (6, [.int (x1)]))).set 40 (.inl (0, .inl ((List.replicate 34 0).set 31 (10))))) 0 0 Q := by
  refine q_iload rfl rfl ?_
  refine q_iload rfl rfl ?_
  by_cases h101 : (x3).toInt ≤ 10
  · refine q_ic_ge_t (t := 159) rfl (by decide) (i_le_r (a := (10 : Int)) (b := (x3).toInt) (by decide +kernel) rfl (by omega)) ?_
    obtain rfl : x3 = (10 : Int32) := i_eq (a := (x3).toInt) (b := 10) rfl (by decide +kernel) (by omega)
    refine q_vret rfl rfl ?_
    exact K 10
  · refine q_ic_ge_f (t := 159) rfl (by decide) (i_nle_r (a := (10 : Int)) (b := (x3).toInt) (by decide +kernel) rfl (by omega)) ?_
    refine q_iload rfl rfl ?_
    refine q_if_le_t (t := 73) rfl (by decide) (i_le (a := (0 : Int)) (b := (0 : Int)) (by decide +kernel) (by decide +kernel) (by omega)) ?_
    refine q_iload rfl rfl ?_
    refine q_iconstv (v := (3 : Int32)) rfl (by decide +kernel) ?_
    refine q_ic_lt_t (t := 133) rfl (by decide) (i_lt (a := (0 : Int)) (b := (3 : Int)) (by decide +kernel) (by decide +kernel) (by omega)) ?_
    refine q_iload rfl rfl ?_
    refine q_if_le_t (t := 149) rfl (by decide) (i_le (a := (0 : Int)) (b := (0 : Int)) (by decide +kernel) (by decide +kernel) (by omega)) ?_
    refine q_aload_n rfl rfl ?_
    refine q_call rfl rfl rfl rfl ?_
    refine q_iconstv (v := (0 : Int32)) rfl (by decide +kernel) ?_
    refine q_istore_n rfl (by decide) ?_
    refine q_iload_n rfl rfl ?_
    refine q_aload_n rfl rfl ?_
    refine q_get rfl rfl rfl rfl ?_
    refine q_get rfl rfl rfl rfl ?_
    refine q_ic_ge_t (t := 40) rfl (by decide) (i_le_r (a := (0 : Int)) (b := (0 : Int)) (by decide +kernel) (by decide +kernel) (by omega)) ?_
    refine q_aload_n rfl rfl ?_
    refine q_get rfl rfl rfl rfl ?_
    refine q_bipushv (v := (31 : Int32)) rfl (by decide +kernel) ?_
    refine q_dup2 rfl ⟨rfl, rfl⟩ ?_
    refine q_ialoadv (m := 31) rfl (by decide) (by decide) rfl (by decide +kernel) rfl ?_
    refine q_iconstv (v := (1 : Int32)) rfl (by decide +kernel) ?_
    refine q_iaddv (v := (11 : Int32)) rfl (by decide +kernel) ?_
    refine q_iastorev (m := 31) (w9 := ((w1.set 9 (.inr (6, [.int (x1)]))).set 40 (.inl (0, .inl ((List.replicate 34 0).set 31 (11)))))) rfl (by decide) rfl (by decide +kernel) (by decide) rfl ?_
    refine q_vret rfl rfl ?_
    refine bk_inl ?_
    refine q_iincv (v := (11 : Int32)) rfl rfl (by decide) (by decide +kernel) ?_
    refine q_goto (t := 35) rfl (by decide) ?_
    exact live_11 (by omega) h2 K
set_option maxRecDepth 100000 in
set_option maxHeartbeats 4000000 in
theorem live_9 {sc : List Int32} {x1 x2 x3 : Int32} {Q : AR → Prop} (h1 : 9 ≤ x3.toInt) (h2 : x3.toInt ≤ 48) (K : ∀ D : Nat, Q (.inl none, ((w1.set 9 (.inr (6, [.int (x1)]))).set 40 (.inl (0, .inl ((List.replicate 34 0).set 31 (Int32.ofNat D))))), 0, 0)) : Wp sc 97 77 35 [(8, .int 9), (7, .int 0), (6, .int 0), (5, .int 0), (0, .ref 9), (1, .ref 39), (2, .int (x1)), (3, .int (x2)), (4, .int (x3))] [] ((w1.set 9 (.inr (6, [.int (x1)]))).set 40 (.inl (0, .inl ((List.replicate 34 0).set 31 (9))))) 0 0 Q := by
  refine q_iload rfl rfl ?_
  refine q_iload rfl rfl ?_
  by_cases h101 : (x3).toInt ≤ 9
  · refine q_ic_ge_t (t := 159) rfl (by decide) (i_le_r (a := (9 : Int)) (b := (x3).toInt) (by decide +kernel) rfl (by omega)) ?_
    obtain rfl : x3 = (9 : Int32) := i_eq (a := (x3).toInt) (b := 9) rfl (by decide +kernel) (by omega)
    refine q_vret rfl rfl ?_
    exact K 9
  · refine q_ic_ge_f (t := 159) rfl (by decide) (i_nle_r (a := (9 : Int)) (b := (x3).toInt) (by decide +kernel) rfl (by omega)) ?_
    refine q_iload rfl rfl ?_
    refine q_if_le_t (t := 73) rfl (by decide) (i_le (a := (0 : Int)) (b := (0 : Int)) (by decide +kernel) (by decide +kernel) (by omega)) ?_
    refine q_iload rfl rfl ?_
    refine q_iconstv (v := (3 : Int32)) rfl (by decide +kernel) ?_
    refine q_ic_lt_t (t := 133) rfl (by decide) (i_lt (a := (0 : Int)) (b := (3 : Int)) (by decide +kernel) (by decide +kernel) (by omega)) ?_
    refine q_iload rfl rfl ?_
    refine q_if_le_t (t := 149) rfl (by decide) (i_le (a := (0 : Int)) (b := (0 : Int)) (by decide +kernel) (by decide +kernel) (by omega)) ?_
    refine q_aload_n rfl rfl ?_
    refine q_call rfl rfl rfl rfl ?_
    refine q_iconstv (v := (0 : Int32)) rfl (by decide +kernel) ?_
    refine q_istore_n rfl (by decide) ?_
    refine q_iload_n rfl rfl ?_
    refine q_aload_n rfl rfl ?_
    refine q_get rfl rfl rfl rfl ?_
    refine q_get rfl rfl rfl rfl ?_
    refine q_ic_ge_t (t := 40) rfl (by decide) (i_le_r (a := (0 : Int)) (b := (0 : Int)) (by decide +kernel) (by decide +kernel) (by omega)) ?_
    refine q_aload_n rfl rfl ?_
    refine q_get rfl rfl rfl rfl ?_
    refine q_bipushv (v := (31 : Int32)) rfl (by decide +kernel) ?_
    refine q_dup2 rfl ⟨rfl, rfl⟩ ?_
    refine q_ialoadv (m := 31) rfl (by decide) (by decide) rfl (by decide +kernel) rfl ?_
    refine q_iconstv (v := (1 : Int32)) rfl (by decide +kernel) ?_
    refine q_iaddv (v := (10 : Int32)) rfl (by decide +kernel) ?_
    refine q_iastorev (m := 31) (w9 := ((w1.set 9 (.inr (6, [.int (x1)]))).set 40 (.inl (0, .inl ((List.replicate 34 0).set 31 (10)))))) rfl (by decide) rfl (by decide +kernel) (by decide) rfl ?_
    refine q_vret rfl rfl ?_
    refine bk_inl ?_
    refine q_iincv (v := (10 : Int32)) rfl rfl (by decide) (by decide +kernel) ?_
    refine q_goto (t := 35) rfl (by decide) ?_
    exact live_10 (by omega) h2 K
set_option maxRecDepth 100000 in
set_option maxHeartbeats 4000000 in
theorem live_8 {sc : List Int32} {x1 x2 x3 : Int32} {Q : AR → Prop} (h1 : 8 ≤ x3.toInt) (h2 : x3.toInt ≤ 48) (K : ∀ D : Nat, Q (.inl none, ((w1.set 9 (.inr (6, [.int (x1)]))).set 40 (.inl (0, .inl ((List.replicate 34 0).set 31 (Int32.ofNat D))))), 0, 0)) : Wp sc 97 77 35 [(8, .int 8), (7, .int 0), (6, .int 0), (5, .int 0), (0, .ref 9), (1, .ref 39), (2, .int (x1)), (3, .int (x2)), (4, .int (x3))] [] ((w1.set 9 (.inr (6, [.int (x1)]))).set 40 (.inl (0, .inl ((List.replicate 34 0).set 31 (8))))) 0 0 Q := by
  refine q_iload rfl rfl ?_
  refine q_iload rfl rfl ?_
  by_cases h101 : (x3).toInt ≤ 8
  · refine q_ic_ge_t (t := 159) rfl (by decide) (i_le_r (a := (8 : Int)) (b := (x3).toInt) (by decide +kernel) rfl (by omega)) ?_
    obtain rfl : x3 = (8 : Int32) := i_eq (a := (x3).toInt) (b := 8) rfl (by decide +kernel) (by omega)
    refine q_vret rfl rfl ?_
    exact K 8
  · refine q_ic_ge_f (t := 159) rfl (by decide) (i_nle_r (a := (8 : Int)) (b := (x3).toInt) (by decide +kernel) rfl (by omega)) ?_
    refine q_iload rfl rfl ?_
    refine q_if_le_t (t := 73) rfl (by decide) (i_le (a := (0 : Int)) (b := (0 : Int)) (by decide +kernel) (by decide +kernel) (by omega)) ?_
    refine q_iload rfl rfl ?_
    refine q_iconstv (v := (3 : Int32)) rfl (by decide +kernel) ?_
    refine q_ic_lt_t (t := 133) rfl (by decide) (i_lt (a := (0 : Int)) (b := (3 : Int)) (by decide +kernel) (by decide +kernel) (by omega)) ?_
    refine q_iload rfl rfl ?_
    refine q_if_le_t (t := 149) rfl (by decide) (i_le (a := (0 : Int)) (b := (0 : Int)) (by decide +kernel) (by decide +kernel) (by omega)) ?_
    refine q_aload_n rfl rfl ?_
    refine q_call rfl rfl rfl rfl ?_
    refine q_iconstv (v := (0 : Int32)) rfl (by decide +kernel) ?_
    refine q_istore_n rfl (by decide) ?_
    refine q_iload_n rfl rfl ?_
    refine q_aload_n rfl rfl ?_
    refine q_get rfl rfl rfl rfl ?_
    refine q_get rfl rfl rfl rfl ?_
    refine q_ic_ge_t (t := 40) rfl (by decide) (i_le_r (a := (0 : Int)) (b := (0 : Int)) (by decide +kernel) (by decide +kernel) (by omega)) ?_
    refine q_aload_n rfl rfl ?_
    refine q_get rfl rfl rfl rfl ?_
    refine q_bipushv (v := (31 : Int32)) rfl (by decide +kernel) ?_
    refine q_dup2 rfl ⟨rfl, rfl⟩ ?_
    refine q_ialoadv (m := 31) rfl (by decide) (by decide) rfl (by decide +kernel) rfl ?_
    refine q_iconstv (v := (1 : Int32)) rfl (by decide +kernel) ?_
    refine q_iaddv (v := (9 : Int32)) rfl (by decide +kernel) ?_
    refine q_iastorev (m := 31) (w9 := ((w1.set 9 (.inr (6, [.int (x1)]))).set 40 (.inl (0, .inl ((List.replicate 34 0).set 31 (9)))))) rfl (by decide) rfl (by decide +kernel) (by decide) rfl ?_
    refine q_vret rfl rfl ?_
    refine bk_inl ?_
    refine q_iincv (v := (9 : Int32)) rfl rfl (by decide) (by decide +kernel) ?_
    refine q_goto (t := 35) rfl (by decide) ?_
    exact live_9 (by omega) h2 K
set_option maxRecDepth 100000 in
set_option maxHeartbeats 4000000 in
theorem live_7 {sc : List Int32} {x1 x2 x3 : Int32} {Q : AR → Prop} (h1 : 7 ≤ x3.toInt) (h2 : x3.toInt ≤ 48) (K : ∀ D : Nat, Q (.inl none, ((w1.set 9 (.inr (6, [.int (x1)]))).set 40 (.inl (0, .inl ((List.replicate 34 0).set 31 (Int32.ofNat D))))), 0, 0)) : Wp sc 97 77 35 [(8, .int 7), (7, .int 0), (6, .int 0), (5, .int 0), (0, .ref 9), (1, .ref 39), (2, .int (x1)), (3, .int (x2)), (4, .int (x3))] [] ((w1.set 9 (.inr (6, [.int (x1)]))).set 40 (.inl (0, .inl ((List.replicate 34 0).set 31 (7))))) 0 0 Q := by
  refine q_iload rfl rfl ?_
  refine q_iload rfl rfl ?_
  by_cases h101 : (x3).toInt ≤ 7
  · refine q_ic_ge_t (t := 159) rfl (by decide) (i_le_r (a := (7 : Int)) (b := (x3).toInt) (by decide +kernel) rfl (by omega)) ?_
    obtain rfl : x3 = (7 : Int32) := i_eq (a := (x3).toInt) (b := 7) rfl (by decide +kernel) (by omega)
    refine q_vret rfl rfl ?_
    exact K 7
  · refine q_ic_ge_f (t := 159) rfl (by decide) (i_nle_r (a := (7 : Int)) (b := (x3).toInt) (by decide +kernel) rfl (by omega)) ?_
    refine q_iload rfl rfl ?_
    refine q_if_le_t (t := 73) rfl (by decide) (i_le (a := (0 : Int)) (b := (0 : Int)) (by decide +kernel) (by decide +kernel) (by omega)) ?_
    refine q_iload rfl rfl ?_
    refine q_iconstv (v := (3 : Int32)) rfl (by decide +kernel) ?_
    refine q_ic_lt_t (t := 133) rfl (by decide) (i_lt (a := (0 : Int)) (b := (3 : Int)) (by decide +kernel) (by decide +kernel) (by omega)) ?_
    refine q_iload rfl rfl ?_
    refine q_if_le_t (t := 149) rfl (by decide) (i_le (a := (0 : Int)) (b := (0 : Int)) (by decide +kernel) (by decide +kernel) (by omega)) ?_
    refine q_aload_n rfl rfl ?_
    refine q_call rfl rfl rfl rfl ?_
    refine q_iconstv (v := (0 : Int32)) rfl (by decide +kernel) ?_
    refine q_istore_n rfl (by decide) ?_
    refine q_iload_n rfl rfl ?_
    refine q_aload_n rfl rfl ?_
    refine q_get rfl rfl rfl rfl ?_
    refine q_get rfl rfl rfl rfl ?_
    refine q_ic_ge_t (t := 40) rfl (by decide) (i_le_r (a := (0 : Int)) (b := (0 : Int)) (by decide +kernel) (by decide +kernel) (by omega)) ?_
    refine q_aload_n rfl rfl ?_
    refine q_get rfl rfl rfl rfl ?_
    refine q_bipushv (v := (31 : Int32)) rfl (by decide +kernel) ?_
    refine q_dup2 rfl ⟨rfl, rfl⟩ ?_
    refine q_ialoadv (m := 31) rfl (by decide) (by decide) rfl (by decide +kernel) rfl ?_
    refine q_iconstv (v := (1 : Int32)) rfl (by decide +kernel) ?_
    refine q_iaddv (v := (8 : Int32)) rfl (by decide +kernel) ?_
    refine q_iastorev (m := 31) (w9 := ((w1.set 9 (.inr (6, [.int (x1)]))).set 40 (.inl (0, .inl ((List.replicate 34 0).set 31 (8)))))) rfl (by decide) rfl (by decide +kernel) (by decide) rfl ?_
    refine q_vret rfl rfl ?_
    refine bk_inl ?_
    refine q_iincv (v := (8 : Int32)) rfl rfl (by decide) (by decide +kernel) ?_
    refine q_goto (t := 35) rfl (by decide) ?_
    exact live_8 (by omega) h2 K
set_option maxRecDepth 100000 in
set_option maxHeartbeats 4000000 in
theorem live_6 {sc : List Int32} {x1 x2 x3 : Int32} {Q : AR → Prop} (h1 : 6 ≤ x3.toInt) (h2 : x3.toInt ≤ 48) (K : ∀ D : Nat, Q (.inl none, ((w1.set 9 (.inr (6, [.int (x1)]))).set 40 (.inl (0, .inl ((List.replicate 34 0).set 31 (Int32.ofNat D))))), 0, 0)) : Wp sc 97 77 35 [(8, .int 6), (7, .int 0), (6, .int 0), (5, .int 0), (0, .ref 9), (1, .ref 39), (2, .int (x1)), (3, .int (x2)), (4, .int (x3))] [] ((w1.set 9 (.inr (6, [.int (x1)]))).set 40 (.inl (0, .inl ((List.replicate 34 0).set 31 (6))))) 0 0 Q := by
  refine q_iload rfl rfl ?_
  refine q_iload rfl rfl ?_
  by_cases h101 : (x3).toInt ≤ 6
  · refine q_ic_ge_t (t := 159) rfl (by decide) (i_le_r (a := (6 : Int)) (b := (x3).toInt) (by decide +kernel) rfl (by omega)) ?_
    obtain rfl : x3 = (6 : Int32) := i_eq (a := (x3).toInt) (b := 6) rfl (by decide +kernel) (by omega)
    refine q_vret rfl rfl ?_
    exact K 6
  · refine q_ic_ge_f (t := 159) rfl (by decide) (i_nle_r (a := (6 : Int)) (b := (x3).toInt) (by decide +kernel) rfl (by omega)) ?_
    refine q_iload rfl rfl ?_
    refine q_if_le_t (t := 73) rfl (by decide) (i_le (a := (0 : Int)) (b := (0 : Int)) (by decide +kernel) (by decide +kernel) (by omega)) ?_
    refine q_iload rfl rfl ?_
    refine q_iconstv (v := (3 : Int32)) rfl (by decide +kernel) ?_
    refine q_ic_lt_t (t := 133) rfl (by decide) (i_lt (a := (0 : Int)) (b := (3 : Int)) (by decide +kernel) (by decide +kernel) (by omega)) ?_
    refine q_iload rfl rfl ?_
    refine q_if_le_t (t := 149) rfl (by decide) (i_le (a := (0 : Int)) (b := (0 : Int)) (by decide +kernel) (by decide +kernel) (by omega)) ?_
    refine q_aload_n rfl rfl ?_
    refine q_call rfl rfl rfl rfl ?_
    refine q_iconstv (v := (0 : Int32)) rfl (by decide +kernel) ?_
    refine q_istore_n rfl (by decide) ?_
    refine q_iload_n rfl rfl ?_
    refine q_aload_n rfl rfl ?_
    refine q_get rfl rfl rfl rfl ?_
    refine q_get rfl rfl rfl rfl ?_
    refine q_ic_ge_t (t := 40) rfl (by decide) (i_le_r (a := (0 : Int)) (b := (0 : Int)) (by decide +kernel) (by decide +kernel) (by omega)) ?_
    refine q_aload_n rfl rfl ?_
    refine q_get rfl rfl rfl rfl ?_
    refine q_bipushv (v := (31 : Int32)) rfl (by decide +kernel) ?_
    refine q_dup2 rfl ⟨rfl, rfl⟩ ?_
    refine q_ialoadv (m := 31) rfl (by decide) (by decide) rfl (by decide +kernel) rfl ?_
    refine q_iconstv (v := (1 : Int32)) rfl (by decide +kernel) ?_
    refine q_iaddv (v := (7 : Int32)) rfl (by decide +kernel) ?_
    refine q_iastorev (m := 31) (w9 := ((w1.set 9 (.inr (6, [.int (x1)]))).set 40 (.inl (0, .inl ((List.replicate 34 0).set 31 (7)))))) rfl (by decide) rfl (by decide +kernel) (by decide) rfl ?_
    refine q_vret rfl rfl ?_
    refine bk_inl ?_
    refine q_iincv (v := (7 : Int32)) rfl rfl (by decide) (by decide +kernel) ?_
    refine q_goto (t := 35) rfl (by decide) ?_
    exact live_7 (by omega) h2 K
set_option maxRecDepth 100000 in
set_option maxHeartbeats 4000000 in
theorem live_5 {sc : List Int32} {x1 x2 x3 : Int32} {Q : AR → Prop} (h1 : 5 ≤ x3.toInt) (h2 : x3.toInt ≤ 48) (K : ∀ D : Nat, Q (.inl none, ((w1.set 9 (.inr (6, [.int (x1)]))).set 40 (.inl (0, .inl ((List.replicate 34 0).set 31 (Int32.ofNat D))))), 0, 0)) : Wp sc 97 77 35 [(8, .int 5), (7, .int 0), (6, .int 0), (5, .int 0), (0, .ref 9), (1, .ref 39), (2, .int (x1)), (3, .int (x2)), (4, .int (x3))] [] ((w1.set 9 (.inr (6, [.int (x1)]))).set 40 (.inl (0, .inl ((List.replicate 34 0).set 31 (5))))) 0 0 Q := by
  refine q_iload rfl rfl ?_
  refine q_iload rfl rfl ?_
  by_cases h101 : (x3).toInt ≤ 5
  · refine q_ic_ge_t (t := 159) rfl (by decide) (i_le_r (a := (5 : Int)) (b := (x3).toInt) (by decide +kernel) rfl (by omega)) ?_
    obtain rfl : x3 = (5 : Int32) := i_eq (a := (x3).toInt) (b := 5) rfl (by decide +kernel) (by omega)
    refine q_vret rfl rfl ?_
    exact K 5
  · refine q_ic_ge_f (t := 159) rfl (by decide) (i_nle_r (a := (5 : Int)) (b := (x3).toInt) (by decide +kernel) rfl (by omega)) ?_
    refine q_iload rfl rfl ?_
    refine q_if_le_t (t := 73) rfl (by decide) (i_le (a := (0 : Int)) (b := (0 : Int)) (by decide +kernel) (by decide +kernel) (by omega)) ?_
    refine q_iload rfl rfl ?_
    refine q_iconstv (v := (3 : Int32)) rfl (by decide +kernel) ?_
    refine q_ic_lt_t (t := 133) rfl (by decide) (i_lt (a := (0 : Int)) (b := (3 : Int)) (by decide +kernel) (by decide +kernel) (by omega)) ?_
    refine q_iload rfl rfl ?_
    refine q_if_le_t (t := 149) rfl (by decide) (i_le (a := (0 : Int)) (b := (0 : Int)) (by decide +kernel) (by decide +kernel) (by omega)) ?_
    refine q_aload_n rfl rfl ?_
    refine q_call rfl rfl rfl rfl ?_
    refine q_iconstv (v := (0 : Int32)) rfl (by decide +kernel) ?_
    refine q_istore_n rfl (by decide) ?_
    refine q_iload_n rfl rfl ?_
    refine q_aload_n rfl rfl ?_
    refine q_get rfl rfl rfl rfl ?_
    refine q_get rfl rfl rfl rfl ?_
    refine q_ic_ge_t (t := 40) rfl (by decide) (i_le_r (a := (0 : Int)) (b := (0 : Int)) (by decide +kernel) (by decide +kernel) (by omega)) ?_
    refine q_aload_n rfl rfl ?_
    refine q_get rfl rfl rfl rfl ?_
    refine q_bipushv (v := (31 : Int32)) rfl (by decide +kernel) ?_
    refine q_dup2 rfl ⟨rfl, rfl⟩ ?_
    refine q_ialoadv (m := 31) rfl (by decide) (by decide) rfl (by decide +kernel) rfl ?_
    refine q_iconstv (v := (1 : Int32)) rfl (by decide +kernel) ?_
    refine q_iaddv (v := (6 : Int32)) rfl (by decide +kernel) ?_
    refine q_iastorev (m := 31) (w9 := ((w1.set 9 (.inr (6, [.int (x1)]))).set 40 (.inl (0, .inl ((List.replicate 34 0).set 31 (6)))))) rfl (by decide) rfl (by decide +kernel) (by decide) rfl ?_
    refine q_vret rfl rfl ?_
    refine bk_inl ?_
    refine q_iincv (v := (6 : Int32)) rfl rfl (by decide) (by decide +kernel) ?_
    refine q_goto (t := 35) rfl (by decide) ?_
    exact live_6 (by omega) h2 K
set_option maxRecDepth 100000 in
set_option maxHeartbeats 4000000 in
theorem live_4 {sc : List Int32} {x1 x2 x3 : Int32} {Q : AR → Prop} (h1 : 4 ≤ x3.toInt) (h2 : x3.toInt ≤ 48) (K : ∀ D : Nat, Q (.inl none, ((w1.set 9 (.inr (6, [.int (x1)]))).set 40 (.inl (0, .inl ((List.replicate 34 0).set 31 (Int32.ofNat D))))), 0, 0)) : Wp sc 97 77 35 [(8, .int 4), (7, .int 0), (6, .int 0), (5, .int 0), (0, .ref 9), (1, .ref 39), (2, .int (x1)), (3, .int (x2)), (4, .int (x3))] [] ((w1.set 9 (.inr (6, [.int (x1)]))).set 40 (.inl (0, .inl ((List.replicate 34 0).set 31 (4))))) 0 0 Q := by
  refine q_iload rfl rfl ?_
  refine q_iload rfl rfl ?_
  by_cases h101 : (x3).toInt ≤ 4
  · refine q_ic_ge_t (t := 159) rfl (by decide) (i_le_r (a := (4 : Int)) (b := (x3).toInt) (by decide +kernel) rfl (by omega)) ?_
    obtain rfl : x3 = (4 : Int32) := i_eq (a := (x3).toInt) (b := 4) rfl (by decide +kernel) (by omega)
    refine q_vret rfl rfl ?_
    exact K 4
  · refine q_ic_ge_f (t := 159) rfl (by decide) (i_nle_r (a := (4 : Int)) (b := (x3).toInt) (by decide +kernel) rfl (by omega)) ?_
    refine q_iload rfl rfl ?_
    refine q_if_le_t (t := 73) rfl (by decide) (i_le (a := (0 : Int)) (b := (0 : Int)) (by decide +kernel) (by decide +kernel) (by omega)) ?_
    refine q_iload rfl rfl ?_
    refine q_iconstv (v := (3 : Int32)) rfl (by decide +kernel) ?_
    refine q_ic_lt_t (t := 133) rfl (by decide) (i_lt (a := (0 : Int)) (b := (3 : Int)) (by decide +kernel) (by decide +kernel) (by omega)) ?_
    refine q_iload rfl rfl ?_
    refine q_if_le_t (t := 149) rfl (by decide) (i_le (a := (0 : Int)) (b := (0 : Int)) (by decide +kernel) (by decide +kernel) (by omega)) ?_
    refine q_aload_n rfl rfl ?_
    refine q_call rfl rfl rfl rfl ?_
    refine q_iconstv (v := (0 : Int32)) rfl (by decide +kernel) ?_
    refine q_istore_n rfl (by decide) ?_
    refine q_iload_n rfl rfl ?_
    refine q_aload_n rfl rfl ?_
    refine q_get rfl rfl rfl rfl ?_
    refine q_get rfl rfl rfl rfl ?_
    refine q_ic_ge_t (t := 40) rfl (by decide) (i_le_r (a := (0 : Int)) (b := (0 : Int)) (by decide +kernel) (by decide +kernel) (by omega)) ?_
    refine q_aload_n rfl rfl ?_
    refine q_get rfl rfl rfl rfl ?_
    refine q_bipushv (v := (31 : Int32)) rfl (by decide +kernel) ?_
    refine q_dup2 rfl ⟨rfl, rfl⟩ ?_
    refine q_ialoadv (m := 31) rfl (by decide) (by decide) rfl (by decide +kernel) rfl ?_
    refine q_iconstv (v := (1 : Int32)) rfl (by decide +kernel) ?_
    refine q_iaddv (v := (5 : Int32)) rfl (by decide +kernel) ?_
    refine q_iastorev (m := 31) (w9 := ((w1.set 9 (.inr (6, [.int (x1)]))).set 40 (.inl (0, .inl ((List.replicate 34 0).set 31 (5)))))) rfl (by decide) rfl (by decide +kernel) (by decide) rfl ?_
    refine q_vret rfl rfl ?_
    refine bk_inl ?_
    refine q_iincv (v := (5 : Int32)) rfl rfl (by decide) (by decide +kernel) ?_
    refine q_goto (t := 35) rfl (by decide) ?_
    exact live_5 (by omega) h2 K
set_option maxRecDepth 100000 in
set_option maxHeartbeats 4000000 in
theorem live_3 {sc : List Int32} {x1 x2 x3 : Int32} {Q : AR → Prop} (h1 : 3 ≤ x3.toInt) (h2 : x3.toInt ≤ 48) (K : ∀ D : Nat, Q (.inl none, ((w1.set 9 (.inr (6, [.int (x1)]))).set 40 (.inl (0, .inl ((List.replicate 34 0).set 31 (Int32.ofNat D))))), 0, 0)) : Wp sc 97 77 35 [(8, .int 3), (7, .int 0), (6, .int 0), (5, .int 0), (0, .ref 9), (1, .ref 39), (2, .int (x1)), (3, .int (x2)), (4, .int (x3))] [] ((w1.set 9 (.inr (6, [.int (x1)]))).set 40 (.inl (0, .inl ((List.replicate 34 0).set 31 (3))))) 0 0 Q := by
  refine q_iload rfl rfl ?_
  refine q_iload rfl rfl ?_
  by_cases h101 : (x3).toInt ≤ 3
  · refine q_ic_ge_t (t := 159) rfl (by decide) (i_le_r (a := (3 : Int)) (b := (x3).toInt) (by decide +kernel) rfl (by omega)) ?_
    obtain rfl : x3 = (3 : Int32) := i_eq (a := (x3).toInt) (b := 3) rfl (by decide +kernel) (by omega)
    refine q_vret rfl rfl ?_
    exact K 3
  · refine q_ic_ge_f (t := 159) rfl (by decide) (i_nle_r (a := (3 : Int)) (b := (x3).toInt) (by decide +kernel) rfl (by omega)) ?_
    refine q_iload rfl rfl ?_
    refine q_if_le_t (t := 73) rfl (by decide) (i_le (a := (0 : Int)) (b := (0 : Int)) (by decide +kernel) (by decide +kernel) (by omega)) ?_
    refine q_iload rfl rfl ?_
    refine q_iconstv (v := (3 : Int32)) rfl (by decide +kernel) ?_
    refine q_ic_lt_t (t := 133) rfl (by decide) (i_lt (a := (0 : Int)) (b := (3 : Int)) (by decide +kernel) (by decide +kernel) (by omega)) ?_
    refine q_iload rfl rfl ?_
    refine q_if_le_t (t := 149) rfl (by decide) (i_le (a := (0 : Int)) (b := (0 : Int)) (by decide +kernel) (by decide +kernel) (by omega)) ?_
    refine q_aload_n rfl rfl ?_
    refine q_call rfl rfl rfl rfl ?_
    refine q_iconstv (v := (0 : Int32)) rfl (by decide +kernel) ?_
    refine q_istore_n rfl (by decide) ?_
    refine q_iload_n rfl rfl ?_
    refine q_aload_n rfl rfl ?_
    refine q_get rfl rfl rfl rfl ?_
    refine q_get rfl rfl rfl rfl ?_
    refine q_ic_ge_t (t := 40) rfl (by decide) (i_le_r (a := (0 : Int)) (b := (0 : Int)) (by decide +kernel) (by decide +kernel) (by omega)) ?_
    refine q_aload_n rfl rfl ?_
    refine q_get rfl rfl rfl rfl ?_
    refine q_bipushv (v := (31 : Int32)) rfl (by decide +kernel) ?_
    refine q_dup2 rfl ⟨rfl, rfl⟩ ?_
    refine q_ialoadv (m := 31) rfl (by decide) (by decide) rfl (by decide +kernel) rfl ?_
    refine q_iconstv (v := (1 : Int32)) rfl (by decide +kernel) ?_
    refine q_iaddv (v := (4 : Int32)) rfl (by decide +kernel) ?_
    refine q_iastorev (m := 31) (w9 := ((w1.set 9 (.inr (6, [.int (x1)]))).set 40 (.inl (0, .inl ((List.replicate 34 0).set 31 (4)))))) rfl (by decide) rfl (by decide +kernel) (by decide) rfl ?_
    refine q_vret rfl rfl ?_
    refine bk_inl ?_
    refine q_iincv (v := (4 : Int32)) rfl rfl (by decide) (by decide +kernel) ?_
    refine q_goto (t := 35) rfl (by decide) ?_
    exact live_4 (by omega) h2 K
set_option maxRecDepth 100000 in
set_option maxHeartbeats 4000000 in
theorem live_2 {sc : List Int32} {x1 x2 x3 : Int32} {Q : AR → Prop} (h1 : 2 ≤ x3.toInt) (h2 : x3.toInt ≤ 48) (K : ∀ D : Nat, Q (.inl none, ((w1.set 9 (.inr (6, [.int (x1)]))).set 40 (.inl (0, .inl ((List.replicate 34 0).set 31 (Int32.ofNat D))))), 0, 0)) : Wp sc 97 77 35 [(8, .int 2), (7, .int 0), (6, .int 0), (5, .int 0), (0, .ref 9), (1, .ref 39), (2, .int (x1)), (3, .int (x2)), (4, .int (x3))] [] ((w1.set 9 (.inr (6, [.int (x1)]))).set 40 (.inl (0, .inl ((List.replicate 34 0).set 31 (2))))) 0 0 Q := by
  refine q_iload rfl rfl ?_
  refine q_iload rfl rfl ?_
  by_cases h101 : (x3).toInt ≤ 2
  · refine q_ic_ge_t (t := 159) rfl (by decide) (i_le_r (a := (2 : Int)) (b := (x3).toInt) (by decide +kernel) rfl (by omega)) ?_
    obtain rfl : x3 = (2 : Int32) := i_eq (a := (x3).toInt) (b := 2) rfl (by decide +kernel) (by omega)
    refine q_vret rfl rfl ?_
    exact K 2
  · refine q_ic_ge_f (t := 159) rfl (by decide) (i_nle_r (a := (2 : Int)) (b := (x3).toInt) (by decide +kernel) rfl (by omega)) ?_
    refine q_iload rfl rfl ?_
    refine q_if_le_t (t := 73) rfl (by decide) (i_le (a := (0 : Int)) (b := (0 : Int)) (by decide +kernel) (by decide +kernel) (by omega)) ?_
    refine q_iload rfl rfl ?_
    refine q_iconstv (v := (3 : Int32)) rfl (by decide +kernel) ?_
    refine q_ic_lt_t (t := 133) rfl (by decide) (i_lt (a := (0 : Int)) (b := (3 : Int)) (by decide +kernel) (by decide +kernel) (by omega)) ?_
    refine q_iload rfl rfl ?_
    refine q_if_le_t (t := 149) rfl (by decide) (i_le (a := (0 : Int)) (b := (0 : Int)) (by decide +kernel) (by decide +kernel) (by omega)) ?_
    refine q_aload_n rfl rfl ?_
    refine q_call rfl rfl rfl rfl ?_
    refine q_iconstv (v := (0 : Int32)) rfl (by decide +kernel) ?_
    refine q_istore_n rfl (by decide) ?_
    refine q_iload_n rfl rfl ?_
    refine q_aload_n rfl rfl ?_
    refine q_get rfl rfl rfl rfl ?_
    refine q_get rfl rfl rfl rfl ?_
    refine q_ic_ge_t (t := 40) rfl (by decide) (i_le_r (a := (0 : Int)) (b := (0 : Int)) (by decide +kernel) (by decide +kernel) (by omega)) ?_
    refine q_aload_n rfl rfl ?_
    refine q_get rfl rfl rfl rfl ?_
    refine q_bipushv (v := (31 : Int32)) rfl (by decide +kernel) ?_
    refine q_dup2 rfl ⟨rfl, rfl⟩ ?_
    refine q_ialoadv (m := 31) rfl (by decide) (by decide) rfl (by decide +kernel) rfl ?_
    refine q_iconstv (v := (1 : Int32)) rfl (by decide +kernel) ?_
    refine q_iaddv (v := (3 : Int32)) rfl (by decide +kernel) ?_
    refine q_iastorev (m := 31) (w9 := ((w1.set 9 (.inr (6, [.int (x1)]))).set 40 (.inl (0, .inl ((List.replicate 34 0).set 31 (3)))))) rfl (by decide) rfl (by decide +kernel) (by decide) rfl ?_
    refine q_vret rfl rfl ?_
    refine bk_inl ?_
    refine q_iincv (v := (3 : Int32)) rfl rfl (by decide) (by decide +kernel) ?_
    refine q_goto (t := 35) rfl (by decide) ?_
    exact live_3 (by omega) h2 K
set_option maxRecDepth 100000 in
set_option maxHeartbeats 4000000 in
theorem live_1 {sc : List Int32} {x1 x2 x3 : Int32} {Q : AR → Prop} (h1 : 1 ≤ x3.toInt) (h2 : x3.toInt ≤ 48) (K : ∀ D : Nat, Q (.inl none, ((w1.set 9 (.inr (6, [.int (x1)]))).set 40 (.inl (0, .inl ((List.replicate 34 0).set 31 (Int32.ofNat D))))), 0, 0)) : Wp sc 97 77 35 [(8, .int 1), (7, .int 0), (6, .int 0), (5, .int 0), (0, .ref 9), (1, .ref 39), (2, .int (x1)), (3, .int (x2)), (4, .int (x3))] [] ((w1.set 9 (.inr (6, [.int (x1)]))).set 40 (.inl (0, .inl ((List.replicate 34 0).set 31 (1))))) 0 0 Q := by
  refine q_iload rfl rfl ?_
  refine q_iload rfl rfl ?_
  by_cases h101 : (x3).toInt ≤ 1
  · refine q_ic_ge_t (t := 159) rfl (by decide) (i_le_r (a := (1 : Int)) (b := (x3).toInt) (by decide +kernel) rfl (by omega)) ?_
    obtain rfl : x3 = (1 : Int32) := i_eq (a := (x3).toInt) (b := 1) rfl (by decide +kernel) (by omega)
    refine q_vret rfl rfl ?_
    exact K 1
  · refine q_ic_ge_f (t := 159) rfl (by decide) (i_nle_r (a := (1 : Int)) (b := (x3).toInt) (by decide +kernel) rfl (by omega)) ?_
    refine q_iload rfl rfl ?_
    refine q_if_le_t (t := 73) rfl (by decide) (i_le (a := (0 : Int)) (b := (0 : Int)) (by decide +kernel) (by decide +kernel) (by omega)) ?_
    refine q_iload rfl rfl ?_
    refine q_iconstv (v := (3 : Int32)) rfl (by decide +kernel) ?_
    refine q_ic_lt_t (t := 133) rfl (by decide) (i_lt (a := (0 : Int)) (b := (3 : Int)) (by decide +kernel) (by decide +kernel) (by omega)) ?_
    refine q_iload rfl rfl ?_
    refine q_if_le_t (t := 149) rfl (by decide) (i_le (a := (0 : Int)) (b := (0 : Int)) (by decide +kernel) (by decide +kernel) (by omega)) ?_
    refine q_aload_n rfl rfl ?_
    refine q_call rfl rfl rfl rfl ?_
    refine q_iconstv (v := (0 : Int32)) rfl (by decide +kernel) ?_
    refine q_istore_n rfl (by decide) ?_
    refine q_iload_n rfl rfl ?_
    refine q_aload_n rfl rfl ?_
    refine q_get rfl rfl rfl rfl ?_
    refine q_get rfl rfl rfl rfl ?_
    refine q_ic_ge_t (t := 40) rfl (by decide) (i_le_r (a := (0 : Int)) (b := (0 : Int)) (by decide +kernel) (by decide +kernel) (by omega)) ?_
    refine q_aload_n rfl rfl ?_
    refine q_get rfl rfl rfl rfl ?_
    refine q_bipushv (v := (31 : Int32)) rfl (by decide +kernel) ?_
    refine q_dup2 rfl ⟨rfl, rfl⟩ ?_
    refine q_ialoadv (m := 31) rfl (by decide) (by decide) rfl (by decide +kernel) rfl ?_
    refine q_iconstv (v := (1 : Int32)) rfl (by decide +kernel) ?_
    refine q_iaddv (v := (2 : Int32)) rfl (by decide +kernel) ?_
    refine q_iastorev (m := 31) (w9 := ((w1.set 9 (.inr (6, [.int (x1)]))).set 40 (.inl (0, .inl ((List.replicate 34 0).set 31 (2)))))) rfl (by decide) rfl (by decide +kernel) (by decide) rfl ?_
    refine q_vret rfl rfl ?_
    refine bk_inl ?_
    refine q_iincv (v := (2 : Int32)) rfl rfl (by decide) (by decide +kernel) ?_
    refine q_goto (t := 35) rfl (by decide) ?_
    exact live_2 (by omega) h2 K
set_option maxRecDepth 100000 in
set_option maxHeartbeats 4000000 in
theorem live_0 {sc : List Int32} {x1 x2 x3 : Int32} {Q : AR → Prop} (h1 : 1 ≤ x3.toInt) (h2 : x3.toInt ≤ 48) (K : ∀ D : Nat, Q (.inl none, ((w1.set 9 (.inr (6, [.int (x1)]))).set 40 (.inl (0, .inl ((List.replicate 34 0).set 31 (Int32.ofNat D))))), 0, 0)) : Wp sc 97 77 35 [(8, .int 0), (7, .int 0), (6, .int 0), (5, .int 0), (0, .ref 9), (1, .ref 39), (2, .int (x1)), (3, .int (x2)), (4, .int (x3))] [] (w1.set 9 (.inr (6, [.int (x1)]))) 0 0 Q := by
  refine q_iload rfl rfl ?_
  refine q_iload rfl rfl ?_
  refine q_ic_ge_f (t := 159) rfl (by decide) (i_nle_r (a := (0 : Int)) (b := (x3).toInt) (by decide +kernel) rfl (by omega)) ?_
  refine q_iload rfl rfl ?_
  refine q_if_le_t (t := 73) rfl (by decide) (i_le (a := (0 : Int)) (b := (0 : Int)) (by decide +kernel) (by decide +kernel) (by omega)) ?_
  refine q_iload rfl rfl ?_
  refine q_iconstv (v := (3 : Int32)) rfl (by decide +kernel) ?_
  refine q_ic_lt_t (t := 133) rfl (by decide) (i_lt (a := (0 : Int)) (b := (3 : Int)) (by decide +kernel) (by decide +kernel) (by omega)) ?_
  refine q_iload rfl rfl ?_
  refine q_if_le_t (t := 149) rfl (by decide) (i_le (a := (0 : Int)) (b := (0 : Int)) (by decide +kernel) (by decide +kernel) (by omega)) ?_
  refine q_aload_n rfl rfl ?_
  refine q_call rfl rfl rfl rfl ?_
  refine q_iconstv (v := (0 : Int32)) rfl (by decide +kernel) ?_
  refine q_istore_n rfl (by decide) ?_
  refine q_iload_n rfl rfl ?_
  refine q_aload_n rfl rfl ?_
  refine q_get rfl rfl rfl rfl ?_
  refine q_get rfl rfl rfl rfl ?_
  refine q_ic_ge_t (t := 40) rfl (by decide) (i_le_r (a := (0 : Int)) (b := (0 : Int)) (by decide +kernel) (by decide +kernel) (by omega)) ?_
  refine q_aload_n rfl rfl ?_
  refine q_get rfl rfl rfl rfl ?_
  refine q_bipushv (v := (31 : Int32)) rfl (by decide +kernel) ?_
  refine q_dup2 rfl ⟨rfl, rfl⟩ ?_
  refine q_ialoadv (m := 31) rfl (by decide) (by decide) rfl (by decide +kernel) rfl ?_
  refine q_iconstv (v := (1 : Int32)) rfl (by decide +kernel) ?_
  refine q_iaddv (v := (1 : Int32)) rfl (by decide +kernel) ?_
  refine q_iastorev (m := 31) (w9 := ((w1.set 9 (.inr (6, [.int (x1)]))).set 40 (.inl (0, .inl ((List.replicate 34 0).set 31 (1)))))) rfl (by decide) rfl (by decide +kernel) (by decide) rfl ?_
  refine q_vret rfl rfl ?_
  refine bk_inl ?_
  refine q_iincv (v := (1 : Int32)) rfl rfl (by decide) (by decide +kernel) ?_
  refine q_goto (t := 35) rfl (by decide) ?_
  exact live_1 (by omega) h2 K
set_option maxRecDepth 100000 in
theorem live {sc : List Int32} {x1 x2 x3 : Int32} {Q : AR → Prop} (h1 : 1 ≤ x3.toInt) (h2 : x3.toInt ≤ 48) (K : ∀ D : Nat, Q (.inl none, ((w1.set 9 (.inr (6, [.int (x1)]))).set 40 (.inl (0, .inl ((List.replicate 34 0).set 31 (Int32.ofNat D))))), 0, 0)) : Wp sc 97 77 0 [(0, .ref 9), (1, .ref 39), (2, .int (x1)), (3, .int (x2)), (4, .int (x3))] [] w1 0 0 Q := by
  refine q_aload_n rfl rfl ?_
  refine q_iload_n rfl rfl ?_
  refine q_putv (w9 := (w1.set 9 (.inr (6, [.int (x1)])))) rfl rfl rfl (by decide) rfl (by decide) rfl ?_
  refine q_aload_n rfl rfl ?_
  refine q_get rfl rfl rfl rfl ?_
  refine q_get rfl rfl rfl rfl ?_
  refine q_istore rfl (by decide) ?_
  refine q_aload_n rfl rfl ?_
  refine q_get rfl rfl rfl rfl ?_
  refine q_get rfl rfl rfl rfl ?_
  refine q_istore rfl (by decide) ?_
  refine q_aload_n rfl rfl ?_
  refine q_get rfl rfl rfl rfl ?_
  refine q_get rfl rfl rfl rfl ?_
  refine q_istore rfl (by decide) ?_
  refine q_iconstv (v := (0 : Int32)) rfl (by decide +kernel) ?_
  refine q_istore rfl (by decide) ?_
  exact live_0 (by omega) h2 K
