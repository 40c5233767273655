/-! ===== the year ===== -/
set_option maxRecDepth 100000 in
set_option maxHeartbeats 4000000 in
theorem goes_48 {sc : List Int32} {D4 : Nat} {x1 x2 x3 : Int32} {Q : AR → Prop} (h1 : 48 ≤ x3.toInt) (h2 : x3.toInt ≤ 48) (K : ∀ D : Nat, Q (.inl none, ((((w1.set 9 (.inr (6, [.int (x1)]))).set 40 (.inl (0, .inl ((List.replicate 34 0).set 31 (Int32.ofNat D4))))).set 41 (.inr (8, [.int 0, .ref 42, .int 0, .int 0, .int 0, .int 0, .int 0, .int 0, .int (-1), .ref 43, .ref 44, .ref 45, .ref 46, .ref 47, .ref 48, .ref 49, .int 0, .int 0, .int 0, .int 5, .int 0, .int 0, .int 0, .int 5, .ref 50, .ref 51, .ref 52, .ref 53, .ref 54, .int 0, .int 0, .ref 55, .ref 56, .ref 57, .int 0, .int 0, .int 0, .int 0, .int 0, .int 0, .ref 58, .ref 59, .ref 60, .ref 61, .ref 62, .ref 63, .ref 64, .int 0, .int 0, .ref 65, .int (x1), .ref 66, .int 0]))).set 59 (.inl (0, .inl ((List.replicate 37 0).set 34 (Int32.ofNat D))))), 0, 0)) : Wp sc 98 253 12 [(4, .int 48), (0, .ref 41), (1, .int (x1)), (2, .int (x2)), (3, .int 48)] [] ((((w1.set 9 (.inr (6, [.int (x1)]))).set 40 (.inl (0, .inl ((List.replicate 34 0).set 31 (Int32.ofNat D4))))).set 41 (.inr (8, [.int 0, .ref 42, .int 0, .int 0, .int 0, .int 0, .int 0, .int 0, .int (-1), .ref 43, .ref 44, .ref 45, .ref 46, .ref 47, .ref 48, .ref 49, .int 0, .int 0, .int 0, .int 5, .int 0, .int 0, .int 0, .int 5, .ref 50, .ref 51, .ref 52, .ref 53, .ref 54, .int 0, .int 0, .ref 55, .ref 56, .ref 57, .int 0, .int 0, .int 0, .int 0, .int 0, .int 0, .ref 58, .ref 59, .ref 60, .ref 61, .ref 62, .ref 63, .ref 64, .int 0, .int 0, .ref 65, .int (x1), .ref 66, .int 0]))).set 59 (.inl (0, .inl ((List.replicate 37 0).set 34 (48))))) 0 0 Q := by
  refine q_iload rfl rfl ?_
  refine q_iload_n rfl rfl ?_
  refine q_ic_ge_t (t := 159) rfl (by decide) (i_le_r (a := (48 : Int)) (b := (48 : Int)) (by decide +kernel) (by decide +kernel) (by omega)) ?_
  refine q_vret rfl rfl ?_
  exact K 48
set_option maxRecDepth 100000 in
set_option maxHeartbeats 4000000 in
theorem goes_47 {sc : List Int32} {D4 : Nat} {x1 x2 x3 : Int32} {Q : AR → Prop} (h1 : 47 ≤ x3.toInt) (h2 : x3.toInt ≤ 48) (K : ∀ D : Nat, Q (.inl none, ((((w1.set 9 (.inr (6, [.int (x1)]))).set 40 (.inl (0, .inl ((List.replicate 34 0).set 31 (Int32.ofNat D4))))).set 41 (.inr (8, [.int 0, .ref 42, .int 0, .int 0, .int 0, .int 0, .int 0, .int 0, .int (-1), .ref 43, .ref 44, .ref 45, .ref 46, .ref 47, .ref 48, .ref 49, .int 0, .int 0, .int 0, .int 5, .int 0, .int 0, .int 0, .int 5, .ref 50, .ref 51, .ref 52, .ref 53, .ref 54, .int 0, .int 0, .ref 55, .ref 56, .ref 57, .int 0, .int 0, .int 0, .int 0, .int 0, .int 0, .ref 58, .ref 59, .ref 60, .ref 61, .ref 62, .ref 63, .ref 64, .int 0, .int 0, .ref 65, .int (x1), .ref 66, .int 0]))).set 59 (.inl (0, .inl ((List.replicate 37 0).set 34 (Int32.ofNat D))))), 0, 0)) : Wp sc 98 253 12 [(4, .int 47), (0, .ref 41), (1, .int (x1)), (2, .int (x2)), (3, .int (x3))] [] ((((w1.set 9 (.inr (6, [.int (x1)]))).set 40 (.inl (0, .inl ((List.replicate 34 0).set 31 (Int32.ofNat D4))))).set 41 (.inr (8, [.int 0, .ref 42, .int 0, .int 0, .int 0, .int 0, .int 0, .int 0, .int (-1), .ref 43, .ref 44, .ref 45, .ref 46, .ref 47, .ref 48, .ref 49, .int 0, .int 0, .int 0, .int 5, .int 0, .int 0, .int 0, .int 5, .ref 50, .ref 51, .ref 52, .ref 53, .ref 54, .int 0, .int 0, .ref 55, .ref 56, .ref 57, .int 0, .int 0, .int 0, .int 0, .int 0, .int 0, .ref 58, .ref 59, .ref 60, .ref 61, .ref 62, .ref 63, .ref 64, .int 0, .int 0, .ref 65, .int (x1), .ref 66, .int 0]))).set 59 (.inl (0, .inl ((List.replicate 37 0).set 34 (47))))) 0 0 Q := by
  refine q_iload rfl rfl ?_
  refine q_iload_n rfl rfl ?_
  by_cases h101 : (x3).toInt ≤ 47
  · refine q_ic_ge_t (t := 159) rfl (by decide) (i_le_r (a := (47 : Int)) (b := (x3).toInt) (by decide +kernel) rfl (by omega)) ?_
    obtain rfl : x3 = (47 : Int32) := i_eq (a := (x3).toInt) (b := 47) rfl (by decide +kernel) (by omega)
    refine q_vret rfl rfl ?_
    exact K 47
  · refine q_ic_ge_f (t := 159) rfl (by decide) (i_nle_r (a := (47 : Int)) (b := (x3).toInt) (by decide +kernel) rfl (by omega)) ?_
    obtain rfl : x3 = (48 : Int32) := i_eq (a := (x3).toInt) (b := 48) rfl (by decide +kernel) (by omega)
    refine q_aload_n rfl rfl ?_
    refine q_get rfl rfl rfl rfl ?_
    refine q_if_le_t (t := 57) rfl (by decide) (i_le (a := (0 : Int)) (b := (0 : Int)) (by decide +kernel) (by decide +kernel) (by omega)) ?_
    refine q_aload_n rfl rfl ?_
    refine q_get rfl rfl rfl rfl ?_
    refine q_iconstv (v := (2 : Int32)) rfl (by decide +kernel) ?_
    refine q_ic_le_t (t := 129) rfl (by decide) (i_le (a := (0 : Int)) (b := (2 : Int)) (by decide +kernel) (by decide +kernel) (by omega)) ?_
    refine q_aload_n rfl rfl ?_
    refine q_get rfl rfl rfl rfl ?_
    refine q_if_le_t (t := 149) rfl (by decide) (i_le (a := (0 : Int)) (b := (0 : Int)) (by decide +kernel) (by decide +kernel) (by omega)) ?_
    refine q_aload_n rfl rfl ?_
    refine q_call rfl rfl rfl rfl ?_
    refine q_iconstv (v := (0 : Int32)) rfl (by decide +kernel) ?_
    refine q_istore_n rfl (by decide) ?_
    refine q_iload_n rfl rfl ?_
    refine q_aload_n rfl rfl ?_
    refine q_get rfl rfl rfl rfl ?_
    refine q_ic_ge_t (t := 41) rfl (by decide) (i_le_r (a := (0 : Int)) (b := (0 : Int)) (by decide +kernel) (by decide +kernel) (by omega)) ?_
    refine q_aload_n rfl rfl ?_
    refine q_get rfl rfl rfl rfl ?_
    refine q_bipushv (v := (34 : Int32)) rfl (by decide +kernel) ?_
    refine q_dup2 rfl ⟨rfl, rfl⟩ ?_
    refine q_ialoadv (m := 34) rfl (by decide) (by decide) rfl (by decide +kernel) rfl ?_
    refine q_iconstv (v := (1 : Int32)) rfl (by decide +kernel) ?_
    refine q_iaddv (v := (48 : Int32)) rfl (by decide +kernel) ?_
    refine q_iastorev (m := 34) (w9 := ((((w1.set 9 (.inr (6, [.int (x1)]))).set 40 (.inl (0, .inl ((List.replicate 34 0).set 31 (Int32.ofNat D4))))).set 41 (.inr (8, [.int 0, .ref 42, .int 0, .int 0, .int 0, .int 0, .int 0, .int 0, .int (-1), .ref 43, .ref 44, .ref 45, .ref 46, .ref 47, .ref 48, .ref 49, .int 0, .int 0, .int 0, .int 5, .int 0, .int 0, .int 0, .int 5, .ref 50, .ref 51, .ref 52, .ref 53, .ref 54, .int 0, .int 0, .ref 55, .ref 56, .ref 57, .int 0, .int 0, .int 0, .int 0, .int 0, .int 0, .ref 58, .ref 59, .ref 60, .ref 61, .ref 62, .ref 63, .ref 64, .int 0, .int 0, .ref 65, .int (x1), .ref 66, .int 0]))).set 59 (.inl (0, .inl ((List.replicate 37 0).set 34 (48)))))) rfl (by decide) rfl (by decide +kernel) (by decide) rfl ?_
    refine q_vret rfl rfl ?_
    refine bk_inl ?_
    refine q_iincv (v := (48 : Int32)) rfl rfl (by decide) (by decide +kernel) ?_
    refine q_goto (t := 12) rfl (by decide) ?_
    exact goes_48 (by omega) h2 K
set_option maxRecDepth 100000 in
set_option maxHeartbeats 4000000 in
theorem goes_46 {sc : List Int32} {D4 : Nat} {x1 x2 x3 : Int32} {Q : AR → Prop} (h1 : 46 ≤ x3.toInt) (h2 : x3.toInt ≤ 48) (K : ∀ D : Nat, Q (.inl none, ((((w1.set 9 (.inr (6, [.int (x1)]))).set 40 (.inl (0, .inl ((List.replicate 34 0).set 31 (Int32.ofNat D4))))).set 41 (.inr (8, [.int 0, .ref 42, .int 0, .int 0, .int 0, .int 0, .int 0, .int 0, .int (-1), .ref 43, .ref 44, .ref 45, .ref 46, .ref 47, .ref 48, .ref 49, .int 0, .int 0, .int 0, .int 5, .int 0, .int 0, .int 0, .int 5, .ref 50, .ref 51, .ref 52, .ref 53, .ref 54, .int 0, .int 0, .ref 55, .ref 56, .ref 57, .int 0, .int 0, .int 0, .int 0, .int 0, .int 0, .ref 58, .ref 59, .ref 60, .ref 61, .ref 62, .ref 63, .ref 64, .int 0, .int 0, .ref 65, .int (x1), .ref 66, .int 0]))).set 59 (.inl (0, .inl ((List.replicate 37 0).set 34 (Int32.ofNat D))))), 0, 0)) : Wp sc 98 253 12 [(4, .int 46), (0, .ref 41), (1, .int (x1)), (2, .int (x2)), (3, .int (x3))] [] ((((w1.set 9 (.inr (6, [.int (x1)]))).set 40 (.inl (0, .inl ((List.replicate 34 0).set 31 (Int32.ofNat D4))))).set 41 (.inr (8, [.int 0, .ref 42, .int 0, .int 0, .int 0, .int 0, .int 0, .int 0, .int (-1), .ref 43, .ref 44, .ref 45, .ref 46, .ref 47, .ref 48, .ref 49, .int 0, .int 0, .int 0, .int 5, .int 0, .int 0, .int 0, .int 5, .ref 50, .ref 51, .ref 52, .ref 53, .ref 54, .int 0, .int 0, .ref 55, .ref 56, .ref 57, .int 0, .int 0, .int 0, .int 0, .int 0, .int 0, .ref 58, .ref 59, .ref 60, .ref 61, .ref 62, .ref 63, .ref 64, .int 0, .int 0, .ref 65, .int (x1), .ref 66, .int 0]))).set 59 (.inl (0, .inl ((List.replicate 37 0).set 34 (46))))) 0 0 Q := by
  refine q_iload rfl rfl ?_
  refine q_iload_n rfl rfl ?_
  by_cases h101 : (x3).toInt ≤ 46
  · refine q_ic_ge_t (t := 159) rfl (by decide) (i_le_r (a := (46 : Int)) (b := (x3).toInt) (by decide +kernel) rfl (by omega)) ?_
    obtain rfl : x3 = (46 : Int32) := i_eq (a := (x3).toInt) (b := 46) rfl (by decide +kernel) (by omega)
    refine q_vret rfl rfl ?_
    exact K 46
  · refine q_ic_ge_f (t := 159) rfl (by decide) (i_nle_r (a := (46 : Int)) (b := (x3).toInt) (by decide +kernel) rfl (by omega)) ?_
    refine q_aload_n rfl rfl ?_
    refine q_get rfl rfl rfl rfl ?_
    refine q_if_le_t (t := 57) rfl (by decide) (i_le (a := (0 : Int)) (b := (0 : Int)) (by decide +kernel) (by decide +kernel) (by omega)) ?_
    refine q_aload_n rfl rfl ?_
    refine q_get rfl rfl rfl rfl ?_
    refine q_iconstv (v := (2 : Int32)) rfl (by decide +kernel) ?_
    refine q_ic_le_t (t := 129) rfl (by decide) (i_le (a := (0 : Int)) (b := (2 : Int)) (by decide +kernel) (by decide +kernel) (by omega)) ?_
    refine q_aload_n rfl rfl ?_
    refine q_get rfl rfl rfl rfl ?_
    refine q_if_le_t (t := 149) rfl (by decide) (i_le (a := (0 : Int)) (b := (0 : Int)) (by decide +kernel) (by decide +kernel) (by omega)) ?_
    refine q_aload_n rfl rfl ?_
    refine q_call rfl rfl rfl rfl ?_
    refine q_iconstv (v := (0 : Int32)) rfl (by decide +kernel) ?_
    refine q_istore_n rfl (by decide) ?_
    refine q_iload_n rfl rfl ?_
    refine q_aload_n rfl rfl ?_
    refine q_get rfl rfl rfl rfl ?_
    refine q_ic_ge_t (t := 41) rfl (by decide) (i_le_r (a := (0 : Int)) (b := (0 : Int)) (by decide +kernel) (by decide +kernel) (by omega)) ?_
    refine q_aload_n rfl rfl ?_
    refine q_get rfl rfl rfl rfl ?_
    refine q_bipushv (v := (34 : Int32)) rfl (by decide +kernel) ?_
    refine q_dup2 rfl ⟨rfl, rfl⟩ ?_
    refine q_ialoadv (m := 34) rfl (by decide) (by decide) rfl (by decide +kernel) rfl ?_
    refine q_iconstv (v := (1 : Int32)) rfl (by decide +kernel) ?_
    refine q_iaddv (v := (47 : Int32)) rfl (by decide +kernel) ?_
    refine q_iastorev (m := 34) (w9 := ((((w1.set 9 (.inr (6, [.int (x1)]))).set 40 (.inl (0, .inl ((List.replicate 34 0).set 31 (Int32.ofNat D4))))).set 41 (.inr (8, [.int 0, .ref 42, .int 0, .int 0, .int 0, .int 0, .int 0, .int 0, .int (-1), .ref 43, .ref 44, .ref 45, .ref 46, .ref 47, .ref 48, .ref 49, .int 0, .int 0, .int 0, .int 5, .int 0, .int 0, .int 0, .int 5, .ref 50, .ref 51, .ref 52, .ref 53, .ref 54, .int 0, .int 0, .ref 55, .ref 56, .ref 57, .int 0, .int 0, .int 0, .int 0, .int 0, .int 0, .ref 58, .ref 59, .ref 60, .ref 61, .ref 62, .ref 63, .ref 64, .int 0, .int 0, .ref 65, .int (x1), .ref 66, .int 0]))).set 59 (.inl (0, .inl ((List.replicate 37 0).set 34 (47)))))) rfl (by decide) rfl (by decide +kernel) (by decide) rfl ?_
    refine q_vret rfl rfl ?_
    refine bk_inl ?_
    refine q_iincv (v := (47 : Int32)) rfl rfl (by decide) (by decide +kernel) ?_
    refine q_goto (t := 12) rfl (by decide) ?_
    exact goes_47 (by omega) h2 K
set_option maxRecDepth 100000 in
set_option maxHeartbeats 4000000 in
theorem goes_45 {sc : List Int32} {D4 : Nat} {x1 x2 x3 : Int32} {Q : AR → Prop} (h1 : 45 ≤ x3.toInt) (h2 : x3.toInt ≤ 48) (K : ∀ D : Nat, Q (.inl none, ((((w1.set 9 (.inr (6, [.int (x1)]))).set 40 (.inl (0, .inl ((List.replicate 34 0).set 31 (Int32.ofNat D4))))).set 41 (.inr (8, [.int 0, .ref 42, .int 0, .int 0, .int 0, .int 0, .int 0, .int 0, .int (-1), .ref 43, .ref 44, .ref 45, .ref 46, .ref 47, .ref 48, .ref 49, .int 0, .int 0, .int 0, .int 5, .int 0, .int 0, .int 0, .int 5, .ref 50, .ref 51, .ref 52, .ref 53, .ref 54, .int 0, .int 0, .ref 55, .ref 56, .ref 57, .int 0, .int 0, .int 0, .int 0, .int 0, .int 0, .ref 58, .ref 59, .ref 60, .ref 61, .ref 62, .ref 63, .ref 64, .int 0, .int 0, .ref 65, .int (x1), .ref 66, .int 0]))).set 59 (.inl (0, .inl ((List.replicate 37 0).set 34 (Int32.ofNat D))))), 0, 0)) : Wp sc 98 253 12 [(4, .int 45), (0, .ref 41), (1, .int (x1)), (2, .int (x2)), (3, .int (x3))] [] ((((w1.set 9 (.inr (6, [.int (x1)]))).set 40 (.inl (0, .inl ((List.replicate 34 0).set 31 (Int32.ofNat D4))))).set 41 (.inr (8, [.int 0, .ref 42, .int 0, .int 0, .int 0, .int 0, .int 0, .int 0, .int (-1), .ref 43, .ref 44, .ref 45, .ref 46, .ref 47, .ref 48, .ref 49, .int 0, .int 0, .int 0, .int 5, .int 0, .int 0, .int 0, .int 5, .ref 50, .ref 51, .ref 52, .ref 53, .ref 54, .int 0, .int 0, .ref 55, .ref 56, .ref 57, .int 0, .int 0, .int 0, .int 0, .int 0, .int 0, .ref 58, .ref 59, .ref 60, .ref 61, .ref 62, .ref 63, .ref 64, .int 0, .int 0, .ref 65, .int (x1), .ref 66, .int 0]))).set 59 (.inl (0, .inl ((List.replicate 37 0).set 34 (45))))) 0 0 Q := by
  refine q_iload rfl rfl ?_
  refine q_iload_n rfl rfl ?_
  by_cases h101 : (x3).toInt ≤ 45
  · refine q_ic_ge_t (t := 159) rfl (by decide) (i_le_r (a := (45 : Int)) (b := (x3).toInt) (by decide +kernel) rfl (by omega)) ?_
    obtain rfl : x3 = (45 : Int32) := i_eq (a := (x3).toInt) (b := 45) rfl (by decide +kernel) (by omega)
    refine q_vret rfl rfl ?_
    exact K 45
  · refine q_ic_ge_f (t := 159) rfl (by decide) (i_nle_r (a := (45 : Int)) (b := (x3).toInt) (by decide +kernel) rfl (by omega)) ?_
    refine q_aload_n rfl rfl ?_
    refine q_get rfl rfl rfl rfl ?_
    refine q_if_le_t (t := 57) rfl (by decide) (i_le (a := (0 : Int)) (b := (0 : Int)) (by decide +kernel) (by decide +kernel) (by omega)) ?_
    refine q_aload_n rfl rfl ?_
    refine q_get rfl rfl rfl rfl ?_
    refine q_iconstv (v := (2 : Int32)) rfl (by decide +kernel) ?_
    refine q_ic_le_t (t := 129) rfl (by decide) (i_le (a := (0 : Int)) (b := (2 : Int)) (by decide +kernel) (by decide +kernel) (by omega)) ?_
    refine q_aload_n rfl rfl ?_
    refine q_get rfl rfl rfl rfl ?_
    refine q_if_le_t (t := 149) rfl (by decide) (i_le (a := (0 : Int)) (b := (0 : Int)) (by decide +kernel) (by decide +kernel) (by omega)) ?_
    refine q_aload_n rfl rfl ?_
    refine q_call rfl rfl rfl rfl ?_
    refine q_iconstv (v := (0 : Int32)) rfl (by decide +kernel) ?_
    refine q_istore_n rfl (by decide) ?_
    refine q_iload_n rfl rfl ?_
    refine q_aload_n rfl rfl ?_
    refine q_get rfl rfl rfl rfl ?_
    refine q_ic_ge_t (t := 41) rfl (by decide) (i_le_r (a := (0 : Int)) (b := (0 : Int)) (by decide +kernel) (by decide +kernel) (by omega)) ?_
    refine q_aload_n rfl rfl ?_
    refine q_get rfl rfl rfl rfl ?_
    refine q_bipushv (v := (34 : Int32)) rfl (by decide +kernel) ?_
    refine q_dup2 rfl ⟨rfl, rfl⟩ ?_
    refine q_ialoadv (m := 34) rfl (by decide) (by decide) rfl (by decide +kernel) rfl ?_
    refine q_iconstv (v := (1 : Int32)) rfl (by decide +kernel) ?_
    refine q_iaddv (v := (46 : Int32)) rfl (by decide +kernel) ?_
    refine q_iastorev (m := 34) (w9 := ((((w1.set 9 (.inr (6, [.int (x1)]))).set 40 (.inl (0, .inl ((List.replicate 34 0).set 31 (Int32.ofNat D4))))).set 41 (.inr (8, [.int 0, .ref 42, .int 0, .int 0, .int 0, .int 0, .int 0, .int 0, .int (-1), .ref 43, .ref 44, .ref 45, .ref 46, .ref 47, .ref 48, .ref 49, .int 0, .int 0, .int 0, .int 5, .int 0, .int 0, .int 0, .int 5, .ref 50, .ref 51, .ref 52, .ref 53, .ref 54, .int 0, .int 0, .ref 55, .ref 56, .ref 57, .int 0, .int 0, .int 0, .int 0, .int 0, .int 0, .ref 58, .ref 59, .ref 60, .ref 61, .ref 62, .ref 63, .ref 64, .int 0, .int 0, .ref 65, .int (x1), .ref 66, .int 0]))).set 59 (.inl (0, .inl ((List.replicate 37 0).set 34 (46)))))) rfl (by decide) rfl (by decide +kernel) (by decide) rfl ?_
    refine q_vret rfl rfl ?_
    refine bk_inl ?_
    refine q_iincv (v := (46 : Int32)) rfl rfl (by decide) (by decide +kernel) ?_
    refine q_goto (t := 12) rfl (by decide) ?_
    exact goes_46 (by omega) h2 K
set_option maxRecDepth 100000 in
set_option maxHeartbeats 4000000 in
theorem goes_44 {sc : List Int32} {D4 : Nat} {x1 x2 x3 : Int32} {Q : AR → Prop} (h1 : 44 ≤ x3.toInt) (h2 : x3.toInt ≤ 48) (K : ∀ D : Nat, Q (.inl none, ((((w1.set 9 (.inr (6, [.int (x1)]))).set 40 (.inl (0, .inl ((List.replicate 34 0).set 31 (Int32.ofNat D4))))).set 41 (.inr (8, [.int 0, .ref 42, .int 0, .int 0, .int 0, .int 0, .int 0, .int 0, .int (-1), .ref 43, .ref 44, .ref 45, .ref 46, .ref 47, .ref 48, .ref 49, .int 0, .int 0, .int 0, .int 5, .int 0, .int 0, .int 0, .int 5, .ref 50, .ref 51, .ref 52, .ref 53, .ref 54, .int 0, .int 0, .ref 55, .ref 56, .ref 57, .int 0, .int 0, .int 0, .int 0, .int 0, .int 0, .ref 58, .ref 59, .ref 60, .ref 61, .ref 62, .ref 63, .ref 64, .int 0, .int 0, .ref 65, .int (x1), .ref 66, .int 0]))).set 59 (.inl (0, .inl ((List.replicate 37 0).set 34 (Int32.ofNat D))))), 0, 0)) : Wp sc 98 253 12 [(4, .int 44), (0, .ref 41), (1, .int (x1)), (2, .int (x2)), (3, .int (x3))] [] ((((w1.set 9 (.inr (6, [.int (x1)]))).set 40 (.inl (0, .inl ((List.replicate 34 0).set 31 (Int32.ofNat D4))))).set 41 (.inr (8, [.int 0, .ref 42, .int 0, .int 0, .int 0, .int 0, .int 0, .int 0, .int (-1), .ref 43, .ref 44, .ref 45, .ref 46, .ref 47, .ref 48, .ref 49, .int 0, .int 0, .int 0, .int 5, .int 0, .int 0, .int 0, .int 5, .ref 50, .ref 51, .ref 52, .ref 53, .ref 54, .int 0, .int 0, .ref 55, .ref 56, .ref 57, .int 0, .int 0, .int 0, .int 0, .int 0, .int 0, .ref 58, .ref 59, .ref 60, .ref 61, .ref 62, .ref 63, .ref 64, .int 0, .int 0, .ref 65, .int (x1), .ref 66, .int 0]))).set 59 (.inl (0, .inl ((List.replicate 37 0).set 34 (44))))) 0 0 Q := by
  refine q_iload rfl rfl ?_
  refine q_iload_n rfl rfl ?_
  by_cases h101 : (x3).toInt ≤ 44
  · refine q_ic_ge_t (t := 159) rfl (by decide) (i_le_r (a := (44 : Int)) (b := (x3).toInt) (by decide +kernel) rfl (by omega)) ?_
    obtain rfl : x3 = (44 : Int32) := i_eq (a := (x3).toInt) (b := 44) rfl (by decide +kernel) (by omega)
    refine q_vret rfl rfl ?_
    exact K 44
  · refine q_ic_ge_f (t := 159) rfl (by decide) (i_nle_r (a := (44 : Int)) (b := (x3).toInt) (by decide +kernel) rfl (by omega)) ?_
    refine q_aload_n rfl rfl ?_
    refine q_get rfl rfl rfl rfl ?_
    refine q_if_le_t (t := 57) rfl (by decide) (i_le (a := (0 : Int)) (b := (0 : Int)) (by decide +kernel) (by decide +kernel) (by omega)) ?_
    refine q_aload_n rfl rfl ?_
    refine q_get rfl rfl rfl rfl ?_
    refine q_iconstv (v := (2 : Int32)) rfl (by decide +kernel) ?_
    refine q_ic_le_t (t := 129) rfl (by decide) (i_le (a := (0 : Int)) (b := (2 : Int)) (by decide +kernel) (by decide +kernel) (by omega)) ?_
    refine q_aload_n rfl rfl ?_
    refine q_get rfl rfl rfl rfl ?_
    refine q_if_le_t (t := 149) rfl (by decide) (i_le (a := (0 : Int)) (b := (0 : Int)) (by decide +kernel) (by decide +kernel) (by omega)) ?_
    refine q_aload_n rfl rfl ?_
    refine q_call rfl rfl rfl rfl ?_
    refine q_iconstv (v := (0 : Int32)) rfl (by decide +kernel) ?_
    refine q_istore_n rfl (by decide) ?_
    refine q_iload_n rfl rfl ?_
    refine q_aload_n rfl rfl ?_
    refine q_get rfl rfl rfl rfl ?_
    refine q_ic_ge_t (t := 41) rfl (by decide) (i_le_r (a := (0 : Int)) (b := (0 : Int)) (by decide +kernel) (by decide +kernel) (by omega)) ?_
    refine q_aload_n rfl rfl ?_
    refine q_get rfl rfl rfl rfl ?_
    refine q_bipushv (v := (34 : Int32)) rfl (by decide +kernel) ?_
    refine q_dup2 rfl ⟨rfl, rfl⟩ ?_
    refine q_ialoadv (m := 34) rfl (by decide) (by decide) rfl (by decide +kernel) rfl ?_
    refine q_iconstv (v := (1 : Int32)) rfl (by decide +kernel) ?_
    refine q_iaddv (v := (45 : Int32)) rfl (by decide +kernel) ?_
    refine q_iastorev (m := 34) (w9 := ((((w1.set 9 (.inr (6, [.int (x1)]))).set 40 (.inl (0, .inl ((List.replicate 34 0).set 31 (Int32.ofNat D4))))).set 41 (.inr (8, [.int 0, .ref 42, .int 0, .int 0, .int 0, .int 0, .int 0, .int 0, .int (-1), .ref 43, .ref 44, .ref 45, .ref 46, .ref 47, .ref 48, .ref 49, .int 0, .int 0, .int 0, .int 5, .int 0, .int 0, .int 0, .int 5, .ref 50, .ref 51, .ref 52, .ref 53, .ref 54, .int 0, .int 0, .ref 55, .ref 56, .ref 57, .int 0, .int 0, .int 0, .int 0, .int 0, .int 0, .ref 58, .ref 59, .ref 60, .ref 61, .ref 62, .ref 63, .ref 64, .int 0, .int 0, .ref 65, .int (x1), .ref 66, .int 0]))).set 59 (.inl (0, .inl ((List.replicate 37 0).set 34 (45)))))) rfl (by decide) rfl (by decide +kernel) (by decide) rfl ?_
    refine q_vret rfl rfl ?_
    refine bk_inl ?_
    refine q_iincv (v := (45 : Int32)) rfl rfl (by decide) (by decide +kernel) ?_
    refine q_goto (t := 12) rfl (by decide) ?_
    exact goes_45 (by omega) h2 K
set_option maxRecDepth 100000 in
set_option maxHeartbeats 4000000 in
theorem goes_43 {sc : List Int32} {D4 : Nat} {x1 x2 x3 : Int32} {Q : AR → Prop} (h1 : 43 ≤ x3.toInt) (h2 : x3.toInt ≤ 48) (K : ∀ D : Nat, Q (.inl none, ((((w1.set 9 (.inr (6, [.int (x1)]))).set 40 (.inl (0, .inl ((List.replicate 34 0).set 31 (Int32.ofNat D4))))).set 41 (.inr (8, [.int 0, .ref 42, .int 0, .int 0, .int 0, .int 0, .int 0, .int 0, .int (-1), .ref 43, .ref 44, .ref 45, .ref 46, .ref 47, .ref 48, .ref 49, .int 0, .int 0, .int 0, .int 5, .int 0, .int 0, .int 0, .int 5, .ref 50, .ref 51, .ref 52, .ref 53, .ref 54, .int 0, .int 0, .ref 55, .ref 56, .ref 57, .int 0, .int 0, .int 0, .int 0, .int 0, .int 0, .ref 58, .ref 59, .ref 60, .ref 61, .ref 62, .ref 63, .ref 64, .int 0, .int 0, .ref 65, .int (x1), .ref 66, .int 0]))).set 59 (.inl (0, .inl ((List.replicate 37 0).set 34 (Int32.ofNat D))))), 0, 0)) : Wp sc 98 253 12 [(4, .int 43), (0, .ref 41), (1, .int (x1)), (2, .int (x2)), (3, .int (x3))] [] ((((w1.set 9 (.inr (6, [.int (x1)]))).set 40 (.inl (0, .inl ((List.replicate 34 0).set 31 (Int32.ofNat D4))))).set 41 (.inr (8, [.int 0, .ref 42, .int 0, .int 0, .int 0, .int 0, .int 0, .int 0, .int (-1), .ref 43, .ref 44, .ref 45, .ref 46, .ref 47, .ref 48, .ref 49, .int 0, .int 0, .int 0, .int 5, .int 0, .int 0, .int 0, .int 5, .ref 50, .ref 51, .ref 52, .ref 53, .ref 54, .int 0, .int 0, .ref 55, .ref 56, .ref 57, .int 0, .int 0, .int 0, .int 0, .int 0, .int 0, .ref 58, .ref 59, .ref 60, .ref 61, .ref 62, .ref 63, .ref 64, .int 0, .int 0, .ref 65, .int (x1), .ref 66, .int 0]))).set 59 (.inl (0, .inl ((List.replicate 37 0).set 34 (43))))) 0 0 Q := by
  refine q_iload rfl rfl ?_
  refine q_iload_n rfl rfl ?_
  by_cases h101 : (x3).toInt ≤ 43
  · refine q_ic_ge_t (t := 159) rfl (by decide) (i_le_r (a := (43 : Int)) (b := (x3).toInt) (by decide +kernel) rfl (by omega)) ?_
    obtain rfl : x3 = (43 : Int32) := i_eq (a := (x3).toInt) (b := 43) rfl (by decide +kernel) (by omega)
    refine q_vret rfl rfl ?_
    exact K 43
  · refine q_ic_ge_f (t := 159) rfl (by decide) (i_nle_r (a := (43 : Int)) (b := (x3).toInt) (by decide +kernel) rfl (by omega)) ?_
    refine q_aload_n rfl rfl ?_
    refine q_get rfl rfl rfl rfl ?_
    refine q_if_le_t (t := 57) rfl (by decide) (i_le (a := (0 : Int)) (b := (0 : Int)) (by decide +kernel) (by decide +kernel) (by omega)) ?_
    refine q_aload_n rfl rfl ?_
    refine q_get rfl rfl rfl rfl ?_
    refine q_iconstv (v := (2 : Int32)) rfl (by decide +kernel) ?_
    refine q_ic_le_t (t := 129) rfl (by decide) (i_le (a := (0 : Int)) (b := (2 : Int)) (by decide +kernel) (by decide +kernel) (by omega)) ?_
    refine q_aload_n rfl rfl ?_
    refine q_get rfl rfl rfl rfl ?_
    refine q_if_le_t (t := 149) rfl (by decide) (i_le (a := (0 : Int)) (b := (0 : Int)) (by decide +kernel) (by decide +kernel) (by omega)) ?_
    refine q_aload_n rfl rfl ?_
    refine q_call rfl rfl rfl rfl ?_
    refine q_iconstv (v := (0 : Int32)) rfl (by decide +kernel) ?_
    refine q_istore_n rfl (by decide) ?_
    refine q_iload_n rfl rfl ?_
    refine q_aload_n rfl rfl ?_
    refine q_get rfl rfl rfl rfl ?_
    refine q_ic_ge_t (t := 41) rfl (by decide) (i_le_r (a := (0 : Int)) (b := (0 : Int)) (by decide +kernel) (by decide +kernel) (by omega)) ?_
    refine q_aload_n rfl rfl ?_
    refine q_get rfl rfl rfl rfl ?_
    refine q_bipushv (v := (34 : Int32)) rfl (by decide +kernel) ?_
    refine q_dup2 rfl ⟨rfl, rfl⟩ ?_
    refine q_ialoadv (m := 34) rfl (by decide) (by decide) rfl (by decide +kernel) rfl ?_
    refine q_iconstv (v := (1 : Int32)) rfl (by decide +kernel) ?_
    refine q_iaddv (v := (44 : Int32)) rfl (by decide +kernel) ?_
    refine q_iastorev (m := 34) (w9 := ((((w1.set 9 (.inr (6, [.int (x1)]))).set 40 (.inl (0, .inl ((List.replicate 34 0).set 31 (Int32.ofNat D4))))).set 41 (.inr (8, [.int 0, .ref 42, .int 0, .int 0, .int 0, .int 0, .int 0, .int 0, .int (-1), .ref 43, .ref 44, .ref 45, .ref 46, .ref 47, .ref 48, .ref 49, .int 0, .int 0, .int 0, .int 5, .int 0, .int 0, .int 0, .int 5, .ref 50, .ref 51, .ref 52, .ref 53, .ref 54, .int 0, .int 0, .ref 55, .ref 56, .ref 57, .int 0, .int 0, .int 0, .int 0, .int 0, .int 0, .ref 58, .ref 59, .ref 60, .ref 61, .ref 62, .ref 63, .ref 64, .int 0, .int 0, .ref 65, .int (x1), .ref 66, .int 0]))).set 59 (.inl (0, .inl ((List.replicate 37 0).set 34 (44)))))) rfl (by decide) rfl (by decide +kernel) (by decide) rfl ?_
    refine q_vret rfl rfl ?_
    refine bk_inl ?_
    refine q_iincv (v := (44 : Int32)) rfl rfl (by decide) (by decide +kernel) ?_
    refine q_goto (t := 12) rfl (by decide) ?_
    exact goes_44 (by omega) h2 K
set_option maxRecDepth 100000 in
set_option maxHeartbeats 4000000 in
theorem goes_42 {sc : List Int32} {D4 : Nat} {x1 x2 x3 : Int32} {Q : AR → Prop} (h1 : 42 ≤ x3.toInt) (h2 : x3.toInt ≤ 48) (K : ∀ D : Nat, Q (.inl none, ((((w1.set 9 (.inr (6, [.int (x1)]))).set 40 (.inl (0, .inl ((List.replicate 34 0).set 31 (Int32.ofNat D4))))).set 41 (.inr (8, [.int 0, .ref 42, .int 0, .int 0, .int 0, .int 0, .int 0, .int 0, .int (-1), .ref 43, .ref 44, .ref 45, .ref 46, .ref 47, .ref 48, .ref 49, .int 0, .int 0, .int 0, .int 5, .int 0, .int 0, .int 0, .int 5, .ref 50, .ref 51, .ref 52, .ref 53, .ref 54, .int 0, .int 0, .ref 55, .ref 56, .ref 57, .int 0, .int 0, .int 0, .int 0, .int 0, .int 0, .ref 58, .ref 59, .ref 60, .ref 61, .ref 62, .ref 63, .ref 64, .int 0, .int 0, .ref 65, .int (x1), .ref 66, .int 0]))).set 59 (.inl (0, .inl ((List.replicate 37 0).set 34 (Int32.ofNat D))))), 0, 0)) : Wp sc 98 253 12 [(4, .int 42), (0, .ref 41), (1, .int (x1)), (2, .int (x2)), (3, .int (x3))] [] ((((w1.set 9 (.inr (6, [.int (x1)]))).set 40 (.inl (0, .inl ((List.replicate 34 0).set 31 (Int32.ofNat D4))))).set 41 (.inr (8, [.int 0, .ref 42, .int 0, .int 0, .int 0, .int 0, .int 0, .int 0, .int (-1), .ref 43, .ref 44, .ref 45, .ref 46, .ref 47, .ref 48, .ref 49, .int 0, .int 0, .int 0, .int 5, .int 0, .int 0, .int 0, .int 5, .ref 50, .ref 51, .ref 52, .ref 53, .ref 54, .int 0, .int 0, .ref 55, .ref 56, .ref 57, .int 0, .int 0, .int 0, .int 0, .int 0, .int 0, .ref 58, .ref 59, .ref 60, .ref 61, .ref 62, .ref 63, .ref 64, .int 0, .int 0, .ref 65, .int (x1), .ref 66, .int 0]))).set 59 (.inl (0, .inl ((List.replicate 37 0).set 34 (42))))) 0 0 Q := by
  refine q_iload rfl rfl ?_
  refine q_iload_n rfl rfl ?_
  by_cases h101 : (x3).toInt ≤ 42
  · refine q_ic_ge_t (t := 159) rfl (by decide) (i_le_r (a := (42 : Int)) (b := (x3).toInt) (by decide +kernel) rfl (by omega)) ?_
    obtain rfl : x3 = (42 : Int32) := i_eq (a := (x3).toInt) (b := 42) rfl (by decide +kernel) (by omega)
    refine q_vret rfl rfl ?_
    exact K 42
  · refine q_ic_ge_f (t := 159) rfl (by decide) (i_nle_r (a := (42 : Int)) (b := (x3).toInt) (by decide +kernel) rfl (by omega)) ?_
    refine q_aload_n rfl rfl ?_
    refine q_get rfl rfl rfl rfl ?_
    refine q_if_le_t (t := 57) rfl (by decide) (i_le (a := (0 : Int)) (b := (0 : Int)) (by decide +kernel) (by decide +kernel) (by omega)) ?_
    refine q_aload_n rfl rfl ?_
    refine q_get rfl rfl rfl rfl ?_
    refine q_iconstv (v := (2 : Int32)) rfl (by decide +kernel) ?_
    refine q_ic_le_t (t := 129) rfl (by decide) (i_le (a := (0 : Int)) (b := (2 : Int)) (by decide +kernel) (by decide +kernel) (by omega)) ?_
    refine q_aload_n rfl rfl ?_
    refine q_get rfl rfl rfl rfl ?_
    refine q_if_le_t (t := 149) rfl (by decide) (i_le (a := (0 : Int)) (b := (0 : Int)) (by decide +kernel) (by decide +kernel) (by omega)) ?_
    refine q_aload_n rfl rfl ?_
    refine q_call rfl rfl rfl rfl ?_
    refine q_iconstv (v := (0 : Int32)) rfl (by decide +kernel) ?_
    refine q_istore_n rfl (by decide) ?_
    refine q_iload_n rfl rfl ?_
    refine q_aload_n rfl rfl ?_
    refine q_get rfl rfl rfl rfl ?_
    refine q_ic_ge_t (t := 41) rfl (by decide) (i_le_r (a := (0 : Int)) (b := (0 : Int)) (by decide +kernel) (by decide +kernel) (by omega)) ?_
    refine q_aload_n rfl rfl ?_
    refine q_get rfl rfl rfl rfl ?_
    refine q_bipushv (v := (34 : Int32)) rfl (by decide +kernel) ?_
    refine q_dup2 rfl ⟨rfl, rfl⟩ ?_
    refine q_ialoadv (m := 34) rfl (by decide) (by decide) rfl (by decide +kernel) rfl ?_
    refine q_iconstv (v := (1 : Int32)) rfl (by decide +kernel) ?_
    refine q_iaddv (v := (43 : Int32)) rfl (by decide +kernel) ?_
    refine q_iastorev (m := 34) (w9 := ((((w1.set 9 (.inr (6, [.int (x1)]))).set 40 (.inl (0, .inl ((List.replicate 34 0).set 31 (Int32.ofNat D4))))).set 41 (.inr (8, [.int 0, .ref 42, .int 0, .int 0, .int 0, .int 0, .int 0, .int 0, .int (-1), .ref 43, .ref 44, .ref 45, .ref 46, .ref 47, .ref 48, .ref 49, .int 0, .int 0, .int 0, .int 5, .int 0, .int 0, .int 0, .int 5, .ref 50, .ref 51, .ref 52, .ref 53, .ref 54, .int 0, .int 0, .ref 55, .ref 56, .ref 57, .int 0, .int 0, .int 0, .int 0, .int 0, .int 0, .ref 58, .ref 59, .ref 60, .ref 61, .ref 62, .ref 63, .ref 64, .int 0, .int 0, .ref 65, .int (x1), .ref 66, .int 0]))).set 59 (.inl (0, .inl ((List.replicate 37 0).set 34 (43)))))) rfl (by decide) rfl (by decide +kernel) (by decide) rfl ?_
    refine q_vret rfl rfl ?_
    refine bk_inl ?_
    refine q_iincv (v := (43 : Int32)) rfl rfl (by decide) (by decide +kernel) ?_
    refine q_goto (t := 12) rfl (by decide) ?_
    exact goes_43 (by omega) h2 K
set_option maxRecDepth 100000 in
set_option maxHeartbeats 4000000 in
theorem goes_41 {sc : List Int32} {D4 : Nat} {x1 x2 x3 : Int32} {Q : AR → Prop} (h1 : 41 ≤ x3.toInt) (h2 : x3.toInt ≤ 48) (K : ∀ D : Nat, Q (.inl none, ((((w1.set 9 (.inr (6, [.int (x1)]))).set 40 (.inl (0, .inl ((List.replicate 34 0).set 31 (Int32.ofNat D4))))).set 41 (.inr (8, [.int 0, .ref 42, .int 0, .int 0, .int 0, .int 0, .int 0, .int 0, .int (-1), .ref 43, .ref 44, .ref 45, .ref 46, .ref 47, .ref 48, .ref 49, .int 0, .int 0, .int 0, .int 5, .int 0, .int 0, .int 0, .int 5, .ref 50, .ref 51, .ref 52, .ref 53, .ref 54, .int 0, .int 0, .ref 55, .ref 56, .ref 57, .int 0, .int 0, .int 0, .int 0, .int 0, .int 0, .ref 58, .ref 59, .ref 60, .ref 61, .ref 62, .ref 63, .ref 64, .int 0, .int 0, .ref 65, .int (x1), .ref 66, .int 0]))).set 59 (.inl (0, .inl ((List.replicate 37 0).set 34 (Int32.ofNat D))))), 0, 0)) : Wp sc 98 253 12 [(4, .int 41), (0, .ref 41), (1, .int (x1)), (2, .int (x2)), (3, .int (x3))] [] ((((w1.set 9 (.inr (6, [.int (x1)]))).set 40 (.inl (0, .inl ((List.replicate 34 0).set 31 (Int32.ofNat D4))))).set 41 (.inr (8, [.int 0, .ref 42, .int 0, .int 0, .int 0, .int 0, .int 0, .int 0, .int (-1), .ref 43, .ref 44, .ref 45, .ref 46, .ref 47, .ref 48, .ref 49, .int 0, .int 0, .int 0, .int 5, .int 0, .int 0, .int 0, .int 5, .ref 50, .ref 51, .ref 52, .ref 53, .ref 54, .int 0, .int 0, .ref 55, .ref 56, .ref 57, .int 0, .int 0, .int 0, .int 0, .int 0, .int 0, .ref 58, .ref 59, .ref 60, .ref 61, .ref 62, .ref 63, .ref 64, .int 0, .int 0, .ref 65, .int (x1), .ref 66, .int 0]))).set 59 (.inl (0, .inl ((List.replicate 37 0).set 34 (41))))) 0 0 Q := by
  refine q_iload rfl rfl ?_
  refine q_iload_n rfl rfl ?_
  by_cases h101 : (x3).toInt ≤ 41
  · refine q_ic_ge_t (t := 159) rfl (by decide) (i_le_r (a := (41 : Int)) (b := (x3).toInt) (by decide +kernel) rfl (by omega)) ?_
    obtain rfl : x3 = (41 : Int32) := i_eq (a := (x3).toInt) (b := 41) rfl (by decide +kernel) (by omega)
    refine q_vret rfl rfl ?_
    exact K 41
  · refine q_ic_ge_f (t := 159) rfl (by decide) (i_nle_r (a := (41 : Int)) (b := (x3).toInt) (by decide +kernel) rfl (by omega)) ?_
    refine q_aload_n rfl rfl ?_
    refine q_get rfl rfl rfl rfl ?_
    refine q_if_le_t (t := 57) rfl (by decide) (i_le (a := (0 : Int)) (b := (0 : Int)) (by decide +kernel) (by decide +kernel) (by omega)) ?_
    refine q_aload_n rfl rfl ?_
    refine q_get rfl rfl rfl rfl ?_
    refine q_iconstv (v := (2 : Int32)) rfl (by decide +kernel) ?_
    refine q_ic_le_t (t := 129) rfl (by decide) (i_le (a := (0 : Int)) (b := (2 : Int)) (by decide +kernel) (by decide +kernel) (by omega)) ?_
    refine q_aload_n rfl rfl ?_
    refine q_get rfl rfl rfl rfl ?_
    refine q_if_le_t (t := 149) rfl (by decide) (i_le (a := (0 : Int)) (b := (0 : Int)) (by decide +kernel) (by decide +kernel) (by omega)) ?_
    refine q_aload_n rfl rfl ?_
    refine q_call rfl rfl rfl rfl ?_
    refine q_iconstv (v := (0 : Int32)) rfl (by decide +kernel) ?_
    refine q_istore_n rfl (by decide) ?_
    refine q_iload_n rfl rfl ?_
    refine q_aload_n rfl rfl ?_
    refine q_get rfl rfl rfl rfl ?_
    refine q_ic_ge_t (t := 41) rfl (by decide) (i_le_r (a := (0 : Int)) (b := (0 : Int)) (by decide +kernel) (by decide +kernel) (by omega)) ?_
    refine q_aload_n rfl rfl ?_
    refine q_get rfl rfl rfl rfl ?_
    refine q_bipushv (v := (34 : Int32)) rfl (by decide +kernel) ?_
    refine q_dup2 rfl ⟨rfl, rfl⟩ ?_
    refine q_ialoadv (m := 34) rfl (by decide) (by decide) rfl (by decide +kernel) rfl ?_
    refine q_iconstv (v := (1 : Int32)) rfl (by decide +kernel) ?_
    refine q_iaddv (v := (42 : Int32)) rfl (by decide +kernel) ?_
    refine q_iastorev (m := 34) (w9 := ((((w1.set 9 (.inr (6, [.int (x1)]))).set 40 (.inl (0, .inl ((List.replicate 34 0).set 31 (Int32.ofNat D4))))).set 41 (.inr (8, [.int 0, .ref 42, .int 0, .int 0, .int 0, .int 0, .int 0, .int 0, .int (-1), .ref 43, .ref 44, .ref 45, .ref 46, .ref 47, .ref 48, .ref 49, .int 0, .int 0, .int 0, .int 5, .int 0, .int 0, .int 0, .int 5, .ref 50, .ref 51, .ref 52, .ref 53, .ref 54, .int 0, .int 0, .ref 55, .ref 56, .ref 57, .int 0, .int 0, .int 0, .int 0, .int 0, .int 0, .ref 58, .ref 59, .ref 60, .ref 61, .ref 62, .ref 63, .ref 64, .int 0, .int 0, .ref 65, .int (x1), .ref 66, .int 0]))).set 59 (.inl (0, .inl ((List.replicate 37 0).set 34 (42)))))) rfl (by decide) rfl (by decide +kernel) (by decide) rfl ?_
    refine q_vret rfl rfl ?_
    refine bk_inl ?_
    refine q_iincv (v := (42 : Int32)) rfl rfl (by decide) (by decide +kernel) ?_
    refine q_goto (t := 12) rfl (by decide) ?_
    exact goes_42 (by omega) h2 K
set_option maxRecDepth 100000 in
set_option maxHeartbeats 4000000 in
theorem goes_40 {sc : List Int32} {D4 : Nat} {x1 x2 x3 : Int32} {Q : AR → Prop} (h1 : 40 ≤ x3.toInt) (h2 : x3.toInt ≤ 48) (K : ∀ D : Nat, Q (.inl none, ((((w1.set 9 (.inr (6, [.int (x1)]))).set 40 (.inl (0, .inl ((List.replicate 34 0).set 31 (Int32.ofNat D4))))).set 41 (.inr (8, [.int 0, .ref 42, .int 0, .int 0, .int 0, .int 0, .int 0, .int 0, .int (-1), .ref 43, .ref 44, .ref 45, .ref 46, .ref 47, .ref 48, .ref 49, .int 0, .int 0, .int 0, .int 5, .int 0, .int 0, .int 0, .int 5, .ref 50, .ref 51, .ref 52, .ref 53, .ref 54, .int 0, .int 0, .ref 55, .ref 56, .ref 57, .int 0, .int 0, .int 0, .int 0, .int 0, .int 0, .ref 58, .ref 59, .ref 60, .ref 61, .ref 62, .ref 63, .ref 64, .int 0, .int 0, .ref 65, .int (x1), .ref 66, .int 0]))).set 59 (.inl (0, .inl ((List.replicate 37 0).set 34 (Int32.ofNat D))))), 0, 0)) : Wp sc 98 253 12 [(4, .int 40), (0, .ref 41), (1, .int (x1)), (2, .int (x2)), (3, .int (x3))] [] ((((w1.set 9 (.inr (6, [.int (x1)]))).set 40 (.inl (0, .inl ((List.replicate 34 0).set 31 (Int32.ofNat D4))))).set 41 (.inr (8, [.int 0, .ref 42, .int 0, .int 0, .int 0, .int 0, .int 0, .int 0, .int (-1), .ref 43, .ref 44, .ref 45, .ref 46, .ref 47, .ref 48, .ref 49, .int 0, .int 0, .int 0, .int 5, .int 0, .int 0, .int 0, .int 5, .ref 50, .ref 51, .ref 52, .ref 53, .ref 54, .int 0, .int 0, .ref 55, .ref 56, .ref 57, .int 0, .int 0, .int 0, .int 0, .int 0, .int 0, .ref 58, .ref 59, .ref 60, .ref 61, .ref 62, .ref 63, .ref 64, .int 0, .int 0, .ref 65, .int (x1), .ref 66, .int 0]))).set 59 (.inl (0, .inl ((List.replicate 37 0).set 34 (40))))) 0 0 Q := by
  refine q_iload rfl rfl ?_
  refine q_iload_n rfl rfl ?_
  by_cases h101 : (x3).toInt ≤ 40
  · refine q_ic_ge_t (t := 159) rfl (by decide) (i_le_r (a := (40 : Int)) (b := (x3).toInt) (by decide +kernel) rfl (by omega)) ?_
    obtain rfl : x3 = (40 : Int32) := i_eq (a := (x3).toInt) (b := 40) rfl (by decide +kernel) (by omega)
    refine q_vret rfl rfl ?_
    exact K 40
  · refine q_ic_ge_f (t := 159) rfl (by decide) (i_nle_r (a := (40 : Int)) (b := (x3).toInt) (by decide +kernel) rfl (by omega)) ?_
    refine q_aload_n rfl rfl ?_
    refine q_get rfl rfl rfl rfl ?_
    refine q_if_le_t (t := 57) rfl (by decide) (i_le (a := (0 : Int)) (b := (0 : Int)) (by decide +kernel) (by decide +kernel) (by omega)) ?_
    refine q_aload_n rfl rfl ?_
    refine q_get rfl rfl rfl rfl ?_
    refine q_iconstv (v := (2 : Int32)) rfl (by decide +kernel) ?_
    refine q_ic_le_t (t := 129) rfl (by decide) (i_le (a := (0 : Int)) (b := (2 : Int)) (by decide +kernel) (by decide +kernel) (by omega)) ?_
    refine q_aload_n rfl rfl ?_
    refine q_get rfl rfl rfl rfl ?_
    refine q_if_le_t (t := 149) rfl (by decide) (i_le (a := (0 : Int)) (b := (0 : Int)) (by decide +kernel) (by decide +kernel) (by omega)) ?_
    refine q_aload_n rfl rfl ?_
    refine q_call rfl rfl rfl rfl ?_
    refine q_iconstv (v := (0 : Int32)) rfl (by decide +kernel) ?_
    refine q_istore_n rfl (by decide) ?_
    refine q_iload_n rfl rfl ?_
    refine q_aload_n rfl rfl ?_
    refine q_get rfl rfl rfl rfl ?_
    refine q_ic_ge_t (t := 41) rfl (by decide) (i_le_r (a := (0 : Int)) (b := (0 : Int)) (by decide +kernel) (by decide +kernel) (by omega)) ?_
    refine q_aload_n rfl rfl ?_
    refine q_get rfl rfl rfl rfl ?_
    refine q_bipushv (v := (34 : Int32)) rfl (by decide +kernel) ?_
    refine q_dup2 rfl ⟨rfl, rfl⟩ ?_
    refine q_ialoadv (m := 34) rfl (by decide) (by decide) rfl (by decide +kernel) rfl ?_
    refine q_iconstv (v := (1 : Int32)) rfl (by decide +kernel) ?_
    refine q_iaddv (v := (41 : Int32)) rfl (by decide +kernel) ?_
    refine q_iastorev (m := 34) (w9 := ((((w1.set 9 (.inr (6, [.int (x1)]))).set 40 (.inl (0, .inl ((List.replicate 34 0).set 31 (Int32.ofNat D4))))).set 41 (.inr (8, [.int 0, .ref 42, .int 0, .int 0, .int 0, .int 0, .int 0, .int 0, .int (-1), .ref 43, .ref 44, .ref 45, .ref 46, .ref 47, .ref 48, .ref 49, .int 0, .int 0, .int 0, .int 5, .int 0, .int 0, .int 0, .int 5, .ref 50, .ref 51, .ref 52, .ref 53, .ref 54, .int 0, .int 0, .ref 55, .ref 56, .ref 57, .int 0, .int 0, .int 0, .int 0, .int 0, .int 0, .ref 58, .ref 59, .ref 60, .ref 61, .ref 62, .ref 63, .ref 64, .int 0, .int 0, .ref 65, .int (x1), .ref 66, .int 0]))).set 59 (.inl (0, .inl ((List.replicate 37 0).set 34 (41)))))) rfl (by decide) rfl (by decide +kernel) (by decide) rfl ?_
    refine q_vret rfl rfl ?_
    refine bk_inl ?_
    refine q_iincv (v := (41 : Int32)) rfl rfl (by decide) (by decide +kernel) ?_
    refine q_goto (t := 12) rfl (by decide) ?_
    exact goes_41 (by omega) h2 K
set_option maxRecDepth 100000 in
set_option maxHeartbeats 4000000 in
theorem goes_39 {sc : List Int32} {D4 : Nat} {x1 x2 x3 : Int32} {Q : AR → Prop} (h1 : 39 ≤ x3.toInt) (h2 : x3.toInt ≤ 48) (K : ∀ D : Nat, Q (.inl none, ((((w1.set 9 (.inr (6, [.int (x1)]))).set 40 (.inl (0, .inl ((List.replicate 34 0).set 31 (Int32.ofNat D4))))).set 41 (.inr (8, [.int 0, .ref 42, .int 0, .int 0, .int 0, .int 0, .int 0, .int 0, .int (-1), .ref 43, .ref 44, .ref 45, .ref 46, .ref 47, .ref 48, .ref 49, .int 0, .int 0, .int 0, .int 5, .int 0, .int 0, .int 0, .int 5, .ref 50, .ref 51, .ref 52, .ref 53, .ref 54, .int 0, .int 0, .ref 55, .ref 56, .ref 57, .int 0, .int 0, .int 0, .int 0, .int 0, .int 0, .ref 58, .ref 59, .ref 60, .ref 61, .ref 62, .ref 63, .ref 64, .int 0, .int 0, .ref 65, .int (x1), .ref 66, .int 0]))).set 59 (.inl (0, .inl ((List.replicate 37 0).set 34 (Int32.ofNat D))))), 0, 0)) : Wp sc 98 253 12 [(4, .int 39), (0, .ref 41), (1, .int (x1)), (2, .int (x2)), (3, .int (x3))] [] ((((w1.set 9 (.inr (6, [.int (x1)]))).set 40 (.inl (0, .inl ((List.replicate 34 0).set 31 (Int32.ofNat D4))))).set 41 (.inr (8, [.int 0, .ref 42, .int 0, .int 0, .int 0, .int 0, .int 0, .int 0, .int (-1), .ref 43, .ref 44, .ref 45, .ref 46, .ref 47, .ref 48, .ref 49, .int 0, .int 0, .int 0, .int 5, .int 0, .int 0, .int 0, .int 5, .ref 50, .ref 51, .ref 52, .ref 53, .ref 54, .int 0, .int 0, .ref 55, .ref 56, .ref 57, .int 0, .int 0, .int 0, .int 0, .int 0, .int 0, .ref 58, .ref 59, .ref 60, .ref 61, .ref 62, .ref 63, .ref 64, .int 0, .int 0, .ref 65, .int (x1), .ref 66, .int 0]))).set 59 (.inl (0, .inl ((List.replicate 37 0).set 34 (39))))) 0 0 Q := by
  refine q_iload rfl rfl ?_
  refine q_iload_n rfl rfl ?_
  by_cases h101 : (x3).toInt ≤ 39
  · refine q_ic_ge_t (t := 159) rfl (by decide) (i_le_r (a := (39 : Int)) (b := (x3).toInt) (by decide +kernel) rfl (by omega)) ?_
    obtain rfl : x3 = (39 : Int32) := i_eq (a := (x3).toInt) (b := 39) rfl (by decide +kernel) (by omega)
    refine q_vret rfl rfl ?_
    exact K 39
  · refine q_ic_ge_f (t := 159) rfl (by decide) (i_nle_r (a := (39 : Int)) (b := (x3).toInt) (by decide +kernel) rfl (by omega)) ?_
    refine q_aload_n rfl rfl ?_
    refine q_get rfl rfl rfl rfl ?_
    refine q_if_le_t (t := 57) rfl (by decide) (i_le (a := (0 : Int)) (b := (0 : Int)) (by decide +kernel) (by decide +kernel) (by omega)) ?_
    refine q_aload_n rfl rfl ?_
    refine q_get rfl rfl rfl rfl ?_
    refine q_iconstv (v := (2 : Int32)) rfl (by decide +kernel) ?_
    refine q_ic_le_t (t := 129) rfl (by decide) (i_le (a := (0 : Int)) (b := (2 : Int)) (by decide +kernel) (by decide +kernel) (by omega)) ?_
    refine q_aload_n rfl rfl ?_
    refine q_get rfl rfl rfl rfl ?_
    refine q_if_le_t (t := 149) rfl (by decide) (i_le (a := (0 : Int)) (b := (0 : Int)) (by decide +kernel) (by decide +kernel) (by omega)) ?_
    refine q_aload_n rfl rfl ?_
    refine q_call rfl rfl rfl rfl ?_
    refine q_iconstv (v := (0 : Int32)) rfl (by decide +kernel) ?_
    refine q_istore_n rfl (by decide) ?_
    refine q_iload_n rfl rfl ?_
    refine q_aload_n rfl rfl ?_
    refine q_get rfl rfl rfl rfl ?_
    refine q_ic_ge_t (t := 41) rfl (by decide) (i_le_r (a := (0 : Int)) (b := (0 : Int)) (by decide +kernel) (by decide +kernel) (by omega)) ?_
    refine q_aload_n rfl rfl ?_
    refine q_get rfl rfl rfl rfl ?_
    refine q_bipushv (v := (34 : Int32)) rfl (by decide +kernel) ?_
    refine q_dup2 rfl ⟨rfl, rfl⟩ ?_
    refine q_ialoadv (m := 34) rfl (by decide) (by decide) rfl (by decide +kernel) rfl ?_
    refine q_iconstv (v := (1 : Int32)) rfl (by decide +kernel) ?_
    refine q_iaddv (v := (40 : Int32)) rfl (by decide +kernel) ?_
    refine q_iastorev (m := 34) (w9 := ((((w1.set 9 (.inr (6, [.int (x1)]))).set 40 (.inl (0, .inl ((List.replicate 34 0).set 31 (Int32.ofNat D4))))).set 41 (.inr (8, [.int 0, .ref 42, .int 0, .int 0, .int 0, .int 0, .int 0, .int 0, .int (-1), .ref 43, .ref 44, .ref 45, .ref 46, .ref 47, .ref 48, .ref 49, .int 0, .int 0, .int 0, .int 5, .int 0, .int 0, .int 0, .int 5, .ref 50, .ref 51, .ref 52, .ref 53, .ref 54, .int 0, .int 0, .ref 55, .ref 56, .ref 57, .int 0, .int 0, .int 0, .int 0, .int 0, .int 0, .ref 58, .ref 59, .ref 60, .ref 61, .ref 62, .ref 63, .ref 64, .int 0, .int 0, .ref 65, .int (x1), .ref 66, .int 0]))).set 59 (.inl (0, .inl ((List.replicate 37 0).set 34 (40)))))) rfl (by decide) rfl (by decide +kernel) (by decide) rfl ?_
    refine q_vret rfl rfl ?_
    refine bk_inl ?_
    refine q_iincv (v := (40 : Int32)) rfl rfl (by decide) (by decide +kernel) ?_
    refine q_goto (t := 12) rfl (by decide) ?_
    exact goes_40 (by omega) h2 K
set_option maxRecDepth 100000 in
set_option maxHeartbeats 4000000 in
theorem goes_38 {sc : List Int32} {D4 : Nat} {x1 x2 x3 : Int32} {Q : AR → Prop} (h1 : 38 ≤ x3.toInt) (h2 : x3.toInt ≤ 48) (K : ∀ D : Nat, Q (.inl none, ((((w1.set 9 (.inr (6, [.int (x1)]))).set 40 (.inl (0, .inl ((List.replicate 34 0).set 31 (Int32.ofNat D4))))).set 41 (.inr (8, [.int 0, .ref 42, .int 0, .int 0, .int 0, .int 0, .int 0, .int 0, .int (-1), .ref 43, .ref 44, .ref 45, .ref 46, .ref 47, .ref 48, .ref 49, .int 0, .int 0, .int 0, .int 5, .int 0, .int 0, .int 0, .int 5, .ref 50, .ref 51, .ref 52, .ref 53, .ref 54, .int 0, .int 0, .ref 55, .ref 56, .ref 57, .int 0, .int 0, .int 0, .int 0, .int 0, .int 0, .ref 58, .ref 59, .ref 60, .ref 61, .ref 62, .ref 63, .ref 64, .int 0, .int 0, .ref 65, .int (x1), .ref 66, .int 0]))).set 59 (.inl (0, .inl ((List.replicate 37 0).set 34 (Int32.ofNat D))))), 0, 0)) : Wp sc 98 253 12 [(4, .int 38), (0, .ref 41), (1, .int (x1)), (2, .int (x2)), (3, .int (x3))] [] ((((w1.set 9 (.inr (6, [.int (x1)]))).set 40 (.inl (0, .inl ((List.replicate 34 0).set 31 (Int32.ofNat D4))))).set 41 (.inr (8, [.int 0, .ref 42, .int 0, .int 0, .int 0, .int 0, .int 0, .int 0, .int (-1), .ref 43, .ref 44, .ref 45, .ref 46, .ref 47, .ref 48, .ref 49, .int 0, .int 0, .int 0, .int 5, .int 0, .int 0, .int 0, .int 5, .ref 50, .ref 51, .ref 52, .ref 53, .ref 54, .int 0, .int 0, .ref 55, .ref 56, .ref 57, .int 0, .int 0, .int 0, .int 0, .int 0, .int 0, .ref 58, .ref 59, .ref 60, .ref 61, .ref 62, .ref 63, .ref 64, .int 0, .int 0, .ref 65, .int (x1), .ref 66, .int 0]))).set 59 (.inl (0, .inl ((List.replicate 37 0).set 34 (38))))) 0 0 Q := by
  refine q_iload rfl rfl ?_
  refine q_iload_n rfl rfl ?_
  by_cases h101 : (x3).toInt ≤ 38
  · refine q_ic_ge_t (t := 159) rfl (by decide) (i_le_r (a := (38 : Int)) (b := (x3).toInt) (by decide +kernel) rfl (by omega)) ?_
    obtain rfl : x3 = (38 : Int32) := i_eq (a := (x3).toInt) (b := 38) rfl (by decide +kernel) (by omega)
    refine q_vret rfl rfl ?_
    exact K 38
  · refine q_ic_ge_f (t := 159) rfl (by decide) (i_nle_r (a := (38 : Int)) (b := (x3).toInt) (by decide +kernel) rfl (by omega)) ?_
    refine q_aload_n rfl rfl ?_
    refine q_get rfl rfl rfl rfl ?_
    refine q_if_le_t (t := 57) rfl (by decide) (i_le (a := (0 : Int)) (b := (0 : Int)) (by decide +kernel) (by decide +kernel) (by omega)) ?_
    refine q_aload_n rfl rfl ?_
    refine q_get rfl rfl rfl rfl ?_
    refine q_iconstv (v := (2 : Int32)) rfl (by decide +kernel) ?_
    refine q_ic_le_t (t := 129) rfl (by decide) (i_le (a := (0 : Int)) (b := (2 : Int)) (by decide +kernel) (by decide +kernel) (by omega)) ?_
    refine q_aload_n rfl rfl ?_
    refine q_get rfl rfl rfl rfl ?_
    refine q_if_le_t (t := 149) rfl (by decide) (i_le (a := (0 : Int)) (b := (0 : Int)) (by decide +kernel) (by decide +kernel) (by omega)) ?_
    refine q_aload_n rfl rfl ?_
    refine q_call rfl rfl rfl rfl ?_
    refine q_iconstv (v := (0 : Int32)) rfl (by decide +kernel) ?_
    refine q_istore_n rfl (by decide) ?_
    refine q_iload_n rfl rfl ?_
    refine q_aload_n rfl rfl ?_
    refine q_get rfl rfl rfl rfl ?_
    refine q_ic_ge_t (t := 41) rfl (by decide) (i_le_r (a := (0 : Int)) (b := (0 : Int)) (by decide +kernel) (by decide +kernel) (by omega)) ?_
    refine q_aload_n rfl rfl ?_
    refine q_get rfl rfl rfl rfl ?_
    refine q_bipushv (v := (34 : Int32)) rfl (by decide +kernel) ?_
    refine q_dup2 rfl ⟨rfl, rfl⟩ ?_
    refine q_ialoadv (m := 34) rfl (by decide) (by decide) rfl (by decide +kernel) rfl ?_
    refine q_iconstv (v := (1 : Int32)) rfl (by decide +kernel) ?_
    refine q_iaddv (v := (39 : Int32)) rfl (by decide +kernel) ?_
    refine q_iastorev (m := 34) (w9 := ((((w1.set 9 (.inr (6, [.int (x1)]))).set 40 (.inl (0, .inl ((List.replicate 34 0).set 31 (Int32.ofNat D4))))).set 41 (.inr (8, [.int 0, .ref 42, .int 0, .int 0, .int 0, .int 0, .int 0, .int 0, .int (-1), .ref 43, .ref 44, .ref 45, .ref 46, .ref 47, .ref 48, .ref 49, .int 0, .int 0, .int 0, .int 5, .int 0, .int 0, .int 0, .int 5, .ref 50, .ref 51, .ref 52, .ref 53, .ref 54, .int 0, .int 0, .ref 55, .ref 56, .ref 57, .int 0, .int 0, .int 0, .int 0, .int 0, .int 0, .ref 58, .ref 59, .ref 60, .ref 61, .ref 62, .ref 63, .ref 64, .int 0, .int 0, .ref 65, .int (x1), .ref 66, .int 0]))).set 59 (.inl (0, .inl ((List.replicate 37 0).set 34 (39)))))) rfl (by decide) rfl (by decide +kernel) (by decide) rfl ?_
    refine q_vret rfl rfl ?_
    refine bk_inl ?_
    refine q_iincv (v := (39 : Int32)) rfl rfl (by decide) (by decide +kernel) ?_
    refine q_goto (t := 12) rfl (by decide) ?_
    exact goes_39 (by omega) h2 K
set_option maxRecDepth 100000 in
set_option maxHeartbeats 4000000 in
theorem goes_37 {sc : List Int32} {D4 : Nat} {x1 x2 x3 : Int32} {Q : AR → Prop} (h1 : 37 ≤ x3.toInt) (h2 : x3.toInt ≤ 48) (K : ∀ D : Nat, Q (.inl none, ((((w1.set 9 (.inr (6, [.int (x1)]))).set 40 (.inl (0, .inl ((List.replicate 34 0).set 31 (Int32.ofNat D4))))).set 41 (.inr (8, [.int 0, .ref 42, .int 0, .int 0, .int 0, .int 0, .int 0, .int 0, .int (-1), .ref 43, .ref 44, .ref 45, .ref 46, .ref 47, .ref 48, .ref 49, .int 0, .int 0, .int 0, .int 5, .int 0, .int 0, .int 0, .int 5, .ref 50, .ref 51, .ref 52, .ref 53, .ref 54, .int 0, .int 0, .ref 55, .ref 56, .ref 57, .int 0, .int 0, .int 0, .int 0, .int 0, .int 0, .ref 58, .ref 59, .ref 60, .ref 61, .ref 62, .ref 63, .ref 64, .int 0, .int 0, .ref 65, .int (x1), .ref 66, .int 0]))).set 59 (.inl (0, .inl ((List.replicate 37 0).set 34 (Int32.ofNat D))))), 0, 0)) : Wp sc 98 253 12 [(4, .int 37), (0, .ref 41), (1, .int (x1)), (2, .int (x2)), (3, .int (x3))] [] ((((w1.set 9 (.inr (6, [.int (x1)]))).set 40 (.inl (0, .inl ((List.replicate 34 0).set 31 (Int32.ofNat D4))))).set 41 (.inr (8, [.int 0, .ref 42, .int 0, .int 0, .int 0, .int 0, .int 0, .int 0, .int (-1), .ref 43, .ref 44, .ref 45, .ref 46, .ref 47, .ref 48, .ref 49, .int 0, .int 0, .int 0, .int 5, .int 0, .int 0, .int 0, .int 5, .ref 50, .ref 51, .ref 52, .ref 53, .ref 54, .int 0, .int 0, .ref 55, .ref 56, .ref 57, .int 0, .int 0, .int 0, .int 0, .int 0, .int 0, .ref 58, .ref 59, .ref 60, .ref 61, .ref 62, .ref 63, .ref 64, .int 0, .int 0, .ref 65, .int (x1), .ref 66, .int 0]))).set 59 (.inl (0, .inl ((List.replicate 37 0).set 34 (37))))) 0 0 Q := by
  refine q_iload rfl rfl ?_
  refine q_iload_n rfl rfl ?_
  by_cases h101 : (x3).toInt ≤ 37
  · refine q_ic_ge_t (t := 159) rfl (by decide) (i_le_r (a := (37 : Int)) (b := (x3).toInt) (by decide +kernel) rfl (by omega)) ?_
    obtain rfl : x3 = (37 : Int32) := i_eq (a := (x3).toInt) (b := 37) rfl (by decide +kernel) (by omega)
    refine q_vret rfl rfl ?_
    exact K 37
  · refine q_ic_ge_f (t := 159) rfl (by decide) (i_nle_r (a := (37 : Int)) (b := (x3).toInt) (by decide +kernel) rfl (by omega)) ?_
    refine q_aload_n rfl rfl ?_
    refine q_get rfl rfl rfl rfl ?_
    refine q_if_le_t (t := 57) rfl (by decide) (i_le (a := (0 : Int)) (b := (0 : Int)) (by decide +kernel) (by decide +kernel) (by omega)) ?_
    refine q_aload_n rfl rfl ?_
    refine q_get rfl rfl rfl rfl ?_
    refine q_iconstv (v := (2 : Int32)) rfl (by decide +kernel) ?_
    refine q_ic_le_t (t := 129) rfl (by decide) (i_le (a := (0 : Int)) (b := (2 : Int)) (by decide +kernel) (by decide +kernel) (by omega)) ?_
    refine q_aload_n rfl rfl ?_
    refine q_get rfl rfl rfl rfl ?_
    refine q_if_le_t (t := 149) rfl (by decide) (i_le (a := (0 : Int)) (b := (0 : Int)) (by decide +kernel) (by decide +kernel) (by omega)) ?_
    refine q_aload_n rfl rfl ?_
    refine q_call rfl rfl rfl rfl ?_
    refine q_iconstv (v := (0 : Int32)) rfl (by decide +kernel) ?_
    refine q_istore_n rfl (by decide) ?_
    refine q_iload_n rfl rfl ?_
    refine q_aload_n rfl rfl ?_
    refine q_get rfl rfl rfl rfl ?_
    refine q_ic_ge_t (t := 41) rfl (by decide) (i_le_r (a := (0 : Int)) (b := (0 : Int)) (by decide +kernel) (by decide +kernel) (by omega)) ?_
    refine q_aload_n rfl rfl ?_
    refine q_get rfl rfl rfl rfl ?_
    refine q_bipushv (v := (34 : Int32)) rfl (by decide +kernel) ?_
    refine q_dup2 rfl ⟨rfl, rfl⟩ ?_
    refine q_ialoadv (m := 34) rfl (by decide) (by decide) rfl (by decide +kernel) rfl ?_
    refine q_iconstv (v := (1 : Int32)) rfl (by decide +kernel) ?_
    refine q_iaddv (v := (38 : Int32)) rfl (by decide +kernel) ?_
    refine q_iastorev (m := 34) (w9 := ((((w1.set 9 (.inr (6, [.int (x1)]))).set 40 (.inl (0, .inl ((List.replicate 34 0).set 31 (Int32.ofNat D4))))).set 41 (.inr (8, [.int 0, .ref 42, .int 0, .int 0, .int 0, .int 0, .int 0, .int 0, .int (-1), .ref 43, .ref 44, .ref 45, .ref 46, .ref 47, .ref 48, .ref 49, .int 0, .int 0, .int 0, .int 5, .int 0, .int 0, .int 0, .int 5, .ref 50, .ref 51, .ref 52, .ref 53, .ref 54, .int 0, .int 0, .ref 55, .ref 56, .ref 57, .int 0, .int 0, .int 0, .int 0, .int 0, .int 0, .ref 58, .ref 59, .ref 60, .ref 61, .ref 62, .ref 63, .ref 64, .int 0, .int 0, .ref 65, .int (x1), .ref 66, .int 0]))).set 59 (.inl (0, .inl ((List.replicate 37 0).set 34 (38)))))) rfl (by decide) rfl (by decide +kernel) (by decide) rfl ?_
    refine q_vret rfl rfl ?_
    refine bk_inl ?_
    refine q_iincv (v := (38 : Int32)) rfl rfl (by decide) (by decide +kernel) ?_
    refine q_goto (t := 12) rfl (by decide) ?_
    exact goes_38 (by omega) h2 K
set_option maxRecDepth 100000 in
set_option maxHeartbeats 4000000 in
theorem goes_36 {sc : List Int32} {D4 : Nat} {x1 x2 x3 : Int32} {Q : AR → Prop} (h1 : 36 ≤ x3.toInt) (h2 : x3.toInt ≤ 48) (K : ∀ D : Nat, Q (.inl none, ((((w1.set 9 (.inr (6, [.int (x1)]))).set 40 (.inl (0, .inl ((List.replicate 34 0).set 31 (Int32.ofNat D4))))).set 41 (.inr (8, [.int 0, .ref 42, .int 0, .int 0, .int 0, .int 0, .int 0, .int 0, .int (-1), .ref 43, .ref 44, .ref 45, .ref 46, .ref 47, .ref 48, .ref 49, .int 0, .int 0, .int 0, .int 5, .int 0, .int 0, .int 0, .int 5, .ref 50, .ref 51, .ref 52, .ref 53, .ref 54, .int 0, .int 0, .ref 55, .ref 56, .ref 57, .int 0, .int 0, .int 0, .int 0, .int 0, .int 0, .ref 58, .ref 59, .ref 60, .ref 61, .ref 62, .ref 63, .ref 64, .int 0, .int 0, .ref 65, .int (x1), .ref 66, .int 0]))).set 59 (.inl (0, .inl ((List.replicate 37 0).set 34 (Int32.ofNat D))))), 0, 0)) : Wp sc 98 253 12 [(4, .int 36), (0, .ref 41), (1, .int (x1)), (2, .int (x2)), (3, .int (x3))] [] ((((w1.set 9 (.inr (6, [.int (x1)]))).set 40 (.inl (0, .inl ((List.replicate 34 0).set 31 (Int32.ofNat D4))))).set 41 (.inr (8, [.int 0, .ref 42, .int 0, .int 0, .int 0, .int 0, .int 0, .int 0, .int (-1), .ref 43, .ref 44, .ref 45, .ref 46, .ref 47, .ref 48, .ref 49, .int 0, .int 0, .int 0, .int 5, .int 0, .int 0, .int 0, .int 5, .ref 50, .ref 51, .ref 52, .ref 53, .ref 54, .int 0, .int 0, .ref 55, .ref 56, .ref 57, .int 0, .int 0, .int 0, .int 0, .int 0, .int 0, .ref 58, .ref 59, .ref 60, .ref 61, .ref 62, .ref 63, .ref 64, .int 0, .int 0, .ref 65, .int (x1), .ref 66, .int 0]))).set 59 (.inl (0, .inl ((List.replicate 37 0).set 34 (36))))) 0 0 Q := by
  refine q_iload rfl rfl ?_
  refine q_iload_n rfl rfl ?_
  by_cases h101 : (x3).toInt ≤ 36
  · refine q_ic_ge_t (t := 159) rfl (by decide) (i_le_r (a := (36 : Int)) (b := (x3).toInt) (by decide +kernel) rfl (by omega)) ?_
    obtain rfl : x3 = (36 : Int32) := i_eq (a := (x3).toInt) (b := 36) rfl (by decide +kernel) (by omega)
    refine q_vret rfl rfl ?_
    exact K 36
  · refine q_ic_ge_f (t := 159) rfl (by decide) (i_nle_r (a := (36 : Int)) (b := (x3).toInt) (by decide +kernel) rfl (by omega)) ?_
    refine q_aload_n rfl rfl ?_
    refine q_get rfl rfl rfl rfl ?_
    refine q_if_le_t (t := 57) rfl (by decide) (i_le (a := (0 : Int)) (b := (0 : Int)) (by decide +kernel) (by decide +kernel) (by omega)) ?_
    refine q_aload_n rfl rfl ?_
    refine q_get rfl rfl rfl rfl ?_
    refine q_iconstv (v := (2 : Int32)) rfl (by decide +kernel) ?_
    refine q_ic_le_t (t := 129) rfl (by decide) (i_le (a := (0 : Int)) (b := (2 : Int)) (by decide +kernel) (by decide +kernel) (by omega)) ?_
    refine q_aload_n rfl rfl ?_
    refine q_get rfl rfl rfl rfl ?_
    refine q_if_le_t (t := 149) rfl (by decide) (i_le (a := (0 : Int)) (b := (0 : Int)) (by decide +kernel) (by decide +kernel) (by omega)) ?_
    refine q_aload_n rfl rfl ?_
    refine q_call rfl rfl rfl rfl ?_
    refine q_iconstv (v := (0 : Int32)) rfl (by decide +kernel) ?_
    refine q_istore_n rfl (by decide) ?_
    refine q_iload_n rfl rfl ?_
    refine q_aload_n rfl rfl ?_
    refine q_get rfl rfl rfl rfl ?_
    refine q_ic_ge_t (t := 41) rfl (by decide) (i_le_r (a := (0 : Int)) (b := (0 : Int)) (by decide +kernel) (by decide +kernel) (by omega)) ?_
    refine q_aload_n rfl rfl ?_
    refine q_get rfl rfl rfl rfl ?_
    refine q_bipushv (v := (34 : Int32)) rfl (by decide +kernel) ?_
    refine q_dup2 rfl ⟨rfl, rfl⟩ ?_
    refine q_ialoadv (m := 34) rfl (by decide) (by decide) rfl (by decide +kernel) rfl ?_
    refine q_iconstv (v := (1 : Int32)) rfl (by decide +kernel) ?_
    refine q_iaddv (v := (37 : Int32)) rfl (by decide +kernel) ?_
    refine q_iastorev (m := 34) (w9 := ((((w1.set 9 (.inr (6, [.int (x1)]))).set 40 (.inl (0, .inl ((List.replicate 34 0).set 31 (Int32.ofNat D4))))).set 41 (.inr (8, [.int 0, .ref 42, .int 0, .int 0, .int 0, .int 0, .int 0, .int 0, .int (-1), .ref 43, .ref 44, .ref 45, .ref 46, .ref 47, .ref 48, .ref 49, .int 0, .int 0, .int 0, .int 5, .int 0, .int 0, .int 0, .int 5, .ref 50, .ref 51, .ref 52, .ref 53, .ref 54, .int 0, .int 0, .ref 55, .ref 56, .ref 57, .int 0, .int 0, .int 0, .int 0, .int 0, .int 0, .ref 58, .ref 59, .ref 60, .ref 61, .ref 62, .ref 63, .ref 64, .int 0, .int 0, .ref 65, .int (x1), .ref 66, .int 0]))).set 59 (.inl (0, .inl ((List.replicate 37 0).set 34 (37)))))) rfl (by decide) rfl (by decide +kernel) (by decide) rfl ?_
    refine q_vret rfl rfl ?_
    refine bk_inl ?_
    refine q_iincv (v := (37 : Int32)) rfl rfl (by decide) (by decide +kernel) ?_
    refine q_goto (t := 12) rfl (by decide) ?_
    exact goes_37 (by omega) h2 K
set_option maxRecDepth 100000 in
set_option maxHeartbeats 4000000 in
theorem goes_35 {sc : List Int32} {D4 : Nat} {x1 x2 x3 : Int32} {Q : AR → Prop} (h1 : 35 ≤ x3.toInt) (h2 : x3.toInt ≤ 48) (K : ∀ D : Nat, Q (.inl none, ((((w1.set 9 (.inr (6, [.int (x1)]))).set 40 (.inl (0, .inl ((List.replicate 34 0).set 31 (Int32.ofNat D4))))).set 41 (.inr (8, [.int 0, .ref 42, .int 0, .int 0, .int 0, .int 0, .int 0, .int 0, .int (-1), .ref 43, .ref 44, .ref 45, .ref 46, .ref 47, .ref 48, .ref 49, .int 0, .int 0, .int 0, .int 5, .int 0, .int 0, .int 0, .int 5, .ref 50, .ref 51, .ref 52, .ref 53, .ref 54, .int 0, .int 0, .ref 55, .ref 56, .ref 57, .int 0, .int 0, .int 0, .int 0, .int 0, .int 0, .ref 58, .ref 59, .ref 60, .ref 61, .ref 62, .ref 63, .ref 64, .int 0, .int 0, .ref 65, .int (x1), .ref 66, .int 0]))).set 59 (.inl (0, .inl ((List.replicate 37 0).set 34 (Int32.ofNat D))))), 0, 0)) : Wp sc 98 253 12 [(4, .int 35), (0, .ref 41), (1, .int (x1)), (2, .int (x2)), (3, .int (x3))] [] ((((w1.set 9 (.inr (6, [.int (x1)]))).set 40 (.inl (0, .inl ((List.replicate 34 0).set 31 (Int32.ofNat D4))))).set 41 (.inr (8, [.int 0, .ref 42, .int 0, .int 0, .int 0, .int 0, .int 0, .int 0, .int (-1), .ref 43, .ref 44, .ref 45, .ref 46, .ref 47, .ref 48, .ref 49, .int 0, .int 0, .int 0, .int 5, .int 0, .int 0, .int 0, .int 5, .ref 50, .ref 51, .ref 52, .ref 53, .ref 54, .int 0, .int 0, .ref 55, .ref 56, .ref 57, .int 0, .int 0, .int 0, .int 0, .int 0, .int 0, .ref 58, .ref 59, .ref 60, .ref 61, .ref 62, .ref 63, .ref 64, .int 0, .int 0, .ref 65, .int (x1), .ref 66, .int 0]))).set 59 (.inl (0, .inl ((List.replicate 37 0).set 34 (35))))) 0 0 Q := by
  refine q_iload rfl rfl ?_
  refine q_iload_n rfl rfl ?_
  by_cases h101 : (x3).toInt ≤ 35
  · refine q_ic_ge_t (t := 159) rfl (by decide) (i_le_r (a := (35 : Int)) (b := (x3).toInt) (by decide +kernel) rfl (by omega)) ?_
    obtain rfl : x3 = (35 : Int32) := i_eq (a := (x3).toInt) (b := 35) rfl (by decide +kernel) (by omega)
    refine q_vret rfl rfl ?_
    exact K 35
  · refine q_ic_ge_f (t := 159) rfl (by decide) (i_nle_r (a := (35 : Int)) (b := (x3).toInt) (by decide +kernel) rfl (by omega)) ?_
    refine q_aload_n rfl rfl ?_
    refine q_get rfl rfl rfl rfl ?_
    refine q_if_le_t (t := 57) rfl (by decide) (i_le (a := (0 : Int)) (b := (0 : Int)) (by decide +kernel) (by decide +kernel) (by omega)) ?_
    refine q_aload_n rfl rfl ?_
    refine q_get rfl rfl rfl rfl ?_
    refine q_iconstv (v := (2 : Int32)) rfl (by decide +kernel) ?_
    refine q_ic_le_t (t := 129) rfl (by decide) (i_le (a := (0 : Int)) (b := (2 : Int)) (by decide +kernel) (by decide +kernel) (by omega)) ?_
    refine q_aload_n rfl rfl ?_
    refine q_get rfl rfl rfl rfl ?_
    refine q_if_le_t (t := 149) rfl (by decide) (i_le (a := (0 : Int)) (b := (0 : Int)) (by decide +kernel) (by decide +kernel) (by omega)) ?_
    refine q_aload_n rfl rfl ?_
    refine q_call rfl rfl rfl rfl ?_
    refine q_iconstv (v := (0 : Int32)) rfl (by decide +kernel) ?_
    refine q_istore_n rfl (by decide) ?_
    refine q_iload_n rfl rfl ?_
    refine q_aload_n rfl rfl ?_
    refine q_get rfl rfl rfl rfl ?_
    refine q_ic_ge_t (t := 41) rfl (by decide) (i_le_r (a := (0 : Int)) (b := (0 : Int)) (by decide +kernel) (by decide +kernel) (by omega)) ?_
    refine q_aload_n rfl rfl ?_
    refine q_get rfl rfl rfl rfl ?_
    refine q_bipushv (v := (34 : Int32)) rfl (by decide +kernel) ?_
    refine q_dup2 rfl ⟨rfl, rfl⟩ ?_
    refine q_ialoadv (m := 34) rfl (by decide) (by decide) rfl (by decide +kernel) rfl ?_
    refine q_iconstv (v := (1 : Int32)) rfl (by decide +kernel) ?_
    refine q_iaddv (v := (36 : Int32)) rfl (by decide +kernel) ?_
    refine q_iastorev (m := 34) (w9 := ((((w1.set 9 (.inr (6, [.int (x1)]))).set 40 (.inl (0, .inl ((List.replicate 34 0).set 31 (Int32.ofNat D4))))).set 41 (.inr (8, [.int 0, .ref 42, .int 0, .int 0, .int 0, .int 0, .int 0, .int 0, .int (-1), .ref 43, .ref 44, .ref 45, .ref 46, .ref 47, .ref 48, .ref 49, .int 0, .int 0, .int 0, .int 5, .int 0, .int 0, .int 0, .int 5, .ref 50, .ref 51, .ref 52, .ref 53, .ref 54, .int 0, .int 0, .ref 55, .ref 56, .ref 57, .int 0, .int 0, .int 0, .int 0, .int 0, .int 0, .ref 58, .ref 59, .ref 60, .ref 61, .ref 62, .ref 63, .ref 64, .int 0, .int 0, .ref 65, .int (x1), .ref 66, .int 0]))).set 59 (.inl (0, .inl ((List.replicate 37 0).set 34 (36)))))) rfl (by decide) rfl (by decide +kernel) (by decide) rfl ?_
    refine q_vret rfl rfl ?_
    refine bk_inl ?_
    refine q_iincv (v := (36 : Int32)) rfl rfl (by decide) (by decide +kernel) ?_
    refine q_goto (t := 12) rfl (by decide) ?_
    exact goes_36 (by omega) h2 K
set_option maxRecDepth 100000 in
set_option maxHeartbeats 4000000 in
theorem goes_34 {sc : List Int32} {D4 : Nat} {x1 x2 x3 : Int32} {Q : AR → Prop} (h1 : 34 ≤ x3.toInt) (h2 : x3.toInt ≤ 48) (K : ∀ D : Nat, Q (.inl none, ((((w1.set 9 (.inr (6, [.int (x1)]))).set 40 (.inl (0, .inl ((List.replicate 34 0).set 31 (Int32.ofNat D4))))).set 41 (.inr (8, [.int 0, .ref 42, .int 0, .int 0, .int 0, .int 0, .int 0, .int 0, .int (-1), .ref 43, .ref 44, .ref 45, .ref 46, .ref 47, .ref 48, .ref 49, .int 0, .int 0, .int 0, .int 5, .int 0, .int 0, .int 0, .int 5, .ref 50, .ref 51, .ref 52, .ref 53, .ref 54, .int 0, .int 0, .ref 55, .ref 56, .ref 57, .int 0, .int 0, .int 0, .int 0, .int 0, .int 0, .ref 58, .ref 59, .ref 60, .ref 61, .ref 62, .ref 63, .ref 64, .int 0, .int 0, .ref 65, .int (x1), .ref 66, .int 0]))).set 59 (.inl (0, .inl ((List.replicate 37 0).set 34 (Int32.ofNat D))))), 0, 0)) : Wp sc 98 253 12 [(4, .int 34), (0, .ref 41), (1, .int (x1)), (2, .int (x2)), (3, .int (x3))] [] ((((w1.set 9 (.inr (6, [.int (x1)]))).set 40 (.inl (0, .inl ((List.replicate 34 0).set 31 (Int32.ofNat D4))))).set 41 (.inr (8, [.int 0, .ref 42, .int 0, .int 0, .int 0, .int 0, .int 0, .int 0, .int (-1), .ref 43, .ref 44, .ref 45, .ref 46, .ref 47, .ref 48, .ref 49, .int 0, .int 0, .int 0, .int 5, .int 0, .int 0, .int 0, .int 5, .ref 50, .ref 51, .ref 52, .ref 53, .ref 54, .int 0, .int 0, .ref 55, .ref 56, .ref 57, .int 0, .int 0, .int 0, .int 0, .int 0, .int 0, .ref 58, .ref 59, .ref 60, .ref 61, .ref 62, .ref 63, .ref 64, .int 0, .int 0, .ref 65, .int (x1), .ref 66, .int 0]))).set 59 (.inl (0, .inl ((List.replicate 37 0).set 34 (34))))) 0 0 Q := by
  refine q_iload rfl rfl ?_
  refine q_iload_n rfl rfl ?_
  by_cases h101 : (x3).toInt ≤ 34
  · refine q_ic_ge_t (t := 159) rfl (by decide) (i_le_r (a := (34 : Int)) (b := (x3).toInt) (by decide +kernel) rfl (by omega)) ?_
    obtain rfl : x3 = (34 : Int32) := i_eq (a := (x3).toInt) (b := 34) rfl (by decide +kernel) (by omega)
    refine q_vret rfl rfl ?_
    exact K 34
  · refine q_ic_ge_f (t := 159) rfl (by decide) (i_nle_r (a := (34 : Int)) (b := (x3).toInt) (by decide +kernel) rfl (by omega)) ?_
    refine q_aload_n rfl rfl ?_
    refine q_get rfl rfl rfl rfl ?_
    refine q_if_le_t (t := 57) rfl (by decide) (i_le (a := (0 : Int)) (b := (0 : Int)) (by decide +kernel) (by decide +kernel) (by omega)) ?_
    refine q_aload_n rfl rfl ?_
    refine q_get rfl rfl rfl rfl ?_
    refine q_iconstv (v := (2 : Int32)) rfl (by decide +kernel) ?_
    refine q_ic_le_t (t := 129) rfl (by decide) (i_le (a := (0 : Int)) (b := (2 : Int)) (by decide +kernel) (by decide +kernel) (by omega)) ?_
    refine q_aload_n rfl rfl ?_
    refine q_get rfl rfl rfl rfl ?_
    refine q_if_le_t (t := 149) rfl (by decide) (i_le (a := (0 : Int)) (b := (0 : Int)) (by decide +kernel) (by decide +kernel) (by omega)) ?_
    refine q_aload_n rfl rfl ?_
    refine q_call rfl rfl rfl rfl ?_
    refine q_iconstv (v := (0 : Int32)) rfl (by decide +kernel) ?_
    refine q_istore_n rfl (by decide) ?_
    refine q_iload_n rfl rfl ?_
    refine q_aload_n rfl rfl ?_
    refine q_get rfl rfl rfl rfl ?_
    refine q_ic_ge_t (t := 41) rfl (by decide) (i_le_r (a := (0 : Int)) (b := (0 : Int)) (by decide +kernel) (by decide +kernel) (by omega)) ?_
    refine q_aload_n rfl rfl ?_
    refine q_get rfl rfl rfl rfl ?_
    refine q_bipushv (v := (34 : Int32)) rfl (by decide +kernel) ?_
    refine q_dup2 rfl ⟨rfl, rfl⟩ ?_
    refine q_ialoadv (m := 34) rfl (by decide) (by decide) rfl (by decide +kernel) rfl ?_
    refine q_iconstv (v := (1 : Int32)) rfl (by decide +kernel) ?_
    refine q_iaddv (v := (35 : Int32)) rfl (by decide +kernel) ?_
    refine q_iastorev (m := 34) (w9 := ((((w1.set 9 (.inr (6, [.int (x1)]))).set 40 (.inl (0, .inl ((List.replicate 34 0).set 31 (Int32.ofNat D4))))).set 41 (.inr (8, [.int 0, .ref 42, .int 0, .int 0, .int 0, .int 0, .int 0, .int 0, .int (-1), .ref 43, .ref 44, .ref 45, .ref 46, .ref 47, .ref 48, .ref 49, .int 0, .int 0, .int 0, .int 5, .int 0, .int 0, .int 0, .int 5, .ref 50, .ref 51, .ref 52, .ref 53, .ref 54, .int 0, .int 0, .ref 55, .ref 56, .ref 57, .int 0, .int 0, .int 0, .int 0, .int 0, .int 0, .ref 58, .ref 59, .ref 60, .ref 61, .ref 62, .ref 63, .ref 64, .int 0, .int 0, .ref 65, .int (x1), .ref 66, .int 0]))).set 59 (.inl (0, .inl ((List.replicate 37 0).set 34 (35)))))) rfl (by decide) rfl (by decide +kernel) (by decide) rfl ?_
    refine q_vret rfl rfl ?_
    refine bk_inl ?_
    refine q_iincv (v := (35 : Int32)) rfl rfl (by decide) (by decide +kernel) ?_
    refine q_goto (t := 12) rfl (by decide) ?_
    exact goes_35 (by omega) h2 K
set_option maxRecDepth 100000 in
set_option maxHeartbeats 4000000 in
theorem goes_33 {sc : List Int32} {D4 : Nat} {x1 x2 x3 : Int32} {Q : AR → Prop} (h1 : 33 ≤ x3.toInt) (h2 : x3.toInt ≤ 48) (K : ∀ D : Nat, Q (.inl none, ((((w1.set 9 (.inr (6, [.int (x1)]))).set 40 (.inl (0, .inl ((List.replicate 34 0).set 31 (Int32.ofNat D4))))).set 41 (.inr (8, [.int 0, .ref 42, .int 0, .int 0, .int 0, .int 0, .int 0, .int 0, .int (-1), .ref 43, .ref 44, .ref 45, .ref 46, .ref 47, .ref 48, .ref 49, .int 0, .int 0, .int 0, .int 5, .int 0, .int 0, .int 0, .int 5, .ref 50, .ref 51, .ref 52, .ref 53, .ref 54, .int 0, .int 0, .ref 55, .ref 56, .ref 57, .int 0, .int 0, .int 0, .int 0, .int 0, .int 0, .ref 58, .ref 59, .ref 60, .ref 61, .ref 62, .ref 63, .ref 64, .int 0, .int 0, .ref 65, .int (x1), .ref 66, .int 0]))).set 59 (.inl (0, .inl ((List.replicate 37 0).set 34 (Int32.ofNat D))))), 0, 0)) : Wp sc 98 253 12 [(4, .int 33), (0, .ref 41), (1, .int (x1)), (2, .int (x2)), (3, .int (x3))] [] ((((w1.set 9 (.inr (6, [.int (x1)]))).set 40 (.inl (0, .inl ((List.replicate 34 0).set 31 (Int32.ofNat D4))))).set 41 (.inr (8, [.int 0, .ref 42, .int 0, .int 0, .int 0, .int 0, .int 0, .int 0, .int (-1), .ref 43, .ref 44, .ref 45, .ref 46, .ref 47, .ref 48, .ref 49, .int 0, .int 0, .int 0, .int 5, .int 0, .int 0, .int 0, .int 5, .ref 50, .ref 51, .ref 52, .ref 53, .ref 54, .int 0, .int 0, .ref 55, .ref 56, .ref 57, .int 0, .int 0, .int 0, .int 0, .int 0, .int 0, .ref 58, .ref 59, .ref 60, .ref 61, .ref 62, .ref 63, .ref 64, .int 0, .int 0, .ref 65, .int (x1), .ref 66, .int 0]))).set 59 (.inl (0, .inl ((List.replicate 37 0).set 34 (33))))) 0 0 Q := by
  refine q_iload rfl rfl ?_
  refine q_iload_n rfl rfl ?_
  by_cases h101 : (x3).toInt ≤ 33
  · refine q_ic_ge_t (t := 159) rfl (by decide) (i_le_r (a := (33 : Int)) (b := (x3).toInt) (by decide +kernel) rfl (by omega)) ?_
    obtain rfl : x3 = (33 : Int32) := i_eq (a := (x3).toInt) (b := 33) rfl (by decide +kernel) (by omega)
    refine q_vret rfl rfl ?_
    exact K 33
  · refine q_ic_ge_f (t := 159) rfl (by decide) (i_nle_r (a := (33 : Int)) (b := (x3).toInt) (by decide +kernel) rfl (by omega)) ?_
    refine q_aload_n rfl rfl ?_
    refine q_get rfl rfl rfl rfl ?_
    refine q_if_le_t (t := 57) rfl (by decide) (i_le (a := (0 : Int)) (b := (0 : Int)) (by decide +kernel) (by decide +kernel) (by omega)) ?_
    refine q_aload_n rfl rfl ?_
    refine q_get rfl rfl rfl rfl ?_
    refine q_iconstv (v := (2 : Int32)) rfl (by decide +kernel) ?_
    refine q_ic_le_t (t := 129) rfl (by decide) (i_le (a := (0 : Int)) (b := (2 : Int)) (by decide +kernel) (by decide +kernel) (by omega)) ?_
    refine q_aload_n rfl rfl ?_
    refine q_get rfl rfl rfl rfl ?_
    refine q_if_le_t (t := 149) rfl (by decide) (i_le (a := (0 : Int)) (b := (0 : Int)) (by decide +kernel) (by decide +kernel) (by omega)) ?_
    refine q_aload_n rfl rfl ?_
    refine q_call rfl rfl rfl rfl ?_
    refine q_iconstv (v := (0 : Int32)) rfl (by decide +kernel) ?_
    refine q_istore_n rfl (by decide) ?_
    refine q_iload_n rfl rfl ?_
    refine q_aload_n rfl rfl ?_
    refine q_get rfl rfl rfl rfl ?_
    refine q_ic_ge_t (t := 41) rfl (by decide) (i_le_r (a := (0 : Int)) (b := (0 : Int)) (by decide +kernel) (by decide +kernel) (by omega)) ?_
    refine q_aload_n rfl rfl ?_
    refine q_get rfl rfl rfl rfl ?_
    refine q_bipushv (v := (34 : Int32)) rfl (by decide +kernel) ?_
    refine q_dup2 rfl ⟨rfl, rfl⟩ ?_
    refine q_ialoadv (m := 34) rfl (by decide) (by decide) rfl (by decide +kernel) rfl ?_
    refine q_iconstv (v := (1 : Int32)) rfl (by decide +kernel) ?_
    refine q_iaddv (v := (34 : Int32)) rfl (by decide +kernel) ?_
    refine q_iastorev (m := 34) (w9 := ((((w1.set 9 (.inr (6, [.int (x1)]))).set 40 (.inl (0, .inl ((List.replicate 34 0).set 31 (Int32.ofNat D4))))).set 41 (.inr (8, [.int 0, .ref 42, .int 0, .int 0, .int 0, .int 0, .int 0, .int 0, .int (-1), .ref 43, .ref 44, .ref 45, .ref 46, .ref 47, .ref 48, .ref 49, .int 0, .int 0, .int 0, .int 5, .int 0, .int 0, .int 0, .int 5, .ref 50, .ref 51, .ref 52, .ref 53, .ref 54, .int 0, .int 0, .ref 55, .ref 56, .ref 57, .int 0, .int 0, .int 0, .int 0, .int 0, .int 0, .ref 58, .ref 59, .ref 60, .ref 61, .ref 62, .ref 63, .ref 64, .int 0, .int 0, .ref 65, .int (x1), .ref 66, .int 0]))).set 59 (.inl (0, .inl ((List.replicate 37 0).set 34 (34)))))) rfl (by decide) rfl (by decide +kernel) (by decide) rfl ?_
    refine q_vret rfl rfl ?_
    refine bk_inl ?_
    refine q_iincv (v := (34 : Int32)) rfl rfl (by decide) (by decide +kernel) ?_
    refine q_goto (t := 12) rfl (by decide) ?_
    exact goes_34 (by omega) h2 K
set_option maxRecDepth 100000 in
set_option maxHeartbeats 4000000 in
theorem goes_32 {sc : List Int32} {D4 : Nat} {x1 x2 x3 : Int32} {Q : AR → Prop} (h1 : 32 ≤ x3.toInt) (h2 : x3.toInt ≤ 48) (K : ∀ D : Nat, Q (.inl none, ((((w1.set 9 (.inr (6, [.int (x1)]))).set 40 (.inl (0, .inl ((List.replicate 34 0).set 31 (Int32.ofNat D4))))).set 41 (.inr (8, [.int 0, .ref 42, .int 0, .int 0, .int 0, .int 0, .int 0, .int 0, .int (-1), .ref 43, .ref 44, .ref 45, .ref 46, .ref 47, .ref 48, .ref 49, .int 0, .int 0, .int 0, .int 5, .int 0, .int 0, .int 0, .int 5, .ref 50, .ref 51, .ref 52, .ref 53, .ref 54, .int 0, .int 0, .ref 55, .ref 56, .ref 57, .int 0, .int 0, .int 0, .int 0, .int 0, .int 0, .ref 58, .ref 59, .ref 60, .ref 61, .ref 62, .ref 63, .ref 64, .int 0, .int 0, .ref 65, .int (x1), .ref 66, .int 0]))).set 59 (.inl (0, .inl ((List.replicate 37 0).set 34 (Int32.ofNat D))))), 0, 0)) : Wp sc 98 253 12 [(4, .int 32), (0, .ref 41), (1, .int (x1)), (2, .int (x2)), (3, .int (x3))] [] ((((w1.set 9 (.inr (6, [.int (x1)]))).set 40 (.inl (0, .inl ((List.replicate 34 0).set 31 (Int32.ofNat D4))))).set 41 (.inr (8, [.int 0, .ref 42, .int 0, .int 0, .int 0, .int 0, .int 0, .int 0, .int (-1), .ref 43, .ref 44, .ref 45, .ref 46, .ref 47, .ref 48, .ref 49, .int 0, .int 0, .int 0, .int 5, .int 0, .int 0, .int 0, .int 5, .ref 50, .ref 51, .ref 52, .ref 53, .ref 54, .int 0, .int 0, .ref 55, .ref 56, .ref 57, .int 0, .int 0, .int 0, .int 0, .int 0, .int 0, .ref 58, .ref 59, .ref 60, .ref 61, .ref 62, .ref 63, .ref 64, .int 0, .int 0, .ref 65, .int (x1), .ref 66, .int 0]))).set 59 (.inl (0, .inl ((List.replicate 37 0).set 34 (32))))) 0 0 Q := by
  refine q_iload rfl rfl ?_
  refine q_iload_n rfl rfl ?_
  by_cases h101 : (x3).toInt ≤ 32
  · refine q_ic_ge_t (t := 159) rfl (by decide) (i_le_r (a := (32 : Int)) (b := (x3).toInt) (by decide +kernel) rfl (by omega)) ?_
    obtain rfl : x3 = (32 : Int32) := i_eq (a := (x3).toInt) (b := 32) rfl (by decide +kernel) (by omega)
    refine q_vret rfl rfl ?_
    exact K 32
  · refine q_ic_ge_f (t := 159) rfl (by decide) (i_nle_r (a := (32 : Int)) (b := (x3).toInt) (by decide +kernel) rfl (by omega)) ?_
    refine q_aload_n rfl rfl ?_
    refine q_get rfl rfl rfl rfl ?_
    refine q_if_le_t (t := 57) rfl (by decide) (i_le (a := (0 : Int)) (b := (0 : Int)) (by decide +kernel) (by decide +kernel) (by omega)) ?_
    refine q_aload_n rfl rfl ?_
    refine q_get rfl rfl rfl rfl ?_
    refine q_iconstv (v := (2 : Int32)) rfl (by decide +kernel) ?_
    refine q_ic_le_t (t := 129) rfl (by decide) (i_le (a := (0 : Int)) (b := (2 : Int)) (by decide +kernel) (by decide +kernel) (by omega)) ?_
    refine q_aload_n rfl rfl ?_
    refine q_get rfl rfl rfl rfl ?_
    refine q_if_le_t (t := 149) rfl (by decide) (i_le (a := (0 : Int)) (b := (0 : Int)) (by decide +kernel) (by decide +kernel) (by omega)) ?_
    refine q_aload_n rfl rfl ?_
    refine q_call rfl rfl rfl rfl ?_
    refine q_iconstv (v := (0 : Int32)) rfl (by decide +kernel) ?_
    refine q_istore_n rfl (by decide) ?_
    refine q_iload_n rfl rfl ?_
    refine q_aload_n rfl rfl ?_
    refine q_get rfl rfl rfl rfl ?_
    refine q_ic_ge_t (t := 41) rfl (by decide) (i_le_r (a := (0 : Int)) (b := (0 : Int)) (by decide +kernel) (by decide +kernel) (by omega)) ?_
    refine q_aload_n rfl rfl ?_
    refine q_get rfl rfl rfl rfl ?_
    refine q_bipushv (v := (34 : Int32)) rfl (by decide +kernel) ?_
    refine q_dup2 rfl ⟨rfl, rfl⟩ ?_
    refine q_ialoadv (m := 34) rfl (by decide) (by decide) rfl (by decide +kernel) rfl ?_
    refine q_iconstv (v := (1 : Int32)) rfl (by decide +kernel) ?_
    refine q_iaddv (v := (33 : Int32)) rfl (by decide +kernel) ?_
    refine q_iastorev (m := 34) (w9 := ((((w1.set 9 (.inr (6, [.int (x1)]))).set 40 (.inl (0, .inl ((List.replicate 34 0).set 31 (Int32.ofNat D4))))).set 41 (.inr (8, [.int 0, .ref 42, .int 0, .int 0, .int 0, .int 0, .int 0, .int 0, .int (-1), .ref 43, .ref 44, .ref 45, .ref 46, .ref 47, .ref 48, .ref 49, .int 0, .int 0, .int 0, .int 5, .int 0, .int 0, .int 0, .int 5, .ref 50, .ref 51, .ref 52, .ref 53, .ref 54, .int 0, .int 0, .ref 55, .ref 56, .ref 57, .int 0, .int 0, .int 0, .int 0, .int 0, .int 0, .ref 58, .ref 59, .ref 60, .ref 61, .ref 62, .ref 63, .ref 64, .int 0, .int 0, .ref 65, .int (x1), .ref 66, .int 0]))).set 59 (.inl (0, .inl ((List.replicate 37 0).set 34 (33)))))) rfl (by decide) rfl (by decide +kernel) (by decide) rfl ?_
    refine q_vret rfl rfl ?_
    refine bk_inl ?_
    refine q_iincv (v := (33 : Int32)) rfl rfl (by decide) (by decide +kernel) ?_
    refine q_goto (t := 12) rfl (by decide) ?_
    exact goes_33 (by omega) h2 K
set_option maxRecDepth 100000 in
set_option maxHeartbeats 4000000 in
theorem goes_31 {sc : List Int32} {D4 : Nat} {x1 x2 x3 : Int32} {Q : AR → Prop} (h1 : 31 ≤ x3.toInt) (h2 : x3.toInt ≤ 48) (K : ∀ D : Nat, Q (.inl none, ((((w1.set 9 (.inr (6, [.int (x1)]))).set 40 (.inl (0, .inl ((List.replicate 34 0).set 31 (Int32.ofNat D4))))).set 41 (.inr (8, [.int 0, .ref 42, .int 0, .int 0, .int 0, .int 0, .int 0, .int 0, .int (-1), .ref 43, .ref 44, .ref 45, .ref 46, .ref 47, .ref 48, .ref 49, .int 0, .int 0, .int 0, .int 5, .int 0, .int 0, .int 0, .int 5, .ref 50, .ref 51, .ref 52, .ref 53, .ref 54, .int 0, .int 0, .ref 55, .ref 56, .ref 57, .int 0, .int 0, .int 0, .int 0, .int 0, .int 0, .ref 58, .ref 59, .ref 60, .ref 61, .ref 62, .ref 63, .ref 64, .int 0, .int 0, .ref 65, .int (x1), .ref 66, .int 0]))).set 59 (.inl (0, .inl ((List.replicate 37 0).set 34 (Int32.ofNat D))))), 0, 0)) : Wp sc 98 253 12 [(4, .int 31), (0, .ref 41), (1, .int (x1)), (2, .int (x2)), (3, .int (x3))] [] ((((w1.set 9 (.inr (6, [.int (x1)]))).set 40 (.inl (0, .inl ((List.replicate 34 0).set 31 (Int32.ofNat D4))))).set 41 (.inr (8, [.int 0, .ref 42, .int 0, .int 0, .int 0, .int 0, .int 0, .int 0, .int (-1), .ref 43, .ref 44, .ref 45, .ref 46, .ref 47, .ref 48, .ref 49, .int 0, .int 0, .int 0, .int 5, .int 0, .int 0, .int 0, .int 5, .ref 50, .ref 51, .ref 52, .ref 53, .ref 54, .int 0, .int 0, .ref 55, .ref 56, .ref 57, .int 0, .int 0, .int 0, .int 0, .int 0, .int 0, .ref 58, .ref 59, .ref 60, .ref 61, .ref 62, .ref 63, .ref 64, .int 0, .int 0, .ref 65, .int (x1), .ref 66, .int 0]))).set 59 (.inl (0, .inl ((List.replicate 37 0).set 34 (31))))) 0 0 Q := by
  refine q_iload rfl rfl ?_
  refine q_iload_n rfl rfl ?_
  by_cases h101 : (x3).toInt ≤ 31
  · refine q_ic_ge_t (t := 159) rfl (by decide) (i_le_r (a := (31 : Int)) (b := (x3).toInt) (by decide +kernel) rfl (by omega)) ?_
    obtain rfl : x3 = (31 : Int32) := i_eq (a := (x3).toInt) (b := 31) rfl (by decide +kernel) (by omega)
    refine q_vret rfl rfl ?_
    exact K 31
  · refine q_ic_ge_f (t := 159) rfl (by decide) (i_nle_r (a := (31 : Int)) (b := (x3).toInt) (by decide +kernel) rfl (by omega)) ?_
    refine q_aload_n rfl rfl ?_
    refine q_get rfl rfl rfl rfl ?_
    refine q_if_le_t (t := 57) rfl (by decide) (i_le (a := (0 : Int)) (b := (0 : Int)) (by decide +kernel) (by decide +kernel) (by omega)) ?_
    refine q_aload_n rfl rfl ?_
    refine q_get rfl rfl rfl rfl ?_
    refine q_iconstv (v := (2 : Int32)) rfl (by decide +kernel) ?_
    refine q_ic_le_t (t := 129) rfl (by decide) (i_le (a := (0 : Int)) (b := (2 : Int)) (by decide +kernel) (by decide +kernel) (by omega)) ?_
    refine q_aload_n rfl rfl ?_
    refine q_get rfl rfl rfl rfl ?_
    refine q_if_le_t (t := 149) rfl (by decide) (i_le (a := (0 : Int)) (b := (0 : Int)) (by decide +kernel) (by decide +kernel) (by omega)) ?_
    refine q_aload_n rfl rfl ?_
    refine q_call rfl rfl rfl rfl ?_
    refine q_iconstv (v := (0 : Int32)) rfl (by decide +kernel) ?_
    refine q_istore_n rfl (by decide) ?_
    refine q_iload_n rfl rfl ?_
    refine q_aload_n rfl rfl ?_
    refine q_get rfl rfl rfl rfl ?_
    refine q_ic_ge_t (t := 41) rfl (by decide) (i_le_r (a := (0 : Int)) (b := (0 : Int)) (by decide +kernel) (by decide +kernel) (by omega)) ?_
    refine q_aload_n rfl rfl ?_
    refine q_get rfl rfl rfl rfl ?_
    refine q_bipushv (v := (34 : Int32)) rfl (by decide +kernel) ?_
    refine q_dup2 rfl ⟨rfl, rfl⟩ ?_
    refine q_ialoadv (m := 34) rfl (by decide) (by decide) rfl (by decide +kernel) rfl ?_
    refine q_iconstv (v := (1 : Int32)) rfl (by decide +kernel) ?_
    refine q_iaddv (v := (32 : Int32)) rfl (by decide +kernel) ?_
    refine q_iastorev (m := 34) (w9 := ((((w1.set 9 (.inr (6, [.int (x1)]))).set 40 (.inl (0, .inl ((List.replicate 34 0).set 31 (Int32.ofNat D4))))).set 41 (.inr (8, [.int 0, .ref 42, .int 0, .int 0, .int 0, .int 0, .int 0, .int 0, .int (-1), .ref 43, .ref 44, .ref 45, .ref 46, .ref 47, .ref 48, .ref 49, .int 0, .int 0, .int 0, .int 5, .int 0, .int 0, .int 0, .int 5, .ref 50, .ref 51, .ref 52, .ref 53, .ref 54, .int 0, .int 0, .ref 55, .ref 56, .ref 57, .int 0, .int 0, .int 0, .int 0, .int 0, .int 0, .ref 58, .ref 59, .ref 60, .ref 61, .ref 62, .ref 63, .ref 64, .int 0, .int 0, .ref 65, .int (x1), .ref 66, .int 0]))).set 59 (.inl (0, .inl ((List.replicate 37 0).set 34 (32)))))) rfl (by decide) rfl (by decide +kernel) (by decide) rfl ?_
    refine q_vret rfl rfl ?_
    refine bk_inl ?_
    refine q_iincv (v := (32 : Int32)) rfl rfl (by decide) (by decide +kernel) ?_
    refine q_goto (t := 12) rfl (by decide) ?_
    exact goes_32 (by omega) h2 K
set_option maxRecDepth 100000 in
set_option maxHeartbeats 4000000 in
theorem goes_30 {sc : List Int32} {D4 : Nat} {x1 x2 x3 : Int32} {Q : AR → Prop} (h1 : 30 ≤ x3.toInt) (h2 : x3.toInt ≤ 48) (K : ∀ D : Nat, Q (.inl none, ((((w1.set 9 (.inr (6, [.int (x1)]))).set 40 (.inl (0, .inl ((List.replicate 34 0).set 31 (Int32.ofNat D4))))).set 41 (.inr (8, [.int 0, .ref 42, .int 0, .int 0, .int 0, .int 0, .int 0, .int 0, .int (-1), .ref 43, .ref 44, .ref 45, .ref 46, .ref 47, .ref 48, .ref 49, .int 0, .int 0, .int 0, .int 5, .int 0, .int 0, .int 0, .int 5, .ref 50, .ref 51, .ref 52, .ref 53, .ref 54, .int 0, .int 0, .ref 55, .ref 56, .ref 57, .int 0, .int 0, .int 0, .int 0, .int 0, .int 0, .ref 58, .ref 59, .ref 60, .ref 61, .ref 62, .ref 63, .ref 64, .int 0, .int 0, .ref 65, .int (x1), .ref 66, .int 0]))).set 59 (.inl (0, .inl ((List.replicate 37 0).set 34 (Int32.ofNat D))))), 0, 0)) : Wp sc 98 253 12 [(4, .int 30), (0, .ref 41), (1, .int (x1)), (2, .int (x2)), (3, .int (x3))] [] ((((w1.set 9 (.inr (6, [.int (x1)]))).set 40 (.inl (0, .inl ((List.replicate 34 0).set 31 (Int32.ofNat D4))))).set 41 (.inr (8, [.int 0, .ref 42, .int 0, .int 0, .int 0, .int 0, .int 0, .int 0, .int (-1), .ref 43, .ref 44, .ref 45, .ref 46, .ref 47, .ref 48, .ref 49, .int 0, .int 0, .int 0, .int 5, .int 0, .int 0, .int 0, .int 5, .ref 50, .ref 51, .ref 52, .ref 53, .ref 54, .int 0, .int 0, .ref 55, .ref 56, .ref 57, .int 0, .int 0, .int 0, .int 0, .int 0, .int 0, .ref 58, .ref 59, .ref 60, .ref 61, .ref 62, .ref 63, .ref 64, .int 0, .int 0, .ref 65, .int (x1), .ref 66, .int 0]))).set 59 (.inl (0, .inl ((List.replicate 37 0).set 34 (30))))) 0 0 Q := by
  refine q_iload rfl rfl ?_
  refine q_iload_n rfl rfl ?_
  by_cases h101 : (x3).toInt ≤ 30
  · refine q_ic_ge_t (t := 159) rfl (by decide) (i_le_r (a := (30 : Int)) (b := (x3).toInt) (by decide +kernel) rfl (by omega)) ?_
    obtain rfl : x3 = (30 : Int32) := i_eq (a := (x3).toInt) (b := 30) rfl (by decide +kernel) (by omega)
    refine q_vret rfl rfl ?_
    exact K 30
  · refine q_ic_ge_f (t := 159) rfl (by decide) (i_nle_r (a := (30 : Int)) (b := (x3).toInt) (by decide +kernel) rfl (by omega)) ?_
    refine q_aload_n rfl rfl ?_
    refine q_get rfl rfl rfl rfl ?_
    refine q_if_le_t (t := 57) rfl (by decide) (i_le (a := (0 : Int)) (b := (0 : Int)) (by decide +kernel) (by decide +kernel) (by omega)) ?_
    refine q_aload_n rfl rfl ?_
    refine q_get rfl rfl rfl rfl ?_
    refine q_iconstv (v := (2 : Int32)) rfl (by decide +kernel) ?_
    refine q_ic_le_t (t := 129) rfl (by decide) (i_le (a := (0 : Int)) (b := (2 : Int)) (by decide +kernel) (by decide +kernel) (by omega)) ?_
    refine q_aload_n rfl rfl ?_
    refine q_get rfl rfl rfl rfl ?_
    refine q_if_le_t (t := 149) rfl (by decide) (i_le (a := (0 : Int)) (b := (0 : Int)) (by decide +kernel) (by decide +kernel) (by omega)) ?_
    refine q_aload_n rfl rfl ?_
    refine q_call rfl rfl rfl rfl ?_
    refine q_iconstv (v := (0 : Int32)) rfl (by decide +kernel) ?_
    refine q_istore_n rfl (by decide) ?_
    refine q_iload_n rfl rfl ?_
    refine q_aload_n rfl rfl ?_
    refine q_get rfl rfl rfl rfl ?_
    refine q_ic_ge_t (t := 41) rfl (by decide) (i_le_r (a := (0 : Int)) (b := (0 : Int)) (by decide +kernel) (by decide +kernel) (by omega)) ?_
    refine q_aload_n rfl rfl ?_
    refine q_get rfl rfl rfl rfl ?_
    refine q_bipushv (v := (34 : Int32)) rfl (by decide +kernel) ?_
    refine q_dup2 rfl ⟨rfl, rfl⟩ ?_
    refine q_ialoadv (m := 34) rfl (by decide) (by decide) rfl (by decide +kernel) rfl ?_
    refine q_iconstv (v := (1 : Int32)) rfl (by decide +kernel) ?_
    refine q_iaddv (v := (31 : Int32)) rfl (by decide +kernel) ?_
    refine q_iastorev (m := 34) (w9 := ((((w1.set 9 (.inr (6, [.int (x1)]))).set 40 (.inl (0, .inl ((List.replicate 34 0).set 31 (Int32.ofNat D4))))).set 41 (.inr (8, [.int 0, .ref 42, .int 0, .int 0, .int 0, .int 0, .int 0, .int 0, .int (-1), .ref 43, .ref 44, .ref 45, .ref 46, .ref 47, .ref 48, .ref 49, .int 0, .int 0, .int 0, .int 5, .int 0, .int 0, .int 0, .int 5, .ref 50, .ref 51, .ref 52, .ref 53, .ref 54, .int 0, .int 0, .ref 55, .ref 56, .ref 57, .int 0, .int 0, .int 0, .int 0, .int 0, .int 0, .ref 58, .ref 59, .ref 60, .ref 61, .ref 62, .ref 63, .ref 64, .int 0, .int 0, .ref 65, .int (x1), .ref 66, .int 0]))).set 59 (.inl (0, .inl ((List.replicate 37 0).set 34 (31)))))) rfl (by decide) rfl (by decide +kernel) (by decide) rfl ?_
    refine q_vret rfl rfl ?_
    refine bk_inl ?_
    refine q_iincv (v := (31 : Int32)) rfl rfl (by decide) (by decide +kernel) ?_
    refine q_goto (t := 12) rfl (by decide) ?_
    exact goes_31 (by omega) h2 K
set_option maxRecDepth 100000 in
set_option maxHeartbeats 4000000 in
theorem goes_29 {sc : List Int32} {D4 : Nat} {x1 x2 x3 : Int32} {Q : AR → Prop} (h1 : 29 ≤ x3.toInt) (h2 : x3.toInt ≤ 48) (K : ∀ D : Nat, Q (.inl none, ((((w1.set 9 (.inr (6, [.int (x1)]))).set 40 (.inl (0, .inl ((List.replicate 34 0).set 31 (Int32.ofNat D4))))).set 41 (.inr (8, [.int 0, .ref 42, .int 0, .int 0, .int 0, .int 0, .int 0, .int 0, .int (-1), .ref 43, .ref 44, .ref 45, .ref 46, .ref 47, .ref 48, .ref 49, .int 0, .int 0, .int 0, .int 5, .int 0, .int 0, .int 0, .int 5, .ref 50, .ref 51, .ref 52, .ref 53, .ref 54, .int 0, .int 0, .ref 55, .ref 56, .ref 57, .int 0, .int 0, .int 0, .int 0, .int 0, .int 0, .ref 58, .ref 59, .ref 60, .ref 61, .ref 62, .ref 63, .ref 64, .int 0, .int 0, .ref 65, .int (x1), .ref 66, .int 0]))).set 59 (.inl (0, .inl ((List.replicate 37 0).set 34 (Int32.ofNat D))))), 0, 0)) : Wp sc 98 253 12 [(4, .int 29), (0, .ref 41), (1, .int (x1)), (2, .int (x2)), (3, .int (x3))] [] ((((w1.set 9 (.inr (6, [.int (x1)]))).set 40 (.inl (0, .inl ((List.replicate 34 0).set 31 (Int32.ofNat D4))))).set 41 (.inr (8, [.int 0, .ref 42, .int 0, .int 0, .int 0, .int 0, .int 0, .int 0, .int (-1), .ref 43, .ref 44, .ref 45, .ref 46, .ref 47, .ref 48, .ref 49, .int 0, .int 0, .int 0, .int 5, .int 0, .int 0, .int 0, .int 5, .ref 50, .ref 51, .ref 52, .ref 53, .ref 54, .int 0, .int 0, .ref 55, .ref 56, .ref 57, .int 0, .int 0, .int 0, .int 0, .int 0, .int 0, .ref 58, .ref 59, .ref 60, .ref 61, .ref 62, .ref 63, .ref 64, .int 0, .int 0, .ref 65, .int (x1), .ref 66, .int 0]))).set 59 (.inl (0, .inl ((List.replicate 37 0).set 34 (29))))) 0 0 Q := by
  refine q_iload rfl rfl ?_
  refine q_iload_n rfl rfl ?_
  by_cases h101 : (x3).toInt ≤ 29
  · refine q_ic_ge_t (t := 159) rfl (by decide) (i_le_r (a := (29 : Int)) (b := (x3).toInt) (by decide +kernel) rfl (by omega)) ?_
    obtain rfl : x3 = (29 : Int32) := i_eq (a := (x3).toInt) (b := 29) rfl (by decide +kernel) (by omega)
    refine q_vret rfl rfl ?_
    exact K 29
  · refine q_ic_ge_f (t := 159) rfl (by decide) (i_nle_r (a := (29 : Int)) (b := (x3).toInt) (by decide +kernel) rfl (by omega)) ?_
    refine q_aload_n rfl rfl ?_
    refine q_get rfl rfl rfl rfl ?_
    refine q_if_le_t (t := 57) rfl (by decide) (i_le (a := (0 : Int)) (b := (0 : Int)) (by decide +kernel) (by decide +kernel) (by omega)) ?_
    refine q_aload_n rfl rfl ?_
    refine q_get rfl rfl rfl rfl ?_
    refine q_iconstv (v := (2 : Int32)) rfl (by decide +kernel) ?_
    refine q_ic_le_t (t := 129) rfl (by decide) (i_le (a := (0 : Int)) (b := (2 : Int)) (by decide +kernel) (by decide +kernel) (by omega)) ?_
    refine q_aload_n rfl rfl ?_
    refine q_get rfl rfl rfl rfl ?_
    refine q_if_le_t (t := 149) rfl (by decide) (i_le (a := (0 : Int)) (b := (0 : Int)) (by decide +kernel) (by decide +kernel) (by omega)) ?_
    refine q_aload_n rfl rfl ?_
    refine q_call rfl rfl rfl rfl ?_
    refine q_iconstv (v := (0 : Int32)) rfl (by decide +kernel) ?_
    refine q_istore_n rfl (by decide) ?_
    refine q_iload_n rfl rfl ?_
    refine q_aload_n rfl rfl ?_
    refine q_get rfl rfl rfl rfl ?_
    refine q_ic_ge_t (t := 41) rfl (by decide) (i_le_r (a := (0 : Int)) (b := (0 : Int)) (by decide +kernel) (by decide +kernel) (by omega)) ?_
    refine q_aload_n rfl rfl ?_
    refine q_get rfl rfl rfl rfl ?_
    refine q_bipushv (v := (34 : Int32)) rfl (by decide +kernel) ?_
    refine q_dup2 rfl ⟨rfl, rfl⟩ ?_
    refine q_ialoadv (m := 34) rfl (by decide) (by decide) rfl (by decide +kernel) rfl ?_
    refine q_iconstv (v := (1 : Int32)) rfl (by decide +kernel) ?_
    refine q_iaddv (v := (30 : Int32)) rfl (by decide +kernel) ?_
    refine q_iastorev (m := 34) (w9 := ((((w1.set 9 (.inr (6, [.int (x1)]))).set 40 (.inl (0, .inl ((List.replicate 34 0).set 31 (Int32.ofNat D4))))).set 41 (.inr (8, [.int 0, .ref 42, .int 0, .int 0, .int 0, .int 0, .int 0, .int 0, .int (-1), .ref 43, .ref 44, .ref 45, .ref 46, .ref 47, .ref 48, .ref 49, .int 0, .int 0, .int 0, .int 5, .int 0, .int 0, .int 0, .int 5, .ref 50, .ref 51, .ref 52, .ref 53, .ref 54, .int 0, .int 0, .ref 55, .ref 56, .ref 57, .int 0, .int 0, .int 0, .int 0, .int 0, .int 0, .ref 58, .ref 59, .ref 60, .ref 61, .ref 62, .ref 63, .ref 64, .int 0, .int 0, .ref 65, .int (x1), .ref 66, .int 0]))).set 59 (.inl (0, .inl ((List.replicate 37 0).set 34 (30)))))) rfl (by decide) rfl (by decide +kernel) (by decide) rfl ?_
    refine q_vret rfl rfl ?_
    refine bk_inl ?_
    refine q_iincv (v := (30 : Int32)) rfl rfl (by decide) (by decide +kernel) ?_
    refine q_goto (t := 12) rfl (by decide) ?_
    exact goes_30 (by omega) h2 K
set_option maxRecDepth 100000 in
set_option maxHeartbeats 4000000 in
theorem goes_28 {sc : List Int32} {D4 : Nat} {x1 x2 x3 : Int32} {Q : AR → Prop} (h1 : 28 ≤ x3.toInt) (h2 : x3.toInt ≤ 48) (K : ∀ D : Nat, Q (.inl none, ((((w1.set 9 (.inr (6, [.int (x1)]))).set 40 (.inl (0, .inl ((List.replicate 34 0).set 31 (Int32.ofNat D4))))).set 41 (.inr (8, [.int 0, .ref 42, .int 0, .int 0, .int 0, .int 0, .int 0, .int 0, .int (-1), .ref 43, .ref 44, .ref 45, .ref 46, .ref 47, .ref 48, .ref 49, .int 0, .int 0, .int 0, .int 5, .int 0, .int 0, .int 0, .int 5, .ref 50, .ref 51, .ref 52, .ref 53, .ref 54, .int 0, .int 0, .ref 55, .ref 56, .ref 57, .int 0, .int 0, .int 0, .int 0, .int 0, .int 0, .ref 58, .ref 59, .ref 60, .ref 61, .ref 62, .ref 63, .ref 64, .int 0, .int 0, .ref 65, .int (x1), .ref 66, .int 0]))).set 59 (.inl (0, .inl ((List.replicate 37 0).set 34 (Int32.ofNat D))))), 0, 0)) : Wp sc 98 253 12 [(4, .int 28), (0, .ref 41), (1, .int (x1)), (2, .int (x2)), (3, .int (x3))] [] ((((w1.set 9 (.inr (6, [.int (x1)]))).set 40 (.inl (0, .inl ((List.replicate 34 0).set 31 (Int32.ofNat D4))))).set 41 (.inr (8, [.int 0, .ref 42, .int 0, .int 0, .int 0, .int 0, .int 0, .int 0, .int (-1), .ref 43, .ref 44, .ref 45, .ref 46, .ref 47, .ref 48, .ref 49, .int 0, .int 0, .int 0, .int 5, .int 0, .int 0, .int 0, .int 5, .ref 50, .ref 51, .ref 52, .ref 53, .ref 54, .int 0, .int 0, .ref 55, .ref 56, .ref 57, .int 0, .int 0, .int 0, .int 0, .int 0, .int 0, .ref 58, .ref 59, .ref 60, .ref 61, .ref 62, .ref 63, .ref 64, .int 0, .int 0, .ref 65, .int (x1), .ref 66, .int 0]))).set 59 (.inl (0, .inl ((List.replicate 37 0).set 34 (28))))) 0 0 Q := by
  refine q_iload rfl rfl ?_
  refine q_iload_n rfl rfl ?_
  by_cases h101 : (x3).toInt ≤ 28
  · refine q_ic_ge_t (t := 159) rfl (by decide) (i_le_r (a := (28 : Int)) (b := (x3).toInt) (by decide +kernel) rfl (by omega)) ?_
    obtain rfl : x3 = (28 : Int32) := i_eq (a := (x3).toInt) (b := 28) rfl (by decide +kernel) (by omega)
    refine q_vret rfl rfl ?_
    exact K 28
  · refine q_ic_ge_f (t := 159) rfl (by decide) (i_nle_r (a := (28 : Int)) (b := (x3).toInt) (by decide +kernel) rfl (by omega)) ?_
    refine q_aload_n rfl rfl ?_
    refine q_get rfl rfl rfl rfl ?_
    refine q_if_le_t (t := 57) rfl (by decide) (i_le (a := (0 : Int)) (b := (0 : Int)) (by decide +kernel) (by decide +kernel) (by omega)) ?_
    refine q_aload_n rfl rfl ?_
    refine q_get rfl rfl rfl rfl ?_
    refine q_iconstv (v := (2 : Int32)) rfl (by decide +kernel) ?_
    refine q_ic_le_t (t := 129) rfl (by decide) (i_le (a := (0 : Int)) (b := (2 : Int)) (by decide +kernel) (by decide +kernel) (by omega)) ?_
    refine q_aload_n rfl rfl ?_
    refine q_get rfl rfl rfl rfl ?_
    refine q_if_le_t (t := 149) rfl (by decide) (i_le (a := (0 : Int)) (b := (0 : Int)) (by decide +kernel) (by decide +kernel) (by omega)) ?_
    refine q_aload_n rfl rfl ?_
    refine q_call rfl rfl rfl rfl ?_
    refine q_iconstv (v := (0 : Int32)) rfl (by decide +kernel) ?_
    refine q_istore_n rfl (by decide) ?_
    refine q_iload_n rfl rfl ?_
    refine q_aload_n rfl rfl ?_
    refine q_get rfl rfl rfl rfl ?_
    refine q_ic_ge_t (t := 41) rfl (by decide) (i_le_r (a := (0 : Int)) (b := (0 : Int)) (by decide +kernel) (by decide +kernel) (by omega)) ?_
    refine q_aload_n rfl rfl ?_
    refine q_get rfl rfl rfl rfl ?_
    refine q_bipushv (v := (34 : Int32)) rfl (by decide +kernel) ?_
    refine q_dup2 rfl ⟨rfl, rfl⟩ ?_
    refine q_ialoadv (m := 34) rfl (by decide) (by decide) rfl (by decide +kernel) rfl ?_
    refine q_iconstv (v := (1 : Int32)) rfl (by decide +kernel) ?_
    refine q_iaddv (v := (29 : Int32)) rfl (by decide +kernel) ?_
    refine q_iastorev (m := 34) (w9 := ((((w1.set 9 (.inr (6, [.int (x1)]))).set 40 (.inl (0, .inl ((List.replicate 34 0).set 31 (Int32.ofNat D4))))).set 41 (.inr (8, [.int 0, .ref 42, .int 0, .int 0, .int 0, .int 0, .int 0, .int 0, .int (-1), .ref 43, .ref 44, .ref 45, .ref 46, .ref 47, .ref 48, .ref 49, .int 0, .int 0, .int 0, .int 5, .int 0, .int 0, .int 0, .int 5, .ref 50, .ref 51, .ref 52, .ref 53, .ref 54, .int 0, .int 0, .ref 55, .ref 56, .ref 57, .int 0, .int 0, .int 0, .int 0, .int 0, .int 0, .ref 58, .ref 59, .ref 60, .ref 61, .ref 62, .ref 63, .ref 64, .int 0, .int 0, .ref 65, .int (x1), .ref 66, .int 0]))).set 59 (.inl (0, .inl ((List.replicate 37 0).set 34 (29)))))) rfl (by decide) rfl (by decide +kernel) (by decide) rfl ?_
    refine q_vret rfl rfl ?_
    refine bk_inl ?_
    refine q_iincv (v := (29 : Int32)) rfl rfl (by decide) (by decide +kernel) ?_
    refine q_goto (t := 12) rfl (by decide) ?_
    exact goes_29 (by omega) h2 K
set_option maxRecDepth 100000 in
set_option maxHeartbeats 4000000 in
theorem goes_27 {sc : List Int32} {D4 : Nat} {x1 x2 x3 : Int32} {Q : AR → Prop} (h1 : 27 ≤ x3.toInt) (h2 : x3.toInt ≤ 48) (K : ∀ D : Nat, Q (.inl none, ((((w1.set 9 (.inr (6, [.int (x1)]))).set 40 (.inl (0, .inl ((List.replicate 34 0).set 31 (Int32.ofNat D4))))).set 41 (.inr (8, [.int 0, .ref 42, .int 0, .int 0, .int 0, .int 0, .int 0, .int 0, .int (-1), .ref 43, .ref 44, .ref 45, .ref 46, .ref 47, .ref 48, .ref 49, .int 0, .int 0, .int 0, .int 5, .int 0, .int 0, .int 0, .int 5, .ref 50, .ref 51, .ref 52, .ref 53, .ref 54, .int 0, .int 0, .ref 55, .ref 56, .ref 57, .int 0, .int 0, .int 0, .int 0, .int 0, .int 0, .ref 58, .ref 59, .ref 60, .ref 61, .ref 62, .ref 63, .ref 64, .int 0, .int 0, .ref 65, .int (x1), .ref 66, .int 0]))).set 59 (.inl (0, .inl ((List.replicate 37 0).set 34 (Int32.ofNat D))))), 0, 0)) : Wp sc 98 253 12 [(4, .int 27), (0, .ref 41), (1, .int (x1)), (2, .int (x2)), (3, .int (x3))] [] ((((w1.set 9 (.inr (6, [.int (x1)]))).set 40 (.inl (0, .inl ((List.replicate 34 0).set 31 (Int32.ofNat D4))))).set 41 (.inr (8, [.int 0, .ref 42, .int 0, .int 0, .int 0, .int 0, .int 0, .int 0, .int (-1), .ref 43, .ref 44, .ref 45, .ref 46, .ref 47, .ref 48, .ref 49, .int 0, .int 0, .int 0, .int 5, .int 0, .int 0, .int 0, .int 5, .ref 50, .ref 51, .ref 52, .ref 53, .ref 54, .int 0, .int 0, .ref 55, .ref 56, .ref 57, .int 0, .int 0, .int 0, .int 0, .int 0, .int 0, .ref 58, .ref 59, .ref 60, .ref 61, .ref 62, .ref 63, .ref 64, .int 0, .int 0, .ref 65, .int (x1), .ref 66, .int 0]))).set 59 (.inl (0, .inl ((List.replicate 37 0).set 34 (27))))) 0 0 Q := by
  refine q_iload rfl rfl ?_
  refine q_iload_n rfl rfl ?_
  by_cases h101 : (x3).toInt ≤ 27
  · refine q_ic_ge_t (t := 159) rfl (by decide) (i_le_r (a := (27 : Int)) (b := (x3).toInt) (by decide +kernel) rfl (by omega)) ?_
    obtain rfl : x3 = (27 : Int32) := i_eq (a := (x3).toInt) (b := 27) rfl (by decide +kernel) (by omega)
    refine q_vret rfl rfl ?_
    exact K 27
  · refine q_ic_ge_f (t := 159) rfl (by decide) (i_nle_r (a := (27 : Int)) (b := (x3).toInt) (by decide +kernel) rfl (by omega)) ?_
    refine q_aload_n rfl rfl ?_
    refine q_get rfl rfl rfl rfl ?_
    refine q_if_le_t (t := 57) rfl (by decide) (i_le (a := (0 : Int)) (b := (0 : Int)) (by decide +kernel) (by decide +kernel) (by omega)) ?_
    refine q_aload_n rfl rfl ?_
    refine q_get rfl rfl rfl rfl ?_
    refine q_iconstv (v := (2 : Int32)) rfl (by decide +kernel) ?_
    refine q_ic_le_t (t := 129) rfl (by decide) (i_le (a := (0 : Int)) (b := (2 : Int)) (by decide +kernel) (by decide +kernel) (by omega)) ?_
    refine q_aload_n rfl rfl ?_
    refine q_get rfl rfl rfl rfl ?_
    refine q_if_le_t (t := 149) rfl (by decide) (i_le (a := (0 : Int)) (b := (0 : Int)) (by decide +kernel) (by decide +kernel) (by omega)) ?_
    refine q_aload_n rfl rfl ?_
    refine q_call rfl rfl rfl rfl ?_
    refine q_iconstv (v := (0 : Int32)) rfl (by decide +kernel) ?_
    refine q_istore_n rfl (by decide) ?_
    refine q_iload_n rfl rfl ?_
    refine q_aload_n rfl rfl ?_
    refine q_get rfl rfl rfl rfl ?_
    refine q_ic_ge_t (t := 41) rfl (by decide) (i_le_r (a := (0 : Int)) (b := (0 : Int)) (by decide +kernel) (by decide +kernel) (by omega)) ?_
    refine q_aload_n rfl rfl ?_
    refine q_get rfl rfl rfl rfl ?_
    refine q_bipushv (v := (34 : Int32)) rfl (by decide +kernel) ?_
    refine q_dup2 rfl ⟨rfl, rfl⟩ ?_
    refine q_ialoadv (m := 34) rfl (by decide) (by decide) rfl (by decide +kernel) rfl ?_
    refine q_iconstv (v := (1 : Int32)) rfl (by decide +kernel) ?_
    refine q_iaddv (v := (28 : Int32)) rfl (by decide +kernel) ?_
    refine q_iastorev (m := 34) (w9 := ((((w1.set 9 (.inr (6, [.int (x1)]))).set 40 (.inl (0, .inl ((List.replicate 34 0).set 31 (Int32.ofNat D4))))).set 41 (.inr (8, [.int 0, .ref 42, .int 0, .int 0, .int 0, .int 0, .int 0, .int 0, .int (-1), .ref 43, .ref 44, .ref 45, .ref 46, .ref 47, .ref 48, .ref 49, .int 0, .int 0, .int 0, .int 5, .int 0, .int 0, .int 0, .int 5, .ref 50, .ref 51, .ref 52, .ref 53, .ref 54, .int 0, .int 0, .ref 55, .ref 56, .ref 57, .int 0, .int 0, .int 0, .int 0, .int 0, .int 0, .ref 58, .ref 59, .ref 60, .ref 61, .ref 62, .ref 63, .ref 64, .int 0, .int 0, .ref 65, .int (x1), .ref 66, .int 0]))).set 59 (.inl (0, .inl ((List.replicate 37 0).set 34 (28)))))) rfl (by decide) rfl (by decide +kernel) (by decide) rfl ?_
    refine q_vret rfl rfl ?_
    refine bk_inl ?_
    refine q_iincv (v := (28 : Int32)) rfl rfl (by decide) (by decide +kernel) ?_
    refine q_goto (t := 12) rfl (by decide) ?_
    exact goes_28 (by omega) h2 K
set_option maxRecDepth 100000 in
set_option maxHeartbeats 4000000 in
theorem goes_26 {sc : List Int32} {D4 : Nat} {x1 x2 x3 : Int32} {Q : AR → Prop} (h1 : 26 ≤ x3.toInt) (h2 : x3.toInt ≤ 48) (K : ∀ D : Nat, Q (.inl none, ((((w1.set 9 (.inr (6, [.int (x1)]))).set 40 (.inl (0, .inl ((List.replicate 34 0).set 31 (Int32.ofNat D4))))).set 41 (.inr (8, [.int 0, .ref 42, .int 0, .int 0, .int 0, .int 0, .int 0, .int 0, .int (-1), .ref 43, .ref 44, .ref 45, .ref 46, .ref 47, .ref 48, .ref 49, .int 0, .int 0, .int 0, .int 5, .int 0, .int 0, .int 0, .int 5, .ref 50, .ref 51, .ref 52, .ref 53, .ref 54, .int 0, .int 0, .ref 55, .ref 56, .ref 57, .int 0, .int 0, .int 0, .int 0, .int 0, .int 0, .ref 58, .ref 59, .ref 60, .ref 61, .ref 62, .ref 63, .ref 64, .int 0, .int 0, .ref 65, .int (x1), .ref 66, .int 0]))).set 59 (.inl (0, .inl ((List.replicate 37 0).set 34 (Int32.ofNat D))))), 0, 0)) : Wp sc 98 253 12 [(4, .int 26), (0, .ref 41), (1, .int (x1)), (2, .int (x2)), (3, .int (x3))] [] ((((w1.set 9 (.inr (6, [.int (x1)]))).set 40 (.inl (0, .inl ((List.replicate 34 0).set 31 (Int32.ofNat D4))))).set 41 (.inr (8, [.int 0, .ref 42, .int 0, .int 0, .int 0, .int 0, .int 0, .int 0, .int (-1), .ref 43, .ref 44, .ref 45, .ref 46, .ref 47, .ref 48, .ref 49, .int 0, .int 0, .int 0, .int 5, .int 0, .int 0, .int 0, .int 5, .ref 50, .ref 51, .ref 52, .ref 53, .ref 54, .int 0, .int 0, .ref 55, .ref 56, .ref 57, .int 0, .int 0, .int 0, .int 0, .int 0, .int 0, .ref 58, .ref 59, .ref 60, .ref 61, .ref 62, .ref 63, .ref 64, .int 0, .int 0, .ref 65, .int (x1), .ref 66, .int 0]))).set 59 (.inl (0, .inl ((List.replicate 37 0).set 34 (26))))) 0 0 Q := by
  refine q_iload rfl rfl ?_
  refine q_iload_n rfl rfl ?_
  by_cases h101 : (x3).toInt ≤ 26
  · refine q_ic_ge_t (t := 159) rfl (by decide) (i_le_r (a := (26 : Int)) (b := (x3).toInt) (by decide +kernel) rfl (by omega)) ?_
    obtain rfl : x3 = (26 : Int32) := i_eq (a := (x3).toInt) (b := 26) rfl (by decide +kernel) (by omega)
    refine q_vret rfl rfl ?_
    exact K 26
  · refine q_ic_ge_f (t := 159) rfl (by decide) (i_nle_r (a := (26 : Int)) (b := (x3).toInt) (by decide +kernel) rfl (by omega)) ?_
    refine q_aload_n rfl rfl ?_
    refine q_get rfl rfl rfl rfl ?_
    refine q_if_le_t (t := 57) rfl (by decide) (i_le (a := (0 : Int)) (b := (0 : Int)) (by decide +kernel) (by decide +kernel) (by omega)) ?_
    refine q_aload_n rfl rfl ?_
    refine q_get rfl rfl rfl rfl ?_
    refine q_iconstv (v := (2 : Int32)) rfl (by decide +kernel) ?_
    refine q_ic_le_t (t := 129) rfl (by decide) (i_le (a := (0 : Int)) (b := (2 : Int)) (by decide +kernel) (by decide +kernel) (by omega)) ?_
    refine q_aload_n rfl rfl ?_
    refine q_get rfl rfl rfl rfl ?_
    refine q_if_le_t (t := 149) rfl (by decide) (i_le (a := (0 : Int)) (b := (0 : Int)) (by decide +kernel) (by decide +kernel) (by omega)) ?_
    refine q_aload_n rfl rfl ?_
    refine q_call rfl rfl rfl rfl ?_
    refine q_iconstv (v := (0 : Int32)) rfl (by decide +kernel) ?_
    refine q_istore_n rfl (by decide) ?_
    refine q_iload_n rfl rfl ?_
    refine q_aload_n rfl rfl ?_
    refine q_get rfl rfl rfl rfl ?_
    refine q_ic_ge_t (t := 41) rfl (by decide) (i_le_r (a := (0 : Int)) (b := (0 : Int)) (by decide +kernel) (by decide +kernel) (by omega)) ?_
    refine q_aload_n rfl rfl ?_
    refine q_get rfl rfl rfl rfl ?_
    refine q_bipushv (v := (34 : Int32)) rfl (by decide +kernel) ?_
    refine q_dup2 rfl ⟨rfl, rfl⟩ ?_
    refine q_ialoadv (m := 34) rfl (by decide) (by decide) rfl (by decide +kernel) rfl ?_
    refine q_iconstv (v := (1 : Int32)) rfl (by decide +kernel) ?_
    refine q_iaddv (v := (27 : Int32)) rfl (by decide +kernel) ?_
    refine q_iastorev (m := 34) (w9 := ((((w1.set 9 (.inr (6, [.int (x1)]))).set 40 (.inl (0, .inl ((List.replicate 34 0).set 31 (Int32.ofNat D4))))).set 41 (.inr (8, [.int 0, .ref 42, .int 0, .int 0, .int 0, .int 0, .int 0, .int 0, .int (-1), .ref 43, .ref 44, .ref 45, .ref 46, .ref 47, .ref 48, .ref 49, .int 0, .int 0, .int 0, .int 5, .int 0, .int 0, .int 0, .int 5, .ref 50, .ref 51, .ref 52, .ref 53, .ref 54, .int 0, .int 0, .ref 55, .ref 56, .ref 57, .int 0, .int 0, .int 0, .int 0, .int 0, .int 0, .ref 58, .ref 59, .ref 60, .ref 61, .ref 62, .ref 63, .ref 64, .int 0, .int 0, .ref 65, .int (x1), .ref 66, .int 0]))).set 59 (.inl (0, .inl ((List.replicate 37 0).set 34 (27)))))) rfl (by decide) rfl (by decide +kernel) (by decide) rfl ?_
    refine q_vret rfl rfl ?_
    refine bk_inl ?_
    refine q_iincv (v := (27 : Int32)) rfl rfl (by decide) (by decide +kernel) ?_
    refine q_goto (t := 12) rfl (by decide) ?_
    exact goes_27 (by omega) h2 K
set_option maxRecDepth 100000 in
set_option maxHeartbeats 4000000 in
theorem goes_25 {sc : List Int32} {D4 : Nat} {x1 x2 x3 : Int32} {Q : AR → Prop} (h1 : 25 ≤ x3.toInt) (h2 : x3.toInt ≤ 48) (K : ∀ D : Nat, Q (.inl none, ((((w1.set 9 (.inr (6, [.int (x1)]))).set 40 (.inl (0, .inl ((List.replicate 34 0).set 31 (Int32.ofNat D4))))).set 41 (.inr (8, [.int 0, .ref 42, .int 0, .int 0, .int 0, .int 0, .int 0, .int 0, .int (-1), .ref 43, .ref 44, .ref 45, .ref 46, .ref 47, .ref 48, .ref 49, .int 0, .int 0, .int 0, .int 5, .int 0, .int 0, .int 0, .int 5, .ref 50, .ref 51, .ref 52, .ref 53, .ref 54, .int 0, .int 0, .ref 55, .ref 56, .ref 57, .int 0, .int 0, .int 0, .int 0, .int 0, .int 0, .ref 58, .ref 59, .ref 60, .ref 61, .ref 62, .ref 63, .ref 64, .int 0, .int 0, .ref 65, .int (x1), .ref 66, .int 0]))).set 59 (.inl (0, .inl ((List.replicate 37 0).set 34 (Int32.ofNat D))))), 0, 0)) : Wp sc 98 253 12 [(4, .int 25), (0, .ref 41), (1, .int (x1)), (2, .int (x2)), (3, .int (x3))] [] ((((w1.set 9 (.inr (6, [.int (x1)]))).set 40 (.inl (0, .inl ((List.replicate 34 0).set 31 (Int32.ofNat D4))))).set 41 (.inr (8, [.int 0, .ref 42, .int 0, .int 0, .int 0, .int 0, .int 0, .int 0, .int (-1), .ref 43, .ref 44, .ref 45, .ref 46, .ref 47, .ref 48, .ref 49, .int 0, .int 0, .int 0, .int 5, .int 0, .int 0, .int 0, .int 5, .ref 50, .ref 51, .ref 52, .ref 53, .ref 54, .int 0, .int 0, .ref 55, .ref 56, .ref 57, .int 0, .int 0, .int 0, .int 0, .int 0, .int 0, .ref 58, .ref 59, .ref 60, .ref 61, .ref 62, .ref 63, .ref 64, .int 0, .int 0, .ref 65, .int (x1), .ref 66, .int 0]))).set 59 (.inl (0, .inl ((List.replicate 37 0).set 34 (25))))) 0 0 Q := by
  refine q_iload rfl rfl ?_
  refine q_iload_n rfl rfl ?_
  by_cases h101 : (x3).toInt ≤ 25
  · refine q_ic_ge_t (t := 159) rfl (by decide) (i_le_r (a := (25 : Int)) (b := (x3).toInt) (by decide +kernel) rfl (by omega)) ?_
    obtain rfl : x3 = (25 : Int32) := i_eq (a := (x3).toInt) (b := 25) rfl (by decide +kernel) (by omega)
    refine q_vret rfl rfl ?_
    exact K 25
  · refine q_ic_ge_f (t := 159) rfl (by decide) (i_nle_r (a := (25 : Int)) (b := (x3).toInt) (by decide +kernel) rfl (by omega)) ?_
    refine q_aload_n rfl rfl ?_
    refine q_get rfl rfl rfl rfl ?_
    refine q_if_le_t (t := 57) rfl (by decide) (i_le (a := (0 : Int)) (b := (0 : Int)) (by decide +kernel) (by decide +kernel) (by omega)) ?_
    refine q_aload_n rfl rfl ?_
    refine q_get rfl rfl rfl rfl ?_
    refine q_iconstv (v := (2 : Int32)) rfl (by decide +kernel) ?_
    refine q_ic_le_t (t := 129) rfl (by decide) (i_le (a := (0 : Int)) (b := (2 : Int)) (by decide +kernel) (by decide +kernel) (by omega)) ?_
    refine q_aload_n rfl rfl ?_
    refine q_get rfl rfl rfl rfl ?_
    refine q_if_le_t (t := 149) rfl (by decide) (i_le (a := (0 : Int)) (b := (0 : Int)) (by decide +kernel) (by decide +kernel) (by omega)) ?_
    refine q_aload_n rfl rfl ?_
    refine q_call rfl rfl rfl rfl ?_
    refine q_iconstv (v := (0 : Int32)) rfl (by decide +kernel) ?_
    refine q_istore_n rfl (by decide) ?_
    refine q_iload_n rfl rfl ?_
    refine q_aload_n rfl rfl ?_
    refine q_get rfl rfl rfl rfl ?_
    refine q_ic_ge_t (t := 41) rfl (by decide) (i_le_r (a := (0 : Int)) (b := (0 : Int)) (by decide +kernel) (by decide +kernel) (by omega)) ?_
    refine q_aload_n rfl rfl ?_
    refine q_get rfl rfl rfl rfl ?_
    refine q_bipushv (v := (34 : Int32)) rfl (by decide +kernel) ?_
    refine q_dup2 rfl ⟨rfl, rfl⟩ ?_
    refine q_ialoadv (m := 34) rfl (by decide) (by decide) rfl (by decide +kernel) rfl ?_
    refine q_iconstv (v := (1 : Int32)) rfl (by decide +kernel) ?_
    refine q_iaddv (v := (26 : Int32)) rfl (by decide +kernel) ?_
    refine q_iastorev (m := 34) (w9 := ((((w1.set 9 (.inr (6, [.int (x1)]))).set 40 (.inl (0, .inl ((List.replicate 34 0).set 31 (Int32.ofNat D4))))).set 41 (.inr (8, [.int 0, .ref 42, .int 0, .int 0, .int 0, .int 0, .int 0, .int 0, .int (-1), .ref 43, .ref 44, .ref 45, .ref 46, .ref 47, .ref 48, .ref 49, .int 0, .int 0, .int 0, .int 5, .int 0, .int 0, .int 0, .int 5, .ref 50, .ref 51, .ref 52, .ref 53, .ref 54, .int 0, .int 0, .ref 55, .ref 56, .ref 57, .int 0, .int 0, .int 0, .int 0, .int 0, .int 0, .ref 58, .ref 59, .ref 60, .ref 61, .ref 62, .ref 63, .ref 64, .int 0, .int 0, .ref 65, .int (x1), .ref 66, .int 0]))).set 59 (.inl (0, .inl ((List.replicate 37 0).set 34 (26)))))) rfl (by decide) rfl (by decide +kernel) (by decide) rfl ?_
    refine q_vret rfl rfl ?_
    refine bk_inl ?_
    refine q_iincv (v := (26 : Int32)) rfl rfl (by decide) (by decide +kernel) ?_
    refine q_goto (t := 12) rfl (by decide) ?_
    exact goes_26 (by omega) h2 K
set_option maxRecDepth 100000 in
set_option maxHeartbeats 4000000 in
theorem goes_24 {sc : List Int32} {D4 : Nat} {x1 x2 x3 : Int32} {Q : AR → Prop} (h1 : 24 ≤ x3.toInt) (h2 : x3.toInt ≤ 48) (K : ∀ D : Nat, Q (.inl none, ((((w1.set 9 (.inr (6, [.int (x1)]))).set 40 (.inl (0, .inl ((List.replicate 34 0).set 31 (Int32.ofNat D4))))).set 41 (.inr (8, [.int 0, .ref 42, .int 0, .int 0, .int 0, .int 0, .int 0, .int 0, .int (-1), .ref 43, .ref 44, .ref 45, .ref 46, .ref 47, .ref 48, .ref 49, .int 0, .int 0, .int 0, .int 5, .int 0, .int 0, .int 0, .int 5, .ref 50, .ref 51, .ref 52, .ref 53, .ref 54, .int 0, .int 0, .ref 55, .ref 56, .ref 57, .int 0, .int 0, .int 0, .int 0, .int 0, .int 0, .ref 58, .ref 59, .ref 60, .ref 61, .ref 62, .ref 63, .ref 64, .int 0, .int 0, .ref 65, .int (x1), .ref 66, .int 0]))).set 59 (.inl (0, .inl ((List.replicate 37 0).set 34 (Int32.ofNat D))))), 0, 0)) : Wp sc 98 253 12 [(4, .int 24), (0, .ref 41), (1, .int (x1)), (2, .int (x2)), (3, .int (x3))] [] ((((w1.set 9 (.inr (6, [.int (x1)]))).set 40 (.inl (0, .inl ((List.replicate 34 0).set 31 (Int32.ofNat D4))))).set 41 (.inr (8, [.int 0, .ref 42, .int 0, .int 0, .int 0, .int 0, .int 0, .int 0, .int (-1), .ref 43, .ref 44, .ref 45, .ref 46, .ref 47, .ref 48, .ref 49, .int 0, .int 0, .int 0, .int 5, .int 0, .int 0, .int 0, .int 5, .ref 50, .ref 51, .ref 52, .ref 53, .ref 54, .int 0, .int 0, .ref 55, .ref 56, .ref 57, .int 0, .int 0, .int 0, .int 0, .int 0, .int 0, .ref 58, .ref 59, .ref 60, .ref 61, .ref 62, .ref 63, .ref 64, .int 0, .int 0, .ref 65, .int (x1), .ref 66, .int 0]))).set 59 (.inl (0, .inl ((List.replicate 37 0).set 34 (24))))) 0 0 Q := by
  refine q_iload rfl rfl ?_
  refine q_iload_n rfl rfl ?_
  by_cases h101 : (x3).toInt ≤ 24
  · refine q_ic_ge_t (t := 159) rfl (by decide) (i_le_r (a := (24 : Int)) (b := (x3).toInt) (by decide +kernel) rfl (by omega)) ?_
    obtain rfl : x3 = (24 : Int32) := i_eq (a := (x3).toInt) (b := 24) rfl (by decide +kernel) (by omega)
    refine q_vret rfl rfl ?_
    exact K 24
  · refine q_ic_ge_f (t := 159) rfl (by decide) (i_nle_r (a := (24 : Int)) (b := (x3).toInt) (by decide +kernel) rfl (by omega)) ?_
    refine q_aload_n rfl rfl ?_
    refine q_get rfl rfl rfl rfl ?_
    refine q_if_le_t (t := 57) rfl (by decide) (i_le (a := (0 : Int)) (b := (0 : Int)) (by decide +kernel) (by decide +kernel) (by omega)) ?_
    refine q_aload_n rfl rfl ?_
    refine q_get rfl rfl rfl rfl ?_
    refine q_iconstv (v := (2 : Int32)) rfl (by decide +kernel) ?_
    refine q_ic_le_t (t := 129) rfl (by decide) (i_le (a := (0 : Int)) (b := (2 : Int)) (by decide +kernel) (by decide +kernel) (by omega)) ?_
    refine q_aload_n rfl rfl ?_
    refine q_get rfl rfl rfl rfl ?_
    refine q_if_le_t (t := 149) rfl (by decide) (i_le (a := (0 : Int)) (b := (0 : Int)) (by decide +kernel) (by decide +kernel) (by omega)) ?_
    refine q_aload_n rfl rfl ?_
    refine q_call rfl rfl rfl rfl ?_
    refine q_iconstv (v := (0 : Int32)) rfl (by decide +kernel) ?_
    refine q_istore_n rfl (by decide) ?_
    refine q_iload_n rfl rfl ?_
    refine q_aload_n rfl rfl ?_
    refine q_get rfl rfl rfl rfl ?_
    refine q_ic_ge_t (t := 41) rfl (by decide) (i_le_r (a := (0 : Int)) (b := (0 : Int)) (by decide +kernel) (by decide +kernel) (by omega)) ?_
    refine q_aload_n rfl rfl ?_
    refine q_get rfl rfl rfl rfl ?_
    refine q_bipushv (v := (34 : Int32)) rfl (by decide +kernel) ?_
    refine q_dup2 rfl ⟨rfl, rfl⟩ ?_
    refine q_ialoadv (m := 34) rfl (by decide) (by decide) rfl (by decide +kernel) rfl ?_
    refine q_iconstv (v := (1 : Int32)) rfl (by decide +kernel) ?_
    refine q_iaddv (v := (25 : Int32)) rfl (by decide +kernel) ?_
    refine q_iastorev (m := 34) (w9 := ((((w1.set 9 (.inr (6, [.int (x1)]))).set 40 (.inl (0, .inl ((List.replicate 34 0).set 31 (Int32.ofNat D4))))).set 41 (.inr (8, [.int 0, .ref 42, .int 0, .int 0, .int 0, .int 0, .int 0, .int 0, .int (-1), .ref 43, .ref 44, .ref 45, .ref 46, .ref 47, .ref 48, .ref 49, .int 0, .int 0, .int 0, .int 5, .int 0, .int 0, .int 0, .int 5, .ref 50, .ref 51, .ref 52, .ref 53, .ref 54, .int 0, .int 0, .ref 55, .ref 56, .ref 57, .int 0, .int 0, .int 0, .int 0, .int 0, .int 0, .ref 58, .ref 59, .ref 60, .ref 61, .ref 62, .ref 63, .ref 64, .int 0, .int 0, .ref 65, .int (x1), .ref 66, .int 0]))).set 59 (.inl (0, .inl ((List.replicate 37 0).set 34 (25)))))) rfl (by decide) rfl (by decide +kernel) (by decide) rfl ?_
    refine q_vret rfl rfl ?_
    refine bk_inl ?_
    refine q_iincv (v := (25 : Int32)) rfl rfl (by decide) (by decide +kernel) ?_
    refine q_goto (t := 12) rfl (by decide) ?_
    exact goes_25 (by omega) h2 K
set_option maxRecDepth 100000 in
set_option maxHeartbeats 4000000 in
theorem goes_23 {sc : List Int32} {D4 : Nat} {x1 x2 x3 : Int32} {Q : AR → Prop} (h1 : 23 ≤ x3.toInt) (h2 : x3.toInt ≤ 48) (K : ∀ D : Nat, Q (.inl none, ((((w1.set 9 (.inr (6, [.int (x1)]))).set 40 (.inl (0, .inl ((List.replicate 34 0).set 31 (Int32.ofNat D4))))).set 41 (.inr (8, [.int 0, .ref 42, .int 0, .int 0, .int 0, .int 0, .int 0, .int 0, .int (-1), .ref 43, .ref 44, .ref 45, .ref 46, .ref 47, .ref 48, .ref 49, .int 0, .int 0, .int 0, .int 5, .int 0, .int 0, .int 0, .int 5, .ref 50, .ref 51, .ref 52, .ref 53, .ref 54, .int 0, .int 0, .ref 55, .ref 56, .ref 57, .int 0, .int 0, .int 0, .int 0, .int 0, .int 0, .ref 58, .ref 59, .ref 60, .ref 61, .ref 62, .ref 63, .ref 64, .int 0, .int 0, .ref 65, .int (x1), .ref 66, .int 0]))).set 59 (.inl (0, .inl ((List.replicate 37 0).set 34 (Int32.ofNat D))))), 0, 0)) : Wp sc 98 253 12 [(4, .int 23), (0, .ref 41), (1, .int (x1)), (2, .int (x2)), (3, .int (x3))] [] ((((w1.set 9 (.inr (6, [.int (x1)]))).set 40 (.inl (0, .inl ((List.replicate 34 0).set 31 (Int32.ofNat D4))))).set 41 (.inr (8, [.int 0, .ref 42, .int 0, .int 0, .int 0, .int 0, .int 0, .int 0, .int (-1), .ref 43, .ref 44, .ref 45, .ref 46, .ref 47, .ref 48, .ref 49, .int 0, .int 0, .int 0, .int 5, .int 0, .int 0, .int 0, .int 5, .ref 50, .ref 51, .ref 52, .ref 53, .ref 54, .int 0, .int 0, .ref 55, .ref 56, .ref 57, .int 0, .int 0, .int 0, .int 0, .int 0, .int 0, .ref 58, .ref 59, .ref 60, .ref 61, .ref 62, .ref 63, .ref 64, .int 0, .int 0, .ref 65, .int (x1), .ref 66, .int 0]))).set 59 (.inl (0, .inl ((List.replicate 37 0).set 34 (23))))) 0 0 Q := by
  refine q_iload rfl rfl ?_
  refine q_iload_n rfl rfl ?_
  by_cases h101 : (x3).toInt ≤ 23
  · refine q_ic_ge_t (t := 159) rfl (by decide) (i_le_r (a := (23 : Int)) (b := (x3).toInt) (by decide +kernel) rfl (by omega)) ?_
    obtain rfl : x3 = (23 : Int32) := i_eq (a := (x3).toInt) (b := 23) rfl (by decide +kernel) (by omega)
    refine q_vret rfl rfl ?_
    exact K 23
  · refine q_ic_ge_f (t := 159) rfl (by decide) (i_nle_r (a := (23 : Int)) (b := (x3).toInt) (by decide +kernel) rfl (by omega)) ?_
    refine q_aload_n rfl rfl ?_
    refine q_get rfl rfl rfl rfl ?_
    refine q_if_le_t (t := 57) rfl (by decide) (i_le (a := (0 : Int)) (b := (0 : Int)) (by decide +kernel) (by decide +kernel) (by omega)) ?_
    refine q_aload_n rfl rfl ?_
    refine q_get rfl rfl rfl rfl ?_
    refine q_iconstv (v := (2 : Int32)) rfl (by decide +kernel) ?_
    refine q_ic_le_t (t := 129) rfl (by decide) (i_le (a := (0 : Int)) (b := (2 : Int)) (by decide +kernel) (by decide +kernel) (by omega)) ?_
    refine q_aload_n rfl rfl ?_
    refine q_get rfl rfl rfl rfl ?_
    refine q_if_le_t (t := 149) rfl (by decide) (i_le (a := (0 : Int)) (b := (0 : Int)) (by decide +kernel) (by decide +kernel) (by omega)) ?_
    refine q_aload_n rfl rfl ?_
    refine q_call rfl rfl rfl rfl ?_
    refine q_iconstv (v := (0 : Int32)) rfl (by decide +kernel) ?_
    refine q_istore_n rfl (by decide) ?_
    refine q_iload_n rfl rfl ?_
    refine q_aload_n rfl rfl ?_
    refine q_get rfl rfl rfl rfl ?_
    refine q_ic_ge_t (t := 41) rfl (by decide) (i_le_r (a := (0 : Int)) (b := (0 : Int)) (by decide +kernel) (by decide +kernel) (by omega)) ?_
    refine q_aload_n rfl rfl ?_
    refine q_get rfl rfl rfl rfl ?_
    refine q_bipushv (v := (34 : Int32)) rfl (by decide +kernel) ?_
    refine q_dup2 rfl ⟨rfl, rfl⟩ ?_
    refine q_ialoadv (m := 34) rfl (by decide) (by decide) rfl (by decide +kernel) rfl ?_
    refine q_iconstv (v := (1 : Int32)) rfl (by decide +kernel) ?_
    refine q_iaddv (v := (24 : Int32)) rfl (by decide +kernel) ?_
    refine q_iastorev (m := 34) (w9 := ((((w1.set 9 (.inr (6, [.int (x1)]))).set 40 (.inl (0, .inl ((List.replicate 34 0).set 31 (Int32.ofNat D4))))).set 41 (.inr (8, [.int 0, .ref 42, .int 0, .int 0, .int 0, .int 0, .int 0, .int 0, .int (-1), .ref 43, .ref 44, .ref 45, .ref 46, .ref 47, .ref 48, .ref 49, .int 0, .int 0, .int 0, .int 5, .int 0, .int 0, .int 0, .int 5, .ref 50, .ref 51, .ref 52, .ref 53, .ref 54, .int 0, .int 0, .ref 55, .ref 56, .ref 57, .int 0, .int 0, .int 0, .int 0, .int 0, .int 0, .ref 58, .ref 59, .ref 60, .ref 61, .ref 62, .ref 63, .ref 64, .int 0, .int 0, .ref 65, .int (x1), .ref 66, .int 0]))).set 59 (.inl (0, .inl ((List.replicate 37 0).set 34 (24)))))) rfl (by decide) rfl (by decide +kernel) (by decide) rfl ?_
    refine q_vret rfl rfl ?_
    refine bk_inl ?_
    refine q_iincv (v := (24 : Int32)) rfl rfl (by decide) (by decide +kernel) ?_
    refine q_goto (t := 12) rfl (by decide) ?_
    exact goes_24 (by omega) h2 K
set_option maxRecDepth 100000 in
set_option maxHeartbeats 4000000 in
theorem goes_22 {sc : List Int32} {D4 : Nat} {x1 x2 x3 : Int32} {Q : AR → Prop} (h1 : 22 ≤ x3.toInt) (h2 : x3.toInt ≤ 48) (K : ∀ D : Nat, Q (.inl none, ((((w1.set 9 (.inr (6, [.int (x1)]))).set 40 (.inl (0, .inl ((List.replicate 34 0).set 31 (Int32.ofNat D4))))).set 41 (.inr (8, [.int 0, .ref 42, .int 0, .int 0, .int 0, .int 0, .int 0, .int 0, .int (-1), .ref 43, .ref 44, .ref 45, .ref 46, .ref 47, .ref 48, .ref 49, .int 0, .int 0, .int 0, .int 5, .int 0, .int 0, .int 0, .int 5, .ref 50, .ref 51, .ref 52, .ref 53, .ref 54, .int 0, .int 0, .ref 55, .ref 56, .ref 57, .int 0, .int 0, .int 0, .int 0, .int 0, .int 0, .ref 58, .ref 59, .ref 60, .ref 61, .ref 62, .ref 63, .ref 64, .int 0, .int 0, .ref 65, .int (x1), .ref 66, .int 0]))).set 59 (.inl (0, .inl ((List.replicate 37 0).set 34 (Int32.ofNat D))))), 0, 0)) : Wp sc 98 253 12 [(4, .int 22), (0, .ref 41), (1, .int (x1)), (2, .int (x2)), (3, .int (x3))] [] ((((w1.set 9 (.inr (6, [.int (x1)]))).set 40 (.inl (0, .inl ((List.replicate 34 0).set 31 (Int32.ofNat D4))))).set 41 (.inr (8, [.int 0, .ref 42, .int 0, .int 0, .int 0, .int 0, .int 0, .int 0, .int (-1), .ref 43, .ref 44, .ref 45, .ref 46, .ref 47, .ref 48, .ref 49, .int 0, .int 0, .int 0, .int 5, .int 0, .int 0, .int 0, .int 5, .ref 50, .ref 51, .ref 52, .ref 53, .ref 54, .int 0, .int 0, .ref 55, .ref 56, .ref 57, .int 0, .int 0, .int 0, .int 0, .int 0, .int 0, .ref 58, .ref 59, .ref 60, .ref 61, .ref 62, .ref 63, .ref 64, .int 0, .int 0, .ref 65, .int (x1), .ref 66, .int 0]))).set 59 (.inl (0, .inl ((List.replicate 37 0).set 34 (22))))) 0 0 Q := by
  refine q_iload rfl rfl ?_
  refine q_iload_n rfl rfl ?_
  by_cases h101 : (x3).toInt ≤ 22
  · refine q_ic_ge_t (t := 159) rfl (by decide) (i_le_r (a := (22 : Int)) (b := (x3).toInt) (by decide +kernel) rfl (by omega)) ?_
    obtain rfl : x3 = (22 : Int32) := i_eq (a := (x3).toInt) (b := 22) rfl (by decide +kernel) (by omega)
    refine q_vret rfl rfl ?_
    exact K 22
  · refine q_ic_ge_f (t := 159) rfl (by decide) (i_nle_r (a := (22 : Int)) (b := (x3).toInt) (by decide +kernel) rfl (by omega)) ?_
    refine q_aload_n rfl rfl ?_
    refine q_get rfl rfl rfl rfl ?_
    refine q_if_le_t (t := 57) rfl (by decide) (i_le (a := (0 : Int)) (b := (0 : Int)) (by decide +kernel) (by decide +kernel) (by omega)) ?_
    refine q_aload_n rfl rfl ?_
    refine q_get rfl rfl rfl rfl ?_
    refine q_iconstv (v := (2 : Int32)) rfl (by decide +kernel) ?_
    refine q_ic_le_t (t := 129) rfl (by decide) (i_le (a := (0 : Int)) (b := (2 : Int)) (by decide +kernel) (by decide +kernel) (by omega)) ?_
    refine q_aload_n rfl rfl ?_
    refine q_get rfl rfl rfl rfl ?_
    refine q_if_le_t (t := 149) rfl (by decide) (i_le (a := (0 : Int)) (b := (0 : Int)) (by decide +kernel) (by decide +kernel) (by omega)) ?_
    refine q_aload_n rfl rfl ?_
    refine q_call rfl rfl rfl rfl ?_
    refine q_iconstv (v := (0 : Int32)) rfl (by decide +kernel) ?_
    refine q_istore_n rfl (by decide) ?_
    refine q_iload_n rfl rfl ?_
    refine q_aload_n rfl rfl ?_
    refine q_get rfl rfl rfl rfl ?_
    refine q_ic_ge_t (t := 41) rfl (by decide) (i_le_r (a := (0 : Int)) (b := (0 : Int)) (by decide +kernel) (by decide +kernel) (by omega)) ?_
    refine q_aload_n rfl rfl ?_
    refine q_get rfl rfl rfl rfl ?_
    refine q_bipushv (v := (34 : Int32)) rfl (by decide +kernel) ?_
    refine q_dup2 rfl ⟨rfl, rfl⟩ ?_
    refine q_ialoadv (m := 34) rfl (by decide) (by decide) rfl (by decide +kernel) rfl ?_
    refine q_iconstv (v := (1 : Int32)) rfl (by decide +kernel) ?_
    refine q_iaddv (v := (23 : Int32)) rfl (by decide +kernel) ?_
    refine q_iastorev (m := 34) (w9 := ((((w1.set 9 (.inr (6, [.int (x1)]))).set 40 (.inl (0, .inl ((List.replicate 34 0).set 31 (Int32.ofNat D4))))).set 41 (.inr (8, [.int 0, .ref 42, .int 0, .int 0, .int 0, .int 0, .int 0, .int 0, .int (-1), .ref 43, .ref 44, .ref 45, .ref 46, .ref 47, .ref 48, .ref 49, .int 0, .int 0, .int 0, .int 5, .int 0, .int 0, .int 0, .int 5, .ref 50, .ref 51, .ref 52, .ref 53, .ref 54, .int 0, .int 0, .ref 55, .ref 56, .ref 57, .int 0, .int 0, .int 0, .int 0, .int 0, .int 0, .ref 58, .ref 59, .ref 60, .ref 61, .ref 62, .ref 63, .ref 64, .int 0, .int 0, .ref 65, .int (x1), .ref 66, .int 0]))).set 59 (.inl (0, .inl ((List.replicate 37 0).set 34 (23)))))) rfl (by decide) rfl (by decide +kernel) (by decide) rfl ?_
    refine q_vret rfl rfl ?_
    refine bk_inl ?_
    refine q_iincv (v := (23 : Int32)) rfl rfl (by decide) (by decide +kernel) ?_
    refine q_goto (t := 12) rfl (by decide) ?_
    exact goes_23 (by omega) h2 K
set_option maxRecDepth 100000 in
set_option maxHeartbeats 4000000 in
theorem goes_21 {sc : List Int32} {D4 : Nat} {x1 x2 x3 : Int32} {Q : AR → Prop} (h1 : 21 ≤ x3.toInt) (h2 : x3.toInt ≤ 48) (K : ∀ D : Nat, Q (.inl none, ((((w1.set 9 (.inr (6, [.int (x1)]))).set 40 (.inl (0, .inl ((List.replicate 34 0).set 31 (Int32.ofNat D4))))).set 41 (.inr (8, [.int 0, .ref 42, .int 0, .int 0, .int 0, .int 0, .int 0, .int 0, .int (-1), .ref 43, .ref 44, .ref 45, .ref 46, .ref 47, .ref 48, .ref 49, .int 0, .int 0, .int 0, .int 5, .int 0, .int 0, .int 0, .int 5, .ref 50, .ref 51, .ref 52, .ref 53, .ref 54, .int 0, .int 0, .ref 55, .ref 56, .ref 57, .int 0, .int 0, .int 0, .int 0, .int 0, .int 0, .ref 58, .ref 59, .ref 60, .ref 61, .ref 62, .ref 63, .ref 64, .int 0, .int 0, .ref 65, .int (x1), .ref 66, .int 0]))).set 59 (.inl (0, .inl ((List.replicate 37 0).set 34 (Int32.ofNat D))))), 0, 0)) : Wp sc 98 253 12 [(4, .int 21), (0, .ref 41), (1, .int (x1)), (2, .int (x2)), (3, .int (x3))] [] ((((w1.set 9 (.inr (6, [.int (x1)]))).set 40 (.inl (0, .inl ((List.replicate 34 0).set 31 (Int32.ofNat D4))))).set 41 (.inr (8, [.int 0, .ref 42, .int 0, .int 0, .int 0, .int 0, .int 0, .int 0, .int (-1), .ref 43, .ref 44, .ref 45, .ref 46, .ref 47, .ref 48, .ref 49, .int 0, .int 0, .int 0, .int 5, .int 0, .int 0, .int 0, .int 5, .ref 50, .ref 51, .ref 52, .ref 53, .ref 54, .int 0, .int 0, .ref 55, .ref 56, .ref 57, .int 0, .int 0, .int 0, .int 0, .int 0, .int 0, .ref 58, .ref 59, .ref 60, .ref 61, .ref 62, .ref 63, .ref 64, .int 0, .int 0, .ref 65, .int (x1), .ref 66, .int 0]))).set 59 (.inl (0, .inl ((List.replicate 37 0).set 34 (21))))) 0 0 Q := by
  refine q_iload rfl rfl ?_
  refine q_iload_n rfl rfl ?_
  by_cases h101 : (x3).toInt ≤ 21
  · refine q_ic_ge_t (t := 159) rfl (by decide) (i_le_r (a := (21 : Int)) (b := (x3).toInt) (by decide +kernel) rfl (by omega)) ?_
    obtain rfl : x3 = (21 : Int32) := i_eq (a := (x3).toInt) (b := 21) rfl (by decide +kernel) (by omega)
    refine q_vret rfl rfl ?_
    exact K 21
  · refine q_ic_ge_f (t := 159) rfl (by decide) (i_nle_r (a := (21 : Int)) (b := (x3).toInt) (by decide +kernel) rfl (by omega)) ?_
    refine q_aload_n rfl rfl ?_
    refine q_get rfl rfl rfl rfl ?_
    refine q_if_le_t (t := 57) rfl (by decide) (i_le (a := (0 : Int)) (b := (0 : Int)) (by decide +kernel) (by decide +kernel) (by omega)) ?_
    refine q_aload_n rfl rfl ?_
    refine q_get rfl rfl rfl rfl ?_
    refine q_iconstv (v := (2 : Int32)) rfl (by decide +kernel) ?_
    refine q_ic_le_t (t := 129) rfl (by decide) (i_le (a := (0 : Int)) (b := (2 : Int)) (by decide +kernel) (by decide +kernel) (by omega)) ?_
    refine q_aload_n rfl rfl ?_
    refine q_get rfl rfl rfl rfl ?_
    refine q_if_le_t (t := 149) rfl (by decide) (i_le (a := (0 : Int)) (b := (0 : Int)) (by decide +kernel) (by decide +kernel) (by omega)) ?_
    refine q_aload_n rfl rfl ?_
    refine q_call rfl rfl rfl rfl ?_
    refine q_iconstv (v := (0 : Int32)) rfl (by decide +kernel) ?_
    refine q_istore_n rfl (by decide) ?_
    refine q_iload_n rfl rfl ?_
    refine q_aload_n rfl rfl ?_
    refine q_get rfl rfl rfl rfl ?_
    refine q_ic_ge_t (t := 41) rfl (by decide) (i_le_r (a := (0 : Int)) (b := (0 : Int)) (by decide +kernel) (by decide +kernel) (by omega)) ?_
    refine q_aload_n rfl rfl ?_
    refine q_get rfl rfl rfl rfl ?_
    refine q_bipushv (v := (34 : Int32)) rfl (by decide +kernel) ?_
    refine q_dup2 rfl ⟨rfl, rfl⟩ ?_
    refine q_ialoadv (m := 34) rfl (by decide) (by decide) rfl (by decide +kernel) rfl ?_
    refine q_iconstv (v := (1 : Int32)) rfl (by decide +kernel) ?_
    refine q_iaddv (v := (22 : Int32)) rfl (by decide +kernel) ?_
    refine q_iastorev (m := 34) (w9 := ((((w1.set 9 (.inr (6, [.int (x1)]))).set 40 (.inl (0, .inl ((List.replicate 34 0).set 31 (Int32.ofNat D4))))).set 41 (.inr (8, [.int 0, .ref 42, .int 0, .int 0, .int 0, .int 0, .int 0, .int 0, .int (-1), .ref 43, .ref 44, .ref 45, .ref 46, .ref 47, .ref 48, .ref 49, .int 0, .int 0, .int 0, .int 5, .int 0, .int 0, .int 0, .int 5, .ref 50, .ref 51, .ref 52, .ref 53, .ref 54, .int 0, .int 0, .ref 55, .ref 56, .ref 57, .int 0, .int 0, .int 0, .int 0, .int 0, .int 0, .ref 58, .ref 59, .ref 60, .ref 61, .ref 62, .ref 63, .ref 64, .int 0, .int 0, .ref 65, .int (x1), .ref 66, .int 0]))).set 59 (.inl (0, .inl ((List.replicate 37 0).set 34 (22)))))) rfl (by decide) rfl (by decide +kernel) (by decide) rfl ?_
    refine q_vret rfl rfl ?_
    refine bk_inl ?_
    refine q_iincv (v := (22 : Int32)) rfl rfl (by decide) (by decide +kernel) ?_
    refine q_goto (t := 12) rfl (by decide) ?_
    exact goes_22 (by omega) h2 K
set_option maxRecDepth 100000 in
set_option maxHeartbeats 4000000 in
theorem goes_20 {sc : List Int32} {D4 : Nat} {x1 x2 x3 : Int32} {Q : AR → Prop} (h1 : 20 ≤ x3.toInt) (h2 : x3.toInt ≤ 48) (K : ∀ D : Nat, Q (.inl none, ((((w1.set 9 (.inr (6, [.int (x1)]))).set 40 (.inl (0, .inl ((List.replicate 34 0).set 31 (Int32.ofNat D4))))).set 41 (.inr (8, [.int 0, .ref 42, .int 0, .int 0, .int 0, .int 0, .int 0, .int 0, .int (-1), .ref 43, .ref 44, .ref 45, .ref 46, .ref 47, .ref 48, .ref 49, .int 0, .int 0, .int 0, .int 5, .int 0, .int 0, .int 0, .int 5, .ref 50, .ref 51, .ref 52, .ref 53, .ref 54, .int 0, .int 0, .ref 55, .ref 56, .ref 57, .int 0, .int 0, .int 0, .int 0, .int 0, .int 0, .ref 58, .ref 59, .ref 60, .ref 61, .ref 62, .ref 63, .ref 64, .int 0, .int 0, .ref 65, .int (x1), .ref 66, .int 0]))).set 59 (.inl (0, .inl ((List.replicate 37 0).set 34 (Int32.ofNat D))))), 0, 0)) : Wp sc 98 253 12 [(4, .int 20), (0, .ref 41), (1, .int (x1)), (2, .int (x2)), (3, .int (x3))] [] ((((w1.set 9 (.inr (6, [.int (x1)]))).set 40 (.inl (0, .inl ((List.replicate 34 0).set 31 (Int32.ofNat D4))))).set 41 (.inr (8, [.int 0, .ref 42, .int 0, .int 0, .int 0, .int 0, .int 0, .int 0, .int (-1), .ref 43, .ref 44, .ref 45, .ref 46, .ref 47, .ref 48, .ref 49, .int 0, .int 0, .int 0, .int 5, .int 0, .int 0, .int 0, .int 5, .ref 50, .ref 51, .ref 52, .ref 53, .ref 54, .int 0, .int 0, .ref 55, .ref 56, .ref 57, .int 0, .int 0, .int 0, .int 0, .int 0, .int 0, .ref 58, .ref 59, .ref 60, .ref 61, .ref 62, .ref 63, .ref 64, .int 0, .int 0, .ref 65, .int (x1), .ref 66, .int 0]))).set 59 (.inl (0, .inl ((List.replicate 37 0).set 34 (20))))) 0 0 Q := by
  refine q_iload rfl rfl ?_
  refine q_iload_n rfl rfl ?_
  by_cases h101 : (x3).toInt ≤ 20
  · refine q_ic_ge_t (t := 159) rfl (by decide) (i_le_r (a := (20 : Int)) (b := (x3).toInt) (by decide +kernel) rfl (by omega)) ?_
    obtain rfl : x3 = (20 : Int32) := i_eq (a := (x3).toInt) (b := 20) rfl (by decide +kernel) (by omega)
    refine q_vret rfl rfl ?_
    exact K 20
  · refine q_ic_ge_f (t := 159) rfl (by decide) (i_nle_r (a := (20 : Int)) (b := (x3).toInt) (by decide +kernel) rfl (by omega)) ?_
    refine q_aload_n rfl rfl ?_
    refine q_get rfl rfl rfl rfl ?_
    refine q_if_le_t (t := 57) rfl (by decide) (i_le (a := (0 : Int)) (b := (0 : Int)) (by decide +kernel) (by decide +kernel) (by omega)) ?_
    refine q_aload_n rfl rfl ?_
    refine q_get rfl rfl rfl rfl ?_
    refine q_iconstv (v := (2 : Int32)) rfl (by decide +kernel) ?_
    refine q_ic_le_t (t := 129) rfl (by decide) (i_le (a := (0 : Int)) (b := (2 : Int)) (by decide +kernel) (by decide +kernel) (by omega)) ?_
    refine q_aload_n rfl rfl ?_
    refine q_get rfl rfl rfl rfl ?_
    refine q_if_le_t (t := 149) rfl (by decide) (i_le (a := (0 : Int)) (b := (0 : Int)) (by decide +kernel) (by decide +kernel) (by omega)) ?_
    refine q_aload_n rfl rfl ?_
    refine q_call rfl rfl rfl rfl ?_
    refine q_iconstv (v := (0 : Int32)) rfl (by decide +kernel) ?_
    refine q_istore_n rfl (by decide) ?_
    refine q_iload_n rfl rfl ?_
    refine q_aload_n rfl rfl ?_
    refine q_get rfl rfl rfl rfl ?_
    refine q_ic_ge_t (t := 41) rfl (by decide) (i_le_r (a := (0 : Int)) (b := (0 : Int)) (by decide +kernel) (by decide +kernel) (by omega)) ?_
    refine q_aload_n rfl rfl ?_
    refine q_get rfl rfl rfl rfl ?_
    refine q_bipushv (v := (34 : Int32)) rfl (by decide +kernel) ?_
    refine q_dup2 rfl ⟨rfl, rfl⟩ ?_
    refine q_ialoadv (m := 34) rfl (by decide) (by decide) rfl (by decide +kernel) rfl ?_
    refine q_iconstv (v := (1 : Int32)) rfl (by decide +kernel) ?_
    refine q_iaddv (v := (21 : Int32)) rfl (by decide +kernel) ?_
    refine q_iastorev (m := 34) (w9 := ((((w1.set 9 (.inr (6, [.int (x1)]))).set 40 (.inl (0, .inl ((List.replicate 34 0).set 31 (Int32.ofNat D4))))).set 41 (.inr (8, [.int 0, .ref 42, .int 0, .int 0, .int 0, .int 0, .int 0, .int 0, .int (-1), .ref 43, .ref 44, .ref 45, .ref 46, .ref 47, .ref 48, .ref 49, .int 0, .int 0, .int 0, .int 5, .int 0, .int 0, .int 0, .int 5, .ref 50, .ref 51, .ref 52, .ref 53, .ref 54, .int 0, .int 0, .ref 55, .ref 56, .ref 57, .int 0, .int 0, .int 0, .int 0, .int 0, .int 0, .ref 58, .ref 59, .ref 60, .ref 61, .ref 62, .ref 63, .ref 64, .int 0, .int 0, .ref 65, .int (x1), .ref 66, .int 0]))).set 59 (.inl (0, .inl ((List.replicate 37 0).set 34 (21)))))) rfl (by decide) rfl (by decide +kernel) (by decide) rfl ?_
    refine q_vret rfl rfl ?_
    refine bk_inl ?_
    refine q_iincv (v := (21 : Int32)) rfl rfl (by decide) (by decide +kernel) ?_
    refine q_goto (t := 12) rfl (by decide) ?_
    exact goes_21 (by omega) h2 K
set_option maxRecDepth 100000 in
set_option maxHeartbeats 4000000 in
theorem goes_19 {sc : List Int32} {D4 : Nat} {x1 x2 x3 : Int32} {Q : AR → Prop} (h1 : 19 ≤ x3.toInt) (h2 : x3.toInt ≤ 48) (K : ∀ D : Nat, Q (.inl none, ((((w1.set 9 (.inr (6, [.int (x1)]))).set 40 (.inl (0, .inl ((List.replicate 34 0).set 31 (Int32.ofNat D4))))).set 41 (.inr (8, [.int 0, .ref 42, .int 0, .int 0, .int 0, .int 0, .int 0, .int 0, .int (-1), .ref 43, .ref 44, .ref 45, .ref 46, .ref 47, .ref 48, .ref 49, .int 0, .int 0, .int 0, .int 5, .int 0, .int 0, .int 0, .int 5, .ref 50, .ref 51, .ref 52, .ref 53, .ref 54, .int 0, .int 0, .ref 55, .ref 56, .ref 57, .int 0, .int 0, .int 0, .int 0, .int 0, .int 0, .ref 58, .ref 59, .ref 60, .ref 61, .ref 62, .ref 63, .ref 64, .int 0, .int 0, .ref 65, .int (x1), .ref 66, .int 0]))).set 59 (.inl (0, .inl ((List.replicate 37 0).set 34 (Int32.ofNat D))))), 0, 0)) : Wp sc 98 253 12 [(4, .int 19), (0, .ref 41), (1, .int (x1)), (2, .int (x2)), (3, .int (x3))] [] ((((w1.set 9 (.inr (6, [.int (x1)]))).set 40 (.inl (0, .inl ((List.replicate 34 0).set 31 (Int32.ofNat D4))))).set 41 (.inr (8, [.int 0, .ref 42, .int 0, .int 0, .int 0, .int 0, .int 0, .int 0, .int (-1), .ref 43, .ref 44, .ref 45, .ref 46, .ref 47, .ref 48, .ref 49, .int 0, .int 0, .int 0, .int 5, .int 0, .int 0, .int 0, .int 5, .ref 50, .ref 51, .ref 52, .ref 53, .ref 54, .int 0, .int 0, .ref 55, .ref 56, .ref 57, .int 0, .int 0, .int 0, .int 0, .int 0, .int 0, .ref 58, .ref 59, .ref 60, .ref 61, .ref 62, .ref 63, .ref 64, .int 0, .int 0, .ref 65, .int (x1), .ref 66, .int 0]))).set 59 (.inl (0, .inl ((List.replicate 37 0).set 34 (19))))) 0 0 Q := by
  refine q_iload rfl rfl ?_
  refine q_iload_n rfl rfl ?_
  by_cases h101 : (x3).toInt ≤ 19
  · refine q_ic_ge_t (t := 159) rfl (by decide) (i_le_r (a := (19 : Int)) (b := (x3).toInt) (by decide +kernel) rfl (by omega)) ?_
    obtain rfl : x3 = (19 : Int32) := i_eq (a := (x3).toInt) (b := 19) rfl (by decide +kernel) (by omega)
    refine q_vret rfl rfl ?_
    exact K 19
  · refine q_ic_ge_f (t := 159) rfl (by decide) (i_nle_r (a := (19 : Int)) (b := (x3).toInt) (by decide +kernel) rfl (by omega)) ?_
    refine q_aload_n rfl rfl ?_
    refine q_get rfl rfl rfl rfl ?_
    refine q_if_le_t (t := 57) rfl (by decide) (i_le (a := (0 : Int)) (b := (0 : Int)) (by decide +kernel) (by decide +kernel) (by omega)) ?_
    refine q_aload_n rfl rfl ?_
    refine q_get rfl rfl rfl rfl ?_
    refine q_iconstv (v := (2 : Int32)) rfl (by decide +kernel) ?_
    refine q_ic_le_t (t := 129) rfl (by decide) (i_le (a := (0 : Int)) (b := (2 : Int)) (by decide +kernel) (by decide +kernel) (by omega)) ?_
    refine q_aload_n rfl rfl ?_
    refine q_get rfl rfl rfl rfl ?_
    refine q_if_le_t (t := 149) rfl (by decide) (i_le (a := (0 : Int)) (b := (0 : Int)) (by decide +kernel) (by decide +kernel) (by omega)) ?_
    refine q_aload_n rfl rfl ?_
    refine q_call rfl rfl rfl rfl ?_
    refine q_iconstv (v := (0 : Int32)) rfl (by decide +kernel) ?_
    refine q_istore_n rfl (by decide) ?_
    refine q_iload_n rfl rfl ?_
    refine q_aload_n rfl rfl ?_
    refine q_get rfl rfl rfl rfl ?_
    refine q_ic_ge_t (t := 41) rfl (by decide) (i_le_r (a := (0 : Int)) (b := (0 : Int)) (by decide +kernel) (by decide +kernel) (by omega)) ?_
    refine q_aload_n rfl rfl ?_
    refine q_get rfl rfl rfl rfl ?_
    refine q_bipushv (v := (34 : Int32)) rfl (by decide +kernel) ?_
    refine q_dup2 rfl ⟨rfl, rfl⟩ ?_
    refine q_ialoadv (m := 34) rfl (by decide) (by decide) rfl (by decide +kernel) rfl ?_
    refine q_iconstv (v := (1 : Int32)) rfl (by decide +kernel) ?_
    refine q_iaddv (v := (20 : Int32)) rfl (by decide +kernel) ?_
    refine q_iastorev (m := 34) (w9 := ((((w1.set 9 (.inr (6, [.int (x1)]))).set 40 (.inl (0, .inl ((List.replicate 34 0).set 31 (Int32.ofNat D4))))).set 41 (.inr (8, [.int 0, .ref 42, .int 0, .int 0, .int 0, .int 0, .int 0, .int 0, .int (-1), .ref 43, .ref 44, .ref 45, .ref 46, .ref 47, .ref 48, .ref 49, .int 0, .int 0, .int 0, .int 5, .int 0, .int 0, .int 0, .int 5, .ref 50, .ref 51, .ref 52, .ref 53, .ref 54, .int 0, .int 0, .ref 55, .ref 56, .ref 57, .int 0, .int 0, .int 0, .int 0, .int 0, .int 0, .ref 58, .ref 59, .ref 60, .ref 61, .ref 62, .ref 63, .ref 64, .int 0, .int 0, .ref 65, .int (x1), .ref 66, .int 0]))).set 59 (.inl (0, .inl ((List.replicate 37 0).set 34 (20)))))) rfl (by decide) rfl (by decide +kernel) (by decide) rfl ?_
    refine q_vret rfl rfl ?_
    refine bk_inl ?_
    refine q_iincv (v := (20 : Int32)) rfl rfl (by decide) (by decide +kernel) ?_
    refine q_goto (t := 12) rfl (by decide) ?_
    exact goes_20 (by omega) h2 K
set_option maxRecDepth 100000 in
set_option maxHeartbeats 4000000 in
theorem goes_18 {sc : List Int32} {D4 : Nat} {x1 x2 x3 : Int32} {Q : AR → Prop} (h1 : 18 ≤ x3.toInt) (h2 : x3.toInt ≤ 48) (K : ∀ D : Nat, Q (.inl none, ((((w1.set 9 (.inr (6, [.int (x1)]))).set 40 (.inl (0, .inl ((List.replicate 34 0).set 31 (Int32.ofNat D4))))).set 41 (.inr (8, [.int 0, .ref 42, .int 0, .int 0, .int 0, .int 0, .int 0, .int 0, .int (-1), .ref 43, .ref 44, .ref 45, .ref 46, .ref 47, .ref 48, .ref 49, .int 0, .int 0, .int 0, .int 5, .int 0, .int 0, .int 0, .int 5, .ref 50, .ref 51, .ref 52, .ref 53, .ref 54, .int 0, .int 0, .ref 55, .ref 56, .ref 57, .int 0, .int 0, .int 0, .int 0, .int 0, .int 0, .ref 58, .ref 59, .ref 60, .ref 61, .ref 62, .ref 63, .ref 64, .int 0, .int 0, .ref 65, .int (x1), .ref 66, .int 0]))).set 59 (.inl (0, .inl ((List.replicate 37 0).set 34 (Int32.ofNat D))))), 0, 0)) : Wp sc 98 253 12 [(4, .int 18), (0, .ref 41), (1, .int (x1)), (2, .int (x2)), (3, .int (x3))] [] ((((w1.set 9 (.inr (6, [.int (x1)]))).set 40 (.inl (0, .inl ((List.replicate 34 0).set 31 (Int32.ofNat D4))))).set 41 (.inr (8, [.int 0, .ref 42, .int 0, .int 0, .int 0, .int 0, .int 0, .int 0, .int (-1), .ref 43, .ref 44, .ref 45, .ref 46, .ref 47, .ref 48, .ref 49, .int 0, .int 0, .int 0, .int 5, .int 0, .int 0, .int 0, .int 5, .ref 50, .ref 51, .ref 52, .ref 53, .ref 54, .int 0, .int 0, .ref 55, .ref 56, .ref 57, .int 0, .int 0, .int 0, .int 0, .int 0, .int 0, .ref 58, .ref 59, .ref 60, .ref 61, .ref 62, .ref 63, .ref 64, .int 0, .int 0, .ref 65, .int (x1), .ref 66, .int 0]))).set 59 (.inl (0, .inl ((List.replicate 37 0).set 34 (18))))) 0 0 Q := by
  refine q_iload rfl rfl ?_
  refine q_iload_n rfl rfl ?_
  by_cases h101 : (x3).toInt ≤ 18
  · refine q_ic_ge_t (t := 159) rfl (by decide) (i_le_r (a := (18 : Int)) (b := (x3).toInt) (by decide +kernel) rfl (by omega)) ?_
    obtain rfl : x3 = (18 : Int32) := i_eq (a := (x3).toInt) (b := 18) rfl (by decide +kernel) (by omega)
    refine q_vret rfl rfl ?_
    exact K 18
  · refine q_ic_ge_f (t := 159) rfl (by decide) (i_nle_r (a := (18 : Int)) (b := (x3).toInt) (by decide +kernel) rfl (by omega)) ?_
    refine q_aload_n rfl rfl ?_
    refine q_get rfl rfl rfl rfl ?_
    refine q_if_le_t (t := 57) rfl (by decide) (i_le (a := (0 : Int)) (b := (0 : Int)) (by decide +kernel) (by decide +kernel) (by omega)) ?_
    refine q_aload_n rfl rfl ?_
    refine q_get rfl rfl rfl rfl ?_
    refine q_iconstv (v := (2 : Int32)) rfl (by decide +kernel) ?_
    refine q_ic_le_t (t := 129) rfl (by decide) (i_le (a := (0 : Int)) (b := (2 : Int)) (by decide +kernel) (by decide +kernel) (by omega)) ?_
    refine q_aload_n rfl rfl ?_
    refine q_get rfl rfl rfl rfl ?_
    refine q_if_le_t (t := 149) rfl (by decide) (i_le (a := (0 : Int)) (b := (0 : Int)) (by decide +kernel) (by decide +kernel) (by omega)) ?_
    refine q_aload_n rfl rfl ?_
    refine q_call rfl rfl rfl rfl ?_
    refine q_iconstv (v := (0 : Int32)) rfl (by decide +kernel) ?_
    refine q_istore_n rfl (by decide) ?_
    refine q_iload_n rfl rfl ?_
    refine q_aload_n rfl rfl ?_
    refine q_get rfl rfl rfl rfl ?_
    refine q_ic_ge_t (t := 41) rfl (by decide) (i_le_r (a := (0 : Int)) (b := (0 : Int)) (by decide +kernel) (by decide +kernel) (by omega)) ?_
    refine q_aload_n rfl rfl ?_
    refine q_get rfl rfl rfl rfl ?_
    refine q_bipushv (v := (34 : Int32)) rfl (by decide +kernel) ?_
    refine q_dup2 rfl ⟨rfl, rfl⟩ ?_
    refine q_ialoadv (m := 34) rfl (by decide) (by decide) rfl (by decide +kernel) rfl ?_
    refine q_iconstv (v := (1 : Int32)) rfl (by decide +kernel) ?_
    refine q_iaddv (v := (19 : Int32)) rfl (by decide +kernel) ?_
    refine q_iastorev (m := 34) (w9 := ((((w1.set 9 (.inr (6, [.int (x1)]))).set 40 (.inl (0, .inl ((List.replicate 34 0).set 31 (Int32.ofNat D4))))).set 41 (.inr (8, [.int 0, .ref 42, .int 0, .int 0, .int 0, .int 0, .int 0, .int 0, .int (-1), .ref 43, .ref 44, .ref 45, .ref 46, .ref 47, .ref 48, .ref 49, .int 0, .int 0, .int 0, .int 5, .int 0, .int 0, .int 0, .int 5, .ref 50, .ref 51, .ref 52, .ref 53, .ref 54, .int 0, .int 0, .ref 55, .ref 56, .ref 57, .int 0, .int 0, .int 0, .int 0, .int 0, .int 0, .ref 58, .ref 59, .ref 60, .ref 61, .ref 62, .ref 63, .ref 64, .int 0, .int 0, .ref 65, .int (x1), .ref 66, .int 0]))).set 59 (.inl (0, .inl ((List.replicate 37 0).set 34 (19)))))) rfl (by decide) rfl (by decide +kernel) (by decide) rfl ?_
    refine q_vret rfl rfl ?_
    refine bk_inl ?_
    refine q_iincv (v := (19 : Int32)) rfl rfl (by decide) (by decide +kernel) ?_
    refine q_goto (t := 12) rfl (by decide) ?_
    exact goes_19 (by omega) h2 K
set_option maxRecDepth 100000 in
set_option maxHeartbeats 4000000 in
theorem goes_17 {sc : List Int32} {D4 : Nat} {x1 x2 x3 : Int32} {Q : AR → Prop} (h1 : 17 ≤ x3.toInt) (h2 : x3.toInt ≤ 48) (K : ∀ D : Nat, Q (.inl none, ((((w1.set 9 (.inr (6, [.int (x1)]))).set 40 (.inl (0, .inl ((List.replicate 34 0).set 31 (Int32.ofNat D4))))).set 41 (.inr (8, [.int 0, .ref 42, .int 0, .int 0, .int 0, .int 0, .int 0, .int 0, .int (-1), .ref 43, .ref 44, .ref 45, .ref 46, .ref 47, .ref 48, .ref 49, .int 0, .int 0, .int 0, .int 5, .int 0, .int 0, .int 0, .int 5, .ref 50, .ref 51, .ref 52, .ref 53, .ref 54, .int 0, .int 0, .ref 55, .ref 56, .ref 57, .int 0, .int 0, .int 0, .int 0, .int 0, .int 0, .ref 58, .ref 59, .ref 60, .ref 61, .ref 62, .ref 63, .ref 64, .int 0, .int 0, .ref 65, .int (x1), .ref 66, .int 0]))).set 59 (.inl (0, .inl ((List.replicate 37 0).set 34 (Int32.ofNat D))))), 0, 0)) : Wp sc 98 253 12 [(4, .int 17), (0, .ref 41), (1, .int (x1)), (2, .int (x2)), (3, .int (x3))] [] ((((w1.set 9 (.inr (6, [.int (x1)]))).set 40 (.inl (0, .inl ((List.replicate 34 0).set 31 (Int32.ofNat D4))))).set 41 (.inr (8, [.int 0, .ref 42, .int 0, .int 0, .int 0, .int 0, .int 0, .int 0, .int (-1), .ref 43, .ref 44, .ref 45, .ref 46, .ref 47, .ref 48, .ref 49, .int 0, .int 0, .int 0, .int 5, .int 0, .int 0, .int 0, .int 5, .ref 50, .ref 51, .ref 52, .ref 53, .ref 54, .int 0, .int 0, .ref 55, .ref 56, .ref 57, .int 0, .int 0, .int 0, .int 0, .int 0, .int 0, .ref 58, .ref 59, .ref 60, .ref 61, .ref 62, .ref 63, .ref 64, .int 0, .int 0, .ref 65, .int (x1), .ref 66, .int 0]))).set 59 (.inl (0, .inl ((List.replicate 37 0).set 34 (17))))) 0 0 Q := by
  refine q_iload rfl rfl ?_
  refine q_iload_n rfl rfl ?_
  by_cases h101 : (x3).toInt ≤ 17
  · refine q_ic_ge_t (t := 159) rfl (by decide) (i_le_r (a := (17 : Int)) (b := (x3).toInt) (by decide +kernel) rfl (by omega)) ?_
    obtain rfl : x3 = (17 : Int32) := i_eq (a := (x3).toInt) (b := 17) rfl (by decide +kernel) (by omega)
    refine q_vret rfl rfl ?_
    exact K 17
  · refine q_ic_ge_f (t := 159) rfl (by decide) (i_nle_r (a := (17 : Int)) (b := (x3).toInt) (by decide +kernel) rfl (by omega)) ?_
    refine q_aload_n rfl rfl ?_
    refine q_get rfl rfl rfl rfl ?_
    refine q_if_le_t (t := 57) rfl (by decide) (i_le (a := (0 : Int)) (b := (0 : Int)) (by decide +kernel) (by decide +kernel) (by omega)) ?_
    refine q_aload_n rfl rfl ?_
    refine q_get rfl rfl rfl rfl ?_
    refine q_iconstv (v := (2 : Int32)) rfl (by decide +kernel) ?_
    refine q_ic_le_t (t := 129) rfl (by decide) (i_le (a := (0 : Int)) (b := (2 : Int)) (by decide +kernel) (by decide +kernel) (by omega)) ?_
    refine q_aload_n rfl rfl ?_
    refine q_get rfl rfl rfl rfl ?_
    refine q_if_le_t (t := 149) rfl (by decide) (i_le (a := (0 : Int)) (b := (0 : Int)) (by decide +kernel) (by decide +kernel) (by omega)) ?_
    refine q_aload_n rfl rfl ?_
    refine q_call rfl rfl rfl rfl ?_
    refine q_iconstv (v := (0 : Int32)) rfl (by decide +kernel) ?_
    refine q_istore_n rfl (by decide) ?_
    refine q_iload_n rfl rfl ?_
    refine q_aload_n rfl rfl ?_
    refine q_get rfl rfl rfl rfl ?_
    refine q_ic_ge_t (t := 41) rfl (by decide) (i_le_r (a := (0 : Int)) (b := (0 : Int)) (by decide +kernel) (by decide +kernel) (by omega)) ?_
    refine q_aload_n rfl rfl ?_
    refine q_get rfl rfl rfl rfl ?_
    refine q_bipushv (v := (34 : Int32)) rfl (by decide +kernel) ?_
    refine q_dup2 rfl ⟨rfl, rfl⟩ ?_
    refine q_ialoadv (m := 34) rfl (by decide) (by decide) rfl (by decide +kernel) rfl ?_
    refine q_iconstv (v := (1 : Int32)) rfl (by decide +kernel) ?_
    refine q_iaddv (v := (18 : Int32)) rfl (by decide +kernel) ?_
    refine q_iastorev (m := 34) (w9 := ((((w1.set 9 (.inr (6, [.int (x1)]))).set 40 (.inl (0, .inl ((List.replicate 34 0).set 31 (Int32.ofNat D4))))).set 41 (.inr (8, [.int 0, .ref 42, .int 0, .int 0, .int 0, .int 0, .int 0, .int 0, .int (-1), .ref 43, .ref 44, .ref 45, .ref 46, .ref 47, .ref 48, .ref 49, .int 0, .int 0, .int 0, .int 5, .int 0, .int 0, .int 0, .int 5, .ref 50, .ref 51, .ref 52, .ref 53, .ref 54, .int 0, .int 0, .ref 55, .ref 56, .ref 57, .int 0, .int 0, .int 0, .int 0, .int 0, .int 0, .ref 58, .ref 59, .ref 60, .ref 61, .ref 62, .ref 63, .ref 64, .int 0, .int 0, .ref 65, .int (x1), .ref 66, .int 0]))).set 59 (.inl (0, .inl ((List.replicate 37 0).set 34 (18)))))) rfl (by decide) rfl (by decide +kernel) (by decide) rfl ?_
    refine q_vret rfl rfl ?_
    refine bk_inl ?_
    refine q_iincv (v := (18 : Int32)) rfl rfl (by decide) (by decide +kernel) ?_
    refine q_goto (t := 12) rfl (by decide) ?_
    exact goes_18 (by omega) h2 K
set_option maxRecDepth 100000 in
set_option maxHeartbeats 4000000 in
theorem goes_16 {sc : List Int32} {D4 : Nat} {x1 x2 x3 : Int32} {Q : AR → Prop} (h1 : 16 ≤ x3.toInt) (h2 : x3.toInt ≤ 48) (K : ∀ D : Nat, Q (.inl none, ((((w1.set 9 (.inr (6, [.int (x1)]))).set 40 (.inl (0, .inl ((List.replicate 34 0).set 31 (Int32.ofNat D4))))).set 41 (.inr (8, [.int 0, .ref 42, .int 0, .int 0, .int 0, .int 0, .int 0, .int 0, .int (-1), .ref 43, .ref 44, .ref 45, .ref 46, .ref 47, .ref 48, .ref 49, .int 0, .int 0, .int 0, .int 5, .int 0, .int 0, .int 0, .int 5, .ref 50, .ref 51, .ref 52, .ref 53, .ref 54, .int 0, .int 0, .ref 55, .ref 56, .ref 57, .int 0, .int 0, .int 0, .int 0, .int 0, .int 0, .ref 58, .ref 59, .ref 60, .ref 61, .ref 62, .ref 63, .ref 64, .int 0, .int 0, .ref 65, .int (x1), .ref 66, .int 0]))).set 59 (.inl (0, .inl ((List.replicate 37 0).set 34 (Int32.ofNat D))))), 0, 0)) : Wp sc 98 253 12 [(4, .int 16), (0, .ref 41), (1, .int (x1)), (2, .int (x2)), (3, .int (x3))] [] ((((w1.set 9 (.inr (6, [.int (x1)]))).set 40 (.inl (0, .inl ((List.replicate 34 0).set 31 (Int32.ofNat D4))))).set 41 (.inr (8, [.int 0, .ref 42, .int 0, .int 0, .int 0, .int 0, .int 0, .int 0, .int (-1), .ref 43, .ref 44, .ref 45, .ref 46, .ref 47, .ref 48, .ref 49, .int 0, .int 0, .int 0, .int 5, .int 0, .int 0, .int 0, .int 5, .ref 50, .ref 51, .ref 52, .ref 53, .ref 54, .int 0, .int 0, .ref 55, .ref 56, .ref 57, .int 0, .int 0, .int 0, .int 0, .int 0, .int 0, .ref 58, .ref 59, .ref 60, .ref 61, .ref 62, .ref 63, .ref 64, .int 0, .int 0, .ref 65, .int (x1), .ref 66, .int 0]))).set 59 (.inl (0, .inl ((List.replicate 37 0).set 34 (16))))) 0 0 Q := by
  refine q_iload rfl rfl ?_
  refine q_iload_n rfl rfl ?_
  by_cases h101 : (x3).toInt ≤ 16
  · refine q_ic_ge_t (t := 159) rfl (by decide) (i_le_r (a := (16 : Int)) (b := (x3).toInt) (by decide +kernel) rfl (by omega)) ?_
    obtain rfl : x3 = (16 : Int32) := i_eq (a := (x3).toInt) (b := 16) rfl (by decide +kernel) (by omega)
    refine q_vret rfl rfl ?_
    exact K 16
  · refine q_ic_ge_f (t := 159) rfl (by decide) (i_nle_r (a := (16 : Int)) (b := (x3).toInt) (by decide +kernel) rfl (by omega)) ?_
    refine q_aload_n rfl rfl ?_
    refine q_get rfl rfl rfl rfl ?_
    refine q_if_le_t (t := 57) rfl (by decide) (i_le (a := (0 : Int)) (b := (0 : Int)) (by decide +kernel) (by decide +kernel) (by omega)) ?_
    refine q_aload_n rfl rfl ?_
    refine q_get rfl rfl rfl rfl ?_
    refine q_iconstv (v := (2 : Int32)) rfl (by decide +kernel) ?_
    refine q_ic_le_t (t := 129) rfl (by decide) (i_le (a := (0 : Int)) (b := (2 : Int)) (by decide +kernel) (by decide +kernel) (by omega)) ?_
    refine q_aload_n rfl rfl ?_
    refine q_get rfl rfl rfl rfl ?_
    refine q_if_le_t (t := 149) rfl (by decide) (i_le (a := (0 : Int)) (b := (0 : Int)) (by decide +kernel) (by decide +kernel) (by omega)) ?_
    refine q_aload_n rfl rfl ?_
    refine q_call rfl rfl rfl rfl ?_
    refine q_iconstv (v := (0 : Int32)) rfl (by decide +kernel) ?_
    refine q_istore_n rfl (by decide) ?_
    refine q_iload_n rfl rfl ?_
    refine q_aload_n rfl rfl ?_
    refine q_get rfl rfl rfl rfl ?_
    refine q_ic_ge_t (t := 41) rfl (by decide) (i_le_r (a := (0 : Int)) (b := (0 : Int)) (by decide +kernel) (by decide +kernel) (by omega)) ?_
    refine q_aload_n rfl rfl ?_
    refine q_get rfl rfl rfl rfl ?_
    refine q_bipushv (v := (34 : Int32)) rfl (by decide +kernel) ?_
    refine q_dup2 rfl ⟨rfl, rfl⟩ ?_
    refine q_ialoadv (m := 34) rfl (by decide) (by decide) rfl (by decide +kernel) rfl ?_
    refine q_iconstv (v := (1 : Int32)) rfl (by decide +kernel) ?_
    refine q_iaddv (v := (17 : Int32)) rfl (by decide +kernel) ?_
    refine q_iastorev (m := 34) (w9 := ((((w1.set 9 (.inr (6, [.int (x1)]))).set 40 (.inl (0, .inl ((List.replicate 34 0).set 31 (Int32.ofNat D4))))).set 41 (.inr (8, [.int 0, .ref 42, .int 0, .int 0, .int 0, .int 0, .int 0, .int 0, .int (-1), .ref 43, .ref 44, .ref 45, .ref 46, .ref 47, .ref 48, .ref 49, .int 0, .int 0, .int 0, .int 5, .int 0, .int 0, .int 0, .int 5, .ref 50, .ref 51, .ref 52, .ref 53, .ref 54, .int 0, .int 0, .ref 55, .ref 56, .ref 57, .int 0, .int 0, .int 0, .int 0, .int 0, .int 0, .ref 58, .ref 59, .ref 60, .ref 61, .ref 62, .ref 63, .ref 64, .int 0, .int 0, .ref 65, .int (x1), .ref 66, .int 0]))).set 59 (.inl (0, .inl ((List.replicate 37 0).set 34 (17)))))) rfl (by decide) rfl (by decide +kernel) (by decide) rfl ?_
    refine q_vret rfl rfl ?_
    refine bk_inl ?_
    refine q_iincv (v := (17 : Int32)) rfl rfl (by decide) (by decide +kernel) ?_
    refine q_goto (t := 12) rfl (by decide) ?_
    exact goes_17 (by omega) h2 K
set_option maxRecDepth 100000 in
set_option maxHeartbeats 4000000 in
theorem goes_15 {sc : List Int32} {D4 : Nat} {x1 x2 x3 : Int32} {Q : AR → Prop} (h1 : 15 ≤ x3.toInt) (h2 : x3.toInt ≤ 48) (K : ∀ D : Nat, Q (.inl none, ((((w1.set 9 (.inr (6, [.int (x1)]))).set 40 (.inl (0, .inl ((List.replicate 34 0).set 31 (Int32.ofNat D4))))).set 41 (.inr (8, [.int 0, .ref 42, .int 0, .int 0, .int 0, .int 0, .int 0, .int 0, .int (-1), .ref 43, .ref 44, .ref 45, .ref 46, .ref 47, .ref 48, .ref 49, .int 0, .int 0, .int 0, .int 5, .int 0, .int 0, .int 0, .int 5, .ref 50, .ref 51, .ref 52, .ref 53, .ref 54, .int 0, .int 0, .ref 55, .ref 56, .ref 57, .int 0, .int 0, .int 0, .int 0, .int 0, .int 0, .ref 58, .ref 59, .ref 60, .ref 61, .ref 62, .ref 63, .ref 64, .int 0, .int 0, .ref 65, .int (x1), .ref 66, .int 0]))).set 59 (.inl (0, .inl ((List.replicate 37 0).set 34 (Int32.ofNat D))))), 0, 0)) : Wp sc 98 253 12 [(4, .int 15), (0, .ref 41), (1, .int (x1)), (2, .int (x2)), (3, .int (x3))] [] ((((w1.set 9 (.inr (6, [.int (x1)]))).set 40 (.inl (0, .inl ((List.replicate 34 0).set 31 (Int32.ofNat D4))))).set 41 (.inr (8, [.int 0, .ref 42, .int 0, .int 0, .int 0, .int 0, .int 0, .int 0, .int (-1), .ref 43, .ref 44, .ref 45, .ref 46, .ref 47, .ref 48, .ref 49, .int 0, .int 0, .int 0, .int 5, .int 0, .int 0, .int 0, .int 5, .ref 50, .ref 51, .ref 52, .ref 53, .ref 54, .int 0, .int 0, .ref 55, .ref 56, .ref 57, .int 0, .int 0, .int 0, .int 0, .int 0, .int 0, .ref 58, .ref 59, .ref 60, .ref 61, .ref 62, .ref 63, .ref 64, .int 0, .int 0, .ref 65, .int (x1), .ref 66, .int 0]))).set 59 (.inl (0, .inl ((List.replicate 37 0).set 34 (15))))) 0 0 Q := by
  refine q_iload rfl rfl ?_
  refine q_iload_n rfl rfl ?_
  by_cases h101 : (x3).toInt ≤ 15
  · refine q_ic_ge_t (t := 159) rfl (by decide) (i_le_r (a := (15 : Int)) (b := (x3).toInt) (by decide +kernel) rfl (by omega)) ?_
    obtain rfl : x3 = (15 : Int32) := i_eq (a := (x3).toInt) (b := 15) rfl (by decide +kernel) (by omega)
    refine q_vret rfl rfl ?_
    exact K 15
  · refine q_ic_ge_f (t := 159) rfl (by decide) (i_nle_r (a := (15 : Int)) (b := (x3).toInt) (by decide +kernel) rfl (by omega)) ?_
    refine q_aload_n rfl rfl ?_
    refine q_get rfl rfl rfl rfl ?_
    refine q_if_le_t (t := 57) rfl (by decide) (i_le (a := (0 : Int)) (b := (0 : Int)) (by decide +kernel) (by decide +kernel) (by omega)) ?_
    refine q_aload_n rfl rfl ?_
    refine q_get rfl rfl rfl rfl ?_
    refine q_iconstv (v := (2 : Int32)) rfl (by decide +kernel) ?_
    refine q_ic_le_t (t := 129) rfl (by decide) (i_le (a := (0 : Int)) (b := (2 : Int)) (by decide +kernel) (by decide +kernel) (by omega)) ?_
    refine q_aload_n rfl rfl ?_
    refine q_get rfl rfl rfl rfl ?_
    refine q_if_le_t (t := 149) rfl (by decide) (i_le (a := (0 : Int)) (b := (0 : Int)) (by decide +kernel) (by decide +kernel) (by omega)) ?_
    refine q_aload_n rfl rfl ?_
    refine q_call rfl rfl rfl rfl ?_
    refine q_iconstv (v := (0 : Int32)) rfl (by decide +kernel) ?_
    refine q_istore_n rfl (by decide) ?_
    refine q_iload_n rfl rfl ?_
    refine q_aload_n rfl rfl ?_
    refine q_get rfl rfl rfl rfl ?_
    refine q_ic_ge_t (t := 41) rfl (by decide) (i_le_r (a := (0 : Int)) (b := (0 : Int)) (by decide +kernel) (by decide +kernel) (by omega)) ?_
    refine q_aload_n rfl rfl ?_
    refine q_get rfl rfl rfl rfl ?_
    refine q_bipushv (v := (34 : Int32)) rfl (by decide +kernel) ?_
    refine q_dup2 rfl ⟨rfl, rfl⟩ ?_
    refine q_ialoadv (m := 34) rfl (by decide) (by decide) rfl (by decide +kernel) rfl ?_
    refine q_iconstv (v := (1 : Int32)) rfl (by decide +kernel) ?_
    refine q_iaddv (v := (16 : Int32)) rfl (by decide +kernel) ?_
    refine q_iastorev (m := 34) (w9 := ((((w1.set 9 (.inr (6, [.int (x1)]))).set 40 (.inl (0, .inl ((List.replicate 34 0).set 31 (Int32.ofNat D4))))).set 41 (.inr (8, [.int 0, .ref 42, .int 0, .int 0, .int 0, .int 0, .int 0, .int 0, .int (-1), .ref 43, .ref 44, .ref 45, .ref 46, .ref 47, .ref 48, .ref 49, .int 0, .int 0, .int 0, .int 5, .int 0, .int 0, .int 0, .int 5, .ref 50, .ref 51, .ref 52, .ref 53, .ref 54, .int 0, .int 0, .ref 55, .ref 56, .ref 57, .int 0, .int 0, .int 0, .int 0, .int 0, .int 0, .ref 58, .ref 59, .ref 60, .ref 61, .ref 62, .ref 63, .ref 64, .int 0, .int 0, .ref 65, .int (x1), .ref 66, .int 0]))).set 59 (.inl (0, .inl ((List.replicate 37 0).set 34 (16)))))) rfl (by decide) rfl (by decide +kernel) (by decide) rfl ?_
    refine q_vret rfl rfl ?_
    refine bk_inl ?_
    refine q_iincv (v := (16 : Int32)) rfl rfl (by decide) (by decide +kernel) ?_
    refine q_goto (t := 12) rfl (by decide) ?_
    exact goes_16 (by omega) h2 K
set_option maxRecDepth 100000 in
set_option maxHeartbeats 4000000 in
theorem goes_14 {sc : List Int32} {D4 : Nat} {x1 x2 x3 : Int32} {Q : AR → Prop} (h1 : 14 ≤ x3.toInt) (h2 : x3.toInt ≤ 48) (K : ∀ D : Nat, Q (.inl none, ((((w1.set 9 (.inr (6, [.int (x1)]))).set 40 (.inl (0, .inl ((List.replicate 34 0).set 31 (Int32.ofNat D4))))).set 41 (.inr (8, [.int 0, .ref 42, .int 0, .int 0, .int 0, .int 0, .int 0, .int 0, .int (-1), .ref 43, .ref 44, .ref 45, .ref 46, .ref 47, .ref 48, .ref 49, .int 0, .int 0, .int 0, .int 5, .int 0, .int 0, .int 0, .int 5, .ref 50, .ref 51, .ref 52, .ref 53, .ref 54, .int 0, .int 0, .ref 55, .ref 56, .ref 57, .int 0, .int 0, .int 0, .int 0, .int 0, .int 0, .ref 58, .ref 59, .ref 60, .ref 61, .ref 62, .ref 63, .ref 64, .int 0, .int 0, .ref 65, .int (x1), .ref 66, .int 0]))).set 59 (.inl (0, .inl ((List.replicate 37 0).set 34 (Int32.ofNat D))))), 0, 0)) : Wp sc 98 253 12 [(4, .int 14), (0, .ref 41), (1, .int (x1)), (2, .int (x2)), (3, .int (x3))] [] ((((w1.set 9 (.inr (6, [.int (x1)]))).set 40 (.inl (0, .inl ((List.replicate 34 0).set 31 (Int32.ofNat D4))))).set 41 (.inr (8, [.int 0, .ref 42, .int 0, .int 0, .int 0, .int 0, .int 0, .int 0, .int (-1), .ref 43, .ref 44, .ref 45, .ref 46, .ref 47, .ref 48, .ref 49, .int 0, .int 0, .int 0, .int 5, .int 0, .int 0, .int 0, .int 5, .ref 50, .ref 51, .ref 52, .ref 53, .ref 54, .int 0, .int 0, .ref 55, .ref 56, .ref 57, .int 0, .int 0, .int 0, .int 0, .int 0, .int 0, .ref 58, .ref 59, .ref 60, .ref 61, .ref 62, .ref 63, .ref 64, .int 0, .int 0, .ref 65, .int (x1), .ref 66, .int 0]))).set 59 (.inl (0, .inl ((List.replicate 37 0).set 34 (14))))) 0 0 Q := by
  refine q_iload rfl rfl ?_
  refine q_iload_n rfl rfl ?_
  by_cases h101 : (x3).toInt ≤ 14
  · refine q_ic_ge_t (t := 159) rfl (by decide) (i_le_r (a := (14 : Int)) (b := (x3).toInt) (by decide +kernel) rfl (by omega)) ?_
    obtain rfl : x3 = (14 : Int32) := i_eq (a := (x3).toInt) (b := 14) rfl (by decide +kernel) (by omega)
    refine q_vret rfl rfl ?_
    exact K 14
  · refine q_ic_ge_f (t := 159) rfl (by decide) (i_nle_r (a := (14 : Int)) (b := (x3).toInt) (by decide +kernel) rfl (by omega)) ?_
    refine q_aload_n rfl rfl ?_
    refine q_get rfl rfl rfl rfl ?_
    refine q_if_le_t (t := 57) rfl (by decide) (i_le (a := (0 : Int)) (b := (0 : Int)) (by decide +kernel) (by decide +kernel) (by omega)) ?_
    refine q_aload_n rfl rfl ?_
    refine q_get rfl rfl rfl rfl ?_
    refine q_iconstv (v := (2 : Int32)) rfl (by decide +kernel) ?_
    refine q_ic_le_t (t := 129) rfl (by decide) (i_le (a := (0 : Int)) (b := (2 : Int)) (by decide +kernel) (by decide +kernel) (by omega)) ?_
    refine q_aload_n rfl rfl ?_
    refine q_get rfl rfl rfl rfl ?_
    refine q_if_le_t (t := 149) rfl (by decide) (i_le (a := (0 : Int)) (b := (0 : Int)) (by decide +kernel) (by decide +kernel) (by omega)) ?_
    refine q_aload_n rfl rfl ?_
    refine q_call rfl rfl rfl rfl ?_
    refine q_iconstv (v := (0 : Int32)) rfl (by decide +kernel) ?_
    refine q_istore_n rfl (by decide) ?_
    refine q_iload_n rfl rfl ?_
    refine q_aload_n rfl rfl ?_
    refine q_get rfl rfl rfl rfl ?_
    refine q_ic_ge_t (t := 41) rfl (by decide) (i_le_r (a := (0 : Int)) (b := (0 : Int)) (by decide +kernel) (by decide +kernel) (by omega)) ?_
    refine q_aload_n rfl rfl ?_
    refine q_get rfl rfl rfl rfl ?_
    refine q_bipushv (v := (34 : Int32)) rfl (by decide +kernel) ?_
    refine q_dup2 rfl ⟨rfl, rfl⟩ ?_
    refine q_ialoadv (m := 34) rfl (by decide) (by decide) rfl (by decide +kernel) rfl ?_
    refine q_iconstv (v := (1 : Int32)) rfl (by decide +kernel) ?_
    refine q_iaddv (v := (15 : Int32)) rfl (by decide +kernel) ?_
    refine q_iastorev (m := 34) (w9 := ((((w1.set 9 (.inr (6, [.int (x1)]))).set 40 (.inl (0, .inl ((List.replicate 34 0).set 31 (Int32.ofNat D4))))).set 41 (.inr (8, [.int 0, .ref 42, .int 0, .int 0, .int 0, .int 0, .int 0, .int 0, .int (-1), .ref 43, .ref 44, .ref 45, .ref 46, .ref 47, .ref 48, .ref 49, .int 0, .int 0, .int 0, .int 5, .int 0, .int 0, .int 0, .int 5, .ref 50, .ref 51, .ref 52, .ref 53, .ref 54, .int 0, .int 0, .ref 55, .ref 56, .ref 57, .int 0, .int 0, .int 0, .int 0, .int 0, .int 0, .ref 58, .ref 59, .ref 60, .ref 61, .ref 62, .ref 63, .ref 64, .int 0, .int 0, .ref 65, .int (x1), .ref 66, .int 0]))).set 59 (.inl (0, .inl ((List.replicate 37 0).set 34 (15)))))) rfl (by decide) rfl (by decide +kernel) (by decide) rfl ?_
    refine q_vret rfl rfl ?_
    refine bk_inl ?_
    refine q_iincv (v := (15 : Int32)) rfl rfl (by decide) (by decide +kernel) ?_
    refine q_goto (t := 12) rfl (by decide) ?_
    exact goes_15 (by omega) h2 K
set_option maxRecDepth 100000 in
set_option maxHeartbeats 4000000 in
theorem goes_13 {sc : List Int32} {D4 : Nat} {x1 x2 x3 : Int32} {Q : AR → Prop} (h1 : 13 ≤ x3.toInt) (h2 : x3.toInt ≤ 48) (K : ∀ D : Nat, Q (.inl none, ((((w1.set 9 (.inr (6, [.int (x1)]))).set 40 (.inl (0, .inl ((List.replicate 34 0).set 31 (Int32.ofNat D4))))).set 41 (.inr (8, [.int 0, .ref 42, .int 0, .int 0, .int 0, .int 0, .int 0, .int 0, .int (-1), .ref 43, .ref 44, .ref 45, .ref 46, .ref 47, .ref 48, .ref 49, .int 0, .int 0, .int 0, .int 5, .int 0, .int 0, .int 0, .int 5, .ref 50, .ref 51, .ref 52, .ref 53, .ref 54, .int 0, .int 0, .ref 55, .ref 56, .ref 57, .int 0, .int 0, .int 0, .int 0, .int 0, .int 0, .ref 58, .ref 59, .ref 60, .ref 61, .ref 62, .ref 63, .ref 64, .int 0, .int 0, .ref 65, .int (x1), .ref 66, .int 0]))).set 59 (.inl (0, .inl ((List.replicate 37 0).set 34 (Int32.ofNat D))))), 0, 0)) : Wp sc 98 253 12 [(4, .int 13), (0, .ref 41), (1, .int (x1)), (2, .int (x2)), (3, .int (x3))] [] ((((w1.set 9 (.inr (6, [.int (x1)]))).set 40 (.inl (0, .inl ((List.replicate 34 0).set 31 (Int32.ofNat D4))))).set 41 (.inr (8, [.int 0, .ref 42, .int 0, .int 0, .int 0, .int 0, .int 0, .int 0, .int (-1), .ref 43, .ref 44, .ref 45, .ref 46, .ref 47, .ref 48, .ref 49, .int 0, .int 0, .int 0, .int 5, .int 0, .int 0, .int 0, .int 5, .ref 50, .ref 51, .ref 52, .ref 53, .ref 54, .int 0, .int 0, .ref 55, .ref 56, .ref 57, .int 0, .int 0, .int 0, .int 0, .int 0, .int 0, .ref 58, .ref 59, .ref 60, .ref 61, .ref 62, .ref 63, .ref 64, .int 0, .int 0, .ref 65, .int (x1), .ref 66, .int 0]))).set 59 (.inl (0, .inl ((List.replicate 37 0).set 34 (13))))) 0 0 Q := by
  refine q_iload rfl rfl ?_
  refine q_iload_n rfl rfl ?_
  by_cases h101 : (x3).toInt ≤ 13
  · refine q_ic_ge_t (t := 159) rfl (by decide) (i_le_r (a := (13 : Int)) (b := (x3).toInt) (by decide +kernel) rfl (by omega)) ?_
    obtain rfl : x3 = (13 : Int32) := i_eq (a := (x3).toInt) (b := 13) rfl (by decide +kernel) (by omega)
    refine q_vret rfl rfl ?_
    exact K 13
  · refine q_ic_ge_f (t := 159) rfl (by decide) (i_nle_r (a := (13 : Int)) (b := (x3).toInt) (by decide +kernel) rfl (by omega)) ?_
    refine q_aload_n rfl rfl ?_
    refine q_get rfl rfl rfl rfl ?_
    refine q_if_le_t (t := 57) rfl (by decide) (i_le (a := (0 : Int)) (b := (0 : Int)) (by decide +kernel) (by decide +kernel) (by omega)) ?_
    refine q_aload_n rfl rfl ?_
    refine q_get rfl rfl rfl rfl ?_
    refine q_iconstv (v := (2 : Int32)) rfl (by decide +kernel) ?_
    refine q_ic_le_t (t := 129) rfl (by decide) (i_le (a := (0 : Int)) (b := (2 : Int)) (by decide +kernel) (by decide +kernel) (by omega)) ?_
    refine q_aload_n rfl rfl ?_
    refine q_get rfl rfl rfl rfl ?_
    refine q_if_le_t (t := 149) rfl (by decide) (i_le (a := (0 : Int)) (b := (0 : Int)) (by decide +kernel) (by decide +kernel) (by omega)) ?_
    refine q_aload_n rfl rfl ?_
    refine q_call rfl rfl rfl rfl ?_
    refine q_iconstv (v := (0 : Int32)) rfl (by decide +kernel) ?_
    refine q_istore_n rfl (by decide) ?_
    refine q_iload_n rfl rfl ?_
    refine q_aload_n rfl rfl ?_
    refine q_get rfl rfl rfl rfl ?_
    refine q_ic_ge_t (t := 41) rfl (by decide) (i_le_r (a := (0 : Int)) (b := (0 : Int)) (by decide +kernel) (by decide +kernel) (by omega)) ?_
    refine q_aload_n rfl rfl ?_
    refine q_get rfl rfl rfl rfl ?_
    refine q_bipushv (v := (34 : Int32)) rfl (by decide +kernel) ?_
    refine q_dup2 rfl ⟨rfl, rfl⟩ ?_
    refine q_ialoadv (m := 34) rfl (by decide) (by decide) rfl (by decide +kernel) rfl ?_
    refine q_iconstv (v := (1 : Int32)) rfl (by decide +kernel) ?_
    refine q_iaddv (v := (14 : Int32)) rfl (by decide +kernel) ?_
    refine q_iastorev (m := 34) (w9 := ((((w1.set 9 (.inr (6, [.int (x1)]))).set 40 (.inl (0, .inl ((List.replicate 34 0).set 31 (Int32.ofNat D4))))).set 41 (.inr (8, [.int 0, .ref 42, .int 0, .int 0, .int 0, .int 0, .int 0, .int 0, .int (-1), .ref 43, .ref 44, .ref 45, .ref 46, .ref 47, .ref 48, .ref 49, .int 0, .int 0, .int 0, .int 5, .int 0, .int 0, .int 0, .int 5, .ref 50, .ref 51, .ref 52, .ref 53, .ref 54, .int 0, .int 0, .ref 55, .ref 56, .ref 57, .int 0, .int 0, .int 0, .int 0, .int 0, .int 0, .ref 58, .ref 59, .ref 60, .ref 61, .ref 62, .ref 63, .ref 64, .int 0, .int 0, .ref 65, .int (x1), .ref 66, .int 0]))).set 59 (.inl (0, .inl ((List.replicate 37 0).set 34 (14)))))) rfl (by decide) rfl (by decide +kernel) (by decide) rfl ?_
    refine q_vret rfl rfl ?_
    refine bk_inl ?_
    refine q_iincv (v := (14 : Int32)) rfl rfl (by decide) (by decide +kernel) ?_
    refine q_goto (t := 12) rfl (by decide) ?_
    exact goes_14 (by omega) h2 K
set_option maxRecDepth 100000 in
set_option maxHeartbeats 4000000 in
theorem goes_12 {sc : List Int32} {D4 : Nat} {x1 x2 x3 : Int32} {Q : AR → Prop} (h1 : 12 ≤ x3.toInt) (h2 : x3.toInt ≤ 48) (K : ∀ D : Nat, Q (.inl none, ((((w1.set 9 (.inr (6, [.int (x1)]))).set 40 (.inl (0, .inl ((List.replicate 34 0).set 31 (Int32.ofNat D4))))).set 41 (.inr (8, [.int 0, .ref 42, .int 0, .int 0, .int 0, .int 0, .int 0, .int 0, .int (-1), .ref 43, .ref 44, .ref 45, .ref 46, .ref 47, .ref 48, .ref 49, .int 0, .int 0, .int 0, .int 5, .int 0, .int 0, .int 0, .int 5, .ref 50, .ref 51, .ref 52, .ref 53, .ref 54, .int 0, .int 0, .ref 55, .ref 56, .ref 57, .int 0, .int 0, .int 0, .int 0, .int 0, .int 0, .ref 58, .ref 59, .ref 60, .ref 61, .ref 62, .ref 63, .ref 64, .int 0, .int 0, .ref 65, .int (x1), .ref 66, .int 0]))).set 59 (.inl (0, .inl ((List.replicate 37 0).set 34 (Int32.ofNat D))))), 0, 0)) : Wp sc 98 253 12 [(4, .int 12), (0, .ref 41), (1, .int (x1)), (2, .int (x2)), (3, .int (x3))] [] ((((w1.set 9 (.inr (6, [.int (x1)]))).set 40 (.inl (0, .inl ((List.replicate 34 0).set 31 (Int32.ofNat D4))))).set 41 (.inr (8, [.int 0, .ref 42, .int 0, .int 0, .int 0, .int 0, .int 0, .int 0, .int (-1), .ref 43, .ref 44, .ref 45, .ref 46, .ref 47, .ref 48, .ref 49, .int 0, .int 0, .int 0, .int 5, .int 0, .int 0, .int 0, .int 5, .ref 50, .ref 51, .ref 52, .ref 53, .ref 54, .int 0, .int 0, .ref 55, .ref 56, .ref 57, .int 0, .int 0, .int 0, .int 0, .int 0, .int 0, .ref 58, .ref 59, .ref 60, .ref 61, .ref 62, .ref 63, .ref 64, .int 0, .int 0, .ref 65, .int (x1), .ref 66, .int 0]))).set 59 (.inl (0, .inl ((List.replicate 37 0).set 34 (12))))) 0 0 Q := by
  refine q_iload rfl rfl ?_
  refine q_iload_n rfl rfl ?_
  by_cases h101 : (x3).toInt ≤ 12
  · refine q_ic_ge_t (t := 159) rfl (by decide) (i_le_r (a := (12 : Int)) (b := (x3).toInt) (by decide +kernel) rfl (by omega)) ?_
    obtain rfl : x3 = (12 : Int32) := i_eq (a := (x3).toInt) (b := 12) rfl (by decide +kernel) (by omega)
    refine q_vret rfl rfl ?_
    exact K 12
  · refine q_ic_ge_f (t := 159) rfl (by decide) (i_nle_r (a := (12 : Int)) (b := (x3).toInt) (by decide +kernel) rfl (by omega)) ?_
    refine q_aload_n rfl rfl ?_
    refine q_get rfl rfl rfl rfl ?_
    refine q_if_le_t (t := 57) rfl (by decide) (i_le (a := (0 : Int)) (b := (0 : Int)) (by decide +kernel) (by decide +kernel) (by omega)) ?_
    refine q_aload_n rfl rfl ?_
    refine q_get rfl rfl rfl rfl ?_
    refine q_iconstv (v := (2 : Int32)) rfl (by decide +kernel) ?_
    refine q_ic_le_t (t := 129) rfl (by decide) (i_le (a := (0 : Int)) (b := (2 : Int)) (by decide +kernel) (by decide +kernel) (by omega)) ?_
    refine q_aload_n rfl rfl ?_
    refine q_get rfl rfl rfl rfl ?_
    refine q_if_le_t (t := 149) rfl (by decide) (i_le (a := (0 : Int)) (b := (0 : Int)) (by decide +kernel) (by decide +kernel) (by omega)) ?_
    refine q_aload_n rfl rfl ?_
    refine q_call rfl rfl rfl rfl ?_
    refine q_iconstv (v := (0 : Int32)) rfl (by decide +kernel) ?_
    refine q_istore_n rfl (by decide) ?_
    refine q_iload_n rfl rfl ?_
    refine q_aload_n rfl rfl ?_
    refine q_get rfl rfl rfl rfl ?_
    refine q_ic_ge_t (t := 41) rfl (by decide) (i_le_r (a := (0 : Int)) (b := (0 : Int)) (by decide +kernel) (by decide +kernel) (by omega)) ?_
    refine q_aload_n rfl rfl ?_
    refine q_get rfl rfl rfl rfl ?_
    refine q_bipushv (v := (34 : Int32)) rfl (by decide +kernel) ?_
    refine q_dup2 rfl ⟨rfl, rfl⟩ ?_
    refine q_ialoadv (m := 34) rfl (by decide) (by decide) rfl (by decide +kernel) rfl ?_
    refine q_iconstv (v := (1 : Int32)) rfl (by decide +kernel) ?_
    refine q_iaddv (v := (13 : Int32)) rfl (by decide +kernel) ?_
    refine q_iastorev (m := 34) (w9 := ((((w1.set 9 (.inr (6, [.int (x1)]))).set 40 (.inl (0, .inl ((List.replicate 34 0).set 31 (Int32.ofNat D4))))).set 41 (.inr (8, [.int 0, .ref 42, .int 0, .int 0, .int 0, .int 0, .int 0, .int 0, .int (-1), .ref 43, .ref 44, .ref 45, .ref 46, .ref 47, .ref 48, .ref 49, .int 0, .int 0, .int 0, .int 5, .int 0, .int 0, .int 0, .int 5, .ref 50, .ref 51, .ref 52, .ref 53, .ref 54, .int 0, .int 0, .ref 55, .ref 56, .ref 57, .int 0, .int 0, .int 0, .int 0, .int 0, .int 0, .ref 58, .ref 59, .ref 60, .ref 61, .ref 62, .ref 63, .ref 64, .int 0, .int 0, .ref 65, .int (x1), .ref 66, .int 0]))).set 59 (.inl (0, .inl ((List.replicate 37 0).set 34 (13)))))) rfl (by decide) rfl (by decide +kernel) (by decide) rfl ?_
    refine q_vret rfl rfl ?_
    refine bk_inl ?_
    refine q_iincv (v := (13 : Int32)) rfl rfl (by decide) (by decide +kernel) ?_
    refine q_goto (t := 12) rfl (by decide) ?_
    exact goes_13 (by omega) h2 K
set_option maxRecDepth 100000 in
set_option maxHeartbeats 4000000 in
theorem goes_11 {sc : List Int32} {D4 : Nat} {x1 x2 x3 : Int32} {Q : AR → Prop} (h1 : 11 ≤ x3.toInt) (h2 : x3.toInt ≤ 48) (K : ∀ D : Nat, Q (.inl none, ((((w1.set 9 (.inr (6, [.int (x1)]))).set 40 (.inl (0, .inl ((List.replicate 34 0).set 31 (Int32.ofNat D4))))).set 41 (.inr (8, [.int 0, .ref 42, .int 0, .int 0, .int 0, .int 0, .int 0, .int 0, .int (-1), .ref 43, .ref 44, .ref 45, .ref 46, .ref 47, .ref 48, .ref 49, .int 0, .int 0, .int 0, .int 5, .int 0, .int 0, .int 0, .int 5, .ref 50, .ref 51, .ref 52, .ref 53, .ref 54, .int 0, .int 0, .ref 55, .ref 56, .ref 57, .int 0, .int 0, .int 0, .int 0, .int 0, .int 0, .ref 58, .ref 59, .ref 60, .ref 61, .ref 62, .ref 63, .ref 64, .int 0, .int 0, .ref 65, .int (x1), .ref 66, .int 0]))).set 59 (.inl (0, .inl ((List.replicate 37 0).set 34 (Int32.ofNat D))))), 0, 0)) : Wp sc 98 253 12 [(4, .int 11), (0, .ref 41), (1, .int (x1)), (2, .int (x2)), (3, .int (x3))] [] ((((w1.set 9 (.inr (6, [.int (x1)]))).set 40 (.inl (0, .inl ((List.replicate 34 0).set 31 (Int32.ofNat D4))))).set 41 (.inr (8, [.int 0, .ref 42, .int 0, .int 0, .int 0, .int 0, .int 0, .int 0, .int (-1), .ref 43, .ref 44, .ref 45, .ref 46, .ref 47, .ref 48, .ref 49, .int 0, .int 0, .int 0, .int 5, .int 0, .int 0, .int 0, .int 5, .ref 50, .ref 51, .ref 52, .ref 53, .ref 54, .int 0, .int 0, .ref 55, .ref 56, .ref 57, .int 0, .int 0, .int 0, .int 0, .int 0, .int 0, .ref 58, .ref 59, .ref 60, .ref 61, .ref 62, .ref 63, .ref 64, .int 0, .int 0, .ref 65, .int (x1), .ref 66, .int 0]))).set 59 (.inl (0, .inl ((List.replicate 37 0).set 34 (11))))) 0 0 Q := by
  refine q_iload rfl rfl ?_
  refine q_iload_n rfl rfl ?_
  by_cases h101 : (x3).toInt ≤ 11
  · refine q_ic_ge_t (t := 159) rfl (by decide) (i_le_r (a := (11 : Int)) (b := (x3).toInt) (by decide +kernel) rfl (by omega)) ?_
    obtain rfl : x3 = (11 : Int32) := i_eq (a := (x3).toInt) (b := 11) rfl (by decide +kernel) (by omega)
    refine q_vret rfl rfl ?_
    exact K 11
  · refine q_ic_ge_f (t := 159) rfl (by decide) (i_nle_r (a := (11 : Int)) (b := (x3).toInt) (by decide +kernel) rfl (by omega)) ?_
    refine q_aload_n rfl rfl ?_
    refine q_get rfl rfl rfl rfl ?_
    refine q_if_le_t (t := 57) rfl (by decide) (i_le (a := (0 : Int)) (b := (0 : Int)) (by decide +kernel) (by decide +kernel) (by omega)) ?_
    refine q_aload_n rfl rfl ?_
    refine q_get rfl rfl rfl rfl ?_
    refine q_iconstv (v := (2 : Int32)) rfl (by decide +kernel) ?_
    refine q_ic_le_t (t := 129) rfl (by decide) (i_le (a := (0 : Int)) (b := (2 : Int)) (by decide +kernel) (by decide +kernel) (by omega)) ?_
    refine q_aload_n rfl rfl ?_
    refine q_get rfl rfl rfl rfl ?_
    refine q_if_le_t (t := 149) rfl (by decide) (i_le (a := (0 : Int)) (b := (0 : Int)) (by decide +kernel) (by decide +kernel) (by omega)) ?_
    refine q_aload_n rfl rfl ?_
    refine q_call rfl rfl rfl rfl ?_
    refine q_iconstv (v := (0 : Int32)) rfl (by decide +kernel) ?_
    refine q_istore_n rfl (by decide) ?_
    refine q_iload_n rfl rfl ?_
    refine q_aload_n rfl rfl ?_
    refine q_get rfl rfl rfl rfl ?_
    refine q_ic_ge_t (t := 41) rfl (by decide) (i_le_r (a := (0 : Int)) (b := (0 : Int)) (by decide +kernel) (by decide +kernel) (by omega)) ?_
    refine q_aload_n rfl rfl ?_
    refine q_get rfl rfl rfl rfl ?_
    refine q_bipushv (v := (34 : Int32)) rfl (by decide +kernel) ?_
    refine q_dup2 rfl ⟨rfl, rfl⟩ ?_
    refine q_ialoadv (m := 34) rfl (by decide) (by decide) rfl (by decide +kernel) rfl ?_
    refine q_iconstv (v := (1 : Int32)) rfl (by decide +kernel) ?_
    refine q_iaddv (v := (12 : Int32)) rfl (by decide +kernel) ?_
    refine q_iastorev (m := 34) (w9 := ((((w1.set 9 (.inr (6, [.int (x1)]))).set 40 (.inl (0, .inl ((List.replicate 34 0).set 31 (Int32.ofNat D4))))).set 41 (.inr (8, [.int 0, .ref 42, .int 0, .int 0, .int 0, .int 0, .int 0, .int 0, .int (-1), .ref 43, .ref 44, .ref 45, .ref 46, .ref 47, .ref 48, .ref 49, .int 0, .int 0, .int 0, .int 5, .int 0, .int 0, .int 0, .int 5, .ref 50, .ref 51, .ref 52, .ref 53, .ref 54, .int 0, .int 0, .ref 55, .ref 56, .ref 57, .int 0, .int 0, .int 0, .int 0, .int 0, .int 0, .ref 58, .ref 59, .ref 60, .ref 61, .ref 62, .ref 63, .ref 64, .int 0, .int 0, .ref 65, .int (x1), .ref 66, .int 0]))).set 59 (.inl (0, .inl ((List.replicate 37 0).set 34 (12)))))) rfl (by decide) rfl (by decide +kernel) (by decide) rfl ?_
    refine q_vret rfl rfl ?_
    refine bk_inl ?_
    refine q_iincv (v := (12 : Int32)) rfl rfl (by decide) (by decide +kernel) ?_
    refine q_goto (t := 12) rfl (by decide) ?_
    exact goes_12 (by omega) h2 K
set_option maxRecDepth 100000 in
set_option maxHeartbeats 4000000 in
theorem goes_10 {sc : List Int32} {D4 : Nat} {x1 x2 x3 : Int32} {Q : AR → Prop} (h1 : 10 ≤ x3.toInt) (h2 : x3.toInt ≤ 48) (K : ∀ D : Nat, Q (.inl none, ((((w1.set 9 (.inr (6, [.int (x1)]))).set 40 (.inl (0, .inl ((List.replicate 34 0).set 31 (Int32.ofNat D4))))).set 41 (.inr (8, [.int 0, .ref 42, .int 0, .int 0, .int 0, .int 0, .int 0, .int 0, .int (-1), .ref 43, .ref 44, .ref 45, .ref 46, .ref 47, .ref 48, .ref 49, .int 0, .int 0, .int 0, .int 5, .int 0, .int 0, .int 0, .int 5, .ref 50, .ref 51, .ref 52, .ref 53, .ref 54, .int 0, .int 0, .ref 55, .ref 56, .ref 57, .int 0, .int 0, .int 0, .int 0, .int 0, .int 0, .ref 58, .ref 59, .ref 60, .ref 61, .ref 62, .ref 63, .ref 64, .int 0, .int 0, .ref 65, .int (x1), .ref 66, .int 0]))).set 59 (.inl (0, .inl ((List.replicate 37 0).set 34 (Int32.ofNat D))))), 0, 0)) : Wp sc 98 253 12 [(4, .int 10), (0, .ref 41), (1, .int (x1)), (2, .int (x2)), (3, .int (x3))] [] ((((w1.set 9 (.inr (6, [.int (x1)]))).set 40 (.inl (0, .inl ((List.replicate 34 0).set 31 (Int32.ofNat D4))))).set 41 (.inr (8, [.int 0, .ref 42, .int 0, .int 0, .int 0, .int 0, .int 0, .int 0, .int (-1), .ref 43, .ref 44, .ref 45, .ref 46, .ref 47, .ref 48, .ref 49, .int 0, .int 0, .int 0, .int 5, .int 0, .int 0, .int 0, .int 5, .ref 50, .ref 51, .ref 52, .ref 53, .ref 54, .int 0, .int 0, .ref 55, .ref 56, .ref 57, .int 0, .int 0, .int 0, .int 0, .int 0, .int 0, .ref 58, .ref 59, .ref 60, .ref 61, .ref 62, .ref 63, .ref 64, .int 0, .int 0, .ref 65, .int (x1), .ref 66, .int 0]))).set 59 (.inl (0, .inl ((List.replicate 37 0).set 34 (10))))) 0 0 Q := by
  refine q_iload rfl rfl ?_
  refine q_iload_n rfl rfl ?_
  by_cases h101 : (x3).toInt ≤ 10
  · refine q_ic_ge_t (t := 159) rfl (by decide) (i_le_r (a := (10 : Int)) (b := (x3).toInt) (by decide +kernel) rfl (by omega)) ?_
    obtain rfl : x3 = (10 : Int32) := i_eq (a := (x3).toInt) (b := 10) rfl (by decide +kernel) (by omega)
    refine q_vret rfl rfl ?_
    exact K 10
  · refine q_ic_ge_f (t := 159) rfl (by decide) (i_nle_r (a := (10 : Int)) (b := (x3).toInt) (by decide +kernel) rfl (by omega)) ?_
    refine q_aload_n rfl rfl ?_
    refine q_get rfl rfl rfl rfl ?_
    refine q_if_le_t (t := 57) rfl (by decide) (i_le (a := (0 : Int)) (b := (0 : Int)) (by decide +kernel) (by decide +kernel) (by omega)) ?_
    refine q_aload_n rfl rfl ?_
    refine q_get rfl rfl rfl rfl ?_
    refine q_iconstv (v := (2 : Int32)) rfl (by decide +kernel) ?_
    refine q_ic_le_t (t := 129) rfl (by decide) (i_le (a := (0 : Int)) (b := (2 : Int)) (by decide +kernel) (by decide +kernel) (by omega)) ?_
    refine q_aload_n rfl rfl ?_
    refine q_get rfl rfl rfl rfl ?_
    refine q_if_le_t (t := 149) rfl (by decide) (i_le (a := (0 : Int)) (b := (0 : Int)) (by decide +kernel) (by decide +kernel) (by omega)) ?_
    refine q_aload_n rfl rfl ?_
    refine q_call rfl rfl rfl rfl ?_
    refine q_iconstv (v := (0 : Int32)) rfl (by decide +kernel) ?_
    refine q_istore_n rfl (by decide) ?_
    refine q_iload_n rfl rfl ?_
    refine q_aload_n rfl rfl ?_
    refine q_get rfl rfl rfl rfl ?_
    refine q_ic_ge_t (t := 41) rfl (by decide) (i_le_r (a := (0 : Int)) (b := (0 : Int)) (by decide +kernel) (by decide +kernel) (by omega)) ?_
    refine q_aload_n rfl rfl ?_
    refine q_get rfl rfl rfl rfl ?_
    refine q_bipushv (v := (34 : Int32)) rfl (by decide +kernel) ?_
    refine q_dup2 rfl ⟨rfl, rfl⟩ ?_
    refine q_ialoadv (m := 34) rfl (by decide) (by decide) rfl (by decide +kernel) rfl ?_
    refine q_iconstv (v := (1 : Int32)) rfl (by decide +kernel) ?_
    refine q_iaddv (v := (11 : Int32)) rfl (by decide +kernel) ?_
    refine q_iastorev (m := 34) (w9 := ((((w1.set 9 (.inr (6, [.int (x1)]))).set 40 (.inl (0, .inl ((List.replicate 34 0).set 31 (Int32.ofNat D4))))).set 41 (.inr (8, [.int 0, .ref 42, .int 0, .int 0, .int 0, .int 0, .int 0, .int 0, .int (-1), .ref 43, .ref 44, .ref 45, .ref 46, .ref 47, .ref 48, .ref 49, .int 0, .int 0, .int 0, .int 5, .int 0, .int 0, .int 0, .int 5, .ref 50, .ref 51, .ref 52, .ref 53, .ref 54, .int 0, .int 0, .ref 55, .ref 56, .ref 57, .int 0, .int 0, .int 0, .int 0, .int 0, .int 0, .ref 58, .ref 59, .ref 60, .ref 61, .ref 62, .ref 63, .ref 64, .int 0, .int 0, .ref 65, .int (x1), .ref 66, .int 0]))).set 59 (.inl (0, .inl ((List.replicate 37 0).set 34 (11)))))) rfl (by decide) rfl (by decide +kernel) (by decide) rfl ?_
    refine q_vret rfl rfl ?_
    refine bk_inl ?_
    refine q_iincv (v := (11 : Int32)) rfl rfl (by decide) (by decide +kernel) ?_
    refine q_goto (t := 12) rfl (by decide) ?_
    exact goes_11 (by omega) h2 K
set_option maxRecDepth 100000 in
set_option maxHeartbeats 4000000 in
theorem goes_9 {sc : List Int32} {D4 : Nat} {x1 x2 x3 : Int32} {Q : AR → Prop} (h1 : 9 ≤ x3.toInt) (h2 : x3.toInt ≤ 48) (K : ∀ D : Nat, Q (.inl none, ((((w1.set 9 (.inr (6, [.int (x1)]))).set 40 (.inl (0, .inl ((List.replicate 34 0).set 31 (Int32.ofNat D4))))).set 41 (.inr (8, [.int 0, .ref 42, .int 0, .int 0, .int 0, .int 0, .int 0, .int 0, .int (-1), .ref 43, .ref 44, .ref 45, .ref 46, .ref 47, .ref 48, .ref 49, .int 0, .int 0, .int 0, .int 5, .int 0, .int 0, .int 0, .int 5, .ref 50, .ref 51, .ref 52, .ref 53, .ref 54, .int 0, .int 0, .ref 55, .ref 56, .ref 57, .int 0, .int 0, .int 0, .int 0, .int 0, .int 0, .ref 58, .ref 59, .ref 60, .ref 61, .ref 62, .ref 63, .ref 64, .int 0, .int 0, .ref 65, .int (x1), .ref 66, .int 0]))).set 59 (.inl (0, .inl ((List.replicate 37 0).set 34 (Int32.ofNat D))))), 0, 0)) : Wp sc 98 253 12 [(4, .int 9), (0, .ref 41), (1, .int (x1)), (2, .int (x2)), (3, .int (x3))] [] ((((w1.set 9 (.inr (6, [.int (x1)]))).set 40 (.inl (0, .inl ((List.replicate 34 0).set 31 (Int32.ofNat D4))))).set 41 (.inr (8, [.int 0, .ref 42, .int 0, .int 0, .int 0, .int 0, .int 0, .int 0, .int (-1), .ref 43, .ref 44, .ref 45, .ref 46, .ref 47, .ref 48, .ref 49, .int 0, .int 0, .int 0, .int 5, .int 0, .int 0, .int 0, .int 5, .ref 50, .ref 51, .ref 52, .ref 53, .ref 54, .int 0, .int 0, .ref 55, .ref 56, .ref 57, .int 0, .int 0, .int 0, .int 0, .int 0, .int 0, .ref 58, .ref 59, .ref 60, .ref 61, .ref 62, .ref 63, .ref 64, .int 0, .int 0, .ref 65, .int (x1), .ref 66, .int 0]))).set 59 (.inl (0, .inl ((List.replicate 37 0).set 34 (9))))) 0 0 Q := by
  refine q_iload rfl rfl ?_
  refine q_iload_n rfl rfl ?_
  by_cases h101 : (x3).toInt ≤ 9
  · refine q_ic_ge_t (t := 159) rfl (by decide) (i_le_r (a := (9 : Int)) (b := (x3).toInt) (by decide +kernel) rfl (by omega)) ?_
    obtain rfl : x3 = (9 : Int32) := i_eq (a := (x3).toInt) (b := 9) rfl (by decide +kernel) (by omega)
    refine q_vret rfl rfl ?_
    exact K 9
  · refine q_ic_ge_f (t := 159) rfl (by decide) (i_nle_r (a := (9 : Int)) (b := (x3).toInt) (by decide +kernel) rfl (by omega)) ?_
    refine q_aload_n rfl rfl ?_
    refine q_get rfl rfl rfl rfl ?_
    refine q_if_le_t (t := 57) rfl (by decide) (i_le (a := (0 : Int)) (b := (0 : Int)) (by decide +kernel) (by decide +kernel) (by omega)) ?_
    refine q_aload_n rfl rfl ?_
    refine q_get rfl rfl rfl rfl ?_
    refine q_iconstv (v := (2 : Int32)) rfl (by decide +kernel) ?_
    refine q_ic_le_t (t := 129) rfl (by decide) (i_le (a := (0 : Int)) (b := (2 : Int)) (by decide +kernel) (by decide +kernel) (by omega)) ?_
    refine q_aload_n rfl rfl ?_
    refine q_get rfl rfl rfl rfl ?_
    refine q_if_le_t (t := 149) rfl (by decide) (i_le (a := (0 : Int)) (b := (0 : Int)) (by decide +kernel) (by decide +kernel) (by omega)) ?_
    refine q_aload_n rfl rfl ?_
    refine q_call rfl rfl rfl rfl ?_
    refine q_iconstv (v := (0 : Int32)) rfl (by decide +kernel) ?_
    refine q_istore_n rfl (by decide) ?_
    refine q_iload_n rfl rfl ?_
    refine q_aload_n rfl rfl ?_
    refine q_get rfl rfl rfl rfl ?_
    refine q_ic_ge_t (t := 41) rfl (by decide) (i_le_r (a := (0 : Int)) (b := (0 : Int)) (by decide +kernel) (by decide +kernel) (by omega)) ?_
    refine q_aload_n rfl rfl ?_
    refine q_get rfl rfl rfl rfl ?_
    refine q_bipushv (v := (34 : Int32)) rfl (by decide +kernel) ?_
    refine q_dup2 rfl ⟨rfl, rfl⟩ ?_
    refine q_ialoadv (m := 34) rfl (by decide) (by decide) rfl (by decide +kernel) rfl ?_
    refine q_iconstv (v := (1 : Int32)) rfl (by decide +kernel) ?_
    refine q_iaddv (v := (10 : Int32)) rfl (by decide +kernel) ?_
    refine q_iastorev (m := 34) (w9 := ((((w1.set 9 (.inr (6, [.int (x1)]))).set 40 (.inl (0, .inl ((List.replicate 34 0).set 31 (Int32.ofNat D4))))).set 41 (.inr (8, [.int 0, .ref 42, .int 0, .int 0, .int 0, .int 0, .int 0, .int 0, .int (-1), .ref 43, .ref 44, .ref 45, .ref 46, .ref 47, .ref 48, .ref 49, .int 0, .int 0, .int 0, .int 5, .int 0, .int 0, .int 0, .int 5, .ref 50, .ref 51, .ref 52, .ref 53, .ref 54, .int 0, .int 0, .ref 55, .ref 56, .ref 57, .int 0, .int 0, .int 0, .int 0, .int 0, .int 0, .ref 58, .ref 59, .ref 60, .ref 61, .ref 62, .ref 63, .ref 64, .int 0, .int 0, .ref 65, .int (x1), .ref 66, .int 0]))).set 59 (.inl (0, .inl ((List.replicate 37 0).set 34 (10)))))) rfl (by decide) rfl (by decide +kernel) (by decide) rfl ?_
    refine q_vret rfl rfl ?_
    refine bk_inl ?_
    refine q_iincv (v := (10 : Int32)) rfl rfl (by decide) (by decide +kernel) ?_
    refine q_goto (t := 12) rfl (by decide) ?_
    exact goes_10 (by omega) h2 K
set_option maxRecDepth 100000 in
set_option maxHeartbeats 4000000 in
theorem goes_8 {sc : List Int32} {D4 : Nat} {x1 x2 x3 : Int32} {Q : AR → Prop} (h1 : 8 ≤ x3.toInt) (h2 : x3.toInt ≤ 48) (K : ∀ D : Nat, Q (.inl none, ((((w1.set 9 (.inr (6, [.int (x1)]))).set 40 (.inl (0, .inl ((List.replicate 34 0).set 31 (Int32.ofNat D4))))).set 41 (.inr (8, [.int 0, .ref 42, .int 0, .int 0, .int 0, .int 0, .int 0, .int 0, .int (-1), .ref 43, .ref 44, .ref 45, .ref 46, .ref 47, .ref 48, .ref 49, .int 0, .int 0, .int 0, .int 5, .int 0, .int 0, .int 0, .int 5, .ref 50, .ref 51, .ref 52, .ref 53, .ref 54, .int 0, .int 0, .ref 55, .ref 56, .ref 57, .int 0, .int 0, .int 0, .int 0, .int 0, .int 0, .ref 58, .ref 59, .ref 60, .ref 61, .ref 62, .ref 63, .ref 64, .int 0, .int 0, .ref 65, .int (x1), .ref 66, .int 0]))).set 59 (.inl (0, .inl ((List.replicate 37 0).set 34 (Int32.ofNat D))))), 0, 0)) : Wp sc 98 253 12 [(4, .int 8), (0, .ref 41), (1, .int (x1)), (2, .int (x2)), (3, .int (x3))] [] ((((w1.set 9 (.inr (6, [.int (x1)]))).set 40 (.inl (0, .inl ((List.replicate 34 0).set 31 (Int32.ofNat D4))))).set 41 (.inr (8, [.int 0, .ref 42, .int 0, .int 0, .int 0, .int 0, .int 0, .int 0, .int (-1), .ref 43, .ref 44, .ref 45, .ref 46, .ref 47, .ref 48, .ref 49, .int 0, .int 0, .int 0, .int 5, .int 0, .int 0, .int 0, .int 5, .ref 50, .ref 51, .ref 52, .ref 53, .ref 54, .int 0, .int 0, .ref 55, .ref 56, .ref 57, .int 0, .int 0, .int 0, .int 0, .int 0, .int 0, .ref 58, .ref 59, .ref 60, .ref 61, .ref 62, .ref 63, .ref 64, .int 0, .int 0, .ref 65, .int (x1), .ref 66, .int 0]))).set 59 (.inl (0, .inl ((List.replicate 37 0).set 34 (8))))) 0 0 Q := by
  refine q_iload rfl rfl ?_
  refine q_iload_n rfl rfl ?_
  by_cases h101 : (x3).toInt ≤ 8
  · refine q_ic_ge_t (t := 159) rfl (by decide) (i_le_r (a := (8 : Int)) (b := (x3).toInt) (by decide +kernel) rfl (by omega)) ?_
    obtain rfl : x3 = (8 : Int32) := i_eq (a := (x3).toInt) (b := 8) rfl (by decide +kernel) (by omega)
    refine q_vret rfl rfl ?_
    exact K 8
  · refine q_ic_ge_f (t := 159) rfl (by decide) (i_nle_r (a := (8 : Int)) (b := (x3).toInt) (by decide +kernel) rfl (by omega)) ?_
    refine q_aload_n rfl rfl ?_
    refine q_get rfl rfl rfl rfl ?_
    refine q_if_le_t (t := 57) rfl (by decide) (i_le (a := (0 : Int)) (b := (0 : Int)) (by decide +kernel) (by decide +kernel) (by omega)) ?_
    refine q_aload_n rfl rfl ?_
    refine q_get rfl rfl rfl rfl ?_
    refine q_iconstv (v := (2 : Int32)) rfl (by decide +kernel) ?_
    refine q_ic_le_t (t := 129) rfl (by decide) (i_le (a := (0 : Int)) (b := (2 : Int)) (by decide +kernel) (by decide +kernel) (by omega)) ?_
    refine q_aload_n rfl rfl ?_
    refine q_get rfl rfl rfl rfl ?_
    refine q_if_le_t (t := 149) rfl (by decide) (i_le (a := (0 : Int)) (b := (0 : Int)) (by decide +kernel) (by decide +kernel) (by omega)) ?_
    refine q_aload_n rfl rfl ?_
    refine q_call rfl rfl rfl rfl ?_
    refine q_iconstv (v := (0 : Int32)) rfl (by decide +kernel) ?_
    refine q_istore_n rfl (by decide) ?_
    refine q_iload_n rfl rfl ?_
    refine q_aload_n rfl rfl ?_
    refine q_get rfl rfl rfl rfl ?_
    refine q_ic_ge_t (t := 41) rfl (by decide) (i_le_r (a := (0 : Int)) (b := (0 : Int)) (by decide +kernel) (by decide +kernel) (by omega)) ?_
    refine q_aload_n rfl rfl ?_
    refine q_get rfl rfl rfl rfl ?_
    refine q_bipushv (v := (34 : Int32)) rfl (by decide +kernel) ?_
    refine q_dup2 rfl ⟨rfl, rfl⟩ ?_
    refine q_ialoadv (m := 34) rfl (by decide) (by decide) rfl (by decide +kernel) rfl ?_
    refine q_iconstv (v := (1 : Int32)) rfl (by decide +kernel) ?_
    refine q_iaddv (v := (9 : Int32)) rfl (by decide +kernel) ?_
    refine q_iastorev (m := 34) (w9 := ((((w1.set 9 (.inr (6, [.int (x1)]))).set 40 (.inl (0, .inl ((List.replicate 34 0).set 31 (Int32.ofNat D4))))).set 41 (.inr (8, [.int 0, .ref 42, .int 0, .int 0, .int 0, .int 0, .int 0, .int 0, .int (-1), .ref 43, .ref 44, .ref 45, .ref 46, .ref 47, .ref 48, .ref 49, .int 0, .int 0, .int 0, .int 5, .int 0, .int 0, .int 0, .int 5, .ref 50, .ref 51, .ref 52, .ref 53, .ref 54, .int 0, .int 0, .ref 55, .ref 56, .ref 57, .int 0, .int 0, .int 0, .int 0, .int 0, .int 0, .ref 58, .ref 59, .ref 60, .ref 61, .ref 62, .ref 63, .ref 64, .int 0, .int 0, .ref 65, .int (x1), .ref 66, .int 0]))).set 59 (.inl (0, .inl ((List.replicate 37 0).set 34 (9)))))) rfl (by decide) rfl (by decide +kernel) (by decide) rfl ?_
    refine q_vret rfl rfl ?_
    refine bk_inl ?_
    refine q_iincv (v := (9 : Int32)) rfl rfl (by decide) (by decide +kernel) ?_
    refine q_goto (t := 12) rfl (by decide) ?_
    exact goes_9 (by omega) h2 K
set_option maxRecDepth 100000 in
set_option maxHeartbeats 4000000 in
theorem goes_7 {sc : List Int32} {D4 : Nat} {x1 x2 x3 : Int32} {Q : AR → Prop} (h1 : 7 ≤ x3.toInt) (h2 : x3.toInt ≤ 48) (K : ∀ D : Nat, Q (.inl none, ((((w1.set 9 (.inr (6, [.int (x1)]))).set 40 (.inl (0, .inl ((List.replicate 34 0).set 31 (Int32.ofNat D4))))).set 41 (.inr (8, [.int 0, .ref 42, .int 0, .int 0, .int 0, .int 0, .int 0, .int 0, .int (-1), .ref 43, .ref 44, .ref 45, .ref 46, .ref 47, .ref 48, .ref 49, .int 0, .int 0, .int 0, .int 5, .int 0, .int 0, .int 0, .int 5, .ref 50, .ref 51, .ref 52, .ref 53, .ref 54, .int 0, .int 0, .ref 55, .ref 56, .ref 57, .int 0, .int 0, .int 0, .int 0, .int 0, .int 0, .ref 58, .ref 59, .ref 60, .ref 61, .ref 62, .ref 63, .ref 64, .int 0, .int 0, .ref 65, .int (x1), .ref 66, .int 0]))).set 59 (.inl (0, .inl ((List.replicate 37 0).set 34 (Int32.ofNat D))))), 0, 0)) : Wp sc 98 253 12 [(4, .int 7), (0, .ref 41), (1, .int (x1)), (2, .int (x2)), (3, .int (x3))] [] ((((w1.set 9 (.inr (6, [.int (x1)]))).set 40 (.inl (0, .inl ((List.replicate 34 0).set 31 (Int32.ofNat D4))))).set 41 (.inr (8, [.int 0, .ref 42, .int 0, .int 0, .int 0, .int 0, .int 0, .int 0, .int (-1), .ref 43, .ref 44, .ref 45, .ref 46, .ref 47, .ref 48, .ref 49, .int 0, .int 0, .int 0, .int 5, .int 0, .int 0, .int 0, .int 5, .ref 50, .ref 51, .ref 52, .ref 53, .ref 54, .int 0, .int 0, .ref 55, .ref 56, .ref 57, .int 0, .int 0, .int 0, .int 0, .int 0, .int 0, .ref 58, .ref 59, .ref 60, .ref 61, .ref 62, .ref 63, .ref 64, .int 0, .int 0, .ref 65, .int (x1), .ref 66, .int 0]))).set 59 (.inl (0, .inl ((List.replicate 37 0).set 34 (7))))) 0 0 Q := by
  refine q_iload rfl rfl ?_
  refine q_iload_n rfl rfl ?_
  by_cases h101 : (x3).toInt ≤ 7
  · refine q_ic_ge_t (t := 159) rfl (by decide) (i_le_r (a := (7 : Int)) (b := (x3).toInt) (by decide +kernel) rfl (by omega)) ?_
    obtain rfl : x3 = (7 : Int32) := i_eq (a := (x3).toInt) (b := 7) rfl (by decide +kernel) (by omega)
    refine q_vret rfl rfl ?_
    exact K 7
  · refine q_ic_ge_f (t := 159) rfl (by decide) (i_nle_r (a := (7 : Int)) (b := (x3).toInt) (by decide +kernel) rfl (by omega)) ?_
    refine q_aload_n rfl rfl ?_
    refine q_get rfl rfl rfl rfl ?_
    refine q_if_le_t (t := 57) rfl (by decide) (i_le (a := (0 : Int)) (b := (0 : Int)) (by decide +kernel) (by decide +kernel) (by omega)) ?_
    refine q_aload_n rfl rfl ?_
    refine q_get rfl rfl rfl rfl ?_
    refine q_iconstv (v := (2 : Int32)) rfl (by decide +kernel) ?_
    refine q_ic_le_t (t := 129) rfl (by decide) (i_le (a := (0 : Int)) (b := (2 : Int)) (by decide +kernel) (by decide +kernel) (by omega)) ?_
    refine q_aload_n rfl rfl ?_
    refine q_get rfl rfl rfl rfl ?_
    refine q_if_le_t (t := 149) rfl (by decide) (i_le (a := (0 : Int)) (b := (0 : Int)) (by decide +kernel) (by decide +kernel) (by omega)) ?_
    refine q_aload_n rfl rfl ?_
    refine q_call rfl rfl rfl rfl ?_
    refine q_iconstv (v := (0 : Int32)) rfl (by decide +kernel) ?_
    refine q_istore_n rfl (by decide) ?_
    refine q_iload_n rfl rfl ?_
    refine q_aload_n rfl rfl ?_
    refine q_get rfl rfl rfl rfl ?_
    refine q_ic_ge_t (t := 41) rfl (by decide) (i_le_r (a := (0 : Int)) (b := (0 : Int)) (by decide +kernel) (by decide +kernel) (by omega)) ?_
    refine q_aload_n rfl rfl ?_
    refine q_get rfl rfl rfl rfl ?_
    refine q_bipushv (v := (34 : Int32)) rfl (by decide +kernel) ?_
    refine q_dup2 rfl ⟨rfl, rfl⟩ ?_
    refine q_ialoadv (m := 34) rfl (by decide) (by decide) rfl (by decide +kernel) rfl ?_
    refine q_iconstv (v := (1 : Int32)) rfl (by decide +kernel) ?_
    refine q_iaddv (v := (8 : Int32)) rfl (by decide +kernel) ?_
    refine q_iastorev (m := 34) (w9 := ((((w1.set 9 (.inr (6, [.int (x1)]))).set 40 (.inl (0, .inl ((List.replicate 34 0).set 31 (Int32.ofNat D4))))).set 41 (.inr (8, [.int 0, .ref 42, .int 0, .int 0, .int 0, .int 0, .int 0, .int 0, .int (-1), .ref 43, .ref 44, .ref 45, .ref 46, .ref 47, .ref 48, .ref 49, .int 0, .int 0, .int 0, .int 5, .int 0, .int 0, .int 0, .int 5, .ref 50, .ref 51, .ref 52, .ref 53, .ref 54, .int 0, .int 0, .ref 55, .ref 56, .ref 57, .int 0, .int 0, .int 0, .int 0, .int 0, .int 0, .ref 58, .ref 59, .ref 60, .ref 61, .ref 62, .ref 63, .ref 64, .int 0, .int 0, .ref 65, .int (x1), .ref 66, .int 0]))).set 59 (.inl (0, .inl ((List.replicate 37 0).set 34 (8)))))) rfl (by decide) rfl (by decide +kernel) (by decide) rfl ?_
    refine q_vret rfl rfl ?_
    refine bk_inl ?_
    refine q_iincv (v := (8 : Int32)) rfl rfl (by decide) (by decide +kernel) ?_
    refine q_goto (t := 12) rfl (by decide) ?_
    exact goes_8 (by omega) h2 K
set_option maxRecDepth 100000 in
set_option maxHeartbeats 4000000 in
theorem goes_6 {sc : List Int32} {D4 : Nat} {x1 x2 x3 : Int32} {Q : AR → Prop} (h1 : 6 ≤ x3.toInt) (h2 : x3.toInt ≤ 48) (K : ∀ D : Nat, Q (.inl none, ((((w1.set 9 (.inr (6, [.int (x1)]))).set 40 (.inl (0, .inl ((List.replicate 34 0).set 31 (Int32.ofNat D4))))).set 41 (.inr (8, [.int 0, .ref 42, .int 0, .int 0, .int 0, .int 0, .int 0, .int 0, .int (-1), .ref 43, .ref 44, .ref 45, .ref 46, .ref 47, .ref 48, .ref 49, .int 0, .int 0, .int 0, .int 5, .int 0, .int 0, .int 0, .int 5, .ref 50, .ref 51, .ref 52, .ref 53, .ref 54, .int 0, .int 0, .ref 55, .ref 56, .ref 57, .int 0, .int 0, .int 0, .int 0, .int 0, .int 0, .ref 58, .ref 59, .ref 60, .ref 61, .ref 62, .ref 63, .ref 64, .int 0, .int 0, .ref 65, .int (x1), .ref 66, .int 0]))).set 59 (.inl (0, .inl ((List.replicate 37 0).set 34 (Int32.ofNat D))))), 0, 0)) : Wp sc 98 253 12 [(4, .int 6), (0, .ref 41), (1, .int (x1)), (2, .int (x2)), (3, .int (x3))] [] ((((w1.set 9 (.inr (6, [.int (x1)]))).set 40 (.inl (0, .inl ((List.replicate 34 0).set 31 (Int32.ofNat D4))))).set 41 (.inr (8, [.int 0, .ref 42, .int 0, .int 0, .int 0, .int 0, .int 0, .int 0, .int (-1), .ref 43, .ref 44, .ref 45, .ref 46, .ref 47, .ref 48, .ref 49, .int 0, .int 0, .int 0, .int 5, .int 0, .int 0, .int 0, .int 5, .ref 50, .ref 51, .ref 52, .ref 53, .ref 54, .int 0, .int 0, .ref 55, .ref 56, .ref 57, .int 0, .int 0, .int 0, .int 0, .int 0, .int 0, .ref 58, .ref 59, .ref 60, .ref 61, .ref 62, .ref 63, .ref 64, .int 0, .int 0, .ref 65, .int (x1), .ref 66, .int 0]))).set 59 (.inl (0, .inl ((List.replicate 37 0).set 34 (6))))) 0 0 Q := by
  refine q_iload rfl rfl ?_
  refine q_iload_n rfl rfl ?_
  by_cases h101 : (x3).toInt ≤ 6
  · refine q_ic_ge_t (t := 159) rfl (by decide) (i_le_r (a := (6 : Int)) (b := (x3).toInt) (by decide +kernel) rfl (by omega)) ?_
    obtain rfl : x3 = (6 : Int32) := i_eq (a := (x3).toInt) (b := 6) rfl (by decide +kernel) (by omega)
    refine q_vret rfl rfl ?_
    exact K 6
  · refine q_ic_ge_f (t := 159) rfl (by decide) (i_nle_r (a := (6 : Int)) (b := (x3).toInt) (by decide +kernel) rfl (by omega)) ?_
    refine q_aload_n rfl rfl ?_
    refine q_get rfl rfl rfl rfl ?_
    refine q_if_le_t (t := 57) rfl (by decide) (i_le (a := (0 : Int)) (b := (0 : Int)) (by decide +kernel) (by decide +kernel) (by omega)) ?_
    refine q_aload_n rfl rfl ?_
    refine q_get rfl rfl rfl rfl ?_
    refine q_iconstv (v := (2 : Int32)) rfl (by decide +kernel) ?_
    refine q_ic_le_t (t := 129) rfl (by decide) (i_le (a := (0 : Int)) (b := (2 : Int)) (by decide +kernel) (by decide +kernel) (by omega)) ?_
    refine q_aload_n rfl rfl ?_
    refine q_get rfl rfl rfl rfl ?_
    refine q_if_le_t (t := 149) rfl (by decide) (i_le (a := (0 : Int)) (b := (0 : Int)) (by decide +kernel) (by decide +kernel) (by omega)) ?_
    refine q_aload_n rfl rfl ?_
    refine q_call rfl rfl rfl rfl ?_
    refine q_iconstv (v := (0 : Int32)) rfl (by decide +kernel) ?_
    refine q_istore_n rfl (by decide) ?_
    refine q_iload_n rfl rfl ?_
    refine q_aload_n rfl rfl ?_
    refine q_get rfl rfl rfl rfl ?_
    refine q_ic_ge_t (t := 41) rfl (by decide) (i_le_r (a := (0 : Int)) (b := (0 : Int)) (by decide +kernel) (by decide +kernel) (by omega)) ?_
    refine q_aload_n rfl rfl ?_
    refine q_get rfl rfl rfl rfl ?_
    refine q_bipushv (v := (34 : Int32)) rfl (by decide +kernel) ?_
    refine q_dup2 rfl ⟨rfl, rfl⟩ ?_
    refine q_ialoadv (m := 34) rfl (by decide) (by decide) rfl (by decide +kernel) rfl ?_
    refine q_iconstv (v := (1 : Int32)) rfl (by decide +kernel) ?_
    refine q_iaddv (v := (7 : Int32)) rfl (by decide +kernel) ?_
    refine q_iastorev (m := 34) (w9 := ((((w1.set 9 (.inr (6, [.int (x1)]))).set 40 (.inl (0, .inl ((List.replicate 34 0).set 31 (Int32.ofNat D4))))).set 41 (.inr (8, [.int 0, .ref 42, .int 0, .int 0, .int 0, .int 0, .int 0, .int 0, .int (-1), .ref 43, .ref 44, .ref 45, .ref 46, .ref 47, .ref 48, .ref 49, .int 0, .int 0, .int 0, .int 5, .int 0, .int 0, .int 0, .int 5, .ref 50, .ref 51, .ref 52, .ref 53, .ref 54, .int 0, .int 0, .ref 55, .ref 56, .ref 57, .int 0, .int 0, .int 0, .int 0, .int 0, .int 0, .ref 58, .ref 59, .ref 60, .ref 61, .ref 62, .ref 63, .ref 64, .int 0, .int 0, .ref 65, .int (x1), .ref 66, .int 0]))).set 59 (.inl (0, .inl ((List.replicate 37 0).set 34 (7)))))) rfl (by decide) rfl (by decide +kernel) (by decide) rfl ?_
    refine q_vret rfl rfl ?_
    refine bk_inl ?_
    refine q_iincv (v := (7 : Int32)) rfl rfl (by decide) (by decide +kernel) ?_
    refine q_goto (t := 12) rfl (by decide) ?_
    exact goes_7 (by omega) h2 K
set_option maxRecDepth 100000 in
set_option maxHeartbeats 4000000 in
theorem goes_5 {sc : List Int32} {D4 : Nat} {x1 x2 x3 : Int32} {Q : AR → Prop} (h1 : 5 ≤ x3.toInt) (h2 : x3.toInt ≤ 48) (K : ∀ D : Nat, Q (.inl none, ((((w1.set 9 (.inr (6, [.int (x1)]))).set 40 (.inl (0, .inl ((List.replicate 34 0).set 31 (Int32.ofNat D4))))).set 41 (.inr (8, [.int 0, .ref 42, .int 0, .int 0, .int 0, .int 0, .int 0, .int 0, .int (-1), .ref 43, .ref 44, .ref 45, .ref 46, .ref 47, .ref 48, .ref 49, .int 0, .int 0, .int 0, .int 5, .int 0, .int 0, .int 0, .int 5, .ref 50, .ref 51, .ref 52, .ref 53, .ref 54, .int 0, .int 0, .ref 55, .ref 56, .ref 57, .int 0, .int 0, .int 0, .int 0, .int 0, .int 0, .ref 58, .ref 59, .ref 60, .ref 61, .ref 62, .ref 63, .ref 64, .int 0, .int 0, .ref 65, .int (x1), .ref 66, .int 0]))).set 59 (.inl (0, .inl ((List.replicate 37 0).set 34 (Int32.ofNat D))))), 0, 0)) : Wp sc 98 253 12 [(4, .int 5), (0, .ref 41), (1, .int (x1)), (2, .int (x2)), (3, .int (x3))] [] ((((w1.set 9 (.inr (6, [.int (x1)]))).set 40 (.inl (0, .inl ((List.replicate 34 0).set 31 (Int32.ofNat D4))))).set 41 (.inr (8, [.int 0, .ref 42, .int 0, .int 0, .int 0, .int 0, .int 0, .int 0, .int (-1), .ref 43, .ref 44, .ref 45, .ref 46, .ref 47, .ref 48, .ref 49, .int 0, .int 0, .int 0, .int 5, .int 0, .int 0, .int 0, .int 5, .ref 50, .ref 51, .ref 52, .ref 53, .ref 54, .int 0, .int 0, .ref 55, .ref 56, .ref 57, .int 0, .int 0, .int 0, .int 0, .int 0, .int 0, .ref 58, .ref 59, .ref 60, .ref 61, .ref 62, .ref 63, .ref 64, .int 0, .int 0, .ref 65, .int (x1), .ref 66, .int 0]))).set 59 (.inl (0, .inl ((List.replicate 37 0).set 34 (5))))) 0 0 Q := by
  refine q_iload rfl rfl ?_
  refine q_iload_n rfl rfl ?_
  by_cases h101 : (x3).toInt ≤ 5
  · refine q_ic_ge_t (t := 159) rfl (by decide) (i_le_r (a := (5 : Int)) (b := (x3).toInt) (by decide +kernel) rfl (by omega)) ?_
    obtain rfl : x3 = (5 : Int32) := i_eq (a := (x3).toInt) (b := 5) rfl (by decide +kernel) (by omega)
    refine q_vret rfl rfl ?_
    exact K 5
  · refine q_ic_ge_f (t := 159) rfl (by decide) (i_nle_r (a := (5 : Int)) (b := (x3).toInt) (by decide +kernel) rfl (by omega)) ?_
    refine q_aload_n rfl rfl ?_
    refine q_get rfl rfl rfl rfl ?_
    refine q_if_le_t (t := 57) rfl (by decide) (i_le (a := (0 : Int)) (b := (0 : Int)) (by decide +kernel) (by decide +kernel) (by omega)) ?_
    refine q_aload_n rfl rfl ?_
    refine q_get rfl rfl rfl rfl ?_
    refine q_iconstv (v := (2 : Int32)) rfl (by decide +kernel) ?_
    refine q_ic_le_t (t := 129) rfl (by decide) (i_le (a := (0 : Int)) (b := (2 : Int)) (by decide +kernel) (by decide +kernel) (by omega)) ?_
    refine q_aload_n rfl rfl ?_
    refine q_get rfl rfl rfl rfl ?_
    refine q_if_le_t (t := 149) rfl (by decide) (i_le (a := (0 : Int)) (b := (0 : Int)) (by decide +kernel) (by decide +kernel) (by omega)) ?_
    refine q_aload_n rfl rfl ?_
    refine q_call rfl rfl rfl rfl ?_
    refine q_iconstv (v := (0 : Int32)) rfl (by decide +kernel) ?_
    refine q_istore_n rfl (by decide) ?_
    refine q_iload_n rfl rfl ?_
    refine q_aload_n rfl rfl ?_
    refine q_get rfl rfl rfl rfl ?_
    refine q_ic_ge_t (t := 41) rfl (by decide) (i_le_r (a := (0 : Int)) (b := (0 : Int)) (by decide +kernel) (by decide +kernel) (by omega)) ?_
    refine q_aload_n rfl rfl ?_
    refine q_get rfl rfl rfl rfl ?_
    refine q_bipushv (v := (34 : Int32)) rfl (by decide +kernel) ?_
    refine q_dup2 rfl ⟨rfl, rfl⟩ ?_
    refine q_ialoadv (m := 34) rfl (by decide) (by decide) rfl (by decide +kernel) rfl ?_
    refine q_iconstv (v := (1 : Int32)) rfl (by decide +kernel) ?_
    refine q_iaddv (v := (6 : Int32)) rfl (by decide +kernel) ?_
    refine q_iastorev (m := 34) (w9 := ((((w1.set 9 (.inr (6, [.int (x1)]))).set 40 (.inl (0, .inl ((List.replicate 34 0).set 31 (Int32.ofNat D4))))).set 41 (.inr (8, [.int 0, .ref 42, .int 0, .int 0, .int 0, .int 0, .int 0, .int 0, .int (-1), .ref 43, .ref 44, .ref 45, .ref 46, .ref 47, .ref 48, .ref 49, .int 0, .int 0, .int 0, .int 5, .int 0, .int 0, .int 0, .int 5, .ref 50, .ref 51, .ref 52, .ref 53, .ref 54, .int 0, .int 0, .ref 55, .ref 56, .ref 57, .int 0, .int 0, .int 0, .int 0, .int 0, .int 0, .ref 58, .ref 59, .ref 60, .ref 61, .ref 62, .ref 63, .ref 64, .int 0, .int 0, .ref 65, .int (x1), .ref 66, .int 0]))).set 59 (.inl (0, .inl ((List.replicate 37 0).set 34 (6)))))) rfl (by decide) rfl (by decide +kernel) (by decide) rfl ?_
    refine q_vret rfl rfl ?_
    refine bk_inl ?_
    refine q_iincv (v := (6 : Int32)) rfl rfl (by decide) (by decide +kernel) ?_
    refine q_goto (t := 12) rfl (by decide) ?_
    exact goes_6 (by omega) h2 K
set_option maxRecDepth 100000 in
set_option maxHeartbeats 4000000 in
theorem goes_4 {sc : List Int32} {D4 : Nat} {x1 x2 x3 : Int32} {Q : AR → Prop} (h1 : 4 ≤ x3.toInt) (h2 : x3.toInt ≤ 48) (K : ∀ D : Nat, Q (.inl none, ((((w1.set 9 (.inr (6, [.int (x1)]))).set 40 (.inl (0, .inl ((List.replicate 34 0).set 31 (Int32.ofNat D4))))).set 41 (.inr (8, [.int 0, .ref 42, .int 0, .int 0, .int 0, .int 0, .int 0, .int 0, .int (-1), .ref 43, .ref 44, .ref 45, .ref 46, .ref 47, .ref 48, .ref 49, .int 0, .int 0, .int 0, .int 5, .int 0, .int 0, .int 0, .int 5, .ref 50, .ref 51, .ref 52, .ref 53, .ref 54, .int 0, .int 0, .ref 55, .ref 56, .ref 57, .int 0, .int 0, .int 0, .int 0, .int 0, .int 0, .ref 58, .ref 59, .ref 60, .ref 61, .ref 62, .ref 63, .ref 64, .int 0, .int 0, .ref 65, .int (x1), .ref 66, .int 0]))).set 59 (.inl (0, .inl ((List.replicate 37 0).set 34 (Int32.ofNat D))))), 0, 0)) : Wp sc 98 253 12 [(4, .int 4), (0, .ref 41), (1, .int (x1)), (2, .int (x2)), (3, .int (x3))] [] ((((w1.set 9 (.inr (6, [.int (x1)]))).set 40 (.inl (0, .inl ((List.replicate 34 0).set 31 (Int32.ofNat D4))))).set 41 (.inr (8, [.int 0, .ref 42, .int 0, .int 0, .int 0, .int 0, .int 0, .int 0, .int (-1), .ref 43, .ref 44, .ref 45, .ref 46, .ref 47, .ref 48, .ref 49, .int 0, .int 0, .int 0, .int 5, .int 0, .int 0, .int 0, .int 5, .ref 50, .ref 51, .ref 52, .ref 53, .ref 54, .int 0, .int 0, .ref 55, .ref 56, .ref 57, .int 0, .int 0, .int 0, .int 0, .int 0, .int 0, .ref 58, .ref 59, .ref 60, .ref 61, .ref 62, .ref 63, .ref 64, .int 0, .int 0, .ref 65, .int (x1), .ref 66, .int 0]))).set 59 (.inl (0, .inl ((List.replicate 37 0).set 34 (4))))) 0 0 Q := by
  refine q_iload rfl rfl ?_
  refine q_iload_n rfl rfl ?_
  by_cases h101 : (x3).toInt ≤ 4
  · refine q_ic_ge_t (t := 159) rfl (by decide) (i_le_r (a := (4 : Int)) (b := (x3).toInt) (by decide +kernel) rfl (by omega)) ?_
    obtain rfl : x3 = (4 : Int32) := i_eq (a := (x3).toInt) (b := 4) rfl (by decide +kernel) (by omega)
    refine q_vret rfl rfl ?_
    exact K 4
  · refine q_ic_ge_f (t := 159) rfl (by decide) (i_nle_r (a := (4 : Int)) (b := (x3).toInt) (by decide +kernel) rfl (by omega)) ?_
    refine q_aload_n rfl rfl ?_
    refine q_get rfl rfl rfl rfl ?_
    refine q_if_le_t (t := 57) rfl (by decide) (i_le (a := (0 : Int)) (b := (0 : Int)) (by decide +kernel) (by decide +kernel) (by omega)) ?_
    refine q_aload_n rfl rfl ?_
    refine q_get rfl rfl rfl rfl ?_
    refine q_iconstv (v := (2 : Int32)) rfl (by decide +kernel) ?_
    refine q_ic_le_t (t := 129) rfl (by decide) (i_le (a := (0 : Int)) (b := (2 : Int)) (by decide +kernel) (by decide +kernel) (by omega)) ?_
    refine q_aload_n rfl rfl ?_
    refine q_get rfl rfl rfl rfl ?_
    refine q_if_le_t (t := 149) rfl (by decide) (i_le (a := (0 : Int)) (b := (0 : Int)) (by decide +kernel) (by decide +kernel) (by omega)) ?_
    refine q_aload_n rfl rfl ?_
    refine q_call rfl rfl rfl rfl ?_
    refine q_iconstv (v := (0 : Int32)) rfl (by decide +kernel) ?_
    refine q_istore_n rfl (by decide) ?_
    refine q_iload_n rfl rfl ?_
    refine q_aload_n rfl rfl ?_
    refine q_get rfl rfl rfl rfl ?_
    refine q_ic_ge_t (t := 41) rfl (by decide) (i_le_r (a := (0 : Int)) (b := (0 : Int)) (by decide +kernel) (by decide +kernel) (by omega)) ?_
    refine q_aload_n rfl rfl ?_
    refine q_get rfl rfl rfl rfl ?_
    refine q_bipushv (v := (34 : Int32)) rfl (by decide +kernel) ?_
    refine q_dup2 rfl ⟨rfl, rfl⟩ ?_
    refine q_ialoadv (m := 34) rfl (by decide) (by decide) rfl (by decide +kernel) rfl ?_
    refine q_iconstv (v := (1 : Int32)) rfl (by decide +kernel) ?_
    refine q_iaddv (v := (5 : Int32)) rfl (by decide +kernel) ?_
    refine q_iastorev (m := 34) (w9 := ((((w1.set 9 (.inr (6, [.int (x1)]))).set 40 (.inl (0, .inl ((List.replicate 34 0).set 31 (Int32.ofNat D4))))).set 41 (.inr (8, [.int 0, .ref 42, .int 0, .int 0, .int 0, .int 0, .int 0, .int 0, .int (-1), .ref 43, .ref 44, .ref 45, .ref 46, .ref 47, .ref 48, .ref 49, .int 0, .int 0, .int 0, .int 5, .int 0, .int 0, .int 0, .int 5, .ref 50, .ref 51, .ref 52, .ref 53, .ref 54, .int 0, .int 0, .ref 55, .ref 56, .ref 57, .int 0, .int 0, .int 0, .int 0, .int 0, .int 0, .ref 58, .ref 59, .ref 60, .ref 61, .ref 62, .ref 63, .ref 64, .int 0, .int 0, .ref 65, .int (x1), .ref 66, .int 0]))).set 59 (.inl (0, .inl ((List.replicate 37 0).set 34 (5)))))) rfl (by decide) rfl (by decide +kernel) (by decide) rfl ?_
    refine q_vret rfl rfl ?_
    refine bk_inl ?_
    refine q_iincv (v := (5 : Int32)) rfl rfl (by decide) (by decide +kernel) ?_
    refine q_goto (t := 12) rfl (by decide) ?_
    exact goes_5 (by omega) h2 K
set_option maxRecDepth 100000 in
set_option maxHeartbeats 4000000 in
theorem goes_3 {sc : List Int32} {D4 : Nat} {x1 x2 x3 : Int32} {Q : AR → Prop} (h1 : 3 ≤ x3.toInt) (h2 : x3.toInt ≤ 48) (K : ∀ D : Nat, Q (.inl none, ((((w1.set 9 (.inr (6, [.int (x1)]))).set 40 (.inl (0, .inl ((List.replicate 34 0).set 31 (Int32.ofNat D4))))).set 41 (.inr (8, [.int 0, .ref 42, .int 0, .int 0, .int 0, .int 0, .int 0, .int 0, .int (-1), .ref 43, .ref 44, .ref 45, .ref 46, .ref 47, .ref 48, .ref 49, .int 0, .int 0, .int 0, .int 5, .int 0, .int 0, .int 0, .int 5, .ref 50, .ref 51, .ref 52, .ref 53, .ref 54, .int 0, .int 0, .ref 55, .ref 56, .ref 57, .int 0, .int 0, .int 0, .int 0, .int 0, .int 0, .ref 58, .ref 59, .ref 60, .ref 61, .ref 62, .ref 63, .ref 64, .int 0, .int 0, .ref 65, .int (x1), .ref 66, .int 0]))).set 59 (.inl (0, .inl ((List.replicate 37 0).set 34 (Int32.ofNat D))))), 0, 0)) : Wp sc 98 253 12 [(4, .int 3), (0, .ref 41), (1, .int (x1)), (2, .int (x2)), (3, .int (x3))] [] ((((w1.set 9 (.inr (6, [.int (x1)]))).set 40 (.inl (0, .inl ((List.replicate 34 0).set 31 (Int32.ofNat D4))))).set 41 (.inr (8, [.int 0, .ref 42, .int 0, .int 0, .int 0, .int 0, .int 0, .int 0, .int (-1), .ref 43, .ref 44, .ref 45, .ref 46, .ref 47, .ref 48, .ref 49, .int 0, .int 0, .int 0, .int 5, .int 0, .int 0, .int 0, .int 5, .ref 50, .ref 51, .ref 52, .ref 53, .ref 54, .int 0, .int 0, .ref 55, .ref 56, .ref 57, .int 0, .int 0, .int 0, .int 0, .int 0, .int 0, .ref 58, .ref 59, .ref 60, .ref 61, .ref 62, .ref 63, .ref 64, .int 0, .int 0, .ref 65, .int (x1), .ref 66, .int 0]))).set 59 (.inl (0, .inl ((List.replicate 37 0).set 34 (3))))) 0 0 Q := by
  refine q_iload rfl rfl ?_
  refine q_iload_n rfl rfl ?_
  by_cases h101 : (x3).toInt ≤ 3
  · refine q_ic_ge_t (t := 159) rfl (by decide) (i_le_r (a := (3 : Int)) (b := (x3).toInt) (by decide +kernel) rfl (by omega)) ?_
    obtain rfl : x3 = (3 : Int32) := i_eq (a := (x3).toInt) (b := 3) rfl (by decide +kernel) (by omega)
    refine q_vret rfl rfl ?_
    exact K 3
  · refine q_ic_ge_f (t := 159) rfl (by decide) (i_nle_r (a := (3 : Int)) (b := (x3).toInt) (by decide +kernel) rfl (by omega)) ?_
    refine q_aload_n rfl rfl ?_
    refine q_get rfl rfl rfl rfl ?_
    refine q_if_le_t (t := 57) rfl (by decide) (i_le (a := (0 : Int)) (b := (0 : Int)) (by decide +kernel) (by decide +kernel) (by omega)) ?_
    refine q_aload_n rfl rfl ?_
    refine q_get rfl rfl rfl rfl ?_
    refine q_iconstv (v := (2 : Int32)) rfl (by decide +kernel) ?_
    refine q_ic_le_t (t := 129) rfl (by decide) (i_le (a := (0 : Int)) (b := (2 : Int)) (by decide +kernel) (by decide +kernel) (by omega)) ?_
    refine q_aload_n rfl rfl ?_
    refine q_get rfl rfl rfl rfl ?_
    refine q_if_le_t (t := 149) rfl (by decide) (i_le (a := (0 : Int)) (b := (0 : Int)) (by decide +kernel) (by decide +kernel) (by omega)) ?_
    refine q_aload_n rfl rfl ?_
    refine q_call rfl rfl rfl rfl ?_
    refine q_iconstv (v := (0 : Int32)) rfl (by decide +kernel) ?_
    refine q_istore_n rfl (by decide) ?_
    refine q_iload_n rfl rfl ?_
    refine q_aload_n rfl rfl ?_
    refine q_get rfl rfl rfl rfl ?_
    refine q_ic_ge_t (t := 41) rfl (by decide) (i_le_r (a := (0 : Int)) (b := (0 : Int)) (by decide +kernel) (by decide +kernel) (by omega)) ?_
    refine q_aload_n rfl rfl ?_
    refine q_get rfl rfl rfl rfl ?_
    refine q_bipushv (v := (34 : Int32)) rfl (by decide +kernel) ?_
    refine q_dup2 rfl ⟨rfl, rfl⟩ ?_
    refine q_ialoadv (m := 34) rfl (by decide) (by decide) rfl (by decide +kernel) rfl ?_
    refine q_iconstv (v := (1 : Int32)) rfl (by decide +kernel) ?_
    refine q_iaddv (v := (4 : Int32)) rfl (by decide +kernel) ?_
    refine q_iastorev (m := 34) (w9 := ((((w1.set 9 (.inr (6, [.int (x1)]))).set 40 (.inl (0, .inl ((List.replicate 34 0).set 31 (Int32.ofNat D4))))).set 41 (.inr (8, [.int 0, .ref 42, .int 0, .int 0, .int 0, .int 0, .int 0, .int 0, .int (-1), .ref 43, .ref 44, .ref 45, .ref 46, .ref 47, .ref 48, .ref 49, .int 0, .int 0, .int 0, .int 5, .int 0, .int 0, .int 0, .int 5, .ref 50, .ref 51, .ref 52, .ref 53, .ref 54, .int 0, .int 0, .ref 55, .ref 56, .ref 57, .int 0, .int 0, .int 0, .int 0, .int 0, .int 0, .ref 58, .ref 59, .ref 60, .ref 61, .ref 62, .ref 63, .ref 64, .int 0, .int 0, .ref 65, .int (x1), .ref 66, .int 0]))).set 59 (.inl (0, .inl ((List.replicate 37 0).set 34 (4)))))) rfl (by decide) rfl (by decide +kernel) (by decide) rfl ?_
    refine q_vret rfl rfl ?_
    refine bk_inl ?_
    refine q_iincv (v := (4 : Int32)) rfl rfl (by decide) (by decide +kernel) ?_
    refine q_goto (t := 12) rfl (by decide) ?_
    exact goes_4 (by omega) h2 K
set_option maxRecDepth 100000 in
set_option maxHeartbeats 4000000 in
theorem goes_2 {sc : List Int32} {D4 : Nat} {x1 x2 x3 : Int32} {Q : AR → Prop} (h1 : 2 ≤ x3.toInt) (h2 : x3.toInt ≤ 48) (K : ∀ D : Nat, Q (.inl none, ((((w1.set 9 (.inr (6, [.int (x1)]))).set 40 (.inl (0, .inl ((List.replicate 34 0).set 31 (Int32.ofNat D4))))).set 41 (.inr (8, [.int 0, .ref 42, .int 0, .int 0, .int 0, .int 0, .int 0, .int 0, .int (-1), .ref 43, .ref 44, .ref 45, .ref 46, .ref 47, .ref 48, .ref 49, .int 0, .int 0, .int 0, .int 5, .int 0, .int 0, .int 0, .int 5, .ref 50, .ref 51, .ref 52, .ref 53, .ref 54, .int 0, .int 0, .ref 55, .ref 56, .ref 57, .int 0, .int 0, .int 0, .int 0, .int 0, .int 0, .ref 58, .ref 59, .ref 60, .ref 61, .ref 62, .ref 63, .ref 64, .int 0, .int 0, .ref 65, .int (x1), .ref 66, .int 0]))).set 59 (.inl (0, .inl ((List.replicate 37 0).set 34 (Int32.ofNat D))))), 0, 0)) : Wp sc 98 253 12 [(4, .int 2), (0, .ref 41), (1, .int (x1)), (2, .int (x2)), (3, .int (x3))] [] ((((w1.set 9 (.inr (6, [.int (x1)]))).set 40 (.inl (0, .inl ((List.replicate 34 0).set 31 (Int32.ofNat D4))))).set 41 (.inr (8, [.int 0, .ref 42, .int 0, .int 0, .int 0, .int 0, .int 0, .int 0, .int (-1), .ref 43, .ref 44, .ref 45, .ref 46, .ref 47, .ref 48, .ref 49, .int 0, .int 0, .int 0, .int 5, .int 0, .int 0, .int 0, .int 5, .ref 50, .ref 51, .ref 52, .ref 53, .ref 54, .int 0, .int 0, .ref 55, .ref 56, .ref 57, .int 0, .int 0, .int 0, .int 0, .int 0, .int 0, .ref 58, .ref 59, .ref 60, .ref 61, .ref 62, .ref 63, .ref 64, .int 0, .int 0, .ref 65, .int (x1), .ref 66, .int 0]))).set 59 (.inl (0, .inl ((List.replicate 37 0).set 34 (2))))) 0 0 Q := by
  refine q_iload rfl rfl ?_
  refine q_iload_n rfl rfl ?_
  by_cases h101 : (x3).toInt ≤ 2
  · refine q_ic_ge_t (t := 159) rfl (by decide) (i_le_r (a := (2 : Int)) (b := (x3).toInt) (by decide +kernel) rfl (by omega)) ?_
    obtain rfl : x3 = (2 : Int32) := i_eq (a := (x3).toInt) (b := 2) rfl (by decide +kernel) (by omega)
    refine q_vret rfl rfl ?_
    exact K 2
  · refine q_ic_ge_f (t := 159) rfl (by decide) (i_nle_r (a := (2 : Int)) (b := (x3).toInt) (by decide +kernel) rfl (by omega)) ?_
    refine q_aload_n rfl rfl ?_
    refine q_get rfl rfl rfl rfl ?_
    refine q_if_le_t (t := 57) rfl (by decide) (i_le (a := (0 : Int)) (b := (0 : Int)) (by decide +kernel) (by decide +kernel) (by omega)) ?_
    refine q_aload_n rfl rfl ?_
    refine q_get rfl rfl rfl rfl ?_
    refine q_iconstv (v := (2 : Int32)) rfl (by decide +kernel) ?_
    refine q_ic_le_t (t := 129) rfl (by decide) (i_le (a := (0 : Int)) (b := (2 : Int)) (by decide +kernel) (by decide +kernel) (by omega)) ?_
    refine q_aload_n rfl rfl ?_
    refine q_get rfl rfl rfl rfl ?_
    refine q_if_le_t (t := 149) rfl (by decide) (i_le (a := (0 : Int)) (b := (0 : Int)) (by decide +kernel) (by decide +kernel) (by omega)) ?_
    refine q_aload_n rfl rfl ?_
    refine q_call rfl rfl rfl rfl ?_
    refine q_iconstv (v := (0 : Int32)) rfl (by decide +kernel) ?_
    refine q_istore_n rfl (by decide) ?_
    refine q_iload_n rfl rfl ?_
    refine q_aload_n rfl rfl ?_
    refine q_get rfl rfl rfl rfl ?_
    refine q_ic_ge_t (t := 41) rfl (by decide) (i_le_r (a := (0 : Int)) (b := (0 : Int)) (by decide +kernel) (by decide +kernel) (by omega)) ?_
    refine q_aload_n rfl rfl ?_
    refine q_get rfl rfl rfl rfl ?_
    refine q_bipushv (v := (34 : Int32)) rfl (by decide +kernel) ?_
    refine q_dup2 rfl ⟨rfl, rfl⟩ ?_
    refine q_ialoadv (m := 34) rfl (by decide) (by decide) rfl (by decide +kernel) rfl ?_
    refine q_iconstv (v := (1 : Int32)) rfl (by decide +kernel) ?_
    refine q_iaddv (v := (3 : Int32)) rfl (by decide +kernel) ?_
    refine q_iastorev (m := 34) (w9 := ((((w1.set 9 (.inr (6, [.int (x1)]))).set 40 (.inl (0, .inl ((List.replicate 34 0).set 31 (Int32.ofNat D4))))).set 41 (.inr (8, [.int 0, .ref 42, .int 0, .int 0, .int 0, .int 0, .int 0, .int 0, .int (-1), .ref 43, .ref 44, .ref 45, .ref 46, .ref 47, .ref 48, .ref 49, .int 0, .int 0, .int 0, .int 5, .int 0, .int 0, .int 0, .int 5, .ref 50, .ref 51, .ref 52, .ref 53, .ref 54, .int 0, .int 0, .ref 55, .ref 56, .ref 57, .int 0, .int 0, .int 0, .int 0, .int 0, .int 0, .ref 58, .ref 59, .ref 60, .ref 61, .ref 62, .ref 63, .ref 64, .int 0, .int 0, .ref 65, .int (x1), .ref 66, .int 0]))).set 59 (.inl (0, .inl ((List.replicate 37 0).set 34 (3)))))) rfl (by decide) rfl (by decide +kernel) (by decide) rfl ?_
    refine q_vret rfl rfl ?_
    refine bk_inl ?_
    refine q_iincv (v := (3 : Int32)) rfl rfl (by decide) (by decide +kernel) ?_
    refine q_goto (t := 12) rfl (by decide) ?_
    exact goes_3 (by omega) h2 K
set_option maxRecDepth 100000 in
set_option maxHeartbeats 4000000 in
theorem goes_1 {sc : List Int32} {D4 : Nat} {x1 x2 x3 : Int32} {Q : AR → Prop} (h1 : 1 ≤ x3.toInt) (h2 : x3.toInt ≤ 48) (K : ∀ D : Nat, Q (.inl none, ((((w1.set 9 (.inr (6, [.int (x1)]))).set 40 (.inl (0, .inl ((List.replicate 34 0).set 31 (Int32.ofNat D4))))).set 41 (.inr (8, [.int 0, .ref 42, .int 0, .int 0, .int 0, .int 0, .int 0, .int 0, .int (-1), .ref 43, .ref 44, .ref 45, .ref 46, .ref 47, .ref 48, .ref 49, .int 0, .int 0, .int 0, .int 5, .int 0, .int 0, .int 0, .int 5, .ref 50, .ref 51, .ref 52, .ref 53, .ref 54, .int 0, .int 0, .ref 55, .ref 56, .ref 57, .int 0, .int 0, .int 0, .int 0, .int 0, .int 0, .ref 58, .ref 59, .ref 60, .ref 61, .ref 62, .ref 63, .ref 64, .int 0, .int 0, .ref 65, .int (x1), .ref 66, .int 0]))).set 59 (.inl (0, .inl ((List.replicate 37 0).set 34 (Int32.ofNat D))))), 0, 0)) : Wp sc 98 253 12 [(4, .int 1), (0, .ref 41), (1, .int (x1)), (2, .int (x2)), (3, .int (x3))] [] ((((w1.set 9 (.inr (6, [.int (x1)]))).set 40 (.inl (0, .inl ((List.replicate 34 0).set 31 (Int32.ofNat D4))))).set 41 (.inr (8, [.int 0, .ref 42, .int 0, .int 0, .int 0, .int 0, .int 0, .int 0, .int (-1), .ref 43, .ref 44, .ref 45, .ref 46, .ref 47, .ref 48, .ref 49, .int 0, .int 0, .int 0, .int 5, .int 0, .int 0, .int 0, .int 5, .ref 50, .ref 51, .ref 52, .ref 53, .ref 54, .int 0, .int 0, .ref 55, .ref 56, .ref 57, .int 0, .int 0, .int 0, .int 0, .int 0, .int 0, .ref 58, .ref 59, .ref 60, .ref 61, .ref 62, .ref 63, .ref 64, .int 0, .int 0, .ref 65, .int (x1), .ref 66, .int 0]))).set 59 (.inl (0, .inl ((List.replicate 37 0).set 34 (1))))) 0 0 Q := by
  refine q_iload rfl rfl ?_
  refine q_iload_n rfl rfl ?_
  by_cases h101 : (x3).toInt ≤ 1
  · refine q_ic_ge_t (t := 159) rfl (by decide) (i_le_r (a := (1 : Int)) (b := (x3).toInt) (by decide +kernel) rfl (by omega)) ?_
    obtain rfl : x3 = (1 : Int32) := i_eq (a := (x3).toInt) (b := 1) rfl (by decide +kernel) (by omega)
    refine q_vret rfl rfl ?_
    exact K 1
  · refine q_ic_ge_f (t := 159) rfl (by decide) (i_nle_r (a := (1 : Int)) (b := (x3).toInt) (by decide +kernel) rfl (by omega)) ?_
    refine q_aload_n rfl rfl ?_
    refine q_get rfl rfl rfl rfl ?_
    refine q_if_le_t (t := 57) rfl (by decide) (i_le (a := (0 : Int)) (b := (0 : Int)) (by decide +kernel) (by decide +kernel) (by omega)) ?_
    refine q_aload_n rfl rfl ?_
    refine q_get rfl rfl rfl rfl ?_
    refine q_iconstv (v := (2 : Int32)) rfl (by decide +kernel) ?_
    refine q_ic_le_t (t := 129) rfl (by decide) (i_le (a := (0 : Int)) (b := (2 : Int)) (by decide +kernel) (by decide +kernel) (by omega)) ?_
    refine q_aload_n rfl rfl ?_
    refine q_get rfl rfl rfl rfl ?_
    refine q_if_le_t (t := 149) rfl (by decide) (i_le (a := (0 : Int)) (b := (0 : Int)) (by decide +kernel) (by decide +kernel) (by omega)) ?_
    refine q_aload_n rfl rfl ?_
    refine q_call rfl rfl rfl rfl ?_
    refine q_iconstv (v := (0 : Int32)) rfl (by decide +kernel) ?_
    refine q_istore_n rfl (by decide) ?_
    refine q_iload_n rfl rfl ?_
    refine q_aload_n rfl rfl ?_
    refine q_get rfl rfl rfl rfl ?_
    refine q_ic_ge_t (t := 41) rfl (by decide) (i_le_r (a := (0 : Int)) (b := (0 : Int)) (by decide +kernel) (by decide +kernel) (by omega)) ?_
    refine q_aload_n rfl rfl ?_
    refine q_get rfl rfl rfl rfl ?_
    refine q_bipushv (v := (34 : Int32)) rfl (by decide +kernel) ?_
    refine q_dup2 rfl ⟨rfl, rfl⟩ ?_
    refine q_ialoadv (m := 34) rfl (by decide) (by decide) rfl (by decide +kernel) rfl ?_
    refine q_iconstv (v := (1 : Int32)) rfl (by decide +kernel) ?_
    refine q_iaddv (v := (2 : Int32)) rfl (by decide +kernel) ?_
    refine q_iastorev (m := 34) (w9 := ((((w1.set 9 (.inr (6, [.int (x1)]))).set 40 (.inl (0, .inl ((List.replicate 34 0).set 31 (Int32.ofNat D4))))).set 41 (.inr (8, [.int 0, .ref 42, .int 0, .int 0, .int 0, .int 0, .int 0, .int 0, .int (-1), .ref 43, .ref 44, .ref 45, .ref 46, .ref 47, .ref 48, .ref 49, .int 0, .int 0, .int 0, .int 5, .int 0, .int 0, .int 0, .int 5, .ref 50, .ref 51, .ref 52, .ref 53, .ref 54, .int 0, .int 0, .ref 55, .ref 56, .ref 57, .int 0, .int 0, .int 0, .int 0, .int 0, .int 0, .ref 58, .ref 59, .ref 60, .ref 61, .ref 62, .ref 63, .ref 64, .int 0, .int 0, .ref 65, .int (x1), .ref 66, .int 0]))).set 59 (.inl (0, .inl ((List.replicate 37 0).set 34 (2)))))) rfl (by decide) rfl (by decide +kernel) (by decide) rfl ?_
    refine q_vret rfl rfl ?_
    refine bk_inl ?_
    refine q_iincv (v := (2 : Int32)) rfl rfl (by decide) (by decide +kernel) ?_
    refine q_goto (t := 12) rfl (by decide) ?_
    exact goes_2 (by omega) h2 K
set_option maxRecDepth 100000 in
set_option maxHeartbeats 4000000 in
theorem goes_0 {sc : List Int32} {D4 : Nat} {x1 x2 x3 : Int32} {Q : AR → Prop} (h1 : 1 ≤ x3.toInt) (h2 : x3.toInt ≤ 48) (K : ∀ D : Nat, Q (.inl none, ((((w1.set 9 (.inr (6, [.int (x1)]))).set 40 (.inl (0, .inl ((List.replicate 34 0).set 31 (Int32.ofNat D4))))).set 41 (.inr (8, [.int 0, .ref 42, .int 0, .int 0, .int 0, .int 0, .int 0, .int 0, .int (-1), .ref 43, .ref 44, .ref 45, .ref 46, .ref 47, .ref 48, .ref 49, .int 0, .int 0, .int 0, .int 5, .int 0, .int 0, .int 0, .int 5, .ref 50, .ref 51, .ref 52, .ref 53, .ref 54, .int 0, .int 0, .ref 55, .ref 56, .ref 57, .int 0, .int 0, .int 0, .int 0, .int 0, .int 0, .ref 58, .ref 59, .ref 60, .ref 61, .ref 62, .ref 63, .ref 64, .int 0, .int 0, .ref 65, .int (x1), .ref 66, .int 0]))).set 59 (.inl (0, .inl ((List.replicate 37 0).set 34 (Int32.ofNat D))))), 0, 0)) : Wp sc 98 253 12 [(4, .int 0), (0, .ref 41), (1, .int (x1)), (2, .int (x2)), (3, .int (x3))] [] (((w1.set 9 (.inr (6, [.int (x1)]))).set 40 (.inl (0, .inl ((List.replicate 34 0).set 31 (Int32.ofNat D4))))).set 41 (.inr (8, [.int 0, .ref 42, .int 0, .int 0, .int 0, .int 0, .int 0, .int 0, .int (-1), .ref 43, .ref 44, .ref 45, .ref 46, .ref 47, .ref 48, .ref 49, .int 0, .int 0, .int 0, .int 5, .int 0, .int 0, .int 0, .int 5, .ref 50, .ref 51, .ref 52, .ref 53, .ref 54, .int 0, .int 0, .ref 55, .ref 56, .ref 57, .int 0, .int 0, .int 0, .int 0, .int 0, .int 0, .ref 58, .ref 59, .ref 60, .ref 61, .ref 62, .ref 63, .ref 64, .int 0, .int 0, .ref 65, .int (x1), .ref 66, .int 0]))) 0 0 Q := by
  refine q_iload rfl rfl ?_
  refine q_iload_n rfl rfl ?_
  refine q_ic_ge_f (t := 159) rfl (by decide) (i_nle_r (a := (0 : Int)) (b := (x3).toInt) (by decide +kernel) rfl (by omega)) ?_
  refine q_aload_n rfl rfl ?_
  refine q_get rfl rfl rfl rfl ?_
  refine q_if_le_t (t := 57) rfl (by decide) (i_le (a := (0 : Int)) (b := (0 : Int)) (by decide +kernel) (by decide +kernel) (by omega)) ?_
  refine q_aload_n rfl rfl ?_
  refine q_get rfl rfl rfl rfl ?_
  refine q_iconstv (v := (2 : Int32)) rfl (by decide +kernel) ?_
  refine q_ic_le_t (t := 129) rfl (by decide) (i_le (a := (0 : Int)) (b := (2 : Int)) (by decide +kernel) (by decide +kernel) (by omega)) ?_
  refine q_aload_n rfl rfl ?_
  refine q_get rfl rfl rfl rfl ?_
  refine q_if_le_t (t := 149) rfl (by decide) (i_le (a := (0 : Int)) (b := (0 : Int)) (by decide +kernel) (by decide +kernel) (by omega)) ?_
  refine q_aload_n rfl rfl ?_
  refine q_call rfl rfl rfl rfl ?_
  refine q_iconstv (v := (0 : Int32)) rfl (by decide +kernel) ?_
  refine q_istore_n rfl (by decide) ?_
  refine q_iload_n rfl rfl ?_
  refine q_aload_n rfl rfl ?_
  refine q_get rfl rfl rfl rfl ?_
  refine q_ic_ge_t (t := 41) rfl (by decide) (i_le_r (a := (0 : Int)) (b := (0 : Int)) (by decide +kernel) (by decide +kernel) (by omega)) ?_
  refine q_aload_n rfl rfl ?_
  refine q_get rfl rfl rfl rfl ?_
  refine q_bipushv (v := (34 : Int32)) rfl (by decide +kernel) ?_
  refine q_dup2 rfl ⟨rfl, rfl⟩ ?_
  refine q_ialoadv (m := 34) rfl (by decide) (by decide) rfl (by decide +kernel) rfl ?_
  refine q_iconstv (v := (1 : Int32)) rfl (by decide +kernel) ?_
  refine q_iaddv (v := (1 : Int32)) rfl (by decide +kernel) ?_
  refine q_iastorev (m := 34) (w9 := ((((w1.set 9 (.inr (6, [.int (x1)]))).set 40 (.inl (0, .inl ((List.replicate 34 0).set 31 (Int32.ofNat D4))))).set 41 (.inr (8, [.int 0, .ref 42, .int 0, .int 0, .int 0, .int 0, .int 0, .int 0, .int (-1), .ref 43, .ref 44, .ref 45, .ref 46, .ref 47, .ref 48, .ref 49, .int 0, .int 0, .int 0, .int 5, .int 0, .int 0, .int 0, .int 5, .ref 50, .ref 51, .ref 52, .ref 53, .ref 54, .int 0, .int 0, .ref 55, .ref 56, .ref 57, .int 0, .int 0, .int 0, .int 0, .int 0, .int 0, .ref 58, .ref 59, .ref 60, .ref 61, .ref 62, .ref 63, .ref 64, .int 0, .int 0, .ref 65, .int (x1), .ref 66, .int 0]))).set 59 (.inl (0, .inl ((List.replicate 37 0).set 34 (1)))))) rfl (by decide) rfl (by decide +kernel) (by decide) rfl ?_
  refine q_vret rfl rfl ?_
  refine bk_inl ?_
  refine q_iincv (v := (1 : Int32)) rfl rfl (by decide) (by decide +kernel) ?_
  refine q_goto (t := 12) rfl (by decide) ?_
  exact goes_1 (by omega) h2 K
set_option maxRecDepth 100000 in
theorem goes {sc : List Int32} {D4 : Nat} {x1 x2 x3 : Int32} {Q : AR → Prop} (h1 : 1 ≤ x3.toInt) (h2 : x3.toInt ≤ 48) (K : ∀ D : Nat, Q (.inl none, ((((w1.set 9 (.inr (6, [.int (x1)]))).set 40 (.inl (0, .inl ((List.replicate 34 0).set 31 (Int32.ofNat D4))))).set 41 (.inr (8, [.int 0, .ref 42, .int 0, .int 0, .int 0, .int 0, .int 0, .int 0, .int (-1), .ref 43, .ref 44, .ref 45, .ref 46, .ref 47, .ref 48, .ref 49, .int 0, .int 0, .int 0, .int 5, .int 0, .int 0, .int 0, .int 5, .ref 50, .ref 51, .ref 52, .ref 53, .ref 54, .int 0, .int 0, .ref 55, .ref 56, .ref 57, .int 0, .int 0, .int 0, .int 0, .int 0, .int 0, .ref 58, .ref 59, .ref 60, .ref 61, .ref 62, .ref 63, .ref 64, .int 0, .int 0, .ref 65, .int (x1), .ref 66, .int 0]))).set 59 (.inl (0, .inl ((List.replicate 37 0).set 34 (Int32.ofNat D))))), 0, 0)) : Wp sc 98 253 0 [(0, .ref 41), (1, .int (x1)), (2, .int (x2)), (3, .int (x3))] [] ((w1.set 9 (.inr (6, [.int (x1)]))).set 40 (.inl (0, .inl ((List.replicate 34 0).set 31 (Int32.ofNat D4))))) 0 0 Q := by
  refine q_aload_n rfl rfl ?_
  refine q_call rfl rfl rfl rfl ?_
  refine q_aload_n rfl rfl ?_
  refine q_aload_n rfl rfl ?_
  refine q_get rfl rfl rfl rfl ?_
  refine q_aload_n rfl rfl ?_
  refine q_get rfl rfl rfl rfl ?_
  refine q_bipushv (v := (37 : Int32)) rfl (by decide +kernel) ?_
  refine q_call rfl rfl rfl rfl ?_
  refine q_iconstv (v := (0 : Int32)) rfl (by decide +kernel) ?_
  refine q_istore rfl (by decide) ?_
  refine q_iload rfl rfl ?_
  refine q_iload_n rfl rfl ?_
  refine q_ic_ge_f (t := 23) rfl (by decide) (i_nle_r (a := (0 : Int)) (b := (37 : Int)) (by decide +kernel) (by decide +kernel) (by omega)) ?_
  refine q_aload_n rfl rfl ?_
  refine q_iload rfl rfl ?_
  refine q_aload_n rfl rfl ?_
  refine q_iload rfl rfl ?_
  refine q_ialoadv (m := 0) rfl (by decide) (by decide) rfl (by decide +kernel) rfl ?_
  refine q_iastorev (m := 0) (w9 := ((w1.set 9 (.inr (6, [.int (x1)]))).set 40 (.inl (0, .inl ((List.replicate 34 0).set 31 (Int32.ofNat D4)))))) rfl (by decide) rfl (by decide +kernel) (by decide) rfl ?_
  refine q_iincv (v := (1 : Int32)) rfl rfl (by decide) (by decide +kernel) ?_
  refine q_goto (t := 3) rfl (by decide) ?_
  refine q_iload rfl rfl ?_
  refine q_iload_n rfl rfl ?_
  refine q_ic_ge_f (t := 23) rfl (by decide) (i_nle_r (a := (1 : Int)) (b := (37 : Int)) (by decide +kernel) (by decide +kernel) (by omega)) ?_
  refine q_aload_n rfl rfl ?_
  refine q_iload rfl rfl ?_
  refine q_aload_n rfl rfl ?_
  refine q_iload rfl rfl ?_
  refine q_ialoadv (m := 1) rfl (by decide) (by decide) rfl (by decide +kernel) rfl ?_
  refine q_iastorev (m := 1) (w9 := ((w1.set 9 (.inr (6, [.int (x1)]))).set 40 (.inl (0, .inl ((List.replicate 34 0).set 31 (Int32.ofNat D4)))))) rfl (by decide) rfl (by decide +kernel) (by decide) rfl ?_
  refine q_iincv (v := (2 : Int32)) rfl rfl (by decide) (by decide +kernel) ?_
  refine q_goto (t := 3) rfl (by decide) ?_
  refine q_iload rfl rfl ?_
  refine q_iload_n rfl rfl ?_
  refine q_ic_ge_f (t := 23) rfl (by decide) (i_nle_r (a := (2 : Int)) (b := (37 : Int)) (by decide +kernel) (by decide +kernel) (by omega)) ?_
  refine q_aload_n rfl rfl ?_
  refine q_iload rfl rfl ?_
  refine q_aload_n rfl rfl ?_
  refine q_iload rfl rfl ?_
  refine q_ialoadv (m := 2) rfl (by decide) (by decide) rfl (by decide +kernel) rfl ?_
  refine q_iastorev (m := 2) (w9 := ((w1.set 9 (.inr (6, [.int (x1)]))).set 40 (.inl (0, .inl ((List.replicate 34 0).set 31 (Int32.ofNat D4)))))) rfl (by decide) rfl (by decide +kernel) (by decide) rfl ?_
  refine q_iincv (v := (3 : Int32)) rfl rfl (by decide) (by decide +kernel) ?_
  refine q_goto (t := 3) rfl (by decide) ?_
  refine q_iload rfl rfl ?_
  refine q_iload_n rfl rfl ?_
  refine q_ic_ge_f (t := 23) rfl (by decide) (i_nle_r (a := (3 : Int)) (b := (37 : Int)) (by decide +kernel) (by decide +kernel) (by omega)) ?_
  refine q_aload_n rfl rfl ?_
  refine q_iload rfl rfl ?_
  refine q_aload_n rfl rfl ?_
  refine q_iload rfl rfl ?_
  refine q_ialoadv (m := 3) rfl (by decide) (by decide) rfl (by decide +kernel) rfl ?_
  refine q_iastorev (m := 3) (w9 := ((w1.set 9 (.inr (6, [.int (x1)]))).set 40 (.inl (0, .inl ((List.replicate 34 0).set 31 (Int32.ofNat D4)))))) rfl (by decide) rfl (by decide +kernel) (by decide) rfl ?_
  refine q_iincv (v := (4 : Int32)) rfl rfl (by decide) (by decide +kernel) ?_
  refine q_goto (t := 3) rfl (by decide) ?_
  refine q_iload rfl rfl ?_
  refine q_iload_n rfl rfl ?_
  refine q_ic_ge_f (t := 23) rfl (by decide) (i_nle_r (a := (4 : Int)) (b := (37 : Int)) (by decide +kernel) (by decide +kernel) (by omega)) ?_
  refine q_aload_n rfl rfl ?_
  refine q_iload rfl rfl ?_
  refine q_aload_n rfl rfl ?_
  refine q_iload rfl rfl ?_
  refine q_ialoadv (m := 4) rfl (by decide) (by decide) rfl (by decide +kernel) rfl ?_
  refine q_iastorev (m := 4) (w9 := ((w1.set 9 (.inr (6, [.int (x1)]))).set 40 (.inl (0, .inl ((List.replicate 34 0).set 31 (Int32.ofNat D4)))))) rfl (by decide) rfl (by decide +kernel) (by decide) rfl ?_
  refine q_iincv (v := (5 : Int32)) rfl rfl (by decide) (by decide +kernel) ?_
  refine q_goto (t := 3) rfl (by decide) ?_
  refine q_iload rfl rfl ?_
  refine q_iload_n rfl rfl ?_
  refine q_ic_ge_f (t := 23) rfl (by decide) (i_nle_r (a := (5 : Int)) (b := (37 : Int)) (by decide +kernel) (by decide +kernel) (by omega)) ?_
  refine q_aload_n rfl rfl ?_
  refine q_iload rfl rfl ?_
  refine q_aload_n rfl rfl ?_
  refine q_iload rfl rfl ?_
  refine q_ialoadv (m := 5) rfl (by decide) (by decide) rfl (by decide +kernel) rfl ?_
  refine q_iastorev (m := 5) (w9 := ((w1.set 9 (.inr (6, [.int (x1)]))).set 40 (.inl (0, .inl ((List.replicate 34 0).set 31 (Int32.ofNat D4)))))) rfl (by decide) rfl (by decide +kernel) (by decide) rfl ?_
  refine q_iincv (v := (6 : Int32)) rfl rfl (by decide) (by decide +kernel) ?_
  refine q_goto (t := 3) rfl (by decide) ?_
  refine q_iload rfl rfl ?_
  refine q_iload_n rfl rfl ?_
  refine q_ic_ge_f (t := 23) rfl (by decide) (i_nle_r (a := (6 : Int)) (b := (37 : Int)) (by decide +kernel) (by decide +kernel) (by omega)) ?_
  refine q_aload_n rfl rfl ?_
  refine q_iload rfl rfl ?_
  refine q_aload_n rfl rfl ?_
  refine q_iload rfl rfl ?_
  refine q_ialoadv (m := 6) rfl (by decide) (by decide) rfl (by decide +kernel) rfl ?_
  refine q_iastorev (m := 6) (w9 := ((w1.set 9 (.inr (6, [.int (x1)]))).set 40 (.inl (0, .inl ((List.replicate 34 0).set 31 (Int32.ofNat D4)))))) rfl (by decide) rfl (by decide +kernel) (by decide) rfl ?_
  refine q_iincv (v := (7 : Int32)) rfl rfl (by decide) (by decide +kernel) ?_
  refine q_goto (t := 3) rfl (by decide) ?_
  refine q_iload rfl rfl ?_
  refine q_iload_n rfl rfl ?_
  refine q_ic_ge_f (t := 23) rfl (by decide) (i_nle_r (a := (7 : Int)) (b := (37 : Int)) (by decide +kernel) (by decide +kernel) (by omega)) ?_
  refine q_aload_n rfl rfl ?_
  refine q_iload rfl rfl ?_
  refine q_aload_n rfl rfl ?_
  refine q_iload rfl rfl ?_
  refine q_ialoadv (m := 7) rfl (by decide) (by decide) rfl (by decide +kernel) rfl ?_
  refine q_iastorev (m := 7) (w9 := ((w1.set 9 (.inr (6, [.int (x1)]))).set 40 (.inl (0, .inl ((List.replicate 34 0).set 31 (Int32.ofNat D4)))))) rfl (by decide) rfl (by decide +kernel) (by decide) rfl ?_
  refine q_iincv (v := (8 : Int32)) rfl rfl (by decide) (by decide +kernel) ?_
  refine q_goto (t := 3) rfl (by decide) ?_
  refine q_iload rfl rfl ?_
  refine q_iload_n rfl rfl ?_
  refine q_ic_ge_f (t := 23) rfl (by decide) (i_nle_r (a := (8 : Int)) (b := (37 : Int)) (by decide +kernel) (by decide +kernel) (by omega)) ?_
  refine q_aload_n rfl rfl ?_
  refine q_iload rfl rfl ?_
  refine q_aload_n rfl rfl ?_
  refine q_iload rfl rfl ?_
  refine q_ialoadv (m := 8) rfl (by decide) (by decide) rfl (by decide +kernel) rfl ?_
  refine q_iastorev (m := 8) (w9 := ((w1.set 9 (.inr (6, [.int (x1)]))).set 40 (.inl (0, .inl ((List.replicate 34 0).set 31 (Int32.ofNat D4)))))) rfl (by decide) rfl (by decide +kernel) (by decide) rfl ?_
  refine q_iincv (v := (9 : Int32)) rfl rfl (by decide) (by decide +kernel) ?_
  refine q_goto (t := 3) rfl (by decide) ?_
  refine q_iload rfl rfl ?_
  refine q_iload_n rfl rfl ?_
  refine q_ic_ge_f (t := 23) rfl (by decide) (i_nle_r (a := (9 : Int)) (b := (37 : Int)) (by decide +kernel) (by decide +kernel) (by omega)) ?_
  refine q_aload_n rfl rfl ?_
  refine q_iload rfl rfl ?_
  refine q_aload_n rfl rfl ?_
  refine q_iload rfl rfl ?_
  refine q_ialoadv (m := 9) rfl (by decide) (by decide) rfl (by decide +kernel) rfl ?_
  refine q_iastorev (m := 9) (w9 := ((w1.set 9 (.inr (6, [.int (x1)]))).set 40 (.inl (0, .inl ((List.replicate 34 0).set 31 (Int32.ofNat D4)))))) rfl (by decide) rfl (by decide +kernel) (by decide) rfl ?_
  refine q_iincv (v := (10 : Int32)) rfl rfl (by decide) (by decide +kernel) ?_
  refine q_goto (t := 3) rfl (by decide) ?_
  refine q_iload rfl rfl ?_
  refine q_iload_n rfl rfl ?_
  refine q_ic_ge_f (t := 23) rfl (by decide) (i_nle_r (a := (10 : Int)) (b := (37 : Int)) (by decide +kernel) (by decide +kernel) (by omega)) ?_
  refine q_aload_n rfl rfl ?_
  refine q_iload rfl rfl ?_
  refine q_aload_n rfl rfl ?_
  refine q_iload rfl rfl ?_
  refine q_ialoadv (m := 10) rfl (by decide) (by decide) rfl (by decide +kernel) rfl ?_
  refine q_iastorev (m := 10) (w9 := ((w1.set 9 (.inr (6, [.int (x1)]))).set 40 (.inl (0, .inl ((List.replicate 34 0).set 31 (Int32.ofNat D4)))))) rfl (by decide) rfl (by decide +kernel) (by decide) rfl ?_
  refine q_iincv (v := (11 : Int32)) rfl rfl (by decide) (by decide +kernel) ?_
  refine q_goto (t := 3) rfl (by decide) ?_
  refine q_iload rfl rfl ?_
  refine q_iload_n rfl rfl ?_
  refine q_ic_ge_f (t := 23) rfl (by decide) (i_nle_r (a := (11 : Int)) (b := (37 : Int)) (by decide +kernel) (by decide +kernel) (by omega)) ?_
  refine q_aload_n rfl rfl ?_
  refine q_iload rfl rfl ?_
  refine q_aload_n rfl rfl ?_
  refine q_iload rfl rfl ?_
  refine q_ialoadv (m := 11) rfl (by decide) (by decide) rfl (by decide +kernel) rfl ?_
  refine q_iastorev (m := 11) (w9 := ((w1.set 9 (.inr (6, [.int (x1)]))).set 40 (.inl (0, .inl ((List.replicate 34 0).set 31 (Int32.ofNat D4)))))) rfl (by decide) rfl (by decide +kernel) (by decide) rfl ?_
  refine q_iincv (v := (12 : Int32)) rfl rfl (by decide) (by decide +kernel) ?_
  refine q_goto (t := 3) rfl (by decide) ?_
  refine q_iload rfl rfl ?_
  refine q_iload_n rfl rfl ?_
  refine q_ic_ge_f (t := 23) rfl (by decide) (i_nle_r (a := (12 : Int)) (b := (37 : Int)) (by decide +kernel) (by decide +kernel) (by omega)) ?_
  refine q_aload_n rfl rfl ?_
  refine q_iload rfl rfl ?_
  refine q_aload_n rfl rfl ?_
  refine q_iload rfl rfl ?_
  refine q_ialoadv (m := 12) rfl (by decide) (by decide) rfl (by decide +kernel) rfl ?_
  refine q_iastorev (m := 12) (w9 := ((w1.set 9 (.inr (6, [.int (x1)]))).set 40 (.inl (0, .inl ((List.replicate 34 0).set 31 (Int32.ofNat D4)))))) rfl (by decide) rfl (by decide +kernel) (by decide) rfl ?_
  refine q_iincv (v := (13 : Int32)) rfl rfl (by decide) (by decide +kernel) ?_
  refine q_goto (t := 3) rfl (by decide) ?_
  refine q_iload rfl rfl ?_
  refine q_iload_n rfl rfl ?_
  refine q_ic_ge_f (t := 23) rfl (by decide) (i_nle_r (a := (13 : Int)) (b := (37 : Int)) (by decide +kernel) (by decide +kernel) (by omega)) ?_
  refine q_aload_n rfl rfl ?_
  refine q_iload rfl rfl ?_
  refine q_aload_n rfl rfl ?_
  refine q_iload rfl rfl ?_
  refine q_ialoadv (m := 13) rfl (by decide) (by decide) rfl (by decide +kernel) rfl ?_
  refine q_iastorev (m := 13) (w9 := ((w1.set 9 (.inr (6, [.int (x1)]))).set 40 (.inl (0, .inl ((List.replicate 34 0).set 31 (Int32.ofNat D4)))))) rfl (by decide) rfl (by decide +kernel) (by decide) rfl ?_
  refine q_iincv (v := (14 : Int32)) rfl rfl (by decide) (by decide +kernel) ?_
  refine q_goto (t := 3) rfl (by decide) ?_
  refine q_iload rfl rfl ?_
  refine q_iload_n rfl rfl ?_
  refine q_ic_ge_f (t := 23) rfl (by decide) (i_nle_r (a := (14 : Int)) (b := (37 : Int)) (by decide +kernel) (by decide +kernel) (by omega)) ?_
  refine q_aload_n rfl rfl ?_
  refine q_iload rfl rfl ?_
  refine q_aload_n rfl rfl ?_
  refine q_iload rfl rfl ?_
  refine q_ialoadv (m := 14) rfl (by decide) (by decide) rfl (by decide +kernel) rfl ?_
  refine q_iastorev (m := 14) (w9 := ((w1.set 9 (.inr (6, [.int (x1)]))).set 40 (.inl (0, .inl ((List.replicate 34 0).set 31 (Int32.ofNat D4)))))) rfl (by decide) rfl (by decide +kernel) (by decide) rfl ?_
  refine q_iincv (v := (15 : Int32)) rfl rfl (by decide) (by decide +kernel) ?_
  refine q_goto (t := 3) rfl (by decide) ?_
  refine q_iload rfl rfl ?_
  refine q_iload_n rfl rfl ?_
  refine q_ic_ge_f (t := 23) rfl (by decide) (i_nle_r (a := (15 : Int)) (b := (37 : Int)) (by decide +kernel) (by decide +kernel) (by omega)) ?_
  refine q_aload_n rfl rfl ?_
  refine q_iload rfl rfl ?_
  refine q_aload_n rfl rfl ?_
  refine q_iload rfl rfl ?_
  refine q_ialoadv (m := 15) rfl (by decide) (by decide) rfl (by decide +kernel) rfl ?_
  refine q_iastorev (m := 15) (w9 := ((w1.set 9 (.inr (6, [.int (x1)]))).set 40 (.inl (0, .inl ((List.replicate 34 0).set 31 (Int32.ofNat D4)))))) rfl (by decide) rfl (by decide +kernel) (by decide) rfl ?_
  refine q_iincv (v := (16 : Int32)) rfl rfl (by decide) (by decide +kernel) ?_
  refine q_goto (t := 3) rfl (by decide) ?_
  refine q_iload rfl rfl ?_
  refine q_iload_n rfl rfl ?_
  refine q_ic_ge_f (t := 23) rfl (by decide) (i_nle_r (a := (16 : Int)) (b := (37 : Int)) (by decide +kernel) (by decide +kernel) (by omega)) ?_
  refine q_aload_n rfl rfl ?_
  refine q_iload rfl rfl ?_
  refine q_aload_n rfl rfl ?_
  refine q_iload rfl rfl ?_
  refine q_ialoadv (m := 16) rfl (by decide) (by decide) rfl (by decide +kernel) rfl ?_
  refine q_iastorev (m := 16) (w9 := ((w1.set 9 (.inr (6, [.int (x1)]))).set 40 (.inl (0, .inl ((List.replicate 34 0).set 31 (Int32.ofNat D4)))))) rfl (by decide) rfl (by decide +kernel) (by decide) rfl ?_
  refine q_iincv (v := (17 : Int32)) rfl rfl (by decide) (by decide +kernel) ?_
  refine q_goto (t := 3) rfl (by decide) ?_
  refine q_iload rfl rfl ?_
  refine q_iload_n rfl rfl ?_
  refine q_ic_ge_f (t := 23) rfl (by decide) (i_nle_r (a := (17 : Int)) (b := (37 : Int)) (by decide +kernel) (by decide +kernel) (by omega)) ?_
  refine q_aload_n rfl rfl ?_
  refine q_iload rfl rfl ?_
  refine q_aload_n rfl rfl ?_
  refine q_iload rfl rfl ?_
  refine q_ialoadv (m := 17) rfl (by decide) (by decide) rfl (by decide +kernel) rfl ?_
  refine q_iastorev (m := 17) (w9 := ((w1.set 9 (.inr (6, [.int (x1)]))).set 40 (.inl (0, .inl ((List.replicate 34 0).set 31 (Int32.ofNat D4)))))) rfl (by decide) rfl (by decide +kernel) (by decide) rfl ?_
  refine q_iincv (v := (18 : Int32)) rfl rfl (by decide) (by decide +kernel) ?_
  refine q_goto (t := 3) rfl (by decide) ?_
  refine q_iload rfl rfl ?_
  refine q_iload_n rfl rfl ?_
  refine q_ic_ge_f (t := 23) rfl (by decide) (i_nle_r (a := (18 : Int)) (b := (37 : Int)) (by decide +kernel) (by decide +kernel) (by omega)) ?_
  refine q_aload_n rfl rfl ?_
  refine q_iload rfl rfl ?_
  refine q_aload_n rfl rfl ?_
  refine q_iload rfl rfl ?_
  refine q_ialoadv (m := 18) rfl (by decide) (by decide) rfl (by decide +kernel) rfl ?_
  refine q_iastorev (m := 18) (w9 := ((w1.set 9 (.inr (6, [.int (x1)]))).set 40 (.inl (0, .inl ((List.replicate 34 0).set 31 (Int32.ofNat D4)))))) rfl (by decide) rfl (by decide +kernel) (by decide) rfl ?_
  refine q_iincv (v := (19 : Int32)) rfl rfl (by decide) (by decide +kernel) ?_
  refine q_goto (t := 3) rfl (by decide) ?_
  refine q_iload rfl rfl ?_
  refine q_iload_n rfl rfl ?_
  refine q_ic_ge_f (t := 23) rfl (by decide) (i_nle_r (a := (19 : Int)) (b := (37 : Int)) (by decide +kernel) (by decide +kernel) (by omega)) ?_
  refine q_aload_n rfl rfl ?_
  refine q_iload rfl rfl ?_
  refine q_aload_n rfl rfl ?_
  refine q_iload rfl rfl ?_
  refine q_ialoadv (m := 19) rfl (by decide) (by decide) rfl (by decide +kernel) rfl ?_
  refine q_iastorev (m := 19) (w9 := ((w1.set 9 (.inr (6, [.int (x1)]))).set 40 (.inl (0, .inl ((List.replicate 34 0).set 31 (Int32.ofNat D4)))))) rfl (by decide) rfl (by decide +kernel) (by decide) rfl ?_
  refine q_iincv (v := (20 : Int32)) rfl rfl (by decide) (by decide +kernel) ?_
  refine q_goto (t := 3) rfl (by decide) ?_
  refine q_iload rfl rfl ?_
  refine q_iload_n rfl rfl ?_
  refine q_ic_ge_f (t := 23) rfl (by decide) (i_nle_r (a := (20 : Int)) (b := (37 : Int)) (by decide +kernel) (by decide +kernel) (by omega)) ?_
  refine q_aload_n rfl rfl ?_
  refine q_iload rfl rfl ?_
  refine q_aload_n rfl rfl ?_
  refine q_iload rfl rfl ?_
  refine q_ialoadv (m := 20) rfl (by decide) (by decide) rfl (by decide +kernel) rfl ?_
  refine q_iastorev (m := 20) (w9 := ((w1.set 9 (.inr (6, [.int (x1)]))).set 40 (.inl (0, .inl ((List.replicate 34 0).set 31 (Int32.ofNat D4)))))) rfl (by decide) rfl (by decide +kernel) (by decide) rfl ?_
  refine q_iincv (v := (21 : Int32)) rfl rfl (by decide) (by decide +kernel) ?_
  refine q_goto (t := 3) rfl (by decide) ?_
  refine q_iload rfl rfl ?_
  refine q_iload_n rfl rfl ?_
  refine q_ic_ge_f (t := 23) rfl (by decide) (i_nle_r (a := (21 : Int)) (b := (37 : Int)) (by decide +kernel) (by decide +kernel) (by omega)) ?_
  refine q_aload_n rfl rfl ?_
  refine q_iload rfl rfl ?_
  refine q_aload_n rfl rfl ?_
  refine q_iload rfl rfl ?_
  refine q_ialoadv (m := 21) rfl (by decide) (by decide) rfl (by decide +kernel) rfl ?_
  refine q_iastorev (m := 21) (w9 := ((w1.set 9 (.inr (6, [.int (x1)]))).set 40 (.inl (0, .inl ((List.replicate 34 0).set 31 (Int32.ofNat D4)))))) rfl (by decide) rfl (by decide +kernel) (by decide) rfl ?_
  refine q_iincv (v := (22 : Int32)) rfl rfl (by decide) (by decide +kernel) ?_
  refine q_goto (t := 3) rfl (by decide) ?_
  refine q_iload rfl rfl ?_
  refine q_iload_n rfl rfl ?_
  refine q_ic_ge_f (t := 23) rfl (by decide) (i_nle_r (a := (22 : Int)) (b := (37 : Int)) (by decide +kernel) (by decide +kernel) (by omega)) ?_
  refine q_aload_n rfl rfl ?_
  refine q_iload rfl rfl ?_
  refine q_aload_n rfl rfl ?_
  refine q_iload rfl rfl ?_
  refine q_ialoadv (m := 22) rfl (by decide) (by decide) rfl (by decide +kernel) rfl ?_
  refine q_iastorev (m := 22) (w9 := ((w1.set 9 (.inr (6, [.int (x1)]))).set 40 (.inl (0, .inl ((List.replicate 34 0).set 31 (Int32.ofNat D4)))))) rfl (by decide) rfl (by decide +kernel) (by decide) rfl ?_
  refine q_iincv (v := (23 : Int32)) rfl rfl (by decide) (by decide +kernel) ?_
  refine q_goto (t := 3) rfl (by decide) ?_
  refine q_iload rfl rfl ?_
  refine q_iload_n rfl rfl ?_
  refine q_ic_ge_f (t := 23) rfl (by decide) (i_nle_r (a := (23 : Int)) (b := (37 : Int)) (by decide +kernel) (by decide +kernel) (by omega)) ?_
  refine q_aload_n rfl rfl ?_
  refine q_iload rfl rfl ?_
  refine q_aload_n rfl rfl ?_
  refine q_iload rfl rfl ?_
  refine q_ialoadv (m := 23) rfl (by decide) (by decide) rfl (by decide +kernel) rfl ?_
  refine q_iastorev (m := 23) (w9 := ((w1.set 9 (.inr (6, [.int (x1)]))).set 40 (.inl (0, .inl ((List.replicate 34 0).set 31 (Int32.ofNat D4)))))) rfl (by decide) rfl (by decide +kernel) (by decide) rfl ?_
  refine q_iincv (v := (24 : Int32)) rfl rfl (by decide) (by decide +kernel) ?_
  refine q_goto (t := 3) rfl (by decide) ?_
  refine q_iload rfl rfl ?_
  refine q_iload_n rfl rfl ?_
  refine q_ic_ge_f (t := 23) rfl (by decide) (i_nle_r (a := (24 : Int)) (b := (37 : Int)) (by decide +kernel) (by decide +kernel) (by omega)) ?_
  refine q_aload_n rfl rfl ?_
  refine q_iload rfl rfl ?_
  refine q_aload_n rfl rfl ?_
  refine q_iload rfl rfl ?_
  refine q_ialoadv (m := 24) rfl (by decide) (by decide) rfl (by decide +kernel) rfl ?_
  refine q_iastorev (m := 24) (w9 := ((w1.set 9 (.inr (6, [.int (x1)]))).set 40 (.inl (0, .inl ((List.replicate 34 0).set 31 (Int32.ofNat D4)))))) rfl (by decide) rfl (by decide +kernel) (by decide) rfl ?_
  refine q_iincv (v := (25 : Int32)) rfl rfl (by decide) (by decide +kernel) ?_
  refine q_goto (t := 3) rfl (by decide) ?_
  refine q_iload rfl rfl ?_
  refine q_iload_n rfl rfl ?_
  refine q_ic_ge_f (t := 23) rfl (by decide) (i_nle_r (a := (25 : Int)) (b := (37 : Int)) (by decide +kernel) (by decide +kernel) (by omega)) ?_
  refine q_aload_n rfl rfl ?_
  refine q_iload rfl rfl ?_
  refine q_aload_n rfl rfl ?_
  refine q_iload rfl rfl ?_
  refine q_ialoadv (m := 25) rfl (by decide) (by decide) rfl (by decide +kernel) rfl ?_
  refine q_iastorev (m := 25) (w9 := ((w1.set 9 (.inr (6, [.int (x1)]))).set 40 (.inl (0, .inl ((List.replicate 34 0).set 31 (Int32.ofNat D4)))))) rfl (by decide) rfl (by decide +kernel) (by decide) rfl ?_
  refine q_iincv (v := (26 : Int32)) rfl rfl (by decide) (by decide +kernel) ?_
  refine q_goto (t := 3) rfl (by decide) ?_
  refine q_iload rfl rfl ?_
  refine q_iload_n rfl rfl ?_
  refine q_ic_ge_f (t := 23) rfl (by decide) (i_nle_r (a := (26 : Int)) (b := (37 : Int)) (by decide +kernel) (by decide +kernel) (by omega)) ?_
  refine q_aload_n rfl rfl ?_
  refine q_iload rfl rfl ?_
  refine q_aload_n rfl rfl ?_
  refine q_iload rfl rfl ?_
  refine q_ialoadv (m := 26) rfl (by decide) (by decide) rfl (by decide +kernel) rfl ?_
  refine q_iastorev (m := 26) (w9 := ((w1.set 9 (.inr (6, [.int (x1)]))).set 40 (.inl (0, .inl ((List.replicate 34 0).set 31 (Int32.ofNat D4)))))) rfl (by decide) rfl (by decide +kernel) (by decide) rfl ?_
  refine q_iincv (v := (27 : Int32)) rfl rfl (by decide) (by decide +kernel) ?_
  refine q_goto (t := 3) rfl (by decide) ?_
  refine q_iload rfl rfl ?_
  refine q_iload_n rfl rfl ?_
  refine q_ic_ge_f (t := 23) rfl (by decide) (i_nle_r (a := (27 : Int)) (b := (37 : Int)) (by decide +kernel) (by decide +kernel) (by omega)) ?_
  refine q_aload_n rfl rfl ?_
  refine q_iload rfl rfl ?_
  refine q_aload_n rfl rfl ?_
  refine q_iload rfl rfl ?_
  refine q_ialoadv (m := 27) rfl (by decide) (by decide) rfl (by decide +kernel) rfl ?_
  refine q_iastorev (m := 27) (w9 := ((w1.set 9 (.inr (6, [.int (x1)]))).set 40 (.inl (0, .inl ((List.replicate 34 0).set 31 (Int32.ofNat D4)))))) rfl (by decide) rfl (by decide +kernel) (by decide) rfl ?_
  refine q_iincv (v := (28 : Int32)) rfl rfl (by decide) (by decide +kernel) ?_
  refine q_goto (t := 3) rfl (by decide) ?_
  refine q_iload rfl rfl ?_
  refine q_iload_n rfl rfl ?_
  refine q_ic_ge_f (t := 23) rfl (by decide) (i_nle_r (a := (28 : Int)) (b := (37 : Int)) (by decide +kernel) (by decide +kernel) (by omega)) ?_
  refine q_aload_n rfl rfl ?_
  refine q_iload rfl rfl ?_
  refine q_aload_n rfl rfl ?_
  refine q_iload rfl rfl ?_
  refine q_ialoadv (m := 28) rfl (by decide) (by decide) rfl (by decide +kernel) rfl ?_
  refine q_iastorev (m := 28) (w9 := ((w1.set 9 (.inr (6, [.int (x1)]))).set 40 (.inl (0, .inl ((List.replicate 34 0).set 31 (Int32.ofNat D4)))))) rfl (by decide) rfl (by decide +kernel) (by decide) rfl ?_
  refine q_iincv (v := (29 : Int32)) rfl rfl (by decide) (by decide +kernel) ?_
  refine q_goto (t := 3) rfl (by decide) ?_
  refine q_iload rfl rfl ?_
  refine q_iload_n rfl rfl ?_
  refine q_ic_ge_f (t := 23) rfl (by decide) (i_nle_r (a := (29 : Int)) (b := (37 : Int)) (by decide +kernel) (by decide +kernel) (by omega)) ?_
  refine q_aload_n rfl rfl ?_
  refine q_iload rfl rfl ?_
  refine q_aload_n rfl rfl ?_
  refine q_iload rfl rfl ?_
  refine q_ialoadv (m := 29) rfl (by decide) (by decide) rfl (by decide +kernel) rfl ?_
  refine q_iastorev (m := 29) (w9 := ((w1.set 9 (.inr (6, [.int (x1)]))).set 40 (.inl (0, .inl ((List.replicate 34 0).set 31 (Int32.ofNat D4)))))) rfl (by decide) rfl (by decide +kernel) (by decide) rfl ?_
  refine q_iincv (v := (30 : Int32)) rfl rfl (by decide) (by decide +kernel) ?_
  refine q_goto (t := 3) rfl (by decide) ?_
  refine q_iload rfl rfl ?_
  refine q_iload_n rfl rfl ?_
  refine q_ic_ge_f (t := 23) rfl (by decide) (i_nle_r (a := (30 : Int)) (b := (37 : Int)) (by decide +kernel) (by decide +kernel) (by omega)) ?_
  refine q_aload_n rfl rfl ?_
  refine q_iload rfl rfl ?_
  refine q_aload_n rfl rfl ?_
  refine q_iload rfl rfl ?_
  refine q_ialoadv (m := 30) rfl (by decide) (by decide) rfl (by decide +kernel) rfl ?_
  refine q_iastorev (m := 30) (w9 := ((w1.set 9 (.inr (6, [.int (x1)]))).set 40 (.inl (0, .inl ((List.replicate 34 0).set 31 (Int32.ofNat D4)))))) rfl (by decide) rfl (by decide +kernel) (by decide) rfl ?_
  refine q_iincv (v := (31 : Int32)) rfl rfl (by decide) (by decide +kernel) ?_
  refine q_goto (t := 3) rfl (by decide) ?_
  refine q_iload rfl rfl ?_
  refine q_iload_n rfl rfl ?_
  refine q_ic_ge_f (t := 23) rfl (by decide) (i_nle_r (a := (31 : Int)) (b := (37 : Int)) (by decide +kernel) (by decide +kernel) (by omega)) ?_
  refine q_aload_n rfl rfl ?_
  refine q_iload rfl rfl ?_
  refine q_aload_n rfl rfl ?_
  refine q_iload rfl rfl ?_
  refine q_ialoadv (m := 31) rfl (by decide) (by decide) rfl (by decide +kernel) rfl ?_
  refine q_iastorev (m := 31) (w9 := ((w1.set 9 (.inr (6, [.int (x1)]))).set 40 (.inl (0, .inl ((List.replicate 34 0).set 31 (Int32.ofNat D4)))))) rfl (by decide) rfl (by decide +kernel) (by decide) rfl ?_
  refine q_iincv (v := (32 : Int32)) rfl rfl (by decide) (by decide +kernel) ?_
  refine q_goto (t := 3) rfl (by decide) ?_
  refine q_iload rfl rfl ?_
  refine q_iload_n rfl rfl ?_
  refine q_ic_ge_f (t := 23) rfl (by decide) (i_nle_r (a := (32 : Int)) (b := (37 : Int)) (by decide +kernel) (by decide +kernel) (by omega)) ?_
  refine q_aload_n rfl rfl ?_
  refine q_iload rfl rfl ?_
  refine q_aload_n rfl rfl ?_
  refine q_iload rfl rfl ?_
  refine q_ialoadv (m := 32) rfl (by decide) (by decide) rfl (by decide +kernel) rfl ?_
  refine q_iastorev (m := 32) (w9 := ((w1.set 9 (.inr (6, [.int (x1)]))).set 40 (.inl (0, .inl ((List.replicate 34 0).set 31 (Int32.ofNat D4)))))) rfl (by decide) rfl (by decide +kernel) (by decide) rfl ?_
  refine q_iincv (v := (33 : Int32)) rfl rfl (by decide) (by decide +kernel) ?_
  refine q_goto (t := 3) rfl (by decide) ?_
  refine q_iload rfl rfl ?_
  refine q_iload_n rfl rfl ?_
  refine q_ic_ge_f (t := 23) rfl (by decide) (i_nle_r (a := (33 : Int)) (b := (37 : Int)) (by decide +kernel) (by decide +kernel) (by omega)) ?_
  refine q_aload_n rfl rfl ?_
  refine q_iload rfl rfl ?_
  refine q_aload_n rfl rfl ?_
  refine q_iload rfl rfl ?_
  refine q_ialoadv (m := 33) rfl (by decide) (by decide) rfl (by decide +kernel) rfl ?_
  refine q_iastorev (m := 33) (w9 := ((w1.set 9 (.inr (6, [.int (x1)]))).set 40 (.inl (0, .inl ((List.replicate 34 0).set 31 (Int32.ofNat D4)))))) rfl (by decide) rfl (by decide +kernel) (by decide) rfl ?_
  refine q_iincv (v := (34 : Int32)) rfl rfl (by decide) (by decide +kernel) ?_
  refine q_goto (t := 3) rfl (by decide) ?_
  refine q_iload rfl rfl ?_
  refine q_iload_n rfl rfl ?_
  refine q_ic_ge_f (t := 23) rfl (by decide) (i_nle_r (a := (34 : Int)) (b := (37 : Int)) (by decide +kernel) (by decide +kernel) (by omega)) ?_
  refine q_aload_n rfl rfl ?_
  refine q_iload rfl rfl ?_
  refine q_aload_n rfl rfl ?_
  refine q_iload rfl rfl ?_
  refine q_ialoadv (m := 34) rfl (by decide) (by decide) rfl (by decide +kernel) rfl ?_
  refine q_iastorev (m := 34) (w9 := ((w1.set 9 (.inr (6, [.int (x1)]))).set 40 (.inl (0, .inl ((List.replicate 34 0).set 31 (Int32.ofNat D4)))))) rfl (by decide) rfl (by decide +kernel) (by decide) rfl ?_
  refine q_iincv (v := (35 : Int32)) rfl rfl (by decide) (by decide +kernel) ?_
  refine q_goto (t := 3) rfl (by decide) ?_
  refine q_iload rfl rfl ?_
  refine q_iload_n rfl rfl ?_
  refine q_ic_ge_f (t := 23) rfl (by decide) (i_nle_r (a := (35 : Int)) (b := (37 : Int)) (by decide +kernel) (by decide +kernel) (by omega)) ?_
  refine q_aload_n rfl rfl ?_
  refine q_iload rfl rfl ?_
  refine q_aload_n rfl rfl ?_
  refine q_iload rfl rfl ?_
  refine q_ialoadv (m := 35) rfl (by decide) (by decide) rfl (by decide +kernel) rfl ?_
  refine q_iastorev (m := 35) (w9 := ((w1.set 9 (.inr (6, [.int (x1)]))).set 40 (.inl (0, .inl ((List.replicate 34 0).set 31 (Int32.ofNat D4)))))) rfl (by decide) rfl (by decide +kernel) (by decide) rfl ?_
  refine q_iincv (v := (36 : Int32)) rfl rfl (by decide) (by decide +kernel) ?_
  refine q_goto (t := 3) rfl (by decide) ?_
  refine q_iload rfl rfl ?_
  refine q_iload_n rfl rfl ?_
  refine q_ic_ge_f (t := 23) rfl (by decide) (i_nle_r (a := (36 : Int)) (b := (37 : Int)) (by decide +kernel) (by decide +kernel) (by omega)) ?_
  refine q_aload_n rfl rfl ?_
  refine q_iload rfl rfl ?_
  refine q_aload_n rfl rfl ?_
  refine q_iload rfl rfl ?_
  refine q_ialoadv (m := 36) rfl (by decide) (by decide) rfl (by decide +kernel) rfl ?_
  refine q_iastorev (m := 36) (w9 := ((w1.set 9 (.inr (6, [.int (x1)]))).set 40 (.inl (0, .inl ((List.replicate 34 0).set 31 (Int32.ofNat D4)))))) rfl (by decide) rfl (by decide +kernel) (by decide) rfl ?_
  refine q_iincv (v := (37 : Int32)) rfl rfl (by decide) (by decide +kernel) ?_
  refine q_goto (t := 3) rfl (by decide) ?_
  refine q_iload rfl rfl ?_
  refine q_iload_n rfl rfl ?_
  refine q_ic_ge_t (t := 23) rfl (by decide) (i_le_r (a := (37 : Int)) (b := (37 : Int)) (by decide +kernel) (by decide +kernel) (by omega)) ?_
  refine q_vret rfl rfl ?_
  refine bk_inl ?_
  refine q_vret rfl rfl ?_
  refine bk_inl ?_
  refine q_aload_n rfl rfl ?_
  refine q_iload_n rfl rfl ?_
  refine q_putv (w9 := (((w1.set 9 (.inr (6, [.int (x1)]))).set 40 (.inl (0, .inl ((List.replicate 34 0).set 31 (Int32.ofNat D4))))).set 41 (.inr (8, [.int 0, .ref 42, .int 0, .int 0, .int 0, .int 0, .int 0, .int 0, .int (-1), .ref 43, .ref 44, .ref 45, .ref 46, .ref 47, .ref 48, .ref 49, .int 0, .int 0, .int 0, .int 5, .int 0, .int 0, .int 0, .int 5, .ref 50, .ref 51, .ref 52, .ref 53, .ref 54, .int 0, .int 0, .ref 55, .ref 56, .ref 57, .int 0, .int 0, .int 0, .int 0, .int 0, .int 0, .ref 58, .ref 59, .ref 60, .ref 61, .ref 62, .ref 63, .ref 64, .int 0, .int 0, .ref 65, .int (x1), .ref 66, .int 0])))) rfl rfl rfl (by decide) rfl (by decide) rfl ?_
  refine q_iconstv (v := (0 : Int32)) rfl (by decide +kernel) ?_
  refine q_istore rfl (by decide) ?_
  exact goes_0 (by omega) h2 K
