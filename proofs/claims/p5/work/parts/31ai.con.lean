/-! ===== contracts 6 ===== -/
theorem q_466f994c8 {x0 : Int} (f0 : ¬ (x0 ≥ 34)) : x0 < 34 := by omega
theorem q_1fcd92368 {x0 : Int} (f0 : ¬ (x0 ≥ 34)) : x0 + 1 ≤ 34 := by omega
theorem q_959592613 {x0 : Int} (f0 : 0 ≤ x0 ∧ x0 ≤ 6) : 4 * x0 ≤ 2147483647 := by omega
theorem q_b6dd10c5c {x0 x1 : Int} (f0 : 0 ≤ x0 ∧ x0 ≤ 6) (f1 : ¬ (x1 ≥ 4 * x0)) : x1 < 24 := by omega
theorem q_86d808b33 {x0 x1 : Int} (f0 : 0 ≤ x0 ∧ x0 ≤ 6) (f1 : ¬ (x1 ≥ 4 * x0)) : x1 < 34 := by omega
theorem q_18033a098 {x0 x1 : Int} (f0 : 0 ≤ x0 ∧ x0 ≤ 6) (f1 : ¬ (x1 ≥ 4 * x0)) : x1 + 1 ≤ 34 := by omega
theorem q_e3e978779 {x0 x1 : Int} (f0 : ¬ (x0 ≥ 4)) (f1 : 0 ≤ x1 ∧ x1 ≤ 5) : 4 * x1 + x0 < 24 := by omega
theorem q_482ef8d41 {x0 : Int} (f0 : ¬ (x0 ≥ 4)) : x0 ≤ 3 := by omega
theorem q_23711b5cc {x0 x1 : Int} (f0 : 0 ≤ x0 ∧ x0 ≤ 600) (f1 : 0 ≤ x1 ∧ x1 ≤ 20) : x1 + x0 ≤ 2147483647 := by omega
theorem q_5ccbaaa40 {x0 x1 : Int} (f0 : 0 ≤ x0 ∧ x0 ≤ 600) (f1 : 0 ≤ x1 ∧ x1 ≤ 20) : (-2147483648) ≤ x1 + x0 := by omega
theorem q_feda450ca {x0 x1 : Int} (f0 : ¬ (x0 + x1 > 600)) : x0 + x1 ≤ 600 := by omega
theorem q_c603354c3 {x0 x1 : Int} (f0 : (x0 = 0) ∨ (x1 + 1 ≤ 600)) (f1 : ¬ (x0 = 0)) : x1 < 600 := by omega
theorem q_10c0010c4 {x0 x1 : Int} (f0 : (x0 = 0) ∨ (x1 + 1 ≤ 600)) (f1 : ¬ (x0 = 0)) : x1 + 1 ≤ 600 := by omega
theorem q_4da7665fc {x0 : Int} (f0 : ¬ (x0 < 0)) : (-8) ≤ x0 - 8 := by omega
theorem q_c4fec1d75 {x0 x1 : Int} (f0 : 0 ≤ x0 ∧ x0 < x1) : 0 ≤ x0 := by omega
theorem q_3c66af975 {x0 x1 : Int} (f0 : 0 ≤ x0 ∧ x0 < x1) (f1 : 1 ≤ x1 ∧ x1 ≤ 16) : x0 ≤ 15 := by omega
theorem q_84496e02d {x0 x1 : Int} (f0 : 0 ≤ x0 ∧ x0 < x1) : x0 < x1 := by omega
theorem c_65_7 : mLk 65 7 = some (.iload_n 2, 1) := rfl
theorem c_65_8 : mLk 65 8 = some (.bipush 34, 2) := rfl
theorem c_65_10 : mLk 65 10 = some (.if_icmp .ge 41, 3) := rfl
theorem c_65_13 : mLk 65 13 = some (.aload_n 0, 1) := rfl
theorem c_65_14 : mLk 65 14 = some (.getfield 11, 3) := rfl
theorem c_65_17 : mLk 65 17 = some (.iload_n 2, 1) := rfl
theorem c_65_18 : mLk 65 18 = some (.iload_n 2, 1) := rfl
theorem c_65_19 : mLk 65 19 = some (.aload_n 0, 1) := rfl
theorem c_65_20 : mLk 65 20 = some (.getfield 15, 3) := rfl
theorem c_65_23 : mLk 65 23 = some (.getfield 19, 3) := rfl
theorem c_65_26 : mLk 65 26 = some (.iconst 4, 1) := rfl
theorem c_65_27 : mLk 65 27 = some (.imul, 1) := rfl
theorem c_65_28 : mLk 65 28 = some (.if_icmp .ge 15, 3) := rfl
theorem c_65_43 : mLk 65 43 = some (.iconst 0, 1) := rfl
theorem c_65_44 : mLk 65 44 = some (.iastore, 1) := rfl
theorem c_65_45 : mLk 65 45 = some (.iinc 2 1, 3) := rfl
theorem c_65_48 : mLk 65 48 = some (.goto (-41), 3) := rfl
theorem c_65_31 : mLk 65 31 = some (.aload_n 0, 1) := rfl
theorem c_65_32 : mLk 65 32 = some (.getfield 15, 3) := rfl
theorem c_65_35 : mLk 65 35 = some (.getfield 25, 3) := rfl
theorem c_65_38 : mLk 65 38 = some (.iload_n 2, 1) := rfl
theorem c_65_39 : mLk 65 39 = some (.iaload, 1) := rfl
theorem c_65_40 : mLk 65 40 = some (.goto 4, 3) := rfl
theorem c_65_5 : mLk 65 5 = some (.iconst 0, 1) := rfl
theorem c_65_6 : mLk 65 6 = some (.istore_n 2, 1) := rfl
theorem c_66_0 : mLk 66 0 = some (.aload_n 1, 1) := rfl
theorem c_66_1 : mLk 66 1 = some (.getfield 11, 3) := rfl
theorem c_66_4 : mLk 66 4 = some (.iconst 0, 1) := rfl
theorem c_66_5 : mLk 66 5 = some (.aload_n 0, 1) := rfl
theorem c_66_6 : mLk 66 6 = some (.getfield 11, 3) := rfl
theorem c_66_9 : mLk 66 9 = some (.iconst 0, 1) := rfl
theorem c_66_10 : mLk 66 10 = some (.bipush 34, 2) := rfl
theorem c_66_12 : mLk 66 12 = some (.invokestatic 28, 3) := rfl
theorem c_67_4 : mLk 67 4 = some (.iload_n 3, 1) := rfl
theorem c_67_5 : mLk 67 5 = some (.iconst 4, 1) := rfl
theorem c_67_6 : mLk 67 6 = some (.if_icmp .ge 26, 3) := rfl
theorem c_67_32 : mLk 67 32 = some (.iload_n 2, 1) := rfl
theorem c_67_33 : mLk 67 33 = some (.ireturn, 1) := rfl
theorem c_67_9 : mLk 67 9 = some (.iload_n 2, 1) := rfl
theorem c_67_10 : mLk 67 10 = some (.aload_n 0, 1) := rfl
theorem c_67_11 : mLk 67 11 = some (.iload_n 1, 1) := rfl
theorem c_67_12 : mLk 67 12 = some (.iload_n 3, 1) := rfl
theorem c_67_13 : mLk 67 13 = some (.invokevirtual 34, 3) := rfl
theorem c_67_16 : mLk 67 16 = some (.ifCond .le 7, 3) := rfl
theorem c_67_23 : mLk 67 23 = some (.iconst 0, 1) := rfl
theorem c_67_24 : mLk 67 24 = some (.iadd, 1) := rfl
theorem c_67_25 : mLk 67 25 = some (.istore_n 2, 1) := rfl
theorem c_67_26 : mLk 67 26 = some (.iinc 3 1, 3) := rfl
theorem c_67_29 : mLk 67 29 = some (.goto (-25), 3) := rfl
theorem c_67_19 : mLk 67 19 = some (.iconst 1, 1) := rfl
theorem c_67_20 : mLk 67 20 = some (.goto 4, 3) := rfl
theorem c_67_0 : mLk 67 0 = some (.iconst 0, 1) := rfl
theorem c_67_1 : mLk 67 1 = some (.istore_n 2, 1) := rfl
theorem c_67_2 : mLk 67 2 = some (.iconst 0, 1) := rfl
theorem c_67_3 : mLk 67 3 = some (.istore_n 3, 1) := rfl
theorem c_68_0 : mLk 68 0 = some (.aload_n 0, 1) := rfl
theorem c_68_1 : mLk 68 1 = some (.iload_n 1, 1) := rfl
theorem c_68_2 : mLk 68 2 = some (.invokevirtual 38, 3) := rfl
theorem c_68_5 : mLk 68 5 = some (.istore_n 2, 1) := rfl
theorem c_68_6 : mLk 68 6 = some (.iload_n 2, 1) := rfl
theorem c_68_7 : mLk 68 7 = some (.ifCond .le 18, 3) := rfl
theorem c_68_25 : mLk 68 25 = some (.iconst 0, 1) := rfl
theorem c_68_26 : mLk 68 26 = some (.ireturn, 1) := rfl
theorem c_68_10 : mLk 68 10 = some (.sipush 1000, 3) := rfl
theorem c_68_13 : mLk 68 13 = some (.aload_n 0, 1) := rfl
theorem c_68_14 : mLk 68 14 = some (.iload_n 1, 1) := rfl
theorem c_68_15 : mLk 68 15 = some (.iconst 0, 1) := rfl
theorem c_68_16 : mLk 68 16 = some (.invokevirtual 34, 3) := rfl
theorem c_68_19 : mLk 68 19 = some (.imul, 1) := rfl
theorem c_68_20 : mLk 68 20 = some (.iload_n 2, 1) := rfl
theorem c_68_21 : mLk 68 21 = some (.idiv, 1) := rfl
theorem c_68_22 : mLk 68 22 = some (.goto 4, 3) := rfl
theorem c_69_4 : mLk 69 4 = some (.iload_n 2, 1) := rfl
theorem c_69_5 : mLk 69 5 = some (.aload_n 0, 1) := rfl
theorem c_69_6 : mLk 69 6 = some (.getfield 15, 3) := rfl
theorem c_69_9 : mLk 69 9 = some (.getfield 19, 3) := rfl
theorem c_69_12 : mLk 69 12 = some (.if_icmp .ge 17, 3) := rfl
theorem c_69_29 : mLk 69 29 = some (.iload_n 1, 1) := rfl
theorem c_69_30 : mLk 69 30 = some (.ireturn, 1) := rfl
theorem c_69_15 : mLk 69 15 = some (.iload_n 1, 1) := rfl
theorem c_69_16 : mLk 69 16 = some (.aload_n 0, 1) := rfl
theorem c_69_17 : mLk 69 17 = some (.iload_n 2, 1) := rfl
theorem c_69_18 : mLk 69 18 = some (.invokevirtual 38, 3) := rfl
theorem c_69_21 : mLk 69 21 = some (.iadd, 1) := rfl
theorem c_69_22 : mLk 69 22 = some (.istore_n 1, 1) := rfl
theorem c_69_23 : mLk 69 23 = some (.iinc 2 1, 3) := rfl
theorem c_69_26 : mLk 69 26 = some (.goto (-22), 3) := rfl
theorem c_69_0 : mLk 69 0 = some (.iconst 0, 1) := rfl
theorem c_69_1 : mLk 69 1 = some (.istore_n 1, 1) := rfl
theorem c_69_2 : mLk 69 2 = some (.iconst 0, 1) := rfl
theorem c_69_3 : mLk 69 3 = some (.istore_n 2, 1) := rfl
theorem c_70_4 : mLk 70 4 = some (.iload_n 2, 1) := rfl
theorem c_70_5 : mLk 70 5 = some (.aload_n 0, 1) := rfl
theorem c_70_6 : mLk 70 6 = some (.getfield 15, 3) := rfl
theorem c_70_9 : mLk 70 9 = some (.getfield 19, 3) := rfl
theorem c_70_12 : mLk 70 12 = some (.if_icmp .ge 23, 3) := rfl
theorem c_70_35 : mLk 70 35 = some (.iload_n 1, 1) := rfl
theorem c_70_36 : mLk 70 36 = some (.ireturn, 1) := rfl
theorem c_70_15 : mLk 70 15 = some (.aload_n 0, 1) := rfl
theorem c_70_16 : mLk 70 16 = some (.iload_n 2, 1) := rfl
theorem c_70_17 : mLk 70 17 = some (.invokevirtual 38, 3) := rfl
theorem c_70_20 : mLk 70 20 = some (.ifCond .ne 9, 3) := rfl
theorem c_70_29 : mLk 70 29 = some (.iinc 2 1, 3) := rfl
theorem c_70_32 : mLk 70 32 = some (.goto (-28), 3) := rfl
theorem c_70_23 : mLk 70 23 = some (.iload_n 1, 1) := rfl
theorem c_70_24 : mLk 70 24 = some (.iconst 1, 1) := rfl
theorem c_70_25 : mLk 70 25 = some (.iload_n 2, 1) := rfl
theorem c_70_26 : mLk 70 26 = some (.ishl, 1) := rfl
theorem c_70_27 : mLk 70 27 = some (.ior, 1) := rfl
theorem c_70_28 : mLk 70 28 = some (.istore_n 1, 1) := rfl
theorem c_70_0 : mLk 70 0 = some (.iconst 0, 1) := rfl
theorem c_70_1 : mLk 70 1 = some (.istore_n 1, 1) := rfl
theorem c_70_2 : mLk 70 2 = some (.iconst 0, 1) := rfl
theorem c_70_3 : mLk 70 3 = some (.istore_n 2, 1) := rfl
theorem c_72_0 : mLk 72 0 = some (.aload_n 0, 1) := rfl
theorem c_72_1 : mLk 72 1 = some (.getfield 19, 3) := rfl
theorem c_72_4 : mLk 72 4 = some (.iload_n 1, 1) := rfl
theorem c_72_5 : mLk 72 5 = some (.iadd, 1) := rfl
theorem c_72_6 : mLk 72 6 = some (.aload_n 0, 1) := rfl
theorem c_72_7 : mLk 72 7 = some (.getfield 9, 3) := rfl
theorem c_72_10 : mLk 72 10 = some (.arraylength, 1) := rfl
theorem c_72_11 : mLk 72 11 = some (.if_icmp .gt 7, 3) := rfl
theorem c_72_18 : mLk 72 18 = some (.iconst 0, 1) := rfl
theorem c_72_19 : mLk 72 19 = some (.ireturn, 1) := rfl
theorem c_72_14 : mLk 72 14 = some (.iconst 1, 1) := rfl
theorem c_72_15 : mLk 72 15 = some (.goto 4, 3) := rfl
theorem c_73_3 : mLk 73 3 = some (.iload_n 2, 1) := rfl
theorem c_73_4 : mLk 73 4 = some (.ifCond .lt 40, 3) := rfl
theorem c_73_7 : mLk 73 7 = some (.aload_n 0, 1) := rfl
theorem c_73_8 : mLk 73 8 = some (.iconst 1, 1) := rfl
theorem c_73_9 : mLk 73 9 = some (.invokevirtual 22, 3) := rfl
theorem c_73_12 : mLk 73 12 = some (.ifCond .eq 32, 3) := rfl
theorem c_73_15 : mLk 73 15 = some (.aload_n 0, 1) := rfl
theorem c_73_16 : mLk 73 16 = some (.getfield 9, 3) := rfl
theorem c_73_19 : mLk 73 19 = some (.aload_n 0, 1) := rfl
theorem c_73_20 : mLk 73 20 = some (.getfield 19, 3) := rfl
theorem c_73_23 : mLk 73 23 = some (.iload_n 1, 1) := rfl
theorem c_73_24 : mLk 73 24 = some (.iload_n 2, 1) := rfl
theorem c_73_25 : mLk 73 25 = some (.ishr, 1) := rfl
theorem c_73_26 : mLk 73 26 = some (.i2b, 1) := rfl
theorem c_73_27 : mLk 73 27 = some (.bastore, 1) := rfl
theorem c_73_28 : mLk 73 28 = some (.aload_n 0, 1) := rfl
theorem c_73_29 : mLk 73 29 = some (.dup, 1) := rfl
theorem c_73_30 : mLk 73 30 = some (.getfield 19, 3) := rfl
theorem c_73_33 : mLk 73 33 = some (.iconst 1, 1) := rfl
theorem c_73_34 : mLk 73 34 = some (.iadd, 1) := rfl
theorem c_73_35 : mLk 73 35 = some (.putfield 19, 3) := rfl
theorem c_73_38 : mLk 73 38 = some (.iinc 2 (-8), 3) := rfl
theorem c_73_41 : mLk 73 41 = some (.goto (-38), 3) := rfl
theorem c_73_0 : mLk 73 0 = some (.bipush 24, 2) := rfl
theorem c_73_2 : mLk 73 2 = some (.istore_n 2, 1) := rfl
theorem c_74_0 : mLk 74 0 = some (.aload_n 0, 1) := rfl
theorem c_74_1 : mLk 74 1 = some (.iload_n 1, 1) := rfl
theorem c_74_2 : mLk 74 2 = some (.aload_n 0, 1) := rfl
theorem c_74_3 : mLk 74 3 = some (.getfield 19, 3) := rfl
theorem c_74_6 : mLk 74 6 = some (.invokestatic 26, 3) := rfl
theorem c_74_9 : mLk 74 9 = some (.putfield 32, 3) := rfl
theorem c_74_12 : mLk 74 12 = some (.aload_n 0, 1) := rfl
theorem c_74_13 : mLk 74 13 = some (.iconst 0, 1) := rfl
theorem c_74_14 : mLk 74 14 = some (.putfield 35, 3) := rfl
theorem c_74_17 : mLk 74 17 = some (.aload_n 0, 1) := rfl
theorem c_74_18 : mLk 74 18 = some (.iconst 0, 1) := rfl
theorem c_74_19 : mLk 74 19 = some (.putfield 19, 3) := rfl
theorem c_74_22 : mLk 74 22 = some (.aload_n 0, 1) := rfl
theorem c_74_23 : mLk 74 23 = some (.iconst 0, 1) := rfl
theorem c_74_24 : mLk 74 24 = some (.putfield 38, 3) := rfl
theorem c_74_27 : mLk 74 27 = some (.aload_n 0, 1) := rfl
theorem c_74_28 : mLk 74 28 = some (.iconst (-1), 1) := rfl
theorem c_74_29 : mLk 74 29 = some (.putfield 15, 3) := rfl
theorem c_76_0 : mLk 76 0 = some (.aload_n 0, 1) := rfl
theorem c_76_1 : mLk 76 1 = some (.aload_n 0, 1) := rfl
theorem c_76_2 : mLk 76 2 = some (.getfield 7, 3) := rfl
theorem c_76_5 : mLk 76 5 = some (.ldc 49, 2) := rfl
theorem c_76_7 : mLk 76 7 = some (.imul, 1) := rfl
theorem c_76_8 : mLk 76 8 = some (.sipush 12345, 3) := rfl
theorem c_76_11 : mLk 76 11 = some (.iadd, 1) := rfl
theorem c_76_12 : mLk 76 12 = some (.putfield 7, 3) := rfl
theorem c_76_15 : mLk 76 15 = some (.iload_n 1, 1) := rfl
theorem c_76_16 : mLk 76 16 = some (.ifCond .le 19, 3) := rfl
theorem c_76_19 : mLk 76 19 = some (.aload_n 0, 1) := rfl
theorem c_76_20 : mLk 76 20 = some (.getfield 7, 3) := rfl
theorem c_76_23 : mLk 76 23 = some (.bipush 16, 2) := rfl
theorem c_76_25 : mLk 76 25 = some (.iushr, 1) := rfl
theorem c_76_26 : mLk 76 26 = some (.sipush 32767, 3) := rfl
theorem c_76_29 : mLk 76 29 = some (.iand, 1) := rfl
theorem c_76_30 : mLk 76 30 = some (.iload_n 1, 1) := rfl
theorem c_76_31 : mLk 76 31 = some (.irem, 1) := rfl
theorem c_76_32 : mLk 76 32 = some (.goto 4, 3) := rfl
theorem c_76_36 : mLk 76 36 = some (.ireturn, 1) := rfl
theorem kf_4_25 : a_lk (kF 4) 25 = some (2, 6) := rfl
theorem kf_5_19 : a_lk (kF 5) 19 = some (5, 3) := rfl
theorem kf_6_7 : a_lk (kF 6) 7 = some (6, 0) := rfl
theorem km_5_22 : a_lk (kM 5) 22 = some (0, 72) := rfl
set_option maxRecDepth 100000 in
set_option maxHeartbeats 4000000 in
theorem s_65a_5_l {sc : List Int32} {d P Q T : Nat} {c : ME} {Z : AR → Prop} (hI : Iv 38 (-1) P Q c)  (K : ∀ (c2 : ME), Iv 0 (-1) P Q c2 → (∀ (a : Nat) (j : Int), ¬ (a = 38) → c2 a j = c a j) → Z (.inl (none), Wd P Q P T c2, 0, 0)) : ∀ n : Nat, (∀ (c2 : ME) (v2 : Int), Iv 38 (-1) P Q c2 → (∀ (a : Nat) (j : Int), ¬ (a = 38) → c2 a j = c a j) → 0 ≤ v2 ∧ v2 ≤ 34 → (∀ j : Int, 0 ≤ j → j < v2 → j < 24 → c2 38 j ≤ 999) → 69 - 2 * v2 < (n : Int) → Wp sc (d + 7) 65 7 [(0, .ref 37), (1, .ref P), (2, vi v2)] [] (Wd P Q P T c2) 0 0 Z) := by
  intro n
  induction n with
  | zero => exact (by intro c2 v2 hI2 hF hv2 hx0 hm9; have hP := iv_P hI; have hQ := iv_Q hI; exfalso; omega)
  | succ n ih =>
    have hP := iv_P hI
    have hQ := iv_Q hI
    intro c2 v2 hI2 hF hv2 hx0 hm9
    refine q_iload_n c_65_7 rfl (v_bip c_65_8 (of_decide_eq_true rfl) ?_)
    by_cases h_1 : v2 ≥ 34
    · refine v_ic_ge_t (t := 51) c_65_10 rfl ⟨of_decide_eq_true rfl, h_1, (ler hv2.2 rfl)⟩ (q_vret rfl rfl ?_)
      have hI_2 := iv_close hI2 (fun j hj => by
        have q9 : j % 4 = 0 ∧ 0 ≤ j ∧ j < 24 := hj
        have q0 := hx0 j (by omega) (by omega) (by omega)
        have q1 := hx0 (j + 1) (by omega) (by omega) (by omega)
        have q2 := hx0 (j + 2) (by omega) (by omega) (by omega)
        have q3 := hx0 (j + 3) (by omega) (by omega) (by omega)
        omega)
      exact K c2 hI_2 (fun a j hm => hF a j hm)
    · refine v_ic_ge_f (t := 51) c_65_10 rfl ⟨(lel hv2.1 rfl), (Int.not_le.mp h_1), of_decide_eq_true rfl⟩ (q_aload_n c_65_13 rfl (v_gr (t := 38) c_65_14 kf_4_11 rfl (Nat.le_of_ble_eq_true rfl) rfl (q_iload_n c_65_17 rfl (q_iload_n c_65_18 rfl (q_aload_n c_65_19 rfl (v_gr (t := P) c_65_20 kf_4_15 rfl (Nat.le_of_ble_eq_true rfl) rfl ?_))))))
      have h_3 := ir_p0_0 hI hP
      have kn_4 : Hid (c2 P 0 = c P 0) := hF P 0 (fun h => absurd h (np0 hP rfl))
      refine v_gi (z := 0) (v := c P 0) c_65_23 kf_4_19 (ck_p0 hP) (a68z hP) rfl rfl (hid kn_4) (q_iconst c_65_26 (v_imul (v := 4 * c P 0) c_65_27 (by omega) ?_))
      by_cases h_5 : v2 ≥ 4 * c P 0
      · refine v_ic_ge_t (t := 43) c_65_28 rfl ⟨(q_4cd384ca3 h_3), h_5, (ler hv2.2 rfl)⟩ (q_iconst c_65_43 (v_is c_65_44 rfl (of_decide_eq_true rfl) (of_decide_eq_true rfl) ⟨hv2.1, (q_466f994c8 h_1)⟩ (v_iinc (v := v2 + 1) c_65_45 rfl (Nat.le_of_ble_eq_true rfl) rfl (q_goto (t := 7) c_65_48 rfl ?_))))
        have hI_6 := iw_row (a := 38) (j := v2) (v := 0) hI2 (by omega) (Or.inl rfl) ⟨by omega, by omega, by omega⟩
        refine Wp_ls [(0, .ref 37), (1, .ref P), (2, vi (v2 + 1))] (lsub_cons rfl (lsub_cons rfl (lsub_cons rfl lsub_nil))) ?_
        have hr_7 : ∀ j : Int, 0 ≤ j → j < v2 + 1 → j < 24 → (up c2 38 v2 0) 38 j ≤ 999 := by
          intro j hj1 hj2 hj3
          by_cases e9 : j = v2
          · have q9 : (up c2 38 v2 0) 38 j = 0 := up_e e9
            rw [q9]
            omega
          · have q9 : (up c2 38 v2 0) 38 j = c2 38 j := up_n e9
            rw [q9]
            exact hx0 j hj1 (by omega) hj3
        exact ih (up c2 38 v2 0) (v2 + 1) hI_6 (fun a j hm => (up_b (Decidable.or_iff_not_imp_left.mpr (fun h1 h2 => hm (Decidable.not_not.mp h1)))).trans (hF a j hm)) ⟨(rgp_l hv2.1 (of_decide_eq_true rfl)), (q_1fcd92368 h_1)⟩ hr_7 (by omega)
      · refine v_ic_ge_f (t := 43) c_65_28 rfl ⟨(lel hv2.1 rfl), (Int.not_le.mp h_5), (q_959592613 h_3)⟩ (q_aload_n c_65_31 rfl (v_gr (t := P) c_65_32 kf_4_15 rfl (Nat.le_of_ble_eq_true rfl) rfl (v_gr (t := (P + 1)) c_65_35 kf_4_25 (ck_p0 hP) (a68z hP) rfl (q_iload_n c_65_38 rfl ?_))))
        have h_8 := ir_p1 hI hP v2
        have kn_9 : Hid (c2 (P + 1) v2 = c (P + 1) v2) := hF (P + 1) v2 (fun h => absurd h (np hP rfl rfl))
        refine v_ia (v := c (P + 1) v2) c_65_39 (ck_p1 hP) (a68 hP rfl) (of_decide_eq_true rfl) ⟨hv2.1, (q_b6dd10c5c h_3 h_5)⟩ (hid kn_9) (q_goto (t := 44) c_65_40 rfl (v_is c_65_44 rfl (of_decide_eq_true rfl) (of_decide_eq_true rfl) ⟨hv2.1, (q_86d808b33 h_3 h_5)⟩ (v_iinc (v := v2 + 1) c_65_45 rfl (Nat.le_of_ble_eq_true rfl) rfl (q_goto (t := 7) c_65_48 rfl ?_))))
        have hI_10 := iw_row (a := 38) (j := v2) (v := c (P + 1) v2) hI2 (by omega) (Or.inl rfl) ⟨by omega, by omega, by omega⟩
        refine Wp_ls [(0, .ref 37), (1, .ref P), (2, vi (v2 + 1))] (lsub_cons rfl (lsub_cons rfl (lsub_cons rfl lsub_nil))) ?_
        have hr_11 : ∀ j : Int, 0 ≤ j → j < v2 + 1 → j < 24 → (up c2 38 v2 (c (P + 1) v2)) 38 j ≤ 999 := by
          intro j hj1 hj2 hj3
          by_cases e9 : j = v2
          · have q9 : (up c2 38 v2 (c (P + 1) v2)) 38 j = c (P + 1) v2 := up_e e9
            rw [q9]
            omega
          · have q9 : (up c2 38 v2 (c (P + 1) v2)) 38 j = c2 38 j := up_n e9
            rw [q9]
            exact hx0 j hj1 (by omega) hj3
        exact ih (up c2 38 v2 (c (P + 1) v2)) (v2 + 1) hI_10 (fun a j hm => (up_b (Decidable.or_iff_not_imp_left.mpr (fun h1 h2 => hm (Decidable.not_not.mp h1)))).trans (hF a j hm)) ⟨(rgp_l hv2.1 (of_decide_eq_true rfl)), (q_18033a098 h_3 h_5)⟩ hr_11 (by omega)
set_option maxRecDepth 100000 in
set_option maxHeartbeats 4000000 in
theorem s_65a_5 {sc : List Int32} {d P Q T : Nat} {c : ME} {Z : AR → Prop} (hI : Iv 38 (-1) P Q c)  (K : ∀ (c2 : ME), Iv 0 (-1) P Q c2 → (∀ (a : Nat) (j : Int), ¬ (a = 38) → c2 a j = c a j) → Z (.inl (none), Wd P Q P T c2, 0, 0)) : Wp sc (d + 7) 65 5 [(0, .ref 37), (1, .ref P)] [] (Wd P Q P T c) 0 0 Z := by
  have hP := iv_P hI
  have hQ := iv_Q hI
  refine q_iconst c_65_5 (q_istore_n c_65_6 (Nat.le_of_ble_eq_true rfl) (Wp_ls [(0, .ref 37), (1, .ref P), (2, vi 0)] (lsub_cons rfl (lsub_cons rfl (lsub_cons rfl lsub_nil))) ?_))
  have hr_12 : ∀ j : Int, 0 ≤ j → j < 0 → j < 24 → c 38 j ≤ 999 := by
    intro j hj1 hj2 hj3
    omega
  exact (s_65a_5_l (sc := sc) (d := d) hI K 72) c 0 hI (fun a j hm => rfl) ⟨of_decide_eq_true rfl, of_decide_eq_true rfl⟩ hr_12 (by omega)
set_option maxRecDepth 100000 in
set_option maxHeartbeats 4000000 in
theorem s_65b_5_l {sc : List Int32} {d P Q : Nat} {c : ME} {Z : AR → Prop} (hI : Iv 40 (-1) P Q c)  (K : ∀ (c2 : ME), Iv 0 (-1) P Q c2 → (∀ (a : Nat) (j : Int), ¬ (a = 40) → c2 a j = c a j) → Z (.inl (none), Wd P Q P P c2, 0, 0)) : ∀ n : Nat, (∀ (c2 : ME) (v2 : Int), Iv 40 (-1) P Q c2 → (∀ (a : Nat) (j : Int), ¬ (a = 40) → c2 a j = c a j) → 0 ≤ v2 ∧ v2 ≤ 34 → (∀ j : Int, 0 ≤ j → j < v2 → j < 24 → c2 40 j ≤ 999) → 69 - 2 * v2 < (n : Int) → Wp sc (d + 7) 65 7 [(0, .ref 39), (1, .ref P), (2, vi v2)] [] (Wd P Q P P c2) 0 0 Z) := by
  intro n
  induction n with
  | zero => exact (by intro c2 v2 hI2 hF hv2 hx0 hm9; have hP := iv_P hI; have hQ := iv_Q hI; exfalso; omega)
  | succ n ih =>
    have hP := iv_P hI
    have hQ := iv_Q hI
    intro c2 v2 hI2 hF hv2 hx0 hm9
    refine q_iload_n c_65_7 rfl (v_bip c_65_8 (of_decide_eq_true rfl) ?_)
    by_cases h_1 : v2 ≥ 34
    · refine v_ic_ge_t (t := 51) c_65_10 rfl ⟨of_decide_eq_true rfl, h_1, (ler hv2.2 rfl)⟩ (q_vret rfl rfl ?_)
      have hI_2 := iv_close hI2 (fun j hj => by
        have q9 : j % 4 = 0 ∧ 0 ≤ j ∧ j < 24 := hj
        have q0 := hx0 j (by omega) (by omega) (by omega)
        have q1 := hx0 (j + 1) (by omega) (by omega) (by omega)
        have q2 := hx0 (j + 2) (by omega) (by omega) (by omega)
        have q3 := hx0 (j + 3) (by omega) (by omega) (by omega)
        omega)
      exact K c2 hI_2 (fun a j hm => hF a j hm)
    · refine v_ic_ge_f (t := 51) c_65_10 rfl ⟨(lel hv2.1 rfl), (Int.not_le.mp h_1), of_decide_eq_true rfl⟩ (q_aload_n c_65_13 rfl (v_gr (t := 40) c_65_14 kf_4_11 rfl (Nat.le_of_ble_eq_true rfl) rfl (q_iload_n c_65_17 rfl (q_iload_n c_65_18 rfl (q_aload_n c_65_19 rfl (v_gr (t := P) c_65_20 kf_4_15 rfl (Nat.le_of_ble_eq_true rfl) rfl ?_))))))
      have h_3 := ir_p0_0 hI hP
      have kn_4 : Hid (c2 P 0 = c P 0) := hF P 0 (fun h => absurd h (np0 hP rfl))
      refine v_gi (z := 0) (v := c P 0) c_65_23 kf_4_19 (ck_p0 hP) (a68z hP) rfl rfl (hid kn_4) (q_iconst c_65_26 (v_imul (v := 4 * c P 0) c_65_27 (by omega) ?_))
      by_cases h_5 : v2 ≥ 4 * c P 0
      · refine v_ic_ge_t (t := 43) c_65_28 rfl ⟨(q_4cd384ca3 h_3), h_5, (ler hv2.2 rfl)⟩ (q_iconst c_65_43 (v_is c_65_44 rfl (of_decide_eq_true rfl) (of_decide_eq_true rfl) ⟨hv2.1, (q_466f994c8 h_1)⟩ (v_iinc (v := v2 + 1) c_65_45 rfl (Nat.le_of_ble_eq_true rfl) rfl (q_goto (t := 7) c_65_48 rfl ?_))))
        have hI_6 := iw_row (a := 40) (j := v2) (v := 0) hI2 (by omega) (Or.inl rfl) ⟨by omega, by omega, by omega⟩
        refine Wp_ls [(0, .ref 39), (1, .ref P), (2, vi (v2 + 1))] (lsub_cons rfl (lsub_cons rfl (lsub_cons rfl lsub_nil))) ?_
        have hr_7 : ∀ j : Int, 0 ≤ j → j < v2 + 1 → j < 24 → (up c2 40 v2 0) 40 j ≤ 999 := by
          intro j hj1 hj2 hj3
          by_cases e9 : j = v2
          · have q9 : (up c2 40 v2 0) 40 j = 0 := up_e e9
            rw [q9]
            omega
          · have q9 : (up c2 40 v2 0) 40 j = c2 40 j := up_n e9
            rw [q9]
            exact hx0 j hj1 (by omega) hj3
        exact ih (up c2 40 v2 0) (v2 + 1) hI_6 (fun a j hm => (up_b (Decidable.or_iff_not_imp_left.mpr (fun h1 h2 => hm (Decidable.not_not.mp h1)))).trans (hF a j hm)) ⟨(rgp_l hv2.1 (of_decide_eq_true rfl)), (q_1fcd92368 h_1)⟩ hr_7 (by omega)
      · refine v_ic_ge_f (t := 43) c_65_28 rfl ⟨(lel hv2.1 rfl), (Int.not_le.mp h_5), (q_959592613 h_3)⟩ (q_aload_n c_65_31 rfl (v_gr (t := P) c_65_32 kf_4_15 rfl (Nat.le_of_ble_eq_true rfl) rfl (v_gr (t := (P + 1)) c_65_35 kf_4_25 (ck_p0 hP) (a68z hP) rfl (q_iload_n c_65_38 rfl ?_))))
        have h_8 := ir_p1 hI hP v2
        have kn_9 : Hid (c2 (P + 1) v2 = c (P + 1) v2) := hF (P + 1) v2 (fun h => absurd h (np hP rfl rfl))
        refine v_ia (v := c (P + 1) v2) c_65_39 (ck_p1 hP) (a68 hP rfl) (of_decide_eq_true rfl) ⟨hv2.1, (q_b6dd10c5c h_3 h_5)⟩ (hid kn_9) (q_goto (t := 44) c_65_40 rfl (v_is c_65_44 rfl (of_decide_eq_true rfl) (of_decide_eq_true rfl) ⟨hv2.1, (q_86d808b33 h_3 h_5)⟩ (v_iinc (v := v2 + 1) c_65_45 rfl (Nat.le_of_ble_eq_true rfl) rfl (q_goto (t := 7) c_65_48 rfl ?_))))
        have hI_10 := iw_row (a := 40) (j := v2) (v := c (P + 1) v2) hI2 (by omega) (Or.inl rfl) ⟨by omega, by omega, by omega⟩
        refine Wp_ls [(0, .ref 39), (1, .ref P), (2, vi (v2 + 1))] (lsub_cons rfl (lsub_cons rfl (lsub_cons rfl lsub_nil))) ?_
        have hr_11 : ∀ j : Int, 0 ≤ j → j < v2 + 1 → j < 24 → (up c2 40 v2 (c (P + 1) v2)) 40 j ≤ 999 := by
          intro j hj1 hj2 hj3
          by_cases e9 : j = v2
          · have q9 : (up c2 40 v2 (c (P + 1) v2)) 40 j = c (P + 1) v2 := up_e e9
            rw [q9]
            omega
          · have q9 : (up c2 40 v2 (c (P + 1) v2)) 40 j = c2 40 j := up_n e9
            rw [q9]
            exact hx0 j hj1 (by omega) hj3
        exact ih (up c2 40 v2 (c (P + 1) v2)) (v2 + 1) hI_10 (fun a j hm => (up_b (Decidable.or_iff_not_imp_left.mpr (fun h1 h2 => hm (Decidable.not_not.mp h1)))).trans (hF a j hm)) ⟨(rgp_l hv2.1 (of_decide_eq_true rfl)), (q_18033a098 h_3 h_5)⟩ hr_11 (by omega)
set_option maxRecDepth 100000 in
set_option maxHeartbeats 4000000 in
theorem s_65b_5 {sc : List Int32} {d P Q : Nat} {c : ME} {Z : AR → Prop} (hI : Iv 40 (-1) P Q c)  (K : ∀ (c2 : ME), Iv 0 (-1) P Q c2 → (∀ (a : Nat) (j : Int), ¬ (a = 40) → c2 a j = c a j) → Z (.inl (none), Wd P Q P P c2, 0, 0)) : Wp sc (d + 7) 65 5 [(0, .ref 39), (1, .ref P)] [] (Wd P Q P P c) 0 0 Z := by
  have hP := iv_P hI
  have hQ := iv_Q hI
  refine q_iconst c_65_5 (q_istore_n c_65_6 (Nat.le_of_ble_eq_true rfl) (Wp_ls [(0, .ref 39), (1, .ref P), (2, vi 0)] (lsub_cons rfl (lsub_cons rfl (lsub_cons rfl lsub_nil))) ?_))
  have hr_12 : ∀ j : Int, 0 ≤ j → j < 0 → j < 24 → c 40 j ≤ 999 := by
    intro j hj1 hj2 hj3
    omega
  exact (s_65b_5_l (sc := sc) (d := d) hI K 72) c 0 hI (fun a j hm => rfl) ⟨of_decide_eq_true rfl, of_decide_eq_true rfl⟩ hr_12 (by omega)
set_option maxRecDepth 100000 in
set_option maxHeartbeats 4000000 in
theorem s_65a {sc : List Int32} {d P Q N T : Nat} {c : ME} {Z : AR → Prop} (hI : Iv 0 (-1) P Q c) (K : ∀ c2 : ME, Iv 0 (-1) P Q c2 → (∀ (a : Nat) (j : Int), ¬ (a = 38) → c2 a j = c a j) → Z (.inl none, Wd P Q P T c2, 0, 0)) : Wp sc (d + 8) 65 0 [(0, .ref 37), (1, .ref P)] [] (Wd P Q N T c) 0 0 Z := by
  refine q_aload_n rfl rfl (q_aload_n rfl rfl (v_pr (P' := P) (Q' := Q) (N' := P) (T' := T) rfl rfl rfl rfl (of_decide_eq_true rfl) (Nat.lt_of_succ_le (Nat.le_of_ble_eq_true rfl)) (fun c => rfl) rfl (of_decide_eq_true rfl) (fun b hb => ck_x37 hb) ?_))
  exact s_65a_5 (d := d + 1) (iv_open hI) K
set_option maxRecDepth 100000 in
set_option maxHeartbeats 4000000 in
theorem s_65b {sc : List Int32} {d P Q T : Nat} {c : ME} {Z : AR → Prop} (hI : Iv 0 (-1) P Q c) (K : ∀ c2 : ME, Iv 0 (-1) P Q c2 → (∀ (a : Nat) (j : Int), ¬ (a = 40) → c2 a j = c a j) → Z (.inl none, Wd P Q P P c2, 0, 0)) : Wp sc (d + 8) 65 0 [(0, .ref 39), (1, .ref P)] [] (Wd P Q P T c) 0 0 Z := by
  refine q_aload_n rfl rfl (q_aload_n rfl rfl (v_pr (P' := P) (Q' := Q) (N' := P) (T' := P) rfl rfl rfl rfl (of_decide_eq_true rfl) (Nat.lt_of_succ_le (Nat.le_of_ble_eq_true rfl)) (fun c => rfl) rfl (of_decide_eq_true rfl) (fun b hb => ck_x39 hb) ?_))
  exact s_65b_5 (d := d + 1) (iv_open hI) K

set_option maxRecDepth 100000 in
set_option maxHeartbeats 4000000 in
theorem s_66 {sc : List Int32} {d P Q : Nat} {c : ME} {Z : AR → Prop} (hI : Iv 0 (-1) P Q c)  (K : ∀ (c2 : ME), Iv 0 (-1) P Q c2 → (∀ (a : Nat) (j : Int), ¬ (a = 40) → c2 a j = c a j) → Z (.inl (none), Wd P Q P P c2, 0, 0)) : Wp sc (d + 7) 66 0 [(0, .ref 39), (1, .ref 37)] [] (Wd P Q P P c) 0 0 Z := by
  have hP := iv_P hI
  have hQ := iv_Q hI
  refine q_aload_n c_66_0 rfl (v_gr (t := 38) c_66_1 kf_4_11 rfl (Nat.le_of_ble_eq_true rfl) rfl (q_iconst c_66_4 (q_aload_n c_66_5 rfl (v_gr (t := 40) c_66_6 kf_4_11 rfl (Nat.le_of_ble_eq_true rfl) rfl (q_iconst c_66_9 (v_bip c_66_10 (of_decide_eq_true rfl) (v_cpy c_66_12 rfl rfl (of_decide_eq_true rfl) rfl (of_decide_eq_true rfl) rfl rfl (by omega) (Nat.le_of_ble_eq_true rfl) (by omega) ?_)))))))
  refine q_vret rfl rfl ?_
  have hI_1 := cp_38_40 hI
  exact K (upc c 38 0 40 0 34) hI_1 (fun a j hm => upc_c (fun h => hm h))

set_option maxRecDepth 100000 in
set_option maxHeartbeats 4000000 in
theorem s_67_l {sc : List Int32} {e : Int} {d u P Q sh s : Nat} {c : ME} {a1 : Int} {Z : AR → Prop} (hI : Iv u e P Q c) (hs : (sh = 37 ∧ s = 38) ∨ (sh = 39 ∧ s = 40)) (ha1 : 0 ≤ a1 ∧ a1 ≤ 5) (K : ∀ (y : Int), (-2147483648) ≤ y ∧ y ≤ 2147483647 → Z (.inl (some (vi y)), Wd P Q P P c, 0, 0)) : ∀ n : Nat, (∀ (v2 : Int) (v3 : Int), (-2147483648) ≤ v2 ∧ v2 ≤ 2147483647 → 0 ≤ v3 ∧ v3 ≤ 4 → 9 - 2 * v3 < (n : Int) → Wp sc (d + 8) 67 4 [(0, .ref sh), (1, vi a1), (2, vi v2), (3, vi v3)] [] (Wd P Q P P c) 0 0 Z) := by
  intro n
  induction n with
  | zero => exact (by intro v2 v3 hv2 hv3 hm9; have hP := iv_P hI; have hQ := iv_Q hI; exfalso; omega)
  | succ n ih =>
    have hP := iv_P hI
    have hQ := iv_Q hI
    intro v2 v3 hv2 hv3 hm9
    refine q_iload_n c_67_4 rfl (q_iconst c_67_5 ?_)
    by_cases h_1 : v3 ≥ 4
    · refine v_ic_ge_t (t := 32) c_67_6 rfl ⟨of_decide_eq_true rfl, h_1, (ler hv3.2 rfl)⟩ (q_iload_n c_67_32 rfl (q_iret c_67_33 rfl ?_))
      exact K v2 hv2
    · refine v_ic_ge_f (t := 32) c_67_6 rfl ⟨(lel hv3.1 rfl), (Int.not_le.mp h_1), of_decide_eq_true rfl⟩ (q_iload_n c_67_9 rfl (q_aload_n c_67_10 rfl (q_iload_n c_67_11 rfl (q_iload_n c_67_12 rfl ?_))))
      have h_2 := ir_s_g hI hs (j := 4 * a1 + v3) ((q_e3e978779 h_1 ha1))
      refine v_cv c_67_13 km_4_34 rfl (ck_sh hs) (by omega) ⟨⟨rfl, rfl⟩, of_decide_eq_true rfl, rfl⟩ (Nat.le_of_ble_eq_true rfl) (Nat.le_of_ble_eq_true rfl) (s_45 (v1 := c s (4 * a1 + v3)) (r := c s (4 * a1 + v3)) (a1 := a1) (a2 := v3) hI hs (show 0 ≤ a1 ∧ a1 ≤ 5 from ha1) (show 0 ≤ v3 ∧ v3 ≤ 3 from ⟨hv3.1, (q_482ef8d41 h_1)⟩) (rfl) (by omega) (bk_inl ?_))
      by_cases h_3 : c s (4 * a1 + v3) ≤ 0
      · refine v_if_le_t (t := 23) c_67_16 rfl ⟨(lel h_2.1 rfl), h_3, of_decide_eq_true rfl⟩ (q_iconst c_67_23 (v_iadd (v := v2) c_67_24 (by omega) (q_istore_n c_67_25 (Nat.le_of_ble_eq_true rfl) (v_iinc (v := v3 + 1) c_67_26 rfl (Nat.le_of_ble_eq_true rfl) rfl (q_goto (t := 4) c_67_29 rfl (Wp_ls [(0, .ref sh), (1, vi a1), (2, vi v2), (3, vi (v3 + 1))] (lsub_cons rfl (lsub_cons rfl (lsub_cons rfl (lsub_cons rfl lsub_nil)))) ?_))))))
        exact ih v2 (v3 + 1) hv2 ⟨(rgp_l hv3.1 (of_decide_eq_true rfl)), (q_121241f94 h_1)⟩ (by omega)
      · refine v_if_le_f (t := 23) c_67_16 rfl ⟨of_decide_eq_true rfl, (Int.not_le.mp h_3), (ler h_2.2 rfl)⟩ (q_iconst c_67_19 (q_goto (t := 24) c_67_20 rfl (v_iadd (v := v2 + 1) c_67_24 rfl (v_nrm (fun y_4 hy_4 => (q_istore_n c_67_25 (Nat.le_of_ble_eq_true rfl) (v_iinc (v := v3 + 1) c_67_26 rfl (Nat.le_of_ble_eq_true rfl) rfl (q_goto (t := 4) c_67_29 rfl ?_))))))))
        refine Wp_ls [(0, .ref sh), (1, vi a1), (2, vi y_4), (3, vi (v3 + 1))] (lsub_cons rfl (lsub_cons rfl (lsub_cons rfl (lsub_cons rfl lsub_nil)))) ?_
        exact ih y_4 (v3 + 1) hy_4 ⟨(rgp_l hv3.1 (of_decide_eq_true rfl)), (q_121241f94 h_1)⟩ (by omega)
set_option maxRecDepth 100000 in
set_option maxHeartbeats 4000000 in
theorem s_67 {sc : List Int32} {e : Int} {d u P Q sh s : Nat} {c : ME} {a1 : Int} {Z : AR → Prop} (hI : Iv u e P Q c) (hs : (sh = 37 ∧ s = 38) ∨ (sh = 39 ∧ s = 40)) (ha1 : 0 ≤ a1 ∧ a1 ≤ 5) (K : ∀ (y : Int), (-2147483648) ≤ y ∧ y ≤ 2147483647 → Z (.inl (some (vi y)), Wd P Q P P c, 0, 0)) : Wp sc (d + 8) 67 0 [(0, .ref sh), (1, vi a1)] [] (Wd P Q P P c) 0 0 Z := by
  have hP := iv_P hI
  have hQ := iv_Q hI
  refine q_iconst c_67_0 (q_istore_n c_67_1 (Nat.le_of_ble_eq_true rfl) (q_iconst c_67_2 (q_istore_n c_67_3 (Nat.le_of_ble_eq_true rfl) (Wp_ls [(0, .ref sh), (1, vi a1), (2, vi 0), (3, vi 0)] (lsub_cons rfl (lsub_cons rfl (lsub_cons rfl (lsub_cons rfl lsub_nil)))) ?_))))
  exact (s_67_l (sc := sc) (d := d) hI hs ha1 K 12) 0 0 ⟨of_decide_eq_true rfl, of_decide_eq_true rfl⟩ ⟨of_decide_eq_true rfl, of_decide_eq_true rfl⟩ (by omega)

set_option maxRecDepth 100000 in
set_option maxHeartbeats 4000000 in
theorem s_68 {sc : List Int32} {e : Int} {d u P Q sh s : Nat} {c : ME} {a1 : Int} {Z : AR → Prop} (hI : Iv u e P Q c) (hs : (sh = 37 ∧ s = 38) ∨ (sh = 39 ∧ s = 40)) (ha1 : 0 ≤ a1 ∧ a1 ≤ 5) (K : ∀ (y : Int), (-2147483648) ≤ y ∧ y ≤ 2147483647 → Z (.inl (some (vi y)), Wd P Q P P c, 0, 0)) : Wp sc (d + 8) 68 0 [(0, .ref sh), (1, vi a1)] [] (Wd P Q P P c) 0 0 Z := by
  have hP := iv_P hI
  have hQ := iv_Q hI
  refine q_aload_n c_68_0 rfl (q_iload_n c_68_1 rfl ?_)
  have h_1 := ir_s_g hI hs (j := 4 * a1) ((q_9f1d5ffdc ha1))
  have h_2 := ir_s_g hI hs (j := 4 * a1 + 1) ((q_0a2ee6f8f ha1))
  have h_3 := ir_s_g hI hs (j := 4 * a1 + 2) ((q_e07a293a2 ha1))
  have h_4 := ir_s_g hI hs (j := 4 * a1 + 3) ((q_d09cb0b73 ha1))
  refine v_cv c_68_2 km_4_38 rfl (ck_sh hs) (by omega) ⟨⟨rfl, rfl⟩, of_decide_eq_true rfl, rfl⟩ (Nat.le_of_ble_eq_true rfl) (Nat.le_of_ble_eq_true rfl) (s_43 (v1 := c s (4 * a1)) (v2 := c s (4 * a1 + 1)) (v3 := c s (4 * a1 + 2)) (v4 := c s (4 * a1 + 3)) (r := c s (4 * a1 + 1) + c s (4 * a1 + 2) + c s (4 * a1 + 3) + c s (4 * a1)) (a1 := a1) hI hs (show 0 ≤ a1 ∧ a1 ≤ 5 from ha1) (rfl) (rfl) (rfl) (rfl) (by omega) (bk_inl (q_istore_n c_68_5 (Nat.le_of_ble_eq_true rfl) (q_iload_n c_68_6 rfl ?_))))
  by_cases h_5 : c s (4 * a1 + 1) + c s (4 * a1 + 2) + c s (4 * a1 + 3) + c s (4 * a1) ≤ 0
  · refine v_if_le_t (t := 25) c_68_7 rfl ⟨(q_e052ef40e h_1 h_2 h_3 h_4), h_5, of_decide_eq_true rfl⟩ (q_iconst c_68_25 (q_iret c_68_26 rfl ?_))
    exact K 0 ⟨of_decide_eq_true rfl, of_decide_eq_true rfl⟩
  · refine v_if_le_f (t := 25) c_68_7 rfl ⟨of_decide_eq_true rfl, (Int.not_le.mp h_5), (q_db9ef1f4a h_1 h_2 h_3 h_4)⟩ (v_sip c_68_10 (of_decide_eq_true rfl) (q_aload_n c_68_13 rfl (q_iload_n c_68_14 rfl (q_iconst c_68_15 (v_cv c_68_16 km_4_34 rfl (ck_sh hs) (by omega) ⟨⟨rfl, rfl⟩, of_decide_eq_true rfl, rfl⟩ (Nat.le_of_ble_eq_true rfl) (Nat.le_of_ble_eq_true rfl) (s_45 (v1 := c s (4 * a1)) (r := c s (4 * a1)) (a1 := a1) (a2 := 0) hI hs (show 0 ≤ a1 ∧ a1 ≤ 5 from ha1) (show 0 ≤ 0 ∧ 0 ≤ 3 from ⟨of_decide_eq_true rfl, of_decide_eq_true rfl⟩) ((congrArg (c s) (show 4 * a1 + 0 = 4 * a1 from (q_8baad3eb5)))) (by omega) (bk_inl (v_imul (v := 1000 * c s (4 * a1)) c_68_19 (by omega) ?_))))))))
    refine q_iload_n c_68_20 rfl (v_idivx c_68_21 ⟨by omega, by omega, by omega⟩ (fun y_6 hy_6 => (q_goto (t := 26) c_68_22 rfl (q_iret c_68_26 rfl ?_))))
    exact K y_6 hy_6

set_option maxRecDepth 100000 in
set_option maxHeartbeats 4000000 in
theorem s_69_l {sc : List Int32} {e : Int} {d u P Q sh s : Nat} {c : ME} {Z : AR → Prop} (hI : Iv u e P Q c) (hs : (sh = 37 ∧ s = 38) ∨ (sh = 39 ∧ s = 40)) (K : ∀ (y : Int), (-2147483648) ≤ y ∧ y ≤ 2147483647 → Z (.inl (some (vi y)), Wd P Q P P c, 0, 0)) : ∀ n : Nat, (∀ (v1 : Int) (v2 : Int), (-2147483648) ≤ v1 ∧ v1 ≤ 2147483647 → 0 ≤ v2 ∧ v2 ≤ 6 → 13 - 2 * v2 < (n : Int) → Wp sc (d + 8) 69 4 [(0, .ref sh), (1, vi v1), (2, vi v2)] [] (Wd P Q P P c) 0 0 Z) := by
  intro n
  induction n with
  | zero => exact (by intro v1 v2 hv1 hv2 hm9; have hP := iv_P hI; have hQ := iv_Q hI; exfalso; omega)
  | succ n ih =>
    have hP := iv_P hI
    have hQ := iv_Q hI
    intro v1 v2 hv1 hv2 hm9
    refine q_iload_n c_69_4 rfl (q_aload_n c_69_5 rfl (v_gr (t := P) c_69_6 kf_4_15 (ck_sh hs) (by omega) rfl ?_))
    have h_1 := ir_p0_0 hI hP
    refine v_gi (z := 0) (v := c P 0) c_69_9 kf_4_19 (ck_p0 hP) (a68z hP) rfl rfl rfl ?_
    by_cases h_2 : v2 ≥ c P 0
    · refine v_ic_ge_t (t := 29) c_69_12 rfl ⟨(lel h_1.1 rfl), h_2, (ler hv2.2 rfl)⟩ (q_iload_n c_69_29 rfl (q_iret c_69_30 rfl ?_))
      exact K v1 hv1
    · refine v_ic_ge_f (t := 29) c_69_12 rfl ⟨(lel hv2.1 rfl), (Int.not_le.mp h_2), (ler h_1.2 rfl)⟩ (q_iload_n c_69_15 rfl (q_aload_n c_69_16 rfl (q_iload_n c_69_17 rfl ?_)))
      have h_3 := ir_s_g hI hs (j := 4 * v2) ((q_aa51b186e h_1 h_2))
      have h_4 := ir_s_g hI hs (j := 4 * v2 + 1) ((q_57851f9de h_1 h_2))
      have h_5 := ir_s_g hI hs (j := 4 * v2 + 2) ((q_7296e74e6 h_1 h_2))
      have h_6 := ir_s_g hI hs (j := 4 * v2 + 3) ((q_b15525c4c h_1 h_2))
      refine v_cv c_69_18 km_4_38 rfl (ck_sh hs) (by omega) ⟨⟨rfl, rfl⟩, of_decide_eq_true rfl, rfl⟩ (Nat.le_of_ble_eq_true rfl) (Nat.le_of_ble_eq_true rfl) (s_43 (v1 := c s (4 * v2)) (v2 := c s (4 * v2 + 1)) (v3 := c s (4 * v2 + 2)) (v4 := c s (4 * v2 + 3)) (r := c s (4 * v2 + 1) + c s (4 * v2 + 2) + c s (4 * v2 + 3) + c s (4 * v2)) (a1 := v2) hI hs (show 0 ≤ v2 ∧ v2 ≤ 5 from ⟨hv2.1, (q_d63a8538e h_1 h_2)⟩) (rfl) (rfl) (rfl) (rfl) (by omega) (bk_inl (v_iadd (v := c s (4 * v2 + 1) + c s (4 * v2 + 2) + c s (4 * v2 + 3) + c s (4 * v2) + v1) c_69_21 (by omega) (v_nrm (fun y_7 hy_7 => (q_istore_n c_69_22 (Nat.le_of_ble_eq_true rfl) (v_iinc (v := v2 + 1) c_69_23 rfl (Nat.le_of_ble_eq_true rfl) rfl (q_goto (t := 4) c_69_26 rfl (Wp_ls [(0, .ref sh), (1, vi y_7), (2, vi (v2 + 1))] (lsub_cons rfl (lsub_cons rfl (lsub_cons rfl lsub_nil))) ?_)))))))))
      exact ih y_7 (v2 + 1) hy_7 ⟨(rgp_l hv2.1 (of_decide_eq_true rfl)), (q_4a76cd9c7 h_1 h_2)⟩ (by omega)
set_option maxRecDepth 100000 in
set_option maxHeartbeats 4000000 in
theorem s_69 {sc : List Int32} {e : Int} {d u P Q sh s : Nat} {c : ME} {Z : AR → Prop} (hI : Iv u e P Q c) (hs : (sh = 37 ∧ s = 38) ∨ (sh = 39 ∧ s = 40)) (K : ∀ (y : Int), (-2147483648) ≤ y ∧ y ≤ 2147483647 → Z (.inl (some (vi y)), Wd P Q P P c, 0, 0)) : Wp sc (d + 8) 69 0 [(0, .ref sh)] [] (Wd P Q P P c) 0 0 Z := by
  have hP := iv_P hI
  have hQ := iv_Q hI
  refine q_iconst c_69_0 (q_istore_n c_69_1 (Nat.le_of_ble_eq_true rfl) (q_iconst c_69_2 (q_istore_n c_69_3 (Nat.le_of_ble_eq_true rfl) (Wp_ls [(0, .ref sh), (1, vi 0), (2, vi 0)] (lsub_cons rfl (lsub_cons rfl (lsub_cons rfl lsub_nil))) ?_))))
  exact (s_69_l (sc := sc) (d := d) hI hs K 16) 0 0 ⟨of_decide_eq_true rfl, of_decide_eq_true rfl⟩ ⟨of_decide_eq_true rfl, of_decide_eq_true rfl⟩ (by omega)

set_option maxRecDepth 100000 in
set_option maxHeartbeats 4000000 in
theorem s_70_l {sc : List Int32} {e : Int} {d u P Q sh s : Nat} {c : ME} {Z : AR → Prop} (hI : Iv u e P Q c) (hs : (sh = 37 ∧ s = 38) ∨ (sh = 39 ∧ s = 40)) (K : ∀ (y : Int), (-2147483648) ≤ y ∧ y ≤ 2147483647 → Z (.inl (some (vi y)), Wd P Q P P c, 0, 0)) : ∀ n : Nat, (∀ (v1 : Int) (v2 : Int), (-2147483648) ≤ v1 ∧ v1 ≤ 2147483647 → 0 ≤ v2 ∧ v2 ≤ 6 → 13 - 2 * v2 < (n : Int) → Wp sc (d + 8) 70 4 [(0, .ref sh), (1, vi v1), (2, vi v2)] [] (Wd P Q P P c) 0 0 Z) := by
  intro n
  induction n with
  | zero => exact (by intro v1 v2 hv1 hv2 hm9; have hP := iv_P hI; have hQ := iv_Q hI; exfalso; omega)
  | succ n ih =>
    have hP := iv_P hI
    have hQ := iv_Q hI
    intro v1 v2 hv1 hv2 hm9
    refine q_iload_n c_70_4 rfl (q_aload_n c_70_5 rfl (v_gr (t := P) c_70_6 kf_4_15 (ck_sh hs) (by omega) rfl ?_))
    have h_1 := ir_p0_0 hI hP
    refine v_gi (z := 0) (v := c P 0) c_70_9 kf_4_19 (ck_p0 hP) (a68z hP) rfl rfl rfl ?_
    by_cases h_2 : v2 ≥ c P 0
    · refine v_ic_ge_t (t := 35) c_70_12 rfl ⟨(lel h_1.1 rfl), h_2, (ler hv2.2 rfl)⟩ (q_iload_n c_70_35 rfl (q_iret c_70_36 rfl ?_))
      exact K v1 hv1
    · refine v_ic_ge_f (t := 35) c_70_12 rfl ⟨(lel hv2.1 rfl), (Int.not_le.mp h_2), (ler h_1.2 rfl)⟩ (q_aload_n c_70_15 rfl (q_iload_n c_70_16 rfl ?_))
      have h_3 := ir_s_g hI hs (j := 4 * v2) ((q_aa51b186e h_1 h_2))
      have h_4 := ir_s_g hI hs (j := 4 * v2 + 1) ((q_57851f9de h_1 h_2))
      have h_5 := ir_s_g hI hs (j := 4 * v2 + 2) ((q_7296e74e6 h_1 h_2))
      have h_6 := ir_s_g hI hs (j := 4 * v2 + 3) ((q_b15525c4c h_1 h_2))
      refine v_cv c_70_17 km_4_38 rfl (ck_sh hs) (by omega) ⟨⟨rfl, rfl⟩, of_decide_eq_true rfl, rfl⟩ (Nat.le_of_ble_eq_true rfl) (Nat.le_of_ble_eq_true rfl) (s_43 (v1 := c s (4 * v2)) (v2 := c s (4 * v2 + 1)) (v3 := c s (4 * v2 + 2)) (v4 := c s (4 * v2 + 3)) (r := c s (4 * v2 + 1) + c s (4 * v2 + 2) + c s (4 * v2 + 3) + c s (4 * v2)) (a1 := v2) hI hs (show 0 ≤ v2 ∧ v2 ≤ 5 from ⟨hv2.1, (q_d63a8538e h_1 h_2)⟩) (rfl) (rfl) (rfl) (rfl) (by omega) (bk_inl ?_))
      by_cases h_7 : c s (4 * v2 + 1) + c s (4 * v2 + 2) + c s (4 * v2 + 3) + c s (4 * v2) ≠ 0
      · refine v_if_ne_t (t := 29) c_70_20 rfl ⟨h_7, ⟨(q_e052ef40e h_3 h_4 h_5 h_6), (q_db9ef1f4a h_3 h_4 h_5 h_6)⟩, of_decide_eq_true rfl, of_decide_eq_true rfl⟩ (v_iinc (v := v2 + 1) c_70_29 rfl (Nat.le_of_ble_eq_true rfl) rfl (q_goto (t := 4) c_70_32 rfl (Wp_ls [(0, .ref sh), (1, vi v1), (2, vi (v2 + 1))] (lsub_cons rfl (lsub_cons rfl (lsub_cons rfl lsub_nil))) ?_)))
        exact ih v1 (v2 + 1) hv1 ⟨(rgp_l hv2.1 (of_decide_eq_true rfl)), (q_4a76cd9c7 h_1 h_2)⟩ (by omega)
      · refine v_if_ne_f (t := 29) c_70_20 rfl (Decidable.not_not.mp h_7) (q_iload_n c_70_23 rfl (q_iconst c_70_24 (q_iload_n c_70_25 rfl (v_shl1 c_70_26 ⟨by omega, by omega⟩ (fun y_8 hy_8 => (v_iorx c_70_27 (fun y_9 hy_9 => (q_istore_n c_70_28 (Nat.le_of_ble_eq_true rfl) (v_iinc (v := v2 + 1) c_70_29 rfl (Nat.le_of_ble_eq_true rfl) rfl ?_)))))))))
        refine q_goto (t := 4) c_70_32 rfl (Wp_ls [(0, .ref sh), (1, vi y_9), (2, vi (v2 + 1))] (lsub_cons rfl (lsub_cons rfl (lsub_cons rfl lsub_nil))) ?_)
        exact ih y_9 (v2 + 1) hy_9 ⟨(rgp_l hv2.1 (of_decide_eq_true rfl)), (q_4a76cd9c7 h_1 h_2)⟩ (by omega)
set_option maxRecDepth 100000 in
set_option maxHeartbeats 4000000 in
theorem s_70 {sc : List Int32} {e : Int} {d u P Q sh s : Nat} {c : ME} {Z : AR → Prop} (hI : Iv u e P Q c) (hs : (sh = 37 ∧ s = 38) ∨ (sh = 39 ∧ s = 40)) (K : ∀ (y : Int), (-2147483648) ≤ y ∧ y ≤ 2147483647 → Z (.inl (some (vi y)), Wd P Q P P c, 0, 0)) : Wp sc (d + 8) 70 0 [(0, .ref sh)] [] (Wd P Q P P c) 0 0 Z := by
  have hP := iv_P hI
  have hQ := iv_Q hI
  refine q_iconst c_70_0 (q_istore_n c_70_1 (Nat.le_of_ble_eq_true rfl) (q_iconst c_70_2 (q_istore_n c_70_3 (Nat.le_of_ble_eq_true rfl) (Wp_ls [(0, .ref sh), (1, vi 0), (2, vi 0)] (lsub_cons rfl (lsub_cons rfl (lsub_cons rfl lsub_nil))) ?_))))
  exact (s_70_l (sc := sc) (d := d) hI hs K 16) 0 0 ⟨of_decide_eq_true rfl, of_decide_eq_true rfl⟩ ⟨of_decide_eq_true rfl, of_decide_eq_true rfl⟩ (by omega)

set_option maxRecDepth 100000 in
set_option maxHeartbeats 4000000 in
theorem s_72 {sc : List Int32} {e : Int} {d u P Q : Nat} {c : ME} {a1 : Int} {Z : AR → Prop} (hI : Iv u e P Q c) (ha1 : 0 ≤ a1 ∧ a1 ≤ 20) (K : ∀ (y : Int), 0 ≤ y ∧ y ≤ 1 → ((y = 0) ∨ (a1 + c 1 3 ≤ 600)) → Z (.inl (some (vi y)), Wd P Q P P c, 0, 0)) : Wp sc (d + 7) 72 0 [(0, .ref 1), (1, vi a1)] [] (Wd P Q P P c) 0 0 Z := by
  have hP := iv_P hI
  have hQ := iv_Q hI
  refine q_aload_n c_72_0 rfl ?_
  have h_1 := ir_1_3 hI
  refine v_gi (z := 3) (v := c 1 3) c_72_1 kf_5_19 rfl (Nat.le_of_ble_eq_true rfl) rfl rfl rfl (q_iload_n c_72_4 rfl (v_iadd (v := a1 + c 1 3) c_72_5 (by omega) (q_aload_n c_72_6 rfl (v_gr (t := 2) c_72_7 kf_5_9 rfl (Nat.le_of_ble_eq_true rfl) rfl (v_al c_72_10 rfl (of_decide_eq_true rfl) (of_decide_eq_true rfl) ?_)))))
  by_cases h_2 : a1 + c 1 3 > 600
  · refine v_ic_gt_t (t := 18) c_72_11 rfl ⟨of_decide_eq_true rfl, h_2, (q_23711b5cc h_1 ha1)⟩ (q_iconst c_72_18 (v_zret c_72_19 rfl (of_decide_eq_true rfl) ?_))
    exact K 0 ⟨of_decide_eq_true rfl, of_decide_eq_true rfl⟩ (Or.inl (by first | assumption | omega))
  · refine v_ic_gt_f (t := 18) c_72_11 rfl ⟨(q_5ccbaaa40 h_1 ha1), (Int.not_lt.mp h_2), of_decide_eq_true rfl⟩ (q_iconst c_72_14 (q_goto (t := 19) c_72_15 rfl (v_zret c_72_19 rfl (of_decide_eq_true rfl) ?_)))
    exact K 1 ⟨of_decide_eq_true rfl, of_decide_eq_true rfl⟩ (Or.inr ((q_feda450ca h_2)))

set_option maxRecDepth 100000 in
set_option maxHeartbeats 4000000 in
theorem s_73_l {sc : List Int32} {e : Int} {d u P Q : Nat} {c : ME} {a1 : Int} {Z : AR → Prop} (hI : Iv u e P Q c) (ha1 : (-2147483648) ≤ a1 ∧ a1 ≤ 2147483647) (K : ∀ (c2 : ME), Iv u e P Q c2 → (∀ (a : Nat) (j : Int), ¬ ((a = 1 ∧ j = 3) ∨ a = 2) → c2 a j = c a j) → Z (.inl (none), Wd P Q P P c2, 0, 0)) : ∀ n : Nat, (∀ (c2 : ME) (v2 : Int), Iv u e P Q c2 → (∀ (a : Nat) (j : Int), ¬ ((a = 1 ∧ j = 3) ∨ a = 2) → c2 a j = c a j) → (-8) ≤ v2 ∧ v2 ≤ 24 → 2 * v2 + 17 < (n : Int) → Wp sc (d + 8) 73 3 [(0, .ref 1), (1, vi a1), (2, vi v2)] [] (Wd P Q P P c2) 0 0 Z) := by
  intro n
  induction n with
  | zero => exact (by intro c2 v2 hI2 hF hv2 hm9; have hP := iv_P hI; have hQ := iv_Q hI; exfalso; omega)
  | succ n ih =>
    have hP := iv_P hI
    have hQ := iv_Q hI
    intro c2 v2 hI2 hF hv2 hm9
    refine q_iload_n c_73_3 rfl ?_
    by_cases h_1 : v2 < 0
    · refine v_if_lt_t (t := 44) c_73_4 rfl ⟨(lel hv2.1 rfl), h_1, of_decide_eq_true rfl⟩ (q_vret rfl rfl ?_)
      exact K c2 hI2 (fun a j hm => hF a j hm)
    · refine v_if_lt_f (t := 44) c_73_4 rfl ⟨of_decide_eq_true rfl, (Int.not_lt.mp h_1), (ler hv2.2 rfl)⟩ (q_aload_n c_73_7 rfl (q_iconst c_73_8 ?_))
      have h_2 := ir_1_3 hI2
      refine v_cv c_73_9 km_5_22 rfl rfl (Nat.le_of_ble_eq_true rfl) ⟨⟨rfl, rfl⟩, Nat.le_of_ble_eq_true rfl, rfl⟩ (Nat.le_of_ble_eq_true rfl) (Nat.le_of_ble_eq_true rfl) (s_72 (a1 := 1) hI2 (show 0 ≤ 1 ∧ 1 ≤ 20 from ⟨of_decide_eq_true rfl, of_decide_eq_true rfl⟩) (fun y_3 hy_3 h_4 => (bk_inl ?_)))
      by_cases h_5 : y_3 = 0
      · refine v_if_eq_t (t := 44) c_73_12 rfl h_5 (q_vret rfl rfl ?_)
        exact K c2 hI2 (fun a j hm => hF a j hm)
      · refine v_if_eq_f (t := 44) c_73_12 rfl ⟨h_5, ⟨(lel hy_3.1 rfl), (ler hy_3.2 rfl)⟩, of_decide_eq_true rfl, of_decide_eq_true rfl⟩ (q_aload_n c_73_15 rfl (v_gr (t := 2) c_73_16 kf_5_9 rfl (Nat.le_of_ble_eq_true rfl) rfl (q_aload_n c_73_19 rfl (v_gi (z := 3) (v := c2 1 3) c_73_20 kf_5_19 rfl (Nat.le_of_ble_eq_true rfl) rfl rfl rfl (q_iload_n c_73_23 rfl (q_iload_n c_73_24 rfl (v_ishrx c_73_25 (fun y_6 hy_6 => ?_))))))))
        refine v_i2b c_73_26 (v_bs c_73_27 rfl (of_decide_eq_true rfl) (of_decide_eq_true rfl) ⟨h_2.1, (q_c603354c3 h_4 h_5)⟩ (q_aload_n c_73_28 rfl (q_dup c_73_29 rfl (v_gi (z := 3) (v := c2 1 3) c_73_30 kf_5_19 rfl (Nat.le_of_ble_eq_true rfl) rfl rfl (up_c (nn rfl)) (q_iconst c_73_33 (v_iadd (v := c2 1 3 + 1) c_73_34 rfl (v_pi (z := 3) c_73_35 kf_5_19 rfl (Nat.le_of_ble_eq_true rfl) rfl rfl rfl (of_decide_eq_true rfl) ?_)))))))
        refine v_iinc (v := v2 - 8) c_73_38 rfl (Nat.le_of_ble_eq_true rfl) (by first | (clear ha1 hv2 h_1 h_2 h_4 h_5; omega) | omega) (q_goto (t := 3) c_73_41 rfl ?_)
        have h_7 := sb_rng (sb y_6)
        have hI_8 := iw_2 (j := c2 1 3) (v := (sb (sb y_6))) hI2 ⟨by first | (clear ha1 hv2 h_1 h_2 h_4 h_5; omega) | omega, by first | (clear ha1 hv2 h_1 h_2 h_4 h_5; omega) | omega⟩
        have hI_9 := iw_1_3 (v := c2 1 3 + 1) hI_8 ⟨(rgp_l h_2.1 (of_decide_eq_true rfl)), (q_10c0010c4 h_4 h_5)⟩
        refine Wp_ls [(0, .ref 1), (1, vi a1), (2, vi (v2 - 8))] (lsub_cons rfl (lsub_cons rfl (lsub_cons rfl lsub_nil))) ?_
        exact ih (up (up c2 2 (c2 1 3) (sb (sb y_6))) 1 3 (c2 1 3 + 1)) (v2 - 8) hI_9 (fun a j hm => (up_b (Decidable.or_iff_not_imp_left.mpr (fun h1 h2 => hm (Or.inl ⟨Decidable.not_not.mp h1, h2⟩)))).trans ((up_b (Decidable.or_iff_not_imp_left.mpr (fun h1 h2 => hm (Or.inr (Decidable.not_not.mp h1))))).trans (hF a j hm))) ⟨(q_4da7665fc h_1), (rgm_h hv2.2 (of_decide_eq_true rfl))⟩ (by omega)
set_option maxRecDepth 100000 in
set_option maxHeartbeats 4000000 in
theorem s_73 {sc : List Int32} {e : Int} {d u P Q : Nat} {c : ME} {a1 : Int} {Z : AR → Prop} (hI : Iv u e P Q c) (ha1 : (-2147483648) ≤ a1 ∧ a1 ≤ 2147483647) (K : ∀ (c2 : ME), Iv u e P Q c2 → (∀ (a : Nat) (j : Int), ¬ ((a = 1 ∧ j = 3) ∨ a = 2) → c2 a j = c a j) → Z (.inl (none), Wd P Q P P c2, 0, 0)) : Wp sc (d + 8) 73 0 [(0, .ref 1), (1, vi a1)] [] (Wd P Q P P c) 0 0 Z := by
  have hP := iv_P hI
  have hQ := iv_Q hI
  refine v_bip c_73_0 (of_decide_eq_true rfl) (q_istore_n c_73_2 (Nat.le_of_ble_eq_true rfl) (Wp_ls [(0, .ref 1), (1, vi a1), (2, vi 24)] (lsub_cons rfl (lsub_cons rfl (lsub_cons rfl lsub_nil))) ?_))
  exact (s_73_l (sc := sc) (d := d) hI ha1 K 68) c 24 hI (fun a j hm => rfl) ⟨of_decide_eq_true rfl, of_decide_eq_true rfl⟩ (by omega)

set_option maxRecDepth 100000 in
set_option maxHeartbeats 4000000 in
theorem s_74 {sc : List Int32} {e : Int} {d u P Q : Nat} {c : ME} {a1 : Int} {Z : AR → Prop} (hI : Iv u e P Q c) (ha1 : 0 ≤ a1 ∧ a1 ≤ 600) (K : ∀ (c2 : ME), Iv u e P Q c2 → (∀ (a : Nat) (j : Int), ¬ ((a = 1 ∧ j = 1) ∨ (a = 1 ∧ j = 2) ∨ (a = 1 ∧ j = 3) ∨ (a = 1 ∧ j = 4) ∨ (a = 1 ∧ j = 5)) → c2 a j = c a j) → ((c2 1 3 = 0)) → Z (.inl (none), Wd P Q P P c2, 0, 0)) : Wp sc (d + 7) 74 0 [(0, .ref 1), (1, vi a1)] [] (Wd P Q P P c) 0 0 Z := by
  have hP := iv_P hI
  have hQ := iv_Q hI
  refine q_aload_n c_74_0 rfl (q_iload_n c_74_1 rfl (q_aload_n c_74_2 rfl ?_))
  have h_1 := ir_1_3 hI
  refine v_gi (z := 3) (v := c 1 3) c_74_3 kf_5_19 rfl (Nat.le_of_ble_eq_true rfl) rfl rfl rfl (v_minx c_74_6 rfl (by omega) (Nat.le_of_ble_eq_true rfl) ⟨by omega, by omega, by omega, by omega⟩ (fun y_2 hy_2 => (v_pi (z := 1) c_74_9 kf_5_32 rfl (Nat.le_of_ble_eq_true rfl) rfl rfl rfl (of_decide_eq_true rfl) (q_aload_n c_74_12 rfl (q_iconst c_74_13 (v_pi (z := 2) c_74_14 kf_5_35 rfl (Nat.le_of_ble_eq_true rfl) rfl rfl rfl (of_decide_eq_true rfl) (q_aload_n c_74_17 rfl (q_iconst c_74_18 ?_))))))))
  refine v_pi (z := 3) c_74_19 kf_5_19 rfl (Nat.le_of_ble_eq_true rfl) rfl rfl rfl (of_decide_eq_true rfl) (q_aload_n c_74_22 rfl (q_iconst c_74_23 (v_pi (z := 4) c_74_24 kf_5_38 rfl (Nat.le_of_ble_eq_true rfl) rfl rfl rfl (of_decide_eq_true rfl) (q_aload_n c_74_27 rfl (q_iconst c_74_28 (v_pi (z := 5) c_74_29 kf_5_15 rfl (Nat.le_of_ble_eq_true rfl) rfl rfl rfl (of_decide_eq_true rfl) (q_vret rfl rfl ?_)))))))
  have hI_3 := iw_1_1 (v := y_2) hI ⟨by omega, by omega⟩
  have hI_4 := iw_1_2 (v := 0) hI_3 ⟨of_decide_eq_true rfl, of_decide_eq_true rfl⟩
  have hI_5 := iw_1_3 (v := 0) hI_4 ⟨of_decide_eq_true rfl, of_decide_eq_true rfl⟩
  have hI_6 := iw_1_4 (v := 0) hI_5 ⟨of_decide_eq_true rfl, of_decide_eq_true rfl⟩
  have hI_7 := iw_1_5 (v := (-1)) hI_6 ⟨of_decide_eq_true rfl, of_decide_eq_true rfl⟩
  have h_8 : (up (up (up (up (up c 1 1 y_2) 1 2 0) 1 3 0) 1 4 0) 1 5 (-1)) 1 3 = 0 := ((up_n (ni rfl)).trans ((up_n (ni rfl)).trans (up_e rfl)))
  exact K (up (up (up (up (up c 1 1 y_2) 1 2 0) 1 3 0) 1 4 0) 1 5 (-1)) hI_7 (fun a j hm => (up_b (Decidable.or_iff_not_imp_left.mpr (fun h1 h2 => hm (Or.inr (Or.inr (Or.inr (Or.inr ⟨Decidable.not_not.mp h1, h2⟩))))))).trans ((up_b (Decidable.or_iff_not_imp_left.mpr (fun h1 h2 => hm (Or.inr (Or.inr (Or.inr (Or.inl ⟨Decidable.not_not.mp h1, h2⟩))))))).trans ((up_b (Decidable.or_iff_not_imp_left.mpr (fun h1 h2 => hm (Or.inr (Or.inr (Or.inl ⟨Decidable.not_not.mp h1, h2⟩)))))).trans ((up_b (Decidable.or_iff_not_imp_left.mpr (fun h1 h2 => hm (Or.inr (Or.inl ⟨Decidable.not_not.mp h1, h2⟩))))).trans (up_b (Decidable.or_iff_not_imp_left.mpr (fun h1 h2 => hm (Or.inl ⟨Decidable.not_not.mp h1, h2⟩)))))))) (by first | assumption | omega)

set_option maxRecDepth 100000 in
set_option maxHeartbeats 4000000 in
theorem s_76 {sc : List Int32} {e : Int} {d u P Q : Nat} {c : ME} {a1 : Int} {Z : AR → Prop} (hI : Iv u e P Q c) (ha1 : 1 ≤ a1 ∧ a1 ≤ 16) (K : ∀ (c2 : ME) (y : Int), Iv u e P Q c2 → (∀ (a : Nat) (j : Int), ¬ ((a = 9 ∧ j = 0)) → c2 a j = c a j) → 0 ≤ y ∧ y ≤ 15 → ((y < a1)) → Z (.inl (some (vi y)), Wd P Q P P c2, 0, 0)) : Wp sc (d + 7) 76 0 [(0, .ref 9), (1, vi a1)] [] (Wd P Q P P c) 0 0 Z := by
  have hP := iv_P hI
  have hQ := iv_Q hI
  refine q_aload_n c_76_0 rfl (q_aload_n c_76_1 rfl ?_)
  have h_1 := ir_9_0 hI
  refine v_gi (z := 0) (v := c 9 0) c_76_2 kf_6_7 rfl (Nat.le_of_ble_eq_true rfl) rfl rfl rfl (v_ldc (n := 1103515245) c_76_5 rfl (by decide +kernel) (v_imul (v := 1103515245 * c 9 0) c_76_7 (by omega) (v_nrm (fun y_2 hy_2 => (v_sip c_76_8 (of_decide_eq_true rfl) (v_iadd (v := y_2 + 12345) c_76_11 rfl (v_nrm (fun y_3 hy_3 => (v_pi (z := 0) c_76_12 kf_6_7 rfl (Nat.le_of_ble_eq_true rfl) rfl rfl rfl (of_decide_eq_true rfl) ?_)))))))))
  refine q_iload_n c_76_15 rfl (v_if_le_f (t := 35) c_76_16 rfl ⟨of_decide_eq_true rfl, (Int.lt_of_lt_of_le (of_decide_eq_true rfl) ha1.1), (ler ha1.2 rfl)⟩ (q_aload_n c_76_19 rfl (v_gi (z := 0) (v := y_3) c_76_20 kf_6_7 rfl (Nat.le_of_ble_eq_true rfl) rfl rfl (up_e rfl) (v_bip c_76_23 (of_decide_eq_true rfl) (v_iushrx c_76_25 (fun y_4 hy_4 => (v_sip c_76_26 (of_decide_eq_true rfl) (v_and15 (v := (y_4 % 32768)) c_76_29 rfl ?_))))))))
  refine q_iload_n c_76_30 rfl ?_
  have h_5 : 0 ≤ ((y_4 % 32768) % a1) ∧ ((y_4 % 32768) % a1) < a1 := rem_bd (by omega)
  refine v_irem (v := ((y_4 % 32768) % a1)) c_76_31 (by omega) rfl (q_goto (t := 36) c_76_32 rfl (q_iret c_76_36 rfl ?_))
  have hI_6 := iw_9_0 (v := y_3) hI ⟨hy_3.1, hy_3.2⟩
  exact K (up c 9 0 y_3) ((y_4 % 32768) % a1) hI_6 (fun a j hm => up_b (Decidable.or_iff_not_imp_left.mpr (fun h1 h2 => hm ⟨Decidable.not_not.mp h1, h2⟩))) ⟨(q_c4fec1d75 h_5), (q_3c66af975 h_5 ha1)⟩ ((q_84496e02d h_5))
