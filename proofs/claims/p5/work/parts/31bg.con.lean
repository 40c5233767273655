/-! ===== contracts 20 ===== -/
theorem qv_60f9bb275 {a : Nat} {j : Int} (hm : ¬ ((a = 41 ∧ j = 0) ∨ a = 42 ∨ a = 54 ∨ a = 55)) : ¬ (a = 54 ∨ a = 55) := (fun q => q.elim (fun h => hm (Or.inr (Or.inr (Or.inl h)))) (fun h => hm (Or.inr (Or.inr (Or.inr h)))))
theorem q_c6184d3d7 {x0 x1 : Int} (f0 : ¬ (x0 < 0)) (f1 : ¬ (x1 < 0)) : 0 ≤ 4 * x0 + x1 := by omega
theorem q_9e2b4593f {x0 x1 x2 : Int} (f0 : 0 ≤ x0 ∧ x0 ≤ 6) (f1 : ¬ (x1 > x0 - 1)) (f2 : ¬ (x2 > 4)) : 4 * x1 + x2 < 37 := by omega
theorem c_217_0 : mLk 217 0 = some (.aload_n 0, 1) := rfl
theorem c_217_1 : mLk 217 1 = some (.iconst 0, 1) := rfl
theorem c_217_2 : mLk 217 2 = some (.putfield 3, 3) := rfl
theorem c_217_5 : mLk 217 5 = some (.aload_n 0, 1) := rfl
theorem c_217_6 : mLk 217 6 = some (.iload_n 1, 1) := rfl
theorem c_217_7 : mLk 217 7 = some (.iconst 0, 1) := rfl
theorem c_217_8 : mLk 217 8 = some (.sipush 9999, 3) := rfl
theorem c_217_11 : mLk 217 11 = some (.invokestatic 384, 3) := rfl
theorem c_217_14 : mLk 217 14 = some (.ifCond .eq 75, 3) := rfl
theorem c_217_89 : mLk 217 89 = some (.iconst 0, 1) := rfl
theorem c_217_90 : mLk 217 90 = some (.iconst 1, 1) := rfl
theorem c_217_91 : mLk 217 91 = some (.iconst 1, 1) := rfl
theorem c_217_92 : mLk 217 92 = some (.invokevirtual 203, 3) := rfl
theorem c_217_95 : mLk 217 95 = some (.ifCond .ne 5, 3) := rfl
theorem c_217_98 : mLk 217 98 = some (.iconst 0, 1) := rfl
theorem c_217_99 : mLk 217 99 = some (.ireturn, 1) := rfl
theorem c_217_17 : mLk 217 17 = some (.iload_n 2, 1) := rfl
theorem c_217_18 : mLk 217 18 = some (.iconst 0, 1) := rfl
theorem c_217_19 : mLk 217 19 = some (.sipush 9999, 3) := rfl
theorem c_217_22 : mLk 217 22 = some (.invokestatic 384, 3) := rfl
theorem c_217_25 : mLk 217 25 = some (.ifCond .eq 64, 3) := rfl
theorem c_217_28 : mLk 217 28 = some (.iload_n 3, 1) := rfl
theorem c_217_29 : mLk 217 29 = some (.iconst 0, 1) := rfl
theorem c_217_30 : mLk 217 30 = some (.sipush 9999, 3) := rfl
theorem c_217_33 : mLk 217 33 = some (.invokestatic 384, 3) := rfl
theorem c_217_36 : mLk 217 36 = some (.ifCond .eq 53, 3) := rfl
theorem c_217_39 : mLk 217 39 = some (.iload 4, 2) := rfl
theorem c_217_41 : mLk 217 41 = some (.iconst 0, 1) := rfl
theorem c_217_42 : mLk 217 42 = some (.sipush 9999, 3) := rfl
theorem c_217_45 : mLk 217 45 = some (.invokestatic 384, 3) := rfl
theorem c_217_48 : mLk 217 48 = some (.ifCond .eq 41, 3) := rfl
theorem c_217_51 : mLk 217 51 = some (.iload 5, 2) := rfl
theorem c_217_53 : mLk 217 53 = some (.iconst 0, 1) := rfl
theorem c_217_54 : mLk 217 54 = some (.sipush 400, 3) := rfl
theorem c_217_57 : mLk 217 57 = some (.invokestatic 384, 3) := rfl
theorem c_217_60 : mLk 217 60 = some (.ifCond .eq 29, 3) := rfl
theorem c_217_63 : mLk 217 63 = some (.iload 6, 2) := rfl
theorem c_217_65 : mLk 217 65 = some (.iconst 0, 1) := rfl
theorem c_217_66 : mLk 217 66 = some (.sipush 400, 3) := rfl
theorem c_217_69 : mLk 217 69 = some (.invokestatic 384, 3) := rfl
theorem c_217_72 : mLk 217 72 = some (.ifCond .eq 17, 3) := rfl
theorem c_217_75 : mLk 217 75 = some (.iload 7, 2) := rfl
theorem c_217_77 : mLk 217 77 = some (.iconst 0, 1) := rfl
theorem c_217_78 : mLk 217 78 = some (.iconst 5, 1) := rfl
theorem c_217_79 : mLk 217 79 = some (.invokestatic 384, 3) := rfl
theorem c_217_82 : mLk 217 82 = some (.ifCond .eq 7, 3) := rfl
theorem c_217_85 : mLk 217 85 = some (.iconst 1, 1) := rfl
theorem c_217_86 : mLk 217 86 = some (.goto 4, 3) := rfl
theorem c_217_100 : mLk 217 100 = some (.aload_n 0, 1) := rfl
theorem c_217_101 : mLk 217 101 = some (.iload_n 1, 1) := rfl
theorem c_217_102 : mLk 217 102 = some (.iload_n 2, 1) := rfl
theorem c_217_103 : mLk 217 103 = some (.iload_n 3, 1) := rfl
theorem c_217_104 : mLk 217 104 = some (.iload 4, 2) := rfl
theorem c_217_106 : mLk 217 106 = some (.iload 5, 2) := rfl
theorem c_217_108 : mLk 217 108 = some (.iload 6, 2) := rfl
theorem c_217_110 : mLk 217 110 = some (.iload 7, 2) := rfl
theorem c_217_112 : mLk 217 112 = some (.invokevirtual 359, 3) := rfl
theorem c_217_115 : mLk 217 115 = some (.ireturn, 1) := rfl
theorem c_218_0 : mLk 218 0 = some (.aload_n 0, 1) := rfl
theorem c_218_1 : mLk 218 1 = some (.iconst 0, 1) := rfl
theorem c_218_2 : mLk 218 2 = some (.putfield 3, 3) := rfl
theorem c_218_5 : mLk 218 5 = some (.aload_n 0, 1) := rfl
theorem c_218_6 : mLk 218 6 = some (.iload_n 1, 1) := rfl
theorem c_218_7 : mLk 218 7 = some (.aload_n 0, 1) := rfl
theorem c_218_8 : mLk 218 8 = some (.getfield 160, 3) := rfl
theorem c_218_11 : mLk 218 11 = some (.invokevirtual 396, 3) := rfl
theorem c_218_14 : mLk 218 14 = some (.ifCond .eq 30, 3) := rfl
theorem c_218_44 : mLk 218 44 = some (.iconst 0, 1) := rfl
theorem c_218_45 : mLk 218 45 = some (.ireturn, 1) := rfl
theorem c_218_17 : mLk 218 17 = some (.aload_n 0, 1) := rfl
theorem c_218_18 : mLk 218 18 = some (.iload_n 2, 1) := rfl
theorem c_218_19 : mLk 218 19 = some (.aload_n 0, 1) := rfl
theorem c_218_20 : mLk 218 20 = some (.getfield 157, 3) := rfl
theorem c_218_23 : mLk 218 23 = some (.invokevirtual 396, 3) := rfl
theorem c_218_26 : mLk 218 26 = some (.ifCond .eq 18, 3) := rfl
theorem c_218_29 : mLk 218 29 = some (.aload_n 0, 1) := rfl
theorem c_218_30 : mLk 218 30 = some (.iload_n 3, 1) := rfl
theorem c_218_31 : mLk 218 31 = some (.iconst 0, 1) := rfl
theorem c_218_32 : mLk 218 32 = some (.iconst 4, 1) := rfl
theorem c_218_33 : mLk 218 33 = some (.invokestatic 384, 3) := rfl
theorem c_218_36 : mLk 218 36 = some (.iconst 2, 1) := rfl
theorem c_218_37 : mLk 218 37 = some (.iconst 1, 1) := rfl
theorem c_218_38 : mLk 218 38 = some (.invokevirtual 203, 3) := rfl
theorem c_218_41 : mLk 218 41 = some (.ifCond .ne 5, 3) := rfl
theorem c_218_46 : mLk 218 46 = some (.aload_n 0, 1) := rfl
theorem c_218_47 : mLk 218 47 = some (.invokevirtual 317, 3) := rfl
theorem c_218_50 : mLk 218 50 = some (.aload_n 0, 1) := rfl
theorem c_218_51 : mLk 218 51 = some (.getfield 68, 3) := rfl
theorem c_218_54 : mLk 218 54 = some (.bipush 35, 2) := rfl
theorem c_218_56 : mLk 218 56 = some (.iaload, 1) := rfl
theorem c_218_57 : mLk 218 57 = some (.istore 4, 2) := rfl
theorem c_218_59 : mLk 218 59 = some (.aload_n 0, 1) := rfl
theorem c_218_60 : mLk 218 60 = some (.iload_n 1, 1) := rfl
theorem c_218_61 : mLk 218 61 = some (.iload_n 2, 1) := rfl
theorem c_218_62 : mLk 218 62 = some (.invokevirtual 335, 3) := rfl
theorem c_218_65 : mLk 218 65 = some (.pop, 1) := rfl
theorem c_218_66 : mLk 218 66 = some (.iload_n 3, 1) := rfl
theorem c_218_67 : mLk 218 67 = some (.iconst 4, 1) := rfl
theorem c_218_68 : mLk 218 68 = some (.if_icmp .ne 16, 3) := rfl
theorem c_218_84 : mLk 218 84 = some (.aload_n 0, 1) := rfl
theorem c_218_85 : mLk 218 85 = some (.getfield 68, 3) := rfl
theorem c_218_88 : mLk 218 88 = some (.iconst 4, 1) := rfl
theorem c_218_89 : mLk 218 89 = some (.iload_n 2, 1) := rfl
theorem c_218_90 : mLk 218 90 = some (.imul, 1) := rfl
theorem c_218_91 : mLk 218 91 = some (.iload_n 3, 1) := rfl
theorem c_218_92 : mLk 218 92 = some (.iadd, 1) := rfl
theorem c_218_93 : mLk 218 93 = some (.iaload, 1) := rfl
theorem c_218_94 : mLk 218 94 = some (.ireturn, 1) := rfl
theorem c_218_71 : mLk 218 71 = some (.aload_n 0, 1) := rfl
theorem c_218_72 : mLk 218 72 = some (.getfield 68, 3) := rfl
theorem c_218_75 : mLk 218 75 = some (.bipush 35, 2) := rfl
theorem c_218_77 : mLk 218 77 = some (.iaload, 1) := rfl
theorem c_218_78 : mLk 218 78 = some (.iload 4, 2) := rfl
theorem c_218_80 : mLk 218 80 = some (.isub, 1) := rfl
theorem c_218_81 : mLk 218 81 = some (.goto 13, 3) := rfl
theorem c_219_0 : mLk 219 0 = some (.aload_n 0, 1) := rfl
theorem c_219_1 : mLk 219 1 = some (.iconst 0, 1) := rfl
theorem c_219_2 : mLk 219 2 = some (.putfield 3, 3) := rfl
theorem c_219_5 : mLk 219 5 = some (.aload_n 0, 1) := rfl
theorem c_219_6 : mLk 219 6 = some (.iload_n 1, 1) := rfl
theorem c_219_7 : mLk 219 7 = some (.aload_n 0, 1) := rfl
theorem c_219_8 : mLk 219 8 = some (.getfield 163, 3) := rfl
theorem c_219_11 : mLk 219 11 = some (.invokevirtual 396, 3) := rfl
theorem c_219_14 : mLk 219 14 = some (.ifCond .eq 30, 3) := rfl
theorem c_219_44 : mLk 219 44 = some (.iconst 0, 1) := rfl
theorem c_219_45 : mLk 219 45 = some (.ireturn, 1) := rfl
theorem c_219_17 : mLk 219 17 = some (.aload_n 0, 1) := rfl
theorem c_219_18 : mLk 219 18 = some (.iload_n 2, 1) := rfl
theorem c_219_19 : mLk 219 19 = some (.aload_n 0, 1) := rfl
theorem c_219_20 : mLk 219 20 = some (.getfield 157, 3) := rfl
theorem c_219_23 : mLk 219 23 = some (.invokevirtual 396, 3) := rfl
theorem c_219_26 : mLk 219 26 = some (.ifCond .eq 18, 3) := rfl
theorem c_219_29 : mLk 219 29 = some (.aload_n 0, 1) := rfl
theorem c_219_30 : mLk 219 30 = some (.iload_n 3, 1) := rfl
theorem c_219_31 : mLk 219 31 = some (.iconst 0, 1) := rfl
theorem c_219_32 : mLk 219 32 = some (.iconst 4, 1) := rfl
theorem c_219_33 : mLk 219 33 = some (.invokestatic 384, 3) := rfl
theorem c_219_36 : mLk 219 36 = some (.iconst 2, 1) := rfl
theorem c_219_37 : mLk 219 37 = some (.iconst 1, 1) := rfl
theorem c_219_38 : mLk 219 38 = some (.invokevirtual 203, 3) := rfl
theorem c_219_41 : mLk 219 41 = some (.ifCond .ne 5, 3) := rfl
theorem c_219_46 : mLk 219 46 = some (.aload_n 0, 1) := rfl
theorem c_219_47 : mLk 219 47 = some (.invokevirtual 317, 3) := rfl
theorem c_219_50 : mLk 219 50 = some (.iload_n 3, 1) := rfl
theorem c_219_51 : mLk 219 51 = some (.iconst 4, 1) := rfl
theorem c_219_52 : mLk 219 52 = some (.if_icmp .ne 12, 3) := rfl
theorem c_219_64 : mLk 219 64 = some (.aload_n 0, 1) := rfl
theorem c_219_65 : mLk 219 65 = some (.iload_n 1, 1) := rfl
theorem c_219_66 : mLk 219 66 = some (.iload_n 2, 1) := rfl
theorem c_219_67 : mLk 219 67 = some (.iload_n 3, 1) := rfl
theorem c_219_68 : mLk 219 68 = some (.invokevirtual 363, 3) := rfl
theorem c_219_71 : mLk 219 71 = some (.ireturn, 1) := rfl
theorem c_219_55 : mLk 219 55 = some (.aload_n 0, 1) := rfl
theorem c_219_56 : mLk 219 56 = some (.iload_n 1, 1) := rfl
theorem c_219_57 : mLk 219 57 = some (.iload_n 2, 1) := rfl
theorem c_219_58 : mLk 219 58 = some (.invokevirtual 366, 3) := rfl
theorem c_219_61 : mLk 219 61 = some (.goto 10, 3) := rfl
theorem c_220_55 : mLk 220 55 = some (.iload 4, 2) := rfl
theorem c_220_57 : mLk 220 57 = some (.bipush 99, 2) := rfl
theorem c_220_59 : mLk 220 59 = some (.if_icmp .gt 36, 3) := rfl
theorem c_220_95 : mLk 220 95 = some (.iconst (-1), 1) := rfl
theorem c_220_96 : mLk 220 96 = some (.ireturn, 1) := rfl
theorem c_220_62 : mLk 220 62 = some (.aload_n 0, 1) := rfl
theorem c_220_63 : mLk 220 63 = some (.iload_n 1, 1) := rfl
theorem c_220_64 : mLk 220 64 = some (.invokevirtual 343, 3) := rfl
theorem c_220_67 : mLk 220 67 = some (.ifCond .le 28, 3) := rfl
theorem c_220_70 : mLk 220 70 = some (.aload_n 0, 1) := rfl
theorem c_220_71 : mLk 220 71 = some (.iload_n 1, 1) := rfl
theorem c_220_72 : mLk 220 72 = some (.invokevirtual 399, 3) := rfl
theorem c_220_75 : mLk 220 75 = some (.iload_n 3, 1) := rfl
theorem c_220_76 : mLk 220 76 = some (.if_icmp .lt 6, 3) := rfl
theorem c_220_82 : mLk 220 82 = some (.aload_n 0, 1) := rfl
theorem c_220_83 : mLk 220 83 = some (.iload_n 2, 1) := rfl
theorem c_220_84 : mLk 220 84 = some (.iload_n 1, 1) := rfl
theorem c_220_85 : mLk 220 85 = some (.invokevirtual 335, 3) := rfl
theorem c_220_88 : mLk 220 88 = some (.pop, 1) := rfl
theorem c_220_89 : mLk 220 89 = some (.iinc 4 1, 3) := rfl
theorem c_220_92 : mLk 220 92 = some (.goto (-37), 3) := rfl
theorem c_220_79 : mLk 220 79 = some (.iload 4, 2) := rfl
theorem c_220_81 : mLk 220 81 = some (.ireturn, 1) := rfl
theorem c_220_0 : mLk 220 0 = some (.aload_n 0, 1) := rfl
theorem c_220_1 : mLk 220 1 = some (.iconst 0, 1) := rfl
theorem c_220_2 : mLk 220 2 = some (.putfield 3, 3) := rfl
theorem c_220_5 : mLk 220 5 = some (.aload_n 0, 1) := rfl
theorem c_220_6 : mLk 220 6 = some (.iload_n 1, 1) := rfl
theorem c_220_7 : mLk 220 7 = some (.aload_n 0, 1) := rfl
theorem c_220_8 : mLk 220 8 = some (.getfield 157, 3) := rfl
theorem c_220_11 : mLk 220 11 = some (.invokevirtual 396, 3) := rfl
theorem c_220_14 : mLk 220 14 = some (.ifCond .eq 32, 3) := rfl
theorem c_220_46 : mLk 220 46 = some (.iconst 0, 1) := rfl
theorem c_220_47 : mLk 220 47 = some (.ireturn, 1) := rfl
theorem c_220_17 : mLk 220 17 = some (.aload_n 0, 1) := rfl
theorem c_220_18 : mLk 220 18 = some (.iload_n 2, 1) := rfl
theorem c_220_19 : mLk 220 19 = some (.aload_n 0, 1) := rfl
theorem c_220_20 : mLk 220 20 = some (.getfield 160, 3) := rfl
theorem c_220_23 : mLk 220 23 = some (.invokevirtual 396, 3) := rfl
theorem c_220_26 : mLk 220 26 = some (.ifCond .eq 20, 3) := rfl
theorem c_220_29 : mLk 220 29 = some (.aload_n 0, 1) := rfl
theorem c_220_30 : mLk 220 30 = some (.iload_n 3, 1) := rfl
theorem c_220_31 : mLk 220 31 = some (.iconst 0, 1) := rfl
theorem c_220_32 : mLk 220 32 = some (.sipush 1000, 3) := rfl
theorem c_220_35 : mLk 220 35 = some (.invokestatic 384, 3) := rfl
theorem c_220_38 : mLk 220 38 = some (.iconst 2, 1) := rfl
theorem c_220_39 : mLk 220 39 = some (.iconst 1, 1) := rfl
theorem c_220_40 : mLk 220 40 = some (.invokevirtual 203, 3) := rfl
theorem c_220_43 : mLk 220 43 = some (.ifCond .ne 5, 3) := rfl
theorem c_220_48 : mLk 220 48 = some (.aload_n 0, 1) := rfl
theorem c_220_49 : mLk 220 49 = some (.invokevirtual 317, 3) := rfl
theorem c_220_52 : mLk 220 52 = some (.iconst 0, 1) := rfl
theorem c_220_53 : mLk 220 53 = some (.istore 4, 2) := rfl
set_option maxRecDepth 100000 in
set_option maxHeartbeats 4000000 in
theorem s_217 {sc : List Int32} {e : Int} {d u P Q : Nat} {c : ME} {a1 : Int} {a2 : Int} {a3 : Int} {a4 : Int} {a5 : Int} {a6 : Int} {a7 : Int} {Z : AR → Prop} (hI : Iv u e P Q c) (ha1 : (-2147483648) ≤ a1 ∧ a1 ≤ 2147483647) (ha2 : (-2147483648) ≤ a2 ∧ a2 ≤ 2147483647) (ha3 : (-2147483648) ≤ a3 ∧ a3 ≤ 2147483647) (ha4 : (-2147483648) ≤ a4 ∧ a4 ≤ 2147483647) (ha5 : (-2147483648) ≤ a5 ∧ a5 ≤ 2147483647) (ha6 : (-2147483648) ≤ a6 ∧ a6 ≤ 2147483647) (ha7 : (-2147483648) ≤ a7 ∧ a7 ≤ 2147483647) (K : ∀ (c2 : ME) (y : Int), Iv u e P Q c2 → (∀ (a : Nat) (j : Int), ¬ ((a = 41 ∧ j = 0) ∨ a = 42 ∨ a = 54 ∨ a = 55) → c2 a j = c a j) → (-2147483648) ≤ y ∧ y ≤ 2147483647 → Z (.inl (some (vi y)), Wd P Q P P c2, 0, 0)) : Wp sc (d + 11) 217 0 [(0, .ref 41), (1, vi a1), (2, vi a2), (3, vi a3), (4, vi a4), (5, vi a5), (6, vi a6), (7, vi a7)] [] (Wd P Q P P c) 0 0 Z := by
  have hP := iv_P hI
  have hQ := iv_Q hI
  refine q_aload_n c_217_0 rfl (q_iconst c_217_1 (v_pi (z := 0) c_217_2 kf_8_3 rfl (Nat.le_of_ble_eq_true rfl) rfl rfl rfl (of_decide_eq_true rfl) (q_aload_n c_217_5 rfl (q_iload_n c_217_6 rfl (q_iconst c_217_7 (v_sip c_217_8 (of_decide_eq_true rfl) (q_call c_217_11 rfl rfl rfl ?_)))))))
  refine q_iload_n c_146_0 rfl (q_iload_n c_146_1 rfl ?_)
  by_cases h_1 : a1 < 0
  · refine v_ic_lt_t (t := 14) c_146_2 rfl ⟨ha1.1, h_1, of_decide_eq_true rfl⟩ (q_iconst c_146_14 (v_zret c_146_15 rfl (of_decide_eq_true rfl) (bk_inl (v_if_eq_t (t := 89) c_217_14 rfl (of_decide_eq_true rfl) (q_iconst c_217_89 (q_iconst c_217_90 (q_iconst c_217_91 ?_)))))))
    refine v_cv c_217_92 km_8_203 rfl rfl (Nat.le_of_ble_eq_true rfl) ⟨⟨rfl, rfl⟩, Nat.le_of_ble_eq_true rfl, rfl⟩ (Nat.le_of_ble_eq_true rfl) (Nat.le_of_ble_eq_true rfl) (q_iload_n c_145_0 rfl (v_if_ne_f (t := 26) c_145_1 rfl (of_decide_eq_true rfl) (q_aload_n c_145_4 rfl (v_gi (z := 0) (v := 0) c_145_5 kf_8_3 rfl (Nat.le_of_ble_eq_true rfl) rfl rfl (up_e rfl) (v_if_ne_f (t := 26) c_145_8 rfl (of_decide_eq_true rfl) (q_aload_n c_145_11 rfl (q_iload_n c_145_12 rfl ?_)))))))
    refine v_pi (z := 0) c_145_13 kf_8_3 rfl (Nat.le_of_ble_eq_true rfl) rfl rfl rfl (of_decide_eq_true rfl) (q_aload_n c_145_16 rfl (v_gr (t := 42) c_145_17 kf_8_7 rfl (Nat.le_of_ble_eq_true rfl) rfl (q_iload_n c_145_20 rfl (q_dup2 c_145_21 ⟨rfl, rfl⟩ ?_))))
    have h_2 := ir_42 hI 1
    refine v_ia (v := c 42 1) c_145_22 rfl (of_decide_eq_true rfl) (of_decide_eq_true rfl) (of_decide_eq_true rfl) ((up_c (nn rfl)).trans (up_c (nn rfl))) (q_iconst c_145_23 (v_iadd (v := c 42 1 + 1) c_145_24 rfl (v_nrm (fun y_3 hy_3 => (v_is c_145_25 rfl (of_decide_eq_true rfl) (of_decide_eq_true rfl) (of_decide_eq_true rfl) (q_aload_n c_145_26 rfl (v_gi (z := 0) (v := 1) c_145_27 kf_8_3 rfl (Nat.le_of_ble_eq_true rfl) rfl rfl ((up_c (nn rfl)).trans (up_e rfl)) (v_if_ne_t (t := 37) c_145_30 rfl (of_decide_eq_true rfl) ?_))))))))
    refine q_iconst c_145_37 (v_zret c_145_38 rfl (of_decide_eq_true rfl) (bk_inl (v_if_ne_f (t := 100) c_217_95 rfl (of_decide_eq_true rfl) (q_iconst c_217_98 (q_iret c_217_99 rfl ?_)))))
    have hI_4 := iw_41_0 (v := 0) hI ⟨of_decide_eq_true rfl, of_decide_eq_true rfl⟩
    have hI_5 := iw_41_0 (v := 1) hI_4 ⟨of_decide_eq_true rfl, of_decide_eq_true rfl⟩
    have hI_6 := iw_42 (j := 1) (v := y_3) hI_5 ⟨hy_3.1, hy_3.2⟩
    exact K (up (up (up c 41 0 0) 41 0 1) 42 1 y_3) 0 hI_6 (fun a j hm => (up_b (Decidable.or_iff_not_imp_left.mpr (fun h1 h2 => hm (Or.inr (Or.inl (Decidable.not_not.mp h1)))))).trans ((up_b (Decidable.or_iff_not_imp_left.mpr (fun h1 h2 => hm (Or.inl ⟨Decidable.not_not.mp h1, h2⟩)))).trans (up_b (Decidable.or_iff_not_imp_left.mpr (fun h1 h2 => hm (Or.inl ⟨Decidable.not_not.mp h1, h2⟩)))))) ⟨of_decide_eq_true rfl, of_decide_eq_true rfl⟩
  · refine v_ic_lt_f (t := 14) c_146_2 rfl ⟨of_decide_eq_true rfl, (Int.not_lt.mp h_1), ha1.2⟩ (q_iload_n c_146_5 rfl (q_iload_n c_146_6 rfl ?_))
    by_cases h_7 : a1 > 9999
    · refine v_ic_gt_t (t := 14) c_146_7 rfl ⟨of_decide_eq_true rfl, h_7, ha1.2⟩ (q_iconst c_146_14 (v_zret c_146_15 rfl (of_decide_eq_true rfl) (bk_inl (v_if_eq_t (t := 89) c_217_14 rfl (of_decide_eq_true rfl) (q_iconst c_217_89 (q_iconst c_217_90 (q_iconst c_217_91 ?_)))))))
      refine v_cv c_217_92 km_8_203 rfl rfl (Nat.le_of_ble_eq_true rfl) ⟨⟨rfl, rfl⟩, Nat.le_of_ble_eq_true rfl, rfl⟩ (Nat.le_of_ble_eq_true rfl) (Nat.le_of_ble_eq_true rfl) (q_iload_n c_145_0 rfl (v_if_ne_f (t := 26) c_145_1 rfl (of_decide_eq_true rfl) (q_aload_n c_145_4 rfl (v_gi (z := 0) (v := 0) c_145_5 kf_8_3 rfl (Nat.le_of_ble_eq_true rfl) rfl rfl (up_e rfl) (v_if_ne_f (t := 26) c_145_8 rfl (of_decide_eq_true rfl) (q_aload_n c_145_11 rfl (q_iload_n c_145_12 rfl ?_)))))))
      refine v_pi (z := 0) c_145_13 kf_8_3 rfl (Nat.le_of_ble_eq_true rfl) rfl rfl rfl (of_decide_eq_true rfl) (q_aload_n c_145_16 rfl (v_gr (t := 42) c_145_17 kf_8_7 rfl (Nat.le_of_ble_eq_true rfl) rfl (q_iload_n c_145_20 rfl (q_dup2 c_145_21 ⟨rfl, rfl⟩ ?_))))
      have h_8 := ir_42 hI 1
      refine v_ia (v := c 42 1) c_145_22 rfl (of_decide_eq_true rfl) (of_decide_eq_true rfl) (of_decide_eq_true rfl) ((up_c (nn rfl)).trans (up_c (nn rfl))) (q_iconst c_145_23 (v_iadd (v := c 42 1 + 1) c_145_24 rfl (v_nrm (fun y_9 hy_9 => (v_is c_145_25 rfl (of_decide_eq_true rfl) (of_decide_eq_true rfl) (of_decide_eq_true rfl) (q_aload_n c_145_26 rfl (v_gi (z := 0) (v := 1) c_145_27 kf_8_3 rfl (Nat.le_of_ble_eq_true rfl) rfl rfl ((up_c (nn rfl)).trans (up_e rfl)) (v_if_ne_t (t := 37) c_145_30 rfl (of_decide_eq_true rfl) ?_))))))))
      refine q_iconst c_145_37 (v_zret c_145_38 rfl (of_decide_eq_true rfl) (bk_inl (v_if_ne_f (t := 100) c_217_95 rfl (of_decide_eq_true rfl) (q_iconst c_217_98 (q_iret c_217_99 rfl ?_)))))
      have hI_10 := iw_41_0 (v := 0) hI ⟨of_decide_eq_true rfl, of_decide_eq_true rfl⟩
      have hI_11 := iw_41_0 (v := 1) hI_10 ⟨of_decide_eq_true rfl, of_decide_eq_true rfl⟩
      have hI_12 := iw_42 (j := 1) (v := y_9) hI_11 ⟨hy_9.1, hy_9.2⟩
      exact K (up (up (up c 41 0 0) 41 0 1) 42 1 y_9) 0 hI_12 (fun a j hm => (up_b (Decidable.or_iff_not_imp_left.mpr (fun h1 h2 => hm (Or.inr (Or.inl (Decidable.not_not.mp h1)))))).trans ((up_b (Decidable.or_iff_not_imp_left.mpr (fun h1 h2 => hm (Or.inl ⟨Decidable.not_not.mp h1, h2⟩)))).trans (up_b (Decidable.or_iff_not_imp_left.mpr (fun h1 h2 => hm (Or.inl ⟨Decidable.not_not.mp h1, h2⟩)))))) ⟨of_decide_eq_true rfl, of_decide_eq_true rfl⟩
    · refine v_ic_gt_f (t := 14) c_146_7 rfl ⟨ha1.1, (Int.not_lt.mp h_7), of_decide_eq_true rfl⟩ (q_iconst c_146_10 (q_goto (t := 15) c_146_11 rfl (v_zret c_146_15 rfl (of_decide_eq_true rfl) (bk_inl (v_if_eq_f (t := 89) c_217_14 rfl (of_decide_eq_true rfl) (q_iload_n c_217_17 rfl (q_iconst c_217_18 ?_)))))))
      refine v_sip c_217_19 (of_decide_eq_true rfl) (q_call c_217_22 rfl rfl rfl (q_iload_n c_146_0 rfl (q_iload_n c_146_1 rfl ?_)))
      by_cases h_13 : a2 < 0
      · refine v_ic_lt_t (t := 14) c_146_2 rfl ⟨ha2.1, h_13, of_decide_eq_true rfl⟩ (q_iconst c_146_14 (v_zret c_146_15 rfl (of_decide_eq_true rfl) (bk_inl (v_if_eq_t (t := 89) c_217_25 rfl (of_decide_eq_true rfl) (q_iconst c_217_89 (q_iconst c_217_90 (q_iconst c_217_91 ?_)))))))
        refine v_cv c_217_92 km_8_203 rfl rfl (Nat.le_of_ble_eq_true rfl) ⟨⟨rfl, rfl⟩, Nat.le_of_ble_eq_true rfl, rfl⟩ (Nat.le_of_ble_eq_true rfl) (Nat.le_of_ble_eq_true rfl) (q_iload_n c_145_0 rfl (v_if_ne_f (t := 26) c_145_1 rfl (of_decide_eq_true rfl) (q_aload_n c_145_4 rfl (v_gi (z := 0) (v := 0) c_145_5 kf_8_3 rfl (Nat.le_of_ble_eq_true rfl) rfl rfl (up_e rfl) (v_if_ne_f (t := 26) c_145_8 rfl (of_decide_eq_true rfl) (q_aload_n c_145_11 rfl (q_iload_n c_145_12 rfl ?_)))))))
        refine v_pi (z := 0) c_145_13 kf_8_3 rfl (Nat.le_of_ble_eq_true rfl) rfl rfl rfl (of_decide_eq_true rfl) (q_aload_n c_145_16 rfl (v_gr (t := 42) c_145_17 kf_8_7 rfl (Nat.le_of_ble_eq_true rfl) rfl (q_iload_n c_145_20 rfl (q_dup2 c_145_21 ⟨rfl, rfl⟩ ?_))))
        have h_14 := ir_42 hI 1
        refine v_ia (v := c 42 1) c_145_22 rfl (of_decide_eq_true rfl) (of_decide_eq_true rfl) (of_decide_eq_true rfl) ((up_c (nn rfl)).trans (up_c (nn rfl))) (q_iconst c_145_23 (v_iadd (v := c 42 1 + 1) c_145_24 rfl (v_nrm (fun y_15 hy_15 => (v_is c_145_25 rfl (of_decide_eq_true rfl) (of_decide_eq_true rfl) (of_decide_eq_true rfl) (q_aload_n c_145_26 rfl (v_gi (z := 0) (v := 1) c_145_27 kf_8_3 rfl (Nat.le_of_ble_eq_true rfl) rfl rfl ((up_c (nn rfl)).trans (up_e rfl)) (v_if_ne_t (t := 37) c_145_30 rfl (of_decide_eq_true rfl) ?_))))))))
        refine q_iconst c_145_37 (v_zret c_145_38 rfl (of_decide_eq_true rfl) (bk_inl (v_if_ne_f (t := 100) c_217_95 rfl (of_decide_eq_true rfl) (q_iconst c_217_98 (q_iret c_217_99 rfl ?_)))))
        have hI_16 := iw_41_0 (v := 0) hI ⟨of_decide_eq_true rfl, of_decide_eq_true rfl⟩
        have hI_17 := iw_41_0 (v := 1) hI_16 ⟨of_decide_eq_true rfl, of_decide_eq_true rfl⟩
        have hI_18 := iw_42 (j := 1) (v := y_15) hI_17 ⟨hy_15.1, hy_15.2⟩
        exact K (up (up (up c 41 0 0) 41 0 1) 42 1 y_15) 0 hI_18 (fun a j hm => (up_b (Decidable.or_iff_not_imp_left.mpr (fun h1 h2 => hm (Or.inr (Or.inl (Decidable.not_not.mp h1)))))).trans ((up_b (Decidable.or_iff_not_imp_left.mpr (fun h1 h2 => hm (Or.inl ⟨Decidable.not_not.mp h1, h2⟩)))).trans (up_b (Decidable.or_iff_not_imp_left.mpr (fun h1 h2 => hm (Or.inl ⟨Decidable.not_not.mp h1, h2⟩)))))) ⟨of_decide_eq_true rfl, of_decide_eq_true rfl⟩
      · refine v_ic_lt_f (t := 14) c_146_2 rfl ⟨of_decide_eq_true rfl, (Int.not_lt.mp h_13), ha2.2⟩ (q_iload_n c_146_5 rfl (q_iload_n c_146_6 rfl ?_))
        by_cases h_19 : a2 > 9999
        · refine v_ic_gt_t (t := 14) c_146_7 rfl ⟨of_decide_eq_true rfl, h_19, ha2.2⟩ (q_iconst c_146_14 (v_zret c_146_15 rfl (of_decide_eq_true rfl) (bk_inl (v_if_eq_t (t := 89) c_217_25 rfl (of_decide_eq_true rfl) (q_iconst c_217_89 (q_iconst c_217_90 (q_iconst c_217_91 ?_)))))))
          refine v_cv c_217_92 km_8_203 rfl rfl (Nat.le_of_ble_eq_true rfl) ⟨⟨rfl, rfl⟩, Nat.le_of_ble_eq_true rfl, rfl⟩ (Nat.le_of_ble_eq_true rfl) (Nat.le_of_ble_eq_true rfl) (q_iload_n c_145_0 rfl (v_if_ne_f (t := 26) c_145_1 rfl (of_decide_eq_true rfl) (q_aload_n c_145_4 rfl (v_gi (z := 0) (v := 0) c_145_5 kf_8_3 rfl (Nat.le_of_ble_eq_true rfl) rfl rfl (up_e rfl) (v_if_ne_f (t := 26) c_145_8 rfl (of_decide_eq_true rfl) (q_aload_n c_145_11 rfl (q_iload_n c_145_12 rfl ?_)))))))
          refine v_pi (z := 0) c_145_13 kf_8_3 rfl (Nat.le_of_ble_eq_true rfl) rfl rfl rfl (of_decide_eq_true rfl) (q_aload_n c_145_16 rfl (v_gr (t := 42) c_145_17 kf_8_7 rfl (Nat.le_of_ble_eq_true rfl) rfl (q_iload_n c_145_20 rfl (q_dup2 c_145_21 ⟨rfl, rfl⟩ ?_))))
          have h_20 := ir_42 hI 1
          refine v_ia (v := c 42 1) c_145_22 rfl (of_decide_eq_true rfl) (of_decide_eq_true rfl) (of_decide_eq_true rfl) ((up_c (nn rfl)).trans (up_c (nn rfl))) (q_iconst c_145_23 (v_iadd (v := c 42 1 + 1) c_145_24 rfl (v_nrm (fun y_21 hy_21 => (v_is c_145_25 rfl (of_decide_eq_true rfl) (of_decide_eq_true rfl) (of_decide_eq_true rfl) (q_aload_n c_145_26 rfl (v_gi (z := 0) (v := 1) c_145_27 kf_8_3 rfl (Nat.le_of_ble_eq_true rfl) rfl rfl ((up_c (nn rfl)).trans (up_e rfl)) (v_if_ne_t (t := 37) c_145_30 rfl (of_decide_eq_true rfl) ?_))))))))
          refine q_iconst c_145_37 (v_zret c_145_38 rfl (of_decide_eq_true rfl) (bk_inl (v_if_ne_f (t := 100) c_217_95 rfl (of_decide_eq_true rfl) (q_iconst c_217_98 (q_iret c_217_99 rfl ?_)))))
          have hI_22 := iw_41_0 (v := 0) hI ⟨of_decide_eq_true rfl, of_decide_eq_true rfl⟩
          have hI_23 := iw_41_0 (v := 1) hI_22 ⟨of_decide_eq_true rfl, of_decide_eq_true rfl⟩
          have hI_24 := iw_42 (j := 1) (v := y_21) hI_23 ⟨hy_21.1, hy_21.2⟩
          exact K (up (up (up c 41 0 0) 41 0 1) 42 1 y_21) 0 hI_24 (fun a j hm => (up_b (Decidable.or_iff_not_imp_left.mpr (fun h1 h2 => hm (Or.inr (Or.inl (Decidable.not_not.mp h1)))))).trans ((up_b (Decidable.or_iff_not_imp_left.mpr (fun h1 h2 => hm (Or.inl ⟨Decidable.not_not.mp h1, h2⟩)))).trans (up_b (Decidable.or_iff_not_imp_left.mpr (fun h1 h2 => hm (Or.inl ⟨Decidable.not_not.mp h1, h2⟩)))))) ⟨of_decide_eq_true rfl, of_decide_eq_true rfl⟩
        · refine v_ic_gt_f (t := 14) c_146_7 rfl ⟨ha2.1, (Int.not_lt.mp h_19), of_decide_eq_true rfl⟩ (q_iconst c_146_10 (q_goto (t := 15) c_146_11 rfl (v_zret c_146_15 rfl (of_decide_eq_true rfl) (bk_inl (v_if_eq_f (t := 89) c_217_25 rfl (of_decide_eq_true rfl) (q_iload_n c_217_28 rfl (q_iconst c_217_29 ?_)))))))
          refine v_sip c_217_30 (of_decide_eq_true rfl) (q_call c_217_33 rfl rfl rfl (q_iload_n c_146_0 rfl (q_iload_n c_146_1 rfl ?_)))
          by_cases h_25 : a3 < 0
          · refine v_ic_lt_t (t := 14) c_146_2 rfl ⟨ha3.1, h_25, of_decide_eq_true rfl⟩ (q_iconst c_146_14 (v_zret c_146_15 rfl (of_decide_eq_true rfl) (bk_inl (v_if_eq_t (t := 89) c_217_36 rfl (of_decide_eq_true rfl) (q_iconst c_217_89 (q_iconst c_217_90 (q_iconst c_217_91 ?_)))))))
            refine v_cv c_217_92 km_8_203 rfl rfl (Nat.le_of_ble_eq_true rfl) ⟨⟨rfl, rfl⟩, Nat.le_of_ble_eq_true rfl, rfl⟩ (Nat.le_of_ble_eq_true rfl) (Nat.le_of_ble_eq_true rfl) (q_iload_n c_145_0 rfl (v_if_ne_f (t := 26) c_145_1 rfl (of_decide_eq_true rfl) (q_aload_n c_145_4 rfl (v_gi (z := 0) (v := 0) c_145_5 kf_8_3 rfl (Nat.le_of_ble_eq_true rfl) rfl rfl (up_e rfl) (v_if_ne_f (t := 26) c_145_8 rfl (of_decide_eq_true rfl) (q_aload_n c_145_11 rfl (q_iload_n c_145_12 rfl ?_)))))))
            refine v_pi (z := 0) c_145_13 kf_8_3 rfl (Nat.le_of_ble_eq_true rfl) rfl rfl rfl (of_decide_eq_true rfl) (q_aload_n c_145_16 rfl (v_gr (t := 42) c_145_17 kf_8_7 rfl (Nat.le_of_ble_eq_true rfl) rfl (q_iload_n c_145_20 rfl (q_dup2 c_145_21 ⟨rfl, rfl⟩ ?_))))
            have h_26 := ir_42 hI 1
            refine v_ia (v := c 42 1) c_145_22 rfl (of_decide_eq_true rfl) (of_decide_eq_true rfl) (of_decide_eq_true rfl) ((up_c (nn rfl)).trans (up_c (nn rfl))) (q_iconst c_145_23 (v_iadd (v := c 42 1 + 1) c_145_24 rfl (v_nrm (fun y_27 hy_27 => (v_is c_145_25 rfl (of_decide_eq_true rfl) (of_decide_eq_true rfl) (of_decide_eq_true rfl) (q_aload_n c_145_26 rfl (v_gi (z := 0) (v := 1) c_145_27 kf_8_3 rfl (Nat.le_of_ble_eq_true rfl) rfl rfl ((up_c (nn rfl)).trans (up_e rfl)) (v_if_ne_t (t := 37) c_145_30 rfl (of_decide_eq_true rfl) ?_))))))))
            refine q_iconst c_145_37 (v_zret c_145_38 rfl (of_decide_eq_true rfl) (bk_inl (v_if_ne_f (t := 100) c_217_95 rfl (of_decide_eq_true rfl) (q_iconst c_217_98 (q_iret c_217_99 rfl ?_)))))
            have hI_28 := iw_41_0 (v := 0) hI ⟨of_decide_eq_true rfl, of_decide_eq_true rfl⟩
            have hI_29 := iw_41_0 (v := 1) hI_28 ⟨of_decide_eq_true rfl, of_decide_eq_true rfl⟩
            have hI_30 := iw_42 (j := 1) (v := y_27) hI_29 ⟨hy_27.1, hy_27.2⟩
            exact K (up (up (up c 41 0 0) 41 0 1) 42 1 y_27) 0 hI_30 (fun a j hm => (up_b (Decidable.or_iff_not_imp_left.mpr (fun h1 h2 => hm (Or.inr (Or.inl (Decidable.not_not.mp h1)))))).trans ((up_b (Decidable.or_iff_not_imp_left.mpr (fun h1 h2 => hm (Or.inl ⟨Decidable.not_not.mp h1, h2⟩)))).trans (up_b (Decidable.or_iff_not_imp_left.mpr (fun h1 h2 => hm (Or.inl ⟨Decidable.not_not.mp h1, h2⟩)))))) ⟨of_decide_eq_true rfl, of_decide_eq_true rfl⟩
          · refine v_ic_lt_f (t := 14) c_146_2 rfl ⟨of_decide_eq_true rfl, (Int.not_lt.mp h_25), ha3.2⟩ (q_iload_n c_146_5 rfl (q_iload_n c_146_6 rfl ?_))
            by_cases h_31 : a3 > 9999
            · refine v_ic_gt_t (t := 14) c_146_7 rfl ⟨of_decide_eq_true rfl, h_31, ha3.2⟩ (q_iconst c_146_14 (v_zret c_146_15 rfl (of_decide_eq_true rfl) (bk_inl (v_if_eq_t (t := 89) c_217_36 rfl (of_decide_eq_true rfl) (q_iconst c_217_89 (q_iconst c_217_90 (q_iconst c_217_91 ?_)))))))
              refine v_cv c_217_92 km_8_203 rfl rfl (Nat.le_of_ble_eq_true rfl) ⟨⟨rfl, rfl⟩, Nat.le_of_ble_eq_true rfl, rfl⟩ (Nat.le_of_ble_eq_true rfl) (Nat.le_of_ble_eq_true rfl) (q_iload_n c_145_0 rfl (v_if_ne_f (t := 26) c_145_1 rfl (of_decide_eq_true rfl) (q_aload_n c_145_4 rfl (v_gi (z := 0) (v := 0) c_145_5 kf_8_3 rfl (Nat.le_of_ble_eq_true rfl) rfl rfl (up_e rfl) (v_if_ne_f (t := 26) c_145_8 rfl (of_decide_eq_true rfl) (q_aload_n c_145_11 rfl (q_iload_n c_145_12 rfl ?_)))))))
              refine v_pi (z := 0) c_145_13 kf_8_3 rfl (Nat.le_of_ble_eq_true rfl) rfl rfl rfl (of_decide_eq_true rfl) (q_aload_n c_145_16 rfl (v_gr (t := 42) c_145_17 kf_8_7 rfl (Nat.le_of_ble_eq_true rfl) rfl (q_iload_n c_145_20 rfl (q_dup2 c_145_21 ⟨rfl, rfl⟩ ?_))))
              have h_32 := ir_42 hI 1
              refine v_ia (v := c 42 1) c_145_22 rfl (of_decide_eq_true rfl) (of_decide_eq_true rfl) (of_decide_eq_true rfl) ((up_c (nn rfl)).trans (up_c (nn rfl))) (q_iconst c_145_23 (v_iadd (v := c 42 1 + 1) c_145_24 rfl (v_nrm (fun y_33 hy_33 => (v_is c_145_25 rfl (of_decide_eq_true rfl) (of_decide_eq_true rfl) (of_decide_eq_true rfl) (q_aload_n c_145_26 rfl (v_gi (z := 0) (v := 1) c_145_27 kf_8_3 rfl (Nat.le_of_ble_eq_true rfl) rfl rfl ((up_c (nn rfl)).trans (up_e rfl)) (v_if_ne_t (t := 37) c_145_30 rfl (of_decide_eq_true rfl) ?_))))))))
              refine q_iconst c_145_37 (v_zret c_145_38 rfl (of_decide_eq_true rfl) (bk_inl (v_if_ne_f (t := 100) c_217_95 rfl (of_decide_eq_true rfl) (q_iconst c_217_98 (q_iret c_217_99 rfl ?_)))))
              have hI_34 := iw_41_0 (v := 0) hI ⟨of_decide_eq_true rfl, of_decide_eq_true rfl⟩
              have hI_35 := iw_41_0 (v := 1) hI_34 ⟨of_decide_eq_true rfl, of_decide_eq_true rfl⟩
              have hI_36 := iw_42 (j := 1) (v := y_33) hI_35 ⟨hy_33.1, hy_33.2⟩
              exact K (up (up (up c 41 0 0) 41 0 1) 42 1 y_33) 0 hI_36 (fun a j hm => (up_b (Decidable.or_iff_not_imp_left.mpr (fun h1 h2 => hm (Or.inr (Or.inl (Decidable.not_not.mp h1)))))).trans ((up_b (Decidable.or_iff_not_imp_left.mpr (fun h1 h2 => hm (Or.inl ⟨Decidable.not_not.mp h1, h2⟩)))).trans (up_b (Decidable.or_iff_not_imp_left.mpr (fun h1 h2 => hm (Or.inl ⟨Decidable.not_not.mp h1, h2⟩)))))) ⟨of_decide_eq_true rfl, of_decide_eq_true rfl⟩
            · refine v_ic_gt_f (t := 14) c_146_7 rfl ⟨ha3.1, (Int.not_lt.mp h_31), of_decide_eq_true rfl⟩ (q_iconst c_146_10 (q_goto (t := 15) c_146_11 rfl (v_zret c_146_15 rfl (of_decide_eq_true rfl) (bk_inl (v_if_eq_f (t := 89) c_217_36 rfl (of_decide_eq_true rfl) (q_iload c_217_39 rfl (q_iconst c_217_41 ?_)))))))
              refine v_sip c_217_42 (of_decide_eq_true rfl) (q_call c_217_45 rfl rfl rfl (q_iload_n c_146_0 rfl (q_iload_n c_146_1 rfl ?_)))
              by_cases h_37 : a4 < 0
              · refine v_ic_lt_t (t := 14) c_146_2 rfl ⟨ha4.1, h_37, of_decide_eq_true rfl⟩ (q_iconst c_146_14 (v_zret c_146_15 rfl (of_decide_eq_true rfl) (bk_inl (v_if_eq_t (t := 89) c_217_48 rfl (of_decide_eq_true rfl) (q_iconst c_217_89 (q_iconst c_217_90 (q_iconst c_217_91 ?_)))))))
                refine v_cv c_217_92 km_8_203 rfl rfl (Nat.le_of_ble_eq_true rfl) ⟨⟨rfl, rfl⟩, Nat.le_of_ble_eq_true rfl, rfl⟩ (Nat.le_of_ble_eq_true rfl) (Nat.le_of_ble_eq_true rfl) (q_iload_n c_145_0 rfl (v_if_ne_f (t := 26) c_145_1 rfl (of_decide_eq_true rfl) (q_aload_n c_145_4 rfl (v_gi (z := 0) (v := 0) c_145_5 kf_8_3 rfl (Nat.le_of_ble_eq_true rfl) rfl rfl (up_e rfl) (v_if_ne_f (t := 26) c_145_8 rfl (of_decide_eq_true rfl) (q_aload_n c_145_11 rfl (q_iload_n c_145_12 rfl ?_)))))))
                refine v_pi (z := 0) c_145_13 kf_8_3 rfl (Nat.le_of_ble_eq_true rfl) rfl rfl rfl (of_decide_eq_true rfl) (q_aload_n c_145_16 rfl (v_gr (t := 42) c_145_17 kf_8_7 rfl (Nat.le_of_ble_eq_true rfl) rfl (q_iload_n c_145_20 rfl (q_dup2 c_145_21 ⟨rfl, rfl⟩ ?_))))
                have h_38 := ir_42 hI 1
                refine v_ia (v := c 42 1) c_145_22 rfl (of_decide_eq_true rfl) (of_decide_eq_true rfl) (of_decide_eq_true rfl) ((up_c (nn rfl)).trans (up_c (nn rfl))) (q_iconst c_145_23 (v_iadd (v := c 42 1 + 1) c_145_24 rfl (v_nrm (fun y_39 hy_39 => (v_is c_145_25 rfl (of_decide_eq_true rfl) (of_decide_eq_true rfl) (of_decide_eq_true rfl) (q_aload_n c_145_26 rfl (v_gi (z := 0) (v := 1) c_145_27 kf_8_3 rfl (Nat.le_of_ble_eq_true rfl) rfl rfl ((up_c (nn rfl)).trans (up_e rfl)) (v_if_ne_t (t := 37) c_145_30 rfl (of_decide_eq_true rfl) ?_))))))))
                refine q_iconst c_145_37 (v_zret c_145_38 rfl (of_decide_eq_true rfl) (bk_inl (v_if_ne_f (t := 100) c_217_95 rfl (of_decide_eq_true rfl) (q_iconst c_217_98 (q_iret c_217_99 rfl ?_)))))
                have hI_40 := iw_41_0 (v := 0) hI ⟨of_decide_eq_true rfl, of_decide_eq_true rfl⟩
                have hI_41 := iw_41_0 (v := 1) hI_40 ⟨of_decide_eq_true rfl, of_decide_eq_true rfl⟩
                have hI_42 := iw_42 (j := 1) (v := y_39) hI_41 ⟨hy_39.1, hy_39.2⟩
                exact K (up (up (up c 41 0 0) 41 0 1) 42 1 y_39) 0 hI_42 (fun a j hm => (up_b (Decidable.or_iff_not_imp_left.mpr (fun h1 h2 => hm (Or.inr (Or.inl (Decidable.not_not.mp h1)))))).trans ((up_b (Decidable.or_iff_not_imp_left.mpr (fun h1 h2 => hm (Or.inl ⟨Decidable.not_not.mp h1, h2⟩)))).trans (up_b (Decidable.or_iff_not_imp_left.mpr (fun h1 h2 => hm (Or.inl ⟨Decidable.not_not.mp h1, h2⟩)))))) ⟨of_decide_eq_true rfl, of_decide_eq_true rfl⟩
              · refine v_ic_lt_f (t := 14) c_146_2 rfl ⟨of_decide_eq_true rfl, (Int.not_lt.mp h_37), ha4.2⟩ (q_iload_n c_146_5 rfl (q_iload_n c_146_6 rfl ?_))
                by_cases h_43 : a4 > 9999
                · refine v_ic_gt_t (t := 14) c_146_7 rfl ⟨of_decide_eq_true rfl, h_43, ha4.2⟩ (q_iconst c_146_14 (v_zret c_146_15 rfl (of_decide_eq_true rfl) (bk_inl (v_if_eq_t (t := 89) c_217_48 rfl (of_decide_eq_true rfl) (q_iconst c_217_89 (q_iconst c_217_90 (q_iconst c_217_91 ?_)))))))
                  refine v_cv c_217_92 km_8_203 rfl rfl (Nat.le_of_ble_eq_true rfl) ⟨⟨rfl, rfl⟩, Nat.le_of_ble_eq_true rfl, rfl⟩ (Nat.le_of_ble_eq_true rfl) (Nat.le_of_ble_eq_true rfl) (q_iload_n c_145_0 rfl (v_if_ne_f (t := 26) c_145_1 rfl (of_decide_eq_true rfl) (q_aload_n c_145_4 rfl (v_gi (z := 0) (v := 0) c_145_5 kf_8_3 rfl (Nat.le_of_ble_eq_true rfl) rfl rfl (up_e rfl) (v_if_ne_f (t := 26) c_145_8 rfl (of_decide_eq_true rfl) (q_aload_n c_145_11 rfl (q_iload_n c_145_12 rfl ?_)))))))
                  refine v_pi (z := 0) c_145_13 kf_8_3 rfl (Nat.le_of_ble_eq_true rfl) rfl rfl rfl (of_decide_eq_true rfl) (q_aload_n c_145_16 rfl (v_gr (t := 42) c_145_17 kf_8_7 rfl (Nat.le_of_ble_eq_true rfl) rfl (q_iload_n c_145_20 rfl (q_dup2 c_145_21 ⟨rfl, rfl⟩ ?_))))
                  have h_44 := ir_42 hI 1
                  refine v_ia (v := c 42 1) c_145_22 rfl (of_decide_eq_true rfl) (of_decide_eq_true rfl) (of_decide_eq_true rfl) ((up_c (nn rfl)).trans (up_c (nn rfl))) (q_iconst c_145_23 (v_iadd (v := c 42 1 + 1) c_145_24 rfl (v_nrm (fun y_45 hy_45 => (v_is c_145_25 rfl (of_decide_eq_true rfl) (of_decide_eq_true rfl) (of_decide_eq_true rfl) (q_aload_n c_145_26 rfl (v_gi (z := 0) (v := 1) c_145_27 kf_8_3 rfl (Nat.le_of_ble_eq_true rfl) rfl rfl ((up_c (nn rfl)).trans (up_e rfl)) (v_if_ne_t (t := 37) c_145_30 rfl (of_decide_eq_true rfl) ?_))))))))
                  refine q_iconst c_145_37 (v_zret c_145_38 rfl (of_decide_eq_true rfl) (bk_inl (v_if_ne_f (t := 100) c_217_95 rfl (of_decide_eq_true rfl) (q_iconst c_217_98 (q_iret c_217_99 rfl ?_)))))
                  have hI_46 := iw_41_0 (v := 0) hI ⟨of_decide_eq_true rfl, of_decide_eq_true rfl⟩
                  have hI_47 := iw_41_0 (v := 1) hI_46 ⟨of_decide_eq_true rfl, of_decide_eq_true rfl⟩
                  have hI_48 := iw_42 (j := 1) (v := y_45) hI_47 ⟨hy_45.1, hy_45.2⟩
                  exact K (up (up (up c 41 0 0) 41 0 1) 42 1 y_45) 0 hI_48 (fun a j hm => (up_b (Decidable.or_iff_not_imp_left.mpr (fun h1 h2 => hm (Or.inr (Or.inl (Decidable.not_not.mp h1)))))).trans ((up_b (Decidable.or_iff_not_imp_left.mpr (fun h1 h2 => hm (Or.inl ⟨Decidable.not_not.mp h1, h2⟩)))).trans (up_b (Decidable.or_iff_not_imp_left.mpr (fun h1 h2 => hm (Or.inl ⟨Decidable.not_not.mp h1, h2⟩)))))) ⟨of_decide_eq_true rfl, of_decide_eq_true rfl⟩
                · refine v_ic_gt_f (t := 14) c_146_7 rfl ⟨ha4.1, (Int.not_lt.mp h_43), of_decide_eq_true rfl⟩ (q_iconst c_146_10 (q_goto (t := 15) c_146_11 rfl (v_zret c_146_15 rfl (of_decide_eq_true rfl) (bk_inl (v_if_eq_f (t := 89) c_217_48 rfl (of_decide_eq_true rfl) (q_iload c_217_51 rfl (q_iconst c_217_53 ?_)))))))
                  refine v_sip c_217_54 (of_decide_eq_true rfl) (q_call c_217_57 rfl rfl rfl (q_iload_n c_146_0 rfl (q_iload_n c_146_1 rfl ?_)))
                  by_cases h_49 : a5 < 0
                  · refine v_ic_lt_t (t := 14) c_146_2 rfl ⟨ha5.1, h_49, of_decide_eq_true rfl⟩ (q_iconst c_146_14 (v_zret c_146_15 rfl (of_decide_eq_true rfl) (bk_inl (v_if_eq_t (t := 89) c_217_60 rfl (of_decide_eq_true rfl) (q_iconst c_217_89 (q_iconst c_217_90 (q_iconst c_217_91 ?_)))))))
                    refine v_cv c_217_92 km_8_203 rfl rfl (Nat.le_of_ble_eq_true rfl) ⟨⟨rfl, rfl⟩, Nat.le_of_ble_eq_true rfl, rfl⟩ (Nat.le_of_ble_eq_true rfl) (Nat.le_of_ble_eq_true rfl) (q_iload_n c_145_0 rfl (v_if_ne_f (t := 26) c_145_1 rfl (of_decide_eq_true rfl) (q_aload_n c_145_4 rfl (v_gi (z := 0) (v := 0) c_145_5 kf_8_3 rfl (Nat.le_of_ble_eq_true rfl) rfl rfl (up_e rfl) (v_if_ne_f (t := 26) c_145_8 rfl (of_decide_eq_true rfl) (q_aload_n c_145_11 rfl (q_iload_n c_145_12 rfl ?_)))))))
                    refine v_pi (z := 0) c_145_13 kf_8_3 rfl (Nat.le_of_ble_eq_true rfl) rfl rfl rfl (of_decide_eq_true rfl) (q_aload_n c_145_16 rfl (v_gr (t := 42) c_145_17 kf_8_7 rfl (Nat.le_of_ble_eq_true rfl) rfl (q_iload_n c_145_20 rfl (q_dup2 c_145_21 ⟨rfl, rfl⟩ ?_))))
                    have h_50 := ir_42 hI 1
                    refine v_ia (v := c 42 1) c_145_22 rfl (of_decide_eq_true rfl) (of_decide_eq_true rfl) (of_decide_eq_true rfl) ((up_c (nn rfl)).trans (up_c (nn rfl))) (q_iconst c_145_23 (v_iadd (v := c 42 1 + 1) c_145_24 rfl (v_nrm (fun y_51 hy_51 => (v_is c_145_25 rfl (of_decide_eq_true rfl) (of_decide_eq_true rfl) (of_decide_eq_true rfl) (q_aload_n c_145_26 rfl (v_gi (z := 0) (v := 1) c_145_27 kf_8_3 rfl (Nat.le_of_ble_eq_true rfl) rfl rfl ((up_c (nn rfl)).trans (up_e rfl)) (v_if_ne_t (t := 37) c_145_30 rfl (of_decide_eq_true rfl) ?_))))))))
                    refine q_iconst c_145_37 (v_zret c_145_38 rfl (of_decide_eq_true rfl) (bk_inl (v_if_ne_f (t := 100) c_217_95 rfl (of_decide_eq_true rfl) (q_iconst c_217_98 (q_iret c_217_99 rfl ?_)))))
                    have hI_52 := iw_41_0 (v := 0) hI ⟨of_decide_eq_true rfl, of_decide_eq_true rfl⟩
                    have hI_53 := iw_41_0 (v := 1) hI_52 ⟨of_decide_eq_true rfl, of_decide_eq_true rfl⟩
                    have hI_54 := iw_42 (j := 1) (v := y_51) hI_53 ⟨hy_51.1, hy_51.2⟩
                    exact K (up (up (up c 41 0 0) 41 0 1) 42 1 y_51) 0 hI_54 (fun a j hm => (up_b (Decidable.or_iff_not_imp_left.mpr (fun h1 h2 => hm (Or.inr (Or.inl (Decidable.not_not.mp h1)))))).trans ((up_b (Decidable.or_iff_not_imp_left.mpr (fun h1 h2 => hm (Or.inl ⟨Decidable.not_not.mp h1, h2⟩)))).trans (up_b (Decidable.or_iff_not_imp_left.mpr (fun h1 h2 => hm (Or.inl ⟨Decidable.not_not.mp h1, h2⟩)))))) ⟨of_decide_eq_true rfl, of_decide_eq_true rfl⟩
                  · refine v_ic_lt_f (t := 14) c_146_2 rfl ⟨of_decide_eq_true rfl, (Int.not_lt.mp h_49), ha5.2⟩ (q_iload_n c_146_5 rfl (q_iload_n c_146_6 rfl ?_))
                    by_cases h_55 : a5 > 400
                    · refine v_ic_gt_t (t := 14) c_146_7 rfl ⟨of_decide_eq_true rfl, h_55, ha5.2⟩ (q_iconst c_146_14 (v_zret c_146_15 rfl (of_decide_eq_true rfl) (bk_inl (v_if_eq_t (t := 89) c_217_60 rfl (of_decide_eq_true rfl) (q_iconst c_217_89 (q_iconst c_217_90 (q_iconst c_217_91 ?_)))))))
                      refine v_cv c_217_92 km_8_203 rfl rfl (Nat.le_of_ble_eq_true rfl) ⟨⟨rfl, rfl⟩, Nat.le_of_ble_eq_true rfl, rfl⟩ (Nat.le_of_ble_eq_true rfl) (Nat.le_of_ble_eq_true rfl) (q_iload_n c_145_0 rfl (v_if_ne_f (t := 26) c_145_1 rfl (of_decide_eq_true rfl) (q_aload_n c_145_4 rfl (v_gi (z := 0) (v := 0) c_145_5 kf_8_3 rfl (Nat.le_of_ble_eq_true rfl) rfl rfl (up_e rfl) (v_if_ne_f (t := 26) c_145_8 rfl (of_decide_eq_true rfl) (q_aload_n c_145_11 rfl (q_iload_n c_145_12 rfl ?_)))))))
                      refine v_pi (z := 0) c_145_13 kf_8_3 rfl (Nat.le_of_ble_eq_true rfl) rfl rfl rfl (of_decide_eq_true rfl) (q_aload_n c_145_16 rfl (v_gr (t := 42) c_145_17 kf_8_7 rfl (Nat.le_of_ble_eq_true rfl) rfl (q_iload_n c_145_20 rfl (q_dup2 c_145_21 ⟨rfl, rfl⟩ ?_))))
                      have h_56 := ir_42 hI 1
                      refine v_ia (v := c 42 1) c_145_22 rfl (of_decide_eq_true rfl) (of_decide_eq_true rfl) (of_decide_eq_true rfl) ((up_c (nn rfl)).trans (up_c (nn rfl))) (q_iconst c_145_23 (v_iadd (v := c 42 1 + 1) c_145_24 rfl (v_nrm (fun y_57 hy_57 => (v_is c_145_25 rfl (of_decide_eq_true rfl) (of_decide_eq_true rfl) (of_decide_eq_true rfl) (q_aload_n c_145_26 rfl (v_gi (z := 0) (v := 1) c_145_27 kf_8_3 rfl (Nat.le_of_ble_eq_true rfl) rfl rfl ((up_c (nn rfl)).trans (up_e rfl)) (v_if_ne_t (t := 37) c_145_30 rfl (of_decide_eq_true rfl) ?_))))))))
                      refine q_iconst c_145_37 (v_zret c_145_38 rfl (of_decide_eq_true rfl) (bk_inl (v_if_ne_f (t := 100) c_217_95 rfl (of_decide_eq_true rfl) (q_iconst c_217_98 (q_iret c_217_99 rfl ?_)))))
                      have hI_58 := iw_41_0 (v := 0) hI ⟨of_decide_eq_true rfl, of_decide_eq_true rfl⟩
                      have hI_59 := iw_41_0 (v := 1) hI_58 ⟨of_decide_eq_true rfl, of_decide_eq_true rfl⟩
                      have hI_60 := iw_42 (j := 1) (v := y_57) hI_59 ⟨hy_57.1, hy_57.2⟩
                      exact K (up (up (up c 41 0 0) 41 0 1) 42 1 y_57) 0 hI_60 (fun a j hm => (up_b (Decidable.or_iff_not_imp_left.mpr (fun h1 h2 => hm (Or.inr (Or.inl (Decidable.not_not.mp h1)))))).trans ((up_b (Decidable.or_iff_not_imp_left.mpr (fun h1 h2 => hm (Or.inl ⟨Decidable.not_not.mp h1, h2⟩)))).trans (up_b (Decidable.or_iff_not_imp_left.mpr (fun h1 h2 => hm (Or.inl ⟨Decidable.not_not.mp h1, h2⟩)))))) ⟨of_decide_eq_true rfl, of_decide_eq_true rfl⟩
                    · refine v_ic_gt_f (t := 14) c_146_7 rfl ⟨ha5.1, (Int.not_lt.mp h_55), of_decide_eq_true rfl⟩ (q_iconst c_146_10 (q_goto (t := 15) c_146_11 rfl (v_zret c_146_15 rfl (of_decide_eq_true rfl) (bk_inl (v_if_eq_f (t := 89) c_217_60 rfl (of_decide_eq_true rfl) (q_iload c_217_63 rfl (q_iconst c_217_65 ?_)))))))
                      refine v_sip c_217_66 (of_decide_eq_true rfl) (q_call c_217_69 rfl rfl rfl (q_iload_n c_146_0 rfl (q_iload_n c_146_1 rfl ?_)))
                      by_cases h_61 : a6 < 0
                      · refine v_ic_lt_t (t := 14) c_146_2 rfl ⟨ha6.1, h_61, of_decide_eq_true rfl⟩ (q_iconst c_146_14 (v_zret c_146_15 rfl (of_decide_eq_true rfl) (bk_inl (v_if_eq_t (t := 89) c_217_72 rfl (of_decide_eq_true rfl) (q_iconst c_217_89 (q_iconst c_217_90 (q_iconst c_217_91 ?_)))))))
                        refine v_cv c_217_92 km_8_203 rfl rfl (Nat.le_of_ble_eq_true rfl) ⟨⟨rfl, rfl⟩, Nat.le_of_ble_eq_true rfl, rfl⟩ (Nat.le_of_ble_eq_true rfl) (Nat.le_of_ble_eq_true rfl) (q_iload_n c_145_0 rfl (v_if_ne_f (t := 26) c_145_1 rfl (of_decide_eq_true rfl) (q_aload_n c_145_4 rfl (v_gi (z := 0) (v := 0) c_145_5 kf_8_3 rfl (Nat.le_of_ble_eq_true rfl) rfl rfl (up_e rfl) (v_if_ne_f (t := 26) c_145_8 rfl (of_decide_eq_true rfl) (q_aload_n c_145_11 rfl (q_iload_n c_145_12 rfl ?_)))))))
                        refine v_pi (z := 0) c_145_13 kf_8_3 rfl (Nat.le_of_ble_eq_true rfl) rfl rfl rfl (of_decide_eq_true rfl) (q_aload_n c_145_16 rfl (v_gr (t := 42) c_145_17 kf_8_7 rfl (Nat.le_of_ble_eq_true rfl) rfl (q_iload_n c_145_20 rfl (q_dup2 c_145_21 ⟨rfl, rfl⟩ ?_))))
                        have h_62 := ir_42 hI 1
                        refine v_ia (v := c 42 1) c_145_22 rfl (of_decide_eq_true rfl) (of_decide_eq_true rfl) (of_decide_eq_true rfl) ((up_c (nn rfl)).trans (up_c (nn rfl))) (q_iconst c_145_23 (v_iadd (v := c 42 1 + 1) c_145_24 rfl (v_nrm (fun y_63 hy_63 => (v_is c_145_25 rfl (of_decide_eq_true rfl) (of_decide_eq_true rfl) (of_decide_eq_true rfl) (q_aload_n c_145_26 rfl (v_gi (z := 0) (v := 1) c_145_27 kf_8_3 rfl (Nat.le_of_ble_eq_true rfl) rfl rfl ((up_c (nn rfl)).trans (up_e rfl)) (v_if_ne_t (t := 37) c_145_30 rfl (of_decide_eq_true rfl) ?_))))))))
                        refine q_iconst c_145_37 (v_zret c_145_38 rfl (of_decide_eq_true rfl) (bk_inl (v_if_ne_f (t := 100) c_217_95 rfl (of_decide_eq_true rfl) (q_iconst c_217_98 (q_iret c_217_99 rfl ?_)))))
                        have hI_64 := iw_41_0 (v := 0) hI ⟨of_decide_eq_true rfl, of_decide_eq_true rfl⟩
                        have hI_65 := iw_41_0 (v := 1) hI_64 ⟨of_decide_eq_true rfl, of_decide_eq_true rfl⟩
                        have hI_66 := iw_42 (j := 1) (v := y_63) hI_65 ⟨hy_63.1, hy_63.2⟩
                        exact K (up (up (up c 41 0 0) 41 0 1) 42 1 y_63) 0 hI_66 (fun a j hm => (up_b (Decidable.or_iff_not_imp_left.mpr (fun h1 h2 => hm (Or.inr (Or.inl (Decidable.not_not.mp h1)))))).trans ((up_b (Decidable.or_iff_not_imp_left.mpr (fun h1 h2 => hm (Or.inl ⟨Decidable.not_not.mp h1, h2⟩)))).trans (up_b (Decidable.or_iff_not_imp_left.mpr (fun h1 h2 => hm (Or.inl ⟨Decidable.not_not.mp h1, h2⟩)))))) ⟨of_decide_eq_true rfl, of_decide_eq_true rfl⟩
                      · refine v_ic_lt_f (t := 14) c_146_2 rfl ⟨of_decide_eq_true rfl, (Int.not_lt.mp h_61), ha6.2⟩ (q_iload_n c_146_5 rfl (q_iload_n c_146_6 rfl ?_))
                        by_cases h_67 : a6 > 400
                        · refine v_ic_gt_t (t := 14) c_146_7 rfl ⟨of_decide_eq_true rfl, h_67, ha6.2⟩ (q_iconst c_146_14 (v_zret c_146_15 rfl (of_decide_eq_true rfl) (bk_inl (v_if_eq_t (t := 89) c_217_72 rfl (of_decide_eq_true rfl) (q_iconst c_217_89 (q_iconst c_217_90 (q_iconst c_217_91 ?_)))))))
                          refine v_cv c_217_92 km_8_203 rfl rfl (Nat.le_of_ble_eq_true rfl) ⟨⟨rfl, rfl⟩, Nat.le_of_ble_eq_true rfl, rfl⟩ (Nat.le_of_ble_eq_true rfl) (Nat.le_of_ble_eq_true rfl) (q_iload_n c_145_0 rfl (v_if_ne_f (t := 26) c_145_1 rfl (of_decide_eq_true rfl) (q_aload_n c_145_4 rfl (v_gi (z := 0) (v := 0) c_145_5 kf_8_3 rfl (Nat.le_of_ble_eq_true rfl) rfl rfl (up_e rfl) (v_if_ne_f (t := 26) c_145_8 rfl (of_decide_eq_true rfl) (q_aload_n c_145_11 rfl (q_iload_n c_145_12 rfl ?_)))))))
                          refine v_pi (z := 0) c_145_13 kf_8_3 rfl (Nat.le_of_ble_eq_true rfl) rfl rfl rfl (of_decide_eq_true rfl) (q_aload_n c_145_16 rfl (v_gr (t := 42) c_145_17 kf_8_7 rfl (Nat.le_of_ble_eq_true rfl) rfl (q_iload_n c_145_20 rfl (q_dup2 c_145_21 ⟨rfl, rfl⟩ ?_))))
                          have h_68 := ir_42 hI 1
                          refine v_ia (v := c 42 1) c_145_22 rfl (of_decide_eq_true rfl) (of_decide_eq_true rfl) (of_decide_eq_true rfl) ((up_c (nn rfl)).trans (up_c (nn rfl))) (q_iconst c_145_23 (v_iadd (v := c 42 1 + 1) c_145_24 rfl (v_nrm (fun y_69 hy_69 => (v_is c_145_25 rfl (of_decide_eq_true rfl) (of_decide_eq_true rfl) (of_decide_eq_true rfl) (q_aload_n c_145_26 rfl (v_gi (z := 0) (v := 1) c_145_27 kf_8_3 rfl (Nat.le_of_ble_eq_true rfl) rfl rfl ((up_c (nn rfl)).trans (up_e rfl)) (v_if_ne_t (t := 37) c_145_30 rfl (of_decide_eq_true rfl) ?_))))))))
                          refine q_iconst c_145_37 (v_zret c_145_38 rfl (of_decide_eq_true rfl) (bk_inl (v_if_ne_f (t := 100) c_217_95 rfl (of_decide_eq_true rfl) (q_iconst c_217_98 (q_iret c_217_99 rfl ?_)))))
                          have hI_70 := iw_41_0 (v := 0) hI ⟨of_decide_eq_true rfl, of_decide_eq_true rfl⟩
                          have hI_71 := iw_41_0 (v := 1) hI_70 ⟨of_decide_eq_true rfl, of_decide_eq_true rfl⟩
                          have hI_72 := iw_42 (j := 1) (v := y_69) hI_71 ⟨hy_69.1, hy_69.2⟩
                          exact K (up (up (up c 41 0 0) 41 0 1) 42 1 y_69) 0 hI_72 (fun a j hm => (up_b (Decidable.or_iff_not_imp_left.mpr (fun h1 h2 => hm (Or.inr (Or.inl (Decidable.not_not.mp h1)))))).trans ((up_b (Decidable.or_iff_not_imp_left.mpr (fun h1 h2 => hm (Or.inl ⟨Decidable.not_not.mp h1, h2⟩)))).trans (up_b (Decidable.or_iff_not_imp_left.mpr (fun h1 h2 => hm (Or.inl ⟨Decidable.not_not.mp h1, h2⟩)))))) ⟨of_decide_eq_true rfl, of_decide_eq_true rfl⟩
                        · refine v_ic_gt_f (t := 14) c_146_7 rfl ⟨ha6.1, (Int.not_lt.mp h_67), of_decide_eq_true rfl⟩ (q_iconst c_146_10 (q_goto (t := 15) c_146_11 rfl (v_zret c_146_15 rfl (of_decide_eq_true rfl) (bk_inl (v_if_eq_f (t := 89) c_217_72 rfl (of_decide_eq_true rfl) (q_iload c_217_75 rfl (q_iconst c_217_77 ?_)))))))
                          refine q_iconst c_217_78 (q_call c_217_79 rfl rfl rfl (q_iload_n c_146_0 rfl (q_iload_n c_146_1 rfl ?_)))
                          by_cases h_73 : a7 < 0
                          · refine v_ic_lt_t (t := 14) c_146_2 rfl ⟨ha7.1, h_73, of_decide_eq_true rfl⟩ (q_iconst c_146_14 (v_zret c_146_15 rfl (of_decide_eq_true rfl) (bk_inl (v_if_eq_t (t := 89) c_217_82 rfl (of_decide_eq_true rfl) (q_iconst c_217_89 (q_iconst c_217_90 (q_iconst c_217_91 ?_)))))))
                            refine v_cv c_217_92 km_8_203 rfl rfl (Nat.le_of_ble_eq_true rfl) ⟨⟨rfl, rfl⟩, Nat.le_of_ble_eq_true rfl, rfl⟩ (Nat.le_of_ble_eq_true rfl) (Nat.le_of_ble_eq_true rfl) (q_iload_n c_145_0 rfl (v_if_ne_f (t := 26) c_145_1 rfl (of_decide_eq_true rfl) (q_aload_n c_145_4 rfl (v_gi (z := 0) (v := 0) c_145_5 kf_8_3 rfl (Nat.le_of_ble_eq_true rfl) rfl rfl (up_e rfl) (v_if_ne_f (t := 26) c_145_8 rfl (of_decide_eq_true rfl) (q_aload_n c_145_11 rfl (q_iload_n c_145_12 rfl ?_)))))))
                            refine v_pi (z := 0) c_145_13 kf_8_3 rfl (Nat.le_of_ble_eq_true rfl) rfl rfl rfl (of_decide_eq_true rfl) (q_aload_n c_145_16 rfl (v_gr (t := 42) c_145_17 kf_8_7 rfl (Nat.le_of_ble_eq_true rfl) rfl (q_iload_n c_145_20 rfl (q_dup2 c_145_21 ⟨rfl, rfl⟩ ?_))))
                            have h_74 := ir_42 hI 1
                            refine v_ia (v := c 42 1) c_145_22 rfl (of_decide_eq_true rfl) (of_decide_eq_true rfl) (of_decide_eq_true rfl) ((up_c (nn rfl)).trans (up_c (nn rfl))) (q_iconst c_145_23 (v_iadd (v := c 42 1 + 1) c_145_24 rfl (v_nrm (fun y_75 hy_75 => (v_is c_145_25 rfl (of_decide_eq_true rfl) (of_decide_eq_true rfl) (of_decide_eq_true rfl) (q_aload_n c_145_26 rfl (v_gi (z := 0) (v := 1) c_145_27 kf_8_3 rfl (Nat.le_of_ble_eq_true rfl) rfl rfl ((up_c (nn rfl)).trans (up_e rfl)) (v_if_ne_t (t := 37) c_145_30 rfl (of_decide_eq_true rfl) ?_))))))))
                            refine q_iconst c_145_37 (v_zret c_145_38 rfl (of_decide_eq_true rfl) (bk_inl (v_if_ne_f (t := 100) c_217_95 rfl (of_decide_eq_true rfl) (q_iconst c_217_98 (q_iret c_217_99 rfl ?_)))))
                            have hI_76 := iw_41_0 (v := 0) hI ⟨of_decide_eq_true rfl, of_decide_eq_true rfl⟩
                            have hI_77 := iw_41_0 (v := 1) hI_76 ⟨of_decide_eq_true rfl, of_decide_eq_true rfl⟩
                            have hI_78 := iw_42 (j := 1) (v := y_75) hI_77 ⟨hy_75.1, hy_75.2⟩
                            exact K (up (up (up c 41 0 0) 41 0 1) 42 1 y_75) 0 hI_78 (fun a j hm => (up_b (Decidable.or_iff_not_imp_left.mpr (fun h1 h2 => hm (Or.inr (Or.inl (Decidable.not_not.mp h1)))))).trans ((up_b (Decidable.or_iff_not_imp_left.mpr (fun h1 h2 => hm (Or.inl ⟨Decidable.not_not.mp h1, h2⟩)))).trans (up_b (Decidable.or_iff_not_imp_left.mpr (fun h1 h2 => hm (Or.inl ⟨Decidable.not_not.mp h1, h2⟩)))))) ⟨of_decide_eq_true rfl, of_decide_eq_true rfl⟩
                          · refine v_ic_lt_f (t := 14) c_146_2 rfl ⟨of_decide_eq_true rfl, (Int.not_lt.mp h_73), ha7.2⟩ (q_iload_n c_146_5 rfl (q_iload_n c_146_6 rfl ?_))
                            by_cases h_79 : a7 > 5
                            · refine v_ic_gt_t (t := 14) c_146_7 rfl ⟨of_decide_eq_true rfl, h_79, ha7.2⟩ (q_iconst c_146_14 (v_zret c_146_15 rfl (of_decide_eq_true rfl) (bk_inl (v_if_eq_t (t := 89) c_217_82 rfl (of_decide_eq_true rfl) (q_iconst c_217_89 (q_iconst c_217_90 (q_iconst c_217_91 ?_)))))))
                              refine v_cv c_217_92 km_8_203 rfl rfl (Nat.le_of_ble_eq_true rfl) ⟨⟨rfl, rfl⟩, Nat.le_of_ble_eq_true rfl, rfl⟩ (Nat.le_of_ble_eq_true rfl) (Nat.le_of_ble_eq_true rfl) (q_iload_n c_145_0 rfl (v_if_ne_f (t := 26) c_145_1 rfl (of_decide_eq_true rfl) (q_aload_n c_145_4 rfl (v_gi (z := 0) (v := 0) c_145_5 kf_8_3 rfl (Nat.le_of_ble_eq_true rfl) rfl rfl (up_e rfl) (v_if_ne_f (t := 26) c_145_8 rfl (of_decide_eq_true rfl) (q_aload_n c_145_11 rfl (q_iload_n c_145_12 rfl ?_)))))))
                              refine v_pi (z := 0) c_145_13 kf_8_3 rfl (Nat.le_of_ble_eq_true rfl) rfl rfl rfl (of_decide_eq_true rfl) (q_aload_n c_145_16 rfl (v_gr (t := 42) c_145_17 kf_8_7 rfl (Nat.le_of_ble_eq_true rfl) rfl (q_iload_n c_145_20 rfl (q_dup2 c_145_21 ⟨rfl, rfl⟩ ?_))))
                              have h_80 := ir_42 hI 1
                              refine v_ia (v := c 42 1) c_145_22 rfl (of_decide_eq_true rfl) (of_decide_eq_true rfl) (of_decide_eq_true rfl) ((up_c (nn rfl)).trans (up_c (nn rfl))) (q_iconst c_145_23 (v_iadd (v := c 42 1 + 1) c_145_24 rfl (v_nrm (fun y_81 hy_81 => (v_is c_145_25 rfl (of_decide_eq_true rfl) (of_decide_eq_true rfl) (of_decide_eq_true rfl) (q_aload_n c_145_26 rfl (v_gi (z := 0) (v := 1) c_145_27 kf_8_3 rfl (Nat.le_of_ble_eq_true rfl) rfl rfl ((up_c (nn rfl)).trans (up_e rfl)) (v_if_ne_t (t := 37) c_145_30 rfl (of_decide_eq_true rfl) ?_))))))))
                              refine q_iconst c_145_37 (v_zret c_145_38 rfl (of_decide_eq_true rfl) (bk_inl (v_if_ne_f (t := 100) c_217_95 rfl (of_decide_eq_true rfl) (q_iconst c_217_98 (q_iret c_217_99 rfl ?_)))))
                              have hI_82 := iw_41_0 (v := 0) hI ⟨of_decide_eq_true rfl, of_decide_eq_true rfl⟩
                              have hI_83 := iw_41_0 (v := 1) hI_82 ⟨of_decide_eq_true rfl, of_decide_eq_true rfl⟩
                              have hI_84 := iw_42 (j := 1) (v := y_81) hI_83 ⟨hy_81.1, hy_81.2⟩
                              exact K (up (up (up c 41 0 0) 41 0 1) 42 1 y_81) 0 hI_84 (fun a j hm => (up_b (Decidable.or_iff_not_imp_left.mpr (fun h1 h2 => hm (Or.inr (Or.inl (Decidable.not_not.mp h1)))))).trans ((up_b (Decidable.or_iff_not_imp_left.mpr (fun h1 h2 => hm (Or.inl ⟨Decidable.not_not.mp h1, h2⟩)))).trans (up_b (Decidable.or_iff_not_imp_left.mpr (fun h1 h2 => hm (Or.inl ⟨Decidable.not_not.mp h1, h2⟩)))))) ⟨of_decide_eq_true rfl, of_decide_eq_true rfl⟩
                            · refine v_ic_gt_f (t := 14) c_146_7 rfl ⟨ha7.1, (Int.not_lt.mp h_79), of_decide_eq_true rfl⟩ (q_iconst c_146_10 (q_goto (t := 15) c_146_11 rfl (v_zret c_146_15 rfl (of_decide_eq_true rfl) (bk_inl (v_if_eq_f (t := 89) c_217_82 rfl (of_decide_eq_true rfl) (q_iconst c_217_85 (q_goto (t := 90) c_217_86 rfl ?_)))))))
                              refine q_iconst c_217_90 (q_iconst c_217_91 (v_cv c_217_92 km_8_203 rfl rfl (Nat.le_of_ble_eq_true rfl) ⟨⟨rfl, rfl⟩, Nat.le_of_ble_eq_true rfl, rfl⟩ (Nat.le_of_ble_eq_true rfl) (Nat.le_of_ble_eq_true rfl) (q_iload_n c_145_0 rfl (v_if_ne_t (t := 26) c_145_1 rfl (of_decide_eq_true rfl) (q_aload_n c_145_26 rfl (v_gi (z := 0) (v := 0) c_145_27 kf_8_3 rfl (Nat.le_of_ble_eq_true rfl) rfl rfl (up_e rfl) (v_if_ne_f (t := 37) c_145_30 rfl (of_decide_eq_true rfl) ?_)))))))
                              refine q_iconst c_145_33 (q_goto (t := 38) c_145_34 rfl (v_zret c_145_38 rfl (of_decide_eq_true rfl) (bk_inl (v_if_ne_t (t := 100) c_217_95 rfl (of_decide_eq_true rfl) (q_aload_n c_217_100 rfl (q_iload_n c_217_101 rfl (q_iload_n c_217_102 rfl ?_)))))))
                              refine q_iload_n c_217_103 rfl (q_iload c_217_104 rfl (q_iload c_217_106 rfl (q_iload c_217_108 rfl (q_iload c_217_110 rfl ?_))))
                              have hI_85 := iw_41_0 (v := 0) hI ⟨of_decide_eq_true rfl, of_decide_eq_true rfl⟩
                              refine v_cv c_217_112 km_8_359 rfl rfl (Nat.le_of_ble_eq_true rfl) ⟨⟨rfl, rfl⟩, Nat.le_of_ble_eq_true rfl, rfl⟩ (Nat.le_of_ble_eq_true rfl) (Nat.le_of_ble_eq_true rfl) (s_195 (a1 := a1) (a2 := a2) (a3 := a3) (a4 := a4) (a5 := a5) (a6 := a6) (a7 := a7) hI_85 (show 0 ≤ a1 ∧ a1 ≤ 9999 from ⟨(q_720657ba9 h_1), (q_72f86bfab h_7)⟩) (show 0 ≤ a2 ∧ a2 ≤ 9999 from ⟨(q_720657ba9 h_13), (q_72f86bfab h_19)⟩) (show 0 ≤ a3 ∧ a3 ≤ 9999 from ⟨(q_720657ba9 h_25), (q_72f86bfab h_31)⟩) (show 0 ≤ a4 ∧ a4 ≤ 9999 from ⟨(q_720657ba9 h_37), (q_72f86bfab h_43)⟩) (show (-2147483648) ≤ a5 ∧ a5 ≤ 2147483647 from ha5) (show (-2147483648) ≤ a6 ∧ a6 ≤ 2147483647 from ha6) (show (-2147483648) ≤ a7 ∧ a7 ≤ 2147483647 from ha7) (fun c_86 y_89 hI_87 hF_88 hy_89 => (bk_inl (q_iret c_217_115 rfl ?_))))
                              exact K c_86 y_89 hI_87 (fun a j hm => (hF_88 a j (qv_60f9bb275 hm)).trans (up_b (Decidable.or_iff_not_imp_left.mpr (fun h1 h2 => hm (Or.inl ⟨Decidable.not_not.mp h1, h2⟩))))) ⟨(lel hy_89.1 rfl), (ler hy_89.2 rfl)⟩

set_option maxRecDepth 100000 in
set_option maxHeartbeats 4000000 in
theorem s_218 {sc : List Int32} {d P Q : Nat} {c : ME} {a1 : Int} {a2 : Int} {a3 : Int} {Z : AR → Prop} (hI : Iv 0 (-1) P Q c) (ha1 : (-2147483648) ≤ a1 ∧ a1 ≤ 2147483647) (ha2 : (-2147483648) ≤ a2 ∧ a2 ≤ 2147483647) (ha3 : (-2147483648) ≤ a3 ∧ a3 ≤ 2147483647) (K : ∀ (c2 : ME) (y : Int), Iv 0 (-1) P Q c2 → (∀ (a : Nat) (j : Int), ¬ ((a = 41 ∧ j = 0) ∨ a = 42 ∨ a = 59) → c2 a j = c a j) → (-2147483648) ≤ y ∧ y ≤ 2147483647 → Z (.inl (some (vi y)), Wd P Q P P c2, 0, 0)) : Wp sc (d + 9) 218 0 [(0, .ref 41), (1, vi a1), (2, vi a2), (3, vi a3)] [] (Wd P Q P P c) 0 0 Z := by
  have hP := iv_P hI
  have hQ := iv_Q hI
  refine q_aload_n c_218_0 rfl (q_iconst c_218_1 (v_pi (z := 0) c_218_2 kf_8_3 rfl (Nat.le_of_ble_eq_true rfl) rfl rfl rfl (of_decide_eq_true rfl) (q_aload_n c_218_5 rfl (q_iload_n c_218_6 rfl (q_aload_n c_218_7 rfl ?_)))))
  have h_1 := ir_41_21 hI
  refine v_gi (z := 21) (v := c 41 21) c_218_8 kf_8_160 rfl (Nat.le_of_ble_eq_true rfl) rfl rfl (up_n (ni rfl)) (v_cv c_218_11 km_8_396 rfl rfl (Nat.le_of_ble_eq_true rfl) ⟨⟨rfl, rfl⟩, Nat.le_of_ble_eq_true rfl, rfl⟩ (Nat.le_of_ble_eq_true rfl) (Nat.le_of_ble_eq_true rfl) (q_aload_n c_212_0 rfl (q_iload_n c_212_1 rfl (q_iconst c_212_2 (q_iload_n c_212_3 rfl (q_iconst c_212_4 (v_isub (v := c 41 21 - 1) c_212_5 rfl ?_)))))))
  refine q_call c_212_6 rfl rfl rfl (q_iload_n c_146_0 rfl (q_iload_n c_146_1 rfl ?_))
  by_cases h_2 : a1 < 0
  · refine v_ic_lt_t (t := 14) c_146_2 rfl ⟨ha1.1, h_2, of_decide_eq_true rfl⟩ (q_iconst c_146_14 (v_zret c_146_15 rfl (of_decide_eq_true rfl) (bk_inl (q_iconst c_212_9 (q_iconst c_212_10 (v_cv c_212_11 km_8_203 rfl rfl (Nat.le_of_ble_eq_true rfl) ⟨⟨rfl, rfl⟩, Nat.le_of_ble_eq_true rfl, rfl⟩ (Nat.le_of_ble_eq_true rfl) (Nat.le_of_ble_eq_true rfl) (q_iload_n c_145_0 rfl ?_)))))))
    refine v_if_ne_f (t := 26) c_145_1 rfl (of_decide_eq_true rfl) (q_aload_n c_145_4 rfl (v_gi (z := 0) (v := 0) c_145_5 kf_8_3 rfl (Nat.le_of_ble_eq_true rfl) rfl rfl (up_e rfl) (v_if_ne_f (t := 26) c_145_8 rfl (of_decide_eq_true rfl) (q_aload_n c_145_11 rfl (q_iload_n c_145_12 rfl (v_pi (z := 0) c_145_13 kf_8_3 rfl (Nat.le_of_ble_eq_true rfl) rfl rfl rfl (of_decide_eq_true rfl) (q_aload_n c_145_16 rfl ?_)))))))
    refine v_gr (t := 42) c_145_17 kf_8_7 rfl (Nat.le_of_ble_eq_true rfl) rfl (q_iload_n c_145_20 rfl (q_dup2 c_145_21 ⟨rfl, rfl⟩ ?_))
    have h_3 := ir_42 hI 0
    refine v_ia (v := c 42 0) c_145_22 rfl (of_decide_eq_true rfl) (of_decide_eq_true rfl) (of_decide_eq_true rfl) ((up_c (nn rfl)).trans (up_c (nn rfl))) (q_iconst c_145_23 (v_iadd (v := c 42 0 + 1) c_145_24 rfl (v_nrm (fun y_4 hy_4 => (v_is c_145_25 rfl (of_decide_eq_true rfl) (of_decide_eq_true rfl) (of_decide_eq_true rfl) (q_aload_n c_145_26 rfl (v_gi (z := 0) (v := 1) c_145_27 kf_8_3 rfl (Nat.le_of_ble_eq_true rfl) rfl rfl ((up_c (nn rfl)).trans (up_e rfl)) (v_if_ne_t (t := 37) c_145_30 rfl (of_decide_eq_true rfl) ?_))))))))
    refine q_iconst c_145_37 (v_zret c_145_38 rfl (of_decide_eq_true rfl) (bk_inl (v_zret c_212_14 rfl (of_decide_eq_true rfl) (bk_inl (v_if_eq_t (t := 44) c_218_14 rfl (of_decide_eq_true rfl) (q_iconst c_218_44 (q_iret c_218_45 rfl ?_)))))))
    have hI_5 := iw_41_0 (v := 0) hI ⟨of_decide_eq_true rfl, of_decide_eq_true rfl⟩
    have hI_6 := iw_41_0 (v := 1) hI_5 ⟨of_decide_eq_true rfl, of_decide_eq_true rfl⟩
    have hI_7 := iw_42 (j := 0) (v := y_4) hI_6 ⟨hy_4.1, hy_4.2⟩
    exact K (up (up (up c 41 0 0) 41 0 1) 42 0 y_4) 0 hI_7 (fun a j hm => (up_b (Decidable.or_iff_not_imp_left.mpr (fun h1 h2 => hm (Or.inr (Or.inl (Decidable.not_not.mp h1)))))).trans ((up_b (Decidable.or_iff_not_imp_left.mpr (fun h1 h2 => hm (Or.inl ⟨Decidable.not_not.mp h1, h2⟩)))).trans (up_b (Decidable.or_iff_not_imp_left.mpr (fun h1 h2 => hm (Or.inl ⟨Decidable.not_not.mp h1, h2⟩)))))) ⟨of_decide_eq_true rfl, of_decide_eq_true rfl⟩
  · refine v_ic_lt_f (t := 14) c_146_2 rfl ⟨of_decide_eq_true rfl, (Int.not_lt.mp h_2), ha1.2⟩ (q_iload_n c_146_5 rfl (q_iload_n c_146_6 rfl ?_))
    by_cases h_8 : a1 > c 41 21 - 1
    · refine v_ic_gt_t (t := 14) c_146_7 rfl ⟨(rgm_l h_1.1 (of_decide_eq_true rfl)), h_8, ha1.2⟩ (q_iconst c_146_14 (v_zret c_146_15 rfl (of_decide_eq_true rfl) (bk_inl (q_iconst c_212_9 (q_iconst c_212_10 (v_cv c_212_11 km_8_203 rfl rfl (Nat.le_of_ble_eq_true rfl) ⟨⟨rfl, rfl⟩, Nat.le_of_ble_eq_true rfl, rfl⟩ (Nat.le_of_ble_eq_true rfl) (Nat.le_of_ble_eq_true rfl) (q_iload_n c_145_0 rfl ?_)))))))
      refine v_if_ne_f (t := 26) c_145_1 rfl (of_decide_eq_true rfl) (q_aload_n c_145_4 rfl (v_gi (z := 0) (v := 0) c_145_5 kf_8_3 rfl (Nat.le_of_ble_eq_true rfl) rfl rfl (up_e rfl) (v_if_ne_f (t := 26) c_145_8 rfl (of_decide_eq_true rfl) (q_aload_n c_145_11 rfl (q_iload_n c_145_12 rfl (v_pi (z := 0) c_145_13 kf_8_3 rfl (Nat.le_of_ble_eq_true rfl) rfl rfl rfl (of_decide_eq_true rfl) (q_aload_n c_145_16 rfl ?_)))))))
      refine v_gr (t := 42) c_145_17 kf_8_7 rfl (Nat.le_of_ble_eq_true rfl) rfl (q_iload_n c_145_20 rfl (q_dup2 c_145_21 ⟨rfl, rfl⟩ ?_))
      have h_9 := ir_42 hI 0
      refine v_ia (v := c 42 0) c_145_22 rfl (of_decide_eq_true rfl) (of_decide_eq_true rfl) (of_decide_eq_true rfl) ((up_c (nn rfl)).trans (up_c (nn rfl))) (q_iconst c_145_23 (v_iadd (v := c 42 0 + 1) c_145_24 rfl (v_nrm (fun y_10 hy_10 => (v_is c_145_25 rfl (of_decide_eq_true rfl) (of_decide_eq_true rfl) (of_decide_eq_true rfl) (q_aload_n c_145_26 rfl (v_gi (z := 0) (v := 1) c_145_27 kf_8_3 rfl (Nat.le_of_ble_eq_true rfl) rfl rfl ((up_c (nn rfl)).trans (up_e rfl)) (v_if_ne_t (t := 37) c_145_30 rfl (of_decide_eq_true rfl) ?_))))))))
      refine q_iconst c_145_37 (v_zret c_145_38 rfl (of_decide_eq_true rfl) (bk_inl (v_zret c_212_14 rfl (of_decide_eq_true rfl) (bk_inl (v_if_eq_t (t := 44) c_218_14 rfl (of_decide_eq_true rfl) (q_iconst c_218_44 (q_iret c_218_45 rfl ?_)))))))
      have hI_11 := iw_41_0 (v := 0) hI ⟨of_decide_eq_true rfl, of_decide_eq_true rfl⟩
      have hI_12 := iw_41_0 (v := 1) hI_11 ⟨of_decide_eq_true rfl, of_decide_eq_true rfl⟩
      have hI_13 := iw_42 (j := 0) (v := y_10) hI_12 ⟨hy_10.1, hy_10.2⟩
      exact K (up (up (up c 41 0 0) 41 0 1) 42 0 y_10) 0 hI_13 (fun a j hm => (up_b (Decidable.or_iff_not_imp_left.mpr (fun h1 h2 => hm (Or.inr (Or.inl (Decidable.not_not.mp h1)))))).trans ((up_b (Decidable.or_iff_not_imp_left.mpr (fun h1 h2 => hm (Or.inl ⟨Decidable.not_not.mp h1, h2⟩)))).trans (up_b (Decidable.or_iff_not_imp_left.mpr (fun h1 h2 => hm (Or.inl ⟨Decidable.not_not.mp h1, h2⟩)))))) ⟨of_decide_eq_true rfl, of_decide_eq_true rfl⟩
    · refine v_ic_gt_f (t := 14) c_146_7 rfl ⟨ha1.1, (Int.not_lt.mp h_8), (rgm_h h_1.2 (of_decide_eq_true rfl))⟩ (q_iconst c_146_10 (q_goto (t := 15) c_146_11 rfl (v_zret c_146_15 rfl (of_decide_eq_true rfl) (bk_inl (q_iconst c_212_9 (q_iconst c_212_10 (v_cv c_212_11 km_8_203 rfl rfl (Nat.le_of_ble_eq_true rfl) ⟨⟨rfl, rfl⟩, Nat.le_of_ble_eq_true rfl, rfl⟩ (Nat.le_of_ble_eq_true rfl) (Nat.le_of_ble_eq_true rfl) ?_)))))))
      refine q_iload_n c_145_0 rfl (v_if_ne_t (t := 26) c_145_1 rfl (of_decide_eq_true rfl) (q_aload_n c_145_26 rfl (v_gi (z := 0) (v := 0) c_145_27 kf_8_3 rfl (Nat.le_of_ble_eq_true rfl) rfl rfl (up_e rfl) (v_if_ne_f (t := 37) c_145_30 rfl (of_decide_eq_true rfl) (q_iconst c_145_33 (q_goto (t := 38) c_145_34 rfl (v_zret c_145_38 rfl (of_decide_eq_true rfl) ?_)))))))
      refine bk_inl (v_zret c_212_14 rfl (of_decide_eq_true rfl) (bk_inl (v_if_eq_f (t := 44) c_218_14 rfl (of_decide_eq_true rfl) (q_aload_n c_218_17 rfl (q_iload_n c_218_18 rfl (q_aload_n c_218_19 rfl ?_))))))
      have h_14 := ir_41_20 hI
      refine v_gi (z := 20) (v := c 41 20) c_218_20 kf_8_157 rfl (Nat.le_of_ble_eq_true rfl) rfl rfl (up_n (ni rfl)) (v_cv c_218_23 km_8_396 rfl rfl (Nat.le_of_ble_eq_true rfl) ⟨⟨rfl, rfl⟩, Nat.le_of_ble_eq_true rfl, rfl⟩ (Nat.le_of_ble_eq_true rfl) (Nat.le_of_ble_eq_true rfl) (q_aload_n c_212_0 rfl (q_iload_n c_212_1 rfl (q_iconst c_212_2 (q_iload_n c_212_3 rfl (q_iconst c_212_4 (v_isub (v := c 41 20 - 1) c_212_5 rfl ?_)))))))
      refine q_call c_212_6 rfl rfl rfl (q_iload_n c_146_0 rfl (q_iload_n c_146_1 rfl ?_))
      by_cases h_15 : a2 < 0
      · refine v_ic_lt_t (t := 14) c_146_2 rfl ⟨ha2.1, h_15, of_decide_eq_true rfl⟩ (q_iconst c_146_14 (v_zret c_146_15 rfl (of_decide_eq_true rfl) (bk_inl (q_iconst c_212_9 (q_iconst c_212_10 (v_cv c_212_11 km_8_203 rfl rfl (Nat.le_of_ble_eq_true rfl) ⟨⟨rfl, rfl⟩, Nat.le_of_ble_eq_true rfl, rfl⟩ (Nat.le_of_ble_eq_true rfl) (Nat.le_of_ble_eq_true rfl) (q_iload_n c_145_0 rfl ?_)))))))
        refine v_if_ne_f (t := 26) c_145_1 rfl (of_decide_eq_true rfl) (q_aload_n c_145_4 rfl (v_gi (z := 0) (v := 0) c_145_5 kf_8_3 rfl (Nat.le_of_ble_eq_true rfl) rfl rfl (up_e rfl) (v_if_ne_f (t := 26) c_145_8 rfl (of_decide_eq_true rfl) (q_aload_n c_145_11 rfl (q_iload_n c_145_12 rfl (v_pi (z := 0) c_145_13 kf_8_3 rfl (Nat.le_of_ble_eq_true rfl) rfl rfl rfl (of_decide_eq_true rfl) (q_aload_n c_145_16 rfl ?_)))))))
        refine v_gr (t := 42) c_145_17 kf_8_7 rfl (Nat.le_of_ble_eq_true rfl) rfl (q_iload_n c_145_20 rfl (q_dup2 c_145_21 ⟨rfl, rfl⟩ ?_))
        have h_16 := ir_42 hI 0
        refine v_ia (v := c 42 0) c_145_22 rfl (of_decide_eq_true rfl) (of_decide_eq_true rfl) (of_decide_eq_true rfl) ((up_c (nn rfl)).trans (up_c (nn rfl))) (q_iconst c_145_23 (v_iadd (v := c 42 0 + 1) c_145_24 rfl (v_nrm (fun y_17 hy_17 => (v_is c_145_25 rfl (of_decide_eq_true rfl) (of_decide_eq_true rfl) (of_decide_eq_true rfl) (q_aload_n c_145_26 rfl (v_gi (z := 0) (v := 1) c_145_27 kf_8_3 rfl (Nat.le_of_ble_eq_true rfl) rfl rfl ((up_c (nn rfl)).trans (up_e rfl)) (v_if_ne_t (t := 37) c_145_30 rfl (of_decide_eq_true rfl) ?_))))))))
        refine q_iconst c_145_37 (v_zret c_145_38 rfl (of_decide_eq_true rfl) (bk_inl (v_zret c_212_14 rfl (of_decide_eq_true rfl) (bk_inl (v_if_eq_t (t := 44) c_218_26 rfl (of_decide_eq_true rfl) (q_iconst c_218_44 (q_iret c_218_45 rfl ?_)))))))
        have hI_18 := iw_41_0 (v := 0) hI ⟨of_decide_eq_true rfl, of_decide_eq_true rfl⟩
        have hI_19 := iw_41_0 (v := 1) hI_18 ⟨of_decide_eq_true rfl, of_decide_eq_true rfl⟩
        have hI_20 := iw_42 (j := 0) (v := y_17) hI_19 ⟨hy_17.1, hy_17.2⟩
        exact K (up (up (up c 41 0 0) 41 0 1) 42 0 y_17) 0 hI_20 (fun a j hm => (up_b (Decidable.or_iff_not_imp_left.mpr (fun h1 h2 => hm (Or.inr (Or.inl (Decidable.not_not.mp h1)))))).trans ((up_b (Decidable.or_iff_not_imp_left.mpr (fun h1 h2 => hm (Or.inl ⟨Decidable.not_not.mp h1, h2⟩)))).trans (up_b (Decidable.or_iff_not_imp_left.mpr (fun h1 h2 => hm (Or.inl ⟨Decidable.not_not.mp h1, h2⟩)))))) ⟨of_decide_eq_true rfl, of_decide_eq_true rfl⟩
      · refine v_ic_lt_f (t := 14) c_146_2 rfl ⟨of_decide_eq_true rfl, (Int.not_lt.mp h_15), ha2.2⟩ (q_iload_n c_146_5 rfl (q_iload_n c_146_6 rfl ?_))
        by_cases h_21 : a2 > c 41 20 - 1
        · refine v_ic_gt_t (t := 14) c_146_7 rfl ⟨(rgm_l h_14.1 (of_decide_eq_true rfl)), h_21, ha2.2⟩ (q_iconst c_146_14 (v_zret c_146_15 rfl (of_decide_eq_true rfl) (bk_inl (q_iconst c_212_9 (q_iconst c_212_10 (v_cv c_212_11 km_8_203 rfl rfl (Nat.le_of_ble_eq_true rfl) ⟨⟨rfl, rfl⟩, Nat.le_of_ble_eq_true rfl, rfl⟩ (Nat.le_of_ble_eq_true rfl) (Nat.le_of_ble_eq_true rfl) (q_iload_n c_145_0 rfl ?_)))))))
          refine v_if_ne_f (t := 26) c_145_1 rfl (of_decide_eq_true rfl) (q_aload_n c_145_4 rfl (v_gi (z := 0) (v := 0) c_145_5 kf_8_3 rfl (Nat.le_of_ble_eq_true rfl) rfl rfl (up_e rfl) (v_if_ne_f (t := 26) c_145_8 rfl (of_decide_eq_true rfl) (q_aload_n c_145_11 rfl (q_iload_n c_145_12 rfl (v_pi (z := 0) c_145_13 kf_8_3 rfl (Nat.le_of_ble_eq_true rfl) rfl rfl rfl (of_decide_eq_true rfl) (q_aload_n c_145_16 rfl ?_)))))))
          refine v_gr (t := 42) c_145_17 kf_8_7 rfl (Nat.le_of_ble_eq_true rfl) rfl (q_iload_n c_145_20 rfl (q_dup2 c_145_21 ⟨rfl, rfl⟩ ?_))
          have h_22 := ir_42 hI 0
          refine v_ia (v := c 42 0) c_145_22 rfl (of_decide_eq_true rfl) (of_decide_eq_true rfl) (of_decide_eq_true rfl) ((up_c (nn rfl)).trans (up_c (nn rfl))) (q_iconst c_145_23 (v_iadd (v := c 42 0 + 1) c_145_24 rfl (v_nrm (fun y_23 hy_23 => (v_is c_145_25 rfl (of_decide_eq_true rfl) (of_decide_eq_true rfl) (of_decide_eq_true rfl) (q_aload_n c_145_26 rfl (v_gi (z := 0) (v := 1) c_145_27 kf_8_3 rfl (Nat.le_of_ble_eq_true rfl) rfl rfl ((up_c (nn rfl)).trans (up_e rfl)) (v_if_ne_t (t := 37) c_145_30 rfl (of_decide_eq_true rfl) ?_))))))))
          refine q_iconst c_145_37 (v_zret c_145_38 rfl (of_decide_eq_true rfl) (bk_inl (v_zret c_212_14 rfl (of_decide_eq_true rfl) (bk_inl (v_if_eq_t (t := 44) c_218_26 rfl (of_decide_eq_true rfl) (q_iconst c_218_44 (q_iret c_218_45 rfl ?_)))))))
          have hI_24 := iw_41_0 (v := 0) hI ⟨of_decide_eq_true rfl, of_decide_eq_true rfl⟩
          have hI_25 := iw_41_0 (v := 1) hI_24 ⟨of_decide_eq_true rfl, of_decide_eq_true rfl⟩
          have hI_26 := iw_42 (j := 0) (v := y_23) hI_25 ⟨hy_23.1, hy_23.2⟩
          exact K (up (up (up c 41 0 0) 41 0 1) 42 0 y_23) 0 hI_26 (fun a j hm => (up_b (Decidable.or_iff_not_imp_left.mpr (fun h1 h2 => hm (Or.inr (Or.inl (Decidable.not_not.mp h1)))))).trans ((up_b (Decidable.or_iff_not_imp_left.mpr (fun h1 h2 => hm (Or.inl ⟨Decidable.not_not.mp h1, h2⟩)))).trans (up_b (Decidable.or_iff_not_imp_left.mpr (fun h1 h2 => hm (Or.inl ⟨Decidable.not_not.mp h1, h2⟩)))))) ⟨of_decide_eq_true rfl, of_decide_eq_true rfl⟩
        · refine v_ic_gt_f (t := 14) c_146_7 rfl ⟨ha2.1, (Int.not_lt.mp h_21), (rgm_h h_14.2 (of_decide_eq_true rfl))⟩ (q_iconst c_146_10 (q_goto (t := 15) c_146_11 rfl (v_zret c_146_15 rfl (of_decide_eq_true rfl) (bk_inl (q_iconst c_212_9 (q_iconst c_212_10 (v_cv c_212_11 km_8_203 rfl rfl (Nat.le_of_ble_eq_true rfl) ⟨⟨rfl, rfl⟩, Nat.le_of_ble_eq_true rfl, rfl⟩ (Nat.le_of_ble_eq_true rfl) (Nat.le_of_ble_eq_true rfl) ?_)))))))
          refine q_iload_n c_145_0 rfl (v_if_ne_t (t := 26) c_145_1 rfl (of_decide_eq_true rfl) (q_aload_n c_145_26 rfl (v_gi (z := 0) (v := 0) c_145_27 kf_8_3 rfl (Nat.le_of_ble_eq_true rfl) rfl rfl (up_e rfl) (v_if_ne_f (t := 37) c_145_30 rfl (of_decide_eq_true rfl) (q_iconst c_145_33 (q_goto (t := 38) c_145_34 rfl (v_zret c_145_38 rfl (of_decide_eq_true rfl) ?_)))))))
          refine bk_inl (v_zret c_212_14 rfl (of_decide_eq_true rfl) (bk_inl (v_if_eq_f (t := 44) c_218_26 rfl (of_decide_eq_true rfl) (q_aload_n c_218_29 rfl (q_iload_n c_218_30 rfl (q_iconst c_218_31 (q_iconst c_218_32 ?_)))))))
          refine q_call c_218_33 rfl rfl rfl (q_iload_n c_146_0 rfl (q_iload_n c_146_1 rfl ?_))
          by_cases h_27 : a3 < 0
          · refine v_ic_lt_t (t := 14) c_146_2 rfl ⟨ha3.1, h_27, of_decide_eq_true rfl⟩ (q_iconst c_146_14 (v_zret c_146_15 rfl (of_decide_eq_true rfl) (bk_inl (q_iconst c_218_36 (q_iconst c_218_37 (v_cv c_218_38 km_8_203 rfl rfl (Nat.le_of_ble_eq_true rfl) ⟨⟨rfl, rfl⟩, Nat.le_of_ble_eq_true rfl, rfl⟩ (Nat.le_of_ble_eq_true rfl) (Nat.le_of_ble_eq_true rfl) (q_iload_n c_145_0 rfl ?_)))))))
            refine v_if_ne_f (t := 26) c_145_1 rfl (of_decide_eq_true rfl) (q_aload_n c_145_4 rfl (v_gi (z := 0) (v := 0) c_145_5 kf_8_3 rfl (Nat.le_of_ble_eq_true rfl) rfl rfl (up_e rfl) (v_if_ne_f (t := 26) c_145_8 rfl (of_decide_eq_true rfl) (q_aload_n c_145_11 rfl (q_iload_n c_145_12 rfl (v_pi (z := 0) c_145_13 kf_8_3 rfl (Nat.le_of_ble_eq_true rfl) rfl rfl rfl (of_decide_eq_true rfl) (q_aload_n c_145_16 rfl ?_)))))))
            refine v_gr (t := 42) c_145_17 kf_8_7 rfl (Nat.le_of_ble_eq_true rfl) rfl (q_iload_n c_145_20 rfl (q_dup2 c_145_21 ⟨rfl, rfl⟩ ?_))
            have h_28 := ir_42 hI 1
            refine v_ia (v := c 42 1) c_145_22 rfl (of_decide_eq_true rfl) (of_decide_eq_true rfl) (of_decide_eq_true rfl) ((up_c (nn rfl)).trans (up_c (nn rfl))) (q_iconst c_145_23 (v_iadd (v := c 42 1 + 1) c_145_24 rfl (v_nrm (fun y_29 hy_29 => (v_is c_145_25 rfl (of_decide_eq_true rfl) (of_decide_eq_true rfl) (of_decide_eq_true rfl) (q_aload_n c_145_26 rfl (v_gi (z := 0) (v := 2) c_145_27 kf_8_3 rfl (Nat.le_of_ble_eq_true rfl) rfl rfl ((up_c (nn rfl)).trans (up_e rfl)) (v_if_ne_t (t := 37) c_145_30 rfl (of_decide_eq_true rfl) ?_))))))))
            refine q_iconst c_145_37 (v_zret c_145_38 rfl (of_decide_eq_true rfl) (bk_inl (v_if_ne_f (t := 46) c_218_41 rfl (of_decide_eq_true rfl) (q_iconst c_218_44 (q_iret c_218_45 rfl ?_)))))
            have hI_30 := iw_41_0 (v := 0) hI ⟨of_decide_eq_true rfl, of_decide_eq_true rfl⟩
            have hI_31 := iw_41_0 (v := 2) hI_30 ⟨of_decide_eq_true rfl, of_decide_eq_true rfl⟩
            have hI_32 := iw_42 (j := 1) (v := y_29) hI_31 ⟨hy_29.1, hy_29.2⟩
            exact K (up (up (up c 41 0 0) 41 0 2) 42 1 y_29) 0 hI_32 (fun a j hm => (up_b (Decidable.or_iff_not_imp_left.mpr (fun h1 h2 => hm (Or.inr (Or.inl (Decidable.not_not.mp h1)))))).trans ((up_b (Decidable.or_iff_not_imp_left.mpr (fun h1 h2 => hm (Or.inl ⟨Decidable.not_not.mp h1, h2⟩)))).trans (up_b (Decidable.or_iff_not_imp_left.mpr (fun h1 h2 => hm (Or.inl ⟨Decidable.not_not.mp h1, h2⟩)))))) ⟨of_decide_eq_true rfl, of_decide_eq_true rfl⟩
          · refine v_ic_lt_f (t := 14) c_146_2 rfl ⟨of_decide_eq_true rfl, (Int.not_lt.mp h_27), ha3.2⟩ (q_iload_n c_146_5 rfl (q_iload_n c_146_6 rfl ?_))
            by_cases h_33 : a3 > 4
            · refine v_ic_gt_t (t := 14) c_146_7 rfl ⟨of_decide_eq_true rfl, h_33, ha3.2⟩ (q_iconst c_146_14 (v_zret c_146_15 rfl (of_decide_eq_true rfl) (bk_inl (q_iconst c_218_36 (q_iconst c_218_37 (v_cv c_218_38 km_8_203 rfl rfl (Nat.le_of_ble_eq_true rfl) ⟨⟨rfl, rfl⟩, Nat.le_of_ble_eq_true rfl, rfl⟩ (Nat.le_of_ble_eq_true rfl) (Nat.le_of_ble_eq_true rfl) (q_iload_n c_145_0 rfl ?_)))))))
              refine v_if_ne_f (t := 26) c_145_1 rfl (of_decide_eq_true rfl) (q_aload_n c_145_4 rfl (v_gi (z := 0) (v := 0) c_145_5 kf_8_3 rfl (Nat.le_of_ble_eq_true rfl) rfl rfl (up_e rfl) (v_if_ne_f (t := 26) c_145_8 rfl (of_decide_eq_true rfl) (q_aload_n c_145_11 rfl (q_iload_n c_145_12 rfl (v_pi (z := 0) c_145_13 kf_8_3 rfl (Nat.le_of_ble_eq_true rfl) rfl rfl rfl (of_decide_eq_true rfl) (q_aload_n c_145_16 rfl ?_)))))))
              refine v_gr (t := 42) c_145_17 kf_8_7 rfl (Nat.le_of_ble_eq_true rfl) rfl (q_iload_n c_145_20 rfl (q_dup2 c_145_21 ⟨rfl, rfl⟩ ?_))
              have h_34 := ir_42 hI 1
              refine v_ia (v := c 42 1) c_145_22 rfl (of_decide_eq_true rfl) (of_decide_eq_true rfl) (of_decide_eq_true rfl) ((up_c (nn rfl)).trans (up_c (nn rfl))) (q_iconst c_145_23 (v_iadd (v := c 42 1 + 1) c_145_24 rfl (v_nrm (fun y_35 hy_35 => (v_is c_145_25 rfl (of_decide_eq_true rfl) (of_decide_eq_true rfl) (of_decide_eq_true rfl) (q_aload_n c_145_26 rfl (v_gi (z := 0) (v := 2) c_145_27 kf_8_3 rfl (Nat.le_of_ble_eq_true rfl) rfl rfl ((up_c (nn rfl)).trans (up_e rfl)) (v_if_ne_t (t := 37) c_145_30 rfl (of_decide_eq_true rfl) ?_))))))))
              refine q_iconst c_145_37 (v_zret c_145_38 rfl (of_decide_eq_true rfl) (bk_inl (v_if_ne_f (t := 46) c_218_41 rfl (of_decide_eq_true rfl) (q_iconst c_218_44 (q_iret c_218_45 rfl ?_)))))
              have hI_36 := iw_41_0 (v := 0) hI ⟨of_decide_eq_true rfl, of_decide_eq_true rfl⟩
              have hI_37 := iw_41_0 (v := 2) hI_36 ⟨of_decide_eq_true rfl, of_decide_eq_true rfl⟩
              have hI_38 := iw_42 (j := 1) (v := y_35) hI_37 ⟨hy_35.1, hy_35.2⟩
              exact K (up (up (up c 41 0 0) 41 0 2) 42 1 y_35) 0 hI_38 (fun a j hm => (up_b (Decidable.or_iff_not_imp_left.mpr (fun h1 h2 => hm (Or.inr (Or.inl (Decidable.not_not.mp h1)))))).trans ((up_b (Decidable.or_iff_not_imp_left.mpr (fun h1 h2 => hm (Or.inl ⟨Decidable.not_not.mp h1, h2⟩)))).trans (up_b (Decidable.or_iff_not_imp_left.mpr (fun h1 h2 => hm (Or.inl ⟨Decidable.not_not.mp h1, h2⟩)))))) ⟨of_decide_eq_true rfl, of_decide_eq_true rfl⟩
            · refine v_ic_gt_f (t := 14) c_146_7 rfl ⟨ha3.1, (Int.not_lt.mp h_33), of_decide_eq_true rfl⟩ (q_iconst c_146_10 (q_goto (t := 15) c_146_11 rfl (v_zret c_146_15 rfl (of_decide_eq_true rfl) (bk_inl (q_iconst c_218_36 (q_iconst c_218_37 (v_cv c_218_38 km_8_203 rfl rfl (Nat.le_of_ble_eq_true rfl) ⟨⟨rfl, rfl⟩, Nat.le_of_ble_eq_true rfl, rfl⟩ (Nat.le_of_ble_eq_true rfl) (Nat.le_of_ble_eq_true rfl) ?_)))))))
              refine q_iload_n c_145_0 rfl (v_if_ne_t (t := 26) c_145_1 rfl (of_decide_eq_true rfl) (q_aload_n c_145_26 rfl (v_gi (z := 0) (v := 0) c_145_27 kf_8_3 rfl (Nat.le_of_ble_eq_true rfl) rfl rfl (up_e rfl) (v_if_ne_f (t := 37) c_145_30 rfl (of_decide_eq_true rfl) (q_iconst c_145_33 (q_goto (t := 38) c_145_34 rfl (v_zret c_145_38 rfl (of_decide_eq_true rfl) ?_)))))))
              refine bk_inl (v_if_ne_t (t := 46) c_218_41 rfl (of_decide_eq_true rfl) (q_aload_n c_218_46 rfl ?_))
              have hI_39 := iw_41_0 (v := 0) hI ⟨of_decide_eq_true rfl, of_decide_eq_true rfl⟩
              refine v_cv c_218_47 km_8_317 rfl rfl (Nat.le_of_ble_eq_true rfl) ⟨⟨rfl, rfl⟩, Nat.le_of_ble_eq_true rfl, rfl⟩ (Nat.le_of_ble_eq_true rfl) (Nat.le_of_ble_eq_true rfl) (s_186 hI_39 (fun c_40 hI_41 hF_42 => (bk_inl (q_aload_n c_218_50 rfl (v_gr (t := 59) c_218_51 kf_8_68 rfl (Nat.le_of_ble_eq_true rfl) rfl (v_bip c_218_54 (of_decide_eq_true rfl) ?_))))))
              have h_43 := ir_59 hI_41 35
              refine v_ia (v := c_40 59 35) c_218_56 rfl (of_decide_eq_true rfl) (of_decide_eq_true rfl) (of_decide_eq_true rfl) rfl (q_istore c_218_57 (Nat.le_of_ble_eq_true rfl) (q_aload_n c_218_59 rfl (q_iload_n c_218_60 rfl (q_iload_n c_218_61 rfl (v_cv c_218_62 km_8_335 rfl rfl (Nat.le_of_ble_eq_true rfl) ⟨⟨rfl, rfl⟩, Nat.le_of_ble_eq_true rfl, rfl⟩ (Nat.le_of_ble_eq_true rfl) (Nat.le_of_ble_eq_true rfl) (s_188 (a1 := a1) (a2 := a2) hI_41 (show 0 ≤ a1 ∧ a1 ≤ 3 from ⟨(q_720657ba9 h_2), (q_1b5e4f74b h_1 h_8)⟩) (show 0 ≤ a2 ∧ a2 ≤ 5 from ⟨(q_720657ba9 h_15), (q_3a2e67ab0 h_14 h_21)⟩) (fun c_44 y_47 hI_45 hF_46 hy_47 => (bk_inl (q_pop c_218_65 rfl ?_)))))))))
              refine q_iload_n c_218_66 rfl (q_iconst c_218_67 ?_)
              by_cases h_48 : a3 ≠ 4
              · refine v_ic_ne_t (t := 84) c_218_68 rfl ⟨h_48, ⟨ha3.1, ha3.2⟩, of_decide_eq_true rfl, of_decide_eq_true rfl⟩ (q_aload_n c_218_84 rfl (v_gr (t := 59) c_218_85 kf_8_68 rfl (Nat.le_of_ble_eq_true rfl) rfl (q_iconst c_218_88 (q_iload_n c_218_89 rfl (v_imul (v := 4 * a2) c_218_90 rfl (q_iload_n c_218_91 rfl (v_iadd (v := 4 * a2 + a3) c_218_92 rfl ?_)))))))
                have h_49 := ir_59_g hI_45 (j := 4 * a2 + a3) ((q_e0f71dbae h_14 h_21 h_33 h_48))
                refine v_ia (v := c_44 59 (4 * a2 + a3)) c_218_93 rfl (of_decide_eq_true rfl) (of_decide_eq_true rfl) ⟨(q_c6184d3d7 h_15 h_27), (q_9e2b4593f h_14 h_21 h_33)⟩ rfl (q_iret c_218_94 rfl ?_)
                exact K c_44 (c_44 59 (4 * a2 + a3)) hI_45 (fun a j hm => (hF_46 a j (fun h => hm (Or.inr (Or.inr h)))).trans ((hF_42 a j (fun h => hm (Or.inr (Or.inr h)))).trans (up_b (Decidable.or_iff_not_imp_left.mpr (fun h1 h2 => hm (Or.inl ⟨Decidable.not_not.mp h1, h2⟩)))))) ⟨(lel h_49.1 rfl), (ler h_49.2 rfl)⟩
              · refine v_ic_ne_f (t := 84) c_218_68 rfl (Decidable.not_not.mp h_48) (q_aload_n c_218_71 rfl (v_gr (t := 59) c_218_72 kf_8_68 rfl (Nat.le_of_ble_eq_true rfl) rfl (v_bip c_218_75 (of_decide_eq_true rfl) ?_)))
                have h_50 := ir_59 hI_45 35
                refine v_ia (v := c_44 59 35) c_218_77 rfl (of_decide_eq_true rfl) (of_decide_eq_true rfl) (of_decide_eq_true rfl) rfl (q_iload c_218_78 rfl (v_isub (v := c_44 59 35 - c_40 59 35) c_218_80 (by first | (clear ha1 ha2 ha3 h_1 h_2 h_8 h_14 h_15 h_21 h_27 h_33 h_43 h_48 h_50; omega) | omega) (v_nrm (fun y_51 hy_51 => (q_goto (t := 94) c_218_81 rfl (q_iret c_218_94 rfl ?_))))))
                exact K c_44 y_51 hI_45 (fun a j hm => (hF_46 a j (fun h => hm (Or.inr (Or.inr h)))).trans ((hF_42 a j (fun h => hm (Or.inr (Or.inr h)))).trans (up_b (Decidable.or_iff_not_imp_left.mpr (fun h1 h2 => hm (Or.inl ⟨Decidable.not_not.mp h1, h2⟩)))))) hy_51

set_option maxRecDepth 100000 in
set_option maxHeartbeats 4000000 in
theorem s_219 {sc : List Int32} {d P Q : Nat} {c : ME} {a1 : Int} {a2 : Int} {a3 : Int} {Z : AR → Prop} (hI : Iv 0 (-1) P Q c) (ha1 : (-2147483648) ≤ a1 ∧ a1 ≤ 2147483647) (ha2 : (-2147483648) ≤ a2 ∧ a2 ≤ 2147483647) (ha3 : (-2147483648) ≤ a3 ∧ a3 ≤ 2147483647) (K : ∀ (c2 : ME) (y : Int), Iv 0 (-1) P Q c2 → (∀ (a : Nat) (j : Int), ¬ ((a = 41 ∧ j = 0) ∨ a = 42 ∨ a = 59) → c2 a j = c a j) → (-2147483648) ≤ y ∧ y ≤ 2147483647 → Z (.inl (some (vi y)), Wd P Q P P c2, 0, 0)) : Wp sc (d + 9) 219 0 [(0, .ref 41), (1, vi a1), (2, vi a2), (3, vi a3)] [] (Wd P Q P P c) 0 0 Z := by
  have hP := iv_P hI
  have hQ := iv_Q hI
  refine q_aload_n c_219_0 rfl (q_iconst c_219_1 (v_pi (z := 0) c_219_2 kf_8_3 rfl (Nat.le_of_ble_eq_true rfl) rfl rfl rfl (of_decide_eq_true rfl) (q_aload_n c_219_5 rfl (q_iload_n c_219_6 rfl (q_aload_n c_219_7 rfl ?_)))))
  have h_1 := ir_41_22 hI
  refine v_gi (z := 22) (v := c 41 22) c_219_8 kf_8_163 rfl (Nat.le_of_ble_eq_true rfl) rfl rfl (up_n (ni rfl)) (v_cv c_219_11 km_8_396 rfl rfl (Nat.le_of_ble_eq_true rfl) ⟨⟨rfl, rfl⟩, Nat.le_of_ble_eq_true rfl, rfl⟩ (Nat.le_of_ble_eq_true rfl) (Nat.le_of_ble_eq_true rfl) (q_aload_n c_212_0 rfl (q_iload_n c_212_1 rfl (q_iconst c_212_2 (q_iload_n c_212_3 rfl (q_iconst c_212_4 (v_isub (v := c 41 22 - 1) c_212_5 rfl ?_)))))))
  refine q_call c_212_6 rfl rfl rfl (q_iload_n c_146_0 rfl (q_iload_n c_146_1 rfl ?_))
  by_cases h_2 : a1 < 0
  · refine v_ic_lt_t (t := 14) c_146_2 rfl ⟨ha1.1, h_2, of_decide_eq_true rfl⟩ (q_iconst c_146_14 (v_zret c_146_15 rfl (of_decide_eq_true rfl) (bk_inl (q_iconst c_212_9 (q_iconst c_212_10 (v_cv c_212_11 km_8_203 rfl rfl (Nat.le_of_ble_eq_true rfl) ⟨⟨rfl, rfl⟩, Nat.le_of_ble_eq_true rfl, rfl⟩ (Nat.le_of_ble_eq_true rfl) (Nat.le_of_ble_eq_true rfl) (q_iload_n c_145_0 rfl ?_)))))))
    refine v_if_ne_f (t := 26) c_145_1 rfl (of_decide_eq_true rfl) (q_aload_n c_145_4 rfl (v_gi (z := 0) (v := 0) c_145_5 kf_8_3 rfl (Nat.le_of_ble_eq_true rfl) rfl rfl (up_e rfl) (v_if_ne_f (t := 26) c_145_8 rfl (of_decide_eq_true rfl) (q_aload_n c_145_11 rfl (q_iload_n c_145_12 rfl (v_pi (z := 0) c_145_13 kf_8_3 rfl (Nat.le_of_ble_eq_true rfl) rfl rfl rfl (of_decide_eq_true rfl) (q_aload_n c_145_16 rfl ?_)))))))
    refine v_gr (t := 42) c_145_17 kf_8_7 rfl (Nat.le_of_ble_eq_true rfl) rfl (q_iload_n c_145_20 rfl (q_dup2 c_145_21 ⟨rfl, rfl⟩ ?_))
    have h_3 := ir_42 hI 0
    refine v_ia (v := c 42 0) c_145_22 rfl (of_decide_eq_true rfl) (of_decide_eq_true rfl) (of_decide_eq_true rfl) ((up_c (nn rfl)).trans (up_c (nn rfl))) (q_iconst c_145_23 (v_iadd (v := c 42 0 + 1) c_145_24 rfl (v_nrm (fun y_4 hy_4 => (v_is c_145_25 rfl (of_decide_eq_true rfl) (of_decide_eq_true rfl) (of_decide_eq_true rfl) (q_aload_n c_145_26 rfl (v_gi (z := 0) (v := 1) c_145_27 kf_8_3 rfl (Nat.le_of_ble_eq_true rfl) rfl rfl ((up_c (nn rfl)).trans (up_e rfl)) (v_if_ne_t (t := 37) c_145_30 rfl (of_decide_eq_true rfl) ?_))))))))
    refine q_iconst c_145_37 (v_zret c_145_38 rfl (of_decide_eq_true rfl) (bk_inl (v_zret c_212_14 rfl (of_decide_eq_true rfl) (bk_inl (v_if_eq_t (t := 44) c_219_14 rfl (of_decide_eq_true rfl) (q_iconst c_219_44 (q_iret c_219_45 rfl ?_)))))))
    have hI_5 := iw_41_0 (v := 0) hI ⟨of_decide_eq_true rfl, of_decide_eq_true rfl⟩
    have hI_6 := iw_41_0 (v := 1) hI_5 ⟨of_decide_eq_true rfl, of_decide_eq_true rfl⟩
    have hI_7 := iw_42 (j := 0) (v := y_4) hI_6 ⟨hy_4.1, hy_4.2⟩
    exact K (up (up (up c 41 0 0) 41 0 1) 42 0 y_4) 0 hI_7 (fun a j hm => (up_b (Decidable.or_iff_not_imp_left.mpr (fun h1 h2 => hm (Or.inr (Or.inl (Decidable.not_not.mp h1)))))).trans ((up_b (Decidable.or_iff_not_imp_left.mpr (fun h1 h2 => hm (Or.inl ⟨Decidable.not_not.mp h1, h2⟩)))).trans (up_b (Decidable.or_iff_not_imp_left.mpr (fun h1 h2 => hm (Or.inl ⟨Decidable.not_not.mp h1, h2⟩)))))) ⟨of_decide_eq_true rfl, of_decide_eq_true rfl⟩
  · refine v_ic_lt_f (t := 14) c_146_2 rfl ⟨of_decide_eq_true rfl, (Int.not_lt.mp h_2), ha1.2⟩ (q_iload_n c_146_5 rfl (q_iload_n c_146_6 rfl ?_))
    by_cases h_8 : a1 > c 41 22 - 1
    · refine v_ic_gt_t (t := 14) c_146_7 rfl ⟨(rgm_l h_1.1 (of_decide_eq_true rfl)), h_8, ha1.2⟩ (q_iconst c_146_14 (v_zret c_146_15 rfl (of_decide_eq_true rfl) (bk_inl (q_iconst c_212_9 (q_iconst c_212_10 (v_cv c_212_11 km_8_203 rfl rfl (Nat.le_of_ble_eq_true rfl) ⟨⟨rfl, rfl⟩, Nat.le_of_ble_eq_true rfl, rfl⟩ (Nat.le_of_ble_eq_true rfl) (Nat.le_of_ble_eq_true rfl) (q_iload_n c_145_0 rfl ?_)))))))
      refine v_if_ne_f (t := 26) c_145_1 rfl (of_decide_eq_true rfl) (q_aload_n c_145_4 rfl (v_gi (z := 0) (v := 0) c_145_5 kf_8_3 rfl (Nat.le_of_ble_eq_true rfl) rfl rfl (up_e rfl) (v_if_ne_f (t := 26) c_145_8 rfl (of_decide_eq_true rfl) (q_aload_n c_145_11 rfl (q_iload_n c_145_12 rfl (v_pi (z := 0) c_145_13 kf_8_3 rfl (Nat.le_of_ble_eq_true rfl) rfl rfl rfl (of_decide_eq_true rfl) (q_aload_n c_145_16 rfl ?_)))))))
      refine v_gr (t := 42) c_145_17 kf_8_7 rfl (Nat.le_of_ble_eq_true rfl) rfl (q_iload_n c_145_20 rfl (q_dup2 c_145_21 ⟨rfl, rfl⟩ ?_))
      have h_9 := ir_42 hI 0
      refine v_ia (v := c 42 0) c_145_22 rfl (of_decide_eq_true rfl) (of_decide_eq_true rfl) (of_decide_eq_true rfl) ((up_c (nn rfl)).trans (up_c (nn rfl))) (q_iconst c_145_23 (v_iadd (v := c 42 0 + 1) c_145_24 rfl (v_nrm (fun y_10 hy_10 => (v_is c_145_25 rfl (of_decide_eq_true rfl) (of_decide_eq_true rfl) (of_decide_eq_true rfl) (q_aload_n c_145_26 rfl (v_gi (z := 0) (v := 1) c_145_27 kf_8_3 rfl (Nat.le_of_ble_eq_true rfl) rfl rfl ((up_c (nn rfl)).trans (up_e rfl)) (v_if_ne_t (t := 37) c_145_30 rfl (of_decide_eq_true rfl) ?_))))))))
      refine q_iconst c_145_37 (v_zret c_145_38 rfl (of_decide_eq_true rfl) (bk_inl (v_zret c_212_14 rfl (of_decide_eq_true rfl) (bk_inl (v_if_eq_t (t := 44) c_219_14 rfl (of_decide_eq_true rfl) (q_iconst c_219_44 (q_iret c_219_45 rfl ?_)))))))
      have hI_11 := iw_41_0 (v := 0) hI ⟨of_decide_eq_true rfl, of_decide_eq_true rfl⟩
      have hI_12 := iw_41_0 (v := 1) hI_11 ⟨of_decide_eq_true rfl, of_decide_eq_true rfl⟩
      have hI_13 := iw_42 (j := 0) (v := y_10) hI_12 ⟨hy_10.1, hy_10.2⟩
      exact K (up (up (up c 41 0 0) 41 0 1) 42 0 y_10) 0 hI_13 (fun a j hm => (up_b (Decidable.or_iff_not_imp_left.mpr (fun h1 h2 => hm (Or.inr (Or.inl (Decidable.not_not.mp h1)))))).trans ((up_b (Decidable.or_iff_not_imp_left.mpr (fun h1 h2 => hm (Or.inl ⟨Decidable.not_not.mp h1, h2⟩)))).trans (up_b (Decidable.or_iff_not_imp_left.mpr (fun h1 h2 => hm (Or.inl ⟨Decidable.not_not.mp h1, h2⟩)))))) ⟨of_decide_eq_true rfl, of_decide_eq_true rfl⟩
    · refine v_ic_gt_f (t := 14) c_146_7 rfl ⟨ha1.1, (Int.not_lt.mp h_8), (rgm_h h_1.2 (of_decide_eq_true rfl))⟩ (q_iconst c_146_10 (q_goto (t := 15) c_146_11 rfl (v_zret c_146_15 rfl (of_decide_eq_true rfl) (bk_inl (q_iconst c_212_9 (q_iconst c_212_10 (v_cv c_212_11 km_8_203 rfl rfl (Nat.le_of_ble_eq_true rfl) ⟨⟨rfl, rfl⟩, Nat.le_of_ble_eq_true rfl, rfl⟩ (Nat.le_of_ble_eq_true rfl) (Nat.le_of_ble_eq_true rfl) ?_)))))))
      refine q_iload_n c_145_0 rfl (v_if_ne_t (t := 26) c_145_1 rfl (of_decide_eq_true rfl) (q_aload_n c_145_26 rfl (v_gi (z := 0) (v := 0) c_145_27 kf_8_3 rfl (Nat.le_of_ble_eq_true rfl) rfl rfl (up_e rfl) (v_if_ne_f (t := 37) c_145_30 rfl (of_decide_eq_true rfl) (q_iconst c_145_33 (q_goto (t := 38) c_145_34 rfl (v_zret c_145_38 rfl (of_decide_eq_true rfl) ?_)))))))
      refine bk_inl (v_zret c_212_14 rfl (of_decide_eq_true rfl) (bk_inl (v_if_eq_f (t := 44) c_219_14 rfl (of_decide_eq_true rfl) (q_aload_n c_219_17 rfl (q_iload_n c_219_18 rfl (q_aload_n c_219_19 rfl ?_))))))
      have h_14 := ir_41_20 hI
      refine v_gi (z := 20) (v := c 41 20) c_219_20 kf_8_157 rfl (Nat.le_of_ble_eq_true rfl) rfl rfl (up_n (ni rfl)) (v_cv c_219_23 km_8_396 rfl rfl (Nat.le_of_ble_eq_true rfl) ⟨⟨rfl, rfl⟩, Nat.le_of_ble_eq_true rfl, rfl⟩ (Nat.le_of_ble_eq_true rfl) (Nat.le_of_ble_eq_true rfl) (q_aload_n c_212_0 rfl (q_iload_n c_212_1 rfl (q_iconst c_212_2 (q_iload_n c_212_3 rfl (q_iconst c_212_4 (v_isub (v := c 41 20 - 1) c_212_5 rfl ?_)))))))
      refine q_call c_212_6 rfl rfl rfl (q_iload_n c_146_0 rfl (q_iload_n c_146_1 rfl ?_))
      by_cases h_15 : a2 < 0
      · refine v_ic_lt_t (t := 14) c_146_2 rfl ⟨ha2.1, h_15, of_decide_eq_true rfl⟩ (q_iconst c_146_14 (v_zret c_146_15 rfl (of_decide_eq_true rfl) (bk_inl (q_iconst c_212_9 (q_iconst c_212_10 (v_cv c_212_11 km_8_203 rfl rfl (Nat.le_of_ble_eq_true rfl) ⟨⟨rfl, rfl⟩, Nat.le_of_ble_eq_true rfl, rfl⟩ (Nat.le_of_ble_eq_true rfl) (Nat.le_of_ble_eq_true rfl) (q_iload_n c_145_0 rfl ?_)))))))
        refine v_if_ne_f (t := 26) c_145_1 rfl (of_decide_eq_true rfl) (q_aload_n c_145_4 rfl (v_gi (z := 0) (v := 0) c_145_5 kf_8_3 rfl (Nat.le_of_ble_eq_true rfl) rfl rfl (up_e rfl) (v_if_ne_f (t := 26) c_145_8 rfl (of_decide_eq_true rfl) (q_aload_n c_145_11 rfl (q_iload_n c_145_12 rfl (v_pi (z := 0) c_145_13 kf_8_3 rfl (Nat.le_of_ble_eq_true rfl) rfl rfl rfl (of_decide_eq_true rfl) (q_aload_n c_145_16 rfl ?_)))))))
        refine v_gr (t := 42) c_145_17 kf_8_7 rfl (Nat.le_of_ble_eq_true rfl) rfl (q_iload_n c_145_20 rfl (q_dup2 c_145_21 ⟨rfl, rfl⟩ ?_))
        have h_16 := ir_42 hI 0
        refine v_ia (v := c 42 0) c_145_22 rfl (of_decide_eq_true rfl) (of_decide_eq_true rfl) (of_decide_eq_true rfl) ((up_c (nn rfl)).trans (up_c (nn rfl))) (q_iconst c_145_23 (v_iadd (v := c 42 0 + 1) c_145_24 rfl (v_nrm (fun y_17 hy_17 => (v_is c_145_25 rfl (of_decide_eq_true rfl) (of_decide_eq_true rfl) (of_decide_eq_true rfl) (q_aload_n c_145_26 rfl (v_gi (z := 0) (v := 1) c_145_27 kf_8_3 rfl (Nat.le_of_ble_eq_true rfl) rfl rfl ((up_c (nn rfl)).trans (up_e rfl)) (v_if_ne_t (t := 37) c_145_30 rfl (of_decide_eq_true rfl) ?_))))))))
        refine q_iconst c_145_37 (v_zret c_145_38 rfl (of_decide_eq_true rfl) (bk_inl (v_zret c_212_14 rfl (of_decide_eq_true rfl) (bk_inl (v_if_eq_t (t := 44) c_219_26 rfl (of_decide_eq_true rfl) (q_iconst c_219_44 (q_iret c_219_45 rfl ?_)))))))
        have hI_18 := iw_41_0 (v := 0) hI ⟨of_decide_eq_true rfl, of_decide_eq_true rfl⟩
        have hI_19 := iw_41_0 (v := 1) hI_18 ⟨of_decide_eq_true rfl, of_decide_eq_true rfl⟩
        have hI_20 := iw_42 (j := 0) (v := y_17) hI_19 ⟨hy_17.1, hy_17.2⟩
        exact K (up (up (up c 41 0 0) 41 0 1) 42 0 y_17) 0 hI_20 (fun a j hm => (up_b (Decidable.or_iff_not_imp_left.mpr (fun h1 h2 => hm (Or.inr (Or.inl (Decidable.not_not.mp h1)))))).trans ((up_b (Decidable.or_iff_not_imp_left.mpr (fun h1 h2 => hm (Or.inl ⟨Decidable.not_not.mp h1, h2⟩)))).trans (up_b (Decidable.or_iff_not_imp_left.mpr (fun h1 h2 => hm (Or.inl ⟨Decidable.not_not.mp h1, h2⟩)))))) ⟨of_decide_eq_true rfl, of_decide_eq_true rfl⟩
      · refine v_ic_lt_f (t := 14) c_146_2 rfl ⟨of_decide_eq_true rfl, (Int.not_lt.mp h_15), ha2.2⟩ (q_iload_n c_146_5 rfl (q_iload_n c_146_6 rfl ?_))
        by_cases h_21 : a2 > c 41 20 - 1
        · refine v_ic_gt_t (t := 14) c_146_7 rfl ⟨(rgm_l h_14.1 (of_decide_eq_true rfl)), h_21, ha2.2⟩ (q_iconst c_146_14 (v_zret c_146_15 rfl (of_decide_eq_true rfl) (bk_inl (q_iconst c_212_9 (q_iconst c_212_10 (v_cv c_212_11 km_8_203 rfl rfl (Nat.le_of_ble_eq_true rfl) ⟨⟨rfl, rfl⟩, Nat.le_of_ble_eq_true rfl, rfl⟩ (Nat.le_of_ble_eq_true rfl) (Nat.le_of_ble_eq_true rfl) (q_iload_n c_145_0 rfl ?_)))))))
          refine v_if_ne_f (t := 26) c_145_1 rfl (of_decide_eq_true rfl) (q_aload_n c_145_4 rfl (v_gi (z := 0) (v := 0) c_145_5 kf_8_3 rfl (Nat.le_of_ble_eq_true rfl) rfl rfl (up_e rfl) (v_if_ne_f (t := 26) c_145_8 rfl (of_decide_eq_true rfl) (q_aload_n c_145_11 rfl (q_iload_n c_145_12 rfl (v_pi (z := 0) c_145_13 kf_8_3 rfl (Nat.le_of_ble_eq_true rfl) rfl rfl rfl (of_decide_eq_true rfl) (q_aload_n c_145_16 rfl ?_)))))))
          refine v_gr (t := 42) c_145_17 kf_8_7 rfl (Nat.le_of_ble_eq_true rfl) rfl (q_iload_n c_145_20 rfl (q_dup2 c_145_21 ⟨rfl, rfl⟩ ?_))
          have h_22 := ir_42 hI 0
          refine v_ia (v := c 42 0) c_145_22 rfl (of_decide_eq_true rfl) (of_decide_eq_true rfl) (of_decide_eq_true rfl) ((up_c (nn rfl)).trans (up_c (nn rfl))) (q_iconst c_145_23 (v_iadd (v := c 42 0 + 1) c_145_24 rfl (v_nrm (fun y_23 hy_23 => (v_is c_145_25 rfl (of_decide_eq_true rfl) (of_decide_eq_true rfl) (of_decide_eq_true rfl) (q_aload_n c_145_26 rfl (v_gi (z := 0) (v := 1) c_145_27 kf_8_3 rfl (Nat.le_of_ble_eq_true rfl) rfl rfl ((up_c (nn rfl)).trans (up_e rfl)) (v_if_ne_t (t := 37) c_145_30 rfl (of_decide_eq_true rfl) ?_))))))))
          refine q_iconst c_145_37 (v_zret c_145_38 rfl (of_decide_eq_true rfl) (bk_inl (v_zret c_212_14 rfl (of_decide_eq_true rfl) (bk_inl (v_if_eq_t (t := 44) c_219_26 rfl (of_decide_eq_true rfl) (q_iconst c_219_44 (q_iret c_219_45 rfl ?_)))))))
          have hI_24 := iw_41_0 (v := 0) hI ⟨of_decide_eq_true rfl, of_decide_eq_true rfl⟩
          have hI_25 := iw_41_0 (v := 1) hI_24 ⟨of_decide_eq_true rfl, of_decide_eq_true rfl⟩
          have hI_26 := iw_42 (j := 0) (v := y_23) hI_25 ⟨hy_23.1, hy_23.2⟩
          exact K (up (up (up c 41 0 0) 41 0 1) 42 0 y_23) 0 hI_26 (fun a j hm => (up_b (Decidable.or_iff_not_imp_left.mpr (fun h1 h2 => hm (Or.inr (Or.inl (Decidable.not_not.mp h1)))))).trans ((up_b (Decidable.or_iff_not_imp_left.mpr (fun h1 h2 => hm (Or.inl ⟨Decidable.not_not.mp h1, h2⟩)))).trans (up_b (Decidable.or_iff_not_imp_left.mpr (fun h1 h2 => hm (Or.inl ⟨Decidable.not_not.mp h1, h2⟩)))))) ⟨of_decide_eq_true rfl, of_decide_eq_true rfl⟩
        · refine v_ic_gt_f (t := 14) c_146_7 rfl ⟨ha2.1, (Int.not_lt.mp h_21), (rgm_h h_14.2 (of_decide_eq_true rfl))⟩ (q_iconst c_146_10 (q_goto (t := 15) c_146_11 rfl (v_zret c_146_15 rfl (of_decide_eq_true rfl) (bk_inl (q_iconst c_212_9 (q_iconst c_212_10 (v_cv c_212_11 km_8_203 rfl rfl (Nat.le_of_ble_eq_true rfl) ⟨⟨rfl, rfl⟩, Nat.le_of_ble_eq_true rfl, rfl⟩ (Nat.le_of_ble_eq_true rfl) (Nat.le_of_ble_eq_true rfl) ?_)))))))
          refine q_iload_n c_145_0 rfl (v_if_ne_t (t := 26) c_145_1 rfl (of_decide_eq_true rfl) (q_aload_n c_145_26 rfl (v_gi (z := 0) (v := 0) c_145_27 kf_8_3 rfl (Nat.le_of_ble_eq_true rfl) rfl rfl (up_e rfl) (v_if_ne_f (t := 37) c_145_30 rfl (of_decide_eq_true rfl) (q_iconst c_145_33 (q_goto (t := 38) c_145_34 rfl (v_zret c_145_38 rfl (of_decide_eq_true rfl) ?_)))))))
          refine bk_inl (v_zret c_212_14 rfl (of_decide_eq_true rfl) (bk_inl (v_if_eq_f (t := 44) c_219_26 rfl (of_decide_eq_true rfl) (q_aload_n c_219_29 rfl (q_iload_n c_219_30 rfl (q_iconst c_219_31 (q_iconst c_219_32 ?_)))))))
          refine q_call c_219_33 rfl rfl rfl (q_iload_n c_146_0 rfl (q_iload_n c_146_1 rfl ?_))
          by_cases h_27 : a3 < 0
          · refine v_ic_lt_t (t := 14) c_146_2 rfl ⟨ha3.1, h_27, of_decide_eq_true rfl⟩ (q_iconst c_146_14 (v_zret c_146_15 rfl (of_decide_eq_true rfl) (bk_inl (q_iconst c_219_36 (q_iconst c_219_37 (v_cv c_219_38 km_8_203 rfl rfl (Nat.le_of_ble_eq_true rfl) ⟨⟨rfl, rfl⟩, Nat.le_of_ble_eq_true rfl, rfl⟩ (Nat.le_of_ble_eq_true rfl) (Nat.le_of_ble_eq_true rfl) (q_iload_n c_145_0 rfl ?_)))))))
            refine v_if_ne_f (t := 26) c_145_1 rfl (of_decide_eq_true rfl) (q_aload_n c_145_4 rfl (v_gi (z := 0) (v := 0) c_145_5 kf_8_3 rfl (Nat.le_of_ble_eq_true rfl) rfl rfl (up_e rfl) (v_if_ne_f (t := 26) c_145_8 rfl (of_decide_eq_true rfl) (q_aload_n c_145_11 rfl (q_iload_n c_145_12 rfl (v_pi (z := 0) c_145_13 kf_8_3 rfl (Nat.le_of_ble_eq_true rfl) rfl rfl rfl (of_decide_eq_true rfl) (q_aload_n c_145_16 rfl ?_)))))))
            refine v_gr (t := 42) c_145_17 kf_8_7 rfl (Nat.le_of_ble_eq_true rfl) rfl (q_iload_n c_145_20 rfl (q_dup2 c_145_21 ⟨rfl, rfl⟩ ?_))
            have h_28 := ir_42 hI 1
            refine v_ia (v := c 42 1) c_145_22 rfl (of_decide_eq_true rfl) (of_decide_eq_true rfl) (of_decide_eq_true rfl) ((up_c (nn rfl)).trans (up_c (nn rfl))) (q_iconst c_145_23 (v_iadd (v := c 42 1 + 1) c_145_24 rfl (v_nrm (fun y_29 hy_29 => (v_is c_145_25 rfl (of_decide_eq_true rfl) (of_decide_eq_true rfl) (of_decide_eq_true rfl) (q_aload_n c_145_26 rfl (v_gi (z := 0) (v := 2) c_145_27 kf_8_3 rfl (Nat.le_of_ble_eq_true rfl) rfl rfl ((up_c (nn rfl)).trans (up_e rfl)) (v_if_ne_t (t := 37) c_145_30 rfl (of_decide_eq_true rfl) ?_))))))))
            refine q_iconst c_145_37 (v_zret c_145_38 rfl (of_decide_eq_true rfl) (bk_inl (v_if_ne_f (t := 46) c_219_41 rfl (of_decide_eq_true rfl) (q_iconst c_219_44 (q_iret c_219_45 rfl ?_)))))
            have hI_30 := iw_41_0 (v := 0) hI ⟨of_decide_eq_true rfl, of_decide_eq_true rfl⟩
            have hI_31 := iw_41_0 (v := 2) hI_30 ⟨of_decide_eq_true rfl, of_decide_eq_true rfl⟩
            have hI_32 := iw_42 (j := 1) (v := y_29) hI_31 ⟨hy_29.1, hy_29.2⟩
            exact K (up (up (up c 41 0 0) 41 0 2) 42 1 y_29) 0 hI_32 (fun a j hm => (up_b (Decidable.or_iff_not_imp_left.mpr (fun h1 h2 => hm (Or.inr (Or.inl (Decidable.not_not.mp h1)))))).trans ((up_b (Decidable.or_iff_not_imp_left.mpr (fun h1 h2 => hm (Or.inl ⟨Decidable.not_not.mp h1, h2⟩)))).trans (up_b (Decidable.or_iff_not_imp_left.mpr (fun h1 h2 => hm (Or.inl ⟨Decidable.not_not.mp h1, h2⟩)))))) ⟨of_decide_eq_true rfl, of_decide_eq_true rfl⟩
          · refine v_ic_lt_f (t := 14) c_146_2 rfl ⟨of_decide_eq_true rfl, (Int.not_lt.mp h_27), ha3.2⟩ (q_iload_n c_146_5 rfl (q_iload_n c_146_6 rfl ?_))
            by_cases h_33 : a3 > 4
            · refine v_ic_gt_t (t := 14) c_146_7 rfl ⟨of_decide_eq_true rfl, h_33, ha3.2⟩ (q_iconst c_146_14 (v_zret c_146_15 rfl (of_decide_eq_true rfl) (bk_inl (q_iconst c_219_36 (q_iconst c_219_37 (v_cv c_219_38 km_8_203 rfl rfl (Nat.le_of_ble_eq_true rfl) ⟨⟨rfl, rfl⟩, Nat.le_of_ble_eq_true rfl, rfl⟩ (Nat.le_of_ble_eq_true rfl) (Nat.le_of_ble_eq_true rfl) (q_iload_n c_145_0 rfl ?_)))))))
              refine v_if_ne_f (t := 26) c_145_1 rfl (of_decide_eq_true rfl) (q_aload_n c_145_4 rfl (v_gi (z := 0) (v := 0) c_145_5 kf_8_3 rfl (Nat.le_of_ble_eq_true rfl) rfl rfl (up_e rfl) (v_if_ne_f (t := 26) c_145_8 rfl (of_decide_eq_true rfl) (q_aload_n c_145_11 rfl (q_iload_n c_145_12 rfl (v_pi (z := 0) c_145_13 kf_8_3 rfl (Nat.le_of_ble_eq_true rfl) rfl rfl rfl (of_decide_eq_true rfl) (q_aload_n c_145_16 rfl ?_)))))))
              refine v_gr (t := 42) c_145_17 kf_8_7 rfl (Nat.le_of_ble_eq_true rfl) rfl (q_iload_n c_145_20 rfl (q_dup2 c_145_21 ⟨rfl, rfl⟩ ?_))
              have h_34 := ir_42 hI 1
              refine v_ia (v := c 42 1) c_145_22 rfl (of_decide_eq_true rfl) (of_decide_eq_true rfl) (of_decide_eq_true rfl) ((up_c (nn rfl)).trans (up_c (nn rfl))) (q_iconst c_145_23 (v_iadd (v := c 42 1 + 1) c_145_24 rfl (v_nrm (fun y_35 hy_35 => (v_is c_145_25 rfl (of_decide_eq_true rfl) (of_decide_eq_true rfl) (of_decide_eq_true rfl) (q_aload_n c_145_26 rfl (v_gi (z := 0) (v := 2) c_145_27 kf_8_3 rfl (Nat.le_of_ble_eq_true rfl) rfl rfl ((up_c (nn rfl)).trans (up_e rfl)) (v_if_ne_t (t := 37) c_145_30 rfl (of_decide_eq_true rfl) ?_))))))))
              refine q_iconst c_145_37 (v_zret c_145_38 rfl (of_decide_eq_true rfl) (bk_inl (v_if_ne_f (t := 46) c_219_41 rfl (of_decide_eq_true rfl) (q_iconst c_219_44 (q_iret c_219_45 rfl ?_)))))
              have hI_36 := iw_41_0 (v := 0) hI ⟨of_decide_eq_true rfl, of_decide_eq_true rfl⟩
              have hI_37 := iw_41_0 (v := 2) hI_36 ⟨of_decide_eq_true rfl, of_decide_eq_true rfl⟩
              have hI_38 := iw_42 (j := 1) (v := y_35) hI_37 ⟨hy_35.1, hy_35.2⟩
              exact K (up (up (up c 41 0 0) 41 0 2) 42 1 y_35) 0 hI_38 (fun a j hm => (up_b (Decidable.or_iff_not_imp_left.mpr (fun h1 h2 => hm (Or.inr (Or.inl (Decidable.not_not.mp h1)))))).trans ((up_b (Decidable.or_iff_not_imp_left.mpr (fun h1 h2 => hm (Or.inl ⟨Decidable.not_not.mp h1, h2⟩)))).trans (up_b (Decidable.or_iff_not_imp_left.mpr (fun h1 h2 => hm (Or.inl ⟨Decidable.not_not.mp h1, h2⟩)))))) ⟨of_decide_eq_true rfl, of_decide_eq_true rfl⟩
            · refine v_ic_gt_f (t := 14) c_146_7 rfl ⟨ha3.1, (Int.not_lt.mp h_33), of_decide_eq_true rfl⟩ (q_iconst c_146_10 (q_goto (t := 15) c_146_11 rfl (v_zret c_146_15 rfl (of_decide_eq_true rfl) (bk_inl (q_iconst c_219_36 (q_iconst c_219_37 (v_cv c_219_38 km_8_203 rfl rfl (Nat.le_of_ble_eq_true rfl) ⟨⟨rfl, rfl⟩, Nat.le_of_ble_eq_true rfl, rfl⟩ (Nat.le_of_ble_eq_true rfl) (Nat.le_of_ble_eq_true rfl) ?_)))))))
              refine q_iload_n c_145_0 rfl (v_if_ne_t (t := 26) c_145_1 rfl (of_decide_eq_true rfl) (q_aload_n c_145_26 rfl (v_gi (z := 0) (v := 0) c_145_27 kf_8_3 rfl (Nat.le_of_ble_eq_true rfl) rfl rfl (up_e rfl) (v_if_ne_f (t := 37) c_145_30 rfl (of_decide_eq_true rfl) (q_iconst c_145_33 (q_goto (t := 38) c_145_34 rfl (v_zret c_145_38 rfl (of_decide_eq_true rfl) ?_)))))))
              refine bk_inl (v_if_ne_t (t := 46) c_219_41 rfl (of_decide_eq_true rfl) (q_aload_n c_219_46 rfl ?_))
              have hI_39 := iw_41_0 (v := 0) hI ⟨of_decide_eq_true rfl, of_decide_eq_true rfl⟩
              refine v_cv c_219_47 km_8_317 rfl rfl (Nat.le_of_ble_eq_true rfl) ⟨⟨rfl, rfl⟩, Nat.le_of_ble_eq_true rfl, rfl⟩ (Nat.le_of_ble_eq_true rfl) (Nat.le_of_ble_eq_true rfl) (s_186 hI_39 (fun c_40 hI_41 hF_42 => (bk_inl (q_iload_n c_219_50 rfl (q_iconst c_219_51 ?_)))))
              by_cases h_43 : a3 ≠ 4
              · refine v_ic_ne_t (t := 64) c_219_52 rfl ⟨h_43, ⟨ha3.1, ha3.2⟩, of_decide_eq_true rfl, of_decide_eq_true rfl⟩ (q_aload_n c_219_64 rfl (q_iload_n c_219_65 rfl (q_iload_n c_219_66 rfl (q_iload_n c_219_67 rfl ?_))))
                have h_44 := ir_49 hI a1
                have kn_45 : Hid (c_40 49 a1 = c 49 a1) := (hF_42 49 a1 (fun h => absurd h (nn rfl))).trans (up_c (nn rfl))
                have h_46 := ir_59 hI_41 (a1 + 30)
                have h_47 := ir_59_g hI_41 (j := 4 * a2 + a3) ((q_e0f71dbae h_14 h_21 h_33 h_43))
                have h_48 := fal_rng (m := c 49 a1) (t := c_40 59 (a1 + 30)) (g := a3) (x := c_40 59 (4 * a2 + a3)) ((q_c6ed8760d h_47))
                refine v_cv c_219_68 km_8_363 rfl rfl (Nat.le_of_ble_eq_true rfl) ⟨⟨rfl, rfl⟩, Nat.le_of_ble_eq_true rfl, rfl⟩ (Nat.le_of_ble_eq_true rfl) (Nat.le_of_ble_eq_true rfl) (s_189 (v1 := c 49 a1) (v2 := c_40 59 (a1 + 30)) (v3 := c_40 59 (4 * a2 + a3)) (r := (fal (c 49 a1) (c_40 59 (a1 + 30)) a3 (c_40 59 (4 * a2 + a3)))) (a1 := a1) (a2 := a2) (a3 := a3) hI_41 (show 0 ≤ a1 ∧ a1 ≤ 3 from ⟨(q_720657ba9 h_2), (q_1b5e4f74b h_1 h_8)⟩) (show 0 ≤ a2 ∧ a2 ≤ 5 from ⟨(q_720657ba9 h_15), (q_3a2e67ab0 h_14 h_21)⟩) (show 0 ≤ a3 ∧ a3 ≤ 3 from ⟨(q_720657ba9 h_27), (q_adb162ac9 h_33 h_43)⟩) ((hid kn_45)) (rfl) (rfl) rfl (bk_inl (q_iret c_219_71 rfl ?_)))
                exact K c_40 (fal (c 49 a1) (c_40 59 (a1 + 30)) a3 (c_40 59 (4 * a2 + a3))) hI_41 (fun a j hm => (hF_42 a j (fun h => hm (Or.inr (Or.inr h)))).trans (up_b (Decidable.or_iff_not_imp_left.mpr (fun h1 h2 => hm (Or.inl ⟨Decidable.not_not.mp h1, h2⟩))))) ⟨(q_fda856264 h_48), (q_4bf067e8d h_47 h_48)⟩
              · refine v_ic_ne_f (t := 64) c_219_52 rfl (Decidable.not_not.mp h_43) (q_aload_n c_219_55 rfl (q_iload_n c_219_56 rfl (q_iload_n c_219_57 rfl ?_)))
                have h_49 := ir_49 hI a1
                have kn_50 : Hid (c_40 49 a1 = c 49 a1) := (hF_42 49 a1 (fun h => absurd h (nn rfl))).trans (up_c (nn rfl))
                have h_51 := ir_59 hI_41 (a1 + 30)
                have h_52 := ir_59_g hI_41 (j := 4 * a2) ((q_b0d0e4535 h_14 h_21))
                have h_53 := ir_59_g hI_41 (j := 4 * a2 + 1) ((q_e3354e5e9 h_14 h_21))
                have h_54 := ir_59_g hI_41 (j := 4 * a2 + 2) ((q_0a5347bcd h_14 h_21))
                have h_55 := ir_59_g hI_41 (j := 4 * a2 + 3) ((q_9939b3b7f h_14 h_21))
                have h_56 := fal_rng (m := c 49 a1) (t := c_40 59 (a1 + 30)) (g := 0) (x := c_40 59 (4 * a2)) ((q_c6ed8760d h_52))
                have h_57 := fal_rng (m := c 49 a1) (t := c_40 59 (a1 + 30)) (g := 1) (x := c_40 59 (4 * a2 + 1)) ((q_c6ed8760d h_53))
                have h_58 := fal_rng (m := c 49 a1) (t := c_40 59 (a1 + 30)) (g := 2) (x := c_40 59 (4 * a2 + 2)) ((q_c6ed8760d h_54))
                have h_59 := fal_rng (m := c 49 a1) (t := c_40 59 (a1 + 30)) (g := 3) (x := c_40 59 (4 * a2 + 3)) ((q_c6ed8760d h_55))
                refine v_cv c_219_58 km_8_366 rfl rfl (Nat.le_of_ble_eq_true rfl) ⟨⟨rfl, rfl⟩, Nat.le_of_ble_eq_true rfl, rfl⟩ (Nat.le_of_ble_eq_true rfl) (Nat.le_of_ble_eq_true rfl) (s_190 (v1 := c 49 a1) (v2 := c_40 59 (a1 + 30)) (v3 := c_40 59 (4 * a2)) (v4 := c_40 59 (4 * a2 + 1)) (v5 := c_40 59 (4 * a2 + 2)) (v6 := c_40 59 (4 * a2 + 3)) (r := (fal (c 49 a1) (c_40 59 (a1 + 30)) 0 (c_40 59 (4 * a2))) + (fal (c 49 a1) (c_40 59 (a1 + 30)) 1 (c_40 59 (4 * a2 + 1))) + (fal (c 49 a1) (c_40 59 (a1 + 30)) 2 (c_40 59 (4 * a2 + 2))) + (fal (c 49 a1) (c_40 59 (a1 + 30)) 3 (c_40 59 (4 * a2 + 3)))) (a1 := a1) (a2 := a2) hI_41 (show 0 ≤ a1 ∧ a1 ≤ 3 from ⟨(q_720657ba9 h_2), (q_1b5e4f74b h_1 h_8)⟩) (show 0 ≤ a2 ∧ a2 ≤ 5 from ⟨(q_720657ba9 h_15), (q_3a2e67ab0 h_14 h_21)⟩) ((hid kn_50)) (rfl) (rfl) (rfl) (rfl) (rfl) rfl (bk_inl (q_goto (t := 71) c_219_61 rfl (q_iret c_219_71 rfl ?_))))
                exact K c_40 ((fal (c 49 a1) (c_40 59 (a1 + 30)) 0 (c_40 59 (4 * a2))) + (fal (c 49 a1) (c_40 59 (a1 + 30)) 1 (c_40 59 (4 * a2 + 1))) + (fal (c 49 a1) (c_40 59 (a1 + 30)) 2 (c_40 59 (4 * a2 + 2))) + (fal (c 49 a1) (c_40 59 (a1 + 30)) 3 (c_40 59 (4 * a2 + 3)))) hI_41 (fun a j hm => (hF_42 a j (fun h => hm (Or.inr (Or.inr h)))).trans (up_b (Decidable.or_iff_not_imp_left.mpr (fun h1 h2 => hm (Or.inl ⟨Decidable.not_not.mp h1, h2⟩))))) ⟨(q_c0b7ed1c9 h_56 h_57 h_58 h_59), (q_c7a0dd24d h_52 h_53 h_54 h_55 h_56 h_57 h_58 h_59)⟩

set_option maxRecDepth 100000 in
set_option maxHeartbeats 4000000 in
theorem s_220_l {sc : List Int32} {d P Q : Nat} {c : ME} {a1 : Int} {a2 : Int} {a3 : Int} {Z : AR → Prop} (hI : Iv 0 (-1) P Q c) (ha1 : (-2147483648) ≤ a1 ∧ a1 ≤ 2147483647) (ha2 : (-2147483648) ≤ a2 ∧ a2 ≤ 2147483647) (ha3 : (-2147483648) ≤ a3 ∧ a3 ≤ 2147483647) (K : ∀ (c2 : ME) (y : Int), Iv 0 (-1) P Q c2 → (∀ (a : Nat) (j : Int), ¬ ((a = 41 ∧ j = 0) ∨ a = 42 ∨ a = 59) → c2 a j = c a j) → (-2147483648) ≤ y ∧ y ≤ 2147483647 → Z (.inl (some (vi y)), Wd P Q P P c2, 0, 0)) : ∀ n : Nat, (∀ (c2 : ME) (v4 : Int), Iv 0 (-1) P Q c2 → (∀ (a : Nat) (j : Int), ¬ ((a = 41 ∧ j = 0) ∨ a = 42 ∨ a = 59) → c2 a j = c a j) → 0 ≤ v4 ∧ v4 ≤ 100 → ((a1 ≥ 0 ∧ a1 ≤ 5)) → ((a2 ≥ 0 ∧ a2 ≤ 3)) → 201 - 2 * v4 < (n : Int) → Wp sc (d + 9) 220 55 [(0, .ref 41), (1, vi a1), (2, vi a2), (3, vi a3), (4, vi v4)] [] (Wd P Q P P c2) 0 0 Z) := by
  intro n
  induction n with
  | zero => exact (by intro c2 v4 hI2 hF hv4 hx0 hx1 hm9; have hP := iv_P hI; have hQ := iv_Q hI; exfalso; omega)
  | succ n ih =>
    have hP := iv_P hI
    have hQ := iv_Q hI
    intro c2 v4 hI2 hF hv4 hx0 hx1 hm9
    refine q_iload c_220_55 rfl (v_bip c_220_57 (of_decide_eq_true rfl) ?_)
    by_cases h_1 : v4 > 99
    · refine v_ic_gt_t (t := 95) c_220_59 rfl ⟨of_decide_eq_true rfl, h_1, (ler hv4.2 rfl)⟩ (q_iconst c_220_95 (q_iret c_220_96 rfl ?_))
      exact K c2 (-1) hI2 (fun a j hm => hF a j hm) ⟨of_decide_eq_true rfl, of_decide_eq_true rfl⟩
    · refine v_ic_gt_f (t := 95) c_220_59 rfl ⟨(lel hv4.1 rfl), (Int.not_lt.mp h_1), of_decide_eq_true rfl⟩ (q_aload_n c_220_62 rfl (q_iload_n c_220_63 rfl ?_))
      have h_2 := ir_59_g hI2 (j := 4 * a1) (by omega)
      have h_3 := ir_59_g hI2 (j := 4 * a1 + 1) (by omega)
      have h_4 := ir_59_g hI2 (j := 4 * a1 + 2) (by omega)
      have h_5 := ir_59_g hI2 (j := 4 * a1 + 3) (by omega)
      refine v_cv c_220_64 km_8_343 rfl rfl (Nat.le_of_ble_eq_true rfl) ⟨⟨rfl, rfl⟩, Nat.le_of_ble_eq_true rfl, rfl⟩ (Nat.le_of_ble_eq_true rfl) (Nat.le_of_ble_eq_true rfl) (s_187 (v1 := c2 59 (4 * a1)) (v2 := c2 59 (4 * a1 + 1)) (v3 := c2 59 (4 * a1 + 2)) (v4 := c2 59 (4 * a1 + 3)) (r := c2 59 (4 * a1 + 1) + c2 59 (4 * a1 + 2) + c2 59 (4 * a1 + 3) + c2 59 (4 * a1)) (a1 := a1) hI2 (show 0 ≤ a1 ∧ a1 ≤ 5 from ⟨by omega, by omega⟩) (rfl) (rfl) (rfl) (rfl) (by omega) (bk_inl ?_))
      by_cases h_6 : c2 59 (4 * a1 + 1) + c2 59 (4 * a1 + 2) + c2 59 (4 * a1 + 3) + c2 59 (4 * a1) ≤ 0
      · refine v_if_le_t (t := 95) c_220_67 rfl ⟨(q_e052ef40e h_2 h_3 h_4 h_5), h_6, of_decide_eq_true rfl⟩ (q_iconst c_220_95 (q_iret c_220_96 rfl ?_))
        exact K c2 (-1) hI2 (fun a j hm => hF a j hm) ⟨of_decide_eq_true rfl, of_decide_eq_true rfl⟩
      · refine v_if_le_f (t := 95) c_220_67 rfl ⟨of_decide_eq_true rfl, (Int.not_le.mp h_6), (q_db9ef1f4a h_2 h_3 h_4 h_5)⟩ (q_aload_n c_220_70 rfl (q_iload_n c_220_71 rfl (v_cv c_220_72 km_8_399 rfl rfl (Nat.le_of_ble_eq_true rfl) ⟨⟨rfl, rfl⟩, Nat.le_of_ble_eq_true rfl, rfl⟩ (Nat.le_of_ble_eq_true rfl) (Nat.le_of_ble_eq_true rfl) (s_204 (a1 := a1) hI2 (show 0 ≤ a1 ∧ a1 ≤ 5 from ⟨by omega, by omega⟩) (fun y_7 hy_7 => (bk_inl (q_iload_n c_220_75 rfl ?_)))))))
        by_cases h_8 : y_7 < a3
        · refine v_ic_lt_t (t := 82) c_220_76 rfl ⟨hy_7.1, h_8, ha3.2⟩ (q_aload_n c_220_82 rfl (q_iload_n c_220_83 rfl (q_iload_n c_220_84 rfl (v_cv c_220_85 km_8_335 rfl rfl (Nat.le_of_ble_eq_true rfl) ⟨⟨rfl, rfl⟩, Nat.le_of_ble_eq_true rfl, rfl⟩ (Nat.le_of_ble_eq_true rfl) (Nat.le_of_ble_eq_true rfl) (s_188 (a1 := a2) (a2 := a1) hI2 (show 0 ≤ a2 ∧ a2 ≤ 3 from ⟨by omega, by omega⟩) (show 0 ≤ a1 ∧ a1 ≤ 5 from ⟨by omega, by omega⟩) (fun c_9 y_12 hI_10 hF_11 hy_12 => (bk_inl (q_pop c_220_88 rfl (v_iinc (v := v4 + 1) c_220_89 rfl (Nat.le_of_ble_eq_true rfl) rfl ?_)))))))))
          refine q_goto (t := 55) c_220_92 rfl (Wp_ls [(0, .ref 41), (1, vi a1), (2, vi a2), (3, vi a3), (4, vi (v4 + 1))] (lsub_cons rfl (lsub_cons rfl (lsub_cons rfl (lsub_cons rfl (lsub_cons rfl lsub_nil))))) ?_)
          exact ih c_9 (v4 + 1) hI_10 (fun a j hm => (hF_11 a j (fun h => hm (Or.inr (Or.inr h)))).trans (hF a j hm)) ⟨(rgp_l hv4.1 (of_decide_eq_true rfl)), (q_1eecf77db h_1)⟩ ⟨by omega, by omega⟩ ⟨by omega, by omega⟩ (by omega)
        · refine v_ic_lt_f (t := 82) c_220_76 rfl ⟨ha3.1, (Int.not_lt.mp h_8), hy_7.2⟩ (q_iload c_220_79 rfl (q_iret c_220_81 rfl ?_))
          exact K c2 v4 hI2 (fun a j hm => hF a j hm) ⟨(lel hv4.1 rfl), (ler hv4.2 rfl)⟩
set_option maxRecDepth 100000 in
set_option maxHeartbeats 4000000 in
theorem s_220 {sc : List Int32} {d P Q : Nat} {c : ME} {a1 : Int} {a2 : Int} {a3 : Int} {Z : AR → Prop} (hI : Iv 0 (-1) P Q c) (ha1 : (-2147483648) ≤ a1 ∧ a1 ≤ 2147483647) (ha2 : (-2147483648) ≤ a2 ∧ a2 ≤ 2147483647) (ha3 : (-2147483648) ≤ a3 ∧ a3 ≤ 2147483647) (K : ∀ (c2 : ME) (y : Int), Iv 0 (-1) P Q c2 → (∀ (a : Nat) (j : Int), ¬ ((a = 41 ∧ j = 0) ∨ a = 42 ∨ a = 59) → c2 a j = c a j) → (-2147483648) ≤ y ∧ y ≤ 2147483647 → Z (.inl (some (vi y)), Wd P Q P P c2, 0, 0)) : Wp sc (d + 9) 220 0 [(0, .ref 41), (1, vi a1), (2, vi a2), (3, vi a3)] [] (Wd P Q P P c) 0 0 Z := by
  have hP := iv_P hI
  have hQ := iv_Q hI
  refine q_aload_n c_220_0 rfl (q_iconst c_220_1 (v_pi (z := 0) c_220_2 kf_8_3 rfl (Nat.le_of_ble_eq_true rfl) rfl rfl rfl (of_decide_eq_true rfl) (q_aload_n c_220_5 rfl (q_iload_n c_220_6 rfl (q_aload_n c_220_7 rfl ?_)))))
  have h_13 := ir_41_20 hI
  refine v_gi (z := 20) (v := c 41 20) c_220_8 kf_8_157 rfl (Nat.le_of_ble_eq_true rfl) rfl rfl (up_n (ni rfl)) (v_cv c_220_11 km_8_396 rfl rfl (Nat.le_of_ble_eq_true rfl) ⟨⟨rfl, rfl⟩, Nat.le_of_ble_eq_true rfl, rfl⟩ (Nat.le_of_ble_eq_true rfl) (Nat.le_of_ble_eq_true rfl) (q_aload_n c_212_0 rfl (q_iload_n c_212_1 rfl (q_iconst c_212_2 (q_iload_n c_212_3 rfl (q_iconst c_212_4 (v_isub (v := c 41 20 - 1) c_212_5 rfl ?_)))))))
  refine q_call c_212_6 rfl rfl rfl (q_iload_n c_146_0 rfl (q_iload_n c_146_1 rfl ?_))
  by_cases h_14 : a1 < 0
  · refine v_ic_lt_t (t := 14) c_146_2 rfl ⟨ha1.1, h_14, of_decide_eq_true rfl⟩ (q_iconst c_146_14 (v_zret c_146_15 rfl (of_decide_eq_true rfl) (bk_inl (q_iconst c_212_9 (q_iconst c_212_10 (v_cv c_212_11 km_8_203 rfl rfl (Nat.le_of_ble_eq_true rfl) ⟨⟨rfl, rfl⟩, Nat.le_of_ble_eq_true rfl, rfl⟩ (Nat.le_of_ble_eq_true rfl) (Nat.le_of_ble_eq_true rfl) (q_iload_n c_145_0 rfl ?_)))))))
    refine v_if_ne_f (t := 26) c_145_1 rfl (of_decide_eq_true rfl) (q_aload_n c_145_4 rfl (v_gi (z := 0) (v := 0) c_145_5 kf_8_3 rfl (Nat.le_of_ble_eq_true rfl) rfl rfl (up_e rfl) (v_if_ne_f (t := 26) c_145_8 rfl (of_decide_eq_true rfl) (q_aload_n c_145_11 rfl (q_iload_n c_145_12 rfl (v_pi (z := 0) c_145_13 kf_8_3 rfl (Nat.le_of_ble_eq_true rfl) rfl rfl rfl (of_decide_eq_true rfl) (q_aload_n c_145_16 rfl ?_)))))))
    refine v_gr (t := 42) c_145_17 kf_8_7 rfl (Nat.le_of_ble_eq_true rfl) rfl (q_iload_n c_145_20 rfl (q_dup2 c_145_21 ⟨rfl, rfl⟩ ?_))
    have h_15 := ir_42 hI 0
    refine v_ia (v := c 42 0) c_145_22 rfl (of_decide_eq_true rfl) (of_decide_eq_true rfl) (of_decide_eq_true rfl) ((up_c (nn rfl)).trans (up_c (nn rfl))) (q_iconst c_145_23 (v_iadd (v := c 42 0 + 1) c_145_24 rfl (v_nrm (fun y_16 hy_16 => (v_is c_145_25 rfl (of_decide_eq_true rfl) (of_decide_eq_true rfl) (of_decide_eq_true rfl) (q_aload_n c_145_26 rfl (v_gi (z := 0) (v := 1) c_145_27 kf_8_3 rfl (Nat.le_of_ble_eq_true rfl) rfl rfl ((up_c (nn rfl)).trans (up_e rfl)) (v_if_ne_t (t := 37) c_145_30 rfl (of_decide_eq_true rfl) ?_))))))))
    refine q_iconst c_145_37 (v_zret c_145_38 rfl (of_decide_eq_true rfl) (bk_inl (v_zret c_212_14 rfl (of_decide_eq_true rfl) (bk_inl (v_if_eq_t (t := 46) c_220_14 rfl (of_decide_eq_true rfl) (q_iconst c_220_46 (q_iret c_220_47 rfl ?_)))))))
    have hI_17 := iw_41_0 (v := 0) hI ⟨of_decide_eq_true rfl, of_decide_eq_true rfl⟩
    have hI_18 := iw_41_0 (v := 1) hI_17 ⟨of_decide_eq_true rfl, of_decide_eq_true rfl⟩
    have hI_19 := iw_42 (j := 0) (v := y_16) hI_18 ⟨hy_16.1, hy_16.2⟩
    exact K (up (up (up c 41 0 0) 41 0 1) 42 0 y_16) 0 hI_19 (fun a j hm => (up_b (Decidable.or_iff_not_imp_left.mpr (fun h1 h2 => hm (Or.inr (Or.inl (Decidable.not_not.mp h1)))))).trans ((up_b (Decidable.or_iff_not_imp_left.mpr (fun h1 h2 => hm (Or.inl ⟨Decidable.not_not.mp h1, h2⟩)))).trans (up_b (Decidable.or_iff_not_imp_left.mpr (fun h1 h2 => hm (Or.inl ⟨Decidable.not_not.mp h1, h2⟩)))))) ⟨of_decide_eq_true rfl, of_decide_eq_true rfl⟩
  · refine v_ic_lt_f (t := 14) c_146_2 rfl ⟨of_decide_eq_true rfl, (Int.not_lt.mp h_14), ha1.2⟩ (q_iload_n c_146_5 rfl (q_iload_n c_146_6 rfl ?_))
    by_cases h_20 : a1 > c 41 20 - 1
    · refine v_ic_gt_t (t := 14) c_146_7 rfl ⟨(rgm_l h_13.1 (of_decide_eq_true rfl)), h_20, ha1.2⟩ (q_iconst c_146_14 (v_zret c_146_15 rfl (of_decide_eq_true rfl) (bk_inl (q_iconst c_212_9 (q_iconst c_212_10 (v_cv c_212_11 km_8_203 rfl rfl (Nat.le_of_ble_eq_true rfl) ⟨⟨rfl, rfl⟩, Nat.le_of_ble_eq_true rfl, rfl⟩ (Nat.le_of_ble_eq_true rfl) (Nat.le_of_ble_eq_true rfl) (q_iload_n c_145_0 rfl ?_)))))))
      refine v_if_ne_f (t := 26) c_145_1 rfl (of_decide_eq_true rfl) (q_aload_n c_145_4 rfl (v_gi (z := 0) (v := 0) c_145_5 kf_8_3 rfl (Nat.le_of_ble_eq_true rfl) rfl rfl (up_e rfl) (v_if_ne_f (t := 26) c_145_8 rfl (of_decide_eq_true rfl) (q_aload_n c_145_11 rfl (q_iload_n c_145_12 rfl (v_pi (z := 0) c_145_13 kf_8_3 rfl (Nat.le_of_ble_eq_true rfl) rfl rfl rfl (of_decide_eq_true rfl) (q_aload_n c_145_16 rfl ?_)))))))
      refine v_gr (t := 42) c_145_17 kf_8_7 rfl (Nat.le_of_ble_eq_true rfl) rfl (q_iload_n c_145_20 rfl (q_dup2 c_145_21 ⟨rfl, rfl⟩ ?_))
      have h_21 := ir_42 hI 0
      refine v_ia (v := c 42 0) c_145_22 rfl (of_decide_eq_true rfl) (of_decide_eq_true rfl) (of_decide_eq_true rfl) ((up_c (nn rfl)).trans (up_c (nn rfl))) (q_iconst c_145_23 (v_iadd (v := c 42 0 + 1) c_145_24 rfl (v_nrm (fun y_22 hy_22 => (v_is c_145_25 rfl (of_decide_eq_true rfl) (of_decide_eq_true rfl) (of_decide_eq_true rfl) (q_aload_n c_145_26 rfl (v_gi (z := 0) (v := 1) c_145_27 kf_8_3 rfl (Nat.le_of_ble_eq_true rfl) rfl rfl ((up_c (nn rfl)).trans (up_e rfl)) (v_if_ne_t (t := 37) c_145_30 rfl (of_decide_eq_true rfl) ?_))))))))
      refine q_iconst c_145_37 (v_zret c_145_38 rfl (of_decide_eq_true rfl) (bk_inl (v_zret c_212_14 rfl (of_decide_eq_true rfl) (bk_inl (v_if_eq_t (t := 46) c_220_14 rfl (of_decide_eq_true rfl) (q_iconst c_220_46 (q_iret c_220_47 rfl ?_)))))))
      have hI_23 := iw_41_0 (v := 0) hI ⟨of_decide_eq_true rfl, of_decide_eq_true rfl⟩
      have hI_24 := iw_41_0 (v := 1) hI_23 ⟨of_decide_eq_true rfl, of_decide_eq_true rfl⟩
      have hI_25 := iw_42 (j := 0) (v := y_22) hI_24 ⟨hy_22.1, hy_22.2⟩
      exact K (up (up (up c 41 0 0) 41 0 1) 42 0 y_22) 0 hI_25 (fun a j hm => (up_b (Decidable.or_iff_not_imp_left.mpr (fun h1 h2 => hm (Or.inr (Or.inl (Decidable.not_not.mp h1)))))).trans ((up_b (Decidable.or_iff_not_imp_left.mpr (fun h1 h2 => hm (Or.inl ⟨Decidable.not_not.mp h1, h2⟩)))).trans (up_b (Decidable.or_iff_not_imp_left.mpr (fun h1 h2 => hm (Or.inl ⟨Decidable.not_not.mp h1, h2⟩)))))) ⟨of_decide_eq_true rfl, of_decide_eq_true rfl⟩
    · refine v_ic_gt_f (t := 14) c_146_7 rfl ⟨ha1.1, (Int.not_lt.mp h_20), (rgm_h h_13.2 (of_decide_eq_true rfl))⟩ (q_iconst c_146_10 (q_goto (t := 15) c_146_11 rfl (v_zret c_146_15 rfl (of_decide_eq_true rfl) (bk_inl (q_iconst c_212_9 (q_iconst c_212_10 (v_cv c_212_11 km_8_203 rfl rfl (Nat.le_of_ble_eq_true rfl) ⟨⟨rfl, rfl⟩, Nat.le_of_ble_eq_true rfl, rfl⟩ (Nat.le_of_ble_eq_true rfl) (Nat.le_of_ble_eq_true rfl) ?_)))))))
      refine q_iload_n c_145_0 rfl (v_if_ne_t (t := 26) c_145_1 rfl (of_decide_eq_true rfl) (q_aload_n c_145_26 rfl (v_gi (z := 0) (v := 0) c_145_27 kf_8_3 rfl (Nat.le_of_ble_eq_true rfl) rfl rfl (up_e rfl) (v_if_ne_f (t := 37) c_145_30 rfl (of_decide_eq_true rfl) (q_iconst c_145_33 (q_goto (t := 38) c_145_34 rfl (v_zret c_145_38 rfl (of_decide_eq_true rfl) ?_)))))))
      refine bk_inl (v_zret c_212_14 rfl (of_decide_eq_true rfl) (bk_inl (v_if_eq_f (t := 46) c_220_14 rfl (of_decide_eq_true rfl) (q_aload_n c_220_17 rfl (q_iload_n c_220_18 rfl (q_aload_n c_220_19 rfl ?_))))))
      have h_26 := ir_41_21 hI
      refine v_gi (z := 21) (v := c 41 21) c_220_20 kf_8_160 rfl (Nat.le_of_ble_eq_true rfl) rfl rfl (up_n (ni rfl)) (v_cv c_220_23 km_8_396 rfl rfl (Nat.le_of_ble_eq_true rfl) ⟨⟨rfl, rfl⟩, Nat.le_of_ble_eq_true rfl, rfl⟩ (Nat.le_of_ble_eq_true rfl) (Nat.le_of_ble_eq_true rfl) (q_aload_n c_212_0 rfl (q_iload_n c_212_1 rfl (q_iconst c_212_2 (q_iload_n c_212_3 rfl (q_iconst c_212_4 (v_isub (v := c 41 21 - 1) c_212_5 rfl ?_)))))))
      refine q_call c_212_6 rfl rfl rfl (q_iload_n c_146_0 rfl (q_iload_n c_146_1 rfl ?_))
      by_cases h_27 : a2 < 0
      · refine v_ic_lt_t (t := 14) c_146_2 rfl ⟨ha2.1, h_27, of_decide_eq_true rfl⟩ (q_iconst c_146_14 (v_zret c_146_15 rfl (of_decide_eq_true rfl) (bk_inl (q_iconst c_212_9 (q_iconst c_212_10 (v_cv c_212_11 km_8_203 rfl rfl (Nat.le_of_ble_eq_true rfl) ⟨⟨rfl, rfl⟩, Nat.le_of_ble_eq_true rfl, rfl⟩ (Nat.le_of_ble_eq_true rfl) (Nat.le_of_ble_eq_true rfl) (q_iload_n c_145_0 rfl ?_)))))))
        refine v_if_ne_f (t := 26) c_145_1 rfl (of_decide_eq_true rfl) (q_aload_n c_145_4 rfl (v_gi (z := 0) (v := 0) c_145_5 kf_8_3 rfl (Nat.le_of_ble_eq_true rfl) rfl rfl (up_e rfl) (v_if_ne_f (t := 26) c_145_8 rfl (of_decide_eq_true rfl) (q_aload_n c_145_11 rfl (q_iload_n c_145_12 rfl (v_pi (z := 0) c_145_13 kf_8_3 rfl (Nat.le_of_ble_eq_true rfl) rfl rfl rfl (of_decide_eq_true rfl) (q_aload_n c_145_16 rfl ?_)))))))
        refine v_gr (t := 42) c_145_17 kf_8_7 rfl (Nat.le_of_ble_eq_true rfl) rfl (q_iload_n c_145_20 rfl (q_dup2 c_145_21 ⟨rfl, rfl⟩ ?_))
        have h_28 := ir_42 hI 0
        refine v_ia (v := c 42 0) c_145_22 rfl (of_decide_eq_true rfl) (of_decide_eq_true rfl) (of_decide_eq_true rfl) ((up_c (nn rfl)).trans (up_c (nn rfl))) (q_iconst c_145_23 (v_iadd (v := c 42 0 + 1) c_145_24 rfl (v_nrm (fun y_29 hy_29 => (v_is c_145_25 rfl (of_decide_eq_true rfl) (of_decide_eq_true rfl) (of_decide_eq_true rfl) (q_aload_n c_145_26 rfl (v_gi (z := 0) (v := 1) c_145_27 kf_8_3 rfl (Nat.le_of_ble_eq_true rfl) rfl rfl ((up_c (nn rfl)).trans (up_e rfl)) (v_if_ne_t (t := 37) c_145_30 rfl (of_decide_eq_true rfl) ?_))))))))
        refine q_iconst c_145_37 (v_zret c_145_38 rfl (of_decide_eq_true rfl) (bk_inl (v_zret c_212_14 rfl (of_decide_eq_true rfl) (bk_inl (v_if_eq_t (t := 46) c_220_26 rfl (of_decide_eq_true rfl) (q_iconst c_220_46 (q_iret c_220_47 rfl ?_)))))))
        have hI_30 := iw_41_0 (v := 0) hI ⟨of_decide_eq_true rfl, of_decide_eq_true rfl⟩
        have hI_31 := iw_41_0 (v := 1) hI_30 ⟨of_decide_eq_true rfl, of_decide_eq_true rfl⟩
        have hI_32 := iw_42 (j := 0) (v := y_29) hI_31 ⟨hy_29.1, hy_29.2⟩
        exact K (up (up (up c 41 0 0) 41 0 1) 42 0 y_29) 0 hI_32 (fun a j hm => (up_b (Decidable.or_iff_not_imp_left.mpr (fun h1 h2 => hm (Or.inr (Or.inl (Decidable.not_not.mp h1)))))).trans ((up_b (Decidable.or_iff_not_imp_left.mpr (fun h1 h2 => hm (Or.inl ⟨Decidable.not_not.mp h1, h2⟩)))).trans (up_b (Decidable.or_iff_not_imp_left.mpr (fun h1 h2 => hm (Or.inl ⟨Decidable.not_not.mp h1, h2⟩)))))) ⟨of_decide_eq_true rfl, of_decide_eq_true rfl⟩
      · refine v_ic_lt_f (t := 14) c_146_2 rfl ⟨of_decide_eq_true rfl, (Int.not_lt.mp h_27), ha2.2⟩ (q_iload_n c_146_5 rfl (q_iload_n c_146_6 rfl ?_))
        by_cases h_33 : a2 > c 41 21 - 1
        · refine v_ic_gt_t (t := 14) c_146_7 rfl ⟨(rgm_l h_26.1 (of_decide_eq_true rfl)), h_33, ha2.2⟩ (q_iconst c_146_14 (v_zret c_146_15 rfl (of_decide_eq_true rfl) (bk_inl (q_iconst c_212_9 (q_iconst c_212_10 (v_cv c_212_11 km_8_203 rfl rfl (Nat.le_of_ble_eq_true rfl) ⟨⟨rfl, rfl⟩, Nat.le_of_ble_eq_true rfl, rfl⟩ (Nat.le_of_ble_eq_true rfl) (Nat.le_of_ble_eq_true rfl) (q_iload_n c_145_0 rfl ?_)))))))
          refine v_if_ne_f (t := 26) c_145_1 rfl (of_decide_eq_true rfl) (q_aload_n c_145_4 rfl (v_gi (z := 0) (v := 0) c_145_5 kf_8_3 rfl (Nat.le_of_ble_eq_true rfl) rfl rfl (up_e rfl) (v_if_ne_f (t := 26) c_145_8 rfl (of_decide_eq_true rfl) (q_aload_n c_145_11 rfl (q_iload_n c_145_12 rfl (v_pi (z := 0) c_145_13 kf_8_3 rfl (Nat.le_of_ble_eq_true rfl) rfl rfl rfl (of_decide_eq_true rfl) (q_aload_n c_145_16 rfl ?_)))))))
          refine v_gr (t := 42) c_145_17 kf_8_7 rfl (Nat.le_of_ble_eq_true rfl) rfl (q_iload_n c_145_20 rfl (q_dup2 c_145_21 ⟨rfl, rfl⟩ ?_))
          have h_34 := ir_42 hI 0
          refine v_ia (v := c 42 0) c_145_22 rfl (of_decide_eq_true rfl) (of_decide_eq_true rfl) (of_decide_eq_true rfl) ((up_c (nn rfl)).trans (up_c (nn rfl))) (q_iconst c_145_23 (v_iadd (v := c 42 0 + 1) c_145_24 rfl (v_nrm (fun y_35 hy_35 => (v_is c_145_25 rfl (of_decide_eq_true rfl) (of_decide_eq_true rfl) (of_decide_eq_true rfl) (q_aload_n c_145_26 rfl (v_gi (z := 0) (v := 1) c_145_27 kf_8_3 rfl (Nat.le_of_ble_eq_true rfl) rfl rfl ((up_c (nn rfl)).trans (up_e rfl)) (v_if_ne_t (t := 37) c_145_30 rfl (of_decide_eq_true rfl) ?_))))))))
          refine q_iconst c_145_37 (v_zret c_145_38 rfl (of_decide_eq_true rfl) (bk_inl (v_zret c_212_14 rfl (of_decide_eq_true rfl) (bk_inl (v_if_eq_t (t := 46) c_220_26 rfl (of_decide_eq_true rfl) (q_iconst c_220_46 (q_iret c_220_47 rfl ?_)))))))
          have hI_36 := iw_41_0 (v := 0) hI ⟨of_decide_eq_true rfl, of_decide_eq_true rfl⟩
          have hI_37 := iw_41_0 (v := 1) hI_36 ⟨of_decide_eq_true rfl, of_decide_eq_true rfl⟩
          have hI_38 := iw_42 (j := 0) (v := y_35) hI_37 ⟨hy_35.1, hy_35.2⟩
          exact K (up (up (up c 41 0 0) 41 0 1) 42 0 y_35) 0 hI_38 (fun a j hm => (up_b (Decidable.or_iff_not_imp_left.mpr (fun h1 h2 => hm (Or.inr (Or.inl (Decidable.not_not.mp h1)))))).trans ((up_b (Decidable.or_iff_not_imp_left.mpr (fun h1 h2 => hm (Or.inl ⟨Decidable.not_not.mp h1, h2⟩)))).trans (up_b (Decidable.or_iff_not_imp_left.mpr (fun h1 h2 => hm (Or.inl ⟨Decidable.not_not.mp h1, h2⟩)))))) ⟨of_decide_eq_true rfl, of_decide_eq_true rfl⟩
        · refine v_ic_gt_f (t := 14) c_146_7 rfl ⟨ha2.1, (Int.not_lt.mp h_33), (rgm_h h_26.2 (of_decide_eq_true rfl))⟩ (q_iconst c_146_10 (q_goto (t := 15) c_146_11 rfl (v_zret c_146_15 rfl (of_decide_eq_true rfl) (bk_inl (q_iconst c_212_9 (q_iconst c_212_10 (v_cv c_212_11 km_8_203 rfl rfl (Nat.le_of_ble_eq_true rfl) ⟨⟨rfl, rfl⟩, Nat.le_of_ble_eq_true rfl, rfl⟩ (Nat.le_of_ble_eq_true rfl) (Nat.le_of_ble_eq_true rfl) ?_)))))))
          refine q_iload_n c_145_0 rfl (v_if_ne_t (t := 26) c_145_1 rfl (of_decide_eq_true rfl) (q_aload_n c_145_26 rfl (v_gi (z := 0) (v := 0) c_145_27 kf_8_3 rfl (Nat.le_of_ble_eq_true rfl) rfl rfl (up_e rfl) (v_if_ne_f (t := 37) c_145_30 rfl (of_decide_eq_true rfl) (q_iconst c_145_33 (q_goto (t := 38) c_145_34 rfl (v_zret c_145_38 rfl (of_decide_eq_true rfl) ?_)))))))
          refine bk_inl (v_zret c_212_14 rfl (of_decide_eq_true rfl) (bk_inl (v_if_eq_f (t := 46) c_220_26 rfl (of_decide_eq_true rfl) (q_aload_n c_220_29 rfl (q_iload_n c_220_30 rfl (q_iconst c_220_31 (v_sip c_220_32 (of_decide_eq_true rfl) ?_)))))))
          refine q_call c_220_35 rfl rfl rfl (q_iload_n c_146_0 rfl (q_iload_n c_146_1 rfl ?_))
          by_cases h_39 : a3 < 0
          · refine v_ic_lt_t (t := 14) c_146_2 rfl ⟨ha3.1, h_39, of_decide_eq_true rfl⟩ (q_iconst c_146_14 (v_zret c_146_15 rfl (of_decide_eq_true rfl) (bk_inl (q_iconst c_220_38 (q_iconst c_220_39 (v_cv c_220_40 km_8_203 rfl rfl (Nat.le_of_ble_eq_true rfl) ⟨⟨rfl, rfl⟩, Nat.le_of_ble_eq_true rfl, rfl⟩ (Nat.le_of_ble_eq_true rfl) (Nat.le_of_ble_eq_true rfl) (q_iload_n c_145_0 rfl ?_)))))))
            refine v_if_ne_f (t := 26) c_145_1 rfl (of_decide_eq_true rfl) (q_aload_n c_145_4 rfl (v_gi (z := 0) (v := 0) c_145_5 kf_8_3 rfl (Nat.le_of_ble_eq_true rfl) rfl rfl (up_e rfl) (v_if_ne_f (t := 26) c_145_8 rfl (of_decide_eq_true rfl) (q_aload_n c_145_11 rfl (q_iload_n c_145_12 rfl (v_pi (z := 0) c_145_13 kf_8_3 rfl (Nat.le_of_ble_eq_true rfl) rfl rfl rfl (of_decide_eq_true rfl) (q_aload_n c_145_16 rfl ?_)))))))
            refine v_gr (t := 42) c_145_17 kf_8_7 rfl (Nat.le_of_ble_eq_true rfl) rfl (q_iload_n c_145_20 rfl (q_dup2 c_145_21 ⟨rfl, rfl⟩ ?_))
            have h_40 := ir_42 hI 1
            refine v_ia (v := c 42 1) c_145_22 rfl (of_decide_eq_true rfl) (of_decide_eq_true rfl) (of_decide_eq_true rfl) ((up_c (nn rfl)).trans (up_c (nn rfl))) (q_iconst c_145_23 (v_iadd (v := c 42 1 + 1) c_145_24 rfl (v_nrm (fun y_41 hy_41 => (v_is c_145_25 rfl (of_decide_eq_true rfl) (of_decide_eq_true rfl) (of_decide_eq_true rfl) (q_aload_n c_145_26 rfl (v_gi (z := 0) (v := 2) c_145_27 kf_8_3 rfl (Nat.le_of_ble_eq_true rfl) rfl rfl ((up_c (nn rfl)).trans (up_e rfl)) (v_if_ne_t (t := 37) c_145_30 rfl (of_decide_eq_true rfl) ?_))))))))
            refine q_iconst c_145_37 (v_zret c_145_38 rfl (of_decide_eq_true rfl) (bk_inl (v_if_ne_f (t := 48) c_220_43 rfl (of_decide_eq_true rfl) (q_iconst c_220_46 (q_iret c_220_47 rfl ?_)))))
            have hI_42 := iw_41_0 (v := 0) hI ⟨of_decide_eq_true rfl, of_decide_eq_true rfl⟩
            have hI_43 := iw_41_0 (v := 2) hI_42 ⟨of_decide_eq_true rfl, of_decide_eq_true rfl⟩
            have hI_44 := iw_42 (j := 1) (v := y_41) hI_43 ⟨hy_41.1, hy_41.2⟩
            exact K (up (up (up c 41 0 0) 41 0 2) 42 1 y_41) 0 hI_44 (fun a j hm => (up_b (Decidable.or_iff_not_imp_left.mpr (fun h1 h2 => hm (Or.inr (Or.inl (Decidable.not_not.mp h1)))))).trans ((up_b (Decidable.or_iff_not_imp_left.mpr (fun h1 h2 => hm (Or.inl ⟨Decidable.not_not.mp h1, h2⟩)))).trans (up_b (Decidable.or_iff_not_imp_left.mpr (fun h1 h2 => hm (Or.inl ⟨Decidable.not_not.mp h1, h2⟩)))))) ⟨of_decide_eq_true rfl, of_decide_eq_true rfl⟩
          · refine v_ic_lt_f (t := 14) c_146_2 rfl ⟨of_decide_eq_true rfl, (Int.not_lt.mp h_39), ha3.2⟩ (q_iload_n c_146_5 rfl (q_iload_n c_146_6 rfl ?_))
            by_cases h_45 : a3 > 1000
            · refine v_ic_gt_t (t := 14) c_146_7 rfl ⟨of_decide_eq_true rfl, h_45, ha3.2⟩ (q_iconst c_146_14 (v_zret c_146_15 rfl (of_decide_eq_true rfl) (bk_inl (q_iconst c_220_38 (q_iconst c_220_39 (v_cv c_220_40 km_8_203 rfl rfl (Nat.le_of_ble_eq_true rfl) ⟨⟨rfl, rfl⟩, Nat.le_of_ble_eq_true rfl, rfl⟩ (Nat.le_of_ble_eq_true rfl) (Nat.le_of_ble_eq_true rfl) (q_iload_n c_145_0 rfl ?_)))))))
              refine v_if_ne_f (t := 26) c_145_1 rfl (of_decide_eq_true rfl) (q_aload_n c_145_4 rfl (v_gi (z := 0) (v := 0) c_145_5 kf_8_3 rfl (Nat.le_of_ble_eq_true rfl) rfl rfl (up_e rfl) (v_if_ne_f (t := 26) c_145_8 rfl (of_decide_eq_true rfl) (q_aload_n c_145_11 rfl (q_iload_n c_145_12 rfl (v_pi (z := 0) c_145_13 kf_8_3 rfl (Nat.le_of_ble_eq_true rfl) rfl rfl rfl (of_decide_eq_true rfl) (q_aload_n c_145_16 rfl ?_)))))))
              refine v_gr (t := 42) c_145_17 kf_8_7 rfl (Nat.le_of_ble_eq_true rfl) rfl (q_iload_n c_145_20 rfl (q_dup2 c_145_21 ⟨rfl, rfl⟩ ?_))
              have h_46 := ir_42 hI 1
              refine v_ia (v := c 42 1) c_145_22 rfl (of_decide_eq_true rfl) (of_decide_eq_true rfl) (of_decide_eq_true rfl) ((up_c (nn rfl)).trans (up_c (nn rfl))) (q_iconst c_145_23 (v_iadd (v := c 42 1 + 1) c_145_24 rfl (v_nrm (fun y_47 hy_47 => (v_is c_145_25 rfl (of_decide_eq_true rfl) (of_decide_eq_true rfl) (of_decide_eq_true rfl) (q_aload_n c_145_26 rfl (v_gi (z := 0) (v := 2) c_145_27 kf_8_3 rfl (Nat.le_of_ble_eq_true rfl) rfl rfl ((up_c (nn rfl)).trans (up_e rfl)) (v_if_ne_t (t := 37) c_145_30 rfl (of_decide_eq_true rfl) ?_))))))))
              refine q_iconst c_145_37 (v_zret c_145_38 rfl (of_decide_eq_true rfl) (bk_inl (v_if_ne_f (t := 48) c_220_43 rfl (of_decide_eq_true rfl) (q_iconst c_220_46 (q_iret c_220_47 rfl ?_)))))
              have hI_48 := iw_41_0 (v := 0) hI ⟨of_decide_eq_true rfl, of_decide_eq_true rfl⟩
              have hI_49 := iw_41_0 (v := 2) hI_48 ⟨of_decide_eq_true rfl, of_decide_eq_true rfl⟩
              have hI_50 := iw_42 (j := 1) (v := y_47) hI_49 ⟨hy_47.1, hy_47.2⟩
              exact K (up (up (up c 41 0 0) 41 0 2) 42 1 y_47) 0 hI_50 (fun a j hm => (up_b (Decidable.or_iff_not_imp_left.mpr (fun h1 h2 => hm (Or.inr (Or.inl (Decidable.not_not.mp h1)))))).trans ((up_b (Decidable.or_iff_not_imp_left.mpr (fun h1 h2 => hm (Or.inl ⟨Decidable.not_not.mp h1, h2⟩)))).trans (up_b (Decidable.or_iff_not_imp_left.mpr (fun h1 h2 => hm (Or.inl ⟨Decidable.not_not.mp h1, h2⟩)))))) ⟨of_decide_eq_true rfl, of_decide_eq_true rfl⟩
            · refine v_ic_gt_f (t := 14) c_146_7 rfl ⟨ha3.1, (Int.not_lt.mp h_45), of_decide_eq_true rfl⟩ (q_iconst c_146_10 (q_goto (t := 15) c_146_11 rfl (v_zret c_146_15 rfl (of_decide_eq_true rfl) (bk_inl (q_iconst c_220_38 (q_iconst c_220_39 (v_cv c_220_40 km_8_203 rfl rfl (Nat.le_of_ble_eq_true rfl) ⟨⟨rfl, rfl⟩, Nat.le_of_ble_eq_true rfl, rfl⟩ (Nat.le_of_ble_eq_true rfl) (Nat.le_of_ble_eq_true rfl) ?_)))))))
              refine q_iload_n c_145_0 rfl (v_if_ne_t (t := 26) c_145_1 rfl (of_decide_eq_true rfl) (q_aload_n c_145_26 rfl (v_gi (z := 0) (v := 0) c_145_27 kf_8_3 rfl (Nat.le_of_ble_eq_true rfl) rfl rfl (up_e rfl) (v_if_ne_f (t := 37) c_145_30 rfl (of_decide_eq_true rfl) (q_iconst c_145_33 (q_goto (t := 38) c_145_34 rfl (v_zret c_145_38 rfl (of_decide_eq_true rfl) ?_)))))))
              refine bk_inl (v_if_ne_t (t := 48) c_220_43 rfl (of_decide_eq_true rfl) (q_aload_n c_220_48 rfl ?_))
              have hI_51 := iw_41_0 (v := 0) hI ⟨of_decide_eq_true rfl, of_decide_eq_true rfl⟩
              refine v_cv c_220_49 km_8_317 rfl rfl (Nat.le_of_ble_eq_true rfl) ⟨⟨rfl, rfl⟩, Nat.le_of_ble_eq_true rfl, rfl⟩ (Nat.le_of_ble_eq_true rfl) (Nat.le_of_ble_eq_true rfl) (s_186 hI_51 (fun c_52 hI_53 hF_54 => (bk_inl (q_iconst c_220_52 (q_istore c_220_53 (Nat.le_of_ble_eq_true rfl) (Wp_ls [(0, .ref 41), (1, vi a1), (2, vi a2), (3, vi a3), (4, vi 0)] (lsub_cons rfl (lsub_cons rfl (lsub_cons rfl (lsub_cons rfl (lsub_cons rfl lsub_nil))))) ?_))))))
              exact (s_220_l (sc := sc) (d := d) hI ha1 ha2 ha3 K 204) c_52 0 hI_53 (fun a j hm => (hF_54 a j (fun h => hm (Or.inr (Or.inr h)))).trans (up_b (Decidable.or_iff_not_imp_left.mpr (fun h1 h2 => hm (Or.inl ⟨Decidable.not_not.mp h1, h2⟩))))) ⟨of_decide_eq_true rfl, of_decide_eq_true rfl⟩ ⟨(q_720657ba9 h_14), (q_3a2e67ab0 h_13 h_20)⟩ ⟨(q_720657ba9 h_27), (q_1b5e4f74b h_26 h_33)⟩ (by omega)

