/-! ===== contracts 23 ===== -/
theorem q_42435cb53 {x0 : Int} (f0 : (-1) ≤ x0 ∧ x0 ≤ 5) : x0 + 24 < 37 := by omega
theorem q_7895971f7 {x0 x1 x2 x3 x4 x5 x6 x7 : Int} (f0 : 0 ≤ x0 ∧ x0 ≤ x1) (f1 : 0 ≤ x2 ∧ x2 ≤ x3) (f2 : 0 ≤ x4 ∧ x4 ≤ x5) (f3 : 0 ≤ x6 ∧ x6 ≤ x7) (f4 : 0 ≤ x1 ∧ x1 ≤ 9999) (f5 : 0 ≤ x3 ∧ x3 ≤ 9999) (f6 : 0 ≤ x5 ∧ x5 ≤ 9999) (f7 : 0 ≤ x7 ∧ x7 ≤ 9999) : x0 + x2 + x4 + x6 ≤ 2147483647 := by omega
theorem c_244_25 : mLk 244 25 = some (.iload_n 2, 1) := rfl
theorem c_244_26 : mLk 244 26 = some (.bipush 99, 2) := rfl
theorem c_244_28 : mLk 244 28 = some (.if_icmp .gt 23, 3) := rfl
theorem c_244_51 : mLk 244 51 = some (.iconst (-1), 1) := rfl
theorem c_244_52 : mLk 244 52 = some (.ireturn, 1) := rfl
theorem c_244_31 : mLk 244 31 = some (.aload_n 0, 1) := rfl
theorem c_244_32 : mLk 244 32 = some (.iload_n 1, 1) := rfl
theorem c_244_33 : mLk 244 33 = some (.invokevirtual 378, 3) := rfl
theorem c_244_36 : mLk 244 36 = some (.ifCond .eq 5, 3) := rfl
theorem c_244_41 : mLk 244 41 = some (.aload_n 0, 1) := rfl
theorem c_244_42 : mLk 244 42 = some (.invokevirtual 353, 3) := rfl
theorem c_244_45 : mLk 244 45 = some (.iinc 2 1, 3) := rfl
theorem c_244_48 : mLk 244 48 = some (.goto (-23), 3) := rfl
theorem c_244_39 : mLk 244 39 = some (.iload_n 2, 1) := rfl
theorem c_244_40 : mLk 244 40 = some (.ireturn, 1) := rfl
theorem c_244_0 : mLk 244 0 = some (.aload_n 0, 1) := rfl
theorem c_244_1 : mLk 244 1 = some (.iconst 0, 1) := rfl
theorem c_244_2 : mLk 244 2 = some (.putfield 3, 3) := rfl
theorem c_244_5 : mLk 244 5 = some (.aload_n 0, 1) := rfl
theorem c_244_6 : mLk 244 6 = some (.iload_n 1, 1) := rfl
theorem c_244_7 : mLk 244 7 = some (.aload_n 0, 1) := rfl
theorem c_244_8 : mLk 244 8 = some (.getfield 157, 3) := rfl
theorem c_244_11 : mLk 244 11 = some (.invokevirtual 396, 3) := rfl
theorem c_244_14 : mLk 244 14 = some (.ifCond .ne 5, 3) := rfl
theorem c_244_17 : mLk 244 17 = some (.iconst 0, 1) := rfl
theorem c_244_18 : mLk 244 18 = some (.ireturn, 1) := rfl
theorem c_244_19 : mLk 244 19 = some (.aload_n 0, 1) := rfl
theorem c_244_20 : mLk 244 20 = some (.invokevirtual 317, 3) := rfl
theorem c_244_23 : mLk 244 23 = some (.iconst 0, 1) := rfl
theorem c_244_24 : mLk 244 24 = some (.istore_n 2, 1) := rfl
theorem c_245_0 : mLk 245 0 = some (.aload_n 0, 1) := rfl
theorem c_245_1 : mLk 245 1 = some (.iconst 0, 1) := rfl
theorem c_245_2 : mLk 245 2 = some (.putfield 3, 3) := rfl
theorem c_245_5 : mLk 245 5 = some (.aload_n 0, 1) := rfl
theorem c_245_6 : mLk 245 6 = some (.iload_n 1, 1) := rfl
theorem c_245_7 : mLk 245 7 = some (.aload_n 0, 1) := rfl
theorem c_245_8 : mLk 245 8 = some (.getfield 157, 3) := rfl
theorem c_245_11 : mLk 245 11 = some (.invokevirtual 396, 3) := rfl
theorem c_245_14 : mLk 245 14 = some (.ifCond .ne 5, 3) := rfl
theorem c_245_17 : mLk 245 17 = some (.iconst 0, 1) := rfl
theorem c_245_18 : mLk 245 18 = some (.ireturn, 1) := rfl
theorem c_245_19 : mLk 245 19 = some (.aload_n 0, 1) := rfl
theorem c_245_20 : mLk 245 20 = some (.invokevirtual 317, 3) := rfl
theorem c_245_23 : mLk 245 23 = some (.sipush 9999, 3) := rfl
theorem c_245_26 : mLk 245 26 = some (.aload_n 0, 1) := rfl
theorem c_245_27 : mLk 245 27 = some (.iload_n 1, 1) := rfl
theorem c_245_28 : mLk 245 28 = some (.invokevirtual 343, 3) := rfl
theorem c_245_31 : mLk 245 31 = some (.isub, 1) := rfl
theorem c_245_32 : mLk 245 32 = some (.ireturn, 1) := rfl
theorem c_246_30 : mLk 246 30 = some (.iload_n 3, 1) := rfl
theorem c_246_31 : mLk 246 31 = some (.aload_n 0, 1) := rfl
theorem c_246_32 : mLk 246 32 = some (.getfield 157, 3) := rfl
theorem c_246_35 : mLk 246 35 = some (.if_icmp .ge 45, 3) := rfl
theorem c_246_80 : mLk 246 80 = some (.iload_n 1, 1) := rfl
theorem c_246_81 : mLk 246 81 = some (.ifCond .eq 8, 3) := rfl
theorem c_246_89 : mLk 246 89 = some (.iload_n 2, 1) := rfl
theorem c_246_90 : mLk 246 90 = some (.goto 12, 3) := rfl
theorem c_246_102 : mLk 246 102 = some (.ireturn, 1) := rfl
theorem c_246_84 : mLk 246 84 = some (.iload_n 2, 1) := rfl
theorem c_246_85 : mLk 246 85 = some (.iconst (-1), 1) := rfl
theorem c_246_86 : mLk 246 86 = some (.if_icmp .ne 7, 3) := rfl
theorem c_246_93 : mLk 246 93 = some (.aload_n 0, 1) := rfl
theorem c_246_94 : mLk 246 94 = some (.getfield 68, 3) := rfl
theorem c_246_97 : mLk 246 97 = some (.bipush 24, 2) := rfl
theorem c_246_99 : mLk 246 99 = some (.iload_n 2, 1) := rfl
theorem c_246_100 : mLk 246 100 = some (.iadd, 1) := rfl
theorem c_246_101 : mLk 246 101 = some (.iaload, 1) := rfl
theorem c_246_38 : mLk 246 38 = some (.aload_n 0, 1) := rfl
theorem c_246_39 : mLk 246 39 = some (.iload_n 3, 1) := rfl
theorem c_246_40 : mLk 246 40 = some (.invokevirtual 343, 3) := rfl
theorem c_246_43 : mLk 246 43 = some (.ifCond .le 31, 3) := rfl
theorem c_246_74 : mLk 246 74 = some (.iinc 3 1, 3) := rfl
theorem c_246_77 : mLk 246 77 = some (.goto (-47), 3) := rfl
theorem c_246_46 : mLk 246 46 = some (.iload_n 2, 1) := rfl
theorem c_246_47 : mLk 246 47 = some (.iconst (-1), 1) := rfl
theorem c_246_48 : mLk 246 48 = some (.if_icmp .eq 24, 3) := rfl
theorem c_246_72 : mLk 246 72 = some (.iload_n 3, 1) := rfl
theorem c_246_73 : mLk 246 73 = some (.istore_n 2, 1) := rfl
theorem c_246_51 : mLk 246 51 = some (.aload_n 0, 1) := rfl
theorem c_246_52 : mLk 246 52 = some (.getfield 68, 3) := rfl
theorem c_246_55 : mLk 246 55 = some (.bipush 24, 2) := rfl
theorem c_246_57 : mLk 246 57 = some (.iload_n 3, 1) := rfl
theorem c_246_58 : mLk 246 58 = some (.iadd, 1) := rfl
theorem c_246_59 : mLk 246 59 = some (.iaload, 1) := rfl
theorem c_246_60 : mLk 246 60 = some (.aload_n 0, 1) := rfl
theorem c_246_61 : mLk 246 61 = some (.getfield 68, 3) := rfl
theorem c_246_64 : mLk 246 64 = some (.bipush 24, 2) := rfl
theorem c_246_66 : mLk 246 66 = some (.iload_n 2, 1) := rfl
theorem c_246_67 : mLk 246 67 = some (.iadd, 1) := rfl
theorem c_246_68 : mLk 246 68 = some (.iaload, 1) := rfl
theorem c_246_69 : mLk 246 69 = some (.if_icmp .le 5, 3) := rfl
theorem c_246_0 : mLk 246 0 = some (.aload_n 0, 1) := rfl
theorem c_246_1 : mLk 246 1 = some (.iconst 0, 1) := rfl
theorem c_246_2 : mLk 246 2 = some (.putfield 3, 3) := rfl
theorem c_246_5 : mLk 246 5 = some (.aload_n 0, 1) := rfl
theorem c_246_6 : mLk 246 6 = some (.iload_n 1, 1) := rfl
theorem c_246_7 : mLk 246 7 = some (.iconst 0, 1) := rfl
theorem c_246_8 : mLk 246 8 = some (.iconst 1, 1) := rfl
theorem c_246_9 : mLk 246 9 = some (.invokestatic 384, 3) := rfl
theorem c_246_12 : mLk 246 12 = some (.iconst 1, 1) := rfl
theorem c_246_13 : mLk 246 13 = some (.iconst 1, 1) := rfl
theorem c_246_14 : mLk 246 14 = some (.invokevirtual 203, 3) := rfl
theorem c_246_17 : mLk 246 17 = some (.ifCond .ne 5, 3) := rfl
theorem c_246_20 : mLk 246 20 = some (.iconst 0, 1) := rfl
theorem c_246_21 : mLk 246 21 = some (.ireturn, 1) := rfl
theorem c_246_22 : mLk 246 22 = some (.aload_n 0, 1) := rfl
theorem c_246_23 : mLk 246 23 = some (.invokevirtual 317, 3) := rfl
theorem c_246_26 : mLk 246 26 = some (.iconst (-1), 1) := rfl
theorem c_246_27 : mLk 246 27 = some (.istore_n 2, 1) := rfl
theorem c_246_28 : mLk 246 28 = some (.iconst 0, 1) := rfl
theorem c_246_29 : mLk 246 29 = some (.istore_n 3, 1) := rfl
theorem c_247_27 : mLk 247 27 = some (.iload_n 3, 1) := rfl
theorem c_247_28 : mLk 247 28 = some (.aload_n 0, 1) := rfl
theorem c_247_29 : mLk 247 29 = some (.getfield 157, 3) := rfl
theorem c_247_32 : mLk 247 32 = some (.if_icmp .ge 41, 3) := rfl
theorem c_247_73 : mLk 247 73 = some (.iload_n 2, 1) := rfl
theorem c_247_74 : mLk 247 74 = some (.ireturn, 1) := rfl
theorem c_247_35 : mLk 247 35 = some (.iload_n 2, 1) := rfl
theorem c_247_36 : mLk 247 36 = some (.aload_n 0, 1) := rfl
theorem c_247_37 : mLk 247 37 = some (.iload_n 3, 1) := rfl
theorem c_247_38 : mLk 247 38 = some (.invokevirtual 343, 3) := rfl
theorem c_247_41 : mLk 247 41 = some (.ifCond .le 23, 3) := rfl
theorem c_247_64 : mLk 247 64 = some (.iconst 0, 1) := rfl
theorem c_247_65 : mLk 247 65 = some (.ior, 1) := rfl
theorem c_247_66 : mLk 247 66 = some (.istore_n 2, 1) := rfl
theorem c_247_67 : mLk 247 67 = some (.iinc 3 1, 3) := rfl
theorem c_247_70 : mLk 247 70 = some (.goto (-43), 3) := rfl
theorem c_247_44 : mLk 247 44 = some (.aload_n 0, 1) := rfl
theorem c_247_45 : mLk 247 45 = some (.iload_n 1, 1) := rfl
theorem c_247_46 : mLk 247 46 = some (.iload_n 3, 1) := rfl
theorem c_247_47 : mLk 247 47 = some (.invokevirtual 366, 3) := rfl
theorem c_247_50 : mLk 247 50 = some (.aload_n 0, 1) := rfl
theorem c_247_51 : mLk 247 51 = some (.iload_n 3, 1) := rfl
theorem c_247_52 : mLk 247 52 = some (.invokevirtual 343, 3) := rfl
theorem c_247_55 : mLk 247 55 = some (.if_icmp .ne 9, 3) := rfl
theorem c_247_58 : mLk 247 58 = some (.iconst 1, 1) := rfl
theorem c_247_59 : mLk 247 59 = some (.iload_n 3, 1) := rfl
theorem c_247_60 : mLk 247 60 = some (.ishl, 1) := rfl
theorem c_247_61 : mLk 247 61 = some (.goto 4, 3) := rfl
theorem c_247_0 : mLk 247 0 = some (.aload_n 0, 1) := rfl
theorem c_247_1 : mLk 247 1 = some (.iconst 0, 1) := rfl
theorem c_247_2 : mLk 247 2 = some (.putfield 3, 3) := rfl
theorem c_247_5 : mLk 247 5 = some (.aload_n 0, 1) := rfl
theorem c_247_6 : mLk 247 6 = some (.iload_n 1, 1) := rfl
theorem c_247_7 : mLk 247 7 = some (.aload_n 0, 1) := rfl
theorem c_247_8 : mLk 247 8 = some (.getfield 163, 3) := rfl
theorem c_247_11 : mLk 247 11 = some (.invokevirtual 396, 3) := rfl
theorem c_247_14 : mLk 247 14 = some (.ifCond .ne 5, 3) := rfl
theorem c_247_17 : mLk 247 17 = some (.iconst 0, 1) := rfl
theorem c_247_18 : mLk 247 18 = some (.ireturn, 1) := rfl
theorem c_247_19 : mLk 247 19 = some (.aload_n 0, 1) := rfl
theorem c_247_20 : mLk 247 20 = some (.invokevirtual 317, 3) := rfl
theorem c_247_23 : mLk 247 23 = some (.iconst 0, 1) := rfl
theorem c_247_24 : mLk 247 24 = some (.istore_n 2, 1) := rfl
theorem c_247_25 : mLk 247 25 = some (.iconst 0, 1) := rfl
theorem c_247_26 : mLk 247 26 = some (.istore_n 3, 1) := rfl
theorem c_248_47 : mLk 248 47 = some (.iload 5, 2) := rfl
theorem c_248_49 : mLk 248 49 = some (.aload_n 0, 1) := rfl
theorem c_248_50 : mLk 248 50 = some (.getfield 157, 3) := rfl
theorem c_248_53 : mLk 248 53 = some (.if_icmp .ge 57, 3) := rfl
theorem c_248_110 : mLk 248 110 = some (.iload_n 2, 1) := rfl
theorem c_248_111 : mLk 248 111 = some (.ifCond .ne 7, 3) := rfl
theorem c_248_118 : mLk 248 118 = some (.iload 4, 2) := rfl
theorem c_248_120 : mLk 248 120 = some (.ireturn, 1) := rfl
theorem c_248_114 : mLk 248 114 = some (.iload_n 3, 1) := rfl
theorem c_248_115 : mLk 248 115 = some (.goto 5, 3) := rfl
theorem c_248_56 : mLk 248 56 = some (.aload_n 0, 1) := rfl
theorem c_248_57 : mLk 248 57 = some (.getfield 65, 3) := rfl
theorem c_248_60 : mLk 248 60 = some (.iconst 4, 1) := rfl
theorem c_248_61 : mLk 248 61 = some (.iload 5, 2) := rfl
theorem c_248_63 : mLk 248 63 = some (.imul, 1) := rfl
theorem c_248_64 : mLk 248 64 = some (.iload_n 1, 1) := rfl
theorem c_248_65 : mLk 248 65 = some (.iadd, 1) := rfl
theorem c_248_66 : mLk 248 66 = some (.iaload, 1) := rfl
theorem c_248_67 : mLk 248 67 = some (.istore 6, 2) := rfl
theorem c_248_69 : mLk 248 69 = some (.iload_n 3, 1) := rfl
theorem c_248_70 : mLk 248 70 = some (.iload 6, 2) := rfl
theorem c_248_72 : mLk 248 72 = some (.iadd, 1) := rfl
theorem c_248_73 : mLk 248 73 = some (.istore_n 3, 1) := rfl
theorem c_248_74 : mLk 248 74 = some (.iload 6, 2) := rfl
theorem c_248_76 : mLk 248 76 = some (.iload 4, 2) := rfl
theorem c_248_78 : mLk 248 78 = some (.iconst (-1), 1) := rfl
theorem c_248_79 : mLk 248 79 = some (.if_icmp .ne 7, 3) := rfl
theorem c_248_86 : mLk 248 86 = some (.aload_n 0, 1) := rfl
theorem c_248_87 : mLk 248 87 = some (.getfield 65, 3) := rfl
theorem c_248_90 : mLk 248 90 = some (.iconst 4, 1) := rfl
theorem c_248_91 : mLk 248 91 = some (.iload 4, 2) := rfl
theorem c_248_93 : mLk 248 93 = some (.imul, 1) := rfl
theorem c_248_94 : mLk 248 94 = some (.iload_n 1, 1) := rfl
theorem c_248_95 : mLk 248 95 = some (.iadd, 1) := rfl
theorem c_248_96 : mLk 248 96 = some (.iaload, 1) := rfl
theorem c_248_97 : mLk 248 97 = some (.if_icmp .le 7, 3) := rfl
theorem c_248_104 : mLk 248 104 = some (.iinc 5 1, 3) := rfl
theorem c_248_107 : mLk 248 107 = some (.goto (-60), 3) := rfl
theorem c_248_100 : mLk 248 100 = some (.iload 5, 2) := rfl
theorem c_248_102 : mLk 248 102 = some (.istore 4, 2) := rfl
theorem c_248_82 : mLk 248 82 = some (.iconst 0, 1) := rfl
theorem c_248_83 : mLk 248 83 = some (.goto 14, 3) := rfl
theorem c_248_0 : mLk 248 0 = some (.aload_n 0, 1) := rfl
theorem c_248_1 : mLk 248 1 = some (.iconst 0, 1) := rfl
theorem c_248_2 : mLk 248 2 = some (.putfield 3, 3) := rfl
theorem c_248_5 : mLk 248 5 = some (.aload_n 0, 1) := rfl
theorem c_248_6 : mLk 248 6 = some (.iload_n 1, 1) := rfl
theorem c_248_7 : mLk 248 7 = some (.iconst 0, 1) := rfl
theorem c_248_8 : mLk 248 8 = some (.iconst 3, 1) := rfl
theorem c_248_9 : mLk 248 9 = some (.invokestatic 384, 3) := rfl
theorem c_248_12 : mLk 248 12 = some (.ifCond .eq 16, 3) := rfl
theorem c_248_28 : mLk 248 28 = some (.iconst 0, 1) := rfl
theorem c_248_29 : mLk 248 29 = some (.iconst 1, 1) := rfl
theorem c_248_30 : mLk 248 30 = some (.iconst 1, 1) := rfl
theorem c_248_31 : mLk 248 31 = some (.invokevirtual 203, 3) := rfl
theorem c_248_34 : mLk 248 34 = some (.ifCond .ne 5, 3) := rfl
theorem c_248_37 : mLk 248 37 = some (.iconst 0, 1) := rfl
theorem c_248_38 : mLk 248 38 = some (.ireturn, 1) := rfl
theorem c_248_15 : mLk 248 15 = some (.iload_n 2, 1) := rfl
theorem c_248_16 : mLk 248 16 = some (.iconst 0, 1) := rfl
theorem c_248_17 : mLk 248 17 = some (.iconst 1, 1) := rfl
theorem c_248_18 : mLk 248 18 = some (.invokestatic 384, 3) := rfl
theorem c_248_21 : mLk 248 21 = some (.ifCond .eq 7, 3) := rfl
theorem c_248_24 : mLk 248 24 = some (.iconst 1, 1) := rfl
theorem c_248_25 : mLk 248 25 = some (.goto 4, 3) := rfl
theorem c_248_39 : mLk 248 39 = some (.iconst 0, 1) := rfl
theorem c_248_40 : mLk 248 40 = some (.istore_n 3, 1) := rfl
theorem c_248_41 : mLk 248 41 = some (.iconst (-1), 1) := rfl
theorem c_248_42 : mLk 248 42 = some (.istore 4, 2) := rfl
theorem c_248_44 : mLk 248 44 = some (.iconst 0, 1) := rfl
theorem c_248_45 : mLk 248 45 = some (.istore 5, 2) := rfl
theorem c_249_13 : mLk 249 13 = some (.iload_n 2, 1) := rfl
theorem c_249_14 : mLk 249 14 = some (.aload_n 0, 1) := rfl
theorem c_249_15 : mLk 249 15 = some (.getfield 157, 3) := rfl
theorem c_249_18 : mLk 249 18 = some (.if_icmp .ge 32, 3) := rfl
theorem c_249_50 : mLk 249 50 = some (.iload_n 1, 1) := rfl
theorem c_249_51 : mLk 249 51 = some (.ireturn, 1) := rfl
theorem c_249_21 : mLk 249 21 = some (.iload_n 1, 1) := rfl
theorem c_249_22 : mLk 249 22 = some (.aload_n 0, 1) := rfl
theorem c_249_23 : mLk 249 23 = some (.iload_n 2, 1) := rfl
theorem c_249_24 : mLk 249 24 = some (.invokevirtual 378, 3) := rfl
theorem c_249_27 : mLk 249 27 = some (.ifCond .eq 14, 3) := rfl
theorem c_249_41 : mLk 249 41 = some (.iconst 0, 1) := rfl
theorem c_249_42 : mLk 249 42 = some (.iadd, 1) := rfl
theorem c_249_43 : mLk 249 43 = some (.istore_n 1, 1) := rfl
theorem c_249_44 : mLk 249 44 = some (.iinc 2 1, 3) := rfl
theorem c_249_47 : mLk 249 47 = some (.goto (-34), 3) := rfl
theorem c_249_30 : mLk 249 30 = some (.aload_n 0, 1) := rfl
theorem c_249_31 : mLk 249 31 = some (.iload_n 2, 1) := rfl
theorem c_249_32 : mLk 249 32 = some (.invokevirtual 343, 3) := rfl
theorem c_249_35 : mLk 249 35 = some (.bipush 10, 2) := rfl
theorem c_249_38 : mLk 249 38 = some (.goto 4, 3) := rfl
theorem c_249_0 : mLk 249 0 = some (.aload_n 0, 1) := rfl
theorem c_249_1 : mLk 249 1 = some (.iconst 0, 1) := rfl
theorem c_249_2 : mLk 249 2 = some (.putfield 3, 3) := rfl
theorem c_249_5 : mLk 249 5 = some (.aload_n 0, 1) := rfl
theorem c_249_6 : mLk 249 6 = some (.invokevirtual 317, 3) := rfl
theorem c_249_9 : mLk 249 9 = some (.iconst 0, 1) := rfl
theorem c_249_10 : mLk 249 10 = some (.istore_n 1, 1) := rfl
theorem c_249_11 : mLk 249 11 = some (.iconst 0, 1) := rfl
theorem c_249_12 : mLk 249 12 = some (.istore_n 2, 1) := rfl
theorem c_250_27 : mLk 250 27 = some (.iload_n 3, 1) := rfl
theorem c_250_28 : mLk 250 28 = some (.aload_n 0, 1) := rfl
theorem c_250_29 : mLk 250 29 = some (.getfield 157, 3) := rfl
theorem c_250_32 : mLk 250 32 = some (.if_icmp .ge 60, 3) := rfl
theorem c_250_92 : mLk 250 92 = some (.iload_n 2, 1) := rfl
theorem c_250_93 : mLk 250 93 = some (.ireturn, 1) := rfl
theorem c_250_35 : mLk 250 35 = some (.iload_n 3, 1) := rfl
theorem c_250_36 : mLk 250 36 = some (.iload_n 1, 1) := rfl
theorem c_250_37 : mLk 250 37 = some (.if_icmp .eq 49, 3) := rfl
theorem c_250_86 : mLk 250 86 = some (.iinc 3 1, 3) := rfl
theorem c_250_89 : mLk 250 89 = some (.goto (-62), 3) := rfl
theorem c_250_40 : mLk 250 40 = some (.aload_n 0, 1) := rfl
theorem c_250_41 : mLk 250 41 = some (.iload_n 3, 1) := rfl
theorem c_250_42 : mLk 250 42 = some (.invokevirtual 343, 3) := rfl
theorem c_250_45 : mLk 250 45 = some (.ifCond .le 41, 3) := rfl
theorem c_250_48 : mLk 250 48 = some (.iload_n 2, 1) := rfl
theorem c_250_49 : mLk 250 49 = some (.iconst (-1), 1) := rfl
theorem c_250_50 : mLk 250 50 = some (.if_icmp .eq 34, 3) := rfl
theorem c_250_84 : mLk 250 84 = some (.iload_n 3, 1) := rfl
theorem c_250_85 : mLk 250 85 = some (.istore_n 2, 1) := rfl
theorem c_250_53 : mLk 250 53 = some (.aload_n 0, 1) := rfl
theorem c_250_54 : mLk 250 54 = some (.iload_n 3, 1) := rfl
theorem c_250_55 : mLk 250 55 = some (.invokevirtual 399, 3) := rfl
theorem c_250_58 : mLk 250 58 = some (.aload_n 0, 1) := rfl
theorem c_250_59 : mLk 250 59 = some (.iload_n 1, 1) := rfl
theorem c_250_60 : mLk 250 60 = some (.invokevirtual 399, 3) := rfl
theorem c_250_63 : mLk 250 63 = some (.isub, 1) := rfl
theorem c_250_64 : mLk 250 64 = some (.invokestatic 411, 3) := rfl
theorem c_250_67 : mLk 250 67 = some (.aload_n 0, 1) := rfl
theorem c_250_68 : mLk 250 68 = some (.iload_n 2, 1) := rfl
theorem c_250_69 : mLk 250 69 = some (.invokevirtual 399, 3) := rfl
theorem c_250_72 : mLk 250 72 = some (.aload_n 0, 1) := rfl
theorem c_250_73 : mLk 250 73 = some (.iload_n 1, 1) := rfl
theorem c_250_74 : mLk 250 74 = some (.invokevirtual 399, 3) := rfl
theorem c_250_77 : mLk 250 77 = some (.isub, 1) := rfl
theorem c_250_78 : mLk 250 78 = some (.invokestatic 411, 3) := rfl
theorem c_250_81 : mLk 250 81 = some (.if_icmp .ge 5, 3) := rfl
theorem c_250_0 : mLk 250 0 = some (.aload_n 0, 1) := rfl
theorem c_250_1 : mLk 250 1 = some (.iconst 0, 1) := rfl
theorem c_250_2 : mLk 250 2 = some (.putfield 3, 3) := rfl
theorem c_250_5 : mLk 250 5 = some (.aload_n 0, 1) := rfl
theorem c_250_6 : mLk 250 6 = some (.iload_n 1, 1) := rfl
theorem c_250_7 : mLk 250 7 = some (.aload_n 0, 1) := rfl
theorem c_250_8 : mLk 250 8 = some (.getfield 157, 3) := rfl
theorem c_250_11 : mLk 250 11 = some (.invokevirtual 396, 3) := rfl
theorem c_250_14 : mLk 250 14 = some (.ifCond .ne 5, 3) := rfl
theorem c_250_17 : mLk 250 17 = some (.iconst 0, 1) := rfl
theorem c_250_18 : mLk 250 18 = some (.ireturn, 1) := rfl
theorem c_250_19 : mLk 250 19 = some (.aload_n 0, 1) := rfl
theorem c_250_20 : mLk 250 20 = some (.invokevirtual 317, 3) := rfl
theorem c_250_23 : mLk 250 23 = some (.iconst (-1), 1) := rfl
theorem c_250_24 : mLk 250 24 = some (.istore_n 2, 1) := rfl
theorem c_250_25 : mLk 250 25 = some (.iconst 0, 1) := rfl
theorem c_250_26 : mLk 250 26 = some (.istore_n 3, 1) := rfl
theorem c_251_43 : mLk 251 43 = some (.iload 4, 2) := rfl
theorem c_251_45 : mLk 251 45 = some (.aload_n 0, 1) := rfl
theorem c_251_46 : mLk 251 46 = some (.getfield 157, 3) := rfl
theorem c_251_49 : mLk 251 49 = some (.if_icmp .ge 19, 3) := rfl
theorem c_251_68 : mLk 251 68 = some (.iload_n 2, 1) := rfl
theorem c_251_69 : mLk 251 69 = some (.ifCond .ne 7, 3) := rfl
theorem c_251_76 : mLk 251 76 = some (.aload_n 0, 1) := rfl
theorem c_251_77 : mLk 251 77 = some (.invokevirtual 387, 3) := rfl
theorem c_251_80 : mLk 251 80 = some (.iload_n 3, 1) := rfl
theorem c_251_81 : mLk 251 81 = some (.isub, 1) := rfl
theorem c_251_82 : mLk 251 82 = some (.ireturn, 1) := rfl
theorem c_251_72 : mLk 251 72 = some (.iload_n 3, 1) := rfl
theorem c_251_73 : mLk 251 73 = some (.goto 9, 3) := rfl
theorem c_251_52 : mLk 251 52 = some (.iload_n 3, 1) := rfl
theorem c_251_53 : mLk 251 53 = some (.aload_n 0, 1) := rfl
theorem c_251_54 : mLk 251 54 = some (.iload_n 1, 1) := rfl
theorem c_251_55 : mLk 251 55 = some (.iload 4, 2) := rfl
theorem c_251_57 : mLk 251 57 = some (.invokevirtual 366, 3) := rfl
theorem c_251_61 : mLk 251 61 = some (.istore_n 3, 1) := rfl
theorem c_251_62 : mLk 251 62 = some (.iinc 4 1, 3) := rfl
theorem c_251_65 : mLk 251 65 = some (.goto (-22), 3) := rfl
theorem c_251_0 : mLk 251 0 = some (.aload_n 0, 1) := rfl
theorem c_251_1 : mLk 251 1 = some (.iconst 0, 1) := rfl
theorem c_251_2 : mLk 251 2 = some (.putfield 3, 3) := rfl
theorem c_251_5 : mLk 251 5 = some (.aload_n 0, 1) := rfl
theorem c_251_6 : mLk 251 6 = some (.iload_n 1, 1) := rfl
theorem c_251_7 : mLk 251 7 = some (.aload_n 0, 1) := rfl
theorem c_251_8 : mLk 251 8 = some (.getfield 163, 3) := rfl
theorem c_251_11 : mLk 251 11 = some (.invokevirtual 396, 3) := rfl
theorem c_251_14 : mLk 251 14 = some (.ifCond .eq 18, 3) := rfl
theorem c_251_32 : mLk 251 32 = some (.iconst 0, 1) := rfl
theorem c_251_33 : mLk 251 33 = some (.ireturn, 1) := rfl
theorem c_251_17 : mLk 251 17 = some (.aload_n 0, 1) := rfl
theorem c_251_18 : mLk 251 18 = some (.iload_n 2, 1) := rfl
theorem c_251_19 : mLk 251 19 = some (.iconst 0, 1) := rfl
theorem c_251_20 : mLk 251 20 = some (.iconst 1, 1) := rfl
theorem c_251_21 : mLk 251 21 = some (.invokestatic 384, 3) := rfl
theorem c_251_24 : mLk 251 24 = some (.iconst 2, 1) := rfl
theorem c_251_25 : mLk 251 25 = some (.iconst 1, 1) := rfl
theorem c_251_26 : mLk 251 26 = some (.invokevirtual 203, 3) := rfl
theorem c_251_29 : mLk 251 29 = some (.ifCond .ne 5, 3) := rfl
theorem c_251_34 : mLk 251 34 = some (.aload_n 0, 1) := rfl
theorem c_251_35 : mLk 251 35 = some (.invokevirtual 317, 3) := rfl
theorem c_251_38 : mLk 251 38 = some (.iconst 0, 1) := rfl
theorem c_251_39 : mLk 251 39 = some (.istore_n 3, 1) := rfl
theorem c_251_40 : mLk 251 40 = some (.iconst 0, 1) := rfl
theorem c_251_41 : mLk 251 41 = some (.istore 4, 2) := rfl
theorem c_252_0 : mLk 252 0 = some (.aload_n 0, 1) := rfl
theorem c_252_1 : mLk 252 1 = some (.aload_n 0, 1) := rfl
theorem c_252_2 : mLk 252 2 = some (.getfield 438, 3) := rfl
theorem c_252_5 : mLk 252 5 = some (.ldc_w 441, 3) := rfl
theorem c_252_8 : mLk 252 8 = some (.imul, 1) := rfl
theorem c_252_9 : mLk 252 9 = some (.sipush 12345, 3) := rfl
theorem c_252_12 : mLk 252 12 = some (.iadd, 1) := rfl
theorem c_252_13 : mLk 252 13 = some (.putfield 438, 3) := rfl
theorem c_252_16 : mLk 252 16 = some (.aload_n 0, 1) := rfl
theorem c_252_17 : mLk 252 17 = some (.getfield 438, 3) := rfl
theorem c_252_20 : mLk 252 20 = some (.bipush 16, 2) := rfl
theorem c_252_22 : mLk 252 22 = some (.ishr, 1) := rfl
theorem c_252_23 : mLk 252 23 = some (.sipush 32767, 3) := rfl
theorem c_252_26 : mLk 252 26 = some (.iand, 1) := rfl
theorem c_252_27 : mLk 252 27 = some (.iload_n 1, 1) := rfl
theorem c_252_29 : mLk 252 29 = some (.ireturn, 1) := rfl
theorem kf_8_438 : a_lk (kF 8) 438 = some (8, 50) := rfl
set_option maxRecDepth 100000 in
set_option maxHeartbeats 4000000 in
theorem s_244_l {sc : List Int32} {d P Q : Nat} {c : ME} {a1 : Int} {Z : AR → Prop} (hI : Iv 0 (-1) P Q c) (ha1 : (-2147483648) ≤ a1 ∧ a1 ≤ 2147483647) (K : ∀ (c2 : ME) (y : Int), Iv 0 (-1) P Q c2 → (∀ (a : Nat) (j : Int), ¬ ((a = 41 ∧ j = 0) ∨ a = 42 ∨ a = 59 ∨ a = 54 ∨ a = 55) → c2 a j = c a j) → (-2147483648) ≤ y ∧ y ≤ 2147483647 → Z (.inl (some (vi y)), Wd P Q P P c2, 0, 0)) : ∀ n : Nat, (∀ (c2 : ME) (v2 : Int), Iv 0 (-1) P Q c2 → (∀ (a : Nat) (j : Int), ¬ ((a = 41 ∧ j = 0) ∨ a = 42 ∨ a = 59 ∨ a = 54 ∨ a = 55) → c2 a j = c a j) → 0 ≤ v2 ∧ v2 ≤ 100 → ((a1 ≥ 0 ∧ a1 ≤ 5)) → 201 - 2 * v2 < (n : Int) → Wp sc (d + 13) 244 25 [(0, .ref 41), (1, vi a1), (2, vi v2)] [] (Wd P Q P P c2) 0 0 Z) := by
  intro n
  induction n with
  | zero => exact (by intro c2 v2 hI2 hF hv2 hx0 hm9; have hP := iv_P hI; have hQ := iv_Q hI; exfalso; omega)
  | succ n ih =>
    have hP := iv_P hI
    have hQ := iv_Q hI
    intro c2 v2 hI2 hF hv2 hx0 hm9
    refine q_iload_n c_244_25 rfl (v_bip c_244_26 (of_decide_eq_true rfl) ?_)
    by_cases h_1 : v2 > 99
    · refine v_ic_gt_t (t := 51) c_244_28 rfl ⟨of_decide_eq_true rfl, h_1, (ler hv2.2 rfl)⟩ (q_iconst c_244_51 (q_iret c_244_52 rfl ?_))
      exact K c2 (-1) hI2 (fun a j hm => hF a j hm) ⟨of_decide_eq_true rfl, of_decide_eq_true rfl⟩
    · refine v_ic_gt_f (t := 51) c_244_28 rfl ⟨(lel hv2.1 rfl), (Int.not_lt.mp h_1), of_decide_eq_true rfl⟩ (q_aload_n c_244_31 rfl (q_iload_n c_244_32 rfl (v_cv c_244_33 km_8_378 rfl rfl (Nat.le_of_ble_eq_true rfl) ⟨⟨rfl, rfl⟩, Nat.le_of_ble_eq_true rfl, rfl⟩ (Nat.le_of_ble_eq_true rfl) (Nat.le_of_ble_eq_true rfl) (s_197 (a1 := a1) hI2 (show 0 ≤ a1 ∧ a1 ≤ 5 from ⟨by omega, by omega⟩) (fun c_2 y_5 hI_3 hF_4 hy_5 => (bk_inl ?_))))))
      by_cases h_6 : y_5 = 0
      · refine v_if_eq_t (t := 41) c_244_36 rfl h_6 (q_aload_n c_244_41 rfl (v_cv c_244_42 km_8_353 rfl rfl (Nat.le_of_ble_eq_true rfl) ⟨⟨rfl, rfl⟩, Nat.le_of_ble_eq_true rfl, rfl⟩ (Nat.le_of_ble_eq_true rfl) (Nat.le_of_ble_eq_true rfl) (s_199 hI_3 (fun c_7 hI_8 hF_9 => (bk_inl (v_iinc (v := v2 + 1) c_244_45 rfl (Nat.le_of_ble_eq_true rfl) rfl (q_goto (t := 25) c_244_48 rfl (Wp_ls [(0, .ref 41), (1, vi a1), (2, vi (v2 + 1))] (lsub_cons rfl (lsub_cons rfl (lsub_cons rfl lsub_nil))) ?_))))))))
        exact ih c_7 (v2 + 1) hI_8 (fun a j hm => (hF_9 a j (fun h => hm (Or.inr (Or.inr (Or.inl h))))).trans ((hF_4 a j (qv_bcc235c24 hm)).trans (hF a j hm))) ⟨(rgp_l hv2.1 (of_decide_eq_true rfl)), (q_1eecf77db h_1)⟩ ⟨by omega, by omega⟩ (by omega)
      · refine v_if_eq_f (t := 41) c_244_36 rfl ⟨h_6, ⟨(lel hy_5.1 rfl), (ler hy_5.2 rfl)⟩, of_decide_eq_true rfl, of_decide_eq_true rfl⟩ (q_iload_n c_244_39 rfl (q_iret c_244_40 rfl ?_))
        exact K c_2 v2 hI_3 (fun a j hm => (hF_4 a j (qv_bcc235c24 hm)).trans (hF a j hm)) ⟨(lel hv2.1 rfl), (ler hv2.2 rfl)⟩
set_option maxRecDepth 100000 in
set_option maxHeartbeats 4000000 in
theorem s_244 {sc : List Int32} {d P Q : Nat} {c : ME} {a1 : Int} {Z : AR → Prop} (hI : Iv 0 (-1) P Q c) (ha1 : (-2147483648) ≤ a1 ∧ a1 ≤ 2147483647) (K : ∀ (c2 : ME) (y : Int), Iv 0 (-1) P Q c2 → (∀ (a : Nat) (j : Int), ¬ ((a = 41 ∧ j = 0) ∨ a = 42 ∨ a = 59 ∨ a = 54 ∨ a = 55) → c2 a j = c a j) → (-2147483648) ≤ y ∧ y ≤ 2147483647 → Z (.inl (some (vi y)), Wd P Q P P c2, 0, 0)) : Wp sc (d + 13) 244 0 [(0, .ref 41), (1, vi a1)] [] (Wd P Q P P c) 0 0 Z := by
  have hP := iv_P hI
  have hQ := iv_Q hI
  refine q_aload_n c_244_0 rfl (q_iconst c_244_1 (v_pi (z := 0) c_244_2 kf_8_3 rfl (Nat.le_of_ble_eq_true rfl) rfl rfl rfl (of_decide_eq_true rfl) (q_aload_n c_244_5 rfl (q_iload_n c_244_6 rfl (q_aload_n c_244_7 rfl ?_)))))
  have h_10 := ir_41_20 hI
  refine v_gi (z := 20) (v := c 41 20) c_244_8 kf_8_157 rfl (Nat.le_of_ble_eq_true rfl) rfl rfl (up_n (ni rfl)) (v_cv c_244_11 km_8_396 rfl rfl (Nat.le_of_ble_eq_true rfl) ⟨⟨rfl, rfl⟩, Nat.le_of_ble_eq_true rfl, rfl⟩ (Nat.le_of_ble_eq_true rfl) (Nat.le_of_ble_eq_true rfl) (q_aload_n c_212_0 rfl (q_iload_n c_212_1 rfl (q_iconst c_212_2 (q_iload_n c_212_3 rfl (q_iconst c_212_4 (v_isub (v := c 41 20 - 1) c_212_5 rfl ?_)))))))
  refine q_call c_212_6 rfl rfl rfl (q_iload_n c_146_0 rfl (q_iload_n c_146_1 rfl ?_))
  by_cases h_11 : a1 < 0
  · refine v_ic_lt_t (t := 14) c_146_2 rfl ⟨ha1.1, h_11, of_decide_eq_true rfl⟩ (q_iconst c_146_14 (v_zret c_146_15 rfl (of_decide_eq_true rfl) (bk_inl (q_iconst c_212_9 (q_iconst c_212_10 (v_cv c_212_11 km_8_203 rfl rfl (Nat.le_of_ble_eq_true rfl) ⟨⟨rfl, rfl⟩, Nat.le_of_ble_eq_true rfl, rfl⟩ (Nat.le_of_ble_eq_true rfl) (Nat.le_of_ble_eq_true rfl) (q_iload_n c_145_0 rfl ?_)))))))
    refine v_if_ne_f (t := 26) c_145_1 rfl (of_decide_eq_true rfl) (q_aload_n c_145_4 rfl (v_gi (z := 0) (v := 0) c_145_5 kf_8_3 rfl (Nat.le_of_ble_eq_true rfl) rfl rfl (up_e rfl) (v_if_ne_f (t := 26) c_145_8 rfl (of_decide_eq_true rfl) (q_aload_n c_145_11 rfl (q_iload_n c_145_12 rfl (v_pi (z := 0) c_145_13 kf_8_3 rfl (Nat.le_of_ble_eq_true rfl) rfl rfl rfl (of_decide_eq_true rfl) (q_aload_n c_145_16 rfl ?_)))))))
    refine v_gr (t := 42) c_145_17 kf_8_7 rfl (Nat.le_of_ble_eq_true rfl) rfl (q_iload_n c_145_20 rfl (q_dup2 c_145_21 ⟨rfl, rfl⟩ ?_))
    have h_12 := ir_42 hI 0
    refine v_ia (v := c 42 0) c_145_22 rfl (of_decide_eq_true rfl) (of_decide_eq_true rfl) (of_decide_eq_true rfl) ((up_c (nn rfl)).trans (up_c (nn rfl))) (q_iconst c_145_23 (v_iadd (v := c 42 0 + 1) c_145_24 rfl (v_nrm (fun y_13 hy_13 => (v_is c_145_25 rfl (of_decide_eq_true rfl) (of_decide_eq_true rfl) (of_decide_eq_true rfl) (q_aload_n c_145_26 rfl (v_gi (z := 0) (v := 1) c_145_27 kf_8_3 rfl (Nat.le_of_ble_eq_true rfl) rfl rfl ((up_c (nn rfl)).trans (up_e rfl)) (v_if_ne_t (t := 37) c_145_30 rfl (of_decide_eq_true rfl) ?_))))))))
    refine q_iconst c_145_37 (v_zret c_145_38 rfl (of_decide_eq_true rfl) (bk_inl (v_zret c_212_14 rfl (of_decide_eq_true rfl) (bk_inl (v_if_ne_f (t := 19) c_244_14 rfl (of_decide_eq_true rfl) (q_iconst c_244_17 (q_iret c_244_18 rfl ?_)))))))
    have hI_14 := iw_41_0 (v := 0) hI ⟨of_decide_eq_true rfl, of_decide_eq_true rfl⟩
    have hI_15 := iw_41_0 (v := 1) hI_14 ⟨of_decide_eq_true rfl, of_decide_eq_true rfl⟩
    have hI_16 := iw_42 (j := 0) (v := y_13) hI_15 ⟨hy_13.1, hy_13.2⟩
    exact K (up (up (up c 41 0 0) 41 0 1) 42 0 y_13) 0 hI_16 (fun a j hm => (up_b (Decidable.or_iff_not_imp_left.mpr (fun h1 h2 => hm (Or.inr (Or.inl (Decidable.not_not.mp h1)))))).trans ((up_b (Decidable.or_iff_not_imp_left.mpr (fun h1 h2 => hm (Or.inl ⟨Decidable.not_not.mp h1, h2⟩)))).trans (up_b (Decidable.or_iff_not_imp_left.mpr (fun h1 h2 => hm (Or.inl ⟨Decidable.not_not.mp h1, h2⟩)))))) ⟨of_decide_eq_true rfl, of_decide_eq_true rfl⟩
  · refine v_ic_lt_f (t := 14) c_146_2 rfl ⟨of_decide_eq_true rfl, (Int.not_lt.mp h_11), ha1.2⟩ (q_iload_n c_146_5 rfl (q_iload_n c_146_6 rfl ?_))
    by_cases h_17 : a1 > c 41 20 - 1
    · refine v_ic_gt_t (t := 14) c_146_7 rfl ⟨(rgm_l h_10.1 (of_decide_eq_true rfl)), h_17, ha1.2⟩ (q_iconst c_146_14 (v_zret c_146_15 rfl (of_decide_eq_true rfl) (bk_inl (q_iconst c_212_9 (q_iconst c_212_10 (v_cv c_212_11 km_8_203 rfl rfl (Nat.le_of_ble_eq_true rfl) ⟨⟨rfl, rfl⟩, Nat.le_of_ble_eq_true rfl, rfl⟩ (Nat.le_of_ble_eq_true rfl) (Nat.le_of_ble_eq_true rfl) (q_iload_n c_145_0 rfl ?_)))))))
      refine v_if_ne_f (t := 26) c_145_1 rfl (of_decide_eq_true rfl) (q_aload_n c_145_4 rfl (v_gi (z := 0) (v := 0) c_145_5 kf_8_3 rfl (Nat.le_of_ble_eq_true rfl) rfl rfl (up_e rfl) (v_if_ne_f (t := 26) c_145_8 rfl (of_decide_eq_true rfl) (q_aload_n c_145_11 rfl (q_iload_n c_145_12 rfl (v_pi (z := 0) c_145_13 kf_8_3 rfl (Nat.le_of_ble_eq_true rfl) rfl rfl rfl (of_decide_eq_true rfl) (q_aload_n c_145_16 rfl ?_)))))))
      refine v_gr (t := 42) c_145_17 kf_8_7 rfl (Nat.le_of_ble_eq_true rfl) rfl (q_iload_n c_145_20 rfl (q_dup2 c_145_21 ⟨rfl, rfl⟩ ?_))
      have h_18 := ir_42 hI 0
      refine v_ia (v := c 42 0) c_145_22 rfl (of_decide_eq_true rfl) (of_decide_eq_true rfl) (of_decide_eq_true rfl) ((up_c (nn rfl)).trans (up_c (nn rfl))) (q_iconst c_145_23 (v_iadd (v := c 42 0 + 1) c_145_24 rfl (v_nrm (fun y_19 hy_19 => (v_is c_145_25 rfl (of_decide_eq_true rfl) (of_decide_eq_true rfl) (of_decide_eq_true rfl) (q_aload_n c_145_26 rfl (v_gi (z := 0) (v := 1) c_145_27 kf_8_3 rfl (Nat.le_of_ble_eq_true rfl) rfl rfl ((up_c (nn rfl)).trans (up_e rfl)) (v_if_ne_t (t := 37) c_145_30 rfl (of_decide_eq_true rfl) ?_))))))))
      refine q_iconst c_145_37 (v_zret c_145_38 rfl (of_decide_eq_true rfl) (bk_inl (v_zret c_212_14 rfl (of_decide_eq_true rfl) (bk_inl (v_if_ne_f (t := 19) c_244_14 rfl (of_decide_eq_true rfl) (q_iconst c_244_17 (q_iret c_244_18 rfl ?_)))))))
      have hI_20 := iw_41_0 (v := 0) hI ⟨of_decide_eq_true rfl, of_decide_eq_true rfl⟩
      have hI_21 := iw_41_0 (v := 1) hI_20 ⟨of_decide_eq_true rfl, of_decide_eq_true rfl⟩
      have hI_22 := iw_42 (j := 0) (v := y_19) hI_21 ⟨hy_19.1, hy_19.2⟩
      exact K (up (up (up c 41 0 0) 41 0 1) 42 0 y_19) 0 hI_22 (fun a j hm => (up_b (Decidable.or_iff_not_imp_left.mpr (fun h1 h2 => hm (Or.inr (Or.inl (Decidable.not_not.mp h1)))))).trans ((up_b (Decidable.or_iff_not_imp_left.mpr (fun h1 h2 => hm (Or.inl ⟨Decidable.not_not.mp h1, h2⟩)))).trans (up_b (Decidable.or_iff_not_imp_left.mpr (fun h1 h2 => hm (Or.inl ⟨Decidable.not_not.mp h1, h2⟩)))))) ⟨of_decide_eq_true rfl, of_decide_eq_true rfl⟩
    · refine v_ic_gt_f (t := 14) c_146_7 rfl ⟨ha1.1, (Int.not_lt.mp h_17), (rgm_h h_10.2 (of_decide_eq_true rfl))⟩ (q_iconst c_146_10 (q_goto (t := 15) c_146_11 rfl (v_zret c_146_15 rfl (of_decide_eq_true rfl) (bk_inl (q_iconst c_212_9 (q_iconst c_212_10 (v_cv c_212_11 km_8_203 rfl rfl (Nat.le_of_ble_eq_true rfl) ⟨⟨rfl, rfl⟩, Nat.le_of_ble_eq_true rfl, rfl⟩ (Nat.le_of_ble_eq_true rfl) (Nat.le_of_ble_eq_true rfl) ?_)))))))
      refine q_iload_n c_145_0 rfl (v_if_ne_t (t := 26) c_145_1 rfl (of_decide_eq_true rfl) (q_aload_n c_145_26 rfl (v_gi (z := 0) (v := 0) c_145_27 kf_8_3 rfl (Nat.le_of_ble_eq_true rfl) rfl rfl (up_e rfl) (v_if_ne_f (t := 37) c_145_30 rfl (of_decide_eq_true rfl) (q_iconst c_145_33 (q_goto (t := 38) c_145_34 rfl (v_zret c_145_38 rfl (of_decide_eq_true rfl) ?_)))))))
      refine bk_inl (v_zret c_212_14 rfl (of_decide_eq_true rfl) (bk_inl (v_if_ne_t (t := 19) c_244_14 rfl (of_decide_eq_true rfl) (q_aload_n c_244_19 rfl ?_))))
      have hI_23 := iw_41_0 (v := 0) hI ⟨of_decide_eq_true rfl, of_decide_eq_true rfl⟩
      refine v_cv c_244_20 km_8_317 rfl rfl (Nat.le_of_ble_eq_true rfl) ⟨⟨rfl, rfl⟩, Nat.le_of_ble_eq_true rfl, rfl⟩ (Nat.le_of_ble_eq_true rfl) (Nat.le_of_ble_eq_true rfl) (s_186 hI_23 (fun c_24 hI_25 hF_26 => (bk_inl (q_iconst c_244_23 (q_istore_n c_244_24 (Nat.le_of_ble_eq_true rfl) (Wp_ls [(0, .ref 41), (1, vi a1), (2, vi 0)] (lsub_cons rfl (lsub_cons rfl (lsub_cons rfl lsub_nil))) ?_))))))
      exact (s_244_l (sc := sc) (d := d) hI ha1 K 204) c_24 0 hI_25 (fun a j hm => (hF_26 a j (fun h => hm (Or.inr (Or.inr (Or.inl h))))).trans (up_b (Decidable.or_iff_not_imp_left.mpr (fun h1 h2 => hm (Or.inl ⟨Decidable.not_not.mp h1, h2⟩))))) ⟨of_decide_eq_true rfl, of_decide_eq_true rfl⟩ ⟨(q_720657ba9 h_11), (q_3a2e67ab0 h_10 h_17)⟩ (by omega)

set_option maxRecDepth 100000 in
set_option maxHeartbeats 4000000 in
theorem s_245 {sc : List Int32} {d P Q : Nat} {c : ME} {a1 : Int} {Z : AR → Prop} (hI : Iv 0 (-1) P Q c) (ha1 : (-2147483648) ≤ a1 ∧ a1 ≤ 2147483647) (K : ∀ (c2 : ME) (y : Int), Iv 0 (-1) P Q c2 → (∀ (a : Nat) (j : Int), ¬ ((a = 41 ∧ j = 0) ∨ a = 42 ∨ a = 59) → c2 a j = c a j) → (-2147483648) ≤ y ∧ y ≤ 2147483647 → Z (.inl (some (vi y)), Wd P Q P P c2, 0, 0)) : Wp sc (d + 9) 245 0 [(0, .ref 41), (1, vi a1)] [] (Wd P Q P P c) 0 0 Z := by
  have hP := iv_P hI
  have hQ := iv_Q hI
  refine q_aload_n c_245_0 rfl (q_iconst c_245_1 (v_pi (z := 0) c_245_2 kf_8_3 rfl (Nat.le_of_ble_eq_true rfl) rfl rfl rfl (of_decide_eq_true rfl) (q_aload_n c_245_5 rfl (q_iload_n c_245_6 rfl (q_aload_n c_245_7 rfl ?_)))))
  have h_1 := ir_41_20 hI
  refine v_gi (z := 20) (v := c 41 20) c_245_8 kf_8_157 rfl (Nat.le_of_ble_eq_true rfl) rfl rfl (up_n (ni rfl)) (v_cv c_245_11 km_8_396 rfl rfl (Nat.le_of_ble_eq_true rfl) ⟨⟨rfl, rfl⟩, Nat.le_of_ble_eq_true rfl, rfl⟩ (Nat.le_of_ble_eq_true rfl) (Nat.le_of_ble_eq_true rfl) (q_aload_n c_212_0 rfl (q_iload_n c_212_1 rfl (q_iconst c_212_2 (q_iload_n c_212_3 rfl (q_iconst c_212_4 (v_isub (v := c 41 20 - 1) c_212_5 rfl ?_)))))))
  refine q_call c_212_6 rfl rfl rfl (q_iload_n c_146_0 rfl (q_iload_n c_146_1 rfl ?_))
  by_cases h_2 : a1 < 0
  · refine v_ic_lt_t (t := 14) c_146_2 rfl ⟨ha1.1, h_2, of_decide_eq_true rfl⟩ (q_iconst c_146_14 (v_zret c_146_15 rfl (of_decide_eq_true rfl) (bk_inl (q_iconst c_212_9 (q_iconst c_212_10 (v_cv c_212_11 km_8_203 rfl rfl (Nat.le_of_ble_eq_true rfl) ⟨⟨rfl, rfl⟩, Nat.le_of_ble_eq_true rfl, rfl⟩ (Nat.le_of_ble_eq_true rfl) (Nat.le_of_ble_eq_true rfl) (q_iload_n c_145_0 rfl ?_)))))))
    refine v_if_ne_f (t := 26) c_145_1 rfl (of_decide_eq_true rfl) (q_aload_n c_145_4 rfl (v_gi (z := 0) (v := 0) c_145_5 kf_8_3 rfl (Nat.le_of_ble_eq_true rfl) rfl rfl (up_e rfl) (v_if_ne_f (t := 26) c_145_8 rfl (of_decide_eq_true rfl) (q_aload_n c_145_11 rfl (q_iload_n c_145_12 rfl (v_pi (z := 0) c_145_13 kf_8_3 rfl (Nat.le_of_ble_eq_true rfl) rfl rfl rfl (of_decide_eq_true rfl) (q_aload_n c_145_16 rfl ?_)))))))
    refine v_gr (t := 42) c_145_17 kf_8_7 rfl (Nat.le_of_ble_eq_true rfl) rfl (q_iload_n c_145_20 rfl (q_dup2 c_145_21 ⟨rfl, rfl⟩ ?_))
    have h_3 := ir_42 hI 0
    refine v_ia (v := c 42 0) c_145_22 rfl (of_decide_eq_true rfl) (of_decide_eq_true rfl) (of_decide_eq_true rfl) ((up_c (nn rfl)).trans (up_c (nn rfl))) (q_iconst c_145_23 (v_iadd (v := c 42 0 + 1) c_145_24 rfl (v_nrm (fun y_4 hy_4 => (v_is c_145_25 rfl (of_decide_eq_true rfl) (of_decide_eq_true rfl) (of_decide_eq_true rfl) (q_aload_n c_145_26 rfl (v_gi (z := 0) (v := 1) c_145_27 kf_8_3 rfl (Nat.le_of_ble_eq_true rfl) rfl rfl ((up_c (nn rfl)).trans (up_e rfl)) (v_if_ne_t (t := 37) c_145_30 rfl (of_decide_eq_true rfl) ?_))))))))
    refine q_iconst c_145_37 (v_zret c_145_38 rfl (of_decide_eq_true rfl) (bk_inl (v_zret c_212_14 rfl (of_decide_eq_true rfl) (bk_inl (v_if_ne_f (t := 19) c_245_14 rfl (of_decide_eq_true rfl) (q_iconst c_245_17 (q_iret c_245_18 rfl ?_)))))))
    have hI_5 := iw_41_0 (v := 0) hI ⟨of_decide_eq_true rfl, of_decide_eq_true rfl⟩
    have hI_6 := iw_41_0 (v := 1) hI_5 ⟨of_decide_eq_true rfl, of_decide_eq_true rfl⟩
    have hI_7 := iw_42 (j := 0) (v := y_4) hI_6 ⟨hy_4.1, hy_4.2⟩
    exact K (up (up (up c 41 0 0) 41 0 1) 42 0 y_4) 0 hI_7 (fun a j hm => (up_b (Decidable.or_iff_not_imp_left.mpr (fun h1 h2 => hm (Or.inr (Or.inl (Decidable.not_not.mp h1)))))).trans ((up_b (Decidable.or_iff_not_imp_left.mpr (fun h1 h2 => hm (Or.inl ⟨Decidable.not_not.mp h1, h2⟩)))).trans (up_b (Decidable.or_iff_not_imp_left.mpr (fun h1 h2 => hm (Or.inl ⟨Decidable.not_not.mp h1, h2⟩)))))) ⟨of_decide_eq_true rfl, of_decide_eq_true rfl⟩
  · refine v_ic_lt_f (t := 14) c_146_2 rfl ⟨of_decide_eq_true rfl, (Int.not_lt.mp h_2), ha1.2⟩ (q_iload_n c_146_5 rfl (q_iload_n c_146_6 rfl ?_))
    by_cases h_8 : a1 > c 41 20 - 1
    · refine v_ic_gt_t (t := 14) c_146_7 rfl ⟨(rgm_l h_1.1 (of_decide_eq_true rfl)), h_8, ha1.2⟩ (q_iconst c_146_14 (v_zret c_146_15 rfl (of_decide_eq_true rfl) (bk_inl (q_iconst c_212_9 (q_iconst c_212_10 (v_cv c_212_11 km_8_203 rfl rfl (Nat.le_of_ble_eq_true rfl) ⟨⟨rfl, rfl⟩, Nat.le_of_ble_eq_true rfl, rfl⟩ (Nat.le_of_ble_eq_true rfl) (Nat.le_of_ble_eq_true rfl) (q_iload_n c_145_0 rfl ?_)))))))
      refine v_if_ne_f (t := 26) c_145_1 rfl (of_decide_eq_true rfl) (q_aload_n c_145_4 rfl (v_gi (z := 0) (v := 0) c_145_5 kf_8_3 rfl (Nat.le_of_ble_eq_true rfl) rfl rfl (up_e rfl) (v_if_ne_f (t := 26) c_145_8 rfl (of_decide_eq_true rfl) (q_aload_n c_145_11 rfl (q_iload_n c_145_12 rfl (v_pi (z := 0) c_145_13 kf_8_3 rfl (Nat.le_of_ble_eq_true rfl) rfl rfl rfl (of_decide_eq_true rfl) (q_aload_n c_145_16 rfl ?_)))))))
      refine v_gr (t := 42) c_145_17 kf_8_7 rfl (Nat.le_of_ble_eq_true rfl) rfl (q_iload_n c_145_20 rfl (q_dup2 c_145_21 ⟨rfl, rfl⟩ ?_))
      have h_9 := ir_42 hI 0
      refine v_ia (v := c 42 0) c_145_22 rfl (of_decide_eq_true rfl) (of_decide_eq_true rfl) (of_decide_eq_true rfl) ((up_c (nn rfl)).trans (up_c (nn rfl))) (q_iconst c_145_23 (v_iadd (v := c 42 0 + 1) c_145_24 rfl (v_nrm (fun y_10 hy_10 => (v_is c_145_25 rfl (of_decide_eq_true rfl) (of_decide_eq_true rfl) (of_decide_eq_true rfl) (q_aload_n c_145_26 rfl (v_gi (z := 0) (v := 1) c_145_27 kf_8_3 rfl (Nat.le_of_ble_eq_true rfl) rfl rfl ((up_c (nn rfl)).trans (up_e rfl)) (v_if_ne_t (t := 37) c_145_30 rfl (of_decide_eq_true rfl) ?_))))))))
      refine q_iconst c_145_37 (v_zret c_145_38 rfl (of_decide_eq_true rfl) (bk_inl (v_zret c_212_14 rfl (of_decide_eq_true rfl) (bk_inl (v_if_ne_f (t := 19) c_245_14 rfl (of_decide_eq_true rfl) (q_iconst c_245_17 (q_iret c_245_18 rfl ?_)))))))
      have hI_11 := iw_41_0 (v := 0) hI ⟨of_decide_eq_true rfl, of_decide_eq_true rfl⟩
      have hI_12 := iw_41_0 (v := 1) hI_11 ⟨of_decide_eq_true rfl, of_decide_eq_true rfl⟩
      have hI_13 := iw_42 (j := 0) (v := y_10) hI_12 ⟨hy_10.1, hy_10.2⟩
      exact K (up (up (up c 41 0 0) 41 0 1) 42 0 y_10) 0 hI_13 (fun a j hm => (up_b (Decidable.or_iff_not_imp_left.mpr (fun h1 h2 => hm (Or.inr (Or.inl (Decidable.not_not.mp h1)))))).trans ((up_b (Decidable.or_iff_not_imp_left.mpr (fun h1 h2 => hm (Or.inl ⟨Decidable.not_not.mp h1, h2⟩)))).trans (up_b (Decidable.or_iff_not_imp_left.mpr (fun h1 h2 => hm (Or.inl ⟨Decidable.not_not.mp h1, h2⟩)))))) ⟨of_decide_eq_true rfl, of_decide_eq_true rfl⟩
    · refine v_ic_gt_f (t := 14) c_146_7 rfl ⟨ha1.1, (Int.not_lt.mp h_8), (rgm_h h_1.2 (of_decide_eq_true rfl))⟩ (q_iconst c_146_10 (q_goto (t := 15) c_146_11 rfl (v_zret c_146_15 rfl (of_decide_eq_true rfl) (bk_inl (q_iconst c_212_9 (q_iconst c_212_10 (v_cv c_212_11 km_8_203 rfl rfl (Nat.le_of_ble_eq_true rfl) ⟨⟨rfl, rfl⟩, Nat.le_of_ble_eq_true rfl, rfl⟩ (Nat.le_of_ble_eq_true rfl) (Nat.le_of_ble_eq_true rfl) ?_)))))))
      refine q_iload_n c_145_0 rfl (v_if_ne_t (t := 26) c_145_1 rfl (of_decide_eq_true rfl) (q_aload_n c_145_26 rfl (v_gi (z := 0) (v := 0) c_145_27 kf_8_3 rfl (Nat.le_of_ble_eq_true rfl) rfl rfl (up_e rfl) (v_if_ne_f (t := 37) c_145_30 rfl (of_decide_eq_true rfl) (q_iconst c_145_33 (q_goto (t := 38) c_145_34 rfl (v_zret c_145_38 rfl (of_decide_eq_true rfl) ?_)))))))
      refine bk_inl (v_zret c_212_14 rfl (of_decide_eq_true rfl) (bk_inl (v_if_ne_t (t := 19) c_245_14 rfl (of_decide_eq_true rfl) (q_aload_n c_245_19 rfl ?_))))
      have hI_14 := iw_41_0 (v := 0) hI ⟨of_decide_eq_true rfl, of_decide_eq_true rfl⟩
      refine v_cv c_245_20 km_8_317 rfl rfl (Nat.le_of_ble_eq_true rfl) ⟨⟨rfl, rfl⟩, Nat.le_of_ble_eq_true rfl, rfl⟩ (Nat.le_of_ble_eq_true rfl) (Nat.le_of_ble_eq_true rfl) (s_186 hI_14 (fun c_15 hI_16 hF_17 => (bk_inl (v_sip c_245_23 (of_decide_eq_true rfl) (q_aload_n c_245_26 rfl (q_iload_n c_245_27 rfl ?_))))))
      have h_18 := ir_59_g hI_16 (j := 4 * a1) ((q_b0d0e4535 h_1 h_8))
      have h_19 := ir_59_g hI_16 (j := 4 * a1 + 1) ((q_e3354e5e9 h_1 h_8))
      have h_20 := ir_59_g hI_16 (j := 4 * a1 + 2) ((q_0a5347bcd h_1 h_8))
      have h_21 := ir_59_g hI_16 (j := 4 * a1 + 3) ((q_9939b3b7f h_1 h_8))
      refine v_cv c_245_28 km_8_343 rfl rfl (Nat.le_of_ble_eq_true rfl) ⟨⟨rfl, rfl⟩, Nat.le_of_ble_eq_true rfl, rfl⟩ (Nat.le_of_ble_eq_true rfl) (Nat.le_of_ble_eq_true rfl) (s_187 (v1 := c_15 59 (4 * a1)) (v2 := c_15 59 (4 * a1 + 1)) (v3 := c_15 59 (4 * a1 + 2)) (v4 := c_15 59 (4 * a1 + 3)) (r := c_15 59 (4 * a1 + 1) + c_15 59 (4 * a1 + 2) + c_15 59 (4 * a1 + 3) + c_15 59 (4 * a1)) (a1 := a1) hI_16 (show 0 ≤ a1 ∧ a1 ≤ 5 from ⟨(q_720657ba9 h_2), (q_3a2e67ab0 h_1 h_8)⟩) (rfl) (rfl) (rfl) (rfl) (by omega) (bk_inl (v_isub (v := 9999 - c_15 59 (4 * a1 + 1) - c_15 59 (4 * a1 + 2) - c_15 59 (4 * a1 + 3) - c_15 59 (4 * a1)) c_245_31 (by omega) (q_iret c_245_32 rfl ?_))))
      exact K c_15 (9999 - c_15 59 (4 * a1 + 1) - c_15 59 (4 * a1 + 2) - c_15 59 (4 * a1 + 3) - c_15 59 (4 * a1)) hI_16 (fun a j hm => (hF_17 a j (fun h => hm (Or.inr (Or.inr h)))).trans (up_b (Decidable.or_iff_not_imp_left.mpr (fun h1 h2 => hm (Or.inl ⟨Decidable.not_not.mp h1, h2⟩))))) ⟨(q_fb5727b6a h_18 h_19 h_20 h_21), (q_033ec8ac9 h_18 h_19 h_20 h_21)⟩

set_option maxRecDepth 100000 in
set_option maxHeartbeats 4000000 in
theorem s_246_l {sc : List Int32} {d P Q : Nat} {c : ME} {a1 : Int} {Z : AR → Prop} (hI : Iv 0 (-1) P Q c) (ha1 : (-2147483648) ≤ a1 ∧ a1 ≤ 2147483647) (K : ∀ (c2 : ME) (y : Int), Iv 0 (-1) P Q c2 → (∀ (a : Nat) (j : Int), ¬ ((a = 41 ∧ j = 0) ∨ a = 42 ∨ a = 59) → c2 a j = c a j) → (-2147483648) ≤ y ∧ y ≤ 2147483647 → Z (.inl (some (vi y)), Wd P Q P P c2, 0, 0)) : ∀ n : Nat, (∀ (c2 : ME) (v2 : Int) (v3 : Int), Iv 0 (-1) P Q c2 → (∀ (a : Nat) (j : Int), ¬ ((a = 41 ∧ j = 0) ∨ a = 42 ∨ a = 59) → c2 a j = c a j) → (-1) ≤ v2 ∧ v2 ≤ 5 → 0 ≤ v3 ∧ v3 ≤ 6 → 13 - 2 * v3 < (n : Int) → Wp sc (d + 8) 246 30 [(0, .ref 41), (1, vi a1), (2, vi v2), (3, vi v3)] [] (Wd P Q P P c2) 0 0 Z) := by
  intro n
  induction n with
  | zero => exact (by intro c2 v2 v3 hI2 hF hv2 hv3 hm9; have hP := iv_P hI; have hQ := iv_Q hI; exfalso; omega)
  | succ n ih =>
    have hP := iv_P hI
    have hQ := iv_Q hI
    intro c2 v2 v3 hI2 hF hv2 hv3 hm9
    refine q_iload_n c_246_30 rfl (q_aload_n c_246_31 rfl ?_)
    have h_1 := ir_41_20 hI
    have kn_2 : Hid (c2 41 20 = c 41 20) := hF 41 20 qn_110b29ed6
    refine v_gi (z := 20) (v := c 41 20) c_246_32 kf_8_157 rfl (Nat.le_of_ble_eq_true rfl) rfl rfl (hid kn_2) ?_
    by_cases h_3 : v3 ≥ c 41 20
    · refine v_ic_ge_t (t := 80) c_246_35 rfl ⟨(q_730ab5169 h_1), h_3, (ler hv3.2 rfl)⟩ (q_iload_n c_246_80 rfl ?_)
      by_cases h_4 : a1 = 0
      · refine v_if_eq_t (t := 89) c_246_81 rfl h_4 (q_iload_n c_246_89 rfl (q_goto (t := 102) c_246_90 rfl (q_iret c_246_102 rfl ?_)))
        exact K c2 v2 hI2 (fun a j hm => hF a j hm) ⟨(lel hv2.1 rfl), (ler hv2.2 rfl)⟩
      · refine v_if_eq_f (t := 89) c_246_81 rfl ⟨h_4, ⟨ha1.1, ha1.2⟩, of_decide_eq_true rfl, of_decide_eq_true rfl⟩ (q_iload_n c_246_84 rfl (q_iconst c_246_85 ?_))
        by_cases h_5 : v2 ≠ (-1)
        · refine v_ic_ne_t (t := 93) c_246_86 rfl ⟨h_5, ⟨(lel hv2.1 rfl), (ler hv2.2 rfl)⟩, of_decide_eq_true rfl, of_decide_eq_true rfl⟩ (q_aload_n c_246_93 rfl (v_gr (t := 59) c_246_94 kf_8_68 rfl (Nat.le_of_ble_eq_true rfl) rfl (v_bip c_246_97 (of_decide_eq_true rfl) (q_iload_n c_246_99 rfl (v_iadd (v := v2 + 24) c_246_100 (by first | (clear ha1 hv2 hv3 h_1 h_3 h_4 h_5; omega) | omega) ?_)))))
          have h_6 := ir_59 hI2 (v2 + 24)
          refine v_ia (v := c2 59 (v2 + 24)) c_246_101 rfl (of_decide_eq_true rfl) (of_decide_eq_true rfl) ⟨(rgp_l hv2.1 (of_decide_eq_true rfl)), (q_42435cb53 hv2)⟩ rfl (q_iret c_246_102 rfl ?_)
          exact K c2 (c2 59 (v2 + 24)) hI2 (fun a j hm => hF a j hm) h_6
        · refine v_ic_ne_f (t := 93) c_246_86 rfl (Decidable.not_not.mp h_5) (q_iload_n c_246_89 rfl (q_goto (t := 102) c_246_90 rfl (q_iret c_246_102 rfl ?_)))
          exact K c2 v2 hI2 (fun a j hm => hF a j hm) ⟨(lel hv2.1 rfl), (ler hv2.2 rfl)⟩
    · refine v_ic_ge_f (t := 80) c_246_35 rfl ⟨(lel hv3.1 rfl), (Int.not_le.mp h_3), (q_b289b7db2 h_1)⟩ (q_aload_n c_246_38 rfl (q_iload_n c_246_39 rfl ?_))
      have h_7 := ir_59_g hI2 (j := 4 * v3) ((q_aa51b186e h_1 h_3))
      have h_8 := ir_59_g hI2 (j := 4 * v3 + 1) ((q_57851f9de h_1 h_3))
      have h_9 := ir_59_g hI2 (j := 4 * v3 + 2) ((q_7296e74e6 h_1 h_3))
      have h_10 := ir_59_g hI2 (j := 4 * v3 + 3) ((q_b15525c4c h_1 h_3))
      refine v_cv c_246_40 km_8_343 rfl rfl (Nat.le_of_ble_eq_true rfl) ⟨⟨rfl, rfl⟩, Nat.le_of_ble_eq_true rfl, rfl⟩ (Nat.le_of_ble_eq_true rfl) (Nat.le_of_ble_eq_true rfl) (s_187 (v1 := c2 59 (4 * v3)) (v2 := c2 59 (4 * v3 + 1)) (v3 := c2 59 (4 * v3 + 2)) (v4 := c2 59 (4 * v3 + 3)) (r := c2 59 (4 * v3 + 1) + c2 59 (4 * v3 + 2) + c2 59 (4 * v3 + 3) + c2 59 (4 * v3)) (a1 := v3) hI2 (show 0 ≤ v3 ∧ v3 ≤ 5 from ⟨hv3.1, (q_d63a8538e h_1 h_3)⟩) (rfl) (rfl) (rfl) (rfl) (by omega) (bk_inl ?_))
      by_cases h_11 : c2 59 (4 * v3 + 1) + c2 59 (4 * v3 + 2) + c2 59 (4 * v3 + 3) + c2 59 (4 * v3) ≤ 0
      · refine v_if_le_t (t := 74) c_246_43 rfl ⟨(q_94559468f h_10 h_7 h_8 h_9), h_11, of_decide_eq_true rfl⟩ (v_iinc (v := v3 + 1) c_246_74 rfl (Nat.le_of_ble_eq_true rfl) rfl (q_goto (t := 30) c_246_77 rfl (Wp_ls [(0, .ref 41), (1, vi a1), (2, vi v2), (3, vi (v3 + 1))] (lsub_cons rfl (lsub_cons rfl (lsub_cons rfl (lsub_cons rfl lsub_nil)))) ?_)))
        exact ih c2 v2 (v3 + 1) hI2 (fun a j hm => hF a j hm) hv2 ⟨(rgp_l hv3.1 (of_decide_eq_true rfl)), (q_4a76cd9c7 h_1 h_3)⟩ (by omega)
      · refine v_if_le_f (t := 74) c_246_43 rfl ⟨of_decide_eq_true rfl, (Int.not_le.mp h_11), (q_f81653045 h_10 h_7 h_8 h_9)⟩ (q_iload_n c_246_46 rfl (q_iconst c_246_47 ?_))
        by_cases h_12 : v2 = (-1)
        · refine v_ic_eq_t (t := 72) c_246_48 rfl h_12 (q_iload_n c_246_72 rfl (q_istore_n c_246_73 (Nat.le_of_ble_eq_true rfl) (v_iinc (v := v3 + 1) c_246_74 rfl (Nat.le_of_ble_eq_true rfl) rfl (q_goto (t := 30) c_246_77 rfl (Wp_ls [(0, .ref 41), (1, vi a1), (2, vi v3), (3, vi (v3 + 1))] (lsub_cons rfl (lsub_cons rfl (lsub_cons rfl (lsub_cons rfl lsub_nil)))) ?_)))))
          exact ih c2 v3 (v3 + 1) hI2 (fun a j hm => hF a j hm) ⟨(lel hv3.1 rfl), (q_d63a8538e h_1 h_3)⟩ ⟨(rgp_l hv3.1 (of_decide_eq_true rfl)), (q_4a76cd9c7 h_1 h_3)⟩ (by omega)
        · refine v_ic_eq_f (t := 72) c_246_48 rfl ⟨h_12, ⟨(lel hv2.1 rfl), (ler hv2.2 rfl)⟩, of_decide_eq_true rfl, of_decide_eq_true rfl⟩ (q_aload_n c_246_51 rfl (v_gr (t := 59) c_246_52 kf_8_68 rfl (Nat.le_of_ble_eq_true rfl) rfl (v_bip c_246_55 (of_decide_eq_true rfl) (q_iload_n c_246_57 rfl (v_iadd (v := v3 + 24) c_246_58 (by first | (clear ha1 hv2 hv3 h_1 h_3 h_7 h_8 h_9 h_10 h_11 h_12; omega) | omega) ?_)))))
          have h_13 := ir_59 hI2 (v3 + 24)
          refine v_ia (v := c2 59 (v3 + 24)) c_246_59 rfl (of_decide_eq_true rfl) (of_decide_eq_true rfl) ⟨(rgp_l hv3.1 (of_decide_eq_true rfl)), (q_51955fde5 hv3)⟩ rfl (q_aload_n c_246_60 rfl (v_gr (t := 59) c_246_61 kf_8_68 rfl (Nat.le_of_ble_eq_true rfl) rfl (v_bip c_246_64 (of_decide_eq_true rfl) (q_iload_n c_246_66 rfl (v_iadd (v := v2 + 24) c_246_67 (by first | (clear ha1 hv2 hv3 h_1 h_3 h_7 h_8 h_9 h_10 h_11 h_13 h_12; omega) | omega) ?_)))))
          have h_14 := ir_59 hI2 (v2 + 24)
          refine v_ia (v := c2 59 (v2 + 24)) c_246_68 rfl (of_decide_eq_true rfl) (of_decide_eq_true rfl) ⟨(rgp_l hv2.1 (of_decide_eq_true rfl)), (q_42435cb53 hv2)⟩ rfl ?_
          by_cases h_15 : c2 59 (v3 + 24) ≤ c2 59 (v2 + 24)
          · refine v_ic_le_t (t := 74) c_246_69 rfl ⟨h_13.1, h_15, h_14.2⟩ (v_iinc (v := v3 + 1) c_246_74 rfl (Nat.le_of_ble_eq_true rfl) rfl (q_goto (t := 30) c_246_77 rfl (Wp_ls [(0, .ref 41), (1, vi a1), (2, vi v2), (3, vi (v3 + 1))] (lsub_cons rfl (lsub_cons rfl (lsub_cons rfl (lsub_cons rfl lsub_nil)))) ?_)))
            exact ih c2 v2 (v3 + 1) hI2 (fun a j hm => hF a j hm) hv2 ⟨(rgp_l hv3.1 (of_decide_eq_true rfl)), (q_4a76cd9c7 h_1 h_3)⟩ (by omega)
          · refine v_ic_le_f (t := 74) c_246_69 rfl ⟨h_14.1, (Int.not_le.mp h_15), h_13.2⟩ (q_iload_n c_246_72 rfl (q_istore_n c_246_73 (Nat.le_of_ble_eq_true rfl) (v_iinc (v := v3 + 1) c_246_74 rfl (Nat.le_of_ble_eq_true rfl) rfl (q_goto (t := 30) c_246_77 rfl (Wp_ls [(0, .ref 41), (1, vi a1), (2, vi v3), (3, vi (v3 + 1))] (lsub_cons rfl (lsub_cons rfl (lsub_cons rfl (lsub_cons rfl lsub_nil)))) ?_)))))
            exact ih c2 v3 (v3 + 1) hI2 (fun a j hm => hF a j hm) ⟨(lel hv3.1 rfl), (q_d63a8538e h_1 h_3)⟩ ⟨(rgp_l hv3.1 (of_decide_eq_true rfl)), (q_4a76cd9c7 h_1 h_3)⟩ (by omega)
set_option maxRecDepth 100000 in
set_option maxHeartbeats 4000000 in
theorem s_246 {sc : List Int32} {d P Q : Nat} {c : ME} {a1 : Int} {Z : AR → Prop} (hI : Iv 0 (-1) P Q c) (ha1 : (-2147483648) ≤ a1 ∧ a1 ≤ 2147483647) (K : ∀ (c2 : ME) (y : Int), Iv 0 (-1) P Q c2 → (∀ (a : Nat) (j : Int), ¬ ((a = 41 ∧ j = 0) ∨ a = 42 ∨ a = 59) → c2 a j = c a j) → (-2147483648) ≤ y ∧ y ≤ 2147483647 → Z (.inl (some (vi y)), Wd P Q P P c2, 0, 0)) : Wp sc (d + 8) 246 0 [(0, .ref 41), (1, vi a1)] [] (Wd P Q P P c) 0 0 Z := by
  have hP := iv_P hI
  have hQ := iv_Q hI
  refine q_aload_n c_246_0 rfl (q_iconst c_246_1 (v_pi (z := 0) c_246_2 kf_8_3 rfl (Nat.le_of_ble_eq_true rfl) rfl rfl rfl (of_decide_eq_true rfl) (q_aload_n c_246_5 rfl (q_iload_n c_246_6 rfl (q_iconst c_246_7 (q_iconst c_246_8 (q_call c_246_9 rfl rfl rfl ?_)))))))
  refine q_iload_n c_146_0 rfl (q_iload_n c_146_1 rfl ?_)
  by_cases h_16 : a1 < 0
  · refine v_ic_lt_t (t := 14) c_146_2 rfl ⟨ha1.1, h_16, of_decide_eq_true rfl⟩ (q_iconst c_146_14 (v_zret c_146_15 rfl (of_decide_eq_true rfl) (bk_inl (q_iconst c_246_12 (q_iconst c_246_13 (v_cv c_246_14 km_8_203 rfl rfl (Nat.le_of_ble_eq_true rfl) ⟨⟨rfl, rfl⟩, Nat.le_of_ble_eq_true rfl, rfl⟩ (Nat.le_of_ble_eq_true rfl) (Nat.le_of_ble_eq_true rfl) (q_iload_n c_145_0 rfl ?_)))))))
    refine v_if_ne_f (t := 26) c_145_1 rfl (of_decide_eq_true rfl) (q_aload_n c_145_4 rfl (v_gi (z := 0) (v := 0) c_145_5 kf_8_3 rfl (Nat.le_of_ble_eq_true rfl) rfl rfl (up_e rfl) (v_if_ne_f (t := 26) c_145_8 rfl (of_decide_eq_true rfl) (q_aload_n c_145_11 rfl (q_iload_n c_145_12 rfl (v_pi (z := 0) c_145_13 kf_8_3 rfl (Nat.le_of_ble_eq_true rfl) rfl rfl rfl (of_decide_eq_true rfl) (q_aload_n c_145_16 rfl ?_)))))))
    refine v_gr (t := 42) c_145_17 kf_8_7 rfl (Nat.le_of_ble_eq_true rfl) rfl (q_iload_n c_145_20 rfl (q_dup2 c_145_21 ⟨rfl, rfl⟩ ?_))
    have h_17 := ir_42 hI 1
    refine v_ia (v := c 42 1) c_145_22 rfl (of_decide_eq_true rfl) (of_decide_eq_true rfl) (of_decide_eq_true rfl) ((up_c (nn rfl)).trans (up_c (nn rfl))) (q_iconst c_145_23 (v_iadd (v := c 42 1 + 1) c_145_24 rfl (v_nrm (fun y_18 hy_18 => (v_is c_145_25 rfl (of_decide_eq_true rfl) (of_decide_eq_true rfl) (of_decide_eq_true rfl) (q_aload_n c_145_26 rfl (v_gi (z := 0) (v := 1) c_145_27 kf_8_3 rfl (Nat.le_of_ble_eq_true rfl) rfl rfl ((up_c (nn rfl)).trans (up_e rfl)) (v_if_ne_t (t := 37) c_145_30 rfl (of_decide_eq_true rfl) ?_))))))))
    refine q_iconst c_145_37 (v_zret c_145_38 rfl (of_decide_eq_true rfl) (bk_inl (v_if_ne_f (t := 22) c_246_17 rfl (of_decide_eq_true rfl) (q_iconst c_246_20 (q_iret c_246_21 rfl ?_)))))
    have hI_19 := iw_41_0 (v := 0) hI ⟨of_decide_eq_true rfl, of_decide_eq_true rfl⟩
    have hI_20 := iw_41_0 (v := 1) hI_19 ⟨of_decide_eq_true rfl, of_decide_eq_true rfl⟩
    have hI_21 := iw_42 (j := 1) (v := y_18) hI_20 ⟨hy_18.1, hy_18.2⟩
    exact K (up (up (up c 41 0 0) 41 0 1) 42 1 y_18) 0 hI_21 (fun a j hm => (up_b (Decidable.or_iff_not_imp_left.mpr (fun h1 h2 => hm (Or.inr (Or.inl (Decidable.not_not.mp h1)))))).trans ((up_b (Decidable.or_iff_not_imp_left.mpr (fun h1 h2 => hm (Or.inl ⟨Decidable.not_not.mp h1, h2⟩)))).trans (up_b (Decidable.or_iff_not_imp_left.mpr (fun h1 h2 => hm (Or.inl ⟨Decidable.not_not.mp h1, h2⟩)))))) ⟨of_decide_eq_true rfl, of_decide_eq_true rfl⟩
  · refine v_ic_lt_f (t := 14) c_146_2 rfl ⟨of_decide_eq_true rfl, (Int.not_lt.mp h_16), ha1.2⟩ (q_iload_n c_146_5 rfl (q_iload_n c_146_6 rfl ?_))
    by_cases h_22 : a1 > 1
    · refine v_ic_gt_t (t := 14) c_146_7 rfl ⟨of_decide_eq_true rfl, h_22, ha1.2⟩ (q_iconst c_146_14 (v_zret c_146_15 rfl (of_decide_eq_true rfl) (bk_inl (q_iconst c_246_12 (q_iconst c_246_13 (v_cv c_246_14 km_8_203 rfl rfl (Nat.le_of_ble_eq_true rfl) ⟨⟨rfl, rfl⟩, Nat.le_of_ble_eq_true rfl, rfl⟩ (Nat.le_of_ble_eq_true rfl) (Nat.le_of_ble_eq_true rfl) (q_iload_n c_145_0 rfl ?_)))))))
      refine v_if_ne_f (t := 26) c_145_1 rfl (of_decide_eq_true rfl) (q_aload_n c_145_4 rfl (v_gi (z := 0) (v := 0) c_145_5 kf_8_3 rfl (Nat.le_of_ble_eq_true rfl) rfl rfl (up_e rfl) (v_if_ne_f (t := 26) c_145_8 rfl (of_decide_eq_true rfl) (q_aload_n c_145_11 rfl (q_iload_n c_145_12 rfl (v_pi (z := 0) c_145_13 kf_8_3 rfl (Nat.le_of_ble_eq_true rfl) rfl rfl rfl (of_decide_eq_true rfl) (q_aload_n c_145_16 rfl ?_)))))))
      refine v_gr (t := 42) c_145_17 kf_8_7 rfl (Nat.le_of_ble_eq_true rfl) rfl (q_iload_n c_145_20 rfl (q_dup2 c_145_21 ⟨rfl, rfl⟩ ?_))
      have h_23 := ir_42 hI 1
      refine v_ia (v := c 42 1) c_145_22 rfl (of_decide_eq_true rfl) (of_decide_eq_true rfl) (of_decide_eq_true rfl) ((up_c (nn rfl)).trans (up_c (nn rfl))) (q_iconst c_145_23 (v_iadd (v := c 42 1 + 1) c_145_24 rfl (v_nrm (fun y_24 hy_24 => (v_is c_145_25 rfl (of_decide_eq_true rfl) (of_decide_eq_true rfl) (of_decide_eq_true rfl) (q_aload_n c_145_26 rfl (v_gi (z := 0) (v := 1) c_145_27 kf_8_3 rfl (Nat.le_of_ble_eq_true rfl) rfl rfl ((up_c (nn rfl)).trans (up_e rfl)) (v_if_ne_t (t := 37) c_145_30 rfl (of_decide_eq_true rfl) ?_))))))))
      refine q_iconst c_145_37 (v_zret c_145_38 rfl (of_decide_eq_true rfl) (bk_inl (v_if_ne_f (t := 22) c_246_17 rfl (of_decide_eq_true rfl) (q_iconst c_246_20 (q_iret c_246_21 rfl ?_)))))
      have hI_25 := iw_41_0 (v := 0) hI ⟨of_decide_eq_true rfl, of_decide_eq_true rfl⟩
      have hI_26 := iw_41_0 (v := 1) hI_25 ⟨of_decide_eq_true rfl, of_decide_eq_true rfl⟩
      have hI_27 := iw_42 (j := 1) (v := y_24) hI_26 ⟨hy_24.1, hy_24.2⟩
      exact K (up (up (up c 41 0 0) 41 0 1) 42 1 y_24) 0 hI_27 (fun a j hm => (up_b (Decidable.or_iff_not_imp_left.mpr (fun h1 h2 => hm (Or.inr (Or.inl (Decidable.not_not.mp h1)))))).trans ((up_b (Decidable.or_iff_not_imp_left.mpr (fun h1 h2 => hm (Or.inl ⟨Decidable.not_not.mp h1, h2⟩)))).trans (up_b (Decidable.or_iff_not_imp_left.mpr (fun h1 h2 => hm (Or.inl ⟨Decidable.not_not.mp h1, h2⟩)))))) ⟨of_decide_eq_true rfl, of_decide_eq_true rfl⟩
    · refine v_ic_gt_f (t := 14) c_146_7 rfl ⟨ha1.1, (Int.not_lt.mp h_22), of_decide_eq_true rfl⟩ (q_iconst c_146_10 (q_goto (t := 15) c_146_11 rfl (v_zret c_146_15 rfl (of_decide_eq_true rfl) (bk_inl (q_iconst c_246_12 (q_iconst c_246_13 (v_cv c_246_14 km_8_203 rfl rfl (Nat.le_of_ble_eq_true rfl) ⟨⟨rfl, rfl⟩, Nat.le_of_ble_eq_true rfl, rfl⟩ (Nat.le_of_ble_eq_true rfl) (Nat.le_of_ble_eq_true rfl) ?_)))))))
      refine q_iload_n c_145_0 rfl (v_if_ne_t (t := 26) c_145_1 rfl (of_decide_eq_true rfl) (q_aload_n c_145_26 rfl (v_gi (z := 0) (v := 0) c_145_27 kf_8_3 rfl (Nat.le_of_ble_eq_true rfl) rfl rfl (up_e rfl) (v_if_ne_f (t := 37) c_145_30 rfl (of_decide_eq_true rfl) (q_iconst c_145_33 (q_goto (t := 38) c_145_34 rfl (v_zret c_145_38 rfl (of_decide_eq_true rfl) ?_)))))))
      refine bk_inl (v_if_ne_t (t := 22) c_246_17 rfl (of_decide_eq_true rfl) (q_aload_n c_246_22 rfl ?_))
      have hI_28 := iw_41_0 (v := 0) hI ⟨of_decide_eq_true rfl, of_decide_eq_true rfl⟩
      refine v_cv c_246_23 km_8_317 rfl rfl (Nat.le_of_ble_eq_true rfl) ⟨⟨rfl, rfl⟩, Nat.le_of_ble_eq_true rfl, rfl⟩ (Nat.le_of_ble_eq_true rfl) (Nat.le_of_ble_eq_true rfl) (s_186 hI_28 (fun c_29 hI_30 hF_31 => (bk_inl (q_iconst c_246_26 (q_istore_n c_246_27 (Nat.le_of_ble_eq_true rfl) (q_iconst c_246_28 (q_istore_n c_246_29 (Nat.le_of_ble_eq_true rfl) (Wp_ls [(0, .ref 41), (1, vi a1), (2, vi (-1)), (3, vi 0)] (lsub_cons rfl (lsub_cons rfl (lsub_cons rfl (lsub_cons rfl lsub_nil)))) ?_))))))))
      exact (s_246_l (sc := sc) (d := d) hI ha1 K 16) c_29 (-1) 0 hI_30 (fun a j hm => (hF_31 a j (fun h => hm (Or.inr (Or.inr h)))).trans (up_b (Decidable.or_iff_not_imp_left.mpr (fun h1 h2 => hm (Or.inl ⟨Decidable.not_not.mp h1, h2⟩))))) ⟨of_decide_eq_true rfl, of_decide_eq_true rfl⟩ ⟨of_decide_eq_true rfl, of_decide_eq_true rfl⟩ (by omega)

set_option maxRecDepth 100000 in
set_option maxHeartbeats 4000000 in
theorem s_247_l {sc : List Int32} {d P Q : Nat} {c : ME} {a1 : Int} {Z : AR → Prop} (hI : Iv 0 (-1) P Q c) (ha1 : (-2147483648) ≤ a1 ∧ a1 ≤ 2147483647) (K : ∀ (c2 : ME) (y : Int), Iv 0 (-1) P Q c2 → (∀ (a : Nat) (j : Int), ¬ ((a = 41 ∧ j = 0) ∨ a = 42 ∨ a = 59) → c2 a j = c a j) → (-2147483648) ≤ y ∧ y ≤ 2147483647 → Z (.inl (some (vi y)), Wd P Q P P c2, 0, 0)) : ∀ n : Nat, (∀ (c2 : ME) (v2 : Int) (v3 : Int), Iv 0 (-1) P Q c2 → (∀ (a : Nat) (j : Int), ¬ ((a = 41 ∧ j = 0) ∨ a = 42 ∨ a = 59) → c2 a j = c a j) → (-2147483648) ≤ v2 ∧ v2 ≤ 2147483647 → 0 ≤ v3 ∧ v3 ≤ 6 → ((a1 ≥ 0 ∧ a1 ≤ 3)) → 13 - 2 * v3 < (n : Int) → Wp sc (d + 9) 247 27 [(0, .ref 41), (1, vi a1), (2, vi v2), (3, vi v3)] [] (Wd P Q P P c2) 0 0 Z) := by
  intro n
  induction n with
  | zero => exact (by intro c2 v2 v3 hI2 hF hv2 hv3 hx0 hm9; have hP := iv_P hI; have hQ := iv_Q hI; exfalso; omega)
  | succ n ih =>
    have hP := iv_P hI
    have hQ := iv_Q hI
    intro c2 v2 v3 hI2 hF hv2 hv3 hx0 hm9
    refine q_iload_n c_247_27 rfl (q_aload_n c_247_28 rfl ?_)
    have h_1 := ir_41_20 hI
    have kn_2 : Hid (c2 41 20 = c 41 20) := hF 41 20 qn_110b29ed6
    refine v_gi (z := 20) (v := c 41 20) c_247_29 kf_8_157 rfl (Nat.le_of_ble_eq_true rfl) rfl rfl (hid kn_2) ?_
    by_cases h_3 : v3 ≥ c 41 20
    · refine v_ic_ge_t (t := 73) c_247_32 rfl ⟨(q_730ab5169 h_1), h_3, (ler hv3.2 rfl)⟩ (q_iload_n c_247_73 rfl (q_iret c_247_74 rfl ?_))
      exact K c2 v2 hI2 (fun a j hm => hF a j hm) hv2
    · refine v_ic_ge_f (t := 73) c_247_32 rfl ⟨(lel hv3.1 rfl), (Int.not_le.mp h_3), (q_b289b7db2 h_1)⟩ (q_iload_n c_247_35 rfl (q_aload_n c_247_36 rfl (q_iload_n c_247_37 rfl ?_)))
      have h_4 := ir_59_g hI2 (j := 4 * v3) ((q_aa51b186e h_1 h_3))
      have h_5 := ir_59_g hI2 (j := 4 * v3 + 1) ((q_57851f9de h_1 h_3))
      have h_6 := ir_59_g hI2 (j := 4 * v3 + 2) ((q_7296e74e6 h_1 h_3))
      have h_7 := ir_59_g hI2 (j := 4 * v3 + 3) ((q_b15525c4c h_1 h_3))
      refine v_cv c_247_38 km_8_343 rfl rfl (Nat.le_of_ble_eq_true rfl) ⟨⟨rfl, rfl⟩, Nat.le_of_ble_eq_true rfl, rfl⟩ (Nat.le_of_ble_eq_true rfl) (Nat.le_of_ble_eq_true rfl) (s_187 (v1 := c2 59 (4 * v3)) (v2 := c2 59 (4 * v3 + 1)) (v3 := c2 59 (4 * v3 + 2)) (v4 := c2 59 (4 * v3 + 3)) (r := c2 59 (4 * v3 + 1) + c2 59 (4 * v3 + 2) + c2 59 (4 * v3 + 3) + c2 59 (4 * v3)) (a1 := v3) hI2 (show 0 ≤ v3 ∧ v3 ≤ 5 from ⟨hv3.1, (q_d63a8538e h_1 h_3)⟩) (rfl) (rfl) (rfl) (rfl) (by omega) (bk_inl ?_))
      by_cases h_8 : c2 59 (4 * v3 + 1) + c2 59 (4 * v3 + 2) + c2 59 (4 * v3 + 3) + c2 59 (4 * v3) ≤ 0
      · refine v_if_le_t (t := 64) c_247_41 rfl ⟨(q_e052ef40e h_4 h_5 h_6 h_7), h_8, of_decide_eq_true rfl⟩ (q_iconst c_247_64 (v_iorx c_247_65 (fun y_9 hy_9 => (q_istore_n c_247_66 (Nat.le_of_ble_eq_true rfl) (v_iinc (v := v3 + 1) c_247_67 rfl (Nat.le_of_ble_eq_true rfl) rfl (q_goto (t := 27) c_247_70 rfl (Wp_ls [(0, .ref 41), (1, vi a1), (2, vi y_9), (3, vi (v3 + 1))] (lsub_cons rfl (lsub_cons rfl (lsub_cons rfl (lsub_cons rfl lsub_nil)))) ?_)))))))
        exact ih c2 y_9 (v3 + 1) hI2 (fun a j hm => hF a j hm) hy_9 ⟨(rgp_l hv3.1 (of_decide_eq_true rfl)), (q_4a76cd9c7 h_1 h_3)⟩ ⟨by omega, by omega⟩ (by omega)
      · refine v_if_le_f (t := 64) c_247_41 rfl ⟨of_decide_eq_true rfl, (Int.not_le.mp h_8), (q_db9ef1f4a h_4 h_5 h_6 h_7)⟩ (q_aload_n c_247_44 rfl (q_iload_n c_247_45 rfl (q_iload_n c_247_46 rfl ?_)))
        have h_10 := ir_49 hI a1
        have kn_11 : Hid (c2 49 a1 = c 49 a1) := hF 49 a1 qn_556c7ab22
        have h_12 := ir_59 hI2 (a1 + 30)
        have h_13 := fal_rng (m := c 49 a1) (t := c2 59 (a1 + 30)) (g := 0) (x := c2 59 (4 * v3)) ((q_c6ed8760d h_4))
        have h_14 := fal_rng (m := c 49 a1) (t := c2 59 (a1 + 30)) (g := 1) (x := c2 59 (4 * v3 + 1)) ((q_c6ed8760d h_5))
        have h_15 := fal_rng (m := c 49 a1) (t := c2 59 (a1 + 30)) (g := 2) (x := c2 59 (4 * v3 + 2)) ((q_c6ed8760d h_6))
        have h_16 := fal_rng (m := c 49 a1) (t := c2 59 (a1 + 30)) (g := 3) (x := c2 59 (4 * v3 + 3)) ((q_c6ed8760d h_7))
        refine v_cv c_247_47 km_8_366 rfl rfl (Nat.le_of_ble_eq_true rfl) ⟨⟨rfl, rfl⟩, Nat.le_of_ble_eq_true rfl, rfl⟩ (Nat.le_of_ble_eq_true rfl) (Nat.le_of_ble_eq_true rfl) (s_190 (v1 := c 49 a1) (v2 := c2 59 (a1 + 30)) (v3 := c2 59 (4 * v3)) (v4 := c2 59 (4 * v3 + 1)) (v5 := c2 59 (4 * v3 + 2)) (v6 := c2 59 (4 * v3 + 3)) (r := (fal (c 49 a1) (c2 59 (a1 + 30)) 0 (c2 59 (4 * v3))) + (fal (c 49 a1) (c2 59 (a1 + 30)) 1 (c2 59 (4 * v3 + 1))) + (fal (c 49 a1) (c2 59 (a1 + 30)) 2 (c2 59 (4 * v3 + 2))) + (fal (c 49 a1) (c2 59 (a1 + 30)) 3 (c2 59 (4 * v3 + 3)))) (a1 := a1) (a2 := v3) hI2 (show 0 ≤ a1 ∧ a1 ≤ 3 from ⟨by omega, by omega⟩) (show 0 ≤ v3 ∧ v3 ≤ 5 from ⟨hv3.1, (q_d63a8538e h_1 h_3)⟩) ((hid kn_11)) (rfl) (rfl) (rfl) (rfl) (rfl) rfl (bk_inl (q_aload_n c_247_50 rfl (q_iload_n c_247_51 rfl (v_cv c_247_52 km_8_343 rfl rfl (Nat.le_of_ble_eq_true rfl) ⟨⟨rfl, rfl⟩, Nat.le_of_ble_eq_true rfl, rfl⟩ (Nat.le_of_ble_eq_true rfl) (Nat.le_of_ble_eq_true rfl) (s_187 (v1 := c2 59 (4 * v3)) (v2 := c2 59 (4 * v3 + 1)) (v3 := c2 59 (4 * v3 + 2)) (v4 := c2 59 (4 * v3 + 3)) (r := c2 59 (4 * v3 + 1) + c2 59 (4 * v3 + 2) + c2 59 (4 * v3 + 3) + c2 59 (4 * v3)) (a1 := v3) hI2 (show 0 ≤ v3 ∧ v3 ≤ 5 from ⟨hv3.1, (q_d63a8538e h_1 h_3)⟩) (rfl) (rfl) (rfl) (rfl) (by omega) (bk_inl ?_)))))))
        by_cases h_17 : (fal (c 49 a1) (c2 59 (a1 + 30)) 0 (c2 59 (4 * v3))) + (fal (c 49 a1) (c2 59 (a1 + 30)) 1 (c2 59 (4 * v3 + 1))) + (fal (c 49 a1) (c2 59 (a1 + 30)) 2 (c2 59 (4 * v3 + 2))) + (fal (c 49 a1) (c2 59 (a1 + 30)) 3 (c2 59 (4 * v3 + 3))) ≠ c2 59 (4 * v3 + 1) + c2 59 (4 * v3 + 2) + c2 59 (4 * v3 + 3) + c2 59 (4 * v3)
        · refine v_ic_ne_t (t := 64) c_247_55 rfl ⟨h_17, ⟨(q_c0b7ed1c9 h_13 h_14 h_15 h_16), (q_7895971f7 h_13 h_14 h_15 h_16 h_4 h_5 h_6 h_7)⟩, (q_0023c4fc8 h_8), (q_db9ef1f4a h_4 h_5 h_6 h_7)⟩ (q_iconst c_247_64 (v_iorx c_247_65 (fun y_18 hy_18 => (q_istore_n c_247_66 (Nat.le_of_ble_eq_true rfl) (v_iinc (v := v3 + 1) c_247_67 rfl (Nat.le_of_ble_eq_true rfl) rfl (q_goto (t := 27) c_247_70 rfl (Wp_ls [(0, .ref 41), (1, vi a1), (2, vi y_18), (3, vi (v3 + 1))] (lsub_cons rfl (lsub_cons rfl (lsub_cons rfl (lsub_cons rfl lsub_nil)))) ?_)))))))
          exact ih c2 y_18 (v3 + 1) hI2 (fun a j hm => hF a j hm) hy_18 ⟨(rgp_l hv3.1 (of_decide_eq_true rfl)), (q_4a76cd9c7 h_1 h_3)⟩ ⟨by first | (clear ha1 hv2 hv3 h_1 h_3 h_4 h_5 h_6 h_7 h_8 h_10 h_12 h_13 h_14 h_15 h_16 h_17; omega) | omega, by first | (clear ha1 hv2 hv3 h_1 h_3 h_4 h_5 h_6 h_7 h_8 h_10 h_12 h_13 h_14 h_15 h_16 h_17; omega) | omega⟩ (by omega)
        · refine v_ic_ne_f (t := 64) c_247_55 rfl (Decidable.not_not.mp h_17) (q_iconst c_247_58 (q_iload_n c_247_59 rfl (v_shl1 c_247_60 ⟨by omega, by omega⟩ (fun y_19 hy_19 => (q_goto (t := 65) c_247_61 rfl (v_iorx c_247_65 (fun y_20 hy_20 => (q_istore_n c_247_66 (Nat.le_of_ble_eq_true rfl) (v_iinc (v := v3 + 1) c_247_67 rfl (Nat.le_of_ble_eq_true rfl) rfl ?_)))))))))
          refine q_goto (t := 27) c_247_70 rfl (Wp_ls [(0, .ref 41), (1, vi a1), (2, vi y_20), (3, vi (v3 + 1))] (lsub_cons rfl (lsub_cons rfl (lsub_cons rfl (lsub_cons rfl lsub_nil)))) ?_)
          exact ih c2 y_20 (v3 + 1) hI2 (fun a j hm => hF a j hm) hy_20 ⟨(rgp_l hv3.1 (of_decide_eq_true rfl)), (q_4a76cd9c7 h_1 h_3)⟩ ⟨by first | (clear ha1 hv2 hv3 h_1 h_3 h_4 h_5 h_6 h_7 h_8 h_10 h_12 h_13 h_14 h_15 h_16 h_17; omega) | omega, by first | (clear ha1 hv2 hv3 h_1 h_3 h_4 h_5 h_6 h_7 h_8 h_10 h_12 h_13 h_14 h_15 h_16 h_17; omega) | omega⟩ (by omega)
set_option maxRecDepth 100000 in
set_option maxHeartbeats 4000000 in
theorem s_247 {sc : List Int32} {d P Q : Nat} {c : ME} {a1 : Int} {Z : AR → Prop} (hI : Iv 0 (-1) P Q c) (ha1 : (-2147483648) ≤ a1 ∧ a1 ≤ 2147483647) (K : ∀ (c2 : ME) (y : Int), Iv 0 (-1) P Q c2 → (∀ (a : Nat) (j : Int), ¬ ((a = 41 ∧ j = 0) ∨ a = 42 ∨ a = 59) → c2 a j = c a j) → (-2147483648) ≤ y ∧ y ≤ 2147483647 → Z (.inl (some (vi y)), Wd P Q P P c2, 0, 0)) : Wp sc (d + 9) 247 0 [(0, .ref 41), (1, vi a1)] [] (Wd P Q P P c) 0 0 Z := by
  have hP := iv_P hI
  have hQ := iv_Q hI
  refine q_aload_n c_247_0 rfl (q_iconst c_247_1 (v_pi (z := 0) c_247_2 kf_8_3 rfl (Nat.le_of_ble_eq_true rfl) rfl rfl rfl (of_decide_eq_true rfl) (q_aload_n c_247_5 rfl (q_iload_n c_247_6 rfl (q_aload_n c_247_7 rfl ?_)))))
  have h_21 := ir_41_22 hI
  refine v_gi (z := 22) (v := c 41 22) c_247_8 kf_8_163 rfl (Nat.le_of_ble_eq_true rfl) rfl rfl (up_n (ni rfl)) (v_cv c_247_11 km_8_396 rfl rfl (Nat.le_of_ble_eq_true rfl) ⟨⟨rfl, rfl⟩, Nat.le_of_ble_eq_true rfl, rfl⟩ (Nat.le_of_ble_eq_true rfl) (Nat.le_of_ble_eq_true rfl) (q_aload_n c_212_0 rfl (q_iload_n c_212_1 rfl (q_iconst c_212_2 (q_iload_n c_212_3 rfl (q_iconst c_212_4 (v_isub (v := c 41 22 - 1) c_212_5 rfl ?_)))))))
  refine q_call c_212_6 rfl rfl rfl (q_iload_n c_146_0 rfl (q_iload_n c_146_1 rfl ?_))
  by_cases h_22 : a1 < 0
  · refine v_ic_lt_t (t := 14) c_146_2 rfl ⟨ha1.1, h_22, of_decide_eq_true rfl⟩ (q_iconst c_146_14 (v_zret c_146_15 rfl (of_decide_eq_true rfl) (bk_inl (q_iconst c_212_9 (q_iconst c_212_10 (v_cv c_212_11 km_8_203 rfl rfl (Nat.le_of_ble_eq_true rfl) ⟨⟨rfl, rfl⟩, Nat.le_of_ble_eq_true rfl, rfl⟩ (Nat.le_of_ble_eq_true rfl) (Nat.le_of_ble_eq_true rfl) (q_iload_n c_145_0 rfl ?_)))))))
    refine v_if_ne_f (t := 26) c_145_1 rfl (of_decide_eq_true rfl) (q_aload_n c_145_4 rfl (v_gi (z := 0) (v := 0) c_145_5 kf_8_3 rfl (Nat.le_of_ble_eq_true rfl) rfl rfl (up_e rfl) (v_if_ne_f (t := 26) c_145_8 rfl (of_decide_eq_true rfl) (q_aload_n c_145_11 rfl (q_iload_n c_145_12 rfl (v_pi (z := 0) c_145_13 kf_8_3 rfl (Nat.le_of_ble_eq_true rfl) rfl rfl rfl (of_decide_eq_true rfl) (q_aload_n c_145_16 rfl ?_)))))))
    refine v_gr (t := 42) c_145_17 kf_8_7 rfl (Nat.le_of_ble_eq_true rfl) rfl (q_iload_n c_145_20 rfl (q_dup2 c_145_21 ⟨rfl, rfl⟩ ?_))
    have h_23 := ir_42 hI 0
    refine v_ia (v := c 42 0) c_145_22 rfl (of_decide_eq_true rfl) (of_decide_eq_true rfl) (of_decide_eq_true rfl) ((up_c (nn rfl)).trans (up_c (nn rfl))) (q_iconst c_145_23 (v_iadd (v := c 42 0 + 1) c_145_24 rfl (v_nrm (fun y_24 hy_24 => (v_is c_145_25 rfl (of_decide_eq_true rfl) (of_decide_eq_true rfl) (of_decide_eq_true rfl) (q_aload_n c_145_26 rfl (v_gi (z := 0) (v := 1) c_145_27 kf_8_3 rfl (Nat.le_of_ble_eq_true rfl) rfl rfl ((up_c (nn rfl)).trans (up_e rfl)) (v_if_ne_t (t := 37) c_145_30 rfl (of_decide_eq_true rfl) ?_))))))))
    refine q_iconst c_145_37 (v_zret c_145_38 rfl (of_decide_eq_true rfl) (bk_inl (v_zret c_212_14 rfl (of_decide_eq_true rfl) (bk_inl (v_if_ne_f (t := 19) c_247_14 rfl (of_decide_eq_true rfl) (q_iconst c_247_17 (q_iret c_247_18 rfl ?_)))))))
    have hI_25 := iw_41_0 (v := 0) hI ⟨of_decide_eq_true rfl, of_decide_eq_true rfl⟩
    have hI_26 := iw_41_0 (v := 1) hI_25 ⟨of_decide_eq_true rfl, of_decide_eq_true rfl⟩
    have hI_27 := iw_42 (j := 0) (v := y_24) hI_26 ⟨hy_24.1, hy_24.2⟩
    exact K (up (up (up c 41 0 0) 41 0 1) 42 0 y_24) 0 hI_27 (fun a j hm => (up_b (Decidable.or_iff_not_imp_left.mpr (fun h1 h2 => hm (Or.inr (Or.inl (Decidable.not_not.mp h1)))))).trans ((up_b (Decidable.or_iff_not_imp_left.mpr (fun h1 h2 => hm (Or.inl ⟨Decidable.not_not.mp h1, h2⟩)))).trans (up_b (Decidable.or_iff_not_imp_left.mpr (fun h1 h2 => hm (Or.inl ⟨Decidable.not_not.mp h1, h2⟩)))))) ⟨of_decide_eq_true rfl, of_decide_eq_true rfl⟩
  · refine v_ic_lt_f (t := 14) c_146_2 rfl ⟨of_decide_eq_true rfl, (Int.not_lt.mp h_22), ha1.2⟩ (q_iload_n c_146_5 rfl (q_iload_n c_146_6 rfl ?_))
    by_cases h_28 : a1 > c 41 22 - 1
    · refine v_ic_gt_t (t := 14) c_146_7 rfl ⟨(rgm_l h_21.1 (of_decide_eq_true rfl)), h_28, ha1.2⟩ (q_iconst c_146_14 (v_zret c_146_15 rfl (of_decide_eq_true rfl) (bk_inl (q_iconst c_212_9 (q_iconst c_212_10 (v_cv c_212_11 km_8_203 rfl rfl (Nat.le_of_ble_eq_true rfl) ⟨⟨rfl, rfl⟩, Nat.le_of_ble_eq_true rfl, rfl⟩ (Nat.le_of_ble_eq_true rfl) (Nat.le_of_ble_eq_true rfl) (q_iload_n c_145_0 rfl ?_)))))))
      refine v_if_ne_f (t := 26) c_145_1 rfl (of_decide_eq_true rfl) (q_aload_n c_145_4 rfl (v_gi (z := 0) (v := 0) c_145_5 kf_8_3 rfl (Nat.le_of_ble_eq_true rfl) rfl rfl (up_e rfl) (v_if_ne_f (t := 26) c_145_8 rfl (of_decide_eq_true rfl) (q_aload_n c_145_11 rfl (q_iload_n c_145_12 rfl (v_pi (z := 0) c_145_13 kf_8_3 rfl (Nat.le_of_ble_eq_true rfl) rfl rfl rfl (of_decide_eq_true rfl) (q_aload_n c_145_16 rfl ?_)))))))
      refine v_gr (t := 42) c_145_17 kf_8_7 rfl (Nat.le_of_ble_eq_true rfl) rfl (q_iload_n c_145_20 rfl (q_dup2 c_145_21 ⟨rfl, rfl⟩ ?_))
      have h_29 := ir_42 hI 0
      refine v_ia (v := c 42 0) c_145_22 rfl (of_decide_eq_true rfl) (of_decide_eq_true rfl) (of_decide_eq_true rfl) ((up_c (nn rfl)).trans (up_c (nn rfl))) (q_iconst c_145_23 (v_iadd (v := c 42 0 + 1) c_145_24 rfl (v_nrm (fun y_30 hy_30 => (v_is c_145_25 rfl (of_decide_eq_true rfl) (of_decide_eq_true rfl) (of_decide_eq_true rfl) (q_aload_n c_145_26 rfl (v_gi (z := 0) (v := 1) c_145_27 kf_8_3 rfl (Nat.le_of_ble_eq_true rfl) rfl rfl ((up_c (nn rfl)).trans (up_e rfl)) (v_if_ne_t (t := 37) c_145_30 rfl (of_decide_eq_true rfl) ?_))))))))
      refine q_iconst c_145_37 (v_zret c_145_38 rfl (of_decide_eq_true rfl) (bk_inl (v_zret c_212_14 rfl (of_decide_eq_true rfl) (bk_inl (v_if_ne_f (t := 19) c_247_14 rfl (of_decide_eq_true rfl) (q_iconst c_247_17 (q_iret c_247_18 rfl ?_)))))))
      have hI_31 := iw_41_0 (v := 0) hI ⟨of_decide_eq_true rfl, of_decide_eq_true rfl⟩
      have hI_32 := iw_41_0 (v := 1) hI_31 ⟨of_decide_eq_true rfl, of_decide_eq_true rfl⟩
      have hI_33 := iw_42 (j := 0) (v := y_30) hI_32 ⟨hy_30.1, hy_30.2⟩
      exact K (up (up (up c 41 0 0) 41 0 1) 42 0 y_30) 0 hI_33 (fun a j hm => (up_b (Decidable.or_iff_not_imp_left.mpr (fun h1 h2 => hm (Or.inr (Or.inl (Decidable.not_not.mp h1)))))).trans ((up_b (Decidable.or_iff_not_imp_left.mpr (fun h1 h2 => hm (Or.inl ⟨Decidable.not_not.mp h1, h2⟩)))).trans (up_b (Decidable.or_iff_not_imp_left.mpr (fun h1 h2 => hm (Or.inl ⟨Decidable.not_not.mp h1, h2⟩)))))) ⟨of_decide_eq_true rfl, of_decide_eq_true rfl⟩
    · refine v_ic_gt_f (t := 14) c_146_7 rfl ⟨ha1.1, (Int.not_lt.mp h_28), (rgm_h h_21.2 (of_decide_eq_true rfl))⟩ (q_iconst c_146_10 (q_goto (t := 15) c_146_11 rfl (v_zret c_146_15 rfl (of_decide_eq_true rfl) (bk_inl (q_iconst c_212_9 (q_iconst c_212_10 (v_cv c_212_11 km_8_203 rfl rfl (Nat.le_of_ble_eq_true rfl) ⟨⟨rfl, rfl⟩, Nat.le_of_ble_eq_true rfl, rfl⟩ (Nat.le_of_ble_eq_true rfl) (Nat.le_of_ble_eq_true rfl) ?_)))))))
      refine q_iload_n c_145_0 rfl (v_if_ne_t (t := 26) c_145_1 rfl (of_decide_eq_true rfl) (q_aload_n c_145_26 rfl (v_gi (z := 0) (v := 0) c_145_27 kf_8_3 rfl (Nat.le_of_ble_eq_true rfl) rfl rfl (up_e rfl) (v_if_ne_f (t := 37) c_145_30 rfl (of_decide_eq_true rfl) (q_iconst c_145_33 (q_goto (t := 38) c_145_34 rfl (v_zret c_145_38 rfl (of_decide_eq_true rfl) ?_)))))))
      refine bk_inl (v_zret c_212_14 rfl (of_decide_eq_true rfl) (bk_inl (v_if_ne_t (t := 19) c_247_14 rfl (of_decide_eq_true rfl) (q_aload_n c_247_19 rfl ?_))))
      have hI_34 := iw_41_0 (v := 0) hI ⟨of_decide_eq_true rfl, of_decide_eq_true rfl⟩
      refine v_cv c_247_20 km_8_317 rfl rfl (Nat.le_of_ble_eq_true rfl) ⟨⟨rfl, rfl⟩, Nat.le_of_ble_eq_true rfl, rfl⟩ (Nat.le_of_ble_eq_true rfl) (Nat.le_of_ble_eq_true rfl) (s_186 hI_34 (fun c_35 hI_36 hF_37 => (bk_inl (q_iconst c_247_23 (q_istore_n c_247_24 (Nat.le_of_ble_eq_true rfl) (q_iconst c_247_25 (q_istore_n c_247_26 (Nat.le_of_ble_eq_true rfl) (Wp_ls [(0, .ref 41), (1, vi a1), (2, vi 0), (3, vi 0)] (lsub_cons rfl (lsub_cons rfl (lsub_cons rfl (lsub_cons rfl lsub_nil)))) ?_))))))))
      exact (s_247_l (sc := sc) (d := d) hI ha1 K 16) c_35 0 0 hI_36 (fun a j hm => (hF_37 a j (fun h => hm (Or.inr (Or.inr h)))).trans (up_b (Decidable.or_iff_not_imp_left.mpr (fun h1 h2 => hm (Or.inl ⟨Decidable.not_not.mp h1, h2⟩))))) ⟨of_decide_eq_true rfl, of_decide_eq_true rfl⟩ ⟨of_decide_eq_true rfl, of_decide_eq_true rfl⟩ ⟨(q_720657ba9 h_22), (q_1b5e4f74b h_21 h_28)⟩ (by omega)

set_option maxRecDepth 100000 in
set_option maxHeartbeats 4000000 in
theorem s_248_l {sc : List Int32} {e : Int} {d u P Q : Nat} {c : ME} {a1 : Int} {a2 : Int} {Z : AR → Prop} (hI : Iv u e P Q c) (ha1 : (-2147483648) ≤ a1 ∧ a1 ≤ 2147483647) (ha2 : (-2147483648) ≤ a2 ∧ a2 ≤ 2147483647) (K : ∀ (c2 : ME) (y : Int), Iv u e P Q c2 → (∀ (a : Nat) (j : Int), ¬ ((a = 41 ∧ j = 0) ∨ a = 42) → c2 a j = c a j) → (-2147483648) ≤ y ∧ y ≤ 2147483647 → Z (.inl (some (vi y)), Wd P Q P P c2, 0, 0)) : ∀ n : Nat, (∀ (c2 : ME) (v3 : Int) (v4 : Int) (v5 : Int), Iv u e P Q c2 → (∀ (a : Nat) (j : Int), ¬ ((a = 41 ∧ j = 0) ∨ a = 42) → c2 a j = c a j) → (-2147483648) ≤ v3 ∧ v3 ≤ 2147483647 → (-1) ≤ v4 ∧ v4 ≤ 5 → 0 ≤ v5 ∧ v5 ≤ 6 → ((a1 ≥ 0 ∧ a1 ≤ 3)) → 13 - 2 * v5 < (n : Int) → Wp sc (d + 8) 248 47 [(0, .ref 41), (1, vi a1), (2, vi a2), (3, vi v3), (4, vi v4), (5, vi v5)] [] (Wd P Q P P c2) 0 0 Z) := by
  intro n
  induction n with
  | zero => exact (by intro c2 v3 v4 v5 hI2 hF hv3 hv4 hv5 hx0 hm9; have hP := iv_P hI; have hQ := iv_Q hI; exfalso; omega)
  | succ n ih =>
    have hP := iv_P hI
    have hQ := iv_Q hI
    intro c2 v3 v4 v5 hI2 hF hv3 hv4 hv5 hx0 hm9
    refine q_iload c_248_47 rfl (q_aload_n c_248_49 rfl ?_)
    have h_1 := ir_41_20 hI
    have kn_2 : Hid (c2 41 20 = c 41 20) := hF 41 20 (fun q => q.elim (fun h => absurd h.2 (ni rfl)) (fun h => absurd h (nn rfl)))
    refine v_gi (z := 20) (v := c 41 20) c_248_50 kf_8_157 rfl (Nat.le_of_ble_eq_true rfl) rfl rfl (hid kn_2) ?_
    by_cases h_3 : v5 ≥ c 41 20
    · refine v_ic_ge_t (t := 110) c_248_53 rfl ⟨(q_730ab5169 h_1), h_3, (ler hv5.2 rfl)⟩ (q_iload_n c_248_110 rfl ?_)
      by_cases h_4 : a2 ≠ 0
      · refine v_if_ne_t (t := 118) c_248_111 rfl ⟨h_4, ⟨ha2.1, ha2.2⟩, of_decide_eq_true rfl, of_decide_eq_true rfl⟩ (q_iload c_248_118 rfl (q_iret c_248_120 rfl ?_))
        exact K c2 v4 hI2 (fun a j hm => hF a j hm) ⟨(lel hv4.1 rfl), (ler hv4.2 rfl)⟩
      · refine v_if_ne_f (t := 118) c_248_111 rfl (Decidable.not_not.mp h_4) (q_iload_n c_248_114 rfl (q_goto (t := 120) c_248_115 rfl (q_iret c_248_120 rfl ?_)))
        exact K c2 v3 hI2 (fun a j hm => hF a j hm) hv3
    · refine v_ic_ge_f (t := 110) c_248_53 rfl ⟨(lel hv5.1 rfl), (Int.not_le.mp h_3), (q_b289b7db2 h_1)⟩ (q_aload_n c_248_56 rfl (v_gr (t := 58) c_248_57 kf_8_65 rfl (Nat.le_of_ble_eq_true rfl) rfl (q_iconst c_248_60 (q_iload c_248_61 rfl (v_imul (v := 4 * v5) c_248_63 rfl (q_iload_n c_248_64 rfl (v_iadd (v := a1 + 4 * v5) c_248_65 (by omega) ?_)))))))
      have h_5 := ir_58_g hI (j := a1 + 4 * v5) (by omega)
      have kn_6 : Hid (c2 58 (a1 + 4 * v5) = c 58 (a1 + 4 * v5)) := hF 58 (a1 + 4 * v5) (fun q => q.elim (fun h => absurd h.1 (nn rfl)) (fun h => absurd h (nn rfl)))
      refine v_ia (v := c 58 (a1 + 4 * v5)) c_248_66 rfl (of_decide_eq_true rfl) (of_decide_eq_true rfl) (by omega) (hid kn_6) (q_istore c_248_67 (Nat.le_of_ble_eq_true rfl) (q_iload_n c_248_69 rfl (q_iload c_248_70 rfl (v_iadd (v := c 58 (a1 + 4 * v5) + v3) c_248_72 (by omega) (v_nrm (fun y_7 hy_7 => (q_istore_n c_248_73 (Nat.le_of_ble_eq_true rfl) (q_iload c_248_74 rfl ?_))))))))
      refine q_iload c_248_76 rfl (q_iconst c_248_78 ?_)
      by_cases h_8 : v4 ≠ (-1)
      · refine v_ic_ne_t (t := 86) c_248_79 rfl ⟨h_8, ⟨(lel hv4.1 rfl), (ler hv4.2 rfl)⟩, of_decide_eq_true rfl, of_decide_eq_true rfl⟩ (q_aload_n c_248_86 rfl (v_gr (t := 58) c_248_87 kf_8_65 rfl (Nat.le_of_ble_eq_true rfl) rfl (q_iconst c_248_90 (q_iload c_248_91 rfl (v_imul (v := 4 * v4) c_248_93 rfl (q_iload_n c_248_94 rfl (v_iadd (v := a1 + 4 * v4) c_248_95 (by first | (clear ha1 ha2 hv3 hv4 hv5 hx0 h_1 h_3 h_5 h_8; omega) | omega) ?_)))))))
        have h_9 := ir_58_g hI (j := a1 + 4 * v4) (by first | (clear ha1 ha2 hv3 hv5 h_1 h_3 h_5 h_8; omega) | omega)
        have kn_10 : Hid (c2 58 (a1 + 4 * v4) = c 58 (a1 + 4 * v4)) := hF 58 (a1 + 4 * v4) (fun q => q.elim (fun h => absurd h.1 (nn rfl)) (fun h => absurd h (nn rfl)))
        refine v_ia (v := c 58 (a1 + 4 * v4)) c_248_96 rfl (of_decide_eq_true rfl) (of_decide_eq_true rfl) ⟨by omega, by first | (clear ha1 ha2 hv3 hv5 h_1 h_3 h_5 h_9 h_8; omega) | omega⟩ (hid kn_10) ?_
        by_cases h_11 : c 58 (a1 + 4 * v5) ≤ c 58 (a1 + 4 * v4)
        · refine v_ic_le_t (t := 104) c_248_97 rfl ⟨(q_c4d6b60d6 h_5), h_11, (q_838dca997 h_9)⟩ (v_iinc (v := v5 + 1) c_248_104 rfl (Nat.le_of_ble_eq_true rfl) rfl (q_goto (t := 47) c_248_107 rfl (Wp_ls [(0, .ref 41), (1, vi a1), (2, vi a2), (3, vi y_7), (4, vi v4), (5, vi (v5 + 1))] (lsub_cons rfl (lsub_cons rfl (lsub_cons rfl (lsub_cons rfl (lsub_cons rfl (lsub_cons rfl lsub_nil)))))) ?_)))
          exact ih c2 y_7 v4 (v5 + 1) hI2 (fun a j hm => hF a j hm) hy_7 hv4 ⟨(rgp_l hv5.1 (of_decide_eq_true rfl)), (q_4a76cd9c7 h_1 h_3)⟩ ⟨by first | (clear ha1 ha2 hv3 hv4 hv5 h_1 h_3 h_5 h_9 h_11 h_8; omega) | omega, by first | (clear ha1 ha2 hv3 hv4 hv5 h_1 h_3 h_5 h_9 h_11 h_8; omega) | omega⟩ (by omega)
        · refine v_ic_le_f (t := 104) c_248_97 rfl ⟨(q_c4d6b60d6 h_9), (Int.not_le.mp h_11), (q_838dca997 h_5)⟩ (q_iload c_248_100 rfl (q_istore c_248_102 (Nat.le_of_ble_eq_true rfl) (v_iinc (v := v5 + 1) c_248_104 rfl (Nat.le_of_ble_eq_true rfl) rfl (q_goto (t := 47) c_248_107 rfl (Wp_ls [(0, .ref 41), (1, vi a1), (2, vi a2), (3, vi y_7), (4, vi v5), (5, vi (v5 + 1))] (lsub_cons rfl (lsub_cons rfl (lsub_cons rfl (lsub_cons rfl (lsub_cons rfl (lsub_cons rfl lsub_nil)))))) ?_)))))
          exact ih c2 y_7 v5 (v5 + 1) hI2 (fun a j hm => hF a j hm) hy_7 ⟨(lel hv5.1 rfl), (q_d63a8538e h_1 h_3)⟩ ⟨(rgp_l hv5.1 (of_decide_eq_true rfl)), (q_4a76cd9c7 h_1 h_3)⟩ ⟨by first | (clear ha1 ha2 hv3 hv4 hv5 h_1 h_3 h_5 h_9 h_11 h_8; omega) | omega, by first | (clear ha1 ha2 hv3 hv4 hv5 h_1 h_3 h_5 h_9 h_11 h_8; omega) | omega⟩ (by omega)
      · refine v_ic_ne_f (t := 86) c_248_79 rfl (Decidable.not_not.mp h_8) (q_iconst c_248_82 (q_goto (t := 97) c_248_83 rfl ?_))
        by_cases h_12 : c 58 (a1 + 4 * v5) ≤ 0
        · refine v_ic_le_t (t := 104) c_248_97 rfl ⟨(q_c4d6b60d6 h_5), h_12, of_decide_eq_true rfl⟩ (v_iinc (v := v5 + 1) c_248_104 rfl (Nat.le_of_ble_eq_true rfl) rfl (q_goto (t := 47) c_248_107 rfl (Wp_ls [(0, .ref 41), (1, vi a1), (2, vi a2), (3, vi y_7), (4, vi v4), (5, vi (v5 + 1))] (lsub_cons rfl (lsub_cons rfl (lsub_cons rfl (lsub_cons rfl (lsub_cons rfl (lsub_cons rfl lsub_nil)))))) ?_)))
          exact ih c2 y_7 v4 (v5 + 1) hI2 (fun a j hm => hF a j hm) hy_7 hv4 ⟨(rgp_l hv5.1 (of_decide_eq_true rfl)), (q_4a76cd9c7 h_1 h_3)⟩ ⟨by omega, by omega⟩ (by omega)
        · refine v_ic_le_f (t := 104) c_248_97 rfl ⟨of_decide_eq_true rfl, (Int.not_le.mp h_12), (q_838dca997 h_5)⟩ (q_iload c_248_100 rfl (q_istore c_248_102 (Nat.le_of_ble_eq_true rfl) (v_iinc (v := v5 + 1) c_248_104 rfl (Nat.le_of_ble_eq_true rfl) rfl (q_goto (t := 47) c_248_107 rfl (Wp_ls [(0, .ref 41), (1, vi a1), (2, vi a2), (3, vi y_7), (4, vi v5), (5, vi (v5 + 1))] (lsub_cons rfl (lsub_cons rfl (lsub_cons rfl (lsub_cons rfl (lsub_cons rfl (lsub_cons rfl lsub_nil)))))) ?_)))))
          exact ih c2 y_7 v5 (v5 + 1) hI2 (fun a j hm => hF a j hm) hy_7 ⟨(lel hv5.1 rfl), (q_d63a8538e h_1 h_3)⟩ ⟨(rgp_l hv5.1 (of_decide_eq_true rfl)), (q_4a76cd9c7 h_1 h_3)⟩ ⟨by omega, by omega⟩ (by omega)
set_option maxRecDepth 100000 in
set_option maxHeartbeats 4000000 in
theorem s_248 {sc : List Int32} {e : Int} {d u P Q : Nat} {c : ME} {a1 : Int} {a2 : Int} {Z : AR → Prop} (hI : Iv u e P Q c) (ha1 : (-2147483648) ≤ a1 ∧ a1 ≤ 2147483647) (ha2 : (-2147483648) ≤ a2 ∧ a2 ≤ 2147483647) (K : ∀ (c2 : ME) (y : Int), Iv u e P Q c2 → (∀ (a : Nat) (j : Int), ¬ ((a = 41 ∧ j = 0) ∨ a = 42) → c2 a j = c a j) → (-2147483648) ≤ y ∧ y ≤ 2147483647 → Z (.inl (some (vi y)), Wd P Q P P c2, 0, 0)) : Wp sc (d + 8) 248 0 [(0, .ref 41), (1, vi a1), (2, vi a2)] [] (Wd P Q P P c) 0 0 Z := by
  have hP := iv_P hI
  have hQ := iv_Q hI
  refine q_aload_n c_248_0 rfl (q_iconst c_248_1 (v_pi (z := 0) c_248_2 kf_8_3 rfl (Nat.le_of_ble_eq_true rfl) rfl rfl rfl (of_decide_eq_true rfl) (q_aload_n c_248_5 rfl (q_iload_n c_248_6 rfl (q_iconst c_248_7 (q_iconst c_248_8 (q_call c_248_9 rfl rfl rfl ?_)))))))
  refine q_iload_n c_146_0 rfl (q_iload_n c_146_1 rfl ?_)
  by_cases h_13 : a1 < 0
  · refine v_ic_lt_t (t := 14) c_146_2 rfl ⟨ha1.1, h_13, of_decide_eq_true rfl⟩ (q_iconst c_146_14 (v_zret c_146_15 rfl (of_decide_eq_true rfl) (bk_inl (v_if_eq_t (t := 28) c_248_12 rfl (of_decide_eq_true rfl) (q_iconst c_248_28 (q_iconst c_248_29 (q_iconst c_248_30 ?_)))))))
    refine v_cv c_248_31 km_8_203 rfl rfl (Nat.le_of_ble_eq_true rfl) ⟨⟨rfl, rfl⟩, Nat.le_of_ble_eq_true rfl, rfl⟩ (Nat.le_of_ble_eq_true rfl) (Nat.le_of_ble_eq_true rfl) (q_iload_n c_145_0 rfl (v_if_ne_f (t := 26) c_145_1 rfl (of_decide_eq_true rfl) (q_aload_n c_145_4 rfl (v_gi (z := 0) (v := 0) c_145_5 kf_8_3 rfl (Nat.le_of_ble_eq_true rfl) rfl rfl (up_e rfl) (v_if_ne_f (t := 26) c_145_8 rfl (of_decide_eq_true rfl) (q_aload_n c_145_11 rfl (q_iload_n c_145_12 rfl ?_)))))))
    refine v_pi (z := 0) c_145_13 kf_8_3 rfl (Nat.le_of_ble_eq_true rfl) rfl rfl rfl (of_decide_eq_true rfl) (q_aload_n c_145_16 rfl (v_gr (t := 42) c_145_17 kf_8_7 rfl (Nat.le_of_ble_eq_true rfl) rfl (q_iload_n c_145_20 rfl (q_dup2 c_145_21 ⟨rfl, rfl⟩ ?_))))
    have h_14 := ir_42 hI 1
    refine v_ia (v := c 42 1) c_145_22 rfl (of_decide_eq_true rfl) (of_decide_eq_true rfl) (of_decide_eq_true rfl) ((up_c (nn rfl)).trans (up_c (nn rfl))) (q_iconst c_145_23 (v_iadd (v := c 42 1 + 1) c_145_24 rfl (v_nrm (fun y_15 hy_15 => (v_is c_145_25 rfl (of_decide_eq_true rfl) (of_decide_eq_true rfl) (of_decide_eq_true rfl) (q_aload_n c_145_26 rfl (v_gi (z := 0) (v := 1) c_145_27 kf_8_3 rfl (Nat.le_of_ble_eq_true rfl) rfl rfl ((up_c (nn rfl)).trans (up_e rfl)) (v_if_ne_t (t := 37) c_145_30 rfl (of_decide_eq_true rfl) ?_))))))))
    refine q_iconst c_145_37 (v_zret c_145_38 rfl (of_decide_eq_true rfl) (bk_inl (v_if_ne_f (t := 39) c_248_34 rfl (of_decide_eq_true rfl) (q_iconst c_248_37 (q_iret c_248_38 rfl ?_)))))
    have hI_16 := iw_41_0 (v := 0) hI ⟨of_decide_eq_true rfl, of_decide_eq_true rfl⟩
    have hI_17 := iw_41_0 (v := 1) hI_16 ⟨of_decide_eq_true rfl, of_decide_eq_true rfl⟩
    have hI_18 := iw_42 (j := 1) (v := y_15) hI_17 ⟨hy_15.1, hy_15.2⟩
    exact K (up (up (up c 41 0 0) 41 0 1) 42 1 y_15) 0 hI_18 (fun a j hm => (up_b (Decidable.or_iff_not_imp_left.mpr (fun h1 h2 => hm (Or.inr (Decidable.not_not.mp h1))))).trans ((up_b (Decidable.or_iff_not_imp_left.mpr (fun h1 h2 => hm (Or.inl ⟨Decidable.not_not.mp h1, h2⟩)))).trans (up_b (Decidable.or_iff_not_imp_left.mpr (fun h1 h2 => hm (Or.inl ⟨Decidable.not_not.mp h1, h2⟩)))))) ⟨of_decide_eq_true rfl, of_decide_eq_true rfl⟩
  · refine v_ic_lt_f (t := 14) c_146_2 rfl ⟨of_decide_eq_true rfl, (Int.not_lt.mp h_13), ha1.2⟩ (q_iload_n c_146_5 rfl (q_iload_n c_146_6 rfl ?_))
    by_cases h_19 : a1 > 3
    · refine v_ic_gt_t (t := 14) c_146_7 rfl ⟨of_decide_eq_true rfl, h_19, ha1.2⟩ (q_iconst c_146_14 (v_zret c_146_15 rfl (of_decide_eq_true rfl) (bk_inl (v_if_eq_t (t := 28) c_248_12 rfl (of_decide_eq_true rfl) (q_iconst c_248_28 (q_iconst c_248_29 (q_iconst c_248_30 ?_)))))))
      refine v_cv c_248_31 km_8_203 rfl rfl (Nat.le_of_ble_eq_true rfl) ⟨⟨rfl, rfl⟩, Nat.le_of_ble_eq_true rfl, rfl⟩ (Nat.le_of_ble_eq_true rfl) (Nat.le_of_ble_eq_true rfl) (q_iload_n c_145_0 rfl (v_if_ne_f (t := 26) c_145_1 rfl (of_decide_eq_true rfl) (q_aload_n c_145_4 rfl (v_gi (z := 0) (v := 0) c_145_5 kf_8_3 rfl (Nat.le_of_ble_eq_true rfl) rfl rfl (up_e rfl) (v_if_ne_f (t := 26) c_145_8 rfl (of_decide_eq_true rfl) (q_aload_n c_145_11 rfl (q_iload_n c_145_12 rfl ?_)))))))
      refine v_pi (z := 0) c_145_13 kf_8_3 rfl (Nat.le_of_ble_eq_true rfl) rfl rfl rfl (of_decide_eq_true rfl) (q_aload_n c_145_16 rfl (v_gr (t := 42) c_145_17 kf_8_7 rfl (Nat.le_of_ble_eq_true rfl) rfl (q_iload_n c_145_20 rfl (q_dup2 c_145_21 ⟨rfl, rfl⟩ ?_))))
      have h_20 := ir_42 hI 1
      refine v_ia (v := c 42 1) c_145_22 rfl (of_decide_eq_true rfl) (of_decide_eq_true rfl) (of_decide_eq_true rfl) ((up_c (nn rfl)).trans (up_c (nn rfl))) (q_iconst c_145_23 (v_iadd (v := c 42 1 + 1) c_145_24 rfl (v_nrm (fun y_21 hy_21 => (v_is c_145_25 rfl (of_decide_eq_true rfl) (of_decide_eq_true rfl) (of_decide_eq_true rfl) (q_aload_n c_145_26 rfl (v_gi (z := 0) (v := 1) c_145_27 kf_8_3 rfl (Nat.le_of_ble_eq_true rfl) rfl rfl ((up_c (nn rfl)).trans (up_e rfl)) (v_if_ne_t (t := 37) c_145_30 rfl (of_decide_eq_true rfl) ?_))))))))
      refine q_iconst c_145_37 (v_zret c_145_38 rfl (of_decide_eq_true rfl) (bk_inl (v_if_ne_f (t := 39) c_248_34 rfl (of_decide_eq_true rfl) (q_iconst c_248_37 (q_iret c_248_38 rfl ?_)))))
      have hI_22 := iw_41_0 (v := 0) hI ⟨of_decide_eq_true rfl, of_decide_eq_true rfl⟩
      have hI_23 := iw_41_0 (v := 1) hI_22 ⟨of_decide_eq_true rfl, of_decide_eq_true rfl⟩
      have hI_24 := iw_42 (j := 1) (v := y_21) hI_23 ⟨hy_21.1, hy_21.2⟩
      exact K (up (up (up c 41 0 0) 41 0 1) 42 1 y_21) 0 hI_24 (fun a j hm => (up_b (Decidable.or_iff_not_imp_left.mpr (fun h1 h2 => hm (Or.inr (Decidable.not_not.mp h1))))).trans ((up_b (Decidable.or_iff_not_imp_left.mpr (fun h1 h2 => hm (Or.inl ⟨Decidable.not_not.mp h1, h2⟩)))).trans (up_b (Decidable.or_iff_not_imp_left.mpr (fun h1 h2 => hm (Or.inl ⟨Decidable.not_not.mp h1, h2⟩)))))) ⟨of_decide_eq_true rfl, of_decide_eq_true rfl⟩
    · refine v_ic_gt_f (t := 14) c_146_7 rfl ⟨ha1.1, (Int.not_lt.mp h_19), of_decide_eq_true rfl⟩ (q_iconst c_146_10 (q_goto (t := 15) c_146_11 rfl (v_zret c_146_15 rfl (of_decide_eq_true rfl) (bk_inl (v_if_eq_f (t := 28) c_248_12 rfl (of_decide_eq_true rfl) (q_iload_n c_248_15 rfl (q_iconst c_248_16 ?_)))))))
      refine q_iconst c_248_17 (q_call c_248_18 rfl rfl rfl (q_iload_n c_146_0 rfl (q_iload_n c_146_1 rfl ?_)))
      by_cases h_25 : a2 < 0
      · refine v_ic_lt_t (t := 14) c_146_2 rfl ⟨ha2.1, h_25, of_decide_eq_true rfl⟩ (q_iconst c_146_14 (v_zret c_146_15 rfl (of_decide_eq_true rfl) (bk_inl (v_if_eq_t (t := 28) c_248_21 rfl (of_decide_eq_true rfl) (q_iconst c_248_28 (q_iconst c_248_29 (q_iconst c_248_30 ?_)))))))
        refine v_cv c_248_31 km_8_203 rfl rfl (Nat.le_of_ble_eq_true rfl) ⟨⟨rfl, rfl⟩, Nat.le_of_ble_eq_true rfl, rfl⟩ (Nat.le_of_ble_eq_true rfl) (Nat.le_of_ble_eq_true rfl) (q_iload_n c_145_0 rfl (v_if_ne_f (t := 26) c_145_1 rfl (of_decide_eq_true rfl) (q_aload_n c_145_4 rfl (v_gi (z := 0) (v := 0) c_145_5 kf_8_3 rfl (Nat.le_of_ble_eq_true rfl) rfl rfl (up_e rfl) (v_if_ne_f (t := 26) c_145_8 rfl (of_decide_eq_true rfl) (q_aload_n c_145_11 rfl (q_iload_n c_145_12 rfl ?_)))))))
        refine v_pi (z := 0) c_145_13 kf_8_3 rfl (Nat.le_of_ble_eq_true rfl) rfl rfl rfl (of_decide_eq_true rfl) (q_aload_n c_145_16 rfl (v_gr (t := 42) c_145_17 kf_8_7 rfl (Nat.le_of_ble_eq_true rfl) rfl (q_iload_n c_145_20 rfl (q_dup2 c_145_21 ⟨rfl, rfl⟩ ?_))))
        have h_26 := ir_42 hI 1
        refine v_ia (v := c 42 1) c_145_22 rfl (of_decide_eq_true rfl) (of_decide_eq_true rfl) (of_decide_eq_true rfl) ((up_c (nn rfl)).trans (up_c (nn rfl))) (q_iconst c_145_23 (v_iadd (v := c 42 1 + 1) c_145_24 rfl (v_nrm (fun y_27 hy_27 => (v_is c_145_25 rfl (of_decide_eq_true rfl) (of_decide_eq_true rfl) (of_decide_eq_true rfl) (q_aload_n c_145_26 rfl (v_gi (z := 0) (v := 1) c_145_27 kf_8_3 rfl (Nat.le_of_ble_eq_true rfl) rfl rfl ((up_c (nn rfl)).trans (up_e rfl)) (v_if_ne_t (t := 37) c_145_30 rfl (of_decide_eq_true rfl) ?_))))))))
        refine q_iconst c_145_37 (v_zret c_145_38 rfl (of_decide_eq_true rfl) (bk_inl (v_if_ne_f (t := 39) c_248_34 rfl (of_decide_eq_true rfl) (q_iconst c_248_37 (q_iret c_248_38 rfl ?_)))))
        have hI_28 := iw_41_0 (v := 0) hI ⟨of_decide_eq_true rfl, of_decide_eq_true rfl⟩
        have hI_29 := iw_41_0 (v := 1) hI_28 ⟨of_decide_eq_true rfl, of_decide_eq_true rfl⟩
        have hI_30 := iw_42 (j := 1) (v := y_27) hI_29 ⟨hy_27.1, hy_27.2⟩
        exact K (up (up (up c 41 0 0) 41 0 1) 42 1 y_27) 0 hI_30 (fun a j hm => (up_b (Decidable.or_iff_not_imp_left.mpr (fun h1 h2 => hm (Or.inr (Decidable.not_not.mp h1))))).trans ((up_b (Decidable.or_iff_not_imp_left.mpr (fun h1 h2 => hm (Or.inl ⟨Decidable.not_not.mp h1, h2⟩)))).trans (up_b (Decidable.or_iff_not_imp_left.mpr (fun h1 h2 => hm (Or.inl ⟨Decidable.not_not.mp h1, h2⟩)))))) ⟨of_decide_eq_true rfl, of_decide_eq_true rfl⟩
      · refine v_ic_lt_f (t := 14) c_146_2 rfl ⟨of_decide_eq_true rfl, (Int.not_lt.mp h_25), ha2.2⟩ (q_iload_n c_146_5 rfl (q_iload_n c_146_6 rfl ?_))
        by_cases h_31 : a2 > 1
        · refine v_ic_gt_t (t := 14) c_146_7 rfl ⟨of_decide_eq_true rfl, h_31, ha2.2⟩ (q_iconst c_146_14 (v_zret c_146_15 rfl (of_decide_eq_true rfl) (bk_inl (v_if_eq_t (t := 28) c_248_21 rfl (of_decide_eq_true rfl) (q_iconst c_248_28 (q_iconst c_248_29 (q_iconst c_248_30 ?_)))))))
          refine v_cv c_248_31 km_8_203 rfl rfl (Nat.le_of_ble_eq_true rfl) ⟨⟨rfl, rfl⟩, Nat.le_of_ble_eq_true rfl, rfl⟩ (Nat.le_of_ble_eq_true rfl) (Nat.le_of_ble_eq_true rfl) (q_iload_n c_145_0 rfl (v_if_ne_f (t := 26) c_145_1 rfl (of_decide_eq_true rfl) (q_aload_n c_145_4 rfl (v_gi (z := 0) (v := 0) c_145_5 kf_8_3 rfl (Nat.le_of_ble_eq_true rfl) rfl rfl (up_e rfl) (v_if_ne_f (t := 26) c_145_8 rfl (of_decide_eq_true rfl) (q_aload_n c_145_11 rfl (q_iload_n c_145_12 rfl ?_)))))))
          refine v_pi (z := 0) c_145_13 kf_8_3 rfl (Nat.le_of_ble_eq_true rfl) rfl rfl rfl (of_decide_eq_true rfl) (q_aload_n c_145_16 rfl (v_gr (t := 42) c_145_17 kf_8_7 rfl (Nat.le_of_ble_eq_true rfl) rfl (q_iload_n c_145_20 rfl (q_dup2 c_145_21 ⟨rfl, rfl⟩ ?_))))
          have h_32 := ir_42 hI 1
          refine v_ia (v := c 42 1) c_145_22 rfl (of_decide_eq_true rfl) (of_decide_eq_true rfl) (of_decide_eq_true rfl) ((up_c (nn rfl)).trans (up_c (nn rfl))) (q_iconst c_145_23 (v_iadd (v := c 42 1 + 1) c_145_24 rfl (v_nrm (fun y_33 hy_33 => (v_is c_145_25 rfl (of_decide_eq_true rfl) (of_decide_eq_true rfl) (of_decide_eq_true rfl) (q_aload_n c_145_26 rfl (v_gi (z := 0) (v := 1) c_145_27 kf_8_3 rfl (Nat.le_of_ble_eq_true rfl) rfl rfl ((up_c (nn rfl)).trans (up_e rfl)) (v_if_ne_t (t := 37) c_145_30 rfl (of_decide_eq_true rfl) ?_))))))))
          refine q_iconst c_145_37 (v_zret c_145_38 rfl (of_decide_eq_true rfl) (bk_inl (v_if_ne_f (t := 39) c_248_34 rfl (of_decide_eq_true rfl) (q_iconst c_248_37 (q_iret c_248_38 rfl ?_)))))
          have hI_34 := iw_41_0 (v := 0) hI ⟨of_decide_eq_true rfl, of_decide_eq_true rfl⟩
          have hI_35 := iw_41_0 (v := 1) hI_34 ⟨of_decide_eq_true rfl, of_decide_eq_true rfl⟩
          have hI_36 := iw_42 (j := 1) (v := y_33) hI_35 ⟨hy_33.1, hy_33.2⟩
          exact K (up (up (up c 41 0 0) 41 0 1) 42 1 y_33) 0 hI_36 (fun a j hm => (up_b (Decidable.or_iff_not_imp_left.mpr (fun h1 h2 => hm (Or.inr (Decidable.not_not.mp h1))))).trans ((up_b (Decidable.or_iff_not_imp_left.mpr (fun h1 h2 => hm (Or.inl ⟨Decidable.not_not.mp h1, h2⟩)))).trans (up_b (Decidable.or_iff_not_imp_left.mpr (fun h1 h2 => hm (Or.inl ⟨Decidable.not_not.mp h1, h2⟩)))))) ⟨of_decide_eq_true rfl, of_decide_eq_true rfl⟩
        · refine v_ic_gt_f (t := 14) c_146_7 rfl ⟨ha2.1, (Int.not_lt.mp h_31), of_decide_eq_true rfl⟩ (q_iconst c_146_10 (q_goto (t := 15) c_146_11 rfl (v_zret c_146_15 rfl (of_decide_eq_true rfl) (bk_inl (v_if_eq_f (t := 28) c_248_21 rfl (of_decide_eq_true rfl) (q_iconst c_248_24 (q_goto (t := 29) c_248_25 rfl ?_)))))))
          refine q_iconst c_248_29 (q_iconst c_248_30 (v_cv c_248_31 km_8_203 rfl rfl (Nat.le_of_ble_eq_true rfl) ⟨⟨rfl, rfl⟩, Nat.le_of_ble_eq_true rfl, rfl⟩ (Nat.le_of_ble_eq_true rfl) (Nat.le_of_ble_eq_true rfl) (q_iload_n c_145_0 rfl (v_if_ne_t (t := 26) c_145_1 rfl (of_decide_eq_true rfl) (q_aload_n c_145_26 rfl (v_gi (z := 0) (v := 0) c_145_27 kf_8_3 rfl (Nat.le_of_ble_eq_true rfl) rfl rfl (up_e rfl) (v_if_ne_f (t := 37) c_145_30 rfl (of_decide_eq_true rfl) ?_)))))))
          refine q_iconst c_145_33 (q_goto (t := 38) c_145_34 rfl (v_zret c_145_38 rfl (of_decide_eq_true rfl) (bk_inl (v_if_ne_t (t := 39) c_248_34 rfl (of_decide_eq_true rfl) (q_iconst c_248_39 (q_istore_n c_248_40 (Nat.le_of_ble_eq_true rfl) (q_iconst c_248_41 ?_)))))))
          refine q_istore c_248_42 (Nat.le_of_ble_eq_true rfl) (q_iconst c_248_44 (q_istore c_248_45 (Nat.le_of_ble_eq_true rfl) ?_))
          have hI_37 := iw_41_0 (v := 0) hI ⟨of_decide_eq_true rfl, of_decide_eq_true rfl⟩
          refine Wp_ls [(0, .ref 41), (1, vi a1), (2, vi a2), (3, vi 0), (4, vi (-1)), (5, vi 0)] (lsub_cons rfl (lsub_cons rfl (lsub_cons rfl (lsub_cons rfl (lsub_cons rfl (lsub_cons rfl lsub_nil)))))) ?_
          exact (s_248_l (sc := sc) (d := d) hI ha1 ha2 K 16) (up c 41 0 0) 0 (-1) 0 hI_37 (fun a j hm => up_b (Decidable.or_iff_not_imp_left.mpr (fun h1 h2 => hm (Or.inl ⟨Decidable.not_not.mp h1, h2⟩)))) ⟨of_decide_eq_true rfl, of_decide_eq_true rfl⟩ ⟨of_decide_eq_true rfl, of_decide_eq_true rfl⟩ ⟨of_decide_eq_true rfl, of_decide_eq_true rfl⟩ ⟨(q_720657ba9 h_13), (q_eef7e887c h_19)⟩ (by omega)

set_option maxRecDepth 100000 in
set_option maxHeartbeats 4000000 in
theorem s_249_l {sc : List Int32} {d P Q : Nat} {c : ME} {Z : AR → Prop} (hI : Iv 0 (-1) P Q c)  (K : ∀ (c2 : ME) (y : Int), Iv 0 (-1) P Q c2 → (∀ (a : Nat) (j : Int), ¬ ((a = 41 ∧ j = 0) ∨ a = 59 ∨ a = 54 ∨ a = 55) → c2 a j = c a j) → (-2147483648) ≤ y ∧ y ≤ 2147483647 → Z (.inl (some (vi y)), Wd P Q P P c2, 0, 0)) : ∀ n : Nat, (∀ (c2 : ME) (v1 : Int) (v2 : Int), Iv 0 (-1) P Q c2 → (∀ (a : Nat) (j : Int), ¬ ((a = 41 ∧ j = 0) ∨ a = 59 ∨ a = 54 ∨ a = 55) → c2 a j = c a j) → (-2147483648) ≤ v1 ∧ v1 ≤ 2147483647 → 0 ≤ v2 ∧ v2 ≤ 6 → 13 - 2 * v2 < (n : Int) → Wp sc (d + 13) 249 13 [(0, .ref 41), (1, vi v1), (2, vi v2)] [] (Wd P Q P P c2) 0 0 Z) := by
  intro n
  induction n with
  | zero => exact (by intro c2 v1 v2 hI2 hF hv1 hv2 hm9; have hP := iv_P hI; have hQ := iv_Q hI; exfalso; omega)
  | succ n ih =>
    have hP := iv_P hI
    have hQ := iv_Q hI
    intro c2 v1 v2 hI2 hF hv1 hv2 hm9
    refine q_iload_n c_249_13 rfl (q_aload_n c_249_14 rfl ?_)
    have h_1 := ir_41_20 hI
    have kn_2 : Hid (c2 41 20 = c 41 20) := hF 41 20 qn_4a675523d
    refine v_gi (z := 20) (v := c 41 20) c_249_15 kf_8_157 rfl (Nat.le_of_ble_eq_true rfl) rfl rfl (hid kn_2) ?_
    by_cases h_3 : v2 ≥ c 41 20
    · refine v_ic_ge_t (t := 50) c_249_18 rfl ⟨(q_730ab5169 h_1), h_3, (ler hv2.2 rfl)⟩ (q_iload_n c_249_50 rfl (q_iret c_249_51 rfl ?_))
      exact K c2 v1 hI2 (fun a j hm => hF a j hm) hv1
    · refine v_ic_ge_f (t := 50) c_249_18 rfl ⟨(lel hv2.1 rfl), (Int.not_le.mp h_3), (q_b289b7db2 h_1)⟩ (q_iload_n c_249_21 rfl (q_aload_n c_249_22 rfl (q_iload_n c_249_23 rfl (v_cv c_249_24 km_8_378 rfl rfl (Nat.le_of_ble_eq_true rfl) ⟨⟨rfl, rfl⟩, Nat.le_of_ble_eq_true rfl, rfl⟩ (Nat.le_of_ble_eq_true rfl) (Nat.le_of_ble_eq_true rfl) (s_197 (a1 := v2) hI2 (show 0 ≤ v2 ∧ v2 ≤ 5 from ⟨hv2.1, (q_d63a8538e h_1 h_3)⟩) (fun c_4 y_7 hI_5 hF_6 hy_7 => (bk_inl ?_)))))))
      by_cases h_8 : y_7 = 0
      · refine v_if_eq_t (t := 41) c_249_27 rfl h_8 (q_iconst c_249_41 (v_iadd (v := v1) c_249_42 (by omega) (q_istore_n c_249_43 (Nat.le_of_ble_eq_true rfl) (v_iinc (v := v2 + 1) c_249_44 rfl (Nat.le_of_ble_eq_true rfl) rfl (q_goto (t := 13) c_249_47 rfl (Wp_ls [(0, .ref 41), (1, vi v1), (2, vi (v2 + 1))] (lsub_cons rfl (lsub_cons rfl (lsub_cons rfl lsub_nil))) ?_))))))
        exact ih c_4 v1 (v2 + 1) hI_5 (fun a j hm => (hF_6 a j (qv_5438e30b4 hm)).trans (hF a j hm)) hv1 ⟨(rgp_l hv2.1 (of_decide_eq_true rfl)), (q_4a76cd9c7 h_1 h_3)⟩ (by omega)
      · refine v_if_eq_f (t := 41) c_249_27 rfl ⟨h_8, ⟨(lel hy_7.1 rfl), (ler hy_7.2 rfl)⟩, of_decide_eq_true rfl, of_decide_eq_true rfl⟩ (q_aload_n c_249_30 rfl (q_iload_n c_249_31 rfl ?_))
        have h_9 := ir_59_g hI2 (j := 4 * v2) ((q_aa51b186e h_1 h_3))
        have kn_10 : Hid (c_4 59 (4 * v2) = c2 59 (4 * v2)) := hF_6 59 (4 * v2) (fun q => q.elim (fun h => absurd h (nn rfl)) (fun h => absurd h (nn rfl)))
        have h_11 := ir_59_g hI2 (j := 4 * v2 + 1) ((q_57851f9de h_1 h_3))
        have kn_12 : Hid (c_4 59 (4 * v2 + 1) = c2 59 (4 * v2 + 1)) := hF_6 59 (4 * v2 + 1) (fun q => q.elim (fun h => absurd h (nn rfl)) (fun h => absurd h (nn rfl)))
        have h_13 := ir_59_g hI2 (j := 4 * v2 + 2) ((q_7296e74e6 h_1 h_3))
        have kn_14 : Hid (c_4 59 (4 * v2 + 2) = c2 59 (4 * v2 + 2)) := hF_6 59 (4 * v2 + 2) (fun q => q.elim (fun h => absurd h (nn rfl)) (fun h => absurd h (nn rfl)))
        have h_15 := ir_59_g hI2 (j := 4 * v2 + 3) ((q_b15525c4c h_1 h_3))
        have kn_16 : Hid (c_4 59 (4 * v2 + 3) = c2 59 (4 * v2 + 3)) := hF_6 59 (4 * v2 + 3) (fun q => q.elim (fun h => absurd h (nn rfl)) (fun h => absurd h (nn rfl)))
        refine v_cv c_249_32 km_8_343 rfl rfl (Nat.le_of_ble_eq_true rfl) ⟨⟨rfl, rfl⟩, Nat.le_of_ble_eq_true rfl, rfl⟩ (Nat.le_of_ble_eq_true rfl) (Nat.le_of_ble_eq_true rfl) (s_187 (v1 := c2 59 (4 * v2)) (v2 := c2 59 (4 * v2 + 1)) (v3 := c2 59 (4 * v2 + 2)) (v4 := c2 59 (4 * v2 + 3)) (r := c2 59 (4 * v2 + 1) + c2 59 (4 * v2 + 2) + c2 59 (4 * v2 + 3) + c2 59 (4 * v2)) (a1 := v2) hI_5 (show 0 ≤ v2 ∧ v2 ≤ 5 from ⟨hv2.1, (q_d63a8538e h_1 h_3)⟩) ((hid kn_10)) ((hid kn_12)) ((hid kn_14)) ((hid kn_16)) (by omega) (bk_inl (v_bip c_249_35 (of_decide_eq_true rfl) (v_idiv (v := ((c2 59 (4 * v2 + 1) + c2 59 (4 * v2 + 2) + c2 59 (4 * v2 + 3) + c2 59 (4 * v2)) / 10)) rfl (by omega) rfl (q_goto (t := 42) c_249_38 rfl (v_iadd (v := ((c2 59 (4 * v2 + 1) + c2 59 (4 * v2 + 2) + c2 59 (4 * v2 + 3) + c2 59 (4 * v2)) / 10) + v1) rfl (by first | (clear hv1 hv2 h_1 h_3 h_9 h_11 h_13 h_15 h_8; omega) | omega) (v_nrm (fun y_17 hy_17 => (q_istore_n c_249_43 (Nat.le_of_ble_eq_true rfl) ?_)))))))))
        refine v_iinc (v := v2 + 1) c_249_44 rfl (Nat.le_of_ble_eq_true rfl) rfl (q_goto (t := 13) c_249_47 rfl (Wp_ls [(0, .ref 41), (1, vi y_17), (2, vi (v2 + 1))] (lsub_cons rfl (lsub_cons rfl (lsub_cons rfl lsub_nil))) ?_))
        exact ih c_4 y_17 (v2 + 1) hI_5 (fun a j hm => (hF_6 a j (qv_5438e30b4 hm)).trans (hF a j hm)) hy_17 ⟨(rgp_l hv2.1 (of_decide_eq_true rfl)), (q_4a76cd9c7 h_1 h_3)⟩ (by omega)
set_option maxRecDepth 100000 in
set_option maxHeartbeats 4000000 in
theorem s_249 {sc : List Int32} {d P Q : Nat} {c : ME} {Z : AR → Prop} (hI : Iv 0 (-1) P Q c)  (K : ∀ (c2 : ME) (y : Int), Iv 0 (-1) P Q c2 → (∀ (a : Nat) (j : Int), ¬ ((a = 41 ∧ j = 0) ∨ a = 59 ∨ a = 54 ∨ a = 55) → c2 a j = c a j) → (-2147483648) ≤ y ∧ y ≤ 2147483647 → Z (.inl (some (vi y)), Wd P Q P P c2, 0, 0)) : Wp sc (d + 13) 249 0 [(0, .ref 41)] [] (Wd P Q P P c) 0 0 Z := by
  have hP := iv_P hI
  have hQ := iv_Q hI
  refine q_aload_n c_249_0 rfl (q_iconst c_249_1 (v_pi (z := 0) c_249_2 kf_8_3 rfl (Nat.le_of_ble_eq_true rfl) rfl rfl rfl (of_decide_eq_true rfl) (q_aload_n c_249_5 rfl ?_)))
  have hI_18 := iw_41_0 (v := 0) hI ⟨of_decide_eq_true rfl, of_decide_eq_true rfl⟩
  refine v_cv c_249_6 km_8_317 rfl rfl (Nat.le_of_ble_eq_true rfl) ⟨⟨rfl, rfl⟩, Nat.le_of_ble_eq_true rfl, rfl⟩ (Nat.le_of_ble_eq_true rfl) (Nat.le_of_ble_eq_true rfl) (s_186 hI_18 (fun c_19 hI_20 hF_21 => (bk_inl (q_iconst c_249_9 (q_istore_n c_249_10 (Nat.le_of_ble_eq_true rfl) (q_iconst c_249_11 (q_istore_n c_249_12 (Nat.le_of_ble_eq_true rfl) (Wp_ls [(0, .ref 41), (1, vi 0), (2, vi 0)] (lsub_cons rfl (lsub_cons rfl (lsub_cons rfl lsub_nil))) ?_))))))))
  exact (s_249_l (sc := sc) (d := d) hI K 16) c_19 0 0 hI_20 (fun a j hm => (hF_21 a j (fun h => hm (Or.inr (Or.inl h)))).trans (up_b (Decidable.or_iff_not_imp_left.mpr (fun h1 h2 => hm (Or.inl ⟨Decidable.not_not.mp h1, h2⟩))))) ⟨of_decide_eq_true rfl, of_decide_eq_true rfl⟩ ⟨of_decide_eq_true rfl, of_decide_eq_true rfl⟩ (by omega)

set_option maxRecDepth 100000 in
set_option maxHeartbeats 4000000 in
theorem s_250_l {sc : List Int32} {d P Q : Nat} {c : ME} {a1 : Int} {Z : AR → Prop} (hI : Iv 0 (-1) P Q c) (ha1 : (-2147483648) ≤ a1 ∧ a1 ≤ 2147483647) (K : ∀ (c2 : ME) (y : Int), Iv 0 (-1) P Q c2 → (∀ (a : Nat) (j : Int), ¬ ((a = 41 ∧ j = 0) ∨ a = 42 ∨ a = 59) → c2 a j = c a j) → (-2147483648) ≤ y ∧ y ≤ 2147483647 → Z (.inl (some (vi y)), Wd P Q P P c2, 0, 0)) : ∀ n : Nat, (∀ (c2 : ME) (v2 : Int) (v3 : Int), Iv 0 (-1) P Q c2 → (∀ (a : Nat) (j : Int), ¬ ((a = 41 ∧ j = 0) ∨ a = 42 ∨ a = 59) → c2 a j = c a j) → (-1) ≤ v2 ∧ v2 ≤ 5 → 0 ≤ v3 ∧ v3 ≤ 6 → ((a1 ≥ 0 ∧ a1 ≤ 5)) → 13 - 2 * v3 < (n : Int) → Wp sc (d + 9) 250 27 [(0, .ref 41), (1, vi a1), (2, vi v2), (3, vi v3)] [] (Wd P Q P P c2) 0 0 Z) := by
  intro n
  induction n with
  | zero => exact (by intro c2 v2 v3 hI2 hF hv2 hv3 hx0 hm9; have hP := iv_P hI; have hQ := iv_Q hI; exfalso; omega)
  | succ n ih =>
    have hP := iv_P hI
    have hQ := iv_Q hI
    intro c2 v2 v3 hI2 hF hv2 hv3 hx0 hm9
    refine q_iload_n c_250_27 rfl (q_aload_n c_250_28 rfl ?_)
    have h_1 := ir_41_20 hI
    have kn_2 : Hid (c2 41 20 = c 41 20) := hF 41 20 qn_110b29ed6
    refine v_gi (z := 20) (v := c 41 20) c_250_29 kf_8_157 rfl (Nat.le_of_ble_eq_true rfl) rfl rfl (hid kn_2) ?_
    by_cases h_3 : v3 ≥ c 41 20
    · refine v_ic_ge_t (t := 92) c_250_32 rfl ⟨(q_730ab5169 h_1), h_3, (ler hv3.2 rfl)⟩ (q_iload_n c_250_92 rfl (q_iret c_250_93 rfl ?_))
      exact K c2 v2 hI2 (fun a j hm => hF a j hm) ⟨(lel hv2.1 rfl), (ler hv2.2 rfl)⟩
    · refine v_ic_ge_f (t := 92) c_250_32 rfl ⟨(lel hv3.1 rfl), (Int.not_le.mp h_3), (q_b289b7db2 h_1)⟩ (q_iload_n c_250_35 rfl (q_iload_n c_250_36 rfl ?_))
      by_cases h_4 : v3 = a1
      · refine v_ic_eq_t (t := 86) c_250_37 rfl h_4 (v_iinc (v := v3 + 1) c_250_86 rfl (Nat.le_of_ble_eq_true rfl) rfl (q_goto (t := 27) c_250_89 rfl (Wp_ls [(0, .ref 41), (1, vi a1), (2, vi v2), (3, vi (v3 + 1))] (lsub_cons rfl (lsub_cons rfl (lsub_cons rfl (lsub_cons rfl lsub_nil)))) ?_)))
        exact ih c2 v2 (v3 + 1) hI2 (fun a j hm => hF a j hm) hv2 ⟨(rgp_l hv3.1 (of_decide_eq_true rfl)), (q_4a76cd9c7 h_1 h_3)⟩ ⟨by omega, by omega⟩ (by omega)
      · refine v_ic_eq_f (t := 86) c_250_37 rfl ⟨h_4, ⟨(lel hv3.1 rfl), (ler hv3.2 rfl)⟩, ha1.1, ha1.2⟩ (q_aload_n c_250_40 rfl (q_iload_n c_250_41 rfl ?_))
        have h_5 := ir_59_g hI2 (j := 4 * v3) ((q_aa51b186e h_1 h_3))
        have h_6 := ir_59_g hI2 (j := 4 * v3 + 1) ((q_57851f9de h_1 h_3))
        have h_7 := ir_59_g hI2 (j := 4 * v3 + 2) ((q_7296e74e6 h_1 h_3))
        have h_8 := ir_59_g hI2 (j := 4 * v3 + 3) ((q_b15525c4c h_1 h_3))
        refine v_cv c_250_42 km_8_343 rfl rfl (Nat.le_of_ble_eq_true rfl) ⟨⟨rfl, rfl⟩, Nat.le_of_ble_eq_true rfl, rfl⟩ (Nat.le_of_ble_eq_true rfl) (Nat.le_of_ble_eq_true rfl) (s_187 (v1 := c2 59 (4 * v3)) (v2 := c2 59 (4 * v3 + 1)) (v3 := c2 59 (4 * v3 + 2)) (v4 := c2 59 (4 * v3 + 3)) (r := c2 59 (4 * v3 + 1) + c2 59 (4 * v3 + 2) + c2 59 (4 * v3 + 3) + c2 59 (4 * v3)) (a1 := v3) hI2 (show 0 ≤ v3 ∧ v3 ≤ 5 from ⟨hv3.1, (q_d63a8538e h_1 h_3)⟩) (rfl) (rfl) (rfl) (rfl) (by omega) (bk_inl ?_))
        by_cases h_9 : c2 59 (4 * v3 + 1) + c2 59 (4 * v3 + 2) + c2 59 (4 * v3 + 3) + c2 59 (4 * v3) ≤ 0
        · refine v_if_le_t (t := 86) c_250_45 rfl ⟨(q_e052ef40e h_5 h_6 h_7 h_8), h_9, of_decide_eq_true rfl⟩ (v_iinc (v := v3 + 1) c_250_86 rfl (Nat.le_of_ble_eq_true rfl) rfl (q_goto (t := 27) c_250_89 rfl (Wp_ls [(0, .ref 41), (1, vi a1), (2, vi v2), (3, vi (v3 + 1))] (lsub_cons rfl (lsub_cons rfl (lsub_cons rfl (lsub_cons rfl lsub_nil)))) ?_)))
          exact ih c2 v2 (v3 + 1) hI2 (fun a j hm => hF a j hm) hv2 ⟨(rgp_l hv3.1 (of_decide_eq_true rfl)), (q_4a76cd9c7 h_1 h_3)⟩ ⟨by first | (clear ha1 hv2 hv3 h_1 h_3 h_5 h_6 h_7 h_8 h_9 h_4; omega) | omega, by first | (clear ha1 hv2 hv3 h_1 h_3 h_5 h_6 h_7 h_8 h_9 h_4; omega) | omega⟩ (by omega)
        · refine v_if_le_f (t := 86) c_250_45 rfl ⟨of_decide_eq_true rfl, (Int.not_le.mp h_9), (q_db9ef1f4a h_5 h_6 h_7 h_8)⟩ (q_iload_n c_250_48 rfl (q_iconst c_250_49 ?_))
          by_cases h_10 : v2 = (-1)
          · refine v_ic_eq_t (t := 84) c_250_50 rfl h_10 (q_iload_n c_250_84 rfl (q_istore_n c_250_85 (Nat.le_of_ble_eq_true rfl) (v_iinc (v := v3 + 1) c_250_86 rfl (Nat.le_of_ble_eq_true rfl) rfl (q_goto (t := 27) c_250_89 rfl (Wp_ls [(0, .ref 41), (1, vi a1), (2, vi v3), (3, vi (v3 + 1))] (lsub_cons rfl (lsub_cons rfl (lsub_cons rfl (lsub_cons rfl lsub_nil)))) ?_)))))
            exact ih c2 v3 (v3 + 1) hI2 (fun a j hm => hF a j hm) ⟨(lel hv3.1 rfl), (q_d63a8538e h_1 h_3)⟩ ⟨(rgp_l hv3.1 (of_decide_eq_true rfl)), (q_4a76cd9c7 h_1 h_3)⟩ ⟨by first | (clear ha1 hv2 hv3 h_1 h_3 h_5 h_6 h_7 h_8 h_9 h_10 h_4; omega) | omega, by first | (clear ha1 hv2 hv3 h_1 h_3 h_5 h_6 h_7 h_8 h_9 h_10 h_4; omega) | omega⟩ (by omega)
          · refine v_ic_eq_f (t := 84) c_250_50 rfl ⟨h_10, ⟨(lel hv2.1 rfl), (ler hv2.2 rfl)⟩, of_decide_eq_true rfl, of_decide_eq_true rfl⟩ (q_aload_n c_250_53 rfl (q_iload_n c_250_54 rfl (v_cv c_250_55 km_8_399 rfl rfl (Nat.le_of_ble_eq_true rfl) ⟨⟨rfl, rfl⟩, Nat.le_of_ble_eq_true rfl, rfl⟩ (Nat.le_of_ble_eq_true rfl) (Nat.le_of_ble_eq_true rfl) (s_204 (a1 := v3) hI2 (show 0 ≤ v3 ∧ v3 ≤ 5 from ⟨hv3.1, (q_d63a8538e h_1 h_3)⟩) (fun y_11 hy_11 => (bk_inl (q_aload_n c_250_58 rfl (q_iload_n c_250_59 rfl (v_cv c_250_60 km_8_399 rfl rfl (Nat.le_of_ble_eq_true rfl) ⟨⟨rfl, rfl⟩, Nat.le_of_ble_eq_true rfl, rfl⟩ (Nat.le_of_ble_eq_true rfl) (Nat.le_of_ble_eq_true rfl) (s_204 (a1 := a1) hI2 (show 0 ≤ a1 ∧ a1 ≤ 5 from ⟨by first | (clear ha1 hv2 hv3 h_1 h_3 h_5 h_6 h_7 h_8 h_9 h_4 h_10; omega) | omega, by first | (clear ha1 hv2 hv3 h_1 h_3 h_5 h_6 h_7 h_8 h_9 h_4 h_10; omega) | omega⟩) (fun y_12 hy_12 => ?_)))))))))))
            refine bk_inl (v_isub (v := y_11 - y_12) c_250_63 rfl (v_nrm (fun y_13 hy_13 => (q_call c_250_64 rfl rfl rfl (q_iload_n c_225_0 rfl ?_)))))
            by_cases h_14 : y_13 ≥ 0
            · refine v_if_ge_t (t := 9) c_225_1 rfl ⟨of_decide_eq_true rfl, h_14, hy_13.2⟩ (q_iload_n c_225_9 rfl (q_iret c_225_10 rfl (bk_inl (q_aload_n c_250_67 rfl (q_iload_n c_250_68 rfl (v_cv c_250_69 km_8_399 rfl rfl (Nat.le_of_ble_eq_true rfl) ⟨⟨rfl, rfl⟩, Nat.le_of_ble_eq_true rfl, rfl⟩ (Nat.le_of_ble_eq_true rfl) (Nat.le_of_ble_eq_true rfl) (s_204 (a1 := v2) hI2 (show 0 ≤ v2 ∧ v2 ≤ 5 from ⟨(q_a0327fb45 h_10 hv2), hv2.2⟩) (fun y_15 hy_15 => (bk_inl ?_)))))))))
              refine q_aload_n c_250_72 rfl (q_iload_n c_250_73 rfl (v_cv c_250_74 km_8_399 rfl rfl (Nat.le_of_ble_eq_true rfl) ⟨⟨rfl, rfl⟩, Nat.le_of_ble_eq_true rfl, rfl⟩ (Nat.le_of_ble_eq_true rfl) (Nat.le_of_ble_eq_true rfl) (s_204 (a1 := a1) hI2 (show 0 ≤ a1 ∧ a1 ≤ 5 from ⟨by first | (clear ha1 hv2 hv3 h_1 h_3 h_5 h_6 h_7 h_8 h_9 h_14 h_4 h_10; omega) | omega, by first | (clear ha1 hv2 hv3 h_1 h_3 h_5 h_6 h_7 h_8 h_9 h_14 h_4 h_10; omega) | omega⟩) (fun y_16 hy_16 => (bk_inl (v_isub (v := y_15 - y_16) c_250_77 rfl (v_nrm (fun y_17 hy_17 => (q_call c_250_78 rfl rfl rfl (q_iload_n c_225_0 rfl ?_))))))))))
              by_cases h_18 : y_17 ≥ 0
              · refine v_if_ge_t (t := 9) c_225_1 rfl ⟨of_decide_eq_true rfl, h_18, hy_17.2⟩ (q_iload_n c_225_9 rfl (q_iret c_225_10 rfl (bk_inl ?_)))
                by_cases h_19 : y_13 ≥ y_17
                · refine v_ic_ge_t (t := 86) c_250_81 rfl ⟨hy_17.1, h_19, hy_13.2⟩ (v_iinc (v := v3 + 1) c_250_86 rfl (Nat.le_of_ble_eq_true rfl) rfl (q_goto (t := 27) c_250_89 rfl (Wp_ls [(0, .ref 41), (1, vi a1), (2, vi v2), (3, vi (v3 + 1))] (lsub_cons rfl (lsub_cons rfl (lsub_cons rfl (lsub_cons rfl lsub_nil)))) ?_)))
                  exact ih c2 v2 (v3 + 1) hI2 (fun a j hm => hF a j hm) hv2 ⟨(rgp_l hv3.1 (of_decide_eq_true rfl)), (q_4a76cd9c7 h_1 h_3)⟩ ⟨by first | (clear ha1 hv2 hv3 h_1 h_3 h_5 h_6 h_7 h_8 h_9 h_14 h_18 h_19 h_4 h_10; omega) | omega, by first | (clear ha1 hv2 hv3 h_1 h_3 h_5 h_6 h_7 h_8 h_9 h_14 h_18 h_19 h_4 h_10; omega) | omega⟩ (by omega)
                · refine v_ic_ge_f (t := 86) c_250_81 rfl ⟨hy_13.1, (Int.not_le.mp h_19), hy_17.2⟩ (q_iload_n c_250_84 rfl (q_istore_n c_250_85 (Nat.le_of_ble_eq_true rfl) (v_iinc (v := v3 + 1) c_250_86 rfl (Nat.le_of_ble_eq_true rfl) rfl (q_goto (t := 27) c_250_89 rfl (Wp_ls [(0, .ref 41), (1, vi a1), (2, vi v3), (3, vi (v3 + 1))] (lsub_cons rfl (lsub_cons rfl (lsub_cons rfl (lsub_cons rfl lsub_nil)))) ?_)))))
                  exact ih c2 v3 (v3 + 1) hI2 (fun a j hm => hF a j hm) ⟨(lel hv3.1 rfl), (q_d63a8538e h_1 h_3)⟩ ⟨(rgp_l hv3.1 (of_decide_eq_true rfl)), (q_4a76cd9c7 h_1 h_3)⟩ ⟨by first | (clear ha1 hv2 hv3 h_1 h_3 h_5 h_6 h_7 h_8 h_9 h_14 h_18 h_19 h_4 h_10; omega) | omega, by first | (clear ha1 hv2 hv3 h_1 h_3 h_5 h_6 h_7 h_8 h_9 h_14 h_18 h_19 h_4 h_10; omega) | omega⟩ (by omega)
              · refine v_if_ge_f (t := 9) c_225_1 rfl ⟨hy_17.1, (Int.not_le.mp h_18), of_decide_eq_true rfl⟩ (q_iload_n c_225_4 rfl (v_ineg (v := 0 - y_17) c_225_5 (by omega) (v_nrm (fun y_20 hy_20 => (q_goto (t := 10) c_225_6 rfl (q_iret c_225_10 rfl (bk_inl ?_)))))))
                by_cases h_21 : y_13 ≥ y_20
                · refine v_ic_ge_t (t := 86) c_250_81 rfl ⟨hy_20.1, h_21, hy_13.2⟩ (v_iinc (v := v3 + 1) c_250_86 rfl (Nat.le_of_ble_eq_true rfl) rfl (q_goto (t := 27) c_250_89 rfl (Wp_ls [(0, .ref 41), (1, vi a1), (2, vi v2), (3, vi (v3 + 1))] (lsub_cons rfl (lsub_cons rfl (lsub_cons rfl (lsub_cons rfl lsub_nil)))) ?_)))
                  exact ih c2 v2 (v3 + 1) hI2 (fun a j hm => hF a j hm) hv2 ⟨(rgp_l hv3.1 (of_decide_eq_true rfl)), (q_4a76cd9c7 h_1 h_3)⟩ ⟨by first | (clear ha1 hv2 hv3 h_1 h_3 h_5 h_6 h_7 h_8 h_9 h_14 h_18 h_21 h_4 h_10; omega) | omega, by first | (clear ha1 hv2 hv3 h_1 h_3 h_5 h_6 h_7 h_8 h_9 h_14 h_18 h_21 h_4 h_10; omega) | omega⟩ (by omega)
                · refine v_ic_ge_f (t := 86) c_250_81 rfl ⟨hy_13.1, (Int.not_le.mp h_21), hy_20.2⟩ (q_iload_n c_250_84 rfl (q_istore_n c_250_85 (Nat.le_of_ble_eq_true rfl) (v_iinc (v := v3 + 1) c_250_86 rfl (Nat.le_of_ble_eq_true rfl) rfl (q_goto (t := 27) c_250_89 rfl (Wp_ls [(0, .ref 41), (1, vi a1), (2, vi v3), (3, vi (v3 + 1))] (lsub_cons rfl (lsub_cons rfl (lsub_cons rfl (lsub_cons rfl lsub_nil)))) ?_)))))
                  exact ih c2 v3 (v3 + 1) hI2 (fun a j hm => hF a j hm) ⟨(lel hv3.1 rfl), (q_d63a8538e h_1 h_3)⟩ ⟨(rgp_l hv3.1 (of_decide_eq_true rfl)), (q_4a76cd9c7 h_1 h_3)⟩ ⟨by first | (clear ha1 hv2 hv3 h_1 h_3 h_5 h_6 h_7 h_8 h_9 h_14 h_18 h_21 h_4 h_10; omega) | omega, by first | (clear ha1 hv2 hv3 h_1 h_3 h_5 h_6 h_7 h_8 h_9 h_14 h_18 h_21 h_4 h_10; omega) | omega⟩ (by omega)
            · refine v_if_ge_f (t := 9) c_225_1 rfl ⟨hy_13.1, (Int.not_le.mp h_14), of_decide_eq_true rfl⟩ (q_iload_n c_225_4 rfl (v_ineg (v := 0 - y_13) c_225_5 (by omega) (v_nrm (fun y_22 hy_22 => (q_goto (t := 10) c_225_6 rfl (q_iret c_225_10 rfl (bk_inl (q_aload_n c_250_67 rfl ?_))))))))
              refine q_iload_n c_250_68 rfl (v_cv c_250_69 km_8_399 rfl rfl (Nat.le_of_ble_eq_true rfl) ⟨⟨rfl, rfl⟩, Nat.le_of_ble_eq_true rfl, rfl⟩ (Nat.le_of_ble_eq_true rfl) (Nat.le_of_ble_eq_true rfl) (s_204 (a1 := v2) hI2 (show 0 ≤ v2 ∧ v2 ≤ 5 from ⟨(q_a0327fb45 h_10 hv2), hv2.2⟩) (fun y_23 hy_23 => (bk_inl (q_aload_n c_250_72 rfl (q_iload_n c_250_73 rfl (v_cv c_250_74 km_8_399 rfl rfl (Nat.le_of_ble_eq_true rfl) ⟨⟨rfl, rfl⟩, Nat.le_of_ble_eq_true rfl, rfl⟩ (Nat.le_of_ble_eq_true rfl) (Nat.le_of_ble_eq_true rfl) (s_204 (a1 := a1) hI2 (show 0 ≤ a1 ∧ a1 ≤ 5 from ⟨by first | (clear ha1 hv2 hv3 h_1 h_3 h_5 h_6 h_7 h_8 h_9 h_14 h_4 h_10; omega) | omega, by first | (clear ha1 hv2 hv3 h_1 h_3 h_5 h_6 h_7 h_8 h_9 h_14 h_4 h_10; omega) | omega⟩) (fun y_24 hy_24 => (bk_inl (v_isub (v := y_23 - y_24) c_250_77 rfl ?_)))))))))))
              refine v_nrm (fun y_25 hy_25 => (q_call c_250_78 rfl rfl rfl (q_iload_n c_225_0 rfl ?_)))
              by_cases h_26 : y_25 ≥ 0
              · refine v_if_ge_t (t := 9) c_225_1 rfl ⟨of_decide_eq_true rfl, h_26, hy_25.2⟩ (q_iload_n c_225_9 rfl (q_iret c_225_10 rfl (bk_inl ?_)))
                by_cases h_27 : y_22 ≥ y_25
                · refine v_ic_ge_t (t := 86) c_250_81 rfl ⟨hy_25.1, h_27, hy_22.2⟩ (v_iinc (v := v3 + 1) c_250_86 rfl (Nat.le_of_ble_eq_true rfl) rfl (q_goto (t := 27) c_250_89 rfl (Wp_ls [(0, .ref 41), (1, vi a1), (2, vi v2), (3, vi (v3 + 1))] (lsub_cons rfl (lsub_cons rfl (lsub_cons rfl (lsub_cons rfl lsub_nil)))) ?_)))
                  exact ih c2 v2 (v3 + 1) hI2 (fun a j hm => hF a j hm) hv2 ⟨(rgp_l hv3.1 (of_decide_eq_true rfl)), (q_4a76cd9c7 h_1 h_3)⟩ ⟨by first | (clear ha1 hv2 hv3 h_1 h_3 h_5 h_6 h_7 h_8 h_9 h_14 h_26 h_27 h_4 h_10; omega) | omega, by first | (clear ha1 hv2 hv3 h_1 h_3 h_5 h_6 h_7 h_8 h_9 h_14 h_26 h_27 h_4 h_10; omega) | omega⟩ (by omega)
                · refine v_ic_ge_f (t := 86) c_250_81 rfl ⟨hy_22.1, (Int.not_le.mp h_27), hy_25.2⟩ (q_iload_n c_250_84 rfl (q_istore_n c_250_85 (Nat.le_of_ble_eq_true rfl) (v_iinc (v := v3 + 1) c_250_86 rfl (Nat.le_of_ble_eq_true rfl) rfl (q_goto (t := 27) c_250_89 rfl (Wp_ls [(0, .ref 41), (1, vi a1), (2, vi v3), (3, vi (v3 + 1))] (lsub_cons rfl (lsub_cons rfl (lsub_cons rfl (lsub_cons rfl lsub_nil)))) ?_)))))
                  exact ih c2 v3 (v3 + 1) hI2 (fun a j hm => hF a j hm) ⟨(lel hv3.1 rfl), (q_d63a8538e h_1 h_3)⟩ ⟨(rgp_l hv3.1 (of_decide_eq_true rfl)), (q_4a76cd9c7 h_1 h_3)⟩ ⟨by first | (clear ha1 hv2 hv3 h_1 h_3 h_5 h_6 h_7 h_8 h_9 h_14 h_26 h_27 h_4 h_10; omega) | omega, by first | (clear ha1 hv2 hv3 h_1 h_3 h_5 h_6 h_7 h_8 h_9 h_14 h_26 h_27 h_4 h_10; omega) | omega⟩ (by omega)
              · refine v_if_ge_f (t := 9) c_225_1 rfl ⟨hy_25.1, (Int.not_le.mp h_26), of_decide_eq_true rfl⟩ (q_iload_n c_225_4 rfl (v_ineg (v := 0 - y_25) c_225_5 (by omega) (v_nrm (fun y_28 hy_28 => (q_goto (t := 10) c_225_6 rfl (q_iret c_225_10 rfl (bk_inl ?_)))))))
                by_cases h_29 : y_22 ≥ y_28
                · refine v_ic_ge_t (t := 86) c_250_81 rfl ⟨hy_28.1, h_29, hy_22.2⟩ (v_iinc (v := v3 + 1) c_250_86 rfl (Nat.le_of_ble_eq_true rfl) rfl (q_goto (t := 27) c_250_89 rfl (Wp_ls [(0, .ref 41), (1, vi a1), (2, vi v2), (3, vi (v3 + 1))] (lsub_cons rfl (lsub_cons rfl (lsub_cons rfl (lsub_cons rfl lsub_nil)))) ?_)))
                  exact ih c2 v2 (v3 + 1) hI2 (fun a j hm => hF a j hm) hv2 ⟨(rgp_l hv3.1 (of_decide_eq_true rfl)), (q_4a76cd9c7 h_1 h_3)⟩ ⟨by first | (clear ha1 hv2 hv3 h_1 h_3 h_5 h_6 h_7 h_8 h_9 h_14 h_26 h_29 h_4 h_10; omega) | omega, by first | (clear ha1 hv2 hv3 h_1 h_3 h_5 h_6 h_7 h_8 h_9 h_14 h_26 h_29 h_4 h_10; omega) | omega⟩ (by omega)
                · refine v_ic_ge_f (t := 86) c_250_81 rfl ⟨hy_22.1, (Int.not_le.mp h_29), hy_28.2⟩ (q_iload_n c_250_84 rfl (q_istore_n c_250_85 (Nat.le_of_ble_eq_true rfl) (v_iinc (v := v3 + 1) c_250_86 rfl (Nat.le_of_ble_eq_true rfl) rfl (q_goto (t := 27) c_250_89 rfl (Wp_ls [(0, .ref 41), (1, vi a1), (2, vi v3), (3, vi (v3 + 1))] (lsub_cons rfl (lsub_cons rfl (lsub_cons rfl (lsub_cons rfl lsub_nil)))) ?_)))))
                  exact ih c2 v3 (v3 + 1) hI2 (fun a j hm => hF a j hm) ⟨(lel hv3.1 rfl), (q_d63a8538e h_1 h_3)⟩ ⟨(rgp_l hv3.1 (of_decide_eq_true rfl)), (q_4a76cd9c7 h_1 h_3)⟩ ⟨by first | (clear ha1 hv2 hv3 h_1 h_3 h_5 h_6 h_7 h_8 h_9 h_14 h_26 h_29 h_4 h_10; omega) | omega, by first | (clear ha1 hv2 hv3 h_1 h_3 h_5 h_6 h_7 h_8 h_9 h_14 h_26 h_29 h_4 h_10; omega) | omega⟩ (by omega)
set_option maxRecDepth 100000 in
set_option maxHeartbeats 4000000 in
theorem s_250 {sc : List Int32} {d P Q : Nat} {c : ME} {a1 : Int} {Z : AR → Prop} (hI : Iv 0 (-1) P Q c) (ha1 : (-2147483648) ≤ a1 ∧ a1 ≤ 2147483647) (K : ∀ (c2 : ME) (y : Int), Iv 0 (-1) P Q c2 → (∀ (a : Nat) (j : Int), ¬ ((a = 41 ∧ j = 0) ∨ a = 42 ∨ a = 59) → c2 a j = c a j) → (-2147483648) ≤ y ∧ y ≤ 2147483647 → Z (.inl (some (vi y)), Wd P Q P P c2, 0, 0)) : Wp sc (d + 9) 250 0 [(0, .ref 41), (1, vi a1)] [] (Wd P Q P P c) 0 0 Z := by
  have hP := iv_P hI
  have hQ := iv_Q hI
  refine q_aload_n c_250_0 rfl (q_iconst c_250_1 (v_pi (z := 0) c_250_2 kf_8_3 rfl (Nat.le_of_ble_eq_true rfl) rfl rfl rfl (of_decide_eq_true rfl) (q_aload_n c_250_5 rfl (q_iload_n c_250_6 rfl (q_aload_n c_250_7 rfl ?_)))))
  have h_30 := ir_41_20 hI
  refine v_gi (z := 20) (v := c 41 20) c_250_8 kf_8_157 rfl (Nat.le_of_ble_eq_true rfl) rfl rfl (up_n (ni rfl)) (v_cv c_250_11 km_8_396 rfl rfl (Nat.le_of_ble_eq_true rfl) ⟨⟨rfl, rfl⟩, Nat.le_of_ble_eq_true rfl, rfl⟩ (Nat.le_of_ble_eq_true rfl) (Nat.le_of_ble_eq_true rfl) (q_aload_n c_212_0 rfl (q_iload_n c_212_1 rfl (q_iconst c_212_2 (q_iload_n c_212_3 rfl (q_iconst c_212_4 (v_isub (v := c 41 20 - 1) c_212_5 rfl ?_)))))))
  refine q_call c_212_6 rfl rfl rfl (q_iload_n c_146_0 rfl (q_iload_n c_146_1 rfl ?_))
  by_cases h_31 : a1 < 0
  · refine v_ic_lt_t (t := 14) c_146_2 rfl ⟨ha1.1, h_31, of_decide_eq_true rfl⟩ (q_iconst c_146_14 (v_zret c_146_15 rfl (of_decide_eq_true rfl) (bk_inl (q_iconst c_212_9 (q_iconst c_212_10 (v_cv c_212_11 km_8_203 rfl rfl (Nat.le_of_ble_eq_true rfl) ⟨⟨rfl, rfl⟩, Nat.le_of_ble_eq_true rfl, rfl⟩ (Nat.le_of_ble_eq_true rfl) (Nat.le_of_ble_eq_true rfl) (q_iload_n c_145_0 rfl ?_)))))))
    refine v_if_ne_f (t := 26) c_145_1 rfl (of_decide_eq_true rfl) (q_aload_n c_145_4 rfl (v_gi (z := 0) (v := 0) c_145_5 kf_8_3 rfl (Nat.le_of_ble_eq_true rfl) rfl rfl (up_e rfl) (v_if_ne_f (t := 26) c_145_8 rfl (of_decide_eq_true rfl) (q_aload_n c_145_11 rfl (q_iload_n c_145_12 rfl (v_pi (z := 0) c_145_13 kf_8_3 rfl (Nat.le_of_ble_eq_true rfl) rfl rfl rfl (of_decide_eq_true rfl) (q_aload_n c_145_16 rfl ?_)))))))
    refine v_gr (t := 42) c_145_17 kf_8_7 rfl (Nat.le_of_ble_eq_true rfl) rfl (q_iload_n c_145_20 rfl (q_dup2 c_145_21 ⟨rfl, rfl⟩ ?_))
    have h_32 := ir_42 hI 0
    refine v_ia (v := c 42 0) c_145_22 rfl (of_decide_eq_true rfl) (of_decide_eq_true rfl) (of_decide_eq_true rfl) ((up_c (nn rfl)).trans (up_c (nn rfl))) (q_iconst c_145_23 (v_iadd (v := c 42 0 + 1) c_145_24 rfl (v_nrm (fun y_33 hy_33 => (v_is c_145_25 rfl (of_decide_eq_true rfl) (of_decide_eq_true rfl) (of_decide_eq_true rfl) (q_aload_n c_145_26 rfl (v_gi (z := 0) (v := 1) c_145_27 kf_8_3 rfl (Nat.le_of_ble_eq_true rfl) rfl rfl ((up_c (nn rfl)).trans (up_e rfl)) (v_if_ne_t (t := 37) c_145_30 rfl (of_decide_eq_true rfl) ?_))))))))
    refine q_iconst c_145_37 (v_zret c_145_38 rfl (of_decide_eq_true rfl) (bk_inl (v_zret c_212_14 rfl (of_decide_eq_true rfl) (bk_inl (v_if_ne_f (t := 19) c_250_14 rfl (of_decide_eq_true rfl) (q_iconst c_250_17 (q_iret c_250_18 rfl ?_)))))))
    have hI_34 := iw_41_0 (v := 0) hI ⟨of_decide_eq_true rfl, of_decide_eq_true rfl⟩
    have hI_35 := iw_41_0 (v := 1) hI_34 ⟨of_decide_eq_true rfl, of_decide_eq_true rfl⟩
    have hI_36 := iw_42 (j := 0) (v := y_33) hI_35 ⟨hy_33.1, hy_33.2⟩
    exact K (up (up (up c 41 0 0) 41 0 1) 42 0 y_33) 0 hI_36 (fun a j hm => (up_b (Decidable.or_iff_not_imp_left.mpr (fun h1 h2 => hm (Or.inr (Or.inl (Decidable.not_not.mp h1)))))).trans ((up_b (Decidable.or_iff_not_imp_left.mpr (fun h1 h2 => hm (Or.inl ⟨Decidable.not_not.mp h1, h2⟩)))).trans (up_b (Decidable.or_iff_not_imp_left.mpr (fun h1 h2 => hm (Or.inl ⟨Decidable.not_not.mp h1, h2⟩)))))) ⟨of_decide_eq_true rfl, of_decide_eq_true rfl⟩
  · refine v_ic_lt_f (t := 14) c_146_2 rfl ⟨of_decide_eq_true rfl, (Int.not_lt.mp h_31), ha1.2⟩ (q_iload_n c_146_5 rfl (q_iload_n c_146_6 rfl ?_))
    by_cases h_37 : a1 > c 41 20 - 1
    · refine v_ic_gt_t (t := 14) c_146_7 rfl ⟨(rgm_l h_30.1 (of_decide_eq_true rfl)), h_37, ha1.2⟩ (q_iconst c_146_14 (v_zret c_146_15 rfl (of_decide_eq_true rfl) (bk_inl (q_iconst c_212_9 (q_iconst c_212_10 (v_cv c_212_11 km_8_203 rfl rfl (Nat.le_of_ble_eq_true rfl) ⟨⟨rfl, rfl⟩, Nat.le_of_ble_eq_true rfl, rfl⟩ (Nat.le_of_ble_eq_true rfl) (Nat.le_of_ble_eq_true rfl) (q_iload_n c_145_0 rfl ?_)))))))
      refine v_if_ne_f (t := 26) c_145_1 rfl (of_decide_eq_true rfl) (q_aload_n c_145_4 rfl (v_gi (z := 0) (v := 0) c_145_5 kf_8_3 rfl (Nat.le_of_ble_eq_true rfl) rfl rfl (up_e rfl) (v_if_ne_f (t := 26) c_145_8 rfl (of_decide_eq_true rfl) (q_aload_n c_145_11 rfl (q_iload_n c_145_12 rfl (v_pi (z := 0) c_145_13 kf_8_3 rfl (Nat.le_of_ble_eq_true rfl) rfl rfl rfl (of_decide_eq_true rfl) (q_aload_n c_145_16 rfl ?_)))))))
      refine v_gr (t := 42) c_145_17 kf_8_7 rfl (Nat.le_of_ble_eq_true rfl) rfl (q_iload_n c_145_20 rfl (q_dup2 c_145_21 ⟨rfl, rfl⟩ ?_))
      have h_38 := ir_42 hI 0
      refine v_ia (v := c 42 0) c_145_22 rfl (of_decide_eq_true rfl) (of_decide_eq_true rfl) (of_decide_eq_true rfl) ((up_c (nn rfl)).trans (up_c (nn rfl))) (q_iconst c_145_23 (v_iadd (v := c 42 0 + 1) c_145_24 rfl (v_nrm (fun y_39 hy_39 => (v_is c_145_25 rfl (of_decide_eq_true rfl) (of_decide_eq_true rfl) (of_decide_eq_true rfl) (q_aload_n c_145_26 rfl (v_gi (z := 0) (v := 1) c_145_27 kf_8_3 rfl (Nat.le_of_ble_eq_true rfl) rfl rfl ((up_c (nn rfl)).trans (up_e rfl)) (v_if_ne_t (t := 37) c_145_30 rfl (of_decide_eq_true rfl) ?_))))))))
      refine q_iconst c_145_37 (v_zret c_145_38 rfl (of_decide_eq_true rfl) (bk_inl (v_zret c_212_14 rfl (of_decide_eq_true rfl) (bk_inl (v_if_ne_f (t := 19) c_250_14 rfl (of_decide_eq_true rfl) (q_iconst c_250_17 (q_iret c_250_18 rfl ?_)))))))
      have hI_40 := iw_41_0 (v := 0) hI ⟨of_decide_eq_true rfl, of_decide_eq_true rfl⟩
      have hI_41 := iw_41_0 (v := 1) hI_40 ⟨of_decide_eq_true rfl, of_decide_eq_true rfl⟩
      have hI_42 := iw_42 (j := 0) (v := y_39) hI_41 ⟨hy_39.1, hy_39.2⟩
      exact K (up (up (up c 41 0 0) 41 0 1) 42 0 y_39) 0 hI_42 (fun a j hm => (up_b (Decidable.or_iff_not_imp_left.mpr (fun h1 h2 => hm (Or.inr (Or.inl (Decidable.not_not.mp h1)))))).trans ((up_b (Decidable.or_iff_not_imp_left.mpr (fun h1 h2 => hm (Or.inl ⟨Decidable.not_not.mp h1, h2⟩)))).trans (up_b (Decidable.or_iff_not_imp_left.mpr (fun h1 h2 => hm (Or.inl ⟨Decidable.not_not.mp h1, h2⟩)))))) ⟨of_decide_eq_true rfl, of_decide_eq_true rfl⟩
    · refine v_ic_gt_f (t := 14) c_146_7 rfl ⟨ha1.1, (Int.not_lt.mp h_37), (rgm_h h_30.2 (of_decide_eq_true rfl))⟩ (q_iconst c_146_10 (q_goto (t := 15) c_146_11 rfl (v_zret c_146_15 rfl (of_decide_eq_true rfl) (bk_inl (q_iconst c_212_9 (q_iconst c_212_10 (v_cv c_212_11 km_8_203 rfl rfl (Nat.le_of_ble_eq_true rfl) ⟨⟨rfl, rfl⟩, Nat.le_of_ble_eq_true rfl, rfl⟩ (Nat.le_of_ble_eq_true rfl) (Nat.le_of_ble_eq_true rfl) ?_)))))))
      refine q_iload_n c_145_0 rfl (v_if_ne_t (t := 26) c_145_1 rfl (of_decide_eq_true rfl) (q_aload_n c_145_26 rfl (v_gi (z := 0) (v := 0) c_145_27 kf_8_3 rfl (Nat.le_of_ble_eq_true rfl) rfl rfl (up_e rfl) (v_if_ne_f (t := 37) c_145_30 rfl (of_decide_eq_true rfl) (q_iconst c_145_33 (q_goto (t := 38) c_145_34 rfl (v_zret c_145_38 rfl (of_decide_eq_true rfl) ?_)))))))
      refine bk_inl (v_zret c_212_14 rfl (of_decide_eq_true rfl) (bk_inl (v_if_ne_t (t := 19) c_250_14 rfl (of_decide_eq_true rfl) (q_aload_n c_250_19 rfl ?_))))
      have hI_43 := iw_41_0 (v := 0) hI ⟨of_decide_eq_true rfl, of_decide_eq_true rfl⟩
      refine v_cv c_250_20 km_8_317 rfl rfl (Nat.le_of_ble_eq_true rfl) ⟨⟨rfl, rfl⟩, Nat.le_of_ble_eq_true rfl, rfl⟩ (Nat.le_of_ble_eq_true rfl) (Nat.le_of_ble_eq_true rfl) (s_186 hI_43 (fun c_44 hI_45 hF_46 => (bk_inl (q_iconst c_250_23 (q_istore_n c_250_24 (Nat.le_of_ble_eq_true rfl) (q_iconst c_250_25 (q_istore_n c_250_26 (Nat.le_of_ble_eq_true rfl) (Wp_ls [(0, .ref 41), (1, vi a1), (2, vi (-1)), (3, vi 0)] (lsub_cons rfl (lsub_cons rfl (lsub_cons rfl (lsub_cons rfl lsub_nil)))) ?_))))))))
      exact (s_250_l (sc := sc) (d := d) hI ha1 K 16) c_44 (-1) 0 hI_45 (fun a j hm => (hF_46 a j (fun h => hm (Or.inr (Or.inr h)))).trans (up_b (Decidable.or_iff_not_imp_left.mpr (fun h1 h2 => hm (Or.inl ⟨Decidable.not_not.mp h1, h2⟩))))) ⟨of_decide_eq_true rfl, of_decide_eq_true rfl⟩ ⟨of_decide_eq_true rfl, of_decide_eq_true rfl⟩ ⟨(q_720657ba9 h_31), (q_3a2e67ab0 h_30 h_37)⟩ (by omega)

set_option maxRecDepth 100000 in
set_option maxHeartbeats 4000000 in
theorem s_251_l {sc : List Int32} {d P Q : Nat} {c : ME} {a1 : Int} {a2 : Int} {Z : AR → Prop} (hI : Iv 0 (-1) P Q c) (ha1 : (-2147483648) ≤ a1 ∧ a1 ≤ 2147483647) (ha2 : (-2147483648) ≤ a2 ∧ a2 ≤ 2147483647) (K : ∀ (c2 : ME) (y : Int), Iv 0 (-1) P Q c2 → (∀ (a : Nat) (j : Int), ¬ ((a = 41 ∧ j = 0) ∨ a = 42 ∨ a = 59) → c2 a j = c a j) → (-2147483648) ≤ y ∧ y ≤ 2147483647 → Z (.inl (some (vi y)), Wd P Q P P c2, 0, 0)) : ∀ n : Nat, (∀ (c2 : ME) (v3 : Int) (v4 : Int), Iv 0 (-1) P Q c2 → (∀ (a : Nat) (j : Int), ¬ ((a = 41 ∧ j = 0) ∨ a = 42 ∨ a = 59) → c2 a j = c a j) → (-2147483648) ≤ v3 ∧ v3 ≤ 2147483647 → 0 ≤ v4 ∧ v4 ≤ 6 → ((a1 ≥ 0 ∧ a1 ≤ 3)) → 13 - 2 * v4 < (n : Int) → Wp sc (d + 9) 251 43 [(0, .ref 41), (1, vi a1), (2, vi a2), (3, vi v3), (4, vi v4)] [] (Wd P Q P P c2) 0 0 Z) := by
  intro n
  induction n with
  | zero => exact (by intro c2 v3 v4 hI2 hF hv3 hv4 hx0 hm9; have hP := iv_P hI; have hQ := iv_Q hI; exfalso; omega)
  | succ n ih =>
    have hP := iv_P hI
    have hQ := iv_Q hI
    intro c2 v3 v4 hI2 hF hv3 hv4 hx0 hm9
    refine q_iload c_251_43 rfl (q_aload_n c_251_45 rfl ?_)
    have h_1 := ir_41_20 hI
    have kn_2 : Hid (c2 41 20 = c 41 20) := hF 41 20 qn_110b29ed6
    refine v_gi (z := 20) (v := c 41 20) c_251_46 kf_8_157 rfl (Nat.le_of_ble_eq_true rfl) rfl rfl (hid kn_2) ?_
    by_cases h_3 : v4 ≥ c 41 20
    · refine v_ic_ge_t (t := 68) c_251_49 rfl ⟨(q_730ab5169 h_1), h_3, (ler hv4.2 rfl)⟩ (q_iload_n c_251_68 rfl ?_)
      by_cases h_4 : a2 ≠ 0
      · refine v_if_ne_t (t := 76) c_251_69 rfl ⟨h_4, ⟨ha2.1, ha2.2⟩, of_decide_eq_true rfl, of_decide_eq_true rfl⟩ (q_aload_n c_251_76 rfl (v_cv c_251_77 km_8_387 rfl rfl (Nat.le_of_ble_eq_true rfl) ⟨⟨rfl, rfl⟩, Nat.le_of_ble_eq_true rfl, rfl⟩ (Nat.le_of_ble_eq_true rfl) (Nat.le_of_ble_eq_true rfl) (s_203 hI2 (fun y_5 hy_5 => (bk_inl (q_iload_n c_251_80 rfl (v_isub (v := y_5 - v3) c_251_81 rfl (v_nrm (fun y_6 hy_6 => (q_iret c_251_82 rfl ?_))))))))))
        exact K c2 y_6 hI2 (fun a j hm => hF a j hm) hy_6
      · refine v_if_ne_f (t := 76) c_251_69 rfl (Decidable.not_not.mp h_4) (q_iload_n c_251_72 rfl (q_goto (t := 82) c_251_73 rfl (q_iret c_251_82 rfl ?_)))
        exact K c2 v3 hI2 (fun a j hm => hF a j hm) hv3
    · refine v_ic_ge_f (t := 68) c_251_49 rfl ⟨(lel hv4.1 rfl), (Int.not_le.mp h_3), (q_b289b7db2 h_1)⟩ (q_iload_n c_251_52 rfl (q_aload_n c_251_53 rfl (q_iload_n c_251_54 rfl (q_iload c_251_55 rfl ?_))))
      have h_7 := ir_49 hI a1
      have kn_8 : Hid (c2 49 a1 = c 49 a1) := hF 49 a1 qn_556c7ab22
      have h_9 := ir_59 hI2 (a1 + 30)
      have h_10 := ir_59_g hI2 (j := 4 * v4) ((q_aa51b186e h_1 h_3))
      have h_11 := ir_59_g hI2 (j := 4 * v4 + 1) ((q_57851f9de h_1 h_3))
      have h_12 := ir_59_g hI2 (j := 4 * v4 + 2) ((q_7296e74e6 h_1 h_3))
      have h_13 := ir_59_g hI2 (j := 4 * v4 + 3) ((q_b15525c4c h_1 h_3))
      have h_14 := fal_rng (m := c 49 a1) (t := c2 59 (a1 + 30)) (g := 0) (x := c2 59 (4 * v4)) ((q_c6ed8760d h_10))
      have h_15 := fal_rng (m := c 49 a1) (t := c2 59 (a1 + 30)) (g := 1) (x := c2 59 (4 * v4 + 1)) ((q_c6ed8760d h_11))
      have h_16 := fal_rng (m := c 49 a1) (t := c2 59 (a1 + 30)) (g := 2) (x := c2 59 (4 * v4 + 2)) ((q_c6ed8760d h_12))
      have h_17 := fal_rng (m := c 49 a1) (t := c2 59 (a1 + 30)) (g := 3) (x := c2 59 (4 * v4 + 3)) ((q_c6ed8760d h_13))
      refine v_cv c_251_57 km_8_366 rfl rfl (Nat.le_of_ble_eq_true rfl) ⟨⟨rfl, rfl⟩, Nat.le_of_ble_eq_true rfl, rfl⟩ (Nat.le_of_ble_eq_true rfl) (Nat.le_of_ble_eq_true rfl) (s_190 (v1 := c 49 a1) (v2 := c2 59 (a1 + 30)) (v3 := c2 59 (4 * v4)) (v4 := c2 59 (4 * v4 + 1)) (v5 := c2 59 (4 * v4 + 2)) (v6 := c2 59 (4 * v4 + 3)) (r := (fal (c 49 a1) (c2 59 (a1 + 30)) 0 (c2 59 (4 * v4))) + (fal (c 49 a1) (c2 59 (a1 + 30)) 1 (c2 59 (4 * v4 + 1))) + (fal (c 49 a1) (c2 59 (a1 + 30)) 2 (c2 59 (4 * v4 + 2))) + (fal (c 49 a1) (c2 59 (a1 + 30)) 3 (c2 59 (4 * v4 + 3)))) (a1 := a1) (a2 := v4) hI2 (show 0 ≤ a1 ∧ a1 ≤ 3 from ⟨by omega, by omega⟩) (show 0 ≤ v4 ∧ v4 ≤ 5 from ⟨hv4.1, (q_d63a8538e h_1 h_3)⟩) ((hid kn_8)) (rfl) (rfl) (rfl) (rfl) (rfl) rfl (bk_inl (v_iadd (v := (fal (c 49 a1) (c2 59 (a1 + 30)) 0 (c2 59 (4 * v4))) + (fal (c 49 a1) (c2 59 (a1 + 30)) 1 (c2 59 (4 * v4 + 1))) + (fal (c 49 a1) (c2 59 (a1 + 30)) 2 (c2 59 (4 * v4 + 2))) + (fal (c 49 a1) (c2 59 (a1 + 30)) 3 (c2 59 (4 * v4 + 3))) + v3) rfl (by first | (clear ha1 ha2 hv3 hv4 hx0 h_1 h_3 h_7 h_9 h_10 h_11 h_12 h_13 h_14 h_15 h_16 h_17; omega) | omega) (v_nrm (fun y_18 hy_18 => (q_istore_n c_251_61 (Nat.le_of_ble_eq_true rfl) (v_iinc (v := v4 + 1) c_251_62 rfl (Nat.le_of_ble_eq_true rfl) rfl (q_goto (t := 43) c_251_65 rfl (Wp_ls [(0, .ref 41), (1, vi a1), (2, vi a2), (3, vi y_18), (4, vi (v4 + 1))] (lsub_cons rfl (lsub_cons rfl (lsub_cons rfl (lsub_cons rfl (lsub_cons rfl lsub_nil))))) ?_)))))))))
      exact ih c2 y_18 (v4 + 1) hI2 (fun a j hm => hF a j hm) hy_18 ⟨(rgp_l hv4.1 (of_decide_eq_true rfl)), (q_4a76cd9c7 h_1 h_3)⟩ ⟨by first | (clear ha1 ha2 hv3 hv4 h_1 h_3 h_7 h_9 h_10 h_11 h_12 h_13 h_14 h_15 h_16 h_17; omega) | omega, by first | (clear ha1 ha2 hv3 hv4 h_1 h_3 h_7 h_9 h_10 h_11 h_12 h_13 h_14 h_15 h_16 h_17; omega) | omega⟩ (by omega)
set_option maxRecDepth 100000 in
set_option maxHeartbeats 4000000 in
theorem s_251 {sc : List Int32} {d P Q : Nat} {c : ME} {a1 : Int} {a2 : Int} {Z : AR → Prop} (hI : Iv 0 (-1) P Q c) (ha1 : (-2147483648) ≤ a1 ∧ a1 ≤ 2147483647) (ha2 : (-2147483648) ≤ a2 ∧ a2 ≤ 2147483647) (K : ∀ (c2 : ME) (y : Int), Iv 0 (-1) P Q c2 → (∀ (a : Nat) (j : Int), ¬ ((a = 41 ∧ j = 0) ∨ a = 42 ∨ a = 59) → c2 a j = c a j) → (-2147483648) ≤ y ∧ y ≤ 2147483647 → Z (.inl (some (vi y)), Wd P Q P P c2, 0, 0)) : Wp sc (d + 9) 251 0 [(0, .ref 41), (1, vi a1), (2, vi a2)] [] (Wd P Q P P c) 0 0 Z := by
  have hP := iv_P hI
  have hQ := iv_Q hI
  refine q_aload_n c_251_0 rfl (q_iconst c_251_1 (v_pi (z := 0) c_251_2 kf_8_3 rfl (Nat.le_of_ble_eq_true rfl) rfl rfl rfl (of_decide_eq_true rfl) (q_aload_n c_251_5 rfl (q_iload_n c_251_6 rfl (q_aload_n c_251_7 rfl ?_)))))
  have h_19 := ir_41_22 hI
  refine v_gi (z := 22) (v := c 41 22) c_251_8 kf_8_163 rfl (Nat.le_of_ble_eq_true rfl) rfl rfl (up_n (ni rfl)) (v_cv c_251_11 km_8_396 rfl rfl (Nat.le_of_ble_eq_true rfl) ⟨⟨rfl, rfl⟩, Nat.le_of_ble_eq_true rfl, rfl⟩ (Nat.le_of_ble_eq_true rfl) (Nat.le_of_ble_eq_true rfl) (q_aload_n c_212_0 rfl (q_iload_n c_212_1 rfl (q_iconst c_212_2 (q_iload_n c_212_3 rfl (q_iconst c_212_4 (v_isub (v := c 41 22 - 1) c_212_5 rfl ?_)))))))
  refine q_call c_212_6 rfl rfl rfl (q_iload_n c_146_0 rfl (q_iload_n c_146_1 rfl ?_))
  by_cases h_20 : a1 < 0
  · refine v_ic_lt_t (t := 14) c_146_2 rfl ⟨ha1.1, h_20, of_decide_eq_true rfl⟩ (q_iconst c_146_14 (v_zret c_146_15 rfl (of_decide_eq_true rfl) (bk_inl (q_iconst c_212_9 (q_iconst c_212_10 (v_cv c_212_11 km_8_203 rfl rfl (Nat.le_of_ble_eq_true rfl) ⟨⟨rfl, rfl⟩, Nat.le_of_ble_eq_true rfl, rfl⟩ (Nat.le_of_ble_eq_true rfl) (Nat.le_of_ble_eq_true rfl) (q_iload_n c_145_0 rfl ?_)))))))
    refine v_if_ne_f (t := 26) c_145_1 rfl (of_decide_eq_true rfl) (q_aload_n c_145_4 rfl (v_gi (z := 0) (v := 0) c_145_5 kf_8_3 rfl (Nat.le_of_ble_eq_true rfl) rfl rfl (up_e rfl) (v_if_ne_f (t := 26) c_145_8 rfl (of_decide_eq_true rfl) (q_aload_n c_145_11 rfl (q_iload_n c_145_12 rfl (v_pi (z := 0) c_145_13 kf_8_3 rfl (Nat.le_of_ble_eq_true rfl) rfl rfl rfl (of_decide_eq_true rfl) (q_aload_n c_145_16 rfl ?_)))))))
    refine v_gr (t := 42) c_145_17 kf_8_7 rfl (Nat.le_of_ble_eq_true rfl) rfl (q_iload_n c_145_20 rfl (q_dup2 c_145_21 ⟨rfl, rfl⟩ ?_))
    have h_21 := ir_42 hI 0
    refine v_ia (v := c 42 0) c_145_22 rfl (of_decide_eq_true rfl) (of_decide_eq_true rfl) (of_decide_eq_true rfl) ((up_c (nn rfl)).trans (up_c (nn rfl))) (q_iconst c_145_23 (v_iadd (v := c 42 0 + 1) c_145_24 rfl (v_nrm (fun y_22 hy_22 => (v_is c_145_25 rfl (of_decide_eq_true rfl) (of_decide_eq_true rfl) (of_decide_eq_true rfl) (q_aload_n c_145_26 rfl (v_gi (z := 0) (v := 1) c_145_27 kf_8_3 rfl (Nat.le_of_ble_eq_true rfl) rfl rfl ((up_c (nn rfl)).trans (up_e rfl)) (v_if_ne_t (t := 37) c_145_30 rfl (of_decide_eq_true rfl) ?_))))))))
    refine q_iconst c_145_37 (v_zret c_145_38 rfl (of_decide_eq_true rfl) (bk_inl (v_zret c_212_14 rfl (of_decide_eq_true rfl) (bk_inl (v_if_eq_t (t := 32) c_251_14 rfl (of_decide_eq_true rfl) (q_iconst c_251_32 (q_iret c_251_33 rfl ?_)))))))
    have hI_23 := iw_41_0 (v := 0) hI ⟨of_decide_eq_true rfl, of_decide_eq_true rfl⟩
    have hI_24 := iw_41_0 (v := 1) hI_23 ⟨of_decide_eq_true rfl, of_decide_eq_true rfl⟩
    have hI_25 := iw_42 (j := 0) (v := y_22) hI_24 ⟨hy_22.1, hy_22.2⟩
    exact K (up (up (up c 41 0 0) 41 0 1) 42 0 y_22) 0 hI_25 (fun a j hm => (up_b (Decidable.or_iff_not_imp_left.mpr (fun h1 h2 => hm (Or.inr (Or.inl (Decidable.not_not.mp h1)))))).trans ((up_b (Decidable.or_iff_not_imp_left.mpr (fun h1 h2 => hm (Or.inl ⟨Decidable.not_not.mp h1, h2⟩)))).trans (up_b (Decidable.or_iff_not_imp_left.mpr (fun h1 h2 => hm (Or.inl ⟨Decidable.not_not.mp h1, h2⟩)))))) ⟨of_decide_eq_true rfl, of_decide_eq_true rfl⟩
  · refine v_ic_lt_f (t := 14) c_146_2 rfl ⟨of_decide_eq_true rfl, (Int.not_lt.mp h_20), ha1.2⟩ (q_iload_n c_146_5 rfl (q_iload_n c_146_6 rfl ?_))
    by_cases h_26 : a1 > c 41 22 - 1
    · refine v_ic_gt_t (t := 14) c_146_7 rfl ⟨(rgm_l h_19.1 (of_decide_eq_true rfl)), h_26, ha1.2⟩ (q_iconst c_146_14 (v_zret c_146_15 rfl (of_decide_eq_true rfl) (bk_inl (q_iconst c_212_9 (q_iconst c_212_10 (v_cv c_212_11 km_8_203 rfl rfl (Nat.le_of_ble_eq_true rfl) ⟨⟨rfl, rfl⟩, Nat.le_of_ble_eq_true rfl, rfl⟩ (Nat.le_of_ble_eq_true rfl) (Nat.le_of_ble_eq_true rfl) (q_iload_n c_145_0 rfl ?_)))))))
      refine v_if_ne_f (t := 26) c_145_1 rfl (of_decide_eq_true rfl) (q_aload_n c_145_4 rfl (v_gi (z := 0) (v := 0) c_145_5 kf_8_3 rfl (Nat.le_of_ble_eq_true rfl) rfl rfl (up_e rfl) (v_if_ne_f (t := 26) c_145_8 rfl (of_decide_eq_true rfl) (q_aload_n c_145_11 rfl (q_iload_n c_145_12 rfl (v_pi (z := 0) c_145_13 kf_8_3 rfl (Nat.le_of_ble_eq_true rfl) rfl rfl rfl (of_decide_eq_true rfl) (q_aload_n c_145_16 rfl ?_)))))))
      refine v_gr (t := 42) c_145_17 kf_8_7 rfl (Nat.le_of_ble_eq_true rfl) rfl (q_iload_n c_145_20 rfl (q_dup2 c_145_21 ⟨rfl, rfl⟩ ?_))
      have h_27 := ir_42 hI 0
      refine v_ia (v := c 42 0) c_145_22 rfl (of_decide_eq_true rfl) (of_decide_eq_true rfl) (of_decide_eq_true rfl) ((up_c (nn rfl)).trans (up_c (nn rfl))) (q_iconst c_145_23 (v_iadd (v := c 42 0 + 1) c_145_24 rfl (v_nrm (fun y_28 hy_28 => (v_is c_145_25 rfl (of_decide_eq_true rfl) (of_decide_eq_true rfl) (of_decide_eq_true rfl) (q_aload_n c_145_26 rfl (v_gi (z := 0) (v := 1) c_145_27 kf_8_3 rfl (Nat.le_of_ble_eq_true rfl) rfl rfl ((up_c (nn rfl)).trans (up_e rfl)) (v_if_ne_t (t := 37) c_145_30 rfl (of_decide_eq_true rfl) ?_))))))))
      refine q_iconst c_145_37 (v_zret c_145_38 rfl (of_decide_eq_true rfl) (bk_inl (v_zret c_212_14 rfl (of_decide_eq_true rfl) (bk_inl (v_if_eq_t (t := 32) c_251_14 rfl (of_decide_eq_true rfl) (q_iconst c_251_32 (q_iret c_251_33 rfl ?_)))))))
      have hI_29 := iw_41_0 (v := 0) hI ⟨of_decide_eq_true rfl, of_decide_eq_true rfl⟩
      have hI_30 := iw_41_0 (v := 1) hI_29 ⟨of_decide_eq_true rfl, of_decide_eq_true rfl⟩
      have hI_31 := iw_42 (j := 0) (v := y_28) hI_30 ⟨hy_28.1, hy_28.2⟩
      exact K (up (up (up c 41 0 0) 41 0 1) 42 0 y_28) 0 hI_31 (fun a j hm => (up_b (Decidable.or_iff_not_imp_left.mpr (fun h1 h2 => hm (Or.inr (Or.inl (Decidable.not_not.mp h1)))))).trans ((up_b (Decidable.or_iff_not_imp_left.mpr (fun h1 h2 => hm (Or.inl ⟨Decidable.not_not.mp h1, h2⟩)))).trans (up_b (Decidable.or_iff_not_imp_left.mpr (fun h1 h2 => hm (Or.inl ⟨Decidable.not_not.mp h1, h2⟩)))))) ⟨of_decide_eq_true rfl, of_decide_eq_true rfl⟩
    · refine v_ic_gt_f (t := 14) c_146_7 rfl ⟨ha1.1, (Int.not_lt.mp h_26), (rgm_h h_19.2 (of_decide_eq_true rfl))⟩ (q_iconst c_146_10 (q_goto (t := 15) c_146_11 rfl (v_zret c_146_15 rfl (of_decide_eq_true rfl) (bk_inl (q_iconst c_212_9 (q_iconst c_212_10 (v_cv c_212_11 km_8_203 rfl rfl (Nat.le_of_ble_eq_true rfl) ⟨⟨rfl, rfl⟩, Nat.le_of_ble_eq_true rfl, rfl⟩ (Nat.le_of_ble_eq_true rfl) (Nat.le_of_ble_eq_true rfl) ?_)))))))
      refine q_iload_n c_145_0 rfl (v_if_ne_t (t := 26) c_145_1 rfl (of_decide_eq_true rfl) (q_aload_n c_145_26 rfl (v_gi (z := 0) (v := 0) c_145_27 kf_8_3 rfl (Nat.le_of_ble_eq_true rfl) rfl rfl (up_e rfl) (v_if_ne_f (t := 37) c_145_30 rfl (of_decide_eq_true rfl) (q_iconst c_145_33 (q_goto (t := 38) c_145_34 rfl (v_zret c_145_38 rfl (of_decide_eq_true rfl) ?_)))))))
      refine bk_inl (v_zret c_212_14 rfl (of_decide_eq_true rfl) (bk_inl (v_if_eq_f (t := 32) c_251_14 rfl (of_decide_eq_true rfl) (q_aload_n c_251_17 rfl (q_iload_n c_251_18 rfl (q_iconst c_251_19 (q_iconst c_251_20 ?_)))))))
      refine q_call c_251_21 rfl rfl rfl (q_iload_n c_146_0 rfl (q_iload_n c_146_1 rfl ?_))
      by_cases h_32 : a2 < 0
      · refine v_ic_lt_t (t := 14) c_146_2 rfl ⟨ha2.1, h_32, of_decide_eq_true rfl⟩ (q_iconst c_146_14 (v_zret c_146_15 rfl (of_decide_eq_true rfl) (bk_inl (q_iconst c_251_24 (q_iconst c_251_25 (v_cv c_251_26 km_8_203 rfl rfl (Nat.le_of_ble_eq_true rfl) ⟨⟨rfl, rfl⟩, Nat.le_of_ble_eq_true rfl, rfl⟩ (Nat.le_of_ble_eq_true rfl) (Nat.le_of_ble_eq_true rfl) (q_iload_n c_145_0 rfl ?_)))))))
        refine v_if_ne_f (t := 26) c_145_1 rfl (of_decide_eq_true rfl) (q_aload_n c_145_4 rfl (v_gi (z := 0) (v := 0) c_145_5 kf_8_3 rfl (Nat.le_of_ble_eq_true rfl) rfl rfl (up_e rfl) (v_if_ne_f (t := 26) c_145_8 rfl (of_decide_eq_true rfl) (q_aload_n c_145_11 rfl (q_iload_n c_145_12 rfl (v_pi (z := 0) c_145_13 kf_8_3 rfl (Nat.le_of_ble_eq_true rfl) rfl rfl rfl (of_decide_eq_true rfl) (q_aload_n c_145_16 rfl ?_)))))))
        refine v_gr (t := 42) c_145_17 kf_8_7 rfl (Nat.le_of_ble_eq_true rfl) rfl (q_iload_n c_145_20 rfl (q_dup2 c_145_21 ⟨rfl, rfl⟩ ?_))
        have h_33 := ir_42 hI 1
        refine v_ia (v := c 42 1) c_145_22 rfl (of_decide_eq_true rfl) (of_decide_eq_true rfl) (of_decide_eq_true rfl) ((up_c (nn rfl)).trans (up_c (nn rfl))) (q_iconst c_145_23 (v_iadd (v := c 42 1 + 1) c_145_24 rfl (v_nrm (fun y_34 hy_34 => (v_is c_145_25 rfl (of_decide_eq_true rfl) (of_decide_eq_true rfl) (of_decide_eq_true rfl) (q_aload_n c_145_26 rfl (v_gi (z := 0) (v := 2) c_145_27 kf_8_3 rfl (Nat.le_of_ble_eq_true rfl) rfl rfl ((up_c (nn rfl)).trans (up_e rfl)) (v_if_ne_t (t := 37) c_145_30 rfl (of_decide_eq_true rfl) ?_))))))))
        refine q_iconst c_145_37 (v_zret c_145_38 rfl (of_decide_eq_true rfl) (bk_inl (v_if_ne_f (t := 34) c_251_29 rfl (of_decide_eq_true rfl) (q_iconst c_251_32 (q_iret c_251_33 rfl ?_)))))
        have hI_35 := iw_41_0 (v := 0) hI ⟨of_decide_eq_true rfl, of_decide_eq_true rfl⟩
        have hI_36 := iw_41_0 (v := 2) hI_35 ⟨of_decide_eq_true rfl, of_decide_eq_true rfl⟩
        have hI_37 := iw_42 (j := 1) (v := y_34) hI_36 ⟨hy_34.1, hy_34.2⟩
        exact K (up (up (up c 41 0 0) 41 0 2) 42 1 y_34) 0 hI_37 (fun a j hm => (up_b (Decidable.or_iff_not_imp_left.mpr (fun h1 h2 => hm (Or.inr (Or.inl (Decidable.not_not.mp h1)))))).trans ((up_b (Decidable.or_iff_not_imp_left.mpr (fun h1 h2 => hm (Or.inl ⟨Decidable.not_not.mp h1, h2⟩)))).trans (up_b (Decidable.or_iff_not_imp_left.mpr (fun h1 h2 => hm (Or.inl ⟨Decidable.not_not.mp h1, h2⟩)))))) ⟨of_decide_eq_true rfl, of_decide_eq_true rfl⟩
      · refine v_ic_lt_f (t := 14) c_146_2 rfl ⟨of_decide_eq_true rfl, (Int.not_lt.mp h_32), ha2.2⟩ (q_iload_n c_146_5 rfl (q_iload_n c_146_6 rfl ?_))
        by_cases h_38 : a2 > 1
        · refine v_ic_gt_t (t := 14) c_146_7 rfl ⟨of_decide_eq_true rfl, h_38, ha2.2⟩ (q_iconst c_146_14 (v_zret c_146_15 rfl (of_decide_eq_true rfl) (bk_inl (q_iconst c_251_24 (q_iconst c_251_25 (v_cv c_251_26 km_8_203 rfl rfl (Nat.le_of_ble_eq_true rfl) ⟨⟨rfl, rfl⟩, Nat.le_of_ble_eq_true rfl, rfl⟩ (Nat.le_of_ble_eq_true rfl) (Nat.le_of_ble_eq_true rfl) (q_iload_n c_145_0 rfl ?_)))))))
          refine v_if_ne_f (t := 26) c_145_1 rfl (of_decide_eq_true rfl) (q_aload_n c_145_4 rfl (v_gi (z := 0) (v := 0) c_145_5 kf_8_3 rfl (Nat.le_of_ble_eq_true rfl) rfl rfl (up_e rfl) (v_if_ne_f (t := 26) c_145_8 rfl (of_decide_eq_true rfl) (q_aload_n c_145_11 rfl (q_iload_n c_145_12 rfl (v_pi (z := 0) c_145_13 kf_8_3 rfl (Nat.le_of_ble_eq_true rfl) rfl rfl rfl (of_decide_eq_true rfl) (q_aload_n c_145_16 rfl ?_)))))))
          refine v_gr (t := 42) c_145_17 kf_8_7 rfl (Nat.le_of_ble_eq_true rfl) rfl (q_iload_n c_145_20 rfl (q_dup2 c_145_21 ⟨rfl, rfl⟩ ?_))
          have h_39 := ir_42 hI 1
          refine v_ia (v := c 42 1) c_145_22 rfl (of_decide_eq_true rfl) (of_decide_eq_true rfl) (of_decide_eq_true rfl) ((up_c (nn rfl)).trans (up_c (nn rfl))) (q_iconst c_145_23 (v_iadd (v := c 42 1 + 1) c_145_24 rfl (v_nrm (fun y_40 hy_40 => (v_is c_145_25 rfl (of_decide_eq_true rfl) (of_decide_eq_true rfl) (of_decide_eq_true rfl) (q_aload_n c_145_26 rfl (v_gi (z := 0) (v := 2) c_145_27 kf_8_3 rfl (Nat.le_of_ble_eq_true rfl) rfl rfl ((up_c (nn rfl)).trans (up_e rfl)) (v_if_ne_t (t := 37) c_145_30 rfl (of_decide_eq_true rfl) ?_))))))))
          refine q_iconst c_145_37 (v_zret c_145_38 rfl (of_decide_eq_true rfl) (bk_inl (v_if_ne_f (t := 34) c_251_29 rfl (of_decide_eq_true rfl) (q_iconst c_251_32 (q_iret c_251_33 rfl ?_)))))
          have hI_41 := iw_41_0 (v := 0) hI ⟨of_decide_eq_true rfl, of_decide_eq_true rfl⟩
          have hI_42 := iw_41_0 (v := 2) hI_41 ⟨of_decide_eq_true rfl, of_decide_eq_true rfl⟩
          have hI_43 := iw_42 (j := 1) (v := y_40) hI_42 ⟨hy_40.1, hy_40.2⟩
          exact K (up (up (up c 41 0 0) 41 0 2) 42 1 y_40) 0 hI_43 (fun a j hm => (up_b (Decidable.or_iff_not_imp_left.mpr (fun h1 h2 => hm (Or.inr (Or.inl (Decidable.not_not.mp h1)))))).trans ((up_b (Decidable.or_iff_not_imp_left.mpr (fun h1 h2 => hm (Or.inl ⟨Decidable.not_not.mp h1, h2⟩)))).trans (up_b (Decidable.or_iff_not_imp_left.mpr (fun h1 h2 => hm (Or.inl ⟨Decidable.not_not.mp h1, h2⟩)))))) ⟨of_decide_eq_true rfl, of_decide_eq_true rfl⟩
        · refine v_ic_gt_f (t := 14) c_146_7 rfl ⟨ha2.1, (Int.not_lt.mp h_38), of_decide_eq_true rfl⟩ (q_iconst c_146_10 (q_goto (t := 15) c_146_11 rfl (v_zret c_146_15 rfl (of_decide_eq_true rfl) (bk_inl (q_iconst c_251_24 (q_iconst c_251_25 (v_cv c_251_26 km_8_203 rfl rfl (Nat.le_of_ble_eq_true rfl) ⟨⟨rfl, rfl⟩, Nat.le_of_ble_eq_true rfl, rfl⟩ (Nat.le_of_ble_eq_true rfl) (Nat.le_of_ble_eq_true rfl) ?_)))))))
          refine q_iload_n c_145_0 rfl (v_if_ne_t (t := 26) c_145_1 rfl (of_decide_eq_true rfl) (q_aload_n c_145_26 rfl (v_gi (z := 0) (v := 0) c_145_27 kf_8_3 rfl (Nat.le_of_ble_eq_true rfl) rfl rfl (up_e rfl) (v_if_ne_f (t := 37) c_145_30 rfl (of_decide_eq_true rfl) (q_iconst c_145_33 (q_goto (t := 38) c_145_34 rfl (v_zret c_145_38 rfl (of_decide_eq_true rfl) ?_)))))))
          refine bk_inl (v_if_ne_t (t := 34) c_251_29 rfl (of_decide_eq_true rfl) (q_aload_n c_251_34 rfl ?_))
          have hI_44 := iw_41_0 (v := 0) hI ⟨of_decide_eq_true rfl, of_decide_eq_true rfl⟩
          refine v_cv c_251_35 km_8_317 rfl rfl (Nat.le_of_ble_eq_true rfl) ⟨⟨rfl, rfl⟩, Nat.le_of_ble_eq_true rfl, rfl⟩ (Nat.le_of_ble_eq_true rfl) (Nat.le_of_ble_eq_true rfl) (s_186 hI_44 (fun c_45 hI_46 hF_47 => (bk_inl (q_iconst c_251_38 (q_istore_n c_251_39 (Nat.le_of_ble_eq_true rfl) (q_iconst c_251_40 (q_istore c_251_41 (Nat.le_of_ble_eq_true rfl) (Wp_ls [(0, .ref 41), (1, vi a1), (2, vi a2), (3, vi 0), (4, vi 0)] (lsub_cons rfl (lsub_cons rfl (lsub_cons rfl (lsub_cons rfl (lsub_cons rfl lsub_nil))))) ?_))))))))
          exact (s_251_l (sc := sc) (d := d) hI ha1 ha2 K 16) c_45 0 0 hI_46 (fun a j hm => (hF_47 a j (fun h => hm (Or.inr (Or.inr h)))).trans (up_b (Decidable.or_iff_not_imp_left.mpr (fun h1 h2 => hm (Or.inl ⟨Decidable.not_not.mp h1, h2⟩))))) ⟨of_decide_eq_true rfl, of_decide_eq_true rfl⟩ ⟨of_decide_eq_true rfl, of_decide_eq_true rfl⟩ ⟨(q_720657ba9 h_20), (q_1b5e4f74b h_19 h_26)⟩ (by omega)

set_option maxRecDepth 100000 in
set_option maxHeartbeats 4000000 in
theorem s_252 {sc : List Int32} {e : Int} {d u P Q : Nat} {c : ME} {a1 : Int} {Z : AR → Prop} (hI : Iv u e P Q c) (ha1 : 1 ≤ a1 ∧ a1 ≤ 16) (K : ∀ (c2 : ME) (y : Int), Iv u e P Q c2 → (∀ (a : Nat) (j : Int), ¬ ((a = 41 ∧ j = 50)) → c2 a j = c a j) → 0 ≤ y ∧ y ≤ 15 → ((y < a1)) → Z (.inl (some (vi y)), Wd P Q P P c2, 0, 0)) : Wp sc (d + 7) 252 0 [(0, .ref 41), (1, vi a1)] [] (Wd P Q P P c) 0 0 Z := by
  have hP := iv_P hI
  have hQ := iv_Q hI
  refine q_aload_n c_252_0 rfl (q_aload_n c_252_1 rfl ?_)
  have h_1 := ir_41_50 hI
  refine v_gi (z := 50) (v := c 41 50) c_252_2 kf_8_438 rfl (Nat.le_of_ble_eq_true rfl) rfl rfl rfl (v_ldcw (n := 1103515245) c_252_5 rfl (by decide +kernel) (v_imul (v := 1103515245 * c 41 50) c_252_8 (by omega) (v_nrm (fun y_2 hy_2 => (v_sip c_252_9 (of_decide_eq_true rfl) (v_iadd (v := y_2 + 12345) c_252_12 rfl (v_nrm (fun y_3 hy_3 => (v_pi (z := 50) c_252_13 kf_8_438 rfl (Nat.le_of_ble_eq_true rfl) rfl rfl rfl (of_decide_eq_true rfl) ?_)))))))))
  refine q_aload_n c_252_16 rfl (v_gi (z := 50) (v := y_3) c_252_17 kf_8_438 rfl (Nat.le_of_ble_eq_true rfl) rfl rfl (up_e rfl) (v_bip c_252_20 (of_decide_eq_true rfl) (v_ishr (m := 65536) (v := (y_3 / 65536)) 16 c_252_22 (by omega) rfl (of_decide_eq_true rfl) (of_decide_eq_true rfl) rfl (v_sip c_252_23 (of_decide_eq_true rfl) (v_and15 (v := ((y_3 / 65536) % 32768)) c_252_26 rfl (q_iload_n c_252_27 rfl ?_))))))
  have h_4 : 0 ≤ (((y_3 / 65536) % 32768) % a1) ∧ (((y_3 / 65536) % 32768) % a1) < a1 := rem_bd (by omega)
  refine v_irem (v := (((y_3 / 65536) % 32768) % a1)) rfl (by omega) rfl (q_iret c_252_29 rfl ?_)
  have hI_5 := iw_41_50 (v := y_3) hI ⟨hy_3.1, hy_3.2⟩
  exact K (up c 41 50 y_3) (((y_3 / 65536) % 32768) % a1) hI_5 (fun a j hm => up_b (Decidable.or_iff_not_imp_left.mpr (fun h1 h2 => hm ⟨Decidable.not_not.mp h1, h2⟩))) ⟨(q_c4fec1d75 h_4), (q_3c66af975 h_4 ha1)⟩ ((q_84496e02d h_4))

