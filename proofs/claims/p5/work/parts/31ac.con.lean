/-! ===== contracts 3 ===== -/
theorem q_6ba67a5a0 {x0 : Int}  : 5 * x0 ≤ 5 * x0 := by omega
theorem q_074a98bd9 {x0 : Int} (f0 : ¬ (x0 ≥ 38)) : x0 + 1 ≤ 38 := by omega
theorem q_2c11af296 {x0 : Int} (f0 : 0 ≤ x0 ∧ x0 ≤ 38) : 0 ≤ 5 * x0 := by omega
theorem q_cab88ee8a {x0 : Int} (f0 : ¬ (x0 ≥ 38)) : 5 * x0 < 190 := by omega
theorem q_36afb4550 {x0 x1 : Int} (f0 : (x0 ≥ 0) ∨ (x1 ≠ 0)) (f1 : 0 ≤ x1 ∧ x1 ≤ 3) (f2 : ¬ (x1 ≠ 0)) : 0 ≤ x0 := by omega
theorem q_3f6909586 {x0 : Int} (f0 : x0 ≤ 0) : x0 ≤ 5 := by omega
theorem q_d0d2f254a {x0 : Int} (f0 : x0 ≤ 0) : x0 < 6 := by omega
theorem q_055ef26ca {x0 : Int} (f0 : ¬ (x0 ≠ 7)) : 0 ≤ x0 := by omega
theorem q_5f37091c9 {x0 : Int} (f0 : x0 < 6) : x0 ≤ 5 := by omega
theorem qv_c55a10b47 {a : Nat} {j : Int} {t0 : Int} (hm : ¬ ((a = 1 ∧ j = 2) ∨ (a = 1 ∧ j = 4) ∨ (a = 1 ∧ j = 5) ∨ (a = 7 ∧ j = 2) ∨ (a = 8 ∧ j ≥ t0))) : ¬ ((a = 1 ∧ j = 4) ∨ (a = 1 ∧ j = 5)) := (fun q => q.elim (fun h => hm (Or.inr (Or.inl h))) (fun h => hm (Or.inr (Or.inr (Or.inl h)))))
theorem qv_ecb9f43c4 {a : Nat} {j : Int} {t0 : Int} (hm : ¬ ((a = 1 ∧ j = 2) ∨ (a = 1 ∧ j = 4) ∨ (a = 1 ∧ j = 5) ∨ (a = 7 ∧ j = 1) ∨ (a = 7 ∧ j = 2) ∨ (a = 7 ∧ j = 3) ∨ (a = 7 ∧ j = 4) ∨ a = 8)) : ¬ ((a = 1 ∧ j = 2) ∨ (a = 1 ∧ j = 4) ∨ (a = 1 ∧ j = 5) ∨ (a = 7 ∧ j = 2) ∨ (a = 8 ∧ j ≥ t0)) := (fun q => q.elim (fun h => hm (Or.inl h)) (fun q => q.elim (fun h => hm (Or.inr (Or.inl h))) (fun q => q.elim (fun h => hm (Or.inr (Or.inr (Or.inl h)))) (fun q => q.elim (fun h => hm (Or.inr (Or.inr (Or.inr (Or.inr (Or.inl h)))))) (fun h => hm (Or.inr (Or.inr (Or.inr (Or.inr (Or.inr (Or.inr (Or.inr h.1))))))))))))
theorem q_9f1d5ffdc {x0 : Int} (f0 : 0 ≤ x0 ∧ x0 ≤ 5) : 4 * x0 < 24 := by omega
theorem q_0a2ee6f8f {x0 : Int} (f0 : 0 ≤ x0 ∧ x0 ≤ 5) : 4 * x0 + 1 < 24 := by omega
theorem q_e07a293a2 {x0 : Int} (f0 : 0 ≤ x0 ∧ x0 ≤ 5) : 4 * x0 + 2 < 24 := by omega
theorem q_d09cb0b73 {x0 : Int} (f0 : 0 ≤ x0 ∧ x0 ≤ 5) : 4 * x0 + 3 < 24 := by omega
theorem q_c065257af {x0 : Int} (f0 : 0 ≤ x0 ∧ x0 ≤ 5) : 0 ≤ 4 * x0 := by omega
theorem q_b7e642788 {x0 : Int} (f0 : 0 ≤ x0 ∧ x0 ≤ 5) : 4 * x0 < 34 := by omega
theorem q_83fdbd35d {x0 : Int} (f0 : 0 ≤ x0 ∧ x0 ≤ 5) : 0 ≤ 4 * x0 + 1 := by omega
theorem q_ee7209ea0 {x0 : Int} (f0 : 0 ≤ x0 ∧ x0 ≤ 5) : 4 * x0 + 1 < 34 := by omega
theorem q_0f37a0c6e {x0 : Int} (f0 : 0 ≤ x0 ∧ x0 ≤ 5) : 0 ≤ 4 * x0 + 2 := by omega
theorem q_d136047ff {x0 : Int} (f0 : 0 ≤ x0 ∧ x0 ≤ 5) : 4 * x0 + 2 < 34 := by omega
theorem q_f6be69137 {x0 : Int} (f0 : 0 ≤ x0 ∧ x0 ≤ 5) : 0 ≤ 4 * x0 + 3 := by omega
theorem q_c79de31f2 {x0 : Int} (f0 : 0 ≤ x0 ∧ x0 ≤ 5) : 4 * x0 + 3 < 34 := by omega
theorem q_e052ef40e {x0 x1 x2 x3 : Int} (f0 : 0 ≤ x0 ∧ x0 ≤ 9999) (f1 : 0 ≤ x1 ∧ x1 ≤ 9999) (f2 : 0 ≤ x2 ∧ x2 ≤ 9999) (f3 : 0 ≤ x3 ∧ x3 ≤ 9999) : (-2147483648) ≤ x1 + x2 + x3 + x0 := by omega
theorem q_6719c4bfd {x0 x1 x2 x3 : Int} (f0 : x0 + x1 + x2 + x3 ≤ 9999) : x1 + x2 + x3 + x0 ≤ 2147483647 := by omega
theorem q_dc9fd3f8b {x0 : Int} (f0 : 0 ≤ x0 ∧ x0 ≤ 5) : 4 * x0 < 32 := by omega
theorem q_d17500877 {x0 : Int} (f0 : 0 ≤ x0 ∧ x0 ≤ 5) : 4 * x0 + 3 < 32 := by omega
theorem q_13bfd6882 {x0 : Int} (f0 : 0 ≤ x0 ∧ x0 ≤ 5) : 4 * x0 + 2 < 32 := by omega
theorem q_ab78ec18a {x0 : Int} (f0 : 0 ≤ x0 ∧ x0 ≤ 5) : 4 * x0 + 1 < 32 := by omega
theorem q_336fb6678 {x0 x1 : Int} (f0 : ¬ (x0 = x1)) : ¬ 4 * x0 = 4 * x1 := by omega
theorem q_8ac71c5f3 {x0 x1 : Int}  : ¬ 4 * x0 = 4 * x1 + 3 := by omega
theorem q_c037f51da {x0 x1 : Int}  : ¬ 4 * x0 = 4 * x1 + 2 := by omega
theorem q_b2cb8bf87 {x0 x1 : Int}  : ¬ 4 * x0 = 4 * x1 + 1 := by omega
theorem q_e5bcc673e {x0 x1 : Int}  : ¬ 4 * x0 + 1 = 4 * x1 := by omega
theorem q_7c6b1b09a {x0 x1 : Int}  : ¬ 4 * x0 + 1 = 4 * x1 + 3 := by omega
theorem q_3650b790c {x0 x1 : Int}  : ¬ 4 * x0 + 1 = 4 * x1 + 2 := by omega
theorem q_52b51d728 {x0 x1 : Int} (f0 : ¬ (x0 = x1)) : ¬ 4 * x0 + 1 = 4 * x1 + 1 := by omega
theorem q_ae83e86ba {x0 x1 : Int}  : ¬ 4 * x0 + 2 = 4 * x1 := by omega
theorem q_91c5bd343 {x0 x1 : Int}  : ¬ 4 * x0 + 2 = 4 * x1 + 3 := by omega
theorem q_27892e29e {x0 x1 : Int} (f0 : ¬ (x0 = x1)) : ¬ 4 * x0 + 2 = 4 * x1 + 2 := by omega
theorem q_08c3d7060 {x0 x1 : Int}  : ¬ 4 * x0 + 2 = 4 * x1 + 1 := by omega
theorem q_b6789388a {x0 x1 : Int}  : ¬ 4 * x0 + 3 = 4 * x1 := by omega
theorem q_2db9f474b {x0 x1 : Int} (f0 : ¬ (x0 = x1)) : ¬ 4 * x0 + 3 = 4 * x1 + 3 := by omega
theorem q_28d70e8e5 {x0 x1 : Int}  : ¬ 4 * x0 + 3 = 4 * x1 + 2 := by omega
theorem q_6d5c6886e {x0 x1 : Int}  : ¬ 4 * x0 + 3 = 4 * x1 + 1 := by omega
theorem q_d5fe0d0d1 {x0 x1 : Int} (f0 : 0 ≤ x0 ∧ x0 ≤ 5) (f1 : 0 ≤ x1 ∧ x1 ≤ 3) : 4 * x0 + x1 < 24 := by omega
theorem q_404267838 {x0 x1 : Int} (f0 : 0 ≤ x0 ∧ x0 ≤ 5) (f1 : 0 ≤ x1 ∧ x1 ≤ 3) : 0 ≤ 4 * x0 + x1 := by omega
theorem q_8b630baa7 {x0 x1 : Int} (f0 : 0 ≤ x0 ∧ x0 ≤ 5) (f1 : 0 ≤ x1 ∧ x1 ≤ 3) : 4 * x0 + x1 < 34 := by omega
theorem q_b6d45db89 {x0 : Int} (f0 : 0 ≤ x0 ∧ x0 ≤ 3) : x0 < 4 := by omega
theorem q_429e24ab3 {x0 x1 : Int} (f0 : x0 > x1) (f1 : 0 ≤ x0 ∧ x0 ≤ 3) : x1 + 1 ≤ 2147483647 := by omega
theorem q_8baad3eb5 {x0 : Int} : 4 * x0 + 0 = 4 * x0 := by omega
theorem q_99d6360e7 {x0 : Int} (f0 : 0 ≤ x0 ∧ x0 ≤ 5) : x0 + 24 < 34 := by omega
theorem q_abb127123 {x0 x1 : Int} (f0 : x0 ≤ 0) (f1 : 0 ≤ x0 ∧ x0 ≤ 9999) : x1 = x1 - x0 := by omega
theorem q_55ccdf6b6 {x0 x1 : Int} (f0 : x0 ≤ 0) (f1 : 0 ≤ x0 ∧ x0 ≤ 9999) : x1 = x0 + x1 := by omega
theorem q_7f7b626e9 {x0 x1 x2 : Int} (f0 : (x0 < x1) ∨ (x0 > x1)) : ¬ 4 * x1 + x2 = 4 * x0 + x2 := by omega
theorem q_1d6559917 {x0 x1 x2 : Int} (f0 : 0 ≤ x0 ∧ x0 ≤ 5) (f1 : 0 ≤ x1 ∧ x1 ≤ 5) (f2 : 0 ≤ x2 ∧ x2 ≤ 3) : 4 * x0 + x2 < x1 + 24 := by omega
theorem q_19b072023 {x0 x1 x2 : Int} (f0 : (x0 < x1) ∨ (x0 > x1)) : ¬ 4 * x0 + x2 = 4 * x1 + x2 := by omega
theorem q_983b15064 {x0 x1 : Int} (f0 : 0 ≤ x0 ∧ x0 ≤ 5) (f1 : 0 ≤ x1 ∧ x1 ≤ 3) : 4 * x0 + x1 < x0 + 24 := by omega
theorem c_41_3 : mLk 41 3 = some (.iload 4, 2) := rfl
theorem c_41_5 : mLk 41 5 = some (.bipush 38, 2) := rfl
theorem c_41_7 : mLk 41 7 = some (.if_icmp .ge 122, 3) := rfl
theorem c_41_10 : mLk 41 10 = some (.aload_n 1, 1) := rfl
theorem c_41_11 : mLk 41 11 = some (.invokevirtual 32, 3) := rfl
theorem c_41_14 : mLk 41 14 = some (.ifCond .eq 115, 3) := rfl
theorem c_41_17 : mLk 41 17 = some (.iload_n 3, 1) := rfl
theorem c_41_18 : mLk 41 18 = some (.ifCond .le 13, 3) := rfl
theorem c_41_31 : mLk 41 31 = some (.aload_n 1, 1) := rfl
theorem c_41_32 : mLk 41 32 = some (.invokevirtual 42, 3) := rfl
theorem c_41_35 : mLk 41 35 = some (.istore 5, 2) := rfl
theorem c_41_37 : mLk 41 37 = some (.aload_n 1, 1) := rfl
theorem c_41_38 : mLk 41 38 = some (.ldc 45, 2) := rfl
theorem c_41_40 : mLk 41 40 = some (.invokevirtual 47, 3) := rfl
theorem c_41_43 : mLk 41 43 = some (.istore 6, 2) := rfl
theorem c_41_45 : mLk 41 45 = some (.iload 6, 2) := rfl
theorem c_41_47 : mLk 41 47 = some (.bipush 7, 2) := rfl
theorem c_41_49 : mLk 41 49 = some (.if_icmp .ne 16, 3) := rfl
theorem c_41_65 : mLk 41 65 = some (.aload_n 1, 1) := rfl
theorem c_41_66 : mLk 41 66 = some (.invokevirtual 55, 3) := rfl
theorem c_41_69 : mLk 41 69 = some (.ifCond .eq 48, 3) := rfl
theorem c_41_117 : mLk 41 117 = some (.aload_n 1, 1) := rfl
theorem c_41_118 : mLk 41 118 = some (.ldc 62, 2) := rfl
theorem c_41_120 : mLk 41 120 = some (.invokevirtual 64, 3) := rfl
theorem c_41_123 : mLk 41 123 = some (.iinc 4 1, 3) := rfl
theorem c_41_126 : mLk 41 126 = some (.goto (-123), 3) := rfl
theorem c_41_72 : mLk 41 72 = some (.aload_n 0, 1) := rfl
theorem c_41_73 : mLk 41 73 = some (.getfield 19, 3) := rfl
theorem c_41_76 : mLk 41 76 = some (.bipush 38, 2) := rfl
theorem c_41_78 : mLk 41 78 = some (.if_icmp .ge 39, 3) := rfl
theorem c_41_81 : mLk 41 81 = some (.aload_n 0, 1) := rfl
theorem c_41_82 : mLk 41 82 = some (.getfield 19, 3) := rfl
theorem c_41_85 : mLk 41 85 = some (.iconst 5, 1) := rfl
theorem c_41_86 : mLk 41 86 = some (.imul, 1) := rfl
theorem c_41_87 : mLk 41 87 = some (.istore 7, 2) := rfl
theorem c_41_89 : mLk 41 89 = some (.aload_n 0, 1) := rfl
theorem c_41_90 : mLk 41 90 = some (.dup, 1) := rfl
theorem c_41_91 : mLk 41 91 = some (.getfield 19, 3) := rfl
theorem c_41_94 : mLk 41 94 = some (.iconst 1, 1) := rfl
theorem c_41_95 : mLk 41 95 = some (.iadd, 1) := rfl
theorem c_41_96 : mLk 41 96 = some (.putfield 19, 3) := rfl
theorem c_41_99 : mLk 41 99 = some (.aload_n 0, 1) := rfl
theorem c_41_100 : mLk 41 100 = some (.getfield 11, 3) := rfl
theorem c_41_103 : mLk 41 103 = some (.iload 7, 2) := rfl
theorem c_41_105 : mLk 41 105 = some (.iload 6, 2) := rfl
theorem c_41_107 : mLk 41 107 = some (.iastore, 1) := rfl
theorem c_41_108 : mLk 41 108 = some (.aload_n 0, 1) := rfl
theorem c_41_109 : mLk 41 109 = some (.aload_n 1, 1) := rfl
theorem c_41_110 : mLk 41 110 = some (.aload_n 2, 1) := rfl
theorem c_41_111 : mLk 41 111 = some (.iload 7, 2) := rfl
theorem c_41_113 : mLk 41 113 = some (.iload_n 3, 1) := rfl
theorem c_41_114 : mLk 41 114 = some (.invokevirtual 58, 3) := rfl
theorem c_41_52 : mLk 41 52 = some (.iload_n 3, 1) := rfl
theorem c_41_53 : mLk 41 53 = some (.bipush 6, 2) := rfl
theorem c_41_55 : mLk 41 55 = some (.if_icmp .lt 10, 3) := rfl
theorem c_41_21 : mLk 41 21 = some (.aload_n 1, 1) := rfl
theorem c_41_22 : mLk 41 22 = some (.invokevirtual 38, 3) := rfl
theorem c_41_25 : mLk 41 25 = some (.bipush 93, 2) := rfl
theorem c_41_27 : mLk 41 27 = some (.if_icmp .ne 4, 3) := rfl
theorem c_41_58 : mLk 41 58 = some (.aload_n 1, 1) := rfl
theorem c_41_59 : mLk 41 59 = some (.iconst 3, 1) := rfl
theorem c_41_60 : mLk 41 60 = some (.iload 5, 2) := rfl
theorem c_41_62 : mLk 41 62 = some (.invokevirtual 51, 3) := rfl
theorem c_41_0 : mLk 41 0 = some (.iconst 0, 1) := rfl
theorem c_41_1 : mLk 41 1 = some (.istore 4, 2) := rfl
theorem c_42_0 : mLk 42 0 = some (.aload_n 0, 1) := rfl
theorem c_42_1 : mLk 42 1 = some (.iconst 0, 1) := rfl
theorem c_42_2 : mLk 42 2 = some (.putfield 15, 3) := rfl
theorem c_42_5 : mLk 42 5 = some (.aload_n 0, 1) := rfl
theorem c_42_6 : mLk 42 6 = some (.iconst 0, 1) := rfl
theorem c_42_7 : mLk 42 7 = some (.putfield 19, 3) := rfl
theorem c_42_10 : mLk 42 10 = some (.aload_n 0, 1) := rfl
theorem c_42_11 : mLk 42 11 = some (.iconst 0, 1) := rfl
theorem c_42_12 : mLk 42 12 = some (.putfield 22, 3) := rfl
theorem c_42_15 : mLk 42 15 = some (.aload_n 0, 1) := rfl
theorem c_42_16 : mLk 42 16 = some (.iconst 0, 1) := rfl
theorem c_42_17 : mLk 42 17 = some (.putfield 25, 3) := rfl
theorem c_42_20 : mLk 42 20 = some (.aload_n 0, 1) := rfl
theorem c_42_21 : mLk 42 21 = some (.aload_n 1, 1) := rfl
theorem c_42_22 : mLk 42 22 = some (.aload_n 2, 1) := rfl
theorem c_42_23 : mLk 42 23 = some (.iconst 0, 1) := rfl
theorem c_42_24 : mLk 42 24 = some (.invokevirtual 28, 3) := rfl
theorem c_43_0 : mLk 43 0 = some (.iload_n 1, 1) := rfl
theorem c_43_1 : mLk 43 1 = some (.iconst 4, 1) := rfl
theorem c_43_2 : mLk 43 2 = some (.imul, 1) := rfl
theorem c_43_3 : mLk 43 3 = some (.istore_n 2, 1) := rfl
theorem c_43_4 : mLk 43 4 = some (.aload_n 0, 1) := rfl
theorem c_43_5 : mLk 43 5 = some (.getfield 11, 3) := rfl
theorem c_43_8 : mLk 43 8 = some (.iload_n 2, 1) := rfl
theorem c_43_9 : mLk 43 9 = some (.iaload, 1) := rfl
theorem c_43_10 : mLk 43 10 = some (.aload_n 0, 1) := rfl
theorem c_43_11 : mLk 43 11 = some (.getfield 11, 3) := rfl
theorem c_43_14 : mLk 43 14 = some (.iload_n 2, 1) := rfl
theorem c_43_15 : mLk 43 15 = some (.iconst 1, 1) := rfl
theorem c_43_16 : mLk 43 16 = some (.iadd, 1) := rfl
theorem c_43_17 : mLk 43 17 = some (.iaload, 1) := rfl
theorem c_43_18 : mLk 43 18 = some (.iadd, 1) := rfl
theorem c_43_19 : mLk 43 19 = some (.aload_n 0, 1) := rfl
theorem c_43_20 : mLk 43 20 = some (.getfield 11, 3) := rfl
theorem c_43_23 : mLk 43 23 = some (.iload_n 2, 1) := rfl
theorem c_43_24 : mLk 43 24 = some (.iconst 2, 1) := rfl
theorem c_43_25 : mLk 43 25 = some (.iadd, 1) := rfl
theorem c_43_26 : mLk 43 26 = some (.iaload, 1) := rfl
theorem c_43_27 : mLk 43 27 = some (.iadd, 1) := rfl
theorem c_43_28 : mLk 43 28 = some (.aload_n 0, 1) := rfl
theorem c_43_29 : mLk 43 29 = some (.getfield 11, 3) := rfl
theorem c_43_32 : mLk 43 32 = some (.iload_n 2, 1) := rfl
theorem c_43_33 : mLk 43 33 = some (.iconst 3, 1) := rfl
theorem c_43_34 : mLk 43 34 = some (.iadd, 1) := rfl
theorem c_43_35 : mLk 43 35 = some (.iaload, 1) := rfl
theorem c_43_36 : mLk 43 36 = some (.iadd, 1) := rfl
theorem c_43_37 : mLk 43 37 = some (.ireturn, 1) := rfl
theorem c_44_0 : mLk 44 0 = some (.aload_n 0, 1) := rfl
theorem c_44_1 : mLk 44 1 = some (.iload_n 2, 1) := rfl
theorem c_44_2 : mLk 44 2 = some (.invokevirtual 38, 3) := rfl
theorem c_44_5 : mLk 44 5 = some (.ifCond .ne 5, 3) := rfl
theorem c_44_10 : mLk 44 10 = some (.iload_n 2, 1) := rfl
theorem c_44_11 : mLk 44 11 = some (.iconst 4, 1) := rfl
theorem c_44_12 : mLk 44 12 = some (.imul, 1) := rfl
theorem c_44_13 : mLk 44 13 = some (.istore_n 3, 1) := rfl
theorem c_44_14 : mLk 44 14 = some (.aload_n 0, 1) := rfl
theorem c_44_15 : mLk 44 15 = some (.getfield 11, 3) := rfl
theorem c_44_18 : mLk 44 18 = some (.iload_n 3, 1) := rfl
theorem c_44_19 : mLk 44 19 = some (.iconst 1, 1) := rfl
theorem c_44_20 : mLk 44 20 = some (.iadd, 1) := rfl
theorem c_44_21 : mLk 44 21 = some (.iaload, 1) := rfl
theorem c_44_22 : mLk 44 22 = some (.aload_n 0, 1) := rfl
theorem c_44_23 : mLk 44 23 = some (.getfield 15, 3) := rfl
theorem c_44_26 : mLk 44 26 = some (.iload_n 1, 1) := rfl
theorem c_44_27 : mLk 44 27 = some (.iconst 0, 1) := rfl
theorem c_44_28 : mLk 44 28 = some (.invokevirtual 72, 3) := rfl
theorem c_44_32 : mLk 44 32 = some (.bipush 10, 2) := rfl
theorem c_44_35 : mLk 44 35 = some (.istore 4, 2) := rfl
theorem c_44_37 : mLk 44 37 = some (.aload_n 0, 1) := rfl
theorem c_44_38 : mLk 44 38 = some (.getfield 11, 3) := rfl
theorem c_44_41 : mLk 44 41 = some (.iload_n 3, 1) := rfl
theorem c_44_42 : mLk 44 42 = some (.iconst 2, 1) := rfl
theorem c_44_43 : mLk 44 43 = some (.iadd, 1) := rfl
theorem c_44_44 : mLk 44 44 = some (.iaload, 1) := rfl
theorem c_44_45 : mLk 44 45 = some (.aload_n 0, 1) := rfl
theorem c_44_46 : mLk 44 46 = some (.getfield 15, 3) := rfl
theorem c_44_49 : mLk 44 49 = some (.iload_n 1, 1) := rfl
theorem c_44_50 : mLk 44 50 = some (.iconst 1, 1) := rfl
theorem c_44_51 : mLk 44 51 = some (.invokevirtual 72, 3) := rfl
theorem c_44_55 : mLk 44 55 = some (.bipush 10, 2) := rfl
theorem c_44_58 : mLk 44 58 = some (.istore 5, 2) := rfl
theorem c_44_60 : mLk 44 60 = some (.aload_n 0, 1) := rfl
theorem c_44_61 : mLk 44 61 = some (.getfield 11, 3) := rfl
theorem c_44_64 : mLk 44 64 = some (.iload_n 3, 1) := rfl
theorem c_44_65 : mLk 44 65 = some (.iconst 3, 1) := rfl
theorem c_44_66 : mLk 44 66 = some (.iadd, 1) := rfl
theorem c_44_67 : mLk 44 67 = some (.iaload, 1) := rfl
theorem c_44_68 : mLk 44 68 = some (.aload_n 0, 1) := rfl
theorem c_44_69 : mLk 44 69 = some (.getfield 15, 3) := rfl
theorem c_44_72 : mLk 44 72 = some (.iload_n 1, 1) := rfl
theorem c_44_73 : mLk 44 73 = some (.iconst 2, 1) := rfl
theorem c_44_74 : mLk 44 74 = some (.invokevirtual 72, 3) := rfl
theorem c_44_78 : mLk 44 78 = some (.bipush 10, 2) := rfl
theorem c_44_81 : mLk 44 81 = some (.istore 6, 2) := rfl
theorem c_44_83 : mLk 44 83 = some (.aload_n 0, 1) := rfl
theorem c_44_84 : mLk 44 84 = some (.getfield 11, 3) := rfl
theorem c_44_87 : mLk 44 87 = some (.iload_n 3, 1) := rfl
theorem c_44_88 : mLk 44 88 = some (.dup2, 1) := rfl
theorem c_44_89 : mLk 44 89 = some (.iaload, 1) := rfl
theorem c_44_90 : mLk 44 90 = some (.iload 4, 2) := rfl
theorem c_44_93 : mLk 44 93 = some (.iastore, 1) := rfl
theorem c_44_94 : mLk 44 94 = some (.aload_n 0, 1) := rfl
theorem c_44_95 : mLk 44 95 = some (.getfield 11, 3) := rfl
theorem c_44_98 : mLk 44 98 = some (.iload_n 3, 1) := rfl
theorem c_44_99 : mLk 44 99 = some (.iconst 1, 1) := rfl
theorem c_44_100 : mLk 44 100 = some (.iadd, 1) := rfl
theorem c_44_101 : mLk 44 101 = some (.dup2, 1) := rfl
theorem c_44_102 : mLk 44 102 = some (.iaload, 1) := rfl
theorem c_44_103 : mLk 44 103 = some (.iload 5, 2) := rfl
theorem c_44_105 : mLk 44 105 = some (.iload 4, 2) := rfl
theorem c_44_109 : mLk 44 109 = some (.iastore, 1) := rfl
theorem c_44_110 : mLk 44 110 = some (.aload_n 0, 1) := rfl
theorem c_44_111 : mLk 44 111 = some (.getfield 11, 3) := rfl
theorem c_44_114 : mLk 44 114 = some (.iload_n 3, 1) := rfl
theorem c_44_115 : mLk 44 115 = some (.iconst 2, 1) := rfl
theorem c_44_116 : mLk 44 116 = some (.iadd, 1) := rfl
theorem c_44_117 : mLk 44 117 = some (.dup2, 1) := rfl
theorem c_44_118 : mLk 44 118 = some (.iaload, 1) := rfl
theorem c_44_119 : mLk 44 119 = some (.iload 6, 2) := rfl
theorem c_44_121 : mLk 44 121 = some (.iload 5, 2) := rfl
theorem c_44_125 : mLk 44 125 = some (.iastore, 1) := rfl
theorem c_44_126 : mLk 44 126 = some (.aload_n 0, 1) := rfl
theorem c_44_127 : mLk 44 127 = some (.getfield 11, 3) := rfl
theorem c_44_130 : mLk 44 130 = some (.iload_n 3, 1) := rfl
theorem c_44_131 : mLk 44 131 = some (.iconst 3, 1) := rfl
theorem c_44_132 : mLk 44 132 = some (.iadd, 1) := rfl
theorem c_44_133 : mLk 44 133 = some (.dup2, 1) := rfl
theorem c_44_134 : mLk 44 134 = some (.iaload, 1) := rfl
theorem c_44_135 : mLk 44 135 = some (.iload 6, 2) := rfl
theorem c_44_138 : mLk 44 138 = some (.iastore, 1) := rfl
theorem c_44_139 : mLk 44 139 = some (.aload_n 0, 1) := rfl
theorem c_44_140 : mLk 44 140 = some (.getfield 11, 3) := rfl
theorem c_44_143 : mLk 44 143 = some (.iload_n 3, 1) := rfl
theorem c_44_145 : mLk 44 145 = some (.aload_n 0, 1) := rfl
theorem c_44_146 : mLk 44 146 = some (.getfield 15, 3) := rfl
theorem c_44_149 : mLk 44 149 = some (.getfield 75, 3) := rfl
theorem c_44_153 : mLk 44 153 = some (.bipush 100, 2) := rfl
theorem c_44_156 : mLk 44 156 = some (.istore 7, 2) := rfl
theorem c_44_158 : mLk 44 158 = some (.aload_n 0, 1) := rfl
theorem c_44_159 : mLk 44 159 = some (.getfield 11, 3) := rfl
theorem c_44_162 : mLk 44 162 = some (.iload_n 3, 1) := rfl
theorem c_44_163 : mLk 44 163 = some (.dup2, 1) := rfl
theorem c_44_165 : mLk 44 165 = some (.iload 7, 2) := rfl
theorem c_44_168 : mLk 44 168 = some (.iastore, 1) := rfl
theorem c_44_169 : mLk 44 169 = some (.aload_n 0, 1) := rfl
theorem c_44_170 : mLk 44 170 = some (.getfield 11, 3) := rfl
theorem c_44_173 : mLk 44 173 = some (.bipush 32, 2) := rfl
theorem c_44_175 : mLk 44 175 = some (.dup2, 1) := rfl
theorem c_44_176 : mLk 44 176 = some (.iaload, 1) := rfl
theorem c_44_177 : mLk 44 177 = some (.iload 7, 2) := rfl
theorem c_44_180 : mLk 44 180 = some (.iastore, 1) := rfl
theorem c_44_181 : mLk 44 181 = some (.iconst 1, 1) := rfl
theorem c_44_182 : mLk 44 182 = some (.ireturn, 1) := rfl
theorem c_44_8 : mLk 44 8 = some (.iconst 0, 1) := rfl
theorem c_44_9 : mLk 44 9 = some (.ireturn, 1) := rfl
theorem c_45_0 : mLk 45 0 = some (.aload_n 0, 1) := rfl
theorem c_45_1 : mLk 45 1 = some (.getfield 11, 3) := rfl
theorem c_45_4 : mLk 45 4 = some (.iload_n 1, 1) := rfl
theorem c_45_5 : mLk 45 5 = some (.iconst 4, 1) := rfl
theorem c_45_6 : mLk 45 6 = some (.imul, 1) := rfl
theorem c_45_7 : mLk 45 7 = some (.iload_n 2, 1) := rfl
theorem c_45_8 : mLk 45 8 = some (.iadd, 1) := rfl
theorem c_45_9 : mLk 45 9 = some (.iaload, 1) := rfl
theorem c_45_10 : mLk 45 10 = some (.ireturn, 1) := rfl
theorem c_47_0 : mLk 47 0 = some (.aload_n 0, 1) := rfl
theorem c_47_1 : mLk 47 1 = some (.getfield 15, 3) := rfl
theorem c_47_4 : mLk 47 4 = some (.getfield 58, 3) := rfl
theorem c_47_7 : mLk 47 7 = some (.iload_n 1, 1) := rfl
theorem c_47_8 : mLk 47 8 = some (.iaload, 1) := rfl
theorem c_47_9 : mLk 47 9 = some (.istore 4, 2) := rfl
theorem c_47_11 : mLk 47 11 = some (.iload_n 2, 1) := rfl
theorem c_47_12 : mLk 47 12 = some (.iload 4, 2) := rfl
theorem c_47_14 : mLk 47 14 = some (.if_icmp .gt 5, 3) := rfl
theorem c_47_19 : mLk 47 19 = some (.iload_n 2, 1) := rfl
theorem c_47_20 : mLk 47 20 = some (.iload 4, 2) := rfl
theorem c_47_22 : mLk 47 22 = some (.iconst 1, 1) := rfl
theorem c_47_23 : mLk 47 23 = some (.iadd, 1) := rfl
theorem c_47_24 : mLk 47 24 = some (.if_icmp .ne 17, 3) := rfl
theorem c_47_41 : mLk 47 41 = some (.iconst 0, 1) := rfl
theorem c_47_42 : mLk 47 42 = some (.ireturn, 1) := rfl
theorem c_47_27 : mLk 47 27 = some (.aload_n 0, 1) := rfl
theorem c_47_28 : mLk 47 28 = some (.iload_n 1, 1) := rfl
theorem c_47_29 : mLk 47 29 = some (.invokevirtual 61, 3) := rfl
theorem c_47_32 : mLk 47 32 = some (.ifCond .eq 9, 3) := rfl
theorem c_47_35 : mLk 47 35 = some (.iload_n 3, 1) := rfl
theorem c_47_36 : mLk 47 36 = some (.iconst 2, 1) := rfl
theorem c_47_37 : mLk 47 37 = some (.idiv, 1) := rfl
theorem c_47_38 : mLk 47 38 = some (.goto 4, 3) := rfl
theorem c_47_17 : mLk 47 17 = some (.iload_n 3, 1) := rfl
theorem c_47_18 : mLk 47 18 = some (.ireturn, 1) := rfl
theorem c_48_0 : mLk 48 0 = some (.aload_n 0, 1) := rfl
theorem c_48_1 : mLk 48 1 = some (.iload_n 1, 1) := rfl
theorem c_48_2 : mLk 48 2 = some (.iload_n 3, 1) := rfl
theorem c_48_3 : mLk 48 3 = some (.aload_n 0, 1) := rfl
theorem c_48_4 : mLk 48 4 = some (.iload_n 2, 1) := rfl
theorem c_48_5 : mLk 48 5 = some (.iload_n 3, 1) := rfl
theorem c_48_6 : mLk 48 6 = some (.invokevirtual 34, 3) := rfl
theorem c_48_9 : mLk 48 9 = some (.invokevirtual 65, 3) := rfl
theorem c_48_12 : mLk 48 12 = some (.ireturn, 1) := rfl
theorem c_49_0 : mLk 49 0 = some (.iconst 0, 1) := rfl
theorem c_49_1 : mLk 49 1 = some (.istore_n 3, 1) := rfl
theorem c_49_2 : mLk 49 2 = some (.iconst 0, 1) := rfl
theorem c_49_3 : mLk 49 3 = some (.istore 4, 2) := rfl
theorem c_49_5 : mLk 49 5 = some (.iload 4, 2) := rfl
theorem c_49_7 : mLk 49 7 = some (.iconst 4, 1) := rfl
theorem c_49_8 : mLk 49 8 = some (.if_icmp .ge 20, 3) := rfl
theorem c_49_11 : mLk 49 11 = some (.iload_n 3, 1) := rfl
theorem c_49_12 : mLk 49 12 = some (.aload_n 0, 1) := rfl
theorem c_49_13 : mLk 49 13 = some (.iload_n 1, 1) := rfl
theorem c_49_14 : mLk 49 14 = some (.iload_n 2, 1) := rfl
theorem c_49_15 : mLk 49 15 = some (.iload 4, 2) := rfl
theorem c_49_17 : mLk 49 17 = some (.invokevirtual 69, 3) := rfl
theorem c_49_20 : mLk 49 20 = some (.iadd, 1) := rfl
theorem c_49_21 : mLk 49 21 = some (.istore_n 3, 1) := rfl
theorem c_49_22 : mLk 49 22 = some (.iinc 4 1, 3) := rfl
theorem c_49_25 : mLk 49 25 = some (.goto (-20), 3) := rfl
theorem c_49_28 : mLk 49 28 = some (.iload_n 3, 1) := rfl
theorem c_49_29 : mLk 49 29 = some (.ireturn, 1) := rfl
theorem c_51_0 : mLk 51 0 = some (.aload_n 0, 1) := rfl
theorem c_51_1 : mLk 51 1 = some (.getfield 11, 3) := rfl
theorem c_51_4 : mLk 51 4 = some (.bipush 24, 2) := rfl
theorem c_51_6 : mLk 51 6 = some (.iload_n 1, 1) := rfl
theorem c_51_7 : mLk 51 7 = some (.iadd, 1) := rfl
theorem c_51_8 : mLk 51 8 = some (.iaload, 1) := rfl
theorem c_51_9 : mLk 51 9 = some (.ireturn, 1) := rfl
theorem c_52_0 : mLk 52 0 = some (.iload 4, 2) := rfl
theorem c_52_2 : mLk 52 2 = some (.ifCond .le 55, 3) := rfl
theorem c_52_5 : mLk 52 5 = some (.aload_n 0, 1) := rfl
theorem c_52_6 : mLk 52 6 = some (.getfield 11, 3) := rfl
theorem c_52_9 : mLk 52 9 = some (.iload_n 1, 1) := rfl
theorem c_52_10 : mLk 52 10 = some (.iconst 4, 1) := rfl
theorem c_52_11 : mLk 52 11 = some (.imul, 1) := rfl
theorem c_52_12 : mLk 52 12 = some (.iload_n 3, 1) := rfl
theorem c_52_13 : mLk 52 13 = some (.iadd, 1) := rfl
theorem c_52_14 : mLk 52 14 = some (.dup2, 1) := rfl
theorem c_52_15 : mLk 52 15 = some (.iaload, 1) := rfl
theorem c_52_16 : mLk 52 16 = some (.iload 4, 2) := rfl
theorem c_52_18 : mLk 52 18 = some (.isub, 1) := rfl
theorem c_52_19 : mLk 52 19 = some (.iastore, 1) := rfl
theorem c_52_20 : mLk 52 20 = some (.aload_n 0, 1) := rfl
theorem c_52_21 : mLk 52 21 = some (.getfield 11, 3) := rfl
theorem c_52_24 : mLk 52 24 = some (.iload_n 2, 1) := rfl
theorem c_52_25 : mLk 52 25 = some (.iconst 4, 1) := rfl
theorem c_52_26 : mLk 52 26 = some (.imul, 1) := rfl
theorem c_52_27 : mLk 52 27 = some (.iload_n 3, 1) := rfl
theorem c_52_28 : mLk 52 28 = some (.iadd, 1) := rfl
theorem c_52_29 : mLk 52 29 = some (.dup2, 1) := rfl
theorem c_52_30 : mLk 52 30 = some (.iaload, 1) := rfl
theorem c_52_31 : mLk 52 31 = some (.iload 4, 2) := rfl
theorem c_52_33 : mLk 52 33 = some (.iadd, 1) := rfl
theorem c_52_34 : mLk 52 34 = some (.iastore, 1) := rfl
theorem c_52_35 : mLk 52 35 = some (.aload_n 0, 1) := rfl
theorem c_52_36 : mLk 52 36 = some (.getfield 11, 3) := rfl
theorem c_52_39 : mLk 52 39 = some (.bipush 24, 2) := rfl
theorem c_52_41 : mLk 52 41 = some (.iload_n 2, 1) := rfl
theorem c_52_42 : mLk 52 42 = some (.iadd, 1) := rfl
theorem c_52_43 : mLk 52 43 = some (.aload_n 0, 1) := rfl
theorem c_52_44 : mLk 52 44 = some (.iload_n 2, 1) := rfl
theorem c_52_45 : mLk 52 45 = some (.invokevirtual 46, 3) := rfl
theorem c_52_48 : mLk 52 48 = some (.aload_n 0, 1) := rfl
theorem c_52_49 : mLk 52 49 = some (.iload_n 1, 1) := rfl
theorem c_52_50 : mLk 52 50 = some (.invokevirtual 46, 3) := rfl
theorem c_52_53 : mLk 52 53 = some (.invokestatic 104, 3) := rfl
theorem c_52_56 : mLk 52 56 = some (.iastore, 1) := rfl
theorem kf_3_15 : a_lk (kF 3) 15 = some (3, 1) := rfl
theorem kf_3_22 : a_lk (kF 3) 22 = some (3, 3) := rfl
theorem kf_3_25 : a_lk (kF 3) 25 = some (3, 4) := rfl
theorem kf_4_11 : a_lk (kF 4) 11 = some (4, 0) := rfl
theorem kf_4_15 : a_lk (kF 4) 15 = some (4, 1) := rfl
theorem kf_4_58 : a_lk (kF 4) 58 = some (2, 8) := rfl
theorem kf_4_75 : a_lk (kF 4) 75 = some (2, 3) := rfl
theorem km_3_32 : a_lk (kM 3) 32 = some (0, 15) := rfl
theorem km_3_38 : a_lk (kM 3) 38 = some (0, 39) := rfl
theorem km_3_47 : a_lk (kM 3) 47 = some (0, 10) := rfl
theorem km_3_55 : a_lk (kM 3) 55 = some (0, 2) := rfl
theorem km_3_58 : a_lk (kM 3) 58 = some (0, 40) := rfl
theorem km_4_34 : a_lk (kM 4) 34 = some (0, 45) := rfl
theorem km_4_38 : a_lk (kM 4) 38 = some (0, 43) := rfl
theorem km_4_46 : a_lk (kM 4) 46 = some (0, 51) := rfl
theorem km_4_61 : a_lk (kM 4) 61 = some (0, 46) := rfl
theorem km_4_65 : a_lk (kM 4) 65 = some (0, 47) := rfl
theorem km_4_69 : a_lk (kM 4) 69 = some (0, 48) := rfl
theorem km_4_72 : a_lk (kM 4) 72 = some (0, 29) := rfl
set_option maxRecDepth 100000 in
set_option maxHeartbeats 4000000 in
theorem s_41_l {sc : List Int32} {d u P Q : Nat} {c : ME} {a4 : Int} {Z : AR → Prop} (hI : Iv u (-1) P Q c) (ha4 : 0 ≤ a4 ∧ a4 ≤ 6) (H41 : ∀ (c : ME) (Z : AR → Prop), a4 + 1 ≤ 6 → Iv u (-1) P Q c → (∀ c2 : ME, Iv u (-1) P Q c2 → (∀ (a : Nat) (j : Int), ¬ ((a = 1 ∧ j = 2) ∨ (a = 1 ∧ j = 4) ∨ (a = 1 ∧ j = 5) ∨ (a = 7 ∧ j = 2) ∨ (a = 8 ∧ j ≥ 5 * c 7 2)) → c2 a j = c a j) → (c2 7 2 ≥ c 7 2) → Z (.inl none, Wd P Q P P c2, 0, 0)) → Wp sc (d + 10) 41 0 [(0, .ref 7), (1, .ref 1), (2, .ref P), (3, vi (a4 + 1))] [] (Wd P Q P P c) 0 0 Z) (K : ∀ (c2 : ME), Iv u (-1) P Q c2 → (∀ (a : Nat) (j : Int), ¬ ((a = 1 ∧ j = 2) ∨ (a = 1 ∧ j = 4) ∨ (a = 1 ∧ j = 5) ∨ (a = 7 ∧ j = 2) ∨ (a = 8 ∧ j ≥ 5 * c 7 2)) → c2 a j = c a j) → ((c2 7 2 ≥ c 7 2)) → Z (.inl (none), Wd P Q P P c2, 0, 0)) : ∀ n : Nat, (∀ (c2 : ME) (v4 : Int), Iv u (-1) P Q c2 → (∀ (a : Nat) (j : Int), ¬ ((a = 1 ∧ j = 2) ∨ (a = 1 ∧ j = 4) ∨ (a = 1 ∧ j = 5) ∨ (a = 7 ∧ j = 2) ∨ (a = 8 ∧ j ≥ 5 * c 7 2)) → c2 a j = c a j) → 0 ≤ v4 ∧ v4 ≤ 38 → ((c2 7 2 ≥ c 7 2)) → 77 - 2 * v4 < (n : Int) → Wp sc (d + 12) 41 3 [(0, .ref 7), (1, .ref 1), (2, .ref P), (3, vi a4), (4, vi v4)] [] (Wd P Q P P c2) 0 0 Z) := by
  intro n
  induction n with
  | zero => exact (by intro c2 v4 hI2 hF hv4 hx0 hm9; have hP := iv_P hI; have hQ := iv_Q hI; exfalso; omega)
  | succ n ih =>
    have hP := iv_P hI
    have hQ := iv_Q hI
    intro c2 v4 hI2 hF hv4 hx0 hm9
    have h_1 := ir_7_2 hI
    have h_2 := ir_7_2 hI2
    refine q_iload c_41_3 rfl (v_bip c_41_5 (of_decide_eq_true rfl) ?_)
    by_cases h_3 : v4 ≥ 38
    · refine v_ic_ge_t (t := 129) c_41_7 rfl ⟨of_decide_eq_true rfl, h_3, (ler hv4.2 rfl)⟩ (q_vret rfl rfl ?_)
      exact K c2 hI2 (fun a j hm => hF a j (fun q => q.elim (fun h => hm (Or.inl h)) (fun q => q.elim (fun h => hm (Or.inr (Or.inl h))) (fun q => q.elim (fun h => hm (Or.inr (Or.inr (Or.inl h)))) (fun q => q.elim (fun h => hm (Or.inr (Or.inr (Or.inr (Or.inl h))))) (fun h => hm (Or.inr (Or.inr (Or.inr (Or.inr ⟨h.1, (Int.le_trans ((q_6ba67a5a0)) h.2)⟩)))))))))) (by omega)
    · refine v_ic_ge_f (t := 129) c_41_7 rfl ⟨(lel hv4.1 rfl), (Int.not_le.mp h_3), of_decide_eq_true rfl⟩ (q_aload_n c_41_10 rfl (v_cv c_41_11 km_3_32 rfl rfl (Nat.le_of_ble_eq_true rfl) ⟨⟨rfl, rfl⟩, Nat.le_of_ble_eq_true rfl, rfl⟩ (Nat.le_of_ble_eq_true rfl) (Nat.le_of_ble_eq_true rfl) (s_15 hI2 (fun c_4 y_7 hI_5 hF_6 hy_7 => (bk_inl ?_)))))
      by_cases h_8 : y_7 = 0
      · refine v_if_eq_t (t := 129) c_41_14 rfl h_8 (q_vret rfl rfl ?_)
        have kn_9 : Hid (c_4 7 2 = c2 7 2) := hF_6 7 2 (fun h => absurd h.1 (nn rfl))
        have h_10 : c_4 7 2 = c2 7 2 := (hid kn_9)
        exact K c_4 hI_5 (fun a j hm => (hF_6 a j (fun h => hm (Or.inl h))).trans (hF a j (fun q => q.elim (fun h => hm (Or.inl h)) (fun q => q.elim (fun h => hm (Or.inr (Or.inl h))) (fun q => q.elim (fun h => hm (Or.inr (Or.inr (Or.inl h)))) (fun q => q.elim (fun h => hm (Or.inr (Or.inr (Or.inr (Or.inl h))))) (fun h => hm (Or.inr (Or.inr (Or.inr (Or.inr ⟨h.1, (Int.le_trans ((q_6ba67a5a0)) h.2)⟩))))))))))) (by omega)
      · refine v_if_eq_f (t := 129) c_41_14 rfl ⟨h_8, ⟨(lel hy_7.1 rfl), (ler hy_7.2 rfl)⟩, of_decide_eq_true rfl, of_decide_eq_true rfl⟩ (q_iload_n c_41_17 rfl ?_)
        by_cases h_11 : a4 ≤ 0
        · refine v_if_le_t (t := 31) c_41_18 rfl ⟨(lel ha4.1 rfl), h_11, of_decide_eq_true rfl⟩ (q_aload_n c_41_31 rfl (v_cv c_41_32 km_3_42 rfl rfl (Nat.le_of_ble_eq_true rfl) ⟨⟨rfl, rfl⟩, Nat.le_of_ble_eq_true rfl, rfl⟩ (Nat.le_of_ble_eq_true rfl) (Nat.le_of_ble_eq_true rfl) (s_3 hI_5 (fun c_12 y_15 hI_13 hF_14 hy_15 h_16 => (bk_inl ?_)))))
          have h_17 := ir_1_2 hI_13
          refine q_istore c_41_35 (Nat.le_of_ble_eq_true rfl) (q_aload_n c_41_37 rfl (q_ldc_s c_41_38 rfl rfl (of_decide_eq_true rfl) (v_cv c_41_40 km_3_47 rfl rfl (Nat.le_of_ble_eq_true rfl) ⟨⟨rfl, rfl⟩, Nat.le_of_ble_eq_true rfl, rfl⟩ (Nat.le_of_ble_eq_true rfl) (Nat.le_of_ble_eq_true rfl) (s_10 hI_13 (q := 10) (nt := 41) (of_decide_eq_true rfl) (of_decide_eq_true rfl) (of_decide_eq_true rfl) (fun c_18 y_21 hI_19 hF_20 hy_21 h_22 => (bk_inl ?_))))))
          have h_23 := ir_1_4 hI_19
          refine q_istore c_41_43 (Nat.le_of_ble_eq_true rfl) (q_iload c_41_45 rfl (v_bip c_41_47 (of_decide_eq_true rfl) ?_))
          by_cases h_24 : y_21 ≠ 7
          · refine v_ic_ne_t (t := 65) c_41_49 rfl ⟨h_24, ⟨(lel hy_21.1 rfl), (ler hy_21.2 rfl)⟩, of_decide_eq_true rfl, of_decide_eq_true rfl⟩ (q_aload_n c_41_65 rfl (v_cv c_41_66 km_3_55 rfl rfl (Nat.le_of_ble_eq_true rfl) ⟨⟨rfl, rfl⟩, Nat.le_of_ble_eq_true rfl, rfl⟩ (Nat.le_of_ble_eq_true rfl) (Nat.le_of_ble_eq_true rfl) (q_aload_n c_2_0 rfl (v_gi (z := 4) (v := c_18 1 4) c_2_1 kf_5_38 rfl (Nat.le_of_ble_eq_true rfl) rfl rfl rfl ?_))))
            by_cases h_25 : c_18 1 4 ≠ 0
            · refine v_if_ne_t (t := 11) c_2_4 rfl ⟨h_25, ⟨(lel h_23.1 rfl), (ler h_23.2 rfl)⟩, of_decide_eq_true rfl, of_decide_eq_true rfl⟩ (q_iconst c_2_11 (v_zret c_2_12 rfl (of_decide_eq_true rfl) (bk_inl (v_if_eq_t (t := 117) c_41_69 rfl (of_decide_eq_true rfl) (q_aload_n c_41_117 rfl (q_ldc_s c_41_118 rfl rfl (of_decide_eq_true rfl) (v_cv c_41_120 km_3_64 rfl rfl (Nat.le_of_ble_eq_true rfl) ⟨⟨rfl, rfl⟩, Nat.le_of_ble_eq_true rfl, rfl⟩ (Nat.le_of_ble_eq_true rfl) (Nat.le_of_ble_eq_true rfl) (s_11 hI_19 (q := 13) (nt := 1) (of_decide_eq_true rfl) (of_decide_eq_true rfl) (of_decide_eq_true rfl) (fun c_26 hI_27 hF_28 => ?_)))))))))
              refine bk_inl (v_iinc (v := v4 + 1) c_41_123 rfl (Nat.le_of_ble_eq_true rfl) rfl (q_goto (t := 3) c_41_126 rfl (Wp_ls [(0, .ref 7), (1, .ref 1), (2, .ref P), (3, vi a4), (4, vi (v4 + 1))] (lsub_cons rfl (lsub_cons rfl (lsub_cons rfl (lsub_cons rfl (lsub_cons rfl lsub_nil))))) ?_)))
              have kn_29 : Hid (c_4 7 2 = c2 7 2) := hF_6 7 2 (fun h => absurd h.1 (nn rfl))
              have kn_30 : Hid (c_12 7 2 = c2 7 2) := (hF_14 7 2 (fun h => absurd h.1 (nn rfl))).trans (hid kn_29)
              have kn_31 : Hid (c_18 7 2 = c2 7 2) := (hF_20 7 2 qn_e31e1496e).trans (hid kn_30)
              have kn_32 : Hid (c_26 7 2 = c2 7 2) := (hF_28 7 2 qn_e31e1496e).trans (hid kn_31)
              have h_33 : c_26 7 2 = c2 7 2 := (hid kn_32)
              exact ih c_26 (v4 + 1) hI_27 (fun a j hm => (hF_28 a j (qv_d1fb82d1b hm)).trans ((hF_20 a j (qv_d1fb82d1b hm)).trans ((hF_14 a j (fun h => hm (Or.inl h))).trans ((hF_6 a j (fun h => hm (Or.inl h))).trans (hF a j (fun q => q.elim (fun h => hm (Or.inl h)) (fun q => q.elim (fun h => hm (Or.inr (Or.inl h))) (fun q => q.elim (fun h => hm (Or.inr (Or.inr (Or.inl h)))) (fun q => q.elim (fun h => hm (Or.inr (Or.inr (Or.inr (Or.inl h))))) (fun h => hm (Or.inr (Or.inr (Or.inr (Or.inr ⟨h.1, (Int.le_trans ((q_6ba67a5a0)) h.2)⟩)))))))))))))) ⟨(rgp_l hv4.1 (of_decide_eq_true rfl)), (q_074a98bd9 h_3)⟩ (by first | (clear ha4 hv4 h_1 h_2 h_3 h_11 h_17 h_16 h_23 h_8 h_22 h_24 h_25; omega) | omega) (by omega)
            · refine v_if_ne_f (t := 11) c_2_4 rfl (Decidable.not_not.mp h_25) (q_iconst c_2_7 (q_goto (t := 12) c_2_8 rfl (v_zret c_2_12 rfl (of_decide_eq_true rfl) (bk_inl (v_if_eq_f (t := 117) c_41_69 rfl (of_decide_eq_true rfl) (q_aload_n c_41_72 rfl ?_))))))
              have kn_34 : Hid (c_4 7 2 = c2 7 2) := hF_6 7 2 (fun h => absurd h.1 (nn rfl))
              have kn_35 : Hid (c_12 7 2 = c2 7 2) := (hF_14 7 2 (fun h => absurd h.1 (nn rfl))).trans (hid kn_34)
              have kn_36 : Hid (c_18 7 2 = c2 7 2) := (hF_20 7 2 qn_e31e1496e).trans (hid kn_35)
              refine v_gi (z := 2) (v := c2 7 2) c_41_73 kf_3_19 rfl (Nat.le_of_ble_eq_true rfl) rfl rfl (hid kn_36) (v_bip c_41_76 (of_decide_eq_true rfl) ?_)
              by_cases h_37 : c2 7 2 ≥ 38
              · refine v_ic_ge_t (t := 117) c_41_78 rfl ⟨of_decide_eq_true rfl, h_37, (ler h_2.2 rfl)⟩ (q_aload_n c_41_117 rfl (q_ldc_s c_41_118 rfl rfl (of_decide_eq_true rfl) (v_cv c_41_120 km_3_64 rfl rfl (Nat.le_of_ble_eq_true rfl) ⟨⟨rfl, rfl⟩, Nat.le_of_ble_eq_true rfl, rfl⟩ (Nat.le_of_ble_eq_true rfl) (Nat.le_of_ble_eq_true rfl) (s_11 hI_19 (q := 13) (nt := 1) (of_decide_eq_true rfl) (of_decide_eq_true rfl) (of_decide_eq_true rfl) (fun c_38 hI_39 hF_40 => (bk_inl (v_iinc (v := v4 + 1) c_41_123 rfl (Nat.le_of_ble_eq_true rfl) rfl (q_goto (t := 3) c_41_126 rfl (Wp_ls [(0, .ref 7), (1, .ref 1), (2, .ref P), (3, vi a4), (4, vi (v4 + 1))] (lsub_cons rfl (lsub_cons rfl (lsub_cons rfl (lsub_cons rfl (lsub_cons rfl lsub_nil))))) ?_)))))))))
                have kn_41 : Hid (c_38 7 2 = c2 7 2) := (hF_40 7 2 qn_e31e1496e).trans (hid kn_36)
                have h_42 : c_38 7 2 = c2 7 2 := (hid kn_41)
                exact ih c_38 (v4 + 1) hI_39 (fun a j hm => (hF_40 a j (qv_d1fb82d1b hm)).trans ((hF_20 a j (qv_d1fb82d1b hm)).trans ((hF_14 a j (fun h => hm (Or.inl h))).trans ((hF_6 a j (fun h => hm (Or.inl h))).trans (hF a j (fun q => q.elim (fun h => hm (Or.inl h)) (fun q => q.elim (fun h => hm (Or.inr (Or.inl h))) (fun q => q.elim (fun h => hm (Or.inr (Or.inr (Or.inl h)))) (fun q => q.elim (fun h => hm (Or.inr (Or.inr (Or.inr (Or.inl h))))) (fun h => hm (Or.inr (Or.inr (Or.inr (Or.inr ⟨h.1, (Int.le_trans ((q_6ba67a5a0)) h.2)⟩)))))))))))))) ⟨(rgp_l hv4.1 (of_decide_eq_true rfl)), (q_074a98bd9 h_3)⟩ (by first | (clear ha4 hv4 h_1 h_2 h_3 h_11 h_17 h_16 h_23 h_25 h_37 h_8 h_22 h_24; omega) | omega) (by omega)
              · refine v_ic_ge_f (t := 117) c_41_78 rfl ⟨(lel h_2.1 rfl), (Int.not_le.mp h_37), of_decide_eq_true rfl⟩ (q_aload_n c_41_81 rfl (v_gi (z := 2) (v := c2 7 2) c_41_82 kf_3_19 rfl (Nat.le_of_ble_eq_true rfl) rfl rfl (hid kn_36) (q_iconst c_41_85 (v_imul (v := 5 * c2 7 2) c_41_86 (by first | (clear ha4 hv4 hx0 h_1 h_2 h_3 h_11 h_17 h_16 h_23 h_25 h_37 h_8 h_22 h_24; omega) | omega) (q_istore c_41_87 (Nat.le_of_ble_eq_true rfl) (q_aload_n c_41_89 rfl (q_dup c_41_90 rfl ?_)))))))
                refine v_gi (z := 2) (v := c2 7 2) c_41_91 kf_3_19 rfl (Nat.le_of_ble_eq_true rfl) rfl rfl (hid kn_36) (q_iconst c_41_94 (v_iadd (v := c2 7 2 + 1) c_41_95 rfl (v_pi (z := 2) c_41_96 kf_3_19 rfl (Nat.le_of_ble_eq_true rfl) rfl rfl rfl (of_decide_eq_true rfl) (q_aload_n c_41_99 rfl (v_gr (t := 8) c_41_100 kf_3_11 rfl (Nat.le_of_ble_eq_true rfl) rfl (q_iload c_41_103 rfl (q_iload c_41_105 rfl ?_)))))))
                refine v_is c_41_107 rfl (of_decide_eq_true rfl) (of_decide_eq_true rfl) ⟨(q_2c11af296 h_2), (q_cab88ee8a h_37)⟩ (q_aload_n c_41_108 rfl (q_aload_n c_41_109 rfl (q_aload_n c_41_110 rfl (q_iload c_41_111 rfl (q_iload_n c_41_113 rfl ?_)))))
                have hI_43 := iw_7_2 (v := c2 7 2 + 1) hI_19 ⟨(rgp_l h_2.1 (of_decide_eq_true rfl)), (q_074a98bd9 h_37)⟩
                have hI_44 := iw8_0 (t := c2 7 2) (j := 5 * c2 7 2) (v := y_21) (iv_open8 hI_43) (rfl) ⟨(q_36afb4550 h_22 h_23 h_25), (ler hy_21.2 rfl)⟩
                have h_45 : (up (up c_18 7 2 (c2 7 2 + 1)) 8 (5 * c2 7 2) y_21) 7 2 = c2 7 2 + 1 := ((up_c (nn rfl)).trans (up_e rfl))
                have h_46 : (up (up c_18 7 2 (c2 7 2 + 1)) 8 (5 * c2 7 2) y_21) 8 (5 * c2 7 2) = y_21 := (up_e rfl)
                have h_47 : (up (up c_18 7 2 (c2 7 2 + 1)) 8 (5 * c2 7 2) y_21) 8 (5 * (c2 7 2)) = y_21 := (congrArg ((up (up c_18 7 2 (c2 7 2 + 1)) 8 (5 * c2 7 2) y_21) 8) (by first | assumption | exact Int.le_antisymm (by omega) (by omega))).trans (up_e rfl)
                refine v_cv c_41_114 km_3_58 rfl rfl (Nat.le_of_ble_eq_true rfl) ⟨⟨rfl, rfl⟩, Nat.le_of_ble_eq_true rfl, rfl⟩ (Nat.le_of_ble_eq_true rfl) (Nat.le_of_ble_eq_true rfl) (s_40 (t := c2 7 2) (a4 := a4) hI_44 (show 0 ≤ c2 7 2 ∧ c2 7 2 ≤ 37 from by omega) (show 0 ≤ a4 ∧ a4 ≤ 6 from ha4) ((q_3bb02af3e)) (Or.inl ((q_3f6909586 h_11))) H41 (fun c_48 hI_49 hF_50 h_51 => (bk_inl ?_)))
                have h_52 := ir_7_2 hI_49
                refine q_aload_n c_41_117 rfl (q_ldc_s c_41_118 rfl rfl (of_decide_eq_true rfl) (v_cv c_41_120 km_3_64 rfl rfl (Nat.le_of_ble_eq_true rfl) ⟨⟨rfl, rfl⟩, Nat.le_of_ble_eq_true rfl, rfl⟩ (Nat.le_of_ble_eq_true rfl) (Nat.le_of_ble_eq_true rfl) (s_11 hI_49 (q := 13) (nt := 1) (of_decide_eq_true rfl) (of_decide_eq_true rfl) (of_decide_eq_true rfl) (fun c_53 hI_54 hF_55 => (bk_inl (v_iinc (v := v4 + 1) c_41_123 rfl (Nat.le_of_ble_eq_true rfl) rfl (q_goto (t := 3) c_41_126 rfl (Wp_ls [(0, .ref 7), (1, .ref 1), (2, .ref P), (3, vi a4), (4, vi (v4 + 1))] (lsub_cons rfl (lsub_cons rfl (lsub_cons rfl (lsub_cons rfl (lsub_cons rfl lsub_nil))))) ?_))))))))
                have kn_56 : Hid (c_53 7 2 = c_48 7 2) := hF_55 7 2 qn_e31e1496e
                have h_57 : c_53 7 2 = c_48 7 2 := (hid kn_56)
                exact ih c_53 (v4 + 1) hI_54 (fun a j hm => (hF_55 a j (qv_d1fb82d1b hm)).trans ((hF_50 a j (fun q => q.elim (fun h => hm (Or.inl h)) (fun q => q.elim (fun h => hm (Or.inr (Or.inl h))) (fun q => q.elim (fun h => hm (Or.inr (Or.inr (Or.inl h)))) (fun q => q.elim (fun h => hm (Or.inr (Or.inr (Or.inr (Or.inl h))))) (fun h => hm (Or.inr (Or.inr (Or.inr (Or.inr ⟨h.1, (Int.le_trans (by clear hm; first | (clear ha4 hv4 h_1 h_2 h_3 h_11 h_17 h_16 h_23 h_25 h_37 h_52 h_51 h_8 h_22 h_24; omega) | omega) h.2)⟩)))))))))).trans ((up_b (Decidable.or_iff_not_imp_left.mpr (fun h1 h2 => hm (Or.inr (Or.inr (Or.inr (Or.inr ⟨Decidable.not_not.mp h1, (Int.le_trans (by clear hm; first | (clear ha4 hv4 h_1 h_2 h_3 h_11 h_17 h_16 h_23 h_25 h_37 h_52 h_51 h_8 h_22 h_24; omega) | omega) (Int.le_of_eq h2.symm))⟩))))))).trans ((up_b (Decidable.or_iff_not_imp_left.mpr (fun h1 h2 => hm (Or.inr (Or.inr (Or.inr (Or.inl ⟨Decidable.not_not.mp h1, h2⟩))))))).trans ((hF_20 a j (qv_d1fb82d1b hm)).trans ((hF_14 a j (fun h => hm (Or.inl h))).trans ((hF_6 a j (fun h => hm (Or.inl h))).trans (hF a j (fun q => q.elim (fun h => hm (Or.inl h)) (fun q => q.elim (fun h => hm (Or.inr (Or.inl h))) (fun q => q.elim (fun h => hm (Or.inr (Or.inr (Or.inl h)))) (fun q => q.elim (fun h => hm (Or.inr (Or.inr (Or.inr (Or.inl h))))) (fun h => hm (Or.inr (Or.inr (Or.inr (Or.inr ⟨h.1, (Int.le_trans ((q_6ba67a5a0)) h.2)⟩))))))))))))))))) ⟨(rgp_l hv4.1 (of_decide_eq_true rfl)), (q_074a98bd9 h_3)⟩ (by first | (clear ha4 hv4 h_1 h_2 h_3 h_11 h_17 h_16 h_23 h_25 h_37 h_52 h_8 h_22 h_24; omega) | omega) (by omega)
          · refine v_ic_ne_f (t := 65) c_41_49 rfl (Decidable.not_not.mp h_24) (q_iload_n c_41_52 rfl (v_bip c_41_53 (of_decide_eq_true rfl) (v_ic_lt_t (t := 65) c_41_55 rfl ⟨(lel ha4.1 rfl), (q_d0d2f254a h_11), of_decide_eq_true rfl⟩ (q_aload_n c_41_65 rfl (v_cv c_41_66 km_3_55 rfl rfl (Nat.le_of_ble_eq_true rfl) ⟨⟨rfl, rfl⟩, Nat.le_of_ble_eq_true rfl, rfl⟩ (Nat.le_of_ble_eq_true rfl) (Nat.le_of_ble_eq_true rfl) (q_aload_n c_2_0 rfl (v_gi (z := 4) (v := c_18 1 4) c_2_1 kf_5_38 rfl (Nat.le_of_ble_eq_true rfl) rfl rfl rfl ?_)))))))
            by_cases h_58 : c_18 1 4 ≠ 0
            · refine v_if_ne_t (t := 11) c_2_4 rfl ⟨h_58, ⟨(lel h_23.1 rfl), (ler h_23.2 rfl)⟩, of_decide_eq_true rfl, of_decide_eq_true rfl⟩ (q_iconst c_2_11 (v_zret c_2_12 rfl (of_decide_eq_true rfl) (bk_inl (v_if_eq_t (t := 117) c_41_69 rfl (of_decide_eq_true rfl) (q_aload_n c_41_117 rfl (q_ldc_s c_41_118 rfl rfl (of_decide_eq_true rfl) (v_cv c_41_120 km_3_64 rfl rfl (Nat.le_of_ble_eq_true rfl) ⟨⟨rfl, rfl⟩, Nat.le_of_ble_eq_true rfl, rfl⟩ (Nat.le_of_ble_eq_true rfl) (Nat.le_of_ble_eq_true rfl) (s_11 hI_19 (q := 13) (nt := 1) (of_decide_eq_true rfl) (of_decide_eq_true rfl) (of_decide_eq_true rfl) (fun c_59 hI_60 hF_61 => ?_)))))))))
              refine bk_inl (v_iinc (v := v4 + 1) c_41_123 rfl (Nat.le_of_ble_eq_true rfl) rfl (q_goto (t := 3) c_41_126 rfl (Wp_ls [(0, .ref 7), (1, .ref 1), (2, .ref P), (3, vi a4), (4, vi (v4 + 1))] (lsub_cons rfl (lsub_cons rfl (lsub_cons rfl (lsub_cons rfl (lsub_cons rfl lsub_nil))))) ?_)))
              have kn_62 : Hid (c_4 7 2 = c2 7 2) := hF_6 7 2 (fun h => absurd h.1 (nn rfl))
              have kn_63 : Hid (c_12 7 2 = c2 7 2) := (hF_14 7 2 (fun h => absurd h.1 (nn rfl))).trans (hid kn_62)
              have kn_64 : Hid (c_18 7 2 = c2 7 2) := (hF_20 7 2 qn_e31e1496e).trans (hid kn_63)
              have kn_65 : Hid (c_59 7 2 = c2 7 2) := (hF_61 7 2 qn_e31e1496e).trans (hid kn_64)
              have h_66 : c_59 7 2 = c2 7 2 := (hid kn_65)
              exact ih c_59 (v4 + 1) hI_60 (fun a j hm => (hF_61 a j (qv_d1fb82d1b hm)).trans ((hF_20 a j (qv_d1fb82d1b hm)).trans ((hF_14 a j (fun h => hm (Or.inl h))).trans ((hF_6 a j (fun h => hm (Or.inl h))).trans (hF a j (fun q => q.elim (fun h => hm (Or.inl h)) (fun q => q.elim (fun h => hm (Or.inr (Or.inl h))) (fun q => q.elim (fun h => hm (Or.inr (Or.inr (Or.inl h)))) (fun q => q.elim (fun h => hm (Or.inr (Or.inr (Or.inr (Or.inl h))))) (fun h => hm (Or.inr (Or.inr (Or.inr (Or.inr ⟨h.1, (Int.le_trans ((q_6ba67a5a0)) h.2)⟩)))))))))))))) ⟨(rgp_l hv4.1 (of_decide_eq_true rfl)), (q_074a98bd9 h_3)⟩ (by first | (clear ha4 hv4 h_1 h_2 h_3 h_11 h_17 h_16 h_23 h_24 h_8 h_22 h_58; omega) | omega) (by omega)
            · refine v_if_ne_f (t := 11) c_2_4 rfl (Decidable.not_not.mp h_58) (q_iconst c_2_7 (q_goto (t := 12) c_2_8 rfl (v_zret c_2_12 rfl (of_decide_eq_true rfl) (bk_inl (v_if_eq_f (t := 117) c_41_69 rfl (of_decide_eq_true rfl) (q_aload_n c_41_72 rfl ?_))))))
              have kn_67 : Hid (c_4 7 2 = c2 7 2) := hF_6 7 2 (fun h => absurd h.1 (nn rfl))
              have kn_68 : Hid (c_12 7 2 = c2 7 2) := (hF_14 7 2 (fun h => absurd h.1 (nn rfl))).trans (hid kn_67)
              have kn_69 : Hid (c_18 7 2 = c2 7 2) := (hF_20 7 2 qn_e31e1496e).trans (hid kn_68)
              refine v_gi (z := 2) (v := c2 7 2) c_41_73 kf_3_19 rfl (Nat.le_of_ble_eq_true rfl) rfl rfl (hid kn_69) (v_bip c_41_76 (of_decide_eq_true rfl) ?_)
              by_cases h_70 : c2 7 2 ≥ 38
              · refine v_ic_ge_t (t := 117) c_41_78 rfl ⟨of_decide_eq_true rfl, h_70, (ler h_2.2 rfl)⟩ (q_aload_n c_41_117 rfl (q_ldc_s c_41_118 rfl rfl (of_decide_eq_true rfl) (v_cv c_41_120 km_3_64 rfl rfl (Nat.le_of_ble_eq_true rfl) ⟨⟨rfl, rfl⟩, Nat.le_of_ble_eq_true rfl, rfl⟩ (Nat.le_of_ble_eq_true rfl) (Nat.le_of_ble_eq_true rfl) (s_11 hI_19 (q := 13) (nt := 1) (of_decide_eq_true rfl) (of_decide_eq_true rfl) (of_decide_eq_true rfl) (fun c_71 hI_72 hF_73 => (bk_inl (v_iinc (v := v4 + 1) c_41_123 rfl (Nat.le_of_ble_eq_true rfl) rfl (q_goto (t := 3) c_41_126 rfl (Wp_ls [(0, .ref 7), (1, .ref 1), (2, .ref P), (3, vi a4), (4, vi (v4 + 1))] (lsub_cons rfl (lsub_cons rfl (lsub_cons rfl (lsub_cons rfl (lsub_cons rfl lsub_nil))))) ?_)))))))))
                have kn_74 : Hid (c_71 7 2 = c2 7 2) := (hF_73 7 2 qn_e31e1496e).trans (hid kn_69)
                have h_75 : c_71 7 2 = c2 7 2 := (hid kn_74)
                exact ih c_71 (v4 + 1) hI_72 (fun a j hm => (hF_73 a j (qv_d1fb82d1b hm)).trans ((hF_20 a j (qv_d1fb82d1b hm)).trans ((hF_14 a j (fun h => hm (Or.inl h))).trans ((hF_6 a j (fun h => hm (Or.inl h))).trans (hF a j (fun q => q.elim (fun h => hm (Or.inl h)) (fun q => q.elim (fun h => hm (Or.inr (Or.inl h))) (fun q => q.elim (fun h => hm (Or.inr (Or.inr (Or.inl h)))) (fun q => q.elim (fun h => hm (Or.inr (Or.inr (Or.inr (Or.inl h))))) (fun h => hm (Or.inr (Or.inr (Or.inr (Or.inr ⟨h.1, (Int.le_trans ((q_6ba67a5a0)) h.2)⟩)))))))))))))) ⟨(rgp_l hv4.1 (of_decide_eq_true rfl)), (q_074a98bd9 h_3)⟩ (by first | (clear ha4 hv4 h_1 h_2 h_3 h_11 h_17 h_16 h_23 h_24 h_58 h_70 h_8 h_22; omega) | omega) (by omega)
              · refine v_ic_ge_f (t := 117) c_41_78 rfl ⟨(lel h_2.1 rfl), (Int.not_le.mp h_70), of_decide_eq_true rfl⟩ (q_aload_n c_41_81 rfl (v_gi (z := 2) (v := c2 7 2) c_41_82 kf_3_19 rfl (Nat.le_of_ble_eq_true rfl) rfl rfl (hid kn_69) (q_iconst c_41_85 (v_imul (v := 5 * c2 7 2) c_41_86 (by first | (clear ha4 hv4 hx0 h_1 h_2 h_3 h_11 h_17 h_16 h_23 h_24 h_58 h_70 h_8 h_22; omega) | omega) (q_istore c_41_87 (Nat.le_of_ble_eq_true rfl) (q_aload_n c_41_89 rfl (q_dup c_41_90 rfl ?_)))))))
                refine v_gi (z := 2) (v := c2 7 2) c_41_91 kf_3_19 rfl (Nat.le_of_ble_eq_true rfl) rfl rfl (hid kn_69) (q_iconst c_41_94 (v_iadd (v := c2 7 2 + 1) c_41_95 rfl (v_pi (z := 2) c_41_96 kf_3_19 rfl (Nat.le_of_ble_eq_true rfl) rfl rfl rfl (of_decide_eq_true rfl) (q_aload_n c_41_99 rfl (v_gr (t := 8) c_41_100 kf_3_11 rfl (Nat.le_of_ble_eq_true rfl) rfl (q_iload c_41_103 rfl (q_iload c_41_105 rfl ?_)))))))
                refine v_is c_41_107 rfl (of_decide_eq_true rfl) (of_decide_eq_true rfl) ⟨(q_2c11af296 h_2), (q_cab88ee8a h_70)⟩ (q_aload_n c_41_108 rfl (q_aload_n c_41_109 rfl (q_aload_n c_41_110 rfl (q_iload c_41_111 rfl (q_iload_n c_41_113 rfl ?_)))))
                have hI_76 := iw_7_2 (v := c2 7 2 + 1) hI_19 ⟨(rgp_l h_2.1 (of_decide_eq_true rfl)), (q_074a98bd9 h_70)⟩
                have hI_77 := iw8_0 (t := c2 7 2) (j := 5 * c2 7 2) (v := y_21) (iv_open8 hI_76) (rfl) ⟨(q_055ef26ca h_24), (ler hy_21.2 rfl)⟩
                have h_78 : (up (up c_18 7 2 (c2 7 2 + 1)) 8 (5 * c2 7 2) y_21) 7 2 = c2 7 2 + 1 := ((up_c (nn rfl)).trans (up_e rfl))
                have h_79 : (up (up c_18 7 2 (c2 7 2 + 1)) 8 (5 * c2 7 2) y_21) 8 (5 * c2 7 2) = y_21 := (up_e rfl)
                have h_80 : (up (up c_18 7 2 (c2 7 2 + 1)) 8 (5 * c2 7 2) y_21) 8 (5 * (c2 7 2)) = y_21 := (congrArg ((up (up c_18 7 2 (c2 7 2 + 1)) 8 (5 * c2 7 2) y_21) 8) (by first | assumption | exact Int.le_antisymm (by omega) (by omega))).trans (up_e rfl)
                refine v_cv c_41_114 km_3_58 rfl rfl (Nat.le_of_ble_eq_true rfl) ⟨⟨rfl, rfl⟩, Nat.le_of_ble_eq_true rfl, rfl⟩ (Nat.le_of_ble_eq_true rfl) (Nat.le_of_ble_eq_true rfl) (s_40 (t := c2 7 2) (a4 := a4) hI_77 (show 0 ≤ c2 7 2 ∧ c2 7 2 ≤ 37 from by omega) (show 0 ≤ a4 ∧ a4 ≤ 6 from ha4) ((q_3bb02af3e)) (Or.inl ((q_3f6909586 h_11))) H41 (fun c_81 hI_82 hF_83 h_84 => (bk_inl ?_)))
                have h_85 := ir_7_2 hI_82
                refine q_aload_n c_41_117 rfl (q_ldc_s c_41_118 rfl rfl (of_decide_eq_true rfl) (v_cv c_41_120 km_3_64 rfl rfl (Nat.le_of_ble_eq_true rfl) ⟨⟨rfl, rfl⟩, Nat.le_of_ble_eq_true rfl, rfl⟩ (Nat.le_of_ble_eq_true rfl) (Nat.le_of_ble_eq_true rfl) (s_11 hI_82 (q := 13) (nt := 1) (of_decide_eq_true rfl) (of_decide_eq_true rfl) (of_decide_eq_true rfl) (fun c_86 hI_87 hF_88 => (bk_inl (v_iinc (v := v4 + 1) c_41_123 rfl (Nat.le_of_ble_eq_true rfl) rfl (q_goto (t := 3) c_41_126 rfl (Wp_ls [(0, .ref 7), (1, .ref 1), (2, .ref P), (3, vi a4), (4, vi (v4 + 1))] (lsub_cons rfl (lsub_cons rfl (lsub_cons rfl (lsub_cons rfl (lsub_cons rfl lsub_nil))))) ?_))))))))
                have kn_89 : Hid (c_86 7 2 = c_81 7 2) := hF_88 7 2 qn_e31e1496e
                have h_90 : c_86 7 2 = c_81 7 2 := (hid kn_89)
                exact ih c_86 (v4 + 1) hI_87 (fun a j hm => (hF_88 a j (qv_d1fb82d1b hm)).trans ((hF_83 a j (fun q => q.elim (fun h => hm (Or.inl h)) (fun q => q.elim (fun h => hm (Or.inr (Or.inl h))) (fun q => q.elim (fun h => hm (Or.inr (Or.inr (Or.inl h)))) (fun q => q.elim (fun h => hm (Or.inr (Or.inr (Or.inr (Or.inl h))))) (fun h => hm (Or.inr (Or.inr (Or.inr (Or.inr ⟨h.1, (Int.le_trans (by clear hm; first | (clear ha4 hv4 h_1 h_2 h_3 h_11 h_17 h_16 h_23 h_24 h_58 h_70 h_85 h_84 h_8 h_22; omega) | omega) h.2)⟩)))))))))).trans ((up_b (Decidable.or_iff_not_imp_left.mpr (fun h1 h2 => hm (Or.inr (Or.inr (Or.inr (Or.inr ⟨Decidable.not_not.mp h1, (Int.le_trans (by clear hm; first | (clear ha4 hv4 h_1 h_2 h_3 h_11 h_17 h_16 h_23 h_24 h_58 h_70 h_85 h_84 h_8 h_22; omega) | omega) (Int.le_of_eq h2.symm))⟩))))))).trans ((up_b (Decidable.or_iff_not_imp_left.mpr (fun h1 h2 => hm (Or.inr (Or.inr (Or.inr (Or.inl ⟨Decidable.not_not.mp h1, h2⟩))))))).trans ((hF_20 a j (qv_d1fb82d1b hm)).trans ((hF_14 a j (fun h => hm (Or.inl h))).trans ((hF_6 a j (fun h => hm (Or.inl h))).trans (hF a j (fun q => q.elim (fun h => hm (Or.inl h)) (fun q => q.elim (fun h => hm (Or.inr (Or.inl h))) (fun q => q.elim (fun h => hm (Or.inr (Or.inr (Or.inl h)))) (fun q => q.elim (fun h => hm (Or.inr (Or.inr (Or.inr (Or.inl h))))) (fun h => hm (Or.inr (Or.inr (Or.inr (Or.inr ⟨h.1, (Int.le_trans ((q_6ba67a5a0)) h.2)⟩))))))))))))))))) ⟨(rgp_l hv4.1 (of_decide_eq_true rfl)), (q_074a98bd9 h_3)⟩ (by first | (clear ha4 hv4 h_1 h_2 h_3 h_11 h_17 h_16 h_23 h_24 h_58 h_70 h_85 h_8 h_22; omega) | omega) (by omega)
        · refine v_if_le_f (t := 31) c_41_18 rfl ⟨of_decide_eq_true rfl, (Int.not_le.mp h_11), (ler ha4.2 rfl)⟩ (q_aload_n c_41_21 rfl (v_cv c_41_22 km_3_38 rfl rfl (Nat.le_of_ble_eq_true rfl) ⟨⟨rfl, rfl⟩, Nat.le_of_ble_eq_true rfl, rfl⟩ (Nat.le_of_ble_eq_true rfl) (Nat.le_of_ble_eq_true rfl) (s_39 hI_5 (fun c_91 y_94 hI_92 hF_93 hy_94 => (bk_inl (v_bip c_41_25 (of_decide_eq_true rfl) ?_))))))
          by_cases h_95 : y_94 ≠ 93
          · refine v_ic_ne_t (t := 31) c_41_27 rfl ⟨h_95, ⟨(lel hy_94.1 rfl), (ler hy_94.2 rfl)⟩, of_decide_eq_true rfl, of_decide_eq_true rfl⟩ (q_aload_n c_41_31 rfl (v_cv c_41_32 km_3_42 rfl rfl (Nat.le_of_ble_eq_true rfl) ⟨⟨rfl, rfl⟩, Nat.le_of_ble_eq_true rfl, rfl⟩ (Nat.le_of_ble_eq_true rfl) (Nat.le_of_ble_eq_true rfl) (s_3 hI_92 (fun c_96 y_99 hI_97 hF_98 hy_99 h_100 => (bk_inl ?_)))))
            have h_101 := ir_1_2 hI_97
            refine q_istore c_41_35 (Nat.le_of_ble_eq_true rfl) (q_aload_n c_41_37 rfl (q_ldc_s c_41_38 rfl rfl (of_decide_eq_true rfl) (v_cv c_41_40 km_3_47 rfl rfl (Nat.le_of_ble_eq_true rfl) ⟨⟨rfl, rfl⟩, Nat.le_of_ble_eq_true rfl, rfl⟩ (Nat.le_of_ble_eq_true rfl) (Nat.le_of_ble_eq_true rfl) (s_10 hI_97 (q := 10) (nt := 41) (of_decide_eq_true rfl) (of_decide_eq_true rfl) (of_decide_eq_true rfl) (fun c_102 y_105 hI_103 hF_104 hy_105 h_106 => (bk_inl ?_))))))
            have h_107 := ir_1_4 hI_103
            refine q_istore c_41_43 (Nat.le_of_ble_eq_true rfl) (q_iload c_41_45 rfl (v_bip c_41_47 (of_decide_eq_true rfl) ?_))
            by_cases h_108 : y_105 ≠ 7
            · refine v_ic_ne_t (t := 65) c_41_49 rfl ⟨h_108, ⟨(lel hy_105.1 rfl), (ler hy_105.2 rfl)⟩, of_decide_eq_true rfl, of_decide_eq_true rfl⟩ (q_aload_n c_41_65 rfl (v_cv c_41_66 km_3_55 rfl rfl (Nat.le_of_ble_eq_true rfl) ⟨⟨rfl, rfl⟩, Nat.le_of_ble_eq_true rfl, rfl⟩ (Nat.le_of_ble_eq_true rfl) (Nat.le_of_ble_eq_true rfl) (q_aload_n c_2_0 rfl (v_gi (z := 4) (v := c_102 1 4) c_2_1 kf_5_38 rfl (Nat.le_of_ble_eq_true rfl) rfl rfl rfl ?_))))
              by_cases h_109 : c_102 1 4 ≠ 0
              · refine v_if_ne_t (t := 11) c_2_4 rfl ⟨h_109, ⟨(lel h_107.1 rfl), (ler h_107.2 rfl)⟩, of_decide_eq_true rfl, of_decide_eq_true rfl⟩ (q_iconst c_2_11 (v_zret c_2_12 rfl (of_decide_eq_true rfl) (bk_inl (v_if_eq_t (t := 117) c_41_69 rfl (of_decide_eq_true rfl) (q_aload_n c_41_117 rfl (q_ldc_s c_41_118 rfl rfl (of_decide_eq_true rfl) (v_cv c_41_120 km_3_64 rfl rfl (Nat.le_of_ble_eq_true rfl) ⟨⟨rfl, rfl⟩, Nat.le_of_ble_eq_true rfl, rfl⟩ (Nat.le_of_ble_eq_true rfl) (Nat.le_of_ble_eq_true rfl) (s_11 hI_103 (q := 13) (nt := 1) (of_decide_eq_true rfl) (of_decide_eq_true rfl) (of_decide_eq_true rfl) (fun c_110 hI_111 hF_112 => ?_)))))))))
                refine bk_inl (v_iinc (v := v4 + 1) c_41_123 rfl (Nat.le_of_ble_eq_true rfl) rfl (q_goto (t := 3) c_41_126 rfl (Wp_ls [(0, .ref 7), (1, .ref 1), (2, .ref P), (3, vi a4), (4, vi (v4 + 1))] (lsub_cons rfl (lsub_cons rfl (lsub_cons rfl (lsub_cons rfl (lsub_cons rfl lsub_nil))))) ?_)))
                have kn_113 : Hid (c_4 7 2 = c2 7 2) := hF_6 7 2 (fun h => absurd h.1 (nn rfl))
                have kn_114 : Hid (c_91 7 2 = c2 7 2) := (hF_93 7 2 (fun h => absurd h.1 (nn rfl))).trans (hid kn_113)
                have kn_115 : Hid (c_96 7 2 = c2 7 2) := (hF_98 7 2 (fun h => absurd h.1 (nn rfl))).trans (hid kn_114)
                have kn_116 : Hid (c_102 7 2 = c2 7 2) := (hF_104 7 2 qn_e31e1496e).trans (hid kn_115)
                have kn_117 : Hid (c_110 7 2 = c2 7 2) := (hF_112 7 2 qn_e31e1496e).trans (hid kn_116)
                have h_118 : c_110 7 2 = c2 7 2 := (hid kn_117)
                exact ih c_110 (v4 + 1) hI_111 (fun a j hm => (hF_112 a j (qv_d1fb82d1b hm)).trans ((hF_104 a j (qv_d1fb82d1b hm)).trans ((hF_98 a j (fun h => hm (Or.inl h))).trans ((hF_93 a j (fun h => hm (Or.inl h))).trans ((hF_6 a j (fun h => hm (Or.inl h))).trans (hF a j (fun q => q.elim (fun h => hm (Or.inl h)) (fun q => q.elim (fun h => hm (Or.inr (Or.inl h))) (fun q => q.elim (fun h => hm (Or.inr (Or.inr (Or.inl h)))) (fun q => q.elim (fun h => hm (Or.inr (Or.inr (Or.inr (Or.inl h))))) (fun h => hm (Or.inr (Or.inr (Or.inr (Or.inr ⟨h.1, (Int.le_trans ((q_6ba67a5a0)) h.2)⟩))))))))))))))) ⟨(rgp_l hv4.1 (of_decide_eq_true rfl)), (q_074a98bd9 h_3)⟩ (by first | (clear ha4 hv4 h_1 h_2 h_3 h_11 h_101 h_100 h_107 h_8 h_95 h_106 h_108 h_109; omega) | omega) (by omega)
              · refine v_if_ne_f (t := 11) c_2_4 rfl (Decidable.not_not.mp h_109) (q_iconst c_2_7 (q_goto (t := 12) c_2_8 rfl (v_zret c_2_12 rfl (of_decide_eq_true rfl) (bk_inl (v_if_eq_f (t := 117) c_41_69 rfl (of_decide_eq_true rfl) (q_aload_n c_41_72 rfl ?_))))))
                have kn_119 : Hid (c_4 7 2 = c2 7 2) := hF_6 7 2 (fun h => absurd h.1 (nn rfl))
                have kn_120 : Hid (c_91 7 2 = c2 7 2) := (hF_93 7 2 (fun h => absurd h.1 (nn rfl))).trans (hid kn_119)
                have kn_121 : Hid (c_96 7 2 = c2 7 2) := (hF_98 7 2 (fun h => absurd h.1 (nn rfl))).trans (hid kn_120)
                have kn_122 : Hid (c_102 7 2 = c2 7 2) := (hF_104 7 2 qn_e31e1496e).trans (hid kn_121)
                refine v_gi (z := 2) (v := c2 7 2) c_41_73 kf_3_19 rfl (Nat.le_of_ble_eq_true rfl) rfl rfl (hid kn_122) (v_bip c_41_76 (of_decide_eq_true rfl) ?_)
                by_cases h_123 : c2 7 2 ≥ 38
                · refine v_ic_ge_t (t := 117) c_41_78 rfl ⟨of_decide_eq_true rfl, h_123, (ler h_2.2 rfl)⟩ (q_aload_n c_41_117 rfl (q_ldc_s c_41_118 rfl rfl (of_decide_eq_true rfl) (v_cv c_41_120 km_3_64 rfl rfl (Nat.le_of_ble_eq_true rfl) ⟨⟨rfl, rfl⟩, Nat.le_of_ble_eq_true rfl, rfl⟩ (Nat.le_of_ble_eq_true rfl) (Nat.le_of_ble_eq_true rfl) (s_11 hI_103 (q := 13) (nt := 1) (of_decide_eq_true rfl) (of_decide_eq_true rfl) (of_decide_eq_true rfl) (fun c_124 hI_125 hF_126 => (bk_inl (v_iinc (v := v4 + 1) c_41_123 rfl (Nat.le_of_ble_eq_true rfl) rfl (q_goto (t := 3) c_41_126 rfl (Wp_ls [(0, .ref 7), (1, .ref 1), (2, .ref P), (3, vi a4), (4, vi (v4 + 1))] (lsub_cons rfl (lsub_cons rfl (lsub_cons rfl (lsub_cons rfl (lsub_cons rfl lsub_nil))))) ?_)))))))))
                  have kn_127 : Hid (c_124 7 2 = c2 7 2) := (hF_126 7 2 qn_e31e1496e).trans (hid kn_122)
                  have h_128 : c_124 7 2 = c2 7 2 := (hid kn_127)
                  exact ih c_124 (v4 + 1) hI_125 (fun a j hm => (hF_126 a j (qv_d1fb82d1b hm)).trans ((hF_104 a j (qv_d1fb82d1b hm)).trans ((hF_98 a j (fun h => hm (Or.inl h))).trans ((hF_93 a j (fun h => hm (Or.inl h))).trans ((hF_6 a j (fun h => hm (Or.inl h))).trans (hF a j (fun q => q.elim (fun h => hm (Or.inl h)) (fun q => q.elim (fun h => hm (Or.inr (Or.inl h))) (fun q => q.elim (fun h => hm (Or.inr (Or.inr (Or.inl h)))) (fun q => q.elim (fun h => hm (Or.inr (Or.inr (Or.inr (Or.inl h))))) (fun h => hm (Or.inr (Or.inr (Or.inr (Or.inr ⟨h.1, (Int.le_trans ((q_6ba67a5a0)) h.2)⟩))))))))))))))) ⟨(rgp_l hv4.1 (of_decide_eq_true rfl)), (q_074a98bd9 h_3)⟩ (by first | (clear ha4 hv4 h_1 h_2 h_3 h_11 h_101 h_100 h_107 h_109 h_123 h_8 h_95 h_106 h_108; omega) | omega) (by omega)
                · refine v_ic_ge_f (t := 117) c_41_78 rfl ⟨(lel h_2.1 rfl), (Int.not_le.mp h_123), of_decide_eq_true rfl⟩ (q_aload_n c_41_81 rfl (v_gi (z := 2) (v := c2 7 2) c_41_82 kf_3_19 rfl (Nat.le_of_ble_eq_true rfl) rfl rfl (hid kn_122) (q_iconst c_41_85 (v_imul (v := 5 * c2 7 2) c_41_86 (by first | (clear ha4 hv4 hx0 h_1 h_2 h_3 h_11 h_101 h_100 h_107 h_109 h_123 h_8 h_95 h_106 h_108; omega) | omega) (q_istore c_41_87 (Nat.le_of_ble_eq_true rfl) (q_aload_n c_41_89 rfl (q_dup c_41_90 rfl ?_)))))))
                  refine v_gi (z := 2) (v := c2 7 2) c_41_91 kf_3_19 rfl (Nat.le_of_ble_eq_true rfl) rfl rfl (hid kn_122) (q_iconst c_41_94 (v_iadd (v := c2 7 2 + 1) c_41_95 rfl (v_pi (z := 2) c_41_96 kf_3_19 rfl (Nat.le_of_ble_eq_true rfl) rfl rfl rfl (of_decide_eq_true rfl) (q_aload_n c_41_99 rfl (v_gr (t := 8) c_41_100 kf_3_11 rfl (Nat.le_of_ble_eq_true rfl) rfl (q_iload c_41_103 rfl (q_iload c_41_105 rfl ?_)))))))
                  refine v_is c_41_107 rfl (of_decide_eq_true rfl) (of_decide_eq_true rfl) ⟨(q_2c11af296 h_2), (q_cab88ee8a h_123)⟩ (q_aload_n c_41_108 rfl (q_aload_n c_41_109 rfl (q_aload_n c_41_110 rfl (q_iload c_41_111 rfl (q_iload_n c_41_113 rfl ?_)))))
                  have hI_129 := iw_7_2 (v := c2 7 2 + 1) hI_103 ⟨(rgp_l h_2.1 (of_decide_eq_true rfl)), (q_074a98bd9 h_123)⟩
                  have hI_130 := iw8_0 (t := c2 7 2) (j := 5 * c2 7 2) (v := y_105) (iv_open8 hI_129) (rfl) ⟨(q_36afb4550 h_106 h_107 h_109), (ler hy_105.2 rfl)⟩
                  have h_131 : (up (up c_102 7 2 (c2 7 2 + 1)) 8 (5 * c2 7 2) y_105) 7 2 = c2 7 2 + 1 := ((up_c (nn rfl)).trans (up_e rfl))
                  have h_132 : (up (up c_102 7 2 (c2 7 2 + 1)) 8 (5 * c2 7 2) y_105) 8 (5 * c2 7 2) = y_105 := (up_e rfl)
                  have h_133 : (up (up c_102 7 2 (c2 7 2 + 1)) 8 (5 * c2 7 2) y_105) 8 (5 * (c2 7 2)) = y_105 := (congrArg ((up (up c_102 7 2 (c2 7 2 + 1)) 8 (5 * c2 7 2) y_105) 8) (by first | assumption | exact Int.le_antisymm (by omega) (by omega))).trans (up_e rfl)
                  refine v_cv c_41_114 km_3_58 rfl rfl (Nat.le_of_ble_eq_true rfl) ⟨⟨rfl, rfl⟩, Nat.le_of_ble_eq_true rfl, rfl⟩ (Nat.le_of_ble_eq_true rfl) (Nat.le_of_ble_eq_true rfl) (s_40 (t := c2 7 2) (a4 := a4) hI_130 (show 0 ≤ c2 7 2 ∧ c2 7 2 ≤ 37 from by omega) (show 0 ≤ a4 ∧ a4 ≤ 6 from ha4) ((q_3bb02af3e)) (by omega) H41 (fun c_134 hI_135 hF_136 h_137 => (bk_inl ?_)))
                  have h_138 := ir_7_2 hI_135
                  refine q_aload_n c_41_117 rfl (q_ldc_s c_41_118 rfl rfl (of_decide_eq_true rfl) (v_cv c_41_120 km_3_64 rfl rfl (Nat.le_of_ble_eq_true rfl) ⟨⟨rfl, rfl⟩, Nat.le_of_ble_eq_true rfl, rfl⟩ (Nat.le_of_ble_eq_true rfl) (Nat.le_of_ble_eq_true rfl) (s_11 hI_135 (q := 13) (nt := 1) (of_decide_eq_true rfl) (of_decide_eq_true rfl) (of_decide_eq_true rfl) (fun c_139 hI_140 hF_141 => (bk_inl (v_iinc (v := v4 + 1) c_41_123 rfl (Nat.le_of_ble_eq_true rfl) rfl (q_goto (t := 3) c_41_126 rfl (Wp_ls [(0, .ref 7), (1, .ref 1), (2, .ref P), (3, vi a4), (4, vi (v4 + 1))] (lsub_cons rfl (lsub_cons rfl (lsub_cons rfl (lsub_cons rfl (lsub_cons rfl lsub_nil))))) ?_))))))))
                  have kn_142 : Hid (c_139 7 2 = c_134 7 2) := hF_141 7 2 qn_e31e1496e
                  have h_143 : c_139 7 2 = c_134 7 2 := (hid kn_142)
                  exact ih c_139 (v4 + 1) hI_140 (fun a j hm => (hF_141 a j (qv_d1fb82d1b hm)).trans ((hF_136 a j (fun q => q.elim (fun h => hm (Or.inl h)) (fun q => q.elim (fun h => hm (Or.inr (Or.inl h))) (fun q => q.elim (fun h => hm (Or.inr (Or.inr (Or.inl h)))) (fun q => q.elim (fun h => hm (Or.inr (Or.inr (Or.inr (Or.inl h))))) (fun h => hm (Or.inr (Or.inr (Or.inr (Or.inr ⟨h.1, (Int.le_trans (by clear hm; first | (clear ha4 hv4 h_1 h_2 h_3 h_11 h_101 h_100 h_107 h_109 h_123 h_138 h_137 h_8 h_95 h_106 h_108; omega) | omega) h.2)⟩)))))))))).trans ((up_b (Decidable.or_iff_not_imp_left.mpr (fun h1 h2 => hm (Or.inr (Or.inr (Or.inr (Or.inr ⟨Decidable.not_not.mp h1, (Int.le_trans (by clear hm; first | (clear ha4 hv4 h_1 h_2 h_3 h_11 h_101 h_100 h_107 h_109 h_123 h_138 h_137 h_8 h_95 h_106 h_108; omega) | omega) (Int.le_of_eq h2.symm))⟩))))))).trans ((up_b (Decidable.or_iff_not_imp_left.mpr (fun h1 h2 => hm (Or.inr (Or.inr (Or.inr (Or.inl ⟨Decidable.not_not.mp h1, h2⟩))))))).trans ((hF_104 a j (qv_d1fb82d1b hm)).trans ((hF_98 a j (fun h => hm (Or.inl h))).trans ((hF_93 a j (fun h => hm (Or.inl h))).trans ((hF_6 a j (fun h => hm (Or.inl h))).trans (hF a j (fun q => q.elim (fun h => hm (Or.inl h)) (fun q => q.elim (fun h => hm (Or.inr (Or.inl h))) (fun q => q.elim (fun h => hm (Or.inr (Or.inr (Or.inl h)))) (fun q => q.elim (fun h => hm (Or.inr (Or.inr (Or.inr (Or.inl h))))) (fun h => hm (Or.inr (Or.inr (Or.inr (Or.inr ⟨h.1, (Int.le_trans ((q_6ba67a5a0)) h.2)⟩)))))))))))))))))) ⟨(rgp_l hv4.1 (of_decide_eq_true rfl)), (q_074a98bd9 h_3)⟩ (by first | (clear ha4 hv4 h_1 h_2 h_3 h_11 h_101 h_100 h_107 h_109 h_123 h_138 h_8 h_95 h_106 h_108; omega) | omega) (by omega)
            · refine v_ic_ne_f (t := 65) c_41_49 rfl (Decidable.not_not.mp h_108) (q_iload_n c_41_52 rfl (v_bip c_41_53 (of_decide_eq_true rfl) ?_))
              by_cases h_144 : a4 < 6
              · refine v_ic_lt_t (t := 65) c_41_55 rfl ⟨(lel ha4.1 rfl), h_144, of_decide_eq_true rfl⟩ (q_aload_n c_41_65 rfl (v_cv c_41_66 km_3_55 rfl rfl (Nat.le_of_ble_eq_true rfl) ⟨⟨rfl, rfl⟩, Nat.le_of_ble_eq_true rfl, rfl⟩ (Nat.le_of_ble_eq_true rfl) (Nat.le_of_ble_eq_true rfl) (q_aload_n c_2_0 rfl (v_gi (z := 4) (v := c_102 1 4) c_2_1 kf_5_38 rfl (Nat.le_of_ble_eq_true rfl) rfl rfl rfl ?_))))
                by_cases h_145 : c_102 1 4 ≠ 0
                · refine v_if_ne_t (t := 11) c_2_4 rfl ⟨h_145, ⟨(lel h_107.1 rfl), (ler h_107.2 rfl)⟩, of_decide_eq_true rfl, of_decide_eq_true rfl⟩ (q_iconst c_2_11 (v_zret c_2_12 rfl (of_decide_eq_true rfl) (bk_inl (v_if_eq_t (t := 117) c_41_69 rfl (of_decide_eq_true rfl) (q_aload_n c_41_117 rfl (q_ldc_s c_41_118 rfl rfl (of_decide_eq_true rfl) (v_cv c_41_120 km_3_64 rfl rfl (Nat.le_of_ble_eq_true rfl) ⟨⟨rfl, rfl⟩, Nat.le_of_ble_eq_true rfl, rfl⟩ (Nat.le_of_ble_eq_true rfl) (Nat.le_of_ble_eq_true rfl) (s_11 hI_103 (q := 13) (nt := 1) (of_decide_eq_true rfl) (of_decide_eq_true rfl) (of_decide_eq_true rfl) (fun c_146 hI_147 hF_148 => ?_)))))))))
                  refine bk_inl (v_iinc (v := v4 + 1) c_41_123 rfl (Nat.le_of_ble_eq_true rfl) rfl (q_goto (t := 3) c_41_126 rfl (Wp_ls [(0, .ref 7), (1, .ref 1), (2, .ref P), (3, vi a4), (4, vi (v4 + 1))] (lsub_cons rfl (lsub_cons rfl (lsub_cons rfl (lsub_cons rfl (lsub_cons rfl lsub_nil))))) ?_)))
                  have kn_149 : Hid (c_4 7 2 = c2 7 2) := hF_6 7 2 (fun h => absurd h.1 (nn rfl))
                  have kn_150 : Hid (c_91 7 2 = c2 7 2) := (hF_93 7 2 (fun h => absurd h.1 (nn rfl))).trans (hid kn_149)
                  have kn_151 : Hid (c_96 7 2 = c2 7 2) := (hF_98 7 2 (fun h => absurd h.1 (nn rfl))).trans (hid kn_150)
                  have kn_152 : Hid (c_102 7 2 = c2 7 2) := (hF_104 7 2 qn_e31e1496e).trans (hid kn_151)
                  have kn_153 : Hid (c_146 7 2 = c2 7 2) := (hF_148 7 2 qn_e31e1496e).trans (hid kn_152)
                  have h_154 : c_146 7 2 = c2 7 2 := (hid kn_153)
                  exact ih c_146 (v4 + 1) hI_147 (fun a j hm => (hF_148 a j (qv_d1fb82d1b hm)).trans ((hF_104 a j (qv_d1fb82d1b hm)).trans ((hF_98 a j (fun h => hm (Or.inl h))).trans ((hF_93 a j (fun h => hm (Or.inl h))).trans ((hF_6 a j (fun h => hm (Or.inl h))).trans (hF a j (fun q => q.elim (fun h => hm (Or.inl h)) (fun q => q.elim (fun h => hm (Or.inr (Or.inl h))) (fun q => q.elim (fun h => hm (Or.inr (Or.inr (Or.inl h)))) (fun q => q.elim (fun h => hm (Or.inr (Or.inr (Or.inr (Or.inl h))))) (fun h => hm (Or.inr (Or.inr (Or.inr (Or.inr ⟨h.1, (Int.le_trans ((q_6ba67a5a0)) h.2)⟩))))))))))))))) ⟨(rgp_l hv4.1 (of_decide_eq_true rfl)), (q_074a98bd9 h_3)⟩ (by first | (clear ha4 hv4 h_1 h_2 h_3 h_11 h_101 h_100 h_107 h_108 h_144 h_8 h_95 h_106 h_145; omega) | omega) (by omega)
                · refine v_if_ne_f (t := 11) c_2_4 rfl (Decidable.not_not.mp h_145) (q_iconst c_2_7 (q_goto (t := 12) c_2_8 rfl (v_zret c_2_12 rfl (of_decide_eq_true rfl) (bk_inl (v_if_eq_f (t := 117) c_41_69 rfl (of_decide_eq_true rfl) (q_aload_n c_41_72 rfl ?_))))))
                  have kn_155 : Hid (c_4 7 2 = c2 7 2) := hF_6 7 2 (fun h => absurd h.1 (nn rfl))
                  have kn_156 : Hid (c_91 7 2 = c2 7 2) := (hF_93 7 2 (fun h => absurd h.1 (nn rfl))).trans (hid kn_155)
                  have kn_157 : Hid (c_96 7 2 = c2 7 2) := (hF_98 7 2 (fun h => absurd h.1 (nn rfl))).trans (hid kn_156)
                  have kn_158 : Hid (c_102 7 2 = c2 7 2) := (hF_104 7 2 qn_e31e1496e).trans (hid kn_157)
                  refine v_gi (z := 2) (v := c2 7 2) c_41_73 kf_3_19 rfl (Nat.le_of_ble_eq_true rfl) rfl rfl (hid kn_158) (v_bip c_41_76 (of_decide_eq_true rfl) ?_)
                  by_cases h_159 : c2 7 2 ≥ 38
                  · refine v_ic_ge_t (t := 117) c_41_78 rfl ⟨of_decide_eq_true rfl, h_159, (ler h_2.2 rfl)⟩ (q_aload_n c_41_117 rfl (q_ldc_s c_41_118 rfl rfl (of_decide_eq_true rfl) (v_cv c_41_120 km_3_64 rfl rfl (Nat.le_of_ble_eq_true rfl) ⟨⟨rfl, rfl⟩, Nat.le_of_ble_eq_true rfl, rfl⟩ (Nat.le_of_ble_eq_true rfl) (Nat.le_of_ble_eq_true rfl) (s_11 hI_103 (q := 13) (nt := 1) (of_decide_eq_true rfl) (of_decide_eq_true rfl) (of_decide_eq_true rfl) (fun c_160 hI_161 hF_162 => (bk_inl (v_iinc (v := v4 + 1) c_41_123 rfl (Nat.le_of_ble_eq_true rfl) rfl (q_goto (t := 3) c_41_126 rfl (Wp_ls [(0, .ref 7), (1, .ref 1), (2, .ref P), (3, vi a4), (4, vi (v4 + 1))] (lsub_cons rfl (lsub_cons rfl (lsub_cons rfl (lsub_cons rfl (lsub_cons rfl lsub_nil))))) ?_)))))))))
                    have kn_163 : Hid (c_160 7 2 = c2 7 2) := (hF_162 7 2 qn_e31e1496e).trans (hid kn_158)
                    have h_164 : c_160 7 2 = c2 7 2 := (hid kn_163)
                    exact ih c_160 (v4 + 1) hI_161 (fun a j hm => (hF_162 a j (qv_d1fb82d1b hm)).trans ((hF_104 a j (qv_d1fb82d1b hm)).trans ((hF_98 a j (fun h => hm (Or.inl h))).trans ((hF_93 a j (fun h => hm (Or.inl h))).trans ((hF_6 a j (fun h => hm (Or.inl h))).trans (hF a j (fun q => q.elim (fun h => hm (Or.inl h)) (fun q => q.elim (fun h => hm (Or.inr (Or.inl h))) (fun q => q.elim (fun h => hm (Or.inr (Or.inr (Or.inl h)))) (fun q => q.elim (fun h => hm (Or.inr (Or.inr (Or.inr (Or.inl h))))) (fun h => hm (Or.inr (Or.inr (Or.inr (Or.inr ⟨h.1, (Int.le_trans ((q_6ba67a5a0)) h.2)⟩))))))))))))))) ⟨(rgp_l hv4.1 (of_decide_eq_true rfl)), (q_074a98bd9 h_3)⟩ (by first | (clear ha4 hv4 h_1 h_2 h_3 h_11 h_101 h_100 h_107 h_108 h_144 h_145 h_159 h_8 h_95 h_106; omega) | omega) (by omega)
                  · refine v_ic_ge_f (t := 117) c_41_78 rfl ⟨(lel h_2.1 rfl), (Int.not_le.mp h_159), of_decide_eq_true rfl⟩ (q_aload_n c_41_81 rfl (v_gi (z := 2) (v := c2 7 2) c_41_82 kf_3_19 rfl (Nat.le_of_ble_eq_true rfl) rfl rfl (hid kn_158) (q_iconst c_41_85 (v_imul (v := 5 * c2 7 2) c_41_86 (by first | (clear ha4 hv4 hx0 h_1 h_2 h_3 h_11 h_101 h_100 h_107 h_108 h_144 h_145 h_159 h_8 h_95 h_106; omega) | omega) (q_istore c_41_87 (Nat.le_of_ble_eq_true rfl) (q_aload_n c_41_89 rfl (q_dup c_41_90 rfl ?_)))))))
                    refine v_gi (z := 2) (v := c2 7 2) c_41_91 kf_3_19 rfl (Nat.le_of_ble_eq_true rfl) rfl rfl (hid kn_158) (q_iconst c_41_94 (v_iadd (v := c2 7 2 + 1) c_41_95 rfl (v_pi (z := 2) c_41_96 kf_3_19 rfl (Nat.le_of_ble_eq_true rfl) rfl rfl rfl (of_decide_eq_true rfl) (q_aload_n c_41_99 rfl (v_gr (t := 8) c_41_100 kf_3_11 rfl (Nat.le_of_ble_eq_true rfl) rfl (q_iload c_41_103 rfl (q_iload c_41_105 rfl ?_)))))))
                    refine v_is c_41_107 rfl (of_decide_eq_true rfl) (of_decide_eq_true rfl) ⟨(q_2c11af296 h_2), (q_cab88ee8a h_159)⟩ (q_aload_n c_41_108 rfl (q_aload_n c_41_109 rfl (q_aload_n c_41_110 rfl (q_iload c_41_111 rfl (q_iload_n c_41_113 rfl ?_)))))
                    have hI_165 := iw_7_2 (v := c2 7 2 + 1) hI_103 ⟨(rgp_l h_2.1 (of_decide_eq_true rfl)), (q_074a98bd9 h_159)⟩
                    have hI_166 := iw8_0 (t := c2 7 2) (j := 5 * c2 7 2) (v := y_105) (iv_open8 hI_165) (rfl) ⟨(q_055ef26ca h_108), (ler hy_105.2 rfl)⟩
                    have h_167 : (up (up c_102 7 2 (c2 7 2 + 1)) 8 (5 * c2 7 2) y_105) 7 2 = c2 7 2 + 1 := ((up_c (nn rfl)).trans (up_e rfl))
                    have h_168 : (up (up c_102 7 2 (c2 7 2 + 1)) 8 (5 * c2 7 2) y_105) 8 (5 * c2 7 2) = y_105 := (up_e rfl)
                    have h_169 : (up (up c_102 7 2 (c2 7 2 + 1)) 8 (5 * c2 7 2) y_105) 8 (5 * (c2 7 2)) = y_105 := (congrArg ((up (up c_102 7 2 (c2 7 2 + 1)) 8 (5 * c2 7 2) y_105) 8) (by first | assumption | exact Int.le_antisymm (by omega) (by omega))).trans (up_e rfl)
                    refine v_cv c_41_114 km_3_58 rfl rfl (Nat.le_of_ble_eq_true rfl) ⟨⟨rfl, rfl⟩, Nat.le_of_ble_eq_true rfl, rfl⟩ (Nat.le_of_ble_eq_true rfl) (Nat.le_of_ble_eq_true rfl) (s_40 (t := c2 7 2) (a4 := a4) hI_166 (show 0 ≤ c2 7 2 ∧ c2 7 2 ≤ 37 from by omega) (show 0 ≤ a4 ∧ a4 ≤ 6 from ha4) ((q_3bb02af3e)) (Or.inl ((q_5f37091c9 h_144))) H41 (fun c_170 hI_171 hF_172 h_173 => (bk_inl ?_)))
                    have h_174 := ir_7_2 hI_171
                    refine q_aload_n c_41_117 rfl (q_ldc_s c_41_118 rfl rfl (of_decide_eq_true rfl) (v_cv c_41_120 km_3_64 rfl rfl (Nat.le_of_ble_eq_true rfl) ⟨⟨rfl, rfl⟩, Nat.le_of_ble_eq_true rfl, rfl⟩ (Nat.le_of_ble_eq_true rfl) (Nat.le_of_ble_eq_true rfl) (s_11 hI_171 (q := 13) (nt := 1) (of_decide_eq_true rfl) (of_decide_eq_true rfl) (of_decide_eq_true rfl) (fun c_175 hI_176 hF_177 => (bk_inl (v_iinc (v := v4 + 1) c_41_123 rfl (Nat.le_of_ble_eq_true rfl) rfl (q_goto (t := 3) c_41_126 rfl (Wp_ls [(0, .ref 7), (1, .ref 1), (2, .ref P), (3, vi a4), (4, vi (v4 + 1))] (lsub_cons rfl (lsub_cons rfl (lsub_cons rfl (lsub_cons rfl (lsub_cons rfl lsub_nil))))) ?_))))))))
                    have kn_178 : Hid (c_175 7 2 = c_170 7 2) := hF_177 7 2 qn_e31e1496e
                    have h_179 : c_175 7 2 = c_170 7 2 := (hid kn_178)
                    exact ih c_175 (v4 + 1) hI_176 (fun a j hm => (hF_177 a j (qv_d1fb82d1b hm)).trans ((hF_172 a j (fun q => q.elim (fun h => hm (Or.inl h)) (fun q => q.elim (fun h => hm (Or.inr (Or.inl h))) (fun q => q.elim (fun h => hm (Or.inr (Or.inr (Or.inl h)))) (fun q => q.elim (fun h => hm (Or.inr (Or.inr (Or.inr (Or.inl h))))) (fun h => hm (Or.inr (Or.inr (Or.inr (Or.inr ⟨h.1, (Int.le_trans (by clear hm; first | (clear ha4 hv4 h_1 h_2 h_3 h_11 h_101 h_100 h_107 h_108 h_144 h_145 h_159 h_174 h_173 h_8 h_95 h_106; omega) | omega) h.2)⟩)))))))))).trans ((up_b (Decidable.or_iff_not_imp_left.mpr (fun h1 h2 => hm (Or.inr (Or.inr (Or.inr (Or.inr ⟨Decidable.not_not.mp h1, (Int.le_trans (by clear hm; first | (clear ha4 hv4 h_1 h_2 h_3 h_11 h_101 h_100 h_107 h_108 h_144 h_145 h_159 h_174 h_173 h_8 h_95 h_106; omega) | omega) (Int.le_of_eq h2.symm))⟩))))))).trans ((up_b (Decidable.or_iff_not_imp_left.mpr (fun h1 h2 => hm (Or.inr (Or.inr (Or.inr (Or.inl ⟨Decidable.not_not.mp h1, h2⟩))))))).trans ((hF_104 a j (qv_d1fb82d1b hm)).trans ((hF_98 a j (fun h => hm (Or.inl h))).trans ((hF_93 a j (fun h => hm (Or.inl h))).trans ((hF_6 a j (fun h => hm (Or.inl h))).trans (hF a j (fun q => q.elim (fun h => hm (Or.inl h)) (fun q => q.elim (fun h => hm (Or.inr (Or.inl h))) (fun q => q.elim (fun h => hm (Or.inr (Or.inr (Or.inl h)))) (fun q => q.elim (fun h => hm (Or.inr (Or.inr (Or.inr (Or.inl h))))) (fun h => hm (Or.inr (Or.inr (Or.inr (Or.inr ⟨h.1, (Int.le_trans ((q_6ba67a5a0)) h.2)⟩)))))))))))))))))) ⟨(rgp_l hv4.1 (of_decide_eq_true rfl)), (q_074a98bd9 h_3)⟩ (by first | (clear ha4 hv4 h_1 h_2 h_3 h_11 h_101 h_100 h_107 h_108 h_144 h_145 h_159 h_174 h_8 h_95 h_106; omega) | omega) (by omega)
              · refine v_ic_lt_f (t := 65) c_41_55 rfl ⟨of_decide_eq_true rfl, (Int.not_lt.mp h_144), (ler ha4.2 rfl)⟩ (q_aload_n c_41_58 rfl (q_iconst c_41_59 (q_iload c_41_60 rfl (v_cv c_41_62 km_3_51 rfl rfl (Nat.le_of_ble_eq_true rfl) ⟨⟨rfl, rfl⟩, Nat.le_of_ble_eq_true rfl, rfl⟩ (Nat.le_of_ble_eq_true rfl) (Nat.le_of_ble_eq_true rfl) (s_7 (a1 := 3) (a2 := y_99) hI_103 (show 1 ≤ 3 ∧ 3 ≤ 3 from ⟨of_decide_eq_true rfl, of_decide_eq_true rfl⟩) (show 0 ≤ y_99 ∧ y_99 ≤ 600 from hy_99) (fun c_180 hI_181 hF_182 h_183 => (bk_inl ?_)))))))
                have h_184 := ir_1_4 hI_181
                refine q_aload_n c_41_65 rfl (v_cv c_41_66 km_3_55 rfl rfl (Nat.le_of_ble_eq_true rfl) ⟨⟨rfl, rfl⟩, Nat.le_of_ble_eq_true rfl, rfl⟩ (Nat.le_of_ble_eq_true rfl) (Nat.le_of_ble_eq_true rfl) (q_aload_n c_2_0 rfl (v_gi (z := 4) (v := c_180 1 4) c_2_1 kf_5_38 rfl (Nat.le_of_ble_eq_true rfl) rfl rfl rfl (v_if_ne_t (t := 11) c_2_4 rfl ⟨(q_88eaa90e3 h_183 h_184), ⟨(lel h_184.1 rfl), (ler h_184.2 rfl)⟩, of_decide_eq_true rfl, of_decide_eq_true rfl⟩ (q_iconst c_2_11 (v_zret c_2_12 rfl (of_decide_eq_true rfl) (bk_inl ?_)))))))
                refine v_if_eq_t (t := 117) c_41_69 rfl (of_decide_eq_true rfl) (q_aload_n c_41_117 rfl (q_ldc_s c_41_118 rfl rfl (of_decide_eq_true rfl) (v_cv c_41_120 km_3_64 rfl rfl (Nat.le_of_ble_eq_true rfl) ⟨⟨rfl, rfl⟩, Nat.le_of_ble_eq_true rfl, rfl⟩ (Nat.le_of_ble_eq_true rfl) (Nat.le_of_ble_eq_true rfl) (s_11 hI_181 (q := 13) (nt := 1) (of_decide_eq_true rfl) (of_decide_eq_true rfl) (of_decide_eq_true rfl) (fun c_185 hI_186 hF_187 => (bk_inl (v_iinc (v := v4 + 1) c_41_123 rfl (Nat.le_of_ble_eq_true rfl) rfl (q_goto (t := 3) c_41_126 rfl (Wp_ls [(0, .ref 7), (1, .ref 1), (2, .ref P), (3, vi a4), (4, vi (v4 + 1))] (lsub_cons rfl (lsub_cons rfl (lsub_cons rfl (lsub_cons rfl (lsub_cons rfl lsub_nil))))) ?_)))))))))
                have kn_188 : Hid (c_4 7 2 = c2 7 2) := hF_6 7 2 (fun h => absurd h.1 (nn rfl))
                have kn_189 : Hid (c_91 7 2 = c2 7 2) := (hF_93 7 2 (fun h => absurd h.1 (nn rfl))).trans (hid kn_188)
                have kn_190 : Hid (c_96 7 2 = c2 7 2) := (hF_98 7 2 (fun h => absurd h.1 (nn rfl))).trans (hid kn_189)
                have kn_191 : Hid (c_102 7 2 = c2 7 2) := (hF_104 7 2 qn_e31e1496e).trans (hid kn_190)
                have kn_192 : Hid (c_180 7 2 = c2 7 2) := (hF_182 7 2 (fun q => q.elim (fun h => absurd h.1 (nn rfl)) (fun h => absurd h.1 (nn rfl)))).trans (hid kn_191)
                have kn_193 : Hid (c_185 7 2 = c2 7 2) := (hF_187 7 2 qn_e31e1496e).trans (hid kn_192)
                have h_194 : c_185 7 2 = c2 7 2 := (hid kn_193)
                exact ih c_185 (v4 + 1) hI_186 (fun a j hm => (hF_187 a j (qv_d1fb82d1b hm)).trans ((hF_182 a j (qv_c55a10b47 hm)).trans ((hF_104 a j (qv_d1fb82d1b hm)).trans ((hF_98 a j (fun h => hm (Or.inl h))).trans ((hF_93 a j (fun h => hm (Or.inl h))).trans ((hF_6 a j (fun h => hm (Or.inl h))).trans (hF a j (fun q => q.elim (fun h => hm (Or.inl h)) (fun q => q.elim (fun h => hm (Or.inr (Or.inl h))) (fun q => q.elim (fun h => hm (Or.inr (Or.inr (Or.inl h)))) (fun q => q.elim (fun h => hm (Or.inr (Or.inr (Or.inr (Or.inl h))))) (fun h => hm (Or.inr (Or.inr (Or.inr (Or.inr ⟨h.1, (Int.le_trans ((q_6ba67a5a0)) h.2)⟩)))))))))))))))) ⟨(rgp_l hv4.1 (of_decide_eq_true rfl)), (q_074a98bd9 h_3)⟩ (by first | (clear ha4 hv4 h_1 h_2 h_3 h_11 h_101 h_100 h_107 h_108 h_144 h_184 h_8 h_95 h_106 h_183; omega) | omega) (by omega)
          · refine v_ic_ne_f (t := 31) c_41_27 rfl (Decidable.not_not.mp h_95) (q_vret rfl rfl ?_)
            have kn_195 : Hid (c_4 7 2 = c2 7 2) := hF_6 7 2 (fun h => absurd h.1 (nn rfl))
            have kn_196 : Hid (c_91 7 2 = c2 7 2) := (hF_93 7 2 (fun h => absurd h.1 (nn rfl))).trans (hid kn_195)
            have h_197 : c_91 7 2 = c2 7 2 := (hid kn_196)
            exact K c_91 hI_92 (fun a j hm => (hF_93 a j (fun h => hm (Or.inl h))).trans ((hF_6 a j (fun h => hm (Or.inl h))).trans (hF a j (fun q => q.elim (fun h => hm (Or.inl h)) (fun q => q.elim (fun h => hm (Or.inr (Or.inl h))) (fun q => q.elim (fun h => hm (Or.inr (Or.inr (Or.inl h)))) (fun q => q.elim (fun h => hm (Or.inr (Or.inr (Or.inr (Or.inl h))))) (fun h => hm (Or.inr (Or.inr (Or.inr (Or.inr ⟨h.1, (Int.le_trans ((q_6ba67a5a0)) h.2)⟩)))))))))))) (by first | (clear ha4 hv4 h_1 h_2 h_3 h_11 h_95 h_8; omega) | omega)
set_option maxRecDepth 100000 in
set_option maxHeartbeats 4000000 in
theorem s_41 {sc : List Int32} {d u P Q : Nat} {c : ME} {a4 : Int} {Z : AR → Prop} (hI : Iv u (-1) P Q c) (ha4 : 0 ≤ a4 ∧ a4 ≤ 6) (H41 : ∀ (c : ME) (Z : AR → Prop), a4 + 1 ≤ 6 → Iv u (-1) P Q c → (∀ c2 : ME, Iv u (-1) P Q c2 → (∀ (a : Nat) (j : Int), ¬ ((a = 1 ∧ j = 2) ∨ (a = 1 ∧ j = 4) ∨ (a = 1 ∧ j = 5) ∨ (a = 7 ∧ j = 2) ∨ (a = 8 ∧ j ≥ 5 * c 7 2)) → c2 a j = c a j) → (c2 7 2 ≥ c 7 2) → Z (.inl none, Wd P Q P P c2, 0, 0)) → Wp sc (d + 10) 41 0 [(0, .ref 7), (1, .ref 1), (2, .ref P), (3, vi (a4 + 1))] [] (Wd P Q P P c) 0 0 Z) (K : ∀ (c2 : ME), Iv u (-1) P Q c2 → (∀ (a : Nat) (j : Int), ¬ ((a = 1 ∧ j = 2) ∨ (a = 1 ∧ j = 4) ∨ (a = 1 ∧ j = 5) ∨ (a = 7 ∧ j = 2) ∨ (a = 8 ∧ j ≥ 5 * c 7 2)) → c2 a j = c a j) → ((c2 7 2 ≥ c 7 2)) → Z (.inl (none), Wd P Q P P c2, 0, 0)) : Wp sc (d + 12) 41 0 [(0, .ref 7), (1, .ref 1), (2, .ref P), (3, vi a4)] [] (Wd P Q P P c) 0 0 Z := by
  have hP := iv_P hI
  have hQ := iv_Q hI
  refine q_iconst c_41_0 (q_istore c_41_1 (Nat.le_of_ble_eq_true rfl) (Wp_ls [(0, .ref 7), (1, .ref 1), (2, .ref P), (3, vi a4), (4, vi 0)] (lsub_cons rfl (lsub_cons rfl (lsub_cons rfl (lsub_cons rfl (lsub_cons rfl lsub_nil))))) ?_))
  have h_198 := ir_7_2 hI
  exact (s_41_l (sc := sc) (d := d) hI ha4 H41 K 80) c 0 hI (fun a j hm => rfl) ⟨of_decide_eq_true rfl, of_decide_eq_true rfl⟩ ((q_e074ea49a)) (by omega)
set_option maxRecDepth 100000 in
set_option maxHeartbeats 4000000 in
theorem r_41_n {sc : List Int32} {d u P Q : Nat} : ∀ (m : Nat) (c : ME) (a4 : Int) (Z : AR → Prop), a4 + (m : Int) = 6 → 0 ≤ a4 → Iv u (-1) P Q c → (∀ c2 : ME, Iv u (-1) P Q c2 → (∀ (a : Nat) (j : Int), ¬ ((a = 1 ∧ j = 2) ∨ (a = 1 ∧ j = 4) ∨ (a = 1 ∧ j = 5) ∨ (a = 7 ∧ j = 2) ∨ (a = 8 ∧ j ≥ 5 * c 7 2)) → c2 a j = c a j) → (c2 7 2 ≥ c 7 2) → Z (.inl none, Wd P Q P P c2, 0, 0)) → Wp sc (d + 2 * m + 12) 41 0 [(0, .ref 7), (1, .ref 1), (2, .ref P), (3, vi a4)] [] (Wd P Q P P c) 0 0 Z
  | 0, c, a4, Z, hm, h0, hI, K => s_41 (d := d) (a4 := a4) hI (show 0 ≤ a4 ∧ a4 ≤ 6 from ⟨by omega, by omega⟩) (fun c9 Z9 hc => absurd hc (by omega)) K
  | m + 1, c, a4, Z, hm, h0, hI, K => by
    have ih := r_41_n (sc := sc) (d := d) (u := u) (P := P) (Q := Q) m
    rw [show d + 2 * (m + 1) + 12 = (d + 2 * m + 2) + 12 by omega]
    refine s_41 (d := d + 2 * m + 2) (a4 := a4) hI (show 0 ≤ a4 ∧ a4 ≤ 6 from ⟨by omega, by omega⟩) (fun c9 Z9 hc hI9 K9 => ?_) K
    have r := ih c9 (a4 + 1) Z9 (by omega) (by omega) hI9 K9
    rw [show d + 2 * m + 12 = (d + 2 * m + 2) + 10 by omega] at r
    exact r
set_option maxRecDepth 100000 in
set_option maxHeartbeats 4000000 in
theorem r_41 {sc : List Int32} {d u P Q : Nat} {c : ME} {a4 : Int} {Z : AR → Prop} (hI : Iv u (-1) P Q c) (ha4 : 0 ≤ a4 ∧ a4 ≤ 6) (K : (∀ c2 : ME, Iv u (-1) P Q c2 → (∀ (a : Nat) (j : Int), ¬ ((a = 1 ∧ j = 2) ∨ (a = 1 ∧ j = 4) ∨ (a = 1 ∧ j = 5) ∨ (a = 7 ∧ j = 2) ∨ (a = 8 ∧ j ≥ 5 * c 7 2)) → c2 a j = c a j) → (c2 7 2 ≥ c 7 2) → Z (.inl none, Wd P Q P P c2, 0, 0))) : Wp sc (d + 24) 41 0 [(0, .ref 7), (1, .ref 1), (2, .ref P), (3, vi a4)] [] (Wd P Q P P c) 0 0 Z := by
  obtain ⟨m, hm⟩ : ∃ m : Nat, (m : Int) = 6 - a4 := ⟨(6 - a4).toNat, by omega⟩
  rw [show d + 24 = (d + 12 - 2 * m) + 2 * m + 12 by omega]
  exact r_41_n m c a4 Z (by omega) (by omega) hI K

set_option maxRecDepth 100000 in
set_option maxHeartbeats 4000000 in
theorem s_42 {sc : List Int32} {d u P Q : Nat} {c : ME} {Z : AR → Prop} (hI : Iv u (-1) P Q c)  (K : ∀ (c2 : ME), Iv u (-1) P Q c2 → (∀ (a : Nat) (j : Int), ¬ ((a = 1 ∧ j = 2) ∨ (a = 1 ∧ j = 4) ∨ (a = 1 ∧ j = 5) ∨ (a = 7 ∧ j = 1) ∨ (a = 7 ∧ j = 2) ∨ (a = 7 ∧ j = 3) ∨ (a = 7 ∧ j = 4) ∨ a = 8) → c2 a j = c a j) → Z (.inl (none), Wd P Q P P c2, 0, 0)) : Wp sc (d + 25) 42 0 [(0, .ref 7), (1, .ref 1), (2, .ref P)] [] (Wd P Q P P c) 0 0 Z := by
  have hP := iv_P hI
  have hQ := iv_Q hI
  refine q_aload_n c_42_0 rfl (q_iconst c_42_1 (v_pi (z := 1) c_42_2 kf_3_15 rfl (Nat.le_of_ble_eq_true rfl) rfl rfl rfl (of_decide_eq_true rfl) (q_aload_n c_42_5 rfl (q_iconst c_42_6 (v_pi (z := 2) c_42_7 kf_3_19 rfl (Nat.le_of_ble_eq_true rfl) rfl rfl rfl (of_decide_eq_true rfl) (q_aload_n c_42_10 rfl (q_iconst c_42_11 ?_)))))))
  refine v_pi (z := 3) c_42_12 kf_3_22 rfl (Nat.le_of_ble_eq_true rfl) rfl rfl rfl (of_decide_eq_true rfl) (q_aload_n c_42_15 rfl (q_iconst c_42_16 (v_pi (z := 4) c_42_17 kf_3_25 rfl (Nat.le_of_ble_eq_true rfl) rfl rfl rfl (of_decide_eq_true rfl) (q_aload_n c_42_20 rfl (q_aload_n c_42_21 rfl (q_aload_n c_42_22 rfl (q_iconst c_42_23 ?_)))))))
  have hI_1 := iw_7_1 (v := 0) hI ⟨of_decide_eq_true rfl, of_decide_eq_true rfl⟩
  have hI_2 := iw_7_2 (v := 0) hI_1 ⟨of_decide_eq_true rfl, of_decide_eq_true rfl⟩
  have hI_3 := iw_7_3 (v := 0) hI_2 ⟨of_decide_eq_true rfl, of_decide_eq_true rfl⟩
  have hI_4 := iw_7_4 (v := 0) hI_3 ⟨of_decide_eq_true rfl, of_decide_eq_true rfl⟩
  have h_5 : (up (up (up (up c 7 1 0) 7 2 0) 7 3 0) 7 4 0) 7 2 = 0 := ((up_n (ni rfl)).trans ((up_n (ni rfl)).trans (up_e rfl)))
  have h_6 : (up (up (up (up c 7 1 0) 7 2 0) 7 3 0) 7 4 0) 7 2 = 0 := ((up_n (ni rfl)).trans ((up_n (ni rfl)).trans (up_e rfl)))
  refine v_cv c_42_24 km_3_28 rfl rfl (Nat.le_of_ble_eq_true rfl) ⟨⟨rfl, rfl⟩, Nat.le_of_ble_eq_true rfl, rfl⟩ (Nat.le_of_ble_eq_true rfl) (Nat.le_of_ble_eq_true rfl) (r_41 (a4 := 0) hI_4 (show 0 ≤ 0 ∧ 0 ≤ 6 from ⟨of_decide_eq_true rfl, of_decide_eq_true rfl⟩) (fun c_7 hI_8 hF_9 h_10 => (bk_inl ?_)))
  have h_11 := ir_7_2 hI_8
  refine q_vret rfl rfl ?_
  exact K c_7 hI_8 (fun a j hm => (hF_9 a j (qv_ecb9f43c4 hm)).trans ((up_b (Decidable.or_iff_not_imp_left.mpr (fun h1 h2 => hm (Or.inr (Or.inr (Or.inr (Or.inr (Or.inr (Or.inr (Or.inl ⟨Decidable.not_not.mp h1, h2⟩)))))))))).trans ((up_b (Decidable.or_iff_not_imp_left.mpr (fun h1 h2 => hm (Or.inr (Or.inr (Or.inr (Or.inr (Or.inr (Or.inl ⟨Decidable.not_not.mp h1, h2⟩))))))))).trans ((up_b (Decidable.or_iff_not_imp_left.mpr (fun h1 h2 => hm (Or.inr (Or.inr (Or.inr (Or.inr (Or.inl ⟨Decidable.not_not.mp h1, h2⟩)))))))).trans (up_b (Decidable.or_iff_not_imp_left.mpr (fun h1 h2 => hm (Or.inr (Or.inr (Or.inr (Or.inl ⟨Decidable.not_not.mp h1, h2⟩)))))))))))

set_option maxRecDepth 100000 in
set_option maxHeartbeats 4000000 in
theorem s_43 {sc : List Int32} {e : Int} {d u P Q sh s : Nat} {c : ME} {v1 v2 v3 v4 r : Int} {a1 : Int} {Z : AR → Prop} (hI : Iv u e P Q c) (hs : (sh = 37 ∧ s = 38) ∨ (sh = 39 ∧ s = 40)) (ha1 : 0 ≤ a1 ∧ a1 ≤ 5) (hv0 : c s (4 * a1) = v1) (hv1 : c s (4 * a1 + 1) = v2) (hv2 : c s (4 * a1 + 2) = v3) (hv3 : c s (4 * a1 + 3) = v4) (hr9 : v1 + v2 + v3 + v4 = r) (K : Z (.inl (some (vi r)), Wd P Q P P c, 0, 0)) : Wp sc (d + 7) 43 0 [(0, .ref sh), (1, vi a1)] [] (Wd P Q P P c) 0 0 Z := by
  have hP := iv_P hI
  have hQ := iv_Q hI
  have h_1 := ir_s_g hI hs (j := 4 * a1) ((q_9f1d5ffdc ha1))
  have h_2 := ir_s_g hI hs (j := 4 * a1 + 1) ((q_0a2ee6f8f ha1))
  have h_3 := ir_s_g hI hs (j := 4 * a1 + 2) ((q_e07a293a2 ha1))
  have h_4 := ir_s_g hI hs (j := 4 * a1 + 3) ((q_d09cb0b73 ha1))
  refine q_iload_n c_43_0 rfl (q_iconst c_43_1 (v_imul (v := 4 * a1) c_43_2 (by omega) (q_istore_n c_43_3 (Nat.le_of_ble_eq_true rfl) (q_aload_n c_43_4 rfl (v_gr (t := s) c_43_5 kf_4_11 (ck_sh hs) (by omega) rfl (q_iload_n c_43_8 rfl (v_ia (v := v1) c_43_9 (ck_s hs) (by omega) (of_decide_eq_true rfl) ⟨(q_c065257af ha1), (q_b7e642788 ha1)⟩ (hv0) ?_)))))))
  refine q_aload_n c_43_10 rfl (v_gr (t := s) c_43_11 kf_4_11 (ck_sh hs) (by omega) rfl (q_iload_n c_43_14 rfl (q_iconst c_43_15 (v_iadd (v := 4 * a1 + 1) c_43_16 rfl (v_ia (v := v2) c_43_17 (ck_s hs) (by omega) (of_decide_eq_true rfl) ⟨(q_83fdbd35d ha1), (q_ee7209ea0 ha1)⟩ (hv1) (v_iadd (v := v1 + v2) c_43_18 rfl (q_aload_n c_43_19 rfl ?_)))))))
  refine v_gr (t := s) c_43_20 kf_4_11 (ck_sh hs) (by omega) rfl (q_iload_n c_43_23 rfl (q_iconst c_43_24 (v_iadd (v := 4 * a1 + 2) c_43_25 rfl (v_ia (v := v3) c_43_26 (ck_s hs) (by omega) (of_decide_eq_true rfl) ⟨(q_0f37a0c6e ha1), (q_d136047ff ha1)⟩ (hv2) (v_iadd (v := v1 + v2 + v3) c_43_27 rfl (q_aload_n c_43_28 rfl (v_gr (t := s) c_43_29 kf_4_11 (ck_sh hs) (by omega) rfl ?_)))))))
  refine q_iload_n c_43_32 rfl (q_iconst c_43_33 (v_iadd (v := 4 * a1 + 3) c_43_34 rfl (v_ia (v := v4) c_43_35 (ck_s hs) (by omega) (of_decide_eq_true rfl) ⟨(q_f6be69137 ha1), (q_c79de31f2 ha1)⟩ (hv3) (v_iadd (v := v1 + v2 + v3 + v4) c_43_36 rfl (q_iret c_43_37 rfl ?_)))))
  exact zv (by omega) (K)

set_option maxRecDepth 100000 in
set_option maxHeartbeats 4000000 in
theorem s_44 {sc : List Int32} {d P Q sh s : Nat} {c : ME} {a1 : Int} {a2 : Int} {Z : AR → Prop} (hI : Iv 0 (-1) P Q c) (hs : (sh = 37 ∧ s = 38) ∨ (sh = 39 ∧ s = 40)) (ha1 : 0 ≤ a1 ∧ a1 ≤ 3) (ha2 : 0 ≤ a2 ∧ a2 ≤ 5) (K : ∀ (c2 : ME) (y : Int), Iv 0 (-1) P Q c2 → (∀ (a : Nat) (j : Int), ¬ (a = s) → c2 a j = c a j) → 0 ≤ y ∧ y ≤ 1 → Z (.inl (some (vi y)), Wd P Q P P c2, 0, 0)) : Wp sc (d + 8) 44 0 [(0, .ref sh), (1, vi a1), (2, vi a2)] [] (Wd P Q P P c) 0 0 Z := by
  have hP := iv_P hI
  have hQ := iv_Q hI
  have hIo : Iv s (-1) P Q c := iv_open hI
  have hsum_1 := ir_s_r hI hs (by omega) (j := a2) (by omega)
  have h_2 := ir_s_g hI hs (j := 4 * a2) ((q_9f1d5ffdc ha2))
  have h_3 := ir_s_g hI hs (j := 4 * a2 + 1) ((q_0a2ee6f8f ha2))
  have h_4 := ir_s_g hI hs (j := 4 * a2 + 2) ((q_e07a293a2 ha2))
  have h_5 := ir_s_g hI hs (j := 4 * a2 + 3) ((q_d09cb0b73 ha2))
  refine q_aload_n c_44_0 rfl (q_iload_n c_44_1 rfl (v_cv c_44_2 km_4_38 rfl (ck_sh hs) (by omega) ⟨⟨rfl, rfl⟩, of_decide_eq_true rfl, rfl⟩ (Nat.le_of_ble_eq_true rfl) (Nat.le_of_ble_eq_true rfl) (s_43 (v1 := c s (4 * a2)) (v2 := c s (4 * a2 + 1)) (v3 := c s (4 * a2 + 2)) (v4 := c s (4 * a2 + 3)) (r := c s (4 * a2 + 1) + c s (4 * a2 + 2) + c s (4 * a2 + 3) + c s (4 * a2)) (a1 := a2) hIo hs (show 0 ≤ a2 ∧ a2 ≤ 5 from ha2) (rfl) (rfl) (rfl) (rfl) (by omega) (bk_inl ?_))))
  by_cases h_6 : c s (4 * a2 + 1) + c s (4 * a2 + 2) + c s (4 * a2 + 3) + c s (4 * a2) ≠ 0
  · refine v_if_ne_t (t := 10) c_44_5 rfl ⟨h_6, ⟨(q_e052ef40e h_2 h_3 h_4 h_5), (q_6719c4bfd hsum_1)⟩, of_decide_eq_true rfl, of_decide_eq_true rfl⟩ (q_iload_n c_44_10 rfl (q_iconst c_44_11 (v_imul (v := 4 * a2) c_44_12 (by first | (clear ha1 ha2 h_2 h_3 h_4 h_5 hsum_1 h_6; omega) | omega) (q_istore_n c_44_13 (Nat.le_of_ble_eq_true rfl) (q_aload_n c_44_14 rfl (v_gr (t := s) c_44_15 kf_4_11 (ck_sh hs) (by omega) rfl (q_iload_n c_44_18 rfl ?_)))))))
    refine q_iconst c_44_19 (v_iadd (v := 4 * a2 + 1) c_44_20 rfl (v_ia (v := c s (4 * a2 + 1)) c_44_21 (ck_s hs) (by omega) (of_decide_eq_true rfl) ⟨(q_83fdbd35d ha2), (q_ee7209ea0 ha2)⟩ rfl (q_aload_n c_44_22 rfl (v_gr (t := P) c_44_23 kf_4_15 (ck_sh hs) (by omega) rfl (q_iload_n c_44_26 rfl (q_iconst c_44_27 (v_cv c_44_28 km_4_72 rfl (ck_p0 hP) (a68z hP) ⟨⟨rfl, rfl⟩, of_decide_eq_true rfl, rfl⟩ (Nat.le_of_ble_eq_true rfl) (Nat.le_of_ble_eq_true rfl) (s_29 (a1 := a1) (a2 := 0) hIo hP (show 0 ≤ a1 ∧ a1 ≤ 3 from ha1) (show 0 ≤ 0 ∧ 0 ≤ 2 from ⟨of_decide_eq_true rfl, of_decide_eq_true rfl⟩) (fun y_7 hy_7 => ?_)))))))))
    refine bk_inl ?_
    have h_8 : 0 ≤ (c s (4 * a2 + 1)) * y_7 ∧ (c s (4 * a2 + 1)) * y_7 ≤ 10 * (c s (4 * a2 + 1)) := mul_bd (by omega) (by omega) (by omega)
    have h_9 : 0 ≤ (c s (4 * a2 + 1)) * y_7 ∧ (c s (4 * a2 + 1)) * y_7 ≤ 9999 * y_7 := mul_bd2 (by omega) (by omega) (by omega)
    refine v_imul (v := ((c s (4 * a2 + 1)) * y_7)) rfl rfl (v_bip c_44_32 (of_decide_eq_true rfl) (v_idiv (v := (((c s (4 * a2 + 1)) * y_7) / 10)) rfl (by omega) rfl (q_istore c_44_35 (Nat.le_of_ble_eq_true rfl) (q_aload_n c_44_37 rfl (v_gr (t := s) c_44_38 kf_4_11 (ck_sh hs) (by omega) rfl (q_iload_n c_44_41 rfl (q_iconst c_44_42 ?_)))))))
    refine v_iadd (v := 4 * a2 + 2) c_44_43 rfl (v_ia (v := c s (4 * a2 + 2)) c_44_44 (ck_s hs) (by omega) (of_decide_eq_true rfl) ⟨(q_0f37a0c6e ha2), (q_d136047ff ha2)⟩ rfl (q_aload_n c_44_45 rfl (v_gr (t := P) c_44_46 kf_4_15 (ck_sh hs) (by omega) rfl (q_iload_n c_44_49 rfl (q_iconst c_44_50 (v_cv c_44_51 km_4_72 rfl (ck_p0 hP) (a68z hP) ⟨⟨rfl, rfl⟩, of_decide_eq_true rfl, rfl⟩ (Nat.le_of_ble_eq_true rfl) (Nat.le_of_ble_eq_true rfl) (s_29 (a1 := a1) (a2 := 1) hIo hP (show 0 ≤ a1 ∧ a1 ≤ 3 from ha1) (show 0 ≤ 1 ∧ 1 ≤ 2 from ⟨of_decide_eq_true rfl, of_decide_eq_true rfl⟩) (fun y_10 hy_10 => (bk_inl ?_)))))))))
    have h_11 : 0 ≤ (c s (4 * a2 + 2)) * y_10 ∧ (c s (4 * a2 + 2)) * y_10 ≤ 10 * (c s (4 * a2 + 2)) := mul_bd (by omega) (by omega) (by omega)
    have h_12 : 0 ≤ (c s (4 * a2 + 2)) * y_10 ∧ (c s (4 * a2 + 2)) * y_10 ≤ 9999 * y_10 := mul_bd2 (by omega) (by omega) (by omega)
    refine v_imul (v := ((c s (4 * a2 + 2)) * y_10)) rfl rfl (v_bip c_44_55 (of_decide_eq_true rfl) (v_idiv (v := (((c s (4 * a2 + 2)) * y_10) / 10)) rfl (by omega) rfl (q_istore c_44_58 (Nat.le_of_ble_eq_true rfl) (q_aload_n c_44_60 rfl (v_gr (t := s) c_44_61 kf_4_11 (ck_sh hs) (by omega) rfl (q_iload_n c_44_64 rfl (q_iconst c_44_65 ?_)))))))
    refine v_iadd (v := 4 * a2 + 3) c_44_66 rfl (v_ia (v := c s (4 * a2 + 3)) c_44_67 (ck_s hs) (by omega) (of_decide_eq_true rfl) ⟨(q_f6be69137 ha2), (q_c79de31f2 ha2)⟩ rfl (q_aload_n c_44_68 rfl (v_gr (t := P) c_44_69 kf_4_15 (ck_sh hs) (by omega) rfl (q_iload_n c_44_72 rfl (q_iconst c_44_73 (v_cv c_44_74 km_4_72 rfl (ck_p0 hP) (a68z hP) ⟨⟨rfl, rfl⟩, of_decide_eq_true rfl, rfl⟩ (Nat.le_of_ble_eq_true rfl) (Nat.le_of_ble_eq_true rfl) (s_29 (a1 := a1) (a2 := 2) hIo hP (show 0 ≤ a1 ∧ a1 ≤ 3 from ha1) (show 0 ≤ 2 ∧ 2 ≤ 2 from ⟨of_decide_eq_true rfl, of_decide_eq_true rfl⟩) (fun y_13 hy_13 => (bk_inl ?_)))))))))
    have h_14 : 0 ≤ (c s (4 * a2 + 3)) * y_13 ∧ (c s (4 * a2 + 3)) * y_13 ≤ 10 * (c s (4 * a2 + 3)) := mul_bd (by omega) (by omega) (by omega)
    have h_15 : 0 ≤ (c s (4 * a2 + 3)) * y_13 ∧ (c s (4 * a2 + 3)) * y_13 ≤ 9999 * y_13 := mul_bd2 (by omega) (by omega) (by omega)
    refine v_imul (v := ((c s (4 * a2 + 3)) * y_13)) rfl rfl (v_bip c_44_78 (of_decide_eq_true rfl) (v_idiv (v := (((c s (4 * a2 + 3)) * y_13) / 10)) rfl (by omega) rfl (q_istore c_44_81 (Nat.le_of_ble_eq_true rfl) (q_aload_n c_44_83 rfl (v_gr (t := s) c_44_84 kf_4_11 (ck_sh hs) (by omega) rfl (q_iload_n c_44_87 rfl (q_dup2 c_44_88 ⟨rfl, rfl⟩ ?_)))))))
    refine v_ia (v := c s (4 * a2)) c_44_89 (ck_s hs) (by omega) (of_decide_eq_true rfl) ⟨(q_c065257af ha2), (q_b7e642788 ha2)⟩ rfl (q_iload c_44_90 rfl (v_iadd (v := (((c s (4 * a2 + 1)) * y_7) / 10) + c s (4 * a2)) rfl (by first | (clear ha1 ha2 h_2 h_3 h_4 h_5 hsum_1 h_8 h_9 h_11 h_12 h_14 h_15 h_6; omega) | omega) (v_is c_44_93 (ck_s hs) (by omega) (of_decide_eq_true rfl) ⟨(q_c065257af ha2), (q_b7e642788 ha2)⟩ (q_aload_n c_44_94 rfl (v_gr (t := s) c_44_95 kf_4_11 (ck_sh hs) (by omega) rfl (q_iload_n c_44_98 rfl (q_iconst c_44_99 ?_)))))))
    refine v_iadd (v := 4 * a2 + 1) c_44_100 rfl (q_dup2 c_44_101 ⟨rfl, rfl⟩ (v_ia (v := c s (4 * a2 + 1)) c_44_102 (ck_s hs) (by omega) (of_decide_eq_true rfl) ⟨(q_83fdbd35d ha2), (q_ee7209ea0 ha2)⟩ (up_n ((ne_a0 (ni rfl)))) (q_iload c_44_103 rfl (q_iload c_44_105 rfl (v_isub (v := (((c s (4 * a2 + 2)) * y_10) / 10) - (((c s (4 * a2 + 1)) * y_7) / 10)) rfl rfl (v_iadd (v := (((c s (4 * a2 + 2)) * y_10) / 10) + c s (4 * a2 + 1) - (((c s (4 * a2 + 1)) * y_7) / 10)) rfl (by first | (clear ha1 ha2 h_2 h_3 h_4 h_5 hsum_1 h_8 h_9 h_11 h_12 h_14 h_15 h_6; omega) | omega) (v_is c_44_109 (ck_s hs) (by omega) (of_decide_eq_true rfl) ⟨(q_83fdbd35d ha2), (q_ee7209ea0 ha2)⟩ ?_)))))))
    refine q_aload_n c_44_110 rfl (v_gr (t := s) c_44_111 kf_4_11 (ck_sh hs) (by omega) rfl (q_iload_n c_44_114 rfl (q_iconst c_44_115 (v_iadd (v := 4 * a2 + 2) c_44_116 rfl (q_dup2 c_44_117 ⟨rfl, rfl⟩ (v_ia (v := c s (4 * a2 + 2)) c_44_118 (ck_s hs) (by omega) (of_decide_eq_true rfl) ⟨(q_0f37a0c6e ha2), (q_d136047ff ha2)⟩ ((up_n ((ne_aa (ni rfl)))).trans (up_n ((ne_a0 (ni rfl))))) (q_iload c_44_119 rfl ?_)))))))
    refine q_iload c_44_121 rfl (v_isub (v := (((c s (4 * a2 + 3)) * y_13) / 10) - (((c s (4 * a2 + 2)) * y_10) / 10)) rfl rfl (v_iadd (v := (((c s (4 * a2 + 3)) * y_13) / 10) + c s (4 * a2 + 2) - (((c s (4 * a2 + 2)) * y_10) / 10)) rfl (by first | (clear ha1 ha2 h_2 h_3 h_4 h_5 hsum_1 h_8 h_9 h_11 h_12 h_14 h_15 h_6; omega) | omega) (v_is c_44_125 (ck_s hs) (by omega) (of_decide_eq_true rfl) ⟨(q_0f37a0c6e ha2), (q_d136047ff ha2)⟩ (q_aload_n c_44_126 rfl (v_gr (t := s) c_44_127 kf_4_11 (ck_sh hs) (by omega) rfl (q_iload_n c_44_130 rfl (q_iconst c_44_131 ?_)))))))
    refine v_iadd (v := 4 * a2 + 3) c_44_132 rfl (q_dup2 c_44_133 ⟨rfl, rfl⟩ (v_ia (v := c s (4 * a2 + 3)) c_44_134 (ck_s hs) (by omega) (of_decide_eq_true rfl) ⟨(q_f6be69137 ha2), (q_c79de31f2 ha2)⟩ ((up_n ((ne_aa (ni rfl)))).trans ((up_n ((ne_aa (ni rfl)))).trans (up_n ((ne_a0 (ni rfl)))))) (q_iload c_44_135 rfl (v_isub (v := c s (4 * a2 + 3) - (((c s (4 * a2 + 3)) * y_13) / 10)) rfl rfl (v_is c_44_138 (ck_s hs) (by omega) (of_decide_eq_true rfl) ⟨(q_f6be69137 ha2), (q_c79de31f2 ha2)⟩ (q_aload_n c_44_139 rfl (v_gr (t := s) c_44_140 kf_4_11 (ck_sh hs) (by omega) rfl ?_)))))))
    refine q_iload_n c_44_143 rfl (v_ia (v := (((c s (4 * a2 + 1)) * y_7) / 10) + c s (4 * a2)) rfl (ck_s hs) (by omega) (of_decide_eq_true rfl) ⟨(q_c065257af ha2), (q_b7e642788 ha2)⟩ ((up_n ((ne_0a (ni rfl)))).trans ((up_n ((ne_0a (ni rfl)))).trans ((up_n ((ne_0a (ni rfl)))).trans (up_e rfl)))) (q_aload_n c_44_145 rfl (v_gr (t := P) c_44_146 kf_4_15 (ck_sh hs) (by omega) rfl ?_)))
    have h_16 := ir_p0_3 hI hP
    refine v_gi (z := 3) (v := c P 3) c_44_149 kf_4_75 (ck_p0 hP) (a68z hP) rfl rfl ((up_c (by omega)).trans ((up_c (by omega)).trans ((up_c (by omega)).trans (up_c (by omega))))) ?_
    have h_17 : 0 ≤ ((((c s (4 * a2 + 1)) * y_7) / 10) + c s (4 * a2)) * (c P 3) ∧ ((((c s (4 * a2 + 1)) * y_7) / 10) + c s (4 * a2)) * (c P 3) ≤ 50 * ((((c s (4 * a2 + 1)) * y_7) / 10) + c s (4 * a2)) := mul_bd (by omega) (by omega) (by omega)
    have h_18 : 0 ≤ ((((c s (4 * a2 + 1)) * y_7) / 10) + c s (4 * a2)) * (c P 3) ∧ ((((c s (4 * a2 + 1)) * y_7) / 10) + c s (4 * a2)) * (c P 3) ≤ 9999 * (c P 3) := mul_bd2 (by omega) (by omega) (by omega)
    refine v_imul (v := (((((c s (4 * a2 + 1)) * y_7) / 10) + c s (4 * a2)) * (c P 3))) rfl rfl (v_bip c_44_153 (of_decide_eq_true rfl) (v_idiv (v := ((((((c s (4 * a2 + 1)) * y_7) / 10) + c s (4 * a2)) * (c P 3)) / 100)) rfl (by omega) rfl (q_istore c_44_156 (Nat.le_of_ble_eq_true rfl) (Wp_ls [(7, vi ((((((c s (4 * a2 + 1)) * y_7) / 10) + c s (4 * a2)) * (c P 3)) / 100)), (6, vi (((c s (4 * a2 + 3)) * y_13) / 10)), (5, vi (((c s (4 * a2 + 2)) * y_10) / 10)), (4, vi (((c s (4 * a2 + 1)) * y_7) / 10)), (3, vi (4 * a2)), (0, .ref sh), (1, vi a1), (2, vi a2)] (lsub_cons rfl (lsub_cons rfl (lsub_cons rfl (lsub_cons rfl (lsub_cons rfl (lsub_cons rfl (lsub_cons rfl (lsub_cons rfl lsub_nil)))))))) (q_aload_n c_44_158 rfl (v_gr (t := s) c_44_159 kf_4_11 (ck_sh hs) (by omega) rfl (q_iload_n c_44_162 rfl ?_)))))))
    refine q_dup2 c_44_163 ⟨rfl, rfl⟩ (v_ia (v := (((c s (4 * a2 + 1)) * y_7) / 10) + c s (4 * a2)) rfl (ck_s hs) (by omega) (of_decide_eq_true rfl) ⟨(q_c065257af ha2), (q_b7e642788 ha2)⟩ ((up_n ((ne_0a (ni rfl)))).trans ((up_n ((ne_0a (ni rfl)))).trans ((up_n ((ne_0a (ni rfl)))).trans (up_e rfl)))) (q_iload c_44_165 rfl (v_isub (v := (((c s (4 * a2 + 1)) * y_7) / 10) + c s (4 * a2) - ((((((c s (4 * a2 + 1)) * y_7) / 10) + c s (4 * a2)) * (c P 3)) / 100)) rfl rfl (v_is c_44_168 (ck_s hs) (by omega) (of_decide_eq_true rfl) ⟨(q_c065257af ha2), (q_b7e642788 ha2)⟩ (q_aload_n c_44_169 rfl (v_gr (t := s) c_44_170 kf_4_11 (ck_sh hs) (by omega) rfl (v_bip c_44_173 (of_decide_eq_true rfl) ?_)))))))
    refine q_dup2 c_44_175 ⟨rfl, rfl⟩ ?_
    have h_19 := ir_s hI hs 32
    refine v_ia (v := c s 32) c_44_176 (ck_s hs) (by omega) (of_decide_eq_true rfl) (of_decide_eq_true rfl) ((up_n (ne_g ((q_dc9fd3f8b ha2)))).trans ((up_n (ne_g ((q_d17500877 ha2)))).trans ((up_n (ne_g ((q_13bfd6882 ha2)))).trans ((up_n (ne_g ((q_ab78ec18a ha2)))).trans (up_n (ne_g ((q_dc9fd3f8b ha2)))))))) (q_iload c_44_177 rfl (v_iadd (v := ((((((c s (4 * a2 + 1)) * y_7) / 10) + c s (4 * a2)) * (c P 3)) / 100) + c s 32) rfl (by first | (clear ha1 ha2 h_2 h_3 h_4 h_5 hsum_1 h_8 h_9 h_11 h_12 h_14 h_15 h_16 h_17 h_18 h_19 h_6; omega) | omega) (v_nrm (fun y_20 hy_20 => (v_is c_44_180 (ck_s hs) (by omega) (of_decide_eq_true rfl) (of_decide_eq_true rfl) (q_iconst c_44_181 (v_zret c_44_182 rfl (of_decide_eq_true rfl) ?_)))))))
    have hI_21 := iw_row (a := s) (j := 4 * a2) (v := (((c s (4 * a2 + 1)) * y_7) / 10) + c s (4 * a2)) hIo (by omega) (Or.inl rfl) ⟨by omega, by omega, by omega⟩
    have hI_22 := iw_row (a := s) (j := 4 * a2 + 1) (v := (((c s (4 * a2 + 2)) * y_10) / 10) + c s (4 * a2 + 1) - (((c s (4 * a2 + 1)) * y_7) / 10)) hI_21 (by omega) (Or.inl rfl) ⟨by omega, by omega, by omega⟩
    have hI_23 := iw_row (a := s) (j := 4 * a2 + 2) (v := (((c s (4 * a2 + 3)) * y_13) / 10) + c s (4 * a2 + 2) - (((c s (4 * a2 + 2)) * y_10) / 10)) hI_22 (by omega) (Or.inl rfl) ⟨by omega, by omega, by omega⟩
    have hI_24 := iw_row (a := s) (j := 4 * a2 + 3) (v := c s (4 * a2 + 3) - (((c s (4 * a2 + 3)) * y_13) / 10)) hI_23 (by omega) (Or.inl rfl) ⟨by omega, by omega, by omega⟩
    have hI_25 := iw_row (a := s) (j := 4 * a2) (v := (((c s (4 * a2 + 1)) * y_7) / 10) + c s (4 * a2) - ((((((c s (4 * a2 + 1)) * y_7) / 10) + c s (4 * a2)) * (c P 3)) / 100)) hI_24 (by omega) (Or.inl rfl) ⟨by omega, by omega, by omega⟩
    have hI_26 := iw_row (a := s) (j := 32) (v := y_20) hI_25 (by omega) (Or.inr (by omega)) ⟨by omega, by omega, by omega⟩
    have hr_27 : ∀ j : Int, rs s j → (up (up (up (up (up (up c s (4 * a2) ((((c s (4 * a2 + 1)) * y_7) / 10) + c s (4 * a2))) s (4 * a2 + 1) ((((c s (4 * a2 + 2)) * y_10) / 10) + c s (4 * a2 + 1) - (((c s (4 * a2 + 1)) * y_7) / 10))) s (4 * a2 + 2) ((((c s (4 * a2 + 3)) * y_13) / 10) + c s (4 * a2 + 2) - (((c s (4 * a2 + 2)) * y_10) / 10))) s (4 * a2 + 3) (c s (4 * a2 + 3) - (((c s (4 * a2 + 3)) * y_13) / 10))) s (4 * a2) ((((c s (4 * a2 + 1)) * y_7) / 10) + c s (4 * a2) - ((((((c s (4 * a2 + 1)) * y_7) / 10) + c s (4 * a2)) * (c P 3)) / 100))) s 32 y_20) s j + (up (up (up (up (up (up c s (4 * a2) ((((c s (4 * a2 + 1)) * y_7) / 10) + c s (4 * a2))) s (4 * a2 + 1) ((((c s (4 * a2 + 2)) * y_10) / 10) + c s (4 * a2 + 1) - (((c s (4 * a2 + 1)) * y_7) / 10))) s (4 * a2 + 2) ((((c s (4 * a2 + 3)) * y_13) / 10) + c s (4 * a2 + 2) - (((c s (4 * a2 + 2)) * y_10) / 10))) s (4 * a2 + 3) (c s (4 * a2 + 3) - (((c s (4 * a2 + 3)) * y_13) / 10))) s (4 * a2) ((((c s (4 * a2 + 1)) * y_7) / 10) + c s (4 * a2) - ((((((c s (4 * a2 + 1)) * y_7) / 10) + c s (4 * a2)) * (c P 3)) / 100))) s 32 y_20) s (j + 1) + (up (up (up (up (up (up c s (4 * a2) ((((c s (4 * a2 + 1)) * y_7) / 10) + c s (4 * a2))) s (4 * a2 + 1) ((((c s (4 * a2 + 2)) * y_10) / 10) + c s (4 * a2 + 1) - (((c s (4 * a2 + 1)) * y_7) / 10))) s (4 * a2 + 2) ((((c s (4 * a2 + 3)) * y_13) / 10) + c s (4 * a2 + 2) - (((c s (4 * a2 + 2)) * y_10) / 10))) s (4 * a2 + 3) (c s (4 * a2 + 3) - (((c s (4 * a2 + 3)) * y_13) / 10))) s (4 * a2) ((((c s (4 * a2 + 1)) * y_7) / 10) + c s (4 * a2) - ((((((c s (4 * a2 + 1)) * y_7) / 10) + c s (4 * a2)) * (c P 3)) / 100))) s 32 y_20) s (j + 2) + (up (up (up (up (up (up c s (4 * a2) ((((c s (4 * a2 + 1)) * y_7) / 10) + c s (4 * a2))) s (4 * a2 + 1) ((((c s (4 * a2 + 2)) * y_10) / 10) + c s (4 * a2 + 1) - (((c s (4 * a2 + 1)) * y_7) / 10))) s (4 * a2 + 2) ((((c s (4 * a2 + 3)) * y_13) / 10) + c s (4 * a2 + 2) - (((c s (4 * a2 + 2)) * y_10) / 10))) s (4 * a2 + 3) (c s (4 * a2 + 3) - (((c s (4 * a2 + 3)) * y_13) / 10))) s (4 * a2) ((((c s (4 * a2 + 1)) * y_7) / 10) + c s (4 * a2) - ((((((c s (4 * a2 + 1)) * y_7) / 10) + c s (4 * a2)) * (c P 3)) / 100))) s 32 y_20) s (j + 3) ≤ 9999 := by
      intro j9 hj9
      obtain ⟨k9, rfl, hk9⟩ := rs_s hs hj9
      by_cases e_28 : k9 = a2
      · skip
        have h_29 : (up (up (up (up (up (up c s (4 * a2) ((((c s (4 * a2 + 1)) * y_7) / 10) + c s (4 * a2))) s (4 * a2 + 1) ((((c s (4 * a2 + 2)) * y_10) / 10) + c s (4 * a2 + 1) - (((c s (4 * a2 + 1)) * y_7) / 10))) s (4 * a2 + 2) ((((c s (4 * a2 + 3)) * y_13) / 10) + c s (4 * a2 + 2) - (((c s (4 * a2 + 2)) * y_10) / 10))) s (4 * a2 + 3) (c s (4 * a2 + 3) - (((c s (4 * a2 + 3)) * y_13) / 10))) s (4 * a2) ((((c s (4 * a2 + 1)) * y_7) / 10) + c s (4 * a2) - ((((((c s (4 * a2 + 1)) * y_7) / 10) + c s (4 * a2)) * (c P 3)) / 100))) s 32 y_20) s (4 * k9) = (((c s (4 * a2 + 1)) * y_7) / 10) + c s (4 * a2) - ((((((c s (4 * a2 + 1)) * y_7) / 10) + c s (4 * a2)) * (c P 3)) / 100) := (congrArg ((up (up (up (up (up (up c s (4 * a2) ((((c s (4 * a2 + 1)) * y_7) / 10) + c s (4 * a2))) s (4 * a2 + 1) ((((c s (4 * a2 + 2)) * y_10) / 10) + c s (4 * a2 + 1) - (((c s (4 * a2 + 1)) * y_7) / 10))) s (4 * a2 + 2) ((((c s (4 * a2 + 3)) * y_13) / 10) + c s (4 * a2 + 2) - (((c s (4 * a2 + 2)) * y_10) / 10))) s (4 * a2 + 3) (c s (4 * a2 + 3) - (((c s (4 * a2 + 3)) * y_13) / 10))) s (4 * a2) ((((c s (4 * a2 + 1)) * y_7) / 10) + c s (4 * a2) - ((((((c s (4 * a2 + 1)) * y_7) / 10) + c s (4 * a2)) * (c P 3)) / 100))) s 32 y_20) s) (show 4 * k9 = 4 * a2 from by first | assumption | exact Int.le_antisymm (by omega) (by omega))).trans ((up_n (ne_l ((q_dc9fd3f8b ha2)))).trans (up_e rfl))
        have h_30 : (up (up (up (up (up (up c s (4 * a2) ((((c s (4 * a2 + 1)) * y_7) / 10) + c s (4 * a2))) s (4 * a2 + 1) ((((c s (4 * a2 + 2)) * y_10) / 10) + c s (4 * a2 + 1) - (((c s (4 * a2 + 1)) * y_7) / 10))) s (4 * a2 + 2) ((((c s (4 * a2 + 3)) * y_13) / 10) + c s (4 * a2 + 2) - (((c s (4 * a2 + 2)) * y_10) / 10))) s (4 * a2 + 3) (c s (4 * a2 + 3) - (((c s (4 * a2 + 3)) * y_13) / 10))) s (4 * a2) ((((c s (4 * a2 + 1)) * y_7) / 10) + c s (4 * a2) - ((((((c s (4 * a2 + 1)) * y_7) / 10) + c s (4 * a2)) * (c P 3)) / 100))) s 32 y_20) s (4 * k9 + 1) = (((c s (4 * a2 + 2)) * y_10) / 10) + c s (4 * a2 + 1) - (((c s (4 * a2 + 1)) * y_7) / 10) := (congrArg ((up (up (up (up (up (up c s (4 * a2) ((((c s (4 * a2 + 1)) * y_7) / 10) + c s (4 * a2))) s (4 * a2 + 1) ((((c s (4 * a2 + 2)) * y_10) / 10) + c s (4 * a2 + 1) - (((c s (4 * a2 + 1)) * y_7) / 10))) s (4 * a2 + 2) ((((c s (4 * a2 + 3)) * y_13) / 10) + c s (4 * a2 + 2) - (((c s (4 * a2 + 2)) * y_10) / 10))) s (4 * a2 + 3) (c s (4 * a2 + 3) - (((c s (4 * a2 + 3)) * y_13) / 10))) s (4 * a2) ((((c s (4 * a2 + 1)) * y_7) / 10) + c s (4 * a2) - ((((((c s (4 * a2 + 1)) * y_7) / 10) + c s (4 * a2)) * (c P 3)) / 100))) s 32 y_20) s) (show 4 * k9 + 1 = 4 * a2 + 1 from by first | assumption | exact Int.le_antisymm (by omega) (by omega))).trans ((up_n (ne_l ((q_ab78ec18a ha2)))).trans ((up_n ((ne_a0 (ni rfl)))).trans ((up_n ((ne_aa (ni rfl)))).trans ((up_n ((ne_aa (ni rfl)))).trans (up_e rfl)))))
        have h_31 : (up (up (up (up (up (up c s (4 * a2) ((((c s (4 * a2 + 1)) * y_7) / 10) + c s (4 * a2))) s (4 * a2 + 1) ((((c s (4 * a2 + 2)) * y_10) / 10) + c s (4 * a2 + 1) - (((c s (4 * a2 + 1)) * y_7) / 10))) s (4 * a2 + 2) ((((c s (4 * a2 + 3)) * y_13) / 10) + c s (4 * a2 + 2) - (((c s (4 * a2 + 2)) * y_10) / 10))) s (4 * a2 + 3) (c s (4 * a2 + 3) - (((c s (4 * a2 + 3)) * y_13) / 10))) s (4 * a2) ((((c s (4 * a2 + 1)) * y_7) / 10) + c s (4 * a2) - ((((((c s (4 * a2 + 1)) * y_7) / 10) + c s (4 * a2)) * (c P 3)) / 100))) s 32 y_20) s (4 * k9 + 2) = (((c s (4 * a2 + 3)) * y_13) / 10) + c s (4 * a2 + 2) - (((c s (4 * a2 + 2)) * y_10) / 10) := (congrArg ((up (up (up (up (up (up c s (4 * a2) ((((c s (4 * a2 + 1)) * y_7) / 10) + c s (4 * a2))) s (4 * a2 + 1) ((((c s (4 * a2 + 2)) * y_10) / 10) + c s (4 * a2 + 1) - (((c s (4 * a2 + 1)) * y_7) / 10))) s (4 * a2 + 2) ((((c s (4 * a2 + 3)) * y_13) / 10) + c s (4 * a2 + 2) - (((c s (4 * a2 + 2)) * y_10) / 10))) s (4 * a2 + 3) (c s (4 * a2 + 3) - (((c s (4 * a2 + 3)) * y_13) / 10))) s (4 * a2) ((((c s (4 * a2 + 1)) * y_7) / 10) + c s (4 * a2) - ((((((c s (4 * a2 + 1)) * y_7) / 10) + c s (4 * a2)) * (c P 3)) / 100))) s 32 y_20) s) (show 4 * k9 + 2 = 4 * a2 + 2 from by first | assumption | exact Int.le_antisymm (by omega) (by omega))).trans ((up_n (ne_l ((q_13bfd6882 ha2)))).trans ((up_n ((ne_a0 (ni rfl)))).trans ((up_n ((ne_aa (ni rfl)))).trans (up_e rfl))))
        have h_32 : (up (up (up (up (up (up c s (4 * a2) ((((c s (4 * a2 + 1)) * y_7) / 10) + c s (4 * a2))) s (4 * a2 + 1) ((((c s (4 * a2 + 2)) * y_10) / 10) + c s (4 * a2 + 1) - (((c s (4 * a2 + 1)) * y_7) / 10))) s (4 * a2 + 2) ((((c s (4 * a2 + 3)) * y_13) / 10) + c s (4 * a2 + 2) - (((c s (4 * a2 + 2)) * y_10) / 10))) s (4 * a2 + 3) (c s (4 * a2 + 3) - (((c s (4 * a2 + 3)) * y_13) / 10))) s (4 * a2) ((((c s (4 * a2 + 1)) * y_7) / 10) + c s (4 * a2) - ((((((c s (4 * a2 + 1)) * y_7) / 10) + c s (4 * a2)) * (c P 3)) / 100))) s 32 y_20) s (4 * k9 + 3) = c s (4 * a2 + 3) - (((c s (4 * a2 + 3)) * y_13) / 10) := (congrArg ((up (up (up (up (up (up c s (4 * a2) ((((c s (4 * a2 + 1)) * y_7) / 10) + c s (4 * a2))) s (4 * a2 + 1) ((((c s (4 * a2 + 2)) * y_10) / 10) + c s (4 * a2 + 1) - (((c s (4 * a2 + 1)) * y_7) / 10))) s (4 * a2 + 2) ((((c s (4 * a2 + 3)) * y_13) / 10) + c s (4 * a2 + 2) - (((c s (4 * a2 + 2)) * y_10) / 10))) s (4 * a2 + 3) (c s (4 * a2 + 3) - (((c s (4 * a2 + 3)) * y_13) / 10))) s (4 * a2) ((((c s (4 * a2 + 1)) * y_7) / 10) + c s (4 * a2) - ((((((c s (4 * a2 + 1)) * y_7) / 10) + c s (4 * a2)) * (c P 3)) / 100))) s 32 y_20) s) (show 4 * k9 + 3 = 4 * a2 + 3 from by first | assumption | exact Int.le_antisymm (by omega) (by omega))).trans ((up_n (ne_l ((q_d17500877 ha2)))).trans ((up_n ((ne_a0 (ni rfl)))).trans (up_e rfl)))
        omega
      have h_33 := iv_r hI s (4 * k9) hj9 (by omega)
      have h_34 := ir_s_g hI hs (j := 4 * k9) ((q_9f1d5ffdc hk9))
      have h_35 : (up (up (up (up (up (up c s (4 * a2) ((((c s (4 * a2 + 1)) * y_7) / 10) + c s (4 * a2))) s (4 * a2 + 1) ((((c s (4 * a2 + 2)) * y_10) / 10) + c s (4 * a2 + 1) - (((c s (4 * a2 + 1)) * y_7) / 10))) s (4 * a2 + 2) ((((c s (4 * a2 + 3)) * y_13) / 10) + c s (4 * a2 + 2) - (((c s (4 * a2 + 2)) * y_10) / 10))) s (4 * a2 + 3) (c s (4 * a2 + 3) - (((c s (4 * a2 + 3)) * y_13) / 10))) s (4 * a2) ((((c s (4 * a2 + 1)) * y_7) / 10) + c s (4 * a2) - ((((((c s (4 * a2 + 1)) * y_7) / 10) + c s (4 * a2)) * (c P 3)) / 100))) s 32 y_20) s (4 * k9) = c s (4 * k9) := ((up_n (ne_l ((q_dc9fd3f8b hk9)))).trans ((up_n ((q_336fb6678 e_28))).trans ((up_n ((q_8ac71c5f3))).trans ((up_n ((q_c037f51da))).trans ((up_n ((q_b2cb8bf87))).trans (up_n ((q_336fb6678 e_28))))))))
      have h_36 := ir_s_g hI hs (j := 4 * k9 + 1) ((q_0a2ee6f8f hk9))
      have h_37 : (up (up (up (up (up (up c s (4 * a2) ((((c s (4 * a2 + 1)) * y_7) / 10) + c s (4 * a2))) s (4 * a2 + 1) ((((c s (4 * a2 + 2)) * y_10) / 10) + c s (4 * a2 + 1) - (((c s (4 * a2 + 1)) * y_7) / 10))) s (4 * a2 + 2) ((((c s (4 * a2 + 3)) * y_13) / 10) + c s (4 * a2 + 2) - (((c s (4 * a2 + 2)) * y_10) / 10))) s (4 * a2 + 3) (c s (4 * a2 + 3) - (((c s (4 * a2 + 3)) * y_13) / 10))) s (4 * a2) ((((c s (4 * a2 + 1)) * y_7) / 10) + c s (4 * a2) - ((((((c s (4 * a2 + 1)) * y_7) / 10) + c s (4 * a2)) * (c P 3)) / 100))) s 32 y_20) s (4 * k9 + 1) = c s (4 * k9 + 1) := ((up_n (ne_l ((q_ab78ec18a hk9)))).trans ((up_n ((q_e5bcc673e))).trans ((up_n ((q_7c6b1b09a))).trans ((up_n ((q_3650b790c))).trans ((up_n ((q_52b51d728 e_28))).trans (up_n ((q_e5bcc673e))))))))
      have h_38 := ir_s_g hI hs (j := 4 * k9 + 2) ((q_e07a293a2 hk9))
      have h_39 : (up (up (up (up (up (up c s (4 * a2) ((((c s (4 * a2 + 1)) * y_7) / 10) + c s (4 * a2))) s (4 * a2 + 1) ((((c s (4 * a2 + 2)) * y_10) / 10) + c s (4 * a2 + 1) - (((c s (4 * a2 + 1)) * y_7) / 10))) s (4 * a2 + 2) ((((c s (4 * a2 + 3)) * y_13) / 10) + c s (4 * a2 + 2) - (((c s (4 * a2 + 2)) * y_10) / 10))) s (4 * a2 + 3) (c s (4 * a2 + 3) - (((c s (4 * a2 + 3)) * y_13) / 10))) s (4 * a2) ((((c s (4 * a2 + 1)) * y_7) / 10) + c s (4 * a2) - ((((((c s (4 * a2 + 1)) * y_7) / 10) + c s (4 * a2)) * (c P 3)) / 100))) s 32 y_20) s (4 * k9 + 2) = c s (4 * k9 + 2) := ((up_n (ne_l ((q_13bfd6882 hk9)))).trans ((up_n ((q_ae83e86ba))).trans ((up_n ((q_91c5bd343))).trans ((up_n ((q_27892e29e e_28))).trans ((up_n ((q_08c3d7060))).trans (up_n ((q_ae83e86ba))))))))
      have h_40 := ir_s_g hI hs (j := 4 * k9 + 3) ((q_d09cb0b73 hk9))
      have h_41 : (up (up (up (up (up (up c s (4 * a2) ((((c s (4 * a2 + 1)) * y_7) / 10) + c s (4 * a2))) s (4 * a2 + 1) ((((c s (4 * a2 + 2)) * y_10) / 10) + c s (4 * a2 + 1) - (((c s (4 * a2 + 1)) * y_7) / 10))) s (4 * a2 + 2) ((((c s (4 * a2 + 3)) * y_13) / 10) + c s (4 * a2 + 2) - (((c s (4 * a2 + 2)) * y_10) / 10))) s (4 * a2 + 3) (c s (4 * a2 + 3) - (((c s (4 * a2 + 3)) * y_13) / 10))) s (4 * a2) ((((c s (4 * a2 + 1)) * y_7) / 10) + c s (4 * a2) - ((((((c s (4 * a2 + 1)) * y_7) / 10) + c s (4 * a2)) * (c P 3)) / 100))) s 32 y_20) s (4 * k9 + 3) = c s (4 * k9 + 3) := ((up_n (ne_l ((q_d17500877 hk9)))).trans ((up_n ((q_b6789388a))).trans ((up_n ((q_2db9f474b e_28))).trans ((up_n ((q_28d70e8e5))).trans ((up_n ((q_6d5c6886e))).trans (up_n ((q_b6789388a))))))))
      omega
    have hI_42 := iv_close hI_26 hr_27
    exact K (up (up (up (up (up (up c s (4 * a2) ((((c s (4 * a2 + 1)) * y_7) / 10) + c s (4 * a2))) s (4 * a2 + 1) ((((c s (4 * a2 + 2)) * y_10) / 10) + c s (4 * a2 + 1) - (((c s (4 * a2 + 1)) * y_7) / 10))) s (4 * a2 + 2) ((((c s (4 * a2 + 3)) * y_13) / 10) + c s (4 * a2 + 2) - (((c s (4 * a2 + 2)) * y_10) / 10))) s (4 * a2 + 3) (c s (4 * a2 + 3) - (((c s (4 * a2 + 3)) * y_13) / 10))) s (4 * a2) ((((c s (4 * a2 + 1)) * y_7) / 10) + c s (4 * a2) - ((((((c s (4 * a2 + 1)) * y_7) / 10) + c s (4 * a2)) * (c P 3)) / 100))) s 32 y_20) 1 hI_42 (fun a j hm => (up_b (Decidable.or_iff_not_imp_left.mpr (fun h1 h2 => hm (Decidable.not_not.mp h1)))).trans ((up_b (Decidable.or_iff_not_imp_left.mpr (fun h1 h2 => hm (Decidable.not_not.mp h1)))).trans ((up_b (Decidable.or_iff_not_imp_left.mpr (fun h1 h2 => hm (Decidable.not_not.mp h1)))).trans ((up_b (Decidable.or_iff_not_imp_left.mpr (fun h1 h2 => hm (Decidable.not_not.mp h1)))).trans ((up_b (Decidable.or_iff_not_imp_left.mpr (fun h1 h2 => hm (Decidable.not_not.mp h1)))).trans (up_b (Decidable.or_iff_not_imp_left.mpr (fun h1 h2 => hm (Decidable.not_not.mp h1))))))))) ⟨of_decide_eq_true rfl, of_decide_eq_true rfl⟩
  · refine v_if_ne_f (t := 10) c_44_5 rfl (Decidable.not_not.mp h_6) (q_iconst c_44_8 (v_zret c_44_9 rfl (of_decide_eq_true rfl) ?_))
    have hr_43 : ∀ j : Int, rs s j → c s j + c s (j + 1) + c s (j + 2) + c s (j + 3) ≤ 9999 := by
      intro j9 hj9
      obtain ⟨k9, rfl, hk9⟩ := rs_s hs hj9
      by_cases e_44 : k9 = a2
      · skip
        have h_45 : c s (4 * k9) = c s (4 * a2) := (congrArg (c s) (show 4 * k9 = 4 * a2 from by omega))
        have h_46 : c s (4 * k9 + 1) = c s (4 * a2 + 1) := (congrArg (c s) (show 4 * k9 + 1 = 4 * a2 + 1 from by omega))
        have h_47 : c s (4 * k9 + 2) = c s (4 * a2 + 2) := (congrArg (c s) (show 4 * k9 + 2 = 4 * a2 + 2 from by omega))
        have h_48 : c s (4 * k9 + 3) = c s (4 * a2 + 3) := (congrArg (c s) (show 4 * k9 + 3 = 4 * a2 + 3 from by omega))
        omega
      have h_49 := iv_r hI s (4 * k9) hj9 (by omega)
      have h_50 := ir_s_g hI hs (j := 4 * k9) ((q_9f1d5ffdc hk9))
      have h_51 : c s (4 * k9) = c s (4 * k9) := rfl
      have h_52 := ir_s_g hI hs (j := 4 * k9 + 1) ((q_0a2ee6f8f hk9))
      have h_53 : c s (4 * k9 + 1) = c s (4 * k9 + 1) := rfl
      have h_54 := ir_s_g hI hs (j := 4 * k9 + 2) ((q_e07a293a2 hk9))
      have h_55 : c s (4 * k9 + 2) = c s (4 * k9 + 2) := rfl
      have h_56 := ir_s_g hI hs (j := 4 * k9 + 3) ((q_d09cb0b73 hk9))
      have h_57 : c s (4 * k9 + 3) = c s (4 * k9 + 3) := rfl
      omega
    have hI_58 := iv_close hIo hr_43
    exact K c 0 hI_58 (fun a j hm => rfl) ⟨of_decide_eq_true rfl, of_decide_eq_true rfl⟩

set_option maxRecDepth 100000 in
set_option maxHeartbeats 4000000 in
theorem s_45 {sc : List Int32} {e : Int} {d u P Q sh s : Nat} {c : ME} {v1 r : Int} {a1 : Int} {a2 : Int} {Z : AR → Prop} (hI : Iv u e P Q c) (hs : (sh = 37 ∧ s = 38) ∨ (sh = 39 ∧ s = 40)) (ha1 : 0 ≤ a1 ∧ a1 ≤ 5) (ha2 : 0 ≤ a2 ∧ a2 ≤ 3) (hv0 : c s (4 * a1 + a2) = v1) (hr9 : v1 = r) (K : Z (.inl (some (vi r)), Wd P Q P P c, 0, 0)) : Wp sc (d + 7) 45 0 [(0, .ref sh), (1, vi a1), (2, vi a2)] [] (Wd P Q P P c) 0 0 Z := by
  have hP := iv_P hI
  have hQ := iv_Q hI
  have h_1 := ir_s_g hI hs (j := 4 * a1 + a2) ((q_d5fe0d0d1 ha1 ha2))
  refine q_aload_n c_45_0 rfl (v_gr (t := s) c_45_1 kf_4_11 (ck_sh hs) (by omega) rfl (q_iload_n c_45_4 rfl (q_iconst c_45_5 (v_imul (v := 4 * a1) c_45_6 (by omega) (q_iload_n c_45_7 rfl (v_iadd (v := 4 * a1 + a2) c_45_8 rfl (v_ia (v := v1) c_45_9 (ck_s hs) (by omega) (of_decide_eq_true rfl) ⟨(q_404267838 ha1 ha2), (q_8b630baa7 ha1 ha2)⟩ (hv0) ?_)))))))
  refine q_iret c_45_10 rfl ?_
  exact zv (by omega) (K)

set_option maxRecDepth 100000 in
set_option maxHeartbeats 4000000 in
theorem s_46 {sc : List Int32} {e : Int} {d u P Q sh s : Nat} {c : ME} {v1 r : Int} {a1 : Int} {Z : AR → Prop} (hI : Iv u e P Q c) (hs : (sh = 37 ∧ s = 38) ∨ (sh = 39 ∧ s = 40)) (ha1 : 0 ≤ a1 ∧ a1 ≤ 3) (hv0 : c s 30 = v1) (hr9 : tb v1 a1 = r) (K : Z (.inl (some (vi r)), Wd P Q P P c, 0, 0)) : Wp sc (d + 7) 46 0 [(0, .ref sh), (1, vi a1)] [] (Wd P Q P P c) 0 0 Z := by
  refine q_aload_n rfl rfl (v_gr (t := s) rfl rfl (ck_sh hs) (by omega) rfl (v_bip rfl (of_decide_eq_true rfl) (v_ia (v := v1) rfl (ck_s hs) (by omega) (of_decide_eq_true rfl) (of_decide_eq_true rfl) hv0 (q_iload_n rfl rfl (q_ishr rfl (q_iconst rfl (q_iand rfl ?_)))))))
  refine q_iconst rfl ?_
  by_cases h : ((Int32.ofInt v1 >>> (Int32.ofInt a1 &&& 31)) &&& 1) = 1
  · refine q_ic_ne_f (t := 19) rfl (of_decide_eq_true rfl) (fun q => q h) (q_iconst rfl (q_goto (t := 20) rfl rfl (v_zret (a := 1) rfl rfl (of_decide_eq_true rfl) ?_)))
    exact zv (by rw [← hr9]; unfold tb; rw [if_pos h]) K
  · refine q_ic_ne_t (t := 19) rfl (of_decide_eq_true rfl) h (q_iconst rfl (v_zret (a := 0) rfl rfl (of_decide_eq_true rfl) ?_))
    exact zv (by rw [← hr9]; unfold tb; rw [if_neg h]) K

set_option maxRecDepth 100000 in
set_option maxHeartbeats 4000000 in
theorem s_47 {sc : List Int32} {e : Int} {d u P Q sh s : Nat} {c : ME} {v1 v2 r : Int} {a1 : Int} {a2 : Int} {a3 : Int} {Z : AR → Prop} (hI : Iv u e P Q c) (hs : (sh = 37 ∧ s = 38) ∨ (sh = 39 ∧ s = 40)) (ha1 : 0 ≤ a1 ∧ a1 ≤ 3) (ha2 : 0 ≤ a2 ∧ a2 ≤ 3) (ha3 : 0 ≤ a3 ∧ a3 ≤ 9999) (hv0 : c (P + 3) a1 = v1) (hv1 : c s 30 = v2) (hr9 : fal v1 (tb v2 a1) a2 a3 = r) (K : Z (.inl (some (vi r)), Wd P Q P P c, 0, 0)) : Wp sc (d + 8) 47 0 [(0, .ref sh), (1, vi a1), (2, vi a2), (3, vi a3)] [] (Wd P Q P P c) 0 0 Z := by
  have hP := iv_P hI
  have hQ := iv_Q hI
  have h_1 := ir_p3 hI hP a1
  have h_2 := ir_s hI hs 30
  refine q_aload_n c_47_0 rfl (v_gr (t := P) c_47_1 kf_4_15 (ck_sh hs) (by omega) rfl (v_gr (t := (P + 3)) c_47_4 kf_4_58 (ck_p0 hP) (a68z hP) rfl (q_iload_n c_47_7 rfl (v_ia (v := v1) c_47_8 (ck_p3 hP) (a68 hP rfl) (of_decide_eq_true rfl) ⟨ha1.1, (q_b6d45db89 ha1)⟩ (hv0) (q_istore c_47_9 (Nat.le_of_ble_eq_true rfl) (q_iload_n c_47_11 rfl (q_iload c_47_12 rfl ?_)))))))
  by_cases h_3 : a2 > v1
  · refine v_ic_gt_t (t := 19) c_47_14 rfl ⟨by omega, h_3, (ler ha2.2 rfl)⟩ (q_iload_n c_47_19 rfl (q_iload c_47_20 rfl (q_iconst c_47_22 (v_iadd (v := v1 + 1) c_47_23 rfl ?_))))
    by_cases h_4 : a2 ≠ v1 + 1
    · refine v_ic_ne_t (t := 41) c_47_24 rfl ⟨h_4, ⟨(lel ha2.1 rfl), (ler ha2.2 rfl)⟩, by omega, (q_429e24ab3 h_3 ha2)⟩ (q_iconst c_47_41 (q_iret c_47_42 rfl ?_))
      exact zv (by rw [← hr9]; unfold fal; split <;> first | omega | (split <;> omega)) (K)
    · refine v_ic_ne_f (t := 41) c_47_24 rfl (Decidable.not_not.mp h_4) (q_aload_n c_47_27 rfl (q_iload_n c_47_28 rfl ?_))
      have h_5 := tb_rng v2 a1
      refine v_cv c_47_29 km_4_61 rfl (ck_sh hs) (by omega) ⟨⟨rfl, rfl⟩, of_decide_eq_true rfl, rfl⟩ (Nat.le_of_ble_eq_true rfl) (Nat.le_of_ble_eq_true rfl) (s_46 (v1 := v2) (r := (tb v2 a1)) (a1 := a1) hI hs (show 0 ≤ a1 ∧ a1 ≤ 3 from ha1) ((hv1)) rfl (bk_inl ?_))
      by_cases h_6 : (tb v2 a1) = 0
      · refine v_if_eq_t (t := 41) c_47_32 rfl h_6 (q_iconst c_47_41 (q_iret c_47_42 rfl ?_))
        exact zv (by rw [← hr9]; unfold fal; split <;> first | omega | (split <;> omega)) (K)
      · refine v_if_eq_f (t := 41) c_47_32 rfl ⟨h_6, ⟨by omega, by omega⟩, of_decide_eq_true rfl, of_decide_eq_true rfl⟩ (q_iload_n c_47_35 rfl (q_iconst c_47_36 (v_idiv (v := (a3 / 2)) c_47_37 (by omega) rfl (q_goto (t := 42) c_47_38 rfl (q_iret c_47_42 rfl ?_)))))
        exact zv (by rw [← hr9]; unfold fal; split <;> first | omega | (split <;> omega)) (K)
  · refine v_ic_gt_f (t := 19) c_47_14 rfl ⟨(lel ha2.1 rfl), (Int.not_lt.mp h_3), by omega⟩ (q_iload_n c_47_17 rfl (q_iret c_47_18 rfl ?_))
    exact zv (by rw [← hr9]; unfold fal; split <;> first | omega | (split <;> omega)) (K)

set_option maxRecDepth 100000 in
set_option maxHeartbeats 4000000 in
theorem s_48 {sc : List Int32} {e : Int} {d u P Q sh s : Nat} {c : ME} {v1 v2 v3 r : Int} {a1 : Int} {a2 : Int} {a3 : Int} {Z : AR → Prop} (hI : Iv u e P Q c) (hs : (sh = 37 ∧ s = 38) ∨ (sh = 39 ∧ s = 40)) (ha1 : 0 ≤ a1 ∧ a1 ≤ 3) (ha2 : 0 ≤ a2 ∧ a2 ≤ 5) (ha3 : 0 ≤ a3 ∧ a3 ≤ 3) (hv0 : c (P + 3) a1 = v1) (hv1 : c s 30 = v2) (hv2 : c s (4 * a2 + a3) = v3) (hr9 : fal v1 (tb v2 a1) a3 v3 = r) (K : Z (.inl (some (vi r)), Wd P Q P P c, 0, 0)) : Wp sc (d + 9) 48 0 [(0, .ref sh), (1, vi a1), (2, vi a2), (3, vi a3)] [] (Wd P Q P P c) 0 0 Z := by
  have hP := iv_P hI
  have hQ := iv_Q hI
  have h_1 := ir_p3 hI hP a1
  have h_2 := ir_s hI hs 30
  have h_3 := ir_s_g hI hs (j := 4 * a2 + a3) ((q_d5fe0d0d1 ha2 ha3))
  refine q_aload_n c_48_0 rfl (q_iload_n c_48_1 rfl (q_iload_n c_48_2 rfl (q_aload_n c_48_3 rfl (q_iload_n c_48_4 rfl (q_iload_n c_48_5 rfl (v_cv c_48_6 km_4_34 rfl (ck_sh hs) (by omega) ⟨⟨rfl, rfl⟩, of_decide_eq_true rfl, rfl⟩ (Nat.le_of_ble_eq_true rfl) (Nat.le_of_ble_eq_true rfl) (s_45 (v1 := v3) (r := v3) (a1 := a2) (a2 := a3) hI hs (show 0 ≤ a2 ∧ a2 ≤ 5 from ha2) (show 0 ≤ a3 ∧ a3 ≤ 3 from ha3) ((hv2)) (by omega) (bk_inl ?_))))))))
  have h_4 := fal_rng (m := v1) (t := tb v2 a1) (g := a3) (x := v3) (by omega)
  refine v_cv c_48_9 km_4_65 rfl (ck_sh hs) (by omega) ⟨⟨rfl, rfl⟩, of_decide_eq_true rfl, rfl⟩ (Nat.le_of_ble_eq_true rfl) (Nat.le_of_ble_eq_true rfl) (s_47 (v1 := v1) (v2 := v2) (r := (fal v1 (tb v2 a1) a3 v3)) (a1 := a1) (a2 := a3) (a3 := v3) hI hs (show 0 ≤ a1 ∧ a1 ≤ 3 from ha1) (show 0 ≤ a3 ∧ a3 ≤ 3 from ha3) (show 0 ≤ v3 ∧ v3 ≤ 9999 from ⟨by omega, by omega⟩) ((hv0)) ((hv1)) rfl (bk_inl (q_iret c_48_12 rfl ?_)))
  exact zv hr9 (K)

set_option maxRecDepth 100000 in
set_option maxHeartbeats 4000000 in
theorem s_49 {sc : List Int32} {e : Int} {d u P Q sh s : Nat} {c : ME} {v1 v2 v3 v4 v5 v6 r : Int} {a1 : Int} {a2 : Int} {Z : AR → Prop} (hI : Iv u e P Q c) (hs : (sh = 37 ∧ s = 38) ∨ (sh = 39 ∧ s = 40)) (ha1 : 0 ≤ a1 ∧ a1 ≤ 3) (ha2 : 0 ≤ a2 ∧ a2 ≤ 5) (hv0 : c (P + 3) a1 = v1) (hv1 : c s 30 = v2) (hv2 : c s (4 * a2) = v3) (hv3 : c s (4 * a2 + 1) = v4) (hv4 : c s (4 * a2 + 2) = v5) (hv5 : c s (4 * a2 + 3) = v6) (hr9 : fal v1 (tb v2 a1) 0 v3 + fal v1 (tb v2 a1) 1 v4 + fal v1 (tb v2 a1) 2 v5 + fal v1 (tb v2 a1) 3 v6 = r) (K : Z (.inl (some (vi r)), Wd P Q P P c, 0, 0)) : Wp sc (d + 10) 49 0 [(0, .ref sh), (1, vi a1), (2, vi a2)] [] (Wd P Q P P c) 0 0 Z := by
  have hP := iv_P hI
  have hQ := iv_Q hI
  have h_1 := ir_p3 hI hP a1
  have h_2 := ir_s hI hs 30
  have h_3 := ir_s_g hI hs (j := 4 * a2) ((q_9f1d5ffdc ha2))
  have h_4 := ir_s_g hI hs (j := 4 * a2 + 1) ((q_0a2ee6f8f ha2))
  have h_5 := ir_s_g hI hs (j := 4 * a2 + 2) ((q_e07a293a2 ha2))
  have h_6 := ir_s_g hI hs (j := 4 * a2 + 3) ((q_d09cb0b73 ha2))
  refine q_iconst c_49_0 (q_istore_n c_49_1 (Nat.le_of_ble_eq_true rfl) (q_iconst c_49_2 (q_istore c_49_3 (Nat.le_of_ble_eq_true rfl) (q_iload c_49_5 rfl (q_iconst c_49_7 (v_ic_ge_f (t := 28) c_49_8 rfl (of_decide_eq_true rfl) (q_iload_n c_49_11 rfl ?_)))))))
  refine q_aload_n c_49_12 rfl (q_iload_n c_49_13 rfl (q_iload_n c_49_14 rfl (q_iload c_49_15 rfl ?_)))
  have h_7 := fal_rng (m := v1) (t := tb v2 a1) (g := 0) (x := v3) (by first | (clear ha1 ha2 h_1 hv0 h_2 hv1 h_4 hv3 h_5 hv4 h_6 hv5; omega) | omega)
  refine v_cv c_49_17 km_4_69 rfl (ck_sh hs) (by omega) ⟨⟨rfl, rfl⟩, of_decide_eq_true rfl, rfl⟩ (Nat.le_of_ble_eq_true rfl) (Nat.le_of_ble_eq_true rfl) (s_48 (v1 := v1) (v2 := v2) (v3 := v3) (r := (fal v1 (tb v2 a1) 0 v3)) (a1 := a1) (a2 := a2) (a3 := 0) hI hs (show 0 ≤ a1 ∧ a1 ≤ 3 from ha1) (show 0 ≤ a2 ∧ a2 ≤ 5 from ha2) (show 0 ≤ 0 ∧ 0 ≤ 3 from ⟨of_decide_eq_true rfl, of_decide_eq_true rfl⟩) ((hv0)) ((hv1)) ((congrArg (c s) (show 4 * a2 + 0 = 4 * a2 from (q_8baad3eb5))).trans (hv2)) rfl (bk_inl (v_iadd (v := (fal v1 (tb v2 a1) 0 v3)) c_49_20 (by first | (clear ha1 ha2 h_1 hv0 h_2 hv1 h_3 hv2 h_4 hv3 h_5 hv4 h_6 hv5 h_7; omega) | omega) (q_istore_n c_49_21 (Nat.le_of_ble_eq_true rfl) (v_iinc (v := 1) c_49_22 rfl (Nat.le_of_ble_eq_true rfl) (of_decide_eq_true rfl) (q_goto (t := 5) c_49_25 rfl (q_iload c_49_5 rfl (q_iconst c_49_7 ?_))))))))
  refine v_ic_ge_f (t := 28) c_49_8 rfl (of_decide_eq_true rfl) (q_iload_n c_49_11 rfl (q_aload_n c_49_12 rfl (q_iload_n c_49_13 rfl (q_iload_n c_49_14 rfl (q_iload c_49_15 rfl ?_)))))
  have h_8 := fal_rng (m := v1) (t := tb v2 a1) (g := 1) (x := v4) (by first | (clear ha1 ha2 h_1 hv0 h_2 hv1 h_3 hv2 h_5 hv4 h_6 hv5 h_7; omega) | omega)
  refine v_cv c_49_17 km_4_69 rfl (ck_sh hs) (by omega) ⟨⟨rfl, rfl⟩, of_decide_eq_true rfl, rfl⟩ (Nat.le_of_ble_eq_true rfl) (Nat.le_of_ble_eq_true rfl) (s_48 (v1 := v1) (v2 := v2) (v3 := v4) (r := (fal v1 (tb v2 a1) 1 v4)) (a1 := a1) (a2 := a2) (a3 := 1) hI hs (show 0 ≤ a1 ∧ a1 ≤ 3 from ha1) (show 0 ≤ a2 ∧ a2 ≤ 5 from ha2) (show 0 ≤ 1 ∧ 1 ≤ 3 from ⟨of_decide_eq_true rfl, of_decide_eq_true rfl⟩) ((hv0)) ((hv1)) ((hv3)) rfl (bk_inl (v_iadd (v := (fal v1 (tb v2 a1) 0 v3) + (fal v1 (tb v2 a1) 1 v4)) c_49_20 rfl (q_istore_n c_49_21 (Nat.le_of_ble_eq_true rfl) (Wp_ls [(3, vi ((fal v1 (tb v2 a1) 0 v3) + (fal v1 (tb v2 a1) 1 v4))), (4, vi 1), (0, .ref sh), (1, vi a1), (2, vi a2)] (lsub_cons rfl (lsub_cons rfl (lsub_cons rfl (lsub_cons rfl (lsub_cons rfl lsub_nil))))) (v_iinc (v := 2) c_49_22 rfl (Nat.le_of_ble_eq_true rfl) (of_decide_eq_true rfl) (q_goto (t := 5) c_49_25 rfl (q_iload c_49_5 rfl ?_))))))))
  refine q_iconst c_49_7 (v_ic_ge_f (t := 28) c_49_8 rfl (of_decide_eq_true rfl) (q_iload_n c_49_11 rfl (q_aload_n c_49_12 rfl (q_iload_n c_49_13 rfl (q_iload_n c_49_14 rfl (q_iload c_49_15 rfl ?_))))))
  have h_9 := fal_rng (m := v1) (t := tb v2 a1) (g := 2) (x := v5) (by first | (clear ha1 ha2 h_1 hv0 h_2 hv1 h_3 hv2 h_4 hv3 h_6 hv5 h_7 h_8; omega) | omega)
  refine v_cv c_49_17 km_4_69 rfl (ck_sh hs) (by omega) ⟨⟨rfl, rfl⟩, of_decide_eq_true rfl, rfl⟩ (Nat.le_of_ble_eq_true rfl) (Nat.le_of_ble_eq_true rfl) (s_48 (v1 := v1) (v2 := v2) (v3 := v5) (r := (fal v1 (tb v2 a1) 2 v5)) (a1 := a1) (a2 := a2) (a3 := 2) hI hs (show 0 ≤ a1 ∧ a1 ≤ 3 from ha1) (show 0 ≤ a2 ∧ a2 ≤ 5 from ha2) (show 0 ≤ 2 ∧ 2 ≤ 3 from ⟨of_decide_eq_true rfl, of_decide_eq_true rfl⟩) ((hv0)) ((hv1)) ((hv4)) rfl (bk_inl (v_iadd (v := (fal v1 (tb v2 a1) 0 v3) + (fal v1 (tb v2 a1) 1 v4) + (fal v1 (tb v2 a1) 2 v5)) c_49_20 rfl (q_istore_n c_49_21 (Nat.le_of_ble_eq_true rfl) (v_iinc (v := 3) c_49_22 rfl (Nat.le_of_ble_eq_true rfl) (of_decide_eq_true rfl) (q_goto (t := 5) c_49_25 rfl (q_iload c_49_5 rfl (q_iconst c_49_7 ?_))))))))
  refine v_ic_ge_f (t := 28) c_49_8 rfl (of_decide_eq_true rfl) (q_iload_n c_49_11 rfl (q_aload_n c_49_12 rfl (q_iload_n c_49_13 rfl (q_iload_n c_49_14 rfl (q_iload c_49_15 rfl ?_)))))
  have h_10 := fal_rng (m := v1) (t := tb v2 a1) (g := 3) (x := v6) (by first | (clear ha1 ha2 h_1 hv0 h_2 hv1 h_3 hv2 h_4 hv3 h_5 hv4 h_7 h_8 h_9; omega) | omega)
  refine v_cv c_49_17 km_4_69 rfl (ck_sh hs) (by omega) ⟨⟨rfl, rfl⟩, of_decide_eq_true rfl, rfl⟩ (Nat.le_of_ble_eq_true rfl) (Nat.le_of_ble_eq_true rfl) (s_48 (v1 := v1) (v2 := v2) (v3 := v6) (r := (fal v1 (tb v2 a1) 3 v6)) (a1 := a1) (a2 := a2) (a3 := 3) hI hs (show 0 ≤ a1 ∧ a1 ≤ 3 from ha1) (show 0 ≤ a2 ∧ a2 ≤ 5 from ha2) (show 0 ≤ 3 ∧ 3 ≤ 3 from ⟨of_decide_eq_true rfl, of_decide_eq_true rfl⟩) ((hv0)) ((hv1)) ((hv5)) rfl (bk_inl (v_iadd (v := (fal v1 (tb v2 a1) 0 v3) + (fal v1 (tb v2 a1) 1 v4) + (fal v1 (tb v2 a1) 2 v5) + (fal v1 (tb v2 a1) 3 v6)) c_49_20 rfl (q_istore_n c_49_21 (Nat.le_of_ble_eq_true rfl) (v_iinc (v := 4) c_49_22 rfl (Nat.le_of_ble_eq_true rfl) (of_decide_eq_true rfl) (Wp_ls [(4, vi 4), (3, vi ((fal v1 (tb v2 a1) 0 v3) + (fal v1 (tb v2 a1) 1 v4) + (fal v1 (tb v2 a1) 2 v5) + (fal v1 (tb v2 a1) 3 v6))), (0, .ref sh), (1, vi a1), (2, vi a2)] (lsub_cons rfl (lsub_cons rfl (lsub_cons rfl (lsub_cons rfl (lsub_cons rfl lsub_nil))))) (q_goto (t := 5) c_49_25 rfl (q_iload c_49_5 rfl ?_))))))))
  refine q_iconst c_49_7 (v_ic_ge_t (t := 28) c_49_8 rfl (of_decide_eq_true rfl) (q_iload_n c_49_28 rfl (q_iret c_49_29 rfl ?_)))
  exact zv (by omega) (K)

set_option maxRecDepth 100000 in
set_option maxHeartbeats 4000000 in
theorem s_51 {sc : List Int32} {e : Int} {d u P Q sh s : Nat} {c : ME} {a1 : Int} {Z : AR → Prop} (hI : Iv u e P Q c) (hs : (sh = 37 ∧ s = 38) ∨ (sh = 39 ∧ s = 40)) (ha1 : 0 ≤ a1 ∧ a1 ≤ 5) (K : ∀ (y : Int), (-2147483648) ≤ y ∧ y ≤ 2147483647 → Z (.inl (some (vi y)), Wd P Q P P c, 0, 0)) : Wp sc (d + 7) 51 0 [(0, .ref sh), (1, vi a1)] [] (Wd P Q P P c) 0 0 Z := by
  have hP := iv_P hI
  have hQ := iv_Q hI
  refine q_aload_n c_51_0 rfl (v_gr (t := s) c_51_1 kf_4_11 (ck_sh hs) (by omega) rfl (v_bip c_51_4 (of_decide_eq_true rfl) (q_iload_n c_51_6 rfl (v_iadd (v := a1 + 24) c_51_7 (by omega) ?_))))
  have h_1 := ir_s hI hs (a1 + 24)
  refine v_ia (v := c s (a1 + 24)) c_51_8 (ck_s hs) (by omega) (of_decide_eq_true rfl) ⟨(rgp_l ha1.1 (of_decide_eq_true rfl)), (q_99d6360e7 ha1)⟩ rfl (q_iret c_51_9 rfl ?_)
  exact K (c s (a1 + 24)) h_1

set_option maxRecDepth 100000 in
set_option maxHeartbeats 4000000 in
theorem s_52 {sc : List Int32} {d P Q sh s : Nat} {c : ME} {a1 : Int} {a2 : Int} {a3 : Int} {a4 : Int} {Z : AR → Prop} (hI : Iv s (-1) P Q c) (hs : (sh = 37 ∧ s = 38) ∨ (sh = 39 ∧ s = 40)) (ha1 : 0 ≤ a1 ∧ a1 ≤ 5) (ha2 : 0 ≤ a2 ∧ a2 ≤ 5) (ha3 : 0 ≤ a3 ∧ a3 ≤ 3) (ha4 : 0 ≤ a4 ∧ a4 ≤ 9999) (hq0 : (a1 < a2) ∨ (a1 > a2)) (hq1 : (a4 ≤ c s (4 * a1 + a3))) (hq2 : (a4 + c s (4 * a2 + a3) ≤ 9999)) (K : ∀ (c2 : ME), Iv s (-1) P Q c2 → (∀ (a : Nat) (j : Int), ¬ ((a = s ∧ j = 4 * a1 + a3) ∨ (a = s ∧ j = 4 * a2 + a3) ∨ (a = s ∧ j = a2 + 24)) → c2 a j = c a j) → ((c2 s (4 * a1 + a3) = c s (4 * a1 + a3) - a4 ∧ c2 s (4 * a2 + a3) = a4 + c s (4 * a2 + a3))) → Z (.inl (none), Wd P Q P P c2, 0, 0)) : Wp sc (d + 8) 52 0 [(0, .ref sh), (1, vi a1), (2, vi a2), (3, vi a3), (4, vi a4)] [] (Wd P Q P P c) 0 0 Z := by
  have hP := iv_P hI
  have hQ := iv_Q hI
  have h_1 := ir_s_g hI hs (j := 4 * a1 + a3) ((q_d5fe0d0d1 ha1 ha3))
  have h_2 := ir_s_g hI hs (j := 4 * a2 + a3) ((q_d5fe0d0d1 ha2 ha3))
  refine q_iload c_52_0 rfl ?_
  by_cases h_3 : a4 ≤ 0
  · refine v_if_le_t (t := 57) c_52_2 rfl ⟨(lel ha4.1 rfl), h_3, of_decide_eq_true rfl⟩ (q_vret rfl rfl ?_)
    exact K c hI (fun a j hm => rfl) ⟨(q_abb127123 h_3 ha4), (q_55ccdf6b6 h_3 ha4)⟩
  · refine v_if_le_f (t := 57) c_52_2 rfl ⟨of_decide_eq_true rfl, (Int.not_le.mp h_3), (ler ha4.2 rfl)⟩ (q_aload_n c_52_5 rfl (v_gr (t := s) c_52_6 kf_4_11 (ck_sh hs) (by omega) rfl (q_iload_n c_52_9 rfl (q_iconst c_52_10 (v_imul (v := 4 * a1) c_52_11 (by first | (clear ha1 ha2 ha3 ha4 hq1 hq2 h_1 h_2 h_3 hq0; omega) | omega) (q_iload_n c_52_12 rfl (v_iadd (v := 4 * a1 + a3) c_52_13 rfl ?_)))))))
    refine q_dup2 c_52_14 ⟨rfl, rfl⟩ (v_ia (v := c s (4 * a1 + a3)) c_52_15 (ck_s hs) (by omega) (of_decide_eq_true rfl) ⟨(q_404267838 ha1 ha3), (q_8b630baa7 ha1 ha3)⟩ rfl (q_iload c_52_16 rfl (v_isub (v := c s (4 * a1 + a3) - a4) c_52_18 rfl (v_is c_52_19 (ck_s hs) (by omega) (of_decide_eq_true rfl) ⟨(q_404267838 ha1 ha3), (q_8b630baa7 ha1 ha3)⟩ (q_aload_n c_52_20 rfl (v_gr (t := s) c_52_21 kf_4_11 (ck_sh hs) (by omega) rfl (q_iload_n c_52_24 rfl ?_)))))))
    refine q_iconst c_52_25 (v_imul (v := 4 * a2) c_52_26 (by first | (clear ha1 ha2 ha3 ha4 hq1 hq2 h_1 h_2 h_3 hq0; omega) | omega) (q_iload_n c_52_27 rfl (v_iadd (v := 4 * a2 + a3) c_52_28 rfl (q_dup2 c_52_29 ⟨rfl, rfl⟩ (v_ia (v := c s (4 * a2 + a3)) c_52_30 (ck_s hs) (by omega) (of_decide_eq_true rfl) ⟨(q_404267838 ha2 ha3), (q_8b630baa7 ha2 ha3)⟩ (up_n ((q_7f7b626e9 hq0))) (q_iload c_52_31 rfl (v_iadd (v := a4 + c s (4 * a2 + a3)) c_52_33 (by first | (clear ha1 ha2 ha3 ha4 hq1 hq2 h_1 h_2 h_3 hq0; omega) | omega) ?_)))))))
    refine v_is c_52_34 (ck_s hs) (by omega) (of_decide_eq_true rfl) ⟨(q_404267838 ha2 ha3), (q_8b630baa7 ha2 ha3)⟩ (q_aload_n c_52_35 rfl (v_gr (t := s) c_52_36 kf_4_11 (ck_sh hs) (by omega) rfl (v_bip c_52_39 (of_decide_eq_true rfl) (q_iload_n c_52_41 rfl (v_iadd (v := a2 + 24) c_52_42 (by first | (clear ha1 ha2 ha3 ha4 hq1 hq2 h_1 h_2 h_3 hq0; omega) | omega) (q_aload_n c_52_43 rfl (q_iload_n c_52_44 rfl ?_)))))))
    have hI_4 := iw_row (a := s) (j := 4 * a1 + a3) (v := c s (4 * a1 + a3) - a4) hI (by omega) (Or.inl rfl) ⟨by omega, by omega, by omega⟩
    have hI_5 := iw_row (a := s) (j := 4 * a2 + a3) (v := a4 + c s (4 * a2 + a3)) hI_4 (by omega) (Or.inl rfl) ⟨by omega, by omega, by omega⟩
    refine v_cv c_52_45 km_4_46 rfl (ck_sh hs) (by omega) ⟨⟨rfl, rfl⟩, of_decide_eq_true rfl, rfl⟩ (Nat.le_of_ble_eq_true rfl) (Nat.le_of_ble_eq_true rfl) (s_51 (a1 := a2) hI_5 hs (show 0 ≤ a2 ∧ a2 ≤ 5 from ha2) (fun y_6 hy_6 => (bk_inl (q_aload_n c_52_48 rfl (q_iload_n c_52_49 rfl (v_cv c_52_50 km_4_46 rfl (ck_sh hs) (by omega) ⟨⟨rfl, rfl⟩, of_decide_eq_true rfl, rfl⟩ (Nat.le_of_ble_eq_true rfl) (Nat.le_of_ble_eq_true rfl) (s_51 (a1 := a1) hI_5 hs (show 0 ≤ a1 ∧ a1 ≤ 5 from ha1) (fun y_7 hy_7 => (bk_inl (v_maxx c_52_53 rfl (by omega) (Nat.le_of_ble_eq_true rfl) ⟨by omega, by omega, by omega, by omega⟩ (fun y_8 hy_8 => (v_is c_52_56 (ck_s hs) (by omega) (of_decide_eq_true rfl) ⟨(rgp_l ha2.1 (of_decide_eq_true rfl)), (q_99d6360e7 ha2)⟩ ?_))))))))))))
    refine q_vret rfl rfl ?_
    have hI_9 := iw_row (a := s) (j := a2 + 24) (v := y_8) hI_5 (by omega) (Or.inr (by omega)) ⟨by omega, by omega, by omega⟩
    have h_10 : (up (up (up c s (4 * a1 + a3) (c s (4 * a1 + a3) - a4)) s (4 * a2 + a3) (a4 + c s (4 * a2 + a3))) s (a2 + 24) y_8) s (4 * a1 + a3) = c s (4 * a1 + a3) - a4 := ((up_n (ne_l ((q_1d6559917 ha1 ha2 ha3)))).trans ((up_n ((q_19b072023 hq0))).trans (up_e rfl)))
    have h_11 : (up (up (up c s (4 * a1 + a3) (c s (4 * a1 + a3) - a4)) s (4 * a2 + a3) (a4 + c s (4 * a2 + a3))) s (a2 + 24) y_8) s (4 * a2 + a3) = a4 + c s (4 * a2 + a3) := ((up_n (ne_l ((q_983b15064 ha2 ha3)))).trans (up_e rfl))
    exact K (up (up (up c s (4 * a1 + a3) (c s (4 * a1 + a3) - a4)) s (4 * a2 + a3) (a4 + c s (4 * a2 + a3))) s (a2 + 24) y_8) hI_9 (fun a j hm => (up_b (Decidable.or_iff_not_imp_left.mpr (fun h1 h2 => hm (Or.inr (Or.inr ⟨Decidable.not_not.mp h1, h2⟩))))).trans ((up_b (Decidable.or_iff_not_imp_left.mpr (fun h1 h2 => hm (Or.inr (Or.inl ⟨Decidable.not_not.mp h1, h2⟩))))).trans (up_b (Decidable.or_iff_not_imp_left.mpr (fun h1 h2 => hm (Or.inl ⟨Decidable.not_not.mp h1, h2⟩)))))) ⟨by first | assumption | omega, by first | assumption | omega⟩

