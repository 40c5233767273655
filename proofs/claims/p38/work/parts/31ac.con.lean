section
/-! ===== contracts 3 ===== -/
theorem q_6ba67a5a0 {x0 : Int}  : 5 * x0 ≤ 5 * x0 := by omega
theorem q_074a98bd9 {x0 : Int} (f0 : ¬ (x0 ≥ 38)) : x0 + 1 ≤ 38 := by omega
theorem q_d7ce8c793 {x0 : Int} : (x0) * 5 = 5 * x0 := by omega
theorem q_2c11af296 {x0 : Int} (f0 : 0 ≤ x0 ∧ x0 ≤ 38) : 0 ≤ 5 * x0 := by omega
theorem q_cab88ee8a {x0 : Int} (f0 : ¬ (x0 ≥ 38)) : 5 * x0 < 190 := by omega
theorem q_36afb4550 {x0 x1 : Int} (f0 : (x0 ≥ 0) ∨ (x1 ≠ 0)) (f1 : 0 ≤ x1 ∧ x1 ≤ 3) (f2 : ¬ (x1 ≠ 0)) : 0 ≤ x0 := by omega
theorem q_3f6909586 {x0 : Int} (f0 : x0 ≤ 0) : x0 ≤ 5 := by omega
theorem q_d0d2f254a {x0 : Int} (f0 : x0 ≤ 0) : x0 < 6 := by omega
theorem q_055ef26ca {x0 : Int} (f0 : ¬ (x0 ≠ 7)) : 0 ≤ x0 := by omega
theorem q_5f37091c9 {x0 : Int} (f0 : x0 < 6) : x0 ≤ 5 := by omega
theorem qv_c55a10b47 {a : Nat} {j : Int} {t0 : Int} (hm : ¬ ((a = 1 ∧ j = 2) ∨ (a = 1 ∧ j = 4) ∨ (a = 1 ∧ j = 5) ∨ (a = 7 ∧ j = 2) ∨ (a = 8 ∧ j ≥ t0))) : ¬ ((a = 1 ∧ j = 4) ∨ (a = 1 ∧ j = 5)) := (fun q => q.elim (fun h => hm (Or.inr (Or.inl h))) (fun h => hm (Or.inr (Or.inr (Or.inl h)))))
theorem qv_ecb9f43c4 {a : Nat} {j : Int} {t0 : Int} (hm : ¬ ((a = 1 ∧ j = 2) ∨ (a = 1 ∧ j = 4) ∨ (a = 1 ∧ j = 5) ∨ (a = 7 ∧ j = 1) ∨ (a = 7 ∧ j = 2) ∨ (a = 7 ∧ j = 3) ∨ (a = 7 ∧ j = 4) ∨ a = 8)) : ¬ ((a = 1 ∧ j = 2) ∨ (a = 1 ∧ j = 4) ∨ (a = 1 ∧ j = 5) ∨ (a = 7 ∧ j = 2) ∨ (a = 8 ∧ j ≥ t0)) := (fun q => q.elim (fun h => hm (Or.inl h)) (fun q => q.elim (fun h => hm (Or.inr (Or.inl h))) (fun q => q.elim (fun h => hm (Or.inr (Or.inr (Or.inl h)))) (fun q => q.elim (fun h => hm (Or.inr (Or.inr (Or.inr (Or.inr (Or.inl h)))))) (fun h => hm (Or.inr (Or.inr (Or.inr (Or.inr (Or.inr (Or.inr (Or.inr h.1))))))))))))
theorem q_9f1d5ffdc {x0 : Int} (f0 : 0 ≤ x0 ∧ x0 ≤ 5) : 4 * x0 < 24 := by omega
theorem q_0a2ee6f8f {x0 : Int} (f0 : 0 ≤ x0 ∧ x0 ≤ 5) : 4 * x0 + 1 < 24 := by omega
theorem q_e07a293a2 {x0 : Int} (f0 : 0 ≤ x0 ∧ x0 ≤ 5) : 4 * x0 + 2 < 24 := by omega
theorem q_d09cb0b73 {x0 : Int} (f0 : 0 ≤ x0 ∧ x0 ≤ 5) : 4 * x0 + 3 < 24 := by omega
theorem q_a509a7ce7 {x0 : Int} : x0 * 4 = 4 * x0 := by omega
theorem q_c065257af {x0 : Int} (f0 : 0 ≤ x0 ∧ x0 ≤ 5) : 0 ≤ 4 * x0 := by omega
theorem q_b7e642788 {x0 : Int} (f0 : 0 ≤ x0 ∧ x0 ≤ 5) : 4 * x0 < 34 := by omega
theorem q_83fdbd35d {x0 : Int} (f0 : 0 ≤ x0 ∧ x0 ≤ 5) : 0 ≤ 4 * x0 + 1 := by omega
theorem q_ee7209ea0 {x0 : Int} (f0 : 0 ≤ x0 ∧ x0 ≤ 5) : 4 * x0 + 1 < 34 := by omega
theorem q_0f37a0c6e {x0 : Int} (f0 : 0 ≤ x0 ∧ x0 ≤ 5) : 0 ≤ 4 * x0 + 2 := by omega
theorem q_d136047ff {x0 : Int} (f0 : 0 ≤ x0 ∧ x0 ≤ 5) : 4 * x0 + 2 < 34 := by omega
theorem q_f6be69137 {x0 : Int} (f0 : 0 ≤ x0 ∧ x0 ≤ 5) : 0 ≤ 4 * x0 + 3 := by omega
theorem q_c79de31f2 {x0 : Int} (f0 : 0 ≤ x0 ∧ x0 ≤ 5) : 4 * x0 + 3 < 34 := by omega
theorem q_e052ef40e {x0 x1 x2 x3 : Int} (f0 : 0 ≤ x0 ∧ x0 ≤ 9999) (f1 : 0 ≤ x1 ∧ x1 ≤ 9999) (f2 : 0 ≤ x2 ∧ x2 ≤ 9999) (f3 : 0 ≤ x3 ∧ x3 ≤ 9999) : (-2147483648) ≤ x1 + x2 + x3 + x0 := by omega
theorem q_6719c4bfd {x0 x1 x2 x3 : Int} (f0 : x0 + x1 + x2 + x3 ≤ 9999) : x1 + x2 + x3 + x0 ≤ 2147483647 := by omega
theorem q_893c89ded {x0 x1 : Int} : x0 + x1 = x1 + x0 := by omega
theorem q_75a207943 {x0 x1 x2 : Int} : x0 + (x1 - x2) = x1 + x0 - x2 := by omega
theorem q_dc9fd3f8b {x0 : Int} (f0 : 0 ≤ x0 ∧ x0 ≤ 5) : 4 * x0 < 32 := by omega
theorem q_d17500877 {x0 : Int} (f0 : 0 ≤ x0 ∧ x0 ≤ 5) : 4 * x0 + 3 < 32 := by omega
theorem q_13bfd6882 {x0 : Int} (f0 : 0 ≤ x0 ∧ x0 ≤ 5) : 4 * x0 + 2 < 32 := by omega
theorem q_ab78ec18a {x0 : Int} (f0 : 0 ≤ x0 ∧ x0 ≤ 5) : 4 * x0 + 1 < 32 := by omega
theorem q_336fb6678 {x0 x1 : Int} (f0 : ¬ (x0 = x1)) : ¬ 4 * x0 = 4 * x1 := by omega
theorem q_8ac71c5f3 {x0 x1 : Int}  : ¬ 4 * x0 = 4 * x1 + 3 := by omega
theorem q_c037f51da {x0 x1 : Int}  : ¬ 4 * x0 = 4 * x1 + 2 := by omega
theorem q_b2cb8bf87 {x0 x1 : Int}  : ¬ 4 * x0 = 4 * x1 + 1 := by omega
theorem q_e5bcc673e {x0 x1 : Int}  : ¬ 4 * x0 + 1 = 4 * x1 := by omega
theorem q_7c6b1b09a {x0 x1 : Int}  : ¬ 4 * x0 + 1 = 4 * x1 + 3 := by omega
theorem q_3650b790c {x0 x1 : Int}  : ¬ 4 * x0 + 1 = 4 * x1 + 2 := by omega
theorem q_52b51d728 {x0 x1 : Int} (f0 : ¬ (x0 = x1)) : ¬ 4 * x0 + 1 = 4 * x1 + 1 := by omega
theorem q_ae83e86ba {x0 x1 : Int}  : ¬ 4 * x0 + 2 = 4 * x1 := by omega
theorem q_91c5bd343 {x0 x1 : Int}  : ¬ 4 * x0 + 2 = 4 * x1 + 3 := by omega
theorem q_27892e29e {x0 x1 : Int} (f0 : ¬ (x0 = x1)) : ¬ 4 * x0 + 2 = 4 * x1 + 2 := by omega
theorem q_08c3d7060 {x0 x1 : Int}  : ¬ 4 * x0 + 2 = 4 * x1 + 1 := by omega
theorem q_b6789388a {x0 x1 : Int}  : ¬ 4 * x0 + 3 = 4 * x1 := by omega
theorem q_2db9f474b {x0 x1 : Int} (f0 : ¬ (x0 = x1)) : ¬ 4 * x0 + 3 = 4 * x1 + 3 := by omega
theorem q_28d70e8e5 {x0 x1 : Int}  : ¬ 4 * x0 + 3 = 4 * x1 + 2 := by omega
theorem q_6d5c6886e {x0 x1 : Int}  : ¬ 4 * x0 + 3 = 4 * x1 + 1 := by omega
theorem q_d5fe0d0d1 {x0 x1 : Int} (f0 : 0 ≤ x0 ∧ x0 ≤ 5) (f1 : 0 ≤ x1 ∧ x1 ≤ 3) : 4 * x0 + x1 < 24 := by omega
theorem q_404267838 {x0 x1 : Int} (f0 : 0 ≤ x0 ∧ x0 ≤ 5) (f1 : 0 ≤ x1 ∧ x1 ≤ 3) : 0 ≤ 4 * x0 + x1 := by omega
theorem q_8b630baa7 {x0 x1 : Int} (f0 : 0 ≤ x0 ∧ x0 ≤ 5) (f1 : 0 ≤ x1 ∧ x1 ≤ 3) : 4 * x0 + x1 < 34 := by omega
theorem q_b6d45db89 {x0 : Int} (f0 : 0 ≤ x0 ∧ x0 ≤ 3) : x0 < 4 := by omega
theorem q_429e24ab3 {x0 x1 : Int} (f0 : x0 > x1) (f1 : 0 ≤ x0 ∧ x0 ≤ 3) : x1 + 1 ≤ 2147483647 := by omega
theorem q_8baad3eb5 {x0 : Int} : 4 * x0 + 0 = 4 * x0 := by omega
theorem q_afa8f900d {x0 : Int} : 0 + x0 = x0 := by omega
theorem q_1b47056ce {x0 : Int} : 24 + x0 = x0 + 24 := by omega
theorem q_99d6360e7 {x0 : Int} (f0 : 0 ≤ x0 ∧ x0 ≤ 5) : x0 + 24 < 34 := by omega
theorem q_abb127123 {x0 x1 : Int} (f0 : x0 ≤ 0) (f1 : 0 ≤ x0 ∧ x0 ≤ 9999) : x1 = x1 - x0 := by omega
theorem q_55ccdf6b6 {x0 x1 : Int} (f0 : x0 ≤ 0) (f1 : 0 ≤ x0 ∧ x0 ≤ 9999) : x1 = x0 + x1 := by omega
theorem q_7f7b626e9 {x0 x1 x2 : Int} (f0 : (x0 < x1) ∨ (x0 > x1)) : ¬ 4 * x1 + x2 = 4 * x0 + x2 := by omega
theorem q_b3f86ca90 {x0 x1 : Int} (f0 : (x0 ≤ x1)) : 0 ≤ x1 - x0 := by omega
theorem q_b35df0494 {x0 x1 : Int} (f0 : 0 ≤ x0 ∧ x0 ≤ 9999) (f1 : ¬ (x1 ≤ 0)) : x0 - x1 ≤ 9999 := by omega
theorem q_5a2195de5 {x0 x1 : Int} (f0 : 0 ≤ x0 ∧ x0 ≤ 9999) (f1 : ¬ (x1 ≤ 0)) : 0 ≤ x1 + x0 := by omega
theorem q_af952cd18 {x0 x1 : Int} (f0 : (x0 + x1 ≤ 9999)) : x0 + x1 ≤ 9999 := by omega
theorem q_cef43cd58 {x0 : Int} (f0 : 0 ≤ x0 ∧ x0 ≤ 5) : 24 ≤ x0 + 24 := by omega
theorem q_1d6559917 {x0 x1 x2 : Int} (f0 : 0 ≤ x0 ∧ x0 ≤ 5) (f1 : 0 ≤ x1 ∧ x1 ≤ 5) (f2 : 0 ≤ x2 ∧ x2 ≤ 3) : 4 * x0 + x2 < x1 + 24 := by omega
theorem q_19b072023 {x0 x1 x2 : Int} (f0 : (x0 < x1) ∨ (x0 > x1)) : ¬ 4 * x0 + x2 = 4 * x1 + x2 := by omega
theorem q_983b15064 {x0 x1 : Int} (f0 : 0 ≤ x0 ∧ x0 ≤ 5) (f1 : 0 ≤ x1 ∧ x1 ≤ 3) : 4 * x0 + x1 < x0 + 24 := by omega
theorem c_41_3 : mLk 41 3 = some (.iload 4, 2) := rfl
theorem c_41_5 : mLk 41 5 = some (.bipush 38, 2) := rfl
theorem c_41_7 : mLk 41 7 = some (.if_icmp .ge 122, 3) := rfl
theorem c_41_10 : mLk 41 10 = some (.aload_n 1, 1) := rfl
theorem c_41_11 : mLk 41 11 = some (.invokevirtual 32, 3) := rfl
theorem c_41_14 : mLk 41 14 = some (.ifCond .eq 115, 3) := rfl
theorem c_41_17 : mLk 41 17 = some (.iload_n 3, 1) := rfl
theorem c_41_18 : mLk 41 18 = some (.ifCond .le 13, 3) := rfl
theorem c_41_31 : mLk 41 31 = some (.aload_n 1, 1) := rfl
theorem c_41_32 : mLk 41 32 = some (.invokevirtual 42, 3) := rfl
theorem c_41_35 : mLk 41 35 = some (.istore 5, 2) := rfl
theorem c_41_37 : mLk 41 37 = some (.aload_n 1, 1) := rfl
theorem c_41_38 : mLk 41 38 = some (.ldc 45, 2) := rfl
theorem c_41_40 : mLk 41 40 = some (.invokevirtual 47, 3) := rfl
theorem c_41_43 : mLk 41 43 = some (.istore 6, 2) := rfl
theorem c_41_45 : mLk 41 45 = some (.iload 6, 2) := rfl
theorem c_41_47 : mLk 41 47 = some (.bipush 7, 2) := rfl
theorem c_41_49 : mLk 41 49 = some (.if_icmp .ne 16, 3) := rfl
theorem c_41_65 : mLk 41 65 = some (.aload_n 1, 1) := rfl
theorem c_41_66 : mLk 41 66 = some (.invokevirtual 55, 3) := rfl
theorem c_41_69 : mLk 41 69 = some (.ifCond .eq 48, 3) := rfl
theorem c_41_117 : mLk 41 117 = some (.aload_n 1, 1) := rfl
theorem c_41_118 : mLk 41 118 = some (.ldc 62, 2) := rfl
theorem c_41_120 : mLk 41 120 = some (.invokevirtual 64, 3) := rfl
theorem c_41_123 : mLk 41 123 = some (.iinc 4 1, 3) := rfl
theorem c_41_126 : mLk 41 126 = some (.goto (-123), 3) := rfl
theorem c_41_72 : mLk 41 72 = some (.aload_n 0, 1) := rfl
theorem c_41_73 : mLk 41 73 = some (.getfield 19, 3) := rfl
theorem c_41_76 : mLk 41 76 = some (.bipush 38, 2) := rfl
theorem c_41_78 : mLk 41 78 = some (.if_icmp .ge 39, 3) := rfl
theorem c_41_81 : mLk 41 81 = some (.aload_n 0, 1) := rfl
theorem c_41_82 : mLk 41 82 = some (.getfield 19, 3) := rfl
theorem c_41_85 : mLk 41 85 = some (.iconst 5, 1) := rfl
theorem c_41_86 : mLk 41 86 = some (.imul, 1) := rfl
theorem c_41_87 : mLk 41 87 = some (.istore 7, 2) := rfl
theorem c_41_89 : mLk 41 89 = some (.aload_n 0, 1) := rfl
theorem c_41_90 : mLk 41 90 = some (.dup, 1) := rfl
theorem c_41_91 : mLk 41 91 = some (.getfield 19, 3) := rfl
theorem c_41_94 : mLk 41 94 = some (.iconst 1, 1) := rfl
theorem c_41_95 : mLk 41 95 = some (.iadd, 1) := rfl
theorem c_41_96 : mLk 41 96 = some (.putfield 19, 3) := rfl
theorem c_41_99 : mLk 41 99 = some (.aload_n 0, 1) := rfl
theorem c_41_100 : mLk 41 100 = some (.getfield 11, 3) := rfl
theorem c_41_103 : mLk 41 103 = some (.iload 7, 2) := rfl
theorem c_41_105 : mLk 41 105 = some (.iload 6, 2) := rfl
theorem c_41_107 : mLk 41 107 = some (.iastore, 1) := rfl
theorem c_41_108 : mLk 41 108 = some (.aload_n 0, 1) := rfl
theorem c_41_109 : mLk 41 109 = some (.aload_n 1, 1) := rfl
theorem c_41_110 : mLk 41 110 = some (.aload_n 2, 1) := rfl
theorem c_41_111 : mLk 41 111 = some (.iload 7, 2) := rfl
theorem c_41_113 : mLk 41 113 = some (.iload_n 3, 1) := rfl
theorem c_41_114 : mLk 41 114 = some (.invokevirtual 58, 3) := rfl
theorem c_41_52 : mLk 41 52 = some (.iload_n 3, 1) := rfl
theorem c_41_53 : mLk 41 53 = some (.bipush 6, 2) := rfl
theorem c_41_55 : mLk 41 55 = some (.if_icmp .lt 10, 3) := rfl
theorem c_41_21 : mLk 41 21 = some (.aload_n 1, 1) := rfl
theorem c_41_22 : mLk 41 22 = some (.invokevirtual 38, 3) := rfl
theorem c_41_25 : mLk 41 25 = some (.bipush 93, 2) := rfl
theorem c_41_27 : mLk 41 27 = some (.if_icmp .ne 4, 3) := rfl
theorem c_41_58 : mLk 41 58 = some (.aload_n 1, 1) := rfl
theorem c_41_59 : mLk 41 59 = some (.iconst 3, 1) := rfl
theorem c_41_60 : mLk 41 60 = some (.iload 5, 2) := rfl
theorem c_41_62 : mLk 41 62 = some (.invokevirtual 51, 3) := rfl
theorem c_41_0 : mLk 41 0 = some (.iconst 0, 1) := rfl
theorem c_41_1 : mLk 41 1 = some (.istore 4, 2) := rfl
theorem c_42_0 : mLk 42 0 = some (.aload_n 0, 1) := rfl
theorem c_42_1 : mLk 42 1 = some (.iconst 0, 1) := rfl
theorem c_42_2 : mLk 42 2 = some (.putfield 15, 3) := rfl
theorem c_42_5 : mLk 42 5 = some (.aload_n 0, 1) := rfl
theorem c_42_6 : mLk 42 6 = some (.iconst 0, 1) := rfl
theorem c_42_7 : mLk 42 7 = some (.putfield 19, 3) := rfl
theorem c_42_10 : mLk 42 10 = some (.aload_n 0, 1) := rfl
theorem c_42_11 : mLk 42 11 = some (.iconst 0, 1) := rfl
theorem c_42_12 : mLk 42 12 = some (.putfield 22, 3) := rfl
theorem c_42_15 : mLk 42 15 = some (.aload_n 0, 1) := rfl
theorem c_42_16 : mLk 42 16 = some (.iconst 0, 1) := rfl
theorem c_42_17 : mLk 42 17 = some (.putfield 25, 3) := rfl
theorem c_42_20 : mLk 42 20 = some (.aload_n 0, 1) := rfl
theorem c_42_21 : mLk 42 21 = some (.aload_n 1, 1) := rfl
theorem c_42_22 : mLk 42 22 = some (.aload_n 2, 1) := rfl
theorem c_42_23 : mLk 42 23 = some (.iconst 0, 1) := rfl
theorem c_42_24 : mLk 42 24 = some (.invokevirtual 28, 3) := rfl
theorem c_43_0 : mLk 43 0 = some (.iload_n 1, 1) := rfl
theorem c_43_1 : mLk 43 1 = some (.iconst 4, 1) := rfl
theorem c_43_2 : mLk 43 2 = some (.imul, 1) := rfl
theorem c_43_3 : mLk 43 3 = some (.istore_n 2, 1) := rfl
theorem c_43_4 : mLk 43 4 = some (.aload_n 0, 1) := rfl
theorem c_43_5 : mLk 43 5 = some (.getfield 11, 3) := rfl
theorem c_43_8 : mLk 43 8 = some (.iload_n 2, 1) := rfl
theorem c_43_9 : mLk 43 9 = some (.iaload, 1) := rfl
theorem c_43_10 : mLk 43 10 = some (.aload_n 0, 1) := rfl
theorem c_43_11 : mLk 43 11 = some (.getfield 11, 3) := rfl
theorem c_43_14 : mLk 43 14 = some (.iload_n 2, 1) := rfl
theorem c_43_15 : mLk 43 15 = some (.iconst 1, 1) := rfl
theorem c_43_16 : mLk 43 16 = some (.iadd, 1) := rfl
theorem c_43_17 : mLk 43 17 = some (.iaload, 1) := rfl
theorem c_43_18 : mLk 43 18 = some (.iadd, 1) := rfl
theorem c_43_19 : mLk 43 19 = some (.aload_n 0, 1) := rfl
theorem c_43_20 : mLk 43 20 = some (.getfield 11, 3) := rfl
theorem c_43_23 : mLk 43 23 = some (.iload_n 2, 1) := rfl
theorem c_43_24 : mLk 43 24 = some (.iconst 2, 1) := rfl
theorem c_43_25 : mLk 43 25 = some (.iadd, 1) := rfl
theorem c_43_26 : mLk 43 26 = some (.iaload, 1) := rfl
theorem c_43_27 : mLk 43 27 = some (.iadd, 1) := rfl
theorem c_43_28 : mLk 43 28 = some (.aload_n 0, 1) := rfl
theorem c_43_29 : mLk 43 29 = some (.getfield 11, 3) := rfl
theorem c_43_32 : mLk 43 32 = some (.iload_n 2, 1) := rfl
theorem c_43_33 : mLk 43 33 = some (.iconst 3, 1) := rfl
theorem c_43_34 : mLk 43 34 = some (.iadd, 1) := rfl
theorem c_43_35 : mLk 43 35 = some (.iaload, 1) := rfl
theorem c_43_36 : mLk 43 36 = some (.iadd, 1) := rfl
theorem c_43_37 : mLk 43 37 = some (.ireturn, 1) := rfl
theorem c_44_0 : mLk 44 0 = some (.aload_n 0, 1) := rfl
theorem c_44_1 : mLk 44 1 = some (.iload_n 2, 1) := rfl
theorem c_44_2 : mLk 44 2 = some (.invokevirtual 38, 3) := rfl
theorem c_44_5 : mLk 44 5 = some (.ifCond .ne 5, 3) := rfl
theorem c_44_10 : mLk 44 10 = some (.iload_n 2, 1) := rfl
theorem c_44_11 : mLk 44 11 = some (.iconst 4, 1) := rfl
theorem c_44_12 : mLk 44 12 = some (.imul, 1) := rfl
theorem c_44_13 : mLk 44 13 = some (.istore_n 3, 1) := rfl
theorem c_44_14 : mLk 44 14 = some (.aload_n 0, 1) := rfl
theorem c_44_15 : mLk 44 15 = some (.getfield 11, 3) := rfl
theorem c_44_18 : mLk 44 18 = some (.iload_n 3, 1) := rfl
theorem c_44_19 : mLk 44 19 = some (.iconst 1, 1) := rfl
theorem c_44_20 : mLk 44 20 = some (.iadd, 1) := rfl
theorem c_44_21 : mLk 44 21 = some (.iaload, 1) := rfl
theorem c_44_22 : mLk 44 22 = some (.aload_n 0, 1) := rfl
theorem c_44_23 : mLk 44 23 = some (.getfield 15, 3) := rfl
theorem c_44_26 : mLk 44 26 = some (.iload_n 1, 1) := rfl
theorem c_44_27 : mLk 44 27 = some (.iconst 0, 1) := rfl
theorem c_44_28 : mLk 44 28 = some (.invokevirtual 72, 3) := rfl
theorem c_44_32 : mLk 44 32 = some (.bipush 10, 2) := rfl
theorem c_44_35 : mLk 44 35 = some (.istore 4, 2) := rfl
theorem c_44_37 : mLk 44 37 = some (.aload_n 0, 1) := rfl
theorem c_44_38 : mLk 44 38 = some (.getfield 11, 3) := rfl
theorem c_44_41 : mLk 44 41 = some (.iload_n 3, 1) := rfl
theorem c_44_42 : mLk 44 42 = some (.iconst 2, 1) := rfl
theorem c_44_43 : mLk 44 43 = some (.iadd, 1) := rfl
theorem c_44_44 : mLk 44 44 = some (.iaload, 1) := rfl
theorem c_44_45 : mLk 44 45 = some (.aload_n 0, 1) := rfl
theorem c_44_46 : mLk 44 46 = some (.getfield 15, 3) := rfl
theorem c_44_49 : mLk 44 49 = some (.iload_n 1, 1) := rfl
theorem c_44_50 : mLk 44 50 = some (.iconst 1, 1) := rfl
theorem c_44_51 : mLk 44 51 = some (.invokevirtual 72, 3) := rfl
theorem c_44_55 : mLk 44 55 = some (.bipush 10, 2) := rfl
theorem c_44_58 : mLk 44 58 = some (.istore 5, 2) := rfl
theorem c_44_60 : mLk 44 60 = some (.aload_n 0, 1) := rfl
theorem c_44_61 : mLk 44 61 = some (.getfield 11, 3) := rfl
theorem c_44_64 : mLk 44 64 = some (.iload_n 3, 1) := rfl
theorem c_44_65 : mLk 44 65 = some (.iconst 3, 1) := rfl
theorem c_44_66 : mLk 44 66 = some (.iadd, 1) := rfl
theorem c_44_67 : mLk 44 67 = some (.iaload, 1) := rfl
theorem c_44_68 : mLk 44 68 = some (.aload_n 0, 1) := rfl
theorem c_44_69 : mLk 44 69 = some (.getfield 15, 3) := rfl
theorem c_44_72 : mLk 44 72 = some (.iload_n 1, 1) := rfl
theorem c_44_73 : mLk 44 73 = some (.iconst 2, 1) := rfl
theorem c_44_74 : mLk 44 74 = some (.invokevirtual 72, 3) := rfl
theorem c_44_78 : mLk 44 78 = some (.bipush 10, 2) := rfl
theorem c_44_81 : mLk 44 81 = some (.istore 6, 2) := rfl
theorem c_44_83 : mLk 44 83 = some (.aload_n 0, 1) := rfl
theorem c_44_84 : mLk 44 84 = some (.getfield 11, 3) := rfl
theorem c_44_87 : mLk 44 87 = some (.iload_n 3, 1) := rfl
theorem c_44_88 : mLk 44 88 = some (.dup2, 1) := rfl
theorem c_44_89 : mLk 44 89 = some (.iaload, 1) := rfl
theorem c_44_90 : mLk 44 90 = some (.iload 4, 2) := rfl
theorem c_44_93 : mLk 44 93 = some (.iastore, 1) := rfl
theorem c_44_94 : mLk 44 94 = some (.aload_n 0, 1) := rfl
theorem c_44_95 : mLk 44 95 = some (.getfield 11, 3) := rfl
theorem c_44_98 : mLk 44 98 = some (.iload_n 3, 1) := rfl
theorem c_44_99 : mLk 44 99 = some (.iconst 1, 1) := rfl
theorem c_44_100 : mLk 44 100 = some (.iadd, 1) := rfl
theorem c_44_101 : mLk 44 101 = some (.dup2, 1) := rfl
theorem c_44_102 : mLk 44 102 = some (.iaload, 1) := rfl
theorem c_44_103 : mLk 44 103 = some (.iload 5, 2) := rfl
theorem c_44_105 : mLk 44 105 = some (.iload 4, 2) := rfl
theorem c_44_109 : mLk 44 109 = some (.iastore, 1) := rfl
theorem c_44_110 : mLk 44 110 = some (.aload_n 0, 1) := rfl
theorem c_44_111 : mLk 44 111 = some (.getfield 11, 3) := rfl
theorem c_44_114 : mLk 44 114 = some (.iload_n 3, 1) := rfl
theorem c_44_115 : mLk 44 115 = some (.iconst 2, 1) := rfl
theorem c_44_116 : mLk 44 116 = some (.iadd, 1) := rfl
theorem c_44_117 : mLk 44 117 = some (.dup2, 1) := rfl
theorem c_44_118 : mLk 44 118 = some (.iaload, 1) := rfl
theorem c_44_119 : mLk 44 119 = some (.iload 6, 2) := rfl
theorem c_44_121 : mLk 44 121 = some (.iload 5, 2) := rfl
theorem c_44_125 : mLk 44 125 = some (.iastore, 1) := rfl
theorem c_44_126 : mLk 44 126 = some (.aload_n 0, 1) := rfl
theorem c_44_127 : mLk 44 127 = some (.getfield 11, 3) := rfl
theorem c_44_130 : mLk 44 130 = some (.iload_n 3, 1) := rfl
theorem c_44_131 : mLk 44 131 = some (.iconst 3, 1) := rfl
theorem c_44_132 : mLk 44 132 = some (.iadd, 1) := rfl
theorem c_44_133 : mLk 44 133 = some (.dup2, 1) := rfl
theorem c_44_134 : mLk 44 134 = some (.iaload, 1) := rfl
theorem c_44_135 : mLk 44 135 = some (.iload 6, 2) := rfl
theorem c_44_138 : mLk 44 138 = some (.iastore, 1) := rfl
theorem c_44_139 : mLk 44 139 = some (.aload_n 0, 1) := rfl
theorem c_44_140 : mLk 44 140 = some (.getfield 11, 3) := rfl
theorem c_44_143 : mLk 44 143 = some (.iload_n 3, 1) := rfl
theorem c_44_145 : mLk 44 145 = some (.aload_n 0, 1) := rfl
theorem c_44_146 : mLk 44 146 = some (.getfield 15, 3) := rfl
theorem c_44_149 : mLk 44 149 = some (.getfield 75, 3) := rfl
theorem c_44_153 : mLk 44 153 = some (.bipush 100, 2) := rfl
theorem c_44_156 : mLk 44 156 = some (.istore 7, 2) := rfl
theorem c_44_158 : mLk 44 158 = some (.aload_n 0, 1) := rfl
theorem c_44_159 : mLk 44 159 = some (.getfield 11, 3) := rfl
theorem c_44_162 : mLk 44 162 = some (.iload_n 3, 1) := rfl
theorem c_44_163 : mLk 44 163 = some (.dup2, 1) := rfl
theorem c_44_165 : mLk 44 165 = some (.iload 7, 2) := rfl
theorem c_44_168 : mLk 44 168 = some (.iastore, 1) := rfl
theorem c_44_169 : mLk 44 169 = some (.aload_n 0, 1) := rfl
theorem c_44_170 : mLk 44 170 = some (.getfield 11, 3) := rfl
theorem c_44_173 : mLk 44 173 = some (.bipush 32, 2) := rfl
theorem c_44_175 : mLk 44 175 = some (.dup2, 1) := rfl
theorem c_44_176 : mLk 44 176 = some (.iaload, 1) := rfl
theorem c_44_177 : mLk 44 177 = some (.iload 7, 2) := rfl
theorem c_44_180 : mLk 44 180 = some (.iastore, 1) := rfl
theorem c_44_181 : mLk 44 181 = some (.iconst 1, 1) := rfl
theorem c_44_182 : mLk 44 182 = some (.ireturn, 1) := rfl
theorem c_44_8 : mLk 44 8 = some (.iconst 0, 1) := rfl
theorem c_44_9 : mLk 44 9 = some (.ireturn, 1) := rfl
theorem c_45_0 : mLk 45 0 = some (.aload_n 0, 1) := rfl
theorem c_45_1 : mLk 45 1 = some (.getfield 11, 3) := rfl
theorem c_45_4 : mLk 45 4 = some (.iload_n 1, 1) := rfl
theorem c_45_5 : mLk 45 5 = some (.iconst 4, 1) := rfl
theorem c_45_6 : mLk 45 6 = some (.imul, 1) := rfl
theorem c_45_7 : mLk 45 7 = some (.iload_n 2, 1) := rfl
theorem c_45_8 : mLk 45 8 = some (.iadd, 1) := rfl
theorem c_45_9 : mLk 45 9 = some (.iaload, 1) := rfl
theorem c_45_10 : mLk 45 10 = some (.ireturn, 1) := rfl
theorem c_47_0 : mLk 47 0 = some (.aload_n 0, 1) := rfl
theorem c_47_1 : mLk 47 1 = some (.getfield 15, 3) := rfl
theorem c_47_4 : mLk 47 4 = some (.getfield 58, 3) := rfl
theorem c_47_7 : mLk 47 7 = some (.iload_n 1, 1) := rfl
theorem c_47_8 : mLk 47 8 = some (.iaload, 1) := rfl
theorem c_47_9 : mLk 47 9 = some (.istore 4, 2) := rfl
theorem c_47_11 : mLk 47 11 = some (.iload_n 2, 1) := rfl
theorem c_47_12 : mLk 47 12 = some (.iload 4, 2) := rfl
theorem c_47_14 : mLk 47 14 = some (.if_icmp .gt 5, 3) := rfl
theorem c_47_19 : mLk 47 19 = some (.iload_n 2, 1) := rfl
theorem c_47_20 : mLk 47 20 = some (.iload 4, 2) := rfl
theorem c_47_22 : mLk 47 22 = some (.iconst 1, 1) := rfl
theorem c_47_23 : mLk 47 23 = some (.iadd, 1) := rfl
theorem c_47_24 : mLk 47 24 = some (.if_icmp .ne 17, 3) := rfl
theorem c_47_41 : mLk 47 41 = some (.iconst 0, 1) := rfl
theorem c_47_42 : mLk 47 42 = some (.ireturn, 1) := rfl
theorem c_47_27 : mLk 47 27 = some (.aload_n 0, 1) := rfl
theorem c_47_28 : mLk 47 28 = some (.iload_n 1, 1) := rfl
theorem c_47_29 : mLk 47 29 = some (.invokevirtual 61, 3) := rfl
theorem c_47_32 : mLk 47 32 = some (.ifCond .eq 9, 3) := rfl
theorem c_47_35 : mLk 47 35 = some (.iload_n 3, 1) := rfl
theorem c_47_36 : mLk 47 36 = some (.iconst 2, 1) := rfl
theorem c_47_37 : mLk 47 37 = some (.idiv, 1) := rfl
theorem c_47_38 : mLk 47 38 = some (.goto 4, 3) := rfl
theorem c_47_17 : mLk 47 17 = some (.iload_n 3, 1) := rfl
theorem c_47_18 : mLk 47 18 = some (.ireturn, 1) := rfl
theorem c_48_0 : mLk 48 0 = some (.aload_n 0, 1) := rfl
theorem c_48_1 : mLk 48 1 = some (.iload_n 1, 1) := rfl
theorem c_48_2 : mLk 48 2 = some (.iload_n 3, 1) := rfl
theorem c_48_3 : mLk 48 3 = some (.aload_n 0, 1) := rfl
theorem c_48_4 : mLk 48 4 = some (.iload_n 2, 1) := rfl
theorem c_48_5 : mLk 48 5 = some (.iload_n 3, 1) := rfl
theorem c_48_6 : mLk 48 6 = some (.invokevirtual 34, 3) := rfl
theorem c_48_9 : mLk 48 9 = some (.invokevirtual 65, 3) := rfl
theorem c_48_12 : mLk 48 12 = some (.ireturn, 1) := rfl
theorem c_49_0 : mLk 49 0 = some (.iconst 0, 1) := rfl
theorem c_49_1 : mLk 49 1 = some (.istore_n 3, 1) := rfl
theorem c_49_2 : mLk 49 2 = some (.iconst 0, 1) := rfl
theorem c_49_3 : mLk 49 3 = some (.istore 4, 2) := rfl
theorem c_49_5 : mLk 49 5 = some (.iload 4, 2) := rfl
theorem c_49_7 : mLk 49 7 = some (.iconst 4, 1) := rfl
theorem c_49_8 : mLk 49 8 = some (.if_icmp .ge 20, 3) := rfl
theorem c_49_11 : mLk 49 11 = some (.iload_n 3, 1) := rfl
theorem c_49_12 : mLk 49 12 = some (.aload_n 0, 1) := rfl
theorem c_49_13 : mLk 49 13 = some (.iload_n 1, 1) := rfl
theorem c_49_14 : mLk 49 14 = some (.iload_n 2, 1) := rfl
theorem c_49_15 : mLk 49 15 = some (.iload 4, 2) := rfl
theorem c_49_17 : mLk 49 17 = some (.invokevirtual 69, 3) := rfl
theorem c_49_20 : mLk 49 20 = some (.iadd, 1) := rfl
theorem c_49_21 : mLk 49 21 = some (.istore_n 3, 1) := rfl
theorem c_49_22 : mLk 49 22 = some (.iinc 4 1, 3) := rfl
theorem c_49_25 : mLk 49 25 = some (.goto (-20), 3) := rfl
theorem c_49_28 : mLk 49 28 = some (.iload_n 3, 1) := rfl
theorem c_49_29 : mLk 49 29 = some (.ireturn, 1) := rfl
theorem c_51_0 : mLk 51 0 = some (.aload_n 0, 1) := rfl
theorem c_51_1 : mLk 51 1 = some (.getfield 11, 3) := rfl
theorem c_51_4 : mLk 51 4 = some (.bipush 24, 2) := rfl
theorem c_51_6 : mLk 51 6 = some (.iload_n 1, 1) := rfl
theorem c_51_7 : mLk 51 7 = some (.iadd, 1) := rfl
theorem c_51_8 : mLk 51 8 = some (.iaload, 1) := rfl
theorem c_51_9 : mLk 51 9 = some (.ireturn, 1) := rfl
theorem c_52_0 : mLk 52 0 = some (.iload 4, 2) := rfl
theorem c_52_2 : mLk 52 2 = some (.ifCond .le 55, 3) := rfl
theorem c_52_5 : mLk 52 5 = some (.aload_n 0, 1) := rfl
theorem c_52_6 : mLk 52 6 = some (.getfield 11, 3) := rfl
theorem c_52_9 : mLk 52 9 = some (.iload_n 1, 1) := rfl
theorem c_52_10 : mLk 52 10 = some (.iconst 4, 1) := rfl
theorem c_52_11 : mLk 52 11 = some (.imul, 1) := rfl
theorem c_52_12 : mLk 52 12 = some (.iload_n 3, 1) := rfl
theorem c_52_13 : mLk 52 13 = some (.iadd, 1) := rfl
theorem c_52_14 : mLk 52 14 = some (.dup2, 1) := rfl
theorem c_52_15 : mLk 52 15 = some (.iaload, 1) := rfl
theorem c_52_16 : mLk 52 16 = some (.iload 4, 2) := rfl
theorem c_52_18 : mLk 52 18 = some (.isub, 1) := rfl
theorem c_52_19 : mLk 52 19 = some (.iastore, 1) := rfl
theorem c_52_20 : mLk 52 20 = some (.aload_n 0, 1) := rfl
theorem c_52_21 : mLk 52 21 = some (.getfield 11, 3) := rfl
theorem c_52_24 : mLk 52 24 = some (.iload_n 2, 1) := rfl
theorem c_52_25 : mLk 52 25 = some (.iconst 4, 1) := rfl
theorem c_52_26 : mLk 52 26 = some (.imul, 1) := rfl
theorem c_52_27 : mLk 52 27 = some (.iload_n 3, 1) := rfl
theorem c_52_28 : mLk 52 28 = some (.iadd, 1) := rfl
theorem c_52_29 : mLk 52 29 = some (.dup2, 1) := rfl
theorem c_52_30 : mLk 52 30 = some (.iaload, 1) := rfl
theorem c_52_31 : mLk 52 31 = some (.iload 4, 2) := rfl
theorem c_52_33 : mLk 52 33 = some (.iadd, 1) := rfl
theorem c_52_34 : mLk 52 34 = some (.iastore, 1) := rfl
theorem c_52_35 : mLk 52 35 = some (.aload_n 0, 1) := rfl
theorem c_52_36 : mLk 52 36 = some (.getfield 11, 3) := rfl
theorem c_52_39 : mLk 52 39 = some (.bipush 24, 2) := rfl
theorem c_52_41 : mLk 52 41 = some (.iload_n 2, 1) := rfl
theorem c_52_42 : mLk 52 42 = some (.iadd, 1) := rfl
theorem c_52_43 : mLk 52 43 = some (.aload_n 0, 1) := rfl
theorem c_52_44 : mLk 52 44 = some (.iload_n 2, 1) := rfl
theorem c_52_45 : mLk 52 45 = some (.invokevirtual 46, 3) := rfl
theorem c_52_48 : mLk 52 48 = some (.aload_n 0, 1) := rfl
theorem c_52_49 : mLk 52 49 = some (.iload_n 1, 1) := rfl
theorem c_52_50 : mLk 52 50 = some (.invokevirtual 46, 3) := rfl
theorem c_52_53 : mLk 52 53 = some (.invokestatic 104, 3) := rfl
theorem c_52_56 : mLk 52 56 = some (.iastore, 1) := rfl
theorem kf_3_15 : a_lk (kF 3) 15 = some (3, 1) := rfl
theorem kf_3_22 : a_lk (kF 3) 22 = some (3, 3) := rfl
theorem kf_3_25 : a_lk (kF 3) 25 = some (3, 4) := rfl
theorem kf_4_11 : a_lk (kF 4) 11 = some (4, 0) := rfl
theorem kf_4_15 : a_lk (kF 4) 15 = some (4, 1) := rfl
theorem kf_4_58 : a_lk (kF 4) 58 = some (2, 8) := rfl
theorem kf_4_75 : a_lk (kF 4) 75 = some (2, 3) := rfl
theorem km_3_32 : a_lk (kM 3) 32 = some (0, 15) := rfl
theorem km_3_38 : a_lk (kM 3) 38 = some (0, 39) := rfl
theorem km_3_47 : a_lk (kM 3) 47 = some (0, 10) := rfl
theorem km_3_55 : a_lk (kM 3) 55 = some (0, 2) := rfl
theorem km_3_58 : a_lk (kM 3) 58 = some (0, 40) := rfl
theorem km_4_34 : a_lk (kM 4) 34 = some (0, 45) := rfl
theorem km_4_38 : a_lk (kM 4) 38 = some (0, 43) := rfl
theorem km_4_46 : a_lk (kM 4) 46 = some (0, 51) := rfl
theorem km_4_61 : a_lk (kM 4) 61 = some (0, 46) := rfl
theorem km_4_65 : a_lk (kM 4) 65 = some (0, 47) := rfl
theorem km_4_69 : a_lk (kM 4) 69 = some (0, 48) := rfl
theorem km_4_72 : a_lk (kM 4) 72 = some (0, 29) := rfl
set_option maxRecDepth 100000 in
set_option maxHeartbeats 4000000 in
theorem s_41_l {sc : List Int32} {d u P Q : Nat} {c : ME} {a4 : Int} {Z : AR → Prop} (hI : Iv u (-1) P Q c) (ha4 : 0 ≤ a4 ∧ a4 ≤ 6) (H41 : ∀ (c : ME) (Z : AR → Prop), a4 + 1 ≤ 6 → Iv u (-1) P Q c → (∀ c2 : ME, Iv u (-1) P Q c2 → (∀ (a : Nat) (j : Int), ¬ ((a = 1 ∧ j = 2) ∨ (a = 1 ∧ j = 4) ∨ (a = 1 ∧ j = 5) ∨ (a = 7 ∧ j = 2) ∨ (a = 8 ∧ j ≥ 5 * c 7 2)) → c2 a j = c a j) → (c2 7 2 ≥ c 7 2) → Z (.inl none, Wd P Q P P c2, 0, 0)) → Wp sc (d + 10) 41 0 [(0, .ref 7), (1, .ref 1), (2, .ref P), (3, vi (a4 + 1))] [] (Wd P Q P P c) 0 0 Z) (K : ∀ (c2 : ME), Iv u (-1) P Q c2 → (∀ (a : Nat) (j : Int), ¬ ((a = 1 ∧ j = 2) ∨ (a = 1 ∧ j = 4) ∨ (a = 1 ∧ j = 5) ∨ (a = 7 ∧ j = 2) ∨ (a = 8 ∧ j ≥ 5 * c 7 2)) → c2 a j = c a j) → ((c2 7 2 ≥ c 7 2)) → Z (.inl (none), Wd P Q P P c2, 0, 0)) : ∀ n : Nat, (∀ (c2 : ME) (v4 : Int), Iv u (-1) P Q c2 → (∀ (a : Nat) (j : Int), ¬ ((a = 1 ∧ j = 2) ∨ (a = 1 ∧ j = 4) ∨ (a = 1 ∧ j = 5) ∨ (a = 7 ∧ j = 2) ∨ (a = 8 ∧ j ≥ 5 * c 7 2)) → c2 a j = c a j) → 0 ≤ v4 ∧ v4 ≤ 38 → ((c2 7 2 ≥ c 7 2)) → 77 - 2 * v4 < (n : Int) → Wp sc (d + 12) 41 3 [(0, .ref 7), (1, .ref 1), (2, .ref P), (3, vi a4), (4, vi v4)] [] (Wd P Q P P c2) 0 0 Z) := by
  intro n
  induction n with
  | zero => exact (by intro c2 v4 hI2 hF hv4 hx0 hm9; have hP := iv_P hI; have hQ := iv_Q hI; exfalso; omega)
  | succ n ih =>
    have hP := iv_P hI
    have hQ := iv_Q hI
    intro c2 v4 hI2 hF hv4 hx0 hm9
    have h_1 := ir_7_2 hI
    have h_2 := ir_7_2 hI2
    refine q_iload c_41_3 rfl (v_bip c_41_5 (by decide) ?_)
    by_cases h_3 : v4 ≥ 38
    · refine v_ic_ge_t (t := 129) c_41_7 rfl ⟨by decide, h_3, (Int.le_trans hv4.2 (by decide))⟩ (q_vret rfl rfl ?_)
      exact K c2 hI2 (fun a j hm => hF a j (fun q => q.elim (fun h => hm (Or.inl h)) (fun q => q.elim (fun h => hm (Or.inr (Or.inl h))) (fun q => q.elim (fun h => hm (Or.inr (Or.inr (Or.inl h)))) (fun q => q.elim (fun h => hm (Or.inr (Or.inr (Or.inr (Or.inl h))))) (fun h => hm (Or.inr (Or.inr (Or.inr (Or.inr ⟨h.1, (Int.le_trans (by clear hm; first | exact q_6ba67a5a0 | omega) h.2)⟩)))))))))) (by omega)
    · refine v_ic_ge_f (t := 129) c_41_7 rfl ⟨(Int.le_trans (by decide) hv4.1), (Int.not_le.mp h_3), by decide⟩ (q_aload_n c_41_10 rfl (v_cv c_41_11 km_3_32 rfl rfl (nb_ rfl) ⟨⟨rfl, rfl⟩, nb_ rfl, rfl⟩ (nb_ rfl) (nb_ rfl) (s_15 hI2 (fun c_4 y_7 hI_5 hF_6 hy_7 => (bk_inl ?_)))))
      by_cases h_8 : y_7 = 0
      · refine v_if_eq_t (t := 129) c_41_14 rfl h_8 (q_vret rfl rfl ?_)
        have kn_9 : Hid (c_4 7 2 = c2 7 2) := hF_6 7 2 (fun h => absurd h.1 (nn rfl))
        have h_10 : c_4 7 2 = c2 7 2 := (hid kn_9)
        exact K c_4 hI_5 (fun a j hm => (hF_6 a j (fun h => hm (Or.inl h))).trans (hF a j (fun q => q.elim (fun h => hm (Or.inl h)) (fun q => q.elim (fun h => hm (Or.inr (Or.inl h))) (fun q => q.elim (fun h => hm (Or.inr (Or.inr (Or.inl h)))) (fun q => q.elim (fun h => hm (Or.inr (Or.inr (Or.inr (Or.inl h))))) (fun h => hm (Or.inr (Or.inr (Or.inr (Or.inr ⟨h.1, (Int.le_trans (by clear hm; first | exact q_6ba67a5a0 | omega) h.2)⟩))))))))))) (by omega)
      · refine v_if_eq_f (t := 129) c_41_14 rfl ⟨h_8, ⟨(Int.le_trans (by decide) hy_7.1), (Int.le_trans hy_7.2 (by decide))⟩, by decide, by decide⟩ (q_iload_n c_41_17 rfl ?_)
        by_cases h_11 : a4 ≤ 0
        · refine v_if_le_t (t := 31) c_41_18 rfl ⟨(Int.le_trans (by decide) ha4.1), h_11, by decide⟩ (q_aload_n c_41_31 rfl (v_cv c_41_32 km_3_42 rfl rfl (nb_ rfl) ⟨⟨rfl, rfl⟩, nb_ rfl, rfl⟩ (nb_ rfl) (nb_ rfl) (s_3 hI_5 (fun c_12 y_15 hI_13 hF_14 hy_15 h_16 => (bk_inl ?_)))))
          have h_17 := ir_1_2 hI_13
          refine q_istore c_41_35 (nb_ rfl) (q_aload_n c_41_37 rfl (q_ldc_s c_41_38 rfl rfl (by decide) (v_cv c_41_40 km_3_47 rfl rfl (nb_ rfl) ⟨⟨rfl, rfl⟩, nb_ rfl, rfl⟩ (nb_ rfl) (nb_ rfl) (s_10 hI_13 (q := 10) (nt := 41) (by decide) (by decide) (by decide) (fun c_18 y_21 hI_19 hF_20 hy_21 h_22 => (bk_inl ?_))))))
          have h_23 := ir_1_4 hI_19
          refine q_istore c_41_43 (nb_ rfl) (q_iload c_41_45 rfl (v_bip c_41_47 (by decide) ?_))
          by_cases h_24 : y_21 ≠ 7
          · refine v_ic_ne_t (t := 65) c_41_49 rfl ⟨h_24, ⟨(Int.le_trans (by decide) hy_21.1), (Int.le_trans hy_21.2 (by decide))⟩, by decide, by decide⟩ (q_aload_n c_41_65 rfl (v_cv c_41_66 km_3_55 rfl rfl (nb_ rfl) ⟨⟨rfl, rfl⟩, nb_ rfl, rfl⟩ (nb_ rfl) (nb_ rfl) (q_aload_n c_2_0 rfl (v_gi (z := 4) (v := c_18 1 4) c_2_1 kf_5_38 rfl (nb_ rfl) rfl rfl rfl ?_))))
            by_cases h_25 : c_18 1 4 ≠ 0
            · refine v_if_ne_t (t := 11) c_2_4 rfl ⟨h_25, ⟨(Int.le_trans (by decide) h_23.1), (Int.le_trans h_23.2 (by decide))⟩, by decide, by decide⟩ (q_iconst c_2_11 (v_zret c_2_12 rfl (by decide) (bk_inl (v_if_eq_t (t := 117) c_41_69 rfl (by decide) (q_aload_n c_41_117 rfl (q_ldc_s c_41_118 rfl rfl (by decide) (v_cv c_41_120 km_3_64 rfl rfl (nb_ rfl) ⟨⟨rfl, rfl⟩, nb_ rfl, rfl⟩ (nb_ rfl) (nb_ rfl) (s_11 hI_19 (q := 13) (nt := 1) (by decide) (by decide) (by decide) (fun c_26 hI_27 hF_28 => ?_)))))))))
              refine bk_inl (v_iinc (v := v4 + 1) c_41_123 rfl (nb_ rfl) rfl (q_goto (t := 3) c_41_126 rfl (Wp_ls [(0, .ref 7), (1, .ref 1), (2, .ref P), (3, vi a4), (4, vi (v4 + 1))] (lsub_cons rfl (lsub_cons rfl (lsub_cons rfl (lsub_cons rfl (lsub_cons rfl lsub_nil))))) ?_)))
              have kn_29 : Hid (c_4 7 2 = c2 7 2) := hF_6 7 2 (fun h => absurd h.1 (nn rfl))
              have kn_30 : Hid (c_12 7 2 = c2 7 2) := (hF_14 7 2 (fun h => absurd h.1 (nn rfl))).trans (hid kn_29)
              have kn_31 : Hid (c_18 7 2 = c2 7 2) := (hF_20 7 2 qn_e31e1496e).trans (hid kn_30)
              have kn_32 : Hid (c_26 7 2 = c2 7 2) := (hF_28 7 2 qn_e31e1496e).trans (hid kn_31)
              have h_33 : c_26 7 2 = c2 7 2 := (hid kn_32)
              exact ih c_26 (v4 + 1) hI_27 (fun a j hm => (hF_28 a j (qv_d1fb82d1b hm)).trans ((hF_20 a j (qv_d1fb82d1b hm)).trans ((hF_14 a j (fun h => hm (Or.inl h))).trans ((hF_6 a j (fun h => hm (Or.inl h))).trans (hF a j (fun q => q.elim (fun h => hm (Or.inl h)) (fun q => q.elim (fun h => hm (Or.inr (Or.inl h))) (fun q => q.elim (fun h => hm (Or.inr (Or.inr (Or.inl h)))) (fun q => q.elim (fun h => hm (Or.inr (Or.inr (Or.inr (Or.inl h))))) (fun h => hm (Or.inr (Or.inr (Or.inr (Or.inr ⟨h.1, (Int.le_trans (by clear hm; first | exact q_6ba67a5a0 | omega) h.2)⟩)))))))))))))) ⟨by first | exact rgp_l hv4.1 (by decide) | omega, by first | exact q_074a98bd9 h_3 | omega⟩ (by first | (clear ha4 hv4 h_1 h_2 h_3 h_11 h_17 h_16 h_23 h_8 h_22 h_24 h_25; omega) | omega) (by omega)
            · refine v_if_ne_f (t := 11) c_2_4 rfl (Decidable.not_not.mp h_25) (q_iconst c_2_7 (q_goto (t := 12) c_2_8 rfl (v_zret c_2_12 rfl (by decide) (bk_inl (v_if_eq_f (t := 117) c_41_69 rfl (by decide) (q_aload_n c_41_72 rfl ?_))))))
              have kn_34 : Hid (c_4 7 2 = c2 7 2) := hF_6 7 2 (fun h => absurd h.1 (nn rfl))
              have kn_35 : Hid (c_12 7 2 = c2 7 2) := (hF_14 7 2 (fun h => absurd h.1 (nn rfl))).trans (hid kn_34)
              have kn_36 : Hid (c_18 7 2 = c2 7 2) := (hF_20 7 2 qn_e31e1496e).trans (hid kn_35)
              refine v_gi (z := 2) (v := c2 7 2) c_41_73 kf_3_19 rfl (nb_ rfl) rfl rfl (hid kn_36) (v_bip c_41_76 (by decide) ?_)
              by_cases h_37 : c2 7 2 ≥ 38
              · refine v_ic_ge_t (t := 117) c_41_78 rfl ⟨by decide, h_37, (Int.le_trans h_2.2 (by decide))⟩ (q_aload_n c_41_117 rfl (q_ldc_s c_41_118 rfl rfl (by decide) (v_cv c_41_120 km_3_64 rfl rfl (nb_ rfl) ⟨⟨rfl, rfl⟩, nb_ rfl, rfl⟩ (nb_ rfl) (nb_ rfl) (s_11 hI_19 (q := 13) (nt := 1) (by decide) (by decide) (by decide) (fun c_38 hI_39 hF_40 => (bk_inl (v_iinc (v := v4 + 1) c_41_123 rfl (nb_ rfl) rfl (q_goto (t := 3) c_41_126 rfl (Wp_ls [(0, .ref 7), (1, .ref 1), (2, .ref P), (3, vi a4), (4, vi (v4 + 1))] (lsub_cons rfl (lsub_cons rfl (lsub_cons rfl (lsub_cons rfl (lsub_cons rfl lsub_nil))))) ?_)))))))))
                have kn_41 : Hid (c_38 7 2 = c2 7 2) := (hF_40 7 2 qn_e31e1496e).trans (hid kn_36)
                have h_42 : c_38 7 2 = c2 7 2 := (hid kn_41)
                exact ih c_38 (v4 + 1) hI_39 (fun a j hm => (hF_40 a j (qv_d1fb82d1b hm)).trans ((hF_20 a j (qv_d1fb82d1b hm)).trans ((hF_14 a j (fun h => hm (Or.inl h))).trans ((hF_6 a j (fun h => hm (Or.inl h))).trans (hF a j (fun q => q.elim (fun h => hm (Or.inl h)) (fun q => q.elim (fun h => hm (Or.inr (Or.inl h))) (fun q => q.elim (fun h => hm (Or.inr (Or.inr (Or.inl h)))) (fun q => q.elim (fun h => hm (Or.inr (Or.inr (Or.inr (Or.inl h))))) (fun h => hm (Or.inr (Or.inr (Or.inr (Or.inr ⟨h.1, (Int.le_trans (by clear hm; first | exact q_6ba67a5a0 | omega) h.2)⟩)))))))))))))) ⟨by first | exact rgp_l hv4.1 (by decide) | omega, by first | exact q_074a98bd9 h_3 | omega⟩ (by first | (clear ha4 hv4 h_1 h_2 h_3 h_11 h_17 h_16 h_23 h_25 h_37 h_8 h_22 h_24; omega) | omega) (by omega)
              · refine v_ic_ge_f (t := 117) c_41_78 rfl ⟨(Int.le_trans (by decide) h_2.1), (Int.not_le.mp h_37), by decide⟩ (q_aload_n c_41_81 rfl (v_gi (z := 2) (v := c2 7 2) c_41_82 kf_3_19 rfl (nb_ rfl) rfl rfl (hid kn_36) (q_iconst c_41_85 (v_imul (v := 5 * c2 7 2) c_41_86 (by first | exact q_d7ce8c793 | omega) (q_istore c_41_87 (nb_ rfl) (q_aload_n c_41_89 rfl (q_dup c_41_90 rfl ?_)))))))
                refine v_gi (z := 2) (v := c2 7 2) c_41_91 kf_3_19 rfl (nb_ rfl) rfl rfl (hid kn_36) (q_iconst c_41_94 (v_iadd (v := c2 7 2 + 1) c_41_95 rfl (v_pi (z := 2) c_41_96 kf_3_19 rfl (nb_ rfl) rfl rfl rfl (by decide) (q_aload_n c_41_99 rfl (v_gr (t := 8) c_41_100 kf_3_11 rfl (nb_ rfl) rfl (q_iload c_41_103 rfl (q_iload c_41_105 rfl ?_)))))))
                refine v_is c_41_107 rfl (by decide) (by decide) ⟨by first | exact q_2c11af296 h_2 | omega, by first | exact q_cab88ee8a h_37 | omega⟩ (q_aload_n c_41_108 rfl (q_aload_n c_41_109 rfl (q_aload_n c_41_110 rfl (q_iload c_41_111 rfl (q_iload_n c_41_113 rfl ?_)))))
                have hI_43 := iw_7_2 (v := c2 7 2 + 1) hI_19 ⟨by first | exact rgp_l h_2.1 (by decide) | omega, by first | exact q_074a98bd9 h_37 | omega⟩
                have hI_44 := iw8_0 (t := c2 7 2) (j := 5 * c2 7 2) (v := y_21) (iv_open8 hI_43) (rfl) ⟨by first | exact q_36afb4550 h_22 h_23 h_25 | omega, (Int.le_trans hy_21.2 (by decide))⟩
                have h_45 : (up (up c_18 7 2 (c2 7 2 + 1)) 8 (5 * c2 7 2) y_21) 7 2 = c2 7 2 + 1 := ((up_c (nn rfl)).trans (up_e rfl))
                have h_46 : (up (up c_18 7 2 (c2 7 2 + 1)) 8 (5 * c2 7 2) y_21) 8 (5 * c2 7 2) = y_21 := (up_e rfl)
                have h_47 : (up (up c_18 7 2 (c2 7 2 + 1)) 8 (5 * c2 7 2) y_21) 8 (5 * (c2 7 2)) = y_21 := (congrArg ((up (up c_18 7 2 (c2 7 2 + 1)) 8 (5 * c2 7 2) y_21) 8) (by first | assumption | exact Int.le_antisymm (by omega) (by omega))).trans (up_e rfl)
                refine v_cv c_41_114 km_3_58 rfl rfl (nb_ rfl) ⟨⟨rfl, rfl⟩, nb_ rfl, rfl⟩ (nb_ rfl) (nb_ rfl) (s_40 (t := c2 7 2) (a4 := a4) hI_44 (show 0 ≤ c2 7 2 ∧ c2 7 2 ≤ 37 from by omega) (show 0 ≤ a4 ∧ a4 ≤ 6 from ha4) (by first | exact q_3bb02af3e | omega) (Or.inl (by first | exact q_3f6909586 h_11 | omega)) H41 (fun c_48 hI_49 hF_50 h_51 => (bk_inl ?_)))
                have h_52 := ir_7_2 hI_49
                refine q_aload_n c_41_117 rfl (q_ldc_s c_41_118 rfl rfl (by decide) (v_cv c_41_120 km_3_64 rfl rfl (nb_ rfl) ⟨⟨rfl, rfl⟩, nb_ rfl, rfl⟩ (nb_ rfl) (nb_ rfl) (s_11 hI_49 (q := 13) (nt := 1) (by decide) (by decide) (by decide) (fun c_53 hI_54 hF_55 => (bk_inl (v_iinc (v := v4 + 1) c_41_123 rfl (nb_ rfl) rfl (q_goto (t := 3) c_41_126 rfl (Wp_ls [(0, .ref 7), (1, .ref 1), (2, .ref P), (3, vi a4), (4, vi (v4 + 1))] (lsub_cons rfl (lsub_cons rfl (lsub_cons rfl (lsub_cons rfl (lsub_cons rfl lsub_nil))))) ?_))))))))
                have kn_56 : Hid (c_53 7 2 = c_48 7 2) := hF_55 7 2 qn_e31e1496e
                have h_57 : c_53 7 2 = c_48 7 2 := (hid kn_56)
                exact ih c_53 (v4 + 1) hI_54 (fun a j hm => (hF_55 a j (qv_d1fb82d1b hm)).trans ((hF_50 a j (fun q => q.elim (fun h => hm (Or.inl h)) (fun q => q.elim (fun h => hm (Or.inr (Or.inl h))) (fun q => q.elim (fun h => hm (Or.inr (Or.inr (Or.inl h)))) (fun q => q.elim (fun h => hm (Or.inr (Or.inr (Or.inr (Or.inl h))))) (fun h => hm (Or.inr (Or.inr (Or.inr (Or.inr ⟨h.1, (Int.le_trans (by clear hm; first | (clear ha4 hv4 h_1 h_2 h_3 h_11 h_17 h_16 h_23 h_25 h_37 h_52 h_51 h_8 h_22 h_24; omega) | omega) h.2)⟩)))))))))).trans ((up_b (Decidable.or_iff_not_imp_left.mpr (fun h1 h2 => hm (Or.inr (Or.inr (Or.inr (Or.inr ⟨Decidable.not_not.mp h1, (Int.le_trans (by clear hm; first | (clear ha4 hv4 h_1 h_2 h_3 h_11 h_17 h_16 h_23 h_25 h_37 h_52 h_51 h_8 h_22 h_24; omega) | omega) (Int.le_of_eq h2.symm))⟩))))))).trans ((up_b (Decidable.or_iff_not_imp_left.mpr (fun h1 h2 => hm (Or.inr (Or.inr (Or.inr (Or.inl ⟨Decidable.not_not.mp h1, h2⟩))))))).trans ((hF_20 a j (qv_d1fb82d1b hm)).trans ((hF_14 a j (fun h => hm (Or.inl h))).trans ((hF_6 a j (fun h => hm (Or.inl h))).trans (hF a j (fun q => q.elim (fun h => hm (Or.inl h)) (fun q => q.elim (fun h => hm (Or.inr (Or.inl h))) (fun q => q.elim (fun h => hm (Or.inr (Or.inr (Or.inl h)))) (fun q => q.elim (fun h => hm (Or.inr (Or.inr (Or.inr (Or.inl h))))) (fun h => hm (Or.inr (Or.inr (Or.inr (Or.inr ⟨h.1, (Int.le_trans (by clear hm; first | exact q_6ba67a5a0 | omega) h.2)⟩))))))))))))))))) ⟨by first | exact rgp_l hv4.1 (by decide) | omega, by first | exact q_074a98bd9 h_3 | omega⟩ (by first | (clear ha4 hv4 h_1 h_2 h_3 h_11 h_17 h_16 h_23 h_25 h_37 h_52 h_8 h_22 h_24; omega) | omega) (by omega)
          · refine v_ic_ne_f (t := 65) c_41_49 rfl (Decidable.not_not.mp h_24) (q_iload_n c_41_52 rfl (v_bip c_41_53 (by decide) (v_ic_lt_t (t := 65) c_41_55 rfl ⟨(Int.le_trans (by decide) ha4.1), by first | exact q_d0d2f254a h_11 | omega, by decide⟩ (q_aload_n c_41_65 rfl (v_cv c_41_66 km_3_55 rfl rfl (nb_ rfl) ⟨⟨rfl, rfl⟩, nb_ rfl, rfl⟩ (nb_ rfl) (nb_ rfl) (q_aload_n c_2_0 rfl (v_gi (z := 4) (v := c_18 1 4) c_2_1 kf_5_38 rfl (nb_ rfl) rfl rfl rfl ?_)))))))
            by_cases h_58 : c_18 1 4 ≠ 0
            · refine v_if_ne_t (t := 11) c_2_4 rfl ⟨h_58, ⟨(Int.le_trans (by decide) h_23.1), (Int.le_trans h_23.2 (by decide))⟩, by decide, by decide⟩ (q_iconst c_2_11 (v_zret c_2_12 rfl (by decide) (bk_inl (v_if_eq_t (t := 117) c_41_69 rfl (by decide) (q_aload_n c_41_117 rfl (q_ldc_s c_41_118 rfl rfl (by decide) (v_cv c_41_120 km_3_64 rfl rfl (nb_ rfl) ⟨⟨rfl, rfl⟩, nb_ rfl, rfl⟩ (nb_ rfl) (nb_ rfl) (s_11 hI_19 (q := 13) (nt := 1) (by decide) (by decide) (by decide) (fun c_59 hI_60 hF_61 => ?_)))))))))
              refine bk_inl (v_iinc (v := v4 + 1) c_41_123 rfl (nb_ rfl) rfl (q_goto (t := 3) c_41_126 rfl (Wp_ls [(0, .ref 7), (1, .ref 1), (2, .ref P), (3, vi a4), (4, vi (v4 + 1))] (lsub_cons rfl (lsub_cons rfl (lsub_cons rfl (lsub_cons rfl (lsub_cons rfl lsub_nil))))) ?_)))
              have kn_62 : Hid (c_4 7 2 = c2 7 2) := hF_6 7 2 (fun h => absurd h.1 (nn rfl))
              have kn_63 : Hid (c_12 7 2 = c2 7 2) := (hF_14 7 2 (fun h => absurd h.1 (nn rfl))).trans (hid kn_62)
              have kn_64 : Hid (c_18 7 2 = c2 7 2) := (hF_20 7 2 qn_e31e1496e).trans (hid kn_63)
              have kn_65 : Hid (c_59 7 2 = c2 7 2) := (hF_61 7 2 qn_e31e1496e).trans (hid kn_64)
              have h_66 : c_59 7 2 = c2 7 2 := (hid kn_65)
              exact ih c_59 (v4 + 1) hI_60 (fun a j hm => (hF_61 a j (qv_d1fb82d1b hm)).trans ((hF_20 a j (qv_d1fb82d1b hm)).trans ((hF_14 a j (fun h => hm (Or.inl h))).trans ((hF_6 a j (fun h => hm (Or.inl h))).trans (hF a j (fun q => q.elim (fun h => hm (Or.inl h)) (fun q => q.elim (fun h => hm (Or.inr (Or.inl h))) (fun q => q.elim (fun h => hm (Or.inr (Or.inr (Or.inl h)))) (fun q => q.elim (fun h => hm (Or.inr (Or.inr (Or.inr (Or.inl h))))) (fun h => hm (Or.inr (Or.inr (Or.inr (Or.inr ⟨h.1, (Int.le_trans (by clear hm; first | exact q_6ba67a5a0 | omega) h.2)⟩)))))))))))))) ⟨by first | exact rgp_l hv4.1 (by decide) | omega, by first | exact q_074a98bd9 h_3 | omega⟩ (by first | (clear ha4 hv4 h_1 h_2 h_3 h_11 h_17 h_16 h_23 h_24 h_8 h_22 h_58; omega) | omega) (by omega)
            · refine v_if_ne_f (t := 11) c_2_4 rfl (Decidable.not_not.mp h_58) (q_iconst c_2_7 (q_goto (t := 12) c_2_8 rfl (v_zret c_2_12 rfl (by decide) (bk_inl (v_if_eq_f (t := 117) c_41_69 rfl (by decide) (q_aload_n c_41_72 rfl ?_))))))
              have kn_67 : Hid (c_4 7 2 = c2 7 2) := hF_6 7 2 (fun h => absurd h.1 (nn rfl))
              have kn_68 : Hid (c_12 7 2 = c2 7 2) := (hF_14 7 2 (fun h => absurd h.1 (nn rfl))).trans (hid kn_67)
              have kn_69 : Hid (c_18 7 2 = c2 7 2) := (hF_20 7 2 qn_e31e1496e).trans (hid kn_68)
              refine v_gi (z := 2) (v := c2 7 2) c_41_73 kf_3_19 rfl (nb_ rfl) rfl rfl (hid kn_69) (v_bip c_41_76 (by decide) ?_)
              by_cases h_70 : c2 7 2 ≥ 38
              · refine v_ic_ge_t (t := 117) c_41_78 rfl ⟨by decide, h_70, (Int.le_trans h_2.2 (by decide))⟩ (q_aload_n c_41_117 rfl (q_ldc_s c_41_118 rfl rfl (by decide) (v_cv c_41_120 km_3_64 rfl rfl (nb_ rfl) ⟨⟨rfl, rfl⟩, nb_ rfl, rfl⟩ (nb_ rfl) (nb_ rfl) (s_11 hI_19 (q := 13) (nt := 1) (by decide) (by decide) (by decide) (fun c_71 hI_72 hF_73 => (bk_inl (v_iinc (v := v4 + 1) c_41_123 rfl (nb_ rfl) rfl (q_goto (t := 3) c_41_126 rfl (Wp_ls [(0, .ref 7), (1, .ref 1), (2, .ref P), (3, vi a4), (4, vi (v4 + 1))] (lsub_cons rfl (lsub_cons rfl (lsub_cons rfl (lsub_cons rfl (lsub_cons rfl lsub_nil))))) ?_)))))))))
                have kn_74 : Hid (c_71 7 2 = c2 7 2) := (hF_73 7 2 qn_e31e1496e).trans (hid kn_69)
                have h_75 : c_71 7 2 = c2 7 2 := (hid kn_74)
                exact ih c_71 (v4 + 1) hI_72 (fun a j hm => (hF_73 a j (qv_d1fb82d1b hm)).trans ((hF_20 a j (qv_d1fb82d1b hm)).trans ((hF_14 a j (fun h => hm (Or.inl h))).trans ((hF_6 a j (fun h => hm (Or.inl h))).trans (hF a j (fun q => q.elim (fun h => hm (Or.inl h)) (fun q => q.elim (fun h => hm (Or.inr (Or.inl h))) (fun q => q.elim (fun h => hm (Or.inr (Or.inr (Or.inl h)))) (fun q => q.elim (fun h => hm (Or.inr (Or.inr (Or.inr (Or.inl h))))) (fun h => hm (Or.inr (Or.inr (Or.inr (Or.inr ⟨h.1, (Int.le_trans (by clear hm; first | exact q_6ba67a5a0 | omega) h.2)⟩)))))))))))))) ⟨by first | exact rgp_l hv4.1 (by decide) | omega, by first | exact q_074a98bd9 h_3 | omega⟩ (by first | (clear ha4 hv4 h_1 h_2 h_3 h_11 h_17 h_16 h_23 h_24 h_58 h_70 h_8 h_22; omega) | omega) (by omega)
              · refine v_ic_ge_f (t := 117) c_41_78 rfl ⟨(Int.le_trans (by decide) h_2.1), (Int.not_le.mp h_70), by decide⟩ (q_aload_n c_41_81 rfl (v_gi (z := 2) (v := c2 7 2) c_41_82 kf_3_19 rfl (nb_ rfl) rfl rfl (hid kn_69) (q_iconst c_41_85 (v_imul (v := 5 * c2 7 2) c_41_86 (by first | exact q_d7ce8c793 | omega) (q_istore c_41_87 (nb_ rfl) (q_aload_n c_41_89 rfl (q_dup c_41_90 rfl ?_)))))))
                refine v_gi (z := 2) (v := c2 7 2) c_41_91 kf_3_19 rfl (nb_ rfl) rfl rfl (hid kn_69) (q_iconst c_41_94 (v_iadd (v := c2 7 2 + 1) c_41_95 rfl (v_pi (z := 2) c_41_96 kf_3_19 rfl (nb_ rfl) rfl rfl rfl (by decide) (q_aload_n c_41_99 rfl (v_gr (t := 8) c_41_100 kf_3_11 rfl (nb_ rfl) rfl (q_iload c_41_103 rfl (q_iload c_41_105 rfl ?_)))))))
                refine v_is c_41_107 rfl (by decide) (by decide) ⟨by first | exact q_2c11af296 h_2 | omega, by first | exact q_cab88ee8a h_70 | omega⟩ (q_aload_n c_41_108 rfl (q_aload_n c_41_109 rfl (q_aload_n c_41_110 rfl (q_iload c_41_111 rfl (q_iload_n c_41_113 rfl ?_)))))
                have hI_76 := iw_7_2 (v := c2 7 2 + 1) hI_19 ⟨by first | exact rgp_l h_2.1 (by decide) | omega, by first | exact q_074a98bd9 h_70 | omega⟩
                have hI_77 := iw8_0 (t := c2 7 2) (j := 5 * c2 7 2) (v := y_21) (iv_open8 hI_76) (rfl) ⟨by first | exact q_055ef26ca h_24 | omega, (Int.le_trans hy_21.2 (by decide))⟩
                have h_78 : (up (up c_18 7 2 (c2 7 2 + 1)) 8 (5 * c2 7 2) y_21) 7 2 = c2 7 2 + 1 := ((up_c (nn rfl)).trans (up_e rfl))
                have h_79 : (up (up c_18 7 2 (c2 7 2 + 1)) 8 (5 * c2 7 2) y_21) 8 (5 * c2 7 2) = y_21 := (up_e rfl)
                have h_80 : (up (up c_18 7 2 (c2 7 2 + 1)) 8 (5 * c2 7 2) y_21) 8 (5 * (c2 7 2)) = y_21 := (congrArg ((up (up c_18 7 2 (c2 7 2 + 1)) 8 (5 * c2 7 2) y_21) 8) (by first | assumption | exact Int.le_antisymm (by omega) (by omega))).trans (up_e rfl)
                refine v_cv c_41_114 km_3_58 rfl rfl (nb_ rfl) ⟨⟨rfl, rfl⟩, nb_ rfl, rfl⟩ (nb_ rfl) (nb_ rfl) (s_40 (t := c2 7 2) (a4 := a4) hI_77 (show 0 ≤ c2 7 2 ∧ c2 7 2 ≤ 37 from by omega) (show 0 ≤ a4 ∧ a4 ≤ 6 from ha4) (by first | exact q_3bb02af3e | omega) (Or.inl (by first | exact q_3f6909586 h_11 | omega)) H41 (fun c_81 hI_82 hF_83 h_84 => (bk_inl ?_)))
                have h_85 := ir_7_2 hI_82
                refine q_aload_n c_41_117 rfl (q_ldc_s c_41_118 rfl rfl (by decide) (v_cv c_41_120 km_3_64 rfl rfl (nb_ rfl) ⟨⟨rfl, rfl⟩, nb_ rfl, rfl⟩ (nb_ rfl) (nb_ rfl) (s_11 hI_82 (q := 13) (nt := 1) (by decide) (by decide) (by decide) (fun c_86 hI_87 hF_88 => (bk_inl (v_iinc (v := v4 + 1) c_41_123 rfl (nb_ rfl) rfl (q_goto (t := 3) c_41_126 rfl (Wp_ls [(0, .ref 7), (1, .ref 1), (2, .ref P), (3, vi a4), (4, vi (v4 + 1))] (lsub_cons rfl (lsub_cons rfl (lsub_cons rfl (lsub_cons rfl (lsub_cons rfl lsub_nil))))) ?_))))))))
                have kn_89 : Hid (c_86 7 2 = c_81 7 2) := hF_88 7 2 qn_e31e1496e
                have h_90 : c_86 7 2 = c_81 7 2 := (hid kn_89)
                exact ih c_86 (v4 + 1) hI_87 (fun a j hm => (hF_88 a j (qv_d1fb82d1b hm)).trans ((hF_83 a j (fun q => q.elim (fun h => hm (Or.inl h)) (fun q => q.elim (fun h => hm (Or.inr (Or.inl h))) (fun q => q.elim (fun h => hm (Or.inr (Or.inr (Or.inl h)))) (fun q => q.elim (fun h => hm (Or.inr (Or.inr (Or.inr (Or.inl h))))) (fun h => hm (Or.inr (Or.inr (Or.inr (Or.inr ⟨h.1, (Int.le_trans (by clear hm; first | (clear ha4 hv4 h_1 h_2 h_3 h_11 h_17 h_16 h_23 h_24 h_58 h_70 h_85 h_84 h_8 h_22; omega) | omega) h.2)⟩)))))))))).trans ((up_b (Decidable.or_iff_not_imp_left.mpr (fun h1 h2 => hm (Or.inr (Or.inr (Or.inr (Or.inr ⟨Decidable.not_not.mp h1, (Int.le_trans (by clear hm; first | (clear ha4 hv4 h_1 h_2 h_3 h_11 h_17 h_16 h_23 h_24 h_58 h_70 h_85 h_84 h_8 h_22; omega) | omega) (Int.le_of_eq h2.symm))⟩))))))).trans ((up_b (Decidable.or_iff_not_imp_left.mpr (fun h1 h2 => hm (Or.inr (Or.inr (Or.inr (Or.inl ⟨Decidable.not_not.mp h1, h2⟩))))))).trans ((hF_20 a j (qv_d1fb82d1b hm)).trans ((hF_14 a j (fun h => hm (Or.inl h))).trans ((hF_6 a j (fun h => hm (Or.inl h))).trans (hF a j (fun q => q.elim (fun h => hm (Or.inl h)) (fun q => q.elim (fun h => hm (Or.inr (Or.inl h))) (fun q => q.elim (fun h => hm (Or.inr (Or.inr (Or.inl h)))) (fun q => q.elim (fun h => hm (Or.inr (Or.inr (Or.inr (Or.inl h))))) (fun h => hm (Or.inr (Or.inr (Or.inr (Or.inr ⟨h.1, (Int.le_trans (by clear hm; first | exact q_6ba67a5a0 | omega) h.2)⟩))))))))))))))))) ⟨by first | exact rgp_l hv4.1 (by decide) | omega, by first | exact q_074a98bd9 h_3 | omega⟩ (by first | (clear ha4 hv4 h_1 h_2 h_3 h_11 h_17 h_16 h_23 h_24 h_58 h_70 h_85 h_8 h_22; omega) | omega) (by omega)
        · refine v_if_le_f (t := 31) c_41_18 rfl ⟨by decide, (Int.not_le.mp h_11), (Int.le_trans ha4.2 (by decide))⟩ (q_aload_n c_41_21 rfl (v_cv c_41_22 km_3_38 rfl rfl (nb_ rfl) ⟨⟨rfl, rfl⟩, nb_ rfl, rfl⟩ (nb_ rfl) (nb_ rfl) (s_39 hI_5 (fun c_91 y_94 hI_92 hF_93 hy_94 => (bk_inl (v_bip c_41_25 (by decide) ?_))))))
          by_cases h_95 : y_94 ≠ 93
          · refine v_ic_ne_t (t := 31) c_41_27 rfl ⟨h_95, ⟨(Int.le_trans (by decide) hy_94.1), (Int.le_trans hy_94.2 (by decide))⟩, by decide, by decide⟩ (q_aload_n c_41_31 rfl (v_cv c_41_32 km_3_42 rfl rfl (nb_ rfl) ⟨⟨rfl, rfl⟩, nb_ rfl, rfl⟩ (nb_ rfl) (nb_ rfl) (s_3 hI_92 (fun c_96 y_99 hI_97 hF_98 hy_99 h_100 => (bk_inl ?_)))))
            have h_101 := ir_1_2 hI_97
            refine q_istore c_41_35 (nb_ rfl) (q_aload_n c_41_37 rfl (q_ldc_s c_41_38 rfl rfl (by decide) (v_cv c_41_40 km_3_47 rfl rfl (nb_ rfl) ⟨⟨rfl, rfl⟩, nb_ rfl, rfl⟩ (nb_ rfl) (nb_ rfl) (s_10 hI_97 (q := 10) (nt := 41) (by decide) (by decide) (by decide) (fun c_102 y_105 hI_103 hF_104 hy_105 h_106 => (bk_inl ?_))))))
            have h_107 := ir_1_4 hI_103
            refine q_istore c_41_43 (nb_ rfl) (q_iload c_41_45 rfl (v_bip c_41_47 (by decide) ?_))
            by_cases h_108 : y_105 ≠ 7
            · refine v_ic_ne_t (t := 65) c_41_49 rfl ⟨h_108, ⟨(Int.le_trans (by decide) hy_105.1), (Int.le_trans hy_105.2 (by decide))⟩, by decide, by decide⟩ (q_aload_n c_41_65 rfl (v_cv c_41_66 km_3_55 rfl rfl (nb_ rfl) ⟨⟨rfl, rfl⟩, nb_ rfl, rfl⟩ (nb_ rfl) (nb_ rfl) (q_aload_n c_2_0 rfl (v_gi (z := 4) (v := c_102 1 4) c_2_1 kf_5_38 rfl (nb_ rfl) rfl rfl rfl ?_))))
              by_cases h_109 : c_102 1 4 ≠ 0
              · refine v_if_ne_t (t := 11) c_2_4 rfl ⟨h_109, ⟨(Int.le_trans (by decide) h_107.1), (Int.le_trans h_107.2 (by decide))⟩, by decide, by decide⟩ (q_iconst c_2_11 (v_zret c_2_12 rfl (by decide) (bk_inl (v_if_eq_t (t := 117) c_41_69 rfl (by decide) (q_aload_n c_41_117 rfl (q_ldc_s c_41_118 rfl rfl (by decide) (v_cv c_41_120 km_3_64 rfl rfl (nb_ rfl) ⟨⟨rfl, rfl⟩, nb_ rfl, rfl⟩ (nb_ rfl) (nb_ rfl) (s_11 hI_103 (q := 13) (nt := 1) (by decide) (by decide) (by decide) (fun c_110 hI_111 hF_112 => ?_)))))))))
                refine bk_inl (v_iinc (v := v4 + 1) c_41_123 rfl (nb_ rfl) rfl (q_goto (t := 3) c_41_126 rfl (Wp_ls [(0, .ref 7), (1, .ref 1), (2, .ref P), (3, vi a4), (4, vi (v4 + 1))] (lsub_cons rfl (lsub_cons rfl (lsub_cons rfl (lsub_cons rfl (lsub_cons rfl lsub_nil))))) ?_)))
                have kn_113 : Hid (c_4 7 2 = c2 7 2) := hF_6 7 2 (fun h => absurd h.1 (nn rfl))
                have kn_114 : Hid (c_91 7 2 = c2 7 2) := (hF_93 7 2 (fun h => absurd h.1 (nn rfl))).trans (hid kn_113)
                have kn_115 : Hid (c_96 7 2 = c2 7 2) := (hF_98 7 2 (fun h => absurd h.1 (nn rfl))).trans (hid kn_114)
                have kn_116 : Hid (c_102 7 2 = c2 7 2) := (hF_104 7 2 qn_e31e1496e).trans (hid kn_115)
                have kn_117 : Hid (c_110 7 2 = c2 7 2) := (hF_112 7 2 qn_e31e1496e).trans (hid kn_116)
                have h_118 : c_110 7 2 = c2 7 2 := (hid kn_117)
                exact ih c_110 (v4 + 1) hI_111 (fun a j hm => (hF_112 a j (qv_d1fb82d1b hm)).trans ((hF_104 a j (qv_d1fb82d1b hm)).trans ((hF_98 a j (fun h => hm (Or.inl h))).trans ((hF_93 a j (fun h => hm (Or.inl h))).trans ((hF_6 a j (fun h => hm (Or.inl h))).trans (hF a j (fun q => q.elim (fun h => hm (Or.inl h)) (fun q => q.elim (fun h => hm (Or.inr (Or.inl h))) (fun q => q.elim (fun h => hm (Or.inr (Or.inr (Or.inl h)))) (fun q => q.elim (fun h => hm (Or.inr (Or.inr (Or.inr (Or.inl h))))) (fun h => hm (Or.inr (Or.inr (Or.inr (Or.inr ⟨h.1, (Int.le_trans (by clear hm; first | exact q_6ba67a5a0 | omega) h.2)⟩))))))))))))))) ⟨by first | exact rgp_l hv4.1 (by decide) | omega, by first | exact q_074a98bd9 h_3 | omega⟩ (by first | (clear ha4 hv4 h_1 h_2 h_3 h_11 h_101 h_100 h_107 h_8 h_95 h_106 h_108 h_109; omega) | omega) (by omega)
              · refine v_if_ne_f (t := 11) c_2_4 rfl (Decidable.not_not.mp h_109) (q_iconst c_2_7 (q_goto (t := 12) c_2_8 rfl (v_zret c_2_12 rfl (by decide) (bk_inl (v_if_eq_f (t := 117) c_41_69 rfl (by decide) (q_aload_n c_41_72 rfl ?_))))))
                have kn_119 : Hid (c_4 7 2 = c2 7 2) := hF_6 7 2 (fun h => absurd h.1 (nn rfl))
                have kn_120 : Hid (c_91 7 2 = c2 7 2) := (hF_93 7 2 (fun h => absurd h.1 (nn rfl))).trans (hid kn_119)
                have kn_121 : Hid (c_96 7 2 = c2 7 2) := (hF_98 7 2 (fun h => absurd h.1 (nn rfl))).trans (hid kn_120)
                have kn_122 : Hid (c_102 7 2 = c2 7 2) := (hF_104 7 2 qn_e31e1496e).trans (hid kn_121)
                refine v_gi (z := 2) (v := c2 7 2) c_41_73 kf_3_19 rfl (nb_ rfl) rfl rfl (hid kn_122) (v_bip c_41_76 (by decide) ?_)
                by_cases h_123 : c2 7 2 ≥ 38
                · refine v_ic_ge_t (t := 117) c_41_78 rfl ⟨by decide, h_123, (Int.le_trans h_2.2 (by decide))⟩ (q_aload_n c_41_117 rfl (q_ldc_s c_41_118 rfl rfl (by decide) (v_cv c_41_120 km_3_64 rfl rfl (nb_ rfl) ⟨⟨rfl, rfl⟩, nb_ rfl, rfl⟩ (nb_ rfl) (nb_ rfl) (s_11 hI_103 (q := 13) (nt := 1) (by decide) (by decide) (by decide) (fun c_124 hI_125 hF_126 => (bk_inl (v_iinc (v := v4 + 1) c_41_123 rfl (nb_ rfl) rfl (q_goto (t := 3) c_41_126 rfl (Wp_ls [(0, .ref 7), (1, .ref 1), (2, .ref P), (3, vi a4), (4, vi (v4 + 1))] (lsub_cons rfl (lsub_cons rfl (lsub_cons rfl (lsub_cons rfl (lsub_cons rfl lsub_nil))))) ?_)))))))))
                  have kn_127 : Hid (c_124 7 2 = c2 7 2) := (hF_126 7 2 qn_e31e1496e).trans (hid kn_122)
                  have h_128 : c_124 7 2 = c2 7 2 := (hid kn_127)
                  exact ih c_124 (v4 + 1) hI_125 (fun a j hm => (hF_126 a j (qv_d1fb82d1b hm)).trans ((hF_104 a j (qv_d1fb82d1b hm)).trans ((hF_98 a j (fun h => hm (Or.inl h))).trans ((hF_93 a j (fun h => hm (Or.inl h))).trans ((hF_6 a j (fun h => hm (Or.inl h))).trans (hF a j (fun q => q.elim (fun h => hm (Or.inl h)) (fun q => q.elim (fun h => hm (Or.inr (Or.inl h))) (fun q => q.elim (fun h => hm (Or.inr (Or.inr (Or.inl h)))) (fun q => q.elim (fun h => hm (Or.inr (Or.inr (Or.inr (Or.inl h))))) (fun h => hm (Or.inr (Or.inr (Or.inr (Or.inr ⟨h.1, (Int.le_trans (by clear hm; first | exact q_6ba67a5a0 | omega) h.2)⟩))))))))))))))) ⟨by first | exact rgp_l hv4.1 (by decide) | omega, by first | exact q_074a98bd9 h_3 | omega⟩ (by first | (clear ha4 hv4 h_1 h_2 h_3 h_11 h_101 h_100 h_107 h_109 h_123 h_8 h_95 h_106 h_108; omega) | omega) (by omega)
                · refine v_ic_ge_f (t := 117) c_41_78 rfl ⟨(Int.le_trans (by decide) h_2.1), (Int.not_le.mp h_123), by decide⟩ (q_aload_n c_41_81 rfl (v_gi (z := 2) (v := c2 7 2) c_41_82 kf_3_19 rfl (nb_ rfl) rfl rfl (hid kn_122) (q_iconst c_41_85 (v_imul (v := 5 * c2 7 2) c_41_86 (by first | exact q_d7ce8c793 | omega) (q_istore c_41_87 (nb_ rfl) (q_aload_n c_41_89 rfl (q_dup c_41_90 rfl ?_)))))))
                  refine v_gi (z := 2) (v := c2 7 2) c_41_91 kf_3_19 rfl (nb_ rfl) rfl rfl (hid kn_122) (q_iconst c_41_94 (v_iadd (v := c2 7 2 + 1) c_41_95 rfl (v_pi (z := 2) c_41_96 kf_3_19 rfl (nb_ rfl) rfl rfl rfl (by decide) (q_aload_n c_41_99 rfl (v_gr (t := 8) c_41_100 kf_3_11 rfl (nb_ rfl) rfl (q_iload c_41_103 rfl (q_iload c_41_105 rfl ?_)))))))
                  refine v_is c_41_107 rfl (by decide) (by decide) ⟨by first | exact q_2c11af296 h_2 | omega, by first | exact q_cab88ee8a h_123 | omega⟩ (q_aload_n c_41_108 rfl (q_aload_n c_41_109 rfl (q_aload_n c_41_110 rfl (q_iload c_41_111 rfl (q_iload_n c_41_113 rfl ?_)))))
                  have hI_129 := iw_7_2 (v := c2 7 2 + 1) hI_103 ⟨by first | exact rgp_l h_2.1 (by decide) | omega, by first | exact q_074a98bd9 h_123 | omega⟩
                  have hI_130 := iw8_0 (t := c2 7 2) (j := 5 * c2 7 2) (v := y_105) (iv_open8 hI_129) (rfl) ⟨by first | exact q_36afb4550 h_106 h_107 h_109 | omega, (Int.le_trans hy_105.2 (by decide))⟩
                  have h_131 : (up (up c_102 7 2 (c2 7 2 + 1)) 8 (5 * c2 7 2) y_105) 7 2 = c2 7 2 + 1 := ((up_c (nn rfl)).trans (up_e rfl))
                  have h_132 : (up (up c_102 7 2 (c2 7 2 + 1)) 8 (5 * c2 7 2) y_105) 8 (5 * c2 7 2) = y_105 := (up_e rfl)
                  have h_133 : (up (up c_102 7 2 (c2 7 2 + 1)) 8 (5 * c2 7 2) y_105) 8 (5 * (c2 7 2)) = y_105 := (congrArg ((up (up c_102 7 2 (c2 7 2 + 1)) 8 (5 * c2 7 2) y_105) 8) (by first | assumption | exact Int.le_antisymm (by omega) (by omega))).trans (up_e rfl)
                  refine v_cv c_41_114 km_3_58 rfl rfl (nb_ rfl) ⟨⟨rfl, rfl⟩, nb_ rfl, rfl⟩ (nb_ rfl) (nb_ rfl) (s_40 (t := c2 7 2) (a4 := a4) hI_130 (show 0 ≤ c2 7 2 ∧ c2 7 2 ≤ 37 from by omega) (show 0 ≤ a4 ∧ a4 ≤ 6 from ha4) (by first | exact q_3bb02af3e | omega) (by omega) H41 (fun c_134 hI_135 hF_136 h_137 => (bk_inl ?_)))
                  have h_138 := ir_7_2 hI_135
                  refine q_aload_n c_41_117 rfl (q_ldc_s c_41_118 rfl rfl (by decide) (v_cv c_41_120 km_3_64 rfl rfl (nb_ rfl) ⟨⟨rfl, rfl⟩, nb_ rfl, rfl⟩ (nb_ rfl) (nb_ rfl) (s_11 hI_135 (q := 13) (nt := 1) (by decide) (by decide) (by decide) (fun c_139 hI_140 hF_141 => (bk_inl (v_iinc (v := v4 + 1) c_41_123 rfl (nb_ rfl) rfl (q_goto (t := 3) c_41_126 rfl (Wp_ls [(0, .ref 7), (1, .ref 1), (2, .ref P), (3, vi a4), (4, vi (v4 + 1))] (lsub_cons rfl (lsub_cons rfl (lsub_cons rfl (lsub_cons rfl (lsub_cons rfl lsub_nil))))) ?_))))))))
                  have kn_142 : Hid (c_139 7 2 = c_134 7 2) := hF_141 7 2 qn_e31e1496e
                  have h_143 : c_139 7 2 = c_134 7 2 := (hid kn_142)
                  exact ih c_139 (v4 + 1) hI_140 (fun a j hm => (hF_141 a j (qv_d1fb82d1b hm)).trans ((hF_136 a j (fun q => q.elim (fun h => hm (Or.inl h)) (fun q => q.elim (fun h => hm (Or.inr (Or.inl h))) (fun q => q.elim (fun h => hm (Or.inr (Or.inr (Or.inl h)))) (fun q => q.elim (fun h => hm (Or.inr (Or.inr (Or.inr (Or.inl h))))) (fun h => hm (Or.inr (Or.inr (Or.inr (Or.inr ⟨h.1, (Int.le_trans (by clear hm; first | (clear ha4 hv4 h_1 h_2 h_3 h_11 h_101 h_100 h_107 h_109 h_123 h_138 h_137 h_8 h_95 h_106 h_108; omega) | omega) h.2)⟩)))))))))).trans ((up_b (Decidable.or_iff_not_imp_left.mpr (fun h1 h2 => hm (Or.inr (Or.inr (Or.inr (Or.inr ⟨Decidable.not_not.mp h1, (Int.le_trans (by clear hm; first | (clear ha4 hv4 h_1 h_2 h_3 h_11 h_101 h_100 h_107 h_109 h_123 h_138 h_137 h_8 h_95 h_106 h_108; omega) | omega) (Int.le_of_eq h2.symm))⟩))))))).trans ((up_b (Decidable.or_iff_not_imp_left.mpr (fun h1 h2 => hm (Or.inr (Or.inr (Or.inr (Or.inl ⟨Decidable.not_not.mp h1, h2⟩))))))).trans ((hF_104 a j (qv_d1fb82d1b hm)).trans ((hF_98 a j (fun h => hm (Or.inl h))).trans ((hF_93 a j (fun h => hm (Or.inl h))).trans ((hF_6 a j (fun h => hm (Or.inl h))).trans (hF a j (fun q => q.elim (fun h => hm (Or.inl h)) (fun q => q.elim (fun h => hm (Or.inr (Or.inl h))) (fun q => q.elim (fun h => hm (Or.inr (Or.inr (Or.inl h)))) (fun q => q.elim (fun h => hm (Or.inr (Or.inr (Or.inr (Or.inl h))))) (fun h => hm (Or.inr (Or.inr (Or.inr (Or.inr ⟨h.1, (Int.le_trans (by clear hm; first | exact q_6ba67a5a0 | omega) h.2)⟩)))))))))))))))))) ⟨by first | exact rgp_l hv4.1 (by decide) | omega, by first | exact q_074a98bd9 h_3 | omega⟩ (by first | (clear ha4 hv4 h_1 h_2 h_3 h_11 h_101 h_100 h_107 h_109 h_123 h_138 h_8 h_95 h_106 h_108; omega) | omega) (by omega)
            · refine v_ic_ne_f (t := 65) c_41_49 rfl (Decidable.not_not.mp h_108) (q_iload_n c_41_52 rfl (v_bip c_41_53 (by decide) ?_))
              by_cases h_144 : a4 < 6
              · refine v_ic_lt_t (t := 65) c_41_55 rfl ⟨(Int.le_trans (by decide) ha4.1), h_144, by decide⟩ (q_aload_n c_41_65 rfl (v_cv c_41_66 km_3_55 rfl rfl (nb_ rfl) ⟨⟨rfl, rfl⟩, nb_ rfl, rfl⟩ (nb_ rfl) (nb_ rfl) (q_aload_n c_2_0 rfl (v_gi (z := 4) (v := c_102 1 4) c_2_1 kf_5_38 rfl (nb_ rfl) rfl rfl rfl ?_))))
                by_cases h_145 : c_102 1 4 ≠ 0
                · refine v_if_ne_t (t := 11) c_2_4 rfl ⟨h_145, ⟨(Int.le_trans (by decide) h_107.1), (Int.le_trans h_107.2 (by decide))⟩, by decide, by decide⟩ (q_iconst c_2_11 (v_zret c_2_12 rfl (by decide) (bk_inl (v_if_eq_t (t := 117) c_41_69 rfl (by decide) (q_aload_n c_41_117 rfl (q_ldc_s c_41_118 rfl rfl (by decide) (v_cv c_41_120 km_3_64 rfl rfl (nb_ rfl) ⟨⟨rfl, rfl⟩, nb_ rfl, rfl⟩ (nb_ rfl) (nb_ rfl) (s_11 hI_103 (q := 13) (nt := 1) (by decide) (by decide) (by decide) (fun c_146 hI_147 hF_148 => ?_)))))))))
                  refine bk_inl (v_iinc (v := v4 + 1) c_41_123 rfl (nb_ rfl) rfl (q_goto (t := 3) c_41_126 rfl (Wp_ls [(0, .ref 7), (1, .ref 1), (2, .ref P), (3, vi a4), (4, vi (v4 + 1))] (lsub_cons rfl (lsub_cons rfl (lsub_cons rfl (lsub_cons rfl (lsub_cons rfl lsub_nil))))) ?_)))
                  have kn_149 : Hid (c_4 7 2 = c2 7 2) := hF_6 7 2 (fun h => absurd h.1 (nn rfl))
                  have kn_150 : Hid (c_91 7 2 = c2 7 2) := (hF_93 7 2 (fun h => absurd h.1 (nn rfl))).trans (hid kn_149)
                  have kn_151 : Hid (c_96 7 2 = c2 7 2) := (hF_98 7 2 (fun h => absurd h.1 (nn rfl))).trans (hid kn_150)
                  have kn_152 : Hid (c_102 7 2 = c2 7 2) := (hF_104 7 2 qn_e31e1496e).trans (hid kn_151)
                  have kn_153 : Hid (c_146 7 2 = c2 7 2) := (hF_148 7 2 qn_e31e1496e).trans (hid kn_152)
                  have h_154 : c_146 7 2 = c2 7 2 := (hid kn_153)
                  exact ih c_146 (v4 + 1) hI_147 (fun a j hm => (hF_148 a j (qv_d1fb82d1b hm)).trans ((hF_104 a j (qv_d1fb82d1b hm)).trans ((hF_98 a j (fun h => hm (Or.inl h))).trans ((hF_93 a j (fun h => hm (Or.inl h))).trans ((hF_6 a j (fun h => hm (Or.inl h))).trans (hF a j (fun q => q.elim (fun h => hm (Or.inl h)) (fun q => q.elim (fun h => hm (Or.inr (Or.inl h))) (fun q => q.elim (fun h => hm (Or.inr (Or.inr (Or.inl h)))) (fun q => q.elim (fun h => hm (Or.inr (Or.inr (Or.inr (Or.inl h))))) (fun h => hm (Or.inr (Or.inr (Or.inr (Or.inr ⟨h.1, (Int.le_trans (by clear hm; first | exact q_6ba67a5a0 | omega) h.2)⟩))))))))))))))) ⟨by first | exact rgp_l hv4.1 (by decide) | omega, by first | exact q_074a98bd9 h_3 | omega⟩ (by first | (clear ha4 hv4 h_1 h_2 h_3 h_11 h_101 h_100 h_107 h_108 h_144 h_8 h_95 h_106 h_145; omega) | omega) (by omega)
                · refine v_if_ne_f (t := 11) c_2_4 rfl (Decidable.not_not.mp h_145) (q_iconst c_2_7 (q_goto (t := 12) c_2_8 rfl (v_zret c_2_12 rfl (by decide) (bk_inl (v_if_eq_f (t := 117) c_41_69 rfl (by decide) (q_aload_n c_41_72 rfl ?_))))))
                  have kn_155 : Hid (c_4 7 2 = c2 7 2) := hF_6 7 2 (fun h => absurd h.1 (nn rfl))
                  have kn_156 : Hid (c_91 7 2 = c2 7 2) := (hF_93 7 2 (fun h => absurd h.1 (nn rfl))).trans (hid kn_155)
                  have kn_157 : Hid (c_96 7 2 = c2 7 2) := (hF_98 7 2 (fun h => absurd h.1 (nn rfl))).trans (hid kn_156)
                  have kn_158 : Hid (c_102 7 2 = c2 7 2) := (hF_104 7 2 qn_e31e1496e).trans (hid kn_157)
                  refine v_gi (z := 2) (v := c2 7 2) c_41_73 kf_3_19 rfl (nb_ rfl) rfl rfl (hid kn_158) (v_bip c_41_76 (by decide) ?_)
                  by_cases h_159 : c2 7 2 ≥ 38
                  · refine v_ic_ge_t (t := 117) c_41_78 rfl ⟨by decide, h_159, (Int.le_trans h_2.2 (by decide))⟩ (q_aload_n c_41_117 rfl (q_ldc_s c_41_118 rfl rfl (by decide) (v_cv c_41_120 km_3_64 rfl rfl (nb_ rfl) ⟨⟨rfl, rfl⟩, nb_ rfl, rfl⟩ (nb_ rfl) (nb_ rfl) (s_11 hI_103 (q := 13) (nt := 1) (by decide) (by decide) (by decide) (fun c_160 hI_161 hF_162 => (bk_inl (v_iinc (v := v4 + 1) c_41_123 rfl (nb_ rfl) rfl (q_goto (t := 3) c_41_126 rfl (Wp_ls [(0, .ref 7), (1, .ref 1), (2, .ref P), (3, vi a4), (4, vi (v4 + 1))] (lsub_cons rfl (lsub_cons rfl (lsub_cons rfl (lsub_cons rfl (lsub_cons rfl lsub_nil))))) ?_)))))))))
                    have kn_163 : Hid (c_160 7 2 = c2 7 2) := (hF_162 7 2 qn_e31e1496e).trans (hid kn_158)
                    have h_164 : c_160 7 2 = c2 7 2 := (hid kn_163)
                    exact ih c_160 (v4 + 1) hI_161 (fun a j hm => (hF_162 a j (qv_d1fb82d1b hm)).trans ((hF_104 a j (qv_d1fb82d1b hm)).trans ((hF_98 a j (fun h => hm (Or.inl h))).trans ((hF_93 a j (fun h => hm (Or.inl h))).trans ((hF_6 a j (fun h => hm (Or.inl h))).trans (hF a j (fun q => q.elim (fun h => hm (Or.inl h)) (fun q => q.elim (fun h => hm (Or.inr (Or.inl h))) (fun q => q.elim (fun h => hm (Or.inr (Or.inr (Or.inl h)))) (fun q => q.elim (fun h => hm (Or.inr (Or.inr (Or.inr (Or.inl h))))) (fun h => hm (Or.inr (Or.inr (Or.inr (Or.inr ⟨h.1, (Int.le_trans (by clear hm; first | exact q_6ba67a5a0 | omega) h.2)⟩))))))))))))))) ⟨by first | exact rgp_l hv4.1 (by decide) | omega, by first | exact q_074a98bd9 h_3 | omega⟩ (by first | (clear ha4 hv4 h_1 h_2 h_3 h_11 h_101 h_100 h_107 h_108 h_144 h_145 h_159 h_8 h_95 h_106; omega) | omega) (by omega)
                  · refine v_ic_ge_f (t := 117) c_41_78 rfl ⟨(Int.le_trans (by decide) h_2.1), (Int.not_le.mp h_159), by decide⟩ (q_aload_n c_41_81 rfl (v_gi (z := 2) (v := c2 7 2) c_41_82 kf_3_19 rfl (nb_ rfl) rfl rfl (hid kn_158) (q_iconst c_41_85 (v_imul (v := 5 * c2 7 2) c_41_86 (by first | exact q_d7ce8c793 | omega) (q_istore c_41_87 (nb_ rfl) (q_aload_n c_41_89 rfl (q_dup c_41_90 rfl ?_)))))))
                    refine v_gi (z := 2) (v := c2 7 2) c_41_91 kf_3_19 rfl (nb_ rfl) rfl rfl (hid kn_158) (q_iconst c_41_94 (v_iadd (v := c2 7 2 + 1) c_41_95 rfl (v_pi (z := 2) c_41_96 kf_3_19 rfl (nb_ rfl) rfl rfl rfl (by decide) (q_aload_n c_41_99 rfl (v_gr (t := 8) c_41_100 kf_3_11 rfl (nb_ rfl) rfl (q_iload c_41_103 rfl (q_iload c_41_105 rfl ?_)))))))
                    refine v_is c_41_107 rfl (by decide) (by decide) ⟨by first | exact q_2c11af296 h_2 | omega, by first | exact q_cab88ee8a h_159 | omega⟩ (q_aload_n c_41_108 rfl (q_aload_n c_41_109 rfl (q_aload_n c_41_110 rfl (q_iload c_41_111 rfl (q_iload_n c_41_113 rfl ?_)))))
                    have hI_165 := iw_7_2 (v := c2 7 2 + 1) hI_103 ⟨by first | exact rgp_l h_2.1 (by decide) | omega, by first | exact q_074a98bd9 h_159 | omega⟩
                    have hI_166 := iw8_0 (t := c2 7 2) (j := 5 * c2 7 2) (v := y_105) (iv_open8 hI_165) (rfl) ⟨by first | exact q_055ef26ca h_108 | omega, (Int.le_trans hy_105.2 (by decide))⟩
                    have h_167 : (up (up c_102 7 2 (c2 7 2 + 1)) 8 (5 * c2 7 2) y_105) 7 2 = c2 7 2 + 1 := ((up_c (nn rfl)).trans (up_e rfl))
                    have h_168 : (up (up c_102 7 2 (c2 7 2 + 1)) 8 (5 * c2 7 2) y_105) 8 (5 * c2 7 2) = y_105 := (up_e rfl)
                    have h_169 : (up (up c_102 7 2 (c2 7 2 + 1)) 8 (5 * c2 7 2) y_105) 8 (5 * (c2 7 2)) = y_105 := (congrArg ((up (up c_102 7 2 (c2 7 2 + 1)) 8 (5 * c2 7 2) y_105) 8) (by first | assumption | exact Int.le_antisymm (by omega) (by omega))).trans (up_e rfl)
                    refine v_cv c_41_114 km_3_58 rfl rfl (nb_ rfl) ⟨⟨rfl, rfl⟩, nb_ rfl, rfl⟩ (nb_ rfl) (nb_ rfl) (s_40 (t := c2 7 2) (a4 := a4) hI_166 (show 0 ≤ c2 7 2 ∧ c2 7 2 ≤ 37 from by omega) (show 0 ≤ a4 ∧ a4 ≤ 6 from ha4) (by first | exact q_3bb02af3e | omega) (Or.inl (by first | exact q_5f37091c9 h_144 | omega)) H41 (fun c_170 hI_171 hF_172 h_173 => (bk_inl ?_)))
                    have h_174 := ir_7_2 hI_171
                    refine q_aload_n c_41_117 rfl (q_ldc_s c_41_118 rfl rfl (by decide) (v_cv c_41_120 km_3_64 rfl rfl (nb_ rfl) ⟨⟨rfl, rfl⟩, nb_ rfl, rfl⟩ (nb_ rfl) (nb_ rfl) (s_11 hI_171 (q := 13) (nt := 1) (by decide) (by decide) (by decide) (fun c_175 hI_176 hF_177 => (bk_inl (v_iinc (v := v4 + 1) c_41_123 rfl (nb_ rfl) rfl (q_goto (t := 3) c_41_126 rfl (Wp_ls [(0, .ref 7), (1, .ref 1), (2, .ref P), (3, vi a4), (4, vi (v4 + 1))] (lsub_cons rfl (lsub_cons rfl (lsub_cons rfl (lsub_cons rfl (lsub_cons rfl lsub_nil))))) ?_))))))))
                    have kn_178 : Hid (c_175 7 2 = c_170 7 2) := hF_177 7 2 qn_e31e1496e
                    have h_179 : c_175 7 2 = c_170 7 2 := (hid kn_178)
                    exact ih c_175 (v4 + 1) hI_176 (fun a j hm => (hF_177 a j (qv_d1fb82d1b hm)).trans ((hF_172 a j (fun q => q.elim (fun h => hm (Or.inl h)) (fun q => q.elim (fun h => hm (Or.inr (Or.inl h))) (fun q => q.elim (fun h => hm (Or.inr (Or.inr (Or.inl h)))) (fun q => q.elim (fun h => hm (Or.inr (Or.inr (Or.inr (Or.inl h))))) (fun h => hm (Or.inr (Or.inr (Or.inr (Or.inr ⟨h.1, (Int.le_trans (by clear hm; first | (clear ha4 hv4 h_1 h_2 h_3 h_11 h_101 h_100 h_107 h_108 h_144 h_145 h_159 h_174 h_173 h_8 h_95 h_106; omega) | omega) h.2)⟩)))))))))).trans ((up_b (Decidable.or_iff_not_imp_left.mpr (fun h1 h2 => hm (Or.inr (Or.inr (Or.inr (Or.inr ⟨Decidable.not_not.mp h1, (Int.le_trans (by clear hm; first | (clear ha4 hv4 h_1 h_2 h_3 h_11 h_101 h_100 h_107 h_108 h_144 h_145 h_159 h_174 h_173 h_8 h_95 h_106; omega) | omega) (Int.le_of_eq h2.symm))⟩))))))).trans ((up_b (Decidable.or_iff_not_imp_left.mpr (fun h1 h2 => hm (Or.inr (Or.inr (Or.inr (Or.inl ⟨Decidable.not_not.mp h1, h2⟩))))))).trans ((hF_104 a j (qv_d1fb82d1b hm)).trans ((hF_98 a j (fun h => hm (Or.inl h))).trans ((hF_93 a j (fun h => hm (Or.inl h))).trans ((hF_6 a j (fun h => hm (Or.inl h))).trans (hF a j (fun q => q.elim (fun h => hm (Or.inl h)) (fun q => q.elim (fun h => hm (Or.inr (Or.inl h))) (fun q => q.elim (fun h => hm (Or.inr (Or.inr (Or.inl h)))) (fun q => q.elim (fun h => hm (Or.inr (Or.inr (Or.inr (Or.inl h))))) (fun h => hm (Or.inr (Or.inr (Or.inr (Or.inr ⟨h.1, (Int.le_trans (by clear hm; first | exact q_6ba67a5a0 | omega) h.2)⟩)))))))))))))))))) ⟨by first | exact rgp_l hv4.1 (by decide) | omega, by first | exact q_074a98bd9 h_3 | omega⟩ (by first | (clear ha4 hv4 h_1 h_2 h_3 h_11 h_101 h_100 h_107 h_108 h_144 h_145 h_159 h_174 h_8 h_95 h_106; omega) | omega) (by omega)
              · refine v_ic_lt_f (t := 65) c_41_55 rfl ⟨by decide, (Int.not_lt.mp h_144), (Int.le_trans ha4.2 (by decide))⟩ (q_aload_n c_41_58 rfl (q_iconst c_41_59 (q_iload c_41_60 rfl (v_cv c_41_62 km_3_51 rfl rfl (nb_ rfl) ⟨⟨rfl, rfl⟩, nb_ rfl, rfl⟩ (nb_ rfl) (nb_ rfl) (s_7 (a1 := 3) (a2 := y_99) hI_103 (show 1 ≤ 3 ∧ 3 ≤ 3 from ⟨by decide, by decide⟩) (show 0 ≤ y_99 ∧ y_99 ≤ 600 from hy_99) (fun c_180 hI_181 hF_182 h_183 => (bk_inl ?_)))))))
                have h_184 := ir_1_4 hI_181
                refine q_aload_n c_41_65 rfl (v_cv c_41_66 km_3_55 rfl rfl (nb_ rfl) ⟨⟨rfl, rfl⟩, nb_ rfl, rfl⟩ (nb_ rfl) (nb_ rfl) (q_aload_n c_2_0 rfl (v_gi (z := 4) (v := c_180 1 4) c_2_1 kf_5_38 rfl (nb_ rfl) rfl rfl rfl (v_if_ne_t (t := 11) c_2_4 rfl ⟨by first | exact q_88eaa90e3 h_183 h_184 | omega, ⟨(Int.le_trans (by decide) h_184.1), (Int.le_trans h_184.2 (by decide))⟩, by decide, by decide⟩ (q_iconst c_2_11 (v_zret c_2_12 rfl (by decide) (bk_inl ?_)))))))
                refine v_if_eq_t (t := 117) c_41_69 rfl (by decide) (q_aload_n c_41_117 rfl (q_ldc_s c_41_118 rfl rfl (by decide) (v_cv c_41_120 km_3_64 rfl rfl (nb_ rfl) ⟨⟨rfl, rfl⟩, nb_ rfl, rfl⟩ (nb_ rfl) (nb_ rfl) (s_11 hI_181 (q := 13) (nt := 1) (by decide) (by decide) (by decide) (fun c_185 hI_186 hF_187 => (bk_inl (v_iinc (v := v4 + 1) c_41_123 rfl (nb_ rfl) rfl (q_goto (t := 3) c_41_126 rfl (Wp_ls [(0, .ref 7), (1, .ref 1), (2, .ref P), (3, vi a4), (4, vi (v4 + 1))] (lsub_cons rfl (lsub_cons rfl (lsub_cons rfl (lsub_cons rfl (lsub_cons rfl lsub_nil))))) ?_)))))))))
                have kn_188 : Hid (c_4 7 2 = c2 7 2) := hF_6 7 2 (fun h => absurd h.1 (nn rfl))
                have kn_189 : Hid (c_91 7 2 = c2 7 2) := (hF_93 7 2 (fun h => absurd h.1 (nn rfl))).trans (hid kn_188)
                have kn_190 : Hid (c_96 7 2 = c2 7 2) := (hF_98 7 2 (fun h => absurd h.1 (nn rfl))).trans (hid kn_189)
                have kn_191 : Hid (c_102 7 2 = c2 7 2) := (hF_104 7 2 qn_e31e1496e).trans (hid kn_190)
                have kn_192 : Hid (c_180 7 2 = c2 7 2) := (hF_182 7 2 (fun q => q.elim (fun h => absurd h.1 (nn rfl)) (fun h => absurd h.1 (nn rfl)))).trans (hid kn_191)
                have kn_193 : Hid (c_185 7 2 = c2 7 2) := (hF_187 7 2 qn_e31e1496e).trans (hid kn_192)
                have h_194 : c_185 7 2 = c2 7 2 := (hid kn_193)
                exact ih c_185 (v4 + 1) hI_186 (fun a j hm => (hF_187 a j (qv_d1fb82d1b hm)).trans ((hF_182 a j (qv_c55a10b47 hm)).trans ((hF_104 a j (qv_d1fb82d1b hm)).trans ((hF_98 a j (fun h => hm (Or.inl h))).trans ((hF_93 a j (fun h => hm (Or.inl h))).trans ((hF_6 a j (fun h => hm (Or.inl h))).trans (hF a j (fun q => q.elim (fun h => hm (Or.inl h)) (fun q => q.elim (fun h => hm (Or.inr (Or.inl h))) (fun q => q.elim (fun h => hm (Or.inr (Or.inr (Or.inl h)))) (fun q => q.elim (fun h => hm (Or.inr (Or.inr (Or.inr (Or.inl h))))) (fun h => hm (Or.inr (Or.inr (Or.inr (Or.inr ⟨h.1, (Int.le_trans (by clear hm; first | exact q_6ba67a5a0 | omega) h.2)⟩)))))))))))))))) ⟨by first | exact rgp_l hv4.1 (by decide) | omega, by first | exact q_074a98bd9 h_3 | omega⟩ (by first | (clear ha4 hv4 h_1 h_2 h_3 h_11 h_101 h_100 h_107 h_108 h_144 h_184 h_8 h_95 h_106 h_183; omega) | omega) (by omega)
          · refine v_ic_ne_f (t := 31) c_41_27 rfl (Decidable.not_not.mp h_95) (q_vret rfl rfl ?_)
            have kn_195 : Hid (c_4 7 2 = c2 7 2) := hF_6 7 2 (fun h => absurd h.1 (nn rfl))
            have kn_196 : Hid (c_91 7 2 = c2 7 2) := (hF_93 7 2 (fun h => absurd h.1 (nn rfl))).trans (hid kn_195)
            have h_197 : c_91 7 2 = c2 7 2 := (hid kn_196)
            exact K c_91 hI_92 (fun a j hm => (hF_93 a j (fun h => hm (Or.inl h))).trans ((hF_6 a j (fun h => hm (Or.inl h))).trans (hF a j (fun q => q.elim (fun h => hm (Or.inl h)) (fun q => q.elim (fun h => hm (Or.inr (Or.inl h))) (fun q => q.elim (fun h => hm (Or.inr (Or.inr (Or.inl h)))) (fun q => q.elim (fun h => hm (Or.inr (Or.inr (Or.inr (Or.inl h))))) (fun h => hm (Or.inr (Or.inr (Or.inr (Or.inr ⟨h.1, (Int.le_trans (by clear hm; first | exact q_6ba67a5a0 | omega) h.2)⟩)))))))))))) (by first | (clear ha4 hv4 h_1 h_2 h_3 h_11 h_95 h_8; omega) | omega)
set_option maxRecDepth 100000 in
set_option maxHeartbeats 4000000 in
theorem s_41 {sc : List Int32} {d u P Q : Nat} {c : ME} {a4 : Int} {Z : AR → Prop} (hI : Iv u (-1) P Q c) (ha4 : 0 ≤ a4 ∧ a4 ≤ 6) (H41 : ∀ (c : ME) (Z : AR → Prop), a4 + 1 ≤ 6 → Iv u (-1) P Q c → (∀ c2 : ME, Iv u (-1) P Q c2 → (∀ (a : Nat) (j : Int), ¬ ((a = 1 ∧ j = 2) ∨ (a = 1 ∧ j = 4) ∨ (a = 1 ∧ j = 5) ∨ (a = 7 ∧ j = 2) ∨ (a = 8 ∧ j ≥ 5 * c 7 2)) → c2 a j = c a j) → (c2 7 2 ≥ c 7 2) → Z (.inl none, Wd P Q P P c2, 0, 0)) → Wp sc (d + 10) 41 0 [(0, .ref 7), (1, .ref 1), (2, .ref P), (3, vi (a4 + 1))] [] (Wd P Q P P c) 0 0 Z) (K : ∀ (c2 : ME), Iv u (-1) P Q c2 → (∀ (a : Nat) (j : Int), ¬ ((a = 1 ∧ j = 2) ∨ (a = 1 ∧ j = 4) ∨ (a = 1 ∧ j = 5) ∨ (a = 7 ∧ j = 2) ∨ (a = 8 ∧ j ≥ 5 * c 7 2)) → c2 a j = c a j) → ((c2 7 2 ≥ c 7 2)) → Z (.inl (none), Wd P Q P P c2, 0, 0)) : Wp sc (d + 12) 41 0 [(0, .ref 7), (1, .ref 1), (2, .ref P), (3, vi a4)] [] (Wd P Q P P c) 0 0 Z := by
  have hP := iv_P hI
  have hQ := iv_Q hI
  refine q_iconst c_41_0 (q_istore c_41_1 (nb_ rfl) (Wp_ls [(0, .ref 7), (1, .ref 1), (2, .ref P), (3, vi a4), (4, vi 0)] (lsub_cons rfl (lsub_cons rfl (lsub_cons rfl (lsub_cons rfl (lsub_cons rfl lsub_nil))))) ?_))
  have h_198 := ir_7_2 hI
  exact (s_41_l (sc := sc) (d := d) hI ha4 H41 K 80) c 0 hI (fun a j hm => rfl) ⟨by decide, by decide⟩ (by first | exact q_e074ea49a | omega) (by omega)
set_option maxRecDepth 100000 in
set_option maxHeartbeats 4000000 in
theorem r_41_n {sc : List Int32} {d u P Q : Nat} : ∀ (m : Nat) (c : ME) (a4 : Int) (Z : AR → Prop), a4 + (m : Int) = 6 → 0 ≤ a4 → Iv u (-1) P Q c → (∀ c2 : ME, Iv u (-1) P Q c2 → (∀ (a : Nat) (j : Int), ¬ ((a = 1 ∧ j = 2) ∨ (a = 1 ∧ j = 4) ∨ (a = 1 ∧ j = 5) ∨ (a = 7 ∧ j = 2) ∨ (a = 8 ∧ j ≥ 5 * c 7 2)) → c2 a j = c a j) → (c2 7 2 ≥ c 7 2) → Z (.inl none, Wd P Q P P c2, 0, 0)) → Wp sc (d + 2 * m + 12) 41 0 [(0, .ref 7), (1, .ref 1), (2, .ref P), (3, vi a4)] [] (Wd P Q P P c) 0 0 Z
  | 0, c, a4, Z, hm, h0, hI, K => s_41 (d := d) (a4 := a4) hI (show 0 ≤ a4 ∧ a4 ≤ 6 from ⟨by omega, by omega⟩) (fun c9 Z9 hc => absurd hc (by omega)) K
  | m + 1, c, a4, Z, hm, h0, hI, K => by
    have ih := r_41_n (sc := sc) (d := d) (u := u) (P := P) (Q := Q) m
    rw [show d + 2 * (m + 1) + 12 = (d + 2 * m + 2) + 12 by omega]
    refine s_41 (d := d + 2 * m + 2) (a4 := a4) hI (show 0 ≤ a4 ∧ a4 ≤ 6 from ⟨by omega, by omega⟩) (fun c9 Z9 hc hI9 K9 => ?_) K
    have r := ih c9 (a4 + 1) Z9 (by omega) (by omega) hI9 K9
    rw [show d + 2 * m + 12 = (d + 2 * m + 2) + 10 by omega] at r
    exact r
set_option maxRecDepth 100000 in
set_option maxHeartbeats 4000000 in
theorem r_41 {sc : List Int32} {d u P Q : Nat} {c : ME} {a4 : Int} {Z : AR → Prop} (hI : Iv u (-1) P Q c) (ha4 : 0 ≤ a4 ∧ a4 ≤ 6) (K : (∀ c2 : ME, Iv u (-1) P Q c2 → (∀ (a : Nat) (j : Int), ¬ ((a = 1 ∧ j = 2) ∨ (a = 1 ∧ j = 4) ∨ (a = 1 ∧ j = 5) ∨ (a = 7 ∧ j = 2) ∨ (a = 8 ∧ j ≥ 5 * c 7 2)) → c2 a j = c a j) → (c2 7 2 ≥ c 7 2) → Z (.inl none, Wd P Q P P c2, 0, 0))) : Wp sc (d + 24) 41 0 [(0, .ref 7), (1, .ref 1), (2, .ref P), (3, vi a4)] [] (Wd P Q P P c) 0 0 Z := by
  obtain ⟨m, hm⟩ : ∃ m : Nat, (m : Int) = 6 - a4 := ⟨(6 - a4).toNat, by omega⟩
  rw [show d + 24 = (d + 12 - 2 * m) + 2 * m + 12 by omega]
  exact r_41_n m c a4 Z (by omega) (by omega) hI K

set_option maxRecDepth 100000 in
set_option maxHeartbeats 4000000 in
theorem s_42 {sc : List Int32} {d u P Q : Nat} {c : ME} {Z : AR → Prop} (hI : Iv u (-1) P Q c)  (K : ∀ (c2 : ME), Iv u (-1) P Q c2 → (∀ (a : Nat) (j : Int), ¬ ((a = 1 ∧ j = 2) ∨ (a = 1 ∧ j = 4) ∨ (a = 1 ∧ j = 5) ∨ (a = 7 ∧ j = 1) ∨ (a = 7 ∧ j = 2) ∨ (a = 7 ∧ j = 3) ∨ (a = 7 ∧ j = 4) ∨ a = 8) → c2 a j = c a j) → Z (.inl (none), Wd P Q P P c2, 0, 0)) : Wp sc (d + 25) 42 0 [(0, .ref 7), (1, .ref 1), (2, .ref P)] [] (Wd P Q P P c) 0 0 Z := by
  have hP := iv_P hI
  have hQ := iv_Q hI
  refine q_aload_n c_42_0 rfl (q_iconst c_42_1 (v_pi (z := 1) c_42_2 kf_3_15 rfl (nb_ rfl) rfl rfl rfl (by decide) (q_aload_n c_42_5 rfl (q_iconst c_42_6 (v_pi (z := 2) c_42_7 kf_3_19 rfl (nb_ rfl) rfl rfl rfl (by decide) (q_aload_n c_42_10 rfl (q_iconst c_42_11 ?_)))))))
  refine v_pi (z := 3) c_42_12 kf_3_22 rfl (nb_ rfl) rfl rfl rfl (by decide) (q_aload_n c_42_15 rfl (q_iconst c_42_16 (v_pi (z := 4) c_42_17 kf_3_25 rfl (nb_ rfl) rfl rfl rfl (by decide) (q_aload_n c_42_20 rfl (q_aload_n c_42_21 rfl (q_aload_n c_42_22 rfl (q_iconst c_42_23 ?_)))))))
  have hI_1 := iw_7_1 (v := 0) hI ⟨by decide, by decide⟩
  have hI_2 := iw_7_2 (v := 0) hI_1 ⟨by decide, by decide⟩
  have hI_3 := iw_7_3 (v := 0) hI_2 ⟨by decide, by decide⟩
  have hI_4 := iw_7_4 (v := 0) hI_3 ⟨by decide, by decide⟩
  have h_5 : (up (up (up (up c 7 1 0) 7 2 0) 7 3 0) 7 4 0) 7 2 = 0 := ((up_n (by decide)).trans ((up_n (by decide)).trans (up_e rfl)))
  have h_6 : (up (up (up (up c 7 1 0) 7 2 0) 7 3 0) 7 4 0) 7 2 = 0 := ((up_n (by decide)).trans ((up_n (by decide)).trans (up_e rfl)))
  refine v_cv c_42_24 km_3_28 rfl rfl (nb_ rfl) ⟨⟨rfl, rfl⟩, nb_ rfl, rfl⟩ (nb_ rfl) (nb_ rfl) (r_41 (a4 := 0) hI_4 (show 0 ≤ 0 ∧ 0 ≤ 6 from ⟨by decide, by decide⟩) (fun c_7 hI_8 hF_9 h_10 => (bk_inl ?_)))
  have h_11 := ir_7_2 hI_8
  refine q_vret rfl rfl ?_
  exact K c_7 hI_8 (fun a j hm => (hF_9 a j (qv_ecb9f43c4 hm)).trans ((up_b (Decidable.or_iff_not_imp_left.mpr (fun h1 h2 => hm (Or.inr (Or.inr (Or.inr (Or.inr (Or.inr (Or.inr (Or.inl ⟨Decidable.not_not.mp h1, h2⟩)))))))))).trans ((up_b (Decidable.or_iff_not_imp_left.mpr (fun h1 h2 => hm (Or.inr (Or.inr (Or.inr (Or.inr (Or.inr (Or.inl ⟨Decidable.not_not.mp h1, h2⟩))))))))).trans ((up_b (Decidable.or_iff_not_imp_left.mpr (fun h1 h2 => hm (Or.inr (Or.inr (Or.inr (Or.inr (Or.inl ⟨Decidable.not_not.mp h1, h2⟩)))))))).trans (up_b (Decidable.or_iff_not_imp_left.mpr (fun h1 h2 => hm (Or.inr (Or.inr (Or.inr (Or.inl ⟨Decidable.not_not.mp h1, h2⟩)))))))))))

set_option maxRecDepth 100000 in
set_option maxHeartbeats 4000000 in
theorem s_43 {sc : List Int32} {e : Int} {d u P Q sh s : Nat} {c : ME} {v1 v2 v3 v4 r : Int} {a1 : Int} {Z : AR → Prop} (hI : Iv u e P Q c) (hs : (sh = 37 ∧ s = 38) ∨ (sh = 39 ∧ s = 40)) (ha1 : 0 ≤ a1 ∧ a1 ≤ 5) (hv0 : c s (4 * a1) = v1) (hv1 : c s (4 * a1 + 1) = v2) (hv2 : c s (4 * a1 + 2) = v3) (hv3 : c s (4 * a1 + 3) = v4) (hr9 : v1 + v2 + v3 + v4 = r) (K : Z (.inl (some (vi r)), Wd P Q P P c, 0, 0)) : Wp sc (d + 7) 43 0 [(0, .ref sh), (1, vi a1)] [] (Wd P Q P P c) 0 0 Z := by
  have hP := iv_P hI
  have hQ := iv_Q hI
  have h_1 := ir_s_g hI hs (j := 4 * a1) (by first | exact q_9f1d5ffdc ha1 | omega)
  have h_2 := ir_s_g hI hs (j := 4 * a1 + 1) (by first | exact q_0a2ee6f8f ha1 | omega)
  have h_3 := ir_s_g hI hs (j := 4 * a1 + 2) (by first | exact q_e07a293a2 ha1 | omega)
  have h_4 := ir_s_g hI hs (j := 4 * a1 + 3) (by first | exact q_d09cb0b73 ha1 | omega)
  refine q_iload_n c_43_0 rfl (q_iconst c_43_1 (v_imul (v := 4 * a1) c_43_2 (by first | exact q_a509a7ce7 | omega) (q_istore_n c_43_3 (nb_ rfl) (q_aload_n c_43_4 rfl (v_gr (t := s) c_43_5 kf_4_11 (ck_sh hs) (a68sh hs) rfl (q_iload_n c_43_8 rfl (v_ia (v := v1) c_43_9 (ck_s hs) (a68s hs) (by decide) ⟨by first | exact q_c065257af ha1 | omega, by first | exact q_b7e642788 ha1 | omega⟩ (hv0) ?_)))))))
  refine q_aload_n c_43_10 rfl (v_gr (t := s) c_43_11 kf_4_11 (ck_sh hs) (a68sh hs) rfl (q_iload_n c_43_14 rfl (q_iconst c_43_15 (v_iadd (v := 4 * a1 + 1) c_43_16 rfl (v_ia (v := v2) c_43_17 (ck_s hs) (a68s hs) (by decide) ⟨by first | exact q_83fdbd35d ha1 | omega, by first | exact q_ee7209ea0 ha1 | omega⟩ (hv1) (v_iadd (v := v1 + v2) c_43_18 rfl (q_aload_n c_43_19 rfl ?_)))))))
  refine v_gr (t := s) c_43_20 kf_4_11 (ck_sh hs) (a68sh hs) rfl (q_iload_n c_43_23 rfl (q_iconst c_43_24 (v_iadd (v := 4 * a1 + 2) c_43_25 rfl (v_ia (v := v3) c_43_26 (ck_s hs) (a68s hs) (by decide) ⟨by first | exact q_0f37a0c6e ha1 | omega, by first | exact q_d136047ff ha1 | omega⟩ (hv2) (v_iadd (v := v1 + v2 + v3) c_43_27 rfl (q_aload_n c_43_28 rfl (v_gr (t := s) c_43_29 kf_4_11 (ck_sh hs) (a68sh hs) rfl ?_)))))))
  refine q_iload_n c_43_32 rfl (q_iconst c_43_33 (v_iadd (v := 4 * a1 + 3) c_43_34 rfl (v_ia (v := v4) c_43_35 (ck_s hs) (a68s hs) (by decide) ⟨by first | exact q_f6be69137 ha1 | omega, by first | exact q_c79de31f2 ha1 | omega⟩ (hv3) (v_iadd (v := v1 + v2 + v3 + v4) c_43_36 rfl (q_iret c_43_37 rfl ?_)))))
  exact zv (by omega) (K)

set_option maxRecDepth 100000 in
set_option maxHeartbeats 4000000 in
theorem s_44 {sc : List Int32} {d P Q sh s : Nat} {c : ME} {a1 : Int} {a2 : Int} {Z : AR → Prop} (hI : Iv 0 (-1) P Q c) (hs : (sh = 37 ∧ s = 38) ∨ (sh = 39 ∧ s = 40)) (ha1 : 0 ≤ a1 ∧ a1 ≤ 3) (ha2 : 0 ≤ a2 ∧ a2 ≤ 5) (K : ∀ (c2 : ME) (y : Int), Iv 0 (-1) P Q c2 → (∀ (a : Nat) (j : Int), ¬ (a = s) → c2 a j = c a j) → 0 ≤ y ∧ y ≤ 1 → Z (.inl (some (vi y)), Wd P Q P P c2, 0, 0)) : Wp sc (d + 8) 44 0 [(0, .ref sh), (1, vi a1), (2, vi a2)] [] (Wd P Q P P c) 0 0 Z := by
  have hP := iv_P hI
  have hQ := iv_Q hI
  have hIo : Iv s (-1) P Q c := iv_open hI
  have hsum_1 := ir_s_r hI hs (by omega) (j := a2) (by omega)
  have h_2 := ir_s_g hI hs (j := 4 * a2) (by first | exact q_9f1d5ffdc ha2 | omega)
  have h_3 := ir_s_g hI hs (j := 4 * a2 + 1) (by first | exact q_0a2ee6f8f ha2 | omega)
  have h_4 := ir_s_g hI hs (j := 4 * a2 + 2) (by first | exact q_e07a293a2 ha2 | omega)
  have h_5 := ir_s_g hI hs (j := 4 * a2 + 3) (by first | exact q_d09cb0b73 ha2 | omega)
  refine q_aload_n c_44_0 rfl (q_iload_n c_44_1 rfl (v_cv c_44_2 km_4_38 rfl (ck_sh hs) (a68sh hs) ⟨⟨rfl, rfl⟩, by decide, rfl⟩ (nb_ rfl) (nb_ rfl) (s_43 (v1 := c s (4 * a2)) (v2 := c s (4 * a2 + 1)) (v3 := c s (4 * a2 + 2)) (v4 := c s (4 * a2 + 3)) (r := c s (4 * a2 + 1) + c s (4 * a2 + 2) + c s (4 * a2 + 3) + c s (4 * a2)) (a1 := a2) hIo hs (show 0 ≤ a2 ∧ a2 ≤ 5 from ha2) (rfl) (rfl) (rfl) (rfl) (by omega) (bk_inl ?_))))
  by_cases h_6 : c s (4 * a2 + 1) + c s (4 * a2 + 2) + c s (4 * a2 + 3) + c s (4 * a2) ≠ 0
  · refine v_if_ne_t (t := 10) c_44_5 rfl ⟨h_6, ⟨by first | exact q_e052ef40e h_2 h_3 h_4 h_5 | omega, by first | exact q_6719c4bfd hsum_1 | omega⟩, by decide, by decide⟩ (q_iload_n c_44_10 rfl (q_iconst c_44_11 (v_imul (v := 4 * a2) c_44_12 (by first | exact q_a509a7ce7 | omega) (q_istore_n c_44_13 (nb_ rfl) (q_aload_n c_44_14 rfl (v_gr (t := s) c_44_15 kf_4_11 (ck_sh hs) (a68sh hs) rfl (q_iload_n c_44_18 rfl ?_)))))))
    refine q_iconst c_44_19 (v_iadd (v := 4 * a2 + 1) c_44_20 rfl (v_ia (v := c s (4 * a2 + 1)) c_44_21 (ck_s hs) (a68s hs) (by decide) ⟨by first | exact q_83fdbd35d ha2 | omega, by first | exact q_ee7209ea0 ha2 | omega⟩ rfl (q_aload_n c_44_22 rfl (v_gr (t := P) c_44_23 kf_4_15 (ck_sh hs) (a68sh hs) rfl (q_iload_n c_44_26 rfl (q_iconst c_44_27 (v_cv c_44_28 km_4_72 rfl (ck_p0 hP) (a68z hP) ⟨⟨rfl, rfl⟩, by decide, rfl⟩ (nb_ rfl) (nb_ rfl) (s_29 (a1 := a1) (a2 := 0) hIo hP (show 0 ≤ a1 ∧ a1 ≤ 3 from ha1) (show 0 ≤ 0 ∧ 0 ≤ 2 from ⟨by decide, by decide⟩) (fun y_7 hy_7 => ?_)))))))))
    refine bk_inl ?_
    have h_8 : 0 ≤ (c s (4 * a2 + 1)) * y_7 ∧ (c s (4 * a2 + 1)) * y_7 ≤ 10 * (c s (4 * a2 + 1)) := mul_bd (by omega) (by omega) (by omega)
    have h_9 : 0 ≤ (c s (4 * a2 + 1)) * y_7 ∧ (c s (4 * a2 + 1)) * y_7 ≤ 9999 * y_7 := mul_bd2 (by omega) (by omega) (by omega)
    refine v_imul (v := ((c s (4 * a2 + 1)) * y_7)) rfl rfl (v_bip c_44_32 (by decide) (v_idiv (v := (((c s (4 * a2 + 1)) * y_7) / 10)) rfl (by omega) rfl (q_istore c_44_35 (nb_ rfl) (q_aload_n c_44_37 rfl (v_gr (t := s) c_44_38 kf_4_11 (ck_sh hs) (a68sh hs) rfl (q_iload_n c_44_41 rfl (q_iconst c_44_42 ?_)))))))
    refine v_iadd (v := 4 * a2 + 2) c_44_43 rfl (v_ia (v := c s (4 * a2 + 2)) c_44_44 (ck_s hs) (a68s hs) (by decide) ⟨by first | exact q_0f37a0c6e ha2 | omega, by first | exact q_d136047ff ha2 | omega⟩ rfl (q_aload_n c_44_45 rfl (v_gr (t := P) c_44_46 kf_4_15 (ck_sh hs) (a68sh hs) rfl (q_iload_n c_44_49 rfl (q_iconst c_44_50 (v_cv c_44_51 km_4_72 rfl (ck_p0 hP) (a68z hP) ⟨⟨rfl, rfl⟩, by decide, rfl⟩ (nb_ rfl) (nb_ rfl) (s_29 (a1 := a1) (a2 := 1) hIo hP (show 0 ≤ a1 ∧ a1 ≤ 3 from ha1) (show 0 ≤ 1 ∧ 1 ≤ 2 from ⟨by decide, by decide⟩) (fun y_10 hy_10 => (bk_inl ?_)))))))))
    have h_11 : 0 ≤ (c s (4 * a2 + 2)) * y_10 ∧ (c s (4 * a2 + 2)) * y_10 ≤ 10 * (c s (4 * a2 + 2)) := mul_bd (by omega) (by omega) (by omega)
    have h_12 : 0 ≤ (c s (4 * a2 + 2)) * y_10 ∧ (c s (4 * a2 + 2)) * y_10 ≤ 9999 * y_10 := mul_bd2 (by omega) (by omega) (by omega)
    refine v_imul (v := ((c s (4 * a2 + 2)) * y_10)) rfl rfl (v_bip c_44_55 (by decide) (v_idiv (v := (((c s (4 * a2 + 2)) * y_10) / 10)) rfl (by omega) rfl (q_istore c_44_58 (nb_ rfl) (q_aload_n c_44_60 rfl (v_gr (t := s) c_44_61 kf_4_11 (ck_sh hs) (a68sh hs) rfl (q_iload_n c_44_64 rfl (q_iconst c_44_65 ?_)))))))
    refine v_iadd (v := 4 * a2 + 3) c_44_66 rfl (v_ia (v := c s (4 * a2 + 3)) c_44_67 (ck_s hs) (a68s hs) (by decide) ⟨by first | exact q_f6be69137 ha2 | omega, by first | exact q_c79de31f2 ha2 | omega⟩ rfl (q_aload_n c_44_68 rfl (v_gr (t := P) c_44_69 kf_4_15 (ck_sh hs) (a68sh hs) rfl (q_iload_n c_44_72 rfl (q_iconst c_44_73 (v_cv c_44_74 km_4_72 rfl (ck_p0 hP) (a68z hP) ⟨⟨rfl, rfl⟩, by decide, rfl⟩ (nb_ rfl) (nb_ rfl) (s_29 (a1 := a1) (a2 := 2) hIo hP (show 0 ≤ a1 ∧ a1 ≤ 3 from ha1) (show 0 ≤ 2 ∧ 2 ≤ 2 from ⟨by decide, by decide⟩) (fun y_13 hy_13 => (bk_inl ?_)))))))))
    have h_14 : 0 ≤ (c s (4 * a2 + 3)) * y_13 ∧ (c s (4 * a2 + 3)) * y_13 ≤ 10 * (c s (4 * a2 + 3)) := mul_bd (by omega) (by omega) (by omega)
    have h_15 : 0 ≤ (c s (4 * a2 + 3)) * y_13 ∧ (c s (4 * a2 + 3)) * y_13 ≤ 9999 * y_13 := mul_bd2 (by omega) (by omega) (by omega)
    refine v_imul (v := ((c s (4 * a2 + 3)) * y_13)) rfl rfl (v_bip c_44_78 (by decide) (v_idiv (v := (((c s (4 * a2 + 3)) * y_13) / 10)) rfl (by omega) rfl (q_istore c_44_81 (nb_ rfl) (q_aload_n c_44_83 rfl (v_gr (t := s) c_44_84 kf_4_11 (ck_sh hs) (a68sh hs) rfl (q_iload_n c_44_87 rfl (q_dup2 c_44_88 ⟨rfl, rfl⟩ ?_)))))))
    refine v_ia (v := c s (4 * a2)) c_44_89 (ck_s hs) (a68s hs) (by decide) ⟨by first | exact q_c065257af ha2 | omega, by first | exact q_b7e642788 ha2 | omega⟩ rfl (q_iload c_44_90 rfl (v_iadd (v := (((c s (4 * a2 + 1)) * y_7) / 10) + c s (4 * a2)) rfl (by first | exact q_893c89ded | omega) (v_is c_44_93 (ck_s hs) (a68s hs) (by decide) ⟨by first | exact q_c065257af ha2 | omega, by first | exact q_b7e642788 ha2 | omega⟩ (q_aload_n c_44_94 rfl (v_gr (t := s) c_44_95 kf_4_11 (ck_sh hs) (a68sh hs) rfl (q_iload_n c_44_98 rfl (q_iconst c_44_99 ?_)))))))
    refine v_iadd (v := 4 * a2 + 1) c_44_100 rfl (q_dup2 c_44_101 ⟨rfl, rfl⟩ (v_ia (v := c s (4 * a2 + 1)) c_44_102 (ck_s hs) (a68s hs) (by decide) ⟨by first | exact q_83fdbd35d ha2 | omega, by first | exact q_ee7209ea0 ha2 | omega⟩ (up_n (by first | exact ne_a0 (by decide) | omega)) (q_iload c_44_103 rfl (q_iload c_44_105 rfl (v_isub (v := (((c s (4 * a2 + 2)) * y_10) / 10) - (((c s (4 * a2 + 1)) * y_7) / 10)) rfl rfl (v_iadd (v := (((c s (4 * a2 + 2)) * y_10) / 10) + c s (4 * a2 + 1) - (((c s (4 * a2 + 1)) * y_7) / 10)) rfl (by first | exact q_75a207943 | omega) (v_is c_44_109 (ck_s hs) (a68s hs) (by decide) ⟨by first | exact q_83fdbd35d ha2 | omega, by first | exact q_ee7209ea0 ha2 | omega⟩ ?_)))))))
    refine q_aload_n c_44_110 rfl (v_gr (t := s) c_44_111 kf_4_11 (ck_sh hs) (a68sh hs) rfl (q_iload_n c_44_114 rfl (q_iconst c_44_115 (v_iadd (v := 4 * a2 + 2) c_44_116 rfl (q_dup2 c_44_117 ⟨rfl, rfl⟩ (v_ia (v := c s (4 * a2 + 2)) c_44_118 (ck_s hs) (a68s hs) (by decide) ⟨by first | exact q_0f37a0c6e ha2 | omega, by first | exact q_d136047ff ha2 | omega⟩ ((up_n (by first | exact ne_aa (by decide) | omega)).trans (up_n (by first | exact ne_a0 (by decide) | omega))) (q_iload c_44_119 rfl ?_)))))))
    refine q_iload c_44_121 rfl (v_isub (v := (((c s (4 * a2 + 3)) * y_13) / 10) - (((c s (4 * a2 + 2)) * y_10) / 10)) rfl rfl (v_iadd (v := (((c s (4 * a2 + 3)) * y_13) / 10) + c s (4 * a2 + 2) - (((c s (4 * a2 + 2)) * y_10) / 10)) rfl (by first | exact q_75a207943 | omega) (v_is c_44_125 (ck_s hs) (a68s hs) (by decide) ⟨by first | exact q_0f37a0c6e ha2 | omega, by first | exact q_d136047ff ha2 | omega⟩ (q_aload_n c_44_126 rfl (v_gr (t := s) c_44_127 kf_4_11 (ck_sh hs) (a68sh hs) rfl (q_iload_n c_44_130 rfl (q_iconst c_44_131 ?_)))))))
    refine v_iadd (v := 4 * a2 + 3) c_44_132 rfl (q_dup2 c_44_133 ⟨rfl, rfl⟩ (v_ia (v := c s (4 * a2 + 3)) c_44_134 (ck_s hs) (a68s hs) (by decide) ⟨by first | exact q_f6be69137 ha2 | omega, by first | exact q_c79de31f2 ha2 | omega⟩ ((up_n (by first | exact ne_aa (by decide) | omega)).trans ((up_n (by first | exact ne_aa (by decide) | omega)).trans (up_n (by first | exact ne_a0 (by decide) | omega)))) (q_iload c_44_135 rfl (v_isub (v := c s (4 * a2 + 3) - (((c s (4 * a2 + 3)) * y_13) / 10)) rfl rfl (v_is c_44_138 (ck_s hs) (a68s hs) (by decide) ⟨by first | exact q_f6be69137 ha2 | omega, by first | exact q_c79de31f2 ha2 | omega⟩ (q_aload_n c_44_139 rfl (v_gr (t := s) c_44_140 kf_4_11 (ck_sh hs) (a68sh hs) rfl ?_)))))))
    refine q_iload_n c_44_143 rfl (v_ia (v := (((c s (4 * a2 + 1)) * y_7) / 10) + c s (4 * a2)) rfl (ck_s hs) (a68s hs) (by decide) ⟨by first | exact q_c065257af ha2 | omega, by first | exact q_b7e642788 ha2 | omega⟩ ((up_n (by first | exact ne_0a (by decide) | omega)).trans ((up_n (by first | exact ne_0a (by decide) | omega)).trans ((up_n (by first | exact ne_0a (by decide) | omega)).trans (up_e rfl)))) (q_aload_n c_44_145 rfl (v_gr (t := P) c_44_146 kf_4_15 (ck_sh hs) (a68sh hs) rfl ?_)))
    have h_16 := ir_p0_3 hI hP
    refine v_gi (z := 3) (v := c P 3) c_44_149 kf_4_75 (ck_p0 hP) (a68z hP) rfl rfl ((up_c (by omega)).trans ((up_c (by omega)).trans ((up_c (by omega)).trans (up_c (by omega))))) ?_
    have h_17 : 0 ≤ ((((c s (4 * a2 + 1)) * y_7) / 10) + c s (4 * a2)) * (c P 3) ∧ ((((c s (4 * a2 + 1)) * y_7) / 10) + c s (4 * a2)) * (c P 3) ≤ 50 * ((((c s (4 * a2 + 1)) * y_7) / 10) + c s (4 * a2)) := mul_bd (by omega) (by omega) (by omega)
    have h_18 : 0 ≤ ((((c s (4 * a2 + 1)) * y_7) / 10) + c s (4 * a2)) * (c P 3) ∧ ((((c s (4 * a2 + 1)) * y_7) / 10) + c s (4 * a2)) * (c P 3) ≤ 9999 * (c P 3) := mul_bd2 (by omega) (by omega) (by omega)
    refine v_imul (v := (((((c s (4 * a2 + 1)) * y_7) / 10) + c s (4 * a2)) * (c P 3))) rfl rfl (v_bip c_44_153 (by decide) (v_idiv (v := ((((((c s (4 * a2 + 1)) * y_7) / 10) + c s (4 * a2)) * (c P 3)) / 100)) rfl (by omega) rfl (q_istore c_44_156 (nb_ rfl) (Wp_ls [(7, vi ((((((c s (4 * a2 + 1)) * y_7) / 10) + c s (4 * a2)) * (c P 3)) / 100)), (6, vi (((c s (4 * a2 + 3)) * y_13) / 10)), (5, vi (((c s (4 * a2 + 2)) * y_10) / 10)), (4, vi (((c s (4 * a2 + 1)) * y_7) / 10)), (3, vi (4 * a2)), (0, .ref sh), (1, vi a1), (2, vi a2)] (lsub_cons rfl (lsub_cons rfl (lsub_cons rfl (lsub_cons rfl (lsub_cons rfl (lsub_cons rfl (lsub_cons rfl (lsub_cons rfl lsub_nil)))))))) (q_aload_n c_44_158 rfl (v_gr (t := s) c_44_159 kf_4_11 (ck_sh hs) (a68sh hs) rfl (q_iload_n c_44_162 rfl ?_)))))))
    refine q_dup2 c_44_163 ⟨rfl, rfl⟩ (v_ia (v := (((c s (4 * a2 + 1)) * y_7) / 10) + c s (4 * a2)) rfl (ck_s hs) (a68s hs) (by decide) ⟨by first | exact q_c065257af ha2 | omega, by first | exact q_b7e642788 ha2 | omega⟩ ((up_n (by first | exact ne_0a (by decide) | omega)).trans ((up_n (by first | exact ne_0a (by decide) | omega)).trans ((up_n (by first | exact ne_0a (by decide) | omega)).trans (up_e rfl)))) (q_iload c_44_165 rfl (v_isub (v := (((c s (4 * a2 + 1)) * y_7) / 10) + c s (4 * a2) - ((((((c s (4 * a2 + 1)) * y_7) / 10) + c s (4 * a2)) * (c P 3)) / 100)) rfl rfl (v_is c_44_168 (ck_s hs) (a68s hs) (by decide) ⟨by first | exact q_c065257af ha2 | omega, by first | exact q_b7e642788 ha2 | omega⟩ (q_aload_n c_44_169 rfl (v_gr (t := s) c_44_170 kf_4_11 (ck_sh hs) (a68sh hs) rfl (v_bip c_44_173 (by decide) ?_)))))))
    refine q_dup2 c_44_175 ⟨rfl, rfl⟩ ?_
    have h_19 := ir_s hI hs 32
    refine v_ia (v := c s 32) c_44_176 (ck_s hs) (a68s hs) (by decide) (by decide) ((up_n (ne_g (by first | exact q_dc9fd3f8b ha2 | omega))).trans ((up_n (ne_g (by first | exact q_d17500877 ha2 | omega))).trans ((up_n (ne_g (by first | exact q_13bfd6882 ha2 | omega))).trans ((up_n (ne_g (by first | exact q_ab78ec18a ha2 | omega))).trans (up_n (ne_g (by first | exact q_dc9fd3f8b ha2 | omega))))))) (q_iload c_44_177 rfl (v_iadd (v := ((((((c s (4 * a2 + 1)) * y_7) / 10) + c s (4 * a2)) * (c P 3)) / 100) + c s 32) rfl (by first | exact q_893c89ded | omega) (v_nrm (fun y_20 hy_20 => (v_is c_44_180 (ck_s hs) (a68s hs) (by decide) (by decide) (q_iconst c_44_181 (v_zret c_44_182 rfl (by decide) ?_)))))))
    have hI_21 := iwr0 (a := s) (j := 4 * a2) (v := (((c s (4 * a2 + 1)) * y_7) / 10) + c s (4 * a2)) hIo (rs_cs hs) ⟨by first | (clear ha1 ha2 h_2 h_3 h_4 h_5 hsum_1 h_8 h_9 h_11 h_12 h_14 h_15 h_16 h_18 h_19 h_6; omega) | omega, by first | (clear ha1 ha2 h_2 h_3 h_4 h_5 h_9 h_12 h_15 h_16 h_17 h_18 h_19 h_6; omega) | omega⟩
    have hI_22 := iwr0 (a := s) (j := 4 * a2 + 1) (v := (((c s (4 * a2 + 2)) * y_10) / 10) + c s (4 * a2 + 1) - (((c s (4 * a2 + 1)) * y_7) / 10)) hI_21 (rs_cs hs) ⟨by first | (clear ha1 ha2 h_2 h_3 h_4 h_5 hsum_1 h_9 h_12 h_14 h_15 h_16 h_17 h_18 h_19 h_6; omega) | omega, by first | (clear ha1 ha2 h_2 h_3 h_4 h_5 h_8 h_9 h_12 h_15 h_16 h_18 h_19 h_6; omega) | omega⟩
    have hI_23 := iwr0 (a := s) (j := 4 * a2 + 2) (v := (((c s (4 * a2 + 3)) * y_13) / 10) + c s (4 * a2 + 2) - (((c s (4 * a2 + 2)) * y_10) / 10)) hI_22 (rs_cs hs) ⟨by first | (clear ha1 ha2 h_2 h_3 h_4 h_5 hsum_1 h_8 h_9 h_12 h_15 h_16 h_17 h_18 h_19 h_6; omega) | omega, by first | (clear ha1 ha2 h_2 h_3 h_4 h_5 h_9 h_12 h_15 h_16 h_18 h_19 h_6; omega) | omega⟩
    have hI_24 := iwr0 (a := s) (j := 4 * a2 + 3) (v := c s (4 * a2 + 3) - (((c s (4 * a2 + 3)) * y_13) / 10)) hI_23 (rs_cs hs) ⟨by first | (clear ha1 ha2 h_2 h_3 h_4 h_5 hsum_1 h_8 h_9 h_11 h_12 h_15 h_16 h_17 h_18 h_19 h_6; omega) | omega, by first | (clear ha1 ha2 h_2 h_3 h_4 hsum_1 h_8 h_9 h_11 h_12 h_15 h_16 h_17 h_18 h_19 h_6; omega) | omega⟩
    have hI_25 := iwr0 (a := s) (j := 4 * a2) (v := (((c s (4 * a2 + 1)) * y_7) / 10) + c s (4 * a2) - ((((((c s (4 * a2 + 1)) * y_7) / 10) + c s (4 * a2)) * (c P 3)) / 100)) hI_24 (rs_cs hs) ⟨by first | (clear ha1 ha2 h_2 h_3 h_4 h_5 hsum_1 h_8 h_9 h_11 h_12 h_14 h_15 h_16 h_18 h_19 h_6; omega) | omega, by first | (clear ha1 ha2 h_2 h_3 h_4 h_5 h_9 h_12 h_15 h_16 h_18 h_19 h_6; omega) | omega⟩
    have hI_26 := iwr1 (a := s) (j := 32) (v := y_20) hI_25 (rs_cs hs) (by decide) ⟨hy_20.1, hy_20.2⟩
    have hr_27 : ∀ j : Int, rs s j → (up (up (up (up (up (up c s (4 * a2) ((((c s (4 * a2 + 1)) * y_7) / 10) + c s (4 * a2))) s (4 * a2 + 1) ((((c s (4 * a2 + 2)) * y_10) / 10) + c s (4 * a2 + 1) - (((c s (4 * a2 + 1)) * y_7) / 10))) s (4 * a2 + 2) ((((c s (4 * a2 + 3)) * y_13) / 10) + c s (4 * a2 + 2) - (((c s (4 * a2 + 2)) * y_10) / 10))) s (4 * a2 + 3) (c s (4 * a2 + 3) - (((c s (4 * a2 + 3)) * y_13) / 10))) s (4 * a2) ((((c s (4 * a2 + 1)) * y_7) / 10) + c s (4 * a2) - ((((((c s (4 * a2 + 1)) * y_7) / 10) + c s (4 * a2)) * (c P 3)) / 100))) s 32 y_20) s j + (up (up (up (up (up (up c s (4 * a2) ((((c s (4 * a2 + 1)) * y_7) / 10) + c s (4 * a2))) s (4 * a2 + 1) ((((c s (4 * a2 + 2)) * y_10) / 10) + c s (4 * a2 + 1) - (((c s (4 * a2 + 1)) * y_7) / 10))) s (4 * a2 + 2) ((((c s (4 * a2 + 3)) * y_13) / 10) + c s (4 * a2 + 2) - (((c s (4 * a2 + 2)) * y_10) / 10))) s (4 * a2 + 3) (c s (4 * a2 + 3) - (((c s (4 * a2 + 3)) * y_13) / 10))) s (4 * a2) ((((c s (4 * a2 + 1)) * y_7) / 10) + c s (4 * a2) - ((((((c s (4 * a2 + 1)) * y_7) / 10) + c s (4 * a2)) * (c P 3)) / 100))) s 32 y_20) s (j + 1) + (up (up (up (up (up (up c s (4 * a2) ((((c s (4 * a2 + 1)) * y_7) / 10) + c s (4 * a2))) s (4 * a2 + 1) ((((c s (4 * a2 + 2)) * y_10) / 10) + c s (4 * a2 + 1) - (((c s (4 * a2 + 1)) * y_7) / 10))) s (4 * a2 + 2) ((((c s (4 * a2 + 3)) * y_13) / 10) + c s (4 * a2 + 2) - (((c s (4 * a2 + 2)) * y_10) / 10))) s (4 * a2 + 3) (c s (4 * a2 + 3) - (((c s (4 * a2 + 3)) * y_13) / 10))) s (4 * a2) ((((c s (4 * a2 + 1)) * y_7) / 10) + c s (4 * a2) - ((((((c s (4 * a2 + 1)) * y_7) / 10) + c s (4 * a2)) * (c P 3)) / 100))) s 32 y_20) s (j + 2) + (up (up (up (up (up (up c s (4 * a2) ((((c s (4 * a2 + 1)) * y_7) / 10) + c s (4 * a2))) s (4 * a2 + 1) ((((c s (4 * a2 + 2)) * y_10) / 10) + c s (4 * a2 + 1) - (((c s (4 * a2 + 1)) * y_7) / 10))) s (4 * a2 + 2) ((((c s (4 * a2 + 3)) * y_13) / 10) + c s (4 * a2 + 2) - (((c s (4 * a2 + 2)) * y_10) / 10))) s (4 * a2 + 3) (c s (4 * a2 + 3) - (((c s (4 * a2 + 3)) * y_13) / 10))) s (4 * a2) ((((c s (4 * a2 + 1)) * y_7) / 10) + c s (4 * a2) - ((((((c s (4 * a2 + 1)) * y_7) / 10) + c s (4 * a2)) * (c P 3)) / 100))) s 32 y_20) s (j + 3) ≤ 9999 := by
      intro j9 hj9
      obtain ⟨k9, rfl, hk9⟩ := rs_s hs hj9
      by_cases e_28 : k9 = a2
      · skip
        have h_29 : (up (up (up (up (up (up c s (4 * a2) ((((c s (4 * a2 + 1)) * y_7) / 10) + c s (4 * a2))) s (4 * a2 + 1) ((((c s (4 * a2 + 2)) * y_10) / 10) + c s (4 * a2 + 1) - (((c s (4 * a2 + 1)) * y_7) / 10))) s (4 * a2 + 2) ((((c s (4 * a2 + 3)) * y_13) / 10) + c s (4 * a2 + 2) - (((c s (4 * a2 + 2)) * y_10) / 10))) s (4 * a2 + 3) (c s (4 * a2 + 3) - (((c s (4 * a2 + 3)) * y_13) / 10))) s (4 * a2) ((((c s (4 * a2 + 1)) * y_7) / 10) + c s (4 * a2) - ((((((c s (4 * a2 + 1)) * y_7) / 10) + c s (4 * a2)) * (c P 3)) / 100))) s 32 y_20) s (4 * k9) = (((c s (4 * a2 + 1)) * y_7) / 10) + c s (4 * a2) - ((((((c s (4 * a2 + 1)) * y_7) / 10) + c s (4 * a2)) * (c P 3)) / 100) := (congrArg ((up (up (up (up (up (up c s (4 * a2) ((((c s (4 * a2 + 1)) * y_7) / 10) + c s (4 * a2))) s (4 * a2 + 1) ((((c s (4 * a2 + 2)) * y_10) / 10) + c s (4 * a2 + 1) - (((c s (4 * a2 + 1)) * y_7) / 10))) s (4 * a2 + 2) ((((c s (4 * a2 + 3)) * y_13) / 10) + c s (4 * a2 + 2) - (((c s (4 * a2 + 2)) * y_10) / 10))) s (4 * a2 + 3) (c s (4 * a2 + 3) - (((c s (4 * a2 + 3)) * y_13) / 10))) s (4 * a2) ((((c s (4 * a2 + 1)) * y_7) / 10) + c s (4 * a2) - ((((((c s (4 * a2 + 1)) * y_7) / 10) + c s (4 * a2)) * (c P 3)) / 100))) s 32 y_20) s) (show 4 * k9 = 4 * a2 from congrArg (fun z : Int => 4 * z) e_28)).trans ((up_n (ne_l (by first | exact q_dc9fd3f8b ha2 | omega))).trans (up_e rfl))
        have h_30 : (up (up (up (up (up (up c s (4 * a2) ((((c s (4 * a2 + 1)) * y_7) / 10) + c s (4 * a2))) s (4 * a2 + 1) ((((c s (4 * a2 + 2)) * y_10) / 10) + c s (4 * a2 + 1) - (((c s (4 * a2 + 1)) * y_7) / 10))) s (4 * a2 + 2) ((((c s (4 * a2 + 3)) * y_13) / 10) + c s (4 * a2 + 2) - (((c s (4 * a2 + 2)) * y_10) / 10))) s (4 * a2 + 3) (c s (4 * a2 + 3) - (((c s (4 * a2 + 3)) * y_13) / 10))) s (4 * a2) ((((c s (4 * a2 + 1)) * y_7) / 10) + c s (4 * a2) - ((((((c s (4 * a2 + 1)) * y_7) / 10) + c s (4 * a2)) * (c P 3)) / 100))) s 32 y_20) s (4 * k9 + 1) = (((c s (4 * a2 + 2)) * y_10) / 10) + c s (4 * a2 + 1) - (((c s (4 * a2 + 1)) * y_7) / 10) := (congrArg ((up (up (up (up (up (up c s (4 * a2) ((((c s (4 * a2 + 1)) * y_7) / 10) + c s (4 * a2))) s (4 * a2 + 1) ((((c s (4 * a2 + 2)) * y_10) / 10) + c s (4 * a2 + 1) - (((c s (4 * a2 + 1)) * y_7) / 10))) s (4 * a2 + 2) ((((c s (4 * a2 + 3)) * y_13) / 10) + c s (4 * a2 + 2) - (((c s (4 * a2 + 2)) * y_10) / 10))) s (4 * a2 + 3) (c s (4 * a2 + 3) - (((c s (4 * a2 + 3)) * y_13) / 10))) s (4 * a2) ((((c s (4 * a2 + 1)) * y_7) / 10) + c s (4 * a2) - ((((((c s (4 * a2 + 1)) * y_7) / 10) + c s (4 * a2)) * (c P 3)) / 100))) s 32 y_20) s) (show 4 * k9 + 1 = 4 * a2 + 1 from congrArg (fun z : Int => 4 * z + 1) e_28)).trans ((up_n (ne_l (by first | exact q_ab78ec18a ha2 | omega))).trans ((up_n (by first | exact ne_a0 (by decide) | omega)).trans ((up_n (by first | exact ne_aa (by decide) | omega)).trans ((up_n (by first | exact ne_aa (by decide) | omega)).trans (up_e rfl)))))
        have h_31 : (up (up (up (up (up (up c s (4 * a2) ((((c s (4 * a2 + 1)) * y_7) / 10) + c s (4 * a2))) s (4 * a2 + 1) ((((c s (4 * a2 + 2)) * y_10) / 10) + c s (4 * a2 + 1) - (((c s (4 * a2 + 1)) * y_7) / 10))) s (4 * a2 + 2) ((((c s (4 * a2 + 3)) * y_13) / 10) + c s (4 * a2 + 2) - (((c s (4 * a2 + 2)) * y_10) / 10))) s (4 * a2 + 3) (c s (4 * a2 + 3) - (((c s (4 * a2 + 3)) * y_13) / 10))) s (4 * a2) ((((c s (4 * a2 + 1)) * y_7) / 10) + c s (4 * a2) - ((((((c s (4 * a2 + 1)) * y_7) / 10) + c s (4 * a2)) * (c P 3)) / 100))) s 32 y_20) s (4 * k9 + 2) = (((c s (4 * a2 + 3)) * y_13) / 10) + c s (4 * a2 + 2) - (((c s (4 * a2 + 2)) * y_10) / 10) := (congrArg ((up (up (up (up (up (up c s (4 * a2) ((((c s (4 * a2 + 1)) * y_7) / 10) + c s (4 * a2))) s (4 * a2 + 1) ((((c s (4 * a2 + 2)) * y_10) / 10) + c s (4 * a2 + 1) - (((c s (4 * a2 + 1)) * y_7) / 10))) s (4 * a2 + 2) ((((c s (4 * a2 + 3)) * y_13) / 10) + c s (4 * a2 + 2) - (((c s (4 * a2 + 2)) * y_10) / 10))) s (4 * a2 + 3) (c s (4 * a2 + 3) - (((c s (4 * a2 + 3)) * y_13) / 10))) s (4 * a2) ((((c s (4 * a2 + 1)) * y_7) / 10) + c s (4 * a2) - ((((((c s (4 * a2 + 1)) * y_7) / 10) + c s (4 * a2)) * (c P 3)) / 100))) s 32 y_20) s) (show 4 * k9 + 2 = 4 * a2 + 2 from congrArg (fun z : Int => 4 * z + 2) e_28)).trans ((up_n (ne_l (by first | exact q_13bfd6882 ha2 | omega))).trans ((up_n (by first | exact ne_a0 (by decide) | omega)).trans ((up_n (by first | exact ne_aa (by decide) | omega)).trans (up_e rfl))))
        have h_32 : (up (up (up (up (up (up c s (4 * a2) ((((c s (4 * a2 + 1)) * y_7) / 10) + c s (4 * a2))) s (4 * a2 + 1) ((((c s (4 * a2 + 2)) * y_10) / 10) + c s (4 * a2 + 1) - (((c s (4 * a2 + 1)) * y_7) / 10))) s (4 * a2 + 2) ((((c s (4 * a2 + 3)) * y_13) / 10) + c s (4 * a2 + 2) - (((c s (4 * a2 + 2)) * y_10) / 10))) s (4 * a2 + 3) (c s (4 * a2 + 3) - (((c s (4 * a2 + 3)) * y_13) / 10))) s (4 * a2) ((((c s (4 * a2 + 1)) * y_7) / 10) + c s (4 * a2) - ((((((c s (4 * a2 + 1)) * y_7) / 10) + c s (4 * a2)) * (c P 3)) / 100))) s 32 y_20) s (4 * k9 + 3) = c s (4 * a2 + 3) - (((c s (4 * a2 + 3)) * y_13) / 10) := (congrArg ((up (up (up (up (up (up c s (4 * a2) ((((c s (4 * a2 + 1)) * y_7) / 10) + c s (4 * a2))) s (4 * a2 + 1) ((((c s (4 * a2 + 2)) * y_10) / 10) + c s (4 * a2 + 1) - (((c s (4 * a2 + 1)) * y_7) / 10))) s (4 * a2 + 2) ((((c s (4 * a2 + 3)) * y_13) / 10) + c s (4 * a2 + 2) - (((c s (4 * a2 + 2)) * y_10) / 10))) s (4 * a2 + 3) (c s (4 * a2 + 3) - (((c s (4 * a2 + 3)) * y_13) / 10))) s (4 * a2) ((((c s (4 * a2 + 1)) * y_7) / 10) + c s (4 * a2) - ((((((c s (4 * a2 + 1)) * y_7) / 10) + c s (4 * a2)) * (c P 3)) / 100))) s 32 y_20) s) (show 4 * k9 + 3 = 4 * a2 + 3 from congrArg (fun z : Int => 4 * z + 3) e_28)).trans ((up_n (ne_l (by first | exact q_d17500877 ha2 | omega))).trans ((up_n (by first | exact ne_a0 (by decide) | omega)).trans (up_e rfl)))
        exact sm4 h_29 h_30 h_31 h_32 (by first | (clear ha1 ha2 h_2 h_3 h_4 h_5 h_8 h_9 h_11 h_12 h_14 h_15 h_16 h_18 h_19 hk9 e_28 h_6; omega) | omega)
      have h_33 := iv_r hI s (4 * k9) hj9 (by omega)
      have h_34 := ir_s_g hI hs (j := 4 * k9) (by first | exact q_9f1d5ffdc hk9 | omega)
      have h_35 : (up (up (up (up (up (up c s (4 * a2) ((((c s (4 * a2 + 1)) * y_7) / 10) + c s (4 * a2))) s (4 * a2 + 1) ((((c s (4 * a2 + 2)) * y_10) / 10) + c s (4 * a2 + 1) - (((c s (4 * a2 + 1)) * y_7) / 10))) s (4 * a2 + 2) ((((c s (4 * a2 + 3)) * y_13) / 10) + c s (4 * a2 + 2) - (((c s (4 * a2 + 2)) * y_10) / 10))) s (4 * a2 + 3) (c s (4 * a2 + 3) - (((c s (4 * a2 + 3)) * y_13) / 10))) s (4 * a2) ((((c s (4 * a2 + 1)) * y_7) / 10) + c s (4 * a2) - ((((((c s (4 * a2 + 1)) * y_7) / 10) + c s (4 * a2)) * (c P 3)) / 100))) s 32 y_20) s (4 * k9) = c s (4 * k9) := ((up_n (ne_l (by first | exact q_dc9fd3f8b hk9 | omega))).trans ((up_n (by first | exact q_336fb6678 e_28 | omega)).trans ((up_n (by first | exact q_8ac71c5f3 | omega)).trans ((up_n (by first | exact q_c037f51da | omega)).trans ((up_n (by first | exact q_b2cb8bf87 | omega)).trans (up_n (by first | exact q_336fb6678 e_28 | omega)))))))
      have h_36 := ir_s_g hI hs (j := 4 * k9 + 1) (by first | exact q_0a2ee6f8f hk9 | omega)
      have h_37 : (up (up (up (up (up (up c s (4 * a2) ((((c s (4 * a2 + 1)) * y_7) / 10) + c s (4 * a2))) s (4 * a2 + 1) ((((c s (4 * a2 + 2)) * y_10) / 10) + c s (4 * a2 + 1) - (((c s (4 * a2 + 1)) * y_7) / 10))) s (4 * a2 + 2) ((((c s (4 * a2 + 3)) * y_13) / 10) + c s (4 * a2 + 2) - (((c s (4 * a2 + 2)) * y_10) / 10))) s (4 * a2 + 3) (c s (4 * a2 + 3) - (((c s (4 * a2 + 3)) * y_13) / 10))) s (4 * a2) ((((c s (4 * a2 + 1)) * y_7) / 10) + c s (4 * a2) - ((((((c s (4 * a2 + 1)) * y_7) / 10) + c s (4 * a2)) * (c P 3)) / 100))) s 32 y_20) s (4 * k9 + 1) = c s (4 * k9 + 1) := ((up_n (ne_l (by first | exact q_ab78ec18a hk9 | omega))).trans ((up_n (by first | exact q_e5bcc673e | omega)).trans ((up_n (by first | exact q_7c6b1b09a | omega)).trans ((up_n (by first | exact q_3650b790c | omega)).trans ((up_n (by first | exact q_52b51d728 e_28 | omega)).trans (up_n (by first | exact q_e5bcc673e | omega)))))))
      have h_38 := ir_s_g hI hs (j := 4 * k9 + 2) (by first | exact q_e07a293a2 hk9 | omega)
      have h_39 : (up (up (up (up (up (up c s (4 * a2) ((((c s (4 * a2 + 1)) * y_7) / 10) + c s (4 * a2))) s (4 * a2 + 1) ((((c s (4 * a2 + 2)) * y_10) / 10) + c s (4 * a2 + 1) - (((c s (4 * a2 + 1)) * y_7) / 10))) s (4 * a2 + 2) ((((c s (4 * a2 + 3)) * y_13) / 10) + c s (4 * a2 + 2) - (((c s (4 * a2 + 2)) * y_10) / 10))) s (4 * a2 + 3) (c s (4 * a2 + 3) - (((c s (4 * a2 + 3)) * y_13) / 10))) s (4 * a2) ((((c s (4 * a2 + 1)) * y_7) / 10) + c s (4 * a2) - ((((((c s (4 * a2 + 1)) * y_7) / 10) + c s (4 * a2)) * (c P 3)) / 100))) s 32 y_20) s (4 * k9 + 2) = c s (4 * k9 + 2) := ((up_n (ne_l (by first | exact q_13bfd6882 hk9 | omega))).trans ((up_n (by first | exact q_ae83e86ba | omega)).trans ((up_n (by first | exact q_91c5bd343 | omega)).trans ((up_n (by first | exact q_27892e29e e_28 | omega)).trans ((up_n (by first | exact q_08c3d7060 | omega)).trans (up_n (by first | exact q_ae83e86ba | omega)))))))
      have h_40 := ir_s_g hI hs (j := 4 * k9 + 3) (by first | exact q_d09cb0b73 hk9 | omega)
      have h_41 : (up (up (up (up (up (up c s (4 * a2) ((((c s (4 * a2 + 1)) * y_7) / 10) + c s (4 * a2))) s (4 * a2 + 1) ((((c s (4 * a2 + 2)) * y_10) / 10) + c s (4 * a2 + 1) - (((c s (4 * a2 + 1)) * y_7) / 10))) s (4 * a2 + 2) ((((c s (4 * a2 + 3)) * y_13) / 10) + c s (4 * a2 + 2) - (((c s (4 * a2 + 2)) * y_10) / 10))) s (4 * a2 + 3) (c s (4 * a2 + 3) - (((c s (4 * a2 + 3)) * y_13) / 10))) s (4 * a2) ((((c s (4 * a2 + 1)) * y_7) / 10) + c s (4 * a2) - ((((((c s (4 * a2 + 1)) * y_7) / 10) + c s (4 * a2)) * (c P 3)) / 100))) s 32 y_20) s (4 * k9 + 3) = c s (4 * k9 + 3) := ((up_n (ne_l (by first | exact q_d17500877 hk9 | omega))).trans ((up_n (by first | exact q_b6789388a | omega)).trans ((up_n (by first | exact q_2db9f474b e_28 | omega)).trans ((up_n (by first | exact q_28d70e8e5 | omega)).trans ((up_n (by first | exact q_6d5c6886e | omega)).trans (up_n (by first | exact q_b6789388a | omega)))))))
      exact sm4 h_35 h_37 h_39 h_41 h_33
    have hI_42 := iv_close hI_26 hr_27
    exact K (up (up (up (up (up (up c s (4 * a2) ((((c s (4 * a2 + 1)) * y_7) / 10) + c s (4 * a2))) s (4 * a2 + 1) ((((c s (4 * a2 + 2)) * y_10) / 10) + c s (4 * a2 + 1) - (((c s (4 * a2 + 1)) * y_7) / 10))) s (4 * a2 + 2) ((((c s (4 * a2 + 3)) * y_13) / 10) + c s (4 * a2 + 2) - (((c s (4 * a2 + 2)) * y_10) / 10))) s (4 * a2 + 3) (c s (4 * a2 + 3) - (((c s (4 * a2 + 3)) * y_13) / 10))) s (4 * a2) ((((c s (4 * a2 + 1)) * y_7) / 10) + c s (4 * a2) - ((((((c s (4 * a2 + 1)) * y_7) / 10) + c s (4 * a2)) * (c P 3)) / 100))) s 32 y_20) 1 hI_42 (fun a j hm => (up_b (Decidable.or_iff_not_imp_left.mpr (fun h1 h2 => hm (Decidable.not_not.mp h1)))).trans ((up_b (Decidable.or_iff_not_imp_left.mpr (fun h1 h2 => hm (Decidable.not_not.mp h1)))).trans ((up_b (Decidable.or_iff_not_imp_left.mpr (fun h1 h2 => hm (Decidable.not_not.mp h1)))).trans ((up_b (Decidable.or_iff_not_imp_left.mpr (fun h1 h2 => hm (Decidable.not_not.mp h1)))).trans ((up_b (Decidable.or_iff_not_imp_left.mpr (fun h1 h2 => hm (Decidable.not_not.mp h1)))).trans (up_b (Decidable.or_iff_not_imp_left.mpr (fun h1 h2 => hm (Decidable.not_not.mp h1))))))))) ⟨by decide, by decide⟩
  · refine v_if_ne_f (t := 10) c_44_5 rfl (Decidable.not_not.mp h_6) (q_iconst c_44_8 (v_zret c_44_9 rfl (by decide) ?_))
    exact K c 0 hI (fun a j hm => rfl) ⟨by decide, by decide⟩

set_option maxRecDepth 100000 in
set_option maxHeartbeats 4000000 in
theorem s_45 {sc : List Int32} {e : Int} {d u P Q sh s : Nat} {c : ME} {v1 r : Int} {a1 : Int} {a2 : Int} {Z : AR → Prop} (hI : Iv u e P Q c) (hs : (sh = 37 ∧ s = 38) ∨ (sh = 39 ∧ s = 40)) (ha1 : 0 ≤ a1 ∧ a1 ≤ 5) (ha2 : 0 ≤ a2 ∧ a2 ≤ 3) (hv0 : c s (4 * a1 + a2) = v1) (hr9 : v1 = r) (K : Z (.inl (some (vi r)), Wd P Q P P c, 0, 0)) : Wp sc (d + 7) 45 0 [(0, .ref sh), (1, vi a1), (2, vi a2)] [] (Wd P Q P P c) 0 0 Z := by
  have hP := iv_P hI
  have hQ := iv_Q hI
  have h_1 := ir_s_g hI hs (j := 4 * a1 + a2) (by first | exact q_d5fe0d0d1 ha1 ha2 | omega)
  refine q_aload_n c_45_0 rfl (v_gr (t := s) c_45_1 kf_4_11 (ck_sh hs) (a68sh hs) rfl (q_iload_n c_45_4 rfl (q_iconst c_45_5 (v_imul (v := 4 * a1) c_45_6 (by first | exact q_a509a7ce7 | omega) (q_iload_n c_45_7 rfl (v_iadd (v := 4 * a1 + a2) c_45_8 rfl (v_ia (v := v1) c_45_9 (ck_s hs) (a68s hs) (by decide) ⟨by first | exact q_404267838 ha1 ha2 | omega, by first | exact q_8b630baa7 ha1 ha2 | omega⟩ (hv0) ?_)))))))
  refine q_iret c_45_10 rfl ?_
  exact zv (by omega) (K)

set_option maxRecDepth 100000 in
set_option maxHeartbeats 4000000 in
theorem s_46 {sc : List Int32} {e : Int} {d u P Q sh s : Nat} {c : ME} {v1 r : Int} {a1 : Int} {Z : AR → Prop} (hI : Iv u e P Q c) (hs : (sh = 37 ∧ s = 38) ∨ (sh = 39 ∧ s = 40)) (ha1 : 0 ≤ a1 ∧ a1 ≤ 3) (hv0 : c s 30 = v1) (hr9 : tb v1 a1 = r) (K : Z (.inl (some (vi r)), Wd P Q P P c, 0, 0)) : Wp sc (d + 7) 46 0 [(0, .ref sh), (1, vi a1)] [] (Wd P Q P P c) 0 0 Z := by
  refine q_aload_n rfl rfl (v_gr (t := s) rfl rfl (ck_sh hs) (by omega) rfl (v_bip rfl (by decide) (v_ia (v := v1) rfl (ck_s hs) (by omega) (by decide) (by decide) hv0 (q_iload_n rfl rfl (q_ishr rfl (q_iconst rfl (q_iand rfl ?_)))))))
  refine q_iconst rfl ?_
  by_cases h : ((Int32.ofInt v1 >>> (Int32.ofInt a1 &&& 31)) &&& 1) = 1
  · refine q_ic_ne_f (t := 19) rfl (by decide) (fun q => q h) (q_iconst rfl (q_goto (t := 20) rfl rfl (v_zret (a := 1) rfl rfl (by decide) ?_)))
    exact zv (by rw [← hr9]; unfold tb; rw [if_pos h]) K
  · refine q_ic_ne_t (t := 19) rfl (by decide) h (q_iconst rfl (v_zret (a := 0) rfl rfl (by decide) ?_))
    exact zv (by rw [← hr9]; unfold tb; rw [if_neg h]) K

set_option maxRecDepth 100000 in
set_option maxHeartbeats 4000000 in
theorem s_47 {sc : List Int32} {e : Int} {d u P Q sh s : Nat} {c : ME} {v1 v2 r : Int} {a1 : Int} {a2 : Int} {a3 : Int} {Z : AR → Prop} (hI : Iv u e P Q c) (hs : (sh = 37 ∧ s = 38) ∨ (sh = 39 ∧ s = 40)) (ha1 : 0 ≤ a1 ∧ a1 ≤ 3) (ha2 : 0 ≤ a2 ∧ a2 ≤ 3) (ha3 : 0 ≤ a3 ∧ a3 ≤ 9999) (hv0 : c (P + 3) a1 = v1) (hv1 : c s 30 = v2) (hr9 : fal v1 (tb v2 a1) a2 a3 = r) (K : Z (.inl (some (vi r)), Wd P Q P P c, 0, 0)) : Wp sc (d + 8) 47 0 [(0, .ref sh), (1, vi a1), (2, vi a2), (3, vi a3)] [] (Wd P Q P P c) 0 0 Z := by
  have hP := iv_P hI
  have hQ := iv_Q hI
  have h_1 := ir_p3 hI hP a1
  have h_2 := ir_s hI hs 30
  refine q_aload_n c_47_0 rfl (v_gr (t := P) c_47_1 kf_4_15 (ck_sh hs) (a68sh hs) rfl (v_gr (t := (P + 3)) c_47_4 kf_4_58 (ck_p0 hP) (a68z hP) rfl (q_iload_n c_47_7 rfl (v_ia (v := v1) c_47_8 (ck_p3 hP) (a68 hP rfl) (by decide) ⟨ha1.1, by first | exact q_b6d45db89 ha1 | omega⟩ (hv0) (q_istore c_47_9 (nb_ rfl) (q_iload_n c_47_11 rfl (q_iload c_47_12 rfl ?_)))))))
  by_cases h_3 : a2 > v1
  · refine v_ic_gt_t (t := 19) c_47_14 rfl ⟨by omega, h_3, (Int.le_trans ha2.2 (by decide))⟩ (q_iload_n c_47_19 rfl (q_iload c_47_20 rfl (q_iconst c_47_22 (v_iadd (v := v1 + 1) c_47_23 rfl ?_))))
    by_cases h_4 : a2 ≠ v1 + 1
    · refine v_ic_ne_t (t := 41) c_47_24 rfl ⟨h_4, ⟨(Int.le_trans (by decide) ha2.1), (Int.le_trans ha2.2 (by decide))⟩, by omega, by first | exact q_429e24ab3 h_3 ha2 | omega⟩ (q_iconst c_47_41 (q_iret c_47_42 rfl ?_))
      exact zv (by rw [← hr9]; unfold fal; split <;> first | omega | (split <;> omega)) (K)
    · refine v_ic_ne_f (t := 41) c_47_24 rfl (Decidable.not_not.mp h_4) (q_aload_n c_47_27 rfl (q_iload_n c_47_28 rfl ?_))
      have h_5 := tb_rng v2 a1
      refine v_cv c_47_29 km_4_61 rfl (ck_sh hs) (a68sh hs) ⟨⟨rfl, rfl⟩, by decide, rfl⟩ (nb_ rfl) (nb_ rfl) (s_46 (v1 := v2) (r := (tb v2 a1)) (a1 := a1) hI hs (show 0 ≤ a1 ∧ a1 ≤ 3 from ha1) ((hv1)) rfl (bk_inl ?_))
      by_cases h_6 : (tb v2 a1) = 0
      · refine v_if_eq_t (t := 41) c_47_32 rfl h_6 (q_iconst c_47_41 (q_iret c_47_42 rfl ?_))
        exact zv (by rw [← hr9]; unfold fal; split <;> first | omega | (split <;> omega)) (K)
      · refine v_if_eq_f (t := 41) c_47_32 rfl ⟨h_6, ⟨by omega, by omega⟩, by decide, by decide⟩ (q_iload_n c_47_35 rfl (q_iconst c_47_36 (v_idiv (v := (a3 / 2)) c_47_37 (by omega) rfl (q_goto (t := 42) c_47_38 rfl (q_iret c_47_42 rfl ?_)))))
        exact zv (by rw [← hr9]; unfold fal; split <;> first | omega | (split <;> omega)) (K)
  · refine v_ic_gt_f (t := 19) c_47_14 rfl ⟨(Int.le_trans (by decide) ha2.1), (Int.not_lt.mp h_3), by omega⟩ (q_iload_n c_47_17 rfl (q_iret c_47_18 rfl ?_))
    exact zv (by rw [← hr9]; unfold fal; split <;> first | omega | (split <;> omega)) (K)

set_option maxRecDepth 100000 in
set_option maxHeartbeats 4000000 in
theorem s_48 {sc : List Int32} {e : Int} {d u P Q sh s : Nat} {c : ME} {v1 v2 v3 r : Int} {a1 : Int} {a2 : Int} {a3 : Int} {Z : AR → Prop} (hI : Iv u e P Q c) (hs : (sh = 37 ∧ s = 38) ∨ (sh = 39 ∧ s = 40)) (ha1 : 0 ≤ a1 ∧ a1 ≤ 3) (ha2 : 0 ≤ a2 ∧ a2 ≤ 5) (ha3 : 0 ≤ a3 ∧ a3 ≤ 3) (hv0 : c (P + 3) a1 = v1) (hv1 : c s 30 = v2) (hv2 : c s (4 * a2 + a3) = v3) (hr9 : fal v1 (tb v2 a1) a3 v3 = r) (K : Z (.inl (some (vi r)), Wd P Q P P c, 0, 0)) : Wp sc (d + 9) 48 0 [(0, .ref sh), (1, vi a1), (2, vi a2), (3, vi a3)] [] (Wd P Q P P c) 0 0 Z := by
  have hP := iv_P hI
  have hQ := iv_Q hI
  have h_1 := ir_p3 hI hP a1
  have h_2 := ir_s hI hs 30
  have h_3 := ir_s_g hI hs (j := 4 * a2 + a3) (by first | exact q_d5fe0d0d1 ha2 ha3 | omega)
  refine q_aload_n c_48_0 rfl (q_iload_n c_48_1 rfl (q_iload_n c_48_2 rfl (q_aload_n c_48_3 rfl (q_iload_n c_48_4 rfl (q_iload_n c_48_5 rfl (v_cv c_48_6 km_4_34 rfl (ck_sh hs) (a68sh hs) ⟨⟨rfl, rfl⟩, by decide, rfl⟩ (nb_ rfl) (nb_ rfl) (s_45 (v1 := v3) (r := v3) (a1 := a2) (a2 := a3) hI hs (show 0 ≤ a2 ∧ a2 ≤ 5 from ha2) (show 0 ≤ a3 ∧ a3 ≤ 3 from ha3) ((hv2)) (by omega) (bk_inl ?_))))))))
  have h_4 := fal_rng (m := v1) (t := tb v2 a1) (g := a3) (x := v3) (by omega)
  refine v_cv c_48_9 km_4_65 rfl (ck_sh hs) (a68sh hs) ⟨⟨rfl, rfl⟩, by decide, rfl⟩ (nb_ rfl) (nb_ rfl) (s_47 (v1 := v1) (v2 := v2) (r := (fal v1 (tb v2 a1) a3 v3)) (a1 := a1) (a2 := a3) (a3 := v3) hI hs (show 0 ≤ a1 ∧ a1 ≤ 3 from ha1) (show 0 ≤ a3 ∧ a3 ≤ 3 from ha3) (show 0 ≤ v3 ∧ v3 ≤ 9999 from ⟨by omega, by omega⟩) ((hv0)) ((hv1)) rfl (bk_inl (q_iret c_48_12 rfl ?_)))
  exact zv hr9 (K)

set_option maxRecDepth 100000 in
set_option maxHeartbeats 4000000 in
theorem s_49 {sc : List Int32} {e : Int} {d u P Q sh s : Nat} {c : ME} {v1 v2 v3 v4 v5 v6 r : Int} {a1 : Int} {a2 : Int} {Z : AR → Prop} (hI : Iv u e P Q c) (hs : (sh = 37 ∧ s = 38) ∨ (sh = 39 ∧ s = 40)) (ha1 : 0 ≤ a1 ∧ a1 ≤ 3) (ha2 : 0 ≤ a2 ∧ a2 ≤ 5) (hv0 : c (P + 3) a1 = v1) (hv1 : c s 30 = v2) (hv2 : c s (4 * a2) = v3) (hv3 : c s (4 * a2 + 1) = v4) (hv4 : c s (4 * a2 + 2) = v5) (hv5 : c s (4 * a2 + 3) = v6) (hr9 : fal v1 (tb v2 a1) 0 v3 + fal v1 (tb v2 a1) 1 v4 + fal v1 (tb v2 a1) 2 v5 + fal v1 (tb v2 a1) 3 v6 = r) (K : Z (.inl (some (vi r)), Wd P Q P P c, 0, 0)) : Wp sc (d + 10) 49 0 [(0, .ref sh), (1, vi a1), (2, vi a2)] [] (Wd P Q P P c) 0 0 Z := by
  have hP := iv_P hI
  have hQ := iv_Q hI
  have h_1 := ir_p3 hI hP a1
  have h_2 := ir_s hI hs 30
  have h_3 := ir_s_g hI hs (j := 4 * a2) (by first | exact q_9f1d5ffdc ha2 | omega)
  have h_4 := ir_s_g hI hs (j := 4 * a2 + 1) (by first | exact q_0a2ee6f8f ha2 | omega)
  have h_5 := ir_s_g hI hs (j := 4 * a2 + 2) (by first | exact q_e07a293a2 ha2 | omega)
  have h_6 := ir_s_g hI hs (j := 4 * a2 + 3) (by first | exact q_d09cb0b73 ha2 | omega)
  refine q_iconst c_49_0 (q_istore_n c_49_1 (nb_ rfl) (q_iconst c_49_2 (q_istore c_49_3 (nb_ rfl) (q_iload c_49_5 rfl (q_iconst c_49_7 (v_ic_ge_f (t := 28) c_49_8 rfl (by decide) (q_iload_n c_49_11 rfl ?_)))))))
  refine q_aload_n c_49_12 rfl (q_iload_n c_49_13 rfl (q_iload_n c_49_14 rfl (q_iload c_49_15 rfl ?_)))
  have h_7 := fal_rng (m := v1) (t := tb v2 a1) (g := 0) (x := v3) (by first | (clear ha1 ha2 h_1 hv0 h_2 hv1 h_4 hv3 h_5 hv4 h_6 hv5; omega) | omega)
  refine v_cv c_49_17 km_4_69 rfl (ck_sh hs) (a68sh hs) ⟨⟨rfl, rfl⟩, by decide, rfl⟩ (nb_ rfl) (nb_ rfl) (s_48 (v1 := v1) (v2 := v2) (v3 := v3) (r := (fal v1 (tb v2 a1) 0 v3)) (a1 := a1) (a2 := a2) (a3 := 0) hI hs (show 0 ≤ a1 ∧ a1 ≤ 3 from ha1) (show 0 ≤ a2 ∧ a2 ≤ 5 from ha2) (show 0 ≤ 0 ∧ 0 ≤ 3 from ⟨by decide, by decide⟩) ((hv0)) ((hv1)) ((congrArg (c s) (show 4 * a2 + 0 = 4 * a2 from by first | exact q_8baad3eb5 | omega)).trans (hv2)) rfl (bk_inl (v_iadd (v := (fal v1 (tb v2 a1) 0 v3)) c_49_20 (by first | exact q_afa8f900d | omega) (q_istore_n c_49_21 (nb_ rfl) (v_iinc (v := 1) c_49_22 rfl (nb_ rfl) (by decide) (q_goto (t := 5) c_49_25 rfl (q_iload c_49_5 rfl (q_iconst c_49_7 ?_))))))))
  refine v_ic_ge_f (t := 28) c_49_8 rfl (by decide) (q_iload_n c_49_11 rfl (q_aload_n c_49_12 rfl (q_iload_n c_49_13 rfl (q_iload_n c_49_14 rfl (q_iload c_49_15 rfl ?_)))))
  have h_8 := fal_rng (m := v1) (t := tb v2 a1) (g := 1) (x := v4) (by first | (clear ha1 ha2 h_1 hv0 h_2 hv1 h_3 hv2 h_5 hv4 h_6 hv5 h_7; omega) | omega)
  refine v_cv c_49_17 km_4_69 rfl (ck_sh hs) (a68sh hs) ⟨⟨rfl, rfl⟩, by decide, rfl⟩ (nb_ rfl) (nb_ rfl) (s_48 (v1 := v1) (v2 := v2) (v3 := v4) (r := (fal v1 (tb v2 a1) 1 v4)) (a1 := a1) (a2 := a2) (a3 := 1) hI hs (show 0 ≤ a1 ∧ a1 ≤ 3 from ha1) (show 0 ≤ a2 ∧ a2 ≤ 5 from ha2) (show 0 ≤ 1 ∧ 1 ≤ 3 from ⟨by decide, by decide⟩) ((hv0)) ((hv1)) ((hv3)) rfl (bk_inl (v_iadd (v := (fal v1 (tb v2 a1) 0 v3) + (fal v1 (tb v2 a1) 1 v4)) c_49_20 rfl (q_istore_n c_49_21 (nb_ rfl) (Wp_ls [(3, vi ((fal v1 (tb v2 a1) 0 v3) + (fal v1 (tb v2 a1) 1 v4))), (4, vi 1), (0, .ref sh), (1, vi a1), (2, vi a2)] (lsub_cons rfl (lsub_cons rfl (lsub_cons rfl (lsub_cons rfl (lsub_cons rfl lsub_nil))))) (v_iinc (v := 2) c_49_22 rfl (nb_ rfl) (by decide) (q_goto (t := 5) c_49_25 rfl (q_iload c_49_5 rfl ?_))))))))
  refine q_iconst c_49_7 (v_ic_ge_f (t := 28) c_49_8 rfl (by decide) (q_iload_n c_49_11 rfl (q_aload_n c_49_12 rfl (q_iload_n c_49_13 rfl (q_iload_n c_49_14 rfl (q_iload c_49_15 rfl ?_))))))
  have h_9 := fal_rng (m := v1) (t := tb v2 a1) (g := 2) (x := v5) (by first | (clear ha1 ha2 h_1 hv0 h_2 hv1 h_3 hv2 h_4 hv3 h_6 hv5 h_7 h_8; omega) | omega)
  refine v_cv c_49_17 km_4_69 rfl (ck_sh hs) (a68sh hs) ⟨⟨rfl, rfl⟩, by decide, rfl⟩ (nb_ rfl) (nb_ rfl) (s_48 (v1 := v1) (v2 := v2) (v3 := v5) (r := (fal v1 (tb v2 a1) 2 v5)) (a1 := a1) (a2 := a2) (a3 := 2) hI hs (show 0 ≤ a1 ∧ a1 ≤ 3 from ha1) (show 0 ≤ a2 ∧ a2 ≤ 5 from ha2) (show 0 ≤ 2 ∧ 2 ≤ 3 from ⟨by decide, by decide⟩) ((hv0)) ((hv1)) ((hv4)) rfl (bk_inl (v_iadd (v := (fal v1 (tb v2 a1) 0 v3) + (fal v1 (tb v2 a1) 1 v4) + (fal v1 (tb v2 a1) 2 v5)) c_49_20 rfl (q_istore_n c_49_21 (nb_ rfl) (v_iinc (v := 3) c_49_22 rfl (nb_ rfl) (by decide) (q_goto (t := 5) c_49_25 rfl (q_iload c_49_5 rfl (q_iconst c_49_7 ?_))))))))
  refine v_ic_ge_f (t := 28) c_49_8 rfl (by decide) (q_iload_n c_49_11 rfl (q_aload_n c_49_12 rfl (q_iload_n c_49_13 rfl (q_iload_n c_49_14 rfl (q_iload c_49_15 rfl ?_)))))
  have h_10 := fal_rng (m := v1) (t := tb v2 a1) (g := 3) (x := v6) (by first | (clear ha1 ha2 h_1 hv0 h_2 hv1 h_3 hv2 h_4 hv3 h_5 hv4 h_7 h_8 h_9; omega) | omega)
  refine v_cv c_49_17 km_4_69 rfl (ck_sh hs) (a68sh hs) ⟨⟨rfl, rfl⟩, by decide, rfl⟩ (nb_ rfl) (nb_ rfl) (s_48 (v1 := v1) (v2 := v2) (v3 := v6) (r := (fal v1 (tb v2 a1) 3 v6)) (a1 := a1) (a2 := a2) (a3 := 3) hI hs (show 0 ≤ a1 ∧ a1 ≤ 3 from ha1) (show 0 ≤ a2 ∧ a2 ≤ 5 from ha2) (show 0 ≤ 3 ∧ 3 ≤ 3 from ⟨by decide, by decide⟩) ((hv0)) ((hv1)) ((hv5)) rfl (bk_inl (v_iadd (v := (fal v1 (tb v2 a1) 0 v3) + (fal v1 (tb v2 a1) 1 v4) + (fal v1 (tb v2 a1) 2 v5) + (fal v1 (tb v2 a1) 3 v6)) c_49_20 rfl (q_istore_n c_49_21 (nb_ rfl) (v_iinc (v := 4) c_49_22 rfl (nb_ rfl) (by decide) (Wp_ls [(4, vi 4), (3, vi ((fal v1 (tb v2 a1) 0 v3) + (fal v1 (tb v2 a1) 1 v4) + (fal v1 (tb v2 a1) 2 v5) + (fal v1 (tb v2 a1) 3 v6))), (0, .ref sh), (1, vi a1), (2, vi a2)] (lsub_cons rfl (lsub_cons rfl (lsub_cons rfl (lsub_cons rfl (lsub_cons rfl lsub_nil))))) (q_goto (t := 5) c_49_25 rfl (q_iload c_49_5 rfl ?_))))))))
  refine q_iconst c_49_7 (v_ic_ge_t (t := 28) c_49_8 rfl (by decide) (q_iload_n c_49_28 rfl (q_iret c_49_29 rfl ?_)))
  exact zv (by omega) (K)

set_option maxRecDepth 100000 in
set_option maxHeartbeats 4000000 in
theorem s_51 {sc : List Int32} {e : Int} {d u P Q sh s : Nat} {c : ME} {a1 : Int} {Z : AR → Prop} (hI : Iv u e P Q c) (hs : (sh = 37 ∧ s = 38) ∨ (sh = 39 ∧ s = 40)) (ha1 : 0 ≤ a1 ∧ a1 ≤ 5) (K : ∀ (y : Int), (-2147483648) ≤ y ∧ y ≤ 2147483647 → Z (.inl (some (vi y)), Wd P Q P P c, 0, 0)) : Wp sc (d + 7) 51 0 [(0, .ref sh), (1, vi a1)] [] (Wd P Q P P c) 0 0 Z := by
  have hP := iv_P hI
  have hQ := iv_Q hI
  refine q_aload_n c_51_0 rfl (v_gr (t := s) c_51_1 kf_4_11 (ck_sh hs) (a68sh hs) rfl (v_bip c_51_4 (by decide) (q_iload_n c_51_6 rfl (v_iadd (v := a1 + 24) c_51_7 (by first | exact q_1b47056ce | omega) ?_))))
  have h_1 := ir_s hI hs (a1 + 24)
  refine v_ia (v := c s (a1 + 24)) c_51_8 (ck_s hs) (a68s hs) (by decide) ⟨by first | exact rgp_l ha1.1 (by decide) | omega, by first | exact q_99d6360e7 ha1 | omega⟩ rfl (q_iret c_51_9 rfl ?_)
  exact K (c s (a1 + 24)) h_1

set_option maxRecDepth 100000 in
set_option maxHeartbeats 4000000 in
theorem s_52 {sc : List Int32} {d P Q sh s : Nat} {c : ME} {a1 : Int} {a2 : Int} {a3 : Int} {a4 : Int} {Z : AR → Prop} (hI : Iv s (-1) P Q c) (hs : (sh = 37 ∧ s = 38) ∨ (sh = 39 ∧ s = 40)) (ha1 : 0 ≤ a1 ∧ a1 ≤ 5) (ha2 : 0 ≤ a2 ∧ a2 ≤ 5) (ha3 : 0 ≤ a3 ∧ a3 ≤ 3) (ha4 : 0 ≤ a4 ∧ a4 ≤ 9999) (hq0 : (a1 < a2) ∨ (a1 > a2)) (hq1 : (a4 ≤ c s (4 * a1 + a3))) (hq2 : (a4 + c s (4 * a2 + a3) ≤ 9999)) (K : ∀ (c2 : ME), Iv s (-1) P Q c2 → (∀ (a : Nat) (j : Int), ¬ ((a = s ∧ j = 4 * a1 + a3) ∨ (a = s ∧ j = 4 * a2 + a3) ∨ (a = s ∧ j = a2 + 24)) → c2 a j = c a j) → ((c2 s (4 * a1 + a3) = c s (4 * a1 + a3) - a4 ∧ c2 s (4 * a2 + a3) = a4 + c s (4 * a2 + a3))) → Z (.inl (none), Wd P Q P P c2, 0, 0)) : Wp sc (d + 8) 52 0 [(0, .ref sh), (1, vi a1), (2, vi a2), (3, vi a3), (4, vi a4)] [] (Wd P Q P P c) 0 0 Z := by
  have hP := iv_P hI
  have hQ := iv_Q hI
  have h_1 := ir_s_g hI hs (j := 4 * a1 + a3) (by first | exact q_d5fe0d0d1 ha1 ha3 | omega)
  have h_2 := ir_s_g hI hs (j := 4 * a2 + a3) (by first | exact q_d5fe0d0d1 ha2 ha3 | omega)
  refine q_iload c_52_0 rfl ?_
  by_cases h_3 : a4 ≤ 0
  · refine v_if_le_t (t := 57) c_52_2 rfl ⟨(Int.le_trans (by decide) ha4.1), h_3, by decide⟩ (q_vret rfl rfl ?_)
    exact K c hI (fun a j hm => rfl) ⟨by first | exact q_abb127123 h_3 ha4 | omega, by first | exact q_55ccdf6b6 h_3 ha4 | omega⟩
  · refine v_if_le_f (t := 57) c_52_2 rfl ⟨by decide, (Int.not_le.mp h_3), (Int.le_trans ha4.2 (by decide))⟩ (q_aload_n c_52_5 rfl (v_gr (t := s) c_52_6 kf_4_11 (ck_sh hs) (a68sh hs) rfl (q_iload_n c_52_9 rfl (q_iconst c_52_10 (v_imul (v := 4 * a1) c_52_11 (by first | exact q_a509a7ce7 | omega) (q_iload_n c_52_12 rfl (v_iadd (v := 4 * a1 + a3) c_52_13 rfl ?_)))))))
    refine q_dup2 c_52_14 ⟨rfl, rfl⟩ (v_ia (v := c s (4 * a1 + a3)) c_52_15 (ck_s hs) (a68s hs) (by decide) ⟨by first | exact q_404267838 ha1 ha3 | omega, by first | exact q_8b630baa7 ha1 ha3 | omega⟩ rfl (q_iload c_52_16 rfl (v_isub (v := c s (4 * a1 + a3) - a4) c_52_18 rfl (v_is c_52_19 (ck_s hs) (a68s hs) (by decide) ⟨by first | exact q_404267838 ha1 ha3 | omega, by first | exact q_8b630baa7 ha1 ha3 | omega⟩ (q_aload_n c_52_20 rfl (v_gr (t := s) c_52_21 kf_4_11 (ck_sh hs) (a68sh hs) rfl (q_iload_n c_52_24 rfl ?_)))))))
    refine q_iconst c_52_25 (v_imul (v := 4 * a2) c_52_26 (by first | exact q_a509a7ce7 | omega) (q_iload_n c_52_27 rfl (v_iadd (v := 4 * a2 + a3) c_52_28 rfl (q_dup2 c_52_29 ⟨rfl, rfl⟩ (v_ia (v := c s (4 * a2 + a3)) c_52_30 (ck_s hs) (a68s hs) (by decide) ⟨by first | exact q_404267838 ha2 ha3 | omega, by first | exact q_8b630baa7 ha2 ha3 | omega⟩ (up_n (by first | exact q_7f7b626e9 hq0 | omega)) (q_iload c_52_31 rfl (v_iadd (v := a4 + c s (4 * a2 + a3)) c_52_33 (by first | exact q_893c89ded | omega) ?_)))))))
    refine v_is c_52_34 (ck_s hs) (a68s hs) (by decide) ⟨by first | exact q_404267838 ha2 ha3 | omega, by first | exact q_8b630baa7 ha2 ha3 | omega⟩ (q_aload_n c_52_35 rfl (v_gr (t := s) c_52_36 kf_4_11 (ck_sh hs) (a68sh hs) rfl (v_bip c_52_39 (by decide) (q_iload_n c_52_41 rfl (v_iadd (v := a2 + 24) c_52_42 (by first | exact q_1b47056ce | omega) (q_aload_n c_52_43 rfl (q_iload_n c_52_44 rfl ?_)))))))
    have hI_4 := iwr0 (a := s) (j := 4 * a1 + a3) (v := c s (4 * a1 + a3) - a4) hI (rs_cs hs) ⟨by first | exact q_b3f86ca90 hq1 | omega, by first | exact q_b35df0494 h_1 h_3 | omega⟩
    have hI_5 := iwr0 (a := s) (j := 4 * a2 + a3) (v := a4 + c s (4 * a2 + a3)) hI_4 (rs_cs hs) ⟨by first | exact q_5a2195de5 h_2 h_3 | omega, by first | exact q_af952cd18 hq2 | omega⟩
    refine v_cv c_52_45 km_4_46 rfl (ck_sh hs) (a68sh hs) ⟨⟨rfl, rfl⟩, by decide, rfl⟩ (nb_ rfl) (nb_ rfl) (s_51 (a1 := a2) hI_5 hs (show 0 ≤ a2 ∧ a2 ≤ 5 from ha2) (fun y_6 hy_6 => (bk_inl (q_aload_n c_52_48 rfl (q_iload_n c_52_49 rfl (v_cv c_52_50 km_4_46 rfl (ck_sh hs) (a68sh hs) ⟨⟨rfl, rfl⟩, by decide, rfl⟩ (nb_ rfl) (nb_ rfl) (s_51 (a1 := a1) hI_5 hs (show 0 ≤ a1 ∧ a1 ≤ 5 from ha1) (fun y_7 hy_7 => (bk_inl (v_maxx c_52_53 rfl (by omega) (nb_ rfl) ⟨by omega, by omega, by omega, by omega⟩ (fun y_8 hy_8 => (v_is c_52_56 (ck_s hs) (a68s hs) (by decide) ⟨by first | exact rgp_l ha2.1 (by decide) | omega, by first | exact q_99d6360e7 ha2 | omega⟩ ?_))))))))))))
    refine q_vret rfl rfl ?_
    have hI_9 := iwr1 (a := s) (j := a2 + 24) (v := y_8) hI_5 (rs_cs hs) (by first | exact q_cef43cd58 ha2 | omega) ⟨by first | (clear ha1 ha2 ha3 ha4 hq1 hq2 h_1 h_2 h_3 hq0; omega) | omega, by first | (clear ha1 ha2 ha3 ha4 hq1 hq2 h_1 h_2 h_3 hq0; omega) | omega⟩
    have h_10 : (up (up (up c s (4 * a1 + a3) (c s (4 * a1 + a3) - a4)) s (4 * a2 + a3) (a4 + c s (4 * a2 + a3))) s (a2 + 24) y_8) s (4 * a1 + a3) = c s (4 * a1 + a3) - a4 := ((up_n (ne_l (by first | exact q_1d6559917 ha1 ha2 ha3 | omega))).trans ((up_n (by first | exact q_19b072023 hq0 | omega)).trans (up_e rfl)))
    have h_11 : (up (up (up c s (4 * a1 + a3) (c s (4 * a1 + a3) - a4)) s (4 * a2 + a3) (a4 + c s (4 * a2 + a3))) s (a2 + 24) y_8) s (4 * a2 + a3) = a4 + c s (4 * a2 + a3) := ((up_n (ne_l (by first | exact q_983b15064 ha2 ha3 | omega))).trans (up_e rfl))
    exact K (up (up (up c s (4 * a1 + a3) (c s (4 * a1 + a3) - a4)) s (4 * a2 + a3) (a4 + c s (4 * a2 + a3))) s (a2 + 24) y_8) hI_9 (fun a j hm => (up_b (Decidable.or_iff_not_imp_left.mpr (fun h1 h2 => hm (Or.inr (Or.inr ⟨Decidable.not_not.mp h1, h2⟩))))).trans ((up_b (Decidable.or_iff_not_imp_left.mpr (fun h1 h2 => hm (Or.inr (Or.inl ⟨Decidable.not_not.mp h1, h2⟩))))).trans (up_b (Decidable.or_iff_not_imp_left.mpr (fun h1 h2 => hm (Or.inl ⟨Decidable.not_not.mp h1, h2⟩)))))) ⟨by first | assumption | omega, by first | assumption | omega⟩
end
section
/-! ===== contracts 4 ===== -/
theorem q_47ff97009 {x0 x1 : Int} (f0 : 0 ≤ x0 ∧ x0 ≤ x1) : 0 ≤ x0 := by omega
theorem q_b76125d36 {x0 x1 : Int} (f0 : 0 ≤ x0 ∧ x0 ≤ x1) : x0 ≤ x1 := by omega
theorem q_ca906b5de {x0 x1 : Int} (f0 : (x0 < x1) ∨ (x0 > x1)) : ¬ 4 * x1 + 3 = 4 * x0 + 3 := by omega
theorem q_e782b8c3c {x0 x1 : Int} (f0 : 0 ≤ x0 ∧ x0 ≤ 5) (f1 : 0 ≤ x1 ∧ x1 ≤ 5) : 4 * x1 + 3 < x0 + 24 := by omega
theorem q_fb9abb0e1 {x0 : Int}  : 4 * x0 < 4 * x0 + 3 := by omega
theorem q_2b13428e8 {x0 x1 : Int} (f0 : 0 ≤ x0 ∧ x0 ≤ 5) (f1 : 0 ≤ x1 ∧ x1 ≤ 5) : 4 * x0 < x1 + 24 := by omega
theorem q_788f4b81f {x0 : Int} (f0 : 0 ≤ x0 ∧ x0 ≤ 5) : 4 * x0 < x0 + 24 := by omega
theorem q_4e2243c37 {x0 : Int}  : 4 * x0 + 1 < 4 * x0 + 3 := by omega
theorem q_3178328df {x0 x1 : Int} (f0 : 0 ≤ x0 ∧ x0 ≤ 5) (f1 : 0 ≤ x1 ∧ x1 ≤ 5) : 4 * x0 + 1 < x1 + 24 := by omega
theorem q_60c9feeee {x0 : Int} (f0 : 0 ≤ x0 ∧ x0 ≤ 5) : 4 * x0 + 1 < x0 + 24 := by omega
theorem q_693f489f1 {x0 : Int}  : 4 * x0 + 2 < 4 * x0 + 3 := by omega
theorem q_428481d46 {x0 x1 : Int} (f0 : 0 ≤ x0 ∧ x0 ≤ 5) (f1 : 0 ≤ x1 ∧ x1 ≤ 5) : 4 * x0 + 2 < x1 + 24 := by omega
theorem q_27ec1b4d7 {x0 : Int} (f0 : 0 ≤ x0 ∧ x0 ≤ 5) : 4 * x0 + 2 < x0 + 24 := by omega
theorem q_fd9aac8f8 {x0 : Int} (f0 : 0 ≤ x0 ∧ x0 ≤ 5) : 4 * x0 + 3 < x0 + 24 := by omega
theorem q_ee01c233d {x0 x1 x2 x3 x4 x5 x6 x7 : Int} (f0 : (x0 = 0 ∧ x1 = x2 + x3)) (f1 : (x4 = 0)) (f2 : (x5 = 0)) (f3 : (x6 = 0)) (f4 : x3 = x7) : x4 + x5 + x6 + (x0) ≤ 9999 := by omega
theorem q_4128697c9 {x0 x1 : Int} (f0 : 0 ≤ x0 ∧ x0 ≤ 5) (f1 : 0 ≤ x1 ∧ x1 ≤ 5) : 4 * x1 < x0 + 24 := by omega
theorem q_8f2481ba6 {x0 x1 : Int} (f0 : 0 ≤ x0 ∧ x0 ≤ 5) (f1 : 0 ≤ x1 ∧ x1 ≤ 5) : 4 * x1 + 1 < x0 + 24 := by omega
theorem q_04ab4010a {x0 x1 : Int} (f0 : 0 ≤ x0 ∧ x0 ≤ 5) (f1 : 0 ≤ x1 ∧ x1 ≤ 5) : 4 * x1 + 2 < x0 + 24 := by omega
theorem q_a8d3e8094 {x0 x1 : Int} (f0 : (x0 < x1) ∨ (x0 > x1)) : ¬ 4 * x0 + 3 = 4 * x1 + 3 := by omega
theorem q_2771393a8 {x0 x1 : Int} (f0 : 0 ≤ x0 ∧ x0 ≤ 5) (f1 : 0 ≤ x1 ∧ x1 ≤ 5) : 4 * x0 + 3 < x1 + 24 := by omega
theorem q_5ad53ae69 {x0 x1 x2 x3 x4 x5 x6 x7 x8 x9 : Int} (f0 : (x0 = x1 - x2 ∧ x3 = x2 + x4)) (f1 : (x2 + x5 + x6 + x7 + x8 ≤ 9999)) (f2 : x1 = x9) (f3 : x4 = x8) : x5 + x6 + x7 + (x3) ≤ 9999 := by omega
theorem q_4481261c7 {x0 x1 x2 x3 x4 x5 x6 x7 x8 x9 x10 x11 x12 x13 : Int} (f0 : (x0 = x1 - x2 ∧ x3 = x2 + x4)) (f1 : (x5 = 0 ∧ x6 = x0 + x7)) (f2 : (x8 + x9 + x10 + x11 + x12 - x2 ≤ 9999)) (f3 : x1 = x12) (f4 : x4 = x13) (f5 : x7 = x11) : x8 + x9 + x10 + (x6) ≤ 9999 := by omega
theorem q_28bc460e3 {x0 x1 : Int} (f0 : (x0 < x1) ∨ (x0 > x1)) : ¬ 4 * x1 + 2 = 4 * x0 + 2 := by omega
theorem q_a2b745983 {x0 : Int} (f0 : 0 ≤ x0 ∧ x0 ≤ 5) : 4 * x0 + 2 < 30 := by omega
theorem q_3b49164d8 {x0 : Int} (f0 : 0 ≤ x0 ∧ x0 ≤ 5) : x0 + 24 < 30 := by omega
theorem q_1cdd15b2c {x0 : Int}  : 4 * x0 < 4 * x0 + 2 := by omega
theorem q_af9ea9c7d {x0 : Int}  : 4 * x0 + 1 < 4 * x0 + 2 := by omega
theorem q_fa7eff6f3 {x0 x1 : Int} (f0 : (x0 < x1) ∨ (x0 > x1)) : ¬ 4 * x0 + 2 = 4 * x1 + 2 := by omega
theorem q_0f4cbf258 {x0 x1 : Int} (f0 : (x0 < x1) ∨ (x0 > x1)) : ¬ 4 * x1 + 1 = 4 * x0 + 1 := by omega
theorem q_22d8600d4 {x0 : Int} (f0 : 0 ≤ x0 ∧ x0 ≤ 5) : 4 * x0 + 1 < 30 := by omega
theorem q_4994d6793 {x0 : Int}  : 4 * x0 < 4 * x0 + 1 := by omega
theorem q_fd7998cba {x0 x1 : Int} (f0 : (x0 < x1) ∨ (x0 > x1)) : ¬ 4 * x0 + 1 = 4 * x1 + 1 := by omega
theorem q_79744aec6 {x0 : Int}  : 4 * x0 ≤ 4 * x0 := by omega
theorem q_b46fb41fd {x0 x1 : Int} (f0 : (x0 < x1) ∨ (x0 > x1)) : ¬ 4 * x1 = 4 * x0 := by omega
theorem q_745b05ed0 {x0 : Int} (f0 : 0 ≤ x0 ∧ x0 ≤ 5) : 4 * x0 < 30 := by omega
theorem q_02cacb151 {x0 x1 : Int} (f0 : (x0 < x1) ∨ (x0 > x1)) : ¬ 4 * x0 = 4 * x1 := by omega
theorem q_c6ed8760d {x0 : Int} (f0 : 0 ≤ x0 ∧ x0 ≤ 9999) : 0 ≤ x0 := by omega
theorem q_830354608 {x0 x1 x2 x3 x4 x5 x6 x7 : Int} : x0 + x1 + x2 + x3 + (x4 + x5 + x6 + x7) = x4 + x5 + x6 + x7 + x0 + x1 + x2 + x3 := by omega
theorem q_aef5b7b01 {x0 x1 x2 x3 x4 x5 x6 x7 x8 x9 x10 x11 : Int} (f0 : 0 ≤ x0 ∧ x0 ≤ x1) (f1 : 0 ≤ x2 ∧ x2 ≤ x3) (f2 : 0 ≤ x4 ∧ x4 ≤ x5) (f3 : 0 ≤ x6 ∧ x6 ≤ x7) (f4 : x1 + x3 + x5 + x7 ≤ 9999) (f5 : x8 + x9 + x10 + x11 ≤ 9999) : x0 + x2 + x4 + x6 + x9 + x10 + x11 + x8 ≤ 2147483647 := by omega
theorem q_8738771ec {x0 x1 x2 x3 x4 x5 x6 x7 x8 x9 x10 x11 : Int} (f0 : 0 ≤ x0 ∧ x0 ≤ 9999) (f1 : 0 ≤ x1 ∧ x1 ≤ x2) (f2 : 0 ≤ x3 ∧ x3 ≤ x4) (f3 : 0 ≤ x5 ∧ x5 ≤ x6) (f4 : 0 ≤ x7 ∧ x7 ≤ x8) (f5 : 0 ≤ x9 ∧ x9 ≤ 9999) (f6 : 0 ≤ x10 ∧ x10 ≤ 9999) (f7 : 0 ≤ x11 ∧ x11 ≤ 9999) : (-2147483648) ≤ x1 + x3 + x5 + x7 + x10 + x11 + x0 + x9 := by omega
theorem q_c8918bba8 {x0 x1 x2 x3 x4 x5 x6 x7 : Int} : x0 + x1 + x2 + x3 - (x4 + x5 + x6 + x7) = x0 + x1 + x2 + x3 - x4 - x5 - x6 - x7 := by omega
theorem q_17e17cd2a {x0 x1 x2 x3 x4 x5 x6 x7 x8 x9 x10 x11 : Int} : x0 + x1 + x2 + x3 + (x4 + x5 + x6 + x7 - x8 - x9 - x10 - x11) = x4 + x5 + x6 + x7 + x0 + x1 + x2 + x3 - x8 - x9 - x10 - x11 := by omega
theorem q_ff5a6990a {x0 x1 x2 x3 x4 x5 x6 x7 x8 x9 x10 x11 : Int} (f0 : 0 ≤ x0 ∧ x0 ≤ x1) (f1 : 0 ≤ x2 ∧ x2 ≤ x3) (f2 : 0 ≤ x4 ∧ x4 ≤ x5) (f3 : 0 ≤ x6 ∧ x6 ≤ x7) (f4 : x1 + x3 + x5 + x7 ≤ 9999) (f5 : x8 + x9 + x10 + x11 ≤ 9999) : x3 + x5 + x7 + x1 + x9 + x10 + x11 + x8 - x0 - x2 - x4 - x6 ≤ 2147483647 := by omega
theorem q_79ff189ef {x0 x1 x2 x3 x4 x5 x6 x7 x8 x9 x10 x11 : Int} (f0 : 0 ≤ x0 ∧ x0 ≤ 9999) (f1 : 0 ≤ x1 ∧ x1 ≤ 9999) (f2 : 0 ≤ x2 ∧ x2 ≤ 9999) (f3 : 0 ≤ x3 ∧ x3 ≤ 9999) (f4 : 0 ≤ x4 ∧ x4 ≤ x5) (f5 : 0 ≤ x6 ∧ x6 ≤ x7) (f6 : 0 ≤ x8 ∧ x8 ≤ x9) (f7 : 0 ≤ x10 ∧ x10 ≤ x11) : (-2147483648) ≤ x7 + x9 + x11 + x5 + x1 + x2 + x3 + x0 - x4 - x6 - x8 - x10 := by omega
theorem c_53_68 : mLk 53 68 = some (.iload 7, 2) := rfl
theorem c_53_70 : mLk 53 70 = some (.iconst 4, 1) := rfl
theorem c_53_71 : mLk 53 71 = some (.if_icmp .ge 45, 3) := rfl
theorem c_53_74 : mLk 53 74 = some (.aload_n 0, 1) := rfl
theorem c_53_75 : mLk 53 75 = some (.iload_n 1, 1) := rfl
theorem c_53_76 : mLk 53 76 = some (.iload_n 2, 1) := rfl
theorem c_53_77 : mLk 53 77 = some (.iload 7, 2) := rfl
theorem c_53_79 : mLk 53 79 = some (.invokevirtual 69, 3) := rfl
theorem c_53_82 : mLk 53 82 = some (.istore 8, 2) := rfl
theorem c_53_84 : mLk 53 84 = some (.aload_n 0, 1) := rfl
theorem c_53_85 : mLk 53 85 = some (.iload_n 2, 1) := rfl
theorem c_53_86 : mLk 53 86 = some (.iload_n 3, 1) := rfl
theorem c_53_87 : mLk 53 87 = some (.iload 7, 2) := rfl
theorem c_53_89 : mLk 53 89 = some (.iload 8, 2) := rfl
theorem c_53_91 : mLk 53 91 = some (.invokevirtual 85, 3) := rfl
theorem c_53_94 : mLk 53 94 = some (.aload_n 0, 1) := rfl
theorem c_53_95 : mLk 53 95 = some (.iload_n 2, 1) := rfl
theorem c_53_96 : mLk 53 96 = some (.iload 4, 2) := rfl
theorem c_53_98 : mLk 53 98 = some (.iload 7, 2) := rfl
theorem c_53_100 : mLk 53 100 = some (.aload_n 0, 1) := rfl
theorem c_53_101 : mLk 53 101 = some (.iload_n 2, 1) := rfl
theorem c_53_102 : mLk 53 102 = some (.iload 7, 2) := rfl
theorem c_53_104 : mLk 53 104 = some (.invokevirtual 34, 3) := rfl
theorem c_53_107 : mLk 53 107 = some (.invokevirtual 85, 3) := rfl
theorem c_53_110 : mLk 53 110 = some (.iinc 7 1, 3) := rfl
theorem c_53_113 : mLk 53 113 = some (.goto (-45), 3) := rfl
theorem c_53_116 : mLk 53 116 = some (.aload_n 0, 1) := rfl
theorem c_53_117 : mLk 53 117 = some (.getfield 11, 3) := rfl
theorem c_53_120 : mLk 53 120 = some (.bipush 24, 2) := rfl
theorem c_53_122 : mLk 53 122 = some (.iload_n 2, 1) := rfl
theorem c_53_123 : mLk 53 123 = some (.iadd, 1) := rfl
theorem c_53_124 : mLk 53 124 = some (.iconst 0, 1) := rfl
theorem c_53_125 : mLk 53 125 = some (.iastore, 1) := rfl
theorem c_53_126 : mLk 53 126 = some (.iconst 1, 1) := rfl
theorem c_53_127 : mLk 53 127 = some (.ireturn, 1) := rfl
theorem c_53_0 : mLk 53 0 = some (.iload_n 2, 1) := rfl
theorem c_53_1 : mLk 53 1 = some (.iload_n 3, 1) := rfl
theorem c_53_2 : mLk 53 2 = some (.if_icmp .eq 15, 3) := rfl
theorem c_53_17 : mLk 53 17 = some (.iconst 0, 1) := rfl
theorem c_53_18 : mLk 53 18 = some (.ireturn, 1) := rfl
theorem c_53_5 : mLk 53 5 = some (.iload_n 2, 1) := rfl
theorem c_53_6 : mLk 53 6 = some (.iload 4, 2) := rfl
theorem c_53_8 : mLk 53 8 = some (.if_icmp .eq 9, 3) := rfl
theorem c_53_11 : mLk 53 11 = some (.iload_n 3, 1) := rfl
theorem c_53_12 : mLk 53 12 = some (.iload 4, 2) := rfl
theorem c_53_14 : mLk 53 14 = some (.if_icmp .ne 5, 3) := rfl
theorem c_53_19 : mLk 53 19 = some (.aload_n 0, 1) := rfl
theorem c_53_20 : mLk 53 20 = some (.iload_n 2, 1) := rfl
theorem c_53_21 : mLk 53 21 = some (.invokevirtual 38, 3) := rfl
theorem c_53_24 : mLk 53 24 = some (.istore 5, 2) := rfl
theorem c_53_26 : mLk 53 26 = some (.aload_n 0, 1) := rfl
theorem c_53_27 : mLk 53 27 = some (.iload_n 1, 1) := rfl
theorem c_53_28 : mLk 53 28 = some (.iload_n 2, 1) := rfl
theorem c_53_29 : mLk 53 29 = some (.invokevirtual 78, 3) := rfl
theorem c_53_32 : mLk 53 32 = some (.istore 6, 2) := rfl
theorem c_53_34 : mLk 53 34 = some (.iload 5, 2) := rfl
theorem c_53_36 : mLk 53 36 = some (.ifCond .eq 27, 3) := rfl
theorem c_53_63 : mLk 53 63 = some (.iconst 0, 1) := rfl
theorem c_53_64 : mLk 53 64 = some (.ireturn, 1) := rfl
theorem c_53_39 : mLk 53 39 = some (.aload_n 0, 1) := rfl
theorem c_53_40 : mLk 53 40 = some (.iload_n 3, 1) := rfl
theorem c_53_41 : mLk 53 41 = some (.iload 6, 2) := rfl
theorem c_53_43 : mLk 53 43 = some (.invokevirtual 81, 3) := rfl
theorem c_50_0 : mLk 50 0 = some (.aload_n 0, 1) := rfl
theorem c_50_1 : mLk 50 1 = some (.iload_n 1, 1) := rfl
theorem c_50_2 : mLk 50 2 = some (.invokevirtual 38, 3) := rfl
theorem c_50_5 : mLk 50 5 = some (.iload_n 2, 1) := rfl
theorem c_50_7 : mLk 50 7 = some (.sipush 9999, 3) := rfl
theorem c_50_10 : mLk 50 10 = some (.if_icmp .gt 7, 3) := rfl
theorem c_50_17 : mLk 50 17 = some (.iconst 0, 1) := rfl
theorem c_50_18 : mLk 50 18 = some (.ireturn, 1) := rfl
theorem c_53_46 : mLk 53 46 = some (.ifCond .eq 17, 3) := rfl
theorem c_50_13 : mLk 50 13 = some (.iconst 1, 1) := rfl
theorem c_50_14 : mLk 50 14 = some (.goto 4, 3) := rfl
theorem c_53_49 : mLk 53 49 = some (.aload_n 0, 1) := rfl
theorem c_53_50 : mLk 53 50 = some (.iload 4, 2) := rfl
theorem c_53_52 : mLk 53 52 = some (.iload 5, 2) := rfl
theorem c_53_54 : mLk 53 54 = some (.iload 6, 2) := rfl
theorem c_53_57 : mLk 53 57 = some (.invokevirtual 81, 3) := rfl
theorem c_53_60 : mLk 53 60 = some (.ifCond .ne 5, 3) := rfl
theorem c_53_65 : mLk 53 65 = some (.iconst 0, 1) := rfl
theorem c_53_66 : mLk 53 66 = some (.istore 7, 2) := rfl
theorem km_4_78 : a_lk (kM 4) 78 = some (0, 49) := rfl
theorem km_4_81 : a_lk (kM 4) 81 = some (0, 50) := rfl
theorem km_4_85 : a_lk (kM 4) 85 = some (0, 52) := rfl
set_option maxRecDepth 100000 in
set_option maxHeartbeats 4000000 in
theorem s_53_3 {sc : List Int32} {d P Q sh s : Nat} {c : ME} {v1 v2 x0 x1 x2 x3 u0 u1 u2 u3 w0 w1 w2 w3 : Int} {a1 : Int} {a2 : Int} {a3 : Int} {a4 : Int} {Z : AR → Prop} (hI : Iv s (-1) P Q c) (hs : (sh = 37 ∧ s = 38) ∨ (sh = 39 ∧ s = 40)) (ha1 : 0 ≤ a1 ∧ a1 ≤ 3) (ha2 : 0 ≤ a2 ∧ a2 ≤ 5) (ha3 : 0 ≤ a3 ∧ a3 ≤ 5) (ha4 : 0 ≤ a4 ∧ a4 ≤ 5) (hq0 : (a2 < a3) ∨ (a2 > a3)) (hq1 : (a2 < a4) ∨ (a2 > a4)) (hq2 : (a3 < a4) ∨ (a3 > a4)) (hq3 : ((fal v1 (tb v2 a1) 3 x3) + u0 + u1 + u2 + u3 ≤ 9999)) (hq4 : (w0 + w1 + w2 + w3 + x3 - (fal v1 (tb v2 a1) 3 x3) ≤ 9999)) (hq5 : (x0 = 0)) (hq6 : (x1 = 0)) (hq7 : (x2 = 0)) (hq8 : ∀ j : Int, rs s j → ¬ j = 4 * a2 → ¬ j = 4 * a3 → ¬ j = 4 * a4 → c s j + c s (j + 1) + c s (j + 2) + c s (j + 3) ≤ 9999) (hv0 : c (P + 3) a1 = v1) (hv1 : c s 30 = v2) (hv2 : c s (4 * a2) = x0) (hv3 : c s (4 * a2 + 1) = x1) (hv4 : c s (4 * a2 + 2) = x2) (hv5 : c s (4 * a2 + 3) = x3) (hv6 : c s (4 * a3) = u0) (hv7 : c s (4 * a3 + 1) = u1) (hv8 : c s (4 * a3 + 2) = u2) (hv9 : c s (4 * a3 + 3) = u3) (hv10 : c s (4 * a4) = w0) (hv11 : c s (4 * a4 + 1) = w1) (hv12 : c s (4 * a4 + 2) = w2) (hv13 : c s (4 * a4 + 3) = w3) (K : ∀ (c2 : ME) (y : Int), Iv 0 (-1) P Q c2 → (∀ (a : Nat) (j : Int), ¬ (a = s) → c2 a j = c a j) → 0 ≤ y ∧ y ≤ 1 → Z (.inl (some (vi y)), Wd P Q P P c2, 0, 0)) : Wp sc (d + 11) 53 68 [(0, .ref sh), (1, vi a1), (2, vi a2), (3, vi a3), (4, vi a4), (7, vi 3)] [] (Wd P Q P P c) 0 0 Z := by
  have hP := iv_P hI
  have hQ := iv_Q hI
  have h_1 := ir_p3 hI hP a1
  have h_2 := ir_s hI hs 30
  have h_3 := ir_s_g hI hs (j := 4 * a2) (by first | exact q_9f1d5ffdc ha2 | omega)
  have h_4 := ir_s_g hI hs (j := 4 * a2 + 1) (by first | exact q_0a2ee6f8f ha2 | omega)
  have h_5 := ir_s_g hI hs (j := 4 * a2 + 2) (by first | exact q_e07a293a2 ha2 | omega)
  have h_6 := ir_s_g hI hs (j := 4 * a2 + 3) (by first | exact q_d09cb0b73 ha2 | omega)
  have h_7 := ir_s_g hI hs (j := 4 * a3) (by first | exact q_9f1d5ffdc ha3 | omega)
  have h_8 := ir_s_g hI hs (j := 4 * a3 + 1) (by first | exact q_0a2ee6f8f ha3 | omega)
  have h_9 := ir_s_g hI hs (j := 4 * a3 + 2) (by first | exact q_e07a293a2 ha3 | omega)
  have h_10 := ir_s_g hI hs (j := 4 * a3 + 3) (by first | exact q_d09cb0b73 ha3 | omega)
  have h_11 := ir_s_g hI hs (j := 4 * a4) (by first | exact q_9f1d5ffdc ha4 | omega)
  have h_12 := ir_s_g hI hs (j := 4 * a4 + 1) (by first | exact q_0a2ee6f8f ha4 | omega)
  have h_13 := ir_s_g hI hs (j := 4 * a4 + 2) (by first | exact q_e07a293a2 ha4 | omega)
  have h_14 := ir_s_g hI hs (j := 4 * a4 + 3) (by first | exact q_d09cb0b73 ha4 | omega)
  have hqo := hq8
  have h_15 := fal_rng (m := v1) (t := tb v2 a1) (g := 3) (x := x3) (by omega)
  refine q_iload c_53_68 rfl (q_iconst c_53_70 (v_ic_ge_f (t := 116) c_53_71 rfl (by decide) (q_aload_n c_53_74 rfl (q_iload_n c_53_75 rfl (q_iload_n c_53_76 rfl (q_iload c_53_77 rfl (v_cv c_53_79 km_4_69 rfl (ck_sh hs) (a68sh hs) ⟨⟨rfl, rfl⟩, by decide, rfl⟩ (nb_ rfl) (nb_ rfl) (s_48 (v1 := v1) (v2 := v2) (v3 := x3) (r := (fal v1 (tb v2 a1) 3 x3)) (a1 := a1) (a2 := a2) (a3 := 3) hI hs (show 0 ≤ a1 ∧ a1 ≤ 3 from ha1) (show 0 ≤ a2 ∧ a2 ≤ 5 from ha2) (show 0 ≤ 3 ∧ 3 ≤ 3 from ⟨by decide, by decide⟩) ((hv0)) ((hv1)) ((hv5)) rfl ?_))))))))
  refine bk_inl (q_istore c_53_82 (nb_ rfl) (q_aload_n c_53_84 rfl (q_iload_n c_53_85 rfl (q_iload_n c_53_86 rfl (q_iload c_53_87 rfl (q_iload c_53_89 rfl ?_))))))
  have h_16 : c s (4 * a2 + 3) = x3 := (hv5)
  have h_17 : c s (4 * a3 + 3) = u3 := (hv9)
  refine v_cv c_53_91 km_4_85 rfl (ck_sh hs) (a68sh hs) ⟨⟨rfl, rfl⟩, by decide, rfl⟩ (nb_ rfl) (nb_ rfl) (s_52 (a1 := a2) (a2 := a3) (a3 := 3) (a4 := (fal v1 (tb v2 a1) 3 x3)) hI hs (show 0 ≤ a2 ∧ a2 ≤ 5 from ha2) (show 0 ≤ a3 ∧ a3 ≤ 5 from ha3) (show 0 ≤ 3 ∧ 3 ≤ 3 from ⟨by decide, by decide⟩) (show 0 ≤ (fal v1 (tb v2 a1) 3 x3) ∧ (fal v1 (tb v2 a1) 3 x3) ≤ 9999 from ⟨by first | exact q_47ff97009 h_15 | omega, by first | (clear ha1 ha2 ha3 ha4 hq3 hq4 hq5 hq6 hq7 h_1 hv0 h_2 hv1 h_3 hv2 h_4 hv3 h_5 hv4 h_7 hv6 h_8 hv7 h_9 hv8 h_10 hv9 h_11 hv10 h_12 hv11 h_13 hv12 h_14 hv13 hq0 hq1 hq2; omega) | omega⟩) (by omega) (by first | exact q_b76125d36 h_15 | omega) (by first | (clear ha1 ha2 ha3 ha4 hq4 hq5 hq6 hq7 h_1 hv0 h_2 hv1 h_3 hv2 h_4 hv3 h_5 hv4 h_6 hv5 h_10 hv9 h_11 hv10 h_12 hv11 h_13 hv12 h_14 hv13 h_15 hq0 hq1 hq2; omega) | omega) (fun c_18 hI_19 hF_20 h_21 => (bk_inl ?_)))
  have h_22 := ir_s_g hI_19 hs (j := 4 * a2 + 3) (by first | exact q_d09cb0b73 ha2 | omega)
  have h_23 := ir_s_g hI_19 hs (j := 4 * a3 + 3) (by first | exact q_d09cb0b73 ha3 | omega)
  refine q_aload_n c_53_94 rfl (q_iload_n c_53_95 rfl (q_iload c_53_96 rfl (q_iload c_53_98 rfl (q_aload_n c_53_100 rfl (q_iload_n c_53_101 rfl (q_iload c_53_102 rfl (v_cv c_53_104 km_4_34 rfl (ck_sh hs) (a68sh hs) ⟨⟨rfl, rfl⟩, by decide, rfl⟩ (nb_ rfl) (nb_ rfl) (s_45 (v1 := c_18 s (4 * a2 + 3)) (r := c_18 s (4 * a2 + 3)) (a1 := a2) (a2 := 3) hI_19 hs (show 0 ≤ a2 ∧ a2 ≤ 5 from ha2) (show 0 ≤ 3 ∧ 3 ≤ 3 from ⟨by decide, by decide⟩) (rfl) (by omega) ?_))))))))
  refine bk_inl ?_
  have kn_24 : Hid (c_18 s (4 * a4 + 3) = w3) := (hF_20 s (4 * a4 + 3) (fun q => q.elim (fun h => absurd h.2 (by first | exact q_ca906b5de hq1 | omega)) (fun q => q.elim (fun h => absurd h.2 (by first | exact q_ca906b5de hq2 | omega)) (fun h => absurd h.2 (ne_l (by first | exact q_e782b8c3c ha3 ha4 | omega)))))).trans (hv13)
  have h_25 : c_18 s (4 * a4 + 3) = w3 := (hid kn_24)
  refine v_cv c_53_107 km_4_85 rfl (ck_sh hs) (a68sh hs) ⟨⟨rfl, rfl⟩, by decide, rfl⟩ (nb_ rfl) (nb_ rfl) (s_52 (a1 := a2) (a2 := a4) (a3 := 3) (a4 := c_18 s (4 * a2 + 3)) hI_19 hs (show 0 ≤ a2 ∧ a2 ≤ 5 from ha2) (show 0 ≤ a4 ∧ a4 ≤ 5 from ha4) (show 0 ≤ 3 ∧ 3 ≤ 3 from ⟨by decide, by decide⟩) (show 0 ≤ c_18 s (4 * a2 + 3) ∧ c_18 s (4 * a2 + 3) ≤ 9999 from h_22) (by omega) (by first | exact q_e074ea49a | omega) (by first | (clear ha1 ha2 ha3 ha4 hq3 hq5 hq6 hq7 h_1 hv0 h_2 hv1 h_3 hv2 h_4 hv3 h_5 hv4 h_6 hv5 h_7 hv6 h_8 hv7 h_9 hv8 h_10 hv9 h_14 hv13 h_15 h_22 h_23 hq0 hq1 hq2; omega) | omega) (fun c_26 hI_27 hF_28 h_29 => (bk_inl ?_)))
  have h_30 := ir_s_g hI_27 hs (j := 4 * a2 + 3) (by first | exact q_d09cb0b73 ha2 | omega)
  have h_31 := ir_s_g hI_27 hs (j := 4 * a4 + 3) (by first | exact q_d09cb0b73 ha4 | omega)
  refine v_iinc (v := 4) c_53_110 rfl (nb_ rfl) (by decide) (q_goto (t := 68) c_53_113 rfl (q_iload c_53_68 rfl (q_iconst c_53_70 (v_ic_ge_t (t := 116) c_53_71 rfl (by decide) (q_aload_n c_53_116 rfl (v_gr (t := s) c_53_117 kf_4_11 (ck_sh hs) (a68sh hs) rfl (v_bip c_53_120 (by decide) ?_)))))))
  refine q_iload_n c_53_122 rfl (v_iadd (v := a2 + 24) c_53_123 (by first | exact q_1b47056ce | omega) (q_iconst c_53_124 (v_is c_53_125 (ck_s hs) (a68s hs) (by decide) ⟨by first | exact rgp_l ha2.1 (by decide) | omega, by first | exact q_99d6360e7 ha2 | omega⟩ (q_iconst c_53_126 (v_zret c_53_127 rfl (by decide) ?_)))))
  have hI_32 := iwr0 (a := s) (j := a2 + 24) (v := 0) hI_27 (rs_cs hs) ⟨by decide, by decide⟩
  have hr_33 : ∀ j : Int, rs s j → (up c_26 s (a2 + 24) 0) s j + (up c_26 s (a2 + 24) 0) s (j + 1) + (up c_26 s (a2 + 24) 0) s (j + 2) + (up c_26 s (a2 + 24) 0) s (j + 3) ≤ 9999 := by
    intro j9 hj9
    obtain ⟨k9, rfl, hk9⟩ := rs_s hs hj9
    by_cases e_34 : k9 = a2
    · skip
      have kn_35 : Hid (c_18 s (4 * a2) = x0) := (hF_20 s (4 * a2) (fun q => q.elim (fun h => absurd h.2 (ne_l (by first | exact q_fb9abb0e1 | omega))) (fun q => q.elim (fun h => absurd h.2 (by first | exact q_8ac71c5f3 | omega)) (fun h => absurd h.2 (ne_l (by first | exact q_2b13428e8 ha2 ha3 | omega)))))).trans (hv2)
      have kn_36 : Hid (c_26 s (4 * a2) = x0) := (hF_28 s (4 * a2) (fun q => q.elim (fun h => absurd h.2 (ne_l (by first | exact q_fb9abb0e1 | omega))) (fun q => q.elim (fun h => absurd h.2 (by first | exact q_8ac71c5f3 | omega)) (fun h => absurd h.2 (ne_l (by first | exact q_2b13428e8 ha2 ha4 | omega)))))).trans (hid kn_35)
      have h_37 : (up c_26 s (a2 + 24) 0) s (4 * k9) = x0 := (congrArg ((up c_26 s (a2 + 24) 0) s) (show 4 * k9 = 4 * a2 from congrArg (fun z : Int => 4 * z) e_34)).trans ((up_n (ne_l (by first | exact q_788f4b81f ha2 | omega))).trans (hid kn_36))
      have kn_38 : Hid (c_18 s (4 * a2 + 1) = x1) := (hF_20 s (4 * a2 + 1) (fun q => q.elim (fun h => absurd h.2 (ne_l (by first | exact q_4e2243c37 | omega))) (fun q => q.elim (fun h => absurd h.2 (by first | exact q_7c6b1b09a | omega)) (fun h => absurd h.2 (ne_l (by first | exact q_3178328df ha2 ha3 | omega)))))).trans (hv3)
      have kn_39 : Hid (c_26 s (4 * a2 + 1) = x1) := (hF_28 s (4 * a2 + 1) (fun q => q.elim (fun h => absurd h.2 (ne_l (by first | exact q_4e2243c37 | omega))) (fun q => q.elim (fun h => absurd h.2 (by first | exact q_7c6b1b09a | omega)) (fun h => absurd h.2 (ne_l (by first | exact q_3178328df ha2 ha4 | omega)))))).trans (hid kn_38)
      have h_40 : (up c_26 s (a2 + 24) 0) s (4 * k9 + 1) = x1 := (congrArg ((up c_26 s (a2 + 24) 0) s) (show 4 * k9 + 1 = 4 * a2 + 1 from congrArg (fun z : Int => 4 * z + 1) e_34)).trans ((up_n (ne_l (by first | exact q_60c9feeee ha2 | omega))).trans (hid kn_39))
      have kn_41 : Hid (c_18 s (4 * a2 + 2) = x2) := (hF_20 s (4 * a2 + 2) (fun q => q.elim (fun h => absurd h.2 (ne_l (by first | exact q_693f489f1 | omega))) (fun q => q.elim (fun h => absurd h.2 (by first | exact q_91c5bd343 | omega)) (fun h => absurd h.2 (ne_l (by first | exact q_428481d46 ha2 ha3 | omega)))))).trans (hv4)
      have kn_42 : Hid (c_26 s (4 * a2 + 2) = x2) := (hF_28 s (4 * a2 + 2) (fun q => q.elim (fun h => absurd h.2 (ne_l (by first | exact q_693f489f1 | omega))) (fun q => q.elim (fun h => absurd h.2 (by first | exact q_91c5bd343 | omega)) (fun h => absurd h.2 (ne_l (by first | exact q_428481d46 ha2 ha4 | omega)))))).trans (hid kn_41)
      have h_43 : (up c_26 s (a2 + 24) 0) s (4 * k9 + 2) = x2 := (congrArg ((up c_26 s (a2 + 24) 0) s) (show 4 * k9 + 2 = 4 * a2 + 2 from congrArg (fun z : Int => 4 * z + 2) e_34)).trans ((up_n (ne_l (by first | exact q_27ec1b4d7 ha2 | omega))).trans (hid kn_42))
      have h_44 : (up c_26 s (a2 + 24) 0) s (4 * k9 + 3) = c_26 s (4 * a2 + 3) := (congrArg ((up c_26 s (a2 + 24) 0) s) (show 4 * k9 + 3 = 4 * a2 + 3 from congrArg (fun z : Int => 4 * z + 3) e_34)).trans (up_n (ne_l (by first | exact q_fd9aac8f8 ha2 | omega)))
      exact sm4 h_37 h_40 h_43 h_44 (by first | exact q_ee01c233d h_29 hq5 hq6 hq7 h_25 | omega)
    by_cases e_45 : k9 = a3
    · skip
      have kn_46 : Hid (c_18 s (4 * a3) = u0) := (hF_20 s (4 * a3) (fun q => q.elim (fun h => absurd h.2 (by first | exact q_8ac71c5f3 | omega)) (fun q => q.elim (fun h => absurd h.2 (ne_l (by first | exact q_fb9abb0e1 | omega))) (fun h => absurd h.2 (ne_l (by first | exact q_788f4b81f ha3 | omega)))))).trans (hv6)
      have kn_47 : Hid (c_26 s (4 * a3) = u0) := (hF_28 s (4 * a3) (fun q => q.elim (fun h => absurd h.2 (by first | exact q_8ac71c5f3 | omega)) (fun q => q.elim (fun h => absurd h.2 (by first | exact q_8ac71c5f3 | omega)) (fun h => absurd h.2 (ne_l (by first | exact q_2b13428e8 ha3 ha4 | omega)))))).trans (hid kn_46)
      have h_48 : (up c_26 s (a2 + 24) 0) s (4 * k9) = u0 := (congrArg ((up c_26 s (a2 + 24) 0) s) (show 4 * k9 = 4 * a3 from congrArg (fun z : Int => 4 * z) e_45)).trans ((up_n (ne_l (by first | exact q_4128697c9 ha2 ha3 | omega))).trans (hid kn_47))
      have kn_49 : Hid (c_18 s (4 * a3 + 1) = u1) := (hF_20 s (4 * a3 + 1) (fun q => q.elim (fun h => absurd h.2 (by first | exact q_7c6b1b09a | omega)) (fun q => q.elim (fun h => absurd h.2 (ne_l (by first | exact q_4e2243c37 | omega))) (fun h => absurd h.2 (ne_l (by first | exact q_60c9feeee ha3 | omega)))))).trans (hv7)
      have kn_50 : Hid (c_26 s (4 * a3 + 1) = u1) := (hF_28 s (4 * a3 + 1) (fun q => q.elim (fun h => absurd h.2 (by first | exact q_7c6b1b09a | omega)) (fun q => q.elim (fun h => absurd h.2 (by first | exact q_7c6b1b09a | omega)) (fun h => absurd h.2 (ne_l (by first | exact q_3178328df ha3 ha4 | omega)))))).trans (hid kn_49)
      have h_51 : (up c_26 s (a2 + 24) 0) s (4 * k9 + 1) = u1 := (congrArg ((up c_26 s (a2 + 24) 0) s) (show 4 * k9 + 1 = 4 * a3 + 1 from congrArg (fun z : Int => 4 * z + 1) e_45)).trans ((up_n (ne_l (by first | exact q_8f2481ba6 ha2 ha3 | omega))).trans (hid kn_50))
      have kn_52 : Hid (c_18 s (4 * a3 + 2) = u2) := (hF_20 s (4 * a3 + 2) (fun q => q.elim (fun h => absurd h.2 (by first | exact q_91c5bd343 | omega)) (fun q => q.elim (fun h => absurd h.2 (ne_l (by first | exact q_693f489f1 | omega))) (fun h => absurd h.2 (ne_l (by first | exact q_27ec1b4d7 ha3 | omega)))))).trans (hv8)
      have kn_53 : Hid (c_26 s (4 * a3 + 2) = u2) := (hF_28 s (4 * a3 + 2) (fun q => q.elim (fun h => absurd h.2 (by first | exact q_91c5bd343 | omega)) (fun q => q.elim (fun h => absurd h.2 (by first | exact q_91c5bd343 | omega)) (fun h => absurd h.2 (ne_l (by first | exact q_428481d46 ha3 ha4 | omega)))))).trans (hid kn_52)
      have h_54 : (up c_26 s (a2 + 24) 0) s (4 * k9 + 2) = u2 := (congrArg ((up c_26 s (a2 + 24) 0) s) (show 4 * k9 + 2 = 4 * a3 + 2 from congrArg (fun z : Int => 4 * z + 2) e_45)).trans ((up_n (ne_l (by first | exact q_04ab4010a ha2 ha3 | omega))).trans (hid kn_53))
      have kn_55 : Hid (c_26 s (4 * a3 + 3) = c_18 s (4 * a3 + 3)) := hF_28 s (4 * a3 + 3) (fun q => q.elim (fun h => absurd h.2 (by first | exact q_ca906b5de hq0 | omega)) (fun q => q.elim (fun h => absurd h.2 (by first | exact q_a8d3e8094 hq2 | omega)) (fun h => absurd h.2 (ne_l (by first | exact q_2771393a8 ha3 ha4 | omega)))))
      have h_56 : (up c_26 s (a2 + 24) 0) s (4 * k9 + 3) = c_18 s (4 * a3 + 3) := (congrArg ((up c_26 s (a2 + 24) 0) s) (show 4 * k9 + 3 = 4 * a3 + 3 from congrArg (fun z : Int => 4 * z + 3) e_45)).trans ((up_n (ne_l (by first | exact q_e782b8c3c ha2 ha3 | omega))).trans (hid kn_55))
      exact sm4 h_48 h_51 h_54 h_56 (by first | exact q_5ad53ae69 h_21 hq3 h_16 h_17 | omega)
    by_cases e_57 : k9 = a4
    · skip
      have kn_58 : Hid (c_18 s (4 * a4) = w0) := (hF_20 s (4 * a4) (fun q => q.elim (fun h => absurd h.2 (by first | exact q_8ac71c5f3 | omega)) (fun q => q.elim (fun h => absurd h.2 (by first | exact q_8ac71c5f3 | omega)) (fun h => absurd h.2 (ne_l (by first | exact q_4128697c9 ha3 ha4 | omega)))))).trans (hv10)
      have kn_59 : Hid (c_26 s (4 * a4) = w0) := (hF_28 s (4 * a4) (fun q => q.elim (fun h => absurd h.2 (by first | exact q_8ac71c5f3 | omega)) (fun q => q.elim (fun h => absurd h.2 (ne_l (by first | exact q_fb9abb0e1 | omega))) (fun h => absurd h.2 (ne_l (by first | exact q_788f4b81f ha4 | omega)))))).trans (hid kn_58)
      have h_60 : (up c_26 s (a2 + 24) 0) s (4 * k9) = w0 := (congrArg ((up c_26 s (a2 + 24) 0) s) (show 4 * k9 = 4 * a4 from congrArg (fun z : Int => 4 * z) e_57)).trans ((up_n (ne_l (by first | exact q_4128697c9 ha2 ha4 | omega))).trans (hid kn_59))
      have kn_61 : Hid (c_18 s (4 * a4 + 1) = w1) := (hF_20 s (4 * a4 + 1) (fun q => q.elim (fun h => absurd h.2 (by first | exact q_7c6b1b09a | omega)) (fun q => q.elim (fun h => absurd h.2 (by first | exact q_7c6b1b09a | omega)) (fun h => absurd h.2 (ne_l (by first | exact q_8f2481ba6 ha3 ha4 | omega)))))).trans (hv11)
      have kn_62 : Hid (c_26 s (4 * a4 + 1) = w1) := (hF_28 s (4 * a4 + 1) (fun q => q.elim (fun h => absurd h.2 (by first | exact q_7c6b1b09a | omega)) (fun q => q.elim (fun h => absurd h.2 (ne_l (by first | exact q_4e2243c37 | omega))) (fun h => absurd h.2 (ne_l (by first | exact q_60c9feeee ha4 | omega)))))).trans (hid kn_61)
      have h_63 : (up c_26 s (a2 + 24) 0) s (4 * k9 + 1) = w1 := (congrArg ((up c_26 s (a2 + 24) 0) s) (show 4 * k9 + 1 = 4 * a4 + 1 from congrArg (fun z : Int => 4 * z + 1) e_57)).trans ((up_n (ne_l (by first | exact q_8f2481ba6 ha2 ha4 | omega))).trans (hid kn_62))
      have kn_64 : Hid (c_18 s (4 * a4 + 2) = w2) := (hF_20 s (4 * a4 + 2) (fun q => q.elim (fun h => absurd h.2 (by first | exact q_91c5bd343 | omega)) (fun q => q.elim (fun h => absurd h.2 (by first | exact q_91c5bd343 | omega)) (fun h => absurd h.2 (ne_l (by first | exact q_04ab4010a ha3 ha4 | omega)))))).trans (hv12)
      have kn_65 : Hid (c_26 s (4 * a4 + 2) = w2) := (hF_28 s (4 * a4 + 2) (fun q => q.elim (fun h => absurd h.2 (by first | exact q_91c5bd343 | omega)) (fun q => q.elim (fun h => absurd h.2 (ne_l (by first | exact q_693f489f1 | omega))) (fun h => absurd h.2 (ne_l (by first | exact q_27ec1b4d7 ha4 | omega)))))).trans (hid kn_64)
      have h_66 : (up c_26 s (a2 + 24) 0) s (4 * k9 + 2) = w2 := (congrArg ((up c_26 s (a2 + 24) 0) s) (show 4 * k9 + 2 = 4 * a4 + 2 from congrArg (fun z : Int => 4 * z + 2) e_57)).trans ((up_n (ne_l (by first | exact q_04ab4010a ha2 ha4 | omega))).trans (hid kn_65))
      have h_67 : (up c_26 s (a2 + 24) 0) s (4 * k9 + 3) = c_26 s (4 * a4 + 3) := (congrArg ((up c_26 s (a2 + 24) 0) s) (show 4 * k9 + 3 = 4 * a4 + 3 from congrArg (fun z : Int => 4 * z + 3) e_57)).trans (up_n (ne_l (by first | exact q_e782b8c3c ha2 ha4 | omega)))
      exact sm4 h_60 h_63 h_66 h_67 (by first | exact q_4481261c7 h_21 h_29 hq4 h_16 h_17 h_25 | omega)
    have h_68 := hqo (4 * k9) hj9 (by omega) (by omega) (by omega)
    have h_69 := ir_s_g hI hs (j := 4 * k9) (by first | exact q_9f1d5ffdc hk9 | omega)
    have kn_70 : Hid (c_18 s (4 * k9) = c s (4 * k9)) := hF_20 s (4 * k9) (fun q => q.elim (fun h => absurd h.2 (by first | exact q_8ac71c5f3 | omega)) (fun q => q.elim (fun h => absurd h.2 (by first | exact q_8ac71c5f3 | omega)) (fun h => absurd h.2 (ne_l (by first | exact q_4128697c9 ha3 hk9 | omega)))))
    have kn_71 : Hid (c_26 s (4 * k9) = c s (4 * k9)) := (hF_28 s (4 * k9) (fun q => q.elim (fun h => absurd h.2 (by first | exact q_8ac71c5f3 | omega)) (fun q => q.elim (fun h => absurd h.2 (by first | exact q_8ac71c5f3 | omega)) (fun h => absurd h.2 (ne_l (by first | exact q_4128697c9 ha4 hk9 | omega)))))).trans (hid kn_70)
    have h_72 : (up c_26 s (a2 + 24) 0) s (4 * k9) = c s (4 * k9) := ((up_n (ne_l (by first | exact q_4128697c9 ha2 hk9 | omega))).trans (hid kn_71))
    have h_73 := ir_s_g hI hs (j := 4 * k9 + 1) (by first | exact q_0a2ee6f8f hk9 | omega)
    have kn_74 : Hid (c_18 s (4 * k9 + 1) = c s (4 * k9 + 1)) := hF_20 s (4 * k9 + 1) (fun q => q.elim (fun h => absurd h.2 (by first | exact q_7c6b1b09a | omega)) (fun q => q.elim (fun h => absurd h.2 (by first | exact q_7c6b1b09a | omega)) (fun h => absurd h.2 (ne_l (by first | exact q_8f2481ba6 ha3 hk9 | omega)))))
    have kn_75 : Hid (c_26 s (4 * k9 + 1) = c s (4 * k9 + 1)) := (hF_28 s (4 * k9 + 1) (fun q => q.elim (fun h => absurd h.2 (by first | exact q_7c6b1b09a | omega)) (fun q => q.elim (fun h => absurd h.2 (by first | exact q_7c6b1b09a | omega)) (fun h => absurd h.2 (ne_l (by first | exact q_8f2481ba6 ha4 hk9 | omega)))))).trans (hid kn_74)
    have h_76 : (up c_26 s (a2 + 24) 0) s (4 * k9 + 1) = c s (4 * k9 + 1) := ((up_n (ne_l (by first | exact q_8f2481ba6 ha2 hk9 | omega))).trans (hid kn_75))
    have h_77 := ir_s_g hI hs (j := 4 * k9 + 2) (by first | exact q_e07a293a2 hk9 | omega)
    have kn_78 : Hid (c_18 s (4 * k9 + 2) = c s (4 * k9 + 2)) := hF_20 s (4 * k9 + 2) (fun q => q.elim (fun h => absurd h.2 (by first | exact q_91c5bd343 | omega)) (fun q => q.elim (fun h => absurd h.2 (by first | exact q_91c5bd343 | omega)) (fun h => absurd h.2 (ne_l (by first | exact q_04ab4010a ha3 hk9 | omega)))))
    have kn_79 : Hid (c_26 s (4 * k9 + 2) = c s (4 * k9 + 2)) := (hF_28 s (4 * k9 + 2) (fun q => q.elim (fun h => absurd h.2 (by first | exact q_91c5bd343 | omega)) (fun q => q.elim (fun h => absurd h.2 (by first | exact q_91c5bd343 | omega)) (fun h => absurd h.2 (ne_l (by first | exact q_04ab4010a ha4 hk9 | omega)))))).trans (hid kn_78)
    have h_80 : (up c_26 s (a2 + 24) 0) s (4 * k9 + 2) = c s (4 * k9 + 2) := ((up_n (ne_l (by first | exact q_04ab4010a ha2 hk9 | omega))).trans (hid kn_79))
    have h_81 := ir_s_g hI hs (j := 4 * k9 + 3) (by first | exact q_d09cb0b73 hk9 | omega)
    have kn_82 : Hid (c_18 s (4 * k9 + 3) = c s (4 * k9 + 3)) := hF_20 s (4 * k9 + 3) (fun q => q.elim (fun h => absurd h.2 (by first | exact q_2db9f474b e_34 | omega)) (fun q => q.elim (fun h => absurd h.2 (by first | exact q_2db9f474b e_45 | omega)) (fun h => absurd h.2 (ne_l (by first | exact q_e782b8c3c ha3 hk9 | omega)))))
    have kn_83 : Hid (c_26 s (4 * k9 + 3) = c s (4 * k9 + 3)) := (hF_28 s (4 * k9 + 3) (fun q => q.elim (fun h => absurd h.2 (by first | exact q_2db9f474b e_34 | omega)) (fun q => q.elim (fun h => absurd h.2 (by first | exact q_2db9f474b e_57 | omega)) (fun h => absurd h.2 (ne_l (by first | exact q_e782b8c3c ha4 hk9 | omega)))))).trans (hid kn_82)
    have h_84 : (up c_26 s (a2 + 24) 0) s (4 * k9 + 3) = c s (4 * k9 + 3) := ((up_n (ne_l (by first | exact q_e782b8c3c ha2 hk9 | omega))).trans (hid kn_83))
    omega
  have hI_85 := iv_close hI_32 hr_33
  exact K (up c_26 s (a2 + 24) 0) 1 hI_85 (fun a j hm => (up_b (Decidable.or_iff_not_imp_left.mpr (fun h1 h2 => hm (Decidable.not_not.mp h1)))).trans ((hF_28 a j (fun q => q.elim (fun h => hm h.1) (fun q => q.elim (fun h => hm h.1) (fun h => hm h.1)))).trans (hF_20 a j (fun q => q.elim (fun h => hm h.1) (fun q => q.elim (fun h => hm h.1) (fun h => hm h.1)))))) ⟨by decide, by decide⟩
set_option maxRecDepth 100000 in
set_option maxHeartbeats 4000000 in
theorem s_53_2 {sc : List Int32} {d P Q sh s : Nat} {c : ME} {v1 v2 x0 x1 x2 x3 u0 u1 u2 u3 w0 w1 w2 w3 : Int} {a1 : Int} {a2 : Int} {a3 : Int} {a4 : Int} {Z : AR → Prop} (hI : Iv s (-1) P Q c) (hs : (sh = 37 ∧ s = 38) ∨ (sh = 39 ∧ s = 40)) (ha1 : 0 ≤ a1 ∧ a1 ≤ 3) (ha2 : 0 ≤ a2 ∧ a2 ≤ 5) (ha3 : 0 ≤ a3 ∧ a3 ≤ 5) (ha4 : 0 ≤ a4 ∧ a4 ≤ 5) (hq0 : (a2 < a3) ∨ (a2 > a3)) (hq1 : (a2 < a4) ∨ (a2 > a4)) (hq2 : (a3 < a4) ∨ (a3 > a4)) (hq3 : ((fal v1 (tb v2 a1) 2 x2) + (fal v1 (tb v2 a1) 3 x3) + u0 + u1 + u2 + u3 ≤ 9999)) (hq4 : (w0 + w1 + w2 + w3 + x2 + x3 - (fal v1 (tb v2 a1) 2 x2) - (fal v1 (tb v2 a1) 3 x3) ≤ 9999)) (hq5 : (x0 = 0)) (hq6 : (x1 = 0)) (hq7 : ∀ j : Int, rs s j → ¬ j = 4 * a2 → ¬ j = 4 * a3 → ¬ j = 4 * a4 → c s j + c s (j + 1) + c s (j + 2) + c s (j + 3) ≤ 9999) (hv0 : c (P + 3) a1 = v1) (hv1 : c s 30 = v2) (hv2 : c s (4 * a2) = x0) (hv3 : c s (4 * a2 + 1) = x1) (hv4 : c s (4 * a2 + 2) = x2) (hv5 : c s (4 * a2 + 3) = x3) (hv6 : c s (4 * a3) = u0) (hv7 : c s (4 * a3 + 1) = u1) (hv8 : c s (4 * a3 + 2) = u2) (hv9 : c s (4 * a3 + 3) = u3) (hv10 : c s (4 * a4) = w0) (hv11 : c s (4 * a4 + 1) = w1) (hv12 : c s (4 * a4 + 2) = w2) (hv13 : c s (4 * a4 + 3) = w3) (K : ∀ (c2 : ME) (y : Int), Iv 0 (-1) P Q c2 → (∀ (a : Nat) (j : Int), ¬ (a = s) → c2 a j = c a j) → 0 ≤ y ∧ y ≤ 1 → Z (.inl (some (vi y)), Wd P Q P P c2, 0, 0)) : Wp sc (d + 11) 53 68 [(0, .ref sh), (1, vi a1), (2, vi a2), (3, vi a3), (4, vi a4), (7, vi 2)] [] (Wd P Q P P c) 0 0 Z := by
  have hP := iv_P hI
  have hQ := iv_Q hI
  have h_1 := ir_p3 hI hP a1
  have h_2 := ir_s hI hs 30
  have h_3 := ir_s_g hI hs (j := 4 * a2) (by first | exact q_9f1d5ffdc ha2 | omega)
  have h_4 := ir_s_g hI hs (j := 4 * a2 + 1) (by first | exact q_0a2ee6f8f ha2 | omega)
  have h_5 := ir_s_g hI hs (j := 4 * a2 + 2) (by first | exact q_e07a293a2 ha2 | omega)
  have h_6 := ir_s_g hI hs (j := 4 * a2 + 3) (by first | exact q_d09cb0b73 ha2 | omega)
  have h_7 := ir_s_g hI hs (j := 4 * a3) (by first | exact q_9f1d5ffdc ha3 | omega)
  have h_8 := ir_s_g hI hs (j := 4 * a3 + 1) (by first | exact q_0a2ee6f8f ha3 | omega)
  have h_9 := ir_s_g hI hs (j := 4 * a3 + 2) (by first | exact q_e07a293a2 ha3 | omega)
  have h_10 := ir_s_g hI hs (j := 4 * a3 + 3) (by first | exact q_d09cb0b73 ha3 | omega)
  have h_11 := ir_s_g hI hs (j := 4 * a4) (by first | exact q_9f1d5ffdc ha4 | omega)
  have h_12 := ir_s_g hI hs (j := 4 * a4 + 1) (by first | exact q_0a2ee6f8f ha4 | omega)
  have h_13 := ir_s_g hI hs (j := 4 * a4 + 2) (by first | exact q_e07a293a2 ha4 | omega)
  have h_14 := ir_s_g hI hs (j := 4 * a4 + 3) (by first | exact q_d09cb0b73 ha4 | omega)
  have hqo := hq7
  have h_15 := fal_rng (m := v1) (t := tb v2 a1) (g := 2) (x := x2) (by omega)
  have h_16 := fal_rng (m := v1) (t := tb v2 a1) (g := 3) (x := x3) (by omega)
  refine q_iload c_53_68 rfl (q_iconst c_53_70 (v_ic_ge_f (t := 116) c_53_71 rfl (by decide) (q_aload_n c_53_74 rfl (q_iload_n c_53_75 rfl (q_iload_n c_53_76 rfl (q_iload c_53_77 rfl (v_cv c_53_79 km_4_69 rfl (ck_sh hs) (a68sh hs) ⟨⟨rfl, rfl⟩, by decide, rfl⟩ (nb_ rfl) (nb_ rfl) (s_48 (v1 := v1) (v2 := v2) (v3 := x2) (r := (fal v1 (tb v2 a1) 2 x2)) (a1 := a1) (a2 := a2) (a3 := 2) hI hs (show 0 ≤ a1 ∧ a1 ≤ 3 from ha1) (show 0 ≤ a2 ∧ a2 ≤ 5 from ha2) (show 0 ≤ 2 ∧ 2 ≤ 3 from ⟨by decide, by decide⟩) ((hv0)) ((hv1)) ((hv4)) rfl ?_))))))))
  refine bk_inl (q_istore c_53_82 (nb_ rfl) (q_aload_n c_53_84 rfl (q_iload_n c_53_85 rfl (q_iload_n c_53_86 rfl (q_iload c_53_87 rfl (q_iload c_53_89 rfl ?_))))))
  have h_17 : c s (4 * a2 + 2) = x2 := (hv4)
  have h_18 : c s (4 * a3 + 2) = u2 := (hv8)
  refine v_cv c_53_91 km_4_85 rfl (ck_sh hs) (a68sh hs) ⟨⟨rfl, rfl⟩, by decide, rfl⟩ (nb_ rfl) (nb_ rfl) (s_52 (a1 := a2) (a2 := a3) (a3 := 2) (a4 := (fal v1 (tb v2 a1) 2 x2)) hI hs (show 0 ≤ a2 ∧ a2 ≤ 5 from ha2) (show 0 ≤ a3 ∧ a3 ≤ 5 from ha3) (show 0 ≤ 2 ∧ 2 ≤ 3 from ⟨by decide, by decide⟩) (show 0 ≤ (fal v1 (tb v2 a1) 2 x2) ∧ (fal v1 (tb v2 a1) 2 x2) ≤ 9999 from ⟨by first | exact q_47ff97009 h_15 | omega, by first | (clear ha1 ha2 ha3 ha4 hq3 hq4 hq5 hq6 h_1 hv0 h_2 hv1 h_3 hv2 h_4 hv3 h_6 hv5 h_7 hv6 h_8 hv7 h_9 hv8 h_10 hv9 h_11 hv10 h_12 hv11 h_13 hv12 h_14 hv13 h_16 hq0 hq1 hq2; omega) | omega⟩) (by omega) (by first | exact q_b76125d36 h_15 | omega) (by first | (clear ha1 ha2 ha3 ha4 hq4 hq5 hq6 h_1 hv0 h_2 hv1 h_3 hv2 h_4 hv3 h_5 hv4 h_6 hv5 h_9 hv8 h_11 hv10 h_12 hv11 h_13 hv12 h_14 hv13 h_15 hq0 hq1 hq2; omega) | omega) (fun c_19 hI_20 hF_21 h_22 => (bk_inl ?_)))
  have h_23 := ir_s_g hI_20 hs (j := 4 * a2 + 2) (by first | exact q_e07a293a2 ha2 | omega)
  have h_24 := ir_s_g hI_20 hs (j := 4 * a3 + 2) (by first | exact q_e07a293a2 ha3 | omega)
  refine q_aload_n c_53_94 rfl (q_iload_n c_53_95 rfl (q_iload c_53_96 rfl (q_iload c_53_98 rfl (q_aload_n c_53_100 rfl (q_iload_n c_53_101 rfl (q_iload c_53_102 rfl (v_cv c_53_104 km_4_34 rfl (ck_sh hs) (a68sh hs) ⟨⟨rfl, rfl⟩, by decide, rfl⟩ (nb_ rfl) (nb_ rfl) (s_45 (v1 := c_19 s (4 * a2 + 2)) (r := c_19 s (4 * a2 + 2)) (a1 := a2) (a2 := 2) hI_20 hs (show 0 ≤ a2 ∧ a2 ≤ 5 from ha2) (show 0 ≤ 2 ∧ 2 ≤ 3 from ⟨by decide, by decide⟩) (rfl) (by omega) ?_))))))))
  refine bk_inl ?_
  have kn_25 : Hid (c_19 s (4 * a4 + 2) = w2) := (hF_21 s (4 * a4 + 2) (fun q => q.elim (fun h => absurd h.2 (by first | exact q_28bc460e3 hq1 | omega)) (fun q => q.elim (fun h => absurd h.2 (by first | exact q_28bc460e3 hq2 | omega)) (fun h => absurd h.2 (ne_l (by first | exact q_04ab4010a ha3 ha4 | omega)))))).trans (hv12)
  have h_26 : c_19 s (4 * a4 + 2) = w2 := (hid kn_25)
  refine v_cv c_53_107 km_4_85 rfl (ck_sh hs) (a68sh hs) ⟨⟨rfl, rfl⟩, by decide, rfl⟩ (nb_ rfl) (nb_ rfl) (s_52 (a1 := a2) (a2 := a4) (a3 := 2) (a4 := c_19 s (4 * a2 + 2)) hI_20 hs (show 0 ≤ a2 ∧ a2 ≤ 5 from ha2) (show 0 ≤ a4 ∧ a4 ≤ 5 from ha4) (show 0 ≤ 2 ∧ 2 ≤ 3 from ⟨by decide, by decide⟩) (show 0 ≤ c_19 s (4 * a2 + 2) ∧ c_19 s (4 * a2 + 2) ≤ 9999 from h_23) (by omega) (by first | exact q_e074ea49a | omega) (by first | (clear ha1 ha2 ha3 ha4 hq3 hq5 hq6 h_1 hv0 h_2 hv1 h_3 hv2 h_4 hv3 h_5 hv4 h_6 hv5 h_7 hv6 h_8 hv7 h_9 hv8 h_10 hv9 h_13 hv12 h_15 h_23 h_24 hq0 hq1 hq2; omega) | omega) (fun c_27 hI_28 hF_29 h_30 => (bk_inl ?_)))
  have h_31 := ir_s_g hI_28 hs (j := 4 * a2 + 2) (by first | exact q_e07a293a2 ha2 | omega)
  have h_32 := ir_s_g hI_28 hs (j := 4 * a4 + 2) (by first | exact q_e07a293a2 ha4 | omega)
  refine v_iinc (v := 3) c_53_110 rfl (nb_ rfl) (by decide) (q_goto (t := 68) c_53_113 rfl ?_)
  have kn_33 : Hid (c_19 (P + 3) a1 = v1) := (hF_21 (P + 3) a1 (by omega)).trans (hv0)
  have kn_34 : Hid (c_27 (P + 3) a1 = v1) := (hF_29 (P + 3) a1 (by omega)).trans (hid kn_33)
  have kn_35 : Hid (c_19 s 30 = v2) := (hF_21 s 30 (fun q => q.elim (fun h => absurd h.2 (ne_g (by first | exact q_a2b745983 ha2 | omega))) (fun q => q.elim (fun h => absurd h.2 (ne_g (by first | exact q_a2b745983 ha3 | omega))) (fun h => absurd h.2 (ne_g (by first | exact q_3b49164d8 ha3 | omega)))))).trans (hv1)
  have kn_36 : Hid (c_27 s 30 = v2) := (hF_29 s 30 (fun q => q.elim (fun h => absurd h.2 (ne_g (by first | exact q_a2b745983 ha2 | omega))) (fun q => q.elim (fun h => absurd h.2 (ne_g (by first | exact q_a2b745983 ha4 | omega))) (fun h => absurd h.2 (ne_g (by first | exact q_3b49164d8 ha4 | omega)))))).trans (hid kn_35)
  have kn_37 : Hid (c_19 s (4 * a2) = x0) := (hF_21 s (4 * a2) (fun q => q.elim (fun h => absurd h.2 (ne_l (by first | exact q_1cdd15b2c | omega))) (fun q => q.elim (fun h => absurd h.2 (by first | exact q_c037f51da | omega)) (fun h => absurd h.2 (ne_l (by first | exact q_2b13428e8 ha2 ha3 | omega)))))).trans (hv2)
  have kn_38 : Hid (c_27 s (4 * a2) = x0) := (hF_29 s (4 * a2) (fun q => q.elim (fun h => absurd h.2 (ne_l (by first | exact q_1cdd15b2c | omega))) (fun q => q.elim (fun h => absurd h.2 (by first | exact q_c037f51da | omega)) (fun h => absurd h.2 (ne_l (by first | exact q_2b13428e8 ha2 ha4 | omega)))))).trans (hid kn_37)
  have kn_39 : Hid (c_19 s (4 * a2 + 1) = x1) := (hF_21 s (4 * a2 + 1) (fun q => q.elim (fun h => absurd h.2 (ne_l (by first | exact q_af9ea9c7d | omega))) (fun q => q.elim (fun h => absurd h.2 (by first | exact q_3650b790c | omega)) (fun h => absurd h.2 (ne_l (by first | exact q_3178328df ha2 ha3 | omega)))))).trans (hv3)
  have kn_40 : Hid (c_27 s (4 * a2 + 1) = x1) := (hF_29 s (4 * a2 + 1) (fun q => q.elim (fun h => absurd h.2 (ne_l (by first | exact q_af9ea9c7d | omega))) (fun q => q.elim (fun h => absurd h.2 (by first | exact q_3650b790c | omega)) (fun h => absurd h.2 (ne_l (by first | exact q_3178328df ha2 ha4 | omega)))))).trans (hid kn_39)
  have kn_41 : Hid (c_19 s (4 * a2 + 3) = x3) := (hF_21 s (4 * a2 + 3) (fun q => q.elim (fun h => absurd h.2 (ne_g (by first | exact q_693f489f1 | omega))) (fun q => q.elim (fun h => absurd h.2 (by first | exact q_28d70e8e5 | omega)) (fun h => absurd h.2 (ne_l (by first | exact q_2771393a8 ha2 ha3 | omega)))))).trans (hv5)
  have kn_42 : Hid (c_27 s (4 * a2 + 3) = x3) := (hF_29 s (4 * a2 + 3) (fun q => q.elim (fun h => absurd h.2 (ne_g (by first | exact q_693f489f1 | omega))) (fun q => q.elim (fun h => absurd h.2 (by first | exact q_28d70e8e5 | omega)) (fun h => absurd h.2 (ne_l (by first | exact q_2771393a8 ha2 ha4 | omega)))))).trans (hid kn_41)
  have kn_43 : Hid (c_19 s (4 * a3) = u0) := (hF_21 s (4 * a3) (fun q => q.elim (fun h => absurd h.2 (by first | exact q_c037f51da | omega)) (fun q => q.elim (fun h => absurd h.2 (ne_l (by first | exact q_1cdd15b2c | omega))) (fun h => absurd h.2 (ne_l (by first | exact q_788f4b81f ha3 | omega)))))).trans (hv6)
  have kn_44 : Hid (c_27 s (4 * a3) = u0) := (hF_29 s (4 * a3) (fun q => q.elim (fun h => absurd h.2 (by first | exact q_c037f51da | omega)) (fun q => q.elim (fun h => absurd h.2 (by first | exact q_c037f51da | omega)) (fun h => absurd h.2 (ne_l (by first | exact q_2b13428e8 ha3 ha4 | omega)))))).trans (hid kn_43)
  have kn_45 : Hid (c_19 s (4 * a3 + 1) = u1) := (hF_21 s (4 * a3 + 1) (fun q => q.elim (fun h => absurd h.2 (by first | exact q_3650b790c | omega)) (fun q => q.elim (fun h => absurd h.2 (ne_l (by first | exact q_af9ea9c7d | omega))) (fun h => absurd h.2 (ne_l (by first | exact q_60c9feeee ha3 | omega)))))).trans (hv7)
  have kn_46 : Hid (c_27 s (4 * a3 + 1) = u1) := (hF_29 s (4 * a3 + 1) (fun q => q.elim (fun h => absurd h.2 (by first | exact q_3650b790c | omega)) (fun q => q.elim (fun h => absurd h.2 (by first | exact q_3650b790c | omega)) (fun h => absurd h.2 (ne_l (by first | exact q_3178328df ha3 ha4 | omega)))))).trans (hid kn_45)
  have kn_47 : Hid (c_27 s (4 * a3 + 2) = c_19 s (4 * a3 + 2)) := hF_29 s (4 * a3 + 2) (fun q => q.elim (fun h => absurd h.2 (by first | exact q_28bc460e3 hq0 | omega)) (fun q => q.elim (fun h => absurd h.2 (by first | exact q_fa7eff6f3 hq2 | omega)) (fun h => absurd h.2 (ne_l (by first | exact q_428481d46 ha3 ha4 | omega)))))
  have kn_48 : Hid (c_19 s (4 * a3 + 3) = u3) := (hF_21 s (4 * a3 + 3) (fun q => q.elim (fun h => absurd h.2 (by first | exact q_28d70e8e5 | omega)) (fun q => q.elim (fun h => absurd h.2 (ne_g (by first | exact q_693f489f1 | omega))) (fun h => absurd h.2 (ne_l (by first | exact q_fd9aac8f8 ha3 | omega)))))).trans (hv9)
  have kn_49 : Hid (c_27 s (4 * a3 + 3) = u3) := (hF_29 s (4 * a3 + 3) (fun q => q.elim (fun h => absurd h.2 (by first | exact q_28d70e8e5 | omega)) (fun q => q.elim (fun h => absurd h.2 (by first | exact q_28d70e8e5 | omega)) (fun h => absurd h.2 (ne_l (by first | exact q_2771393a8 ha3 ha4 | omega)))))).trans (hid kn_48)
  have kn_50 : Hid (c_19 s (4 * a4) = w0) := (hF_21 s (4 * a4) (fun q => q.elim (fun h => absurd h.2 (by first | exact q_c037f51da | omega)) (fun q => q.elim (fun h => absurd h.2 (by first | exact q_c037f51da | omega)) (fun h => absurd h.2 (ne_l (by first | exact q_4128697c9 ha3 ha4 | omega)))))).trans (hv10)
  have kn_51 : Hid (c_27 s (4 * a4) = w0) := (hF_29 s (4 * a4) (fun q => q.elim (fun h => absurd h.2 (by first | exact q_c037f51da | omega)) (fun q => q.elim (fun h => absurd h.2 (ne_l (by first | exact q_1cdd15b2c | omega))) (fun h => absurd h.2 (ne_l (by first | exact q_788f4b81f ha4 | omega)))))).trans (hid kn_50)
  have kn_52 : Hid (c_19 s (4 * a4 + 1) = w1) := (hF_21 s (4 * a4 + 1) (fun q => q.elim (fun h => absurd h.2 (by first | exact q_3650b790c | omega)) (fun q => q.elim (fun h => absurd h.2 (by first | exact q_3650b790c | omega)) (fun h => absurd h.2 (ne_l (by first | exact q_8f2481ba6 ha3 ha4 | omega)))))).trans (hv11)
  have kn_53 : Hid (c_27 s (4 * a4 + 1) = w1) := (hF_29 s (4 * a4 + 1) (fun q => q.elim (fun h => absurd h.2 (by first | exact q_3650b790c | omega)) (fun q => q.elim (fun h => absurd h.2 (ne_l (by first | exact q_af9ea9c7d | omega))) (fun h => absurd h.2 (ne_l (by first | exact q_60c9feeee ha4 | omega)))))).trans (hid kn_52)
  have kn_54 : Hid (c_19 s (4 * a4 + 3) = w3) := (hF_21 s (4 * a4 + 3) (fun q => q.elim (fun h => absurd h.2 (by first | exact q_28d70e8e5 | omega)) (fun q => q.elim (fun h => absurd h.2 (by first | exact q_28d70e8e5 | omega)) (fun h => absurd h.2 (ne_l (by first | exact q_e782b8c3c ha3 ha4 | omega)))))).trans (hv13)
  have kn_55 : Hid (c_27 s (4 * a4 + 3) = w3) := (hF_29 s (4 * a4 + 3) (fun q => q.elim (fun h => absurd h.2 (by first | exact q_28d70e8e5 | omega)) (fun q => q.elim (fun h => absurd h.2 (ne_g (by first | exact q_693f489f1 | omega))) (fun h => absurd h.2 (ne_l (by first | exact q_fd9aac8f8 ha4 | omega)))))).trans (hid kn_54)
  have hqo_56 : ∀ j : Int, rs s j → ¬ j = 4 * a2 → ¬ j = 4 * a3 → ¬ j = 4 * a4 → c_27 s j + c_27 s (j + 1) + c_27 s (j + 2) + c_27 s (j + 3) ≤ 9999 := by
    intro j9 hj9 hz0 hz1 hz2
    obtain ⟨k9, rfl, hk9⟩ := rs_s hs hj9
    have h_57 := hqo (4 * k9) hj9 (by omega) (by omega) (by omega)
    have h_58 := ir_s_g hI hs (j := 4 * k9) (by first | exact q_9f1d5ffdc hk9 | omega)
    have kn_59 : Hid (c_19 s (4 * k9) = c s (4 * k9)) := hF_21 s (4 * k9) (fun q => q.elim (fun h => absurd h.2 (by first | exact q_c037f51da | omega)) (fun q => q.elim (fun h => absurd h.2 (by first | exact q_c037f51da | omega)) (fun h => absurd h.2 (ne_l (by first | exact q_4128697c9 ha3 hk9 | omega)))))
    have kn_60 : Hid (c_27 s (4 * k9) = c s (4 * k9)) := (hF_29 s (4 * k9) (fun q => q.elim (fun h => absurd h.2 (by first | exact q_c037f51da | omega)) (fun q => q.elim (fun h => absurd h.2 (by first | exact q_c037f51da | omega)) (fun h => absurd h.2 (ne_l (by first | exact q_4128697c9 ha4 hk9 | omega)))))).trans (hid kn_59)
    have h_61 : c_27 s (4 * k9) = c s (4 * k9) := (hid kn_60)
    have h_62 := ir_s_g hI hs (j := 4 * k9 + 1) (by first | exact q_0a2ee6f8f hk9 | omega)
    have kn_63 : Hid (c_19 s (4 * k9 + 1) = c s (4 * k9 + 1)) := hF_21 s (4 * k9 + 1) (fun q => q.elim (fun h => absurd h.2 (by first | exact q_3650b790c | omega)) (fun q => q.elim (fun h => absurd h.2 (by first | exact q_3650b790c | omega)) (fun h => absurd h.2 (ne_l (by first | exact q_8f2481ba6 ha3 hk9 | omega)))))
    have kn_64 : Hid (c_27 s (4 * k9 + 1) = c s (4 * k9 + 1)) := (hF_29 s (4 * k9 + 1) (fun q => q.elim (fun h => absurd h.2 (by first | exact q_3650b790c | omega)) (fun q => q.elim (fun h => absurd h.2 (by first | exact q_3650b790c | omega)) (fun h => absurd h.2 (ne_l (by first | exact q_8f2481ba6 ha4 hk9 | omega)))))).trans (hid kn_63)
    have h_65 : c_27 s (4 * k9 + 1) = c s (4 * k9 + 1) := (hid kn_64)
    have h_66 := ir_s_g hI hs (j := 4 * k9 + 2) (by first | exact q_e07a293a2 hk9 | omega)
    have kn_67 : Hid (c_19 s (4 * k9 + 2) = c s (4 * k9 + 2)) := hF_21 s (4 * k9 + 2) (fun q => q.elim (fun h => absurd h.2 (by first | (clear ha1 ha2 ha3 ha4 hq3 hq4 hq5 hq6 h_1 hv0 h_2 hv1 h_3 hv2 h_4 hv3 h_5 hv4 h_6 hv5 h_7 hv6 h_8 hv7 h_9 hv8 h_10 hv9 h_11 hv10 h_12 hv11 h_13 hv12 h_14 hv13 h_15 h_16 h_23 h_24 h_22 h_31 h_32 h_30 hk9 h_58 h_62 h_66 hq0 hq1 hq2; omega) | omega)) (fun q => q.elim (fun h => absurd h.2 (by first | (clear ha1 ha2 ha3 ha4 hq3 hq4 hq5 hq6 h_1 hv0 h_2 hv1 h_3 hv2 h_4 hv3 h_5 hv4 h_6 hv5 h_7 hv6 h_8 hv7 h_9 hv8 h_10 hv9 h_11 hv10 h_12 hv11 h_13 hv12 h_14 hv13 h_15 h_16 h_23 h_24 h_22 h_31 h_32 h_30 hk9 h_58 h_62 h_66 hq0 hq1 hq2; omega) | omega)) (fun h => absurd h.2 (ne_l (by first | exact q_04ab4010a ha3 hk9 | omega)))))
    have kn_68 : Hid (c_27 s (4 * k9 + 2) = c s (4 * k9 + 2)) := (hF_29 s (4 * k9 + 2) (fun q => q.elim (fun h => absurd h.2 (by first | (clear ha1 ha2 ha3 ha4 hq3 hq4 hq5 hq6 h_1 hv0 h_2 hv1 h_3 hv2 h_4 hv3 h_5 hv4 h_6 hv5 h_7 hv6 h_8 hv7 h_9 hv8 h_10 hv9 h_11 hv10 h_12 hv11 h_13 hv12 h_14 hv13 h_15 h_16 h_23 h_24 h_22 h_31 h_32 h_30 hk9 h_58 h_62 h_66 hq0 hq1 hq2; omega) | omega)) (fun q => q.elim (fun h => absurd h.2 (by first | (clear ha1 ha2 ha3 ha4 hq3 hq4 hq5 hq6 h_1 hv0 h_2 hv1 h_3 hv2 h_4 hv3 h_5 hv4 h_6 hv5 h_7 hv6 h_8 hv7 h_9 hv8 h_10 hv9 h_11 hv10 h_12 hv11 h_13 hv12 h_14 hv13 h_15 h_16 h_23 h_24 h_22 h_31 h_32 h_30 hk9 h_58 h_62 h_66 hq0 hq1 hq2; omega) | omega)) (fun h => absurd h.2 (ne_l (by first | exact q_04ab4010a ha4 hk9 | omega)))))).trans (hid kn_67)
    have h_69 : c_27 s (4 * k9 + 2) = c s (4 * k9 + 2) := (hid kn_68)
    have h_70 := ir_s_g hI hs (j := 4 * k9 + 3) (by first | exact q_d09cb0b73 hk9 | omega)
    have kn_71 : Hid (c_19 s (4 * k9 + 3) = c s (4 * k9 + 3)) := hF_21 s (4 * k9 + 3) (fun q => q.elim (fun h => absurd h.2 (by first | exact q_28d70e8e5 | omega)) (fun q => q.elim (fun h => absurd h.2 (by first | exact q_28d70e8e5 | omega)) (fun h => absurd h.2 (ne_l (by first | exact q_e782b8c3c ha3 hk9 | omega)))))
    have kn_72 : Hid (c_27 s (4 * k9 + 3) = c s (4 * k9 + 3)) := (hF_29 s (4 * k9 + 3) (fun q => q.elim (fun h => absurd h.2 (by first | exact q_28d70e8e5 | omega)) (fun q => q.elim (fun h => absurd h.2 (by first | exact q_28d70e8e5 | omega)) (fun h => absurd h.2 (ne_l (by first | exact q_e782b8c3c ha4 hk9 | omega)))))).trans (hid kn_71)
    have h_73 : c_27 s (4 * k9 + 3) = c s (4 * k9 + 3) := (hid kn_72)
    omega
  refine Wp_ls [(0, .ref sh), (1, vi a1), (2, vi a2), (3, vi a3), (4, vi a4), (7, vi 3)] (lsub_cons rfl (lsub_cons rfl (lsub_cons rfl (lsub_cons rfl (lsub_cons rfl (lsub_cons rfl lsub_nil)))))) ?_
  exact s_53_3 (v1 := v1) (v2 := v2) (x0 := x0) (x1 := x1) (x2 := c_27 s (4 * a2 + 2)) (x3 := x3) (u0 := u0) (u1 := u1) (u2 := c_19 s (4 * a3 + 2)) (u3 := u3) (w0 := w0) (w1 := w1) (w2 := c_27 s (4 * a4 + 2)) (w3 := w3) hI_28 hs (by omega) (by omega) (by omega) (by omega) (by omega) (by omega) (by omega) (by omega) (by omega) (by omega) (by omega) (by omega) hqo_56 ((hid kn_34)) ((hid kn_36)) ((hid kn_38)) ((hid kn_40)) rfl ((hid kn_42)) ((hid kn_44)) ((hid kn_46)) ((hid kn_47)) ((hid kn_49)) ((hid kn_51)) ((hid kn_53)) rfl ((hid kn_55)) (fun c9 y9 hI9 hF9 hy9 => K c9 y9 hI9 (fun a j hm => (hF9 a j (by omega)).trans ((hF_29 a j (by omega)).trans (hF_21 a j (by omega)))) hy9)
set_option maxRecDepth 100000 in
set_option maxHeartbeats 4000000 in
theorem s_53_1 {sc : List Int32} {d P Q sh s : Nat} {c : ME} {v1 v2 x0 x1 x2 x3 u0 u1 u2 u3 w0 w1 w2 w3 : Int} {a1 : Int} {a2 : Int} {a3 : Int} {a4 : Int} {Z : AR → Prop} (hI : Iv s (-1) P Q c) (hs : (sh = 37 ∧ s = 38) ∨ (sh = 39 ∧ s = 40)) (ha1 : 0 ≤ a1 ∧ a1 ≤ 3) (ha2 : 0 ≤ a2 ∧ a2 ≤ 5) (ha3 : 0 ≤ a3 ∧ a3 ≤ 5) (ha4 : 0 ≤ a4 ∧ a4 ≤ 5) (hq0 : (a2 < a3) ∨ (a2 > a3)) (hq1 : (a2 < a4) ∨ (a2 > a4)) (hq2 : (a3 < a4) ∨ (a3 > a4)) (hq3 : ((fal v1 (tb v2 a1) 1 x1) + (fal v1 (tb v2 a1) 2 x2) + (fal v1 (tb v2 a1) 3 x3) + u0 + u1 + u2 + u3 ≤ 9999)) (hq4 : (w0 + w1 + w2 + w3 + x1 + x2 + x3 - (fal v1 (tb v2 a1) 1 x1) - (fal v1 (tb v2 a1) 2 x2) - (fal v1 (tb v2 a1) 3 x3) ≤ 9999)) (hq5 : (x0 = 0)) (hq6 : ∀ j : Int, rs s j → ¬ j = 4 * a2 → ¬ j = 4 * a3 → ¬ j = 4 * a4 → c s j + c s (j + 1) + c s (j + 2) + c s (j + 3) ≤ 9999) (hv0 : c (P + 3) a1 = v1) (hv1 : c s 30 = v2) (hv2 : c s (4 * a2) = x0) (hv3 : c s (4 * a2 + 1) = x1) (hv4 : c s (4 * a2 + 2) = x2) (hv5 : c s (4 * a2 + 3) = x3) (hv6 : c s (4 * a3) = u0) (hv7 : c s (4 * a3 + 1) = u1) (hv8 : c s (4 * a3 + 2) = u2) (hv9 : c s (4 * a3 + 3) = u3) (hv10 : c s (4 * a4) = w0) (hv11 : c s (4 * a4 + 1) = w1) (hv12 : c s (4 * a4 + 2) = w2) (hv13 : c s (4 * a4 + 3) = w3) (K : ∀ (c2 : ME) (y : Int), Iv 0 (-1) P Q c2 → (∀ (a : Nat) (j : Int), ¬ (a = s) → c2 a j = c a j) → 0 ≤ y ∧ y ≤ 1 → Z (.inl (some (vi y)), Wd P Q P P c2, 0, 0)) : Wp sc (d + 11) 53 68 [(0, .ref sh), (1, vi a1), (2, vi a2), (3, vi a3), (4, vi a4), (7, vi 1)] [] (Wd P Q P P c) 0 0 Z := by
  have hP := iv_P hI
  have hQ := iv_Q hI
  have h_1 := ir_p3 hI hP a1
  have h_2 := ir_s hI hs 30
  have h_3 := ir_s_g hI hs (j := 4 * a2) (by first | exact q_9f1d5ffdc ha2 | omega)
  have h_4 := ir_s_g hI hs (j := 4 * a2 + 1) (by first | exact q_0a2ee6f8f ha2 | omega)
  have h_5 := ir_s_g hI hs (j := 4 * a2 + 2) (by first | exact q_e07a293a2 ha2 | omega)
  have h_6 := ir_s_g hI hs (j := 4 * a2 + 3) (by first | exact q_d09cb0b73 ha2 | omega)
  have h_7 := ir_s_g hI hs (j := 4 * a3) (by first | exact q_9f1d5ffdc ha3 | omega)
  have h_8 := ir_s_g hI hs (j := 4 * a3 + 1) (by first | exact q_0a2ee6f8f ha3 | omega)
  have h_9 := ir_s_g hI hs (j := 4 * a3 + 2) (by first | exact q_e07a293a2 ha3 | omega)
  have h_10 := ir_s_g hI hs (j := 4 * a3 + 3) (by first | exact q_d09cb0b73 ha3 | omega)
  have h_11 := ir_s_g hI hs (j := 4 * a4) (by first | exact q_9f1d5ffdc ha4 | omega)
  have h_12 := ir_s_g hI hs (j := 4 * a4 + 1) (by first | exact q_0a2ee6f8f ha4 | omega)
  have h_13 := ir_s_g hI hs (j := 4 * a4 + 2) (by first | exact q_e07a293a2 ha4 | omega)
  have h_14 := ir_s_g hI hs (j := 4 * a4 + 3) (by first | exact q_d09cb0b73 ha4 | omega)
  have hqo := hq6
  have h_15 := fal_rng (m := v1) (t := tb v2 a1) (g := 1) (x := x1) (by omega)
  have h_16 := fal_rng (m := v1) (t := tb v2 a1) (g := 2) (x := x2) (by omega)
  have h_17 := fal_rng (m := v1) (t := tb v2 a1) (g := 3) (x := x3) (by omega)
  refine q_iload c_53_68 rfl (q_iconst c_53_70 (v_ic_ge_f (t := 116) c_53_71 rfl (by decide) (q_aload_n c_53_74 rfl (q_iload_n c_53_75 rfl (q_iload_n c_53_76 rfl (q_iload c_53_77 rfl (v_cv c_53_79 km_4_69 rfl (ck_sh hs) (a68sh hs) ⟨⟨rfl, rfl⟩, by decide, rfl⟩ (nb_ rfl) (nb_ rfl) (s_48 (v1 := v1) (v2 := v2) (v3 := x1) (r := (fal v1 (tb v2 a1) 1 x1)) (a1 := a1) (a2 := a2) (a3 := 1) hI hs (show 0 ≤ a1 ∧ a1 ≤ 3 from ha1) (show 0 ≤ a2 ∧ a2 ≤ 5 from ha2) (show 0 ≤ 1 ∧ 1 ≤ 3 from ⟨by decide, by decide⟩) ((hv0)) ((hv1)) ((hv3)) rfl ?_))))))))
  refine bk_inl (q_istore c_53_82 (nb_ rfl) (q_aload_n c_53_84 rfl (q_iload_n c_53_85 rfl (q_iload_n c_53_86 rfl (q_iload c_53_87 rfl (q_iload c_53_89 rfl ?_))))))
  have h_18 : c s (4 * a2 + 1) = x1 := (hv3)
  have h_19 : c s (4 * a3 + 1) = u1 := (hv7)
  refine v_cv c_53_91 km_4_85 rfl (ck_sh hs) (a68sh hs) ⟨⟨rfl, rfl⟩, by decide, rfl⟩ (nb_ rfl) (nb_ rfl) (s_52 (a1 := a2) (a2 := a3) (a3 := 1) (a4 := (fal v1 (tb v2 a1) 1 x1)) hI hs (show 0 ≤ a2 ∧ a2 ≤ 5 from ha2) (show 0 ≤ a3 ∧ a3 ≤ 5 from ha3) (show 0 ≤ 1 ∧ 1 ≤ 3 from ⟨by decide, by decide⟩) (show 0 ≤ (fal v1 (tb v2 a1) 1 x1) ∧ (fal v1 (tb v2 a1) 1 x1) ≤ 9999 from ⟨by first | exact q_47ff97009 h_15 | omega, by first | (clear ha1 ha2 ha3 ha4 hq3 hq4 hq5 h_1 hv0 h_2 hv1 h_3 hv2 h_5 hv4 h_6 hv5 h_7 hv6 h_8 hv7 h_9 hv8 h_10 hv9 h_11 hv10 h_12 hv11 h_13 hv12 h_14 hv13 h_16 h_17 hq0 hq1 hq2; omega) | omega⟩) (by omega) (by first | exact q_b76125d36 h_15 | omega) (by first | (clear ha1 ha2 ha3 ha4 hq4 hq5 h_1 hv0 h_2 hv1 h_3 hv2 h_4 hv3 h_5 hv4 h_6 hv5 h_8 hv7 h_11 hv10 h_12 hv11 h_13 hv12 h_14 hv13 h_15 hq0 hq1 hq2; omega) | omega) (fun c_20 hI_21 hF_22 h_23 => (bk_inl ?_)))
  have h_24 := ir_s_g hI_21 hs (j := 4 * a2 + 1) (by first | exact q_0a2ee6f8f ha2 | omega)
  have h_25 := ir_s_g hI_21 hs (j := 4 * a3 + 1) (by first | exact q_0a2ee6f8f ha3 | omega)
  refine q_aload_n c_53_94 rfl (q_iload_n c_53_95 rfl (q_iload c_53_96 rfl (q_iload c_53_98 rfl (q_aload_n c_53_100 rfl (q_iload_n c_53_101 rfl (q_iload c_53_102 rfl (v_cv c_53_104 km_4_34 rfl (ck_sh hs) (a68sh hs) ⟨⟨rfl, rfl⟩, by decide, rfl⟩ (nb_ rfl) (nb_ rfl) (s_45 (v1 := c_20 s (4 * a2 + 1)) (r := c_20 s (4 * a2 + 1)) (a1 := a2) (a2 := 1) hI_21 hs (show 0 ≤ a2 ∧ a2 ≤ 5 from ha2) (show 0 ≤ 1 ∧ 1 ≤ 3 from ⟨by decide, by decide⟩) (rfl) (by omega) ?_))))))))
  refine bk_inl ?_
  have kn_26 : Hid (c_20 s (4 * a4 + 1) = w1) := (hF_22 s (4 * a4 + 1) (fun q => q.elim (fun h => absurd h.2 (by first | exact q_0f4cbf258 hq1 | omega)) (fun q => q.elim (fun h => absurd h.2 (by first | exact q_0f4cbf258 hq2 | omega)) (fun h => absurd h.2 (ne_l (by first | exact q_8f2481ba6 ha3 ha4 | omega)))))).trans (hv11)
  have h_27 : c_20 s (4 * a4 + 1) = w1 := (hid kn_26)
  refine v_cv c_53_107 km_4_85 rfl (ck_sh hs) (a68sh hs) ⟨⟨rfl, rfl⟩, by decide, rfl⟩ (nb_ rfl) (nb_ rfl) (s_52 (a1 := a2) (a2 := a4) (a3 := 1) (a4 := c_20 s (4 * a2 + 1)) hI_21 hs (show 0 ≤ a2 ∧ a2 ≤ 5 from ha2) (show 0 ≤ a4 ∧ a4 ≤ 5 from ha4) (show 0 ≤ 1 ∧ 1 ≤ 3 from ⟨by decide, by decide⟩) (show 0 ≤ c_20 s (4 * a2 + 1) ∧ c_20 s (4 * a2 + 1) ≤ 9999 from h_24) (by omega) (by first | exact q_e074ea49a | omega) (by first | (clear ha1 ha2 ha3 ha4 hq3 hq5 h_1 hv0 h_2 hv1 h_3 hv2 h_4 hv3 h_5 hv4 h_6 hv5 h_7 hv6 h_8 hv7 h_9 hv8 h_10 hv9 h_12 hv11 h_15 h_24 h_25 hq0 hq1 hq2; omega) | omega) (fun c_28 hI_29 hF_30 h_31 => (bk_inl ?_)))
  have h_32 := ir_s_g hI_29 hs (j := 4 * a2 + 1) (by first | exact q_0a2ee6f8f ha2 | omega)
  have h_33 := ir_s_g hI_29 hs (j := 4 * a4 + 1) (by first | exact q_0a2ee6f8f ha4 | omega)
  refine v_iinc (v := 2) c_53_110 rfl (nb_ rfl) (by decide) (q_goto (t := 68) c_53_113 rfl ?_)
  have kn_34 : Hid (c_20 (P + 3) a1 = v1) := (hF_22 (P + 3) a1 (by omega)).trans (hv0)
  have kn_35 : Hid (c_28 (P + 3) a1 = v1) := (hF_30 (P + 3) a1 (by omega)).trans (hid kn_34)
  have kn_36 : Hid (c_20 s 30 = v2) := (hF_22 s 30 (fun q => q.elim (fun h => absurd h.2 (ne_g (by first | exact q_22d8600d4 ha2 | omega))) (fun q => q.elim (fun h => absurd h.2 (ne_g (by first | exact q_22d8600d4 ha3 | omega))) (fun h => absurd h.2 (ne_g (by first | exact q_3b49164d8 ha3 | omega)))))).trans (hv1)
  have kn_37 : Hid (c_28 s 30 = v2) := (hF_30 s 30 (fun q => q.elim (fun h => absurd h.2 (ne_g (by first | exact q_22d8600d4 ha2 | omega))) (fun q => q.elim (fun h => absurd h.2 (ne_g (by first | exact q_22d8600d4 ha4 | omega))) (fun h => absurd h.2 (ne_g (by first | exact q_3b49164d8 ha4 | omega)))))).trans (hid kn_36)
  have kn_38 : Hid (c_20 s (4 * a2) = x0) := (hF_22 s (4 * a2) (fun q => q.elim (fun h => absurd h.2 (ne_l (by first | exact q_4994d6793 | omega))) (fun q => q.elim (fun h => absurd h.2 (by first | exact q_b2cb8bf87 | omega)) (fun h => absurd h.2 (ne_l (by first | exact q_2b13428e8 ha2 ha3 | omega)))))).trans (hv2)
  have kn_39 : Hid (c_28 s (4 * a2) = x0) := (hF_30 s (4 * a2) (fun q => q.elim (fun h => absurd h.2 (ne_l (by first | exact q_4994d6793 | omega))) (fun q => q.elim (fun h => absurd h.2 (by first | exact q_b2cb8bf87 | omega)) (fun h => absurd h.2 (ne_l (by first | exact q_2b13428e8 ha2 ha4 | omega)))))).trans (hid kn_38)
  have kn_40 : Hid (c_20 s (4 * a2 + 2) = x2) := (hF_22 s (4 * a2 + 2) (fun q => q.elim (fun h => absurd h.2 (ne_g (by first | exact q_af9ea9c7d | omega))) (fun q => q.elim (fun h => absurd h.2 (by first | exact q_08c3d7060 | omega)) (fun h => absurd h.2 (ne_l (by first | exact q_428481d46 ha2 ha3 | omega)))))).trans (hv4)
  have kn_41 : Hid (c_28 s (4 * a2 + 2) = x2) := (hF_30 s (4 * a2 + 2) (fun q => q.elim (fun h => absurd h.2 (ne_g (by first | exact q_af9ea9c7d | omega))) (fun q => q.elim (fun h => absurd h.2 (by first | exact q_08c3d7060 | omega)) (fun h => absurd h.2 (ne_l (by first | exact q_428481d46 ha2 ha4 | omega)))))).trans (hid kn_40)
  have kn_42 : Hid (c_20 s (4 * a2 + 3) = x3) := (hF_22 s (4 * a2 + 3) (fun q => q.elim (fun h => absurd h.2 (ne_g (by first | exact q_4e2243c37 | omega))) (fun q => q.elim (fun h => absurd h.2 (by first | exact q_6d5c6886e | omega)) (fun h => absurd h.2 (ne_l (by first | exact q_2771393a8 ha2 ha3 | omega)))))).trans (hv5)
  have kn_43 : Hid (c_28 s (4 * a2 + 3) = x3) := (hF_30 s (4 * a2 + 3) (fun q => q.elim (fun h => absurd h.2 (ne_g (by first | exact q_4e2243c37 | omega))) (fun q => q.elim (fun h => absurd h.2 (by first | exact q_6d5c6886e | omega)) (fun h => absurd h.2 (ne_l (by first | exact q_2771393a8 ha2 ha4 | omega)))))).trans (hid kn_42)
  have kn_44 : Hid (c_20 s (4 * a3) = u0) := (hF_22 s (4 * a3) (fun q => q.elim (fun h => absurd h.2 (by first | exact q_b2cb8bf87 | omega)) (fun q => q.elim (fun h => absurd h.2 (ne_l (by first | exact q_4994d6793 | omega))) (fun h => absurd h.2 (ne_l (by first | exact q_788f4b81f ha3 | omega)))))).trans (hv6)
  have kn_45 : Hid (c_28 s (4 * a3) = u0) := (hF_30 s (4 * a3) (fun q => q.elim (fun h => absurd h.2 (by first | exact q_b2cb8bf87 | omega)) (fun q => q.elim (fun h => absurd h.2 (by first | exact q_b2cb8bf87 | omega)) (fun h => absurd h.2 (ne_l (by first | exact q_2b13428e8 ha3 ha4 | omega)))))).trans (hid kn_44)
  have kn_46 : Hid (c_28 s (4 * a3 + 1) = c_20 s (4 * a3 + 1)) := hF_30 s (4 * a3 + 1) (fun q => q.elim (fun h => absurd h.2 (by first | exact q_0f4cbf258 hq0 | omega)) (fun q => q.elim (fun h => absurd h.2 (by first | exact q_fd7998cba hq2 | omega)) (fun h => absurd h.2 (ne_l (by first | exact q_3178328df ha3 ha4 | omega)))))
  have kn_47 : Hid (c_20 s (4 * a3 + 2) = u2) := (hF_22 s (4 * a3 + 2) (fun q => q.elim (fun h => absurd h.2 (by first | exact q_08c3d7060 | omega)) (fun q => q.elim (fun h => absurd h.2 (ne_g (by first | exact q_af9ea9c7d | omega))) (fun h => absurd h.2 (ne_l (by first | exact q_27ec1b4d7 ha3 | omega)))))).trans (hv8)
  have kn_48 : Hid (c_28 s (4 * a3 + 2) = u2) := (hF_30 s (4 * a3 + 2) (fun q => q.elim (fun h => absurd h.2 (by first | exact q_08c3d7060 | omega)) (fun q => q.elim (fun h => absurd h.2 (by first | exact q_08c3d7060 | omega)) (fun h => absurd h.2 (ne_l (by first | exact q_428481d46 ha3 ha4 | omega)))))).trans (hid kn_47)
  have kn_49 : Hid (c_20 s (4 * a3 + 3) = u3) := (hF_22 s (4 * a3 + 3) (fun q => q.elim (fun h => absurd h.2 (by first | exact q_6d5c6886e | omega)) (fun q => q.elim (fun h => absurd h.2 (ne_g (by first | exact q_4e2243c37 | omega))) (fun h => absurd h.2 (ne_l (by first | exact q_fd9aac8f8 ha3 | omega)))))).trans (hv9)
  have kn_50 : Hid (c_28 s (4 * a3 + 3) = u3) := (hF_30 s (4 * a3 + 3) (fun q => q.elim (fun h => absurd h.2 (by first | exact q_6d5c6886e | omega)) (fun q => q.elim (fun h => absurd h.2 (by first | exact q_6d5c6886e | omega)) (fun h => absurd h.2 (ne_l (by first | exact q_2771393a8 ha3 ha4 | omega)))))).trans (hid kn_49)
  have kn_51 : Hid (c_20 s (4 * a4) = w0) := (hF_22 s (4 * a4) (fun q => q.elim (fun h => absurd h.2 (by first | exact q_b2cb8bf87 | omega)) (fun q => q.elim (fun h => absurd h.2 (by first | exact q_b2cb8bf87 | omega)) (fun h => absurd h.2 (ne_l (by first | exact q_4128697c9 ha3 ha4 | omega)))))).trans (hv10)
  have kn_52 : Hid (c_28 s (4 * a4) = w0) := (hF_30 s (4 * a4) (fun q => q.elim (fun h => absurd h.2 (by first | exact q_b2cb8bf87 | omega)) (fun q => q.elim (fun h => absurd h.2 (ne_l (by first | exact q_4994d6793 | omega))) (fun h => absurd h.2 (ne_l (by first | exact q_788f4b81f ha4 | omega)))))).trans (hid kn_51)
  have kn_53 : Hid (c_20 s (4 * a4 + 2) = w2) := (hF_22 s (4 * a4 + 2) (fun q => q.elim (fun h => absurd h.2 (by first | exact q_08c3d7060 | omega)) (fun q => q.elim (fun h => absurd h.2 (by first | exact q_08c3d7060 | omega)) (fun h => absurd h.2 (ne_l (by first | exact q_04ab4010a ha3 ha4 | omega)))))).trans (hv12)
  have kn_54 : Hid (c_28 s (4 * a4 + 2) = w2) := (hF_30 s (4 * a4 + 2) (fun q => q.elim (fun h => absurd h.2 (by first | exact q_08c3d7060 | omega)) (fun q => q.elim (fun h => absurd h.2 (ne_g (by first | exact q_af9ea9c7d | omega))) (fun h => absurd h.2 (ne_l (by first | exact q_27ec1b4d7 ha4 | omega)))))).trans (hid kn_53)
  have kn_55 : Hid (c_20 s (4 * a4 + 3) = w3) := (hF_22 s (4 * a4 + 3) (fun q => q.elim (fun h => absurd h.2 (by first | exact q_6d5c6886e | omega)) (fun q => q.elim (fun h => absurd h.2 (by first | exact q_6d5c6886e | omega)) (fun h => absurd h.2 (ne_l (by first | exact q_e782b8c3c ha3 ha4 | omega)))))).trans (hv13)
  have kn_56 : Hid (c_28 s (4 * a4 + 3) = w3) := (hF_30 s (4 * a4 + 3) (fun q => q.elim (fun h => absurd h.2 (by first | exact q_6d5c6886e | omega)) (fun q => q.elim (fun h => absurd h.2 (ne_g (by first | exact q_4e2243c37 | omega))) (fun h => absurd h.2 (ne_l (by first | exact q_fd9aac8f8 ha4 | omega)))))).trans (hid kn_55)
  have hqo_57 : ∀ j : Int, rs s j → ¬ j = 4 * a2 → ¬ j = 4 * a3 → ¬ j = 4 * a4 → c_28 s j + c_28 s (j + 1) + c_28 s (j + 2) + c_28 s (j + 3) ≤ 9999 := by
    intro j9 hj9 hz0 hz1 hz2
    obtain ⟨k9, rfl, hk9⟩ := rs_s hs hj9
    have h_58 := hqo (4 * k9) hj9 (by omega) (by omega) (by omega)
    have h_59 := ir_s_g hI hs (j := 4 * k9) (by first | exact q_9f1d5ffdc hk9 | omega)
    have kn_60 : Hid (c_20 s (4 * k9) = c s (4 * k9)) := hF_22 s (4 * k9) (fun q => q.elim (fun h => absurd h.2 (by first | exact q_b2cb8bf87 | omega)) (fun q => q.elim (fun h => absurd h.2 (by first | exact q_b2cb8bf87 | omega)) (fun h => absurd h.2 (ne_l (by first | exact q_4128697c9 ha3 hk9 | omega)))))
    have kn_61 : Hid (c_28 s (4 * k9) = c s (4 * k9)) := (hF_30 s (4 * k9) (fun q => q.elim (fun h => absurd h.2 (by first | exact q_b2cb8bf87 | omega)) (fun q => q.elim (fun h => absurd h.2 (by first | exact q_b2cb8bf87 | omega)) (fun h => absurd h.2 (ne_l (by first | exact q_4128697c9 ha4 hk9 | omega)))))).trans (hid kn_60)
    have h_62 : c_28 s (4 * k9) = c s (4 * k9) := (hid kn_61)
    have h_63 := ir_s_g hI hs (j := 4 * k9 + 1) (by first | exact q_0a2ee6f8f hk9 | omega)
    have kn_64 : Hid (c_20 s (4 * k9 + 1) = c s (4 * k9 + 1)) := hF_22 s (4 * k9 + 1) (fun q => q.elim (fun h => absurd h.2 (by first | (clear ha1 ha2 ha3 ha4 hq3 hq4 hq5 h_1 hv0 h_2 hv1 h_3 hv2 h_4 hv3 h_5 hv4 h_6 hv5 h_7 hv6 h_8 hv7 h_9 hv8 h_10 hv9 h_11 hv10 h_12 hv11 h_13 hv12 h_14 hv13 h_15 h_16 h_17 h_24 h_25 h_23 h_32 h_33 h_31 hk9 h_59 h_63 hq0 hq1 hq2; omega) | omega)) (fun q => q.elim (fun h => absurd h.2 (by first | (clear ha1 ha2 ha3 ha4 hq3 hq4 hq5 h_1 hv0 h_2 hv1 h_3 hv2 h_4 hv3 h_5 hv4 h_6 hv5 h_7 hv6 h_8 hv7 h_9 hv8 h_10 hv9 h_11 hv10 h_12 hv11 h_13 hv12 h_14 hv13 h_15 h_16 h_17 h_24 h_25 h_23 h_32 h_33 h_31 hk9 h_59 h_63 hq0 hq1 hq2; omega) | omega)) (fun h => absurd h.2 (ne_l (by first | exact q_8f2481ba6 ha3 hk9 | omega)))))
    have kn_65 : Hid (c_28 s (4 * k9 + 1) = c s (4 * k9 + 1)) := (hF_30 s (4 * k9 + 1) (fun q => q.elim (fun h => absurd h.2 (by first | (clear ha1 ha2 ha3 ha4 hq3 hq4 hq5 h_1 hv0 h_2 hv1 h_3 hv2 h_4 hv3 h_5 hv4 h_6 hv5 h_7 hv6 h_8 hv7 h_9 hv8 h_10 hv9 h_11 hv10 h_12 hv11 h_13 hv12 h_14 hv13 h_15 h_16 h_17 h_24 h_25 h_23 h_32 h_33 h_31 hk9 h_59 h_63 hq0 hq1 hq2; omega) | omega)) (fun q => q.elim (fun h => absurd h.2 (by first | (clear ha1 ha2 ha3 ha4 hq3 hq4 hq5 h_1 hv0 h_2 hv1 h_3 hv2 h_4 hv3 h_5 hv4 h_6 hv5 h_7 hv6 h_8 hv7 h_9 hv8 h_10 hv9 h_11 hv10 h_12 hv11 h_13 hv12 h_14 hv13 h_15 h_16 h_17 h_24 h_25 h_23 h_32 h_33 h_31 hk9 h_59 h_63 hq0 hq1 hq2; omega) | omega)) (fun h => absurd h.2 (ne_l (by first | exact q_8f2481ba6 ha4 hk9 | omega)))))).trans (hid kn_64)
    have h_66 : c_28 s (4 * k9 + 1) = c s (4 * k9 + 1) := (hid kn_65)
    have h_67 := ir_s_g hI hs (j := 4 * k9 + 2) (by first | exact q_e07a293a2 hk9 | omega)
    have kn_68 : Hid (c_20 s (4 * k9 + 2) = c s (4 * k9 + 2)) := hF_22 s (4 * k9 + 2) (fun q => q.elim (fun h => absurd h.2 (by first | exact q_08c3d7060 | omega)) (fun q => q.elim (fun h => absurd h.2 (by first | exact q_08c3d7060 | omega)) (fun h => absurd h.2 (ne_l (by first | exact q_04ab4010a ha3 hk9 | omega)))))
    have kn_69 : Hid (c_28 s (4 * k9 + 2) = c s (4 * k9 + 2)) := (hF_30 s (4 * k9 + 2) (fun q => q.elim (fun h => absurd h.2 (by first | exact q_08c3d7060 | omega)) (fun q => q.elim (fun h => absurd h.2 (by first | exact q_08c3d7060 | omega)) (fun h => absurd h.2 (ne_l (by first | exact q_04ab4010a ha4 hk9 | omega)))))).trans (hid kn_68)
    have h_70 : c_28 s (4 * k9 + 2) = c s (4 * k9 + 2) := (hid kn_69)
    have h_71 := ir_s_g hI hs (j := 4 * k9 + 3) (by first | exact q_d09cb0b73 hk9 | omega)
    have kn_72 : Hid (c_20 s (4 * k9 + 3) = c s (4 * k9 + 3)) := hF_22 s (4 * k9 + 3) (fun q => q.elim (fun h => absurd h.2 (by first | exact q_6d5c6886e | omega)) (fun q => q.elim (fun h => absurd h.2 (by first | exact q_6d5c6886e | omega)) (fun h => absurd h.2 (ne_l (by first | exact q_e782b8c3c ha3 hk9 | omega)))))
    have kn_73 : Hid (c_28 s (4 * k9 + 3) = c s (4 * k9 + 3)) := (hF_30 s (4 * k9 + 3) (fun q => q.elim (fun h => absurd h.2 (by first | exact q_6d5c6886e | omega)) (fun q => q.elim (fun h => absurd h.2 (by first | exact q_6d5c6886e | omega)) (fun h => absurd h.2 (ne_l (by first | exact q_e782b8c3c ha4 hk9 | omega)))))).trans (hid kn_72)
    have h_74 : c_28 s (4 * k9 + 3) = c s (4 * k9 + 3) := (hid kn_73)
    omega
  refine Wp_ls [(0, .ref sh), (1, vi a1), (2, vi a2), (3, vi a3), (4, vi a4), (7, vi 2)] (lsub_cons rfl (lsub_cons rfl (lsub_cons rfl (lsub_cons rfl (lsub_cons rfl (lsub_cons rfl lsub_nil)))))) ?_
  exact s_53_2 (v1 := v1) (v2 := v2) (x0 := x0) (x1 := c_28 s (4 * a2 + 1)) (x2 := x2) (x3 := x3) (u0 := u0) (u1 := c_20 s (4 * a3 + 1)) (u2 := u2) (u3 := u3) (w0 := w0) (w1 := c_28 s (4 * a4 + 1)) (w2 := w2) (w3 := w3) hI_29 hs (by omega) (by omega) (by omega) (by omega) (by omega) (by omega) (by omega) (by omega) (by omega) (by omega) (by omega) hqo_57 ((hid kn_35)) ((hid kn_37)) ((hid kn_39)) rfl ((hid kn_41)) ((hid kn_43)) ((hid kn_45)) ((hid kn_46)) ((hid kn_48)) ((hid kn_50)) ((hid kn_52)) rfl ((hid kn_54)) ((hid kn_56)) (fun c9 y9 hI9 hF9 hy9 => K c9 y9 hI9 (fun a j hm => (hF9 a j (by omega)).trans ((hF_30 a j (by omega)).trans (hF_22 a j (by omega)))) hy9)
set_option maxRecDepth 100000 in
set_option maxHeartbeats 4000000 in
theorem s_53_0 {sc : List Int32} {d P Q sh s : Nat} {c : ME} {v1 v2 x0 x1 x2 x3 u0 u1 u2 u3 w0 w1 w2 w3 : Int} {a1 : Int} {a2 : Int} {a3 : Int} {a4 : Int} {Z : AR → Prop} (hI : Iv s (-1) P Q c) (hs : (sh = 37 ∧ s = 38) ∨ (sh = 39 ∧ s = 40)) (ha1 : 0 ≤ a1 ∧ a1 ≤ 3) (ha2 : 0 ≤ a2 ∧ a2 ≤ 5) (ha3 : 0 ≤ a3 ∧ a3 ≤ 5) (ha4 : 0 ≤ a4 ∧ a4 ≤ 5) (hq0 : (a2 < a3) ∨ (a2 > a3)) (hq1 : (a2 < a4) ∨ (a2 > a4)) (hq2 : (a3 < a4) ∨ (a3 > a4)) (hq3 : ((fal v1 (tb v2 a1) 0 x0) + (fal v1 (tb v2 a1) 1 x1) + (fal v1 (tb v2 a1) 2 x2) + (fal v1 (tb v2 a1) 3 x3) + u0 + u1 + u2 + u3 ≤ 9999)) (hq4 : (w0 + w1 + w2 + w3 + x0 + x1 + x2 + x3 - (fal v1 (tb v2 a1) 0 x0) - (fal v1 (tb v2 a1) 1 x1) - (fal v1 (tb v2 a1) 2 x2) - (fal v1 (tb v2 a1) 3 x3) ≤ 9999)) (hq5 : ∀ j : Int, rs s j → ¬ j = 4 * a2 → ¬ j = 4 * a3 → ¬ j = 4 * a4 → c s j + c s (j + 1) + c s (j + 2) + c s (j + 3) ≤ 9999) (hv0 : c (P + 3) a1 = v1) (hv1 : c s 30 = v2) (hv2 : c s (4 * a2) = x0) (hv3 : c s (4 * a2 + 1) = x1) (hv4 : c s (4 * a2 + 2) = x2) (hv5 : c s (4 * a2 + 3) = x3) (hv6 : c s (4 * a3) = u0) (hv7 : c s (4 * a3 + 1) = u1) (hv8 : c s (4 * a3 + 2) = u2) (hv9 : c s (4 * a3 + 3) = u3) (hv10 : c s (4 * a4) = w0) (hv11 : c s (4 * a4 + 1) = w1) (hv12 : c s (4 * a4 + 2) = w2) (hv13 : c s (4 * a4 + 3) = w3) (K : ∀ (c2 : ME) (y : Int), Iv 0 (-1) P Q c2 → (∀ (a : Nat) (j : Int), ¬ (a = s) → c2 a j = c a j) → 0 ≤ y ∧ y ≤ 1 → Z (.inl (some (vi y)), Wd P Q P P c2, 0, 0)) : Wp sc (d + 11) 53 68 [(0, .ref sh), (1, vi a1), (2, vi a2), (3, vi a3), (4, vi a4), (7, vi 0)] [] (Wd P Q P P c) 0 0 Z := by
  have hP := iv_P hI
  have hQ := iv_Q hI
  have h_1 := ir_p3 hI hP a1
  have h_2 := ir_s hI hs 30
  have h_3 := ir_s_g hI hs (j := 4 * a2) (by first | exact q_9f1d5ffdc ha2 | omega)
  have h_4 := ir_s_g hI hs (j := 4 * a2 + 1) (by first | exact q_0a2ee6f8f ha2 | omega)
  have h_5 := ir_s_g hI hs (j := 4 * a2 + 2) (by first | exact q_e07a293a2 ha2 | omega)
  have h_6 := ir_s_g hI hs (j := 4 * a2 + 3) (by first | exact q_d09cb0b73 ha2 | omega)
  have h_7 := ir_s_g hI hs (j := 4 * a3) (by first | exact q_9f1d5ffdc ha3 | omega)
  have h_8 := ir_s_g hI hs (j := 4 * a3 + 1) (by first | exact q_0a2ee6f8f ha3 | omega)
  have h_9 := ir_s_g hI hs (j := 4 * a3 + 2) (by first | exact q_e07a293a2 ha3 | omega)
  have h_10 := ir_s_g hI hs (j := 4 * a3 + 3) (by first | exact q_d09cb0b73 ha3 | omega)
  have h_11 := ir_s_g hI hs (j := 4 * a4) (by first | exact q_9f1d5ffdc ha4 | omega)
  have h_12 := ir_s_g hI hs (j := 4 * a4 + 1) (by first | exact q_0a2ee6f8f ha4 | omega)
  have h_13 := ir_s_g hI hs (j := 4 * a4 + 2) (by first | exact q_e07a293a2 ha4 | omega)
  have h_14 := ir_s_g hI hs (j := 4 * a4 + 3) (by first | exact q_d09cb0b73 ha4 | omega)
  have hqo := hq5
  have h_15 := fal_rng (m := v1) (t := tb v2 a1) (g := 0) (x := x0) (by omega)
  have h_16 := fal_rng (m := v1) (t := tb v2 a1) (g := 1) (x := x1) (by omega)
  have h_17 := fal_rng (m := v1) (t := tb v2 a1) (g := 2) (x := x2) (by omega)
  have h_18 := fal_rng (m := v1) (t := tb v2 a1) (g := 3) (x := x3) (by omega)
  refine q_iload c_53_68 rfl (q_iconst c_53_70 (v_ic_ge_f (t := 116) c_53_71 rfl (by decide) (q_aload_n c_53_74 rfl (q_iload_n c_53_75 rfl (q_iload_n c_53_76 rfl (q_iload c_53_77 rfl (v_cv c_53_79 km_4_69 rfl (ck_sh hs) (a68sh hs) ⟨⟨rfl, rfl⟩, by decide, rfl⟩ (nb_ rfl) (nb_ rfl) (s_48 (v1 := v1) (v2 := v2) (v3 := x0) (r := (fal v1 (tb v2 a1) 0 x0)) (a1 := a1) (a2 := a2) (a3 := 0) hI hs (show 0 ≤ a1 ∧ a1 ≤ 3 from ha1) (show 0 ≤ a2 ∧ a2 ≤ 5 from ha2) (show 0 ≤ 0 ∧ 0 ≤ 3 from ⟨by decide, by decide⟩) ((hv0)) ((hv1)) ((congrArg (c s) (show 4 * a2 + 0 = 4 * a2 from by first | exact q_8baad3eb5 | assumption | exact Int.le_antisymm (by omega) (by omega))).trans (hv2)) rfl ?_))))))))
  refine bk_inl (q_istore c_53_82 (nb_ rfl) (q_aload_n c_53_84 rfl (q_iload_n c_53_85 rfl (q_iload_n c_53_86 rfl (q_iload c_53_87 rfl (q_iload c_53_89 rfl ?_))))))
  have h_19 : c s (4 * a2) = x0 := (hv2)
  have h_20 : c s (4 * a2 + 0) = x0 := (congrArg (c s) (by first | assumption | exact Int.le_antisymm (by omega) (by omega))).trans (hv2)
  have h_21 : c s (4 * a3) = u0 := (hv6)
  have h_22 : c s (4 * a3 + 0) = u0 := (congrArg (c s) (by first | assumption | exact Int.le_antisymm (by omega) (by omega))).trans (hv6)
  refine v_cv c_53_91 km_4_85 rfl (ck_sh hs) (a68sh hs) ⟨⟨rfl, rfl⟩, by decide, rfl⟩ (nb_ rfl) (nb_ rfl) (s_52 (a1 := a2) (a2 := a3) (a3 := 0) (a4 := (fal v1 (tb v2 a1) 0 x0)) hI hs (show 0 ≤ a2 ∧ a2 ≤ 5 from ha2) (show 0 ≤ a3 ∧ a3 ≤ 5 from ha3) (show 0 ≤ 0 ∧ 0 ≤ 3 from ⟨by decide, by decide⟩) (show 0 ≤ (fal v1 (tb v2 a1) 0 x0) ∧ (fal v1 (tb v2 a1) 0 x0) ≤ 9999 from ⟨by first | exact q_47ff97009 h_15 | omega, by first | (clear ha1 ha2 ha3 ha4 hq3 hq4 h_1 hv0 h_2 hv1 h_4 hv3 h_5 hv4 h_6 hv5 h_7 hv6 h_8 hv7 h_9 hv8 h_10 hv9 h_11 hv10 h_12 hv11 h_13 hv12 h_14 hv13 h_16 h_17 h_18 hq0 hq1 hq2; omega) | omega⟩) (by omega) (by first | exact q_b76125d36 h_15 | omega) (by first | (clear ha1 ha2 ha3 ha4 hq4 h_1 hv0 h_2 hv1 h_3 hv2 h_4 hv3 h_5 hv4 h_6 hv5 h_7 hv6 h_11 hv10 h_12 hv11 h_13 hv12 h_14 hv13 h_15 hq0 hq1 hq2; omega) | omega) (fun c_23 hI_24 hF_25 h_26 => (bk_inl ?_)))
  have h_27 : c_23 s (4 * a2 + 0) = c_23 s (4 * a2) := congrArg (c_23 s) (by first | exact q_8baad3eb5 | assumption | exact Int.le_antisymm (by first | exact q_79744aec6 | omega) (by first | exact q_79744aec6 | omega))
  have h_28 := ir_s_g hI_24 hs (j := 4 * a2) (by first | exact q_9f1d5ffdc ha2 | omega)
  have h_29 : c_23 s (4 * a3 + 0) = c_23 s (4 * a3) := congrArg (c_23 s) (by first | exact q_8baad3eb5 | assumption | exact Int.le_antisymm (by first | exact q_79744aec6 | omega) (by first | exact q_79744aec6 | omega))
  have h_30 := ir_s_g hI_24 hs (j := 4 * a3) (by first | exact q_9f1d5ffdc ha3 | omega)
  refine q_aload_n c_53_94 rfl (q_iload_n c_53_95 rfl (q_iload c_53_96 rfl (q_iload c_53_98 rfl (q_aload_n c_53_100 rfl (q_iload_n c_53_101 rfl (q_iload c_53_102 rfl (v_cv c_53_104 km_4_34 rfl (ck_sh hs) (a68sh hs) ⟨⟨rfl, rfl⟩, by decide, rfl⟩ (nb_ rfl) (nb_ rfl) (s_45 (v1 := c_23 s (4 * a2)) (r := c_23 s (4 * a2)) (a1 := a2) (a2 := 0) hI_24 hs (show 0 ≤ a2 ∧ a2 ≤ 5 from ha2) (show 0 ≤ 0 ∧ 0 ≤ 3 from ⟨by decide, by decide⟩) ((congrArg (c_23 s) (show 4 * a2 + 0 = 4 * a2 from by first | exact q_8baad3eb5 | assumption | exact Int.le_antisymm (by omega) (by omega)))) (by omega) ?_))))))))
  refine bk_inl ?_
  have h_31 : c_23 s (4 * a2 + 0) = c_23 s (4 * a2) := (congrArg (c_23 s) (by first | assumption | exact Int.le_antisymm (by omega) (by omega))).trans rfl
  have kn_32 : Hid (c_23 s (4 * a4) = w0) := (hF_25 s (4 * a4) (fun q => q.elim (fun h => absurd h.2 (by first | exact q_b46fb41fd hq1 | omega)) (fun q => q.elim (fun h => absurd h.2 (by first | exact q_b46fb41fd hq2 | omega)) (fun h => absurd h.2 (ne_l (by first | exact q_4128697c9 ha3 ha4 | omega)))))).trans (hv10)
  have h_33 : c_23 s (4 * a4) = w0 := (hid kn_32)
  have h_34 : c_23 s (4 * a4 + 0) = w0 := (congrArg (c_23 s) (by first | assumption | exact Int.le_antisymm (by omega) (by omega))).trans (hid kn_32)
  refine v_cv c_53_107 km_4_85 rfl (ck_sh hs) (a68sh hs) ⟨⟨rfl, rfl⟩, by decide, rfl⟩ (nb_ rfl) (nb_ rfl) (s_52 (a1 := a2) (a2 := a4) (a3 := 0) (a4 := c_23 s (4 * a2)) hI_24 hs (show 0 ≤ a2 ∧ a2 ≤ 5 from ha2) (show 0 ≤ a4 ∧ a4 ≤ 5 from ha4) (show 0 ≤ 0 ∧ 0 ≤ 3 from ⟨by decide, by decide⟩) (show 0 ≤ c_23 s (4 * a2) ∧ c_23 s (4 * a2) ≤ 9999 from h_28) (by omega) (by first | exact q_e074ea49a | omega) (by first | (clear ha1 ha2 ha3 ha4 hq3 h_1 hv0 h_2 hv1 h_3 hv2 h_4 hv3 h_5 hv4 h_6 hv5 h_7 hv6 h_8 hv7 h_9 hv8 h_10 hv9 h_11 hv10 h_15 h_28 h_30 hq0 hq1 hq2; omega) | omega) (fun c_35 hI_36 hF_37 h_38 => (bk_inl ?_)))
  have h_39 : c_35 s (4 * a2 + 0) = c_35 s (4 * a2) := congrArg (c_35 s) (by first | exact q_8baad3eb5 | assumption | exact Int.le_antisymm (by first | exact q_79744aec6 | omega) (by first | exact q_79744aec6 | omega))
  have h_40 := ir_s_g hI_36 hs (j := 4 * a2) (by first | exact q_9f1d5ffdc ha2 | omega)
  have h_41 : c_35 s (4 * a4 + 0) = c_35 s (4 * a4) := congrArg (c_35 s) (by first | exact q_8baad3eb5 | assumption | exact Int.le_antisymm (by first | exact q_79744aec6 | omega) (by first | exact q_79744aec6 | omega))
  have h_42 := ir_s_g hI_36 hs (j := 4 * a4) (by first | exact q_9f1d5ffdc ha4 | omega)
  refine v_iinc (v := 1) c_53_110 rfl (nb_ rfl) (by decide) (q_goto (t := 68) c_53_113 rfl ?_)
  have kn_43 : Hid (c_23 (P + 3) a1 = v1) := (hF_25 (P + 3) a1 (by omega)).trans (hv0)
  have kn_44 : Hid (c_35 (P + 3) a1 = v1) := (hF_37 (P + 3) a1 (by omega)).trans (hid kn_43)
  have kn_45 : Hid (c_23 s 30 = v2) := (hF_25 s 30 (fun q => q.elim (fun h => absurd h.2 (ne_g (by first | exact q_745b05ed0 ha2 | omega))) (fun q => q.elim (fun h => absurd h.2 (ne_g (by first | exact q_745b05ed0 ha3 | omega))) (fun h => absurd h.2 (ne_g (by first | exact q_3b49164d8 ha3 | omega)))))).trans (hv1)
  have kn_46 : Hid (c_35 s 30 = v2) := (hF_37 s 30 (fun q => q.elim (fun h => absurd h.2 (ne_g (by first | exact q_745b05ed0 ha2 | omega))) (fun q => q.elim (fun h => absurd h.2 (ne_g (by first | exact q_745b05ed0 ha4 | omega))) (fun h => absurd h.2 (ne_g (by first | exact q_3b49164d8 ha4 | omega)))))).trans (hid kn_45)
  have kn_47 : Hid (c_23 s (4 * a2 + 1) = x1) := (hF_25 s (4 * a2 + 1) (fun q => q.elim (fun h => absurd h.2 (ne_g (by first | exact q_4994d6793 | omega))) (fun q => q.elim (fun h => absurd h.2 (by first | exact q_e5bcc673e | omega)) (fun h => absurd h.2 (ne_l (by first | exact q_3178328df ha2 ha3 | omega)))))).trans (hv3)
  have kn_48 : Hid (c_35 s (4 * a2 + 1) = x1) := (hF_37 s (4 * a2 + 1) (fun q => q.elim (fun h => absurd h.2 (ne_g (by first | exact q_4994d6793 | omega))) (fun q => q.elim (fun h => absurd h.2 (by first | exact q_e5bcc673e | omega)) (fun h => absurd h.2 (ne_l (by first | exact q_3178328df ha2 ha4 | omega)))))).trans (hid kn_47)
  have kn_49 : Hid (c_23 s (4 * a2 + 2) = x2) := (hF_25 s (4 * a2 + 2) (fun q => q.elim (fun h => absurd h.2 (ne_g (by first | exact q_1cdd15b2c | omega))) (fun q => q.elim (fun h => absurd h.2 (by first | exact q_ae83e86ba | omega)) (fun h => absurd h.2 (ne_l (by first | exact q_428481d46 ha2 ha3 | omega)))))).trans (hv4)
  have kn_50 : Hid (c_35 s (4 * a2 + 2) = x2) := (hF_37 s (4 * a2 + 2) (fun q => q.elim (fun h => absurd h.2 (ne_g (by first | exact q_1cdd15b2c | omega))) (fun q => q.elim (fun h => absurd h.2 (by first | exact q_ae83e86ba | omega)) (fun h => absurd h.2 (ne_l (by first | exact q_428481d46 ha2 ha4 | omega)))))).trans (hid kn_49)
  have kn_51 : Hid (c_23 s (4 * a2 + 3) = x3) := (hF_25 s (4 * a2 + 3) (fun q => q.elim (fun h => absurd h.2 (ne_g (by first | exact q_fb9abb0e1 | omega))) (fun q => q.elim (fun h => absurd h.2 (by first | exact q_b6789388a | omega)) (fun h => absurd h.2 (ne_l (by first | exact q_2771393a8 ha2 ha3 | omega)))))).trans (hv5)
  have kn_52 : Hid (c_35 s (4 * a2 + 3) = x3) := (hF_37 s (4 * a2 + 3) (fun q => q.elim (fun h => absurd h.2 (ne_g (by first | exact q_fb9abb0e1 | omega))) (fun q => q.elim (fun h => absurd h.2 (by first | exact q_b6789388a | omega)) (fun h => absurd h.2 (ne_l (by first | exact q_2771393a8 ha2 ha4 | omega)))))).trans (hid kn_51)
  have kn_53 : Hid (c_35 s (4 * a3) = c_23 s (4 * a3)) := hF_37 s (4 * a3) (fun q => q.elim (fun h => absurd h.2 (by first | exact q_b46fb41fd hq0 | omega)) (fun q => q.elim (fun h => absurd h.2 (by first | exact q_02cacb151 hq2 | omega)) (fun h => absurd h.2 (ne_l (by first | exact q_2b13428e8 ha3 ha4 | omega)))))
  have kn_54 : Hid (c_23 s (4 * a3 + 1) = u1) := (hF_25 s (4 * a3 + 1) (fun q => q.elim (fun h => absurd h.2 (by first | exact q_e5bcc673e | omega)) (fun q => q.elim (fun h => absurd h.2 (ne_g (by first | exact q_4994d6793 | omega))) (fun h => absurd h.2 (ne_l (by first | exact q_60c9feeee ha3 | omega)))))).trans (hv7)
  have kn_55 : Hid (c_35 s (4 * a3 + 1) = u1) := (hF_37 s (4 * a3 + 1) (fun q => q.elim (fun h => absurd h.2 (by first | exact q_e5bcc673e | omega)) (fun q => q.elim (fun h => absurd h.2 (by first | exact q_e5bcc673e | omega)) (fun h => absurd h.2 (ne_l (by first | exact q_3178328df ha3 ha4 | omega)))))).trans (hid kn_54)
  have kn_56 : Hid (c_23 s (4 * a3 + 2) = u2) := (hF_25 s (4 * a3 + 2) (fun q => q.elim (fun h => absurd h.2 (by first | exact q_ae83e86ba | omega)) (fun q => q.elim (fun h => absurd h.2 (ne_g (by first | exact q_1cdd15b2c | omega))) (fun h => absurd h.2 (ne_l (by first | exact q_27ec1b4d7 ha3 | omega)))))).trans (hv8)
  have kn_57 : Hid (c_35 s (4 * a3 + 2) = u2) := (hF_37 s (4 * a3 + 2) (fun q => q.elim (fun h => absurd h.2 (by first | exact q_ae83e86ba | omega)) (fun q => q.elim (fun h => absurd h.2 (by first | exact q_ae83e86ba | omega)) (fun h => absurd h.2 (ne_l (by first | exact q_428481d46 ha3 ha4 | omega)))))).trans (hid kn_56)
  have kn_58 : Hid (c_23 s (4 * a3 + 3) = u3) := (hF_25 s (4 * a3 + 3) (fun q => q.elim (fun h => absurd h.2 (by first | exact q_b6789388a | omega)) (fun q => q.elim (fun h => absurd h.2 (ne_g (by first | exact q_fb9abb0e1 | omega))) (fun h => absurd h.2 (ne_l (by first | exact q_fd9aac8f8 ha3 | omega)))))).trans (hv9)
  have kn_59 : Hid (c_35 s (4 * a3 + 3) = u3) := (hF_37 s (4 * a3 + 3) (fun q => q.elim (fun h => absurd h.2 (by first | exact q_b6789388a | omega)) (fun q => q.elim (fun h => absurd h.2 (by first | exact q_b6789388a | omega)) (fun h => absurd h.2 (ne_l (by first | exact q_2771393a8 ha3 ha4 | omega)))))).trans (hid kn_58)
  have kn_60 : Hid (c_23 s (4 * a4 + 1) = w1) := (hF_25 s (4 * a4 + 1) (fun q => q.elim (fun h => absurd h.2 (by first | exact q_e5bcc673e | omega)) (fun q => q.elim (fun h => absurd h.2 (by first | exact q_e5bcc673e | omega)) (fun h => absurd h.2 (ne_l (by first | exact q_8f2481ba6 ha3 ha4 | omega)))))).trans (hv11)
  have kn_61 : Hid (c_35 s (4 * a4 + 1) = w1) := (hF_37 s (4 * a4 + 1) (fun q => q.elim (fun h => absurd h.2 (by first | exact q_e5bcc673e | omega)) (fun q => q.elim (fun h => absurd h.2 (ne_g (by first | exact q_4994d6793 | omega))) (fun h => absurd h.2 (ne_l (by first | exact q_60c9feeee ha4 | omega)))))).trans (hid kn_60)
  have kn_62 : Hid (c_23 s (4 * a4 + 2) = w2) := (hF_25 s (4 * a4 + 2) (fun q => q.elim (fun h => absurd h.2 (by first | exact q_ae83e86ba | omega)) (fun q => q.elim (fun h => absurd h.2 (by first | exact q_ae83e86ba | omega)) (fun h => absurd h.2 (ne_l (by first | exact q_04ab4010a ha3 ha4 | omega)))))).trans (hv12)
  have kn_63 : Hid (c_35 s (4 * a4 + 2) = w2) := (hF_37 s (4 * a4 + 2) (fun q => q.elim (fun h => absurd h.2 (by first | exact q_ae83e86ba | omega)) (fun q => q.elim (fun h => absurd h.2 (ne_g (by first | exact q_1cdd15b2c | omega))) (fun h => absurd h.2 (ne_l (by first | exact q_27ec1b4d7 ha4 | omega)))))).trans (hid kn_62)
  have kn_64 : Hid (c_23 s (4 * a4 + 3) = w3) := (hF_25 s (4 * a4 + 3) (fun q => q.elim (fun h => absurd h.2 (by first | exact q_b6789388a | omega)) (fun q => q.elim (fun h => absurd h.2 (by first | exact q_b6789388a | omega)) (fun h => absurd h.2 (ne_l (by first | exact q_e782b8c3c ha3 ha4 | omega)))))).trans (hv13)
  have kn_65 : Hid (c_35 s (4 * a4 + 3) = w3) := (hF_37 s (4 * a4 + 3) (fun q => q.elim (fun h => absurd h.2 (by first | exact q_b6789388a | omega)) (fun q => q.elim (fun h => absurd h.2 (ne_g (by first | exact q_fb9abb0e1 | omega))) (fun h => absurd h.2 (ne_l (by first | exact q_fd9aac8f8 ha4 | omega)))))).trans (hid kn_64)
  have hqo_66 : ∀ j : Int, rs s j → ¬ j = 4 * a2 → ¬ j = 4 * a3 → ¬ j = 4 * a4 → c_35 s j + c_35 s (j + 1) + c_35 s (j + 2) + c_35 s (j + 3) ≤ 9999 := by
    intro j9 hj9 hz0 hz1 hz2
    obtain ⟨k9, rfl, hk9⟩ := rs_s hs hj9
    have h_67 := hqo (4 * k9) hj9 (by omega) (by omega) (by omega)
    have h_68 := ir_s_g hI hs (j := 4 * k9) (by first | exact q_9f1d5ffdc hk9 | omega)
    have kn_69 : Hid (c_23 s (4 * k9) = c s (4 * k9)) := hF_25 s (4 * k9) (fun q => q.elim (fun h => absurd h.2 (by first | (clear ha1 ha2 ha3 ha4 hq3 hq4 h_1 hv0 h_2 hv1 h_3 hv2 h_4 hv3 h_5 hv4 h_6 hv5 h_7 hv6 h_8 hv7 h_9 hv8 h_10 hv9 h_11 hv10 h_12 hv11 h_13 hv12 h_14 hv13 h_15 h_16 h_17 h_18 h_28 h_30 h_26 h_40 h_42 h_38 hk9 h_68 hq0 hq1 hq2; omega) | omega)) (fun q => q.elim (fun h => absurd h.2 (by first | (clear ha1 ha2 ha3 ha4 hq3 hq4 h_1 hv0 h_2 hv1 h_3 hv2 h_4 hv3 h_5 hv4 h_6 hv5 h_7 hv6 h_8 hv7 h_9 hv8 h_10 hv9 h_11 hv10 h_12 hv11 h_13 hv12 h_14 hv13 h_15 h_16 h_17 h_18 h_28 h_30 h_26 h_40 h_42 h_38 hk9 h_68 hq0 hq1 hq2; omega) | omega)) (fun h => absurd h.2 (ne_l (by first | exact q_4128697c9 ha3 hk9 | omega)))))
    have kn_70 : Hid (c_35 s (4 * k9) = c s (4 * k9)) := (hF_37 s (4 * k9) (fun q => q.elim (fun h => absurd h.2 (by first | (clear ha1 ha2 ha3 ha4 hq3 hq4 h_1 hv0 h_2 hv1 h_3 hv2 h_4 hv3 h_5 hv4 h_6 hv5 h_7 hv6 h_8 hv7 h_9 hv8 h_10 hv9 h_11 hv10 h_12 hv11 h_13 hv12 h_14 hv13 h_15 h_16 h_17 h_18 h_28 h_30 h_26 h_40 h_42 h_38 hk9 h_68 hq0 hq1 hq2; omega) | omega)) (fun q => q.elim (fun h => absurd h.2 (by first | (clear ha1 ha2 ha3 ha4 hq3 hq4 h_1 hv0 h_2 hv1 h_3 hv2 h_4 hv3 h_5 hv4 h_6 hv5 h_7 hv6 h_8 hv7 h_9 hv8 h_10 hv9 h_11 hv10 h_12 hv11 h_13 hv12 h_14 hv13 h_15 h_16 h_17 h_18 h_28 h_30 h_26 h_40 h_42 h_38 hk9 h_68 hq0 hq1 hq2; omega) | omega)) (fun h => absurd h.2 (ne_l (by first | exact q_4128697c9 ha4 hk9 | omega)))))).trans (hid kn_69)
    have h_71 : c_35 s (4 * k9) = c s (4 * k9) := (hid kn_70)
    have h_72 := ir_s_g hI hs (j := 4 * k9 + 1) (by first | exact q_0a2ee6f8f hk9 | omega)
    have kn_73 : Hid (c_23 s (4 * k9 + 1) = c s (4 * k9 + 1)) := hF_25 s (4 * k9 + 1) (fun q => q.elim (fun h => absurd h.2 (by first | exact q_e5bcc673e | omega)) (fun q => q.elim (fun h => absurd h.2 (by first | exact q_e5bcc673e | omega)) (fun h => absurd h.2 (ne_l (by first | exact q_8f2481ba6 ha3 hk9 | omega)))))
    have kn_74 : Hid (c_35 s (4 * k9 + 1) = c s (4 * k9 + 1)) := (hF_37 s (4 * k9 + 1) (fun q => q.elim (fun h => absurd h.2 (by first | exact q_e5bcc673e | omega)) (fun q => q.elim (fun h => absurd h.2 (by first | exact q_e5bcc673e | omega)) (fun h => absurd h.2 (ne_l (by first | exact q_8f2481ba6 ha4 hk9 | omega)))))).trans (hid kn_73)
    have h_75 : c_35 s (4 * k9 + 1) = c s (4 * k9 + 1) := (hid kn_74)
    have h_76 := ir_s_g hI hs (j := 4 * k9 + 2) (by first | exact q_e07a293a2 hk9 | omega)
    have kn_77 : Hid (c_23 s (4 * k9 + 2) = c s (4 * k9 + 2)) := hF_25 s (4 * k9 + 2) (fun q => q.elim (fun h => absurd h.2 (by first | exact q_ae83e86ba | omega)) (fun q => q.elim (fun h => absurd h.2 (by first | exact q_ae83e86ba | omega)) (fun h => absurd h.2 (ne_l (by first | exact q_04ab4010a ha3 hk9 | omega)))))
    have kn_78 : Hid (c_35 s (4 * k9 + 2) = c s (4 * k9 + 2)) := (hF_37 s (4 * k9 + 2) (fun q => q.elim (fun h => absurd h.2 (by first | exact q_ae83e86ba | omega)) (fun q => q.elim (fun h => absurd h.2 (by first | exact q_ae83e86ba | omega)) (fun h => absurd h.2 (ne_l (by first | exact q_04ab4010a ha4 hk9 | omega)))))).trans (hid kn_77)
    have h_79 : c_35 s (4 * k9 + 2) = c s (4 * k9 + 2) := (hid kn_78)
    have h_80 := ir_s_g hI hs (j := 4 * k9 + 3) (by first | exact q_d09cb0b73 hk9 | omega)
    have kn_81 : Hid (c_23 s (4 * k9 + 3) = c s (4 * k9 + 3)) := hF_25 s (4 * k9 + 3) (fun q => q.elim (fun h => absurd h.2 (by first | exact q_b6789388a | omega)) (fun q => q.elim (fun h => absurd h.2 (by first | exact q_b6789388a | omega)) (fun h => absurd h.2 (ne_l (by first | exact q_e782b8c3c ha3 hk9 | omega)))))
    have kn_82 : Hid (c_35 s (4 * k9 + 3) = c s (4 * k9 + 3)) := (hF_37 s (4 * k9 + 3) (fun q => q.elim (fun h => absurd h.2 (by first | exact q_b6789388a | omega)) (fun q => q.elim (fun h => absurd h.2 (by first | exact q_b6789388a | omega)) (fun h => absurd h.2 (ne_l (by first | exact q_e782b8c3c ha4 hk9 | omega)))))).trans (hid kn_81)
    have h_83 : c_35 s (4 * k9 + 3) = c s (4 * k9 + 3) := (hid kn_82)
    omega
  refine Wp_ls [(0, .ref sh), (1, vi a1), (2, vi a2), (3, vi a3), (4, vi a4), (7, vi 1)] (lsub_cons rfl (lsub_cons rfl (lsub_cons rfl (lsub_cons rfl (lsub_cons rfl (lsub_cons rfl lsub_nil)))))) ?_
  exact s_53_1 (v1 := v1) (v2 := v2) (x0 := c_35 s (4 * a2)) (x1 := x1) (x2 := x2) (x3 := x3) (u0 := c_23 s (4 * a3)) (u1 := u1) (u2 := u2) (u3 := u3) (w0 := c_35 s (4 * a4)) (w1 := w1) (w2 := w2) (w3 := w3) hI_36 hs (by omega) (by omega) (by omega) (by omega) (by omega) (by omega) (by omega) (by omega) (by omega) (by omega) hqo_66 ((hid kn_44)) ((hid kn_46)) rfl ((hid kn_48)) ((hid kn_50)) ((hid kn_52)) ((hid kn_53)) ((hid kn_55)) ((hid kn_57)) ((hid kn_59)) rfl ((hid kn_61)) ((hid kn_63)) ((hid kn_65)) (fun c9 y9 hI9 hF9 hy9 => K c9 y9 hI9 (fun a j hm => (hF9 a j (by omega)).trans ((hF_37 a j (by omega)).trans (hF_25 a j (by omega)))) hy9)
set_option maxRecDepth 100000 in
set_option maxHeartbeats 4000000 in
theorem s_53 {sc : List Int32} {d P Q sh s : Nat} {c : ME} {a1 : Int} {a2 : Int} {a3 : Int} {a4 : Int} {Z : AR → Prop} (hI : Iv 0 (-1) P Q c) (hs : (sh = 37 ∧ s = 38) ∨ (sh = 39 ∧ s = 40)) (ha1 : 0 ≤ a1 ∧ a1 ≤ 3) (ha2 : 0 ≤ a2 ∧ a2 ≤ 5) (ha3 : 0 ≤ a3 ∧ a3 ≤ 5) (ha4 : 0 ≤ a4 ∧ a4 ≤ 5) (K : ∀ (c2 : ME) (y : Int), Iv 0 (-1) P Q c2 → (∀ (a : Nat) (j : Int), ¬ (a = s) → c2 a j = c a j) → 0 ≤ y ∧ y ≤ 1 → Z (.inl (some (vi y)), Wd P Q P P c2, 0, 0)) : Wp sc (d + 11) 53 0 [(0, .ref sh), (1, vi a1), (2, vi a2), (3, vi a3), (4, vi a4)] [] (Wd P Q P P c) 0 0 Z := by
  have hP := iv_P hI
  have hQ := iv_Q hI
  have hIo : Iv s (-1) P Q c := iv_open hI
  have hsum_1 := ir_s_r hI hs (by omega) (j := a2) (by omega)
  have h_2 := ir_s_g hI hs (j := 4 * a2) (by first | exact q_9f1d5ffdc ha2 | omega)
  have h_3 := ir_s_g hI hs (j := 4 * a2 + 1) (by first | exact q_0a2ee6f8f ha2 | omega)
  have h_4 := ir_s_g hI hs (j := 4 * a2 + 2) (by first | exact q_e07a293a2 ha2 | omega)
  have h_5 := ir_s_g hI hs (j := 4 * a2 + 3) (by first | exact q_d09cb0b73 ha2 | omega)
  have hsum_6 := ir_s_r hI hs (by omega) (j := a3) (by omega)
  have h_7 := ir_s_g hI hs (j := 4 * a3) (by first | exact q_9f1d5ffdc ha3 | omega)
  have h_8 := ir_s_g hI hs (j := 4 * a3 + 1) (by first | exact q_0a2ee6f8f ha3 | omega)
  have h_9 := ir_s_g hI hs (j := 4 * a3 + 2) (by first | exact q_e07a293a2 ha3 | omega)
  have h_10 := ir_s_g hI hs (j := 4 * a3 + 3) (by first | exact q_d09cb0b73 ha3 | omega)
  have hsum_11 := ir_s_r hI hs (by omega) (j := a4) (by omega)
  have h_12 := ir_s_g hI hs (j := 4 * a4) (by first | exact q_9f1d5ffdc ha4 | omega)
  have h_13 := ir_s_g hI hs (j := 4 * a4 + 1) (by first | exact q_0a2ee6f8f ha4 | omega)
  have h_14 := ir_s_g hI hs (j := 4 * a4 + 2) (by first | exact q_e07a293a2 ha4 | omega)
  have h_15 := ir_s_g hI hs (j := 4 * a4 + 3) (by first | exact q_d09cb0b73 ha4 | omega)
  refine q_iload_n c_53_0 rfl (q_iload_n c_53_1 rfl ?_)
  by_cases h_16 : a2 = a3
  · refine v_ic_eq_t (t := 17) c_53_2 rfl h_16 (q_iconst c_53_17 (v_zret c_53_18 rfl (by decide) ?_))
    exact K c 0 hI (fun a j hm => rfl) ⟨by decide, by decide⟩
  · refine v_ic_eq_f (t := 17) c_53_2 rfl ⟨h_16, ⟨(Int.le_trans (by decide) ha2.1), (Int.le_trans ha2.2 (by decide))⟩, (Int.le_trans (by decide) ha3.1), (Int.le_trans ha3.2 (by decide))⟩ (q_iload_n c_53_5 rfl (q_iload c_53_6 rfl ?_))
    by_cases h_17 : a2 = a4
    · refine v_ic_eq_t (t := 17) c_53_8 rfl h_17 (q_iconst c_53_17 (v_zret c_53_18 rfl (by decide) ?_))
      exact K c 0 hI (fun a j hm => rfl) ⟨by decide, by decide⟩
    · refine v_ic_eq_f (t := 17) c_53_8 rfl ⟨h_17, ⟨(Int.le_trans (by decide) ha2.1), (Int.le_trans ha2.2 (by decide))⟩, (Int.le_trans (by decide) ha4.1), (Int.le_trans ha4.2 (by decide))⟩ (q_iload_n c_53_11 rfl (q_iload c_53_12 rfl ?_))
      by_cases h_18 : a3 ≠ a4
      · refine v_ic_ne_t (t := 19) c_53_14 rfl ⟨h_18, ⟨(Int.le_trans (by decide) ha3.1), (Int.le_trans ha3.2 (by decide))⟩, (Int.le_trans (by decide) ha4.1), (Int.le_trans ha4.2 (by decide))⟩ (q_aload_n c_53_19 rfl (q_iload_n c_53_20 rfl (v_cv c_53_21 km_4_38 rfl (ck_sh hs) (a68sh hs) ⟨⟨rfl, rfl⟩, by decide, rfl⟩ (nb_ rfl) (nb_ rfl) (s_43 (v1 := c s (4 * a2)) (v2 := c s (4 * a2 + 1)) (v3 := c s (4 * a2 + 2)) (v4 := c s (4 * a2 + 3)) (r := c s (4 * a2 + 1) + c s (4 * a2 + 2) + c s (4 * a2 + 3) + c s (4 * a2)) (a1 := a2) hIo hs (show 0 ≤ a2 ∧ a2 ≤ 5 from ha2) (rfl) (rfl) (rfl) (rfl) (by omega) (bk_inl (q_istore c_53_24 (nb_ rfl) (q_aload_n c_53_26 rfl (q_iload_n c_53_27 rfl ?_))))))))
        refine q_iload_n c_53_28 rfl ?_
        have h_19 := ir_p3 hI hP a1
        have h_20 := ir_s hI hs 30
        have h_21 := fal_rng (m := c (P + 3) a1) (t := tb (c s 30) a1) (g := 0) (x := c s (4 * a2)) (by first | exact q_c6ed8760d h_2 | omega)
        have h_22 := fal_rng (m := c (P + 3) a1) (t := tb (c s 30) a1) (g := 1) (x := c s (4 * a2 + 1)) (by first | exact q_c6ed8760d h_3 | omega)
        have h_23 := fal_rng (m := c (P + 3) a1) (t := tb (c s 30) a1) (g := 2) (x := c s (4 * a2 + 2)) (by first | exact q_c6ed8760d h_4 | omega)
        have h_24 := fal_rng (m := c (P + 3) a1) (t := tb (c s 30) a1) (g := 3) (x := c s (4 * a2 + 3)) (by first | exact q_c6ed8760d h_5 | omega)
        refine v_cv c_53_29 km_4_78 rfl (ck_sh hs) (a68sh hs) ⟨⟨rfl, rfl⟩, by decide, rfl⟩ (nb_ rfl) (nb_ rfl) (s_49 (v1 := c (P + 3) a1) (v2 := c s 30) (v3 := c s (4 * a2)) (v4 := c s (4 * a2 + 1)) (v5 := c s (4 * a2 + 2)) (v6 := c s (4 * a2 + 3)) (r := (fal (c (P + 3) a1) (tb (c s 30) a1) 0 (c s (4 * a2))) + (fal (c (P + 3) a1) (tb (c s 30) a1) 1 (c s (4 * a2 + 1))) + (fal (c (P + 3) a1) (tb (c s 30) a1) 2 (c s (4 * a2 + 2))) + (fal (c (P + 3) a1) (tb (c s 30) a1) 3 (c s (4 * a2 + 3)))) (a1 := a1) (a2 := a2) hIo hs (show 0 ≤ a1 ∧ a1 ≤ 3 from ha1) (show 0 ≤ a2 ∧ a2 ≤ 5 from ha2) (rfl) (rfl) (rfl) (rfl) (rfl) (rfl) rfl (bk_inl (q_istore c_53_32 (nb_ rfl) (q_iload c_53_34 rfl ?_))))
        by_cases h_25 : c s (4 * a2 + 1) + c s (4 * a2 + 2) + c s (4 * a2 + 3) + c s (4 * a2) = 0
        · refine v_if_eq_t (t := 63) c_53_36 rfl h_25 (q_iconst c_53_63 (v_zret c_53_64 rfl (by decide) ?_))
          exact K c 0 hI (fun a j hm => rfl) ⟨by decide, by decide⟩
        · refine v_if_eq_f (t := 63) c_53_36 rfl ⟨h_25, ⟨by first | exact q_e052ef40e h_2 h_3 h_4 h_5 | omega, by first | exact q_6719c4bfd hsum_1 | omega⟩, by decide, by decide⟩ (q_aload_n c_53_39 rfl (q_iload_n c_53_40 rfl (q_iload c_53_41 rfl (v_cv c_53_43 km_4_81 rfl (ck_sh hs) (a68sh hs) ⟨⟨rfl, rfl⟩, by decide, rfl⟩ (nb_ rfl) (nb_ rfl) (q_aload_n c_50_0 rfl (q_iload_n c_50_1 rfl (v_cv c_50_2 km_4_38 rfl (ck_sh hs) (a68sh hs) ⟨⟨rfl, rfl⟩, by decide, rfl⟩ (nb_ rfl) (nb_ rfl) (s_43 (v1 := c s (4 * a3)) (v2 := c s (4 * a3 + 1)) (v3 := c s (4 * a3 + 2)) (v4 := c s (4 * a3 + 3)) (r := c s (4 * a3 + 1) + c s (4 * a3 + 2) + c s (4 * a3 + 3) + c s (4 * a3)) (a1 := a3) hIo hs (show 0 ≤ a3 ∧ a3 ≤ 5 from ha3) (rfl) (rfl) (rfl) (rfl) (by omega) ?_))))))))
          refine bk_inl (q_iload_n c_50_5 rfl (v_iadd (v := (fal (c (P + 3) a1) (tb (c s 30) a1) 0 (c s (4 * a2))) + (fal (c (P + 3) a1) (tb (c s 30) a1) 1 (c s (4 * a2 + 1))) + (fal (c (P + 3) a1) (tb (c s 30) a1) 2 (c s (4 * a2 + 2))) + (fal (c (P + 3) a1) (tb (c s 30) a1) 3 (c s (4 * a2 + 3))) + c s (4 * a3 + 1) + c s (4 * a3 + 2) + c s (4 * a3 + 3) + c s (4 * a3)) rfl (by first | exact q_830354608 | omega) (v_sip c_50_7 (by decide) ?_)))
          by_cases h_26 : (fal (c (P + 3) a1) (tb (c s 30) a1) 0 (c s (4 * a2))) + (fal (c (P + 3) a1) (tb (c s 30) a1) 1 (c s (4 * a2 + 1))) + (fal (c (P + 3) a1) (tb (c s 30) a1) 2 (c s (4 * a2 + 2))) + (fal (c (P + 3) a1) (tb (c s 30) a1) 3 (c s (4 * a2 + 3))) + c s (4 * a3 + 1) + c s (4 * a3 + 2) + c s (4 * a3 + 3) + c s (4 * a3) > 9999
          · refine v_ic_gt_t (t := 17) c_50_10 rfl ⟨by decide, h_26, by first | exact q_aef5b7b01 h_21 h_22 h_23 h_24 hsum_1 hsum_6 | omega⟩ (q_iconst c_50_17 (v_zret c_50_18 rfl (by decide) (bk_inl (v_if_eq_t (t := 63) c_53_46 rfl (by decide) (q_iconst c_53_63 (v_zret c_53_64 rfl (by decide) ?_))))))
            exact K c 0 hI (fun a j hm => rfl) ⟨by decide, by decide⟩
          · refine v_ic_gt_f (t := 17) c_50_10 rfl ⟨by first | exact q_8738771ec h_10 h_21 h_22 h_23 h_24 h_7 h_8 h_9 | omega, (Int.not_lt.mp h_26), by decide⟩ (q_iconst c_50_13 (q_goto (t := 18) c_50_14 rfl (v_zret c_50_18 rfl (by decide) (bk_inl (v_if_eq_f (t := 63) c_53_46 rfl (by decide) (q_aload_n c_53_49 rfl (q_iload c_53_50 rfl ?_)))))))
            refine q_iload c_53_52 rfl (q_iload c_53_54 rfl (v_isub (v := c s (4 * a2 + 1) + c s (4 * a2 + 2) + c s (4 * a2 + 3) + c s (4 * a2) - (fal (c (P + 3) a1) (tb (c s 30) a1) 0 (c s (4 * a2))) - (fal (c (P + 3) a1) (tb (c s 30) a1) 1 (c s (4 * a2 + 1))) - (fal (c (P + 3) a1) (tb (c s 30) a1) 2 (c s (4 * a2 + 2))) - (fal (c (P + 3) a1) (tb (c s 30) a1) 3 (c s (4 * a2 + 3)))) rfl (by first | exact q_c8918bba8 | omega) (v_cv c_53_57 km_4_81 rfl (ck_sh hs) (a68sh hs) ⟨⟨rfl, rfl⟩, by decide, rfl⟩ (nb_ rfl) (nb_ rfl) (q_aload_n c_50_0 rfl (q_iload_n c_50_1 rfl (v_cv c_50_2 km_4_38 rfl (ck_sh hs) (a68sh hs) ⟨⟨rfl, rfl⟩, by decide, rfl⟩ (nb_ rfl) (nb_ rfl) (s_43 (v1 := c s (4 * a4)) (v2 := c s (4 * a4 + 1)) (v3 := c s (4 * a4 + 2)) (v4 := c s (4 * a4 + 3)) (r := c s (4 * a4 + 1) + c s (4 * a4 + 2) + c s (4 * a4 + 3) + c s (4 * a4)) (a1 := a4) hIo hs (show 0 ≤ a4 ∧ a4 ≤ 5 from ha4) (rfl) (rfl) (rfl) (rfl) (by omega) (bk_inl ?_))))))))
            refine q_iload_n c_50_5 rfl (v_iadd (v := c s (4 * a2 + 1) + c s (4 * a2 + 2) + c s (4 * a2 + 3) + c s (4 * a2) + c s (4 * a4 + 1) + c s (4 * a4 + 2) + c s (4 * a4 + 3) + c s (4 * a4) - (fal (c (P + 3) a1) (tb (c s 30) a1) 0 (c s (4 * a2))) - (fal (c (P + 3) a1) (tb (c s 30) a1) 1 (c s (4 * a2 + 1))) - (fal (c (P + 3) a1) (tb (c s 30) a1) 2 (c s (4 * a2 + 2))) - (fal (c (P + 3) a1) (tb (c s 30) a1) 3 (c s (4 * a2 + 3)))) rfl (by first | exact q_17e17cd2a | omega) (v_sip c_50_7 (by decide) ?_))
            by_cases h_27 : c s (4 * a2 + 1) + c s (4 * a2 + 2) + c s (4 * a2 + 3) + c s (4 * a2) + c s (4 * a4 + 1) + c s (4 * a4 + 2) + c s (4 * a4 + 3) + c s (4 * a4) - (fal (c (P + 3) a1) (tb (c s 30) a1) 0 (c s (4 * a2))) - (fal (c (P + 3) a1) (tb (c s 30) a1) 1 (c s (4 * a2 + 1))) - (fal (c (P + 3) a1) (tb (c s 30) a1) 2 (c s (4 * a2 + 2))) - (fal (c (P + 3) a1) (tb (c s 30) a1) 3 (c s (4 * a2 + 3))) > 9999
            · refine v_ic_gt_t (t := 17) c_50_10 rfl ⟨by decide, h_27, by first | exact q_ff5a6990a h_21 h_22 h_23 h_24 hsum_1 hsum_11 | omega⟩ (q_iconst c_50_17 (v_zret c_50_18 rfl (by decide) (bk_inl (v_if_ne_f (t := 65) c_53_60 rfl (by decide) (q_iconst c_53_63 (v_zret c_53_64 rfl (by decide) ?_))))))
              exact K c 0 hI (fun a j hm => rfl) ⟨by decide, by decide⟩
            · refine v_ic_gt_f (t := 17) c_50_10 rfl ⟨by first | exact q_79ff189ef h_12 h_13 h_14 h_15 h_21 h_22 h_23 h_24 | omega, (Int.not_lt.mp h_27), by decide⟩ (q_iconst c_50_13 (q_goto (t := 18) c_50_14 rfl (v_zret c_50_18 rfl (by decide) (bk_inl (v_if_ne_t (t := 65) c_53_60 rfl (by decide) (q_iconst c_53_65 (q_istore c_53_66 (nb_ rfl) ?_)))))))
              have hqo_28 : ∀ j : Int, rs s j → ¬ j = 4 * a2 → ¬ j = 4 * a3 → ¬ j = 4 * a4 → c s j + c s (j + 1) + c s (j + 2) + c s (j + 3) ≤ 9999 := by
                intro j9 hj9 hz0 hz1 hz2
                obtain ⟨k9, rfl, hk9⟩ := rs_s hs hj9
                have h_29 := iv_r hI s (4 * k9) hj9 (by omega)
                have h_30 := ir_s_g hI hs (j := 4 * k9) (by first | exact q_9f1d5ffdc hk9 | omega)
                have h_31 : c s (4 * k9) = c s (4 * k9) := rfl
                have h_32 := ir_s_g hI hs (j := 4 * k9 + 1) (by first | exact q_0a2ee6f8f hk9 | omega)
                have h_33 : c s (4 * k9 + 1) = c s (4 * k9 + 1) := rfl
                have h_34 := ir_s_g hI hs (j := 4 * k9 + 2) (by first | exact q_e07a293a2 hk9 | omega)
                have h_35 : c s (4 * k9 + 2) = c s (4 * k9 + 2) := rfl
                have h_36 := ir_s_g hI hs (j := 4 * k9 + 3) (by first | exact q_d09cb0b73 hk9 | omega)
                have h_37 : c s (4 * k9 + 3) = c s (4 * k9 + 3) := rfl
                omega
              refine Wp_ls [(0, .ref sh), (1, vi a1), (2, vi a2), (3, vi a3), (4, vi a4), (7, vi 0)] (lsub_cons rfl (lsub_cons rfl (lsub_cons rfl (lsub_cons rfl (lsub_cons rfl (lsub_cons rfl lsub_nil)))))) ?_
              exact s_53_0 (v1 := c (P + 3) a1) (v2 := c s 30) (x0 := c s (4 * a2)) (x1 := c s (4 * a2 + 1)) (x2 := c s (4 * a2 + 2)) (x3 := c s (4 * a2 + 3)) (u0 := c s (4 * a3)) (u1 := c s (4 * a3 + 1)) (u2 := c s (4 * a3 + 2)) (u3 := c s (4 * a3 + 3)) (w0 := c s (4 * a4)) (w1 := c s (4 * a4 + 1)) (w2 := c s (4 * a4 + 2)) (w3 := c s (4 * a4 + 3)) hIo hs (by omega) (by omega) (by omega) (by omega) (by omega) (by omega) (by omega) (by omega) (by omega) hqo_28 rfl rfl rfl rfl rfl rfl rfl rfl rfl rfl rfl rfl rfl rfl (fun c9 y9 hI9 hF9 hy9 => K c9 y9 hI9 (fun a j hm => (hF9 a j (by omega)).trans (rfl)) hy9)
      · refine v_ic_ne_f (t := 19) c_53_14 rfl (Decidable.not_not.mp h_18) (q_iconst c_53_17 (v_zret c_53_18 rfl (by decide) ?_))
        exact K c 0 hI (fun a j hm => rfl) ⟨by decide, by decide⟩
end
section
/-! ===== contracts 5 ===== -/
theorem q_5fd6c987e {x0 x1 x2 x3 : Int} (f0 : ¬ (x0 + x1 + x2 + x3 ≠ 0)) : x1 + x2 + x3 + (x0) ≤ 9999 := by omega
theorem q_4ce869430 {x0 x1 x2 x3 x4 : Int} : x0 + x1 + x2 + x3 + x4 = x4 + x0 + x1 + x2 + x3 := by omega
theorem q_5f45bd9da {x0 x1 x2 x3 x4 : Int} (f0 : 0 ≤ x0 ∧ x0 ≤ 99999) (f1 : x1 + x2 + x3 + x4 ≤ 9999) : x0 + x2 + x3 + x4 + x1 ≤ 2147483647 := by omega
theorem q_62ebcb2f9 {x0 x1 x2 x3 x4 : Int} (f0 : 0 ≤ x0 ∧ x0 ≤ 9999) (f1 : 0 ≤ x1 ∧ x1 ≤ 9999) (f2 : 0 ≤ x2 ∧ x2 ≤ 9999) (f3 : 0 ≤ x3 ∧ x3 ≤ 9999) (f4 : 0 ≤ x4 ∧ x4 ≤ 99999) : (-2147483648) ≤ x4 + x2 + x3 + x0 + x1 := by omega
theorem c_54_31 : mLk 54 31 = some (.iload 5, 2) := rfl
theorem c_54_33 : mLk 54 33 = some (.iconst 4, 1) := rfl
theorem c_54_34 : mLk 54 34 = some (.if_icmp .ge 40, 3) := rfl
theorem c_54_37 : mLk 54 37 = some (.iload 4, 2) := rfl
theorem c_54_39 : mLk 54 39 = some (.aload_n 0, 1) := rfl
theorem c_54_40 : mLk 54 40 = some (.iload_n 1, 1) := rfl
theorem c_54_41 : mLk 54 41 = some (.iload 5, 2) := rfl
theorem c_54_43 : mLk 54 43 = some (.invokevirtual 34, 3) := rfl
theorem c_54_46 : mLk 54 46 = some (.invokestatic 93, 3) := rfl
theorem c_54_49 : mLk 54 49 = some (.istore 6, 2) := rfl
theorem c_54_51 : mLk 54 51 = some (.aload_n 0, 1) := rfl
theorem c_54_52 : mLk 54 52 = some (.iload_n 1, 1) := rfl
theorem c_54_53 : mLk 54 53 = some (.iload_n 2, 1) := rfl
theorem c_54_54 : mLk 54 54 = some (.iload 5, 2) := rfl
theorem c_54_56 : mLk 54 56 = some (.iload 6, 2) := rfl
theorem c_54_58 : mLk 54 58 = some (.invokevirtual 85, 3) := rfl
theorem c_54_61 : mLk 54 61 = some (.iload 4, 2) := rfl
theorem c_54_63 : mLk 54 63 = some (.iload 6, 2) := rfl
theorem c_54_65 : mLk 54 65 = some (.isub, 1) := rfl
theorem c_54_66 : mLk 54 66 = some (.istore 4, 2) := rfl
theorem c_54_68 : mLk 54 68 = some (.iinc 5 1, 3) := rfl
theorem c_54_71 : mLk 54 71 = some (.goto (-40), 3) := rfl
theorem c_54_74 : mLk 54 74 = some (.aload_n 0, 1) := rfl
theorem c_54_75 : mLk 54 75 = some (.iload_n 1, 1) := rfl
theorem c_54_76 : mLk 54 76 = some (.invokevirtual 38, 3) := rfl
theorem c_54_79 : mLk 54 79 = some (.ifCond .ne 13, 3) := rfl
theorem c_54_92 : mLk 54 92 = some (.iconst 1, 1) := rfl
theorem c_54_93 : mLk 54 93 = some (.ireturn, 1) := rfl
theorem c_54_82 : mLk 54 82 = some (.aload_n 0, 1) := rfl
theorem c_54_83 : mLk 54 83 = some (.getfield 11, 3) := rfl
theorem c_54_86 : mLk 54 86 = some (.bipush 24, 2) := rfl
theorem c_54_88 : mLk 54 88 = some (.iload_n 1, 1) := rfl
theorem c_54_89 : mLk 54 89 = some (.iadd, 1) := rfl
theorem c_54_90 : mLk 54 90 = some (.iconst 0, 1) := rfl
theorem c_54_91 : mLk 54 91 = some (.iastore, 1) := rfl
theorem c_54_0 : mLk 54 0 = some (.iload_n 1, 1) := rfl
theorem c_54_1 : mLk 54 1 = some (.iload_n 2, 1) := rfl
theorem c_54_2 : mLk 54 2 = some (.if_icmp .eq 21, 3) := rfl
theorem c_54_23 : mLk 54 23 = some (.iconst 0, 1) := rfl
theorem c_54_24 : mLk 54 24 = some (.ireturn, 1) := rfl
theorem c_54_5 : mLk 54 5 = some (.aload_n 0, 1) := rfl
theorem c_54_6 : mLk 54 6 = some (.iload_n 1, 1) := rfl
theorem c_54_7 : mLk 54 7 = some (.invokevirtual 38, 3) := rfl
theorem c_54_10 : mLk 54 10 = some (.iload_n 3, 1) := rfl
theorem c_54_11 : mLk 54 11 = some (.if_icmp .lt 12, 3) := rfl
theorem c_54_14 : mLk 54 14 = some (.aload_n 0, 1) := rfl
theorem c_54_15 : mLk 54 15 = some (.iload_n 2, 1) := rfl
theorem c_54_16 : mLk 54 16 = some (.iload_n 3, 1) := rfl
theorem c_54_17 : mLk 54 17 = some (.invokevirtual 81, 3) := rfl
theorem c_50_6 : mLk 50 6 = some (.iadd, 1) := rfl
theorem c_54_20 : mLk 54 20 = some (.ifCond .ne 5, 3) := rfl
theorem c_54_25 : mLk 54 25 = some (.iload_n 3, 1) := rfl
theorem c_54_26 : mLk 54 26 = some (.istore 4, 2) := rfl
theorem c_54_28 : mLk 54 28 = some (.iconst 0, 1) := rfl
theorem c_54_29 : mLk 54 29 = some (.istore 5, 2) := rfl
set_option maxRecDepth 100000 in
set_option maxHeartbeats 4000000 in
theorem s_54_3 {sc : List Int32} {d P Q sh s : Nat} {c : ME} {x0 x1 x2 x3 u0 u1 u2 u3 : Int} {a1 : Int} {a2 : Int} {a4 : Int} {Z : AR → Prop} (hI : Iv s (-1) P Q c) (hs : (sh = 37 ∧ s = 38) ∨ (sh = 39 ∧ s = 40)) (ha1 : 0 ≤ a1 ∧ a1 ≤ 5) (ha2 : 0 ≤ a2 ∧ a2 ≤ 5) (ha4 : 0 ≤ a4 ∧ a4 ≤ 99999) (hq0 : (a1 < a2) ∨ (a1 > a2)) (hq1 : (a4 + u0 + u1 + u2 + u3 ≤ 9999)) (hq2 : (x0 + x1 + x2 + x3 ≤ 9999)) (hq3 : ∀ j : Int, rs s j → ¬ j = 4 * a1 → ¬ j = 4 * a2 → c s j + c s (j + 1) + c s (j + 2) + c s (j + 3) ≤ 9999) (hv0 : c s (4 * a1) = x0) (hv1 : c s (4 * a1 + 1) = x1) (hv2 : c s (4 * a1 + 2) = x2) (hv3 : c s (4 * a1 + 3) = x3) (hv4 : c s (4 * a2) = u0) (hv5 : c s (4 * a2 + 1) = u1) (hv6 : c s (4 * a2 + 2) = u2) (hv7 : c s (4 * a2 + 3) = u3) (K : ∀ (c2 : ME) (y : Int), Iv 0 (-1) P Q c2 → (∀ (a : Nat) (j : Int), ¬ (a = s) → c2 a j = c a j) → 0 ≤ y ∧ y ≤ 1 → Z (.inl (some (vi y)), Wd P Q P P c2, 0, 0)) : Wp sc (d + 9) 54 31 [(0, .ref sh), (1, vi a1), (2, vi a2), (4, vi a4), (5, vi 3)] [] (Wd P Q P P c) 0 0 Z := by
  have hP := iv_P hI
  have hQ := iv_Q hI
  have h_1 := ir_s_g hI hs (j := 4 * a1) (by first | exact q_9f1d5ffdc ha1 | omega)
  have h_2 := ir_s_g hI hs (j := 4 * a1 + 1) (by first | exact q_0a2ee6f8f ha1 | omega)
  have h_3 := ir_s_g hI hs (j := 4 * a1 + 2) (by first | exact q_e07a293a2 ha1 | omega)
  have h_4 := ir_s_g hI hs (j := 4 * a1 + 3) (by first | exact q_d09cb0b73 ha1 | omega)
  have h_5 := ir_s_g hI hs (j := 4 * a2) (by first | exact q_9f1d5ffdc ha2 | omega)
  have h_6 := ir_s_g hI hs (j := 4 * a2 + 1) (by first | exact q_0a2ee6f8f ha2 | omega)
  have h_7 := ir_s_g hI hs (j := 4 * a2 + 2) (by first | exact q_e07a293a2 ha2 | omega)
  have h_8 := ir_s_g hI hs (j := 4 * a2 + 3) (by first | exact q_d09cb0b73 ha2 | omega)
  have hqo := hq3
  refine q_iload c_54_31 rfl (q_iconst c_54_33 (v_ic_ge_f (t := 74) c_54_34 rfl (by decide) (q_iload c_54_37 rfl (q_aload_n c_54_39 rfl (q_iload_n c_54_40 rfl (q_iload c_54_41 rfl (v_cv c_54_43 km_4_34 rfl (ck_sh hs) (a68sh hs) ⟨⟨rfl, rfl⟩, by decide, rfl⟩ (nb_ rfl) (nb_ rfl) (s_45 (v1 := x3) (r := x3) (a1 := a1) (a2 := 3) hI hs (show 0 ≤ a1 ∧ a1 ≤ 5 from ha1) (show 0 ≤ 3 ∧ 3 ≤ 3 from ⟨by decide, by decide⟩) ((hv3)) (by omega) ?_))))))))
  refine bk_inl (v_minp c_54_46 rfl (by omega) (nb_ rfl) ⟨by omega, by omega, by omega, by omega⟩ (fun y_9 hy_9 => (q_istore c_54_49 (nb_ rfl) (q_aload_n c_54_51 rfl (q_iload_n c_54_52 rfl (q_iload_n c_54_53 rfl (q_iload c_54_54 rfl (q_iload c_54_56 rfl ?_))))))))
  have h_10 : c s (4 * a1 + 3) = x3 := (hv3)
  have h_11 : c s (4 * a2 + 3) = u3 := (hv7)
  refine v_cv c_54_58 km_4_85 rfl (ck_sh hs) (a68sh hs) ⟨⟨rfl, rfl⟩, by decide, rfl⟩ (nb_ rfl) (nb_ rfl) (s_52 (a1 := a1) (a2 := a2) (a3 := 3) (a4 := y_9) hI hs (show 0 ≤ a1 ∧ a1 ≤ 5 from ha1) (show 0 ≤ a2 ∧ a2 ≤ 5 from ha2) (show 0 ≤ 3 ∧ 3 ≤ 3 from ⟨by decide, by decide⟩) (show 0 ≤ y_9 ∧ y_9 ≤ 9999 from ⟨by first | (clear ha1 ha2 ha4 hq1 hq2 h_1 hv0 h_2 hv1 h_3 hv2 h_4 hv3 h_5 hv4 h_6 hv5 h_7 hv6 h_8 hv7 hq0; omega) | omega, by first | (clear ha1 ha2 ha4 hq1 hq2 h_1 hv0 h_2 hv1 h_3 hv2 h_5 hv4 h_6 hv5 h_7 hv6 h_8 hv7 hq0; omega) | omega⟩) (by omega) (by first | (clear ha1 ha2 ha4 hq1 hq2 h_1 hv0 h_2 hv1 h_3 hv2 h_4 hv3 h_5 hv4 h_6 hv5 h_7 hv6 h_8 hv7 hq0; omega) | omega) (by first | (clear ha1 ha2 ha4 hq2 h_1 hv0 h_2 hv1 h_3 hv2 h_4 hv3 h_8 hv7 hq0; omega) | omega) (fun c_12 hI_13 hF_14 h_15 => (bk_inl ?_)))
  have h_16 := ir_s_g hI_13 hs (j := 4 * a1 + 3) (by first | exact q_d09cb0b73 ha1 | omega)
  have h_17 := ir_s_g hI_13 hs (j := 4 * a2 + 3) (by first | exact q_d09cb0b73 ha2 | omega)
  refine q_iload c_54_61 rfl (q_iload c_54_63 rfl (v_isub (v := a4 - y_9) c_54_65 rfl (q_istore c_54_66 (nb_ rfl) (v_iinc (v := 4) c_54_68 rfl (nb_ rfl) (by decide) (q_goto (t := 31) c_54_71 rfl (q_iload c_54_31 rfl (q_iconst c_54_33 ?_)))))))
  refine v_ic_ge_t (t := 74) c_54_34 rfl (by decide) (q_aload_n c_54_74 rfl (q_iload_n c_54_75 rfl ?_))
  have kn_18 : Hid (c_12 s (4 * a1) = x0) := (hF_14 s (4 * a1) (fun q => q.elim (fun h => absurd h.2 (ne_l (by first | exact q_fb9abb0e1 | omega))) (fun q => q.elim (fun h => absurd h.2 (by first | exact q_8ac71c5f3 | omega)) (fun h => absurd h.2 (ne_l (by first | exact q_2b13428e8 ha1 ha2 | omega)))))).trans (hv0)
  have kn_19 : Hid (c_12 s (4 * a1 + 1) = x1) := (hF_14 s (4 * a1 + 1) (fun q => q.elim (fun h => absurd h.2 (ne_l (by first | exact q_4e2243c37 | omega))) (fun q => q.elim (fun h => absurd h.2 (by first | exact q_7c6b1b09a | omega)) (fun h => absurd h.2 (ne_l (by first | exact q_3178328df ha1 ha2 | omega)))))).trans (hv1)
  have kn_20 : Hid (c_12 s (4 * a1 + 2) = x2) := (hF_14 s (4 * a1 + 2) (fun q => q.elim (fun h => absurd h.2 (ne_l (by first | exact q_693f489f1 | omega))) (fun q => q.elim (fun h => absurd h.2 (by first | exact q_91c5bd343 | omega)) (fun h => absurd h.2 (ne_l (by first | exact q_428481d46 ha1 ha2 | omega)))))).trans (hv2)
  refine v_cv c_54_76 km_4_38 rfl (ck_sh hs) (a68sh hs) ⟨⟨rfl, rfl⟩, by decide, rfl⟩ (nb_ rfl) (nb_ rfl) (s_43 (v1 := x0) (v2 := x1) (v3 := x2) (v4 := c_12 s (4 * a1 + 3)) (r := c_12 s (4 * a1 + 3) + x0 + x1 + x2) (a1 := a1) hI_13 hs (show 0 ≤ a1 ∧ a1 ≤ 5 from ha1) ((hid kn_18)) ((hid kn_19)) ((hid kn_20)) (rfl) (by omega) (bk_inl ?_))
  by_cases h_21 : c_12 s (4 * a1 + 3) + x0 + x1 + x2 ≠ 0
  · refine v_if_ne_t (t := 92) c_54_79 rfl ⟨h_21, ⟨by first | (clear ha1 ha2 ha4 hq1 hq2 h_4 hv3 h_5 hv4 h_6 hv5 h_7 hv6 h_8 hv7 h_17 h_15 hq0; omega) | omega, by first | (clear ha1 ha2 ha4 hq1 h_1 hv0 h_2 hv1 h_3 hv2 h_4 hv3 h_5 hv4 h_6 hv5 h_7 hv6 h_8 hv7 h_16 h_17 hq0; omega) | omega⟩, by decide, by decide⟩ (q_iconst c_54_92 (v_zret c_54_93 rfl (by decide) ?_))
    have hr_22 : ∀ j : Int, rs s j → c_12 s j + c_12 s (j + 1) + c_12 s (j + 2) + c_12 s (j + 3) ≤ 9999 := by
      intro j9 hj9
      obtain ⟨k9, rfl, hk9⟩ := rs_s hs hj9
      by_cases e_23 : k9 = a1
      · skip
        have h_24 : c_12 s (4 * k9) = x0 := (congrArg (c_12 s) (show 4 * k9 = 4 * a1 from congrArg (fun z : Int => 4 * z) e_23)).trans (hid kn_18)
        have h_25 : c_12 s (4 * k9 + 1) = x1 := (congrArg (c_12 s) (show 4 * k9 + 1 = 4 * a1 + 1 from congrArg (fun z : Int => 4 * z + 1) e_23)).trans (hid kn_19)
        have h_26 : c_12 s (4 * k9 + 2) = x2 := (congrArg (c_12 s) (show 4 * k9 + 2 = 4 * a1 + 2 from congrArg (fun z : Int => 4 * z + 2) e_23)).trans (hid kn_20)
        have h_27 : c_12 s (4 * k9 + 3) = c_12 s (4 * a1 + 3) := (congrArg (c_12 s) (show 4 * k9 + 3 = 4 * a1 + 3 from congrArg (fun z : Int => 4 * z + 3) e_23))
        exact sm4 h_24 h_25 h_26 h_27 (by first | (clear ha1 ha2 ha4 hq1 h_1 hv0 h_2 hv1 h_3 hv2 h_4 hv3 h_5 hv4 h_6 hv5 h_7 hv6 h_8 hv7 h_16 h_17 hk9 e_23 hq0 h_21; omega) | omega)
      by_cases e_28 : k9 = a2
      · skip
        have kn_29 : Hid (c_12 s (4 * a2) = u0) := (hF_14 s (4 * a2) (fun q => q.elim (fun h => absurd h.2 (by first | exact q_8ac71c5f3 | omega)) (fun q => q.elim (fun h => absurd h.2 (ne_l (by first | exact q_fb9abb0e1 | omega))) (fun h => absurd h.2 (ne_l (by first | exact q_788f4b81f ha2 | omega)))))).trans (hv4)
        have h_30 : c_12 s (4 * k9) = u0 := (congrArg (c_12 s) (show 4 * k9 = 4 * a2 from congrArg (fun z : Int => 4 * z) e_28)).trans (hid kn_29)
        have kn_31 : Hid (c_12 s (4 * a2 + 1) = u1) := (hF_14 s (4 * a2 + 1) (fun q => q.elim (fun h => absurd h.2 (by first | exact q_7c6b1b09a | omega)) (fun q => q.elim (fun h => absurd h.2 (ne_l (by first | exact q_4e2243c37 | omega))) (fun h => absurd h.2 (ne_l (by first | exact q_60c9feeee ha2 | omega)))))).trans (hv5)
        have h_32 : c_12 s (4 * k9 + 1) = u1 := (congrArg (c_12 s) (show 4 * k9 + 1 = 4 * a2 + 1 from congrArg (fun z : Int => 4 * z + 1) e_28)).trans (hid kn_31)
        have kn_33 : Hid (c_12 s (4 * a2 + 2) = u2) := (hF_14 s (4 * a2 + 2) (fun q => q.elim (fun h => absurd h.2 (by first | exact q_91c5bd343 | omega)) (fun q => q.elim (fun h => absurd h.2 (ne_l (by first | exact q_693f489f1 | omega))) (fun h => absurd h.2 (ne_l (by first | exact q_27ec1b4d7 ha2 | omega)))))).trans (hv6)
        have h_34 : c_12 s (4 * k9 + 2) = u2 := (congrArg (c_12 s) (show 4 * k9 + 2 = 4 * a2 + 2 from congrArg (fun z : Int => 4 * z + 2) e_28)).trans (hid kn_33)
        have h_35 : c_12 s (4 * k9 + 3) = c_12 s (4 * a2 + 3) := (congrArg (c_12 s) (show 4 * k9 + 3 = 4 * a2 + 3 from congrArg (fun z : Int => 4 * z + 3) e_28))
        exact sm4 h_30 h_32 h_34 h_35 (by first | (clear ha1 ha2 ha4 hq2 h_1 hv0 h_2 hv1 h_3 hv2 h_4 hv3 h_5 hv4 h_6 hv5 h_7 hv6 h_8 hv7 h_16 h_17 hk9 e_28 hq0 h_21 e_23; omega) | omega)
      have h_36 := hqo (4 * k9) hj9 (by omega) (by omega)
      have h_37 := ir_s_g hI hs (j := 4 * k9) (by first | exact q_9f1d5ffdc hk9 | omega)
      have kn_38 : Hid (c_12 s (4 * k9) = c s (4 * k9)) := hF_14 s (4 * k9) (fun q => q.elim (fun h => absurd h.2 (by first | exact q_8ac71c5f3 | omega)) (fun q => q.elim (fun h => absurd h.2 (by first | exact q_8ac71c5f3 | omega)) (fun h => absurd h.2 (ne_l (by first | exact q_4128697c9 ha2 hk9 | omega)))))
      have h_39 : c_12 s (4 * k9) = c s (4 * k9) := (hid kn_38)
      have h_40 := ir_s_g hI hs (j := 4 * k9 + 1) (by first | exact q_0a2ee6f8f hk9 | omega)
      have kn_41 : Hid (c_12 s (4 * k9 + 1) = c s (4 * k9 + 1)) := hF_14 s (4 * k9 + 1) (fun q => q.elim (fun h => absurd h.2 (by first | exact q_7c6b1b09a | omega)) (fun q => q.elim (fun h => absurd h.2 (by first | exact q_7c6b1b09a | omega)) (fun h => absurd h.2 (ne_l (by first | exact q_8f2481ba6 ha2 hk9 | omega)))))
      have h_42 : c_12 s (4 * k9 + 1) = c s (4 * k9 + 1) := (hid kn_41)
      have h_43 := ir_s_g hI hs (j := 4 * k9 + 2) (by first | exact q_e07a293a2 hk9 | omega)
      have kn_44 : Hid (c_12 s (4 * k9 + 2) = c s (4 * k9 + 2)) := hF_14 s (4 * k9 + 2) (fun q => q.elim (fun h => absurd h.2 (by first | exact q_91c5bd343 | omega)) (fun q => q.elim (fun h => absurd h.2 (by first | exact q_91c5bd343 | omega)) (fun h => absurd h.2 (ne_l (by first | exact q_04ab4010a ha2 hk9 | omega)))))
      have h_45 : c_12 s (4 * k9 + 2) = c s (4 * k9 + 2) := (hid kn_44)
      have h_46 := ir_s_g hI hs (j := 4 * k9 + 3) (by first | exact q_d09cb0b73 hk9 | omega)
      have kn_47 : Hid (c_12 s (4 * k9 + 3) = c s (4 * k9 + 3)) := hF_14 s (4 * k9 + 3) (fun q => q.elim (fun h => absurd h.2 (by first | exact q_2db9f474b e_23 | omega)) (fun q => q.elim (fun h => absurd h.2 (by first | exact q_2db9f474b e_28 | omega)) (fun h => absurd h.2 (ne_l (by first | exact q_e782b8c3c ha2 hk9 | omega)))))
      have h_48 : c_12 s (4 * k9 + 3) = c s (4 * k9 + 3) := (hid kn_47)
      omega
    have hI_49 := iv_close hI_13 hr_22
    exact K c_12 1 hI_49 (fun a j hm => hF_14 a j (fun q => q.elim (fun h => hm h.1) (fun q => q.elim (fun h => hm h.1) (fun h => hm h.1)))) ⟨by decide, by decide⟩
  · refine v_if_ne_f (t := 92) c_54_79 rfl (Decidable.not_not.mp h_21) (q_aload_n c_54_82 rfl (v_gr (t := s) c_54_83 kf_4_11 (ck_sh hs) (a68sh hs) rfl (v_bip c_54_86 (by decide) (q_iload_n c_54_88 rfl (v_iadd (v := a1 + 24) c_54_89 (by first | exact q_1b47056ce | omega) (q_iconst c_54_90 (v_is c_54_91 (ck_s hs) (a68s hs) (by decide) ⟨by first | exact rgp_l ha1.1 (by decide) | omega, by first | exact q_99d6360e7 ha1 | omega⟩ ?_)))))))
    refine q_iconst c_54_92 (v_zret c_54_93 rfl (by decide) ?_)
    have hI_50 := iwr0 (a := s) (j := a1 + 24) (v := 0) hI_13 (rs_cs hs) ⟨by decide, by decide⟩
    have hr_51 : ∀ j : Int, rs s j → (up c_12 s (a1 + 24) 0) s j + (up c_12 s (a1 + 24) 0) s (j + 1) + (up c_12 s (a1 + 24) 0) s (j + 2) + (up c_12 s (a1 + 24) 0) s (j + 3) ≤ 9999 := by
      intro j9 hj9
      obtain ⟨k9, rfl, hk9⟩ := rs_s hs hj9
      by_cases e_52 : k9 = a1
      · skip
        have h_53 : (up c_12 s (a1 + 24) 0) s (4 * k9) = x0 := (congrArg ((up c_12 s (a1 + 24) 0) s) (show 4 * k9 = 4 * a1 from congrArg (fun z : Int => 4 * z) e_52)).trans ((up_n (ne_l (by first | exact q_788f4b81f ha1 | omega))).trans (hid kn_18))
        have h_54 : (up c_12 s (a1 + 24) 0) s (4 * k9 + 1) = x1 := (congrArg ((up c_12 s (a1 + 24) 0) s) (show 4 * k9 + 1 = 4 * a1 + 1 from congrArg (fun z : Int => 4 * z + 1) e_52)).trans ((up_n (ne_l (by first | exact q_60c9feeee ha1 | omega))).trans (hid kn_19))
        have h_55 : (up c_12 s (a1 + 24) 0) s (4 * k9 + 2) = x2 := (congrArg ((up c_12 s (a1 + 24) 0) s) (show 4 * k9 + 2 = 4 * a1 + 2 from congrArg (fun z : Int => 4 * z + 2) e_52)).trans ((up_n (ne_l (by first | exact q_27ec1b4d7 ha1 | omega))).trans (hid kn_20))
        have h_56 : (up c_12 s (a1 + 24) 0) s (4 * k9 + 3) = c_12 s (4 * a1 + 3) := (congrArg ((up c_12 s (a1 + 24) 0) s) (show 4 * k9 + 3 = 4 * a1 + 3 from congrArg (fun z : Int => 4 * z + 3) e_52)).trans (up_n (ne_l (by first | exact q_fd9aac8f8 ha1 | omega)))
        exact sm4 h_53 h_54 h_55 h_56 (by first | exact q_5fd6c987e h_21 | omega)
      by_cases e_57 : k9 = a2
      · skip
        have kn_58 : Hid (c_12 s (4 * a2) = u0) := (hF_14 s (4 * a2) (fun q => q.elim (fun h => absurd h.2 (by first | exact q_8ac71c5f3 | omega)) (fun q => q.elim (fun h => absurd h.2 (ne_l (by first | exact q_fb9abb0e1 | omega))) (fun h => absurd h.2 (ne_l (by first | exact q_788f4b81f ha2 | omega)))))).trans (hv4)
        have h_59 : (up c_12 s (a1 + 24) 0) s (4 * k9) = u0 := (congrArg ((up c_12 s (a1 + 24) 0) s) (show 4 * k9 = 4 * a2 from congrArg (fun z : Int => 4 * z) e_57)).trans ((up_n (ne_l (by first | exact q_4128697c9 ha1 ha2 | omega))).trans (hid kn_58))
        have kn_60 : Hid (c_12 s (4 * a2 + 1) = u1) := (hF_14 s (4 * a2 + 1) (fun q => q.elim (fun h => absurd h.2 (by first | exact q_7c6b1b09a | omega)) (fun q => q.elim (fun h => absurd h.2 (ne_l (by first | exact q_4e2243c37 | omega))) (fun h => absurd h.2 (ne_l (by first | exact q_60c9feeee ha2 | omega)))))).trans (hv5)
        have h_61 : (up c_12 s (a1 + 24) 0) s (4 * k9 + 1) = u1 := (congrArg ((up c_12 s (a1 + 24) 0) s) (show 4 * k9 + 1 = 4 * a2 + 1 from congrArg (fun z : Int => 4 * z + 1) e_57)).trans ((up_n (ne_l (by first | exact q_8f2481ba6 ha1 ha2 | omega))).trans (hid kn_60))
        have kn_62 : Hid (c_12 s (4 * a2 + 2) = u2) := (hF_14 s (4 * a2 + 2) (fun q => q.elim (fun h => absurd h.2 (by first | exact q_91c5bd343 | omega)) (fun q => q.elim (fun h => absurd h.2 (ne_l (by first | exact q_693f489f1 | omega))) (fun h => absurd h.2 (ne_l (by first | exact q_27ec1b4d7 ha2 | omega)))))).trans (hv6)
        have h_63 : (up c_12 s (a1 + 24) 0) s (4 * k9 + 2) = u2 := (congrArg ((up c_12 s (a1 + 24) 0) s) (show 4 * k9 + 2 = 4 * a2 + 2 from congrArg (fun z : Int => 4 * z + 2) e_57)).trans ((up_n (ne_l (by first | exact q_04ab4010a ha1 ha2 | omega))).trans (hid kn_62))
        have h_64 : (up c_12 s (a1 + 24) 0) s (4 * k9 + 3) = c_12 s (4 * a2 + 3) := (congrArg ((up c_12 s (a1 + 24) 0) s) (show 4 * k9 + 3 = 4 * a2 + 3 from congrArg (fun z : Int => 4 * z + 3) e_57)).trans (up_n (ne_l (by first | exact q_e782b8c3c ha1 ha2 | omega)))
        exact sm4 h_59 h_61 h_63 h_64 (by first | (clear ha1 ha2 ha4 hq2 h_1 hv0 h_2 hv1 h_3 hv2 h_4 hv3 h_5 hv4 h_6 hv5 h_7 hv6 h_8 hv7 h_16 h_17 h_21 hk9 e_57 hq0 e_52; omega) | omega)
      have h_65 := hqo (4 * k9) hj9 (by omega) (by omega)
      have h_66 := ir_s_g hI hs (j := 4 * k9) (by first | exact q_9f1d5ffdc hk9 | omega)
      have kn_67 : Hid (c_12 s (4 * k9) = c s (4 * k9)) := hF_14 s (4 * k9) (fun q => q.elim (fun h => absurd h.2 (by first | exact q_8ac71c5f3 | omega)) (fun q => q.elim (fun h => absurd h.2 (by first | exact q_8ac71c5f3 | omega)) (fun h => absurd h.2 (ne_l (by first | exact q_4128697c9 ha2 hk9 | omega)))))
      have h_68 : (up c_12 s (a1 + 24) 0) s (4 * k9) = c s (4 * k9) := ((up_n (ne_l (by first | exact q_4128697c9 ha1 hk9 | omega))).trans (hid kn_67))
      have h_69 := ir_s_g hI hs (j := 4 * k9 + 1) (by first | exact q_0a2ee6f8f hk9 | omega)
      have kn_70 : Hid (c_12 s (4 * k9 + 1) = c s (4 * k9 + 1)) := hF_14 s (4 * k9 + 1) (fun q => q.elim (fun h => absurd h.2 (by first | exact q_7c6b1b09a | omega)) (fun q => q.elim (fun h => absurd h.2 (by first | exact q_7c6b1b09a | omega)) (fun h => absurd h.2 (ne_l (by first | exact q_8f2481ba6 ha2 hk9 | omega)))))
      have h_71 : (up c_12 s (a1 + 24) 0) s (4 * k9 + 1) = c s (4 * k9 + 1) := ((up_n (ne_l (by first | exact q_8f2481ba6 ha1 hk9 | omega))).trans (hid kn_70))
      have h_72 := ir_s_g hI hs (j := 4 * k9 + 2) (by first | exact q_e07a293a2 hk9 | omega)
      have kn_73 : Hid (c_12 s (4 * k9 + 2) = c s (4 * k9 + 2)) := hF_14 s (4 * k9 + 2) (fun q => q.elim (fun h => absurd h.2 (by first | exact q_91c5bd343 | omega)) (fun q => q.elim (fun h => absurd h.2 (by first | exact q_91c5bd343 | omega)) (fun h => absurd h.2 (ne_l (by first | exact q_04ab4010a ha2 hk9 | omega)))))
      have h_74 : (up c_12 s (a1 + 24) 0) s (4 * k9 + 2) = c s (4 * k9 + 2) := ((up_n (ne_l (by first | exact q_04ab4010a ha1 hk9 | omega))).trans (hid kn_73))
      have h_75 := ir_s_g hI hs (j := 4 * k9 + 3) (by first | exact q_d09cb0b73 hk9 | omega)
      have kn_76 : Hid (c_12 s (4 * k9 + 3) = c s (4 * k9 + 3)) := hF_14 s (4 * k9 + 3) (fun q => q.elim (fun h => absurd h.2 (by first | exact q_2db9f474b e_52 | omega)) (fun q => q.elim (fun h => absurd h.2 (by first | exact q_2db9f474b e_57 | omega)) (fun h => absurd h.2 (ne_l (by first | exact q_e782b8c3c ha2 hk9 | omega)))))
      have h_77 : (up c_12 s (a1 + 24) 0) s (4 * k9 + 3) = c s (4 * k9 + 3) := ((up_n (ne_l (by first | exact q_e782b8c3c ha1 hk9 | omega))).trans (hid kn_76))
      omega
    have hI_78 := iv_close hI_50 hr_51
    exact K (up c_12 s (a1 + 24) 0) 1 hI_78 (fun a j hm => (up_b (Decidable.or_iff_not_imp_left.mpr (fun h1 h2 => hm (Decidable.not_not.mp h1)))).trans (hF_14 a j (fun q => q.elim (fun h => hm h.1) (fun q => q.elim (fun h => hm h.1) (fun h => hm h.1))))) ⟨by decide, by decide⟩
set_option maxRecDepth 100000 in
set_option maxHeartbeats 4000000 in
theorem s_54_2 {sc : List Int32} {d P Q sh s : Nat} {c : ME} {x0 x1 x2 x3 u0 u1 u2 u3 : Int} {a1 : Int} {a2 : Int} {a4 : Int} {Z : AR → Prop} (hI : Iv s (-1) P Q c) (hs : (sh = 37 ∧ s = 38) ∨ (sh = 39 ∧ s = 40)) (ha1 : 0 ≤ a1 ∧ a1 ≤ 5) (ha2 : 0 ≤ a2 ∧ a2 ≤ 5) (ha4 : 0 ≤ a4 ∧ a4 ≤ 99999) (hq0 : (a1 < a2) ∨ (a1 > a2)) (hq1 : (a4 + u0 + u1 + u2 + u3 ≤ 9999)) (hq2 : (x0 + x1 + x2 + x3 ≤ 9999)) (hq3 : ∀ j : Int, rs s j → ¬ j = 4 * a1 → ¬ j = 4 * a2 → c s j + c s (j + 1) + c s (j + 2) + c s (j + 3) ≤ 9999) (hv0 : c s (4 * a1) = x0) (hv1 : c s (4 * a1 + 1) = x1) (hv2 : c s (4 * a1 + 2) = x2) (hv3 : c s (4 * a1 + 3) = x3) (hv4 : c s (4 * a2) = u0) (hv5 : c s (4 * a2 + 1) = u1) (hv6 : c s (4 * a2 + 2) = u2) (hv7 : c s (4 * a2 + 3) = u3) (K : ∀ (c2 : ME) (y : Int), Iv 0 (-1) P Q c2 → (∀ (a : Nat) (j : Int), ¬ (a = s) → c2 a j = c a j) → 0 ≤ y ∧ y ≤ 1 → Z (.inl (some (vi y)), Wd P Q P P c2, 0, 0)) : Wp sc (d + 9) 54 31 [(0, .ref sh), (1, vi a1), (2, vi a2), (4, vi a4), (5, vi 2)] [] (Wd P Q P P c) 0 0 Z := by
  have hP := iv_P hI
  have hQ := iv_Q hI
  have h_1 := ir_s_g hI hs (j := 4 * a1) (by first | exact q_9f1d5ffdc ha1 | omega)
  have h_2 := ir_s_g hI hs (j := 4 * a1 + 1) (by first | exact q_0a2ee6f8f ha1 | omega)
  have h_3 := ir_s_g hI hs (j := 4 * a1 + 2) (by first | exact q_e07a293a2 ha1 | omega)
  have h_4 := ir_s_g hI hs (j := 4 * a1 + 3) (by first | exact q_d09cb0b73 ha1 | omega)
  have h_5 := ir_s_g hI hs (j := 4 * a2) (by first | exact q_9f1d5ffdc ha2 | omega)
  have h_6 := ir_s_g hI hs (j := 4 * a2 + 1) (by first | exact q_0a2ee6f8f ha2 | omega)
  have h_7 := ir_s_g hI hs (j := 4 * a2 + 2) (by first | exact q_e07a293a2 ha2 | omega)
  have h_8 := ir_s_g hI hs (j := 4 * a2 + 3) (by first | exact q_d09cb0b73 ha2 | omega)
  have hqo := hq3
  refine q_iload c_54_31 rfl (q_iconst c_54_33 (v_ic_ge_f (t := 74) c_54_34 rfl (by decide) (q_iload c_54_37 rfl (q_aload_n c_54_39 rfl (q_iload_n c_54_40 rfl (q_iload c_54_41 rfl (v_cv c_54_43 km_4_34 rfl (ck_sh hs) (a68sh hs) ⟨⟨rfl, rfl⟩, by decide, rfl⟩ (nb_ rfl) (nb_ rfl) (s_45 (v1 := x2) (r := x2) (a1 := a1) (a2 := 2) hI hs (show 0 ≤ a1 ∧ a1 ≤ 5 from ha1) (show 0 ≤ 2 ∧ 2 ≤ 3 from ⟨by decide, by decide⟩) ((hv2)) (by omega) ?_))))))))
  refine bk_inl (v_minp c_54_46 rfl (by omega) (nb_ rfl) ⟨by omega, by omega, by omega, by omega⟩ (fun y_9 hy_9 => (q_istore c_54_49 (nb_ rfl) (q_aload_n c_54_51 rfl (q_iload_n c_54_52 rfl (q_iload_n c_54_53 rfl (q_iload c_54_54 rfl (q_iload c_54_56 rfl ?_))))))))
  have h_10 : c s (4 * a1 + 2) = x2 := (hv2)
  have h_11 : c s (4 * a2 + 2) = u2 := (hv6)
  refine v_cv c_54_58 km_4_85 rfl (ck_sh hs) (a68sh hs) ⟨⟨rfl, rfl⟩, by decide, rfl⟩ (nb_ rfl) (nb_ rfl) (s_52 (a1 := a1) (a2 := a2) (a3 := 2) (a4 := y_9) hI hs (show 0 ≤ a1 ∧ a1 ≤ 5 from ha1) (show 0 ≤ a2 ∧ a2 ≤ 5 from ha2) (show 0 ≤ 2 ∧ 2 ≤ 3 from ⟨by decide, by decide⟩) (show 0 ≤ y_9 ∧ y_9 ≤ 9999 from ⟨by first | (clear ha1 ha2 ha4 hq1 hq2 h_1 hv0 h_2 hv1 h_3 hv2 h_4 hv3 h_5 hv4 h_6 hv5 h_7 hv6 h_8 hv7 hq0; omega) | omega, by first | (clear ha1 ha2 ha4 hq1 hq2 h_1 hv0 h_2 hv1 h_4 hv3 h_5 hv4 h_6 hv5 h_7 hv6 h_8 hv7 hq0; omega) | omega⟩) (by omega) (by first | (clear ha1 ha2 ha4 hq1 hq2 h_1 hv0 h_2 hv1 h_3 hv2 h_4 hv3 h_5 hv4 h_6 hv5 h_7 hv6 h_8 hv7 hq0; omega) | omega) (by first | (clear ha1 ha2 ha4 hq2 h_1 hv0 h_2 hv1 h_3 hv2 h_4 hv3 h_7 hv6 hq0; omega) | omega) (fun c_12 hI_13 hF_14 h_15 => (bk_inl ?_)))
  have h_16 := ir_s_g hI_13 hs (j := 4 * a1 + 2) (by first | exact q_e07a293a2 ha1 | omega)
  have h_17 := ir_s_g hI_13 hs (j := 4 * a2 + 2) (by first | exact q_e07a293a2 ha2 | omega)
  refine q_iload c_54_61 rfl (q_iload c_54_63 rfl (v_isub (v := a4 - y_9) c_54_65 rfl (q_istore c_54_66 (nb_ rfl) (v_iinc (v := 3) c_54_68 rfl (nb_ rfl) (by decide) (q_goto (t := 31) c_54_71 rfl ?_)))))
  have kn_18 : Hid (c_12 s (4 * a1) = x0) := (hF_14 s (4 * a1) (fun q => q.elim (fun h => absurd h.2 (ne_l (by first | exact q_1cdd15b2c | omega))) (fun q => q.elim (fun h => absurd h.2 (by first | exact q_c037f51da | omega)) (fun h => absurd h.2 (ne_l (by first | exact q_2b13428e8 ha1 ha2 | omega)))))).trans (hv0)
  have kn_19 : Hid (c_12 s (4 * a1 + 1) = x1) := (hF_14 s (4 * a1 + 1) (fun q => q.elim (fun h => absurd h.2 (ne_l (by first | exact q_af9ea9c7d | omega))) (fun q => q.elim (fun h => absurd h.2 (by first | exact q_3650b790c | omega)) (fun h => absurd h.2 (ne_l (by first | exact q_3178328df ha1 ha2 | omega)))))).trans (hv1)
  have kn_20 : Hid (c_12 s (4 * a1 + 3) = x3) := (hF_14 s (4 * a1 + 3) (fun q => q.elim (fun h => absurd h.2 (ne_g (by first | exact q_693f489f1 | omega))) (fun q => q.elim (fun h => absurd h.2 (by first | exact q_28d70e8e5 | omega)) (fun h => absurd h.2 (ne_l (by first | exact q_2771393a8 ha1 ha2 | omega)))))).trans (hv3)
  have kn_21 : Hid (c_12 s (4 * a2) = u0) := (hF_14 s (4 * a2) (fun q => q.elim (fun h => absurd h.2 (by first | exact q_c037f51da | omega)) (fun q => q.elim (fun h => absurd h.2 (ne_l (by first | exact q_1cdd15b2c | omega))) (fun h => absurd h.2 (ne_l (by first | exact q_788f4b81f ha2 | omega)))))).trans (hv4)
  have kn_22 : Hid (c_12 s (4 * a2 + 1) = u1) := (hF_14 s (4 * a2 + 1) (fun q => q.elim (fun h => absurd h.2 (by first | exact q_3650b790c | omega)) (fun q => q.elim (fun h => absurd h.2 (ne_l (by first | exact q_af9ea9c7d | omega))) (fun h => absurd h.2 (ne_l (by first | exact q_60c9feeee ha2 | omega)))))).trans (hv5)
  have kn_23 : Hid (c_12 s (4 * a2 + 3) = u3) := (hF_14 s (4 * a2 + 3) (fun q => q.elim (fun h => absurd h.2 (by first | exact q_28d70e8e5 | omega)) (fun q => q.elim (fun h => absurd h.2 (ne_g (by first | exact q_693f489f1 | omega))) (fun h => absurd h.2 (ne_l (by first | exact q_fd9aac8f8 ha2 | omega)))))).trans (hv7)
  have hqo_24 : ∀ j : Int, rs s j → ¬ j = 4 * a1 → ¬ j = 4 * a2 → c_12 s j + c_12 s (j + 1) + c_12 s (j + 2) + c_12 s (j + 3) ≤ 9999 := by
    intro j9 hj9 hz0 hz1
    obtain ⟨k9, rfl, hk9⟩ := rs_s hs hj9
    have h_25 := hqo (4 * k9) hj9 (by omega) (by omega)
    have h_26 := ir_s_g hI hs (j := 4 * k9) (by first | exact q_9f1d5ffdc hk9 | omega)
    have kn_27 : Hid (c_12 s (4 * k9) = c s (4 * k9)) := hF_14 s (4 * k9) (fun q => q.elim (fun h => absurd h.2 (by first | exact q_c037f51da | omega)) (fun q => q.elim (fun h => absurd h.2 (by first | exact q_c037f51da | omega)) (fun h => absurd h.2 (ne_l (by first | exact q_4128697c9 ha2 hk9 | omega)))))
    have h_28 : c_12 s (4 * k9) = c s (4 * k9) := (hid kn_27)
    have h_29 := ir_s_g hI hs (j := 4 * k9 + 1) (by first | exact q_0a2ee6f8f hk9 | omega)
    have kn_30 : Hid (c_12 s (4 * k9 + 1) = c s (4 * k9 + 1)) := hF_14 s (4 * k9 + 1) (fun q => q.elim (fun h => absurd h.2 (by first | exact q_3650b790c | omega)) (fun q => q.elim (fun h => absurd h.2 (by first | exact q_3650b790c | omega)) (fun h => absurd h.2 (ne_l (by first | exact q_8f2481ba6 ha2 hk9 | omega)))))
    have h_31 : c_12 s (4 * k9 + 1) = c s (4 * k9 + 1) := (hid kn_30)
    have h_32 := ir_s_g hI hs (j := 4 * k9 + 2) (by first | exact q_e07a293a2 hk9 | omega)
    have kn_33 : Hid (c_12 s (4 * k9 + 2) = c s (4 * k9 + 2)) := hF_14 s (4 * k9 + 2) (fun q => q.elim (fun h => absurd h.2 (by first | (clear ha1 ha2 ha4 hq1 hq2 h_1 hv0 h_2 hv1 h_3 hv2 h_4 hv3 h_5 hv4 h_6 hv5 h_7 hv6 h_8 hv7 h_16 h_17 h_15 hk9 h_26 h_29 h_32 hq0; omega) | omega)) (fun q => q.elim (fun h => absurd h.2 (by first | (clear ha1 ha2 ha4 hq1 hq2 h_1 hv0 h_2 hv1 h_3 hv2 h_4 hv3 h_5 hv4 h_6 hv5 h_7 hv6 h_8 hv7 h_16 h_17 h_15 hk9 h_26 h_29 h_32 hq0; omega) | omega)) (fun h => absurd h.2 (ne_l (by first | exact q_04ab4010a ha2 hk9 | omega)))))
    have h_34 : c_12 s (4 * k9 + 2) = c s (4 * k9 + 2) := (hid kn_33)
    have h_35 := ir_s_g hI hs (j := 4 * k9 + 3) (by first | exact q_d09cb0b73 hk9 | omega)
    have kn_36 : Hid (c_12 s (4 * k9 + 3) = c s (4 * k9 + 3)) := hF_14 s (4 * k9 + 3) (fun q => q.elim (fun h => absurd h.2 (by first | exact q_28d70e8e5 | omega)) (fun q => q.elim (fun h => absurd h.2 (by first | exact q_28d70e8e5 | omega)) (fun h => absurd h.2 (ne_l (by first | exact q_e782b8c3c ha2 hk9 | omega)))))
    have h_37 : c_12 s (4 * k9 + 3) = c s (4 * k9 + 3) := (hid kn_36)
    omega
  refine Wp_ls [(0, .ref sh), (1, vi a1), (2, vi a2), (4, vi (a4 - y_9)), (5, vi 3)] (lsub_cons rfl (lsub_cons rfl (lsub_cons rfl (lsub_cons rfl (lsub_cons rfl lsub_nil))))) ?_
  exact s_54_3 (x0 := x0) (x1 := x1) (x2 := c_12 s (4 * a1 + 2)) (x3 := x3) (u0 := u0) (u1 := u1) (u2 := c_12 s (4 * a2 + 2)) (u3 := u3) (a4 := a4 - y_9) hI_13 hs (by omega) (by omega) (by omega) (by omega) (by omega) (by omega) hqo_24 ((hid kn_18)) ((hid kn_19)) rfl ((hid kn_20)) ((hid kn_21)) ((hid kn_22)) rfl ((hid kn_23)) (fun c9 y9 hI9 hF9 hy9 => K c9 y9 hI9 (fun a j hm => (hF9 a j (by omega)).trans (hF_14 a j (by omega))) hy9)
set_option maxRecDepth 100000 in
set_option maxHeartbeats 4000000 in
theorem s_54_1 {sc : List Int32} {d P Q sh s : Nat} {c : ME} {x0 x1 x2 x3 u0 u1 u2 u3 : Int} {a1 : Int} {a2 : Int} {a4 : Int} {Z : AR → Prop} (hI : Iv s (-1) P Q c) (hs : (sh = 37 ∧ s = 38) ∨ (sh = 39 ∧ s = 40)) (ha1 : 0 ≤ a1 ∧ a1 ≤ 5) (ha2 : 0 ≤ a2 ∧ a2 ≤ 5) (ha4 : 0 ≤ a4 ∧ a4 ≤ 99999) (hq0 : (a1 < a2) ∨ (a1 > a2)) (hq1 : (a4 + u0 + u1 + u2 + u3 ≤ 9999)) (hq2 : (x0 + x1 + x2 + x3 ≤ 9999)) (hq3 : ∀ j : Int, rs s j → ¬ j = 4 * a1 → ¬ j = 4 * a2 → c s j + c s (j + 1) + c s (j + 2) + c s (j + 3) ≤ 9999) (hv0 : c s (4 * a1) = x0) (hv1 : c s (4 * a1 + 1) = x1) (hv2 : c s (4 * a1 + 2) = x2) (hv3 : c s (4 * a1 + 3) = x3) (hv4 : c s (4 * a2) = u0) (hv5 : c s (4 * a2 + 1) = u1) (hv6 : c s (4 * a2 + 2) = u2) (hv7 : c s (4 * a2 + 3) = u3) (K : ∀ (c2 : ME) (y : Int), Iv 0 (-1) P Q c2 → (∀ (a : Nat) (j : Int), ¬ (a = s) → c2 a j = c a j) → 0 ≤ y ∧ y ≤ 1 → Z (.inl (some (vi y)), Wd P Q P P c2, 0, 0)) : Wp sc (d + 9) 54 31 [(0, .ref sh), (1, vi a1), (2, vi a2), (4, vi a4), (5, vi 1)] [] (Wd P Q P P c) 0 0 Z := by
  have hP := iv_P hI
  have hQ := iv_Q hI
  have h_1 := ir_s_g hI hs (j := 4 * a1) (by first | exact q_9f1d5ffdc ha1 | omega)
  have h_2 := ir_s_g hI hs (j := 4 * a1 + 1) (by first | exact q_0a2ee6f8f ha1 | omega)
  have h_3 := ir_s_g hI hs (j := 4 * a1 + 2) (by first | exact q_e07a293a2 ha1 | omega)
  have h_4 := ir_s_g hI hs (j := 4 * a1 + 3) (by first | exact q_d09cb0b73 ha1 | omega)
  have h_5 := ir_s_g hI hs (j := 4 * a2) (by first | exact q_9f1d5ffdc ha2 | omega)
  have h_6 := ir_s_g hI hs (j := 4 * a2 + 1) (by first | exact q_0a2ee6f8f ha2 | omega)
  have h_7 := ir_s_g hI hs (j := 4 * a2 + 2) (by first | exact q_e07a293a2 ha2 | omega)
  have h_8 := ir_s_g hI hs (j := 4 * a2 + 3) (by first | exact q_d09cb0b73 ha2 | omega)
  have hqo := hq3
  refine q_iload c_54_31 rfl (q_iconst c_54_33 (v_ic_ge_f (t := 74) c_54_34 rfl (by decide) (q_iload c_54_37 rfl (q_aload_n c_54_39 rfl (q_iload_n c_54_40 rfl (q_iload c_54_41 rfl (v_cv c_54_43 km_4_34 rfl (ck_sh hs) (a68sh hs) ⟨⟨rfl, rfl⟩, by decide, rfl⟩ (nb_ rfl) (nb_ rfl) (s_45 (v1 := x1) (r := x1) (a1 := a1) (a2 := 1) hI hs (show 0 ≤ a1 ∧ a1 ≤ 5 from ha1) (show 0 ≤ 1 ∧ 1 ≤ 3 from ⟨by decide, by decide⟩) ((hv1)) (by omega) ?_))))))))
  refine bk_inl (v_minp c_54_46 rfl (by omega) (nb_ rfl) ⟨by omega, by omega, by omega, by omega⟩ (fun y_9 hy_9 => (q_istore c_54_49 (nb_ rfl) (q_aload_n c_54_51 rfl (q_iload_n c_54_52 rfl (q_iload_n c_54_53 rfl (q_iload c_54_54 rfl (q_iload c_54_56 rfl ?_))))))))
  have h_10 : c s (4 * a1 + 1) = x1 := (hv1)
  have h_11 : c s (4 * a2 + 1) = u1 := (hv5)
  refine v_cv c_54_58 km_4_85 rfl (ck_sh hs) (a68sh hs) ⟨⟨rfl, rfl⟩, by decide, rfl⟩ (nb_ rfl) (nb_ rfl) (s_52 (a1 := a1) (a2 := a2) (a3 := 1) (a4 := y_9) hI hs (show 0 ≤ a1 ∧ a1 ≤ 5 from ha1) (show 0 ≤ a2 ∧ a2 ≤ 5 from ha2) (show 0 ≤ 1 ∧ 1 ≤ 3 from ⟨by decide, by decide⟩) (show 0 ≤ y_9 ∧ y_9 ≤ 9999 from ⟨by first | (clear ha1 ha2 ha4 hq1 hq2 h_1 hv0 h_2 hv1 h_3 hv2 h_4 hv3 h_5 hv4 h_6 hv5 h_7 hv6 h_8 hv7 hq0; omega) | omega, by first | (clear ha1 ha2 ha4 hq1 hq2 h_1 hv0 h_3 hv2 h_4 hv3 h_5 hv4 h_6 hv5 h_7 hv6 h_8 hv7 hq0; omega) | omega⟩) (by omega) (by first | (clear ha1 ha2 ha4 hq1 hq2 h_1 hv0 h_2 hv1 h_3 hv2 h_4 hv3 h_5 hv4 h_6 hv5 h_7 hv6 h_8 hv7 hq0; omega) | omega) (by first | (clear ha1 ha2 ha4 hq2 h_1 hv0 h_2 hv1 h_3 hv2 h_4 hv3 h_6 hv5 hq0; omega) | omega) (fun c_12 hI_13 hF_14 h_15 => (bk_inl ?_)))
  have h_16 := ir_s_g hI_13 hs (j := 4 * a1 + 1) (by first | exact q_0a2ee6f8f ha1 | omega)
  have h_17 := ir_s_g hI_13 hs (j := 4 * a2 + 1) (by first | exact q_0a2ee6f8f ha2 | omega)
  refine q_iload c_54_61 rfl (q_iload c_54_63 rfl (v_isub (v := a4 - y_9) c_54_65 rfl (q_istore c_54_66 (nb_ rfl) (v_iinc (v := 2) c_54_68 rfl (nb_ rfl) (by decide) (q_goto (t := 31) c_54_71 rfl ?_)))))
  have kn_18 : Hid (c_12 s (4 * a1) = x0) := (hF_14 s (4 * a1) (fun q => q.elim (fun h => absurd h.2 (ne_l (by first | exact q_4994d6793 | omega))) (fun q => q.elim (fun h => absurd h.2 (by first | exact q_b2cb8bf87 | omega)) (fun h => absurd h.2 (ne_l (by first | exact q_2b13428e8 ha1 ha2 | omega)))))).trans (hv0)
  have kn_19 : Hid (c_12 s (4 * a1 + 2) = x2) := (hF_14 s (4 * a1 + 2) (fun q => q.elim (fun h => absurd h.2 (ne_g (by first | exact q_af9ea9c7d | omega))) (fun q => q.elim (fun h => absurd h.2 (by first | exact q_08c3d7060 | omega)) (fun h => absurd h.2 (ne_l (by first | exact q_428481d46 ha1 ha2 | omega)))))).trans (hv2)
  have kn_20 : Hid (c_12 s (4 * a1 + 3) = x3) := (hF_14 s (4 * a1 + 3) (fun q => q.elim (fun h => absurd h.2 (ne_g (by first | exact q_4e2243c37 | omega))) (fun q => q.elim (fun h => absurd h.2 (by first | exact q_6d5c6886e | omega)) (fun h => absurd h.2 (ne_l (by first | exact q_2771393a8 ha1 ha2 | omega)))))).trans (hv3)
  have kn_21 : Hid (c_12 s (4 * a2) = u0) := (hF_14 s (4 * a2) (fun q => q.elim (fun h => absurd h.2 (by first | exact q_b2cb8bf87 | omega)) (fun q => q.elim (fun h => absurd h.2 (ne_l (by first | exact q_4994d6793 | omega))) (fun h => absurd h.2 (ne_l (by first | exact q_788f4b81f ha2 | omega)))))).trans (hv4)
  have kn_22 : Hid (c_12 s (4 * a2 + 2) = u2) := (hF_14 s (4 * a2 + 2) (fun q => q.elim (fun h => absurd h.2 (by first | exact q_08c3d7060 | omega)) (fun q => q.elim (fun h => absurd h.2 (ne_g (by first | exact q_af9ea9c7d | omega))) (fun h => absurd h.2 (ne_l (by first | exact q_27ec1b4d7 ha2 | omega)))))).trans (hv6)
  have kn_23 : Hid (c_12 s (4 * a2 + 3) = u3) := (hF_14 s (4 * a2 + 3) (fun q => q.elim (fun h => absurd h.2 (by first | exact q_6d5c6886e | omega)) (fun q => q.elim (fun h => absurd h.2 (ne_g (by first | exact q_4e2243c37 | omega))) (fun h => absurd h.2 (ne_l (by first | exact q_fd9aac8f8 ha2 | omega)))))).trans (hv7)
  have hqo_24 : ∀ j : Int, rs s j → ¬ j = 4 * a1 → ¬ j = 4 * a2 → c_12 s j + c_12 s (j + 1) + c_12 s (j + 2) + c_12 s (j + 3) ≤ 9999 := by
    intro j9 hj9 hz0 hz1
    obtain ⟨k9, rfl, hk9⟩ := rs_s hs hj9
    have h_25 := hqo (4 * k9) hj9 (by omega) (by omega)
    have h_26 := ir_s_g hI hs (j := 4 * k9) (by first | exact q_9f1d5ffdc hk9 | omega)
    have kn_27 : Hid (c_12 s (4 * k9) = c s (4 * k9)) := hF_14 s (4 * k9) (fun q => q.elim (fun h => absurd h.2 (by first | exact q_b2cb8bf87 | omega)) (fun q => q.elim (fun h => absurd h.2 (by first | exact q_b2cb8bf87 | omega)) (fun h => absurd h.2 (ne_l (by first | exact q_4128697c9 ha2 hk9 | omega)))))
    have h_28 : c_12 s (4 * k9) = c s (4 * k9) := (hid kn_27)
    have h_29 := ir_s_g hI hs (j := 4 * k9 + 1) (by first | exact q_0a2ee6f8f hk9 | omega)
    have kn_30 : Hid (c_12 s (4 * k9 + 1) = c s (4 * k9 + 1)) := hF_14 s (4 * k9 + 1) (fun q => q.elim (fun h => absurd h.2 (by first | (clear ha1 ha2 ha4 hq1 hq2 h_1 hv0 h_2 hv1 h_3 hv2 h_4 hv3 h_5 hv4 h_6 hv5 h_7 hv6 h_8 hv7 h_16 h_17 h_15 hk9 h_26 h_29 hq0; omega) | omega)) (fun q => q.elim (fun h => absurd h.2 (by first | (clear ha1 ha2 ha4 hq1 hq2 h_1 hv0 h_2 hv1 h_3 hv2 h_4 hv3 h_5 hv4 h_6 hv5 h_7 hv6 h_8 hv7 h_16 h_17 h_15 hk9 h_26 h_29 hq0; omega) | omega)) (fun h => absurd h.2 (ne_l (by first | exact q_8f2481ba6 ha2 hk9 | omega)))))
    have h_31 : c_12 s (4 * k9 + 1) = c s (4 * k9 + 1) := (hid kn_30)
    have h_32 := ir_s_g hI hs (j := 4 * k9 + 2) (by first | exact q_e07a293a2 hk9 | omega)
    have kn_33 : Hid (c_12 s (4 * k9 + 2) = c s (4 * k9 + 2)) := hF_14 s (4 * k9 + 2) (fun q => q.elim (fun h => absurd h.2 (by first | exact q_08c3d7060 | omega)) (fun q => q.elim (fun h => absurd h.2 (by first | exact q_08c3d7060 | omega)) (fun h => absurd h.2 (ne_l (by first | exact q_04ab4010a ha2 hk9 | omega)))))
    have h_34 : c_12 s (4 * k9 + 2) = c s (4 * k9 + 2) := (hid kn_33)
    have h_35 := ir_s_g hI hs (j := 4 * k9 + 3) (by first | exact q_d09cb0b73 hk9 | omega)
    have kn_36 : Hid (c_12 s (4 * k9 + 3) = c s (4 * k9 + 3)) := hF_14 s (4 * k9 + 3) (fun q => q.elim (fun h => absurd h.2 (by first | exact q_6d5c6886e | omega)) (fun q => q.elim (fun h => absurd h.2 (by first | exact q_6d5c6886e | omega)) (fun h => absurd h.2 (ne_l (by first | exact q_e782b8c3c ha2 hk9 | omega)))))
    have h_37 : c_12 s (4 * k9 + 3) = c s (4 * k9 + 3) := (hid kn_36)
    omega
  refine Wp_ls [(0, .ref sh), (1, vi a1), (2, vi a2), (4, vi (a4 - y_9)), (5, vi 2)] (lsub_cons rfl (lsub_cons rfl (lsub_cons rfl (lsub_cons rfl (lsub_cons rfl lsub_nil))))) ?_
  exact s_54_2 (x0 := x0) (x1 := c_12 s (4 * a1 + 1)) (x2 := x2) (x3 := x3) (u0 := u0) (u1 := c_12 s (4 * a2 + 1)) (u2 := u2) (u3 := u3) (a4 := a4 - y_9) hI_13 hs (by omega) (by omega) (by omega) (by omega) (by omega) (by omega) hqo_24 ((hid kn_18)) rfl ((hid kn_19)) ((hid kn_20)) ((hid kn_21)) rfl ((hid kn_22)) ((hid kn_23)) (fun c9 y9 hI9 hF9 hy9 => K c9 y9 hI9 (fun a j hm => (hF9 a j (by omega)).trans (hF_14 a j (by omega))) hy9)
set_option maxRecDepth 100000 in
set_option maxHeartbeats 4000000 in
theorem s_54_0 {sc : List Int32} {d P Q sh s : Nat} {c : ME} {x0 x1 x2 x3 u0 u1 u2 u3 : Int} {a1 : Int} {a2 : Int} {a4 : Int} {Z : AR → Prop} (hI : Iv s (-1) P Q c) (hs : (sh = 37 ∧ s = 38) ∨ (sh = 39 ∧ s = 40)) (ha1 : 0 ≤ a1 ∧ a1 ≤ 5) (ha2 : 0 ≤ a2 ∧ a2 ≤ 5) (ha4 : 0 ≤ a4 ∧ a4 ≤ 99999) (hq0 : (a1 < a2) ∨ (a1 > a2)) (hq1 : (a4 + u0 + u1 + u2 + u3 ≤ 9999)) (hq2 : (x0 + x1 + x2 + x3 ≤ 9999)) (hq3 : ∀ j : Int, rs s j → ¬ j = 4 * a1 → ¬ j = 4 * a2 → c s j + c s (j + 1) + c s (j + 2) + c s (j + 3) ≤ 9999) (hv0 : c s (4 * a1) = x0) (hv1 : c s (4 * a1 + 1) = x1) (hv2 : c s (4 * a1 + 2) = x2) (hv3 : c s (4 * a1 + 3) = x3) (hv4 : c s (4 * a2) = u0) (hv5 : c s (4 * a2 + 1) = u1) (hv6 : c s (4 * a2 + 2) = u2) (hv7 : c s (4 * a2 + 3) = u3) (K : ∀ (c2 : ME) (y : Int), Iv 0 (-1) P Q c2 → (∀ (a : Nat) (j : Int), ¬ (a = s) → c2 a j = c a j) → 0 ≤ y ∧ y ≤ 1 → Z (.inl (some (vi y)), Wd P Q P P c2, 0, 0)) : Wp sc (d + 9) 54 31 [(0, .ref sh), (1, vi a1), (2, vi a2), (4, vi a4), (5, vi 0)] [] (Wd P Q P P c) 0 0 Z := by
  have hP := iv_P hI
  have hQ := iv_Q hI
  have h_1 := ir_s_g hI hs (j := 4 * a1) (by first | exact q_9f1d5ffdc ha1 | omega)
  have h_2 := ir_s_g hI hs (j := 4 * a1 + 1) (by first | exact q_0a2ee6f8f ha1 | omega)
  have h_3 := ir_s_g hI hs (j := 4 * a1 + 2) (by first | exact q_e07a293a2 ha1 | omega)
  have h_4 := ir_s_g hI hs (j := 4 * a1 + 3) (by first | exact q_d09cb0b73 ha1 | omega)
  have h_5 := ir_s_g hI hs (j := 4 * a2) (by first | exact q_9f1d5ffdc ha2 | omega)
  have h_6 := ir_s_g hI hs (j := 4 * a2 + 1) (by first | exact q_0a2ee6f8f ha2 | omega)
  have h_7 := ir_s_g hI hs (j := 4 * a2 + 2) (by first | exact q_e07a293a2 ha2 | omega)
  have h_8 := ir_s_g hI hs (j := 4 * a2 + 3) (by first | exact q_d09cb0b73 ha2 | omega)
  have hqo := hq3
  refine q_iload c_54_31 rfl (q_iconst c_54_33 (v_ic_ge_f (t := 74) c_54_34 rfl (by decide) (q_iload c_54_37 rfl (q_aload_n c_54_39 rfl (q_iload_n c_54_40 rfl (q_iload c_54_41 rfl (v_cv c_54_43 km_4_34 rfl (ck_sh hs) (a68sh hs) ⟨⟨rfl, rfl⟩, by decide, rfl⟩ (nb_ rfl) (nb_ rfl) (s_45 (v1 := x0) (r := x0) (a1 := a1) (a2 := 0) hI hs (show 0 ≤ a1 ∧ a1 ≤ 5 from ha1) (show 0 ≤ 0 ∧ 0 ≤ 3 from ⟨by decide, by decide⟩) ((congrArg (c s) (show 4 * a1 + 0 = 4 * a1 from by first | exact q_8baad3eb5 | assumption | exact Int.le_antisymm (by omega) (by omega))).trans (hv0)) (by omega) ?_))))))))
  refine bk_inl (v_minp c_54_46 rfl (by omega) (nb_ rfl) ⟨by omega, by omega, by omega, by omega⟩ (fun y_9 hy_9 => (q_istore c_54_49 (nb_ rfl) (q_aload_n c_54_51 rfl (q_iload_n c_54_52 rfl (q_iload_n c_54_53 rfl (q_iload c_54_54 rfl (q_iload c_54_56 rfl ?_))))))))
  have h_10 : c s (4 * a1) = x0 := (hv0)
  have h_11 : c s (4 * a1 + 0) = x0 := (congrArg (c s) (by first | assumption | exact Int.le_antisymm (by omega) (by omega))).trans (hv0)
  have h_12 : c s (4 * a2) = u0 := (hv4)
  have h_13 : c s (4 * a2 + 0) = u0 := (congrArg (c s) (by first | assumption | exact Int.le_antisymm (by omega) (by omega))).trans (hv4)
  refine v_cv c_54_58 km_4_85 rfl (ck_sh hs) (a68sh hs) ⟨⟨rfl, rfl⟩, by decide, rfl⟩ (nb_ rfl) (nb_ rfl) (s_52 (a1 := a1) (a2 := a2) (a3 := 0) (a4 := y_9) hI hs (show 0 ≤ a1 ∧ a1 ≤ 5 from ha1) (show 0 ≤ a2 ∧ a2 ≤ 5 from ha2) (show 0 ≤ 0 ∧ 0 ≤ 3 from ⟨by decide, by decide⟩) (show 0 ≤ y_9 ∧ y_9 ≤ 9999 from ⟨by first | (clear ha1 ha2 ha4 hq1 hq2 h_1 hv0 h_2 hv1 h_3 hv2 h_4 hv3 h_5 hv4 h_6 hv5 h_7 hv6 h_8 hv7 hq0; omega) | omega, by first | (clear ha1 ha2 ha4 hq1 hq2 h_2 hv1 h_3 hv2 h_4 hv3 h_5 hv4 h_6 hv5 h_7 hv6 h_8 hv7 hq0; omega) | omega⟩) (by omega) (by first | (clear ha1 ha2 ha4 hq1 hq2 h_1 hv0 h_2 hv1 h_3 hv2 h_4 hv3 h_5 hv4 h_6 hv5 h_7 hv6 h_8 hv7 hq0; omega) | omega) (by first | (clear ha1 ha2 ha4 hq2 h_1 hv0 h_2 hv1 h_3 hv2 h_4 hv3 h_5 hv4 hq0; omega) | omega) (fun c_14 hI_15 hF_16 h_17 => (bk_inl ?_)))
  have h_18 : c_14 s (4 * a1 + 0) = c_14 s (4 * a1) := congrArg (c_14 s) (by first | exact q_8baad3eb5 | assumption | exact Int.le_antisymm (by first | exact q_79744aec6 | omega) (by first | exact q_79744aec6 | omega))
  have h_19 := ir_s_g hI_15 hs (j := 4 * a1) (by first | exact q_9f1d5ffdc ha1 | omega)
  have h_20 : c_14 s (4 * a2 + 0) = c_14 s (4 * a2) := congrArg (c_14 s) (by first | exact q_8baad3eb5 | assumption | exact Int.le_antisymm (by first | exact q_79744aec6 | omega) (by first | exact q_79744aec6 | omega))
  have h_21 := ir_s_g hI_15 hs (j := 4 * a2) (by first | exact q_9f1d5ffdc ha2 | omega)
  refine q_iload c_54_61 rfl (q_iload c_54_63 rfl (v_isub (v := a4 - y_9) c_54_65 rfl (q_istore c_54_66 (nb_ rfl) (v_iinc (v := 1) c_54_68 rfl (nb_ rfl) (by decide) (q_goto (t := 31) c_54_71 rfl ?_)))))
  have kn_22 : Hid (c_14 s (4 * a1 + 1) = x1) := (hF_16 s (4 * a1 + 1) (fun q => q.elim (fun h => absurd h.2 (ne_g (by first | exact q_4994d6793 | omega))) (fun q => q.elim (fun h => absurd h.2 (by first | exact q_e5bcc673e | omega)) (fun h => absurd h.2 (ne_l (by first | exact q_3178328df ha1 ha2 | omega)))))).trans (hv1)
  have kn_23 : Hid (c_14 s (4 * a1 + 2) = x2) := (hF_16 s (4 * a1 + 2) (fun q => q.elim (fun h => absurd h.2 (ne_g (by first | exact q_1cdd15b2c | omega))) (fun q => q.elim (fun h => absurd h.2 (by first | exact q_ae83e86ba | omega)) (fun h => absurd h.2 (ne_l (by first | exact q_428481d46 ha1 ha2 | omega)))))).trans (hv2)
  have kn_24 : Hid (c_14 s (4 * a1 + 3) = x3) := (hF_16 s (4 * a1 + 3) (fun q => q.elim (fun h => absurd h.2 (ne_g (by first | exact q_fb9abb0e1 | omega))) (fun q => q.elim (fun h => absurd h.2 (by first | exact q_b6789388a | omega)) (fun h => absurd h.2 (ne_l (by first | exact q_2771393a8 ha1 ha2 | omega)))))).trans (hv3)
  have kn_25 : Hid (c_14 s (4 * a2 + 1) = u1) := (hF_16 s (4 * a2 + 1) (fun q => q.elim (fun h => absurd h.2 (by first | exact q_e5bcc673e | omega)) (fun q => q.elim (fun h => absurd h.2 (ne_g (by first | exact q_4994d6793 | omega))) (fun h => absurd h.2 (ne_l (by first | exact q_60c9feeee ha2 | omega)))))).trans (hv5)
  have kn_26 : Hid (c_14 s (4 * a2 + 2) = u2) := (hF_16 s (4 * a2 + 2) (fun q => q.elim (fun h => absurd h.2 (by first | exact q_ae83e86ba | omega)) (fun q => q.elim (fun h => absurd h.2 (ne_g (by first | exact q_1cdd15b2c | omega))) (fun h => absurd h.2 (ne_l (by first | exact q_27ec1b4d7 ha2 | omega)))))).trans (hv6)
  have kn_27 : Hid (c_14 s (4 * a2 + 3) = u3) := (hF_16 s (4 * a2 + 3) (fun q => q.elim (fun h => absurd h.2 (by first | exact q_b6789388a | omega)) (fun q => q.elim (fun h => absurd h.2 (ne_g (by first | exact q_fb9abb0e1 | omega))) (fun h => absurd h.2 (ne_l (by first | exact q_fd9aac8f8 ha2 | omega)))))).trans (hv7)
  have hqo_28 : ∀ j : Int, rs s j → ¬ j = 4 * a1 → ¬ j = 4 * a2 → c_14 s j + c_14 s (j + 1) + c_14 s (j + 2) + c_14 s (j + 3) ≤ 9999 := by
    intro j9 hj9 hz0 hz1
    obtain ⟨k9, rfl, hk9⟩ := rs_s hs hj9
    have h_29 := hqo (4 * k9) hj9 (by omega) (by omega)
    have h_30 := ir_s_g hI hs (j := 4 * k9) (by first | exact q_9f1d5ffdc hk9 | omega)
    have kn_31 : Hid (c_14 s (4 * k9) = c s (4 * k9)) := hF_16 s (4 * k9) (fun q => q.elim (fun h => absurd h.2 (by first | (clear ha1 ha2 ha4 hq1 hq2 h_1 hv0 h_2 hv1 h_3 hv2 h_4 hv3 h_5 hv4 h_6 hv5 h_7 hv6 h_8 hv7 h_19 h_21 h_17 hk9 h_30 hq0; omega) | omega)) (fun q => q.elim (fun h => absurd h.2 (by first | (clear ha1 ha2 ha4 hq1 hq2 h_1 hv0 h_2 hv1 h_3 hv2 h_4 hv3 h_5 hv4 h_6 hv5 h_7 hv6 h_8 hv7 h_19 h_21 h_17 hk9 h_30 hq0; omega) | omega)) (fun h => absurd h.2 (ne_l (by first | exact q_4128697c9 ha2 hk9 | omega)))))
    have h_32 : c_14 s (4 * k9) = c s (4 * k9) := (hid kn_31)
    have h_33 := ir_s_g hI hs (j := 4 * k9 + 1) (by first | exact q_0a2ee6f8f hk9 | omega)
    have kn_34 : Hid (c_14 s (4 * k9 + 1) = c s (4 * k9 + 1)) := hF_16 s (4 * k9 + 1) (fun q => q.elim (fun h => absurd h.2 (by first | exact q_e5bcc673e | omega)) (fun q => q.elim (fun h => absurd h.2 (by first | exact q_e5bcc673e | omega)) (fun h => absurd h.2 (ne_l (by first | exact q_8f2481ba6 ha2 hk9 | omega)))))
    have h_35 : c_14 s (4 * k9 + 1) = c s (4 * k9 + 1) := (hid kn_34)
    have h_36 := ir_s_g hI hs (j := 4 * k9 + 2) (by first | exact q_e07a293a2 hk9 | omega)
    have kn_37 : Hid (c_14 s (4 * k9 + 2) = c s (4 * k9 + 2)) := hF_16 s (4 * k9 + 2) (fun q => q.elim (fun h => absurd h.2 (by first | exact q_ae83e86ba | omega)) (fun q => q.elim (fun h => absurd h.2 (by first | exact q_ae83e86ba | omega)) (fun h => absurd h.2 (ne_l (by first | exact q_04ab4010a ha2 hk9 | omega)))))
    have h_38 : c_14 s (4 * k9 + 2) = c s (4 * k9 + 2) := (hid kn_37)
    have h_39 := ir_s_g hI hs (j := 4 * k9 + 3) (by first | exact q_d09cb0b73 hk9 | omega)
    have kn_40 : Hid (c_14 s (4 * k9 + 3) = c s (4 * k9 + 3)) := hF_16 s (4 * k9 + 3) (fun q => q.elim (fun h => absurd h.2 (by first | exact q_b6789388a | omega)) (fun q => q.elim (fun h => absurd h.2 (by first | exact q_b6789388a | omega)) (fun h => absurd h.2 (ne_l (by first | exact q_e782b8c3c ha2 hk9 | omega)))))
    have h_41 : c_14 s (4 * k9 + 3) = c s (4 * k9 + 3) := (hid kn_40)
    omega
  refine Wp_ls [(0, .ref sh), (1, vi a1), (2, vi a2), (4, vi (a4 - y_9)), (5, vi 1)] (lsub_cons rfl (lsub_cons rfl (lsub_cons rfl (lsub_cons rfl (lsub_cons rfl lsub_nil))))) ?_
  exact s_54_1 (x0 := c_14 s (4 * a1)) (x1 := x1) (x2 := x2) (x3 := x3) (u0 := c_14 s (4 * a2)) (u1 := u1) (u2 := u2) (u3 := u3) (a4 := a4 - y_9) hI_15 hs (by omega) (by omega) (by omega) (by omega) (by omega) (by omega) hqo_28 rfl ((hid kn_22)) ((hid kn_23)) ((hid kn_24)) rfl ((hid kn_25)) ((hid kn_26)) ((hid kn_27)) (fun c9 y9 hI9 hF9 hy9 => K c9 y9 hI9 (fun a j hm => (hF9 a j (by omega)).trans (hF_16 a j (by omega))) hy9)
set_option maxRecDepth 100000 in
set_option maxHeartbeats 4000000 in
theorem s_54 {sc : List Int32} {d P Q sh s : Nat} {c : ME} {a1 : Int} {a2 : Int} {a3 : Int} {Z : AR → Prop} (hI : Iv 0 (-1) P Q c) (hs : (sh = 37 ∧ s = 38) ∨ (sh = 39 ∧ s = 40)) (ha1 : 0 ≤ a1 ∧ a1 ≤ 5) (ha2 : 0 ≤ a2 ∧ a2 ≤ 5) (ha3 : 0 ≤ a3 ∧ a3 ≤ 99999) (K : ∀ (c2 : ME) (y : Int), Iv 0 (-1) P Q c2 → (∀ (a : Nat) (j : Int), ¬ (a = s) → c2 a j = c a j) → 0 ≤ y ∧ y ≤ 1 → Z (.inl (some (vi y)), Wd P Q P P c2, 0, 0)) : Wp sc (d + 9) 54 0 [(0, .ref sh), (1, vi a1), (2, vi a2), (3, vi a3)] [] (Wd P Q P P c) 0 0 Z := by
  have hP := iv_P hI
  have hQ := iv_Q hI
  have hIo : Iv s (-1) P Q c := iv_open hI
  have hsum_1 := ir_s_r hI hs (by omega) (j := a1) (by omega)
  have h_2 := ir_s_g hI hs (j := 4 * a1) (by first | exact q_9f1d5ffdc ha1 | omega)
  have h_3 := ir_s_g hI hs (j := 4 * a1 + 1) (by first | exact q_0a2ee6f8f ha1 | omega)
  have h_4 := ir_s_g hI hs (j := 4 * a1 + 2) (by first | exact q_e07a293a2 ha1 | omega)
  have h_5 := ir_s_g hI hs (j := 4 * a1 + 3) (by first | exact q_d09cb0b73 ha1 | omega)
  have hsum_6 := ir_s_r hI hs (by omega) (j := a2) (by omega)
  have h_7 := ir_s_g hI hs (j := 4 * a2) (by first | exact q_9f1d5ffdc ha2 | omega)
  have h_8 := ir_s_g hI hs (j := 4 * a2 + 1) (by first | exact q_0a2ee6f8f ha2 | omega)
  have h_9 := ir_s_g hI hs (j := 4 * a2 + 2) (by first | exact q_e07a293a2 ha2 | omega)
  have h_10 := ir_s_g hI hs (j := 4 * a2 + 3) (by first | exact q_d09cb0b73 ha2 | omega)
  refine q_iload_n c_54_0 rfl (q_iload_n c_54_1 rfl ?_)
  by_cases h_11 : a1 = a2
  · refine v_ic_eq_t (t := 23) c_54_2 rfl h_11 (q_iconst c_54_23 (v_zret c_54_24 rfl (by decide) ?_))
    exact K c 0 hI (fun a j hm => rfl) ⟨by decide, by decide⟩
  · refine v_ic_eq_f (t := 23) c_54_2 rfl ⟨h_11, ⟨(Int.le_trans (by decide) ha1.1), (Int.le_trans ha1.2 (by decide))⟩, (Int.le_trans (by decide) ha2.1), (Int.le_trans ha2.2 (by decide))⟩ (q_aload_n c_54_5 rfl (q_iload_n c_54_6 rfl (v_cv c_54_7 km_4_38 rfl (ck_sh hs) (a68sh hs) ⟨⟨rfl, rfl⟩, by decide, rfl⟩ (nb_ rfl) (nb_ rfl) (s_43 (v1 := c s (4 * a1)) (v2 := c s (4 * a1 + 1)) (v3 := c s (4 * a1 + 2)) (v4 := c s (4 * a1 + 3)) (r := c s (4 * a1 + 1) + c s (4 * a1 + 2) + c s (4 * a1 + 3) + c s (4 * a1)) (a1 := a1) hIo hs (show 0 ≤ a1 ∧ a1 ≤ 5 from ha1) (rfl) (rfl) (rfl) (rfl) (by omega) (bk_inl (q_iload_n c_54_10 rfl ?_))))))
    by_cases h_12 : c s (4 * a1 + 1) + c s (4 * a1 + 2) + c s (4 * a1 + 3) + c s (4 * a1) < a3
    · refine v_ic_lt_t (t := 23) c_54_11 rfl ⟨by first | exact q_e052ef40e h_2 h_3 h_4 h_5 | omega, h_12, (Int.le_trans ha3.2 (by decide))⟩ (q_iconst c_54_23 (v_zret c_54_24 rfl (by decide) ?_))
      exact K c 0 hI (fun a j hm => rfl) ⟨by decide, by decide⟩
    · refine v_ic_lt_f (t := 23) c_54_11 rfl ⟨(Int.le_trans (by decide) ha3.1), (Int.not_lt.mp h_12), by first | exact q_6719c4bfd hsum_1 | omega⟩ (q_aload_n c_54_14 rfl (q_iload_n c_54_15 rfl (q_iload_n c_54_16 rfl (v_cv c_54_17 km_4_81 rfl (ck_sh hs) (a68sh hs) ⟨⟨rfl, rfl⟩, by decide, rfl⟩ (nb_ rfl) (nb_ rfl) (q_aload_n c_50_0 rfl (q_iload_n c_50_1 rfl (v_cv c_50_2 km_4_38 rfl (ck_sh hs) (a68sh hs) ⟨⟨rfl, rfl⟩, by decide, rfl⟩ (nb_ rfl) (nb_ rfl) (s_43 (v1 := c s (4 * a2)) (v2 := c s (4 * a2 + 1)) (v3 := c s (4 * a2 + 2)) (v4 := c s (4 * a2 + 3)) (r := c s (4 * a2 + 1) + c s (4 * a2 + 2) + c s (4 * a2 + 3) + c s (4 * a2)) (a1 := a2) hIo hs (show 0 ≤ a2 ∧ a2 ≤ 5 from ha2) (rfl) (rfl) (rfl) (rfl) (by omega) ?_))))))))
      refine bk_inl (q_iload_n c_50_5 rfl (v_iadd (v := a3 + c s (4 * a2 + 1) + c s (4 * a2 + 2) + c s (4 * a2 + 3) + c s (4 * a2)) c_50_6 (by first | exact q_4ce869430 | omega) (v_sip c_50_7 (by decide) ?_)))
      by_cases h_13 : a3 + c s (4 * a2 + 1) + c s (4 * a2 + 2) + c s (4 * a2 + 3) + c s (4 * a2) > 9999
      · refine v_ic_gt_t (t := 17) c_50_10 rfl ⟨by decide, h_13, by first | exact q_5f45bd9da ha3 hsum_6 | omega⟩ (q_iconst c_50_17 (v_zret c_50_18 rfl (by decide) (bk_inl (v_if_ne_f (t := 25) c_54_20 rfl (by decide) (q_iconst c_54_23 (v_zret c_54_24 rfl (by decide) ?_))))))
        exact K c 0 hI (fun a j hm => rfl) ⟨by decide, by decide⟩
      · refine v_ic_gt_f (t := 17) c_50_10 rfl ⟨by first | exact q_62ebcb2f9 h_10 h_7 h_8 h_9 ha3 | omega, (Int.not_lt.mp h_13), by decide⟩ (q_iconst c_50_13 (q_goto (t := 18) c_50_14 rfl (v_zret c_50_18 rfl (by decide) (bk_inl (v_if_ne_t (t := 25) c_54_20 rfl (by decide) (q_iload_n c_54_25 rfl (q_istore c_54_26 (nb_ rfl) ?_)))))))
        refine q_iconst c_54_28 (q_istore c_54_29 (nb_ rfl) ?_)
        have hqo_14 : ∀ j : Int, rs s j → ¬ j = 4 * a1 → ¬ j = 4 * a2 → c s j + c s (j + 1) + c s (j + 2) + c s (j + 3) ≤ 9999 := by
          intro j9 hj9 hz0 hz1
          obtain ⟨k9, rfl, hk9⟩ := rs_s hs hj9
          have h_15 := iv_r hI s (4 * k9) hj9 (by omega)
          have h_16 := ir_s_g hI hs (j := 4 * k9) (by first | exact q_9f1d5ffdc hk9 | omega)
          have h_17 : c s (4 * k9) = c s (4 * k9) := rfl
          have h_18 := ir_s_g hI hs (j := 4 * k9 + 1) (by first | exact q_0a2ee6f8f hk9 | omega)
          have h_19 : c s (4 * k9 + 1) = c s (4 * k9 + 1) := rfl
          have h_20 := ir_s_g hI hs (j := 4 * k9 + 2) (by first | exact q_e07a293a2 hk9 | omega)
          have h_21 : c s (4 * k9 + 2) = c s (4 * k9 + 2) := rfl
          have h_22 := ir_s_g hI hs (j := 4 * k9 + 3) (by first | exact q_d09cb0b73 hk9 | omega)
          have h_23 : c s (4 * k9 + 3) = c s (4 * k9 + 3) := rfl
          omega
        refine Wp_ls [(0, .ref sh), (1, vi a1), (2, vi a2), (4, vi a3), (5, vi 0)] (lsub_cons rfl (lsub_cons rfl (lsub_cons rfl (lsub_cons rfl (lsub_cons rfl lsub_nil))))) ?_
        exact s_54_0 (x0 := c s (4 * a1)) (x1 := c s (4 * a1 + 1)) (x2 := c s (4 * a1 + 2)) (x3 := c s (4 * a1 + 3)) (u0 := c s (4 * a2)) (u1 := c s (4 * a2 + 1)) (u2 := c s (4 * a2 + 2)) (u3 := c s (4 * a2 + 3)) (a4 := a3) hIo hs (by omega) (by omega) (by omega) (by omega) (by omega) (by omega) hqo_14 rfl rfl rfl rfl rfl rfl rfl rfl (fun c9 y9 hI9 hF9 hy9 => K c9 y9 hI9 (fun a j hm => (hF9 a j (by omega)).trans (rfl)) hy9)
end
section
/-! ===== contracts 6 ===== -/
theorem q_db9ef1f4a {x0 x1 x2 x3 : Int} (f0 : 0 ≤ x0 ∧ x0 ≤ 9999) (f1 : 0 ≤ x1 ∧ x1 ≤ 9999) (f2 : 0 ≤ x2 ∧ x2 ≤ 9999) (f3 : 0 ≤ x3 ∧ x3 ≤ 9999) : x1 + x2 + x3 + x0 ≤ 2147483647 := by omega
theorem q_e98859194 {x0 x1 x2 x3 : Int} (f0 : ¬ (x0 + x1 + x2 + x3 ≤ 0)) : 0 ≤ x0 + x1 + x2 + x3 := by omega
theorem q_386a854c4 {x0 x1 x2 x3 : Int} (f0 : 0 ≤ x0 ∧ x0 ≤ 9999) (f1 : 0 ≤ x1 ∧ x1 ≤ 9999) (f2 : 0 ≤ x2 ∧ x2 ≤ 9999) (f3 : 0 ≤ x3 ∧ x3 ≤ 9999) : x1 + x2 + x3 + x0 ≤ 99999 := by omega
theorem c_55_0 : mLk 55 0 = some (.aload_n 0, 1) := rfl
theorem c_55_1 : mLk 55 1 = some (.iload_n 1, 1) := rfl
theorem c_55_2 : mLk 55 2 = some (.invokevirtual 38, 3) := rfl
theorem c_55_5 : mLk 55 5 = some (.istore_n 3, 1) := rfl
theorem c_55_6 : mLk 55 6 = some (.iload_n 3, 1) := rfl
theorem c_55_7 : mLk 55 7 = some (.ifCond .le 17, 3) := rfl
theorem c_55_24 : mLk 55 24 = some (.iconst 0, 1) := rfl
theorem c_55_25 : mLk 55 25 = some (.ireturn, 1) := rfl
theorem c_55_10 : mLk 55 10 = some (.aload_n 0, 1) := rfl
theorem c_55_11 : mLk 55 11 = some (.iload_n 1, 1) := rfl
theorem c_55_12 : mLk 55 12 = some (.iload_n 2, 1) := rfl
theorem c_55_13 : mLk 55 13 = some (.iload_n 3, 1) := rfl
theorem c_55_14 : mLk 55 14 = some (.invokevirtual 89, 3) := rfl
theorem c_55_17 : mLk 55 17 = some (.ifCond .eq 7, 3) := rfl
theorem c_55_20 : mLk 55 20 = some (.iconst 1, 1) := rfl
theorem c_55_21 : mLk 55 21 = some (.goto 4, 3) := rfl
theorem c_56_0 : mLk 56 0 = some (.iload_n 1, 1) := rfl
theorem c_56_1 : mLk 56 1 = some (.iconst 4, 1) := rfl
theorem c_56_2 : mLk 56 2 = some (.imul, 1) := rfl
theorem c_56_3 : mLk 56 3 = some (.istore_n 2, 1) := rfl
theorem c_56_4 : mLk 56 4 = some (.aload_n 0, 1) := rfl
theorem c_56_5 : mLk 56 5 = some (.getfield 15, 3) := rfl
theorem c_56_8 : mLk 56 8 = some (.getfield 42, 3) := rfl
theorem c_56_11 : mLk 56 11 = some (.aload_n 0, 1) := rfl
theorem c_56_12 : mLk 56 12 = some (.getfield 11, 3) := rfl
theorem c_56_15 : mLk 56 15 = some (.iload_n 2, 1) := rfl
theorem c_56_16 : mLk 56 16 = some (.iaload, 1) := rfl
theorem c_56_17 : mLk 56 17 = some (.aload_n 0, 1) := rfl
theorem c_56_18 : mLk 56 18 = some (.getfield 11, 3) := rfl
theorem c_56_21 : mLk 56 21 = some (.iload_n 2, 1) := rfl
theorem c_56_22 : mLk 56 22 = some (.iconst 1, 1) := rfl
theorem c_56_23 : mLk 56 23 = some (.iadd, 1) := rfl
theorem c_56_24 : mLk 56 24 = some (.iaload, 1) := rfl
theorem c_56_25 : mLk 56 25 = some (.aload_n 0, 1) := rfl
theorem c_56_26 : mLk 56 26 = some (.getfield 11, 3) := rfl
theorem c_56_29 : mLk 56 29 = some (.iload_n 2, 1) := rfl
theorem c_56_30 : mLk 56 30 = some (.iconst 2, 1) := rfl
theorem c_56_31 : mLk 56 31 = some (.iadd, 1) := rfl
theorem c_56_32 : mLk 56 32 = some (.iaload, 1) := rfl
theorem c_56_33 : mLk 56 33 = some (.aload_n 0, 1) := rfl
theorem c_56_34 : mLk 56 34 = some (.getfield 11, 3) := rfl
theorem c_56_37 : mLk 56 37 = some (.iload_n 2, 1) := rfl
theorem c_56_38 : mLk 56 38 = some (.iconst 3, 1) := rfl
theorem c_56_39 : mLk 56 39 = some (.iadd, 1) := rfl
theorem c_56_40 : mLk 56 40 = some (.iaload, 1) := rfl
theorem c_56_41 : mLk 56 41 = some (.aload_n 0, 1) := rfl
theorem c_56_42 : mLk 56 42 = some (.iload_n 1, 1) := rfl
theorem c_56_43 : mLk 56 43 = some (.invokevirtual 46, 3) := rfl
theorem c_56_46 : mLk 56 46 = some (.aload_n 0, 1) := rfl
theorem c_56_47 : mLk 56 47 = some (.getfield 11, 3) := rfl
theorem c_56_50 : mLk 56 50 = some (.bipush 31, 2) := rfl
theorem c_56_52 : mLk 56 52 = some (.iaload, 1) := rfl
theorem c_56_53 : mLk 56 53 = some (.iload_n 1, 1) := rfl
theorem c_56_54 : mLk 56 54 = some (.invokevirtual 49, 3) := rfl
theorem c_56_57 : mLk 56 57 = some (.ireturn, 1) := rfl
theorem c_57_0 : mLk 57 0 = some (.aload_n 0, 1) := rfl
theorem c_57_1 : mLk 57 1 = some (.iload_n 1, 1) := rfl
theorem c_57_2 : mLk 57 2 = some (.invokevirtual 38, 3) := rfl
theorem c_57_5 : mLk 57 5 = some (.ifCond .le 17, 3) := rfl
theorem c_57_22 : mLk 57 22 = some (.iconst 0, 1) := rfl
theorem c_57_23 : mLk 57 23 = some (.ireturn, 1) := rfl
theorem c_57_8 : mLk 57 8 = some (.aload_n 0, 1) := rfl
theorem c_57_9 : mLk 57 9 = some (.iload_n 1, 1) := rfl
theorem c_57_10 : mLk 57 10 = some (.invokevirtual 55, 3) := rfl
theorem c_57_13 : mLk 57 13 = some (.bipush 50, 2) := rfl
theorem c_57_15 : mLk 57 15 = some (.if_icmp .lt 7, 3) := rfl
theorem c_57_18 : mLk 57 18 = some (.iconst 1, 1) := rfl
theorem c_57_19 : mLk 57 19 = some (.goto 4, 3) := rfl
theorem kf_4_42 : a_lk (kF 4) 42 = some (2, 12) := rfl
theorem km_4_49 : a_lk (kM 4) 49 = some (0, 20) := rfl
theorem km_4_55 : a_lk (kM 4) 55 = some (0, 56) := rfl
theorem km_4_89 : a_lk (kM 4) 89 = some (0, 54) := rfl
set_option maxRecDepth 100000 in
set_option maxHeartbeats 4000000 in
theorem s_55 {sc : List Int32} {d P Q sh s : Nat} {c : ME} {a1 : Int} {a2 : Int} {Z : AR → Prop} (hI : Iv 0 (-1) P Q c) (hs : (sh = 37 ∧ s = 38) ∨ (sh = 39 ∧ s = 40)) (ha1 : 0 ≤ a1 ∧ a1 ≤ 5) (ha2 : 0 ≤ a2 ∧ a2 ≤ 5) (K : ∀ (c2 : ME) (y : Int), Iv 0 (-1) P Q c2 → (∀ (a : Nat) (j : Int), ¬ (a = s) → c2 a j = c a j) → 0 ≤ y ∧ y ≤ 1 → Z (.inl (some (vi y)), Wd P Q P P c2, 0, 0)) : Wp sc (d + 10) 55 0 [(0, .ref sh), (1, vi a1), (2, vi a2)] [] (Wd P Q P P c) 0 0 Z := by
  have hP := iv_P hI
  have hQ := iv_Q hI
  refine q_aload_n c_55_0 rfl (q_iload_n c_55_1 rfl ?_)
  have h_1 := ir_s_g hI hs (j := 4 * a1) (by first | exact q_9f1d5ffdc ha1 | omega)
  have h_2 := ir_s_g hI hs (j := 4 * a1 + 1) (by first | exact q_0a2ee6f8f ha1 | omega)
  have h_3 := ir_s_g hI hs (j := 4 * a1 + 2) (by first | exact q_e07a293a2 ha1 | omega)
  have h_4 := ir_s_g hI hs (j := 4 * a1 + 3) (by first | exact q_d09cb0b73 ha1 | omega)
  refine v_cv c_55_2 km_4_38 rfl (ck_sh hs) (a68sh hs) ⟨⟨rfl, rfl⟩, by decide, rfl⟩ (nb_ rfl) (nb_ rfl) (s_43 (v1 := c s (4 * a1)) (v2 := c s (4 * a1 + 1)) (v3 := c s (4 * a1 + 2)) (v4 := c s (4 * a1 + 3)) (r := c s (4 * a1 + 1) + c s (4 * a1 + 2) + c s (4 * a1 + 3) + c s (4 * a1)) (a1 := a1) hI hs (show 0 ≤ a1 ∧ a1 ≤ 5 from ha1) (rfl) (rfl) (rfl) (rfl) (by omega) (bk_inl (q_istore_n c_55_5 (nb_ rfl) (q_iload_n c_55_6 rfl ?_))))
  by_cases h_5 : c s (4 * a1 + 1) + c s (4 * a1 + 2) + c s (4 * a1 + 3) + c s (4 * a1) ≤ 0
  · refine v_if_le_t (t := 24) c_55_7 rfl ⟨by first | exact q_e052ef40e h_1 h_2 h_3 h_4 | omega, h_5, by decide⟩ (q_iconst c_55_24 (v_zret c_55_25 rfl (by decide) ?_))
    exact K c 0 hI (fun a j hm => rfl) ⟨by decide, by decide⟩
  · refine v_if_le_f (t := 24) c_55_7 rfl ⟨by decide, (Int.not_le.mp h_5), by first | exact q_db9ef1f4a h_1 h_2 h_3 h_4 | omega⟩ (q_aload_n c_55_10 rfl (q_iload_n c_55_11 rfl (q_iload_n c_55_12 rfl (q_iload_n c_55_13 rfl (v_cv c_55_14 km_4_89 rfl (ck_sh hs) (a68sh hs) ⟨⟨rfl, rfl⟩, by decide, rfl⟩ (nb_ rfl) (nb_ rfl) (s_54 (a1 := a1) (a2 := a2) (a3 := c s (4 * a1 + 1) + c s (4 * a1 + 2) + c s (4 * a1 + 3) + c s (4 * a1)) hI hs (show 0 ≤ a1 ∧ a1 ≤ 5 from ha1) (show 0 ≤ a2 ∧ a2 ≤ 5 from ha2) (show 0 ≤ c s (4 * a1 + 1) + c s (4 * a1 + 2) + c s (4 * a1 + 3) + c s (4 * a1) ∧ c s (4 * a1 + 1) + c s (4 * a1 + 2) + c s (4 * a1 + 3) + c s (4 * a1) ≤ 99999 from ⟨by first | exact q_e98859194 h_5 | omega, by first | exact q_386a854c4 h_1 h_2 h_3 h_4 | omega⟩) (fun c_6 y_9 hI_7 hF_8 hy_9 => (bk_inl ?_))))))))
    by_cases h_10 : y_9 = 0
    · refine v_if_eq_t (t := 24) c_55_17 rfl h_10 (q_iconst c_55_24 (v_zret c_55_25 rfl (by decide) ?_))
      exact K c_6 0 hI_7 (fun a j hm => hF_8 a j hm) ⟨by decide, by decide⟩
    · refine v_if_eq_f (t := 24) c_55_17 rfl ⟨h_10, ⟨(Int.le_trans (by decide) hy_9.1), (Int.le_trans hy_9.2 (by decide))⟩, by decide, by decide⟩ (q_iconst c_55_20 (q_goto (t := 25) c_55_21 rfl (v_zret c_55_25 rfl (by decide) ?_)))
      exact K c_6 1 hI_7 (fun a j hm => hF_8 a j hm) ⟨by decide, by decide⟩

set_option maxRecDepth 100000 in
set_option maxHeartbeats 4000000 in
theorem s_56 {sc : List Int32} {e : Int} {d u P Q sh s : Nat} {c : ME} {a1 : Int} {Z : AR → Prop} (hI : Iv u e P Q c) (hs : (sh = 37 ∧ s = 38) ∨ (sh = 39 ∧ s = 40)) (ha1 : 0 ≤ a1 ∧ a1 ≤ 5) (K : ∀ (c2 : ME) (y : Int), Iv u e P Q c2 → (∀ (a : Nat) (j : Int), ¬ (a = (P + 10) ∨ a = (P + 11)) → c2 a j = c a j) → 0 ≤ y ∧ y ≤ 99 → Z (.inl (some (vi y)), Wd P Q P P c2, 0, 0)) : Wp sc (d + 9) 56 0 [(0, .ref sh), (1, vi a1)] [] (Wd P Q P P c) 0 0 Z := by
  have hP := iv_P hI
  have hQ := iv_Q hI
  refine q_iload_n c_56_0 rfl (q_iconst c_56_1 (v_imul (v := 4 * a1) c_56_2 (by first | exact q_a509a7ce7 | omega) (q_istore_n c_56_3 (nb_ rfl) (q_aload_n c_56_4 rfl (v_gr (t := P) c_56_5 kf_4_15 (ck_sh hs) (a68sh hs) rfl (v_gr (t := (P + 7)) c_56_8 kf_4_42 (ck_p0 hP) (a68z hP) rfl (q_aload_n c_56_11 rfl ?_)))))))
  refine v_gr (t := s) c_56_12 kf_4_11 (ck_sh hs) (a68sh hs) rfl (q_iload_n c_56_15 rfl ?_)
  have h_1 := ir_s_g hI hs (j := 4 * a1) (by first | exact q_9f1d5ffdc ha1 | omega)
  refine v_ia (v := c s (4 * a1)) c_56_16 (ck_s hs) (a68s hs) (by decide) ⟨by first | exact q_c065257af ha1 | omega, by first | exact q_b7e642788 ha1 | omega⟩ rfl (q_aload_n c_56_17 rfl (v_gr (t := s) c_56_18 kf_4_11 (ck_sh hs) (a68sh hs) rfl (q_iload_n c_56_21 rfl (q_iconst c_56_22 (v_iadd (v := 4 * a1 + 1) c_56_23 rfl ?_)))))
  have h_2 := ir_s_g hI hs (j := 4 * a1 + 1) (by first | exact q_0a2ee6f8f ha1 | omega)
  refine v_ia (v := c s (4 * a1 + 1)) c_56_24 (ck_s hs) (a68s hs) (by decide) ⟨by first | exact q_83fdbd35d ha1 | omega, by first | exact q_ee7209ea0 ha1 | omega⟩ rfl (q_aload_n c_56_25 rfl (v_gr (t := s) c_56_26 kf_4_11 (ck_sh hs) (a68sh hs) rfl (q_iload_n c_56_29 rfl (q_iconst c_56_30 (v_iadd (v := 4 * a1 + 2) c_56_31 rfl ?_)))))
  have h_3 := ir_s_g hI hs (j := 4 * a1 + 2) (by first | exact q_e07a293a2 ha1 | omega)
  refine v_ia (v := c s (4 * a1 + 2)) c_56_32 (ck_s hs) (a68s hs) (by decide) ⟨by first | exact q_0f37a0c6e ha1 | omega, by first | exact q_d136047ff ha1 | omega⟩ rfl (q_aload_n c_56_33 rfl (v_gr (t := s) c_56_34 kf_4_11 (ck_sh hs) (a68sh hs) rfl (q_iload_n c_56_37 rfl (q_iconst c_56_38 (v_iadd (v := 4 * a1 + 3) c_56_39 rfl ?_)))))
  have h_4 := ir_s_g hI hs (j := 4 * a1 + 3) (by first | exact q_d09cb0b73 ha1 | omega)
  refine v_ia (v := c s (4 * a1 + 3)) c_56_40 (ck_s hs) (a68s hs) (by decide) ⟨by first | exact q_f6be69137 ha1 | omega, by first | exact q_c79de31f2 ha1 | omega⟩ rfl (q_aload_n c_56_41 rfl (q_iload_n c_56_42 rfl (v_cv c_56_43 km_4_46 rfl (ck_sh hs) (a68sh hs) ⟨⟨rfl, rfl⟩, by decide, rfl⟩ (nb_ rfl) (nb_ rfl) (s_51 (a1 := a1) hI hs (show 0 ≤ a1 ∧ a1 ≤ 5 from ha1) (fun y_5 hy_5 => (bk_inl (q_aload_n c_56_46 rfl (v_gr (t := s) c_56_47 kf_4_11 (ck_sh hs) (a68sh hs) rfl (v_bip c_56_50 (by decide) ?_)))))))))
  have h_6 := ir_s hI hs 31
  refine v_ia (v := c s 31) c_56_52 (ck_s hs) (a68s hs) (by decide) (by decide) rfl (q_iload_n c_56_53 rfl (v_cv c_56_54 km_4_49 rfl (ck_p7 hP) (a68 hP rfl) ⟨⟨rfl, rfl⟩, by decide, rfl⟩ (nb_ rfl) (nb_ rfl) (s_20 (a1 := c s (4 * a1)) (a2 := c s (4 * a1 + 1)) (a3 := c s (4 * a1 + 2)) (a4 := c s (4 * a1 + 3)) (a5 := y_5) (a6 := c s 31) (a7 := a1) hI hP (show 0 ≤ c s (4 * a1) ∧ c s (4 * a1) ≤ 9999 from h_1) (show 0 ≤ c s (4 * a1 + 1) ∧ c s (4 * a1 + 1) ≤ 9999 from h_2) (show 0 ≤ c s (4 * a1 + 2) ∧ c s (4 * a1 + 2) ≤ 9999 from h_3) (show 0 ≤ c s (4 * a1 + 3) ∧ c s (4 * a1 + 3) ≤ 9999 from h_4) (show (-2147483648) ≤ y_5 ∧ y_5 ≤ 2147483647 from hy_5) (show (-2147483648) ≤ c s 31 ∧ c s 31 ≤ 2147483647 from h_6) (show (-2147483648) ≤ a1 ∧ a1 ≤ 2147483647 from ⟨(Int.le_trans (by decide) ha1.1), (Int.le_trans ha1.2 (by decide))⟩) (fun c_7 y_10 hI_8 hF_9 hy_10 => (bk_inl (q_iret c_56_57 rfl ?_))))))
  exact K c_7 y_10 hI_8 (fun a j hm => hF_9 a j hm) hy_10

set_option maxRecDepth 100000 in
set_option maxHeartbeats 4000000 in
theorem s_57 {sc : List Int32} {e : Int} {d u P Q sh s : Nat} {c : ME} {a1 : Int} {Z : AR → Prop} (hI : Iv u e P Q c) (hs : (sh = 37 ∧ s = 38) ∨ (sh = 39 ∧ s = 40)) (ha1 : 0 ≤ a1 ∧ a1 ≤ 5) (K : ∀ (c2 : ME) (y : Int), Iv u e P Q c2 → (∀ (a : Nat) (j : Int), ¬ (a = (P + 10) ∨ a = (P + 11)) → c2 a j = c a j) → 0 ≤ y ∧ y ≤ 1 → Z (.inl (some (vi y)), Wd P Q P P c2, 0, 0)) : Wp sc (d + 10) 57 0 [(0, .ref sh), (1, vi a1)] [] (Wd P Q P P c) 0 0 Z := by
  have hP := iv_P hI
  have hQ := iv_Q hI
  refine q_aload_n c_57_0 rfl (q_iload_n c_57_1 rfl ?_)
  have h_1 := ir_s_g hI hs (j := 4 * a1) (by first | exact q_9f1d5ffdc ha1 | omega)
  have h_2 := ir_s_g hI hs (j := 4 * a1 + 1) (by first | exact q_0a2ee6f8f ha1 | omega)
  have h_3 := ir_s_g hI hs (j := 4 * a1 + 2) (by first | exact q_e07a293a2 ha1 | omega)
  have h_4 := ir_s_g hI hs (j := 4 * a1 + 3) (by first | exact q_d09cb0b73 ha1 | omega)
  refine v_cv c_57_2 km_4_38 rfl (ck_sh hs) (a68sh hs) ⟨⟨rfl, rfl⟩, by decide, rfl⟩ (nb_ rfl) (nb_ rfl) (s_43 (v1 := c s (4 * a1)) (v2 := c s (4 * a1 + 1)) (v3 := c s (4 * a1 + 2)) (v4 := c s (4 * a1 + 3)) (r := c s (4 * a1 + 1) + c s (4 * a1 + 2) + c s (4 * a1 + 3) + c s (4 * a1)) (a1 := a1) hI hs (show 0 ≤ a1 ∧ a1 ≤ 5 from ha1) (rfl) (rfl) (rfl) (rfl) (by omega) (bk_inl ?_))
  by_cases h_5 : c s (4 * a1 + 1) + c s (4 * a1 + 2) + c s (4 * a1 + 3) + c s (4 * a1) ≤ 0
  · refine v_if_le_t (t := 22) c_57_5 rfl ⟨by first | exact q_e052ef40e h_1 h_2 h_3 h_4 | omega, h_5, by decide⟩ (q_iconst c_57_22 (v_zret c_57_23 rfl (by decide) ?_))
    exact K c 0 hI (fun a j hm => rfl) ⟨by decide, by decide⟩
  · refine v_if_le_f (t := 22) c_57_5 rfl ⟨by decide, (Int.not_le.mp h_5), by first | exact q_db9ef1f4a h_1 h_2 h_3 h_4 | omega⟩ (q_aload_n c_57_8 rfl (q_iload_n c_57_9 rfl (v_cv c_57_10 km_4_55 rfl (ck_sh hs) (a68sh hs) ⟨⟨rfl, rfl⟩, by decide, rfl⟩ (nb_ rfl) (nb_ rfl) (s_56 (a1 := a1) hI hs (show 0 ≤ a1 ∧ a1 ≤ 5 from ha1) (fun c_6 y_9 hI_7 hF_8 hy_9 => (bk_inl (v_bip c_57_13 (by decide) ?_)))))))
    by_cases h_10 : y_9 < 50
    · refine v_ic_lt_t (t := 22) c_57_15 rfl ⟨(Int.le_trans (by decide) hy_9.1), h_10, by decide⟩ (q_iconst c_57_22 (v_zret c_57_23 rfl (by decide) ?_))
      exact K c_6 0 hI_7 (fun a j hm => hF_8 a j hm) ⟨by decide, by decide⟩
    · refine v_ic_lt_f (t := 22) c_57_15 rfl ⟨by decide, (Int.not_lt.mp h_10), (Int.le_trans hy_9.2 (by decide))⟩ (q_iconst c_57_18 (q_goto (t := 23) c_57_19 rfl (v_zret c_57_23 rfl (by decide) ?_)))
      exact K c_6 1 hI_7 (fun a j hm => hF_8 a j hm) ⟨by decide, by decide⟩
end
section
/-! ===== contracts 6 ===== -/
theorem q_dca0492e8 {x0 : Int} (f0 : 0 ≤ x0 ∧ x0 ≤ 5) : 4 * x0 < 33 := by omega
theorem q_04a38f0fc {x0 : Int} (f0 : 0 ≤ x0 ∧ x0 ≤ 5) : 4 * x0 + 1 < 33 := by omega
theorem q_a4486dabd {x0 : Int} (f0 : 0 ≤ x0 ∧ x0 ≤ 5) : 4 * x0 + 2 < 33 := by omega
theorem q_d1b72c2c7 {x0 : Int} (f0 : 0 ≤ x0 ∧ x0 ≤ 5) : 4 * x0 + 3 < 33 := by omega
theorem qv_0914b99ad {P : Nat} {s : Nat} {a : Nat} (hm : ¬ (a = s ∨ a = (P + 10) ∨ a = (P + 11))) : ¬ (a = (P + 10) ∨ a = (P + 11)) := (fun q => q.elim (fun h => hm (Or.inr (Or.inl h))) (fun h => hm (Or.inr (Or.inr h))))
theorem q_a5cb01eba {x0 x1 x2 x3 : Int} (f0 : x0 + x1 + x2 + x3 ≤ 9999) : x0 + (x1) + (x2) + (x3) ≤ 9999 := by omega
theorem q_aa51b186e {x0 x1 : Int} (f0 : 0 ≤ x0 ∧ x0 ≤ 6) (f1 : ¬ (x1 ≥ x0)) : 4 * x1 < 24 := by omega
theorem q_57851f9de {x0 x1 : Int} (f0 : 0 ≤ x0 ∧ x0 ≤ 6) (f1 : ¬ (x1 ≥ x0)) : 4 * x1 + 1 < 24 := by omega
theorem q_7296e74e6 {x0 x1 : Int} (f0 : 0 ≤ x0 ∧ x0 ≤ 6) (f1 : ¬ (x1 ≥ x0)) : 4 * x1 + 2 < 24 := by omega
theorem q_b15525c4c {x0 x1 : Int} (f0 : 0 ≤ x0 ∧ x0 ≤ 6) (f1 : ¬ (x1 ≥ x0)) : 4 * x1 + 3 < 24 := by omega
theorem q_d63a8538e {x0 x1 : Int} (f0 : 0 ≤ x0 ∧ x0 ≤ 6) (f1 : ¬ (x1 ≥ x0)) : x1 ≤ 5 := by omega
theorem q_94559468f {x0 x1 x2 x3 : Int} (f0 : 0 ≤ x0 ∧ x0 ≤ 9999) (f1 : 0 ≤ x1 ∧ x1 ≤ 9999) (f2 : 0 ≤ x2 ∧ x2 ≤ 9999) (f3 : 0 ≤ x3 ∧ x3 ≤ 9999) : (-2147483648) ≤ x2 + x3 + x0 + x1 := by omega
theorem q_4a76cd9c7 {x0 x1 : Int} (f0 : 0 ≤ x0 ∧ x0 ≤ 6) (f1 : ¬ (x1 ≥ x0)) : x1 + 1 ≤ 6 := by omega
theorem q_f81653045 {x0 x1 x2 x3 : Int} (f0 : 0 ≤ x0 ∧ x0 ≤ 9999) (f1 : 0 ≤ x1 ∧ x1 ≤ 9999) (f2 : 0 ≤ x2 ∧ x2 ≤ 9999) (f3 : 0 ≤ x3 ∧ x3 ≤ 9999) : x2 + x3 + x0 + x1 ≤ 2147483647 := by omega
theorem q_fbbb1c60d {x0 : Int} (f0 : 0 ≤ x0 ∧ x0 ≤ 6) : x0 + 24 < 34 := by omega
theorem q_569400884 {x0 : Int} (f0 : 0 ≤ x0 ∧ x0 ≤ 6) : 24 ≤ x0 + 24 := by omega
theorem c_58_0 : mLk 58 0 = some (.aload_n 0, 1) := rfl
theorem c_58_1 : mLk 58 1 = some (.iload_n 1, 1) := rfl
theorem c_58_2 : mLk 58 2 = some (.invokevirtual 98, 3) := rfl
theorem c_58_5 : mLk 58 5 = some (.ifCond .ne 5, 3) := rfl
theorem c_58_10 : mLk 58 10 = some (.aload_n 0, 1) := rfl
theorem c_58_11 : mLk 58 11 = some (.getfield 11, 3) := rfl
theorem c_58_14 : mLk 58 14 = some (.bipush 33, 2) := rfl
theorem c_58_16 : mLk 58 16 = some (.dup2, 1) := rfl
theorem c_58_17 : mLk 58 17 = some (.iaload, 1) := rfl
theorem c_58_18 : mLk 58 18 = some (.aload_n 0, 1) := rfl
theorem c_58_19 : mLk 58 19 = some (.iload_n 1, 1) := rfl
theorem c_58_20 : mLk 58 20 = some (.invokevirtual 38, 3) := rfl
theorem c_58_23 : mLk 58 23 = some (.bipush 10, 2) := rfl
theorem c_58_27 : mLk 58 27 = some (.iastore, 1) := rfl
theorem c_58_28 : mLk 58 28 = some (.iconst 0, 1) := rfl
theorem c_58_29 : mLk 58 29 = some (.istore_n 2, 1) := rfl
theorem c_58_30 : mLk 58 30 = some (.iload_n 2, 1) := rfl
theorem c_58_31 : mLk 58 31 = some (.iconst 4, 1) := rfl
theorem c_58_32 : mLk 58 32 = some (.if_icmp .ge 20, 3) := rfl
theorem c_58_35 : mLk 58 35 = some (.aload_n 0, 1) := rfl
theorem c_58_36 : mLk 58 36 = some (.getfield 11, 3) := rfl
theorem c_58_39 : mLk 58 39 = some (.iload_n 1, 1) := rfl
theorem c_58_40 : mLk 58 40 = some (.iconst 4, 1) := rfl
theorem c_58_41 : mLk 58 41 = some (.imul, 1) := rfl
theorem c_58_42 : mLk 58 42 = some (.iload_n 2, 1) := rfl
theorem c_58_43 : mLk 58 43 = some (.iadd, 1) := rfl
theorem c_58_44 : mLk 58 44 = some (.iconst 0, 1) := rfl
theorem c_58_45 : mLk 58 45 = some (.iastore, 1) := rfl
theorem c_58_46 : mLk 58 46 = some (.iinc 2 1, 3) := rfl
theorem c_58_49 : mLk 58 49 = some (.goto (-19), 3) := rfl
theorem c_58_52 : mLk 58 52 = some (.aload_n 0, 1) := rfl
theorem c_58_53 : mLk 58 53 = some (.getfield 11, 3) := rfl
theorem c_58_56 : mLk 58 56 = some (.bipush 24, 2) := rfl
theorem c_58_58 : mLk 58 58 = some (.iload_n 1, 1) := rfl
theorem c_58_59 : mLk 58 59 = some (.iadd, 1) := rfl
theorem c_58_60 : mLk 58 60 = some (.iconst 0, 1) := rfl
theorem c_58_61 : mLk 58 61 = some (.iastore, 1) := rfl
theorem c_58_62 : mLk 58 62 = some (.iconst 1, 1) := rfl
theorem c_58_63 : mLk 58 63 = some (.ireturn, 1) := rfl
theorem c_58_8 : mLk 58 8 = some (.iconst 0, 1) := rfl
theorem c_58_9 : mLk 58 9 = some (.ireturn, 1) := rfl
theorem c_59_2 : mLk 59 2 = some (.iload_n 1, 1) := rfl
theorem c_59_3 : mLk 59 3 = some (.aload_n 0, 1) := rfl
theorem c_59_4 : mLk 59 4 = some (.getfield 15, 3) := rfl
theorem c_59_7 : mLk 59 7 = some (.getfield 19, 3) := rfl
theorem c_59_10 : mLk 59 10 = some (.if_icmp .ge 30, 3) := rfl
theorem c_59_40 : mLk 59 40 = some (.aload_n 0, 1) := rfl
theorem c_59_41 : mLk 59 41 = some (.getfield 11, 3) := rfl
theorem c_59_44 : mLk 59 44 = some (.bipush 31, 2) := rfl
theorem c_59_46 : mLk 59 46 = some (.dup2, 1) := rfl
theorem c_59_47 : mLk 59 47 = some (.iaload, 1) := rfl
theorem c_59_48 : mLk 59 48 = some (.iconst 1, 1) := rfl
theorem c_59_49 : mLk 59 49 = some (.iadd, 1) := rfl
theorem c_59_50 : mLk 59 50 = some (.iastore, 1) := rfl
theorem c_59_13 : mLk 59 13 = some (.aload_n 0, 1) := rfl
theorem c_59_14 : mLk 59 14 = some (.iload_n 1, 1) := rfl
theorem c_59_15 : mLk 59 15 = some (.invokevirtual 38, 3) := rfl
theorem c_59_18 : mLk 59 18 = some (.ifCond .le 16, 3) := rfl
theorem c_59_34 : mLk 59 34 = some (.iinc 1 1, 3) := rfl
theorem c_59_37 : mLk 59 37 = some (.goto (-35), 3) := rfl
theorem c_59_21 : mLk 59 21 = some (.aload_n 0, 1) := rfl
theorem c_59_22 : mLk 59 22 = some (.getfield 11, 3) := rfl
theorem c_59_25 : mLk 59 25 = some (.bipush 24, 2) := rfl
theorem c_59_27 : mLk 59 27 = some (.iload_n 1, 1) := rfl
theorem c_59_28 : mLk 59 28 = some (.iadd, 1) := rfl
theorem c_59_29 : mLk 59 29 = some (.dup2, 1) := rfl
theorem c_59_30 : mLk 59 30 = some (.iaload, 1) := rfl
theorem c_59_31 : mLk 59 31 = some (.iconst 1, 1) := rfl
theorem c_59_32 : mLk 59 32 = some (.iadd, 1) := rfl
theorem c_59_33 : mLk 59 33 = some (.iastore, 1) := rfl
theorem c_59_0 : mLk 59 0 = some (.iconst 0, 1) := rfl
theorem c_59_1 : mLk 59 1 = some (.istore_n 1, 1) := rfl
theorem c_60_0 : mLk 60 0 = some (.aload_n 0, 1) := rfl
theorem c_60_1 : mLk 60 1 = some (.getfield 11, 3) := rfl
theorem c_60_4 : mLk 60 4 = some (.bipush 31, 2) := rfl
theorem c_60_6 : mLk 60 6 = some (.iaload, 1) := rfl
theorem c_60_7 : mLk 60 7 = some (.sipush 400, 3) := rfl
theorem c_60_10 : mLk 60 10 = some (.if_icmp .lt 5, 3) := rfl
theorem c_60_15 : mLk 60 15 = some (.aload_n 0, 1) := rfl
theorem c_60_16 : mLk 60 16 = some (.invokevirtual 101, 3) := rfl
theorem c_60_19 : mLk 60 19 = some (.iconst 1, 1) := rfl
theorem c_60_20 : mLk 60 20 = some (.ireturn, 1) := rfl
theorem c_60_13 : mLk 60 13 = some (.iconst 0, 1) := rfl
theorem c_60_14 : mLk 60 14 = some (.ireturn, 1) := rfl
theorem c_61_0 : mLk 61 0 = some (.aload_n 0, 1) := rfl
theorem c_61_1 : mLk 61 1 = some (.getfield 11, 3) := rfl
theorem c_61_4 : mLk 61 4 = some (.bipush 30, 2) := rfl
theorem c_61_6 : mLk 61 6 = some (.dup2, 1) := rfl
theorem c_61_7 : mLk 61 7 = some (.iaload, 1) := rfl
theorem c_61_8 : mLk 61 8 = some (.iconst 1, 1) := rfl
theorem c_61_9 : mLk 61 9 = some (.iload_n 1, 1) := rfl
theorem c_61_10 : mLk 61 10 = some (.ishl, 1) := rfl
theorem c_61_11 : mLk 61 11 = some (.ixor, 1) := rfl
theorem c_61_12 : mLk 61 12 = some (.iastore, 1) := rfl
theorem c_62_0 : mLk 62 0 = some (.aload_n 0, 1) := rfl
theorem c_62_1 : mLk 62 1 = some (.getfield 11, 3) := rfl
theorem c_62_4 : mLk 62 4 = some (.iload_n 2, 1) := rfl
theorem c_62_5 : mLk 62 5 = some (.iconst 1, 1) := rfl
theorem c_62_6 : mLk 62 6 = some (.iadd, 1) := rfl
theorem c_62_7 : mLk 62 7 = some (.iaload, 1) := rfl
theorem c_62_8 : mLk 62 8 = some (.istore_n 3, 1) := rfl
theorem c_62_9 : mLk 62 9 = some (.aload_n 0, 1) := rfl
theorem c_62_10 : mLk 62 10 = some (.getfield 11, 3) := rfl
theorem c_62_13 : mLk 62 13 = some (.iload_n 2, 1) := rfl
theorem c_62_14 : mLk 62 14 = some (.iconst 2, 1) := rfl
theorem c_62_15 : mLk 62 15 = some (.iadd, 1) := rfl
theorem c_62_16 : mLk 62 16 = some (.iaload, 1) := rfl
theorem c_62_17 : mLk 62 17 = some (.istore 4, 2) := rfl
theorem c_62_19 : mLk 62 19 = some (.aload_n 0, 1) := rfl
theorem c_62_20 : mLk 62 20 = some (.getfield 11, 3) := rfl
theorem c_62_23 : mLk 62 23 = some (.iload_n 2, 1) := rfl
theorem c_62_24 : mLk 62 24 = some (.iconst 3, 1) := rfl
theorem c_62_25 : mLk 62 25 = some (.iadd, 1) := rfl
theorem c_62_26 : mLk 62 26 = some (.iaload, 1) := rfl
theorem c_62_27 : mLk 62 27 = some (.istore 5, 2) := rfl
theorem c_62_29 : mLk 62 29 = some (.aload_n 0, 1) := rfl
theorem c_62_30 : mLk 62 30 = some (.getfield 11, 3) := rfl
theorem c_62_33 : mLk 62 33 = some (.iload_n 2, 1) := rfl
theorem c_62_34 : mLk 62 34 = some (.iaload, 1) := rfl
theorem c_62_35 : mLk 62 35 = some (.tableswitch 96 0 6 #[41, 49, 67, 75, 96, 85, 91], 41) := rfl
theorem c_62_76 : mLk 62 76 = some (.aload_n 1, 1) := rfl
theorem c_62_77 : mLk 62 77 = some (.iload_n 3, 1) := rfl
theorem c_62_78 : mLk 62 78 = some (.iload 4, 2) := rfl
theorem c_62_80 : mLk 62 80 = some (.invokevirtual 105, 3) := rfl
theorem c_62_83 : mLk 62 83 = some (.ireturn, 1) := rfl
theorem c_62_84 : mLk 62 84 = some (.aload_n 1, 1) := rfl
theorem c_62_85 : mLk 62 85 = some (.iload_n 3, 1) := rfl
theorem c_62_86 : mLk 62 86 = some (.iload 4, 2) := rfl
theorem c_62_88 : mLk 62 88 = some (.iload 5, 2) := rfl
theorem c_62_90 : mLk 62 90 = some (.aload_n 0, 1) := rfl
theorem c_62_91 : mLk 62 91 = some (.getfield 11, 3) := rfl
theorem c_62_94 : mLk 62 94 = some (.iload_n 2, 1) := rfl
theorem c_62_95 : mLk 62 95 = some (.iconst 4, 1) := rfl
theorem c_62_96 : mLk 62 96 = some (.iadd, 1) := rfl
theorem c_62_97 : mLk 62 97 = some (.iaload, 1) := rfl
theorem c_62_98 : mLk 62 98 = some (.invokevirtual 111, 3) := rfl
theorem c_62_101 : mLk 62 101 = some (.ireturn, 1) := rfl
theorem c_62_102 : mLk 62 102 = some (.aload_n 1, 1) := rfl
theorem c_62_103 : mLk 62 103 = some (.iload_n 3, 1) := rfl
theorem c_62_104 : mLk 62 104 = some (.iload 4, 2) := rfl
theorem c_62_106 : mLk 62 106 = some (.invokevirtual 115, 3) := rfl
theorem c_62_109 : mLk 62 109 = some (.ireturn, 1) := rfl
theorem c_62_110 : mLk 62 110 = some (.aload_n 1, 1) := rfl
theorem c_62_111 : mLk 62 111 = some (.iload_n 3, 1) := rfl
theorem c_62_112 : mLk 62 112 = some (.iload 4, 2) := rfl
theorem c_62_114 : mLk 62 114 = some (.iload 5, 2) := rfl
theorem c_62_116 : mLk 62 116 = some (.invokevirtual 118, 3) := rfl
theorem c_62_119 : mLk 62 119 = some (.ireturn, 1) := rfl
theorem c_62_131 : mLk 62 131 = some (.aload_n 1, 1) := rfl
theorem c_62_132 : mLk 62 132 = some (.iload_n 3, 1) := rfl
theorem c_62_133 : mLk 62 133 = some (.invokevirtual 129, 3) := rfl
theorem c_62_136 : mLk 62 136 = some (.iconst 1, 1) := rfl
theorem c_62_137 : mLk 62 137 = some (.ireturn, 1) := rfl
theorem c_62_120 : mLk 62 120 = some (.aload_n 1, 1) := rfl
theorem c_62_121 : mLk 62 121 = some (.iload_n 3, 1) := rfl
theorem c_62_122 : mLk 62 122 = some (.invokevirtual 122, 3) := rfl
theorem c_62_125 : mLk 62 125 = some (.ireturn, 1) := rfl
theorem c_62_126 : mLk 62 126 = some (.aload_n 1, 1) := rfl
theorem c_62_127 : mLk 62 127 = some (.invokevirtual 126, 3) := rfl
theorem c_62_130 : mLk 62 130 = some (.ireturn, 1) := rfl
theorem kf_4_19 : a_lk (kF 4) 19 = some (2, 0) := rfl
theorem km_3_105 : a_lk (kM 3) 105 = some (0, 44) := rfl
theorem km_3_111 : a_lk (kM 3) 111 = some (0, 53) := rfl
theorem km_3_115 : a_lk (kM 3) 115 = some (0, 55) := rfl
theorem km_3_118 : a_lk (kM 3) 118 = some (0, 54) := rfl
theorem km_3_122 : a_lk (kM 3) 122 = some (0, 58) := rfl
theorem km_3_126 : a_lk (kM 3) 126 = some (0, 60) := rfl
theorem km_3_129 : a_lk (kM 3) 129 = some (0, 61) := rfl
theorem km_4_101 : a_lk (kM 4) 101 = some (0, 59) := rfl
theorem km_4_98 : a_lk (kM 4) 98 = some (0, 57) := rfl
set_option maxRecDepth 100000 in
set_option maxHeartbeats 4000000 in
theorem s_58 {sc : List Int32} {d P Q sh s : Nat} {c : ME} {a1 : Int} {Z : AR → Prop} (hI : Iv 0 (-1) P Q c) (hs : (sh = 37 ∧ s = 38) ∨ (sh = 39 ∧ s = 40)) (ha1 : 0 ≤ a1 ∧ a1 ≤ 5) (K : ∀ (c2 : ME) (y : Int), Iv 0 (-1) P Q c2 → (∀ (a : Nat) (j : Int), ¬ (a = s ∨ a = (P + 10) ∨ a = (P + 11)) → c2 a j = c a j) → 0 ≤ y ∧ y ≤ 1 → Z (.inl (some (vi y)), Wd P Q P P c2, 0, 0)) : Wp sc (d + 11) 58 0 [(0, .ref sh), (1, vi a1)] [] (Wd P Q P P c) 0 0 Z := by
  have hP := iv_P hI
  have hQ := iv_Q hI
  have hIo : Iv s (-1) P Q c := iv_open hI
  have hsum_1 := ir_s_r hI hs (by omega) (j := a1) (by omega)
  have h_2 := ir_s_g hI hs (j := 4 * a1) (by first | exact q_9f1d5ffdc ha1 | omega)
  have h_3 := ir_s_g hI hs (j := 4 * a1 + 1) (by first | exact q_0a2ee6f8f ha1 | omega)
  have h_4 := ir_s_g hI hs (j := 4 * a1 + 2) (by first | exact q_e07a293a2 ha1 | omega)
  have h_5 := ir_s_g hI hs (j := 4 * a1 + 3) (by first | exact q_d09cb0b73 ha1 | omega)
  refine q_aload_n c_58_0 rfl (q_iload_n c_58_1 rfl (v_cv c_58_2 km_4_98 rfl (ck_sh hs) (a68sh hs) ⟨⟨rfl, rfl⟩, by decide, rfl⟩ (nb_ rfl) (nb_ rfl) (s_57 (a1 := a1) hIo hs (show 0 ≤ a1 ∧ a1 ≤ 5 from ha1) (fun c_6 y_9 hI_7 hF_8 hy_9 => (bk_inl ?_)))))
  by_cases h_10 : y_9 ≠ 0
  · refine v_if_ne_t (t := 10) c_58_5 rfl ⟨h_10, ⟨(Int.le_trans (by decide) hy_9.1), (Int.le_trans hy_9.2 (by decide))⟩, by decide, by decide⟩ (q_aload_n c_58_10 rfl (v_gr (t := s) c_58_11 kf_4_11 (ck_sh hs) (a68sh hs) rfl (v_bip c_58_14 (by decide) (q_dup2 c_58_16 ⟨rfl, rfl⟩ ?_))))
    have h_11 := ir_s hI hs 33
    have kn_12 : Hid (c_6 s 33 = c s 33) := hF_8 s 33 (by omega)
    refine v_ia (v := c s 33) c_58_17 (ck_s hs) (a68s hs) (by decide) (by decide) (hid kn_12) (q_aload_n c_58_18 rfl (q_iload_n c_58_19 rfl ?_))
    have kn_13 : Hid (c_6 s (4 * a1) = c s (4 * a1)) := hF_8 s (4 * a1) (by omega)
    have kn_14 : Hid (c_6 s (4 * a1 + 1) = c s (4 * a1 + 1)) := hF_8 s (4 * a1 + 1) (by omega)
    have kn_15 : Hid (c_6 s (4 * a1 + 2) = c s (4 * a1 + 2)) := hF_8 s (4 * a1 + 2) (by omega)
    have kn_16 : Hid (c_6 s (4 * a1 + 3) = c s (4 * a1 + 3)) := hF_8 s (4 * a1 + 3) (by omega)
    refine v_cv c_58_20 km_4_38 rfl (ck_sh hs) (a68sh hs) ⟨⟨rfl, rfl⟩, by decide, rfl⟩ (nb_ rfl) (nb_ rfl) (s_43 (v1 := c s (4 * a1)) (v2 := c s (4 * a1 + 1)) (v3 := c s (4 * a1 + 2)) (v4 := c s (4 * a1 + 3)) (r := c s (4 * a1 + 1) + c s (4 * a1 + 2) + c s (4 * a1 + 3) + c s (4 * a1)) (a1 := a1) hI_7 hs (show 0 ≤ a1 ∧ a1 ≤ 5 from ha1) ((hid kn_13)) ((hid kn_14)) ((hid kn_15)) ((hid kn_16)) (by omega) (bk_inl (v_bip c_58_23 (by decide) (v_idiv (v := ((c s (4 * a1 + 1) + c s (4 * a1 + 2) + c s (4 * a1 + 3) + c s (4 * a1)) / 10)) rfl (by omega) rfl (v_iadd (v := ((c s (4 * a1 + 1) + c s (4 * a1 + 2) + c s (4 * a1 + 3) + c s (4 * a1)) / 10) + c s 33) rfl (by first | exact q_893c89ded | omega) (v_nrm (fun y_17 hy_17 => (v_is c_58_27 (ck_s hs) (a68s hs) (by decide) (by decide) (q_iconst c_58_28 ?_)))))))))
    refine q_istore_n c_58_29 (nb_ rfl) (q_iload_n c_58_30 rfl (q_iconst c_58_31 (v_ic_ge_f (t := 52) c_58_32 rfl (by decide) (q_aload_n c_58_35 rfl (v_gr (t := s) c_58_36 kf_4_11 (ck_sh hs) (a68sh hs) rfl (q_iload_n c_58_39 rfl (q_iconst c_58_40 ?_)))))))
    refine v_imul (v := 4 * a1) c_58_41 (by first | exact q_a509a7ce7 | omega) (q_iload_n c_58_42 rfl (v_iadd (v := 4 * a1) c_58_43 (by first | exact q_8baad3eb5 | omega) (q_iconst c_58_44 (v_is c_58_45 (ck_s hs) (a68s hs) (by decide) ⟨by first | exact q_c065257af ha1 | omega, by first | exact q_b7e642788 ha1 | omega⟩ (v_iinc (v := 1) c_58_46 rfl (nb_ rfl) (by decide) (q_goto (t := 30) c_58_49 rfl (q_iload_n c_58_30 rfl ?_)))))))
    refine q_iconst c_58_31 (v_ic_ge_f (t := 52) c_58_32 rfl (by decide) (q_aload_n c_58_35 rfl (v_gr (t := s) c_58_36 kf_4_11 (ck_sh hs) (a68sh hs) rfl (q_iload_n c_58_39 rfl (q_iconst c_58_40 (v_imul (v := 4 * a1) c_58_41 (by first | exact q_a509a7ce7 | omega) (q_iload_n c_58_42 rfl ?_)))))))
    refine v_iadd (v := 4 * a1 + 1) c_58_43 rfl (q_iconst c_58_44 (v_is c_58_45 (ck_s hs) (a68s hs) (by decide) ⟨by first | exact q_83fdbd35d ha1 | omega, by first | exact q_ee7209ea0 ha1 | omega⟩ (v_iinc (v := 2) c_58_46 rfl (nb_ rfl) (by decide) (q_goto (t := 30) c_58_49 rfl (q_iload_n c_58_30 rfl (q_iconst c_58_31 (v_ic_ge_f (t := 52) c_58_32 rfl (by decide) ?_)))))))
    refine q_aload_n c_58_35 rfl (v_gr (t := s) c_58_36 kf_4_11 (ck_sh hs) (a68sh hs) rfl (q_iload_n c_58_39 rfl (q_iconst c_58_40 (v_imul (v := 4 * a1) c_58_41 (by first | exact q_a509a7ce7 | omega) (q_iload_n c_58_42 rfl (v_iadd (v := 4 * a1 + 2) c_58_43 rfl (q_iconst c_58_44 ?_)))))))
    refine v_is c_58_45 (ck_s hs) (a68s hs) (by decide) ⟨by first | exact q_0f37a0c6e ha1 | omega, by first | exact q_d136047ff ha1 | omega⟩ (v_iinc (v := 3) c_58_46 rfl (nb_ rfl) (by decide) (q_goto (t := 30) c_58_49 rfl (q_iload_n c_58_30 rfl (q_iconst c_58_31 (v_ic_ge_f (t := 52) c_58_32 rfl (by decide) (q_aload_n c_58_35 rfl (v_gr (t := s) c_58_36 kf_4_11 (ck_sh hs) (a68sh hs) rfl ?_)))))))
    refine q_iload_n c_58_39 rfl (q_iconst c_58_40 (v_imul (v := 4 * a1) c_58_41 (by first | exact q_a509a7ce7 | omega) (q_iload_n c_58_42 rfl (v_iadd (v := 4 * a1 + 3) c_58_43 rfl (q_iconst c_58_44 (v_is c_58_45 (ck_s hs) (a68s hs) (by decide) ⟨by first | exact q_f6be69137 ha1 | omega, by first | exact q_c79de31f2 ha1 | omega⟩ (v_iinc (v := 4) c_58_46 rfl (nb_ rfl) (by decide) ?_)))))))
    refine Wp_ls [(2, vi 4), (0, .ref sh), (1, vi a1)] (lsub_cons rfl (lsub_cons rfl (lsub_cons rfl lsub_nil))) (q_goto (t := 30) c_58_49 rfl (q_iload_n c_58_30 rfl (q_iconst c_58_31 (v_ic_ge_t (t := 52) c_58_32 rfl (by decide) (q_aload_n c_58_52 rfl (v_gr (t := s) c_58_53 kf_4_11 (ck_sh hs) (a68sh hs) rfl (v_bip c_58_56 (by decide) ?_)))))))
    refine q_iload_n c_58_58 rfl (v_iadd (v := a1 + 24) c_58_59 (by first | exact q_1b47056ce | omega) (q_iconst c_58_60 (v_is c_58_61 (ck_s hs) (a68s hs) (by decide) ⟨by first | exact rgp_l ha1.1 (by decide) | omega, by first | exact q_99d6360e7 ha1 | omega⟩ (q_iconst c_58_62 (v_zret c_58_63 rfl (by decide) ?_)))))
    have hI_18 := iwr1 (a := s) (j := 33) (v := y_17) hI_7 (rs_cs hs) (by decide) ⟨hy_17.1, hy_17.2⟩
    have hI_19 := iwr0 (a := s) (j := 4 * a1) (v := 0) hI_18 (rs_cs hs) ⟨by decide, by decide⟩
    have hI_20 := iwr0 (a := s) (j := 4 * a1 + 1) (v := 0) hI_19 (rs_cs hs) ⟨by decide, by decide⟩
    have hI_21 := iwr0 (a := s) (j := 4 * a1 + 2) (v := 0) hI_20 (rs_cs hs) ⟨by decide, by decide⟩
    have hI_22 := iwr0 (a := s) (j := 4 * a1 + 3) (v := 0) hI_21 (rs_cs hs) ⟨by decide, by decide⟩
    have hI_23 := iwr0 (a := s) (j := a1 + 24) (v := 0) hI_22 (rs_cs hs) ⟨by decide, by decide⟩
    have hr_24 : ∀ j : Int, rs s j → (up (up (up (up (up (up c_6 s 33 y_17) s (4 * a1) 0) s (4 * a1 + 1) 0) s (4 * a1 + 2) 0) s (4 * a1 + 3) 0) s (a1 + 24) 0) s j + (up (up (up (up (up (up c_6 s 33 y_17) s (4 * a1) 0) s (4 * a1 + 1) 0) s (4 * a1 + 2) 0) s (4 * a1 + 3) 0) s (a1 + 24) 0) s (j + 1) + (up (up (up (up (up (up c_6 s 33 y_17) s (4 * a1) 0) s (4 * a1 + 1) 0) s (4 * a1 + 2) 0) s (4 * a1 + 3) 0) s (a1 + 24) 0) s (j + 2) + (up (up (up (up (up (up c_6 s 33 y_17) s (4 * a1) 0) s (4 * a1 + 1) 0) s (4 * a1 + 2) 0) s (4 * a1 + 3) 0) s (a1 + 24) 0) s (j + 3) ≤ 9999 := by
      intro j9 hj9
      obtain ⟨k9, rfl, hk9⟩ := rs_s hs hj9
      by_cases e_25 : k9 = a1
      · skip
        have h_26 : (up (up (up (up (up (up c_6 s 33 y_17) s (4 * a1) 0) s (4 * a1 + 1) 0) s (4 * a1 + 2) 0) s (4 * a1 + 3) 0) s (a1 + 24) 0) s (4 * k9) = 0 := (congrArg ((up (up (up (up (up (up c_6 s 33 y_17) s (4 * a1) 0) s (4 * a1 + 1) 0) s (4 * a1 + 2) 0) s (4 * a1 + 3) 0) s (a1 + 24) 0) s) (show 4 * k9 = 4 * a1 from congrArg (fun z : Int => 4 * z) e_25)).trans ((up_n (ne_l (by first | exact q_788f4b81f ha1 | omega))).trans ((up_n (by first | exact ne_0a (by decide) | omega)).trans ((up_n (by first | exact ne_0a (by decide) | omega)).trans ((up_n (by first | exact ne_0a (by decide) | omega)).trans (up_e rfl)))))
        have h_27 : (up (up (up (up (up (up c_6 s 33 y_17) s (4 * a1) 0) s (4 * a1 + 1) 0) s (4 * a1 + 2) 0) s (4 * a1 + 3) 0) s (a1 + 24) 0) s (4 * k9 + 1) = 0 := (congrArg ((up (up (up (up (up (up c_6 s 33 y_17) s (4 * a1) 0) s (4 * a1 + 1) 0) s (4 * a1 + 2) 0) s (4 * a1 + 3) 0) s (a1 + 24) 0) s) (show 4 * k9 + 1 = 4 * a1 + 1 from congrArg (fun z : Int => 4 * z + 1) e_25)).trans ((up_n (ne_l (by first | exact q_60c9feeee ha1 | omega))).trans ((up_n (by first | exact ne_aa (by decide) | omega)).trans ((up_n (by first | exact ne_aa (by decide) | omega)).trans (up_e rfl))))
        have h_28 : (up (up (up (up (up (up c_6 s 33 y_17) s (4 * a1) 0) s (4 * a1 + 1) 0) s (4 * a1 + 2) 0) s (4 * a1 + 3) 0) s (a1 + 24) 0) s (4 * k9 + 2) = 0 := (congrArg ((up (up (up (up (up (up c_6 s 33 y_17) s (4 * a1) 0) s (4 * a1 + 1) 0) s (4 * a1 + 2) 0) s (4 * a1 + 3) 0) s (a1 + 24) 0) s) (show 4 * k9 + 2 = 4 * a1 + 2 from congrArg (fun z : Int => 4 * z + 2) e_25)).trans ((up_n (ne_l (by first | exact q_27ec1b4d7 ha1 | omega))).trans ((up_n (by first | exact ne_aa (by decide) | omega)).trans (up_e rfl)))
        have h_29 : (up (up (up (up (up (up c_6 s 33 y_17) s (4 * a1) 0) s (4 * a1 + 1) 0) s (4 * a1 + 2) 0) s (4 * a1 + 3) 0) s (a1 + 24) 0) s (4 * k9 + 3) = 0 := (congrArg ((up (up (up (up (up (up c_6 s 33 y_17) s (4 * a1) 0) s (4 * a1 + 1) 0) s (4 * a1 + 2) 0) s (4 * a1 + 3) 0) s (a1 + 24) 0) s) (show 4 * k9 + 3 = 4 * a1 + 3 from congrArg (fun z : Int => 4 * z + 3) e_25)).trans ((up_n (ne_l (by first | exact q_fd9aac8f8 ha1 | omega))).trans (up_e rfl))
        exact sm4 h_26 h_27 h_28 h_29 (by first | decide | omega)
      have h_30 := iv_r hI s (4 * k9) hj9 (by omega)
      have h_31 := ir_s_g hI hs (j := 4 * k9) (by first | exact q_9f1d5ffdc hk9 | omega)
      have kn_32 : Hid (c_6 s (4 * k9) = c s (4 * k9)) := hF_8 s (4 * k9) (by omega)
      have h_33 : (up (up (up (up (up (up c_6 s 33 y_17) s (4 * a1) 0) s (4 * a1 + 1) 0) s (4 * a1 + 2) 0) s (4 * a1 + 3) 0) s (a1 + 24) 0) s (4 * k9) = c s (4 * k9) := ((up_n (ne_l (by first | exact q_4128697c9 ha1 hk9 | omega))).trans ((up_n (by first | exact q_8ac71c5f3 | omega)).trans ((up_n (by first | exact q_c037f51da | omega)).trans ((up_n (by first | exact q_b2cb8bf87 | omega)).trans ((up_n (by first | exact q_336fb6678 e_25 | omega)).trans ((up_n (ne_l (by first | exact q_dca0492e8 hk9 | omega))).trans (hid kn_32)))))))
      have h_34 := ir_s_g hI hs (j := 4 * k9 + 1) (by first | exact q_0a2ee6f8f hk9 | omega)
      have kn_35 : Hid (c_6 s (4 * k9 + 1) = c s (4 * k9 + 1)) := hF_8 s (4 * k9 + 1) (by omega)
      have h_36 : (up (up (up (up (up (up c_6 s 33 y_17) s (4 * a1) 0) s (4 * a1 + 1) 0) s (4 * a1 + 2) 0) s (4 * a1 + 3) 0) s (a1 + 24) 0) s (4 * k9 + 1) = c s (4 * k9 + 1) := ((up_n (ne_l (by first | exact q_8f2481ba6 ha1 hk9 | omega))).trans ((up_n (by first | exact q_7c6b1b09a | omega)).trans ((up_n (by first | exact q_3650b790c | omega)).trans ((up_n (by first | exact q_52b51d728 e_25 | omega)).trans ((up_n (by first | exact q_e5bcc673e | omega)).trans ((up_n (ne_l (by first | exact q_04a38f0fc hk9 | omega))).trans (hid kn_35)))))))
      have h_37 := ir_s_g hI hs (j := 4 * k9 + 2) (by first | exact q_e07a293a2 hk9 | omega)
      have kn_38 : Hid (c_6 s (4 * k9 + 2) = c s (4 * k9 + 2)) := hF_8 s (4 * k9 + 2) (by omega)
      have h_39 : (up (up (up (up (up (up c_6 s 33 y_17) s (4 * a1) 0) s (4 * a1 + 1) 0) s (4 * a1 + 2) 0) s (4 * a1 + 3) 0) s (a1 + 24) 0) s (4 * k9 + 2) = c s (4 * k9 + 2) := ((up_n (ne_l (by first | exact q_04ab4010a ha1 hk9 | omega))).trans ((up_n (by first | exact q_91c5bd343 | omega)).trans ((up_n (by first | exact q_27892e29e e_25 | omega)).trans ((up_n (by first | exact q_08c3d7060 | omega)).trans ((up_n (by first | exact q_ae83e86ba | omega)).trans ((up_n (ne_l (by first | exact q_a4486dabd hk9 | omega))).trans (hid kn_38)))))))
      have h_40 := ir_s_g hI hs (j := 4 * k9 + 3) (by first | exact q_d09cb0b73 hk9 | omega)
      have kn_41 : Hid (c_6 s (4 * k9 + 3) = c s (4 * k9 + 3)) := hF_8 s (4 * k9 + 3) (by omega)
      have h_42 : (up (up (up (up (up (up c_6 s 33 y_17) s (4 * a1) 0) s (4 * a1 + 1) 0) s (4 * a1 + 2) 0) s (4 * a1 + 3) 0) s (a1 + 24) 0) s (4 * k9 + 3) = c s (4 * k9 + 3) := ((up_n (ne_l (by first | exact q_e782b8c3c ha1 hk9 | omega))).trans ((up_n (by first | exact q_2db9f474b e_25 | omega)).trans ((up_n (by first | exact q_28d70e8e5 | omega)).trans ((up_n (by first | exact q_6d5c6886e | omega)).trans ((up_n (by first | exact q_b6789388a | omega)).trans ((up_n (ne_l (by first | exact q_d1b72c2c7 hk9 | omega))).trans (hid kn_41)))))))
      exact sm4 h_33 h_36 h_39 h_42 h_30
    have hI_43 := iv_close hI_23 hr_24
    exact K (up (up (up (up (up (up c_6 s 33 y_17) s (4 * a1) 0) s (4 * a1 + 1) 0) s (4 * a1 + 2) 0) s (4 * a1 + 3) 0) s (a1 + 24) 0) 1 hI_43 (fun a j hm => (up_b (Decidable.or_iff_not_imp_left.mpr (fun h1 h2 => hm (Or.inl (Decidable.not_not.mp h1))))).trans ((up_b (Decidable.or_iff_not_imp_left.mpr (fun h1 h2 => hm (Or.inl (Decidable.not_not.mp h1))))).trans ((up_b (Decidable.or_iff_not_imp_left.mpr (fun h1 h2 => hm (Or.inl (Decidable.not_not.mp h1))))).trans ((up_b (Decidable.or_iff_not_imp_left.mpr (fun h1 h2 => hm (Or.inl (Decidable.not_not.mp h1))))).trans ((up_b (Decidable.or_iff_not_imp_left.mpr (fun h1 h2 => hm (Or.inl (Decidable.not_not.mp h1))))).trans ((up_b (Decidable.or_iff_not_imp_left.mpr (fun h1 h2 => hm (Or.inl (Decidable.not_not.mp h1))))).trans (hF_8 a j (qv_0914b99ad hm)))))))) ⟨by decide, by decide⟩
  · refine v_if_ne_f (t := 10) c_58_5 rfl (Decidable.not_not.mp h_10) (q_iconst c_58_8 (v_zret c_58_9 rfl (by decide) ?_))
    have hr_44 : ∀ j : Int, rs s j → c_6 s j + c_6 s (j + 1) + c_6 s (j + 2) + c_6 s (j + 3) ≤ 9999 := by
      intro j9 hj9
      obtain ⟨k9, rfl, hk9⟩ := rs_s hs hj9
      by_cases e_45 : k9 = a1
      · skip
        have kn_46 : Hid (c_6 s (4 * a1) = c s (4 * a1)) := hF_8 s (4 * a1) (by omega)
        have h_47 : c_6 s (4 * k9) = c s (4 * a1) := (congrArg (c_6 s) (show 4 * k9 = 4 * a1 from congrArg (fun z : Int => 4 * z) e_45)).trans (hid kn_46)
        have kn_48 : Hid (c_6 s (4 * a1 + 1) = c s (4 * a1 + 1)) := hF_8 s (4 * a1 + 1) (by omega)
        have h_49 : c_6 s (4 * k9 + 1) = c s (4 * a1 + 1) := (congrArg (c_6 s) (show 4 * k9 + 1 = 4 * a1 + 1 from congrArg (fun z : Int => 4 * z + 1) e_45)).trans (hid kn_48)
        have kn_50 : Hid (c_6 s (4 * a1 + 2) = c s (4 * a1 + 2)) := hF_8 s (4 * a1 + 2) (by omega)
        have h_51 : c_6 s (4 * k9 + 2) = c s (4 * a1 + 2) := (congrArg (c_6 s) (show 4 * k9 + 2 = 4 * a1 + 2 from congrArg (fun z : Int => 4 * z + 2) e_45)).trans (hid kn_50)
        have kn_52 : Hid (c_6 s (4 * a1 + 3) = c s (4 * a1 + 3)) := hF_8 s (4 * a1 + 3) (by omega)
        have h_53 : c_6 s (4 * k9 + 3) = c s (4 * a1 + 3) := (congrArg (c_6 s) (show 4 * k9 + 3 = 4 * a1 + 3 from congrArg (fun z : Int => 4 * z + 3) e_45)).trans (hid kn_52)
        exact sm4 h_47 h_49 h_51 h_53 (by first | exact q_a5cb01eba hsum_1 | omega)
      have h_54 := iv_r hI s (4 * k9) hj9 (by omega)
      have h_55 := ir_s_g hI hs (j := 4 * k9) (by first | exact q_9f1d5ffdc hk9 | omega)
      have kn_56 : Hid (c_6 s (4 * k9) = c s (4 * k9)) := hF_8 s (4 * k9) (by omega)
      have h_57 : c_6 s (4 * k9) = c s (4 * k9) := (hid kn_56)
      have h_58 := ir_s_g hI hs (j := 4 * k9 + 1) (by first | exact q_0a2ee6f8f hk9 | omega)
      have kn_59 : Hid (c_6 s (4 * k9 + 1) = c s (4 * k9 + 1)) := hF_8 s (4 * k9 + 1) (by omega)
      have h_60 : c_6 s (4 * k9 + 1) = c s (4 * k9 + 1) := (hid kn_59)
      have h_61 := ir_s_g hI hs (j := 4 * k9 + 2) (by first | exact q_e07a293a2 hk9 | omega)
      have kn_62 : Hid (c_6 s (4 * k9 + 2) = c s (4 * k9 + 2)) := hF_8 s (4 * k9 + 2) (by omega)
      have h_63 : c_6 s (4 * k9 + 2) = c s (4 * k9 + 2) := (hid kn_62)
      have h_64 := ir_s_g hI hs (j := 4 * k9 + 3) (by first | exact q_d09cb0b73 hk9 | omega)
      have kn_65 : Hid (c_6 s (4 * k9 + 3) = c s (4 * k9 + 3)) := hF_8 s (4 * k9 + 3) (by omega)
      have h_66 : c_6 s (4 * k9 + 3) = c s (4 * k9 + 3) := (hid kn_65)
      exact sm4 h_57 h_60 h_63 h_66 h_54
    have hI_67 := iv_close hI_7 hr_44
    exact K c_6 0 hI_67 (fun a j hm => hF_8 a j (qv_0914b99ad hm)) ⟨by decide, by decide⟩

set_option maxRecDepth 100000 in
set_option maxHeartbeats 4000000 in
theorem s_59_l {sc : List Int32} {e : Int} {d u P Q sh s : Nat} {c : ME} {Z : AR → Prop} (hI : Iv u e P Q c) (hs : (sh = 37 ∧ s = 38) ∨ (sh = 39 ∧ s = 40)) (K : ∀ (c2 : ME), Iv u e P Q c2 → (∀ (a : Nat) (j : Int), ¬ (a = s) → c2 a j = c a j) → Z (.inl (none), Wd P Q P P c2, 0, 0)) : ∀ n : Nat, (∀ (c2 : ME) (v1 : Int), Iv u e P Q c2 → (∀ (a : Nat) (j : Int), ¬ (a = s) → c2 a j = c a j) → 0 ≤ v1 ∧ v1 ≤ 6 → 13 - 2 * v1 < (n : Int) → Wp sc (d + 8) 59 2 [(0, .ref sh), (1, vi v1)] [] (Wd P Q P P c2) 0 0 Z) := by
  intro n
  induction n with
  | zero => exact (by intro c2 v1 hI2 hF hv1 hm9; have hP := iv_P hI; have hQ := iv_Q hI; exfalso; omega)
  | succ n ih =>
    have hP := iv_P hI
    have hQ := iv_Q hI
    intro c2 v1 hI2 hF hv1 hm9
    refine q_iload_n c_59_2 rfl (q_aload_n c_59_3 rfl (v_gr (t := P) c_59_4 kf_4_15 (ck_sh hs) (a68sh hs) rfl ?_))
    have h_1 := ir_p0_0 hI hP
    have kn_2 : Hid (c2 P 0 = c P 0) := hF P 0 (by omega)
    refine v_gi (z := 0) (v := c P 0) c_59_7 kf_4_19 (ck_p0 hP) (a68z hP) rfl rfl (hid kn_2) ?_
    by_cases h_3 : v1 ≥ c P 0
    · refine v_ic_ge_t (t := 40) c_59_10 rfl ⟨by first | exact q_730ab5169 h_1 | omega, h_3, (Int.le_trans hv1.2 (by decide))⟩ (q_aload_n c_59_40 rfl (v_gr (t := s) c_59_41 kf_4_11 (ck_sh hs) (a68sh hs) rfl (v_bip c_59_44 (by decide) (q_dup2 c_59_46 ⟨rfl, rfl⟩ ?_))))
      have h_4 := ir_s hI2 hs 31
      refine v_ia (v := c2 s 31) c_59_47 (ck_s hs) (a68s hs) (by decide) (by decide) rfl (q_iconst c_59_48 (v_iadd (v := c2 s 31 + 1) c_59_49 rfl (v_nrm (fun y_5 hy_5 => (v_is c_59_50 (ck_s hs) (a68s hs) (by decide) (by decide) (q_vret rfl rfl ?_))))))
      have hI_6 := iwr1 (a := s) (j := 31) (v := y_5) hI2 (rs_cs hs) (by decide) ⟨hy_5.1, hy_5.2⟩
      exact K (up c2 s 31 y_5) hI_6 (fun a j hm => (up_b (Decidable.or_iff_not_imp_left.mpr (fun h1 h2 => hm (Decidable.not_not.mp h1)))).trans (hF a j hm))
    · refine v_ic_ge_f (t := 40) c_59_10 rfl ⟨(Int.le_trans (by decide) hv1.1), (Int.not_le.mp h_3), by first | exact q_b289b7db2 h_1 | omega⟩ (q_aload_n c_59_13 rfl (q_iload_n c_59_14 rfl ?_))
      have h_7 := ir_s_g hI2 hs (j := 4 * v1) (by first | exact q_aa51b186e h_1 h_3 | omega)
      have h_8 := ir_s_g hI2 hs (j := 4 * v1 + 1) (by first | exact q_57851f9de h_1 h_3 | omega)
      have h_9 := ir_s_g hI2 hs (j := 4 * v1 + 2) (by first | exact q_7296e74e6 h_1 h_3 | omega)
      have h_10 := ir_s_g hI2 hs (j := 4 * v1 + 3) (by first | exact q_b15525c4c h_1 h_3 | omega)
      refine v_cv c_59_15 km_4_38 rfl (ck_sh hs) (a68sh hs) ⟨⟨rfl, rfl⟩, by decide, rfl⟩ (nb_ rfl) (nb_ rfl) (s_43 (v1 := c2 s (4 * v1)) (v2 := c2 s (4 * v1 + 1)) (v3 := c2 s (4 * v1 + 2)) (v4 := c2 s (4 * v1 + 3)) (r := c2 s (4 * v1 + 1) + c2 s (4 * v1 + 2) + c2 s (4 * v1 + 3) + c2 s (4 * v1)) (a1 := v1) hI2 hs (show 0 ≤ v1 ∧ v1 ≤ 5 from ⟨hv1.1, by first | exact q_d63a8538e h_1 h_3 | omega⟩) (rfl) (rfl) (rfl) (rfl) (by omega) (bk_inl ?_))
      by_cases h_11 : c2 s (4 * v1 + 1) + c2 s (4 * v1 + 2) + c2 s (4 * v1 + 3) + c2 s (4 * v1) ≤ 0
      · refine v_if_le_t (t := 34) c_59_18 rfl ⟨by first | exact q_94559468f h_10 h_7 h_8 h_9 | omega, h_11, by decide⟩ (v_iinc (v := v1 + 1) c_59_34 rfl (nb_ rfl) rfl (q_goto (t := 2) c_59_37 rfl (Wp_ls [(0, .ref sh), (1, vi (v1 + 1))] (lsub_cons rfl (lsub_cons rfl lsub_nil)) ?_)))
        exact ih c2 (v1 + 1) hI2 (fun a j hm => hF a j hm) ⟨by first | exact rgp_l hv1.1 (by decide) | omega, by first | exact q_4a76cd9c7 h_1 h_3 | omega⟩ (by omega)
      · refine v_if_le_f (t := 34) c_59_18 rfl ⟨by decide, (Int.not_le.mp h_11), by first | exact q_f81653045 h_10 h_7 h_8 h_9 | omega⟩ (q_aload_n c_59_21 rfl (v_gr (t := s) c_59_22 kf_4_11 (ck_sh hs) (a68sh hs) rfl (v_bip c_59_25 (by decide) (q_iload_n c_59_27 rfl (v_iadd (v := v1 + 24) c_59_28 (by first | exact q_1b47056ce | omega) (q_dup2 c_59_29 ⟨rfl, rfl⟩ ?_))))))
        have h_12 := ir_s hI2 hs (v1 + 24)
        refine v_ia (v := c2 s (v1 + 24)) c_59_30 (ck_s hs) (a68s hs) (by decide) ⟨by first | exact rgp_l hv1.1 (by decide) | omega, by first | exact q_fbbb1c60d hv1 | omega⟩ rfl (q_iconst c_59_31 (v_iadd (v := c2 s (v1 + 24) + 1) c_59_32 rfl (v_nrm (fun y_13 hy_13 => (v_is c_59_33 (ck_s hs) (a68s hs) (by decide) ⟨by first | exact rgp_l hv1.1 (by decide) | omega, by first | exact q_fbbb1c60d hv1 | omega⟩ (v_iinc (v := v1 + 1) c_59_34 rfl (nb_ rfl) rfl (q_goto (t := 2) c_59_37 rfl ?_)))))))
        have hI_14 := iwr1 (a := s) (j := v1 + 24) (v := y_13) hI2 (rs_cs hs) (by first | exact q_569400884 hv1 | omega) ⟨hy_13.1, hy_13.2⟩
        refine Wp_ls [(0, .ref sh), (1, vi (v1 + 1))] (lsub_cons rfl (lsub_cons rfl lsub_nil)) ?_
        exact ih (up c2 s (v1 + 24) y_13) (v1 + 1) hI_14 (fun a j hm => (up_b (Decidable.or_iff_not_imp_left.mpr (fun h1 h2 => hm (Decidable.not_not.mp h1)))).trans (hF a j hm)) ⟨by first | exact rgp_l hv1.1 (by decide) | omega, by first | exact q_4a76cd9c7 h_1 h_3 | omega⟩ (by omega)
set_option maxRecDepth 100000 in
set_option maxHeartbeats 4000000 in
theorem s_59 {sc : List Int32} {e : Int} {d u P Q sh s : Nat} {c : ME} {Z : AR → Prop} (hI : Iv u e P Q c) (hs : (sh = 37 ∧ s = 38) ∨ (sh = 39 ∧ s = 40)) (K : ∀ (c2 : ME), Iv u e P Q c2 → (∀ (a : Nat) (j : Int), ¬ (a = s) → c2 a j = c a j) → Z (.inl (none), Wd P Q P P c2, 0, 0)) : Wp sc (d + 8) 59 0 [(0, .ref sh)] [] (Wd P Q P P c) 0 0 Z := by
  have hP := iv_P hI
  have hQ := iv_Q hI
  refine q_iconst c_59_0 (q_istore_n c_59_1 (nb_ rfl) (Wp_ls [(0, .ref sh), (1, vi 0)] (lsub_cons rfl (lsub_cons rfl lsub_nil)) ?_))
  exact (s_59_l (sc := sc) (d := d) hI hs K 16) c 0 hI (fun a j hm => rfl) ⟨by decide, by decide⟩ (by omega)

set_option maxRecDepth 100000 in
set_option maxHeartbeats 4000000 in
theorem s_60 {sc : List Int32} {e : Int} {d u P Q sh s : Nat} {c : ME} {Z : AR → Prop} (hI : Iv u e P Q c) (hs : (sh = 37 ∧ s = 38) ∨ (sh = 39 ∧ s = 40)) (K : ∀ (c2 : ME) (y : Int), Iv u e P Q c2 → (∀ (a : Nat) (j : Int), ¬ (a = s) → c2 a j = c a j) → 0 ≤ y ∧ y ≤ 1 → Z (.inl (some (vi y)), Wd P Q P P c2, 0, 0)) : Wp sc (d + 9) 60 0 [(0, .ref sh)] [] (Wd P Q P P c) 0 0 Z := by
  have hP := iv_P hI
  have hQ := iv_Q hI
  refine q_aload_n c_60_0 rfl (v_gr (t := s) c_60_1 kf_4_11 (ck_sh hs) (a68sh hs) rfl (v_bip c_60_4 (by decide) ?_))
  have h_1 := ir_s hI hs 31
  refine v_ia (v := c s 31) c_60_6 (ck_s hs) (a68s hs) (by decide) (by decide) rfl (v_sip c_60_7 (by decide) ?_)
  by_cases h_2 : c s 31 < 400
  · refine v_ic_lt_t (t := 15) c_60_10 rfl ⟨h_1.1, h_2, by decide⟩ (q_aload_n c_60_15 rfl (v_cv c_60_16 km_4_101 rfl (ck_sh hs) (a68sh hs) ⟨⟨rfl, rfl⟩, by decide, rfl⟩ (nb_ rfl) (nb_ rfl) (s_59 hI hs (fun c_3 hI_4 hF_5 => (bk_inl (q_iconst c_60_19 (v_zret c_60_20 rfl (by decide) ?_)))))))
    exact K c_3 1 hI_4 (fun a j hm => hF_5 a j hm) ⟨by decide, by decide⟩
  · refine v_ic_lt_f (t := 15) c_60_10 rfl ⟨by decide, (Int.not_lt.mp h_2), h_1.2⟩ (q_iconst c_60_13 (v_zret c_60_14 rfl (by decide) ?_))
    exact K c 0 hI (fun a j hm => rfl) ⟨by decide, by decide⟩

set_option maxRecDepth 100000 in
set_option maxHeartbeats 4000000 in
theorem s_61 {sc : List Int32} {e : Int} {d u P Q sh s : Nat} {c : ME} {a1 : Int} {Z : AR → Prop} (hI : Iv u e P Q c) (hs : (sh = 37 ∧ s = 38) ∨ (sh = 39 ∧ s = 40)) (ha1 : (-2147483648) ≤ a1 ∧ a1 ≤ 2147483647) (K : ∀ (c2 : ME), Iv u e P Q c2 → (∀ (a : Nat) (j : Int), ¬ (a = s) → c2 a j = c a j) → Z (.inl (none), Wd P Q P P c2, 0, 0)) : Wp sc (d + 7) 61 0 [(0, .ref sh), (1, vi a1)] [] (Wd P Q P P c) 0 0 Z := by
  have hP := iv_P hI
  have hQ := iv_Q hI
  refine q_aload_n c_61_0 rfl (v_gr (t := s) c_61_1 kf_4_11 (ck_sh hs) (a68sh hs) rfl (v_bip c_61_4 (by decide) (q_dup2 c_61_6 ⟨rfl, rfl⟩ ?_)))
  have h_1 := ir_s hI hs 30
  refine v_ia (v := c s 30) c_61_7 (ck_s hs) (a68s hs) (by decide) (by decide) rfl (q_iconst c_61_8 (q_iload_n c_61_9 rfl (v_ishlx c_61_10 (fun y_2 hy_2 => (v_ixorx c_61_11 (fun y_3 hy_3 => (v_is c_61_12 (ck_s hs) (a68s hs) (by decide) (by decide) (q_vret rfl rfl ?_))))))))
  have hI_4 := iwr1 (a := s) (j := 30) (v := y_3) hI (rs_cs hs) (by decide) ⟨hy_3.1, hy_3.2⟩
  exact K (up c s 30 y_3) hI_4 (fun a j hm => up_b (Decidable.or_iff_not_imp_left.mpr (fun h1 h2 => hm (Decidable.not_not.mp h1))))

set_option maxRecDepth 100000 in
set_option maxHeartbeats 4000000 in
theorem s_62 {sc : List Int32} {d P Q : Nat} {c : ME} {t : Int} {Z : AR → Prop} (hI : Iv 0 (-1) P Q c) (ht : 0 ≤ t ∧ t ≤ 37) (K : ∀ (c2 : ME) (y : Int), Iv 0 (-1) P Q c2 → (∀ (a : Nat) (j : Int), ¬ (a = 38 ∨ a = (P + 10) ∨ a = (P + 11)) → c2 a j = c a j) → 0 ≤ y ∧ y ≤ 1 → Z (.inl (some (vi y)), Wd P Q P P c2, 0, 0)) : Wp sc (d + 12) 62 0 [(0, .ref 7), (1, .ref 37), (2, vi (5 * t))] [] (Wd P Q P P c) 0 0 Z := by
  have hP := iv_P hI
  have hQ := iv_Q hI
  have h_1 := ir_8 hI (5 * t)
  have h_2 := ir_8 hI (5 * t + 1)
  have h_3 := ir_8 hI (5 * t + 2)
  have h_4 := ir_8_2 hI (j := 5 * t + 2) (by first | (clear ht h_1 h_2 h_3; omega) | omega)
  have h_5 := ir_8 hI (5 * t + 3)
  have h_6 := ir_8 hI (5 * t + 4)
  have hso := ir_so (a := 8) hI (by unfold Sg; omega) (t := t) (by omega) (by omega)
  refine q_aload_n c_62_0 rfl (v_gr (t := 8) c_62_1 kf_3_11 rfl (nb_ rfl) rfl (q_iload_n c_62_4 rfl (q_iconst c_62_5 (v_iadd (v := 5 * t + 1) c_62_6 rfl (v_ia (v := c 8 (5 * t + 1)) c_62_7 rfl (by decide) (by decide) ⟨by first | exact q_1416f500c ht | omega, by first | exact q_6719517c6 ht | omega⟩ rfl (q_istore_n c_62_8 (nb_ rfl) (q_aload_n c_62_9 rfl ?_)))))))
  refine v_gr (t := 8) c_62_10 kf_3_11 rfl (nb_ rfl) rfl (q_iload_n c_62_13 rfl (q_iconst c_62_14 (v_iadd (v := 5 * t + 2) c_62_15 rfl (v_ia (v := c 8 (5 * t + 2)) c_62_16 rfl (by decide) (by decide) ⟨by first | exact q_ffaf02070 ht | omega, by first | exact q_311969902 ht | omega⟩ rfl (q_istore c_62_17 (nb_ rfl) (q_aload_n c_62_19 rfl (v_gr (t := 8) c_62_20 kf_3_11 rfl (nb_ rfl) rfl ?_)))))))
  refine q_iload_n c_62_23 rfl (q_iconst c_62_24 (v_iadd (v := 5 * t + 3) c_62_25 rfl (v_ia (v := c 8 (5 * t + 3)) c_62_26 rfl (by decide) (by decide) ⟨by first | exact q_a57922852 ht | omega, by first | exact q_be1adda5a ht | omega⟩ rfl (q_istore c_62_27 (nb_ rfl) (q_aload_n c_62_29 rfl (v_gr (t := 8) c_62_30 kf_3_11 rfl (nb_ rfl) rfl (q_iload_n c_62_33 rfl ?_)))))))
  refine v_ia (v := c 8 (5 * t)) c_62_34 rfl (by decide) (by decide) ⟨by first | exact q_455052922 ht | omega, by first | exact q_7c821fbfb ht | omega⟩ rfl ?_
  by_cases h_7 : c 8 (5 * t) = 0
  · skip
    refine v_tsw_i (t := 76) 0 c_62_35 (by omega) (by decide) rfl (by decide) (q_aload_n c_62_76 rfl (q_iload_n c_62_77 rfl (q_iload c_62_78 rfl (v_cv c_62_80 km_3_105 rfl rfl (nb_ rfl) ⟨⟨rfl, rfl⟩, nb_ rfl, rfl⟩ (nb_ rfl) (nb_ rfl) (s_44 (a1 := c 8 (5 * t + 1)) (a2 := c 8 (5 * t + 2)) hI (.inl ⟨rfl, rfl⟩) (show 0 ≤ c 8 (5 * t + 1) ∧ c 8 (5 * t + 1) ≤ 3 from ⟨h_2.1, by omega⟩) (show 0 ≤ c 8 (5 * t + 2) ∧ c 8 (5 * t + 2) ≤ 5 from ⟨h_3.1, by omega⟩) (fun c_8 y_11 hI_9 hF_10 hy_11 => (bk_inl (v_zret c_62_83 rfl (by omega) ?_))))))))
    exact K c_8 y_11 hI_9 (fun a j hm => hF_10 a j (fun h => hm (Or.inl h))) hy_11
  by_cases h_12 : c 8 (5 * t) = 1
  · skip
    refine v_tsw_i (t := 84) 1 rfl (by omega) (by decide) rfl (by decide) (q_aload_n c_62_84 rfl (q_iload_n c_62_85 rfl (q_iload c_62_86 rfl (q_iload c_62_88 rfl (q_aload_n c_62_90 rfl (v_gr (t := 8) c_62_91 kf_3_11 rfl (nb_ rfl) rfl (q_iload_n c_62_94 rfl ?_)))))))
    refine q_iconst c_62_95 (v_iadd (v := 5 * t + 4) c_62_96 rfl (v_ia (v := c 8 (5 * t + 4)) c_62_97 rfl (by decide) (by decide) ⟨by first | exact q_30157bdbc ht | omega, by first | exact q_481aa6703 ht | omega⟩ rfl (v_cv c_62_98 km_3_111 rfl rfl (nb_ rfl) ⟨⟨rfl, rfl⟩, nb_ rfl, rfl⟩ (nb_ rfl) (nb_ rfl) (s_53 (a1 := c 8 (5 * t + 1)) (a2 := c 8 (5 * t + 2)) (a3 := c 8 (5 * t + 3)) (a4 := c 8 (5 * t + 4)) hI (.inl ⟨rfl, rfl⟩) (show 0 ≤ c 8 (5 * t + 1) ∧ c 8 (5 * t + 1) ≤ 3 from ⟨h_2.1, by first | (clear ht h_1 h_2 h_3 h_4 h_5 h_6 h_7; omega) | omega⟩) (show 0 ≤ c 8 (5 * t + 2) ∧ c 8 (5 * t + 2) ≤ 5 from ⟨h_3.1, by first | (clear ht h_1 h_2 h_3 h_4 h_5 h_6 h_7; omega) | omega⟩) (show 0 ≤ c 8 (5 * t + 3) ∧ c 8 (5 * t + 3) ≤ 5 from ⟨h_5.1, by first | (clear ht h_1 h_2 h_3 h_4 h_5 h_6 h_7; omega) | omega⟩) (show 0 ≤ c 8 (5 * t + 4) ∧ c 8 (5 * t + 4) ≤ 5 from ⟨h_6.1, by first | (clear ht h_1 h_2 h_3 h_4 h_5 h_6 h_7; omega) | omega⟩) (fun c_13 y_16 hI_14 hF_15 hy_16 => (bk_inl (v_zret c_62_101 rfl (by omega) ?_)))))))
    exact K c_13 y_16 hI_14 (fun a j hm => hF_15 a j (fun h => hm (Or.inl h))) hy_16
  by_cases h_17 : c 8 (5 * t) = 2
  · skip
    refine v_tsw_i (t := 102) 2 rfl (by omega) (by decide) rfl (by decide) (q_aload_n c_62_102 rfl (q_iload_n c_62_103 rfl (q_iload c_62_104 rfl (v_cv c_62_106 km_3_115 rfl rfl (nb_ rfl) ⟨⟨rfl, rfl⟩, nb_ rfl, rfl⟩ (nb_ rfl) (nb_ rfl) (s_55 (a1 := c 8 (5 * t + 1)) (a2 := c 8 (5 * t + 2)) hI (.inl ⟨rfl, rfl⟩) (show 0 ≤ c 8 (5 * t + 1) ∧ c 8 (5 * t + 1) ≤ 5 from ⟨h_2.1, by first | (clear ht h_1 h_2 h_3 h_4 h_5 h_6 h_7 h_12; omega) | omega⟩) (show 0 ≤ c 8 (5 * t + 2) ∧ c 8 (5 * t + 2) ≤ 5 from ⟨h_3.1, by first | (clear ht h_1 h_2 h_3 h_4 h_5 h_6 h_7 h_12; omega) | omega⟩) (fun c_18 y_21 hI_19 hF_20 hy_21 => (bk_inl (v_zret c_62_109 rfl (by omega) ?_))))))))
    exact K c_18 y_21 hI_19 (fun a j hm => hF_20 a j (fun h => hm (Or.inl h))) hy_21
  by_cases h_22 : c 8 (5 * t) = 3
  · skip
    refine v_tsw_i (t := 110) 3 rfl (by omega) (by decide) rfl (by decide) (q_aload_n c_62_110 rfl (q_iload_n c_62_111 rfl (q_iload c_62_112 rfl (q_iload c_62_114 rfl (v_cv c_62_116 km_3_118 rfl rfl (nb_ rfl) ⟨⟨rfl, rfl⟩, nb_ rfl, rfl⟩ (nb_ rfl) (nb_ rfl) (s_54 (a1 := c 8 (5 * t + 1)) (a2 := c 8 (5 * t + 2)) (a3 := c 8 (5 * t + 3)) hI (.inl ⟨rfl, rfl⟩) (show 0 ≤ c 8 (5 * t + 1) ∧ c 8 (5 * t + 1) ≤ 5 from ⟨h_2.1, by first | (clear ht h_1 h_2 h_3 h_4 h_5 h_6 h_7 h_12 h_17; omega) | omega⟩) (show 0 ≤ c 8 (5 * t + 2) ∧ c 8 (5 * t + 2) ≤ 5 from ⟨h_3.1, by first | (clear ht h_1 h_2 h_3 h_4 h_5 h_6 h_7 h_12 h_17; omega) | omega⟩) (show 0 ≤ c 8 (5 * t + 3) ∧ c 8 (5 * t + 3) ≤ 99999 from h_5) (fun c_23 y_26 hI_24 hF_25 hy_26 => (bk_inl (v_zret c_62_119 rfl (by omega) ?_)))))))))
    exact K c_23 y_26 hI_24 (fun a j hm => hF_25 a j (fun h => hm (Or.inl h))) hy_26
  by_cases h_27 : c 8 (5 * t) = 4
  · skip
    refine v_tsw_i (t := 131) 4 rfl (by omega) (by decide) rfl (by decide) (q_aload_n c_62_131 rfl (q_iload_n c_62_132 rfl (v_cv c_62_133 km_3_129 rfl rfl (nb_ rfl) ⟨⟨rfl, rfl⟩, nb_ rfl, rfl⟩ (nb_ rfl) (nb_ rfl) (s_61 (a1 := c 8 (5 * t + 1)) hI (.inl ⟨rfl, rfl⟩) (show (-2147483648) ≤ c 8 (5 * t + 1) ∧ c 8 (5 * t + 1) ≤ 2147483647 from ⟨(Int.le_trans (by decide) h_2.1), (Int.le_trans h_2.2 (by decide))⟩) (fun c_28 hI_29 hF_30 => (bk_inl (q_iconst c_62_136 (v_zret c_62_137 rfl (by decide) ?_))))))))
    exact K c_28 1 hI_29 (fun a j hm => hF_30 a j (fun h => hm (Or.inl h))) ⟨by decide, by decide⟩
  by_cases h_31 : c 8 (5 * t) = 5
  · skip
    refine v_tsw_i (t := 120) 5 rfl (by omega) (by decide) rfl (by decide) (q_aload_n c_62_120 rfl (q_iload_n c_62_121 rfl (v_cv c_62_122 km_3_122 rfl rfl (nb_ rfl) ⟨⟨rfl, rfl⟩, nb_ rfl, rfl⟩ (nb_ rfl) (nb_ rfl) (s_58 (a1 := c 8 (5 * t + 1)) hI (.inl ⟨rfl, rfl⟩) (show 0 ≤ c 8 (5 * t + 1) ∧ c 8 (5 * t + 1) ≤ 5 from ⟨h_2.1, by first | (clear ht h_1 h_2 h_3 h_4 h_5 h_6 h_7 h_12 h_17 h_22 h_27; omega) | omega⟩) (fun c_32 y_35 hI_33 hF_34 hy_35 => (bk_inl (v_zret c_62_125 rfl (by omega) ?_)))))))
    exact K c_32 y_35 hI_33 (fun a j hm => hF_34 a j hm) hy_35
  by_cases h_36 : c 8 (5 * t) = 6
  · skip
    refine v_tsw_i (t := 126) 6 rfl (by omega) (by decide) rfl (by decide) (q_aload_n c_62_126 rfl (v_cv c_62_127 km_3_126 rfl rfl (nb_ rfl) ⟨⟨rfl, rfl⟩, nb_ rfl, rfl⟩ (nb_ rfl) (nb_ rfl) (s_60 hI (.inl ⟨rfl, rfl⟩) (fun c_37 y_40 hI_38 hF_39 hy_40 => (bk_inl (v_zret c_62_130 rfl (by omega) ?_))))))
    exact K c_37 y_40 hI_38 (fun a j hm => hF_39 a j (fun h => hm (Or.inl h))) hy_40
  refine v_tsw_o (t := 131) rfl (by omega) (by decide) (q_aload_n c_62_131 rfl (q_iload_n c_62_132 rfl (v_cv c_62_133 km_3_129 rfl rfl (nb_ rfl) ⟨⟨rfl, rfl⟩, nb_ rfl, rfl⟩ (nb_ rfl) (nb_ rfl) (s_61 (a1 := c 8 (5 * t + 1)) hI (.inl ⟨rfl, rfl⟩) (show (-2147483648) ≤ c 8 (5 * t + 1) ∧ c 8 (5 * t + 1) ≤ 2147483647 from ⟨(Int.le_trans (by decide) h_2.1), (Int.le_trans h_2.2 (by decide))⟩) (fun c_41 hI_42 hF_43 => (bk_inl (q_iconst c_62_136 (v_zret c_62_137 rfl (by decide) ?_))))))))
  exact K c_41 1 hI_42 (fun a j hm => hF_43 a j (fun h => hm (Or.inl h))) ⟨by decide, by decide⟩
end
section
/-! ===== contracts 6 ===== -/
theorem q_7e9f7d5fb {x0 : Int} : x0 * 5 = 5 * x0 := by omega
theorem qn_50c79f576 {P : Nat} {j : Int} (hP : P = 13 ∨ P = 25) : ¬ (((8 : Nat) = 7 ∧ j = 1) ∨ ((8 : Nat) = 7 ∧ j = 3) ∨ ((8 : Nat) = 7 ∧ j = 4) ∨ (8 : Nat) = 38 ∨ (8 : Nat) = (P + 10) ∨ (8 : Nat) = (P + 11)) := (fun q => q.elim (fun h => absurd h.1 (nn rfl)) (fun q => q.elim (fun h => absurd h.1 (nn rfl)) (fun q => q.elim (fun h => absurd h.1 (nn rfl)) (fun q => q.elim (fun h => absurd h (nn rfl)) (fun q => q.elim (fun h => absurd h (pn hP rfl rfl)) (fun h => absurd h (pn hP rfl rfl)))))))
theorem q_a19b34be3 {x0 x1 : Int} (f0 : ¬ (x0 ≥ x1)) (f1 : 0 ≤ x1 ∧ x1 ≤ 38) : 5 * x0 < 190 := by omega
theorem q_02a5b5c27 {x0 : Int} (f0 : 0 ≤ x0 ∧ x0 ≤ 99999) : (-2147483648) ≤ x0 := by omega
theorem q_f4295f9df {x0 : Int} (f0 : 0 ≤ x0 ∧ x0 ≤ 99999) : x0 ≤ 2147483647 := by omega
theorem q_6a4e5184f {x0 : Int} (f0 : ¬ (x0 ≥ 200)) : x0 + 1 ≤ 200 := by omega
theorem qn_5bba11e65 {P : Nat} (hP : P = 13 ∨ P = 25) : ¬ ((7 : Nat) = 38 ∨ (7 : Nat) = (P + 10) ∨ (7 : Nat) = (P + 11)) := (fun q => q.elim (fun h => absurd h (nn rfl)) (fun q => q.elim (fun h => absurd h (pn hP rfl rfl)) (fun h => absurd h (pn hP rfl rfl))))
theorem qv_b29cc1a18 {P : Nat} {a : Nat} {j : Int} (hm : ¬ ((a = 7 ∧ j = 1) ∨ (a = 7 ∧ j = 3) ∨ (a = 7 ∧ j = 4) ∨ a = 38 ∨ a = (P + 10) ∨ a = (P + 11))) : ¬ (a = 38 ∨ a = (P + 10) ∨ a = (P + 11)) := (fun q => q.elim (fun h => hm (Or.inr (Or.inr (Or.inr (Or.inl h))))) (fun q => q.elim (fun h => hm (Or.inr (Or.inr (Or.inr (Or.inr (Or.inl h)))))) (fun h => hm (Or.inr (Or.inr (Or.inr (Or.inr (Or.inr h))))))))
theorem q_f1fd3febd {x0 x1 : Int} (f0 : ¬ (x0 ≥ x1)) (f1 : 0 ≤ x1 ∧ x1 ≤ 38) : x0 + 1 ≤ 38 := by omega
theorem q_da5b99998 {x0 : Int} (f0 : 0 ≤ x0 ∧ x0 ≤ 38) : 0 ≤ 5 * x0 + 2 := by omega
theorem q_aabb04a91 {x0 x1 : Int} (f0 : ¬ (x0 ≥ x1)) (f1 : 0 ≤ x1 ∧ x1 ≤ 38) : 5 * x0 + 2 < 190 := by omega
theorem q_8213456cf {x0 x1 : Int} (f0 : ¬ (x0 ≥ x1)) (f1 : 0 ≤ x1 ∧ x1 ≤ 38) : 5 * x0 ≤ 185 := by omega
theorem q_07e1df2eb {x0 : Int} (f0 : 0 ≤ x0 ∧ x0 ≤ 99999) : 0 ≤ x0 := by omega
theorem q_7af0ec580 {x0 : Int} (f0 : x0 ≤ 38) : x0 ≤ 38 := by omega
theorem q_e2a7bf5e9 {x0 : Int} (f0 : ¬ (x0 > 6)) : x0 ≤ 6 := by omega
theorem q_f5f6b62ea {x0 : Int} (f0 : 0 ≤ x0 ∧ x0 ≤ 185) : x0 + 1 < 190 := by omega
theorem q_9b8e93030 {x0 x1 : Int} (f0 : 0 ≤ x0 ∧ x0 ≤ 99999) (f1 : ¬ (x1 ≥ x0)) : x1 + 1 ≤ 99999 := by omega
theorem q_b64c086c4 {x0 : Int} (f0 : 0 ≤ x0 ∧ x0 ≤ 185) : 0 ≤ x0 := by omega
theorem c_63_3 : mLk 63 3 = some (.iload 5, 2) := rfl
theorem c_63_5 : mLk 63 5 = some (.iload_n 3, 1) := rfl
theorem c_63_6 : mLk 63 6 = some (.if_icmp .ge 156, 3) := rfl
theorem c_63_9 : mLk 63 9 = some (.aload_n 0, 1) := rfl
theorem c_63_10 : mLk 63 10 = some (.getfield 15, 3) := rfl
theorem c_63_13 : mLk 63 13 = some (.sipush 200, 3) := rfl
theorem c_63_16 : mLk 63 16 = some (.if_icmp .ge 146, 3) := rfl
theorem c_63_19 : mLk 63 19 = some (.iload 4, 2) := rfl
theorem c_63_21 : mLk 63 21 = some (.bipush 6, 2) := rfl
theorem c_63_23 : mLk 63 23 = some (.if_icmp .gt 139, 3) := rfl
theorem c_63_26 : mLk 63 26 = some (.iload 5, 2) := rfl
theorem c_63_28 : mLk 63 28 = some (.iconst 5, 1) := rfl
theorem c_63_29 : mLk 63 29 = some (.imul, 1) := rfl
theorem c_63_30 : mLk 63 30 = some (.istore 6, 2) := rfl
theorem c_63_32 : mLk 63 32 = some (.aload_n 0, 1) := rfl
theorem c_63_33 : mLk 63 33 = some (.dup, 1) := rfl
theorem c_63_34 : mLk 63 34 = some (.getfield 15, 3) := rfl
theorem c_63_37 : mLk 63 37 = some (.iconst 1, 1) := rfl
theorem c_63_38 : mLk 63 38 = some (.iadd, 1) := rfl
theorem c_63_39 : mLk 63 39 = some (.putfield 15, 3) := rfl
theorem c_63_42 : mLk 63 42 = some (.iinc 5 1, 3) := rfl
theorem c_63_45 : mLk 63 45 = some (.aload_n 0, 1) := rfl
theorem c_63_46 : mLk 63 46 = some (.getfield 11, 3) := rfl
theorem c_63_49 : mLk 63 49 = some (.iload 6, 2) := rfl
theorem c_63_51 : mLk 63 51 = some (.iaload, 1) := rfl
theorem c_63_52 : mLk 63 52 = some (.bipush 7, 2) := rfl
theorem c_63_54 : mLk 63 54 = some (.if_icmp .ne 72, 3) := rfl
theorem c_63_126 : mLk 63 126 = some (.aload_n 0, 1) := rfl
theorem c_63_127 : mLk 63 127 = some (.aload_n 1, 1) := rfl
theorem c_63_128 : mLk 63 128 = some (.iload 6, 2) := rfl
theorem c_63_130 : mLk 63 130 = some (.invokevirtual 101, 3) := rfl
theorem c_63_133 : mLk 63 133 = some (.ifCond .eq 16, 3) := rfl
theorem c_63_149 : mLk 63 149 = some (.aload_n 0, 1) := rfl
theorem c_63_150 : mLk 63 150 = some (.dup, 1) := rfl
theorem c_63_151 : mLk 63 151 = some (.getfield 25, 3) := rfl
theorem c_63_154 : mLk 63 154 = some (.iconst 1, 1) := rfl
theorem c_63_155 : mLk 63 155 = some (.iadd, 1) := rfl
theorem c_63_156 : mLk 63 156 = some (.putfield 25, 3) := rfl
theorem c_63_159 : mLk 63 159 = some (.goto (-156), 3) := rfl
theorem c_63_136 : mLk 63 136 = some (.aload_n 0, 1) := rfl
theorem c_63_137 : mLk 63 137 = some (.dup, 1) := rfl
theorem c_63_138 : mLk 63 138 = some (.getfield 22, 3) := rfl
theorem c_63_141 : mLk 63 141 = some (.iconst 1, 1) := rfl
theorem c_63_142 : mLk 63 142 = some (.iadd, 1) := rfl
theorem c_63_143 : mLk 63 143 = some (.putfield 22, 3) := rfl
theorem c_63_146 : mLk 63 146 = some (.goto 13, 3) := rfl
theorem c_63_57 : mLk 63 57 = some (.aload_n 0, 1) := rfl
theorem c_63_58 : mLk 63 58 = some (.getfield 11, 3) := rfl
theorem c_63_61 : mLk 63 61 = some (.iload 6, 2) := rfl
theorem c_63_63 : mLk 63 63 = some (.iconst 2, 1) := rfl
theorem c_63_64 : mLk 63 64 = some (.iadd, 1) := rfl
theorem c_63_65 : mLk 63 65 = some (.iaload, 1) := rfl
theorem c_63_66 : mLk 63 66 = some (.istore 7, 2) := rfl
theorem c_63_68 : mLk 63 68 = some (.iconst 0, 1) := rfl
theorem c_63_69 : mLk 63 69 = some (.istore 8, 2) := rfl
theorem c_63_71 : mLk 63 71 = some (.iload 8, 2) := rfl
theorem c_63_73 : mLk 63 73 = some (.aload_n 0, 1) := rfl
theorem c_63_74 : mLk 63 74 = some (.getfield 11, 3) := rfl
theorem c_63_77 : mLk 63 77 = some (.iload 6, 2) := rfl
theorem c_63_79 : mLk 63 79 = some (.iconst 1, 1) := rfl
theorem c_63_80 : mLk 63 80 = some (.iadd, 1) := rfl
theorem c_63_81 : mLk 63 81 = some (.iaload, 1) := rfl
theorem c_63_82 : mLk 63 82 = some (.if_icmp .ge 32, 3) := rfl
theorem c_63_114 : mLk 63 114 = some (.iload 5, 2) := rfl
theorem c_63_116 : mLk 63 116 = some (.iload 7, 2) := rfl
theorem c_63_118 : mLk 63 118 = some (.invokestatic 95, 3) := rfl
theorem c_63_121 : mLk 63 121 = some (.istore 5, 2) := rfl
theorem c_63_123 : mLk 63 123 = some (.goto 36, 3) := rfl
theorem c_63_85 : mLk 63 85 = some (.aload_n 0, 1) := rfl
theorem c_63_86 : mLk 63 86 = some (.getfield 15, 3) := rfl
theorem c_63_89 : mLk 63 89 = some (.sipush 200, 3) := rfl
theorem c_63_92 : mLk 63 92 = some (.if_icmp .ge 22, 3) := rfl
theorem c_63_95 : mLk 63 95 = some (.aload_n 0, 1) := rfl
theorem c_63_96 : mLk 63 96 = some (.aload_n 1, 1) := rfl
theorem c_63_97 : mLk 63 97 = some (.iload 5, 2) := rfl
theorem c_63_99 : mLk 63 99 = some (.iload 7, 2) := rfl
theorem c_63_101 : mLk 63 101 = some (.iload 4, 2) := rfl
theorem c_63_103 : mLk 63 103 = some (.iconst 1, 1) := rfl
theorem c_63_104 : mLk 63 104 = some (.iadd, 1) := rfl
theorem c_63_105 : mLk 63 105 = some (.invokevirtual 91, 3) := rfl
theorem c_63_108 : mLk 63 108 = some (.iinc 8 1, 3) := rfl
theorem c_63_111 : mLk 63 111 = some (.goto (-40), 3) := rfl
theorem c_63_0 : mLk 63 0 = some (.iload_n 2, 1) := rfl
theorem c_63_1 : mLk 63 1 = some (.istore 5, 2) := rfl
theorem km_3_101 : a_lk (kM 3) 101 = some (0, 62) := rfl
theorem km_3_91 : a_lk (kM 3) 91 = some (0, 63) := rfl
set_option maxRecDepth 100000 in
set_option maxHeartbeats 4000000 in
theorem s_63_l {sc : List Int32} {d P Q : Nat} {c : ME} {a2 : Int} {a3 : Int} {a4 : Int} {Z : AR → Prop} (hI : Iv 0 (-1) P Q c) (ha2 : 0 ≤ a2 ∧ a2 ≤ 38) (ha3 : 0 ≤ a3 ∧ a3 ≤ 38) (ha4 : 0 ≤ a4 ∧ a4 ≤ 7) (H63 : ∀ (c : ME) (a2 : Int) (a3 : Int) (Z : AR → Prop), a4 + 1 ≤ 7 → Iv 0 (-1) P Q c → 0 ≤ a2 ∧ a2 ≤ 38 → 0 ≤ a3 ∧ a3 ≤ 38 → (∀ c2 : ME, Iv 0 (-1) P Q c2 → (∀ (a : Nat) (j : Int), ¬ ((a = 7 ∧ j = 1) ∨ (a = 7 ∧ j = 3) ∨ (a = 7 ∧ j = 4) ∨ a = 38 ∨ a = (P + 10) ∨ a = (P + 11)) → c2 a j = c a j) → (c2 7 1 ≥ c 7 1) → Z (.inl none, Wd P Q P P c2, 0, 0)) → Wp sc (d + 13) 63 0 [(0, .ref 7), (1, .ref 37), (2, vi a2), (3, vi a3), (4, vi (a4 + 1))] [] (Wd P Q P P c) 0 0 Z) (K : ∀ (c2 : ME), Iv 0 (-1) P Q c2 → (∀ (a : Nat) (j : Int), ¬ ((a = 7 ∧ j = 1) ∨ (a = 7 ∧ j = 3) ∨ (a = 7 ∧ j = 4) ∨ a = 38 ∨ a = (P + 10) ∨ a = (P + 11)) → c2 a j = c a j) → ((c2 7 1 ≥ c 7 1)) → Z (.inl (none), Wd P Q P P c2, 0, 0)) : ∀ n : Nat, (∀ (c2 : ME) (v5 : Int), Iv 0 (-1) P Q c2 → (∀ (a : Nat) (j : Int), ¬ ((a = 7 ∧ j = 1) ∨ (a = 7 ∧ j = 3) ∨ (a = 7 ∧ j = 4) ∨ a = 38 ∨ a = (P + 10) ∨ a = (P + 11)) → c2 a j = c a j) → 0 ≤ v5 ∧ v5 ≤ 38 → ((c2 7 1 ≥ c 7 1)) → 40002000 - 200010 * c2 7 1 < (n : Int) → Wp sc (d + 14) 63 3 [(0, .ref 7), (1, .ref 37), (2, vi a2), (3, vi a3), (4, vi a4), (5, vi v5)] [] (Wd P Q P P c2) 0 0 Z) ∧ (∀ (c2 : ME) (v5 : Int) (v6 : Int) (v7 : Int) (v8 : Int), Iv 0 (-1) P Q c2 → (∀ (a : Nat) (j : Int), ¬ ((a = 7 ∧ j = 1) ∨ (a = 7 ∧ j = 3) ∨ (a = 7 ∧ j = 4) ∨ a = 38 ∨ a = (P + 10) ∨ a = (P + 11)) → c2 a j = c a j) → 1 ≤ v5 ∧ v5 ≤ 38 → 0 ≤ v6 ∧ v6 ≤ 185 → 0 ≤ v7 ∧ v7 ≤ 38 → 0 ≤ v8 ∧ v8 ≤ 99999 → ((v6 = 5 * v5 - 5)) → ((v6 ≥ 0)) → ((a4 ≤ 6)) → ((c2 7 1 ≥ c 7 1)) → 40202003 - 200010 * c2 7 1 - 2 * v8 < (n : Int) → Wp sc (d + 14) 63 71 [(0, .ref 7), (1, .ref 37), (2, vi a2), (3, vi a3), (4, vi a4), (5, vi v5), (6, vi v6), (7, vi v7), (8, vi v8)] [] (Wd P Q P P c2) 0 0 Z) := by
  intro n
  induction n with
  | zero => exact (by exact ⟨by (intro c2 v5 hI2 hF hv5 hx0 hm9; have hP := iv_P hI; have hQ := iv_Q hI; have h_45 := ir_7_1 hI2; exfalso; omega), by (intro c2 v5 v6 v7 v8 hI2 hF hv5 hv6 hv7 hv8 hx0 hx1 hx2 hx3 hm9; have hP := iv_P hI; have hQ := iv_Q hI; have h_46 := ir_7_1 hI2; exfalso; omega)⟩)
  | succ n ih =>
    have hP := iv_P hI
    have hQ := iv_Q hI
    refine ⟨?_, ?_⟩
    · skip
      intro c2 v5 hI2 hF hv5 hx0 hm9
      have h_1 := ir_7_1 hI
      have h_2 := ir_7_1 hI2
      refine q_iload c_63_3 rfl (q_iload_n c_63_5 rfl ?_)
      by_cases h_3 : v5 ≥ a3
      · refine v_ic_ge_t (t := 162) c_63_6 rfl ⟨(Int.le_trans (by decide) ha3.1), h_3, (Int.le_trans hv5.2 (by decide))⟩ (q_vret rfl rfl ?_)
        exact K c2 hI2 (fun a j hm => hF a j hm) (by omega)
      · refine v_ic_ge_f (t := 162) c_63_6 rfl ⟨(Int.le_trans (by decide) hv5.1), (Int.not_le.mp h_3), (Int.le_trans ha3.2 (by decide))⟩ (q_aload_n c_63_9 rfl (v_gi (z := 1) (v := c2 7 1) c_63_10 kf_3_15 rfl (nb_ rfl) rfl rfl rfl (v_sip c_63_13 (by decide) ?_)))
        by_cases h_4 : c2 7 1 ≥ 200
        · refine v_ic_ge_t (t := 162) c_63_16 rfl ⟨by decide, h_4, (Int.le_trans h_2.2 (by decide))⟩ (q_vret rfl rfl ?_)
          exact K c2 hI2 (fun a j hm => hF a j hm) (by omega)
        · refine v_ic_ge_f (t := 162) c_63_16 rfl ⟨(Int.le_trans (by decide) h_2.1), (Int.not_le.mp h_4), by decide⟩ (q_iload c_63_19 rfl (v_bip c_63_21 (by decide) ?_))
          by_cases h_5 : a4 > 6
          · refine v_ic_gt_t (t := 162) c_63_23 rfl ⟨by decide, h_5, (Int.le_trans ha4.2 (by decide))⟩ (q_vret rfl rfl ?_)
            exact K c2 hI2 (fun a j hm => hF a j hm) (by omega)
          · refine v_ic_gt_f (t := 162) c_63_23 rfl ⟨(Int.le_trans (by decide) ha4.1), (Int.not_lt.mp h_5), by decide⟩ (q_iload c_63_26 rfl (q_iconst c_63_28 (v_imul (v := 5 * v5) c_63_29 (by first | exact q_7e9f7d5fb | omega) (q_istore c_63_30 (nb_ rfl) (q_aload_n c_63_32 rfl (q_dup c_63_33 rfl (v_gi (z := 1) (v := c2 7 1) c_63_34 kf_3_15 rfl (nb_ rfl) rfl rfl rfl ?_)))))))
            refine q_iconst c_63_37 (v_iadd (v := c2 7 1 + 1) c_63_38 rfl (v_pi (z := 1) c_63_39 kf_3_15 rfl (nb_ rfl) rfl rfl rfl (by decide) (v_iinc (v := v5 + 1) c_63_42 rfl (nb_ rfl) rfl (q_aload_n c_63_45 rfl (v_gr (t := 8) c_63_46 kf_3_11 rfl (nb_ rfl) rfl (q_iload c_63_49 rfl ?_))))))
            have h_6 := ir_8 hI (5 * v5)
            have kn_7 : Hid (c2 8 (5 * v5) = c 8 (5 * v5)) := hF 8 (5 * v5) (qn_50c79f576 hP)
            refine v_ia (v := c 8 (5 * v5)) c_63_51 rfl (by decide) (by decide) ⟨by first | exact q_2c11af296 hv5 | omega, by first | exact q_a19b34be3 h_3 ha3 | omega⟩ ((up_c (nn rfl)).trans (hid kn_7)) (v_bip c_63_52 (by decide) ?_)
            by_cases h_8 : c 8 (5 * v5) ≠ 7
            · refine v_ic_ne_t (t := 126) c_63_54 rfl ⟨h_8, ⟨by first | exact q_02a5b5c27 h_6 | omega, by first | exact q_f4295f9df h_6 | omega⟩, by decide, by decide⟩ (q_aload_n c_63_126 rfl (q_aload_n c_63_127 rfl (q_iload c_63_128 rfl ?_)))
              have hI_9 := iw_7_1 (v := c2 7 1 + 1) hI2 ⟨by first | exact rgp_l h_2.1 (by decide) | omega, by first | exact q_6a4e5184f h_4 | omega⟩
              refine v_cv c_63_130 km_3_101 rfl rfl (nb_ rfl) ⟨⟨rfl, rfl⟩, nb_ rfl, rfl⟩ (nb_ rfl) (nb_ rfl) (s_62 (t := v5) hI_9 (show 0 ≤ v5 ∧ v5 ≤ 37 from by omega) (fun c_10 y_13 hI_11 hF_12 hy_13 => (bk_inl ?_)))
              by_cases h_14 : y_13 = 0
              · refine v_if_eq_t (t := 149) c_63_133 rfl h_14 (q_aload_n c_63_149 rfl (q_dup c_63_150 rfl ?_))
                have h_15 := ir_7_4 hI2
                have kn_16 : Hid (c_10 7 4 = c2 7 4) := (hF_12 7 4 (qn_5bba11e65 hP)).trans (up_n (by decide))
                refine v_gi (z := 4) (v := c2 7 4) c_63_151 kf_3_25 rfl (nb_ rfl) rfl rfl (hid kn_16) (q_iconst c_63_154 (v_iadd (v := c2 7 4 + 1) c_63_155 rfl (v_nrm (fun y_17 hy_17 => (v_pi (z := 4) c_63_156 kf_3_25 rfl (nb_ rfl) rfl rfl rfl (by decide) (q_goto (t := 3) c_63_159 rfl ?_))))))
                have hI_18 := iw_7_4 (v := y_17) hI_11 ⟨hy_17.1, hy_17.2⟩
                refine Wp_ls [(0, .ref 7), (1, .ref 37), (2, vi a2), (3, vi a3), (4, vi a4), (5, vi (v5 + 1))] (lsub_cons rfl (lsub_cons rfl (lsub_cons rfl (lsub_cons rfl (lsub_cons rfl (lsub_cons rfl lsub_nil)))))) ?_
                have kn_19 : Hid (c_10 7 1 = c2 7 1 + 1) := (hF_12 7 1 (qn_5bba11e65 hP)).trans (up_e rfl)
                have h_20 : (up c_10 7 4 y_17) 7 1 = c2 7 1 + 1 := ((up_n (by decide)).trans (hid kn_19))
                exact ih.1 (up c_10 7 4 y_17) (v5 + 1) hI_18 (fun a j hm => (up_b (Decidable.or_iff_not_imp_left.mpr (fun h1 h2 => hm (Or.inr (Or.inr (Or.inl ⟨Decidable.not_not.mp h1, h2⟩)))))).trans ((hF_12 a j (qv_b29cc1a18 hm)).trans ((up_b (Decidable.or_iff_not_imp_left.mpr (fun h1 h2 => hm (Or.inl ⟨Decidable.not_not.mp h1, h2⟩)))).trans (hF a j hm)))) ⟨by first | exact rgp_l hv5.1 (by decide) | omega, by first | exact q_f1fd3febd h_3 ha3 | omega⟩ (by first | (clear ha2 ha3 ha4 hv5 h_1 h_2 h_3 h_4 h_5 h_6 h_14 h_15 h_8; omega) | omega) (by omega)
              · refine v_if_eq_f (t := 149) c_63_133 rfl ⟨h_14, ⟨(Int.le_trans (by decide) hy_13.1), (Int.le_trans hy_13.2 (by decide))⟩, by decide, by decide⟩ (q_aload_n c_63_136 rfl (q_dup c_63_137 rfl ?_))
                have h_21 := ir_7_3 hI2
                have kn_22 : Hid (c_10 7 3 = c2 7 3) := (hF_12 7 3 (qn_5bba11e65 hP)).trans (up_n (by decide))
                refine v_gi (z := 3) (v := c2 7 3) c_63_138 kf_3_22 rfl (nb_ rfl) rfl rfl (hid kn_22) (q_iconst c_63_141 (v_iadd (v := c2 7 3 + 1) c_63_142 rfl (v_nrm (fun y_23 hy_23 => (v_pi (z := 3) c_63_143 kf_3_22 rfl (nb_ rfl) rfl rfl rfl (by decide) (q_goto (t := 159) c_63_146 rfl (q_goto (t := 3) c_63_159 rfl ?_)))))))
                have hI_24 := iw_7_3 (v := y_23) hI_11 ⟨hy_23.1, hy_23.2⟩
                refine Wp_ls [(0, .ref 7), (1, .ref 37), (2, vi a2), (3, vi a3), (4, vi a4), (5, vi (v5 + 1))] (lsub_cons rfl (lsub_cons rfl (lsub_cons rfl (lsub_cons rfl (lsub_cons rfl (lsub_cons rfl lsub_nil)))))) ?_
                have kn_25 : Hid (c_10 7 1 = c2 7 1 + 1) := (hF_12 7 1 (qn_5bba11e65 hP)).trans (up_e rfl)
                have h_26 : (up c_10 7 3 y_23) 7 1 = c2 7 1 + 1 := ((up_n (by decide)).trans (hid kn_25))
                exact ih.1 (up c_10 7 3 y_23) (v5 + 1) hI_24 (fun a j hm => (up_b (Decidable.or_iff_not_imp_left.mpr (fun h1 h2 => hm (Or.inr (Or.inl ⟨Decidable.not_not.mp h1, h2⟩))))).trans ((hF_12 a j (qv_b29cc1a18 hm)).trans ((up_b (Decidable.or_iff_not_imp_left.mpr (fun h1 h2 => hm (Or.inl ⟨Decidable.not_not.mp h1, h2⟩)))).trans (hF a j hm)))) ⟨by first | exact rgp_l hv5.1 (by decide) | omega, by first | exact q_f1fd3febd h_3 ha3 | omega⟩ (by first | (clear ha2 ha3 ha4 hv5 h_1 h_2 h_3 h_4 h_5 h_6 h_21 h_8 h_14; omega) | omega) (by omega)
            · refine v_ic_ne_f (t := 126) c_63_54 rfl (Decidable.not_not.mp h_8) (q_aload_n c_63_57 rfl (v_gr (t := 8) c_63_58 kf_3_11 rfl (nb_ rfl) rfl (q_iload c_63_61 rfl (q_iconst c_63_63 (v_iadd (v := 5 * v5 + 2) c_63_64 rfl ?_)))))
              have h_27 := ir_8 hI (5 * v5 + 2)
              have h_28 := ir_8_2 hI (j := 5 * v5 + 2) (by first | (clear ha2 ha3 ha4 hv5 hx0 h_1 h_2 h_3 h_4 h_5 h_6 h_8 h_27; omega) | omega)
              have kn_29 : Hid (c2 8 (5 * v5 + 2) = c 8 (5 * v5 + 2)) := hF 8 (5 * v5 + 2) (qn_50c79f576 hP)
              refine v_ia (v := c 8 (5 * v5 + 2)) c_63_65 rfl (by decide) (by decide) ⟨by first | exact q_da5b99998 hv5 | omega, by first | exact q_aabb04a91 h_3 ha3 | omega⟩ ((up_c (nn rfl)).trans (hid kn_29)) (q_istore c_63_66 (nb_ rfl) (q_iconst c_63_68 (q_istore c_63_69 (nb_ rfl) ?_)))
              have hI_30 := iw_7_1 (v := c2 7 1 + 1) hI2 ⟨by first | exact rgp_l h_2.1 (by decide) | omega, by first | exact q_6a4e5184f h_4 | omega⟩
              refine Wp_ls [(0, .ref 7), (1, .ref 37), (2, vi a2), (3, vi a3), (4, vi a4), (5, vi (v5 + 1)), (6, vi (5 * v5)), (7, vi (c 8 (5 * v5 + 2))), (8, vi 0)] (lsub_cons rfl (lsub_cons rfl (lsub_cons rfl (lsub_cons rfl (lsub_cons rfl (lsub_cons rfl (lsub_cons rfl (lsub_cons rfl (lsub_cons rfl lsub_nil))))))))) ?_
              have h_31 : (up c2 7 1 (c2 7 1 + 1)) 7 1 = c2 7 1 + 1 := (up_e rfl)
              exact ih.2 (up c2 7 1 (c2 7 1 + 1)) (v5 + 1) (5 * v5) (c 8 (5 * v5 + 2)) 0 hI_30 (fun a j hm => (up_b (Decidable.or_iff_not_imp_left.mpr (fun h1 h2 => hm (Or.inl ⟨Decidable.not_not.mp h1, h2⟩)))).trans (hF a j hm)) ⟨by first | exact rgp_l hv5.1 (by decide) | omega, by first | exact q_f1fd3febd h_3 ha3 | omega⟩ ⟨by first | exact q_2c11af296 hv5 | omega, by first | exact q_8213456cf h_3 ha3 | omega⟩ ⟨by first | exact q_07e1df2eb h_27 | omega, by first | exact q_7af0ec580 h_28 | omega⟩ ⟨by decide, by decide⟩ (by first | assumption | omega) (by first | exact q_2c11af296 hv5 | omega) (by first | exact q_e2a7bf5e9 h_5 | omega) (by first | (clear ha2 ha3 ha4 hv5 h_1 h_2 h_3 h_4 h_5 h_6 h_8 h_27 h_28; omega) | omega) (by omega)
    · skip
      intro c2 v5 v6 v7 v8 hI2 hF hv5 hv6 hv7 hv8 hx0 hx1 hx2 hx3 hm9
      have h_32 := ir_7_1 hI
      have h_33 := ir_7_1 hI2
      refine q_iload c_63_71 rfl (q_aload_n c_63_73 rfl (v_gr (t := 8) c_63_74 kf_3_11 rfl (nb_ rfl) rfl (q_iload c_63_77 rfl (q_iconst c_63_79 (v_iadd (v := v6 + 1) c_63_80 rfl ?_)))))
      have h_34 := ir_8 hI (v6 + 1)
      have kn_35 : Hid (c2 8 (v6 + 1) = c 8 (v6 + 1)) := hF 8 (v6 + 1) (qn_50c79f576 hP)
      refine v_ia (v := c 8 (v6 + 1)) c_63_81 rfl (by decide) (by decide) ⟨by first | exact rgp_l hv6.1 (by decide) | omega, by first | exact q_f5f6b62ea hv6 | omega⟩ (hid kn_35) ?_
      by_cases h_36 : v8 ≥ c 8 (v6 + 1)
      · refine v_ic_ge_t (t := 114) c_63_82 rfl ⟨by first | exact q_02a5b5c27 h_34 | omega, h_36, (Int.le_trans hv8.2 (by decide))⟩ (q_iload c_63_114 rfl (q_iload c_63_116 rfl (v_maxx c_63_118 rfl (by omega) (nb_ rfl) ⟨by omega, by omega, by omega, by omega⟩ (fun y_37 hy_37 => (q_istore c_63_121 (nb_ rfl) (q_goto (t := 159) c_63_123 rfl (q_goto (t := 3) c_63_159 rfl (Wp_ls [(0, .ref 7), (1, .ref 37), (2, vi a2), (3, vi a3), (4, vi a4), (5, vi y_37)] (lsub_cons rfl (lsub_cons rfl (lsub_cons rfl (lsub_cons rfl (lsub_cons rfl (lsub_cons rfl lsub_nil)))))) ?_))))))))
        exact ih.1 c2 y_37 hI2 (fun a j hm => hF a j hm) ⟨by first | (clear ha2 ha3 ha4 hv5 hv7 hv8 hx1 hx2 hx3 h_32 h_33 h_34 h_36; omega) | omega, by first | (clear ha2 ha3 ha4 hv6 hv8 hx0 hx1 hx2 hx3 h_32 h_33 h_34 h_36; omega) | omega⟩ (by first | (clear ha2 ha3 ha4 hv5 hv6 hv7 hv8 hx0 hx1 hx2 h_32 h_33 h_34 h_36; omega) | omega) (by omega)
      · refine v_ic_ge_f (t := 114) c_63_82 rfl ⟨(Int.le_trans (by decide) hv8.1), (Int.not_le.mp h_36), by first | exact q_f4295f9df h_34 | omega⟩ (q_aload_n c_63_85 rfl (v_gi (z := 1) (v := c2 7 1) c_63_86 kf_3_15 rfl (nb_ rfl) rfl rfl rfl (v_sip c_63_89 (by decide) ?_)))
        by_cases h_38 : c2 7 1 ≥ 200
        · refine v_ic_ge_t (t := 114) c_63_92 rfl ⟨by decide, h_38, (Int.le_trans h_33.2 (by decide))⟩ (q_iload c_63_114 rfl (q_iload c_63_116 rfl (v_maxx c_63_118 rfl (by omega) (nb_ rfl) ⟨by omega, by omega, by omega, by omega⟩ (fun y_39 hy_39 => (q_istore c_63_121 (nb_ rfl) (q_goto (t := 159) c_63_123 rfl (q_goto (t := 3) c_63_159 rfl (Wp_ls [(0, .ref 7), (1, .ref 37), (2, vi a2), (3, vi a3), (4, vi a4), (5, vi y_39)] (lsub_cons rfl (lsub_cons rfl (lsub_cons rfl (lsub_cons rfl (lsub_cons rfl (lsub_cons rfl lsub_nil)))))) ?_))))))))
          exact ih.1 c2 y_39 hI2 (fun a j hm => hF a j hm) ⟨by first | (clear ha2 ha3 ha4 hv5 hv7 hv8 hx1 hx2 hx3 h_32 h_33 h_34 h_36 h_38; omega) | omega, by first | (clear ha2 ha3 ha4 hv5 hv8 hx1 hx2 hx3 h_32 h_33 h_34 h_36 h_38; omega) | omega⟩ (by first | (clear ha2 ha3 ha4 hv5 hv6 hv7 hv8 hx0 hx1 hx2 h_32 h_33 h_34 h_36 h_38; omega) | omega) (by omega)
        · refine v_ic_ge_f (t := 114) c_63_92 rfl ⟨(Int.le_trans (by decide) h_33.1), (Int.not_le.mp h_38), by decide⟩ (q_aload_n c_63_95 rfl (q_aload_n c_63_96 rfl (q_iload c_63_97 rfl (q_iload c_63_99 rfl (q_iload c_63_101 rfl (q_iconst c_63_103 (v_iadd (v := a4 + 1) c_63_104 rfl ?_)))))))
          refine v_cv c_63_105 km_3_91 rfl rfl (nb_ rfl) ⟨⟨rfl, rfl⟩, nb_ rfl, rfl⟩ (nb_ rfl) (nb_ rfl) (H63 _ v5 v7 _ (by omega) hI2 (by omega) (by omega) (fun c_40 hI_41 hF_42 h_43 => (bk_inl ?_)))
          have h_44 := ir_7_1 hI_41
          refine v_iinc (v := v8 + 1) c_63_108 rfl (nb_ rfl) rfl (q_goto (t := 71) c_63_111 rfl (Wp_ls [(0, .ref 7), (1, .ref 37), (2, vi a2), (3, vi a3), (4, vi a4), (5, vi v5), (6, vi v6), (7, vi v7), (8, vi (v8 + 1))] (lsub_cons rfl (lsub_cons rfl (lsub_cons rfl (lsub_cons rfl (lsub_cons rfl (lsub_cons rfl (lsub_cons rfl (lsub_cons rfl (lsub_cons rfl lsub_nil))))))))) ?_))
          exact ih.2 c_40 v5 v6 v7 (v8 + 1) hI_41 (fun a j hm => (hF_42 a j hm).trans (hF a j hm)) hv5 hv6 hv7 ⟨by first | exact rgp_l hv8.1 (by decide) | omega, by first | exact q_9b8e93030 h_34 h_36 | omega⟩ (by first | (clear ha2 ha3 ha4 hv5 hv6 hv7 hv8 hx1 hx2 hx3 h_32 h_33 h_34 h_36 h_38 h_44 h_43; omega) | omega) (by first | exact q_b64c086c4 hv6 | omega) (by first | (clear ha2 ha3 ha4 hv5 hv6 hv7 hv8 hx0 hx1 hx3 h_32 h_33 h_34 h_36 h_38 h_44 h_43; omega) | omega) (by first | (clear ha2 ha3 ha4 hv5 hv6 hv7 hv8 hx0 hx1 hx2 h_32 h_33 h_34 h_36 h_38 h_44; omega) | omega) (by omega)
set_option maxRecDepth 100000 in
set_option maxHeartbeats 4000000 in
theorem s_63 {sc : List Int32} {d P Q : Nat} {c : ME} {a2 : Int} {a3 : Int} {a4 : Int} {Z : AR → Prop} (hI : Iv 0 (-1) P Q c) (ha2 : 0 ≤ a2 ∧ a2 ≤ 38) (ha3 : 0 ≤ a3 ∧ a3 ≤ 38) (ha4 : 0 ≤ a4 ∧ a4 ≤ 7) (H63 : ∀ (c : ME) (a2 : Int) (a3 : Int) (Z : AR → Prop), a4 + 1 ≤ 7 → Iv 0 (-1) P Q c → 0 ≤ a2 ∧ a2 ≤ 38 → 0 ≤ a3 ∧ a3 ≤ 38 → (∀ c2 : ME, Iv 0 (-1) P Q c2 → (∀ (a : Nat) (j : Int), ¬ ((a = 7 ∧ j = 1) ∨ (a = 7 ∧ j = 3) ∨ (a = 7 ∧ j = 4) ∨ a = 38 ∨ a = (P + 10) ∨ a = (P + 11)) → c2 a j = c a j) → (c2 7 1 ≥ c 7 1) → Z (.inl none, Wd P Q P P c2, 0, 0)) → Wp sc (d + 13) 63 0 [(0, .ref 7), (1, .ref 37), (2, vi a2), (3, vi a3), (4, vi (a4 + 1))] [] (Wd P Q P P c) 0 0 Z) (K : ∀ (c2 : ME), Iv 0 (-1) P Q c2 → (∀ (a : Nat) (j : Int), ¬ ((a = 7 ∧ j = 1) ∨ (a = 7 ∧ j = 3) ∨ (a = 7 ∧ j = 4) ∨ a = 38 ∨ a = (P + 10) ∨ a = (P + 11)) → c2 a j = c a j) → ((c2 7 1 ≥ c 7 1)) → Z (.inl (none), Wd P Q P P c2, 0, 0)) : Wp sc (d + 14) 63 0 [(0, .ref 7), (1, .ref 37), (2, vi a2), (3, vi a3), (4, vi a4)] [] (Wd P Q P P c) 0 0 Z := by
  have hP := iv_P hI
  have hQ := iv_Q hI
  refine q_iload_n c_63_0 rfl (q_istore c_63_1 (nb_ rfl) (Wp_ls [(0, .ref 7), (1, .ref 37), (2, vi a2), (3, vi a3), (4, vi a4), (5, vi a2)] (lsub_cons rfl (lsub_cons rfl (lsub_cons rfl (lsub_cons rfl (lsub_cons rfl (lsub_cons rfl lsub_nil)))))) ?_))
  have h_47 := ir_7_1 hI
  exact (s_63_l (sc := sc) (d := d) hI ha2 ha3 ha4 H63 K 40300000).1 c a2 hI (fun a j hm => rfl) ha2 (by first | exact q_e074ea49a | omega) (by omega)
set_option maxRecDepth 100000 in
set_option maxHeartbeats 4000000 in
theorem r_63_n {sc : List Int32} {d P Q : Nat} : ∀ (m : Nat) (c : ME) (a4 : Int) (a2 : Int) (a3 : Int) (Z : AR → Prop), a4 + (m : Int) = 7 → 0 ≤ a4 → Iv 0 (-1) P Q c → 0 ≤ a2 ∧ a2 ≤ 38 → 0 ≤ a3 ∧ a3 ≤ 38 → (∀ c2 : ME, Iv 0 (-1) P Q c2 → (∀ (a : Nat) (j : Int), ¬ ((a = 7 ∧ j = 1) ∨ (a = 7 ∧ j = 3) ∨ (a = 7 ∧ j = 4) ∨ a = 38 ∨ a = (P + 10) ∨ a = (P + 11)) → c2 a j = c a j) → (c2 7 1 ≥ c 7 1) → Z (.inl none, Wd P Q P P c2, 0, 0)) → Wp sc (d + 1 * m + 14) 63 0 [(0, .ref 7), (1, .ref 37), (2, vi a2), (3, vi a3), (4, vi a4)] [] (Wd P Q P P c) 0 0 Z
  | 0, c, a4, a2, a3, Z, hm, h0, hI, ha2, ha3, K => s_63 (d := d) (a4 := a4) hI ha2 ha3 (show 0 ≤ a4 ∧ a4 ≤ 7 from ⟨by omega, by omega⟩) (fun c9 a29 a39 Z9 hc => absurd hc (by omega)) K
  | m + 1, c, a4, a2, a3, Z, hm, h0, hI, ha2, ha3, K => by
    have ih := r_63_n (sc := sc) (d := d) (P := P) (Q := Q) m
    rw [show d + 1 * (m + 1) + 14 = (d + 1 * m + 1) + 14 by omega]
    refine s_63 (d := d + 1 * m + 1) (a4 := a4) hI ha2 ha3 (show 0 ≤ a4 ∧ a4 ≤ 7 from ⟨by omega, by omega⟩) (fun c9 a29 a39 Z9 hc hI9 ha29 ha39 K9 => ?_) K
    have r := ih c9 (a4 + 1) a29 a39 Z9 (by omega) (by omega) hI9 ha29 ha39 K9
    rw [show d + 1 * m + 14 = (d + 1 * m + 1) + 13 by omega] at r
    exact r
set_option maxRecDepth 100000 in
set_option maxHeartbeats 4000000 in
theorem r_63 {sc : List Int32} {d P Q : Nat} {c : ME} {a4 : Int} {a2 : Int} {a3 : Int} {Z : AR → Prop} (hI : Iv 0 (-1) P Q c) (ha2 : 0 ≤ a2 ∧ a2 ≤ 38) (ha3 : 0 ≤ a3 ∧ a3 ≤ 38) (ha4 : 0 ≤ a4 ∧ a4 ≤ 7) (K : (∀ c2 : ME, Iv 0 (-1) P Q c2 → (∀ (a : Nat) (j : Int), ¬ ((a = 7 ∧ j = 1) ∨ (a = 7 ∧ j = 3) ∨ (a = 7 ∧ j = 4) ∨ a = 38 ∨ a = (P + 10) ∨ a = (P + 11)) → c2 a j = c a j) → (c2 7 1 ≥ c 7 1) → Z (.inl none, Wd P Q P P c2, 0, 0))) : Wp sc (d + 21) 63 0 [(0, .ref 7), (1, .ref 37), (2, vi a2), (3, vi a3), (4, vi a4)] [] (Wd P Q P P c) 0 0 Z := by
  obtain ⟨m, hm⟩ : ∃ m : Nat, (m : Int) = 7 - a4 := ⟨(7 - a4).toNat, by omega⟩
  rw [show d + 21 = (d + 7 - 1 * m) + 1 * m + 14 by omega]
  exact r_63_n m c a4 a2 a3 Z (by omega) (by omega) hI ha2 ha3 K
end
section
/-! ===== contracts 6 ===== -/
theorem q_466f994c8 {x0 : Int} (f0 : ¬ (x0 ≥ 34)) : x0 < 34 := by omega
theorem q_1fcd92368 {x0 : Int} (f0 : ¬ (x0 ≥ 34)) : x0 + 1 ≤ 34 := by omega
theorem q_959592613 {x0 : Int} (f0 : 0 ≤ x0 ∧ x0 ≤ 6) : 4 * x0 ≤ 2147483647 := by omega
theorem q_b6dd10c5c {x0 x1 : Int} (f0 : 0 ≤ x0 ∧ x0 ≤ 6) (f1 : ¬ (x1 ≥ 4 * x0)) : x1 < 24 := by omega
theorem q_86d808b33 {x0 x1 : Int} (f0 : 0 ≤ x0 ∧ x0 ≤ 6) (f1 : ¬ (x1 ≥ 4 * x0)) : x1 < 34 := by omega
theorem q_92f4ab8bf {x0 : Int} (f0 : 0 ≤ x0 ∧ x0 ≤ 999) : 0 ≤ x0 := by omega
theorem q_0938e55b0 {x0 : Int} (f0 : 0 ≤ x0 ∧ x0 ≤ 999) : x0 ≤ 9999 := by omega
theorem q_18033a098 {x0 x1 : Int} (f0 : 0 ≤ x0 ∧ x0 ≤ 6) (f1 : ¬ (x1 ≥ 4 * x0)) : x1 + 1 ≤ 34 := by omega
theorem q_e3e978779 {x0 x1 : Int} (f0 : ¬ (x0 ≥ 4)) (f1 : 0 ≤ x1 ∧ x1 ≤ 5) : 4 * x1 + x0 < 24 := by omega
theorem q_482ef8d41 {x0 : Int} (f0 : ¬ (x0 ≥ 4)) : x0 ≤ 3 := by omega
theorem q_7038fede5 {x0 : Int} : x0 + 0 = x0 := by omega
theorem q_c64efdab1 {x0 : Int} : 1000 * (x0) = 1000 * x0 := by omega
theorem q_8299135d3 {x0 x1 x2 x3 x4 : Int} : x0 + (x1 + x2 + x3 + x4) = x1 + x2 + x3 + x4 + x0 := by omega
theorem q_23711b5cc {x0 x1 : Int} (f0 : 0 ≤ x0 ∧ x0 ≤ 600) (f1 : 0 ≤ x1 ∧ x1 ≤ 20) : x1 + x0 ≤ 2147483647 := by omega
theorem q_5ccbaaa40 {x0 x1 : Int} (f0 : 0 ≤ x0 ∧ x0 ≤ 600) (f1 : 0 ≤ x1 ∧ x1 ≤ 20) : (-2147483648) ≤ x1 + x0 := by omega
theorem q_feda450ca {x0 x1 : Int} (f0 : ¬ (x0 + x1 > 600)) : x0 + x1 ≤ 600 := by omega
theorem q_c603354c3 {x0 x1 : Int} (f0 : (x0 = 0) ∨ (x1 + 1 ≤ 600)) (f1 : ¬ (x0 = 0)) : x1 < 600 := by omega
theorem q_0e31dd39d {x0 : Int} : x0 + (-8) = x0 - 8 := by omega
theorem q_10c0010c4 {x0 x1 : Int} (f0 : (x0 = 0) ∨ (x1 + 1 ≤ 600)) (f1 : ¬ (x0 = 0)) : x1 + 1 ≤ 600 := by omega
theorem q_4da7665fc {x0 : Int} (f0 : ¬ (x0 < 0)) : (-8) ≤ x0 - 8 := by omega
theorem q_95b8887df {x0 : Int} : (x0) * 1103515245 = 1103515245 * x0 := by omega
theorem q_c4fec1d75 {x0 x1 : Int} (f0 : 0 ≤ x0 ∧ x0 < x1) : 0 ≤ x0 := by omega
theorem q_3c66af975 {x0 x1 : Int} (f0 : 0 ≤ x0 ∧ x0 < x1) (f1 : 1 ≤ x1 ∧ x1 ≤ 16) : x0 ≤ 15 := by omega
theorem q_84496e02d {x0 x1 : Int} (f0 : 0 ≤ x0 ∧ x0 < x1) : x0 < x1 := by omega
theorem c_65_7 : mLk 65 7 = some (.iload_n 2, 1) := rfl
theorem c_65_8 : mLk 65 8 = some (.bipush 34, 2) := rfl
theorem c_65_10 : mLk 65 10 = some (.if_icmp .ge 41, 3) := rfl
theorem c_65_13 : mLk 65 13 = some (.aload_n 0, 1) := rfl
theorem c_65_14 : mLk 65 14 = some (.getfield 11, 3) := rfl
theorem c_65_17 : mLk 65 17 = some (.iload_n 2, 1) := rfl
theorem c_65_18 : mLk 65 18 = some (.iload_n 2, 1) := rfl
theorem c_65_19 : mLk 65 19 = some (.aload_n 0, 1) := rfl
theorem c_65_20 : mLk 65 20 = some (.getfield 15, 3) := rfl
theorem c_65_23 : mLk 65 23 = some (.getfield 19, 3) := rfl
theorem c_65_26 : mLk 65 26 = some (.iconst 4, 1) := rfl
theorem c_65_27 : mLk 65 27 = some (.imul, 1) := rfl
theorem c_65_28 : mLk 65 28 = some (.if_icmp .ge 15, 3) := rfl
theorem c_65_43 : mLk 65 43 = some (.iconst 0, 1) := rfl
theorem c_65_44 : mLk 65 44 = some (.iastore, 1) := rfl
theorem c_65_45 : mLk 65 45 = some (.iinc 2 1, 3) := rfl
theorem c_65_48 : mLk 65 48 = some (.goto (-41), 3) := rfl
theorem c_65_31 : mLk 65 31 = some (.aload_n 0, 1) := rfl
theorem c_65_32 : mLk 65 32 = some (.getfield 15, 3) := rfl
theorem c_65_35 : mLk 65 35 = some (.getfield 25, 3) := rfl
theorem c_65_38 : mLk 65 38 = some (.iload_n 2, 1) := rfl
theorem c_65_39 : mLk 65 39 = some (.iaload, 1) := rfl
theorem c_65_40 : mLk 65 40 = some (.goto 4, 3) := rfl
theorem c_65_5 : mLk 65 5 = some (.iconst 0, 1) := rfl
theorem c_65_6 : mLk 65 6 = some (.istore_n 2, 1) := rfl
theorem c_66_0 : mLk 66 0 = some (.aload_n 1, 1) := rfl
theorem c_66_1 : mLk 66 1 = some (.getfield 11, 3) := rfl
theorem c_66_4 : mLk 66 4 = some (.iconst 0, 1) := rfl
theorem c_66_5 : mLk 66 5 = some (.aload_n 0, 1) := rfl
theorem c_66_6 : mLk 66 6 = some (.getfield 11, 3) := rfl
theorem c_66_9 : mLk 66 9 = some (.iconst 0, 1) := rfl
theorem c_66_10 : mLk 66 10 = some (.bipush 34, 2) := rfl
theorem c_66_12 : mLk 66 12 = some (.invokestatic 28, 3) := rfl
theorem c_67_4 : mLk 67 4 = some (.iload_n 3, 1) := rfl
theorem c_67_5 : mLk 67 5 = some (.iconst 4, 1) := rfl
theorem c_67_6 : mLk 67 6 = some (.if_icmp .ge 26, 3) := rfl
theorem c_67_32 : mLk 67 32 = some (.iload_n 2, 1) := rfl
theorem c_67_33 : mLk 67 33 = some (.ireturn, 1) := rfl
theorem c_67_9 : mLk 67 9 = some (.iload_n 2, 1) := rfl
theorem c_67_10 : mLk 67 10 = some (.aload_n 0, 1) := rfl
theorem c_67_11 : mLk 67 11 = some (.iload_n 1, 1) := rfl
theorem c_67_12 : mLk 67 12 = some (.iload_n 3, 1) := rfl
theorem c_67_13 : mLk 67 13 = some (.invokevirtual 34, 3) := rfl
theorem c_67_16 : mLk 67 16 = some (.ifCond .le 7, 3) := rfl
theorem c_67_23 : mLk 67 23 = some (.iconst 0, 1) := rfl
theorem c_67_24 : mLk 67 24 = some (.iadd, 1) := rfl
theorem c_67_25 : mLk 67 25 = some (.istore_n 2, 1) := rfl
theorem c_67_26 : mLk 67 26 = some (.iinc 3 1, 3) := rfl
theorem c_67_29 : mLk 67 29 = some (.goto (-25), 3) := rfl
theorem c_67_19 : mLk 67 19 = some (.iconst 1, 1) := rfl
theorem c_67_20 : mLk 67 20 = some (.goto 4, 3) := rfl
theorem c_67_0 : mLk 67 0 = some (.iconst 0, 1) := rfl
theorem c_67_1 : mLk 67 1 = some (.istore_n 2, 1) := rfl
theorem c_67_2 : mLk 67 2 = some (.iconst 0, 1) := rfl
theorem c_67_3 : mLk 67 3 = some (.istore_n 3, 1) := rfl
theorem c_68_0 : mLk 68 0 = some (.aload_n 0, 1) := rfl
theorem c_68_1 : mLk 68 1 = some (.iload_n 1, 1) := rfl
theorem c_68_2 : mLk 68 2 = some (.invokevirtual 38, 3) := rfl
theorem c_68_5 : mLk 68 5 = some (.istore_n 2, 1) := rfl
theorem c_68_6 : mLk 68 6 = some (.iload_n 2, 1) := rfl
theorem c_68_7 : mLk 68 7 = some (.ifCond .le 18, 3) := rfl
theorem c_68_25 : mLk 68 25 = some (.iconst 0, 1) := rfl
theorem c_68_26 : mLk 68 26 = some (.ireturn, 1) := rfl
theorem c_68_10 : mLk 68 10 = some (.sipush 1000, 3) := rfl
theorem c_68_13 : mLk 68 13 = some (.aload_n 0, 1) := rfl
theorem c_68_14 : mLk 68 14 = some (.iload_n 1, 1) := rfl
theorem c_68_15 : mLk 68 15 = some (.iconst 0, 1) := rfl
theorem c_68_16 : mLk 68 16 = some (.invokevirtual 34, 3) := rfl
theorem c_68_19 : mLk 68 19 = some (.imul, 1) := rfl
theorem c_68_20 : mLk 68 20 = some (.iload_n 2, 1) := rfl
theorem c_68_21 : mLk 68 21 = some (.idiv, 1) := rfl
theorem c_68_22 : mLk 68 22 = some (.goto 4, 3) := rfl
theorem c_69_4 : mLk 69 4 = some (.iload_n 2, 1) := rfl
theorem c_69_5 : mLk 69 5 = some (.aload_n 0, 1) := rfl
theorem c_69_6 : mLk 69 6 = some (.getfield 15, 3) := rfl
theorem c_69_9 : mLk 69 9 = some (.getfield 19, 3) := rfl
theorem c_69_12 : mLk 69 12 = some (.if_icmp .ge 17, 3) := rfl
theorem c_69_29 : mLk 69 29 = some (.iload_n 1, 1) := rfl
theorem c_69_30 : mLk 69 30 = some (.ireturn, 1) := rfl
theorem c_69_15 : mLk 69 15 = some (.iload_n 1, 1) := rfl
theorem c_69_16 : mLk 69 16 = some (.aload_n 0, 1) := rfl
theorem c_69_17 : mLk 69 17 = some (.iload_n 2, 1) := rfl
theorem c_69_18 : mLk 69 18 = some (.invokevirtual 38, 3) := rfl
theorem c_69_21 : mLk 69 21 = some (.iadd, 1) := rfl
theorem c_69_22 : mLk 69 22 = some (.istore_n 1, 1) := rfl
theorem c_69_23 : mLk 69 23 = some (.iinc 2 1, 3) := rfl
theorem c_69_26 : mLk 69 26 = some (.goto (-22), 3) := rfl
theorem c_69_0 : mLk 69 0 = some (.iconst 0, 1) := rfl
theorem c_69_1 : mLk 69 1 = some (.istore_n 1, 1) := rfl
theorem c_69_2 : mLk 69 2 = some (.iconst 0, 1) := rfl
theorem c_69_3 : mLk 69 3 = some (.istore_n 2, 1) := rfl
theorem c_70_4 : mLk 70 4 = some (.iload_n 2, 1) := rfl
theorem c_70_5 : mLk 70 5 = some (.aload_n 0, 1) := rfl
theorem c_70_6 : mLk 70 6 = some (.getfield 15, 3) := rfl
theorem c_70_9 : mLk 70 9 = some (.getfield 19, 3) := rfl
theorem c_70_12 : mLk 70 12 = some (.if_icmp .ge 23, 3) := rfl
theorem c_70_35 : mLk 70 35 = some (.iload_n 1, 1) := rfl
theorem c_70_36 : mLk 70 36 = some (.ireturn, 1) := rfl
theorem c_70_15 : mLk 70 15 = some (.aload_n 0, 1) := rfl
theorem c_70_16 : mLk 70 16 = some (.iload_n 2, 1) := rfl
theorem c_70_17 : mLk 70 17 = some (.invokevirtual 38, 3) := rfl
theorem c_70_20 : mLk 70 20 = some (.ifCond .ne 9, 3) := rfl
theorem c_70_29 : mLk 70 29 = some (.iinc 2 1, 3) := rfl
theorem c_70_32 : mLk 70 32 = some (.goto (-28), 3) := rfl
theorem c_70_23 : mLk 70 23 = some (.iload_n 1, 1) := rfl
theorem c_70_24 : mLk 70 24 = some (.iconst 1, 1) := rfl
theorem c_70_25 : mLk 70 25 = some (.iload_n 2, 1) := rfl
theorem c_70_26 : mLk 70 26 = some (.ishl, 1) := rfl
theorem c_70_27 : mLk 70 27 = some (.ior, 1) := rfl
theorem c_70_28 : mLk 70 28 = some (.istore_n 1, 1) := rfl
theorem c_70_0 : mLk 70 0 = some (.iconst 0, 1) := rfl
theorem c_70_1 : mLk 70 1 = some (.istore_n 1, 1) := rfl
theorem c_70_2 : mLk 70 2 = some (.iconst 0, 1) := rfl
theorem c_70_3 : mLk 70 3 = some (.istore_n 2, 1) := rfl
theorem c_72_0 : mLk 72 0 = some (.aload_n 0, 1) := rfl
theorem c_72_1 : mLk 72 1 = some (.getfield 19, 3) := rfl
theorem c_72_4 : mLk 72 4 = some (.iload_n 1, 1) := rfl
theorem c_72_5 : mLk 72 5 = some (.iadd, 1) := rfl
theorem c_72_6 : mLk 72 6 = some (.aload_n 0, 1) := rfl
theorem c_72_7 : mLk 72 7 = some (.getfield 9, 3) := rfl
theorem c_72_10 : mLk 72 10 = some (.arraylength, 1) := rfl
theorem c_72_11 : mLk 72 11 = some (.if_icmp .gt 7, 3) := rfl
theorem c_72_18 : mLk 72 18 = some (.iconst 0, 1) := rfl
theorem c_72_19 : mLk 72 19 = some (.ireturn, 1) := rfl
theorem c_72_14 : mLk 72 14 = some (.iconst 1, 1) := rfl
theorem c_72_15 : mLk 72 15 = some (.goto 4, 3) := rfl
theorem c_73_3 : mLk 73 3 = some (.iload_n 2, 1) := rfl
theorem c_73_4 : mLk 73 4 = some (.ifCond .lt 40, 3) := rfl
theorem c_73_7 : mLk 73 7 = some (.aload_n 0, 1) := rfl
theorem c_73_8 : mLk 73 8 = some (.iconst 1, 1) := rfl
theorem c_73_9 : mLk 73 9 = some (.invokevirtual 22, 3) := rfl
theorem c_73_12 : mLk 73 12 = some (.ifCond .eq 32, 3) := rfl
theorem c_73_15 : mLk 73 15 = some (.aload_n 0, 1) := rfl
theorem c_73_16 : mLk 73 16 = some (.getfield 9, 3) := rfl
theorem c_73_19 : mLk 73 19 = some (.aload_n 0, 1) := rfl
theorem c_73_20 : mLk 73 20 = some (.getfield 19, 3) := rfl
theorem c_73_23 : mLk 73 23 = some (.iload_n 1, 1) := rfl
theorem c_73_24 : mLk 73 24 = some (.iload_n 2, 1) := rfl
theorem c_73_25 : mLk 73 25 = some (.ishr, 1) := rfl
theorem c_73_26 : mLk 73 26 = some (.i2b, 1) := rfl
theorem c_73_27 : mLk 73 27 = some (.bastore, 1) := rfl
theorem c_73_28 : mLk 73 28 = some (.aload_n 0, 1) := rfl
theorem c_73_29 : mLk 73 29 = some (.dup, 1) := rfl
theorem c_73_30 : mLk 73 30 = some (.getfield 19, 3) := rfl
theorem c_73_33 : mLk 73 33 = some (.iconst 1, 1) := rfl
theorem c_73_34 : mLk 73 34 = some (.iadd, 1) := rfl
theorem c_73_35 : mLk 73 35 = some (.putfield 19, 3) := rfl
theorem c_73_38 : mLk 73 38 = some (.iinc 2 (-8), 3) := rfl
theorem c_73_41 : mLk 73 41 = some (.goto (-38), 3) := rfl
theorem c_73_0 : mLk 73 0 = some (.bipush 24, 2) := rfl
theorem c_73_2 : mLk 73 2 = some (.istore_n 2, 1) := rfl
theorem c_74_0 : mLk 74 0 = some (.aload_n 0, 1) := rfl
theorem c_74_1 : mLk 74 1 = some (.iload_n 1, 1) := rfl
theorem c_74_2 : mLk 74 2 = some (.aload_n 0, 1) := rfl
theorem c_74_3 : mLk 74 3 = some (.getfield 19, 3) := rfl
theorem c_74_6 : mLk 74 6 = some (.invokestatic 26, 3) := rfl
theorem c_74_9 : mLk 74 9 = some (.putfield 32, 3) := rfl
theorem c_74_12 : mLk 74 12 = some (.aload_n 0, 1) := rfl
theorem c_74_13 : mLk 74 13 = some (.iconst 0, 1) := rfl
theorem c_74_14 : mLk 74 14 = some (.putfield 35, 3) := rfl
theorem c_74_17 : mLk 74 17 = some (.aload_n 0, 1) := rfl
theorem c_74_18 : mLk 74 18 = some (.iconst 0, 1) := rfl
theorem c_74_19 : mLk 74 19 = some (.putfield 19, 3) := rfl
theorem c_74_22 : mLk 74 22 = some (.aload_n 0, 1) := rfl
theorem c_74_23 : mLk 74 23 = some (.iconst 0, 1) := rfl
theorem c_74_24 : mLk 74 24 = some (.putfield 38, 3) := rfl
theorem c_74_27 : mLk 74 27 = some (.aload_n 0, 1) := rfl
theorem c_74_28 : mLk 74 28 = some (.iconst (-1), 1) := rfl
theorem c_74_29 : mLk 74 29 = some (.putfield 15, 3) := rfl
theorem c_76_0 : mLk 76 0 = some (.aload_n 0, 1) := rfl
theorem c_76_1 : mLk 76 1 = some (.aload_n 0, 1) := rfl
theorem c_76_2 : mLk 76 2 = some (.getfield 7, 3) := rfl
theorem c_76_5 : mLk 76 5 = some (.ldc 49, 2) := rfl
theorem c_76_7 : mLk 76 7 = some (.imul, 1) := rfl
theorem c_76_8 : mLk 76 8 = some (.sipush 12345, 3) := rfl
theorem c_76_11 : mLk 76 11 = some (.iadd, 1) := rfl
theorem c_76_12 : mLk 76 12 = some (.putfield 7, 3) := rfl
theorem c_76_15 : mLk 76 15 = some (.iload_n 1, 1) := rfl
theorem c_76_16 : mLk 76 16 = some (.ifCond .le 19, 3) := rfl
theorem c_76_19 : mLk 76 19 = some (.aload_n 0, 1) := rfl
theorem c_76_20 : mLk 76 20 = some (.getfield 7, 3) := rfl
theorem c_76_23 : mLk 76 23 = some (.bipush 16, 2) := rfl
theorem c_76_25 : mLk 76 25 = some (.iushr, 1) := rfl
theorem c_76_26 : mLk 76 26 = some (.sipush 32767, 3) := rfl
theorem c_76_29 : mLk 76 29 = some (.iand, 1) := rfl
theorem c_76_30 : mLk 76 30 = some (.iload_n 1, 1) := rfl
theorem c_76_31 : mLk 76 31 = some (.irem, 1) := rfl
theorem c_76_32 : mLk 76 32 = some (.goto 4, 3) := rfl
theorem c_76_36 : mLk 76 36 = some (.ireturn, 1) := rfl
theorem kf_4_25 : a_lk (kF 4) 25 = some (2, 6) := rfl
theorem kf_5_19 : a_lk (kF 5) 19 = some (5, 3) := rfl
theorem kf_6_7 : a_lk (kF 6) 7 = some (6, 0) := rfl
theorem km_5_22 : a_lk (kM 5) 22 = some (0, 72) := rfl
set_option maxRecDepth 100000 in
set_option maxHeartbeats 4000000 in
theorem s_65a_5_l {sc : List Int32} {d P Q T : Nat} {c : ME} {Z : AR → Prop} (hI : Iv 38 (-1) P Q c)  (K : ∀ (c2 : ME), Iv 0 (-1) P Q c2 → (∀ (a : Nat) (j : Int), ¬ (a = 38) → c2 a j = c a j) → Z (.inl (none), Wd P Q P T c2, 0, 0)) : ∀ n : Nat, (∀ (c2 : ME) (v2 : Int), Iv 38 (-1) P Q c2 → (∀ (a : Nat) (j : Int), ¬ (a = 38) → c2 a j = c a j) → 0 ≤ v2 ∧ v2 ≤ 34 → (∀ j : Int, 0 ≤ j → j < v2 → j < 24 → c2 38 j ≤ 999) → 69 - 2 * v2 < (n : Int) → Wp sc (d + 7) 65 7 [(0, .ref 37), (1, .ref P), (2, vi v2)] [] (Wd P Q P T c2) 0 0 Z) := by
  intro n
  induction n with
  | zero => exact (by intro c2 v2 hI2 hF hv2 hx0 hm9; have hP := iv_P hI; have hQ := iv_Q hI; exfalso; omega)
  | succ n ih =>
    have hP := iv_P hI
    have hQ := iv_Q hI
    intro c2 v2 hI2 hF hv2 hx0 hm9
    refine q_iload_n c_65_7 rfl (v_bip c_65_8 (by decide) ?_)
    by_cases h_1 : v2 ≥ 34
    · refine v_ic_ge_t (t := 51) c_65_10 rfl ⟨by decide, h_1, (Int.le_trans hv2.2 (by decide))⟩ (q_vret rfl rfl ?_)
      have hI_2 := iv_close hI2 (fun j hj => by
        have q9 : j % 4 = 0 ∧ 0 ≤ j ∧ j < 24 := hj
        have q0 := hx0 j (by omega) (by omega) (by omega)
        have q1 := hx0 (j + 1) (by omega) (by omega) (by omega)
        have q2 := hx0 (j + 2) (by omega) (by omega) (by omega)
        have q3 := hx0 (j + 3) (by omega) (by omega) (by omega)
        omega)
      exact K c2 hI_2 (fun a j hm => hF a j hm)
    · refine v_ic_ge_f (t := 51) c_65_10 rfl ⟨(Int.le_trans (by decide) hv2.1), (Int.not_le.mp h_1), by decide⟩ (q_aload_n c_65_13 rfl (v_gr (t := 38) c_65_14 kf_4_11 rfl (nb_ rfl) rfl (q_iload_n c_65_17 rfl (q_iload_n c_65_18 rfl (q_aload_n c_65_19 rfl (v_gr (t := P) c_65_20 kf_4_15 rfl (nb_ rfl) rfl ?_))))))
      have h_3 := ir_p0_0 hI hP
      have kn_4 : Hid (c2 P 0 = c P 0) := hF P 0 (fun h => absurd h (np0 hP rfl))
      refine v_gi (z := 0) (v := c P 0) c_65_23 kf_4_19 (ck_p0 hP) (a68z hP) rfl rfl (hid kn_4) (q_iconst c_65_26 (v_imul (v := 4 * c P 0) c_65_27 (by first | exact q_5927377c3 | omega) ?_))
      by_cases h_5 : v2 ≥ 4 * c P 0
      · refine v_ic_ge_t (t := 43) c_65_28 rfl ⟨by first | exact q_4cd384ca3 h_3 | omega, h_5, (Int.le_trans hv2.2 (by decide))⟩ (q_iconst c_65_43 (v_is c_65_44 rfl (by decide) (by decide) ⟨hv2.1, by first | exact q_466f994c8 h_1 | omega⟩ (v_iinc (v := v2 + 1) c_65_45 rfl (nb_ rfl) rfl (q_goto (t := 7) c_65_48 rfl ?_))))
        have hI_6 := iwr0 (a := 38) (j := v2) (v := 0) hI2 (by decide) ⟨by decide, by decide⟩
        refine Wp_ls [(0, .ref 37), (1, .ref P), (2, vi (v2 + 1))] (lsub_cons rfl (lsub_cons rfl (lsub_cons rfl lsub_nil))) ?_
        have hr_7 : ∀ j : Int, 0 ≤ j → j < v2 + 1 → j < 24 → (up c2 38 v2 0) 38 j ≤ 999 := by
          intro j hj1 hj2 hj3
          by_cases e9 : j = v2
          · have q9 : (up c2 38 v2 0) 38 j = 0 := up_e e9
            rw [q9]
            omega
          · have q9 : (up c2 38 v2 0) 38 j = c2 38 j := up_n e9
            rw [q9]
            exact hx0 j hj1 (by omega) hj3
        exact ih (up c2 38 v2 0) (v2 + 1) hI_6 (fun a j hm => (up_b (Decidable.or_iff_not_imp_left.mpr (fun h1 h2 => hm (Decidable.not_not.mp h1)))).trans (hF a j hm)) ⟨by first | exact rgp_l hv2.1 (by decide) | omega, by first | exact q_1fcd92368 h_1 | omega⟩ hr_7 (by omega)
      · refine v_ic_ge_f (t := 43) c_65_28 rfl ⟨(Int.le_trans (by decide) hv2.1), (Int.not_le.mp h_5), by first | exact q_959592613 h_3 | omega⟩ (q_aload_n c_65_31 rfl (v_gr (t := P) c_65_32 kf_4_15 rfl (nb_ rfl) rfl (v_gr (t := (P + 1)) c_65_35 kf_4_25 (ck_p0 hP) (a68z hP) rfl (q_iload_n c_65_38 rfl ?_))))
        have h_8 := ir_p1 hI hP v2
        have kn_9 : Hid (c2 (P + 1) v2 = c (P + 1) v2) := hF (P + 1) v2 (fun h => absurd h (np hP rfl rfl))
        refine v_ia (v := c (P + 1) v2) c_65_39 (ck_p1 hP) (a68 hP rfl) (by decide) ⟨hv2.1, by first | exact q_b6dd10c5c h_3 h_5 | omega⟩ (hid kn_9) (q_goto (t := 44) c_65_40 rfl (v_is c_65_44 rfl (by decide) (by decide) ⟨hv2.1, by first | exact q_86d808b33 h_3 h_5 | omega⟩ (v_iinc (v := v2 + 1) c_65_45 rfl (nb_ rfl) rfl (q_goto (t := 7) c_65_48 rfl ?_))))
        have hI_10 := iwr0 (a := 38) (j := v2) (v := c (P + 1) v2) hI2 (by decide) ⟨by first | exact q_92f4ab8bf h_8 | omega, by first | exact q_0938e55b0 h_8 | omega⟩
        refine Wp_ls [(0, .ref 37), (1, .ref P), (2, vi (v2 + 1))] (lsub_cons rfl (lsub_cons rfl (lsub_cons rfl lsub_nil))) ?_
        have hr_11 : ∀ j : Int, 0 ≤ j → j < v2 + 1 → j < 24 → (up c2 38 v2 (c (P + 1) v2)) 38 j ≤ 999 := by
          intro j hj1 hj2 hj3
          by_cases e9 : j = v2
          · have q9 : (up c2 38 v2 (c (P + 1) v2)) 38 j = c (P + 1) v2 := up_e e9
            rw [q9]
            omega
          · have q9 : (up c2 38 v2 (c (P + 1) v2)) 38 j = c2 38 j := up_n e9
            rw [q9]
            exact hx0 j hj1 (by omega) hj3
        exact ih (up c2 38 v2 (c (P + 1) v2)) (v2 + 1) hI_10 (fun a j hm => (up_b (Decidable.or_iff_not_imp_left.mpr (fun h1 h2 => hm (Decidable.not_not.mp h1)))).trans (hF a j hm)) ⟨by first | exact rgp_l hv2.1 (by decide) | omega, by first | exact q_18033a098 h_3 h_5 | omega⟩ hr_11 (by omega)
set_option maxRecDepth 100000 in
set_option maxHeartbeats 4000000 in
theorem s_65a_5 {sc : List Int32} {d P Q T : Nat} {c : ME} {Z : AR → Prop} (hI : Iv 38 (-1) P Q c)  (K : ∀ (c2 : ME), Iv 0 (-1) P Q c2 → (∀ (a : Nat) (j : Int), ¬ (a = 38) → c2 a j = c a j) → Z (.inl (none), Wd P Q P T c2, 0, 0)) : Wp sc (d + 7) 65 5 [(0, .ref 37), (1, .ref P)] [] (Wd P Q P T c) 0 0 Z := by
  have hP := iv_P hI
  have hQ := iv_Q hI
  refine q_iconst c_65_5 (q_istore_n c_65_6 (nb_ rfl) (Wp_ls [(0, .ref 37), (1, .ref P), (2, vi 0)] (lsub_cons rfl (lsub_cons rfl (lsub_cons rfl lsub_nil))) ?_))
  have hr_12 : ∀ j : Int, 0 ≤ j → j < 0 → j < 24 → c 38 j ≤ 999 := by
    intro j hj1 hj2 hj3
    omega
  exact (s_65a_5_l (sc := sc) (d := d) hI K 72) c 0 hI (fun a j hm => rfl) ⟨by decide, by decide⟩ hr_12 (by omega)
set_option maxRecDepth 100000 in
set_option maxHeartbeats 4000000 in
theorem s_65b_5_l {sc : List Int32} {d P Q : Nat} {c : ME} {Z : AR → Prop} (hI : Iv 40 (-1) P Q c)  (K : ∀ (c2 : ME), Iv 0 (-1) P Q c2 → (∀ (a : Nat) (j : Int), ¬ (a = 40) → c2 a j = c a j) → Z (.inl (none), Wd P Q P P c2, 0, 0)) : ∀ n : Nat, (∀ (c2 : ME) (v2 : Int), Iv 40 (-1) P Q c2 → (∀ (a : Nat) (j : Int), ¬ (a = 40) → c2 a j = c a j) → 0 ≤ v2 ∧ v2 ≤ 34 → (∀ j : Int, 0 ≤ j → j < v2 → j < 24 → c2 40 j ≤ 999) → 69 - 2 * v2 < (n : Int) → Wp sc (d + 7) 65 7 [(0, .ref 39), (1, .ref P), (2, vi v2)] [] (Wd P Q P P c2) 0 0 Z) := by
  intro n
  induction n with
  | zero => exact (by intro c2 v2 hI2 hF hv2 hx0 hm9; have hP := iv_P hI; have hQ := iv_Q hI; exfalso; omega)
  | succ n ih =>
    have hP := iv_P hI
    have hQ := iv_Q hI
    intro c2 v2 hI2 hF hv2 hx0 hm9
    refine q_iload_n c_65_7 rfl (v_bip c_65_8 (by decide) ?_)
    by_cases h_1 : v2 ≥ 34
    · refine v_ic_ge_t (t := 51) c_65_10 rfl ⟨by decide, h_1, (Int.le_trans hv2.2 (by decide))⟩ (q_vret rfl rfl ?_)
      have hI_2 := iv_close hI2 (fun j hj => by
        have q9 : j % 4 = 0 ∧ 0 ≤ j ∧ j < 24 := hj
        have q0 := hx0 j (by omega) (by omega) (by omega)
        have q1 := hx0 (j + 1) (by omega) (by omega) (by omega)
        have q2 := hx0 (j + 2) (by omega) (by omega) (by omega)
        have q3 := hx0 (j + 3) (by omega) (by omega) (by omega)
        omega)
      exact K c2 hI_2 (fun a j hm => hF a j hm)
    · refine v_ic_ge_f (t := 51) c_65_10 rfl ⟨(Int.le_trans (by decide) hv2.1), (Int.not_le.mp h_1), by decide⟩ (q_aload_n c_65_13 rfl (v_gr (t := 40) c_65_14 kf_4_11 rfl (nb_ rfl) rfl (q_iload_n c_65_17 rfl (q_iload_n c_65_18 rfl (q_aload_n c_65_19 rfl (v_gr (t := P) c_65_20 kf_4_15 rfl (nb_ rfl) rfl ?_))))))
      have h_3 := ir_p0_0 hI hP
      have kn_4 : Hid (c2 P 0 = c P 0) := hF P 0 (fun h => absurd h (np0 hP rfl))
      refine v_gi (z := 0) (v := c P 0) c_65_23 kf_4_19 (ck_p0 hP) (a68z hP) rfl rfl (hid kn_4) (q_iconst c_65_26 (v_imul (v := 4 * c P 0) c_65_27 (by first | exact q_5927377c3 | omega) ?_))
      by_cases h_5 : v2 ≥ 4 * c P 0
      · refine v_ic_ge_t (t := 43) c_65_28 rfl ⟨by first | exact q_4cd384ca3 h_3 | omega, h_5, (Int.le_trans hv2.2 (by decide))⟩ (q_iconst c_65_43 (v_is c_65_44 rfl (by decide) (by decide) ⟨hv2.1, by first | exact q_466f994c8 h_1 | omega⟩ (v_iinc (v := v2 + 1) c_65_45 rfl (nb_ rfl) rfl (q_goto (t := 7) c_65_48 rfl ?_))))
        have hI_6 := iwr0 (a := 40) (j := v2) (v := 0) hI2 (by decide) ⟨by decide, by decide⟩
        refine Wp_ls [(0, .ref 39), (1, .ref P), (2, vi (v2 + 1))] (lsub_cons rfl (lsub_cons rfl (lsub_cons rfl lsub_nil))) ?_
        have hr_7 : ∀ j : Int, 0 ≤ j → j < v2 + 1 → j < 24 → (up c2 40 v2 0) 40 j ≤ 999 := by
          intro j hj1 hj2 hj3
          by_cases e9 : j = v2
          · have q9 : (up c2 40 v2 0) 40 j = 0 := up_e e9
            rw [q9]
            omega
          · have q9 : (up c2 40 v2 0) 40 j = c2 40 j := up_n e9
            rw [q9]
            exact hx0 j hj1 (by omega) hj3
        exact ih (up c2 40 v2 0) (v2 + 1) hI_6 (fun a j hm => (up_b (Decidable.or_iff_not_imp_left.mpr (fun h1 h2 => hm (Decidable.not_not.mp h1)))).trans (hF a j hm)) ⟨by first | exact rgp_l hv2.1 (by decide) | omega, by first | exact q_1fcd92368 h_1 | omega⟩ hr_7 (by omega)
      · refine v_ic_ge_f (t := 43) c_65_28 rfl ⟨(Int.le_trans (by decide) hv2.1), (Int.not_le.mp h_5), by first | exact q_959592613 h_3 | omega⟩ (q_aload_n c_65_31 rfl (v_gr (t := P) c_65_32 kf_4_15 rfl (nb_ rfl) rfl (v_gr (t := (P + 1)) c_65_35 kf_4_25 (ck_p0 hP) (a68z hP) rfl (q_iload_n c_65_38 rfl ?_))))
        have h_8 := ir_p1 hI hP v2
        have kn_9 : Hid (c2 (P + 1) v2 = c (P + 1) v2) := hF (P + 1) v2 (fun h => absurd h (np hP rfl rfl))
        refine v_ia (v := c (P + 1) v2) c_65_39 (ck_p1 hP) (a68 hP rfl) (by decide) ⟨hv2.1, by first | exact q_b6dd10c5c h_3 h_5 | omega⟩ (hid kn_9) (q_goto (t := 44) c_65_40 rfl (v_is c_65_44 rfl (by decide) (by decide) ⟨hv2.1, by first | exact q_86d808b33 h_3 h_5 | omega⟩ (v_iinc (v := v2 + 1) c_65_45 rfl (nb_ rfl) rfl (q_goto (t := 7) c_65_48 rfl ?_))))
        have hI_10 := iwr0 (a := 40) (j := v2) (v := c (P + 1) v2) hI2 (by decide) ⟨by first | exact q_92f4ab8bf h_8 | omega, by first | exact q_0938e55b0 h_8 | omega⟩
        refine Wp_ls [(0, .ref 39), (1, .ref P), (2, vi (v2 + 1))] (lsub_cons rfl (lsub_cons rfl (lsub_cons rfl lsub_nil))) ?_
        have hr_11 : ∀ j : Int, 0 ≤ j → j < v2 + 1 → j < 24 → (up c2 40 v2 (c (P + 1) v2)) 40 j ≤ 999 := by
          intro j hj1 hj2 hj3
          by_cases e9 : j = v2
          · have q9 : (up c2 40 v2 (c (P + 1) v2)) 40 j = c (P + 1) v2 := up_e e9
            rw [q9]
            omega
          · have q9 : (up c2 40 v2 (c (P + 1) v2)) 40 j = c2 40 j := up_n e9
            rw [q9]
            exact hx0 j hj1 (by omega) hj3
        exact ih (up c2 40 v2 (c (P + 1) v2)) (v2 + 1) hI_10 (fun a j hm => (up_b (Decidable.or_iff_not_imp_left.mpr (fun h1 h2 => hm (Decidable.not_not.mp h1)))).trans (hF a j hm)) ⟨by first | exact rgp_l hv2.1 (by decide) | omega, by first | exact q_18033a098 h_3 h_5 | omega⟩ hr_11 (by omega)
set_option maxRecDepth 100000 in
set_option maxHeartbeats 4000000 in
theorem s_65b_5 {sc : List Int32} {d P Q : Nat} {c : ME} {Z : AR → Prop} (hI : Iv 40 (-1) P Q c)  (K : ∀ (c2 : ME), Iv 0 (-1) P Q c2 → (∀ (a : Nat) (j : Int), ¬ (a = 40) → c2 a j = c a j) → Z (.inl (none), Wd P Q P P c2, 0, 0)) : Wp sc (d + 7) 65 5 [(0, .ref 39), (1, .ref P)] [] (Wd P Q P P c) 0 0 Z := by
  have hP := iv_P hI
  have hQ := iv_Q hI
  refine q_iconst c_65_5 (q_istore_n c_65_6 (nb_ rfl) (Wp_ls [(0, .ref 39), (1, .ref P), (2, vi 0)] (lsub_cons rfl (lsub_cons rfl (lsub_cons rfl lsub_nil))) ?_))
  have hr_12 : ∀ j : Int, 0 ≤ j → j < 0 → j < 24 → c 40 j ≤ 999 := by
    intro j hj1 hj2 hj3
    omega
  exact (s_65b_5_l (sc := sc) (d := d) hI K 72) c 0 hI (fun a j hm => rfl) ⟨by decide, by decide⟩ hr_12 (by omega)
set_option maxRecDepth 100000 in
set_option maxHeartbeats 4000000 in
theorem s_65a {sc : List Int32} {d P Q N T : Nat} {c : ME} {Z : AR → Prop} (hI : Iv 0 (-1) P Q c) (K : ∀ c2 : ME, Iv 0 (-1) P Q c2 → (∀ (a : Nat) (j : Int), ¬ (a = 38) → c2 a j = c a j) → Z (.inl none, Wd P Q P T c2, 0, 0)) : Wp sc (d + 8) 65 0 [(0, .ref 37), (1, .ref P)] [] (Wd P Q N T c) 0 0 Z := by
  refine q_aload_n rfl rfl (q_aload_n rfl rfl (v_pr (P' := P) (Q' := Q) (N' := P) (T' := T) rfl rfl rfl rfl (by decide) (Nat.lt_of_succ_le (nb_ rfl)) (fun c => rfl) rfl (by decide) (fun b hb => ck_x37 hb) ?_))
  exact s_65a_5 (d := d + 1) (iv_open hI) K
set_option maxRecDepth 100000 in
set_option maxHeartbeats 4000000 in
theorem s_65b {sc : List Int32} {d P Q T : Nat} {c : ME} {Z : AR → Prop} (hI : Iv 0 (-1) P Q c) (K : ∀ c2 : ME, Iv 0 (-1) P Q c2 → (∀ (a : Nat) (j : Int), ¬ (a = 40) → c2 a j = c a j) → Z (.inl none, Wd P Q P P c2, 0, 0)) : Wp sc (d + 8) 65 0 [(0, .ref 39), (1, .ref P)] [] (Wd P Q P T c) 0 0 Z := by
  refine q_aload_n rfl rfl (q_aload_n rfl rfl (v_pr (P' := P) (Q' := Q) (N' := P) (T' := P) rfl rfl rfl rfl (by decide) (Nat.lt_of_succ_le (nb_ rfl)) (fun c => rfl) rfl (by decide) (fun b hb => ck_x39 hb) ?_))
  exact s_65b_5 (d := d + 1) (iv_open hI) K

set_option maxRecDepth 100000 in
set_option maxHeartbeats 4000000 in
theorem s_66 {sc : List Int32} {d P Q : Nat} {c : ME} {Z : AR → Prop} (hI : Iv 0 (-1) P Q c)  (K : ∀ (c2 : ME), Iv 0 (-1) P Q c2 → (∀ (a : Nat) (j : Int), ¬ (a = 40) → c2 a j = c a j) → Z (.inl (none), Wd P Q P P c2, 0, 0)) : Wp sc (d + 7) 66 0 [(0, .ref 39), (1, .ref 37)] [] (Wd P Q P P c) 0 0 Z := by
  have hP := iv_P hI
  have hQ := iv_Q hI
  refine q_aload_n c_66_0 rfl (v_gr (t := 38) c_66_1 kf_4_11 rfl (nb_ rfl) rfl (q_iconst c_66_4 (q_aload_n c_66_5 rfl (v_gr (t := 40) c_66_6 kf_4_11 rfl (nb_ rfl) rfl (q_iconst c_66_9 (v_bip c_66_10 (by decide) (v_cpy c_66_12 rfl rfl (by decide) rfl (by decide) rfl rfl (by omega) (nb_ rfl) (by omega) ?_)))))))
  refine q_vret rfl rfl ?_
  have hI_1 := cp_38_40 hI
  exact K (upc c 38 0 40 0 34) hI_1 (fun a j hm => upc_c (fun h => hm h))

set_option maxRecDepth 100000 in
set_option maxHeartbeats 4000000 in
theorem s_67_l {sc : List Int32} {e : Int} {d u P Q sh s : Nat} {c : ME} {a1 : Int} {Z : AR → Prop} (hI : Iv u e P Q c) (hs : (sh = 37 ∧ s = 38) ∨ (sh = 39 ∧ s = 40)) (ha1 : 0 ≤ a1 ∧ a1 ≤ 5) (K : ∀ (y : Int), (-2147483648) ≤ y ∧ y ≤ 2147483647 → Z (.inl (some (vi y)), Wd P Q P P c, 0, 0)) : ∀ n : Nat, (∀ (v2 : Int) (v3 : Int), (-2147483648) ≤ v2 ∧ v2 ≤ 2147483647 → 0 ≤ v3 ∧ v3 ≤ 4 → 9 - 2 * v3 < (n : Int) → Wp sc (d + 8) 67 4 [(0, .ref sh), (1, vi a1), (2, vi v2), (3, vi v3)] [] (Wd P Q P P c) 0 0 Z) := by
  intro n
  induction n with
  | zero => exact (by intro v2 v3 hv2 hv3 hm9; have hP := iv_P hI; have hQ := iv_Q hI; exfalso; omega)
  | succ n ih =>
    have hP := iv_P hI
    have hQ := iv_Q hI
    intro v2 v3 hv2 hv3 hm9
    refine q_iload_n c_67_4 rfl (q_iconst c_67_5 ?_)
    by_cases h_1 : v3 ≥ 4
    · refine v_ic_ge_t (t := 32) c_67_6 rfl ⟨by decide, h_1, (Int.le_trans hv3.2 (by decide))⟩ (q_iload_n c_67_32 rfl (q_iret c_67_33 rfl ?_))
      exact K v2 hv2
    · refine v_ic_ge_f (t := 32) c_67_6 rfl ⟨(Int.le_trans (by decide) hv3.1), (Int.not_le.mp h_1), by decide⟩ (q_iload_n c_67_9 rfl (q_aload_n c_67_10 rfl (q_iload_n c_67_11 rfl (q_iload_n c_67_12 rfl ?_))))
      have h_2 := ir_s_g hI hs (j := 4 * a1 + v3) (by first | exact q_e3e978779 h_1 ha1 | omega)
      refine v_cv c_67_13 km_4_34 rfl (ck_sh hs) (a68sh hs) ⟨⟨rfl, rfl⟩, by decide, rfl⟩ (nb_ rfl) (nb_ rfl) (s_45 (v1 := c s (4 * a1 + v3)) (r := c s (4 * a1 + v3)) (a1 := a1) (a2 := v3) hI hs (show 0 ≤ a1 ∧ a1 ≤ 5 from ha1) (show 0 ≤ v3 ∧ v3 ≤ 3 from ⟨hv3.1, by first | exact q_482ef8d41 h_1 | omega⟩) (rfl) (by omega) (bk_inl ?_))
      by_cases h_3 : c s (4 * a1 + v3) ≤ 0
      · refine v_if_le_t (t := 23) c_67_16 rfl ⟨(Int.le_trans (by decide) h_2.1), h_3, by decide⟩ (q_iconst c_67_23 (v_iadd (v := v2) c_67_24 (by first | exact q_7038fede5 | omega) (q_istore_n c_67_25 (nb_ rfl) (v_iinc (v := v3 + 1) c_67_26 rfl (nb_ rfl) rfl (q_goto (t := 4) c_67_29 rfl (Wp_ls [(0, .ref sh), (1, vi a1), (2, vi v2), (3, vi (v3 + 1))] (lsub_cons rfl (lsub_cons rfl (lsub_cons rfl (lsub_cons rfl lsub_nil)))) ?_))))))
        exact ih v2 (v3 + 1) hv2 ⟨by first | exact rgp_l hv3.1 (by decide) | omega, by first | exact q_121241f94 h_1 | omega⟩ (by omega)
      · refine v_if_le_f (t := 23) c_67_16 rfl ⟨by decide, (Int.not_le.mp h_3), (Int.le_trans h_2.2 (by decide))⟩ (q_iconst c_67_19 (q_goto (t := 24) c_67_20 rfl (v_iadd (v := v2 + 1) c_67_24 rfl (v_nrm (fun y_4 hy_4 => (q_istore_n c_67_25 (nb_ rfl) (v_iinc (v := v3 + 1) c_67_26 rfl (nb_ rfl) rfl (q_goto (t := 4) c_67_29 rfl ?_))))))))
        refine Wp_ls [(0, .ref sh), (1, vi a1), (2, vi y_4), (3, vi (v3 + 1))] (lsub_cons rfl (lsub_cons rfl (lsub_cons rfl (lsub_cons rfl lsub_nil)))) ?_
        exact ih y_4 (v3 + 1) hy_4 ⟨by first | exact rgp_l hv3.1 (by decide) | omega, by first | exact q_121241f94 h_1 | omega⟩ (by omega)
set_option maxRecDepth 100000 in
set_option maxHeartbeats 4000000 in
theorem s_67 {sc : List Int32} {e : Int} {d u P Q sh s : Nat} {c : ME} {a1 : Int} {Z : AR → Prop} (hI : Iv u e P Q c) (hs : (sh = 37 ∧ s = 38) ∨ (sh = 39 ∧ s = 40)) (ha1 : 0 ≤ a1 ∧ a1 ≤ 5) (K : ∀ (y : Int), (-2147483648) ≤ y ∧ y ≤ 2147483647 → Z (.inl (some (vi y)), Wd P Q P P c, 0, 0)) : Wp sc (d + 8) 67 0 [(0, .ref sh), (1, vi a1)] [] (Wd P Q P P c) 0 0 Z := by
  have hP := iv_P hI
  have hQ := iv_Q hI
  refine q_iconst c_67_0 (q_istore_n c_67_1 (nb_ rfl) (q_iconst c_67_2 (q_istore_n c_67_3 (nb_ rfl) (Wp_ls [(0, .ref sh), (1, vi a1), (2, vi 0), (3, vi 0)] (lsub_cons rfl (lsub_cons rfl (lsub_cons rfl (lsub_cons rfl lsub_nil)))) ?_))))
  exact (s_67_l (sc := sc) (d := d) hI hs ha1 K 12) 0 0 ⟨by decide, by decide⟩ ⟨by decide, by decide⟩ (by omega)

set_option maxRecDepth 100000 in
set_option maxHeartbeats 4000000 in
theorem s_68 {sc : List Int32} {e : Int} {d u P Q sh s : Nat} {c : ME} {a1 : Int} {Z : AR → Prop} (hI : Iv u e P Q c) (hs : (sh = 37 ∧ s = 38) ∨ (sh = 39 ∧ s = 40)) (ha1 : 0 ≤ a1 ∧ a1 ≤ 5) (K : ∀ (y : Int), (-2147483648) ≤ y ∧ y ≤ 2147483647 → Z (.inl (some (vi y)), Wd P Q P P c, 0, 0)) : Wp sc (d + 8) 68 0 [(0, .ref sh), (1, vi a1)] [] (Wd P Q P P c) 0 0 Z := by
  have hP := iv_P hI
  have hQ := iv_Q hI
  refine q_aload_n c_68_0 rfl (q_iload_n c_68_1 rfl ?_)
  have h_1 := ir_s_g hI hs (j := 4 * a1) (by first | exact q_9f1d5ffdc ha1 | omega)
  have h_2 := ir_s_g hI hs (j := 4 * a1 + 1) (by first | exact q_0a2ee6f8f ha1 | omega)
  have h_3 := ir_s_g hI hs (j := 4 * a1 + 2) (by first | exact q_e07a293a2 ha1 | omega)
  have h_4 := ir_s_g hI hs (j := 4 * a1 + 3) (by first | exact q_d09cb0b73 ha1 | omega)
  refine v_cv c_68_2 km_4_38 rfl (ck_sh hs) (a68sh hs) ⟨⟨rfl, rfl⟩, by decide, rfl⟩ (nb_ rfl) (nb_ rfl) (s_43 (v1 := c s (4 * a1)) (v2 := c s (4 * a1 + 1)) (v3 := c s (4 * a1 + 2)) (v4 := c s (4 * a1 + 3)) (r := c s (4 * a1 + 1) + c s (4 * a1 + 2) + c s (4 * a1 + 3) + c s (4 * a1)) (a1 := a1) hI hs (show 0 ≤ a1 ∧ a1 ≤ 5 from ha1) (rfl) (rfl) (rfl) (rfl) (by omega) (bk_inl (q_istore_n c_68_5 (nb_ rfl) (q_iload_n c_68_6 rfl ?_))))
  by_cases h_5 : c s (4 * a1 + 1) + c s (4 * a1 + 2) + c s (4 * a1 + 3) + c s (4 * a1) ≤ 0
  · refine v_if_le_t (t := 25) c_68_7 rfl ⟨by first | exact q_e052ef40e h_1 h_2 h_3 h_4 | omega, h_5, by decide⟩ (q_iconst c_68_25 (q_iret c_68_26 rfl ?_))
    exact K 0 ⟨by decide, by decide⟩
  · refine v_if_le_f (t := 25) c_68_7 rfl ⟨by decide, (Int.not_le.mp h_5), by first | exact q_db9ef1f4a h_1 h_2 h_3 h_4 | omega⟩ (v_sip c_68_10 (by decide) (q_aload_n c_68_13 rfl (q_iload_n c_68_14 rfl (q_iconst c_68_15 (v_cv c_68_16 km_4_34 rfl (ck_sh hs) (a68sh hs) ⟨⟨rfl, rfl⟩, by decide, rfl⟩ (nb_ rfl) (nb_ rfl) (s_45 (v1 := c s (4 * a1)) (r := c s (4 * a1)) (a1 := a1) (a2 := 0) hI hs (show 0 ≤ a1 ∧ a1 ≤ 5 from ha1) (show 0 ≤ 0 ∧ 0 ≤ 3 from ⟨by decide, by decide⟩) ((congrArg (c s) (show 4 * a1 + 0 = 4 * a1 from by first | exact q_8baad3eb5 | omega))) (by omega) (bk_inl (v_imul (v := 1000 * c s (4 * a1)) c_68_19 (by first | exact q_c64efdab1 | omega) ?_))))))))
    refine q_iload_n c_68_20 rfl (v_idivx c_68_21 ⟨by omega, by omega, by omega⟩ (fun y_6 hy_6 => (q_goto (t := 26) c_68_22 rfl (q_iret c_68_26 rfl ?_))))
    exact K y_6 hy_6

set_option maxRecDepth 100000 in
set_option maxHeartbeats 4000000 in
theorem s_69_l {sc : List Int32} {e : Int} {d u P Q sh s : Nat} {c : ME} {Z : AR → Prop} (hI : Iv u e P Q c) (hs : (sh = 37 ∧ s = 38) ∨ (sh = 39 ∧ s = 40)) (K : ∀ (y : Int), (-2147483648) ≤ y ∧ y ≤ 2147483647 → Z (.inl (some (vi y)), Wd P Q P P c, 0, 0)) : ∀ n : Nat, (∀ (v1 : Int) (v2 : Int), (-2147483648) ≤ v1 ∧ v1 ≤ 2147483647 → 0 ≤ v2 ∧ v2 ≤ 6 → 13 - 2 * v2 < (n : Int) → Wp sc (d + 8) 69 4 [(0, .ref sh), (1, vi v1), (2, vi v2)] [] (Wd P Q P P c) 0 0 Z) := by
  intro n
  induction n with
  | zero => exact (by intro v1 v2 hv1 hv2 hm9; have hP := iv_P hI; have hQ := iv_Q hI; exfalso; omega)
  | succ n ih =>
    have hP := iv_P hI
    have hQ := iv_Q hI
    intro v1 v2 hv1 hv2 hm9
    refine q_iload_n c_69_4 rfl (q_aload_n c_69_5 rfl (v_gr (t := P) c_69_6 kf_4_15 (ck_sh hs) (a68sh hs) rfl ?_))
    have h_1 := ir_p0_0 hI hP
    refine v_gi (z := 0) (v := c P 0) c_69_9 kf_4_19 (ck_p0 hP) (a68z hP) rfl rfl rfl ?_
    by_cases h_2 : v2 ≥ c P 0
    · refine v_ic_ge_t (t := 29) c_69_12 rfl ⟨(Int.le_trans (by decide) h_1.1), h_2, (Int.le_trans hv2.2 (by decide))⟩ (q_iload_n c_69_29 rfl (q_iret c_69_30 rfl ?_))
      exact K v1 hv1
    · refine v_ic_ge_f (t := 29) c_69_12 rfl ⟨(Int.le_trans (by decide) hv2.1), (Int.not_le.mp h_2), (Int.le_trans h_1.2 (by decide))⟩ (q_iload_n c_69_15 rfl (q_aload_n c_69_16 rfl (q_iload_n c_69_17 rfl ?_)))
      have h_3 := ir_s_g hI hs (j := 4 * v2) (by first | exact q_aa51b186e h_1 h_2 | omega)
      have h_4 := ir_s_g hI hs (j := 4 * v2 + 1) (by first | exact q_57851f9de h_1 h_2 | omega)
      have h_5 := ir_s_g hI hs (j := 4 * v2 + 2) (by first | exact q_7296e74e6 h_1 h_2 | omega)
      have h_6 := ir_s_g hI hs (j := 4 * v2 + 3) (by first | exact q_b15525c4c h_1 h_2 | omega)
      refine v_cv c_69_18 km_4_38 rfl (ck_sh hs) (a68sh hs) ⟨⟨rfl, rfl⟩, by decide, rfl⟩ (nb_ rfl) (nb_ rfl) (s_43 (v1 := c s (4 * v2)) (v2 := c s (4 * v2 + 1)) (v3 := c s (4 * v2 + 2)) (v4 := c s (4 * v2 + 3)) (r := c s (4 * v2 + 1) + c s (4 * v2 + 2) + c s (4 * v2 + 3) + c s (4 * v2)) (a1 := v2) hI hs (show 0 ≤ v2 ∧ v2 ≤ 5 from ⟨hv2.1, by first | exact q_d63a8538e h_1 h_2 | omega⟩) (rfl) (rfl) (rfl) (rfl) (by omega) (bk_inl (v_iadd (v := c s (4 * v2 + 1) + c s (4 * v2 + 2) + c s (4 * v2 + 3) + c s (4 * v2) + v1) c_69_21 (by first | exact q_8299135d3 | omega) (v_nrm (fun y_7 hy_7 => (q_istore_n c_69_22 (nb_ rfl) (v_iinc (v := v2 + 1) c_69_23 rfl (nb_ rfl) rfl (q_goto (t := 4) c_69_26 rfl (Wp_ls [(0, .ref sh), (1, vi y_7), (2, vi (v2 + 1))] (lsub_cons rfl (lsub_cons rfl (lsub_cons rfl lsub_nil))) ?_)))))))))
      exact ih y_7 (v2 + 1) hy_7 ⟨by first | exact rgp_l hv2.1 (by decide) | omega, by first | exact q_4a76cd9c7 h_1 h_2 | omega⟩ (by omega)
set_option maxRecDepth 100000 in
set_option maxHeartbeats 4000000 in
theorem s_69 {sc : List Int32} {e : Int} {d u P Q sh s : Nat} {c : ME} {Z : AR → Prop} (hI : Iv u e P Q c) (hs : (sh = 37 ∧ s = 38) ∨ (sh = 39 ∧ s = 40)) (K : ∀ (y : Int), (-2147483648) ≤ y ∧ y ≤ 2147483647 → Z (.inl (some (vi y)), Wd P Q P P c, 0, 0)) : Wp sc (d + 8) 69 0 [(0, .ref sh)] [] (Wd P Q P P c) 0 0 Z := by
  have hP := iv_P hI
  have hQ := iv_Q hI
  refine q_iconst c_69_0 (q_istore_n c_69_1 (nb_ rfl) (q_iconst c_69_2 (q_istore_n c_69_3 (nb_ rfl) (Wp_ls [(0, .ref sh), (1, vi 0), (2, vi 0)] (lsub_cons rfl (lsub_cons rfl (lsub_cons rfl lsub_nil))) ?_))))
  exact (s_69_l (sc := sc) (d := d) hI hs K 16) 0 0 ⟨by decide, by decide⟩ ⟨by decide, by decide⟩ (by omega)

set_option maxRecDepth 100000 in
set_option maxHeartbeats 4000000 in
theorem s_70_l {sc : List Int32} {e : Int} {d u P Q sh s : Nat} {c : ME} {Z : AR → Prop} (hI : Iv u e P Q c) (hs : (sh = 37 ∧ s = 38) ∨ (sh = 39 ∧ s = 40)) (K : ∀ (y : Int), (-2147483648) ≤ y ∧ y ≤ 2147483647 → Z (.inl (some (vi y)), Wd P Q P P c, 0, 0)) : ∀ n : Nat, (∀ (v1 : Int) (v2 : Int), (-2147483648) ≤ v1 ∧ v1 ≤ 2147483647 → 0 ≤ v2 ∧ v2 ≤ 6 → 13 - 2 * v2 < (n : Int) → Wp sc (d + 8) 70 4 [(0, .ref sh), (1, vi v1), (2, vi v2)] [] (Wd P Q P P c) 0 0 Z) := by
  intro n
  induction n with
  | zero => exact (by intro v1 v2 hv1 hv2 hm9; have hP := iv_P hI; have hQ := iv_Q hI; exfalso; omega)
  | succ n ih =>
    have hP := iv_P hI
    have hQ := iv_Q hI
    intro v1 v2 hv1 hv2 hm9
    refine q_iload_n c_70_4 rfl (q_aload_n c_70_5 rfl (v_gr (t := P) c_70_6 kf_4_15 (ck_sh hs) (a68sh hs) rfl ?_))
    have h_1 := ir_p0_0 hI hP
    refine v_gi (z := 0) (v := c P 0) c_70_9 kf_4_19 (ck_p0 hP) (a68z hP) rfl rfl rfl ?_
    by_cases h_2 : v2 ≥ c P 0
    · refine v_ic_ge_t (t := 35) c_70_12 rfl ⟨(Int.le_trans (by decide) h_1.1), h_2, (Int.le_trans hv2.2 (by decide))⟩ (q_iload_n c_70_35 rfl (q_iret c_70_36 rfl ?_))
      exact K v1 hv1
    · refine v_ic_ge_f (t := 35) c_70_12 rfl ⟨(Int.le_trans (by decide) hv2.1), (Int.not_le.mp h_2), (Int.le_trans h_1.2 (by decide))⟩ (q_aload_n c_70_15 rfl (q_iload_n c_70_16 rfl ?_))
      have h_3 := ir_s_g hI hs (j := 4 * v2) (by first | exact q_aa51b186e h_1 h_2 | omega)
      have h_4 := ir_s_g hI hs (j := 4 * v2 + 1) (by first | exact q_57851f9de h_1 h_2 | omega)
      have h_5 := ir_s_g hI hs (j := 4 * v2 + 2) (by first | exact q_7296e74e6 h_1 h_2 | omega)
      have h_6 := ir_s_g hI hs (j := 4 * v2 + 3) (by first | exact q_b15525c4c h_1 h_2 | omega)
      refine v_cv c_70_17 km_4_38 rfl (ck_sh hs) (a68sh hs) ⟨⟨rfl, rfl⟩, by decide, rfl⟩ (nb_ rfl) (nb_ rfl) (s_43 (v1 := c s (4 * v2)) (v2 := c s (4 * v2 + 1)) (v3 := c s (4 * v2 + 2)) (v4 := c s (4 * v2 + 3)) (r := c s (4 * v2 + 1) + c s (4 * v2 + 2) + c s (4 * v2 + 3) + c s (4 * v2)) (a1 := v2) hI hs (show 0 ≤ v2 ∧ v2 ≤ 5 from ⟨hv2.1, by first | exact q_d63a8538e h_1 h_2 | omega⟩) (rfl) (rfl) (rfl) (rfl) (by omega) (bk_inl ?_))
      by_cases h_7 : c s (4 * v2 + 1) + c s (4 * v2 + 2) + c s (4 * v2 + 3) + c s (4 * v2) ≠ 0
      · refine v_if_ne_t (t := 29) c_70_20 rfl ⟨h_7, ⟨by first | exact q_e052ef40e h_3 h_4 h_5 h_6 | omega, by first | exact q_db9ef1f4a h_3 h_4 h_5 h_6 | omega⟩, by decide, by decide⟩ (v_iinc (v := v2 + 1) c_70_29 rfl (nb_ rfl) rfl (q_goto (t := 4) c_70_32 rfl (Wp_ls [(0, .ref sh), (1, vi v1), (2, vi (v2 + 1))] (lsub_cons rfl (lsub_cons rfl (lsub_cons rfl lsub_nil))) ?_)))
        exact ih v1 (v2 + 1) hv1 ⟨by first | exact rgp_l hv2.1 (by decide) | omega, by first | exact q_4a76cd9c7 h_1 h_2 | omega⟩ (by omega)
      · refine v_if_ne_f (t := 29) c_70_20 rfl (Decidable.not_not.mp h_7) (q_iload_n c_70_23 rfl (q_iconst c_70_24 (q_iload_n c_70_25 rfl (v_shl1 c_70_26 ⟨by omega, by omega⟩ (fun y_8 hy_8 => (v_iorx c_70_27 (fun y_9 hy_9 => (q_istore_n c_70_28 (nb_ rfl) (v_iinc (v := v2 + 1) c_70_29 rfl (nb_ rfl) rfl ?_)))))))))
        refine q_goto (t := 4) c_70_32 rfl (Wp_ls [(0, .ref sh), (1, vi y_9), (2, vi (v2 + 1))] (lsub_cons rfl (lsub_cons rfl (lsub_cons rfl lsub_nil))) ?_)
        exact ih y_9 (v2 + 1) hy_9 ⟨by first | exact rgp_l hv2.1 (by decide) | omega, by first | exact q_4a76cd9c7 h_1 h_2 | omega⟩ (by omega)
set_option maxRecDepth 100000 in
set_option maxHeartbeats 4000000 in
theorem s_70 {sc : List Int32} {e : Int} {d u P Q sh s : Nat} {c : ME} {Z : AR → Prop} (hI : Iv u e P Q c) (hs : (sh = 37 ∧ s = 38) ∨ (sh = 39 ∧ s = 40)) (K : ∀ (y : Int), (-2147483648) ≤ y ∧ y ≤ 2147483647 → Z (.inl (some (vi y)), Wd P Q P P c, 0, 0)) : Wp sc (d + 8) 70 0 [(0, .ref sh)] [] (Wd P Q P P c) 0 0 Z := by
  have hP := iv_P hI
  have hQ := iv_Q hI
  refine q_iconst c_70_0 (q_istore_n c_70_1 (nb_ rfl) (q_iconst c_70_2 (q_istore_n c_70_3 (nb_ rfl) (Wp_ls [(0, .ref sh), (1, vi 0), (2, vi 0)] (lsub_cons rfl (lsub_cons rfl (lsub_cons rfl lsub_nil))) ?_))))
  exact (s_70_l (sc := sc) (d := d) hI hs K 16) 0 0 ⟨by decide, by decide⟩ ⟨by decide, by decide⟩ (by omega)

set_option maxRecDepth 100000 in
set_option maxHeartbeats 4000000 in
theorem s_72 {sc : List Int32} {e : Int} {d u P Q : Nat} {c : ME} {a1 : Int} {Z : AR → Prop} (hI : Iv u e P Q c) (ha1 : 0 ≤ a1 ∧ a1 ≤ 20) (K : ∀ (y : Int), 0 ≤ y ∧ y ≤ 1 → ((y = 0) ∨ (a1 + c 1 3 ≤ 600)) → Z (.inl (some (vi y)), Wd P Q P P c, 0, 0)) : Wp sc (d + 7) 72 0 [(0, .ref 1), (1, vi a1)] [] (Wd P Q P P c) 0 0 Z := by
  have hP := iv_P hI
  have hQ := iv_Q hI
  refine q_aload_n c_72_0 rfl ?_
  have h_1 := ir_1_3 hI
  refine v_gi (z := 3) (v := c 1 3) c_72_1 kf_5_19 rfl (nb_ rfl) rfl rfl rfl (q_iload_n c_72_4 rfl (v_iadd (v := a1 + c 1 3) c_72_5 (by first | exact q_893c89ded | omega) (q_aload_n c_72_6 rfl (v_gr (t := 2) c_72_7 kf_5_9 rfl (nb_ rfl) rfl (v_al c_72_10 rfl (by decide) (by decide) ?_)))))
  by_cases h_2 : a1 + c 1 3 > 600
  · refine v_ic_gt_t (t := 18) c_72_11 rfl ⟨by decide, h_2, by first | exact q_23711b5cc h_1 ha1 | omega⟩ (q_iconst c_72_18 (v_zret c_72_19 rfl (by decide) ?_))
    exact K 0 ⟨by decide, by decide⟩ (Or.inl (by first | assumption | omega))
  · refine v_ic_gt_f (t := 18) c_72_11 rfl ⟨by first | exact q_5ccbaaa40 h_1 ha1 | omega, (Int.not_lt.mp h_2), by decide⟩ (q_iconst c_72_14 (q_goto (t := 19) c_72_15 rfl (v_zret c_72_19 rfl (by decide) ?_)))
    exact K 1 ⟨by decide, by decide⟩ (Or.inr (by first | exact q_feda450ca h_2 | omega))

set_option maxRecDepth 100000 in
set_option maxHeartbeats 4000000 in
theorem s_73_l {sc : List Int32} {e : Int} {d u P Q : Nat} {c : ME} {a1 : Int} {Z : AR → Prop} (hI : Iv u e P Q c) (ha1 : (-2147483648) ≤ a1 ∧ a1 ≤ 2147483647) (K : ∀ (c2 : ME), Iv u e P Q c2 → (∀ (a : Nat) (j : Int), ¬ ((a = 1 ∧ j = 3) ∨ a = 2) → c2 a j = c a j) → Z (.inl (none), Wd P Q P P c2, 0, 0)) : ∀ n : Nat, (∀ (c2 : ME) (v2 : Int), Iv u e P Q c2 → (∀ (a : Nat) (j : Int), ¬ ((a = 1 ∧ j = 3) ∨ a = 2) → c2 a j = c a j) → (-8) ≤ v2 ∧ v2 ≤ 24 → 2 * v2 + 17 < (n : Int) → Wp sc (d + 8) 73 3 [(0, .ref 1), (1, vi a1), (2, vi v2)] [] (Wd P Q P P c2) 0 0 Z) := by
  intro n
  induction n with
  | zero => exact (by intro c2 v2 hI2 hF hv2 hm9; have hP := iv_P hI; have hQ := iv_Q hI; exfalso; omega)
  | succ n ih =>
    have hP := iv_P hI
    have hQ := iv_Q hI
    intro c2 v2 hI2 hF hv2 hm9
    refine q_iload_n c_73_3 rfl ?_
    by_cases h_1 : v2 < 0
    · refine v_if_lt_t (t := 44) c_73_4 rfl ⟨(Int.le_trans (by decide) hv2.1), h_1, by decide⟩ (q_vret rfl rfl ?_)
      exact K c2 hI2 (fun a j hm => hF a j hm)
    · refine v_if_lt_f (t := 44) c_73_4 rfl ⟨by decide, (Int.not_lt.mp h_1), (Int.le_trans hv2.2 (by decide))⟩ (q_aload_n c_73_7 rfl (q_iconst c_73_8 ?_))
      have h_2 := ir_1_3 hI2
      refine v_cv c_73_9 km_5_22 rfl rfl (nb_ rfl) ⟨⟨rfl, rfl⟩, nb_ rfl, rfl⟩ (nb_ rfl) (nb_ rfl) (s_72 (a1 := 1) hI2 (show 0 ≤ 1 ∧ 1 ≤ 20 from ⟨by decide, by decide⟩) (fun y_3 hy_3 h_4 => (bk_inl ?_)))
      by_cases h_5 : y_3 = 0
      · refine v_if_eq_t (t := 44) c_73_12 rfl h_5 (q_vret rfl rfl ?_)
        exact K c2 hI2 (fun a j hm => hF a j hm)
      · refine v_if_eq_f (t := 44) c_73_12 rfl ⟨h_5, ⟨(Int.le_trans (by decide) hy_3.1), (Int.le_trans hy_3.2 (by decide))⟩, by decide, by decide⟩ (q_aload_n c_73_15 rfl (v_gr (t := 2) c_73_16 kf_5_9 rfl (nb_ rfl) rfl (q_aload_n c_73_19 rfl (v_gi (z := 3) (v := c2 1 3) c_73_20 kf_5_19 rfl (nb_ rfl) rfl rfl rfl (q_iload_n c_73_23 rfl (q_iload_n c_73_24 rfl (v_ishrx c_73_25 (fun y_6 hy_6 => ?_))))))))
        refine v_i2b c_73_26 (v_bs c_73_27 rfl (by decide) (by decide) ⟨h_2.1, by first | exact q_c603354c3 h_4 h_5 | omega⟩ (q_aload_n c_73_28 rfl (q_dup c_73_29 rfl (v_gi (z := 3) (v := c2 1 3) c_73_30 kf_5_19 rfl (nb_ rfl) rfl rfl (up_c (nn rfl)) (q_iconst c_73_33 (v_iadd (v := c2 1 3 + 1) c_73_34 rfl (v_pi (z := 3) c_73_35 kf_5_19 rfl (nb_ rfl) rfl rfl rfl (by decide) ?_)))))))
        refine v_iinc (v := v2 - 8) c_73_38 rfl (nb_ rfl) (by first | exact q_0e31dd39d | omega) (q_goto (t := 3) c_73_41 rfl ?_)
        have h_7 := sb_rng (sb y_6)
        have hI_8 := iw_2 (j := c2 1 3) (v := (sb (sb y_6))) hI2 ⟨by first | (clear ha1 hv2 h_1 h_2 h_4 h_5; omega) | omega, by first | (clear ha1 hv2 h_1 h_2 h_4 h_5; omega) | omega⟩
        have hI_9 := iw_1_3 (v := c2 1 3 + 1) hI_8 ⟨by first | exact rgp_l h_2.1 (by decide) | omega, by first | exact q_10c0010c4 h_4 h_5 | omega⟩
        refine Wp_ls [(0, .ref 1), (1, vi a1), (2, vi (v2 - 8))] (lsub_cons rfl (lsub_cons rfl (lsub_cons rfl lsub_nil))) ?_
        exact ih (up (up c2 2 (c2 1 3) (sb (sb y_6))) 1 3 (c2 1 3 + 1)) (v2 - 8) hI_9 (fun a j hm => (up_b (Decidable.or_iff_not_imp_left.mpr (fun h1 h2 => hm (Or.inl ⟨Decidable.not_not.mp h1, h2⟩)))).trans ((up_b (Decidable.or_iff_not_imp_left.mpr (fun h1 h2 => hm (Or.inr (Decidable.not_not.mp h1))))).trans (hF a j hm))) ⟨by first | exact q_4da7665fc h_1 | omega, by first | exact rgm_h hv2.2 (by decide) | omega⟩ (by omega)
set_option maxRecDepth 100000 in
set_option maxHeartbeats 4000000 in
theorem s_73 {sc : List Int32} {e : Int} {d u P Q : Nat} {c : ME} {a1 : Int} {Z : AR → Prop} (hI : Iv u e P Q c) (ha1 : (-2147483648) ≤ a1 ∧ a1 ≤ 2147483647) (K : ∀ (c2 : ME), Iv u e P Q c2 → (∀ (a : Nat) (j : Int), ¬ ((a = 1 ∧ j = 3) ∨ a = 2) → c2 a j = c a j) → Z (.inl (none), Wd P Q P P c2, 0, 0)) : Wp sc (d + 8) 73 0 [(0, .ref 1), (1, vi a1)] [] (Wd P Q P P c) 0 0 Z := by
  have hP := iv_P hI
  have hQ := iv_Q hI
  refine v_bip c_73_0 (by decide) (q_istore_n c_73_2 (nb_ rfl) (Wp_ls [(0, .ref 1), (1, vi a1), (2, vi 24)] (lsub_cons rfl (lsub_cons rfl (lsub_cons rfl lsub_nil))) ?_))
  exact (s_73_l (sc := sc) (d := d) hI ha1 K 68) c 24 hI (fun a j hm => rfl) ⟨by decide, by decide⟩ (by omega)

set_option maxRecDepth 100000 in
set_option maxHeartbeats 4000000 in
theorem s_74 {sc : List Int32} {e : Int} {d u P Q : Nat} {c : ME} {a1 : Int} {Z : AR → Prop} (hI : Iv u e P Q c) (ha1 : 0 ≤ a1 ∧ a1 ≤ 600) (K : ∀ (c2 : ME), Iv u e P Q c2 → (∀ (a : Nat) (j : Int), ¬ ((a = 1 ∧ j = 1) ∨ (a = 1 ∧ j = 2) ∨ (a = 1 ∧ j = 3) ∨ (a = 1 ∧ j = 4) ∨ (a = 1 ∧ j = 5)) → c2 a j = c a j) → ((c2 1 3 = 0)) → Z (.inl (none), Wd P Q P P c2, 0, 0)) : Wp sc (d + 7) 74 0 [(0, .ref 1), (1, vi a1)] [] (Wd P Q P P c) 0 0 Z := by
  have hP := iv_P hI
  have hQ := iv_Q hI
  refine q_aload_n c_74_0 rfl (q_iload_n c_74_1 rfl (q_aload_n c_74_2 rfl ?_))
  have h_1 := ir_1_3 hI
  refine v_gi (z := 3) (v := c 1 3) c_74_3 kf_5_19 rfl (nb_ rfl) rfl rfl rfl (v_minx c_74_6 rfl (by omega) (nb_ rfl) ⟨by omega, by omega, by omega, by omega⟩ (fun y_2 hy_2 => (v_pi (z := 1) c_74_9 kf_5_32 rfl (nb_ rfl) rfl rfl rfl (by decide) (q_aload_n c_74_12 rfl (q_iconst c_74_13 (v_pi (z := 2) c_74_14 kf_5_35 rfl (nb_ rfl) rfl rfl rfl (by decide) (q_aload_n c_74_17 rfl (q_iconst c_74_18 ?_))))))))
  refine v_pi (z := 3) c_74_19 kf_5_19 rfl (nb_ rfl) rfl rfl rfl (by decide) (q_aload_n c_74_22 rfl (q_iconst c_74_23 (v_pi (z := 4) c_74_24 kf_5_38 rfl (nb_ rfl) rfl rfl rfl (by decide) (q_aload_n c_74_27 rfl (q_iconst c_74_28 (v_pi (z := 5) c_74_29 kf_5_15 rfl (nb_ rfl) rfl rfl rfl (by decide) (q_vret rfl rfl ?_)))))))
  have hI_3 := iw_1_1 (v := y_2) hI ⟨by omega, by omega⟩
  have hI_4 := iw_1_2 (v := 0) hI_3 ⟨by decide, by decide⟩
  have hI_5 := iw_1_3 (v := 0) hI_4 ⟨by decide, by decide⟩
  have hI_6 := iw_1_4 (v := 0) hI_5 ⟨by decide, by decide⟩
  have hI_7 := iw_1_5 (v := (-1)) hI_6 ⟨by decide, by decide⟩
  have h_8 : (up (up (up (up (up c 1 1 y_2) 1 2 0) 1 3 0) 1 4 0) 1 5 (-1)) 1 3 = 0 := ((up_n (by decide)).trans ((up_n (by decide)).trans (up_e rfl)))
  exact K (up (up (up (up (up c 1 1 y_2) 1 2 0) 1 3 0) 1 4 0) 1 5 (-1)) hI_7 (fun a j hm => (up_b (Decidable.or_iff_not_imp_left.mpr (fun h1 h2 => hm (Or.inr (Or.inr (Or.inr (Or.inr ⟨Decidable.not_not.mp h1, h2⟩))))))).trans ((up_b (Decidable.or_iff_not_imp_left.mpr (fun h1 h2 => hm (Or.inr (Or.inr (Or.inr (Or.inl ⟨Decidable.not_not.mp h1, h2⟩))))))).trans ((up_b (Decidable.or_iff_not_imp_left.mpr (fun h1 h2 => hm (Or.inr (Or.inr (Or.inl ⟨Decidable.not_not.mp h1, h2⟩)))))).trans ((up_b (Decidable.or_iff_not_imp_left.mpr (fun h1 h2 => hm (Or.inr (Or.inl ⟨Decidable.not_not.mp h1, h2⟩))))).trans (up_b (Decidable.or_iff_not_imp_left.mpr (fun h1 h2 => hm (Or.inl ⟨Decidable.not_not.mp h1, h2⟩)))))))) (by first | assumption | omega)

set_option maxRecDepth 100000 in
set_option maxHeartbeats 4000000 in
theorem s_76 {sc : List Int32} {e : Int} {d u P Q : Nat} {c : ME} {a1 : Int} {Z : AR → Prop} (hI : Iv u e P Q c) (ha1 : 1 ≤ a1 ∧ a1 ≤ 16) (K : ∀ (c2 : ME) (y : Int), Iv u e P Q c2 → (∀ (a : Nat) (j : Int), ¬ ((a = 9 ∧ j = 0)) → c2 a j = c a j) → 0 ≤ y ∧ y ≤ 15 → ((y < a1)) → Z (.inl (some (vi y)), Wd P Q P P c2, 0, 0)) : Wp sc (d + 7) 76 0 [(0, .ref 9), (1, vi a1)] [] (Wd P Q P P c) 0 0 Z := by
  have hP := iv_P hI
  have hQ := iv_Q hI
  refine q_aload_n c_76_0 rfl (q_aload_n c_76_1 rfl ?_)
  have h_1 := ir_9_0 hI
  refine v_gi (z := 0) (v := c 9 0) c_76_2 kf_6_7 rfl (nb_ rfl) rfl rfl rfl (v_ldc (n := 1103515245) c_76_5 rfl (by decide +kernel) (v_imul (v := 1103515245 * c 9 0) c_76_7 (by first | exact q_95b8887df | omega) (v_nrm (fun y_2 hy_2 => (v_sip c_76_8 (by decide) (v_iadd (v := y_2 + 12345) c_76_11 rfl (v_nrm (fun y_3 hy_3 => (v_pi (z := 0) c_76_12 kf_6_7 rfl (nb_ rfl) rfl rfl rfl (by decide) ?_)))))))))
  refine q_iload_n c_76_15 rfl (v_if_le_f (t := 35) c_76_16 rfl ⟨by decide, (Int.lt_of_lt_of_le (by decide) ha1.1), (Int.le_trans ha1.2 (by decide))⟩ (q_aload_n c_76_19 rfl (v_gi (z := 0) (v := y_3) c_76_20 kf_6_7 rfl (nb_ rfl) rfl rfl (up_e rfl) (v_bip c_76_23 (by decide) (v_iushrx c_76_25 (fun y_4 hy_4 => (v_sip c_76_26 (by decide) (v_and15 (v := (y_4 % 32768)) c_76_29 rfl ?_))))))))
  refine q_iload_n c_76_30 rfl ?_
  have h_5 : 0 ≤ ((y_4 % 32768) % a1) ∧ ((y_4 % 32768) % a1) < a1 := rem_bd (by omega)
  refine v_irem (v := ((y_4 % 32768) % a1)) c_76_31 (by omega) rfl (q_goto (t := 36) c_76_32 rfl (q_iret c_76_36 rfl ?_))
  have hI_6 := iw_9_0 (v := y_3) hI ⟨hy_3.1, hy_3.2⟩
  exact K (up c 9 0 y_3) ((y_4 % 32768) % a1) hI_6 (fun a j hm => up_b (Decidable.or_iff_not_imp_left.mpr (fun h1 h2 => hm ⟨Decidable.not_not.mp h1, h2⟩))) ⟨by first | exact q_c4fec1d75 h_5 | omega, by first | exact q_3c66af975 h_5 ha1 | omega⟩ (by first | exact q_84496e02d h_5 | omega)
end
section
/-! ===== contracts 6 ===== -/
theorem q_b0510b73e {x0 : Int} (f0 : x0 ≤ 0) : x0 < 3 := by omega
theorem q_f2816912d {x0 x1 : Int} (f0 : ¬ (x0 ≥ x1)) (f1 : 1 ≤ x1 ∧ x1 ≤ 48) : x0 + 1 ≤ 48 := by omega
theorem q_6c49a4ad1 {x0 : Int} (f0 : ¬ (x0 ≤ 0)) : 1 ≤ x0 := by omega
theorem q_03fad182f {x0 x1 : Int} (f0 : (x0 < x1)) (f1 : x1 < 3) : x0 ≤ 5 := by omega
theorem qv_f005124bb {P : Nat} {a : Nat} {j : Int} (hm : ¬ ((a = 9 ∧ j = 0) ∨ a = 40 ∨ a = (P + 10) ∨ a = (P + 11))) : ¬ (a = 40 ∨ a = (P + 10) ∨ a = (P + 11)) := (fun q => q.elim (fun h => hm (Or.inr (Or.inl h))) (fun q => q.elim (fun h => hm (Or.inr (Or.inr (Or.inl h)))) (fun h => hm (Or.inr (Or.inr (Or.inr h))))))
theorem q_9fda982ed {x0 : Int} (f0 : ¬ (x0 < 3)) : 0 < x0 := by omega
theorem q_909f086bb {x0 : Int} (f0 : ¬ (x0 < 3)) : 1 ≤ x0 := by omega
theorem q_4176b68dd {x0 x1 : Int} (f0 : (x0 < x1)) (f1 : 0 ≤ x1 ∧ x1 ≤ 6) : x0 ≤ 5 := by omega
theorem q_5c3b51790 {x0 x1 : Int} (f0 : (x0 < x1)) (f1 : 0 ≤ x1 ∧ x1 ≤ 4) : x0 ≤ 3 := by omega
theorem q_5fbbc52e7 {x0 x1 : Int} (f0 : 0 ≤ x0 ∧ x0 < x1) (f1 : 0 ≤ x1 ∧ x1 ≤ 6) : x0 ≤ 5 := by omega
theorem q_47e876c22 {x0 x1 : Int} (f0 : x0 < 3) (f1 : (x1 < x0)) : x1 ≤ 5 := by omega
theorem c_77_35 : mLk 77 35 = some (.iload 8, 2) := rfl
theorem c_77_37 : mLk 77 37 = some (.iload 4, 2) := rfl
theorem c_77_39 : mLk 77 39 = some (.if_icmp .ge 120, 3) := rfl
theorem c_77_42 : mLk 77 42 = some (.iload 5, 2) := rfl
theorem c_77_44 : mLk 77 44 = some (.ifCond .le 29, 3) := rfl
theorem c_77_73 : mLk 77 73 = some (.iload 5, 2) := rfl
theorem c_77_75 : mLk 77 75 = some (.iconst 3, 1) := rfl
theorem c_77_76 : mLk 77 76 = some (.if_icmp .lt 57, 3) := rfl
theorem c_77_133 : mLk 77 133 = some (.iload 5, 2) := rfl
theorem c_77_135 : mLk 77 135 = some (.ifCond .le 14, 3) := rfl
theorem c_77_149 : mLk 77 149 = some (.aload_n 1, 1) := rfl
theorem c_77_150 : mLk 77 150 = some (.invokevirtual 46, 3) := rfl
theorem c_77_153 : mLk 77 153 = some (.iinc 8 1, 3) := rfl
theorem c_77_156 : mLk 77 156 = some (.goto (-121), 3) := rfl
theorem c_77_47 : mLk 77 47 = some (.iload 6, 2) := rfl
theorem c_77_49 : mLk 77 49 = some (.ifCond .le 24, 3) := rfl
theorem c_77_138 : mLk 77 138 = some (.aload_n 1, 1) := rfl
theorem c_77_139 : mLk 77 139 = some (.aload_n 0, 1) := rfl
theorem c_77_140 : mLk 77 140 = some (.iload 5, 2) := rfl
theorem c_77_142 : mLk 77 142 = some (.invokevirtual 30, 3) := rfl
theorem c_77_145 : mLk 77 145 = some (.invokevirtual 42, 3) := rfl
theorem c_77_148 : mLk 77 148 = some (.pop, 1) := rfl
theorem c_77_79 : mLk 77 79 = some (.iload 7, 2) := rfl
theorem c_77_81 : mLk 77 81 = some (.ifCond .le 52, 3) := rfl
theorem c_77_84 : mLk 77 84 = some (.aload_n 0, 1) := rfl
theorem c_77_85 : mLk 77 85 = some (.iload 7, 2) := rfl
theorem c_77_87 : mLk 77 87 = some (.invokevirtual 30, 3) := rfl
theorem c_77_90 : mLk 77 90 = some (.istore 9, 2) := rfl
theorem c_77_92 : mLk 77 92 = some (.aload_n 0, 1) := rfl
theorem c_77_93 : mLk 77 93 = some (.iload 5, 2) := rfl
theorem c_77_95 : mLk 77 95 = some (.invokevirtual 30, 3) := rfl
theorem c_77_98 : mLk 77 98 = some (.istore 10, 2) := rfl
theorem c_77_100 : mLk 77 100 = some (.aload_n 0, 1) := rfl
theorem c_77_101 : mLk 77 101 = some (.bipush 16, 2) := rfl
theorem c_77_103 : mLk 77 103 = some (.invokevirtual 30, 3) := rfl
theorem c_77_106 : mLk 77 106 = some (.iload_n 3, 1) := rfl
theorem c_77_107 : mLk 77 107 = some (.if_icmp .ge 26, 3) := rfl
theorem c_77_110 : mLk 77 110 = some (.aload_n 1, 1) := rfl
theorem c_77_111 : mLk 77 111 = some (.iload 9, 2) := rfl
theorem c_77_113 : mLk 77 113 = some (.iload 10, 2) := rfl
theorem c_77_115 : mLk 77 115 = some (.iload 10, 2) := rfl
theorem c_77_117 : mLk 77 117 = some (.iconst 1, 1) := rfl
theorem c_77_118 : mLk 77 118 = some (.iadd, 1) := rfl
theorem c_77_119 : mLk 77 119 = some (.iload 5, 2) := rfl
theorem c_77_121 : mLk 77 121 = some (.irem, 1) := rfl
theorem c_77_122 : mLk 77 122 = some (.iload 10, 2) := rfl
theorem c_77_124 : mLk 77 124 = some (.iconst 2, 1) := rfl
theorem c_77_125 : mLk 77 125 = some (.iadd, 1) := rfl
theorem c_77_126 : mLk 77 126 = some (.iload 5, 2) := rfl
theorem c_77_128 : mLk 77 128 = some (.irem, 1) := rfl
theorem c_77_129 : mLk 77 129 = some (.invokevirtual 38, 3) := rfl
theorem c_77_132 : mLk 77 132 = some (.pop, 1) := rfl
theorem c_77_52 : mLk 77 52 = some (.aload_n 0, 1) := rfl
theorem c_77_53 : mLk 77 53 = some (.iload 6, 2) := rfl
theorem c_77_55 : mLk 77 55 = some (.invokevirtual 30, 3) := rfl
theorem c_77_58 : mLk 77 58 = some (.istore 9, 2) := rfl
theorem c_77_60 : mLk 77 60 = some (.aload_n 1, 1) := rfl
theorem c_77_61 : mLk 77 61 = some (.iload 9, 2) := rfl
theorem c_77_63 : mLk 77 63 = some (.aload_n 0, 1) := rfl
theorem c_77_64 : mLk 77 64 = some (.iload 5, 2) := rfl
theorem c_77_66 : mLk 77 66 = some (.invokevirtual 30, 3) := rfl
theorem c_77_69 : mLk 77 69 = some (.invokevirtual 34, 3) := rfl
theorem c_77_72 : mLk 77 72 = some (.pop, 1) := rfl
theorem c_77_0 : mLk 77 0 = some (.aload_n 0, 1) := rfl
theorem c_77_1 : mLk 77 1 = some (.iload_n 2, 1) := rfl
theorem c_77_2 : mLk 77 2 = some (.putfield 7, 3) := rfl
theorem c_77_5 : mLk 77 5 = some (.aload_n 1, 1) := rfl
theorem c_77_6 : mLk 77 6 = some (.getfield 13, 3) := rfl
theorem c_77_9 : mLk 77 9 = some (.getfield 19, 3) := rfl
theorem c_77_12 : mLk 77 12 = some (.istore 5, 2) := rfl
theorem c_77_14 : mLk 77 14 = some (.aload_n 1, 1) := rfl
theorem c_77_15 : mLk 77 15 = some (.getfield 13, 3) := rfl
theorem c_77_18 : mLk 77 18 = some (.getfield 24, 3) := rfl
theorem c_77_21 : mLk 77 21 = some (.istore 6, 2) := rfl
theorem c_77_23 : mLk 77 23 = some (.aload_n 1, 1) := rfl
theorem c_77_24 : mLk 77 24 = some (.getfield 13, 3) := rfl
theorem c_77_27 : mLk 77 27 = some (.getfield 27, 3) := rfl
theorem c_77_30 : mLk 77 30 = some (.istore 7, 2) := rfl
theorem c_77_32 : mLk 77 32 = some (.iconst 0, 1) := rfl
theorem c_77_33 : mLk 77 33 = some (.istore 8, 2) := rfl
theorem kf_6_13 : a_lk (kF 6) 13 = some (4, 1) := rfl
theorem kf_6_19 : a_lk (kF 6) 19 = some (2, 0) := rfl
theorem kf_6_24 : a_lk (kF 6) 24 = some (2, 1) := rfl
theorem kf_6_27 : a_lk (kF 6) 27 = some (2, 2) := rfl
theorem km_6_30 : a_lk (kM 6) 30 = some (0, 76) := rfl
theorem km_6_34 : a_lk (kM 6) 34 = some (0, 44) := rfl
theorem km_6_38 : a_lk (kM 6) 38 = some (0, 53) := rfl
theorem km_6_42 : a_lk (kM 6) 42 = some (0, 58) := rfl
theorem km_6_46 : a_lk (kM 6) 46 = some (0, 59) := rfl
set_option maxRecDepth 100000 in
set_option maxHeartbeats 4000000 in
theorem s_77_l {sc : List Int32} {d P Q : Nat} {c : ME} {a2 : Int} {a3 : Int} {a4 : Int} {Z : AR → Prop} (hI : Iv 0 (-1) P Q c) (ha2 : (-2147483648) ≤ a2 ∧ a2 ≤ 2147483647) (ha3 : 0 ≤ a3 ∧ a3 ≤ 16) (ha4 : 1 ≤ a4 ∧ a4 ≤ 48) (K : ∀ (c2 : ME), Iv 0 (-1) P Q c2 → (∀ (a : Nat) (j : Int), ¬ ((a = 9 ∧ j = 0) ∨ a = 40 ∨ a = (P + 10) ∨ a = (P + 11)) → c2 a j = c a j) → Z (.inl (none), Wd P Q P P c2, 0, 0)) : ∀ n : Nat, (∀ (c2 : ME) (v5 : Int) (v6 : Int) (v7 : Int) (v8 : Int), Iv 0 (-1) P Q c2 → (∀ (a : Nat) (j : Int), ¬ ((a = 9 ∧ j = 0) ∨ a = 40 ∨ a = (P + 10) ∨ a = (P + 11)) → c2 a j = c a j) → 0 ≤ v5 ∧ v5 ≤ 6 → 0 ≤ v6 ∧ v6 ≤ 4 → 0 ≤ v7 ∧ v7 ≤ 4 → 0 ≤ v8 ∧ v8 ≤ 48 → 97 - 2 * v8 < (n : Int) → Wp sc (d + 12) 77 35 [(0, .ref 9), (1, .ref 39), (2, vi a2), (3, vi a3), (4, vi a4), (5, vi v5), (6, vi v6), (7, vi v7), (8, vi v8)] [] (Wd P Q P P c2) 0 0 Z) := by
  intro n
  induction n with
  | zero => exact (by intro c2 v5 v6 v7 v8 hI2 hF hv5 hv6 hv7 hv8 hm9; have hP := iv_P hI; have hQ := iv_Q hI; exfalso; omega)
  | succ n ih =>
    have hP := iv_P hI
    have hQ := iv_Q hI
    intro c2 v5 v6 v7 v8 hI2 hF hv5 hv6 hv7 hv8 hm9
    refine q_iload c_77_35 rfl (q_iload c_77_37 rfl ?_)
    by_cases h_1 : v8 ≥ a4
    · refine v_ic_ge_t (t := 159) c_77_39 rfl ⟨(Int.le_trans (by decide) ha4.1), h_1, (Int.le_trans hv8.2 (by decide))⟩ (q_vret rfl rfl ?_)
      exact K c2 hI2 (fun a j hm => hF a j hm)
    · refine v_ic_ge_f (t := 159) c_77_39 rfl ⟨(Int.le_trans (by decide) hv8.1), (Int.not_le.mp h_1), (Int.le_trans ha4.2 (by decide))⟩ (q_iload c_77_42 rfl ?_)
      by_cases h_2 : v5 ≤ 0
      · refine v_if_le_t (t := 73) c_77_44 rfl ⟨(Int.le_trans (by decide) hv5.1), h_2, by decide⟩ (q_iload c_77_73 rfl (q_iconst c_77_75 (v_ic_lt_t (t := 133) c_77_76 rfl ⟨(Int.le_trans (by decide) hv5.1), by first | exact q_b0510b73e h_2 | omega, by decide⟩ (q_iload c_77_133 rfl (v_if_le_t (t := 149) c_77_135 rfl ⟨(Int.le_trans (by decide) hv5.1), by first | exact q_f0d4f2762 h_2 | omega, by decide⟩ (q_aload_n c_77_149 rfl (v_cv c_77_150 km_6_46 rfl rfl (nb_ rfl) ⟨⟨rfl, rfl⟩, nb_ rfl, rfl⟩ (nb_ rfl) (nb_ rfl) (s_59 hI2 (.inr ⟨rfl, rfl⟩) (fun c_3 hI_4 hF_5 => ?_)))))))))
        refine bk_inl (v_iinc (v := v8 + 1) c_77_153 rfl (nb_ rfl) rfl (q_goto (t := 35) c_77_156 rfl (Wp_ls [(0, .ref 9), (1, .ref 39), (2, vi a2), (3, vi a3), (4, vi a4), (5, vi v5), (6, vi v6), (7, vi v7), (8, vi (v8 + 1))] (lsub_cons rfl (lsub_cons rfl (lsub_cons rfl (lsub_cons rfl (lsub_cons rfl (lsub_cons rfl (lsub_cons rfl (lsub_cons rfl (lsub_cons rfl lsub_nil))))))))) ?_)))
        exact ih c_3 v5 v6 v7 (v8 + 1) hI_4 (fun a j hm => (hF_5 a j (fun h => hm (Or.inr (Or.inl h)))).trans (hF a j hm)) hv5 hv6 hv7 ⟨by first | exact rgp_l hv8.1 (by decide) | omega, by first | exact q_f2816912d h_1 ha4 | omega⟩ (by omega)
      · refine v_if_le_f (t := 73) c_77_44 rfl ⟨by decide, (Int.not_le.mp h_2), (Int.le_trans hv5.2 (by decide))⟩ (q_iload c_77_47 rfl ?_)
        by_cases h_6 : v6 ≤ 0
        · refine v_if_le_t (t := 73) c_77_49 rfl ⟨(Int.le_trans (by decide) hv6.1), h_6, by decide⟩ (q_iload c_77_73 rfl (q_iconst c_77_75 ?_))
          by_cases h_7 : v5 < 3
          · refine v_ic_lt_t (t := 133) c_77_76 rfl ⟨(Int.le_trans (by decide) hv5.1), h_7, by decide⟩ (q_iload c_77_133 rfl (v_if_le_f (t := 149) c_77_135 rfl ⟨by decide, by first | exact q_ca88f5637 h_2 | omega, (Int.le_trans hv5.2 (by decide))⟩ (q_aload_n c_77_138 rfl (q_aload_n c_77_139 rfl (q_iload c_77_140 rfl (v_cv c_77_142 km_6_30 rfl rfl (nb_ rfl) ⟨⟨rfl, rfl⟩, nb_ rfl, rfl⟩ (nb_ rfl) (nb_ rfl) (s_76 (a1 := v5) hI2 (show 1 ≤ v5 ∧ v5 ≤ 16 from ⟨by first | exact q_6c49a4ad1 h_2 | omega, (Int.le_trans hv5.2 (by decide))⟩) (fun c_8 y_11 hI_9 hF_10 hy_11 h_12 => (bk_inl ?_)))))))))
            refine v_cv c_77_145 km_6_42 rfl rfl (nb_ rfl) ⟨⟨rfl, rfl⟩, nb_ rfl, rfl⟩ (nb_ rfl) (nb_ rfl) (s_58 (a1 := y_11) hI_9 (.inr ⟨rfl, rfl⟩) (show 0 ≤ y_11 ∧ y_11 ≤ 5 from ⟨hy_11.1, by first | exact q_03fad182f h_12 h_7 | omega⟩) (fun c_13 y_16 hI_14 hF_15 hy_16 => (bk_inl (q_pop c_77_148 rfl (q_aload_n c_77_149 rfl (v_cv c_77_150 km_6_46 rfl rfl (nb_ rfl) ⟨⟨rfl, rfl⟩, nb_ rfl, rfl⟩ (nb_ rfl) (nb_ rfl) (s_59 hI_14 (.inr ⟨rfl, rfl⟩) (fun c_17 hI_18 hF_19 => (bk_inl (v_iinc (v := v8 + 1) c_77_153 rfl (nb_ rfl) rfl (q_goto (t := 35) c_77_156 rfl ?_)))))))))))
            refine Wp_ls [(0, .ref 9), (1, .ref 39), (2, vi a2), (3, vi a3), (4, vi a4), (5, vi v5), (6, vi v6), (7, vi v7), (8, vi (v8 + 1))] (lsub_cons rfl (lsub_cons rfl (lsub_cons rfl (lsub_cons rfl (lsub_cons rfl (lsub_cons rfl (lsub_cons rfl (lsub_cons rfl (lsub_cons rfl lsub_nil))))))))) ?_
            exact ih c_17 v5 v6 v7 (v8 + 1) hI_18 (fun a j hm => (hF_19 a j (fun h => hm (Or.inr (Or.inl h)))).trans ((hF_15 a j (qv_f005124bb hm)).trans ((hF_10 a j (fun h => hm (Or.inl h))).trans (hF a j hm)))) hv5 hv6 hv7 ⟨by first | exact rgp_l hv8.1 (by decide) | omega, by first | exact q_f2816912d h_1 ha4 | omega⟩ (by omega)
          · refine v_ic_lt_f (t := 133) c_77_76 rfl ⟨by decide, (Int.not_lt.mp h_7), (Int.le_trans hv5.2 (by decide))⟩ (q_iload c_77_79 rfl ?_)
            by_cases h_20 : v7 ≤ 0
            · refine v_if_le_t (t := 133) c_77_81 rfl ⟨(Int.le_trans (by decide) hv7.1), h_20, by decide⟩ (q_iload c_77_133 rfl (v_if_le_f (t := 149) c_77_135 rfl ⟨by decide, by first | exact q_9fda982ed h_7 | omega, (Int.le_trans hv5.2 (by decide))⟩ (q_aload_n c_77_138 rfl (q_aload_n c_77_139 rfl (q_iload c_77_140 rfl (v_cv c_77_142 km_6_30 rfl rfl (nb_ rfl) ⟨⟨rfl, rfl⟩, nb_ rfl, rfl⟩ (nb_ rfl) (nb_ rfl) (s_76 (a1 := v5) hI2 (show 1 ≤ v5 ∧ v5 ≤ 16 from ⟨by first | exact q_909f086bb h_7 | omega, (Int.le_trans hv5.2 (by decide))⟩) (fun c_21 y_24 hI_22 hF_23 hy_24 h_25 => (bk_inl ?_)))))))))
              refine v_cv c_77_145 km_6_42 rfl rfl (nb_ rfl) ⟨⟨rfl, rfl⟩, nb_ rfl, rfl⟩ (nb_ rfl) (nb_ rfl) (s_58 (a1 := y_24) hI_22 (.inr ⟨rfl, rfl⟩) (show 0 ≤ y_24 ∧ y_24 ≤ 5 from ⟨hy_24.1, by first | exact q_4176b68dd h_25 hv5 | omega⟩) (fun c_26 y_29 hI_27 hF_28 hy_29 => (bk_inl (q_pop c_77_148 rfl (q_aload_n c_77_149 rfl (v_cv c_77_150 km_6_46 rfl rfl (nb_ rfl) ⟨⟨rfl, rfl⟩, nb_ rfl, rfl⟩ (nb_ rfl) (nb_ rfl) (s_59 hI_27 (.inr ⟨rfl, rfl⟩) (fun c_30 hI_31 hF_32 => (bk_inl (v_iinc (v := v8 + 1) c_77_153 rfl (nb_ rfl) rfl (q_goto (t := 35) c_77_156 rfl ?_)))))))))))
              refine Wp_ls [(0, .ref 9), (1, .ref 39), (2, vi a2), (3, vi a3), (4, vi a4), (5, vi v5), (6, vi v6), (7, vi v7), (8, vi (v8 + 1))] (lsub_cons rfl (lsub_cons rfl (lsub_cons rfl (lsub_cons rfl (lsub_cons rfl (lsub_cons rfl (lsub_cons rfl (lsub_cons rfl (lsub_cons rfl lsub_nil))))))))) ?_
              exact ih c_30 v5 v6 v7 (v8 + 1) hI_31 (fun a j hm => (hF_32 a j (fun h => hm (Or.inr (Or.inl h)))).trans ((hF_28 a j (qv_f005124bb hm)).trans ((hF_23 a j (fun h => hm (Or.inl h))).trans (hF a j hm)))) hv5 hv6 hv7 ⟨by first | exact rgp_l hv8.1 (by decide) | omega, by first | exact q_f2816912d h_1 ha4 | omega⟩ (by omega)
            · refine v_if_le_f (t := 133) c_77_81 rfl ⟨by decide, (Int.not_le.mp h_20), (Int.le_trans hv7.2 (by decide))⟩ (q_aload_n c_77_84 rfl (q_iload c_77_85 rfl (v_cv c_77_87 km_6_30 rfl rfl (nb_ rfl) ⟨⟨rfl, rfl⟩, nb_ rfl, rfl⟩ (nb_ rfl) (nb_ rfl) (s_76 (a1 := v7) hI2 (show 1 ≤ v7 ∧ v7 ≤ 16 from ⟨by first | exact q_6c49a4ad1 h_20 | omega, (Int.le_trans hv7.2 (by decide))⟩) (fun c_33 y_36 hI_34 hF_35 hy_36 h_37 => (bk_inl (q_istore c_77_90 (nb_ rfl) (q_aload_n c_77_92 rfl (q_iload c_77_93 rfl ?_)))))))))
              refine v_cv c_77_95 km_6_30 rfl rfl (nb_ rfl) ⟨⟨rfl, rfl⟩, nb_ rfl, rfl⟩ (nb_ rfl) (nb_ rfl) (s_76 (a1 := v5) hI_34 (show 1 ≤ v5 ∧ v5 ≤ 16 from ⟨by first | exact q_909f086bb h_7 | omega, (Int.le_trans hv5.2 (by decide))⟩) (fun c_38 y_41 hI_39 hF_40 hy_41 h_42 => (bk_inl (q_istore c_77_98 (nb_ rfl) (q_aload_n c_77_100 rfl (v_bip c_77_101 (by decide) (v_cv c_77_103 km_6_30 rfl rfl (nb_ rfl) ⟨⟨rfl, rfl⟩, nb_ rfl, rfl⟩ (nb_ rfl) (nb_ rfl) (s_76 (a1 := 16) hI_39 (show 1 ≤ 16 ∧ 16 ≤ 16 from ⟨by decide, by decide⟩) (fun c_43 y_46 hI_44 hF_45 hy_46 h_47 => (bk_inl (q_iload_n c_77_106 rfl ?_)))))))))))
              by_cases h_48 : y_46 ≥ a3
              · refine v_ic_ge_t (t := 133) c_77_107 rfl ⟨(Int.le_trans (by decide) ha3.1), h_48, (Int.le_trans hy_46.2 (by decide))⟩ (q_iload c_77_133 rfl (v_if_le_f (t := 149) c_77_135 rfl ⟨by decide, by first | exact q_9fda982ed h_7 | omega, (Int.le_trans hv5.2 (by decide))⟩ (q_aload_n c_77_138 rfl (q_aload_n c_77_139 rfl (q_iload c_77_140 rfl (v_cv c_77_142 km_6_30 rfl rfl (nb_ rfl) ⟨⟨rfl, rfl⟩, nb_ rfl, rfl⟩ (nb_ rfl) (nb_ rfl) (s_76 (a1 := v5) hI_44 (show 1 ≤ v5 ∧ v5 ≤ 16 from ⟨by first | exact q_909f086bb h_7 | omega, (Int.le_trans hv5.2 (by decide))⟩) (fun c_49 y_52 hI_50 hF_51 hy_52 h_53 => (bk_inl ?_)))))))))
                refine v_cv c_77_145 km_6_42 rfl rfl (nb_ rfl) ⟨⟨rfl, rfl⟩, nb_ rfl, rfl⟩ (nb_ rfl) (nb_ rfl) (s_58 (a1 := y_52) hI_50 (.inr ⟨rfl, rfl⟩) (show 0 ≤ y_52 ∧ y_52 ≤ 5 from ⟨hy_52.1, by first | exact q_4176b68dd h_53 hv5 | omega⟩) (fun c_54 y_57 hI_55 hF_56 hy_57 => (bk_inl (q_pop c_77_148 rfl (q_aload_n c_77_149 rfl (v_cv c_77_150 km_6_46 rfl rfl (nb_ rfl) ⟨⟨rfl, rfl⟩, nb_ rfl, rfl⟩ (nb_ rfl) (nb_ rfl) (s_59 hI_55 (.inr ⟨rfl, rfl⟩) (fun c_58 hI_59 hF_60 => (bk_inl (v_iinc (v := v8 + 1) c_77_153 rfl (nb_ rfl) rfl (q_goto (t := 35) c_77_156 rfl ?_)))))))))))
                refine Wp_ls [(0, .ref 9), (1, .ref 39), (2, vi a2), (3, vi a3), (4, vi a4), (5, vi v5), (6, vi v6), (7, vi v7), (8, vi (v8 + 1))] (lsub_cons rfl (lsub_cons rfl (lsub_cons rfl (lsub_cons rfl (lsub_cons rfl (lsub_cons rfl (lsub_cons rfl (lsub_cons rfl (lsub_cons rfl lsub_nil))))))))) ?_
                exact ih c_58 v5 v6 v7 (v8 + 1) hI_59 (fun a j hm => (hF_60 a j (fun h => hm (Or.inr (Or.inl h)))).trans ((hF_56 a j (qv_f005124bb hm)).trans ((hF_51 a j (fun h => hm (Or.inl h))).trans ((hF_45 a j (fun h => hm (Or.inl h))).trans ((hF_40 a j (fun h => hm (Or.inl h))).trans ((hF_35 a j (fun h => hm (Or.inl h))).trans (hF a j hm))))))) hv5 hv6 hv7 ⟨by first | exact rgp_l hv8.1 (by decide) | omega, by first | exact q_f2816912d h_1 ha4 | omega⟩ (by omega)
              · refine v_ic_ge_f (t := 133) c_77_107 rfl ⟨(Int.le_trans (by decide) hy_46.1), (Int.not_le.mp h_48), (Int.le_trans ha3.2 (by decide))⟩ (q_aload_n c_77_110 rfl (q_iload c_77_111 rfl (q_iload c_77_113 rfl (q_iload c_77_115 rfl (q_iconst c_77_117 (v_iadd (v := y_41 + 1) c_77_118 rfl (q_iload c_77_119 rfl ?_)))))))
                have h_61 : 0 ≤ ((y_41 + 1) % v5) ∧ ((y_41 + 1) % v5) < v5 := rem_bd (by omega)
                refine v_irem (v := ((y_41 + 1) % v5)) c_77_121 (by omega) rfl (q_iload c_77_122 rfl (q_iconst c_77_124 (v_iadd (v := y_41 + 2) c_77_125 rfl (q_iload c_77_126 rfl ?_))))
                have h_62 : 0 ≤ ((y_41 + 2) % v5) ∧ ((y_41 + 2) % v5) < v5 := rem_bd (by omega)
                refine v_irem (v := ((y_41 + 2) % v5)) c_77_128 (by omega) rfl (v_cv c_77_129 km_6_38 rfl rfl (nb_ rfl) ⟨⟨rfl, rfl⟩, nb_ rfl, rfl⟩ (nb_ rfl) (nb_ rfl) (s_53 (a1 := y_36) (a2 := y_41) (a3 := ((y_41 + 1) % v5)) (a4 := ((y_41 + 2) % v5)) hI_44 (.inr ⟨rfl, rfl⟩) (show 0 ≤ y_36 ∧ y_36 ≤ 3 from ⟨hy_36.1, by first | exact q_5c3b51790 h_37 hv7 | omega⟩) (show 0 ≤ y_41 ∧ y_41 ≤ 5 from ⟨hy_41.1, by first | exact q_4176b68dd h_42 hv5 | omega⟩) (show 0 ≤ ((y_41 + 1) % v5) ∧ ((y_41 + 1) % v5) ≤ 5 from ⟨by first | exact q_c4fec1d75 h_61 | omega, by first | exact q_5fbbc52e7 h_61 hv5 | omega⟩) (show 0 ≤ ((y_41 + 2) % v5) ∧ ((y_41 + 2) % v5) ≤ 5 from ⟨by first | exact q_c4fec1d75 h_62 | omega, by first | exact q_5fbbc52e7 h_62 hv5 | omega⟩) (fun c_63 y_66 hI_64 hF_65 hy_66 => (bk_inl (q_pop c_77_132 rfl (q_iload c_77_133 rfl (v_if_le_f (t := 149) c_77_135 rfl ⟨by decide, by first | exact q_9fda982ed h_7 | omega, (Int.le_trans hv5.2 (by decide))⟩ (q_aload_n c_77_138 rfl (q_aload_n c_77_139 rfl ?_)))))))))
                refine q_iload c_77_140 rfl (v_cv c_77_142 km_6_30 rfl rfl (nb_ rfl) ⟨⟨rfl, rfl⟩, nb_ rfl, rfl⟩ (nb_ rfl) (nb_ rfl) (s_76 (a1 := v5) hI_64 (show 1 ≤ v5 ∧ v5 ≤ 16 from ⟨by first | exact q_909f086bb h_7 | omega, (Int.le_trans hv5.2 (by decide))⟩) (fun c_67 y_70 hI_68 hF_69 hy_70 h_71 => (bk_inl (v_cv c_77_145 km_6_42 rfl rfl (nb_ rfl) ⟨⟨rfl, rfl⟩, nb_ rfl, rfl⟩ (nb_ rfl) (nb_ rfl) (s_58 (a1 := y_70) hI_68 (.inr ⟨rfl, rfl⟩) (show 0 ≤ y_70 ∧ y_70 ≤ 5 from ⟨hy_70.1, by first | exact q_4176b68dd h_71 hv5 | omega⟩) (fun c_72 y_75 hI_73 hF_74 hy_75 => (bk_inl (q_pop c_77_148 rfl (q_aload_n c_77_149 rfl (v_cv c_77_150 km_6_46 rfl rfl (nb_ rfl) ⟨⟨rfl, rfl⟩, nb_ rfl, rfl⟩ (nb_ rfl) (nb_ rfl) (s_59 hI_73 (.inr ⟨rfl, rfl⟩) (fun c_76 hI_77 hF_78 => ?_)))))))))))))
                refine bk_inl (v_iinc (v := v8 + 1) c_77_153 rfl (nb_ rfl) rfl (q_goto (t := 35) c_77_156 rfl (Wp_ls [(0, .ref 9), (1, .ref 39), (2, vi a2), (3, vi a3), (4, vi a4), (5, vi v5), (6, vi v6), (7, vi v7), (8, vi (v8 + 1))] (lsub_cons rfl (lsub_cons rfl (lsub_cons rfl (lsub_cons rfl (lsub_cons rfl (lsub_cons rfl (lsub_cons rfl (lsub_cons rfl (lsub_cons rfl lsub_nil))))))))) ?_)))
                exact ih c_76 v5 v6 v7 (v8 + 1) hI_77 (fun a j hm => (hF_78 a j (fun h => hm (Or.inr (Or.inl h)))).trans ((hF_74 a j (qv_f005124bb hm)).trans ((hF_69 a j (fun h => hm (Or.inl h))).trans ((hF_65 a j (fun h => hm (Or.inr (Or.inl h)))).trans ((hF_45 a j (fun h => hm (Or.inl h))).trans ((hF_40 a j (fun h => hm (Or.inl h))).trans ((hF_35 a j (fun h => hm (Or.inl h))).trans (hF a j hm)))))))) hv5 hv6 hv7 ⟨by first | exact rgp_l hv8.1 (by decide) | omega, by first | exact q_f2816912d h_1 ha4 | omega⟩ (by omega)
        · refine v_if_le_f (t := 73) c_77_49 rfl ⟨by decide, (Int.not_le.mp h_6), (Int.le_trans hv6.2 (by decide))⟩ (q_aload_n c_77_52 rfl (q_iload c_77_53 rfl (v_cv c_77_55 km_6_30 rfl rfl (nb_ rfl) ⟨⟨rfl, rfl⟩, nb_ rfl, rfl⟩ (nb_ rfl) (nb_ rfl) (s_76 (a1 := v6) hI2 (show 1 ≤ v6 ∧ v6 ≤ 16 from ⟨by first | exact q_6c49a4ad1 h_6 | omega, (Int.le_trans hv6.2 (by decide))⟩) (fun c_79 y_82 hI_80 hF_81 hy_82 h_83 => (bk_inl (q_istore c_77_58 (nb_ rfl) (q_aload_n c_77_60 rfl (q_iload c_77_61 rfl ?_)))))))))
          refine q_aload_n c_77_63 rfl (q_iload c_77_64 rfl (v_cv c_77_66 km_6_30 rfl rfl (nb_ rfl) ⟨⟨rfl, rfl⟩, nb_ rfl, rfl⟩ (nb_ rfl) (nb_ rfl) (s_76 (a1 := v5) hI_80 (show 1 ≤ v5 ∧ v5 ≤ 16 from ⟨by first | exact q_6c49a4ad1 h_2 | omega, (Int.le_trans hv5.2 (by decide))⟩) (fun c_84 y_87 hI_85 hF_86 hy_87 h_88 => (bk_inl (v_cv c_77_69 km_6_34 rfl rfl (nb_ rfl) ⟨⟨rfl, rfl⟩, nb_ rfl, rfl⟩ (nb_ rfl) (nb_ rfl) (s_44 (a1 := y_82) (a2 := y_87) hI_85 (.inr ⟨rfl, rfl⟩) (show 0 ≤ y_82 ∧ y_82 ≤ 3 from ⟨hy_82.1, by first | exact q_5c3b51790 h_83 hv6 | omega⟩) (show 0 ≤ y_87 ∧ y_87 ≤ 5 from ⟨hy_87.1, by first | exact q_4176b68dd h_88 hv5 | omega⟩) (fun c_89 y_92 hI_90 hF_91 hy_92 => (bk_inl (q_pop c_77_72 rfl (q_iload c_77_73 rfl ?_)))))))))))
          refine q_iconst c_77_75 ?_
          by_cases h_93 : v5 < 3
          · refine v_ic_lt_t (t := 133) c_77_76 rfl ⟨(Int.le_trans (by decide) hv5.1), h_93, by decide⟩ (q_iload c_77_133 rfl (v_if_le_f (t := 149) c_77_135 rfl ⟨by decide, by first | exact q_ca88f5637 h_2 | omega, (Int.le_trans hv5.2 (by decide))⟩ (q_aload_n c_77_138 rfl (q_aload_n c_77_139 rfl (q_iload c_77_140 rfl (v_cv c_77_142 km_6_30 rfl rfl (nb_ rfl) ⟨⟨rfl, rfl⟩, nb_ rfl, rfl⟩ (nb_ rfl) (nb_ rfl) (s_76 (a1 := v5) hI_90 (show 1 ≤ v5 ∧ v5 ≤ 16 from ⟨by first | exact q_6c49a4ad1 h_2 | omega, (Int.le_trans hv5.2 (by decide))⟩) (fun c_94 y_97 hI_95 hF_96 hy_97 h_98 => (bk_inl ?_)))))))))
            refine v_cv c_77_145 km_6_42 rfl rfl (nb_ rfl) ⟨⟨rfl, rfl⟩, nb_ rfl, rfl⟩ (nb_ rfl) (nb_ rfl) (s_58 (a1 := y_97) hI_95 (.inr ⟨rfl, rfl⟩) (show 0 ≤ y_97 ∧ y_97 ≤ 5 from ⟨hy_97.1, by first | exact q_47e876c22 h_93 h_98 | omega⟩) (fun c_99 y_102 hI_100 hF_101 hy_102 => (bk_inl (q_pop c_77_148 rfl (q_aload_n c_77_149 rfl (v_cv c_77_150 km_6_46 rfl rfl (nb_ rfl) ⟨⟨rfl, rfl⟩, nb_ rfl, rfl⟩ (nb_ rfl) (nb_ rfl) (s_59 hI_100 (.inr ⟨rfl, rfl⟩) (fun c_103 hI_104 hF_105 => (bk_inl (v_iinc (v := v8 + 1) c_77_153 rfl (nb_ rfl) rfl (q_goto (t := 35) c_77_156 rfl ?_)))))))))))
            refine Wp_ls [(0, .ref 9), (1, .ref 39), (2, vi a2), (3, vi a3), (4, vi a4), (5, vi v5), (6, vi v6), (7, vi v7), (8, vi (v8 + 1))] (lsub_cons rfl (lsub_cons rfl (lsub_cons rfl (lsub_cons rfl (lsub_cons rfl (lsub_cons rfl (lsub_cons rfl (lsub_cons rfl (lsub_cons rfl lsub_nil))))))))) ?_
            exact ih c_103 v5 v6 v7 (v8 + 1) hI_104 (fun a j hm => (hF_105 a j (fun h => hm (Or.inr (Or.inl h)))).trans ((hF_101 a j (qv_f005124bb hm)).trans ((hF_96 a j (fun h => hm (Or.inl h))).trans ((hF_91 a j (fun h => hm (Or.inr (Or.inl h)))).trans ((hF_86 a j (fun h => hm (Or.inl h))).trans ((hF_81 a j (fun h => hm (Or.inl h))).trans (hF a j hm))))))) hv5 hv6 hv7 ⟨by first | exact rgp_l hv8.1 (by decide) | omega, by first | exact q_f2816912d h_1 ha4 | omega⟩ (by omega)
          · refine v_ic_lt_f (t := 133) c_77_76 rfl ⟨by decide, (Int.not_lt.mp h_93), (Int.le_trans hv5.2 (by decide))⟩ (q_iload c_77_79 rfl ?_)
            by_cases h_106 : v7 ≤ 0
            · refine v_if_le_t (t := 133) c_77_81 rfl ⟨(Int.le_trans (by decide) hv7.1), h_106, by decide⟩ (q_iload c_77_133 rfl (v_if_le_f (t := 149) c_77_135 rfl ⟨by decide, by first | exact q_9fda982ed h_93 | omega, (Int.le_trans hv5.2 (by decide))⟩ (q_aload_n c_77_138 rfl (q_aload_n c_77_139 rfl (q_iload c_77_140 rfl (v_cv c_77_142 km_6_30 rfl rfl (nb_ rfl) ⟨⟨rfl, rfl⟩, nb_ rfl, rfl⟩ (nb_ rfl) (nb_ rfl) (s_76 (a1 := v5) hI_90 (show 1 ≤ v5 ∧ v5 ≤ 16 from ⟨by first | exact q_909f086bb h_93 | omega, (Int.le_trans hv5.2 (by decide))⟩) (fun c_107 y_110 hI_108 hF_109 hy_110 h_111 => (bk_inl ?_)))))))))
              refine v_cv c_77_145 km_6_42 rfl rfl (nb_ rfl) ⟨⟨rfl, rfl⟩, nb_ rfl, rfl⟩ (nb_ rfl) (nb_ rfl) (s_58 (a1 := y_110) hI_108 (.inr ⟨rfl, rfl⟩) (show 0 ≤ y_110 ∧ y_110 ≤ 5 from ⟨hy_110.1, by first | exact q_4176b68dd h_111 hv5 | omega⟩) (fun c_112 y_115 hI_113 hF_114 hy_115 => (bk_inl (q_pop c_77_148 rfl (q_aload_n c_77_149 rfl (v_cv c_77_150 km_6_46 rfl rfl (nb_ rfl) ⟨⟨rfl, rfl⟩, nb_ rfl, rfl⟩ (nb_ rfl) (nb_ rfl) (s_59 hI_113 (.inr ⟨rfl, rfl⟩) (fun c_116 hI_117 hF_118 => (bk_inl (v_iinc (v := v8 + 1) c_77_153 rfl (nb_ rfl) rfl (q_goto (t := 35) c_77_156 rfl ?_)))))))))))
              refine Wp_ls [(0, .ref 9), (1, .ref 39), (2, vi a2), (3, vi a3), (4, vi a4), (5, vi v5), (6, vi v6), (7, vi v7), (8, vi (v8 + 1))] (lsub_cons rfl (lsub_cons rfl (lsub_cons rfl (lsub_cons rfl (lsub_cons rfl (lsub_cons rfl (lsub_cons rfl (lsub_cons rfl (lsub_cons rfl lsub_nil))))))))) ?_
              exact ih c_116 v5 v6 v7 (v8 + 1) hI_117 (fun a j hm => (hF_118 a j (fun h => hm (Or.inr (Or.inl h)))).trans ((hF_114 a j (qv_f005124bb hm)).trans ((hF_109 a j (fun h => hm (Or.inl h))).trans ((hF_91 a j (fun h => hm (Or.inr (Or.inl h)))).trans ((hF_86 a j (fun h => hm (Or.inl h))).trans ((hF_81 a j (fun h => hm (Or.inl h))).trans (hF a j hm))))))) hv5 hv6 hv7 ⟨by first | exact rgp_l hv8.1 (by decide) | omega, by first | exact q_f2816912d h_1 ha4 | omega⟩ (by omega)
            · refine v_if_le_f (t := 133) c_77_81 rfl ⟨by decide, (Int.not_le.mp h_106), (Int.le_trans hv7.2 (by decide))⟩ (q_aload_n c_77_84 rfl (q_iload c_77_85 rfl (v_cv c_77_87 km_6_30 rfl rfl (nb_ rfl) ⟨⟨rfl, rfl⟩, nb_ rfl, rfl⟩ (nb_ rfl) (nb_ rfl) (s_76 (a1 := v7) hI_90 (show 1 ≤ v7 ∧ v7 ≤ 16 from ⟨by first | exact q_6c49a4ad1 h_106 | omega, (Int.le_trans hv7.2 (by decide))⟩) (fun c_119 y_122 hI_120 hF_121 hy_122 h_123 => (bk_inl (q_istore c_77_90 (nb_ rfl) (q_aload_n c_77_92 rfl (q_iload c_77_93 rfl ?_)))))))))
              refine v_cv c_77_95 km_6_30 rfl rfl (nb_ rfl) ⟨⟨rfl, rfl⟩, nb_ rfl, rfl⟩ (nb_ rfl) (nb_ rfl) (s_76 (a1 := v5) hI_120 (show 1 ≤ v5 ∧ v5 ≤ 16 from ⟨by first | exact q_909f086bb h_93 | omega, (Int.le_trans hv5.2 (by decide))⟩) (fun c_124 y_127 hI_125 hF_126 hy_127 h_128 => (bk_inl (q_istore c_77_98 (nb_ rfl) (q_aload_n c_77_100 rfl (v_bip c_77_101 (by decide) (v_cv c_77_103 km_6_30 rfl rfl (nb_ rfl) ⟨⟨rfl, rfl⟩, nb_ rfl, rfl⟩ (nb_ rfl) (nb_ rfl) (s_76 (a1 := 16) hI_125 (show 1 ≤ 16 ∧ 16 ≤ 16 from ⟨by decide, by decide⟩) (fun c_129 y_132 hI_130 hF_131 hy_132 h_133 => (bk_inl (q_iload_n c_77_106 rfl ?_)))))))))))
              by_cases h_134 : y_132 ≥ a3
              · refine v_ic_ge_t (t := 133) c_77_107 rfl ⟨(Int.le_trans (by decide) ha3.1), h_134, (Int.le_trans hy_132.2 (by decide))⟩ (q_iload c_77_133 rfl (v_if_le_f (t := 149) c_77_135 rfl ⟨by decide, by first | exact q_9fda982ed h_93 | omega, (Int.le_trans hv5.2 (by decide))⟩ (q_aload_n c_77_138 rfl (q_aload_n c_77_139 rfl (q_iload c_77_140 rfl (v_cv c_77_142 km_6_30 rfl rfl (nb_ rfl) ⟨⟨rfl, rfl⟩, nb_ rfl, rfl⟩ (nb_ rfl) (nb_ rfl) (s_76 (a1 := v5) hI_130 (show 1 ≤ v5 ∧ v5 ≤ 16 from ⟨by first | exact q_909f086bb h_93 | omega, (Int.le_trans hv5.2 (by decide))⟩) (fun c_135 y_138 hI_136 hF_137 hy_138 h_139 => (bk_inl ?_)))))))))
                refine v_cv c_77_145 km_6_42 rfl rfl (nb_ rfl) ⟨⟨rfl, rfl⟩, nb_ rfl, rfl⟩ (nb_ rfl) (nb_ rfl) (s_58 (a1 := y_138) hI_136 (.inr ⟨rfl, rfl⟩) (show 0 ≤ y_138 ∧ y_138 ≤ 5 from ⟨hy_138.1, by first | exact q_4176b68dd h_139 hv5 | omega⟩) (fun c_140 y_143 hI_141 hF_142 hy_143 => (bk_inl (q_pop c_77_148 rfl (q_aload_n c_77_149 rfl (v_cv c_77_150 km_6_46 rfl rfl (nb_ rfl) ⟨⟨rfl, rfl⟩, nb_ rfl, rfl⟩ (nb_ rfl) (nb_ rfl) (s_59 hI_141 (.inr ⟨rfl, rfl⟩) (fun c_144 hI_145 hF_146 => (bk_inl (v_iinc (v := v8 + 1) c_77_153 rfl (nb_ rfl) rfl (q_goto (t := 35) c_77_156 rfl ?_)))))))))))
                refine Wp_ls [(0, .ref 9), (1, .ref 39), (2, vi a2), (3, vi a3), (4, vi a4), (5, vi v5), (6, vi v6), (7, vi v7), (8, vi (v8 + 1))] (lsub_cons rfl (lsub_cons rfl (lsub_cons rfl (lsub_cons rfl (lsub_cons rfl (lsub_cons rfl (lsub_cons rfl (lsub_cons rfl (lsub_cons rfl lsub_nil))))))))) ?_
                exact ih c_144 v5 v6 v7 (v8 + 1) hI_145 (fun a j hm => (hF_146 a j (fun h => hm (Or.inr (Or.inl h)))).trans ((hF_142 a j (qv_f005124bb hm)).trans ((hF_137 a j (fun h => hm (Or.inl h))).trans ((hF_131 a j (fun h => hm (Or.inl h))).trans ((hF_126 a j (fun h => hm (Or.inl h))).trans ((hF_121 a j (fun h => hm (Or.inl h))).trans ((hF_91 a j (fun h => hm (Or.inr (Or.inl h)))).trans ((hF_86 a j (fun h => hm (Or.inl h))).trans ((hF_81 a j (fun h => hm (Or.inl h))).trans (hF a j hm)))))))))) hv5 hv6 hv7 ⟨by first | exact rgp_l hv8.1 (by decide) | omega, by first | exact q_f2816912d h_1 ha4 | omega⟩ (by omega)
              · refine v_ic_ge_f (t := 133) c_77_107 rfl ⟨(Int.le_trans (by decide) hy_132.1), (Int.not_le.mp h_134), (Int.le_trans ha3.2 (by decide))⟩ (q_aload_n c_77_110 rfl (q_iload c_77_111 rfl (q_iload c_77_113 rfl (q_iload c_77_115 rfl (q_iconst c_77_117 (v_iadd (v := y_127 + 1) c_77_118 rfl (q_iload c_77_119 rfl ?_)))))))
                have h_147 : 0 ≤ ((y_127 + 1) % v5) ∧ ((y_127 + 1) % v5) < v5 := rem_bd (by omega)
                refine v_irem (v := ((y_127 + 1) % v5)) c_77_121 (by omega) rfl (q_iload c_77_122 rfl (q_iconst c_77_124 (v_iadd (v := y_127 + 2) c_77_125 rfl (q_iload c_77_126 rfl ?_))))
                have h_148 : 0 ≤ ((y_127 + 2) % v5) ∧ ((y_127 + 2) % v5) < v5 := rem_bd (by omega)
                refine v_irem (v := ((y_127 + 2) % v5)) c_77_128 (by omega) rfl (v_cv c_77_129 km_6_38 rfl rfl (nb_ rfl) ⟨⟨rfl, rfl⟩, nb_ rfl, rfl⟩ (nb_ rfl) (nb_ rfl) (s_53 (a1 := y_122) (a2 := y_127) (a3 := ((y_127 + 1) % v5)) (a4 := ((y_127 + 2) % v5)) hI_130 (.inr ⟨rfl, rfl⟩) (show 0 ≤ y_122 ∧ y_122 ≤ 3 from ⟨hy_122.1, by first | exact q_5c3b51790 h_123 hv7 | omega⟩) (show 0 ≤ y_127 ∧ y_127 ≤ 5 from ⟨hy_127.1, by first | exact q_4176b68dd h_128 hv5 | omega⟩) (show 0 ≤ ((y_127 + 1) % v5) ∧ ((y_127 + 1) % v5) ≤ 5 from ⟨by first | exact q_c4fec1d75 h_147 | omega, by first | exact q_5fbbc52e7 h_147 hv5 | omega⟩) (show 0 ≤ ((y_127 + 2) % v5) ∧ ((y_127 + 2) % v5) ≤ 5 from ⟨by first | exact q_c4fec1d75 h_148 | omega, by first | exact q_5fbbc52e7 h_148 hv5 | omega⟩) (fun c_149 y_152 hI_150 hF_151 hy_152 => (bk_inl (q_pop c_77_132 rfl (q_iload c_77_133 rfl (v_if_le_f (t := 149) c_77_135 rfl ⟨by decide, by first | exact q_9fda982ed h_93 | omega, (Int.le_trans hv5.2 (by decide))⟩ (q_aload_n c_77_138 rfl (q_aload_n c_77_139 rfl ?_)))))))))
                refine q_iload c_77_140 rfl (v_cv c_77_142 km_6_30 rfl rfl (nb_ rfl) ⟨⟨rfl, rfl⟩, nb_ rfl, rfl⟩ (nb_ rfl) (nb_ rfl) (s_76 (a1 := v5) hI_150 (show 1 ≤ v5 ∧ v5 ≤ 16 from ⟨by first | exact q_909f086bb h_93 | omega, (Int.le_trans hv5.2 (by decide))⟩) (fun c_153 y_156 hI_154 hF_155 hy_156 h_157 => (bk_inl (v_cv c_77_145 km_6_42 rfl rfl (nb_ rfl) ⟨⟨rfl, rfl⟩, nb_ rfl, rfl⟩ (nb_ rfl) (nb_ rfl) (s_58 (a1 := y_156) hI_154 (.inr ⟨rfl, rfl⟩) (show 0 ≤ y_156 ∧ y_156 ≤ 5 from ⟨hy_156.1, by first | exact q_4176b68dd h_157 hv5 | omega⟩) (fun c_158 y_161 hI_159 hF_160 hy_161 => (bk_inl (q_pop c_77_148 rfl (q_aload_n c_77_149 rfl (v_cv c_77_150 km_6_46 rfl rfl (nb_ rfl) ⟨⟨rfl, rfl⟩, nb_ rfl, rfl⟩ (nb_ rfl) (nb_ rfl) (s_59 hI_159 (.inr ⟨rfl, rfl⟩) (fun c_162 hI_163 hF_164 => ?_)))))))))))))
                refine bk_inl (v_iinc (v := v8 + 1) c_77_153 rfl (nb_ rfl) rfl (q_goto (t := 35) c_77_156 rfl (Wp_ls [(0, .ref 9), (1, .ref 39), (2, vi a2), (3, vi a3), (4, vi a4), (5, vi v5), (6, vi v6), (7, vi v7), (8, vi (v8 + 1))] (lsub_cons rfl (lsub_cons rfl (lsub_cons rfl (lsub_cons rfl (lsub_cons rfl (lsub_cons rfl (lsub_cons rfl (lsub_cons rfl (lsub_cons rfl lsub_nil))))))))) ?_)))
                exact ih c_162 v5 v6 v7 (v8 + 1) hI_163 (fun a j hm => (hF_164 a j (fun h => hm (Or.inr (Or.inl h)))).trans ((hF_160 a j (qv_f005124bb hm)).trans ((hF_155 a j (fun h => hm (Or.inl h))).trans ((hF_151 a j (fun h => hm (Or.inr (Or.inl h)))).trans ((hF_131 a j (fun h => hm (Or.inl h))).trans ((hF_126 a j (fun h => hm (Or.inl h))).trans ((hF_121 a j (fun h => hm (Or.inl h))).trans ((hF_91 a j (fun h => hm (Or.inr (Or.inl h)))).trans ((hF_86 a j (fun h => hm (Or.inl h))).trans ((hF_81 a j (fun h => hm (Or.inl h))).trans (hF a j hm))))))))))) hv5 hv6 hv7 ⟨by first | exact rgp_l hv8.1 (by decide) | omega, by first | exact q_f2816912d h_1 ha4 | omega⟩ (by omega)
set_option maxRecDepth 100000 in
set_option maxHeartbeats 4000000 in
theorem s_77 {sc : List Int32} {d P Q : Nat} {c : ME} {a2 : Int} {a3 : Int} {a4 : Int} {Z : AR → Prop} (hI : Iv 0 (-1) P Q c) (ha2 : (-2147483648) ≤ a2 ∧ a2 ≤ 2147483647) (ha3 : 0 ≤ a3 ∧ a3 ≤ 16) (ha4 : 1 ≤ a4 ∧ a4 ≤ 48) (K : ∀ (c2 : ME), Iv 0 (-1) P Q c2 → (∀ (a : Nat) (j : Int), ¬ ((a = 9 ∧ j = 0) ∨ a = 40 ∨ a = (P + 10) ∨ a = (P + 11)) → c2 a j = c a j) → Z (.inl (none), Wd P Q P P c2, 0, 0)) : Wp sc (d + 12) 77 0 [(0, .ref 9), (1, .ref 39), (2, vi a2), (3, vi a3), (4, vi a4)] [] (Wd P Q P P c) 0 0 Z := by
  have hP := iv_P hI
  have hQ := iv_Q hI
  refine q_aload_n c_77_0 rfl (q_iload_n c_77_1 rfl (v_pi (z := 0) c_77_2 kf_6_7 rfl (nb_ rfl) rfl rfl rfl (by decide) (q_aload_n c_77_5 rfl (v_gr (t := P) c_77_6 kf_6_13 rfl (nb_ rfl) rfl ?_))))
  have h_165 := ir_p0_0 hI hP
  refine v_gi (z := 0) (v := c P 0) c_77_9 kf_6_19 (ck_p0 hP) (a68z hP) rfl rfl (up_c (np0 hP rfl)) (q_istore c_77_12 (nb_ rfl) (q_aload_n c_77_14 rfl (v_gr (t := P) c_77_15 kf_6_13 rfl (nb_ rfl) rfl ?_)))
  have h_166 := ir_p0_1 hI hP
  refine v_gi (z := 1) (v := c P 1) c_77_18 kf_6_24 (ck_p0 hP) (a68z hP) rfl rfl (up_c (np0 hP rfl)) (q_istore c_77_21 (nb_ rfl) (q_aload_n c_77_23 rfl (v_gr (t := P) c_77_24 kf_6_13 rfl (nb_ rfl) rfl ?_)))
  have h_167 := ir_p0_2 hI hP
  refine v_gi (z := 2) (v := c P 2) c_77_27 kf_6_27 (ck_p0 hP) (a68z hP) rfl rfl (up_c (np0 hP rfl)) (q_istore c_77_30 (nb_ rfl) (q_iconst c_77_32 (q_istore c_77_33 (nb_ rfl) ?_)))
  have hI_168 := iw_9_0 (v := a2) hI ⟨ha2.1, ha2.2⟩
  refine Wp_ls [(0, .ref 9), (1, .ref 39), (2, vi a2), (3, vi a3), (4, vi a4), (5, vi (c P 0)), (6, vi (c P 1)), (7, vi (c P 2)), (8, vi 0)] (lsub_cons rfl (lsub_cons rfl (lsub_cons rfl (lsub_cons rfl (lsub_cons rfl (lsub_cons rfl (lsub_cons rfl (lsub_cons rfl (lsub_cons rfl lsub_nil))))))))) ?_
  exact (s_77_l (sc := sc) (d := d) hI ha2 ha3 ha4 K 100) (up c 9 0 a2) (c P 0) (c P 1) (c P 2) 0 hI_168 (fun a j hm => up_b (Decidable.or_iff_not_imp_left.mpr (fun h1 h2 => hm (Or.inl ⟨Decidable.not_not.mp h1, h2⟩)))) h_165 h_166 h_167 ⟨by decide, by decide⟩ (by omega)
end
section
/-! ===== contracts 6 ===== -/
theorem c_79_0 : mLk 79 0 = some (.aload_n 0, 1) := rfl
theorem c_79_1 : mLk 79 1 = some (.getfield 10, 3) := rfl
theorem c_79_4 : mLk 79 4 = some (.bipush 20, 2) := rfl
theorem c_79_6 : mLk 79 6 = some (.invokevirtual 69, 3) := rfl
theorem c_79_9 : mLk 79 9 = some (.ifCond .ne 5, 3) := rfl
theorem c_79_14 : mLk 79 14 = some (.aload_n 0, 1) := rfl
theorem c_79_15 : mLk 79 15 = some (.getfield 10, 3) := rfl
theorem c_79_18 : mLk 79 18 = some (.iload_n 1, 1) := rfl
theorem c_79_19 : mLk 79 19 = some (.invokevirtual 73, 3) := rfl
theorem c_79_22 : mLk 79 22 = some (.aload_n 0, 1) := rfl
theorem c_79_23 : mLk 79 23 = some (.getfield 10, 3) := rfl
theorem c_79_26 : mLk 79 26 = some (.iload_n 2, 1) := rfl
theorem c_79_27 : mLk 79 27 = some (.invokevirtual 73, 3) := rfl
theorem c_79_30 : mLk 79 30 = some (.aload_n 0, 1) := rfl
theorem c_79_31 : mLk 79 31 = some (.getfield 10, 3) := rfl
theorem c_79_34 : mLk 79 34 = some (.iload_n 3, 1) := rfl
theorem c_79_35 : mLk 79 35 = some (.invokevirtual 73, 3) := rfl
theorem c_79_38 : mLk 79 38 = some (.aload_n 0, 1) := rfl
theorem c_79_39 : mLk 79 39 = some (.getfield 10, 3) := rfl
theorem c_79_42 : mLk 79 42 = some (.iload 4, 2) := rfl
theorem c_79_44 : mLk 79 44 = some (.invokevirtual 73, 3) := rfl
theorem c_79_47 : mLk 79 47 = some (.aload_n 0, 1) := rfl
theorem c_79_48 : mLk 79 48 = some (.getfield 10, 3) := rfl
theorem c_79_51 : mLk 79 51 = some (.iload 5, 2) := rfl
theorem c_79_53 : mLk 79 53 = some (.invokevirtual 73, 3) := rfl
theorem c_79_56 : mLk 79 56 = some (.aload_n 0, 1) := rfl
theorem c_79_57 : mLk 79 57 = some (.getfield 10, 3) := rfl
theorem c_79_60 : mLk 79 60 = some (.getfield 77, 3) := rfl
theorem c_79_63 : mLk 79 63 = some (.ireturn, 1) := rfl
theorem c_79_12 : mLk 79 12 = some (.iconst (-1), 1) := rfl
theorem c_79_13 : mLk 79 13 = some (.ireturn, 1) := rfl
theorem kf_7_10 : a_lk (kF 7) 10 = some (7, 0) := rfl
theorem kf_7_77 : a_lk (kF 7) 77 = some (5, 3) := rfl
theorem km_7_69 : a_lk (kM 7) 69 = some (0, 72) := rfl
theorem km_7_73 : a_lk (kM 7) 73 = some (0, 73) := rfl
set_option maxRecDepth 100000 in
set_option maxHeartbeats 4000000 in
theorem s_79 {sc : List Int32} {e : Int} {d u P Q : Nat} {c : ME} {a1 : Int} {a2 : Int} {a3 : Int} {a4 : Int} {a5 : Int} {Z : AR → Prop} (hI : Iv u e P Q c) (ha1 : (-2147483648) ≤ a1 ∧ a1 ≤ 2147483647) (ha2 : (-2147483648) ≤ a2 ∧ a2 ≤ 2147483647) (ha3 : (-2147483648) ≤ a3 ∧ a3 ≤ 2147483647) (ha4 : (-2147483648) ≤ a4 ∧ a4 ≤ 2147483647) (ha5 : (-2147483648) ≤ a5 ∧ a5 ≤ 2147483647) (K : ∀ (c2 : ME) (y : Int), Iv u e P Q c2 → (∀ (a : Nat) (j : Int), ¬ ((a = 1 ∧ j = 3) ∨ a = 2) → c2 a j = c a j) → (-1) ≤ y ∧ y ≤ 600 → Z (.inl (some (vi y)), Wd P Q P P c2, 0, 0)) : Wp sc (d + 9) 79 0 [(0, .ref 0), (1, vi a1), (2, vi a2), (3, vi a3), (4, vi a4), (5, vi a5)] [] (Wd P Q P P c) 0 0 Z := by
  have hP := iv_P hI
  have hQ := iv_Q hI
  refine q_aload_n c_79_0 rfl (v_gr (t := 1) c_79_1 kf_7_10 rfl (nb_ rfl) rfl (v_bip c_79_4 (by decide) ?_))
  have h_1 := ir_1_3 hI
  refine v_cv c_79_6 km_7_69 rfl rfl (nb_ rfl) ⟨⟨rfl, rfl⟩, nb_ rfl, rfl⟩ (nb_ rfl) (nb_ rfl) (s_72 (a1 := 20) hI (show 0 ≤ 20 ∧ 20 ≤ 20 from ⟨by decide, by decide⟩) (fun y_2 hy_2 h_3 => (bk_inl ?_)))
  by_cases h_4 : y_2 ≠ 0
  · refine v_if_ne_t (t := 14) c_79_9 rfl ⟨h_4, ⟨(Int.le_trans (by decide) hy_2.1), (Int.le_trans hy_2.2 (by decide))⟩, by decide, by decide⟩ (q_aload_n c_79_14 rfl (v_gr (t := 1) c_79_15 kf_7_10 rfl (nb_ rfl) rfl (q_iload_n c_79_18 rfl (v_cv c_79_19 km_7_73 rfl rfl (nb_ rfl) ⟨⟨rfl, rfl⟩, nb_ rfl, rfl⟩ (nb_ rfl) (nb_ rfl) (s_73 (a1 := a1) hI (show (-2147483648) ≤ a1 ∧ a1 ≤ 2147483647 from ha1) (fun c_5 hI_6 hF_7 => (bk_inl (q_aload_n c_79_22 rfl (v_gr (t := 1) c_79_23 kf_7_10 rfl (nb_ rfl) rfl ?_)))))))))
    refine q_iload_n c_79_26 rfl (v_cv c_79_27 km_7_73 rfl rfl (nb_ rfl) ⟨⟨rfl, rfl⟩, nb_ rfl, rfl⟩ (nb_ rfl) (nb_ rfl) (s_73 (a1 := a2) hI_6 (show (-2147483648) ≤ a2 ∧ a2 ≤ 2147483647 from ha2) (fun c_8 hI_9 hF_10 => (bk_inl (q_aload_n c_79_30 rfl (v_gr (t := 1) c_79_31 kf_7_10 rfl (nb_ rfl) rfl (q_iload_n c_79_34 rfl (v_cv c_79_35 km_7_73 rfl rfl (nb_ rfl) ⟨⟨rfl, rfl⟩, nb_ rfl, rfl⟩ (nb_ rfl) (nb_ rfl) (s_73 (a1 := a3) hI_9 (show (-2147483648) ≤ a3 ∧ a3 ≤ 2147483647 from ha3) (fun c_11 hI_12 hF_13 => (bk_inl ?_)))))))))))
    refine q_aload_n c_79_38 rfl (v_gr (t := 1) c_79_39 kf_7_10 rfl (nb_ rfl) rfl (q_iload c_79_42 rfl (v_cv c_79_44 km_7_73 rfl rfl (nb_ rfl) ⟨⟨rfl, rfl⟩, nb_ rfl, rfl⟩ (nb_ rfl) (nb_ rfl) (s_73 (a1 := a4) hI_12 (show (-2147483648) ≤ a4 ∧ a4 ≤ 2147483647 from ha4) (fun c_14 hI_15 hF_16 => (bk_inl (q_aload_n c_79_47 rfl (v_gr (t := 1) c_79_48 kf_7_10 rfl (nb_ rfl) rfl (q_iload c_79_51 rfl ?_)))))))))
    refine v_cv c_79_53 km_7_73 rfl rfl (nb_ rfl) ⟨⟨rfl, rfl⟩, nb_ rfl, rfl⟩ (nb_ rfl) (nb_ rfl) (s_73 (a1 := a5) hI_15 (show (-2147483648) ≤ a5 ∧ a5 ≤ 2147483647 from ha5) (fun c_17 hI_18 hF_19 => (bk_inl (q_aload_n c_79_56 rfl (v_gr (t := 1) c_79_57 kf_7_10 rfl (nb_ rfl) rfl ?_)))))
    have h_20 := ir_1_3 hI_18
    refine v_gi (z := 3) (v := c_17 1 3) c_79_60 kf_7_77 rfl (nb_ rfl) rfl rfl rfl (q_iret c_79_63 rfl ?_)
    exact K c_17 (c_17 1 3) hI_18 (fun a j hm => (hF_19 a j hm).trans ((hF_16 a j hm).trans ((hF_13 a j hm).trans ((hF_10 a j hm).trans (hF_7 a j hm))))) ⟨(Int.le_trans (by decide) h_20.1), h_20.2⟩
  · refine v_if_ne_f (t := 14) c_79_9 rfl (Decidable.not_not.mp h_4) (q_iconst c_79_12 (q_iret c_79_13 rfl ?_))
    exact K c (-1) hI (fun a j hm => rfl) ⟨by decide, by decide⟩
end
