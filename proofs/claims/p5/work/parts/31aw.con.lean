/-! ===== contracts 14 ===== -/
theorem q_8db41993e {x0 : Int} (f0 : x0 > 150) : 150 < x0 := by omega
theorem q_f4271b4e1 {x0 : Int} (f0 : ¬ (x0 > 150)) : x0 ≤ 600 := by omega
theorem q_6d0a553af {x0 x1 x2 x3 x4 x5 : Int} (f0 : (x0 = x1 ∧ x2 = 0 ∧ x3 = (-1) ∧ x4 = 0 ∧ x5 = 0)) (f1 : (-1) ≤ x3 ∧ x3 ≤ 605) : x3 = (-1) := by omega
theorem q_aa9195485 {x0 x1 x2 x3 x4 x5 : Int} (f0 : (x0 = x1 ∧ x2 = 0 ∧ x3 = (-1) ∧ x4 = 0 ∧ x5 = 0)) (f1 : 0 ≤ x0 ∧ x0 ≤ 600) : x2 ≤ x0 := by omega
theorem q_27d6a8614 {x0 x1 x2 x3 x4 x5 : Int} (f0 : ¬ (x0 > 150)) (f1 : (x1 = x0 ∧ x2 = 0 ∧ x3 = (-1) ∧ x4 = 0 ∧ x5 = 0)) : x1 ≤ 150 := by omega
theorem q_1dc94a4e9 {x0 : Int} (f0 : 0 ≤ x0 ∧ x0 ≤ 605) : 0 ≤ x0 := by omega
theorem q_c5aecebbc {x0 x1 x2 x3 x4 x5 : Int} (f0 : (x0 = x1 ∧ x2 = 0 ∧ x3 = (-1) ∧ x4 = 0 ∧ x5 = 0)) (f1 : 0 ≤ x4 ∧ x4 ≤ 7) : x4 = 0 := by omega
theorem qn_6ef24e77f : ¬ (((41 : Nat) = 41 ∧ (2 : Int) = 4) ∨ ((41 : Nat) = 41 ∧ (2 : Int) = 5) ∨ ((41 : Nat) = 41 ∧ (2 : Int) = 6) ∨ ((41 : Nat) = 41 ∧ (2 : Int) = 7) ∨ ((41 : Nat) = 41 ∧ (2 : Int) = 29) ∨ (41 : Nat) = 50 ∨ (41 : Nat) = 51) := (fun q => q.elim (fun h => absurd h.2 (ni rfl)) (fun q => q.elim (fun h => absurd h.2 (ni rfl)) (fun q => q.elim (fun h => absurd h.2 (ni rfl)) (fun q => q.elim (fun h => absurd h.2 (ni rfl)) (fun q => q.elim (fun h => absurd h.2 (ni rfl)) (fun q => q.elim (fun h => absurd h (nn rfl)) (fun h => absurd h (nn rfl))))))))
theorem qv_1661f12fc {a : Nat} {j : Int} (hm : ¬ ((a = 41 ∧ j = 0) ∨ a = 42 ∨ (a = 41 ∧ j = 2) ∨ (a = 41 ∧ j = 3) ∨ (a = 41 ∧ j = 4) ∨ (a = 41 ∧ j = 5) ∨ (a = 41 ∧ j = 6) ∨ (a = 41 ∧ j = 7) ∨ (a = 41 ∧ j = 8) ∨ (a = 41 ∧ j = 29) ∨ (a = 41 ∧ j = 30) ∨ a = 50 ∨ a = 51 ∨ a = 52 ∨ a = 53)) : ¬ ((a = 41 ∧ j = 8)) := (fun h => hm (Or.inr (Or.inr (Or.inr (Or.inr (Or.inr (Or.inr (Or.inr (Or.inr (Or.inl h))))))))))
theorem qv_64dbd55b6 {a : Nat} {j : Int} (hm : ¬ ((a = 41 ∧ j = 0) ∨ a = 42 ∨ (a = 41 ∧ j = 2) ∨ (a = 41 ∧ j = 3) ∨ (a = 41 ∧ j = 4) ∨ (a = 41 ∧ j = 5) ∨ (a = 41 ∧ j = 6) ∨ (a = 41 ∧ j = 7) ∨ (a = 41 ∧ j = 8) ∨ (a = 41 ∧ j = 29) ∨ (a = 41 ∧ j = 30) ∨ a = 50 ∨ a = 51 ∨ a = 52 ∨ a = 53)) : ¬ ((a = 41 ∧ j = 4) ∨ (a = 41 ∧ j = 5) ∨ (a = 41 ∧ j = 6) ∨ (a = 41 ∧ j = 7) ∨ (a = 41 ∧ j = 29) ∨ a = 50 ∨ a = 51) := (fun q => q.elim (fun h => hm (Or.inr (Or.inr (Or.inr (Or.inr (Or.inl h)))))) (fun q => q.elim (fun h => hm (Or.inr (Or.inr (Or.inr (Or.inr (Or.inr (Or.inl h))))))) (fun q => q.elim (fun h => hm (Or.inr (Or.inr (Or.inr (Or.inr (Or.inr (Or.inr (Or.inl h)))))))) (fun q => q.elim (fun h => hm (Or.inr (Or.inr (Or.inr (Or.inr (Or.inr (Or.inr (Or.inr (Or.inl h))))))))) (fun q => q.elim (fun h => hm (Or.inr (Or.inr (Or.inr (Or.inr (Or.inr (Or.inr (Or.inr (Or.inr (Or.inr (Or.inl h))))))))))) (fun q => q.elim (fun h => hm (Or.inr (Or.inr (Or.inr (Or.inr (Or.inr (Or.inr (Or.inr (Or.inr (Or.inr (Or.inr (Or.inr (Or.inl h))))))))))))) (fun h => hm (Or.inr (Or.inr (Or.inr (Or.inr (Or.inr (Or.inr (Or.inr (Or.inr (Or.inr (Or.inr (Or.inr (Or.inr (Or.inl h))))))))))))))))))))
theorem qv_514f8c9e5 {a : Nat} {j : Int} (hm : ¬ ((a = 41 ∧ j = 0) ∨ a = 42 ∨ (a = 41 ∧ j = 2) ∨ (a = 41 ∧ j = 3) ∨ (a = 41 ∧ j = 4) ∨ (a = 41 ∧ j = 5) ∨ (a = 41 ∧ j = 6) ∨ (a = 41 ∧ j = 7) ∨ (a = 41 ∧ j = 8) ∨ (a = 41 ∧ j = 29) ∨ (a = 41 ∧ j = 30) ∨ a = 50 ∨ a = 51 ∨ a = 52 ∨ a = 53)) : ¬ ((a = 41 ∧ j = 2) ∨ (a = 41 ∧ j = 3) ∨ (a = 41 ∧ j = 4) ∨ (a = 41 ∧ j = 5) ∨ (a = 41 ∧ j = 7) ∨ (a = 41 ∧ j = 8)) := (fun q => q.elim (fun h => hm (Or.inr (Or.inr (Or.inl h)))) (fun q => q.elim (fun h => hm (Or.inr (Or.inr (Or.inr (Or.inl h))))) (fun q => q.elim (fun h => hm (Or.inr (Or.inr (Or.inr (Or.inr (Or.inl h)))))) (fun q => q.elim (fun h => hm (Or.inr (Or.inr (Or.inr (Or.inr (Or.inr (Or.inl h))))))) (fun q => q.elim (fun h => hm (Or.inr (Or.inr (Or.inr (Or.inr (Or.inr (Or.inr (Or.inr (Or.inl h))))))))) (fun h => hm (Or.inr (Or.inr (Or.inr (Or.inr (Or.inr (Or.inr (Or.inr (Or.inr (Or.inl h)))))))))))))))
theorem q_803e7bd5f {x0 : Int} (f0 : ¬ (x0 > 150)) : x0 ≤ 150 := by omega
theorem qv_40204bf00 {a : Nat} {j : Int} (hm : ¬ ((a = 41 ∧ j = 0) ∨ a = 42 ∨ (a = 41 ∧ j = 2) ∨ (a = 41 ∧ j = 3) ∨ (a = 41 ∧ j = 4) ∨ (a = 41 ∧ j = 5) ∨ (a = 41 ∧ j = 6) ∨ (a = 41 ∧ j = 7) ∨ (a = 41 ∧ j = 8) ∨ (a = 41 ∧ j = 29) ∨ (a = 41 ∧ j = 30) ∨ a = 50 ∨ a = 51 ∨ a = 52 ∨ a = 53)) : ¬ ((a = 41 ∧ j = 5) ∨ (a = 41 ∧ j = 6)) := (fun q => q.elim (fun h => hm (Or.inr (Or.inr (Or.inr (Or.inr (Or.inr (Or.inl h))))))) (fun h => hm (Or.inr (Or.inr (Or.inr (Or.inr (Or.inr (Or.inr (Or.inl h)))))))))
theorem q_6948128fc {x0 : Int} (f0 : x0 = 5) : x0 = 5 := by omega
theorem q_655701c1c {x0 : Int} (f0 : ¬ (x0 ≠ 8)) : ¬ x0 = 5 := by omega
theorem c_177_0 : mLk 177 0 = some (.aload_n 0, 1) := rfl
theorem c_177_1 : mLk 177 1 = some (.iconst 0, 1) := rfl
theorem c_177_2 : mLk 177 2 = some (.putfield 3, 3) := rfl
theorem c_177_5 : mLk 177 5 = some (.aload_n 0, 1) := rfl
theorem c_177_6 : mLk 177 6 = some (.iload_n 1, 1) := rfl
theorem c_177_7 : mLk 177 7 = some (.ifCond .lt 22, 3) := rfl
theorem c_177_29 : mLk 177 29 = some (.iconst 0, 1) := rfl
theorem c_177_30 : mLk 177 30 = some (.iconst 1, 1) := rfl
theorem c_177_31 : mLk 177 31 = some (.iconst 1, 1) := rfl
theorem c_177_32 : mLk 177 32 = some (.invokevirtual 203, 3) := rfl
theorem c_177_35 : mLk 177 35 = some (.ifCond .ne 5, 3) := rfl
theorem c_177_38 : mLk 177 38 = some (.iconst 0, 1) := rfl
theorem c_177_39 : mLk 177 39 = some (.ireturn, 1) := rfl
theorem c_177_10 : mLk 177 10 = some (.iload_n 1, 1) := rfl
theorem c_177_11 : mLk 177 11 = some (.aload_n 0, 1) := rfl
theorem c_177_12 : mLk 177 12 = some (.getfield 99, 3) := rfl
theorem c_177_15 : mLk 177 15 = some (.if_icmp .gt 14, 3) := rfl
theorem c_177_18 : mLk 177 18 = some (.iload_n 1, 1) := rfl
theorem c_177_19 : mLk 177 19 = some (.sipush 150, 3) := rfl
theorem c_177_22 : mLk 177 22 = some (.if_icmp .gt 7, 3) := rfl
theorem c_177_25 : mLk 177 25 = some (.iconst 1, 1) := rfl
theorem c_177_26 : mLk 177 26 = some (.goto 4, 3) := rfl
theorem c_177_40 : mLk 177 40 = some (.aload_n 0, 1) := rfl
theorem c_177_41 : mLk 177 41 = some (.iload_n 1, 1) := rfl
theorem c_177_42 : mLk 177 42 = some (.invokevirtual 207, 3) := rfl
theorem c_177_45 : mLk 177 45 = some (.aload_n 0, 1) := rfl
theorem c_177_46 : mLk 177 46 = some (.iconst 0, 1) := rfl
theorem c_177_47 : mLk 177 47 = some (.putfield 236, 3) := rfl
theorem c_177_50 : mLk 177 50 = some (.aload_n 0, 1) := rfl
theorem c_177_51 : mLk 177 51 = some (.invokevirtual 251, 3) := rfl
theorem c_177_54 : mLk 177 54 = some (.aload_n 0, 1) := rfl
theorem c_177_55 : mLk 177 55 = some (.invokevirtual 131, 3) := rfl
theorem c_177_58 : mLk 177 58 = some (.ifCond .eq 19, 3) := rfl
theorem c_177_77 : mLk 177 77 = some (.aload_n 0, 1) := rfl
theorem c_177_78 : mLk 177 78 = some (.iconst 1, 1) := rfl
theorem c_177_79 : mLk 177 79 = some (.invokevirtual 232, 3) := rfl
theorem c_177_82 : mLk 177 82 = some (.istore_n 2, 1) := rfl
theorem c_177_83 : mLk 177 83 = some (.aload_n 0, 1) := rfl
theorem c_177_84 : mLk 177 84 = some (.getfield 102, 3) := rfl
theorem c_177_87 : mLk 177 87 = some (.iconst (-1), 1) := rfl
theorem c_177_88 : mLk 177 88 = some (.if_icmp .eq 5, 3) := rfl
theorem c_177_91 : mLk 177 91 = some (.iload_n 2, 1) := rfl
theorem c_177_92 : mLk 177 92 = some (.ireturn, 1) := rfl
theorem c_177_61 : mLk 177 61 = some (.aload_n 0, 1) := rfl
theorem c_177_62 : mLk 177 62 = some (.invokevirtual 211, 3) := rfl
theorem c_177_65 : mLk 177 65 = some (.ifCond .eq 12, 3) := rfl
theorem c_177_93 : mLk 177 93 = some (.aload_n 0, 1) := rfl
theorem c_177_94 : mLk 177 94 = some (.aload_n 0, 1) := rfl
theorem c_177_95 : mLk 177 95 = some (.getfield 236, 3) := rfl
theorem c_177_98 : mLk 177 98 = some (.putfield 173, 3) := rfl
theorem c_177_101 : mLk 177 101 = some (.aload_n 0, 1) := rfl
theorem c_177_102 : mLk 177 102 = some (.aload_n 0, 1) := rfl
theorem c_177_103 : mLk 177 103 = some (.getfield 41, 3) := rfl
theorem c_177_106 : mLk 177 106 = some (.aload_n 0, 1) := rfl
theorem c_177_107 : mLk 177 107 = some (.getfield 47, 3) := rfl
theorem c_177_110 : mLk 177 110 = some (.aload_n 0, 1) := rfl
theorem c_177_111 : mLk 177 111 = some (.getfield 236, 3) := rfl
theorem c_177_114 : mLk 177 114 = some (.invokevirtual 169, 3) := rfl
theorem c_177_117 : mLk 177 117 = some (.aload_n 0, 1) := rfl
theorem c_177_118 : mLk 177 118 = some (.aload_n 0, 1) := rfl
theorem c_177_119 : mLk 177 119 = some (.getfield 44, 3) := rfl
theorem c_177_122 : mLk 177 122 = some (.aload_n 0, 1) := rfl
theorem c_177_123 : mLk 177 123 = some (.getfield 50, 3) := rfl
theorem c_177_126 : mLk 177 126 = some (.aload_n 0, 1) := rfl
theorem c_177_127 : mLk 177 127 = some (.getfield 236, 3) := rfl
theorem c_177_130 : mLk 177 130 = some (.invokevirtual 169, 3) := rfl
theorem c_177_133 : mLk 177 133 = some (.iload_n 2, 1) := rfl
theorem c_177_134 : mLk 177 134 = some (.ireturn, 1) := rfl
theorem c_177_68 : mLk 177 68 = some (.aload_n 0, 1) := rfl
theorem c_177_69 : mLk 177 69 = some (.iconst 1, 1) := rfl
theorem c_177_70 : mLk 177 70 = some (.aload_n 0, 1) := rfl
theorem c_177_71 : mLk 177 71 = some (.getfield 108, 3) := rfl
theorem c_177_74 : mLk 177 74 = some (.invokevirtual 138, 3) := rfl
theorem c_178_0 : mLk 178 0 = some (.iload_n 0, 1) := rfl
theorem c_178_1 : mLk 178 1 = some (.iconst 2, 1) := rfl
theorem c_178_2 : mLk 178 2 = some (.if_icmp .ne 7, 3) := rfl
theorem c_178_9 : mLk 178 9 = some (.iload_n 0, 1) := rfl
theorem c_178_10 : mLk 178 10 = some (.iconst 3, 1) := rfl
theorem c_178_11 : mLk 178 11 = some (.if_icmp .ne 7, 3) := rfl
theorem c_178_18 : mLk 178 18 = some (.iload_n 0, 1) := rfl
theorem c_178_19 : mLk 178 19 = some (.iconst 4, 1) := rfl
theorem c_178_20 : mLk 178 20 = some (.if_icmp .ne 7, 3) := rfl
theorem c_178_27 : mLk 178 27 = some (.iload_n 0, 1) := rfl
theorem c_178_28 : mLk 178 28 = some (.iconst 5, 1) := rfl
theorem c_178_29 : mLk 178 29 = some (.if_icmp .eq 9, 3) := rfl
theorem c_178_38 : mLk 178 38 = some (.iload_n 2, 1) := rfl
theorem c_178_39 : mLk 178 39 = some (.ifCond .ne 7, 3) := rfl
theorem c_178_46 : mLk 178 46 = some (.iload_n 0, 1) := rfl
theorem c_178_47 : mLk 178 47 = some (.iconst 5, 1) := rfl
theorem c_178_48 : mLk 178 48 = some (.if_icmp .ne 9, 3) := rfl
theorem c_178_51 : mLk 178 51 = some (.iload_n 1, 1) := rfl
theorem c_178_52 : mLk 178 52 = some (.iload_n 2, 1) := rfl
theorem c_178_53 : mLk 178 53 = some (.idiv, 1) := rfl
theorem c_178_54 : mLk 178 54 = some (.goto 6, 3) := rfl
theorem c_178_60 : mLk 178 60 = some (.ireturn, 1) := rfl
theorem c_178_42 : mLk 178 42 = some (.iconst 0, 1) := rfl
theorem c_178_43 : mLk 178 43 = some (.goto 17, 3) := rfl
theorem c_178_32 : mLk 178 32 = some (.iload_n 0, 1) := rfl
theorem c_178_33 : mLk 178 33 = some (.bipush 8, 2) := rfl
theorem c_178_35 : mLk 178 35 = some (.if_icmp .ne 26, 3) := rfl
theorem c_178_61 : mLk 178 61 = some (.iload_n 1, 1) := rfl
theorem c_178_62 : mLk 178 62 = some (.iload_n 2, 1) := rfl
theorem c_178_63 : mLk 178 63 = some (.if_icmp .ge 7, 3) := rfl
theorem c_178_70 : mLk 178 70 = some (.iconst 0, 1) := rfl
theorem c_178_71 : mLk 178 71 = some (.iload_n 0, 1) := rfl
theorem c_178_72 : mLk 178 72 = some (.bipush 6, 2) := rfl
theorem c_178_74 : mLk 178 74 = some (.if_icmp .ne 7, 3) := rfl
theorem c_178_81 : mLk 178 81 = some (.iconst 0, 1) := rfl
theorem c_178_82 : mLk 178 82 = some (.if_icmp .ne 7, 3) := rfl
theorem c_178_85 : mLk 178 85 = some (.iload_n 1, 1) := rfl
theorem c_178_86 : mLk 178 86 = some (.goto 4, 3) := rfl
theorem c_178_90 : mLk 178 90 = some (.ireturn, 1) := rfl
theorem c_178_77 : mLk 178 77 = some (.iconst 1, 1) := rfl
theorem c_178_78 : mLk 178 78 = some (.goto 4, 3) := rfl
theorem c_178_89 : mLk 178 89 = some (.iload_n 2, 1) := rfl
theorem c_178_66 : mLk 178 66 = some (.iconst 1, 1) := rfl
theorem c_178_67 : mLk 178 67 = some (.goto 4, 3) := rfl
theorem c_178_57 : mLk 178 57 = some (.iload_n 1, 1) := rfl
theorem c_178_58 : mLk 178 58 = some (.iload_n 2, 1) := rfl
theorem c_178_59 : mLk 178 59 = some (.irem, 1) := rfl
theorem c_178_23 : mLk 178 23 = some (.iload_n 1, 1) := rfl
theorem c_178_24 : mLk 178 24 = some (.iload_n 2, 1) := rfl
theorem c_178_25 : mLk 178 25 = some (.imul, 1) := rfl
theorem c_178_26 : mLk 178 26 = some (.ireturn, 1) := rfl
theorem c_178_14 : mLk 178 14 = some (.iload_n 1, 1) := rfl
theorem c_178_15 : mLk 178 15 = some (.iload_n 2, 1) := rfl
theorem c_178_16 : mLk 178 16 = some (.isub, 1) := rfl
theorem c_178_17 : mLk 178 17 = some (.ireturn, 1) := rfl
theorem c_178_5 : mLk 178 5 = some (.iload_n 1, 1) := rfl
theorem c_178_6 : mLk 178 6 = some (.iload_n 2, 1) := rfl
theorem c_178_7 : mLk 178 7 = some (.iadd, 1) := rfl
theorem c_178_8 : mLk 178 8 = some (.ireturn, 1) := rfl
theorem c_179_4 : mLk 179 4 = some (.iload_n 2, 1) := rfl
theorem c_179_5 : mLk 179 5 = some (.aload_n 0, 1) := rfl
theorem c_179_6 : mLk 179 6 = some (.getfield 173, 3) := rfl
theorem c_179_9 : mLk 179 9 = some (.if_icmp .ge 86, 3) := rfl
theorem c_179_95 : mLk 179 95 = some (.aload_n 0, 1) := rfl
theorem c_179_96 : mLk 179 96 = some (.getfield 53, 3) := rfl
theorem c_179_99 : mLk 179 99 = some (.iconst 0, 1) := rfl
theorem c_179_100 : mLk 179 100 = some (.iaload, 1) := rfl
theorem c_179_101 : mLk 179 101 = some (.ireturn, 1) := rfl
theorem c_179_12 : mLk 179 12 = some (.aload_n 0, 1) := rfl
theorem c_179_13 : mLk 179 13 = some (.getfield 47, 3) := rfl
theorem c_179_16 : mLk 179 16 = some (.iload_n 2, 1) := rfl
theorem c_179_17 : mLk 179 17 = some (.iaload, 1) := rfl
theorem c_179_18 : mLk 179 18 = some (.istore_n 3, 1) := rfl
theorem c_179_19 : mLk 179 19 = some (.iload_n 3, 1) := rfl
theorem c_179_20 : mLk 179 20 = some (.iconst 1, 1) := rfl
theorem c_179_21 : mLk 179 21 = some (.if_icmp .gt 39, 3) := rfl
theorem c_179_60 : mLk 179 60 = some (.iinc 1 (-1), 3) := rfl
theorem c_179_63 : mLk 179 63 = some (.aload_n 0, 1) := rfl
theorem c_179_64 : mLk 179 64 = some (.getfield 53, 3) := rfl
theorem c_179_67 : mLk 179 67 = some (.iload_n 1, 1) := rfl
theorem c_179_68 : mLk 179 68 = some (.iconst 1, 1) := rfl
theorem c_179_69 : mLk 179 69 = some (.isub, 1) := rfl
theorem c_179_70 : mLk 179 70 = some (.iload_n 3, 1) := rfl
theorem c_179_71 : mLk 179 71 = some (.aload_n 0, 1) := rfl
theorem c_179_72 : mLk 179 72 = some (.getfield 53, 3) := rfl
theorem c_179_75 : mLk 179 75 = some (.iload_n 1, 1) := rfl
theorem c_179_76 : mLk 179 76 = some (.iconst 1, 1) := rfl
theorem c_179_77 : mLk 179 77 = some (.isub, 1) := rfl
theorem c_179_78 : mLk 179 78 = some (.iaload, 1) := rfl
theorem c_179_79 : mLk 179 79 = some (.aload_n 0, 1) := rfl
theorem c_179_80 : mLk 179 80 = some (.getfield 53, 3) := rfl
theorem c_179_83 : mLk 179 83 = some (.iload_n 1, 1) := rfl
theorem c_179_84 : mLk 179 84 = some (.iaload, 1) := rfl
theorem c_179_85 : mLk 179 85 = some (.invokestatic 277, 3) := rfl
theorem c_179_88 : mLk 179 88 = some (.iastore, 1) := rfl
theorem c_179_89 : mLk 179 89 = some (.iinc 2 1, 3) := rfl
theorem c_179_92 : mLk 179 92 = some (.goto (-88), 3) := rfl
theorem c_179_24 : mLk 179 24 = some (.aload_n 0, 1) := rfl
theorem c_179_25 : mLk 179 25 = some (.getfield 53, 3) := rfl
theorem c_179_28 : mLk 179 28 = some (.iload_n 1, 1) := rfl
theorem c_179_29 : mLk 179 29 = some (.iload_n 3, 1) := rfl
theorem c_179_30 : mLk 179 30 = some (.ifCond .ne 12, 3) := rfl
theorem c_179_42 : mLk 179 42 = some (.aload_n 0, 1) := rfl
theorem c_179_43 : mLk 179 43 = some (.getfield 56, 3) := rfl
theorem c_179_46 : mLk 179 46 = some (.aload_n 0, 1) := rfl
theorem c_179_47 : mLk 179 47 = some (.getfield 50, 3) := rfl
theorem c_179_50 : mLk 179 50 = some (.iload_n 2, 1) := rfl
theorem c_179_51 : mLk 179 51 = some (.iaload, 1) := rfl
theorem c_179_52 : mLk 179 52 = some (.iaload, 1) := rfl
theorem c_179_53 : mLk 179 53 = some (.iastore, 1) := rfl
theorem c_179_54 : mLk 179 54 = some (.iinc 1 1, 3) := rfl
theorem c_179_57 : mLk 179 57 = some (.goto 32, 3) := rfl
theorem c_179_33 : mLk 179 33 = some (.aload_n 0, 1) := rfl
theorem c_179_34 : mLk 179 34 = some (.getfield 50, 3) := rfl
theorem c_179_37 : mLk 179 37 = some (.iload_n 2, 1) := rfl
theorem c_179_38 : mLk 179 38 = some (.iaload, 1) := rfl
theorem c_179_39 : mLk 179 39 = some (.goto 14, 3) := rfl
theorem c_179_0 : mLk 179 0 = some (.iconst 0, 1) := rfl
theorem c_179_1 : mLk 179 1 = some (.istore_n 1, 1) := rfl
theorem c_179_2 : mLk 179 2 = some (.iconst 0, 1) := rfl
theorem c_179_3 : mLk 179 3 = some (.istore_n 2, 1) := rfl
theorem c_180_0 : mLk 180 0 = some (.aload_n 0, 1) := rfl
theorem c_180_1 : mLk 180 1 = some (.getfield 173, 3) := rfl
theorem c_180_4 : mLk 180 4 = some (.ifCond .ne 24, 3) := rfl
theorem c_180_28 : mLk 180 28 = some (.aload_n 0, 1) := rfl
theorem c_180_29 : mLk 180 29 = some (.invokevirtual 281, 3) := rfl
theorem c_180_32 : mLk 180 32 = some (.istore_n 1, 1) := rfl
theorem c_180_33 : mLk 180 33 = some (.iload_n 1, 1) := rfl
theorem c_180_34 : mLk 180 34 = some (.ifCond .ge 7, 3) := rfl
theorem c_180_41 : mLk 180 41 = some (.iload_n 1, 1) := rfl
theorem c_180_42 : mLk 180 42 = some (.bipush 99, 2) := rfl
theorem c_180_44 : mLk 180 44 = some (.if_icmp .le 8, 3) := rfl
theorem c_180_52 : mLk 180 52 = some (.iload_n 1, 1) := rfl
theorem c_180_53 : mLk 180 53 = some (.ireturn, 1) := rfl
theorem c_180_47 : mLk 180 47 = some (.bipush 99, 2) := rfl
theorem c_180_49 : mLk 180 49 = some (.goto 4, 3) := rfl
theorem c_180_37 : mLk 180 37 = some (.iconst 0, 1) := rfl
theorem c_180_38 : mLk 180 38 = some (.goto 15, 3) := rfl
theorem c_180_7 : mLk 180 7 = some (.aload_n 0, 1) := rfl
theorem c_180_8 : mLk 180 8 = some (.getfield 56, 3) := rfl
theorem c_180_11 : mLk 180 11 = some (.iconst 0, 1) := rfl
theorem c_180_12 : mLk 180 12 = some (.iaload, 1) := rfl
theorem c_180_13 : mLk 180 13 = some (.bipush 90, 2) := rfl
theorem c_180_15 : mLk 180 15 = some (.imul, 1) := rfl
theorem c_180_16 : mLk 180 16 = some (.aload_n 0, 1) := rfl
theorem c_180_17 : mLk 180 17 = some (.getfield 56, 3) := rfl
theorem c_180_20 : mLk 180 20 = some (.iconst 4, 1) := rfl
theorem c_180_21 : mLk 180 21 = some (.iaload, 1) := rfl
theorem c_180_22 : mLk 180 22 = some (.iconst 1, 1) := rfl
theorem c_180_23 : mLk 180 23 = some (.iadd, 1) := rfl
theorem c_180_24 : mLk 180 24 = some (.idiv, 1) := rfl
theorem c_180_25 : mLk 180 25 = some (.goto 7, 3) := rfl
theorem kf_8_47 : a_lk (kF 8) 47 = some (8, 26) := rfl
theorem kf_8_50 : a_lk (kF 8) 50 = some (8, 27) := rfl
theorem kf_8_53 : a_lk (kF 8) 53 = some (8, 28) := rfl
theorem kf_8_56 : a_lk (kF 8) 56 = some (8, 31) := rfl
theorem km_8_281 : a_lk (kM 8) 281 = some (0, 179) := rfl
set_option maxRecDepth 100000 in
set_option maxHeartbeats 4000000 in
theorem s_177 {sc : List Int32} {e : Int} {d u P Q : Nat} {c : ME} {a1 : Int} {Z : AR → Prop} (hI : Iv u e P Q c) (ha1 : (-2147483648) ≤ a1 ∧ a1 ≤ 2147483647) (K : ∀ (c2 : ME) (y : Int), Iv u e P Q c2 → (∀ (a : Nat) (j : Int), ¬ ((a = 41 ∧ j = 0) ∨ a = 42 ∨ (a = 41 ∧ j = 2) ∨ (a = 41 ∧ j = 3) ∨ (a = 41 ∧ j = 4) ∨ (a = 41 ∧ j = 5) ∨ (a = 41 ∧ j = 6) ∨ (a = 41 ∧ j = 7) ∨ (a = 41 ∧ j = 8) ∨ (a = 41 ∧ j = 29) ∨ (a = 41 ∧ j = 30) ∨ a = 50 ∨ a = 51 ∨ a = 52 ∨ a = 53) → c2 a j = c a j) → (-2147483648) ≤ y ∧ y ≤ 2147483647 → ((c2 41 2 = 0 ∧ a1 ≥ 0 ∧ a1 ≤ c 41 2 ∧ a1 ≤ 150) ∨ (c2 41 2 = c 41 2 ∧ a1 < 0) ∨ (c2 41 2 = c 41 2 ∧ a1 > c 41 2) ∨ (c2 41 2 = c 41 2 ∧ a1 > 150)) → Z (.inl (some (vi y)), Wd P Q P P c2, 0, 0)) : Wp sc (d + 41) 177 0 [(0, .ref 41), (1, vi a1)] [] (Wd P Q P P c) 0 0 Z := by
  have hP := iv_P hI
  have hQ := iv_Q hI
  refine q_aload_n c_177_0 rfl (q_iconst c_177_1 (v_pi (z := 0) c_177_2 kf_8_3 rfl (Nat.le_of_ble_eq_true rfl) rfl rfl rfl (of_decide_eq_true rfl) (q_aload_n c_177_5 rfl (q_iload_n c_177_6 rfl ?_))))
  by_cases h_1 : a1 < 0
  · refine v_if_lt_t (t := 29) c_177_7 rfl ⟨ha1.1, h_1, of_decide_eq_true rfl⟩ (q_iconst c_177_29 (q_iconst c_177_30 (q_iconst c_177_31 (v_cv c_177_32 km_8_203 rfl rfl (Nat.le_of_ble_eq_true rfl) ⟨⟨rfl, rfl⟩, Nat.le_of_ble_eq_true rfl, rfl⟩ (Nat.le_of_ble_eq_true rfl) (Nat.le_of_ble_eq_true rfl) (q_iload_n c_145_0 rfl (v_if_ne_f (t := 26) c_145_1 rfl (of_decide_eq_true rfl) (q_aload_n c_145_4 rfl ?_)))))))
    refine v_gi (z := 0) (v := 0) c_145_5 kf_8_3 rfl (Nat.le_of_ble_eq_true rfl) rfl rfl (up_e rfl) (v_if_ne_f (t := 26) c_145_8 rfl (of_decide_eq_true rfl) (q_aload_n c_145_11 rfl (q_iload_n c_145_12 rfl (v_pi (z := 0) c_145_13 kf_8_3 rfl (Nat.le_of_ble_eq_true rfl) rfl rfl rfl (of_decide_eq_true rfl) (q_aload_n c_145_16 rfl (v_gr (t := 42) c_145_17 kf_8_7 rfl (Nat.le_of_ble_eq_true rfl) rfl (q_iload_n c_145_20 rfl ?_)))))))
    refine q_dup2 c_145_21 ⟨rfl, rfl⟩ ?_
    have h_2 := ir_42 hI 1
    refine v_ia (v := c 42 1) c_145_22 rfl (of_decide_eq_true rfl) (of_decide_eq_true rfl) (of_decide_eq_true rfl) ((up_c (nn rfl)).trans (up_c (nn rfl))) (q_iconst c_145_23 (v_iadd (v := c 42 1 + 1) c_145_24 rfl (v_nrm (fun y_3 hy_3 => (v_is c_145_25 rfl (of_decide_eq_true rfl) (of_decide_eq_true rfl) (of_decide_eq_true rfl) (q_aload_n c_145_26 rfl (v_gi (z := 0) (v := 1) c_145_27 kf_8_3 rfl (Nat.le_of_ble_eq_true rfl) rfl rfl ((up_c (nn rfl)).trans (up_e rfl)) (v_if_ne_t (t := 37) c_145_30 rfl (of_decide_eq_true rfl) ?_))))))))
    refine q_iconst c_145_37 (v_zret c_145_38 rfl (of_decide_eq_true rfl) (bk_inl (v_if_ne_f (t := 40) c_177_35 rfl (of_decide_eq_true rfl) (q_iconst c_177_38 (q_iret c_177_39 rfl ?_)))))
    have hI_4 := iw_41_0 (v := 0) hI ⟨of_decide_eq_true rfl, of_decide_eq_true rfl⟩
    have hI_5 := iw_41_0 (v := 1) hI_4 ⟨of_decide_eq_true rfl, of_decide_eq_true rfl⟩
    have hI_6 := iw_42 (j := 1) (v := y_3) hI_5 ⟨hy_3.1, hy_3.2⟩
    have h_7 := ir_41_2 hI
    have h_8 : (up (up (up c 41 0 0) 41 0 1) 42 1 y_3) 41 2 = c 41 2 := ((up_c (nn rfl)).trans ((up_n (ni rfl)).trans (up_n (ni rfl))))
    exact K (up (up (up c 41 0 0) 41 0 1) 42 1 y_3) 0 hI_6 (fun a j hm => (up_b (Decidable.or_iff_not_imp_left.mpr (fun h1 h2 => hm (Or.inr (Or.inl (Decidable.not_not.mp h1)))))).trans ((up_b (Decidable.or_iff_not_imp_left.mpr (fun h1 h2 => hm (Or.inl ⟨Decidable.not_not.mp h1, h2⟩)))).trans (up_b (Decidable.or_iff_not_imp_left.mpr (fun h1 h2 => hm (Or.inl ⟨Decidable.not_not.mp h1, h2⟩)))))) ⟨of_decide_eq_true rfl, of_decide_eq_true rfl⟩ (Or.inr (Or.inl ⟨by first | assumption | omega, (q_e97a17f6e h_1)⟩))
  · refine v_if_lt_f (t := 29) c_177_7 rfl ⟨of_decide_eq_true rfl, (Int.not_lt.mp h_1), ha1.2⟩ (q_iload_n c_177_10 rfl (q_aload_n c_177_11 rfl ?_))
    have h_9 := ir_41_2 hI
    refine v_gi (z := 2) (v := c 41 2) c_177_12 kf_8_99 rfl (Nat.le_of_ble_eq_true rfl) rfl rfl (up_n (ni rfl)) ?_
    by_cases h_10 : a1 > c 41 2
    · refine v_ic_gt_t (t := 29) c_177_15 rfl ⟨(lel h_9.1 rfl), h_10, ha1.2⟩ (q_iconst c_177_29 (q_iconst c_177_30 (q_iconst c_177_31 (v_cv c_177_32 km_8_203 rfl rfl (Nat.le_of_ble_eq_true rfl) ⟨⟨rfl, rfl⟩, Nat.le_of_ble_eq_true rfl, rfl⟩ (Nat.le_of_ble_eq_true rfl) (Nat.le_of_ble_eq_true rfl) (q_iload_n c_145_0 rfl (v_if_ne_f (t := 26) c_145_1 rfl (of_decide_eq_true rfl) (q_aload_n c_145_4 rfl ?_)))))))
      refine v_gi (z := 0) (v := 0) c_145_5 kf_8_3 rfl (Nat.le_of_ble_eq_true rfl) rfl rfl (up_e rfl) (v_if_ne_f (t := 26) c_145_8 rfl (of_decide_eq_true rfl) (q_aload_n c_145_11 rfl (q_iload_n c_145_12 rfl (v_pi (z := 0) c_145_13 kf_8_3 rfl (Nat.le_of_ble_eq_true rfl) rfl rfl rfl (of_decide_eq_true rfl) (q_aload_n c_145_16 rfl (v_gr (t := 42) c_145_17 kf_8_7 rfl (Nat.le_of_ble_eq_true rfl) rfl (q_iload_n c_145_20 rfl ?_)))))))
      refine q_dup2 c_145_21 ⟨rfl, rfl⟩ ?_
      have h_11 := ir_42 hI 1
      refine v_ia (v := c 42 1) c_145_22 rfl (of_decide_eq_true rfl) (of_decide_eq_true rfl) (of_decide_eq_true rfl) ((up_c (nn rfl)).trans (up_c (nn rfl))) (q_iconst c_145_23 (v_iadd (v := c 42 1 + 1) c_145_24 rfl (v_nrm (fun y_12 hy_12 => (v_is c_145_25 rfl (of_decide_eq_true rfl) (of_decide_eq_true rfl) (of_decide_eq_true rfl) (q_aload_n c_145_26 rfl (v_gi (z := 0) (v := 1) c_145_27 kf_8_3 rfl (Nat.le_of_ble_eq_true rfl) rfl rfl ((up_c (nn rfl)).trans (up_e rfl)) (v_if_ne_t (t := 37) c_145_30 rfl (of_decide_eq_true rfl) ?_))))))))
      refine q_iconst c_145_37 (v_zret c_145_38 rfl (of_decide_eq_true rfl) (bk_inl (v_if_ne_f (t := 40) c_177_35 rfl (of_decide_eq_true rfl) (q_iconst c_177_38 (q_iret c_177_39 rfl ?_)))))
      have hI_13 := iw_41_0 (v := 0) hI ⟨of_decide_eq_true rfl, of_decide_eq_true rfl⟩
      have hI_14 := iw_41_0 (v := 1) hI_13 ⟨of_decide_eq_true rfl, of_decide_eq_true rfl⟩
      have hI_15 := iw_42 (j := 1) (v := y_12) hI_14 ⟨hy_12.1, hy_12.2⟩
      have h_16 : (up (up (up c 41 0 0) 41 0 1) 42 1 y_12) 41 2 = c 41 2 := ((up_c (nn rfl)).trans ((up_n (ni rfl)).trans (up_n (ni rfl))))
      exact K (up (up (up c 41 0 0) 41 0 1) 42 1 y_12) 0 hI_15 (fun a j hm => (up_b (Decidable.or_iff_not_imp_left.mpr (fun h1 h2 => hm (Or.inr (Or.inl (Decidable.not_not.mp h1)))))).trans ((up_b (Decidable.or_iff_not_imp_left.mpr (fun h1 h2 => hm (Or.inl ⟨Decidable.not_not.mp h1, h2⟩)))).trans (up_b (Decidable.or_iff_not_imp_left.mpr (fun h1 h2 => hm (Or.inl ⟨Decidable.not_not.mp h1, h2⟩)))))) ⟨of_decide_eq_true rfl, of_decide_eq_true rfl⟩ (Or.inr (Or.inr (Or.inl ⟨by first | assumption | omega, (q_0e7f65a30 h_10)⟩)))
    · refine v_ic_gt_f (t := 29) c_177_15 rfl ⟨ha1.1, (Int.not_lt.mp h_10), (ler h_9.2 rfl)⟩ (q_iload_n c_177_18 rfl (v_sip c_177_19 (of_decide_eq_true rfl) ?_))
      by_cases h_17 : a1 > 150
      · refine v_ic_gt_t (t := 29) c_177_22 rfl ⟨of_decide_eq_true rfl, h_17, ha1.2⟩ (q_iconst c_177_29 (q_iconst c_177_30 (q_iconst c_177_31 (v_cv c_177_32 km_8_203 rfl rfl (Nat.le_of_ble_eq_true rfl) ⟨⟨rfl, rfl⟩, Nat.le_of_ble_eq_true rfl, rfl⟩ (Nat.le_of_ble_eq_true rfl) (Nat.le_of_ble_eq_true rfl) (q_iload_n c_145_0 rfl (v_if_ne_f (t := 26) c_145_1 rfl (of_decide_eq_true rfl) (q_aload_n c_145_4 rfl ?_)))))))
        refine v_gi (z := 0) (v := 0) c_145_5 kf_8_3 rfl (Nat.le_of_ble_eq_true rfl) rfl rfl (up_e rfl) (v_if_ne_f (t := 26) c_145_8 rfl (of_decide_eq_true rfl) (q_aload_n c_145_11 rfl (q_iload_n c_145_12 rfl (v_pi (z := 0) c_145_13 kf_8_3 rfl (Nat.le_of_ble_eq_true rfl) rfl rfl rfl (of_decide_eq_true rfl) (q_aload_n c_145_16 rfl (v_gr (t := 42) c_145_17 kf_8_7 rfl (Nat.le_of_ble_eq_true rfl) rfl (q_iload_n c_145_20 rfl ?_)))))))
        refine q_dup2 c_145_21 ⟨rfl, rfl⟩ ?_
        have h_18 := ir_42 hI 1
        refine v_ia (v := c 42 1) c_145_22 rfl (of_decide_eq_true rfl) (of_decide_eq_true rfl) (of_decide_eq_true rfl) ((up_c (nn rfl)).trans (up_c (nn rfl))) (q_iconst c_145_23 (v_iadd (v := c 42 1 + 1) c_145_24 rfl (v_nrm (fun y_19 hy_19 => (v_is c_145_25 rfl (of_decide_eq_true rfl) (of_decide_eq_true rfl) (of_decide_eq_true rfl) (q_aload_n c_145_26 rfl (v_gi (z := 0) (v := 1) c_145_27 kf_8_3 rfl (Nat.le_of_ble_eq_true rfl) rfl rfl ((up_c (nn rfl)).trans (up_e rfl)) (v_if_ne_t (t := 37) c_145_30 rfl (of_decide_eq_true rfl) ?_))))))))
        refine q_iconst c_145_37 (v_zret c_145_38 rfl (of_decide_eq_true rfl) (bk_inl (v_if_ne_f (t := 40) c_177_35 rfl (of_decide_eq_true rfl) (q_iconst c_177_38 (q_iret c_177_39 rfl ?_)))))
        have hI_20 := iw_41_0 (v := 0) hI ⟨of_decide_eq_true rfl, of_decide_eq_true rfl⟩
        have hI_21 := iw_41_0 (v := 1) hI_20 ⟨of_decide_eq_true rfl, of_decide_eq_true rfl⟩
        have hI_22 := iw_42 (j := 1) (v := y_19) hI_21 ⟨hy_19.1, hy_19.2⟩
        have h_23 : (up (up (up c 41 0 0) 41 0 1) 42 1 y_19) 41 2 = c 41 2 := ((up_c (nn rfl)).trans ((up_n (ni rfl)).trans (up_n (ni rfl))))
        exact K (up (up (up c 41 0 0) 41 0 1) 42 1 y_19) 0 hI_22 (fun a j hm => (up_b (Decidable.or_iff_not_imp_left.mpr (fun h1 h2 => hm (Or.inr (Or.inl (Decidable.not_not.mp h1)))))).trans ((up_b (Decidable.or_iff_not_imp_left.mpr (fun h1 h2 => hm (Or.inl ⟨Decidable.not_not.mp h1, h2⟩)))).trans (up_b (Decidable.or_iff_not_imp_left.mpr (fun h1 h2 => hm (Or.inl ⟨Decidable.not_not.mp h1, h2⟩)))))) ⟨of_decide_eq_true rfl, of_decide_eq_true rfl⟩ (Or.inr (Or.inr (Or.inr ⟨by first | assumption | omega, (q_8db41993e h_17)⟩)))
      · refine v_ic_gt_f (t := 29) c_177_22 rfl ⟨ha1.1, (Int.not_lt.mp h_17), of_decide_eq_true rfl⟩ (q_iconst c_177_25 (q_goto (t := 30) c_177_26 rfl (q_iconst c_177_30 (q_iconst c_177_31 (v_cv c_177_32 km_8_203 rfl rfl (Nat.le_of_ble_eq_true rfl) ⟨⟨rfl, rfl⟩, Nat.le_of_ble_eq_true rfl, rfl⟩ (Nat.le_of_ble_eq_true rfl) (Nat.le_of_ble_eq_true rfl) (q_iload_n c_145_0 rfl (v_if_ne_t (t := 26) c_145_1 rfl (of_decide_eq_true rfl) ?_)))))))
        refine q_aload_n c_145_26 rfl (v_gi (z := 0) (v := 0) c_145_27 kf_8_3 rfl (Nat.le_of_ble_eq_true rfl) rfl rfl (up_e rfl) (v_if_ne_f (t := 37) c_145_30 rfl (of_decide_eq_true rfl) (q_iconst c_145_33 (q_goto (t := 38) c_145_34 rfl (v_zret c_145_38 rfl (of_decide_eq_true rfl) (bk_inl (v_if_ne_t (t := 40) c_177_35 rfl (of_decide_eq_true rfl) ?_)))))))
        refine q_aload_n c_177_40 rfl (q_iload_n c_177_41 rfl ?_)
        have hI_24 := iw_41_0 (v := 0) hI ⟨of_decide_eq_true rfl, of_decide_eq_true rfl⟩
        refine v_cv c_177_42 km_8_207 rfl rfl (Nat.le_of_ble_eq_true rfl) ⟨⟨rfl, rfl⟩, Nat.le_of_ble_eq_true rfl, rfl⟩ (Nat.le_of_ble_eq_true rfl) (Nat.le_of_ble_eq_true rfl) (s_163 (a1 := a1) hI_24 (show 0 ≤ a1 ∧ a1 ≤ 600 from ⟨(q_720657ba9 h_1), (q_f4271b4e1 h_17)⟩) (fun c_25 hI_26 hF_27 h_28 => (bk_inl ?_)))
        have h_29 := ir_41_2 hI_26
        have h_30 := ir_41_3 hI_26
        have h_31 := ir_41_4 hI_26
        have h_32 := ir_41_5 hI_26
        have h_33 := ir_41_7 hI_26
        refine q_aload_n c_177_45 rfl (q_iconst c_177_46 (v_pi (z := 29) c_177_47 kf_8_236 rfl (Nat.le_of_ble_eq_true rfl) rfl rfl rfl (of_decide_eq_true rfl) (q_aload_n c_177_50 rfl ?_)))
        have hI_34 := iw_41_29 (v := 0) hI_26 ⟨of_decide_eq_true rfl, of_decide_eq_true rfl⟩
        have h_35 : (up c_25 41 29 0) 41 5 = c_25 41 5 := (up_n (ni rfl))
        have h_36 : (up c_25 41 29 0) 41 3 = c_25 41 3 := (up_n (ni rfl))
        have h_37 : (up c_25 41 29 0) 41 4 = c_25 41 4 := (up_n (ni rfl))
        have h_38 : (up c_25 41 29 0) 41 29 = 0 := (up_e rfl)
        have h_39 : (up c_25 41 29 0) 41 7 = c_25 41 7 := (up_n (ni rfl))
        obtain ⟨hW_40, hN_41⟩ := nw_zero (c := up c_25 41 29 0) ((up_e rfl))
        refine v_cv c_177_51 km_8_251 rfl rfl (Nat.le_of_ble_eq_true rfl) ⟨⟨rfl, rfl⟩, Nat.le_of_ble_eq_true rfl, rfl⟩ (Nat.le_of_ble_eq_true rfl) (Nat.le_of_ble_eq_true rfl) (r_174 (o := 0) hI_34 (show 0 ≤ 0 ∧ 0 ≤ 6 from by omega) hW_40 ((q_6d0a553af h_28 h_32)) ((q_aa9195485 h_28 h_30)) ((q_27d6a8614 h_17 h_28)) ((q_1dc94a4e9 h_31)) ((q_c5aecebbc h_28 h_33)) (fun c_42 hI_43 hF_44 hW_45 h_46 h_47 h_48 h_49 h_50 => (bk_inl ?_)))
        have h_51 := ir_41_4 hI_43
        have h_52 := ir_41_7 hI_43
        have h_53 := ir_41_29 hI_43
        have h_54 := ir_41_5 hI_43
        refine q_aload_n c_177_54 rfl (v_cv c_177_55 km_8_131 rfl rfl (Nat.le_of_ble_eq_true rfl) ⟨⟨rfl, rfl⟩, Nat.le_of_ble_eq_true rfl, rfl⟩ (Nat.le_of_ble_eq_true rfl) (Nat.le_of_ble_eq_true rfl) (q_aload_n c_152_0 rfl (v_gi (z := 5) (v := c_42 41 5) c_152_1 kf_8_102 rfl (Nat.le_of_ble_eq_true rfl) rfl rfl rfl (q_iconst c_152_4 ?_))))
        by_cases h_55 : c_42 41 5 ≠ (-1)
        · refine v_ic_ne_t (t := 12) c_152_5 rfl ⟨h_55, ⟨(lel h_54.1 rfl), (ler h_54.2 rfl)⟩, of_decide_eq_true rfl, of_decide_eq_true rfl⟩ (q_iconst c_152_12 (v_zret c_152_13 rfl (of_decide_eq_true rfl) (bk_inl (v_if_eq_t (t := 77) c_177_58 rfl (of_decide_eq_true rfl) (q_aload_n c_177_77 rfl (q_iconst c_177_78 (v_cv c_177_79 km_8_232 rfl rfl (Nat.le_of_ble_eq_true rfl) ⟨⟨rfl, rfl⟩, Nat.le_of_ble_eq_true rfl, rfl⟩ (Nat.le_of_ble_eq_true rfl) (Nat.le_of_ble_eq_true rfl) (s_164 (a1 := 1) hI_43 (show (-2147483648) ≤ 1 ∧ 1 ≤ 2147483647 from ⟨of_decide_eq_true rfl, of_decide_eq_true rfl⟩) (fun c_56 y_59 hI_57 hF_58 hy_59 => ?_)))))))))
          refine bk_inl (q_istore_n c_177_82 (Nat.le_of_ble_eq_true rfl) (q_aload_n c_177_83 rfl ?_))
          have kn_60 : Hid (c_56 41 5 = c_42 41 5) := hF_58 41 5 (fun h => absurd h.2 (ni rfl))
          refine v_gi (z := 5) (v := c_42 41 5) c_177_84 kf_8_102 rfl (Nat.le_of_ble_eq_true rfl) rfl rfl (hid kn_60) (q_iconst c_177_87 (v_ic_eq_f (t := 93) c_177_88 rfl ⟨(q_bd023a79f h_54 h_55), ⟨(lel h_54.1 rfl), (ler h_54.2 rfl)⟩, of_decide_eq_true rfl, of_decide_eq_true rfl⟩ (q_iload_n c_177_91 rfl (q_iret c_177_92 rfl ?_))))
          have kn_61 : Hid (c_42 41 2 = c_25 41 2) := (hF_44 41 2 qn_6ef24e77f).trans (up_n (ni rfl))
          have kn_62 : Hid (c_56 41 2 = c_25 41 2) := (hF_58 41 2 (fun h => absurd h.2 (ni rfl))).trans (hid kn_61)
          have h_63 : c_56 41 2 = c_25 41 2 := (hid kn_62)
          exact K c_56 y_59 hI_57 (fun a j hm => (hF_58 a j (qv_1661f12fc hm)).trans ((hF_44 a j (qv_64dbd55b6 hm)).trans ((up_b (Decidable.or_iff_not_imp_left.mpr (fun h1 h2 => hm (Or.inr (Or.inr (Or.inr (Or.inr (Or.inr (Or.inr (Or.inr (Or.inr (Or.inr (Or.inl ⟨Decidable.not_not.mp h1, h2⟩))))))))))))).trans ((hF_27 a j (qv_514f8c9e5 hm)).trans (up_b (Decidable.or_iff_not_imp_left.mpr (fun h1 h2 => hm (Or.inl ⟨Decidable.not_not.mp h1, h2⟩)))))))) hy_59 (Or.inl ⟨(q_59baff7b3 h_28 h_29), (q_720657ba9 h_1), (q_0325d56da h_10), (q_803e7bd5f h_17)⟩)
        · refine v_ic_ne_f (t := 12) c_152_5 rfl (Decidable.not_not.mp h_55) (q_iconst c_152_8 (q_goto (t := 13) c_152_9 rfl (v_zret c_152_13 rfl (of_decide_eq_true rfl) (bk_inl (v_if_eq_f (t := 77) c_177_58 rfl (of_decide_eq_true rfl) (q_aload_n c_177_61 rfl ?_))))))
          have kn_64 : Hid (c_42 41 3 = c_25 41 3) := (hF_44 41 3 qn_d31ba9b5e).trans (up_n (ni rfl))
          have h_65 : c_42 41 3 = c_25 41 3 := (hid kn_64)
          refine v_cv c_177_62 km_8_211 rfl rfl (Nat.le_of_ble_eq_true rfl) ⟨⟨rfl, rfl⟩, Nat.le_of_ble_eq_true rfl, rfl⟩ (Nat.le_of_ble_eq_true rfl) (Nat.le_of_ble_eq_true rfl) (s_162 hI_43 (fun c_66 y_69 hI_67 hF_68 hy_69 h_70 h_71 h_72 => (bk_inl ?_)))
          have h_73 := ir_41_4 hI_67
          by_cases h_74 : y_69 = 0
          · refine v_if_eq_t (t := 77) c_177_65 rfl h_74 (q_aload_n c_177_77 rfl (q_iconst c_177_78 (v_cv c_177_79 km_8_232 rfl rfl (Nat.le_of_ble_eq_true rfl) ⟨⟨rfl, rfl⟩, Nat.le_of_ble_eq_true rfl, rfl⟩ (Nat.le_of_ble_eq_true rfl) (Nat.le_of_ble_eq_true rfl) (s_164 (a1 := 1) hI_67 (show (-2147483648) ≤ 1 ∧ 1 ≤ 2147483647 from ⟨of_decide_eq_true rfl, of_decide_eq_true rfl⟩) (fun c_75 y_78 hI_76 hF_77 hy_78 => (bk_inl (q_istore_n c_177_82 (Nat.le_of_ble_eq_true rfl) (q_aload_n c_177_83 rfl ?_))))))))
            have kn_79 : Hid (c_66 41 5 = c_42 41 5) := hF_68 41 5 (fun h => absurd h.2 (ni rfl))
            have kn_80 : Hid (c_75 41 5 = c_42 41 5) := (hF_77 41 5 (fun h => absurd h.2 (ni rfl))).trans (hid kn_79)
            refine v_gi (z := 5) (v := c_42 41 5) c_177_84 kf_8_102 rfl (Nat.le_of_ble_eq_true rfl) rfl rfl (hid kn_80) (q_iconst c_177_87 (v_ic_eq_t (t := 93) c_177_88 rfl ((q_65c5ff97d h_54 h_55)) (q_aload_n c_177_93 rfl (q_aload_n c_177_94 rfl ?_))))
            have kn_81 : Hid (c_66 41 29 = c_42 41 29) := hF_68 41 29 (fun h => absurd h.2 (ni rfl))
            have kn_82 : Hid (c_75 41 29 = c_42 41 29) := (hF_77 41 29 (fun h => absurd h.2 (ni rfl))).trans (hid kn_81)
            refine v_gi (z := 29) (v := c_42 41 29) c_177_95 kf_8_236 rfl (Nat.le_of_ble_eq_true rfl) rfl rfl (hid kn_82) (v_pi (z := 30) c_177_98 kf_8_173 rfl (Nat.le_of_ble_eq_true rfl) rfl rfl rfl (of_decide_eq_true rfl) (q_aload_n c_177_101 rfl (q_aload_n c_177_102 rfl (v_gr (t := 50) c_177_103 kf_8_41 rfl (Nat.le_of_ble_eq_true rfl) rfl (q_aload_n c_177_106 rfl (v_gr (t := 52) c_177_107 kf_8_47 rfl (Nat.le_of_ble_eq_true rfl) rfl (q_aload_n c_177_110 rfl ?_)))))))
            refine v_gi (z := 29) (v := c_42 41 29) c_177_111 kf_8_236 rfl (Nat.le_of_ble_eq_true rfl) rfl rfl ((up_n (ni rfl)).trans (hid kn_82)) ?_
            obtain ⟨hW_83, hN_84⟩ : Nw c_75 ∧ Nh c_75 = Nh c_42 := nh_fr hW_45 (fun j => (hF_77 50 j (fun h => absurd h.1 (nn rfl))).trans (hF_68 50 j (fun h => absurd h.1 (nn rfl)))) (fun j => (hF_77 51 j (fun h => absurd h.1 (nn rfl))).trans (hF_68 51 j (fun h => absurd h.1 (nn rfl)))) ((hF_77 41 29 (fun h => absurd h.2 (ni rfl))).trans (hF_68 41 29 (fun h => absurd h.2 (ni rfl))))
            refine v_cv c_177_114 km_8_169 rfl rfl (Nat.le_of_ble_eq_true rfl) ⟨⟨rfl, rfl⟩, Nat.le_of_ble_eq_true rfl, rfl⟩ (Nat.le_of_ble_eq_true rfl) (Nat.le_of_ble_eq_true rfl) (s_148 (f := 50) (t := 52) (nf := 150) (nt := 150) (n := c_42 41 29) rfl rfl (of_decide_eq_true rfl) (of_decide_eq_true rfl) (of_decide_eq_true rfl) (of_decide_eq_true rfl) (of_decide_eq_true rfl) (by omega) (bk_inl (q_aload_n c_177_117 rfl (q_aload_n c_177_118 rfl (v_gr (t := 51) c_177_119 kf_8_44 rfl (Nat.le_of_ble_eq_true rfl) rfl (q_aload_n c_177_122 rfl (v_gr (t := 53) c_177_123 kf_8_50 rfl (Nat.le_of_ble_eq_true rfl) rfl (q_aload_n c_177_126 rfl ?_))))))))
            refine v_gi (z := 29) (v := c_42 41 29) c_177_127 kf_8_236 rfl (Nat.le_of_ble_eq_true rfl) rfl rfl ((upc_c (by omega)).trans ((up_n (ni rfl)).trans (hid kn_82))) (v_cv c_177_130 km_8_169 rfl rfl (Nat.le_of_ble_eq_true rfl) ⟨⟨rfl, rfl⟩, Nat.le_of_ble_eq_true rfl, rfl⟩ (Nat.le_of_ble_eq_true rfl) (Nat.le_of_ble_eq_true rfl) (s_148 (f := 51) (t := 53) (nf := 150) (nt := 150) (n := c_42 41 29) rfl rfl (of_decide_eq_true rfl) (of_decide_eq_true rfl) (of_decide_eq_true rfl) (of_decide_eq_true rfl) (of_decide_eq_true rfl) (by omega) (bk_inl (q_iload_n c_177_133 rfl (q_iret c_177_134 rfl ?_)))))
            have hI_85 : Iv u e P Q (upc (upc (up c_75 41 30 (c_42 41 29)) 50 0 52 0 (c_42 41 29)) 51 0 53 0 (c_42 41 29)) := iv_law (n := c_42 41 29) hI_76 hW_83 (show c_75 41 29 = c_42 41 29 from (hid kn_82)) (by omega)
            have kn_86 : Hid (c_42 41 2 = c_25 41 2) := (hF_44 41 2 qn_6ef24e77f).trans (up_n (ni rfl))
            have kn_87 : Hid (c_66 41 2 = c_25 41 2) := (hF_68 41 2 (fun h => absurd h.2 (ni rfl))).trans (hid kn_86)
            have kn_88 : Hid (c_75 41 2 = c_25 41 2) := (hF_77 41 2 (fun h => absurd h.2 (ni rfl))).trans (hid kn_87)
            have h_89 : (upc (upc (up c_75 41 30 (c_42 41 29)) 50 0 52 0 (c_42 41 29)) 51 0 53 0 (c_42 41 29)) 41 2 = c_25 41 2 := ((upc_c (by omega)).trans ((upc_c (by omega)).trans ((up_n (ni rfl)).trans (hid kn_88))))
            exact K (upc (upc (up c_75 41 30 (c_42 41 29)) 50 0 52 0 (c_42 41 29)) 51 0 53 0 (c_42 41 29)) y_78 hI_85 (fun a j hm => (upc_c (fun h => hm (Or.inr (Or.inr (Or.inr (Or.inr (Or.inr (Or.inr (Or.inr (Or.inr (Or.inr (Or.inr (Or.inr (Or.inr (Or.inr (Or.inr h)))))))))))))))).trans ((upc_c (fun h => hm (Or.inr (Or.inr (Or.inr (Or.inr (Or.inr (Or.inr (Or.inr (Or.inr (Or.inr (Or.inr (Or.inr (Or.inr (Or.inr (Or.inl h)))))))))))))))).trans ((up_b (Decidable.or_iff_not_imp_left.mpr (fun h1 h2 => hm (Or.inr (Or.inr (Or.inr (Or.inr (Or.inr (Or.inr (Or.inr (Or.inr (Or.inr (Or.inr (Or.inl ⟨Decidable.not_not.mp h1, h2⟩)))))))))))))).trans ((hF_77 a j (qv_1661f12fc hm)).trans ((hF_68 a j (fun h => hm (Or.inr (Or.inr (Or.inr (Or.inr (Or.inl h))))))).trans ((hF_44 a j (qv_64dbd55b6 hm)).trans ((up_b (Decidable.or_iff_not_imp_left.mpr (fun h1 h2 => hm (Or.inr (Or.inr (Or.inr (Or.inr (Or.inr (Or.inr (Or.inr (Or.inr (Or.inr (Or.inl ⟨Decidable.not_not.mp h1, h2⟩))))))))))))).trans ((hF_27 a j (qv_514f8c9e5 hm)).trans (up_b (Decidable.or_iff_not_imp_left.mpr (fun h1 h2 => hm (Or.inl ⟨Decidable.not_not.mp h1, h2⟩)))))))))))) hy_78 (Or.inl ⟨(q_59baff7b3 h_28 h_29), (q_720657ba9 h_1), (q_0325d56da h_10), (q_803e7bd5f h_17)⟩)
          · refine v_if_eq_f (t := 77) c_177_65 rfl ⟨h_74, ⟨(lel hy_69.1 rfl), (ler hy_69.2 rfl)⟩, of_decide_eq_true rfl, of_decide_eq_true rfl⟩ (q_aload_n c_177_68 rfl (q_iconst c_177_69 (q_aload_n c_177_70 rfl (v_gi (z := 4) (v := c_66 41 4) c_177_71 kf_8_108 rfl (Nat.le_of_ble_eq_true rfl) rfl rfl rfl (v_cv c_177_74 km_8_138 rfl rfl (Nat.le_of_ble_eq_true rfl) ⟨⟨rfl, rfl⟩, Nat.le_of_ble_eq_true rfl, rfl⟩ (Nat.le_of_ble_eq_true rfl) (Nat.le_of_ble_eq_true rfl) (s_153 (a1 := 1) (a2 := c_66 41 4) hI_67 (show 1 ≤ 1 ∧ 1 ≤ 3 from ⟨of_decide_eq_true rfl, of_decide_eq_true rfl⟩) (show 0 ≤ c_66 41 4 ∧ c_66 41 4 ≤ 605 from h_73) (fun c_90 hI_91 hF_92 h_93 => (bk_inl ?_))))))))
            have h_94 := ir_41_5 hI_91
            refine q_aload_n c_177_77 rfl (q_iconst c_177_78 (v_cv c_177_79 km_8_232 rfl rfl (Nat.le_of_ble_eq_true rfl) ⟨⟨rfl, rfl⟩, Nat.le_of_ble_eq_true rfl, rfl⟩ (Nat.le_of_ble_eq_true rfl) (Nat.le_of_ble_eq_true rfl) (s_164 (a1 := 1) hI_91 (show (-2147483648) ≤ 1 ∧ 1 ≤ 2147483647 from ⟨of_decide_eq_true rfl, of_decide_eq_true rfl⟩) (fun c_95 y_98 hI_96 hF_97 hy_98 => (bk_inl (q_istore_n c_177_82 (Nat.le_of_ble_eq_true rfl) (q_aload_n c_177_83 rfl ?_)))))))
            have kn_99 : Hid (c_95 41 5 = c_90 41 5) := hF_97 41 5 (fun h => absurd h.2 (ni rfl))
            refine v_gi (z := 5) (v := c_90 41 5) c_177_84 kf_8_102 rfl (Nat.le_of_ble_eq_true rfl) rfl rfl (hid kn_99) (q_iconst c_177_87 (v_ic_eq_f (t := 93) c_177_88 rfl ⟨(q_e869299d0 h_93 h_94), ⟨(lel h_94.1 rfl), (ler h_94.2 rfl)⟩, of_decide_eq_true rfl, of_decide_eq_true rfl⟩ (q_iload_n c_177_91 rfl (q_iret c_177_92 rfl ?_))))
            have kn_100 : Hid (c_42 41 2 = c_25 41 2) := (hF_44 41 2 qn_6ef24e77f).trans (up_n (ni rfl))
            have kn_101 : Hid (c_66 41 2 = c_25 41 2) := (hF_68 41 2 (fun h => absurd h.2 (ni rfl))).trans (hid kn_100)
            have kn_102 : Hid (c_90 41 2 = c_25 41 2) := (hF_92 41 2 (fun q => q.elim (fun h => absurd h.2 (ni rfl)) (fun h => absurd h.2 (ni rfl)))).trans (hid kn_101)
            have kn_103 : Hid (c_95 41 2 = c_25 41 2) := (hF_97 41 2 (fun h => absurd h.2 (ni rfl))).trans (hid kn_102)
            have h_104 : c_95 41 2 = c_25 41 2 := (hid kn_103)
            exact K c_95 y_98 hI_96 (fun a j hm => (hF_97 a j (qv_1661f12fc hm)).trans ((hF_92 a j (qv_40204bf00 hm)).trans ((hF_68 a j (fun h => hm (Or.inr (Or.inr (Or.inr (Or.inr (Or.inl h))))))).trans ((hF_44 a j (qv_64dbd55b6 hm)).trans ((up_b (Decidable.or_iff_not_imp_left.mpr (fun h1 h2 => hm (Or.inr (Or.inr (Or.inr (Or.inr (Or.inr (Or.inr (Or.inr (Or.inr (Or.inr (Or.inl ⟨Decidable.not_not.mp h1, h2⟩))))))))))))).trans ((hF_27 a j (qv_514f8c9e5 hm)).trans (up_b (Decidable.or_iff_not_imp_left.mpr (fun h1 h2 => hm (Or.inl ⟨Decidable.not_not.mp h1, h2⟩)))))))))) hy_98 (Or.inl ⟨(q_59baff7b3 h_28 h_29), (q_720657ba9 h_1), (q_0325d56da h_10), (q_803e7bd5f h_17)⟩)

set_option maxRecDepth 100000 in
set_option maxHeartbeats 4000000 in
theorem s_178 {sc : List Int32} {e : Int} {d u P Q : Nat} {c : ME} {a0 : Int} {a1 : Int} {a2 : Int} {Z : AR → Prop} (hI : Iv u e P Q c) (ha0 : (-2147483648) ≤ a0 ∧ a0 ≤ 2147483647) (ha1 : (-2147483648) ≤ a1 ∧ a1 ≤ 2147483647) (ha2 : (-2147483648) ≤ a2 ∧ a2 ≤ 2147483647) (K : ∀ (y : Int), (-2147483648) ≤ y ∧ y ≤ 2147483647 → Z (.inl (some (vi y)), Wd P Q P P c, 0, 0)) : Wp sc (d + 7) 178 0 [(0, vi a0), (1, vi a1), (2, vi a2)] [] (Wd P Q P P c) 0 0 Z := by
  have hP := iv_P hI
  have hQ := iv_Q hI
  refine q_iload_n c_178_0 rfl (q_iconst c_178_1 ?_)
  by_cases h_1 : a0 ≠ 2
  · refine v_ic_ne_t (t := 9) c_178_2 rfl ⟨h_1, ⟨ha0.1, ha0.2⟩, of_decide_eq_true rfl, of_decide_eq_true rfl⟩ (q_iload_n c_178_9 rfl (q_iconst c_178_10 ?_))
    by_cases h_2 : a0 ≠ 3
    · refine v_ic_ne_t (t := 18) c_178_11 rfl ⟨h_2, ⟨ha0.1, ha0.2⟩, of_decide_eq_true rfl, of_decide_eq_true rfl⟩ (q_iload_n c_178_18 rfl (q_iconst c_178_19 ?_))
      by_cases h_3 : a0 ≠ 4
      · refine v_ic_ne_t (t := 27) c_178_20 rfl ⟨h_3, ⟨ha0.1, ha0.2⟩, of_decide_eq_true rfl, of_decide_eq_true rfl⟩ (q_iload_n c_178_27 rfl (q_iconst c_178_28 ?_))
        by_cases h_4 : a0 = 5
        · refine v_ic_eq_t (t := 38) c_178_29 rfl h_4 (q_iload_n c_178_38 rfl ?_)
          by_cases h_5 : a2 ≠ 0
          · refine v_if_ne_t (t := 46) c_178_39 rfl ⟨h_5, ⟨ha2.1, ha2.2⟩, of_decide_eq_true rfl, of_decide_eq_true rfl⟩ (q_iload_n c_178_46 rfl (q_iconst c_178_47 (v_ic_ne_f (t := 57) c_178_48 rfl ((q_6948128fc h_4)) (q_iload_n c_178_51 rfl (q_iload_n c_178_52 rfl (v_idivx c_178_53 ⟨by omega, by omega, by omega⟩ (fun y_6 hy_6 => (q_goto (t := 60) c_178_54 rfl ?_))))))))
            refine q_iret c_178_60 rfl ?_
            exact K y_6 hy_6
          · refine v_if_ne_f (t := 46) c_178_39 rfl (Decidable.not_not.mp h_5) (q_iconst c_178_42 (q_goto (t := 60) c_178_43 rfl (q_iret c_178_60 rfl ?_)))
            exact K 0 ⟨of_decide_eq_true rfl, of_decide_eq_true rfl⟩
        · refine v_ic_eq_f (t := 38) c_178_29 rfl ⟨h_4, ⟨ha0.1, ha0.2⟩, of_decide_eq_true rfl, of_decide_eq_true rfl⟩ (q_iload_n c_178_32 rfl (v_bip c_178_33 (of_decide_eq_true rfl) ?_))
          by_cases h_7 : a0 ≠ 8
          · refine v_ic_ne_t (t := 61) c_178_35 rfl ⟨h_7, ⟨ha0.1, ha0.2⟩, of_decide_eq_true rfl, of_decide_eq_true rfl⟩ (q_iload_n c_178_61 rfl (q_iload_n c_178_62 rfl ?_))
            by_cases h_8 : a1 ≥ a2
            · refine v_ic_ge_t (t := 70) c_178_63 rfl ⟨ha2.1, h_8, ha1.2⟩ (q_iconst c_178_70 (q_iload_n c_178_71 rfl (v_bip c_178_72 (of_decide_eq_true rfl) ?_)))
              by_cases h_9 : a0 ≠ 6
              · refine v_ic_ne_t (t := 81) c_178_74 rfl ⟨h_9, ⟨ha0.1, ha0.2⟩, of_decide_eq_true rfl, of_decide_eq_true rfl⟩ (q_iconst c_178_81 (v_ic_ne_f (t := 89) c_178_82 rfl (of_decide_eq_true rfl) (q_iload_n c_178_85 rfl (q_goto (t := 90) c_178_86 rfl (q_iret c_178_90 rfl ?_)))))
                exact K a1 ha1
              · refine v_ic_ne_f (t := 81) c_178_74 rfl (Decidable.not_not.mp h_9) (q_iconst c_178_77 (q_goto (t := 82) c_178_78 rfl (v_ic_ne_t (t := 89) c_178_82 rfl (of_decide_eq_true rfl) (q_iload_n c_178_89 rfl (q_iret c_178_90 rfl ?_)))))
                exact K a2 ha2
            · refine v_ic_ge_f (t := 70) c_178_63 rfl ⟨ha1.1, (Int.not_le.mp h_8), ha2.2⟩ (q_iconst c_178_66 (q_goto (t := 71) c_178_67 rfl (q_iload_n c_178_71 rfl (v_bip c_178_72 (of_decide_eq_true rfl) ?_))))
              by_cases h_10 : a0 ≠ 6
              · refine v_ic_ne_t (t := 81) c_178_74 rfl ⟨h_10, ⟨ha0.1, ha0.2⟩, of_decide_eq_true rfl, of_decide_eq_true rfl⟩ (q_iconst c_178_81 (v_ic_ne_t (t := 89) c_178_82 rfl (of_decide_eq_true rfl) (q_iload_n c_178_89 rfl (q_iret c_178_90 rfl ?_))))
                exact K a2 ha2
              · refine v_ic_ne_f (t := 81) c_178_74 rfl (Decidable.not_not.mp h_10) (q_iconst c_178_77 (q_goto (t := 82) c_178_78 rfl (v_ic_ne_f (t := 89) c_178_82 rfl (of_decide_eq_true rfl) (q_iload_n c_178_85 rfl (q_goto (t := 90) c_178_86 rfl (q_iret c_178_90 rfl ?_))))))
                exact K a1 ha1
          · refine v_ic_ne_f (t := 61) c_178_35 rfl (Decidable.not_not.mp h_7) (q_iload_n c_178_38 rfl ?_)
            by_cases h_11 : a2 ≠ 0
            · refine v_if_ne_t (t := 46) c_178_39 rfl ⟨h_11, ⟨ha2.1, ha2.2⟩, of_decide_eq_true rfl, of_decide_eq_true rfl⟩ (q_iload_n c_178_46 rfl (q_iconst c_178_47 (v_ic_ne_t (t := 57) c_178_48 rfl ⟨(q_655701c1c h_7), ⟨ha0.1, ha0.2⟩, of_decide_eq_true rfl, of_decide_eq_true rfl⟩ (q_iload_n c_178_57 rfl (q_iload_n c_178_58 rfl (v_iremx c_178_59 ⟨by omega, by omega, by omega⟩ (fun y_12 hy_12 => (q_iret c_178_60 rfl ?_))))))))
              exact K y_12 hy_12
            · refine v_if_ne_f (t := 46) c_178_39 rfl (Decidable.not_not.mp h_11) (q_iconst c_178_42 (q_goto (t := 60) c_178_43 rfl (q_iret c_178_60 rfl ?_)))
              exact K 0 ⟨of_decide_eq_true rfl, of_decide_eq_true rfl⟩
      · refine v_ic_ne_f (t := 27) c_178_20 rfl (Decidable.not_not.mp h_3) (q_iload_n c_178_23 rfl (q_iload_n c_178_24 rfl (v_imul (v := (a1 * a2)) c_178_25 rfl (v_nrm (fun y_13 hy_13 => (q_iret c_178_26 rfl ?_))))))
        exact K y_13 hy_13
    · refine v_ic_ne_f (t := 18) c_178_11 rfl (Decidable.not_not.mp h_2) (q_iload_n c_178_14 rfl (q_iload_n c_178_15 rfl (v_isub (v := a1 - a2) c_178_16 rfl (v_nrm (fun y_14 hy_14 => (q_iret c_178_17 rfl ?_))))))
      exact K y_14 hy_14
  · refine v_ic_ne_f (t := 9) c_178_2 rfl (Decidable.not_not.mp h_1) (q_iload_n c_178_5 rfl (q_iload_n c_178_6 rfl (v_iadd (v := a1 + a2) c_178_7 rfl (v_nrm (fun y_15 hy_15 => (q_iret c_178_8 rfl ?_))))))
    exact K y_15 hy_15

set_option maxRecDepth 100000 in
set_option maxHeartbeats 4000000 in
theorem s_179_l {sc : List Int32} {e : Int} {d u P Q : Nat} {c : ME} {Z : AR → Prop} (hI : Iv u e P Q c)  (K : ∀ (c2 : ME) (y : Int), Iv u e P Q c2 → (∀ (a : Nat) (j : Int), ¬ (a = 54) → c2 a j = c a j) → (-2147483648) ≤ y ∧ y ≤ 2147483647 → Z (.inl (some (vi y)), Wd P Q P P c2, 0, 0)) : ∀ n : Nat, (∀ (c2 : ME) (v1 : Int) (v2 : Int), Iv u e P Q c2 → (∀ (a : Nat) (j : Int), ¬ (a = 54) → c2 a j = c a j) → 0 ≤ v1 ∧ v1 ≤ 150 → 0 ≤ v2 ∧ v2 ≤ 150 → ((v1 ≤ v2)) → (v1 = hgt (c 52) v2.toNat) → 301 - 2 * v2 < (n : Int) → Wp sc (d + 8) 179 4 [(0, .ref 41), (1, vi v1), (2, vi v2)] [] (Wd P Q P P c2) 0 0 Z) := by
  intro n
  induction n with
  | zero => exact (by intro c2 v1 v2 hI2 hF hv1 hv2 hx0 hx1 hm9; have hP := iv_P hI; have hQ := iv_Q hI; exfalso; omega)
  | succ n ih =>
    have hP := iv_P hI
    have hQ := iv_Q hI
    intro c2 v1 v2 hI2 hF hv1 hv2 hx0 hx1 hm9
    have h_1 := ir_52 hI v2
    have h_2 := ir_53 hI v2
    have h_3 := ir_41_30 hI
    have hh1 := ir_hc hI (k := v2) (by omega)
    have hh2 := hgt_s (f := c 52) (k := v2) (by omega)
    refine q_iload_n c_179_4 rfl (q_aload_n c_179_5 rfl ?_)
    have kn_4 : Hid (c2 41 30 = c 41 30) := hF 41 30 (fun h => absurd h (nn rfl))
    refine v_gi (z := 30) (v := c 41 30) c_179_6 kf_8_173 rfl (Nat.le_of_ble_eq_true rfl) rfl rfl (hid kn_4) ?_
    by_cases h_5 : v2 ≥ c 41 30
    · refine v_ic_ge_t (t := 95) c_179_9 rfl ⟨(lel h_3.1 rfl), h_5, (ler hv2.2 rfl)⟩ (q_aload_n c_179_95 rfl (v_gr (t := 54) c_179_96 kf_8_53 rfl (Nat.le_of_ble_eq_true rfl) rfl (q_iconst c_179_99 ?_)))
      have h_6 := ir_54 hI2 0
      refine v_ia (v := c2 54 0) c_179_100 rfl (of_decide_eq_true rfl) (of_decide_eq_true rfl) (of_decide_eq_true rfl) rfl (q_iret c_179_101 rfl ?_)
      exact K c2 (c2 54 0) hI2 (fun a j hm => hF a j hm) h_6
    · refine v_ic_ge_f (t := 95) c_179_9 rfl ⟨(lel hv2.1 rfl), (Int.not_le.mp h_5), (ler h_3.2 rfl)⟩ (q_aload_n c_179_12 rfl (v_gr (t := 52) c_179_13 kf_8_47 rfl (Nat.le_of_ble_eq_true rfl) rfl (q_iload_n c_179_16 rfl ?_)))
      have kn_7 : Hid (c2 52 v2 = c 52 v2) := hF 52 v2 (fun h => absurd h (nn rfl))
      refine v_ia (v := c 52 v2) c_179_17 rfl (of_decide_eq_true rfl) (of_decide_eq_true rfl) ⟨hv2.1, (q_8d9392337 h_3 h_5)⟩ (hid kn_7) (q_istore_n c_179_18 (Nat.le_of_ble_eq_true rfl) (q_iload_n c_179_19 rfl (q_iconst c_179_20 ?_)))
      by_cases h_8 : c 52 v2 > 1
      · refine v_ic_gt_t (t := 60) c_179_21 rfl ⟨of_decide_eq_true rfl, h_8, (ler h_1.2 rfl)⟩ (v_iinc (v := v1 - 1) c_179_60 rfl (Nat.le_of_ble_eq_true rfl) (by first | (clear hv1 hv2 hx0 h_1 h_2 h_3 h_5 h_8 hh2; omega) | omega) (q_aload_n c_179_63 rfl (v_gr (t := 54) c_179_64 kf_8_53 rfl (Nat.le_of_ble_eq_true rfl) rfl (q_iload_n c_179_67 rfl (q_iconst c_179_68 (v_isub (v := v1 - 2) c_179_69 (by first | (clear hv1 hv2 hx0 h_1 h_2 h_3 h_5 h_8 hh2; omega) | omega) (q_iload_n c_179_70 rfl ?_)))))))
        refine q_aload_n c_179_71 rfl (v_gr (t := 54) c_179_72 kf_8_53 rfl (Nat.le_of_ble_eq_true rfl) rfl (q_iload_n c_179_75 rfl (q_iconst c_179_76 (v_isub (v := v1 - 2) c_179_77 (by first | (clear hv1 hv2 hx0 h_1 h_2 h_3 h_5 h_8 hh2; omega) | omega) ?_))))
        have h_9 := ir_54 hI2 (v1 - 2)
        refine v_ia (v := c2 54 (v1 - 2)) c_179_78 rfl (of_decide_eq_true rfl) (of_decide_eq_true rfl) ⟨by omega, (q_2d3808a94 hv1)⟩ rfl (q_aload_n c_179_79 rfl (v_gr (t := 54) c_179_80 kf_8_53 rfl (Nat.le_of_ble_eq_true rfl) rfl (q_iload_n c_179_83 rfl ?_)))
        have h_10 := ir_54 hI2 (v1 - 1)
        refine v_ia (v := c2 54 (v1 - 1)) c_179_84 rfl (of_decide_eq_true rfl) (of_decide_eq_true rfl) ⟨by omega, (q_8528fcf54 hv1)⟩ rfl (q_call c_179_85 rfl rfl rfl (s_178 (a0 := c 52 v2) (a1 := c2 54 (v1 - 2)) (a2 := c2 54 (v1 - 1)) hI2 (show (-2147483648) ≤ c 52 v2 ∧ c 52 v2 ≤ 2147483647 from ⟨(lel h_1.1 rfl), (ler h_1.2 rfl)⟩) (show (-2147483648) ≤ c2 54 (v1 - 2) ∧ c2 54 (v1 - 2) ≤ 2147483647 from h_9) (show (-2147483648) ≤ c2 54 (v1 - 1) ∧ c2 54 (v1 - 1) ≤ 2147483647 from h_10) (fun y_11 hy_11 => (bk_inl (v_is c_179_88 rfl (of_decide_eq_true rfl) (of_decide_eq_true rfl) ⟨by omega, (q_2d3808a94 hv1)⟩ (v_iinc (v := v2 + 1) c_179_89 rfl (Nat.le_of_ble_eq_true rfl) rfl (q_goto (t := 4) c_179_92 rfl ?_)))))))
        have hI_12 := iw_54 (j := v1 - 2) (v := y_11) hI2 ⟨hy_11.1, hy_11.2⟩
        refine Wp_ls [(0, .ref 41), (1, vi (v1 - 1)), (2, vi (v2 + 1))] (lsub_cons rfl (lsub_cons rfl (lsub_cons rfl lsub_nil))) ?_
        exact ih (up c2 54 (v1 - 2) y_11) (v1 - 1) (v2 + 1) hI_12 (fun a j hm => (up_b (Decidable.or_iff_not_imp_left.mpr (fun h1 h2 => hm (Decidable.not_not.mp h1)))).trans (hF a j hm)) ⟨by omega, (rgm_h hv1.2 (of_decide_eq_true rfl))⟩ ⟨(rgp_l hv2.1 (of_decide_eq_true rfl)), (q_b47906294 h_3 h_5)⟩ (by first | (clear hv1 hv2 h_1 h_2 h_3 h_5 h_8 h_9 h_10 hh2; omega) | omega) (by omega) (by omega)
      · refine v_ic_gt_f (t := 60) c_179_21 rfl ⟨(lel h_1.1 rfl), (Int.not_lt.mp h_8), of_decide_eq_true rfl⟩ (q_aload_n c_179_24 rfl (v_gr (t := 54) c_179_25 kf_8_53 rfl (Nat.le_of_ble_eq_true rfl) rfl (q_iload_n c_179_28 rfl (q_iload_n c_179_29 rfl ?_))))
        by_cases h_13 : c 52 v2 ≠ 0
        · refine v_if_ne_t (t := 42) c_179_30 rfl ⟨h_13, ⟨(lel h_1.1 rfl), (ler h_1.2 rfl)⟩, of_decide_eq_true rfl, of_decide_eq_true rfl⟩ (q_aload_n c_179_42 rfl (v_gr (t := 55) c_179_43 kf_8_56 rfl (Nat.le_of_ble_eq_true rfl) rfl (q_aload_n c_179_46 rfl (v_gr (t := 53) c_179_47 kf_8_50 rfl (Nat.le_of_ble_eq_true rfl) rfl (q_iload_n c_179_50 rfl ?_)))))
          have kn_14 : Hid (c2 53 v2 = c 53 v2) := hF 53 v2 (fun h => absurd h (nn rfl))
          refine v_ia (v := c 53 v2) c_179_51 rfl (of_decide_eq_true rfl) (of_decide_eq_true rfl) ⟨hv2.1, (q_8d9392337 h_3 h_5)⟩ (hid kn_14) ?_
          have h_15 := ir_55 hI (c 53 v2)
          have kn_16 : Hid (c2 55 (c 53 v2) = c 55 (c 53 v2)) := hF 55 (c 53 v2) (fun h => absurd h (nn rfl))
          refine v_ia (v := c 55 (c 53 v2)) c_179_52 rfl (of_decide_eq_true rfl) (of_decide_eq_true rfl) ⟨h_2.1, by omega⟩ (hid kn_16) (v_is c_179_53 rfl (of_decide_eq_true rfl) (of_decide_eq_true rfl) ⟨hv1.1, by first | (clear hv1 hv2 h_1 h_2 h_8 h_15 hh2 h_13; omega) | omega⟩ (v_iinc (v := v1 + 1) c_179_54 rfl (Nat.le_of_ble_eq_true rfl) rfl (q_goto (t := 89) c_179_57 rfl (v_iinc (v := v2 + 1) c_179_89 rfl (Nat.le_of_ble_eq_true rfl) rfl (q_goto (t := 4) c_179_92 rfl ?_)))))
          have hI_17 := iw_54 (j := v1) (v := c 55 (c 53 v2)) hI2 ⟨(q_cc1935a2a h_15), (q_4e52e4576 h_15)⟩
          refine Wp_ls [(0, .ref 41), (1, vi (v1 + 1)), (2, vi (v2 + 1))] (lsub_cons rfl (lsub_cons rfl (lsub_cons rfl lsub_nil))) ?_
          exact ih (up c2 54 v1 (c 55 (c 53 v2))) (v1 + 1) (v2 + 1) hI_17 (fun a j hm => (up_b (Decidable.or_iff_not_imp_left.mpr (fun h1 h2 => hm (Decidable.not_not.mp h1)))).trans (hF a j hm)) ⟨(rgp_l hv1.1 (of_decide_eq_true rfl)), by first | (clear hv1 hv2 h_1 h_2 h_8 h_15 hh2 h_13; omega) | omega⟩ ⟨(rgp_l hv2.1 (of_decide_eq_true rfl)), (q_b47906294 h_3 h_5)⟩ (by first | (clear hv1 hv2 h_1 h_2 h_3 h_5 h_8 h_15 hh2 h_13; omega) | omega) (by omega) (by omega)
        · refine v_if_ne_f (t := 42) c_179_30 rfl (Decidable.not_not.mp h_13) (q_aload_n c_179_33 rfl (v_gr (t := 53) c_179_34 kf_8_50 rfl (Nat.le_of_ble_eq_true rfl) rfl (q_iload_n c_179_37 rfl ?_)))
          have kn_18 : Hid (c2 53 v2 = c 53 v2) := hF 53 v2 (fun h => absurd h (nn rfl))
          refine v_ia (v := c 53 v2) c_179_38 rfl (of_decide_eq_true rfl) (of_decide_eq_true rfl) ⟨hv2.1, (q_8d9392337 h_3 h_5)⟩ (hid kn_18) (q_goto (t := 53) c_179_39 rfl (v_is c_179_53 rfl (of_decide_eq_true rfl) (of_decide_eq_true rfl) ⟨hv1.1, by first | (clear hv1 hv2 h_1 h_2 h_8 h_13 hh2; omega) | omega⟩ (v_iinc (v := v1 + 1) c_179_54 rfl (Nat.le_of_ble_eq_true rfl) rfl (q_goto (t := 89) c_179_57 rfl (v_iinc (v := v2 + 1) c_179_89 rfl (Nat.le_of_ble_eq_true rfl) rfl (q_goto (t := 4) c_179_92 rfl ?_))))))
          have hI_19 := iw_54 (j := v1) (v := c 53 v2) hI2 ⟨(lel h_2.1 rfl), (ler h_2.2 rfl)⟩
          refine Wp_ls [(0, .ref 41), (1, vi (v1 + 1)), (2, vi (v2 + 1))] (lsub_cons rfl (lsub_cons rfl (lsub_cons rfl lsub_nil))) ?_
          exact ih (up c2 54 v1 (c 53 v2)) (v1 + 1) (v2 + 1) hI_19 (fun a j hm => (up_b (Decidable.or_iff_not_imp_left.mpr (fun h1 h2 => hm (Decidable.not_not.mp h1)))).trans (hF a j hm)) ⟨(rgp_l hv1.1 (of_decide_eq_true rfl)), by first | (clear hv1 hv2 h_1 h_2 h_8 h_13 hh2; omega) | omega⟩ ⟨(rgp_l hv2.1 (of_decide_eq_true rfl)), (q_b47906294 h_3 h_5)⟩ (by first | (clear hv1 hv2 h_1 h_2 h_3 h_5 h_8 h_13 hh2; omega) | omega) (by omega) (by omega)
set_option maxRecDepth 100000 in
set_option maxHeartbeats 4000000 in
theorem s_179 {sc : List Int32} {e : Int} {d u P Q : Nat} {c : ME} {Z : AR → Prop} (hI : Iv u e P Q c)  (K : ∀ (c2 : ME) (y : Int), Iv u e P Q c2 → (∀ (a : Nat) (j : Int), ¬ (a = 54) → c2 a j = c a j) → (-2147483648) ≤ y ∧ y ≤ 2147483647 → Z (.inl (some (vi y)), Wd P Q P P c2, 0, 0)) : Wp sc (d + 8) 179 0 [(0, .ref 41)] [] (Wd P Q P P c) 0 0 Z := by
  have hP := iv_P hI
  have hQ := iv_Q hI
  refine q_iconst c_179_0 (q_istore_n c_179_1 (Nat.le_of_ble_eq_true rfl) (q_iconst c_179_2 (q_istore_n c_179_3 (Nat.le_of_ble_eq_true rfl) (Wp_ls [(0, .ref 41), (1, vi 0), (2, vi 0)] (lsub_cons rfl (lsub_cons rfl (lsub_cons rfl lsub_nil))) ?_))))
  exact (s_179_l (sc := sc) (d := d) hI K 304) c 0 0 hI (fun a j hm => rfl) ⟨of_decide_eq_true rfl, of_decide_eq_true rfl⟩ ⟨of_decide_eq_true rfl, of_decide_eq_true rfl⟩ (by first | decide | omega) (show (0 : Int) = hgt (c 52) 0 from rfl) (by omega)

set_option maxRecDepth 100000 in
set_option maxHeartbeats 4000000 in
theorem s_180 {sc : List Int32} {e : Int} {d u P Q : Nat} {c : ME} {Z : AR → Prop} (hI : Iv u e P Q c) (hq0 : (c 55 4 ≥ 0 ∧ c 55 4 ≤ 39996)) (hq1 : (c 55 0 ≥ 0 ∧ c 55 0 ≤ 9999)) (K : ∀ (c2 : ME) (y : Int), Iv u e P Q c2 → (∀ (a : Nat) (j : Int), ¬ (a = 54) → c2 a j = c a j) → 0 ≤ y ∧ y ≤ 99 → Z (.inl (some (vi y)), Wd P Q P P c2, 0, 0)) : Wp sc (d + 9) 180 0 [(0, .ref 41)] [] (Wd P Q P P c) 0 0 Z := by
  have hP := iv_P hI
  have hQ := iv_Q hI
  have h_1 := ir_55 hI 4
  have h_2 := ir_55 hI 0
  refine q_aload_n c_180_0 rfl ?_
  have h_3 := ir_41_30 hI
  refine v_gi (z := 30) (v := c 41 30) c_180_1 kf_8_173 rfl (Nat.le_of_ble_eq_true rfl) rfl rfl rfl ?_
  by_cases h_4 : c 41 30 ≠ 0
  · refine v_if_ne_t (t := 28) c_180_4 rfl ⟨h_4, ⟨(lel h_3.1 rfl), (ler h_3.2 rfl)⟩, of_decide_eq_true rfl, of_decide_eq_true rfl⟩ (q_aload_n c_180_28 rfl (v_cv c_180_29 km_8_281 rfl rfl (Nat.le_of_ble_eq_true rfl) ⟨⟨rfl, rfl⟩, Nat.le_of_ble_eq_true rfl, rfl⟩ (Nat.le_of_ble_eq_true rfl) (Nat.le_of_ble_eq_true rfl) (s_179 hI (fun c_5 y_8 hI_6 hF_7 hy_8 => (bk_inl (q_istore_n c_180_32 (Nat.le_of_ble_eq_true rfl) (q_iload_n c_180_33 rfl ?_)))))))
    by_cases h_9 : y_8 ≥ 0
    · refine v_if_ge_t (t := 41) c_180_34 rfl ⟨of_decide_eq_true rfl, h_9, hy_8.2⟩ (q_iload_n c_180_41 rfl (v_bip c_180_42 (of_decide_eq_true rfl) ?_))
      by_cases h_10 : y_8 ≤ 99
      · refine v_ic_le_t (t := 52) c_180_44 rfl ⟨hy_8.1, h_10, of_decide_eq_true rfl⟩ (q_iload_n c_180_52 rfl (q_iret c_180_53 rfl ?_))
        exact K c_5 y_8 hI_6 (fun a j hm => hF_7 a j hm) ⟨(q_059235c2c h_9), (q_a6cbc6a20 h_10)⟩
      · refine v_ic_le_f (t := 52) c_180_44 rfl ⟨of_decide_eq_true rfl, (Int.not_le.mp h_10), hy_8.2⟩ (v_bip c_180_47 (of_decide_eq_true rfl) (q_goto (t := 53) c_180_49 rfl (q_iret c_180_53 rfl ?_)))
        exact K c_5 99 hI_6 (fun a j hm => hF_7 a j hm) ⟨of_decide_eq_true rfl, of_decide_eq_true rfl⟩
    · refine v_if_ge_f (t := 41) c_180_34 rfl ⟨hy_8.1, (Int.not_le.mp h_9), of_decide_eq_true rfl⟩ (q_iconst c_180_37 (q_goto (t := 53) c_180_38 rfl (q_iret c_180_53 rfl ?_)))
      exact K c_5 0 hI_6 (fun a j hm => hF_7 a j hm) ⟨of_decide_eq_true rfl, of_decide_eq_true rfl⟩
  · refine v_if_ne_f (t := 28) c_180_4 rfl (Decidable.not_not.mp h_4) (q_aload_n c_180_7 rfl (v_gr (t := 55) c_180_8 kf_8_56 rfl (Nat.le_of_ble_eq_true rfl) rfl (q_iconst c_180_11 (v_ia (v := c 55 0) c_180_12 rfl (of_decide_eq_true rfl) (of_decide_eq_true rfl) (of_decide_eq_true rfl) rfl (v_bip c_180_13 (of_decide_eq_true rfl) (v_imul (v := 90 * c 55 0) c_180_15 (by omega) (q_aload_n c_180_16 rfl ?_)))))))
    refine v_gr (t := 55) c_180_17 kf_8_56 rfl (Nat.le_of_ble_eq_true rfl) rfl (q_iconst c_180_20 (v_ia (v := c 55 4) c_180_21 rfl (of_decide_eq_true rfl) (of_decide_eq_true rfl) (of_decide_eq_true rfl) rfl (q_iconst c_180_22 (v_iadd (v := c 55 4 + 1) c_180_23 rfl (v_idivx c_180_24 ⟨by omega, by omega, by omega⟩ (fun y_11 hy_11 => (q_goto (t := 32) c_180_25 rfl (q_istore_n c_180_32 (Nat.le_of_ble_eq_true rfl) ?_))))))))
    refine q_iload_n c_180_33 rfl ?_
    by_cases h_12 : y_11 ≥ 0
    · refine v_if_ge_t (t := 41) c_180_34 rfl ⟨of_decide_eq_true rfl, h_12, hy_11.2⟩ (q_iload_n c_180_41 rfl (v_bip c_180_42 (of_decide_eq_true rfl) ?_))
      by_cases h_13 : y_11 ≤ 99
      · refine v_ic_le_t (t := 52) c_180_44 rfl ⟨hy_11.1, h_13, of_decide_eq_true rfl⟩ (q_iload_n c_180_52 rfl (q_iret c_180_53 rfl ?_))
        exact K c y_11 hI (fun a j hm => rfl) ⟨(q_059235c2c h_12), (q_a6cbc6a20 h_13)⟩
      · refine v_ic_le_f (t := 52) c_180_44 rfl ⟨of_decide_eq_true rfl, (Int.not_le.mp h_13), hy_11.2⟩ (v_bip c_180_47 (of_decide_eq_true rfl) (q_goto (t := 53) c_180_49 rfl (q_iret c_180_53 rfl ?_)))
        exact K c 99 hI (fun a j hm => rfl) ⟨of_decide_eq_true rfl, of_decide_eq_true rfl⟩
    · refine v_if_ge_f (t := 41) c_180_34 rfl ⟨hy_11.1, (Int.not_le.mp h_12), of_decide_eq_true rfl⟩ (q_iconst c_180_37 (q_goto (t := 53) c_180_38 rfl (q_iret c_180_53 rfl ?_)))
      exact K c 0 hI (fun a j hm => rfl) ⟨of_decide_eq_true rfl, of_decide_eq_true rfl⟩
