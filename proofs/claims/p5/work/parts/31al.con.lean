/-! ===== contracts 6 ===== -/
theorem qn_48a4791f9 {P : Nat} {j : Int} (hP : P = 13 ∨ P = 25) : ¬ ((P = 3 ∧ j = 3) ∨ (P = 3 ∧ j = 4)) := (fun q => q.elim (fun h => absurd h.1 (np0 hP rfl)) (fun h => absurd h.1 (np0 hP rfl)))
theorem qv_0c05fdd3f {a : Nat} {j : Int} (hm : ¬ (a = 38 ∨ a = 40 ∨ (a = 3 ∧ j = 3) ∨ (a = 3 ∧ j = 4) ∨ (a = 0 ∧ j = 11))) : ¬ ((a = 3 ∧ j = 3) ∨ (a = 3 ∧ j = 4)) := (fun q => q.elim (fun h => hm (Or.inr (Or.inr (Or.inl h)))) (fun h => hm (Or.inr (Or.inr (Or.inr (Or.inl h))))))
theorem q_8f97c4ef8 {x0 : Int} (f0 : 0 ≤ x0 ∧ x0 ≤ 3) : (-2147483648) ≤ x0 - 10 := by omega
theorem q_36926c81e {x0 : Int} (f0 : 0 ≤ x0 ∧ x0 ≤ 3) : x0 - 10 ≤ 2147483647 := by omega
theorem q_e97a17f6e {x0 : Int} (f0 : x0 < 0) : x0 < 0 := by omega
theorem q_0e7f65a30 {x0 x1 : Int} (f0 : x0 > x1) : x1 < x0 := by omega
theorem q_720657ba9 {x0 : Int} (f0 : ¬ (x0 < 0)) : 0 ≤ x0 := by omega
theorem q_1f9ec8cac {x0 x1 : Int} (f0 : 0 ≤ x0 ∧ x0 ≤ 600) (f1 : ¬ (x1 > x0)) : x1 ≤ 600 := by omega
theorem qn_815d5b90e {P : Nat} {j : Int} (hP : P = 13 ∨ P = 25) : ¬ ((P = 1 ∧ j = 1) ∨ (P = 1 ∧ j = 2) ∨ (P = 1 ∧ j = 3) ∨ (P = 1 ∧ j = 4) ∨ (P = 1 ∧ j = 5)) := (fun q => q.elim (fun h => absurd h.1 (np0 hP rfl)) (fun q => q.elim (fun h => absurd h.1 (np0 hP rfl)) (fun q => q.elim (fun h => absurd h.1 (np0 hP rfl)) (fun q => q.elim (fun h => absurd h.1 (np0 hP rfl)) (fun h => absurd h.1 (np0 hP rfl))))))
theorem qn_487957296 {Q : Nat} (hQ : Q = 13 ∨ Q = 25) : ¬ (((1 : Nat) = 1 ∧ (3 : Int) = 2) ∨ ((1 : Nat) = 1 ∧ (3 : Int) = 4) ∨ ((1 : Nat) = 1 ∧ (3 : Int) = 5) ∨ ((1 : Nat) = Q ∧ (3 : Int) = 0) ∨ ((1 : Nat) = Q ∧ (3 : Int) = 1) ∨ ((1 : Nat) = Q ∧ (3 : Int) = 2) ∨ ((1 : Nat) = Q ∧ (3 : Int) = 3) ∨ (1 : Nat) = (Q + 1) ∨ (1 : Nat) = (Q + 2) ∨ (1 : Nat) = (Q + 3) ∨ ((1 : Nat) = Q ∧ (3 : Int) = 4) ∨ ((1 : Nat) = Q ∧ (3 : Int) = 5) ∨ (1 : Nat) = (Q + 6) ∨ ((1 : Nat) = (Q + 7) ∧ (3 : Int) = 4)) := (fun q => q.elim (fun h => absurd h.2 (ni rfl)) (fun q => q.elim (fun h => absurd h.2 (ni rfl)) (fun q => q.elim (fun h => absurd h.2 (ni rfl)) (fun q => q.elim (fun h => absurd h.1 (pn0 hQ rfl)) (fun q => q.elim (fun h => absurd h.1 (pn0 hQ rfl)) (fun q => q.elim (fun h => absurd h.1 (pn0 hQ rfl)) (fun q => q.elim (fun h => absurd h.1 (pn0 hQ rfl)) (fun q => q.elim (fun h => absurd h (pn hQ rfl rfl)) (fun q => q.elim (fun h => absurd h (pn hQ rfl rfl)) (fun q => q.elim (fun h => absurd h (pn hQ rfl rfl)) (fun q => q.elim (fun h => absurd h.1 (pn0 hQ rfl)) (fun q => q.elim (fun h => absurd h.1 (pn0 hQ rfl)) (fun q => q.elim (fun h => absurd h (pn hQ rfl rfl)) (fun h => absurd h.1 (pn hQ rfl rfl)))))))))))))))
theorem qv_5740efcd4 {a : Nat} {j : Int} (hm : ¬ ((a = 1 ∧ j = 1) ∨ (a = 1 ∧ j = 2) ∨ (a = 1 ∧ j = 3) ∨ (a = 1 ∧ j = 4) ∨ (a = 1 ∧ j = 5) ∨ (a = 0 ∧ j = 13) ∨ a = 38 ∨ a = 40 ∨ (a = 3 ∧ j = 3) ∨ (a = 3 ∧ j = 4) ∨ (a = 0 ∧ j = 11) ∨ (13 ≤ a ∧ a ≤ 36))) : ¬ ((a = 1 ∧ j = 1) ∨ (a = 1 ∧ j = 2) ∨ (a = 1 ∧ j = 3) ∨ (a = 1 ∧ j = 4) ∨ (a = 1 ∧ j = 5)) := (fun q => q.elim (fun h => hm (Or.inl h)) (fun q => q.elim (fun h => hm (Or.inr (Or.inl h))) (fun q => q.elim (fun h => hm (Or.inr (Or.inr (Or.inl h)))) (fun q => q.elim (fun h => hm (Or.inr (Or.inr (Or.inr (Or.inl h))))) (fun h => hm (Or.inr (Or.inr (Or.inr (Or.inr (Or.inl h))))))))))
theorem q_1317ba452 {x0 : Int} (f0 : (x0 = 0)) (f1 : 0 ≤ x0 ∧ x0 ≤ 600) : x0 = 0 := by omega
theorem q_0325d56da {x0 x1 : Int} (f0 : ¬ (x0 > x1)) : x0 ≤ x1 := by omega
theorem qv_8a1a2df1d {a : Nat} {j : Int} (hm : ¬ ((a = 1 ∧ j = 1) ∨ (a = 1 ∧ j = 2) ∨ (a = 1 ∧ j = 3) ∨ (a = 1 ∧ j = 4) ∨ (a = 1 ∧ j = 5) ∨ (a = 0 ∧ j = 13) ∨ a = 38 ∨ a = 40 ∨ (a = 3 ∧ j = 3) ∨ (a = 3 ∧ j = 4) ∨ (a = 0 ∧ j = 11) ∨ (13 ≤ a ∧ a ≤ 36))) : ¬ (a = 38 ∨ a = 40 ∨ (a = 3 ∧ j = 3) ∨ (a = 3 ∧ j = 4) ∨ (a = 0 ∧ j = 11)) := (fun q => q.elim (fun h => hm (Or.inr (Or.inr (Or.inr (Or.inr (Or.inr (Or.inr (Or.inl h)))))))) (fun q => q.elim (fun h => hm (Or.inr (Or.inr (Or.inr (Or.inr (Or.inr (Or.inr (Or.inr (Or.inl h))))))))) (fun q => q.elim (fun h => hm (Or.inr (Or.inr (Or.inr (Or.inr (Or.inr (Or.inr (Or.inr (Or.inr (Or.inl h)))))))))) (fun q => q.elim (fun h => hm (Or.inr (Or.inr (Or.inr (Or.inr (Or.inr (Or.inr (Or.inr (Or.inr (Or.inr (Or.inl h))))))))))) (fun h => hm (Or.inr (Or.inr (Or.inr (Or.inr (Or.inr (Or.inr (Or.inr (Or.inr (Or.inr (Or.inr (Or.inl h))))))))))))))))
theorem qn_bbaf5a82a {P : Nat} (hP : P = 13 ∨ P = 25) : ¬ (((1 : Nat) = 1 ∧ (3 : Int) = 2) ∨ ((1 : Nat) = 1 ∧ (3 : Int) = 4) ∨ ((1 : Nat) = 1 ∧ (3 : Int) = 5) ∨ ((1 : Nat) = (P + 7) ∧ (3 : Int) = 5) ∨ (1 : Nat) = (P + 9) ∨ ((1 : Nat) = (P + 7) ∧ (3 : Int) = 4) ∨ (1 : Nat) = (P + 8)) := (fun q => q.elim (fun h => absurd h.2 (ni rfl)) (fun q => q.elim (fun h => absurd h.2 (ni rfl)) (fun q => q.elim (fun h => absurd h.2 (ni rfl)) (fun q => q.elim (fun h => absurd h.1 (pn hP rfl rfl)) (fun q => q.elim (fun h => absurd h (pn hP rfl rfl)) (fun q => q.elim (fun h => absurd h.1 (pn hP rfl rfl)) (fun h => absurd h (pn hP rfl rfl))))))))
theorem qv_272e5d439 {P : Nat} {a : Nat} {j : Int} (hm : ¬ ((a = 1 ∧ j = 1) ∨ (a = 1 ∧ j = 2) ∨ (a = 1 ∧ j = 3) ∨ (a = 1 ∧ j = 4) ∨ (a = 1 ∧ j = 5) ∨ (a = 0 ∧ j = 13) ∨ (a = (P + 7) ∧ j = 5) ∨ a = (P + 9) ∨ (a = (P + 7) ∧ j = 4) ∨ a = (P + 8))) : ¬ ((a = 1 ∧ j = 2) ∨ (a = 1 ∧ j = 4) ∨ (a = 1 ∧ j = 5) ∨ (a = (P + 7) ∧ j = 5) ∨ a = (P + 9) ∨ (a = (P + 7) ∧ j = 4) ∨ a = (P + 8)) := (fun q => q.elim (fun h => hm (Or.inr (Or.inl h))) (fun q => q.elim (fun h => hm (Or.inr (Or.inr (Or.inr (Or.inl h))))) (fun q => q.elim (fun h => hm (Or.inr (Or.inr (Or.inr (Or.inr (Or.inl h)))))) (fun q => q.elim (fun h => hm (Or.inr (Or.inr (Or.inr (Or.inr (Or.inr (Or.inr (Or.inl h)))))))) (fun q => q.elim (fun h => hm (Or.inr (Or.inr (Or.inr (Or.inr (Or.inr (Or.inr (Or.inr (Or.inl h))))))))) (fun q => q.elim (fun h => hm (Or.inr (Or.inr (Or.inr (Or.inr (Or.inr (Or.inr (Or.inr (Or.inr (Or.inl h)))))))))) (fun h => hm (Or.inr (Or.inr (Or.inr (Or.inr (Or.inr (Or.inr (Or.inr (Or.inr (Or.inr h))))))))))))))))
theorem qv_e2c871ddd {P : Nat} {a : Nat} {j : Int} (hm : ¬ ((a = 1 ∧ j = 1) ∨ (a = 1 ∧ j = 2) ∨ (a = 1 ∧ j = 3) ∨ (a = 1 ∧ j = 4) ∨ (a = 1 ∧ j = 5) ∨ (a = 0 ∧ j = 13) ∨ (a = (P + 7) ∧ j = 5) ∨ a = (P + 9) ∨ (a = (P + 7) ∧ j = 4) ∨ a = (P + 8))) : ¬ ((a = 1 ∧ j = 1) ∨ (a = 1 ∧ j = 2) ∨ (a = 1 ∧ j = 3) ∨ (a = 1 ∧ j = 4) ∨ (a = 1 ∧ j = 5)) := (fun q => q.elim (fun h => hm (Or.inl h)) (fun q => q.elim (fun h => hm (Or.inr (Or.inl h))) (fun q => q.elim (fun h => hm (Or.inr (Or.inr (Or.inl h)))) (fun q => q.elim (fun h => hm (Or.inr (Or.inr (Or.inr (Or.inl h))))) (fun h => hm (Or.inr (Or.inr (Or.inr (Or.inr (Or.inl h))))))))))
theorem c_84_47 : mLk 84 47 = some (.aload_n 0, 1) := rfl
theorem c_84_48 : mLk 84 48 = some (.getfield 62, 3) := rfl
theorem c_84_51 : mLk 84 51 = some (.aload_n 0, 1) := rfl
theorem c_84_52 : mLk 84 52 = some (.getfield 50, 3) := rfl
theorem c_84_55 : mLk 84 55 = some (.invokevirtual 93, 3) := rfl
theorem c_84_58 : mLk 84 58 = some (.aload_n 0, 1) := rfl
theorem c_84_59 : mLk 84 59 = some (.getfield 66, 3) := rfl
theorem c_84_62 : mLk 84 62 = some (.aload_n 0, 1) := rfl
theorem c_84_63 : mLk 84 63 = some (.getfield 50, 3) := rfl
theorem c_84_66 : mLk 84 66 = some (.invokevirtual 93, 3) := rfl
theorem c_84_69 : mLk 84 69 = some (.aload_n 0, 1) := rfl
theorem c_84_70 : mLk 84 70 = some (.getfield 19, 3) := rfl
theorem c_84_73 : mLk 84 73 = some (.invokevirtual 96, 3) := rfl
theorem c_84_76 : mLk 84 76 = some (.aload_n 0, 1) := rfl
theorem c_84_77 : mLk 84 77 = some (.iconst 0, 1) := rfl
theorem c_84_78 : mLk 84 78 = some (.putfield 99, 3) := rfl
theorem c_84_81 : mLk 84 81 = some (.aload_n 0, 1) := rfl
theorem c_84_82 : mLk 84 82 = some (.aload_n 0, 1) := rfl
theorem c_84_83 : mLk 84 83 = some (.getfield 50, 3) := rfl
theorem c_84_86 : mLk 84 86 = some (.getfield 102, 3) := rfl
theorem c_84_89 : mLk 84 89 = some (.invokevirtual 105, 3) := rfl
theorem c_83_0 : mLk 83 0 = some (.aload_n 0, 1) := rfl
theorem c_83_1 : mLk 83 1 = some (.getfield 10, 3) := rfl
theorem c_83_4 : mLk 83 4 = some (.invokevirtual 89, 3) := rfl
theorem c_83_7 : mLk 83 7 = some (.ifCond .eq 7, 3) := rfl
theorem c_83_14 : mLk 83 14 = some (.aload_n 0, 1) := rfl
theorem c_83_15 : mLk 83 15 = some (.getfield 10, 3) := rfl
theorem c_83_18 : mLk 83 18 = some (.getfield 351, 3) := rfl
theorem c_83_21 : mLk 83 21 = some (.bipush 10, 2) := rfl
theorem c_83_23 : mLk 83 23 = some (.isub, 1) := rfl
theorem c_83_24 : mLk 83 24 = some (.ireturn, 1) := rfl
theorem c_84_92 : mLk 84 92 = some (.ireturn, 1) := rfl
theorem c_83_10 : mLk 83 10 = some (.iload_n 1, 1) := rfl
theorem c_83_11 : mLk 83 11 = some (.goto 13, 3) := rfl
theorem c_84_0 : mLk 84 0 = some (.aload_n 0, 1) := rfl
theorem c_84_1 : mLk 84 1 = some (.iload_n 1, 1) := rfl
theorem c_84_2 : mLk 84 2 = some (.sipush 600, 3) := rfl
theorem c_84_5 : mLk 84 5 = some (.invokevirtual 81, 3) := rfl
theorem c_82_0 : mLk 82 0 = some (.aload_n 0, 1) := rfl
theorem c_82_1 : mLk 82 1 = some (.iload_n 1, 1) := rfl
theorem c_82_2 : mLk 82 2 = some (.iconst 0, 1) := rfl
theorem c_82_3 : mLk 82 3 = some (.iload_n 2, 1) := rfl
theorem c_82_4 : mLk 82 4 = some (.aload_n 0, 1) := rfl
theorem c_82_5 : mLk 82 5 = some (.getfield 10, 3) := rfl
theorem c_82_8 : mLk 82 8 = some (.getfield 77, 3) := rfl
theorem c_82_11 : mLk 82 11 = some (.invokestatic 278, 3) := rfl
theorem c_82_14 : mLk 82 14 = some (.invokestatic 157, 3) := rfl
theorem c_80_0 : mLk 80 0 = some (.iload_n 0, 1) := rfl
theorem c_80_1 : mLk 80 1 = some (.iload_n 1, 1) := rfl
theorem c_80_2 : mLk 80 2 = some (.if_icmp .lt 12, 3) := rfl
theorem c_80_14 : mLk 80 14 = some (.iconst 0, 1) := rfl
theorem c_80_15 : mLk 80 15 = some (.ireturn, 1) := rfl
theorem c_82_17 : mLk 82 17 = some (.invokevirtual 161, 3) := rfl
theorem c_81_0 : mLk 81 0 = some (.iload_n 1, 1) := rfl
theorem c_81_1 : mLk 81 1 = some (.ifCond .ne 24, 3) := rfl
theorem c_81_4 : mLk 81 4 = some (.aload_n 0, 1) := rfl
theorem c_81_5 : mLk 81 5 = some (.dup, 1) := rfl
theorem c_81_6 : mLk 81 6 = some (.getfield 330, 3) := rfl
theorem c_81_9 : mLk 81 9 = some (.iconst 1, 1) := rfl
theorem c_81_10 : mLk 81 10 = some (.iadd, 1) := rfl
theorem c_81_11 : mLk 81 11 = some (.putfield 330, 3) := rfl
theorem c_81_14 : mLk 81 14 = some (.new 343, 3) := rfl
theorem c_80_5 : mLk 80 5 = some (.iload_n 0, 1) := rfl
theorem c_80_6 : mLk 80 6 = some (.iload_n 2, 1) := rfl
theorem c_80_7 : mLk 80 7 = some (.if_icmp .gt 7, 3) := rfl
theorem c_80_10 : mLk 80 10 = some (.iconst 1, 1) := rfl
theorem c_80_11 : mLk 80 11 = some (.goto 4, 3) := rfl
theorem c_82_20 : mLk 82 20 = some (.aload_n 0, 1) := rfl
theorem c_82_21 : mLk 82 21 = some (.getfield 10, 3) := rfl
theorem c_82_24 : mLk 82 24 = some (.iload_n 1, 1) := rfl
theorem c_82_25 : mLk 82 25 = some (.invokevirtual 348, 3) := rfl
theorem c_84_8 : mLk 84 8 = some (.aload_n 0, 1) := rfl
theorem c_84_9 : mLk 84 9 = some (.getfield 54, 3) := rfl
theorem c_84_12 : mLk 84 12 = some (.aload_n 0, 1) := rfl
theorem c_84_13 : mLk 84 13 = some (.getfield 10, 3) := rfl
theorem c_84_16 : mLk 84 16 = some (.invokevirtual 85, 3) := rfl
theorem c_84_19 : mLk 84 19 = some (.aload_n 0, 1) := rfl
theorem c_84_20 : mLk 84 20 = some (.getfield 10, 3) := rfl
theorem c_84_23 : mLk 84 23 = some (.invokevirtual 89, 3) := rfl
theorem c_84_26 : mLk 84 26 = some (.ifCond .eq 55, 3) := rfl
theorem c_84_29 : mLk 84 29 = some (.aload_n 0, 1) := rfl
theorem c_84_30 : mLk 84 30 = some (.getfield 50, 3) := rfl
theorem c_84_33 : mLk 84 33 = some (.astore_n 2, 1) := rfl
theorem c_84_34 : mLk 84 34 = some (.aload_n 0, 1) := rfl
theorem c_84_35 : mLk 84 35 = some (.aload_n 0, 1) := rfl
theorem c_84_36 : mLk 84 36 = some (.getfield 54, 3) := rfl
theorem c_84_39 : mLk 84 39 = some (.putfield 50, 3) := rfl
theorem c_85_0 : mLk 85 0 = some (.aload_n 0, 1) := rfl
theorem c_85_1 : mLk 85 1 = some (.iload_n 1, 1) := rfl
theorem c_85_2 : mLk 85 2 = some (.sipush 150, 3) := rfl
theorem c_85_5 : mLk 85 5 = some (.invokevirtual 81, 3) := rfl
theorem c_85_8 : mLk 85 8 = some (.aload_n 0, 1) := rfl
theorem c_85_9 : mLk 85 9 = some (.getfield 50, 3) := rfl
theorem c_85_12 : mLk 85 12 = some (.getfield 109, 3) := rfl
theorem c_85_15 : mLk 85 15 = some (.aload_n 0, 1) := rfl
theorem c_85_16 : mLk 85 16 = some (.getfield 10, 3) := rfl
theorem c_85_19 : mLk 85 19 = some (.invokevirtual 113, 3) := rfl
theorem c_85_22 : mLk 85 22 = some (.aload_n 0, 1) := rfl
theorem c_85_23 : mLk 85 23 = some (.iconst 1, 1) := rfl
theorem c_85_24 : mLk 85 24 = some (.invokevirtual 105, 3) := rfl
theorem c_85_27 : mLk 85 27 = some (.ireturn, 1) := rfl
theorem kf_7_102 : a_lk (kF 7) 102 = some (2, 0) := rfl
theorem kf_7_109 : a_lk (kF 7) 109 = some (2, 12) := rfl
theorem kf_7_19 : a_lk (kF 7) 19 = some (7, 1) := rfl
theorem kf_7_330 : a_lk (kF 7) 330 = some (7, 13) := rfl
theorem kf_7_351 : a_lk (kF 7) 351 = some (5, 4) := rfl
theorem kf_7_50 : a_lk (kF 7) 50 = some (7, 7) := rfl
theorem kf_7_54 : a_lk (kF 7) 54 = some (7, 8) := rfl
theorem kf_7_62 : a_lk (kF 7) 62 = some (7, 9) := rfl
theorem kf_7_66 : a_lk (kF 7) 66 = some (7, 10) := rfl
theorem kf_7_99 : a_lk (kF 7) 99 = some (7, 11) := rfl
theorem km_7_105 : a_lk (kM 7) 105 = some (0, 83) := rfl
theorem km_7_113 : a_lk (kM 7) 113 = some (0, 17) := rfl
theorem km_7_161 : a_lk (kM 7) 161 = some (0, 81) := rfl
theorem km_7_348 : a_lk (kM 7) 348 = some (0, 74) := rfl
theorem km_7_81 : a_lk (kM 7) 81 = some (0, 82) := rfl
theorem km_7_85 : a_lk (kM 7) 85 = some (0, 34) := rfl
theorem km_7_89 : a_lk (kM 7) 89 = some (0, 2) := rfl
theorem km_7_93 : a_lk (kM 7) 93 = some (0, 65) := rfl
theorem km_7_96 : a_lk (kM 7) 96 = some (0, 22) := rfl
set_option maxRecDepth 100000 in
set_option maxHeartbeats 4000000 in
theorem s_84t {sc : List Int32} {d P Q : Nat} {c : ME} {Z : AR → Prop} (hI : Iv 0 (-1) P Q c)  (K : ∀ (c2 : ME) (y : Int), Iv 0 (-1) P Q c2 → (∀ (a : Nat) (j : Int), ¬ (a = 38 ∨ a = 40 ∨ (a = 3 ∧ j = 3) ∨ (a = 3 ∧ j = 4) ∨ (a = 0 ∧ j = 11)) → c2 a j = c a j) → (-2147483648) ≤ y ∧ y ≤ 2147483647 → Z (.inl (some (vi y)), Wd P Q P P c2, 0, 0)) : Wp sc (d + 13) 84 47 [(0, .ref 0)] [] (Wd P Q Q Q c) 0 0 Z := by
  have hP := iv_P hI
  have hQ := iv_Q hI
  refine q_aload_n c_84_47 rfl (v_gr (t := 37) c_84_48 kf_7_62 rfl (Nat.le_of_ble_eq_true rfl) rfl (q_aload_n c_84_51 rfl (v_gr (t := P) c_84_52 kf_7_50 rfl (Nat.le_of_ble_eq_true rfl) rfl (v_cv c_84_55 km_7_93 rfl rfl (Nat.le_of_ble_eq_true rfl) ⟨⟨rfl, rfl⟩, Nat.le_of_ble_eq_true rfl, rfl⟩ (Nat.le_of_ble_eq_true rfl) (Nat.le_of_ble_eq_true rfl) (s_65a hI (fun c_1 hI_2 hF_3 => (bk_inl (q_aload_n c_84_58 rfl (v_gr (t := 39) c_84_59 kf_7_66 rfl (Nat.le_of_ble_eq_true rfl) rfl ?_)))))))))
  refine q_aload_n c_84_62 rfl (v_gr (t := P) c_84_63 kf_7_50 rfl (Nat.le_of_ble_eq_true rfl) rfl (v_cv c_84_66 km_7_93 rfl rfl (Nat.le_of_ble_eq_true rfl) ⟨⟨rfl, rfl⟩, Nat.le_of_ble_eq_true rfl, rfl⟩ (Nat.le_of_ble_eq_true rfl) (Nat.le_of_ble_eq_true rfl) (s_65b hI_2 (fun c_4 hI_5 hF_6 => (bk_inl (q_aload_n c_84_69 rfl (v_gr (t := 3) c_84_70 kf_7_19 rfl (Nat.le_of_ble_eq_true rfl) rfl (v_cv c_84_73 km_7_96 rfl rfl (Nat.le_of_ble_eq_true rfl) ⟨⟨rfl, rfl⟩, Nat.le_of_ble_eq_true rfl, rfl⟩ (Nat.le_of_ble_eq_true rfl) (Nat.le_of_ble_eq_true rfl) (s_22 hI_5 (fun c_7 hI_8 hF_9 h_10 => (bk_inl ?_)))))))))))
  have h_11 := ir_3_3 hI_8
  have h_12 := ir_3_4 hI_8
  refine q_aload_n c_84_76 rfl (q_iconst c_84_77 (v_pi (z := 11) c_84_78 kf_7_99 rfl (Nat.le_of_ble_eq_true rfl) rfl rfl rfl (of_decide_eq_true rfl) (q_aload_n c_84_81 rfl (q_aload_n c_84_82 rfl (v_gr (t := P) c_84_83 kf_7_50 rfl (Nat.le_of_ble_eq_true rfl) rfl ?_)))))
  have h_13 := ir_p0_0 hI hP
  have kn_14 : Hid (c_1 P 0 = c P 0) := hF_3 P 0 (fun h => absurd h (np0 hP rfl))
  have kn_15 : Hid (c_4 P 0 = c P 0) := (hF_6 P 0 (fun h => absurd h (np0 hP rfl))).trans (hid kn_14)
  have kn_16 : Hid (c_7 P 0 = c P 0) := (hF_9 P 0 (qn_48a4791f9 hP)).trans (hid kn_15)
  refine v_gi (z := 0) (v := c P 0) c_84_86 kf_7_102 (ck_p0 hP) (a68z hP) rfl rfl ((up_c (np0 hP rfl)).trans (hid kn_16)) (v_cv c_84_89 km_7_105 rfl rfl (Nat.le_of_ble_eq_true rfl) ⟨⟨rfl, rfl⟩, Nat.le_of_ble_eq_true rfl, rfl⟩ (Nat.le_of_ble_eq_true rfl) (Nat.le_of_ble_eq_true rfl) (q_aload_n c_83_0 rfl (v_gr (t := 1) c_83_1 kf_7_10 rfl (Nat.le_of_ble_eq_true rfl) rfl (v_cv c_83_4 km_7_89 rfl rfl (Nat.le_of_ble_eq_true rfl) ⟨⟨rfl, rfl⟩, Nat.le_of_ble_eq_true rfl, rfl⟩ (Nat.le_of_ble_eq_true rfl) (Nat.le_of_ble_eq_true rfl) (q_aload_n c_2_0 rfl ?_)))))
  have h_17 := ir_1_4 hI
  have kn_18 : Hid (c_1 1 4 = c 1 4) := hF_3 1 4 (fun h => absurd h (nn rfl))
  have kn_19 : Hid (c_4 1 4 = c 1 4) := (hF_6 1 4 (fun h => absurd h (nn rfl))).trans (hid kn_18)
  have kn_20 : Hid (c_7 1 4 = c 1 4) := (hF_9 1 4 (fun q => q.elim (fun h => absurd h.1 (nn rfl)) (fun h => absurd h.1 (nn rfl)))).trans (hid kn_19)
  refine v_gi (z := 4) (v := c 1 4) c_2_1 kf_5_38 rfl (Nat.le_of_ble_eq_true rfl) rfl rfl ((up_c (nn rfl)).trans (hid kn_20)) ?_
  by_cases h_21 : c 1 4 ≠ 0
  · refine v_if_ne_t (t := 11) c_2_4 rfl ⟨h_21, ⟨(q_107d648c6 h_17), (q_509aaa6b6 h_17)⟩, of_decide_eq_true rfl, of_decide_eq_true rfl⟩ (q_iconst c_2_11 (v_zret c_2_12 rfl (of_decide_eq_true rfl) (bk_inl (v_if_eq_t (t := 14) c_83_7 rfl (of_decide_eq_true rfl) (q_aload_n c_83_14 rfl (v_gr (t := 1) c_83_15 kf_7_10 rfl (Nat.le_of_ble_eq_true rfl) rfl (v_gi (z := 4) (v := c 1 4) c_83_18 kf_7_351 rfl (Nat.le_of_ble_eq_true rfl) rfl rfl ((up_c (nn rfl)).trans (hid kn_20)) ?_)))))))
    refine v_bip c_83_21 (of_decide_eq_true rfl) (v_isub (v := c 1 4 - 10) c_83_23 rfl (q_iret c_83_24 rfl (bk_inl (q_iret c_84_92 rfl ?_))))
    have hI_22 := iw_0_11 (v := 0) hI_8 ⟨of_decide_eq_true rfl, of_decide_eq_true rfl⟩
    exact K (up c_7 0 11 0) (c 1 4 - 10) hI_22 (fun a j hm => (up_b (Decidable.or_iff_not_imp_left.mpr (fun h1 h2 => hm (Or.inr (Or.inr (Or.inr (Or.inr ⟨Decidable.not_not.mp h1, h2⟩))))))).trans ((hF_9 a j (qv_0c05fdd3f hm)).trans ((hF_6 a j (fun h => hm (Or.inr (Or.inl h)))).trans (hF_3 a j (fun h => hm (Or.inl h)))))) ⟨(q_8f97c4ef8 h_17), (q_36926c81e h_17)⟩
  · refine v_if_ne_f (t := 11) c_2_4 rfl (Decidable.not_not.mp h_21) (q_iconst c_2_7 (q_goto (t := 12) c_2_8 rfl (v_zret c_2_12 rfl (of_decide_eq_true rfl) (bk_inl (v_if_eq_f (t := 14) c_83_7 rfl (of_decide_eq_true rfl) (q_iload_n c_83_10 rfl (q_goto (t := 24) c_83_11 rfl ?_)))))))
    refine q_iret c_83_24 rfl (bk_inl (q_iret c_84_92 rfl ?_))
    have hI_23 := iw_0_11 (v := 0) hI_8 ⟨of_decide_eq_true rfl, of_decide_eq_true rfl⟩
    exact K (up c_7 0 11 0) (c P 0) hI_23 (fun a j hm => (up_b (Decidable.or_iff_not_imp_left.mpr (fun h1 h2 => hm (Or.inr (Or.inr (Or.inr (Or.inr ⟨Decidable.not_not.mp h1, h2⟩))))))).trans ((hF_9 a j (qv_0c05fdd3f hm)).trans ((hF_6 a j (fun h => hm (Or.inr (Or.inl h)))).trans (hF_3 a j (fun h => hm (Or.inl h)))))) ⟨(q_730ab5169 h_13), (q_b289b7db2 h_13)⟩
set_option maxRecDepth 100000 in
set_option maxHeartbeats 4000000 in
theorem s_84 {sc : List Int32} {d P Q : Nat} {c : ME} {a1 : Int} {Z : AR → Prop} (hI : Iv 0 (-1) P Q c) (ha1 : (-2147483648) ≤ a1 ∧ a1 ≤ 2147483647) (T101 : ∀ c2 : ME, Iv 0 (-1) P Q c2 → (∀ (a : Nat) (j : Int), ¬ ((a = 0 ∧ j = 13)) → c2 a j = c a j) → ((c2 1 3 = c 1 3)) → ((a1 < 0) ∨ (a1 > c 1 3) ∨ (a1 > 600)) → Z (.inr 101, Wd P Q P P c2, 1, 6)) (K : ∀ (P2 Q2 : Nat) (c2 : ME) (y : Int), Iv 0 (-1) P2 Q2 c2 → (∀ (a : Nat) (j : Int), ¬ ((a = 1 ∧ j = 1) ∨ (a = 1 ∧ j = 2) ∨ (a = 1 ∧ j = 3) ∨ (a = 1 ∧ j = 4) ∨ (a = 1 ∧ j = 5) ∨ (a = 0 ∧ j = 13) ∨ a = 38 ∨ a = 40 ∨ (a = 3 ∧ j = 3) ∨ (a = 3 ∧ j = 4) ∨ (a = 0 ∧ j = 11) ∨ (13 ≤ a ∧ a ≤ 36)) → c2 a j = c a j) → ((-2147483648) ≤ y ∧ y ≤ 2147483647) → (c2 1 3 = 0 ∧ a1 ≥ 0 ∧ a1 ≤ c 1 3 ∧ a1 ≤ 600) → Z (.inl (some (vi y)), Wd P2 Q2 P2 P2 c2, 0, 0)) : Wp sc (d + 13) 84 0 [(0, .ref 0), (1, vi a1)] [] (Wd P Q P P c) 0 0 Z := by
  have hP := iv_P hI
  have hQ := iv_Q hI
  have hpq := iv_pq hI
  unfold Pq at hpq
  refine q_aload_n c_84_0 rfl (q_iload_n c_84_1 rfl (v_sip c_84_2 (of_decide_eq_true rfl) (v_cv c_84_5 km_7_81 rfl rfl (Nat.le_of_ble_eq_true rfl) ⟨⟨rfl, rfl⟩, Nat.le_of_ble_eq_true rfl, rfl⟩ (Nat.le_of_ble_eq_true rfl) (Nat.le_of_ble_eq_true rfl) (q_aload_n c_82_0 rfl (q_iload_n c_82_1 rfl (q_iconst c_82_2 (q_iload_n c_82_3 rfl ?_)))))))
  refine q_aload_n c_82_4 rfl (v_gr (t := 1) c_82_5 kf_7_10 rfl (Nat.le_of_ble_eq_true rfl) rfl ?_)
  have h_1 := ir_1_3 hI
  refine v_gi (z := 3) (v := c 1 3) c_82_8 kf_7_77 rfl (Nat.le_of_ble_eq_true rfl) rfl rfl rfl (v_min_g c_82_11 rfl (by omega) (Nat.le_of_ble_eq_true rfl) (by omega) (q_call c_82_14 rfl rfl rfl (q_iload_n c_80_0 rfl (q_iload_n c_80_1 rfl ?_))))
  by_cases h_2 : a1 < 0
  · refine v_ic_lt_t (t := 14) c_80_2 rfl ⟨ha1.1, h_2, of_decide_eq_true rfl⟩ (q_iconst c_80_14 (v_zret c_80_15 rfl (of_decide_eq_true rfl) (bk_inl (v_cv c_82_17 km_7_161 rfl rfl (Nat.le_of_ble_eq_true rfl) ⟨⟨rfl, rfl⟩, Nat.le_of_ble_eq_true rfl, rfl⟩ (Nat.le_of_ble_eq_true rfl) (Nat.le_of_ble_eq_true rfl) (q_iload_n c_81_0 rfl (v_if_ne_f (t := 25) c_81_1 rfl (of_decide_eq_true rfl) (q_aload_n c_81_4 rfl ?_)))))))
    refine q_dup c_81_5 rfl ?_
    have h_3 := ir_0_13 hI
    refine v_gi (z := 13) (v := c 0 13) c_81_6 kf_7_330 rfl (Nat.le_of_ble_eq_true rfl) rfl rfl rfl (q_iconst c_81_9 (v_iadd (v := c 0 13 + 1) c_81_10 rfl (v_nrm (fun y_4 hy_4 => (v_pi (z := 13) c_81_11 kf_7_330 rfl (Nat.le_of_ble_eq_true rfl) rfl rfl rfl (of_decide_eq_true rfl) (v_new c_81_14 rfl (of_decide_eq_true rfl) (by omega) (Nat.le_of_ble_eq_true rfl) (of_decide_eq_true rfl) rfl (bk_out rfl rfl (bk_out rfl rfl ?_))))))))
    have hI_5 := iw_0_13 (v := y_4) hI ⟨hy_4.1, hy_4.2⟩
    have h_6 : (up c 0 13 y_4) 1 3 = c 1 3 := (up_c (nn rfl))
    exact T101 _ hI_5 (fun a j hm => up_b (Decidable.or_iff_not_imp_left.mpr (fun h1 h2 => hm ⟨Decidable.not_not.mp h1, h2⟩))) (by first | assumption | omega) (Or.inl ((q_e97a17f6e h_2)))
  · refine v_ic_lt_f (t := 14) c_80_2 rfl ⟨of_decide_eq_true rfl, (Int.not_lt.mp h_2), ha1.2⟩ (q_iload_n c_80_5 rfl (q_iload_n c_80_6 rfl ?_))
    by_cases h_7 : a1 > c 1 3
    · refine v_ic_gt_t (t := 14) c_80_7 rfl ⟨(lel h_1.1 rfl), h_7, ha1.2⟩ (q_iconst c_80_14 (v_zret c_80_15 rfl (of_decide_eq_true rfl) (bk_inl (v_cv c_82_17 km_7_161 rfl rfl (Nat.le_of_ble_eq_true rfl) ⟨⟨rfl, rfl⟩, Nat.le_of_ble_eq_true rfl, rfl⟩ (Nat.le_of_ble_eq_true rfl) (Nat.le_of_ble_eq_true rfl) (q_iload_n c_81_0 rfl (v_if_ne_f (t := 25) c_81_1 rfl (of_decide_eq_true rfl) (q_aload_n c_81_4 rfl ?_)))))))
      refine q_dup c_81_5 rfl ?_
      have h_8 := ir_0_13 hI
      refine v_gi (z := 13) (v := c 0 13) c_81_6 kf_7_330 rfl (Nat.le_of_ble_eq_true rfl) rfl rfl rfl (q_iconst c_81_9 (v_iadd (v := c 0 13 + 1) c_81_10 rfl (v_nrm (fun y_9 hy_9 => (v_pi (z := 13) c_81_11 kf_7_330 rfl (Nat.le_of_ble_eq_true rfl) rfl rfl rfl (of_decide_eq_true rfl) (v_new c_81_14 rfl (of_decide_eq_true rfl) (by omega) (Nat.le_of_ble_eq_true rfl) (of_decide_eq_true rfl) rfl (bk_out rfl rfl (bk_out rfl rfl ?_))))))))
      have hI_10 := iw_0_13 (v := y_9) hI ⟨hy_9.1, hy_9.2⟩
      have h_11 : (up c 0 13 y_9) 1 3 = c 1 3 := (up_c (nn rfl))
      exact T101 _ hI_10 (fun a j hm => up_b (Decidable.or_iff_not_imp_left.mpr (fun h1 h2 => hm ⟨Decidable.not_not.mp h1, h2⟩))) (by first | assumption | omega) (Or.inr (Or.inl ((q_0e7f65a30 h_7))))
    · refine v_ic_gt_f (t := 14) c_80_7 rfl ⟨ha1.1, (Int.not_lt.mp h_7), (ler h_1.2 rfl)⟩ (q_iconst c_80_10 (q_goto (t := 15) c_80_11 rfl (v_zret c_80_15 rfl (of_decide_eq_true rfl) (bk_inl (v_cv c_82_17 km_7_161 rfl rfl (Nat.le_of_ble_eq_true rfl) ⟨⟨rfl, rfl⟩, Nat.le_of_ble_eq_true rfl, rfl⟩ (Nat.le_of_ble_eq_true rfl) (Nat.le_of_ble_eq_true rfl) (q_iload_n c_81_0 rfl (v_if_ne_t (t := 25) c_81_1 rfl (of_decide_eq_true rfl) ?_)))))))
      refine q_vret rfl rfl (bk_inl (q_aload_n c_82_20 rfl (v_gr (t := 1) c_82_21 kf_7_10 rfl (Nat.le_of_ble_eq_true rfl) rfl (q_iload_n c_82_24 rfl (v_cv c_82_25 km_7_348 rfl rfl (Nat.le_of_ble_eq_true rfl) ⟨⟨rfl, rfl⟩, Nat.le_of_ble_eq_true rfl, rfl⟩ (Nat.le_of_ble_eq_true rfl) (Nat.le_of_ble_eq_true rfl) (s_74 (a1 := a1) hI (show 0 ≤ a1 ∧ a1 ≤ 600 from ⟨(q_720657ba9 h_2), (q_1f9ec8cac h_1 h_7)⟩) (fun c_12 hI_13 hF_14 h_15 => (bk_inl ?_))))))))
      have h_16 := ir_1_3 hI_13
      refine q_vret rfl rfl (bk_inl (q_aload_n c_84_8 rfl (v_gr (t := Q) c_84_9 kf_7_54 rfl (Nat.le_of_ble_eq_true rfl) rfl (q_aload_n c_84_12 rfl (v_gr (t := 1) c_84_13 kf_7_10 rfl (Nat.le_of_ble_eq_true rfl) rfl (v_cv c_84_16 km_7_85 rfl (ck_p0 hQ) (a68z hQ) ⟨⟨rfl, rfl⟩, of_decide_eq_true rfl, rfl⟩ (Nat.le_of_ble_eq_true rfl) (Nat.le_of_ble_eq_true rfl) (s_34 hI_13 hQ (fun c_17 hI_18 hF_19 => (bk_inl ?_)))))))))
      refine q_aload_n c_84_19 rfl (v_gr (t := 1) c_84_20 kf_7_10 rfl (Nat.le_of_ble_eq_true rfl) rfl (v_cv c_84_23 km_7_89 rfl rfl (Nat.le_of_ble_eq_true rfl) ⟨⟨rfl, rfl⟩, Nat.le_of_ble_eq_true rfl, rfl⟩ (Nat.le_of_ble_eq_true rfl) (Nat.le_of_ble_eq_true rfl) (q_aload_n c_2_0 rfl ?_)))
      have h_20 := ir_1_4 hI_18
      refine v_gi (z := 4) (v := c_17 1 4) c_2_1 kf_5_38 rfl (Nat.le_of_ble_eq_true rfl) rfl rfl rfl ?_
      by_cases h_21 : c_17 1 4 ≠ 0
      · refine v_if_ne_t (t := 11) c_2_4 rfl ⟨h_21, ⟨(lel h_20.1 rfl), (ler h_20.2 rfl)⟩, of_decide_eq_true rfl, of_decide_eq_true rfl⟩ (q_iconst c_2_11 (v_zret c_2_12 rfl (of_decide_eq_true rfl) (bk_inl (v_if_eq_t (t := 81) c_84_26 rfl (of_decide_eq_true rfl) (q_aload_n c_84_81 rfl (q_aload_n c_84_82 rfl (v_gr (t := P) c_84_83 kf_7_50 rfl (Nat.le_of_ble_eq_true rfl) rfl ?_)))))))
        have h_22 := ir_p0_0 hI hP
        have kn_23 : Hid (c_12 P 0 = c P 0) := hF_14 P 0 (qn_815d5b90e hP)
        have kn_24 : Hid (c_17 P 0 = c P 0) := (hF_19 P 0 (by omega)).trans (hid kn_23)
        refine v_gi (z := 0) (v := c P 0) c_84_86 kf_7_102 (ck_p0 hP) (a68z hP) rfl rfl (hid kn_24) (v_cv c_84_89 km_7_105 rfl rfl (Nat.le_of_ble_eq_true rfl) ⟨⟨rfl, rfl⟩, Nat.le_of_ble_eq_true rfl, rfl⟩ (Nat.le_of_ble_eq_true rfl) (Nat.le_of_ble_eq_true rfl) (q_aload_n c_83_0 rfl (v_gr (t := 1) c_83_1 kf_7_10 rfl (Nat.le_of_ble_eq_true rfl) rfl (v_cv c_83_4 km_7_89 rfl rfl (Nat.le_of_ble_eq_true rfl) ⟨⟨rfl, rfl⟩, Nat.le_of_ble_eq_true rfl, rfl⟩ (Nat.le_of_ble_eq_true rfl) (Nat.le_of_ble_eq_true rfl) (q_aload_n c_2_0 rfl (v_gi (z := 4) (v := c_17 1 4) c_2_1 kf_5_38 rfl (Nat.le_of_ble_eq_true rfl) rfl rfl rfl (v_if_ne_t (t := 11) c_2_4 rfl ⟨(q_646bc4652 h_20 h_21), ⟨(lel h_20.1 rfl), (ler h_20.2 rfl)⟩, of_decide_eq_true rfl, of_decide_eq_true rfl⟩ ?_)))))))
        refine q_iconst c_2_11 (v_zret c_2_12 rfl (of_decide_eq_true rfl) (bk_inl (v_if_eq_t (t := 14) c_83_7 rfl (of_decide_eq_true rfl) (q_aload_n c_83_14 rfl (v_gr (t := 1) c_83_15 kf_7_10 rfl (Nat.le_of_ble_eq_true rfl) rfl (v_gi (z := 4) (v := c_17 1 4) c_83_18 kf_7_351 rfl (Nat.le_of_ble_eq_true rfl) rfl rfl rfl (v_bip c_83_21 (of_decide_eq_true rfl) ?_)))))))
        refine v_isub (v := c_17 1 4 - 10) c_83_23 rfl (q_iret c_83_24 rfl (bk_inl (q_iret c_84_92 rfl ?_)))
        have kn_25 : Hid (c_17 1 3 = c_12 1 3) := hF_19 1 3 (qn_487957296 hQ)
        have h_26 : c_17 1 3 = c_12 1 3 := (hid kn_25)
        exact K P Q c_17 (c_17 1 4 - 10) hI_18 (fun a j hm => (hF_19 a j (fun q => q.elim (fun h => hm (Or.inr (Or.inl h))) (fun q => q.elim (fun h => hm (Or.inr (Or.inr (Or.inr (Or.inl h))))) (fun q => q.elim (fun h => hm (Or.inr (Or.inr (Or.inr (Or.inr (Or.inl h)))))) (fun q => q.elim (fun h => hm (Or.inr (Or.inr (Or.inr (Or.inr (Or.inr (Or.inr (Or.inr (Or.inr (Or.inr (Or.inr (Or.inr ⟨by clear hm; omega, by clear hm; omega⟩)))))))))))) (fun q => q.elim (fun h => hm (Or.inr (Or.inr (Or.inr (Or.inr (Or.inr (Or.inr (Or.inr (Or.inr (Or.inr (Or.inr (Or.inr ⟨by clear hm; omega, by clear hm; omega⟩)))))))))))) (fun q => q.elim (fun h => hm (Or.inr (Or.inr (Or.inr (Or.inr (Or.inr (Or.inr (Or.inr (Or.inr (Or.inr (Or.inr (Or.inr ⟨by clear hm; omega, by clear hm; omega⟩)))))))))))) (fun q => q.elim (fun h => hm (Or.inr (Or.inr (Or.inr (Or.inr (Or.inr (Or.inr (Or.inr (Or.inr (Or.inr (Or.inr (Or.inr ⟨by clear hm; omega, by clear hm; omega⟩)))))))))))) (fun q => q.elim (fun h => hm (Or.inr (Or.inr (Or.inr (Or.inr (Or.inr (Or.inr (Or.inr (Or.inr (Or.inr (Or.inr (Or.inr ⟨by clear hm; omega, by clear hm; omega⟩)))))))))))) (fun q => q.elim (fun h => hm (Or.inr (Or.inr (Or.inr (Or.inr (Or.inr (Or.inr (Or.inr (Or.inr (Or.inr (Or.inr (Or.inr ⟨by clear hm; omega, by clear hm; omega⟩)))))))))))) (fun q => q.elim (fun h => hm (Or.inr (Or.inr (Or.inr (Or.inr (Or.inr (Or.inr (Or.inr (Or.inr (Or.inr (Or.inr (Or.inr ⟨by clear hm; omega, by clear hm; omega⟩)))))))))))) (fun q => q.elim (fun h => hm (Or.inr (Or.inr (Or.inr (Or.inr (Or.inr (Or.inr (Or.inr (Or.inr (Or.inr (Or.inr (Or.inr ⟨by clear hm; omega, by clear hm; omega⟩)))))))))))) (fun q => q.elim (fun h => hm (Or.inr (Or.inr (Or.inr (Or.inr (Or.inr (Or.inr (Or.inr (Or.inr (Or.inr (Or.inr (Or.inr ⟨by clear hm; omega, by clear hm; omega⟩)))))))))))) (fun q => q.elim (fun h => hm (Or.inr (Or.inr (Or.inr (Or.inr (Or.inr (Or.inr (Or.inr (Or.inr (Or.inr (Or.inr (Or.inr ⟨by clear hm; omega, by clear hm; omega⟩)))))))))))) (fun h => hm (Or.inr (Or.inr (Or.inr (Or.inr (Or.inr (Or.inr (Or.inr (Or.inr (Or.inr (Or.inr (Or.inr ⟨by clear hm; omega, by clear hm; omega⟩)))))))))))))))))))))))))).trans (hF_14 a j (qv_5740efcd4 hm))) ⟨(rgm_l h_20.1 (of_decide_eq_true rfl)), (rgm_h h_20.2 (of_decide_eq_true rfl))⟩ ⟨(q_1317ba452 h_15 h_16), (q_720657ba9 h_2), (q_0325d56da h_7), (q_1f9ec8cac h_1 h_7)⟩
      · refine v_if_ne_f (t := 11) c_2_4 rfl (Decidable.not_not.mp h_21) (q_iconst c_2_7 (q_goto (t := 12) c_2_8 rfl (v_zret c_2_12 rfl (of_decide_eq_true rfl) (bk_inl (v_if_eq_f (t := 81) c_84_26 rfl (of_decide_eq_true rfl) (q_aload_n c_84_29 rfl (v_gr (t := P) c_84_30 kf_7_50 rfl (Nat.le_of_ble_eq_true rfl) rfl ?_)))))))
        refine q_astore_n c_84_33 (of_decide_eq_true rfl) (q_aload_n c_84_34 rfl (q_aload_n c_84_35 rfl (v_gr (t := Q) c_84_36 kf_7_54 rfl (Nat.le_of_ble_eq_true rfl) rfl (v_pr (P' := Q) (Q' := Q) (N' := P) (T' := P) c_84_39 rfl rfl rfl (of_decide_eq_true rfl) (Nat.lt_of_succ_le (Nat.le_of_ble_eq_true rfl)) (fun c => rfl) rfl (of_decide_eq_true rfl) (fun b hb => ck_x0 hb) (q_aload_n rfl rfl (q_aload_n rfl rfl (v_pr (P' := Q) (Q' := P) (N' := P) (T' := P) rfl rfl rfl rfl (of_decide_eq_true rfl) (Nat.lt_of_succ_le (Nat.le_of_ble_eq_true rfl)) (fun c => rfl) rfl (of_decide_eq_true rfl) (fun b hb => ck_x0 hb) ?_)))))))
        have kn_27 : Hid (c_17 1 3 = c_12 1 3) := hF_19 1 3 (qn_487957296 hQ)
        have hz9 : c_17 1 3 = 0 := ((hid kn_27)).trans (by omega)
        refine Wp_ls [(0, .ref 0)] (lsub_cons rfl lsub_nil) ?_
        exact s_84t (P := Q) (Q := P) (iv_swap hI_18) (fun c9 y9 hI9 hF9 hy9 => K Q P c9 y9 hI9 (fun a j hm => (hF9 a j (qv_8a1a2df1d hm)).trans ((hF_19 a j (fun q => q.elim (fun h => hm (Or.inr (Or.inl h))) (fun q => q.elim (fun h => hm (Or.inr (Or.inr (Or.inr (Or.inl h))))) (fun q => q.elim (fun h => hm (Or.inr (Or.inr (Or.inr (Or.inr (Or.inl h)))))) (fun q => q.elim (fun h => hm (Or.inr (Or.inr (Or.inr (Or.inr (Or.inr (Or.inr (Or.inr (Or.inr (Or.inr (Or.inr (Or.inr ⟨by clear hm; omega, by clear hm; omega⟩)))))))))))) (fun q => q.elim (fun h => hm (Or.inr (Or.inr (Or.inr (Or.inr (Or.inr (Or.inr (Or.inr (Or.inr (Or.inr (Or.inr (Or.inr ⟨by clear hm; omega, by clear hm; omega⟩)))))))))))) (fun q => q.elim (fun h => hm (Or.inr (Or.inr (Or.inr (Or.inr (Or.inr (Or.inr (Or.inr (Or.inr (Or.inr (Or.inr (Or.inr ⟨by clear hm; omega, by clear hm; omega⟩)))))))))))) (fun q => q.elim (fun h => hm (Or.inr (Or.inr (Or.inr (Or.inr (Or.inr (Or.inr (Or.inr (Or.inr (Or.inr (Or.inr (Or.inr ⟨by clear hm; omega, by clear hm; omega⟩)))))))))))) (fun q => q.elim (fun h => hm (Or.inr (Or.inr (Or.inr (Or.inr (Or.inr (Or.inr (Or.inr (Or.inr (Or.inr (Or.inr (Or.inr ⟨by clear hm; omega, by clear hm; omega⟩)))))))))))) (fun q => q.elim (fun h => hm (Or.inr (Or.inr (Or.inr (Or.inr (Or.inr (Or.inr (Or.inr (Or.inr (Or.inr (Or.inr (Or.inr ⟨by clear hm; omega, by clear hm; omega⟩)))))))))))) (fun q => q.elim (fun h => hm (Or.inr (Or.inr (Or.inr (Or.inr (Or.inr (Or.inr (Or.inr (Or.inr (Or.inr (Or.inr (Or.inr ⟨by clear hm; omega, by clear hm; omega⟩)))))))))))) (fun q => q.elim (fun h => hm (Or.inr (Or.inr (Or.inr (Or.inr (Or.inr (Or.inr (Or.inr (Or.inr (Or.inr (Or.inr (Or.inr ⟨by clear hm; omega, by clear hm; omega⟩)))))))))))) (fun q => q.elim (fun h => hm (Or.inr (Or.inr (Or.inr (Or.inr (Or.inr (Or.inr (Or.inr (Or.inr (Or.inr (Or.inr (Or.inr ⟨by clear hm; omega, by clear hm; omega⟩)))))))))))) (fun q => q.elim (fun h => hm (Or.inr (Or.inr (Or.inr (Or.inr (Or.inr (Or.inr (Or.inr (Or.inr (Or.inr (Or.inr (Or.inr ⟨by clear hm; omega, by clear hm; omega⟩)))))))))))) (fun h => hm (Or.inr (Or.inr (Or.inr (Or.inr (Or.inr (Or.inr (Or.inr (Or.inr (Or.inr (Or.inr (Or.inr ⟨by clear hm; omega, by clear hm; omega⟩)))))))))))))))))))))))))).trans (hF_14 a j (qv_5740efcd4 hm)))) hy9 ⟨(hF9 1 3 (by omega)).trans hz9, by omega, by omega, by omega⟩)

set_option maxRecDepth 100000 in
set_option maxHeartbeats 4000000 in
theorem s_85 {sc : List Int32} {e : Int} {d u P Q : Nat} {c : ME} {a1 : Int} {Z : AR → Prop} (hI : Iv u e P Q c) (ha1 : (-2147483648) ≤ a1 ∧ a1 ≤ 2147483647) (T101 : ∀ c2 : ME, Iv u e P Q c2 → (∀ (a : Nat) (j : Int), ¬ ((a = 0 ∧ j = 13)) → c2 a j = c a j) → ((c2 1 3 = c 1 3)) → ((a1 < 0) ∨ (a1 > c 1 3) ∨ (a1 > 150)) → Z (.inr 101, Wd P Q P P c2, 1, 6)) (K : ∀ (c2 : ME) (y : Int), Iv u e P Q c2 → (∀ (a : Nat) (j : Int), ¬ ((a = 1 ∧ j = 1) ∨ (a = 1 ∧ j = 2) ∨ (a = 1 ∧ j = 3) ∨ (a = 1 ∧ j = 4) ∨ (a = 1 ∧ j = 5) ∨ (a = 0 ∧ j = 13) ∨ (a = (P + 7) ∧ j = 5) ∨ a = (P + 9) ∨ (a = (P + 7) ∧ j = 4) ∨ a = (P + 8)) → c2 a j = c a j) → (-2147483648) ≤ y ∧ y ≤ 2147483647 → ((c2 1 3 = 0 ∧ a1 ≥ 0 ∧ a1 ≤ c 1 3 ∧ a1 ≤ 150)) → Z (.inl (some (vi y)), Wd P Q P P c2, 0, 0)) : Wp sc (d + 34) 85 0 [(0, .ref 0), (1, vi a1)] [] (Wd P Q P P c) 0 0 Z := by
  have hP := iv_P hI
  have hQ := iv_Q hI
  refine q_aload_n c_85_0 rfl (q_iload_n c_85_1 rfl (v_sip c_85_2 (of_decide_eq_true rfl) (v_cv c_85_5 km_7_81 rfl rfl (Nat.le_of_ble_eq_true rfl) ⟨⟨rfl, rfl⟩, Nat.le_of_ble_eq_true rfl, rfl⟩ (Nat.le_of_ble_eq_true rfl) (Nat.le_of_ble_eq_true rfl) (q_aload_n c_82_0 rfl (q_iload_n c_82_1 rfl (q_iconst c_82_2 (q_iload_n c_82_3 rfl ?_)))))))
  refine q_aload_n c_82_4 rfl (v_gr (t := 1) c_82_5 kf_7_10 rfl (Nat.le_of_ble_eq_true rfl) rfl ?_)
  have h_1 := ir_1_3 hI
  refine v_gi (z := 3) (v := c 1 3) c_82_8 kf_7_77 rfl (Nat.le_of_ble_eq_true rfl) rfl rfl rfl (v_minx c_82_11 rfl (by omega) (Nat.le_of_ble_eq_true rfl) ⟨by omega, by omega, by omega, by omega⟩ (fun y_2 hy_2 => (q_call c_82_14 rfl rfl rfl (q_iload_n c_80_0 rfl (q_iload_n c_80_1 rfl ?_)))))
  by_cases h_3 : a1 < 0
  · refine v_ic_lt_t (t := 14) c_80_2 rfl ⟨ha1.1, h_3, of_decide_eq_true rfl⟩ (q_iconst c_80_14 (v_zret c_80_15 rfl (of_decide_eq_true rfl) (bk_inl (v_cv c_82_17 km_7_161 rfl rfl (Nat.le_of_ble_eq_true rfl) ⟨⟨rfl, rfl⟩, Nat.le_of_ble_eq_true rfl, rfl⟩ (Nat.le_of_ble_eq_true rfl) (Nat.le_of_ble_eq_true rfl) (q_iload_n c_81_0 rfl (v_if_ne_f (t := 25) c_81_1 rfl (of_decide_eq_true rfl) (q_aload_n c_81_4 rfl ?_)))))))
    refine q_dup c_81_5 rfl ?_
    have h_4 := ir_0_13 hI
    refine v_gi (z := 13) (v := c 0 13) c_81_6 kf_7_330 rfl (Nat.le_of_ble_eq_true rfl) rfl rfl rfl (q_iconst c_81_9 (v_iadd (v := c 0 13 + 1) c_81_10 rfl (v_nrm (fun y_5 hy_5 => (v_pi (z := 13) c_81_11 kf_7_330 rfl (Nat.le_of_ble_eq_true rfl) rfl rfl rfl (of_decide_eq_true rfl) (v_new c_81_14 rfl (of_decide_eq_true rfl) (by omega) (Nat.le_of_ble_eq_true rfl) (of_decide_eq_true rfl) rfl (bk_out rfl rfl (bk_out rfl rfl ?_))))))))
    have hI_6 := iw_0_13 (v := y_5) hI ⟨hy_5.1, hy_5.2⟩
    have h_7 : (up c 0 13 y_5) 1 3 = c 1 3 := (up_c (nn rfl))
    exact T101 _ hI_6 (fun a j hm => up_b (Decidable.or_iff_not_imp_left.mpr (fun h1 h2 => hm ⟨Decidable.not_not.mp h1, h2⟩))) (by first | assumption | omega) (Or.inl ((q_e97a17f6e h_3)))
  · refine v_ic_lt_f (t := 14) c_80_2 rfl ⟨of_decide_eq_true rfl, (Int.not_lt.mp h_3), ha1.2⟩ (q_iload_n c_80_5 rfl (q_iload_n c_80_6 rfl ?_))
    by_cases h_8 : a1 > y_2
    · refine v_ic_gt_t (t := 14) c_80_7 rfl ⟨by omega, h_8, ha1.2⟩ (q_iconst c_80_14 (v_zret c_80_15 rfl (of_decide_eq_true rfl) (bk_inl (v_cv c_82_17 km_7_161 rfl rfl (Nat.le_of_ble_eq_true rfl) ⟨⟨rfl, rfl⟩, Nat.le_of_ble_eq_true rfl, rfl⟩ (Nat.le_of_ble_eq_true rfl) (Nat.le_of_ble_eq_true rfl) (q_iload_n c_81_0 rfl (v_if_ne_f (t := 25) c_81_1 rfl (of_decide_eq_true rfl) (q_aload_n c_81_4 rfl ?_)))))))
      refine q_dup c_81_5 rfl ?_
      have h_9 := ir_0_13 hI
      refine v_gi (z := 13) (v := c 0 13) c_81_6 kf_7_330 rfl (Nat.le_of_ble_eq_true rfl) rfl rfl rfl (q_iconst c_81_9 (v_iadd (v := c 0 13 + 1) c_81_10 rfl (v_nrm (fun y_10 hy_10 => (v_pi (z := 13) c_81_11 kf_7_330 rfl (Nat.le_of_ble_eq_true rfl) rfl rfl rfl (of_decide_eq_true rfl) (v_new c_81_14 rfl (of_decide_eq_true rfl) (by omega) (Nat.le_of_ble_eq_true rfl) (of_decide_eq_true rfl) rfl (bk_out rfl rfl (bk_out rfl rfl ?_))))))))
      have hI_11 := iw_0_13 (v := y_10) hI ⟨hy_10.1, hy_10.2⟩
      have h_12 : (up c 0 13 y_10) 1 3 = c 1 3 := (up_c (nn rfl))
      exact T101 _ hI_11 (fun a j hm => up_b (Decidable.or_iff_not_imp_left.mpr (fun h1 h2 => hm ⟨Decidable.not_not.mp h1, h2⟩))) (by first | assumption | omega) (by omega)
    · refine v_ic_gt_f (t := 14) c_80_7 rfl ⟨ha1.1, (Int.not_lt.mp h_8), by omega⟩ (q_iconst c_80_10 (q_goto (t := 15) c_80_11 rfl (v_zret c_80_15 rfl (of_decide_eq_true rfl) (bk_inl (v_cv c_82_17 km_7_161 rfl rfl (Nat.le_of_ble_eq_true rfl) ⟨⟨rfl, rfl⟩, Nat.le_of_ble_eq_true rfl, rfl⟩ (Nat.le_of_ble_eq_true rfl) (Nat.le_of_ble_eq_true rfl) (q_iload_n c_81_0 rfl (v_if_ne_t (t := 25) c_81_1 rfl (of_decide_eq_true rfl) ?_)))))))
      refine q_vret rfl rfl (bk_inl (q_aload_n c_82_20 rfl (v_gr (t := 1) c_82_21 kf_7_10 rfl (Nat.le_of_ble_eq_true rfl) rfl (q_iload_n c_82_24 rfl (v_cv c_82_25 km_7_348 rfl rfl (Nat.le_of_ble_eq_true rfl) ⟨⟨rfl, rfl⟩, Nat.le_of_ble_eq_true rfl, rfl⟩ (Nat.le_of_ble_eq_true rfl) (Nat.le_of_ble_eq_true rfl) (s_74 (a1 := a1) hI (show 0 ≤ a1 ∧ a1 ≤ 600 from ⟨(q_720657ba9 h_3), by omega⟩) (fun c_13 hI_14 hF_15 h_16 => (bk_inl ?_))))))))
      have h_17 := ir_1_3 hI_14
      refine q_vret rfl rfl (bk_inl (q_aload_n c_85_8 rfl (v_gr (t := P) c_85_9 kf_7_50 rfl (Nat.le_of_ble_eq_true rfl) rfl (v_gr (t := (P + 7)) c_85_12 kf_7_109 (ck_p0 hP) (a68z hP) rfl (q_aload_n c_85_15 rfl (v_gr (t := 1) c_85_16 kf_7_10 rfl (Nat.le_of_ble_eq_true rfl) rfl (v_cv c_85_19 km_7_113 rfl (ck_p7 hP) (a68 hP rfl) ⟨⟨rfl, rfl⟩, of_decide_eq_true rfl, rfl⟩ (Nat.le_of_ble_eq_true rfl) (Nat.le_of_ble_eq_true rfl) (s_17 hI_14 hP (fun c_18 hI_19 hF_20 => ?_)))))))))
      refine bk_inl (q_aload_n c_85_22 rfl (q_iconst c_85_23 (v_cv c_85_24 km_7_105 rfl rfl (Nat.le_of_ble_eq_true rfl) ⟨⟨rfl, rfl⟩, Nat.le_of_ble_eq_true rfl, rfl⟩ (Nat.le_of_ble_eq_true rfl) (Nat.le_of_ble_eq_true rfl) (q_aload_n c_83_0 rfl (v_gr (t := 1) c_83_1 kf_7_10 rfl (Nat.le_of_ble_eq_true rfl) rfl (v_cv c_83_4 km_7_89 rfl rfl (Nat.le_of_ble_eq_true rfl) ⟨⟨rfl, rfl⟩, Nat.le_of_ble_eq_true rfl, rfl⟩ (Nat.le_of_ble_eq_true rfl) (Nat.le_of_ble_eq_true rfl) (q_aload_n c_2_0 rfl ?_)))))))
      have h_21 := ir_1_4 hI_19
      refine v_gi (z := 4) (v := c_18 1 4) c_2_1 kf_5_38 rfl (Nat.le_of_ble_eq_true rfl) rfl rfl rfl ?_
      by_cases h_22 : c_18 1 4 ≠ 0
      · refine v_if_ne_t (t := 11) c_2_4 rfl ⟨h_22, ⟨(lel h_21.1 rfl), (ler h_21.2 rfl)⟩, of_decide_eq_true rfl, of_decide_eq_true rfl⟩ (q_iconst c_2_11 (v_zret c_2_12 rfl (of_decide_eq_true rfl) (bk_inl (v_if_eq_t (t := 14) c_83_7 rfl (of_decide_eq_true rfl) (q_aload_n c_83_14 rfl (v_gr (t := 1) c_83_15 kf_7_10 rfl (Nat.le_of_ble_eq_true rfl) rfl (v_gi (z := 4) (v := c_18 1 4) c_83_18 kf_7_351 rfl (Nat.le_of_ble_eq_true rfl) rfl rfl rfl ?_)))))))
        refine v_bip c_83_21 (of_decide_eq_true rfl) (v_isub (v := c_18 1 4 - 10) c_83_23 rfl (q_iret c_83_24 rfl (bk_inl (q_iret c_85_27 rfl ?_))))
        have kn_23 : Hid (c_18 1 3 = c_13 1 3) := hF_20 1 3 (qn_bbaf5a82a hP)
        have h_24 : c_18 1 3 = c_13 1 3 := (hid kn_23)
        exact K c_18 (c_18 1 4 - 10) hI_19 (fun a j hm => (hF_20 a j (qv_272e5d439 hm)).trans (hF_15 a j (qv_e2c871ddd hm))) ⟨(rgm_l h_21.1 (of_decide_eq_true rfl)), (rgm_h h_21.2 (of_decide_eq_true rfl))⟩ ⟨(q_1317ba452 h_16 h_17), (q_720657ba9 h_3), by first | (clear ha1 h_1 h_3 h_17 h_16 h_21 h_22; omega) | omega, by first | (clear ha1 h_1 h_3 h_17 h_16 h_21 h_22; omega) | omega⟩
      · refine v_if_ne_f (t := 11) c_2_4 rfl (Decidable.not_not.mp h_22) (q_iconst c_2_7 (q_goto (t := 12) c_2_8 rfl (v_zret c_2_12 rfl (of_decide_eq_true rfl) (bk_inl (v_if_eq_f (t := 14) c_83_7 rfl (of_decide_eq_true rfl) (q_iload_n c_83_10 rfl (q_goto (t := 24) c_83_11 rfl ?_)))))))
        refine q_iret c_83_24 rfl (bk_inl (q_iret c_85_27 rfl ?_))
        have kn_25 : Hid (c_18 1 3 = c_13 1 3) := hF_20 1 3 (qn_bbaf5a82a hP)
        have h_26 : c_18 1 3 = c_13 1 3 := (hid kn_25)
        exact K c_18 1 hI_19 (fun a j hm => (hF_20 a j (qv_272e5d439 hm)).trans (hF_15 a j (qv_e2c871ddd hm))) ⟨of_decide_eq_true rfl, of_decide_eq_true rfl⟩ ⟨(q_1317ba452 h_16 h_17), (q_720657ba9 h_3), by omega, by omega⟩
