section
/-! ===== contracts 6 ===== -/
theorem qn_48a4791f9 {P : Nat} {j : Int} (hP : P = 13 ∨ P = 25) : ¬ ((P = 3 ∧ j = 3) ∨ (P = 3 ∧ j = 4)) := (fun q => q.elim (fun h => absurd h.1 (np0 hP rfl)) (fun h => absurd h.1 (np0 hP rfl)))
theorem qv_0c05fdd3f {a : Nat} {j : Int} (hm : ¬ (a = 38 ∨ a = 40 ∨ (a = 3 ∧ j = 3) ∨ (a = 3 ∧ j = 4) ∨ (a = 0 ∧ j = 11))) : ¬ ((a = 3 ∧ j = 3) ∨ (a = 3 ∧ j = 4)) := (fun q => q.elim (fun h => hm (Or.inr (Or.inr (Or.inl h)))) (fun h => hm (Or.inr (Or.inr (Or.inr (Or.inl h))))))
theorem q_8f97c4ef8 {x0 : Int} (f0 : 0 ≤ x0 ∧ x0 ≤ 3) : (-2147483648) ≤ x0 - 10 := by omega
theorem q_36926c81e {x0 : Int} (f0 : 0 ≤ x0 ∧ x0 ≤ 3) : x0 - 10 ≤ 2147483647 := by omega
theorem q_e97a17f6e {x0 : Int} (f0 : x0 < 0) : x0 < 0 := by omega
theorem q_0e7f65a30 {x0 x1 : Int} (f0 : x0 > x1) : x1 < x0 := by omega
theorem q_720657ba9 {x0 : Int} (f0 : ¬ (x0 < 0)) : 0 ≤ x0 := by omega
theorem q_1f9ec8cac {x0 x1 : Int} (f0 : 0 ≤ x0 ∧ x0 ≤ 600) (f1 : ¬ (x1 > x0)) : x1 ≤ 600 := by omega
theorem qn_815d5b90e {P : Nat} {j : Int} (hP : P = 13 ∨ P = 25) : ¬ ((P = 1 ∧ j = 1) ∨ (P = 1 ∧ j = 2) ∨ (P = 1 ∧ j = 3) ∨ (P = 1 ∧ j = 4) ∨ (P = 1 ∧ j = 5)) := (fun q => q.elim (fun h => absurd h.1 (np0 hP rfl)) (fun q => q.elim (fun h => absurd h.1 (np0 hP rfl)) (fun q => q.elim (fun h => absurd h.1 (np0 hP rfl)) (fun q => q.elim (fun h => absurd h.1 (np0 hP rfl)) (fun h => absurd h.1 (np0 hP rfl))))))
theorem qn_487957296 {Q : Nat} (hQ : Q = 13 ∨ Q = 25) : ¬ (((1 : Nat) = 1 ∧ (3 : Int) = 2) ∨ ((1 : Nat) = 1 ∧ (3 : Int) = 4) ∨ ((1 : Nat) = 1 ∧ (3 : Int) = 5) ∨ ((1 : Nat) = Q ∧ (3 : Int) = 0) ∨ ((1 : Nat) = Q ∧ (3 : Int) = 1) ∨ ((1 : Nat) = Q ∧ (3 : Int) = 2) ∨ ((1 : Nat) = Q ∧ (3 : Int) = 3) ∨ (1 : Nat) = (Q + 1) ∨ (1 : Nat) = (Q + 2) ∨ (1 : Nat) = (Q + 3) ∨ ((1 : Nat) = Q ∧ (3 : Int) = 4) ∨ ((1 : Nat) = Q ∧ (3 : Int) = 5) ∨ (1 : Nat) = (Q + 6) ∨ ((1 : Nat) = (Q + 7) ∧ (3 : Int) = 4)) := (fun q => q.elim (fun h => absurd h.2 (ni rfl)) (fun q => q.elim (fun h => absurd h.2 (ni rfl)) (fun q => q.elim (fun h => absurd h.2 (ni rfl)) (fun q => q.elim (fun h => absurd h.1 (pn0 hQ rfl)) (fun q => q.elim (fun h => absurd h.1 (pn0 hQ rfl)) (fun q => q.elim (fun h => absurd h.1 (pn0 hQ rfl)) (fun q => q.elim (fun h => absurd h.1 (pn0 hQ rfl)) (fun q => q.elim (fun h => absurd h (pn hQ rfl rfl)) (fun q => q.elim (fun h => absurd h (pn hQ rfl rfl)) (fun q => q.elim (fun h => absurd h (pn hQ rfl rfl)) (fun q => q.elim (fun h => absurd h.1 (pn0 hQ rfl)) (fun q => q.elim (fun h => absurd h.1 (pn0 hQ rfl)) (fun q => q.elim (fun h => absurd h (pn hQ rfl rfl)) (fun h => absurd h.1 (pn hQ rfl rfl)))))))))))))))
theorem qv_5740efcd4 {a : Nat} {j : Int} (hm : ¬ ((a = 1 ∧ j = 1) ∨ (a = 1 ∧ j = 2) ∨ (a = 1 ∧ j = 3) ∨ (a = 1 ∧ j = 4) ∨ (a = 1 ∧ j = 5) ∨ (a = 0 ∧ j = 13) ∨ a = 38 ∨ a = 40 ∨ (a = 3 ∧ j = 3) ∨ (a = 3 ∧ j = 4) ∨ (a = 0 ∧ j = 11) ∨ (13 ≤ a ∧ a ≤ 36))) : ¬ ((a = 1 ∧ j = 1) ∨ (a = 1 ∧ j = 2) ∨ (a = 1 ∧ j = 3) ∨ (a = 1 ∧ j = 4) ∨ (a = 1 ∧ j = 5)) := (fun q => q.elim (fun h => hm (Or.inl h)) (fun q => q.elim (fun h => hm (Or.inr (Or.inl h))) (fun q => q.elim (fun h => hm (Or.inr (Or.inr (Or.inl h)))) (fun q => q.elim (fun h => hm (Or.inr (Or.inr (Or.inr (Or.inl h))))) (fun h => hm (Or.inr (Or.inr (Or.inr (Or.inr (Or.inl h))))))))))
theorem q_1317ba452 {x0 : Int} (f0 : (x0 = 0)) (f1 : 0 ≤ x0 ∧ x0 ≤ 600) : x0 = 0 := by omega
theorem q_0325d56da {x0 x1 : Int} (f0 : ¬ (x0 > x1)) : x0 ≤ x1 := by omega
theorem qv_8a1a2df1d {a : Nat} {j : Int} (hm : ¬ ((a = 1 ∧ j = 1) ∨ (a = 1 ∧ j = 2) ∨ (a = 1 ∧ j = 3) ∨ (a = 1 ∧ j = 4) ∨ (a = 1 ∧ j = 5) ∨ (a = 0 ∧ j = 13) ∨ a = 38 ∨ a = 40 ∨ (a = 3 ∧ j = 3) ∨ (a = 3 ∧ j = 4) ∨ (a = 0 ∧ j = 11) ∨ (13 ≤ a ∧ a ≤ 36))) : ¬ (a = 38 ∨ a = 40 ∨ (a = 3 ∧ j = 3) ∨ (a = 3 ∧ j = 4) ∨ (a = 0 ∧ j = 11)) := (fun q => q.elim (fun h => hm (Or.inr (Or.inr (Or.inr (Or.inr (Or.inr (Or.inr (Or.inl h)))))))) (fun q => q.elim (fun h => hm (Or.inr (Or.inr (Or.inr (Or.inr (Or.inr (Or.inr (Or.inr (Or.inl h))))))))) (fun q => q.elim (fun h => hm (Or.inr (Or.inr (Or.inr (Or.inr (Or.inr (Or.inr (Or.inr (Or.inr (Or.inl h)))))))))) (fun q => q.elim (fun h => hm (Or.inr (Or.inr (Or.inr (Or.inr (Or.inr (Or.inr (Or.inr (Or.inr (Or.inr (Or.inl h))))))))))) (fun h => hm (Or.inr (Or.inr (Or.inr (Or.inr (Or.inr (Or.inr (Or.inr (Or.inr (Or.inr (Or.inr (Or.inl h))))))))))))))))
theorem qn_bbaf5a82a {P : Nat} (hP : P = 13 ∨ P = 25) : ¬ (((1 : Nat) = 1 ∧ (3 : Int) = 2) ∨ ((1 : Nat) = 1 ∧ (3 : Int) = 4) ∨ ((1 : Nat) = 1 ∧ (3 : Int) = 5) ∨ ((1 : Nat) = (P + 7) ∧ (3 : Int) = 5) ∨ (1 : Nat) = (P + 9) ∨ ((1 : Nat) = (P + 7) ∧ (3 : Int) = 4) ∨ (1 : Nat) = (P + 8)) := (fun q => q.elim (fun h => absurd h.2 (ni rfl)) (fun q => q.elim (fun h => absurd h.2 (ni rfl)) (fun q => q.elim (fun h => absurd h.2 (ni rfl)) (fun q => q.elim (fun h => absurd h.1 (pn hP rfl rfl)) (fun q => q.elim (fun h => absurd h (pn hP rfl rfl)) (fun q => q.elim (fun h => absurd h.1 (pn hP rfl rfl)) (fun h => absurd h (pn hP rfl rfl))))))))
theorem qv_272e5d439 {P : Nat} {a : Nat} {j : Int} (hm : ¬ ((a = 1 ∧ j = 1) ∨ (a = 1 ∧ j = 2) ∨ (a = 1 ∧ j = 3) ∨ (a = 1 ∧ j = 4) ∨ (a = 1 ∧ j = 5) ∨ (a = 0 ∧ j = 13) ∨ (a = (P + 7) ∧ j = 5) ∨ a = (P + 9) ∨ (a = (P + 7) ∧ j = 4) ∨ a = (P + 8))) : ¬ ((a = 1 ∧ j = 2) ∨ (a = 1 ∧ j = 4) ∨ (a = 1 ∧ j = 5) ∨ (a = (P + 7) ∧ j = 5) ∨ a = (P + 9) ∨ (a = (P + 7) ∧ j = 4) ∨ a = (P + 8)) := (fun q => q.elim (fun h => hm (Or.inr (Or.inl h))) (fun q => q.elim (fun h => hm (Or.inr (Or.inr (Or.inr (Or.inl h))))) (fun q => q.elim (fun h => hm (Or.inr (Or.inr (Or.inr (Or.inr (Or.inl h)))))) (fun q => q.elim (fun h => hm (Or.inr (Or.inr (Or.inr (Or.inr (Or.inr (Or.inr (Or.inl h)))))))) (fun q => q.elim (fun h => hm (Or.inr (Or.inr (Or.inr (Or.inr (Or.inr (Or.inr (Or.inr (Or.inl h))))))))) (fun q => q.elim (fun h => hm (Or.inr (Or.inr (Or.inr (Or.inr (Or.inr (Or.inr (Or.inr (Or.inr (Or.inl h)))))))))) (fun h => hm (Or.inr (Or.inr (Or.inr (Or.inr (Or.inr (Or.inr (Or.inr (Or.inr (Or.inr h))))))))))))))))
theorem qv_e2c871ddd {P : Nat} {a : Nat} {j : Int} (hm : ¬ ((a = 1 ∧ j = 1) ∨ (a = 1 ∧ j = 2) ∨ (a = 1 ∧ j = 3) ∨ (a = 1 ∧ j = 4) ∨ (a = 1 ∧ j = 5) ∨ (a = 0 ∧ j = 13) ∨ (a = (P + 7) ∧ j = 5) ∨ a = (P + 9) ∨ (a = (P + 7) ∧ j = 4) ∨ a = (P + 8))) : ¬ ((a = 1 ∧ j = 1) ∨ (a = 1 ∧ j = 2) ∨ (a = 1 ∧ j = 3) ∨ (a = 1 ∧ j = 4) ∨ (a = 1 ∧ j = 5)) := (fun q => q.elim (fun h => hm (Or.inl h)) (fun q => q.elim (fun h => hm (Or.inr (Or.inl h))) (fun q => q.elim (fun h => hm (Or.inr (Or.inr (Or.inl h)))) (fun q => q.elim (fun h => hm (Or.inr (Or.inr (Or.inr (Or.inl h))))) (fun h => hm (Or.inr (Or.inr (Or.inr (Or.inr (Or.inl h))))))))))
theorem c_84_47 : mLk 84 47 = some (.aload_n 0, 1) := rfl
theorem c_84_48 : mLk 84 48 = some (.getfield 62, 3) := rfl
theorem c_84_51 : mLk 84 51 = some (.aload_n 0, 1) := rfl
theorem c_84_52 : mLk 84 52 = some (.getfield 50, 3) := rfl
theorem c_84_55 : mLk 84 55 = some (.invokevirtual 93, 3) := rfl
theorem c_84_58 : mLk 84 58 = some (.aload_n 0, 1) := rfl
theorem c_84_59 : mLk 84 59 = some (.getfield 66, 3) := rfl
theorem c_84_62 : mLk 84 62 = some (.aload_n 0, 1) := rfl
theorem c_84_63 : mLk 84 63 = some (.getfield 50, 3) := rfl
theorem c_84_66 : mLk 84 66 = some (.invokevirtual 93, 3) := rfl
theorem c_84_69 : mLk 84 69 = some (.aload_n 0, 1) := rfl
theorem c_84_70 : mLk 84 70 = some (.getfield 19, 3) := rfl
theorem c_84_73 : mLk 84 73 = some (.invokevirtual 96, 3) := rfl
theorem c_84_76 : mLk 84 76 = some (.aload_n 0, 1) := rfl
theorem c_84_77 : mLk 84 77 = some (.iconst 0, 1) := rfl
theorem c_84_78 : mLk 84 78 = some (.putfield 99, 3) := rfl
theorem c_84_81 : mLk 84 81 = some (.aload_n 0, 1) := rfl
theorem c_84_82 : mLk 84 82 = some (.aload_n 0, 1) := rfl
theorem c_84_83 : mLk 84 83 = some (.getfield 50, 3) := rfl
theorem c_84_86 : mLk 84 86 = some (.getfield 102, 3) := rfl
theorem c_84_89 : mLk 84 89 = some (.invokevirtual 105, 3) := rfl
theorem c_83_0 : mLk 83 0 = some (.aload_n 0, 1) := rfl
theorem c_83_1 : mLk 83 1 = some (.getfield 10, 3) := rfl
theorem c_83_4 : mLk 83 4 = some (.invokevirtual 89, 3) := rfl
theorem c_83_7 : mLk 83 7 = some (.ifCond .eq 7, 3) := rfl
theorem c_83_14 : mLk 83 14 = some (.aload_n 0, 1) := rfl
theorem c_83_15 : mLk 83 15 = some (.getfield 10, 3) := rfl
theorem c_83_18 : mLk 83 18 = some (.getfield 351, 3) := rfl
theorem c_83_21 : mLk 83 21 = some (.bipush 10, 2) := rfl
theorem c_83_23 : mLk 83 23 = some (.isub, 1) := rfl
theorem c_83_24 : mLk 83 24 = some (.ireturn, 1) := rfl
theorem c_84_92 : mLk 84 92 = some (.ireturn, 1) := rfl
theorem c_83_10 : mLk 83 10 = some (.iload_n 1, 1) := rfl
theorem c_83_11 : mLk 83 11 = some (.goto 13, 3) := rfl
theorem c_84_0 : mLk 84 0 = some (.aload_n 0, 1) := rfl
theorem c_84_1 : mLk 84 1 = some (.iload_n 1, 1) := rfl
theorem c_84_2 : mLk 84 2 = some (.sipush 600, 3) := rfl
theorem c_84_5 : mLk 84 5 = some (.invokevirtual 81, 3) := rfl
theorem c_82_0 : mLk 82 0 = some (.aload_n 0, 1) := rfl
theorem c_82_1 : mLk 82 1 = some (.iload_n 1, 1) := rfl
theorem c_82_2 : mLk 82 2 = some (.iconst 0, 1) := rfl
theorem c_82_3 : mLk 82 3 = some (.iload_n 2, 1) := rfl
theorem c_82_4 : mLk 82 4 = some (.aload_n 0, 1) := rfl
theorem c_82_5 : mLk 82 5 = some (.getfield 10, 3) := rfl
theorem c_82_8 : mLk 82 8 = some (.getfield 77, 3) := rfl
theorem c_82_11 : mLk 82 11 = some (.invokestatic 278, 3) := rfl
theorem c_82_14 : mLk 82 14 = some (.invokestatic 157, 3) := rfl
theorem c_80_0 : mLk 80 0 = some (.iload_n 0, 1) := rfl
theorem c_80_1 : mLk 80 1 = some (.iload_n 1, 1) := rfl
theorem c_80_2 : mLk 80 2 = some (.if_icmp .lt 12, 3) := rfl
theorem c_80_14 : mLk 80 14 = some (.iconst 0, 1) := rfl
theorem c_80_15 : mLk 80 15 = some (.ireturn, 1) := rfl
theorem c_82_17 : mLk 82 17 = some (.invokevirtual 161, 3) := rfl
theorem c_81_0 : mLk 81 0 = some (.iload_n 1, 1) := rfl
theorem c_81_1 : mLk 81 1 = some (.ifCond .ne 24, 3) := rfl
theorem c_81_4 : mLk 81 4 = some (.aload_n 0, 1) := rfl
theorem c_81_5 : mLk 81 5 = some (.dup, 1) := rfl
theorem c_81_6 : mLk 81 6 = some (.getfield 330, 3) := rfl
theorem c_81_9 : mLk 81 9 = some (.iconst 1, 1) := rfl
theorem c_81_10 : mLk 81 10 = some (.iadd, 1) := rfl
theorem c_81_11 : mLk 81 11 = some (.putfield 330, 3) := rfl
theorem c_81_14 : mLk 81 14 = some (.new 343, 3) := rfl
theorem c_80_5 : mLk 80 5 = some (.iload_n 0, 1) := rfl
theorem c_80_6 : mLk 80 6 = some (.iload_n 2, 1) := rfl
theorem c_80_7 : mLk 80 7 = some (.if_icmp .gt 7, 3) := rfl
theorem c_80_10 : mLk 80 10 = some (.iconst 1, 1) := rfl
theorem c_80_11 : mLk 80 11 = some (.goto 4, 3) := rfl
theorem c_82_20 : mLk 82 20 = some (.aload_n 0, 1) := rfl
theorem c_82_21 : mLk 82 21 = some (.getfield 10, 3) := rfl
theorem c_82_24 : mLk 82 24 = some (.iload_n 1, 1) := rfl
theorem c_82_25 : mLk 82 25 = some (.invokevirtual 348, 3) := rfl
theorem c_84_8 : mLk 84 8 = some (.aload_n 0, 1) := rfl
theorem c_84_9 : mLk 84 9 = some (.getfield 54, 3) := rfl
theorem c_84_12 : mLk 84 12 = some (.aload_n 0, 1) := rfl
theorem c_84_13 : mLk 84 13 = some (.getfield 10, 3) := rfl
theorem c_84_16 : mLk 84 16 = some (.invokevirtual 85, 3) := rfl
theorem c_84_19 : mLk 84 19 = some (.aload_n 0, 1) := rfl
theorem c_84_20 : mLk 84 20 = some (.getfield 10, 3) := rfl
theorem c_84_23 : mLk 84 23 = some (.invokevirtual 89, 3) := rfl
theorem c_84_26 : mLk 84 26 = some (.ifCond .eq 55, 3) := rfl
theorem c_84_29 : mLk 84 29 = some (.aload_n 0, 1) := rfl
theorem c_84_30 : mLk 84 30 = some (.getfield 50, 3) := rfl
theorem c_84_33 : mLk 84 33 = some (.astore_n 2, 1) := rfl
theorem c_84_34 : mLk 84 34 = some (.aload_n 0, 1) := rfl
theorem c_84_35 : mLk 84 35 = some (.aload_n 0, 1) := rfl
theorem c_84_36 : mLk 84 36 = some (.getfield 54, 3) := rfl
theorem c_84_39 : mLk 84 39 = some (.putfield 50, 3) := rfl
theorem c_85_0 : mLk 85 0 = some (.aload_n 0, 1) := rfl
theorem c_85_1 : mLk 85 1 = some (.iload_n 1, 1) := rfl
theorem c_85_2 : mLk 85 2 = some (.sipush 150, 3) := rfl
theorem c_85_5 : mLk 85 5 = some (.invokevirtual 81, 3) := rfl
theorem c_85_8 : mLk 85 8 = some (.aload_n 0, 1) := rfl
theorem c_85_9 : mLk 85 9 = some (.getfield 50, 3) := rfl
theorem c_85_12 : mLk 85 12 = some (.getfield 109, 3) := rfl
theorem c_85_15 : mLk 85 15 = some (.aload_n 0, 1) := rfl
theorem c_85_16 : mLk 85 16 = some (.getfield 10, 3) := rfl
theorem c_85_19 : mLk 85 19 = some (.invokevirtual 113, 3) := rfl
theorem c_85_22 : mLk 85 22 = some (.aload_n 0, 1) := rfl
theorem c_85_23 : mLk 85 23 = some (.iconst 1, 1) := rfl
theorem c_85_24 : mLk 85 24 = some (.invokevirtual 105, 3) := rfl
theorem c_85_27 : mLk 85 27 = some (.ireturn, 1) := rfl
theorem kf_7_102 : a_lk (kF 7) 102 = some (2, 0) := rfl
theorem kf_7_109 : a_lk (kF 7) 109 = some (2, 12) := rfl
theorem kf_7_19 : a_lk (kF 7) 19 = some (7, 1) := rfl
theorem kf_7_330 : a_lk (kF 7) 330 = some (7, 13) := rfl
theorem kf_7_351 : a_lk (kF 7) 351 = some (5, 4) := rfl
theorem kf_7_50 : a_lk (kF 7) 50 = some (7, 7) := rfl
theorem kf_7_54 : a_lk (kF 7) 54 = some (7, 8) := rfl
theorem kf_7_62 : a_lk (kF 7) 62 = some (7, 9) := rfl
theorem kf_7_66 : a_lk (kF 7) 66 = some (7, 10) := rfl
theorem kf_7_99 : a_lk (kF 7) 99 = some (7, 11) := rfl
theorem km_7_105 : a_lk (kM 7) 105 = some (0, 83) := rfl
theorem km_7_113 : a_lk (kM 7) 113 = some (0, 17) := rfl
theorem km_7_161 : a_lk (kM 7) 161 = some (0, 81) := rfl
theorem km_7_348 : a_lk (kM 7) 348 = some (0, 74) := rfl
theorem km_7_81 : a_lk (kM 7) 81 = some (0, 82) := rfl
theorem km_7_85 : a_lk (kM 7) 85 = some (0, 34) := rfl
theorem km_7_89 : a_lk (kM 7) 89 = some (0, 2) := rfl
theorem km_7_93 : a_lk (kM 7) 93 = some (0, 65) := rfl
theorem km_7_96 : a_lk (kM 7) 96 = some (0, 22) := rfl
set_option maxRecDepth 100000 in
set_option maxHeartbeats 4000000 in
theorem s_84t {sc : List Int32} {d P Q : Nat} {c : ME} {Z : AR → Prop} (hI : Iv 0 (-1) P Q c)  (K : ∀ (c2 : ME) (y : Int), Iv 0 (-1) P Q c2 → (∀ (a : Nat) (j : Int), ¬ (a = 38 ∨ a = 40 ∨ (a = 3 ∧ j = 3) ∨ (a = 3 ∧ j = 4) ∨ (a = 0 ∧ j = 11)) → c2 a j = c a j) → (-2147483648) ≤ y ∧ y ≤ 2147483647 → Z (.inl (some (vi y)), Wd P Q P P c2, 0, 0)) : Wp sc (d + 13) 84 47 [(0, .ref 0)] [] (Wd P Q Q Q c) 0 0 Z := by
  have hP := iv_P hI
  have hQ := iv_Q hI
  refine q_aload_n c_84_47 rfl (v_gr (t := 37) c_84_48 kf_7_62 rfl (nb_ rfl) rfl (q_aload_n c_84_51 rfl (v_gr (t := P) c_84_52 kf_7_50 rfl (nb_ rfl) rfl (v_cv c_84_55 km_7_93 rfl rfl (nb_ rfl) ⟨⟨rfl, rfl⟩, nb_ rfl, rfl⟩ (nb_ rfl) (nb_ rfl) (s_65a hI (fun c_1 hI_2 hF_3 => (bk_inl (q_aload_n c_84_58 rfl (v_gr (t := 39) c_84_59 kf_7_66 rfl (nb_ rfl) rfl ?_)))))))))
  refine q_aload_n c_84_62 rfl (v_gr (t := P) c_84_63 kf_7_50 rfl (nb_ rfl) rfl (v_cv c_84_66 km_7_93 rfl rfl (nb_ rfl) ⟨⟨rfl, rfl⟩, nb_ rfl, rfl⟩ (nb_ rfl) (nb_ rfl) (s_65b hI_2 (fun c_4 hI_5 hF_6 => (bk_inl (q_aload_n c_84_69 rfl (v_gr (t := 3) c_84_70 kf_7_19 rfl (nb_ rfl) rfl (v_cv c_84_73 km_7_96 rfl rfl (nb_ rfl) ⟨⟨rfl, rfl⟩, nb_ rfl, rfl⟩ (nb_ rfl) (nb_ rfl) (s_22 hI_5 (fun c_7 hI_8 hF_9 h_10 => (bk_inl ?_)))))))))))
  have h_11 := ir_3_3 hI_8
  have h_12 := ir_3_4 hI_8
  refine q_aload_n c_84_76 rfl (q_iconst c_84_77 (v_pi (z := 11) c_84_78 kf_7_99 rfl (nb_ rfl) rfl rfl rfl (by decide) (q_aload_n c_84_81 rfl (q_aload_n c_84_82 rfl (v_gr (t := P) c_84_83 kf_7_50 rfl (nb_ rfl) rfl ?_)))))
  have h_13 := ir_p0_0 hI hP
  have kn_14 : Hid (c_1 P 0 = c P 0) := hF_3 P 0 (fun h => absurd h (np0 hP rfl))
  have kn_15 : Hid (c_4 P 0 = c P 0) := (hF_6 P 0 (fun h => absurd h (np0 hP rfl))).trans (hid kn_14)
  have kn_16 : Hid (c_7 P 0 = c P 0) := (hF_9 P 0 (qn_48a4791f9 hP)).trans (hid kn_15)
  refine v_gi (z := 0) (v := c P 0) c_84_86 kf_7_102 (ck_p0 hP) (a68z hP) rfl rfl ((up_c (np0 hP rfl)).trans (hid kn_16)) (v_cv c_84_89 km_7_105 rfl rfl (nb_ rfl) ⟨⟨rfl, rfl⟩, nb_ rfl, rfl⟩ (nb_ rfl) (nb_ rfl) (q_aload_n c_83_0 rfl (v_gr (t := 1) c_83_1 kf_7_10 rfl (nb_ rfl) rfl (v_cv c_83_4 km_7_89 rfl rfl (nb_ rfl) ⟨⟨rfl, rfl⟩, nb_ rfl, rfl⟩ (nb_ rfl) (nb_ rfl) (q_aload_n c_2_0 rfl ?_)))))
  have h_17 := ir_1_4 hI
  have kn_18 : Hid (c_1 1 4 = c 1 4) := hF_3 1 4 (fun h => absurd h (nn rfl))
  have kn_19 : Hid (c_4 1 4 = c 1 4) := (hF_6 1 4 (fun h => absurd h (nn rfl))).trans (hid kn_18)
  have kn_20 : Hid (c_7 1 4 = c 1 4) := (hF_9 1 4 (fun q => q.elim (fun h => absurd h.1 (nn rfl)) (fun h => absurd h.1 (nn rfl)))).trans (hid kn_19)
  refine v_gi (z := 4) (v := c 1 4) c_2_1 kf_5_38 rfl (nb_ rfl) rfl rfl ((up_c (nn rfl)).trans (hid kn_20)) ?_
  by_cases h_21 : c 1 4 ≠ 0
  · refine v_if_ne_t (t := 11) c_2_4 rfl ⟨h_21, ⟨by first | exact q_107d648c6 h_17 | omega, by first | exact q_509aaa6b6 h_17 | omega⟩, by decide, by decide⟩ (q_iconst c_2_11 (v_zret c_2_12 rfl (by decide) (bk_inl (v_if_eq_t (t := 14) c_83_7 rfl (by decide) (q_aload_n c_83_14 rfl (v_gr (t := 1) c_83_15 kf_7_10 rfl (nb_ rfl) rfl (v_gi (z := 4) (v := c 1 4) c_83_18 kf_7_351 rfl (nb_ rfl) rfl rfl ((up_c (nn rfl)).trans (hid kn_20)) ?_)))))))
    refine v_bip c_83_21 (by decide) (v_isub (v := c 1 4 - 10) c_83_23 rfl (q_iret c_83_24 rfl (bk_inl (q_iret c_84_92 rfl ?_))))
    have hI_22 := iw_0_11 (v := 0) hI_8 ⟨by decide, by decide⟩
    exact K (up c_7 0 11 0) (c 1 4 - 10) hI_22 (fun a j hm => (up_b (Decidable.or_iff_not_imp_left.mpr (fun h1 h2 => hm (Or.inr (Or.inr (Or.inr (Or.inr ⟨Decidable.not_not.mp h1, h2⟩))))))).trans ((hF_9 a j (qv_0c05fdd3f hm)).trans ((hF_6 a j (fun h => hm (Or.inr (Or.inl h)))).trans (hF_3 a j (fun h => hm (Or.inl h)))))) ⟨by first | exact q_8f97c4ef8 h_17 | omega, by first | exact q_36926c81e h_17 | omega⟩
  · refine v_if_ne_f (t := 11) c_2_4 rfl (Decidable.not_not.mp h_21) (q_iconst c_2_7 (q_goto (t := 12) c_2_8 rfl (v_zret c_2_12 rfl (by decide) (bk_inl (v_if_eq_f (t := 14) c_83_7 rfl (by decide) (q_iload_n c_83_10 rfl (q_goto (t := 24) c_83_11 rfl ?_)))))))
    refine q_iret c_83_24 rfl (bk_inl (q_iret c_84_92 rfl ?_))
    have hI_23 := iw_0_11 (v := 0) hI_8 ⟨by decide, by decide⟩
    exact K (up c_7 0 11 0) (c P 0) hI_23 (fun a j hm => (up_b (Decidable.or_iff_not_imp_left.mpr (fun h1 h2 => hm (Or.inr (Or.inr (Or.inr (Or.inr ⟨Decidable.not_not.mp h1, h2⟩))))))).trans ((hF_9 a j (qv_0c05fdd3f hm)).trans ((hF_6 a j (fun h => hm (Or.inr (Or.inl h)))).trans (hF_3 a j (fun h => hm (Or.inl h)))))) ⟨by first | exact q_730ab5169 h_13 | omega, by first | exact q_b289b7db2 h_13 | omega⟩
set_option maxRecDepth 100000 in
set_option maxHeartbeats 4000000 in
theorem s_84 {sc : List Int32} {d P Q : Nat} {c : ME} {a1 : Int} {Z : AR → Prop} (hI : Iv 0 (-1) P Q c) (ha1 : (-2147483648) ≤ a1 ∧ a1 ≤ 2147483647) (T101 : ∀ c2 : ME, Iv 0 (-1) P Q c2 → (∀ (a : Nat) (j : Int), ¬ ((a = 0 ∧ j = 13)) → c2 a j = c a j) → ((c2 1 3 = c 1 3)) → ((a1 < 0) ∨ (a1 > c 1 3) ∨ (a1 > 600)) → Z (.inr 101, Wd P Q P P c2, 1, 6)) (K : ∀ (P2 Q2 : Nat) (c2 : ME) (y : Int), Iv 0 (-1) P2 Q2 c2 → (∀ (a : Nat) (j : Int), ¬ ((a = 1 ∧ j = 1) ∨ (a = 1 ∧ j = 2) ∨ (a = 1 ∧ j = 3) ∨ (a = 1 ∧ j = 4) ∨ (a = 1 ∧ j = 5) ∨ (a = 0 ∧ j = 13) ∨ a = 38 ∨ a = 40 ∨ (a = 3 ∧ j = 3) ∨ (a = 3 ∧ j = 4) ∨ (a = 0 ∧ j = 11) ∨ (13 ≤ a ∧ a ≤ 36)) → c2 a j = c a j) → ((-2147483648) ≤ y ∧ y ≤ 2147483647) → (c2 1 3 = 0 ∧ a1 ≥ 0 ∧ a1 ≤ c 1 3 ∧ a1 ≤ 600) → Z (.inl (some (vi y)), Wd P2 Q2 P2 P2 c2, 0, 0)) : Wp sc (d + 13) 84 0 [(0, .ref 0), (1, vi a1)] [] (Wd P Q P P c) 0 0 Z := by
  have hP := iv_P hI
  have hQ := iv_Q hI
  have hpq := iv_pq hI
  unfold Pq at hpq
  refine q_aload_n c_84_0 rfl (q_iload_n c_84_1 rfl (v_sip c_84_2 (by decide) (v_cv c_84_5 km_7_81 rfl rfl (nb_ rfl) ⟨⟨rfl, rfl⟩, nb_ rfl, rfl⟩ (nb_ rfl) (nb_ rfl) (q_aload_n c_82_0 rfl (q_iload_n c_82_1 rfl (q_iconst c_82_2 (q_iload_n c_82_3 rfl ?_)))))))
  refine q_aload_n c_82_4 rfl (v_gr (t := 1) c_82_5 kf_7_10 rfl (nb_ rfl) rfl ?_)
  have h_1 := ir_1_3 hI
  refine v_gi (z := 3) (v := c 1 3) c_82_8 kf_7_77 rfl (nb_ rfl) rfl rfl rfl (v_min_g c_82_11 rfl (by omega) (nb_ rfl) (by omega) (q_call c_82_14 rfl rfl rfl (q_iload_n c_80_0 rfl (q_iload_n c_80_1 rfl ?_))))
  by_cases h_2 : a1 < 0
  · refine v_ic_lt_t (t := 14) c_80_2 rfl ⟨ha1.1, h_2, by decide⟩ (q_iconst c_80_14 (v_zret c_80_15 rfl (by decide) (bk_inl (v_cv c_82_17 km_7_161 rfl rfl (nb_ rfl) ⟨⟨rfl, rfl⟩, nb_ rfl, rfl⟩ (nb_ rfl) (nb_ rfl) (q_iload_n c_81_0 rfl (v_if_ne_f (t := 25) c_81_1 rfl (by decide) (q_aload_n c_81_4 rfl ?_)))))))
    refine q_dup c_81_5 rfl ?_
    have h_3 := ir_0_13 hI
    refine v_gi (z := 13) (v := c 0 13) c_81_6 kf_7_330 rfl (nb_ rfl) rfl rfl rfl (q_iconst c_81_9 (v_iadd (v := c 0 13 + 1) c_81_10 rfl (v_nrm (fun y_4 hy_4 => (v_pi (z := 13) c_81_11 kf_7_330 rfl (nb_ rfl) rfl rfl rfl (by decide) (v_new c_81_14 rfl (by decide) (ld_ rfl) (nb_ rfl) (by decide) rfl (bk_out rfl rfl (bk_out rfl rfl ?_))))))))
    have hI_5 := iw_0_13 (v := y_4) hI ⟨hy_4.1, hy_4.2⟩
    have h_6 : (up c 0 13 y_4) 1 3 = c 1 3 := (up_c (nn rfl))
    exact T101 _ hI_5 (fun a j hm => up_b (Decidable.or_iff_not_imp_left.mpr (fun h1 h2 => hm ⟨Decidable.not_not.mp h1, h2⟩))) (by first | assumption | omega) (Or.inl (by first | exact q_e97a17f6e h_2 | omega))
  · refine v_ic_lt_f (t := 14) c_80_2 rfl ⟨by decide, (Int.not_lt.mp h_2), ha1.2⟩ (q_iload_n c_80_5 rfl (q_iload_n c_80_6 rfl ?_))
    by_cases h_7 : a1 > c 1 3
    · refine v_ic_gt_t (t := 14) c_80_7 rfl ⟨(Int.le_trans (by decide) h_1.1), h_7, ha1.2⟩ (q_iconst c_80_14 (v_zret c_80_15 rfl (by decide) (bk_inl (v_cv c_82_17 km_7_161 rfl rfl (nb_ rfl) ⟨⟨rfl, rfl⟩, nb_ rfl, rfl⟩ (nb_ rfl) (nb_ rfl) (q_iload_n c_81_0 rfl (v_if_ne_f (t := 25) c_81_1 rfl (by decide) (q_aload_n c_81_4 rfl ?_)))))))
      refine q_dup c_81_5 rfl ?_
      have h_8 := ir_0_13 hI
      refine v_gi (z := 13) (v := c 0 13) c_81_6 kf_7_330 rfl (nb_ rfl) rfl rfl rfl (q_iconst c_81_9 (v_iadd (v := c 0 13 + 1) c_81_10 rfl (v_nrm (fun y_9 hy_9 => (v_pi (z := 13) c_81_11 kf_7_330 rfl (nb_ rfl) rfl rfl rfl (by decide) (v_new c_81_14 rfl (by decide) (ld_ rfl) (nb_ rfl) (by decide) rfl (bk_out rfl rfl (bk_out rfl rfl ?_))))))))
      have hI_10 := iw_0_13 (v := y_9) hI ⟨hy_9.1, hy_9.2⟩
      have h_11 : (up c 0 13 y_9) 1 3 = c 1 3 := (up_c (nn rfl))
      exact T101 _ hI_10 (fun a j hm => up_b (Decidable.or_iff_not_imp_left.mpr (fun h1 h2 => hm ⟨Decidable.not_not.mp h1, h2⟩))) (by first | assumption | omega) (Or.inr (Or.inl (by first | exact q_0e7f65a30 h_7 | omega)))
    · refine v_ic_gt_f (t := 14) c_80_7 rfl ⟨ha1.1, (Int.not_lt.mp h_7), (Int.le_trans h_1.2 (by decide))⟩ (q_iconst c_80_10 (q_goto (t := 15) c_80_11 rfl (v_zret c_80_15 rfl (by decide) (bk_inl (v_cv c_82_17 km_7_161 rfl rfl (nb_ rfl) ⟨⟨rfl, rfl⟩, nb_ rfl, rfl⟩ (nb_ rfl) (nb_ rfl) (q_iload_n c_81_0 rfl (v_if_ne_t (t := 25) c_81_1 rfl (by decide) ?_)))))))
      refine q_vret rfl rfl (bk_inl (q_aload_n c_82_20 rfl (v_gr (t := 1) c_82_21 kf_7_10 rfl (nb_ rfl) rfl (q_iload_n c_82_24 rfl (v_cv c_82_25 km_7_348 rfl rfl (nb_ rfl) ⟨⟨rfl, rfl⟩, nb_ rfl, rfl⟩ (nb_ rfl) (nb_ rfl) (s_74 (a1 := a1) hI (show 0 ≤ a1 ∧ a1 ≤ 600 from ⟨by first | exact q_720657ba9 h_2 | omega, by first | exact q_1f9ec8cac h_1 h_7 | omega⟩) (fun c_12 hI_13 hF_14 h_15 => (bk_inl ?_))))))))
      have h_16 := ir_1_3 hI_13
      refine q_vret rfl rfl (bk_inl (q_aload_n c_84_8 rfl (v_gr (t := Q) c_84_9 kf_7_54 rfl (nb_ rfl) rfl (q_aload_n c_84_12 rfl (v_gr (t := 1) c_84_13 kf_7_10 rfl (nb_ rfl) rfl (v_cv c_84_16 km_7_85 rfl (ck_p0 hQ) (a68z hQ) ⟨⟨rfl, rfl⟩, by decide, rfl⟩ (nb_ rfl) (nb_ rfl) (s_34 hI_13 hQ (fun c_17 hI_18 hF_19 => (bk_inl ?_)))))))))
      refine q_aload_n c_84_19 rfl (v_gr (t := 1) c_84_20 kf_7_10 rfl (nb_ rfl) rfl (v_cv c_84_23 km_7_89 rfl rfl (nb_ rfl) ⟨⟨rfl, rfl⟩, nb_ rfl, rfl⟩ (nb_ rfl) (nb_ rfl) (q_aload_n c_2_0 rfl ?_)))
      have h_20 := ir_1_4 hI_18
      refine v_gi (z := 4) (v := c_17 1 4) c_2_1 kf_5_38 rfl (nb_ rfl) rfl rfl rfl ?_
      by_cases h_21 : c_17 1 4 ≠ 0
      · refine v_if_ne_t (t := 11) c_2_4 rfl ⟨h_21, ⟨(Int.le_trans (by decide) h_20.1), (Int.le_trans h_20.2 (by decide))⟩, by decide, by decide⟩ (q_iconst c_2_11 (v_zret c_2_12 rfl (by decide) (bk_inl (v_if_eq_t (t := 81) c_84_26 rfl (by decide) (q_aload_n c_84_81 rfl (q_aload_n c_84_82 rfl (v_gr (t := P) c_84_83 kf_7_50 rfl (nb_ rfl) rfl ?_)))))))
        have h_22 := ir_p0_0 hI hP
        have kn_23 : Hid (c_12 P 0 = c P 0) := hF_14 P 0 (qn_815d5b90e hP)
        have kn_24 : Hid (c_17 P 0 = c P 0) := (hF_19 P 0 (by omega)).trans (hid kn_23)
        refine v_gi (z := 0) (v := c P 0) c_84_86 kf_7_102 (ck_p0 hP) (a68z hP) rfl rfl (hid kn_24) (v_cv c_84_89 km_7_105 rfl rfl (nb_ rfl) ⟨⟨rfl, rfl⟩, nb_ rfl, rfl⟩ (nb_ rfl) (nb_ rfl) (q_aload_n c_83_0 rfl (v_gr (t := 1) c_83_1 kf_7_10 rfl (nb_ rfl) rfl (v_cv c_83_4 km_7_89 rfl rfl (nb_ rfl) ⟨⟨rfl, rfl⟩, nb_ rfl, rfl⟩ (nb_ rfl) (nb_ rfl) (q_aload_n c_2_0 rfl (v_gi (z := 4) (v := c_17 1 4) c_2_1 kf_5_38 rfl (nb_ rfl) rfl rfl rfl (v_if_ne_t (t := 11) c_2_4 rfl ⟨by first | exact q_646bc4652 h_20 h_21 | omega, ⟨(Int.le_trans (by decide) h_20.1), (Int.le_trans h_20.2 (by decide))⟩, by decide, by decide⟩ ?_)))))))
        refine q_iconst c_2_11 (v_zret c_2_12 rfl (by decide) (bk_inl (v_if_eq_t (t := 14) c_83_7 rfl (by decide) (q_aload_n c_83_14 rfl (v_gr (t := 1) c_83_15 kf_7_10 rfl (nb_ rfl) rfl (v_gi (z := 4) (v := c_17 1 4) c_83_18 kf_7_351 rfl (nb_ rfl) rfl rfl rfl (v_bip c_83_21 (by decide) ?_)))))))
        refine v_isub (v := c_17 1 4 - 10) c_83_23 rfl (q_iret c_83_24 rfl (bk_inl (q_iret c_84_92 rfl ?_)))
        have kn_25 : Hid (c_17 1 3 = c_12 1 3) := hF_19 1 3 (qn_487957296 hQ)
        have h_26 : c_17 1 3 = c_12 1 3 := (hid kn_25)
        exact K P Q c_17 (c_17 1 4 - 10) hI_18 (fun a j hm => (hF_19 a j (fun q => q.elim (fun h => hm (Or.inr (Or.inl h))) (fun q => q.elim (fun h => hm (Or.inr (Or.inr (Or.inr (Or.inl h))))) (fun q => q.elim (fun h => hm (Or.inr (Or.inr (Or.inr (Or.inr (Or.inl h)))))) (fun q => q.elim (fun h => hm (Or.inr (Or.inr (Or.inr (Or.inr (Or.inr (Or.inr (Or.inr (Or.inr (Or.inr (Or.inr (Or.inr ⟨by clear hm; omega, by clear hm; omega⟩)))))))))))) (fun q => q.elim (fun h => hm (Or.inr (Or.inr (Or.inr (Or.inr (Or.inr (Or.inr (Or.inr (Or.inr (Or.inr (Or.inr (Or.inr ⟨by clear hm; omega, by clear hm; omega⟩)))))))))))) (fun q => q.elim (fun h => hm (Or.inr (Or.inr (Or.inr (Or.inr (Or.inr (Or.inr (Or.inr (Or.inr (Or.inr (Or.inr (Or.inr ⟨by clear hm; omega, by clear hm; omega⟩)))))))))))) (fun q => q.elim (fun h => hm (Or.inr (Or.inr (Or.inr (Or.inr (Or.inr (Or.inr (Or.inr (Or.inr (Or.inr (Or.inr (Or.inr ⟨by clear hm; omega, by clear hm; omega⟩)))))))))))) (fun q => q.elim (fun h => hm (Or.inr (Or.inr (Or.inr (Or.inr (Or.inr (Or.inr (Or.inr (Or.inr (Or.inr (Or.inr (Or.inr ⟨by clear hm; omega, by clear hm; omega⟩)))))))))))) (fun q => q.elim (fun h => hm (Or.inr (Or.inr (Or.inr (Or.inr (Or.inr (Or.inr (Or.inr (Or.inr (Or.inr (Or.inr (Or.inr ⟨by clear hm; omega, by clear hm; omega⟩)))))))))))) (fun q => q.elim (fun h => hm (Or.inr (Or.inr (Or.inr (Or.inr (Or.inr (Or.inr (Or.inr (Or.inr (Or.inr (Or.inr (Or.inr ⟨by clear hm; omega, by clear hm; omega⟩)))))))))))) (fun q => q.elim (fun h => hm (Or.inr (Or.inr (Or.inr (Or.inr (Or.inr (Or.inr (Or.inr (Or.inr (Or.inr (Or.inr (Or.inr ⟨by clear hm; omega, by clear hm; omega⟩)))))))))))) (fun q => q.elim (fun h => hm (Or.inr (Or.inr (Or.inr (Or.inr (Or.inr (Or.inr (Or.inr (Or.inr (Or.inr (Or.inr (Or.inr ⟨by clear hm; omega, by clear hm; omega⟩)))))))))))) (fun q => q.elim (fun h => hm (Or.inr (Or.inr (Or.inr (Or.inr (Or.inr (Or.inr (Or.inr (Or.inr (Or.inr (Or.inr (Or.inr ⟨by clear hm; omega, by clear hm; omega⟩)))))))))))) (fun h => hm (Or.inr (Or.inr (Or.inr (Or.inr (Or.inr (Or.inr (Or.inr (Or.inr (Or.inr (Or.inr (Or.inr ⟨by clear hm; omega, by clear hm; omega⟩)))))))))))))))))))))))))).trans (hF_14 a j (qv_5740efcd4 hm))) ⟨by first | exact rgm_l h_20.1 (by decide) | omega, by first | exact rgm_h h_20.2 (by decide) | omega⟩ ⟨by first | exact q_1317ba452 h_15 h_16 | omega, by first | exact q_720657ba9 h_2 | omega, by first | exact q_0325d56da h_7 | omega, by first | exact q_1f9ec8cac h_1 h_7 | omega⟩
      · refine v_if_ne_f (t := 11) c_2_4 rfl (Decidable.not_not.mp h_21) (q_iconst c_2_7 (q_goto (t := 12) c_2_8 rfl (v_zret c_2_12 rfl (by decide) (bk_inl (v_if_eq_f (t := 81) c_84_26 rfl (by decide) (q_aload_n c_84_29 rfl (v_gr (t := P) c_84_30 kf_7_50 rfl (nb_ rfl) rfl ?_)))))))
        refine q_astore_n c_84_33 (by decide) (q_aload_n c_84_34 rfl (q_aload_n c_84_35 rfl (v_gr (t := Q) c_84_36 kf_7_54 rfl (nb_ rfl) rfl (v_pr (P' := Q) (Q' := Q) (N' := P) (T' := P) c_84_39 rfl rfl rfl (by decide) (Nat.lt_of_succ_le (nb_ rfl)) (fun c => rfl) rfl (by decide) (fun b hb => ck_x0 hb) (q_aload_n rfl rfl (q_aload_n rfl rfl (v_pr (P' := Q) (Q' := P) (N' := P) (T' := P) rfl rfl rfl rfl (by decide) (Nat.lt_of_succ_le (nb_ rfl)) (fun c => rfl) rfl (by decide) (fun b hb => ck_x0 hb) ?_)))))))
        have kn_27 : Hid (c_17 1 3 = c_12 1 3) := hF_19 1 3 (qn_487957296 hQ)
        have hz9 : c_17 1 3 = 0 := ((hid kn_27)).trans (by omega)
        refine Wp_ls [(0, .ref 0)] (lsub_cons rfl lsub_nil) ?_
        exact s_84t (P := Q) (Q := P) (iv_swap hI_18) (fun c9 y9 hI9 hF9 hy9 => K Q P c9 y9 hI9 (fun a j hm => (hF9 a j (qv_8a1a2df1d hm)).trans ((hF_19 a j (fun q => q.elim (fun h => hm (Or.inr (Or.inl h))) (fun q => q.elim (fun h => hm (Or.inr (Or.inr (Or.inr (Or.inl h))))) (fun q => q.elim (fun h => hm (Or.inr (Or.inr (Or.inr (Or.inr (Or.inl h)))))) (fun q => q.elim (fun h => hm (Or.inr (Or.inr (Or.inr (Or.inr (Or.inr (Or.inr (Or.inr (Or.inr (Or.inr (Or.inr (Or.inr ⟨by clear hm; omega, by clear hm; omega⟩)))))))))))) (fun q => q.elim (fun h => hm (Or.inr (Or.inr (Or.inr (Or.inr (Or.inr (Or.inr (Or.inr (Or.inr (Or.inr (Or.inr (Or.inr ⟨by clear hm; omega, by clear hm; omega⟩)))))))))))) (fun q => q.elim (fun h => hm (Or.inr (Or.inr (Or.inr (Or.inr (Or.inr (Or.inr (Or.inr (Or.inr (Or.inr (Or.inr (Or.inr ⟨by clear hm; omega, by clear hm; omega⟩)))))))))))) (fun q => q.elim (fun h => hm (Or.inr (Or.inr (Or.inr (Or.inr (Or.inr (Or.inr (Or.inr (Or.inr (Or.inr (Or.inr (Or.inr ⟨by clear hm; omega, by clear hm; omega⟩)))))))))))) (fun q => q.elim (fun h => hm (Or.inr (Or.inr (Or.inr (Or.inr (Or.inr (Or.inr (Or.inr (Or.inr (Or.inr (Or.inr (Or.inr ⟨by clear hm; omega, by clear hm; omega⟩)))))))))))) (fun q => q.elim (fun h => hm (Or.inr (Or.inr (Or.inr (Or.inr (Or.inr (Or.inr (Or.inr (Or.inr (Or.inr (Or.inr (Or.inr ⟨by clear hm; omega, by clear hm; omega⟩)))))))))))) (fun q => q.elim (fun h => hm (Or.inr (Or.inr (Or.inr (Or.inr (Or.inr (Or.inr (Or.inr (Or.inr (Or.inr (Or.inr (Or.inr ⟨by clear hm; omega, by clear hm; omega⟩)))))))))))) (fun q => q.elim (fun h => hm (Or.inr (Or.inr (Or.inr (Or.inr (Or.inr (Or.inr (Or.inr (Or.inr (Or.inr (Or.inr (Or.inr ⟨by clear hm; omega, by clear hm; omega⟩)))))))))))) (fun q => q.elim (fun h => hm (Or.inr (Or.inr (Or.inr (Or.inr (Or.inr (Or.inr (Or.inr (Or.inr (Or.inr (Or.inr (Or.inr ⟨by clear hm; omega, by clear hm; omega⟩)))))))))))) (fun q => q.elim (fun h => hm (Or.inr (Or.inr (Or.inr (Or.inr (Or.inr (Or.inr (Or.inr (Or.inr (Or.inr (Or.inr (Or.inr ⟨by clear hm; omega, by clear hm; omega⟩)))))))))))) (fun h => hm (Or.inr (Or.inr (Or.inr (Or.inr (Or.inr (Or.inr (Or.inr (Or.inr (Or.inr (Or.inr (Or.inr ⟨by clear hm; omega, by clear hm; omega⟩)))))))))))))))))))))))))).trans (hF_14 a j (qv_5740efcd4 hm)))) hy9 ⟨(hF9 1 3 (by omega)).trans hz9, by omega, by omega, by omega⟩)

set_option maxRecDepth 100000 in
set_option maxHeartbeats 4000000 in
theorem s_85 {sc : List Int32} {e : Int} {d u P Q : Nat} {c : ME} {a1 : Int} {Z : AR → Prop} (hI : Iv u e P Q c) (ha1 : (-2147483648) ≤ a1 ∧ a1 ≤ 2147483647) (T101 : ∀ c2 : ME, Iv u e P Q c2 → (∀ (a : Nat) (j : Int), ¬ ((a = 0 ∧ j = 13)) → c2 a j = c a j) → ((c2 1 3 = c 1 3)) → ((a1 < 0) ∨ (a1 > c 1 3) ∨ (a1 > 150)) → Z (.inr 101, Wd P Q P P c2, 1, 6)) (K : ∀ (c2 : ME) (y : Int), Iv u e P Q c2 → (∀ (a : Nat) (j : Int), ¬ ((a = 1 ∧ j = 1) ∨ (a = 1 ∧ j = 2) ∨ (a = 1 ∧ j = 3) ∨ (a = 1 ∧ j = 4) ∨ (a = 1 ∧ j = 5) ∨ (a = 0 ∧ j = 13) ∨ (a = (P + 7) ∧ j = 5) ∨ a = (P + 9) ∨ (a = (P + 7) ∧ j = 4) ∨ a = (P + 8)) → c2 a j = c a j) → (-2147483648) ≤ y ∧ y ≤ 2147483647 → ((c2 1 3 = 0 ∧ a1 ≥ 0 ∧ a1 ≤ c 1 3 ∧ a1 ≤ 150)) → Z (.inl (some (vi y)), Wd P Q P P c2, 0, 0)) : Wp sc (d + 34) 85 0 [(0, .ref 0), (1, vi a1)] [] (Wd P Q P P c) 0 0 Z := by
  have hP := iv_P hI
  have hQ := iv_Q hI
  refine q_aload_n c_85_0 rfl (q_iload_n c_85_1 rfl (v_sip c_85_2 (by decide) (v_cv c_85_5 km_7_81 rfl rfl (nb_ rfl) ⟨⟨rfl, rfl⟩, nb_ rfl, rfl⟩ (nb_ rfl) (nb_ rfl) (q_aload_n c_82_0 rfl (q_iload_n c_82_1 rfl (q_iconst c_82_2 (q_iload_n c_82_3 rfl ?_)))))))
  refine q_aload_n c_82_4 rfl (v_gr (t := 1) c_82_5 kf_7_10 rfl (nb_ rfl) rfl ?_)
  have h_1 := ir_1_3 hI
  refine v_gi (z := 3) (v := c 1 3) c_82_8 kf_7_77 rfl (nb_ rfl) rfl rfl rfl (v_minx c_82_11 rfl (by omega) (nb_ rfl) ⟨by omega, by omega, by omega, by omega⟩ (fun y_2 hy_2 => (q_call c_82_14 rfl rfl rfl (q_iload_n c_80_0 rfl (q_iload_n c_80_1 rfl ?_)))))
  by_cases h_3 : a1 < 0
  · refine v_ic_lt_t (t := 14) c_80_2 rfl ⟨ha1.1, h_3, by decide⟩ (q_iconst c_80_14 (v_zret c_80_15 rfl (by decide) (bk_inl (v_cv c_82_17 km_7_161 rfl rfl (nb_ rfl) ⟨⟨rfl, rfl⟩, nb_ rfl, rfl⟩ (nb_ rfl) (nb_ rfl) (q_iload_n c_81_0 rfl (v_if_ne_f (t := 25) c_81_1 rfl (by decide) (q_aload_n c_81_4 rfl ?_)))))))
    refine q_dup c_81_5 rfl ?_
    have h_4 := ir_0_13 hI
    refine v_gi (z := 13) (v := c 0 13) c_81_6 kf_7_330 rfl (nb_ rfl) rfl rfl rfl (q_iconst c_81_9 (v_iadd (v := c 0 13 + 1) c_81_10 rfl (v_nrm (fun y_5 hy_5 => (v_pi (z := 13) c_81_11 kf_7_330 rfl (nb_ rfl) rfl rfl rfl (by decide) (v_new c_81_14 rfl (by decide) (ld_ rfl) (nb_ rfl) (by decide) rfl (bk_out rfl rfl (bk_out rfl rfl ?_))))))))
    have hI_6 := iw_0_13 (v := y_5) hI ⟨hy_5.1, hy_5.2⟩
    have h_7 : (up c 0 13 y_5) 1 3 = c 1 3 := (up_c (nn rfl))
    exact T101 _ hI_6 (fun a j hm => up_b (Decidable.or_iff_not_imp_left.mpr (fun h1 h2 => hm ⟨Decidable.not_not.mp h1, h2⟩))) (by first | assumption | omega) (Or.inl (by first | exact q_e97a17f6e h_3 | omega))
  · refine v_ic_lt_f (t := 14) c_80_2 rfl ⟨by decide, (Int.not_lt.mp h_3), ha1.2⟩ (q_iload_n c_80_5 rfl (q_iload_n c_80_6 rfl ?_))
    by_cases h_8 : a1 > y_2
    · refine v_ic_gt_t (t := 14) c_80_7 rfl ⟨by omega, h_8, ha1.2⟩ (q_iconst c_80_14 (v_zret c_80_15 rfl (by decide) (bk_inl (v_cv c_82_17 km_7_161 rfl rfl (nb_ rfl) ⟨⟨rfl, rfl⟩, nb_ rfl, rfl⟩ (nb_ rfl) (nb_ rfl) (q_iload_n c_81_0 rfl (v_if_ne_f (t := 25) c_81_1 rfl (by decide) (q_aload_n c_81_4 rfl ?_)))))))
      refine q_dup c_81_5 rfl ?_
      have h_9 := ir_0_13 hI
      refine v_gi (z := 13) (v := c 0 13) c_81_6 kf_7_330 rfl (nb_ rfl) rfl rfl rfl (q_iconst c_81_9 (v_iadd (v := c 0 13 + 1) c_81_10 rfl (v_nrm (fun y_10 hy_10 => (v_pi (z := 13) c_81_11 kf_7_330 rfl (nb_ rfl) rfl rfl rfl (by decide) (v_new c_81_14 rfl (by decide) (ld_ rfl) (nb_ rfl) (by decide) rfl (bk_out rfl rfl (bk_out rfl rfl ?_))))))))
      have hI_11 := iw_0_13 (v := y_10) hI ⟨hy_10.1, hy_10.2⟩
      have h_12 : (up c 0 13 y_10) 1 3 = c 1 3 := (up_c (nn rfl))
      exact T101 _ hI_11 (fun a j hm => up_b (Decidable.or_iff_not_imp_left.mpr (fun h1 h2 => hm ⟨Decidable.not_not.mp h1, h2⟩))) (by first | assumption | omega) (by omega)
    · refine v_ic_gt_f (t := 14) c_80_7 rfl ⟨ha1.1, (Int.not_lt.mp h_8), by omega⟩ (q_iconst c_80_10 (q_goto (t := 15) c_80_11 rfl (v_zret c_80_15 rfl (by decide) (bk_inl (v_cv c_82_17 km_7_161 rfl rfl (nb_ rfl) ⟨⟨rfl, rfl⟩, nb_ rfl, rfl⟩ (nb_ rfl) (nb_ rfl) (q_iload_n c_81_0 rfl (v_if_ne_t (t := 25) c_81_1 rfl (by decide) ?_)))))))
      refine q_vret rfl rfl (bk_inl (q_aload_n c_82_20 rfl (v_gr (t := 1) c_82_21 kf_7_10 rfl (nb_ rfl) rfl (q_iload_n c_82_24 rfl (v_cv c_82_25 km_7_348 rfl rfl (nb_ rfl) ⟨⟨rfl, rfl⟩, nb_ rfl, rfl⟩ (nb_ rfl) (nb_ rfl) (s_74 (a1 := a1) hI (show 0 ≤ a1 ∧ a1 ≤ 600 from ⟨by first | exact q_720657ba9 h_3 | omega, by omega⟩) (fun c_13 hI_14 hF_15 h_16 => (bk_inl ?_))))))))
      have h_17 := ir_1_3 hI_14
      refine q_vret rfl rfl (bk_inl (q_aload_n c_85_8 rfl (v_gr (t := P) c_85_9 kf_7_50 rfl (nb_ rfl) rfl (v_gr (t := (P + 7)) c_85_12 kf_7_109 (ck_p0 hP) (a68z hP) rfl (q_aload_n c_85_15 rfl (v_gr (t := 1) c_85_16 kf_7_10 rfl (nb_ rfl) rfl (v_cv c_85_19 km_7_113 rfl (ck_p7 hP) (a68 hP rfl) ⟨⟨rfl, rfl⟩, by decide, rfl⟩ (nb_ rfl) (nb_ rfl) (s_17 hI_14 hP (fun c_18 hI_19 hF_20 => ?_)))))))))
      refine bk_inl (q_aload_n c_85_22 rfl (q_iconst c_85_23 (v_cv c_85_24 km_7_105 rfl rfl (nb_ rfl) ⟨⟨rfl, rfl⟩, nb_ rfl, rfl⟩ (nb_ rfl) (nb_ rfl) (q_aload_n c_83_0 rfl (v_gr (t := 1) c_83_1 kf_7_10 rfl (nb_ rfl) rfl (v_cv c_83_4 km_7_89 rfl rfl (nb_ rfl) ⟨⟨rfl, rfl⟩, nb_ rfl, rfl⟩ (nb_ rfl) (nb_ rfl) (q_aload_n c_2_0 rfl ?_)))))))
      have h_21 := ir_1_4 hI_19
      refine v_gi (z := 4) (v := c_18 1 4) c_2_1 kf_5_38 rfl (nb_ rfl) rfl rfl rfl ?_
      by_cases h_22 : c_18 1 4 ≠ 0
      · refine v_if_ne_t (t := 11) c_2_4 rfl ⟨h_22, ⟨(Int.le_trans (by decide) h_21.1), (Int.le_trans h_21.2 (by decide))⟩, by decide, by decide⟩ (q_iconst c_2_11 (v_zret c_2_12 rfl (by decide) (bk_inl (v_if_eq_t (t := 14) c_83_7 rfl (by decide) (q_aload_n c_83_14 rfl (v_gr (t := 1) c_83_15 kf_7_10 rfl (nb_ rfl) rfl (v_gi (z := 4) (v := c_18 1 4) c_83_18 kf_7_351 rfl (nb_ rfl) rfl rfl rfl ?_)))))))
        refine v_bip c_83_21 (by decide) (v_isub (v := c_18 1 4 - 10) c_83_23 rfl (q_iret c_83_24 rfl (bk_inl (q_iret c_85_27 rfl ?_))))
        have kn_23 : Hid (c_18 1 3 = c_13 1 3) := hF_20 1 3 (qn_bbaf5a82a hP)
        have h_24 : c_18 1 3 = c_13 1 3 := (hid kn_23)
        exact K c_18 (c_18 1 4 - 10) hI_19 (fun a j hm => (hF_20 a j (qv_272e5d439 hm)).trans (hF_15 a j (qv_e2c871ddd hm))) ⟨by first | exact rgm_l h_21.1 (by decide) | omega, by first | exact rgm_h h_21.2 (by decide) | omega⟩ ⟨by first | exact q_1317ba452 h_16 h_17 | omega, by first | exact q_720657ba9 h_3 | omega, by first | (clear ha1 h_1 h_3 h_17 h_16 h_21 h_22; omega) | omega, by first | (clear ha1 h_1 h_3 h_17 h_16 h_21 h_22; omega) | omega⟩
      · refine v_if_ne_f (t := 11) c_2_4 rfl (Decidable.not_not.mp h_22) (q_iconst c_2_7 (q_goto (t := 12) c_2_8 rfl (v_zret c_2_12 rfl (by decide) (bk_inl (v_if_eq_f (t := 14) c_83_7 rfl (by decide) (q_iload_n c_83_10 rfl (q_goto (t := 24) c_83_11 rfl ?_)))))))
        refine q_iret c_83_24 rfl (bk_inl (q_iret c_85_27 rfl ?_))
        have kn_25 : Hid (c_18 1 3 = c_13 1 3) := hF_20 1 3 (qn_bbaf5a82a hP)
        have h_26 : c_18 1 3 = c_13 1 3 := (hid kn_25)
        exact K c_18 1 hI_19 (fun a j hm => (hF_20 a j (qv_272e5d439 hm)).trans (hF_15 a j (qv_e2c871ddd hm))) ⟨by decide, by decide⟩ ⟨by first | exact q_1317ba452 h_16 h_17 | omega, by first | exact q_720657ba9 h_3 | omega, by omega, by omega⟩
end
section
/-! ===== contracts 7 ===== -/
theorem qn_08ac8a977 {j : Int} : ¬ (((3 : Nat) = 1 ∧ j = 1) ∨ ((3 : Nat) = 1 ∧ j = 2) ∨ ((3 : Nat) = 1 ∧ j = 3) ∨ ((3 : Nat) = 1 ∧ j = 4) ∨ ((3 : Nat) = 1 ∧ j = 5)) := (fun q => q.elim (fun h => absurd h.1 (nn rfl)) (fun q => q.elim (fun h => absurd h.1 (nn rfl)) (fun q => q.elim (fun h => absurd h.1 (nn rfl)) (fun q => q.elim (fun h => absurd h.1 (nn rfl)) (fun h => absurd h.1 (nn rfl))))))
theorem q_75c67c730 {x0 : Int} (f0 : 0 ≤ x0 ∧ x0 ≤ 16) : (-2147483648) ≤ x0 := by omega
theorem qn_b30559106 : ¬ (((1 : Nat) = 1 ∧ (3 : Int) = 2) ∨ ((1 : Nat) = 1 ∧ (3 : Int) = 4) ∨ ((1 : Nat) = 1 ∧ (3 : Int) = 5) ∨ ((1 : Nat) = 7 ∧ (3 : Int) = 1) ∨ ((1 : Nat) = 7 ∧ (3 : Int) = 2) ∨ ((1 : Nat) = 7 ∧ (3 : Int) = 3) ∨ ((1 : Nat) = 7 ∧ (3 : Int) = 4) ∨ (1 : Nat) = 8) := (fun q => q.elim (fun h => absurd h.2 (ni rfl)) (fun q => q.elim (fun h => absurd h.2 (ni rfl)) (fun q => q.elim (fun h => absurd h.2 (ni rfl)) (fun q => q.elim (fun h => absurd h.1 (nn rfl)) (fun q => q.elim (fun h => absurd h.1 (nn rfl)) (fun q => q.elim (fun h => absurd h.1 (nn rfl)) (fun q => q.elim (fun h => absurd h.1 (nn rfl)) (fun h => absurd h (nn rfl)))))))))
theorem qv_9761d3a0a {P : Nat} {a : Nat} {j : Int} (hm : ¬ ((a = 1 ∧ j = 1) ∨ (a = 1 ∧ j = 2) ∨ (a = 1 ∧ j = 3) ∨ (a = 1 ∧ j = 4) ∨ (a = 1 ∧ j = 5) ∨ (a = 0 ∧ j = 13) ∨ (a = 7 ∧ j = 1) ∨ (a = 7 ∧ j = 2) ∨ (a = 7 ∧ j = 3) ∨ (a = 7 ∧ j = 4) ∨ a = 8 ∨ (a = 3 ∧ j = 3) ∨ a = 4 ∨ a = 38 ∨ (a = 0 ∧ j = 11) ∨ a = (P + 10) ∨ a = (P + 11))) : ¬ ((a = 1 ∧ j = 2) ∨ (a = 1 ∧ j = 4) ∨ (a = 1 ∧ j = 5) ∨ (a = 7 ∧ j = 1) ∨ (a = 7 ∧ j = 2) ∨ (a = 7 ∧ j = 3) ∨ (a = 7 ∧ j = 4) ∨ a = 8) := (fun q => q.elim (fun h => hm (Or.inr (Or.inl h))) (fun q => q.elim (fun h => hm (Or.inr (Or.inr (Or.inr (Or.inl h))))) (fun q => q.elim (fun h => hm (Or.inr (Or.inr (Or.inr (Or.inr (Or.inl h)))))) (fun q => q.elim (fun h => hm (Or.inr (Or.inr (Or.inr (Or.inr (Or.inr (Or.inr (Or.inl h)))))))) (fun q => q.elim (fun h => hm (Or.inr (Or.inr (Or.inr (Or.inr (Or.inr (Or.inr (Or.inr (Or.inl h))))))))) (fun q => q.elim (fun h => hm (Or.inr (Or.inr (Or.inr (Or.inr (Or.inr (Or.inr (Or.inr (Or.inr (Or.inl h)))))))))) (fun q => q.elim (fun h => hm (Or.inr (Or.inr (Or.inr (Or.inr (Or.inr (Or.inr (Or.inr (Or.inr (Or.inr (Or.inl h))))))))))) (fun h => hm (Or.inr (Or.inr (Or.inr (Or.inr (Or.inr (Or.inr (Or.inr (Or.inr (Or.inr (Or.inr (Or.inl h)))))))))))))))))))
theorem qv_ecb23a814 {P : Nat} {a : Nat} {j : Int} (hm : ¬ ((a = 1 ∧ j = 1) ∨ (a = 1 ∧ j = 2) ∨ (a = 1 ∧ j = 3) ∨ (a = 1 ∧ j = 4) ∨ (a = 1 ∧ j = 5) ∨ (a = 0 ∧ j = 13) ∨ (a = 7 ∧ j = 1) ∨ (a = 7 ∧ j = 2) ∨ (a = 7 ∧ j = 3) ∨ (a = 7 ∧ j = 4) ∨ a = 8 ∨ (a = 3 ∧ j = 3) ∨ a = 4 ∨ a = 38 ∨ (a = 0 ∧ j = 11) ∨ a = (P + 10) ∨ a = (P + 11))) : ¬ ((a = 1 ∧ j = 1) ∨ (a = 1 ∧ j = 2) ∨ (a = 1 ∧ j = 3) ∨ (a = 1 ∧ j = 4) ∨ (a = 1 ∧ j = 5)) := (fun q => q.elim (fun h => hm (Or.inl h)) (fun q => q.elim (fun h => hm (Or.inr (Or.inl h))) (fun q => q.elim (fun h => hm (Or.inr (Or.inr (Or.inl h)))) (fun q => q.elim (fun h => hm (Or.inr (Or.inr (Or.inr (Or.inl h))))) (fun h => hm (Or.inr (Or.inr (Or.inr (Or.inr (Or.inl h))))))))))
theorem qn_9a819f161 {j : Int} : ¬ (((3 : Nat) = 1 ∧ j = 2) ∨ ((3 : Nat) = 1 ∧ j = 4) ∨ ((3 : Nat) = 1 ∧ j = 5) ∨ ((3 : Nat) = 7 ∧ j = 1) ∨ ((3 : Nat) = 7 ∧ j = 2) ∨ ((3 : Nat) = 7 ∧ j = 3) ∨ ((3 : Nat) = 7 ∧ j = 4) ∨ (3 : Nat) = 8) := (fun q => q.elim (fun h => absurd h.1 (nn rfl)) (fun q => q.elim (fun h => absurd h.1 (nn rfl)) (fun q => q.elim (fun h => absurd h.1 (nn rfl)) (fun q => q.elim (fun h => absurd h.1 (nn rfl)) (fun q => q.elim (fun h => absurd h.1 (nn rfl)) (fun q => q.elim (fun h => absurd h.1 (nn rfl)) (fun q => q.elim (fun h => absurd h.1 (nn rfl)) (fun h => absurd h (nn rfl)))))))))
theorem q_8f9397160 {x0 : Int} (f0 : 0 ≤ x0 ∧ x0 ≤ 38) : 0 ≤ x0 := by omega
theorem q_e17ec74dc {x0 : Int} (f0 : 0 ≤ x0 ∧ x0 ≤ 38) : x0 ≤ 38 := by omega
theorem qn_71b2ffb85 {P : Nat} {j : Int} (hP : P = 13 ∨ P = 25) : ¬ (((1 : Nat) = 7 ∧ j = 1) ∨ ((1 : Nat) = 7 ∧ j = 3) ∨ ((1 : Nat) = 7 ∧ j = 4) ∨ (1 : Nat) = 38 ∨ (1 : Nat) = (P + 10) ∨ (1 : Nat) = (P + 11)) := (fun q => q.elim (fun h => absurd h.1 (nn rfl)) (fun q => q.elim (fun h => absurd h.1 (nn rfl)) (fun q => q.elim (fun h => absurd h.1 (nn rfl)) (fun q => q.elim (fun h => absurd h (nn rfl)) (fun q => q.elim (fun h => absurd h (pn hP rfl rfl)) (fun h => absurd h (pn hP rfl rfl)))))))
theorem q_163d1c5eb {x0 : Int} (f0 : 0 ≤ x0 ∧ x0 ≤ 3) (f1 : ¬ (x0 ≠ 0)) : x0 = 0 := by omega
theorem qv_e0fb561f1 {P : Nat} {a : Nat} {j : Int} (hm : ¬ ((a = 1 ∧ j = 1) ∨ (a = 1 ∧ j = 2) ∨ (a = 1 ∧ j = 3) ∨ (a = 1 ∧ j = 4) ∨ (a = 1 ∧ j = 5) ∨ (a = 0 ∧ j = 13) ∨ (a = 7 ∧ j = 1) ∨ (a = 7 ∧ j = 2) ∨ (a = 7 ∧ j = 3) ∨ (a = 7 ∧ j = 4) ∨ a = 8 ∨ (a = 3 ∧ j = 3) ∨ a = 4 ∨ a = 38 ∨ (a = 0 ∧ j = 11) ∨ a = (P + 10) ∨ a = (P + 11))) : ¬ ((a = 7 ∧ j = 1) ∨ (a = 7 ∧ j = 3) ∨ (a = 7 ∧ j = 4) ∨ a = 38 ∨ a = (P + 10) ∨ a = (P + 11)) := (fun q => q.elim (fun h => hm (Or.inr (Or.inr (Or.inr (Or.inr (Or.inr (Or.inr (Or.inl h)))))))) (fun q => q.elim (fun h => hm (Or.inr (Or.inr (Or.inr (Or.inr (Or.inr (Or.inr (Or.inr (Or.inr (Or.inl h)))))))))) (fun q => q.elim (fun h => hm (Or.inr (Or.inr (Or.inr (Or.inr (Or.inr (Or.inr (Or.inr (Or.inr (Or.inr (Or.inl h))))))))))) (fun q => q.elim (fun h => hm (Or.inr (Or.inr (Or.inr (Or.inr (Or.inr (Or.inr (Or.inr (Or.inr (Or.inr (Or.inr (Or.inr (Or.inr (Or.inr (Or.inl h))))))))))))))) (fun q => q.elim (fun h => hm (Or.inr (Or.inr (Or.inr (Or.inr (Or.inr (Or.inr (Or.inr (Or.inr (Or.inr (Or.inr (Or.inr (Or.inr (Or.inr (Or.inr (Or.inr (Or.inl h))))))))))))))))) (fun h => hm (Or.inr (Or.inr (Or.inr (Or.inr (Or.inr (Or.inr (Or.inr (Or.inr (Or.inr (Or.inr (Or.inr (Or.inr (Or.inr (Or.inr (Or.inr (Or.inr h))))))))))))))))))))))
theorem qv_36124640b {P : Nat} {a : Nat} {j : Int} (hm : ¬ ((a = 1 ∧ j = 1) ∨ (a = 1 ∧ j = 2) ∨ (a = 1 ∧ j = 3) ∨ (a = 1 ∧ j = 4) ∨ (a = 1 ∧ j = 5) ∨ (a = 0 ∧ j = 13) ∨ (a = 7 ∧ j = 1) ∨ (a = 7 ∧ j = 2) ∨ (a = 7 ∧ j = 3) ∨ (a = 7 ∧ j = 4) ∨ a = 8 ∨ (a = 3 ∧ j = 3) ∨ a = 4 ∨ a = 38 ∨ (a = 0 ∧ j = 11) ∨ a = (P + 10) ∨ a = (P + 11))) : ¬ ((a = 3 ∧ j = 3) ∨ a = 4) := (fun q => q.elim (fun h => hm (Or.inr (Or.inr (Or.inr (Or.inr (Or.inr (Or.inr (Or.inr (Or.inr (Or.inr (Or.inr (Or.inr (Or.inl h))))))))))))) (fun h => hm (Or.inr (Or.inr (Or.inr (Or.inr (Or.inr (Or.inr (Or.inr (Or.inr (Or.inr (Or.inr (Or.inr (Or.inr (Or.inl h)))))))))))))))
theorem q_8258630c3 {x0 : Int} (f0 : 0 ≤ x0 ∧ x0 ≤ 16) : x0 ≤ 2147483647 := by omega
theorem qn_8ffdef26a {P : Nat} (hP : P = 13 ∨ P = 25) : ¬ (((1 : Nat) = 1 ∧ (3 : Int) = 2) ∨ ((1 : Nat) = 1 ∧ (3 : Int) = 4) ∨ ((1 : Nat) = 1 ∧ (3 : Int) = 5) ∨ ((1 : Nat) = P ∧ (3 : Int) = 4) ∨ (1 : Nat) = (P + 4) ∨ (1 : Nat) = (P + 5)) := (fun q => q.elim (fun h => absurd h.2 (ni rfl)) (fun q => q.elim (fun h => absurd h.2 (ni rfl)) (fun q => q.elim (fun h => absurd h.2 (ni rfl)) (fun q => q.elim (fun h => absurd h.1 (pn0 hP rfl)) (fun q => q.elim (fun h => absurd h (pn hP rfl rfl)) (fun h => absurd h (pn hP rfl rfl)))))))
theorem qv_3177d7d4a {P : Nat} {a : Nat} {j : Int} (hm : ¬ ((a = 1 ∧ j = 1) ∨ (a = 1 ∧ j = 2) ∨ (a = 1 ∧ j = 3) ∨ (a = 1 ∧ j = 4) ∨ (a = 1 ∧ j = 5) ∨ (a = 0 ∧ j = 13) ∨ (a = P ∧ j = 4) ∨ a = (P + 4) ∨ a = (P + 5))) : ¬ ((a = 1 ∧ j = 2) ∨ (a = 1 ∧ j = 4) ∨ (a = 1 ∧ j = 5) ∨ (a = P ∧ j = 4) ∨ a = (P + 4) ∨ a = (P + 5)) := (fun q => q.elim (fun h => hm (Or.inr (Or.inl h))) (fun q => q.elim (fun h => hm (Or.inr (Or.inr (Or.inr (Or.inl h))))) (fun q => q.elim (fun h => hm (Or.inr (Or.inr (Or.inr (Or.inr (Or.inl h)))))) (fun q => q.elim (fun h => hm (Or.inr (Or.inr (Or.inr (Or.inr (Or.inr (Or.inr (Or.inl h)))))))) (fun q => q.elim (fun h => hm (Or.inr (Or.inr (Or.inr (Or.inr (Or.inr (Or.inr (Or.inr (Or.inl h))))))))) (fun h => hm (Or.inr (Or.inr (Or.inr (Or.inr (Or.inr (Or.inr (Or.inr (Or.inr h))))))))))))))
theorem qv_8416ee9ef {P : Nat} {a : Nat} {j : Int} (hm : ¬ ((a = 1 ∧ j = 1) ∨ (a = 1 ∧ j = 2) ∨ (a = 1 ∧ j = 3) ∨ (a = 1 ∧ j = 4) ∨ (a = 1 ∧ j = 5) ∨ (a = 0 ∧ j = 13) ∨ (a = P ∧ j = 4) ∨ a = (P + 4) ∨ a = (P + 5))) : ¬ ((a = 1 ∧ j = 1) ∨ (a = 1 ∧ j = 2) ∨ (a = 1 ∧ j = 3) ∨ (a = 1 ∧ j = 4) ∨ (a = 1 ∧ j = 5)) := (fun q => q.elim (fun h => hm (Or.inl h)) (fun q => q.elim (fun h => hm (Or.inr (Or.inl h))) (fun q => q.elim (fun h => hm (Or.inr (Or.inr (Or.inl h)))) (fun q => q.elim (fun h => hm (Or.inr (Or.inr (Or.inr (Or.inl h))))) (fun h => hm (Or.inr (Or.inr (Or.inr (Or.inr (Or.inl h))))))))))
theorem qn_d980de1cd {P : Nat} (hP : P = 13 ∨ P = 25) : ¬ (((1 : Nat) = 1 ∧ (3 : Int) = 2) ∨ ((1 : Nat) = 1 ∧ (3 : Int) = 4) ∨ ((1 : Nat) = 1 ∧ (3 : Int) = 5) ∨ ((1 : Nat) = P ∧ (3 : Int) = 5) ∨ (1 : Nat) = (P + 5) ∨ (1 : Nat) = (P + 6)) := (fun q => q.elim (fun h => absurd h.2 (ni rfl)) (fun q => q.elim (fun h => absurd h.2 (ni rfl)) (fun q => q.elim (fun h => absurd h.2 (ni rfl)) (fun q => q.elim (fun h => absurd h.1 (pn0 hP rfl)) (fun q => q.elim (fun h => absurd h (pn hP rfl rfl)) (fun h => absurd h (pn hP rfl rfl)))))))
theorem qv_8f9429039 {P : Nat} {a : Nat} {j : Int} (hm : ¬ ((a = 1 ∧ j = 1) ∨ (a = 1 ∧ j = 2) ∨ (a = 1 ∧ j = 3) ∨ (a = 1 ∧ j = 4) ∨ (a = 1 ∧ j = 5) ∨ (a = 0 ∧ j = 13) ∨ (a = P ∧ j = 5) ∨ a = (P + 5) ∨ a = (P + 6))) : ¬ ((a = 1 ∧ j = 2) ∨ (a = 1 ∧ j = 4) ∨ (a = 1 ∧ j = 5) ∨ (a = P ∧ j = 5) ∨ a = (P + 5) ∨ a = (P + 6)) := (fun q => q.elim (fun h => hm (Or.inr (Or.inl h))) (fun q => q.elim (fun h => hm (Or.inr (Or.inr (Or.inr (Or.inl h))))) (fun q => q.elim (fun h => hm (Or.inr (Or.inr (Or.inr (Or.inr (Or.inl h)))))) (fun q => q.elim (fun h => hm (Or.inr (Or.inr (Or.inr (Or.inr (Or.inr (Or.inr (Or.inl h)))))))) (fun q => q.elim (fun h => hm (Or.inr (Or.inr (Or.inr (Or.inr (Or.inr (Or.inr (Or.inr (Or.inl h))))))))) (fun h => hm (Or.inr (Or.inr (Or.inr (Or.inr (Or.inr (Or.inr (Or.inr (Or.inr h))))))))))))))
theorem qv_602af1626 {P : Nat} {a : Nat} {j : Int} (hm : ¬ ((a = 1 ∧ j = 1) ∨ (a = 1 ∧ j = 2) ∨ (a = 1 ∧ j = 3) ∨ (a = 1 ∧ j = 4) ∨ (a = 1 ∧ j = 5) ∨ (a = 0 ∧ j = 13) ∨ (a = P ∧ j = 5) ∨ a = (P + 5) ∨ a = (P + 6))) : ¬ ((a = 1 ∧ j = 1) ∨ (a = 1 ∧ j = 2) ∨ (a = 1 ∧ j = 3) ∨ (a = 1 ∧ j = 4) ∨ (a = 1 ∧ j = 5)) := (fun q => q.elim (fun h => hm (Or.inl h)) (fun q => q.elim (fun h => hm (Or.inr (Or.inl h))) (fun q => q.elim (fun h => hm (Or.inr (Or.inr (Or.inl h)))) (fun q => q.elim (fun h => hm (Or.inr (Or.inr (Or.inr (Or.inl h))))) (fun h => hm (Or.inr (Or.inr (Or.inr (Or.inr (Or.inl h))))))))))
theorem q_b0d0e4535 {x0 x1 : Int} (f0 : 0 ≤ x0 ∧ x0 ≤ 6) (f1 : ¬ (x1 > x0 - 1)) : 4 * x1 < 24 := by omega
theorem q_e3354e5e9 {x0 x1 : Int} (f0 : 0 ≤ x0 ∧ x0 ≤ 6) (f1 : ¬ (x1 > x0 - 1)) : 4 * x1 + 1 < 24 := by omega
theorem q_0a5347bcd {x0 x1 : Int} (f0 : 0 ≤ x0 ∧ x0 ≤ 6) (f1 : ¬ (x1 > x0 - 1)) : 4 * x1 + 2 < 24 := by omega
theorem q_9939b3b7f {x0 x1 : Int} (f0 : 0 ≤ x0 ∧ x0 ≤ 6) (f1 : ¬ (x1 > x0 - 1)) : 4 * x1 + 3 < 24 := by omega
theorem q_3a2e67ab0 {x0 x1 : Int} (f0 : 0 ≤ x0 ∧ x0 ≤ 6) (f1 : ¬ (x1 > x0 - 1)) : x1 ≤ 5 := by omega
theorem q_8739f12d8 {x0 x1 x2 : Int} (f0 : 0 ≤ x0 ∧ x0 ≤ 6) (f1 : ¬ (x1 > 6)) (f2 : ¬ (x1 = 4)) (f3 : ¬ (x1 = 5)) (f4 : ¬ (x1 = 6)) (f5 : ¬ (x2 > x0 - 1)) : 4 * x2 + x1 < 24 := by omega
theorem q_60651cd96 {x0 : Int} (f0 : ¬ (x0 > 6)) (f1 : ¬ (x0 = 4)) (f2 : ¬ (x0 = 5)) (f3 : ¬ (x0 = 6)) : x0 ≤ 3 := by omega
theorem q_1b5e4f74b {x0 x1 : Int} (f0 : 0 ≤ x0 ∧ x0 ≤ 4) (f1 : ¬ (x1 > x0 - 1)) : x1 ≤ 3 := by omega
theorem q_e9525d7af {x0 : Int} (f0 : ¬ (x0 > 2)) : x0 ≤ 2 := by omega
theorem q_0435250f0 {x0 x1 : Int} (f0 : 0 ≤ x0 ∧ x0 ≤ 4) (f1 : ¬ (x1 > x0 - 1)) : x1 < 4 := by omega
theorem q_f408b7df8 {x0 x1 x2 x3 : Int} : 9999 - (x0 + x1 + x2 + x3) = 9999 - x0 - x1 - x2 - x3 := by omega
theorem q_fb5727b6a {x0 x1 x2 x3 : Int} (f0 : 0 ≤ x0 ∧ x0 ≤ 9999) (f1 : 0 ≤ x1 ∧ x1 ≤ 9999) (f2 : 0 ≤ x2 ∧ x2 ≤ 9999) (f3 : 0 ≤ x3 ∧ x3 ≤ 9999) : (-2147483648) ≤ 9999 - x1 - x2 - x3 - x0 := by omega
theorem q_033ec8ac9 {x0 x1 x2 x3 : Int} (f0 : 0 ≤ x0 ∧ x0 ≤ 9999) (f1 : 0 ≤ x1 ∧ x1 ≤ 9999) (f2 : 0 ≤ x2 ∧ x2 ≤ 9999) (f3 : 0 ≤ x3 ∧ x3 ≤ 9999) : 9999 - x1 - x2 - x3 - x0 ≤ 2147483647 := by omega
theorem q_8754394d5 {x0 : Int} (f0 : x0 ≠ (-1)) (f1 : (-1) ≤ x0 ∧ x0 ≤ 5) : 0 ≤ x0 := by omega
theorem q_df6958c12 {x0 x1 x2 x3 : Int} (f0 : 0 ≤ x0 ∧ x0 ≤ 9999) (f1 : 0 ≤ x1 ∧ x1 ≤ 9999) (f2 : 0 ≤ x2 ∧ x2 ≤ 9999) (f3 : 0 ≤ x3 ∧ x3 ≤ 9999) : (-2147483648) ≤ x3 + x0 + x1 + x2 := by omega
theorem q_e2451768c {x0 x1 x2 x3 : Int} (f0 : 0 ≤ x0 ∧ x0 ≤ 9999) (f1 : 0 ≤ x1 ∧ x1 ≤ 9999) (f2 : 0 ≤ x2 ∧ x2 ≤ 9999) (f3 : 0 ≤ x3 ∧ x3 ≤ 9999) : x3 + x0 + x1 + x2 ≤ 2147483647 := by omega
theorem q_a0327fb45 {x0 : Int} (f0 : ¬ (x0 = (-1))) (f1 : (-1) ≤ x0 ∧ x0 ≤ 5) : 0 ≤ x0 := by omega
theorem q_e870fe981 {x0 x1 : Int} : 4 * x0 + x1 = x1 + 4 * x0 := by omega
theorem q_3c678d369 {x0 x1 : Int} : x0 + (x1) = x1 + x0 := by omega
theorem q_c4d6b60d6 {x0 : Int} (f0 : 0 ≤ x0 ∧ x0 ≤ 9999) : (-2147483648) ≤ x0 := by omega
theorem q_838dca997 {x0 : Int} (f0 : 0 ≤ x0 ∧ x0 ≤ 9999) : x0 ≤ 2147483647 := by omega
theorem q_52c13326e {x0 x1 : Int} (f0 : ¬ (x0 ≤ x1)) (f1 : 0 ≤ x1 ∧ x1 ≤ 9999) : 0 ≤ x0 := by omega
theorem q_f52da7857 {x0 : Int} (f0 : 0 ≤ x0 ∧ x0 ≤ 9999) : x0 ≤ 9999 := by omega
theorem q_eef7e887c {x0 : Int} (f0 : ¬ (x0 > 3)) : x0 ≤ 3 := by omega
theorem qv_0ad0c61ad {P : Nat} {a : Nat} {j : Int} (hm : ¬ ((a = 0 ∧ j = 12) ∨ a = (P + 10) ∨ a = (P + 11))) : ¬ (a = (P + 10) ∨ a = (P + 11)) := (fun q => q.elim (fun h => hm (Or.inr (Or.inl h))) (fun h => hm (Or.inr (Or.inr h))))
theorem c_86_0 : mLk 86 0 = some (.aload_n 0, 1) := rfl
theorem c_86_1 : mLk 86 1 = some (.iload_n 1, 1) := rfl
theorem c_86_2 : mLk 86 2 = some (.sipush 150, 3) := rfl
theorem c_86_5 : mLk 86 5 = some (.invokevirtual 81, 3) := rfl
theorem c_86_8 : mLk 86 8 = some (.aload_n 0, 1) := rfl
theorem c_86_9 : mLk 86 9 = some (.getfield 19, 3) := rfl
theorem c_86_12 : mLk 86 12 = some (.invokevirtual 118, 3) := rfl
theorem c_86_15 : mLk 86 15 = some (.ifCond .eq 6, 3) := rfl
theorem c_86_21 : mLk 86 21 = some (.aload_n 0, 1) := rfl
theorem c_86_22 : mLk 86 22 = some (.getfield 26, 3) := rfl
theorem c_86_25 : mLk 86 25 = some (.aload_n 0, 1) := rfl
theorem c_86_26 : mLk 86 26 = some (.getfield 10, 3) := rfl
theorem c_86_29 : mLk 86 29 = some (.aload_n 0, 1) := rfl
theorem c_86_30 : mLk 86 30 = some (.getfield 50, 3) := rfl
theorem c_86_33 : mLk 86 33 = some (.invokevirtual 121, 3) := rfl
theorem c_86_36 : mLk 86 36 = some (.aload_n 0, 1) := rfl
theorem c_86_37 : mLk 86 37 = some (.getfield 10, 3) := rfl
theorem c_86_40 : mLk 86 40 = some (.invokevirtual 89, 3) := rfl
theorem c_86_43 : mLk 86 43 = some (.ifCond .eq 45, 3) := rfl
theorem c_86_88 : mLk 86 88 = some (.aload_n 0, 1) := rfl
theorem c_86_89 : mLk 86 89 = some (.aload_n 0, 1) := rfl
theorem c_86_90 : mLk 86 90 = some (.getfield 26, 3) := rfl
theorem c_86_93 : mLk 86 93 = some (.getfield 139, 3) := rfl
theorem c_86_96 : mLk 86 96 = some (.invokevirtual 105, 3) := rfl
theorem c_86_99 : mLk 86 99 = some (.ireturn, 1) := rfl
theorem c_86_46 : mLk 86 46 = some (.aload_n 0, 1) := rfl
theorem c_86_47 : mLk 86 47 = some (.getfield 19, 3) := rfl
theorem c_86_50 : mLk 86 50 = some (.aload_n 0, 1) := rfl
theorem c_86_51 : mLk 86 51 = some (.getfield 62, 3) := rfl
theorem c_86_54 : mLk 86 54 = some (.invokevirtual 125, 3) := rfl
theorem c_86_57 : mLk 86 57 = some (.aload_n 0, 1) := rfl
theorem c_86_58 : mLk 86 58 = some (.getfield 26, 3) := rfl
theorem c_86_61 : mLk 86 61 = some (.aload_n 0, 1) := rfl
theorem c_86_62 : mLk 86 62 = some (.getfield 62, 3) := rfl
theorem c_86_65 : mLk 86 65 = some (.iconst 0, 1) := rfl
theorem c_86_66 : mLk 86 66 = some (.aload_n 0, 1) := rfl
theorem c_86_67 : mLk 86 67 = some (.getfield 26, 3) := rfl
theorem c_86_70 : mLk 86 70 = some (.getfield 129, 3) := rfl
theorem c_86_73 : mLk 86 73 = some (.iconst 0, 1) := rfl
theorem c_86_74 : mLk 86 74 = some (.invokevirtual 132, 3) := rfl
theorem c_86_77 : mLk 86 77 = some (.aload_n 0, 1) := rfl
theorem c_86_78 : mLk 86 78 = some (.aload_n 0, 1) := rfl
theorem c_86_79 : mLk 86 79 = some (.getfield 26, 3) := rfl
theorem c_86_82 : mLk 86 82 = some (.getfield 136, 3) := rfl
theorem c_86_85 : mLk 86 85 = some (.putfield 99, 3) := rfl
theorem c_86_18 : mLk 86 18 = some (.bipush (-20), 2) := rfl
theorem c_86_20 : mLk 86 20 = some (.ireturn, 1) := rfl
theorem c_87_0 : mLk 87 0 = some (.aload_n 0, 1) := rfl
theorem c_87_1 : mLk 87 1 = some (.iload_n 1, 1) := rfl
theorem c_87_2 : mLk 87 2 = some (.bipush 60, 2) := rfl
theorem c_87_4 : mLk 87 4 = some (.invokevirtual 81, 3) := rfl
theorem c_87_7 : mLk 87 7 = some (.aload_n 0, 1) := rfl
theorem c_87_8 : mLk 87 8 = some (.getfield 50, 3) := rfl
theorem c_87_11 : mLk 87 11 = some (.aload_n 0, 1) := rfl
theorem c_87_12 : mLk 87 12 = some (.getfield 10, 3) := rfl
theorem c_87_15 : mLk 87 15 = some (.invokevirtual 142, 3) := rfl
theorem c_87_18 : mLk 87 18 = some (.aload_n 0, 1) := rfl
theorem c_87_19 : mLk 87 19 = some (.aload_n 0, 1) := rfl
theorem c_87_20 : mLk 87 20 = some (.getfield 50, 3) := rfl
theorem c_87_23 : mLk 87 23 = some (.getfield 145, 3) := rfl
theorem c_87_26 : mLk 87 26 = some (.invokevirtual 105, 3) := rfl
theorem c_87_29 : mLk 87 29 = some (.ireturn, 1) := rfl
theorem c_88_0 : mLk 88 0 = some (.aload_n 0, 1) := rfl
theorem c_88_1 : mLk 88 1 = some (.iload_n 1, 1) := rfl
theorem c_88_2 : mLk 88 2 = some (.bipush 60, 2) := rfl
theorem c_88_4 : mLk 88 4 = some (.invokevirtual 81, 3) := rfl
theorem c_88_7 : mLk 88 7 = some (.aload_n 0, 1) := rfl
theorem c_88_8 : mLk 88 8 = some (.getfield 50, 3) := rfl
theorem c_88_11 : mLk 88 11 = some (.aload_n 0, 1) := rfl
theorem c_88_12 : mLk 88 12 = some (.getfield 10, 3) := rfl
theorem c_88_15 : mLk 88 15 = some (.invokevirtual 148, 3) := rfl
theorem c_88_18 : mLk 88 18 = some (.aload_n 0, 1) := rfl
theorem c_88_19 : mLk 88 19 = some (.aload_n 0, 1) := rfl
theorem c_88_20 : mLk 88 20 = some (.getfield 50, 3) := rfl
theorem c_88_23 : mLk 88 23 = some (.getfield 151, 3) := rfl
theorem c_88_26 : mLk 88 26 = some (.invokevirtual 105, 3) := rfl
theorem c_88_29 : mLk 88 29 = some (.ireturn, 1) := rfl
theorem c_89_0 : mLk 89 0 = some (.aload_n 0, 1) := rfl
theorem c_89_1 : mLk 89 1 = some (.getfield 10, 3) := rfl
theorem c_89_4 : mLk 89 4 = some (.getfield 154, 3) := rfl
theorem c_89_7 : mLk 89 7 = some (.ireturn, 1) := rfl
theorem c_90_0 : mLk 90 0 = some (.aload_n 0, 1) := rfl
theorem c_90_1 : mLk 90 1 = some (.iload_n 1, 1) := rfl
theorem c_90_2 : mLk 90 2 = some (.iconst 0, 1) := rfl
theorem c_90_3 : mLk 90 3 = some (.bipush 12, 2) := rfl
theorem c_90_5 : mLk 90 5 = some (.invokestatic 157, 3) := rfl
theorem c_90_8 : mLk 90 8 = some (.invokevirtual 161, 3) := rfl
theorem c_90_11 : mLk 90 11 = some (.iload_n 1, 1) := rfl
theorem c_90_12 : mLk 90 12 = some (.tableswitch 169 0 11 #[64, 72, 80, 88, 96, 107, 115, 126, 137, 145, 156, 161], 64) := rfl
theorem c_90_76 : mLk 90 76 = some (.aload_n 0, 1) := rfl
theorem c_90_77 : mLk 90 77 = some (.getfield 50, 3) := rfl
theorem c_90_80 : mLk 90 80 = some (.getfield 102, 3) := rfl
theorem c_90_83 : mLk 90 83 = some (.ireturn, 1) := rfl
theorem c_90_84 : mLk 90 84 = some (.aload_n 0, 1) := rfl
theorem c_90_85 : mLk 90 85 = some (.getfield 50, 3) := rfl
theorem c_90_88 : mLk 90 88 = some (.getfield 165, 3) := rfl
theorem c_90_91 : mLk 90 91 = some (.ireturn, 1) := rfl
theorem c_90_92 : mLk 90 92 = some (.aload_n 0, 1) := rfl
theorem c_90_93 : mLk 90 93 = some (.getfield 50, 3) := rfl
theorem c_90_96 : mLk 90 96 = some (.getfield 168, 3) := rfl
theorem c_90_99 : mLk 90 99 = some (.ireturn, 1) := rfl
theorem c_90_100 : mLk 90 100 = some (.aload_n 0, 1) := rfl
theorem c_90_101 : mLk 90 101 = some (.getfield 50, 3) := rfl
theorem c_90_104 : mLk 90 104 = some (.getfield 171, 3) := rfl
theorem c_90_107 : mLk 90 107 = some (.ireturn, 1) := rfl
theorem c_90_108 : mLk 90 108 = some (.aload_n 0, 1) := rfl
theorem c_90_109 : mLk 90 109 = some (.getfield 62, 3) := rfl
theorem c_90_112 : mLk 90 112 = some (.getfield 174, 3) := rfl
theorem c_90_115 : mLk 90 115 = some (.bipush 31, 2) := rfl
theorem c_90_117 : mLk 90 117 = some (.iaload, 1) := rfl
theorem c_90_118 : mLk 90 118 = some (.ireturn, 1) := rfl
theorem c_90_119 : mLk 90 119 = some (.aload_n 0, 1) := rfl
theorem c_90_120 : mLk 90 120 = some (.getfield 62, 3) := rfl
theorem c_90_123 : mLk 90 123 = some (.invokevirtual 177, 3) := rfl
theorem c_90_126 : mLk 90 126 = some (.ireturn, 1) := rfl
theorem c_90_127 : mLk 90 127 = some (.aload_n 0, 1) := rfl
theorem c_90_128 : mLk 90 128 = some (.getfield 62, 3) := rfl
theorem c_90_131 : mLk 90 131 = some (.getfield 174, 3) := rfl
theorem c_90_134 : mLk 90 134 = some (.bipush 32, 2) := rfl
theorem c_90_136 : mLk 90 136 = some (.iaload, 1) := rfl
theorem c_90_137 : mLk 90 137 = some (.ireturn, 1) := rfl
theorem c_90_138 : mLk 90 138 = some (.aload_n 0, 1) := rfl
theorem c_90_139 : mLk 90 139 = some (.getfield 62, 3) := rfl
theorem c_90_142 : mLk 90 142 = some (.getfield 174, 3) := rfl
theorem c_90_145 : mLk 90 145 = some (.bipush 33, 2) := rfl
theorem c_90_147 : mLk 90 147 = some (.iaload, 1) := rfl
theorem c_90_148 : mLk 90 148 = some (.ireturn, 1) := rfl
theorem c_90_149 : mLk 90 149 = some (.aload_n 0, 1) := rfl
theorem c_90_150 : mLk 90 150 = some (.getfield 62, 3) := rfl
theorem c_90_153 : mLk 90 153 = some (.invokevirtual 181, 3) := rfl
theorem c_90_156 : mLk 90 156 = some (.ireturn, 1) := rfl
theorem c_90_157 : mLk 90 157 = some (.aload_n 0, 1) := rfl
theorem c_90_158 : mLk 90 158 = some (.getfield 62, 3) := rfl
theorem c_90_161 : mLk 90 161 = some (.getfield 174, 3) := rfl
theorem c_90_164 : mLk 90 164 = some (.bipush 30, 2) := rfl
theorem c_90_166 : mLk 90 166 = some (.iaload, 1) := rfl
theorem c_90_167 : mLk 90 167 = some (.ireturn, 1) := rfl
theorem c_90_168 : mLk 90 168 = some (.aload_n 0, 1) := rfl
theorem c_90_169 : mLk 90 169 = some (.getfield 99, 3) := rfl
theorem c_90_172 : mLk 90 172 = some (.ireturn, 1) := rfl
theorem c_90_173 : mLk 90 173 = some (.aload_n 0, 1) := rfl
theorem c_90_174 : mLk 90 174 = some (.getfield 50, 3) := rfl
theorem c_90_177 : mLk 90 177 = some (.getfield 145, 3) := rfl
theorem c_90_180 : mLk 90 180 = some (.ireturn, 1) := rfl
theorem c_90_181 : mLk 90 181 = some (.aload_n 0, 1) := rfl
theorem c_90_182 : mLk 90 182 = some (.getfield 50, 3) := rfl
theorem c_90_185 : mLk 90 185 = some (.getfield 151, 3) := rfl
theorem c_90_188 : mLk 90 188 = some (.ireturn, 1) := rfl
theorem c_93_0 : mLk 93 0 = some (.aload_n 0, 1) := rfl
theorem c_93_1 : mLk 93 1 = some (.iload_n 1, 1) := rfl
theorem c_93_2 : mLk 93 2 = some (.invokevirtual 184, 3) := rfl
theorem c_92_0 : mLk 92 0 = some (.aload_n 0, 1) := rfl
theorem c_92_1 : mLk 92 1 = some (.iload_n 1, 1) := rfl
theorem c_92_2 : mLk 92 2 = some (.iconst 0, 1) := rfl
theorem c_92_3 : mLk 92 3 = some (.aload_n 0, 1) := rfl
theorem c_92_4 : mLk 92 4 = some (.getfield 50, 3) := rfl
theorem c_92_7 : mLk 92 7 = some (.getfield 102, 3) := rfl
theorem c_92_10 : mLk 92 10 = some (.iconst 1, 1) := rfl
theorem c_92_11 : mLk 92 11 = some (.isub, 1) := rfl
theorem c_92_12 : mLk 92 12 = some (.invokestatic 157, 3) := rfl
theorem c_92_15 : mLk 92 15 = some (.invokevirtual 333, 3) := rfl
theorem c_91_0 : mLk 91 0 = some (.iload_n 1, 1) := rfl
theorem c_91_1 : mLk 91 1 = some (.ifCond .ne 24, 3) := rfl
theorem c_91_4 : mLk 91 4 = some (.aload_n 0, 1) := rfl
theorem c_91_5 : mLk 91 5 = some (.dup, 1) := rfl
theorem c_91_6 : mLk 91 6 = some (.getfield 327, 3) := rfl
theorem c_91_9 : mLk 91 9 = some (.iconst 1, 1) := rfl
theorem c_91_10 : mLk 91 10 = some (.iadd, 1) := rfl
theorem c_91_11 : mLk 91 11 = some (.putfield 327, 3) := rfl
theorem c_91_14 : mLk 91 14 = some (.new 336, 3) := rfl
theorem c_93_5 : mLk 93 5 = some (.aload_n 0, 1) := rfl
theorem c_93_6 : mLk 93 6 = some (.iload_n 2, 1) := rfl
theorem c_93_7 : mLk 93 7 = some (.iconst 0, 1) := rfl
theorem c_93_8 : mLk 93 8 = some (.bipush 6, 2) := rfl
theorem c_93_10 : mLk 93 10 = some (.invokestatic 157, 3) := rfl
theorem c_93_13 : mLk 93 13 = some (.invokevirtual 161, 3) := rfl
theorem c_93_16 : mLk 93 16 = some (.iload_n 2, 1) := rfl
theorem c_93_17 : mLk 93 17 = some (.tableswitch 54 4 6 #[27, 36, 45], 27) := rfl
theorem c_93_44 : mLk 93 44 = some (.aload_n 0, 1) := rfl
theorem c_93_45 : mLk 93 45 = some (.getfield 62, 3) := rfl
theorem c_93_48 : mLk 93 48 = some (.iload_n 1, 1) := rfl
theorem c_93_49 : mLk 93 49 = some (.invokevirtual 187, 3) := rfl
theorem c_93_52 : mLk 93 52 = some (.ireturn, 1) := rfl
theorem c_93_53 : mLk 93 53 = some (.aload_n 0, 1) := rfl
theorem c_93_54 : mLk 93 54 = some (.getfield 62, 3) := rfl
theorem c_93_57 : mLk 93 57 = some (.iload_n 1, 1) := rfl
theorem c_93_58 : mLk 93 58 = some (.invokevirtual 190, 3) := rfl
theorem c_93_61 : mLk 93 61 = some (.ireturn, 1) := rfl
theorem c_93_62 : mLk 93 62 = some (.aload_n 0, 1) := rfl
theorem c_93_63 : mLk 93 63 = some (.getfield 62, 3) := rfl
theorem c_93_66 : mLk 93 66 = some (.iload_n 1, 1) := rfl
theorem c_93_67 : mLk 93 67 = some (.invokevirtual 193, 3) := rfl
theorem c_93_70 : mLk 93 70 = some (.ireturn, 1) := rfl
theorem c_93_71 : mLk 93 71 = some (.aload_n 0, 1) := rfl
theorem c_93_72 : mLk 93 72 = some (.getfield 62, 3) := rfl
theorem c_93_75 : mLk 93 75 = some (.iload_n 1, 1) := rfl
theorem c_93_76 : mLk 93 76 = some (.iload_n 2, 1) := rfl
theorem c_93_77 : mLk 93 77 = some (.invokevirtual 196, 3) := rfl
theorem c_93_80 : mLk 93 80 = some (.ireturn, 1) := rfl
theorem c_95_0 : mLk 95 0 = some (.aload_n 0, 1) := rfl
theorem c_95_1 : mLk 95 1 = some (.iload_n 1, 1) := rfl
theorem c_95_2 : mLk 95 2 = some (.invokevirtual 200, 3) := rfl
theorem c_94_0 : mLk 94 0 = some (.aload_n 0, 1) := rfl
theorem c_94_1 : mLk 94 1 = some (.iload_n 1, 1) := rfl
theorem c_94_2 : mLk 94 2 = some (.iconst 0, 1) := rfl
theorem c_94_3 : mLk 94 3 = some (.aload_n 0, 1) := rfl
theorem c_94_4 : mLk 94 4 = some (.getfield 50, 3) := rfl
theorem c_94_7 : mLk 94 7 = some (.getfield 165, 3) := rfl
theorem c_94_10 : mLk 94 10 = some (.iconst 1, 1) := rfl
theorem c_94_11 : mLk 94 11 = some (.isub, 1) := rfl
theorem c_94_12 : mLk 94 12 = some (.invokestatic 157, 3) := rfl
theorem c_94_15 : mLk 94 15 = some (.invokevirtual 333, 3) := rfl
theorem c_95_5 : mLk 95 5 = some (.aload_n 0, 1) := rfl
theorem c_95_6 : mLk 95 6 = some (.iload_n 2, 1) := rfl
theorem c_95_7 : mLk 95 7 = some (.iconst 0, 1) := rfl
theorem c_95_8 : mLk 95 8 = some (.iconst 2, 1) := rfl
theorem c_95_9 : mLk 95 9 = some (.invokestatic 157, 3) := rfl
theorem c_95_12 : mLk 95 12 = some (.invokevirtual 161, 3) := rfl
theorem c_95_15 : mLk 95 15 = some (.aload_n 0, 1) := rfl
theorem c_95_16 : mLk 95 16 = some (.getfield 50, 3) := rfl
theorem c_95_19 : mLk 95 19 = some (.iload_n 1, 1) := rfl
theorem c_95_20 : mLk 95 20 = some (.iload_n 2, 1) := rfl
theorem c_95_21 : mLk 95 21 = some (.invokevirtual 203, 3) := rfl
theorem c_95_24 : mLk 95 24 = some (.ireturn, 1) := rfl
theorem c_97_0 : mLk 97 0 = some (.aload_n 0, 1) := rfl
theorem c_97_1 : mLk 97 1 = some (.iload_n 1, 1) := rfl
theorem c_97_2 : mLk 97 2 = some (.invokevirtual 206, 3) := rfl
theorem c_96_0 : mLk 96 0 = some (.aload_n 0, 1) := rfl
theorem c_96_1 : mLk 96 1 = some (.iload_n 1, 1) := rfl
theorem c_96_2 : mLk 96 2 = some (.iconst 0, 1) := rfl
theorem c_96_3 : mLk 96 3 = some (.aload_n 0, 1) := rfl
theorem c_96_4 : mLk 96 4 = some (.getfield 50, 3) := rfl
theorem c_96_7 : mLk 96 7 = some (.getfield 168, 3) := rfl
theorem c_96_10 : mLk 96 10 = some (.iconst 1, 1) := rfl
theorem c_96_11 : mLk 96 11 = some (.isub, 1) := rfl
theorem c_96_12 : mLk 96 12 = some (.invokestatic 157, 3) := rfl
theorem c_96_15 : mLk 96 15 = some (.invokevirtual 333, 3) := rfl
theorem c_97_5 : mLk 97 5 = some (.aload_n 0, 1) := rfl
theorem c_97_6 : mLk 97 6 = some (.iload_n 2, 1) := rfl
theorem c_97_7 : mLk 97 7 = some (.iconst 0, 1) := rfl
theorem c_97_8 : mLk 97 8 = some (.iconst 1, 1) := rfl
theorem c_97_9 : mLk 97 9 = some (.invokestatic 157, 3) := rfl
theorem c_97_12 : mLk 97 12 = some (.invokevirtual 161, 3) := rfl
theorem c_97_15 : mLk 97 15 = some (.iload_n 2, 1) := rfl
theorem c_97_16 : mLk 97 16 = some (.ifCond .ne 13, 3) := rfl
theorem c_97_29 : mLk 97 29 = some (.aload_n 0, 1) := rfl
theorem c_97_30 : mLk 97 30 = some (.getfield 62, 3) := rfl
theorem c_97_33 : mLk 97 33 = some (.iload_n 1, 1) := rfl
theorem c_97_34 : mLk 97 34 = some (.invokevirtual 212, 3) := rfl
theorem c_97_37 : mLk 97 37 = some (.ifCond .eq 7, 3) := rfl
theorem c_97_44 : mLk 97 44 = some (.iconst 0, 1) := rfl
theorem c_97_45 : mLk 97 45 = some (.ireturn, 1) := rfl
theorem c_97_40 : mLk 97 40 = some (.iconst 1, 1) := rfl
theorem c_97_41 : mLk 97 41 = some (.goto 4, 3) := rfl
theorem c_97_19 : mLk 97 19 = some (.aload_n 0, 1) := rfl
theorem c_97_20 : mLk 97 20 = some (.getfield 50, 3) := rfl
theorem c_97_23 : mLk 97 23 = some (.getfield 209, 3) := rfl
theorem c_97_26 : mLk 97 26 = some (.iload_n 1, 1) := rfl
theorem c_97_27 : mLk 97 27 = some (.iaload, 1) := rfl
theorem c_97_28 : mLk 97 28 = some (.ireturn, 1) := rfl
theorem c_98_0 : mLk 98 0 = some (.aload_n 0, 1) := rfl
theorem c_98_1 : mLk 98 1 = some (.iload_n 1, 1) := rfl
theorem c_98_2 : mLk 98 2 = some (.invokevirtual 184, 3) := rfl
theorem c_98_5 : mLk 98 5 = some (.sipush 9999, 3) := rfl
theorem c_98_8 : mLk 98 8 = some (.aload_n 0, 1) := rfl
theorem c_98_9 : mLk 98 9 = some (.getfield 62, 3) := rfl
theorem c_98_12 : mLk 98 12 = some (.iload_n 1, 1) := rfl
theorem c_98_13 : mLk 98 13 = some (.invokevirtual 187, 3) := rfl
theorem c_98_16 : mLk 98 16 = some (.isub, 1) := rfl
theorem c_98_17 : mLk 98 17 = some (.ireturn, 1) := rfl
theorem c_99_14 : mLk 99 14 = some (.iload_n 3, 1) := rfl
theorem c_99_15 : mLk 99 15 = some (.aload_n 0, 1) := rfl
theorem c_99_16 : mLk 99 16 = some (.getfield 50, 3) := rfl
theorem c_99_19 : mLk 99 19 = some (.getfield 102, 3) := rfl
theorem c_99_22 : mLk 99 22 = some (.if_icmp .ge 46, 3) := rfl
theorem c_99_68 : mLk 99 68 = some (.iload_n 1, 1) := rfl
theorem c_99_69 : mLk 99 69 = some (.ifCond .eq 8, 3) := rfl
theorem c_99_77 : mLk 99 77 = some (.iload_n 2, 1) := rfl
theorem c_99_78 : mLk 99 78 = some (.goto 11, 3) := rfl
theorem c_99_89 : mLk 99 89 = some (.ireturn, 1) := rfl
theorem c_99_72 : mLk 99 72 = some (.iload_n 2, 1) := rfl
theorem c_99_73 : mLk 99 73 = some (.iconst (-1), 1) := rfl
theorem c_99_74 : mLk 99 74 = some (.if_icmp .ne 7, 3) := rfl
theorem c_99_81 : mLk 99 81 = some (.aload_n 0, 1) := rfl
theorem c_99_82 : mLk 99 82 = some (.getfield 62, 3) := rfl
theorem c_99_85 : mLk 99 85 = some (.iload_n 2, 1) := rfl
theorem c_99_86 : mLk 99 86 = some (.invokevirtual 190, 3) := rfl
theorem c_99_25 : mLk 99 25 = some (.aload_n 0, 1) := rfl
theorem c_99_26 : mLk 99 26 = some (.getfield 62, 3) := rfl
theorem c_99_29 : mLk 99 29 = some (.iload_n 3, 1) := rfl
theorem c_99_30 : mLk 99 30 = some (.invokevirtual 187, 3) := rfl
theorem c_99_33 : mLk 99 33 = some (.ifCond .le 29, 3) := rfl
theorem c_99_62 : mLk 99 62 = some (.iinc 3 1, 3) := rfl
theorem c_99_65 : mLk 99 65 = some (.goto (-51), 3) := rfl
theorem c_99_36 : mLk 99 36 = some (.iload_n 2, 1) := rfl
theorem c_99_37 : mLk 99 37 = some (.iconst (-1), 1) := rfl
theorem c_99_38 : mLk 99 38 = some (.if_icmp .eq 22, 3) := rfl
theorem c_99_60 : mLk 99 60 = some (.iload_n 3, 1) := rfl
theorem c_99_61 : mLk 99 61 = some (.istore_n 2, 1) := rfl
theorem c_99_41 : mLk 99 41 = some (.aload_n 0, 1) := rfl
theorem c_99_42 : mLk 99 42 = some (.getfield 62, 3) := rfl
theorem c_99_45 : mLk 99 45 = some (.iload_n 3, 1) := rfl
theorem c_99_46 : mLk 99 46 = some (.invokevirtual 190, 3) := rfl
theorem c_99_49 : mLk 99 49 = some (.aload_n 0, 1) := rfl
theorem c_99_50 : mLk 99 50 = some (.getfield 62, 3) := rfl
theorem c_99_53 : mLk 99 53 = some (.iload_n 2, 1) := rfl
theorem c_99_54 : mLk 99 54 = some (.invokevirtual 190, 3) := rfl
theorem c_99_57 : mLk 99 57 = some (.if_icmp .le 5, 3) := rfl
theorem c_99_0 : mLk 99 0 = some (.aload_n 0, 1) := rfl
theorem c_99_1 : mLk 99 1 = some (.iload_n 1, 1) := rfl
theorem c_99_2 : mLk 99 2 = some (.iconst 0, 1) := rfl
theorem c_99_3 : mLk 99 3 = some (.iconst 1, 1) := rfl
theorem c_99_4 : mLk 99 4 = some (.invokestatic 157, 3) := rfl
theorem c_99_7 : mLk 99 7 = some (.invokevirtual 161, 3) := rfl
theorem c_99_10 : mLk 99 10 = some (.iconst (-1), 1) := rfl
theorem c_99_11 : mLk 99 11 = some (.istore_n 2, 1) := rfl
theorem c_99_12 : mLk 99 12 = some (.iconst 0, 1) := rfl
theorem c_99_13 : mLk 99 13 = some (.istore_n 3, 1) := rfl
theorem c_100_38 : mLk 100 38 = some (.iload 6, 2) := rfl
theorem c_100_40 : mLk 100 40 = some (.aload_n 0, 1) := rfl
theorem c_100_41 : mLk 100 41 = some (.getfield 50, 3) := rfl
theorem c_100_44 : mLk 100 44 = some (.getfield 102, 3) := rfl
theorem c_100_47 : mLk 100 47 = some (.if_icmp .ge 41, 3) := rfl
theorem c_100_88 : mLk 100 88 = some (.iload_n 2, 1) := rfl
theorem c_100_89 : mLk 100 89 = some (.ifCond .ne 7, 3) := rfl
theorem c_100_96 : mLk 100 96 = some (.iload 4, 2) := rfl
theorem c_100_98 : mLk 100 98 = some (.ireturn, 1) := rfl
theorem c_100_92 : mLk 100 92 = some (.iload_n 3, 1) := rfl
theorem c_100_93 : mLk 100 93 = some (.goto 5, 3) := rfl
theorem c_100_50 : mLk 100 50 = some (.aload_n 0, 1) := rfl
theorem c_100_51 : mLk 100 51 = some (.getfield 62, 3) := rfl
theorem c_100_54 : mLk 100 54 = some (.iload 6, 2) := rfl
theorem c_100_56 : mLk 100 56 = some (.iload_n 1, 1) := rfl
theorem c_100_57 : mLk 100 57 = some (.invokevirtual 196, 3) := rfl
theorem c_100_60 : mLk 100 60 = some (.istore 7, 2) := rfl
theorem c_100_62 : mLk 100 62 = some (.iload_n 3, 1) := rfl
theorem c_100_63 : mLk 100 63 = some (.iload 7, 2) := rfl
theorem c_100_65 : mLk 100 65 = some (.iadd, 1) := rfl
theorem c_100_66 : mLk 100 66 = some (.istore_n 3, 1) := rfl
theorem c_100_67 : mLk 100 67 = some (.iload 7, 2) := rfl
theorem c_100_69 : mLk 100 69 = some (.iload 5, 2) := rfl
theorem c_100_71 : mLk 100 71 = some (.if_icmp .le 11, 3) := rfl
theorem c_100_82 : mLk 100 82 = some (.iinc 6 1, 3) := rfl
theorem c_100_85 : mLk 100 85 = some (.goto (-47), 3) := rfl
theorem c_100_74 : mLk 100 74 = some (.iload 7, 2) := rfl
theorem c_100_76 : mLk 100 76 = some (.istore 5, 2) := rfl
theorem c_100_78 : mLk 100 78 = some (.iload 6, 2) := rfl
theorem c_100_80 : mLk 100 80 = some (.istore 4, 2) := rfl
theorem c_100_0 : mLk 100 0 = some (.aload_n 0, 1) := rfl
theorem c_100_1 : mLk 100 1 = some (.iload_n 1, 1) := rfl
theorem c_100_2 : mLk 100 2 = some (.iconst 0, 1) := rfl
theorem c_100_3 : mLk 100 3 = some (.iconst 3, 1) := rfl
theorem c_100_4 : mLk 100 4 = some (.invokestatic 157, 3) := rfl
theorem c_100_7 : mLk 100 7 = some (.ifCond .eq 16, 3) := rfl
theorem c_100_23 : mLk 100 23 = some (.iconst 0, 1) := rfl
theorem c_100_24 : mLk 100 24 = some (.invokevirtual 161, 3) := rfl
theorem c_100_10 : mLk 100 10 = some (.iload_n 2, 1) := rfl
theorem c_100_11 : mLk 100 11 = some (.iconst 0, 1) := rfl
theorem c_100_12 : mLk 100 12 = some (.iconst 1, 1) := rfl
theorem c_100_13 : mLk 100 13 = some (.invokestatic 157, 3) := rfl
theorem c_100_16 : mLk 100 16 = some (.ifCond .eq 7, 3) := rfl
theorem c_100_19 : mLk 100 19 = some (.iconst 1, 1) := rfl
theorem c_100_20 : mLk 100 20 = some (.goto 4, 3) := rfl
theorem c_100_27 : mLk 100 27 = some (.iconst 0, 1) := rfl
theorem c_100_28 : mLk 100 28 = some (.istore_n 3, 1) := rfl
theorem c_100_29 : mLk 100 29 = some (.iconst (-1), 1) := rfl
theorem c_100_30 : mLk 100 30 = some (.istore 4, 2) := rfl
theorem c_100_32 : mLk 100 32 = some (.iconst 0, 1) := rfl
theorem c_100_33 : mLk 100 33 = some (.istore 5, 2) := rfl
theorem c_100_35 : mLk 100 35 = some (.iconst 0, 1) := rfl
theorem c_100_36 : mLk 100 36 = some (.istore 6, 2) := rfl
theorem c_101_4 : mLk 101 4 = some (.iload_n 2, 1) := rfl
theorem c_101_5 : mLk 101 5 = some (.aload_n 0, 1) := rfl
theorem c_101_6 : mLk 101 6 = some (.getfield 50, 3) := rfl
theorem c_101_9 : mLk 101 9 = some (.getfield 102, 3) := rfl
theorem c_101_12 : mLk 101 12 = some (.if_icmp .ge 27, 3) := rfl
theorem c_101_39 : mLk 101 39 = some (.iload_n 1, 1) := rfl
theorem c_101_40 : mLk 101 40 = some (.ireturn, 1) := rfl
theorem c_101_15 : mLk 101 15 = some (.aload_n 0, 1) := rfl
theorem c_101_16 : mLk 101 16 = some (.getfield 62, 3) := rfl
theorem c_101_19 : mLk 101 19 = some (.iload_n 2, 1) := rfl
theorem c_101_20 : mLk 101 20 = some (.invokevirtual 215, 3) := rfl
theorem c_101_23 : mLk 101 23 = some (.iconst 1, 1) := rfl
theorem c_101_24 : mLk 101 24 = some (.if_icmp .ne 9, 3) := rfl
theorem c_101_33 : mLk 101 33 = some (.iinc 2 1, 3) := rfl
theorem c_101_36 : mLk 101 36 = some (.goto (-32), 3) := rfl
theorem c_101_27 : mLk 101 27 = some (.iload_n 1, 1) := rfl
theorem c_101_28 : mLk 101 28 = some (.iconst 1, 1) := rfl
theorem c_101_29 : mLk 101 29 = some (.iload_n 2, 1) := rfl
theorem c_101_30 : mLk 101 30 = some (.ishl, 1) := rfl
theorem c_101_31 : mLk 101 31 = some (.ior, 1) := rfl
theorem c_101_32 : mLk 101 32 = some (.istore_n 1, 1) := rfl
theorem c_101_0 : mLk 101 0 = some (.iconst 0, 1) := rfl
theorem c_101_1 : mLk 101 1 = some (.istore_n 1, 1) := rfl
theorem c_101_2 : mLk 101 2 = some (.iconst 0, 1) := rfl
theorem c_101_3 : mLk 101 3 = some (.istore_n 2, 1) := rfl
theorem c_102_12 : mLk 102 12 = some (.iload 4, 2) := rfl
theorem c_102_14 : mLk 102 14 = some (.aload_n 0, 1) := rfl
theorem c_102_15 : mLk 102 15 = some (.getfield 50, 3) := rfl
theorem c_102_18 : mLk 102 18 = some (.getfield 102, 3) := rfl
theorem c_102_21 : mLk 102 21 = some (.if_icmp .ge 67, 3) := rfl
theorem c_102_88 : mLk 102 88 = some (.iload_n 2, 1) := rfl
theorem c_102_89 : mLk 102 89 = some (.ireturn, 1) := rfl
theorem c_102_24 : mLk 102 24 = some (.aload_n 0, 1) := rfl
theorem c_102_25 : mLk 102 25 = some (.getfield 62, 3) := rfl
theorem c_102_28 : mLk 102 28 = some (.iload 4, 2) := rfl
theorem c_102_30 : mLk 102 30 = some (.invokevirtual 193, 3) := rfl
theorem c_102_33 : mLk 102 33 = some (.aload_n 0, 1) := rfl
theorem c_102_34 : mLk 102 34 = some (.getfield 62, 3) := rfl
theorem c_102_37 : mLk 102 37 = some (.iload_n 1, 1) := rfl
theorem c_102_38 : mLk 102 38 = some (.invokevirtual 193, 3) := rfl
theorem c_102_41 : mLk 102 41 = some (.isub, 1) := rfl
theorem c_102_42 : mLk 102 42 = some (.invokestatic 218, 3) := rfl
theorem c_102_45 : mLk 102 45 = some (.istore 5, 2) := rfl
theorem c_102_47 : mLk 102 47 = some (.iload 4, 2) := rfl
theorem c_102_49 : mLk 102 49 = some (.iload_n 1, 1) := rfl
theorem c_102_50 : mLk 102 50 = some (.if_icmp .eq 32, 3) := rfl
theorem c_102_82 : mLk 102 82 = some (.iinc 4 1, 3) := rfl
theorem c_102_85 : mLk 102 85 = some (.goto (-73), 3) := rfl
theorem c_102_53 : mLk 102 53 = some (.aload_n 0, 1) := rfl
theorem c_102_54 : mLk 102 54 = some (.getfield 62, 3) := rfl
theorem c_102_57 : mLk 102 57 = some (.iload 4, 2) := rfl
theorem c_102_59 : mLk 102 59 = some (.invokevirtual 187, 3) := rfl
theorem c_102_62 : mLk 102 62 = some (.ifCond .le 20, 3) := rfl
theorem c_102_65 : mLk 102 65 = some (.iload_n 2, 1) := rfl
theorem c_102_66 : mLk 102 66 = some (.iconst (-1), 1) := rfl
theorem c_102_67 : mLk 102 67 = some (.if_icmp .eq 9, 3) := rfl
theorem c_102_76 : mLk 102 76 = some (.iload 4, 2) := rfl
theorem c_102_78 : mLk 102 78 = some (.istore_n 2, 1) := rfl
theorem c_102_79 : mLk 102 79 = some (.iload 5, 2) := rfl
theorem c_102_81 : mLk 102 81 = some (.istore_n 3, 1) := rfl
theorem c_102_70 : mLk 102 70 = some (.iload 5, 2) := rfl
theorem c_102_72 : mLk 102 72 = some (.iload_n 3, 1) := rfl
theorem c_102_73 : mLk 102 73 = some (.if_icmp .ge 9, 3) := rfl
theorem c_102_0 : mLk 102 0 = some (.aload_n 0, 1) := rfl
theorem c_102_1 : mLk 102 1 = some (.iload_n 1, 1) := rfl
theorem c_102_2 : mLk 102 2 = some (.invokevirtual 184, 3) := rfl
theorem c_102_5 : mLk 102 5 = some (.iconst (-1), 1) := rfl
theorem c_102_6 : mLk 102 6 = some (.istore_n 2, 1) := rfl
theorem c_102_7 : mLk 102 7 = some (.iconst 0, 1) := rfl
theorem c_102_8 : mLk 102 8 = some (.istore_n 3, 1) := rfl
theorem c_102_9 : mLk 102 9 = some (.iconst 0, 1) := rfl
theorem c_102_10 : mLk 102 10 = some (.istore 4, 2) := rfl
theorem c_103_0 : mLk 103 0 = some (.aload_n 0, 1) := rfl
theorem c_103_1 : mLk 103 1 = some (.iload_n 1, 1) := rfl
theorem c_103_2 : mLk 103 2 = some (.invokevirtual 184, 3) := rfl
theorem c_103_5 : mLk 103 5 = some (.aload_n 0, 1) := rfl
theorem c_103_6 : mLk 103 6 = some (.getfield 62, 3) := rfl
theorem c_103_9 : mLk 103 9 = some (.iload_n 1, 1) := rfl
theorem c_103_10 : mLk 103 10 = some (.invokevirtual 223, 3) := rfl
theorem c_103_13 : mLk 103 13 = some (.ireturn, 1) := rfl
theorem kf_7_129 : a_lk (kF 7) 129 = some (3, 2) := rfl
theorem kf_7_136 : a_lk (kF 7) 136 = some (3, 4) := rfl
theorem kf_7_139 : a_lk (kF 7) 139 = some (3, 3) := rfl
theorem kf_7_145 : a_lk (kF 7) 145 = some (2, 4) := rfl
theorem kf_7_151 : a_lk (kF 7) 151 = some (2, 5) := rfl
theorem kf_7_154 : a_lk (kF 7) 154 = some (5, 5) := rfl
theorem kf_7_165 : a_lk (kF 7) 165 = some (2, 1) := rfl
theorem kf_7_168 : a_lk (kF 7) 168 = some (2, 2) := rfl
theorem kf_7_171 : a_lk (kF 7) 171 = some (2, 3) := rfl
theorem kf_7_174 : a_lk (kF 7) 174 = some (4, 0) := rfl
theorem kf_7_209 : a_lk (kF 7) 209 = some (2, 8) := rfl
theorem kf_7_26 : a_lk (kF 7) 26 = some (7, 2) := rfl
theorem kf_7_327 : a_lk (kF 7) 327 = some (7, 12) := rfl
theorem km_7_118 : a_lk (kM 7) 118 = some (0, 23) := rfl
theorem km_7_121 : a_lk (kM 7) 121 = some (0, 42) := rfl
theorem km_7_125 : a_lk (kM 7) 125 = some (0, 24) := rfl
theorem km_7_132 : a_lk (kM 7) 132 = some (0, 63) := rfl
theorem km_7_142 : a_lk (kM 7) 142 = some (0, 35) := rfl
theorem km_7_148 : a_lk (kM 7) 148 = some (0, 36) := rfl
theorem km_7_177 : a_lk (kM 7) 177 = some (0, 69) := rfl
theorem km_7_181 : a_lk (kM 7) 181 = some (0, 70) := rfl
theorem km_7_184 : a_lk (kM 7) 184 = some (0, 92) := rfl
theorem km_7_187 : a_lk (kM 7) 187 = some (0, 43) := rfl
theorem km_7_190 : a_lk (kM 7) 190 = some (0, 51) := rfl
theorem km_7_193 : a_lk (kM 7) 193 = some (0, 68) := rfl
theorem km_7_196 : a_lk (kM 7) 196 = some (0, 45) := rfl
theorem km_7_200 : a_lk (kM 7) 200 = some (0, 94) := rfl
theorem km_7_203 : a_lk (kM 7) 203 = some (0, 29) := rfl
theorem km_7_206 : a_lk (kM 7) 206 = some (0, 96) := rfl
theorem km_7_212 : a_lk (kM 7) 212 = some (0, 46) := rfl
theorem km_7_215 : a_lk (kM 7) 215 = some (0, 67) := rfl
theorem km_7_223 : a_lk (kM 7) 223 = some (0, 56) := rfl
theorem km_7_333 : a_lk (kM 7) 333 = some (0, 91) := rfl
set_option maxRecDepth 100000 in
set_option maxHeartbeats 4000000 in
theorem s_86 {sc : List Int32} {d P Q : Nat} {c : ME} {a1 : Int} {Z : AR → Prop} (hI : Iv 0 (-1) P Q c) (ha1 : (-2147483648) ≤ a1 ∧ a1 ≤ 2147483647) (T101 : ∀ c2 : ME, Iv 0 (-1) P Q c2 → (∀ (a : Nat) (j : Int), ¬ ((a = 0 ∧ j = 13)) → c2 a j = c a j) → ((c2 1 3 = c 1 3)) → ((a1 < 0) ∨ (a1 > c 1 3) ∨ (a1 > 150)) → Z (.inr 101, Wd P Q P P c2, 1, 6)) (K : ∀ (c2 : ME) (y : Int), Iv 0 (-1) P Q c2 → (∀ (a : Nat) (j : Int), ¬ ((a = 1 ∧ j = 1) ∨ (a = 1 ∧ j = 2) ∨ (a = 1 ∧ j = 3) ∨ (a = 1 ∧ j = 4) ∨ (a = 1 ∧ j = 5) ∨ (a = 0 ∧ j = 13) ∨ (a = 7 ∧ j = 1) ∨ (a = 7 ∧ j = 2) ∨ (a = 7 ∧ j = 3) ∨ (a = 7 ∧ j = 4) ∨ a = 8 ∨ (a = 3 ∧ j = 3) ∨ a = 4 ∨ a = 38 ∨ (a = 0 ∧ j = 11) ∨ a = (P + 10) ∨ a = (P + 11)) → c2 a j = c a j) → (-2147483648) ≤ y ∧ y ≤ 2147483647 → ((c2 1 3 = 0 ∧ a1 ≥ 0 ∧ a1 ≤ c 1 3 ∧ a1 ≤ 150)) → Z (.inl (some (vi y)), Wd P Q P P c2, 0, 0)) : Wp sc (d + 26) 86 0 [(0, .ref 0), (1, vi a1)] [] (Wd P Q P P c) 0 0 Z := by
  have hP := iv_P hI
  have hQ := iv_Q hI
  refine q_aload_n c_86_0 rfl (q_iload_n c_86_1 rfl (v_sip c_86_2 (by decide) (v_cv c_86_5 km_7_81 rfl rfl (nb_ rfl) ⟨⟨rfl, rfl⟩, nb_ rfl, rfl⟩ (nb_ rfl) (nb_ rfl) (q_aload_n c_82_0 rfl (q_iload_n c_82_1 rfl (q_iconst c_82_2 (q_iload_n c_82_3 rfl ?_)))))))
  refine q_aload_n c_82_4 rfl (v_gr (t := 1) c_82_5 kf_7_10 rfl (nb_ rfl) rfl ?_)
  have h_1 := ir_1_3 hI
  refine v_gi (z := 3) (v := c 1 3) c_82_8 kf_7_77 rfl (nb_ rfl) rfl rfl rfl (v_minx c_82_11 rfl (by omega) (nb_ rfl) ⟨by omega, by omega, by omega, by omega⟩ (fun y_2 hy_2 => (q_call c_82_14 rfl rfl rfl (q_iload_n c_80_0 rfl (q_iload_n c_80_1 rfl ?_)))))
  by_cases h_3 : a1 < 0
  · refine v_ic_lt_t (t := 14) c_80_2 rfl ⟨ha1.1, h_3, by decide⟩ (q_iconst c_80_14 (v_zret c_80_15 rfl (by decide) (bk_inl (v_cv c_82_17 km_7_161 rfl rfl (nb_ rfl) ⟨⟨rfl, rfl⟩, nb_ rfl, rfl⟩ (nb_ rfl) (nb_ rfl) (q_iload_n c_81_0 rfl (v_if_ne_f (t := 25) c_81_1 rfl (by decide) (q_aload_n c_81_4 rfl ?_)))))))
    refine q_dup c_81_5 rfl ?_
    have h_4 := ir_0_13 hI
    refine v_gi (z := 13) (v := c 0 13) c_81_6 kf_7_330 rfl (nb_ rfl) rfl rfl rfl (q_iconst c_81_9 (v_iadd (v := c 0 13 + 1) c_81_10 rfl (v_nrm (fun y_5 hy_5 => (v_pi (z := 13) c_81_11 kf_7_330 rfl (nb_ rfl) rfl rfl rfl (by decide) (v_new c_81_14 rfl (by decide) (ld_ rfl) (nb_ rfl) (by decide) rfl (bk_out rfl rfl (bk_out rfl rfl ?_))))))))
    have hI_6 := iw_0_13 (v := y_5) hI ⟨hy_5.1, hy_5.2⟩
    have h_7 : (up c 0 13 y_5) 1 3 = c 1 3 := (up_c (nn rfl))
    exact T101 _ hI_6 (fun a j hm => up_b (Decidable.or_iff_not_imp_left.mpr (fun h1 h2 => hm ⟨Decidable.not_not.mp h1, h2⟩))) (by first | assumption | omega) (Or.inl (by first | exact q_e97a17f6e h_3 | omega))
  · refine v_ic_lt_f (t := 14) c_80_2 rfl ⟨by decide, (Int.not_lt.mp h_3), ha1.2⟩ (q_iload_n c_80_5 rfl (q_iload_n c_80_6 rfl ?_))
    by_cases h_8 : a1 > y_2
    · refine v_ic_gt_t (t := 14) c_80_7 rfl ⟨by omega, h_8, ha1.2⟩ (q_iconst c_80_14 (v_zret c_80_15 rfl (by decide) (bk_inl (v_cv c_82_17 km_7_161 rfl rfl (nb_ rfl) ⟨⟨rfl, rfl⟩, nb_ rfl, rfl⟩ (nb_ rfl) (nb_ rfl) (q_iload_n c_81_0 rfl (v_if_ne_f (t := 25) c_81_1 rfl (by decide) (q_aload_n c_81_4 rfl ?_)))))))
      refine q_dup c_81_5 rfl ?_
      have h_9 := ir_0_13 hI
      refine v_gi (z := 13) (v := c 0 13) c_81_6 kf_7_330 rfl (nb_ rfl) rfl rfl rfl (q_iconst c_81_9 (v_iadd (v := c 0 13 + 1) c_81_10 rfl (v_nrm (fun y_10 hy_10 => (v_pi (z := 13) c_81_11 kf_7_330 rfl (nb_ rfl) rfl rfl rfl (by decide) (v_new c_81_14 rfl (by decide) (ld_ rfl) (nb_ rfl) (by decide) rfl (bk_out rfl rfl (bk_out rfl rfl ?_))))))))
      have hI_11 := iw_0_13 (v := y_10) hI ⟨hy_10.1, hy_10.2⟩
      have h_12 : (up c 0 13 y_10) 1 3 = c 1 3 := (up_c (nn rfl))
      exact T101 _ hI_11 (fun a j hm => up_b (Decidable.or_iff_not_imp_left.mpr (fun h1 h2 => hm ⟨Decidable.not_not.mp h1, h2⟩))) (by first | assumption | omega) (by omega)
    · refine v_ic_gt_f (t := 14) c_80_7 rfl ⟨ha1.1, (Int.not_lt.mp h_8), by omega⟩ (q_iconst c_80_10 (q_goto (t := 15) c_80_11 rfl (v_zret c_80_15 rfl (by decide) (bk_inl (v_cv c_82_17 km_7_161 rfl rfl (nb_ rfl) ⟨⟨rfl, rfl⟩, nb_ rfl, rfl⟩ (nb_ rfl) (nb_ rfl) (q_iload_n c_81_0 rfl (v_if_ne_t (t := 25) c_81_1 rfl (by decide) ?_)))))))
      refine q_vret rfl rfl (bk_inl (q_aload_n c_82_20 rfl (v_gr (t := 1) c_82_21 kf_7_10 rfl (nb_ rfl) rfl (q_iload_n c_82_24 rfl (v_cv c_82_25 km_7_348 rfl rfl (nb_ rfl) ⟨⟨rfl, rfl⟩, nb_ rfl, rfl⟩ (nb_ rfl) (nb_ rfl) (s_74 (a1 := a1) hI (show 0 ≤ a1 ∧ a1 ≤ 600 from ⟨by first | exact q_720657ba9 h_3 | omega, by omega⟩) (fun c_13 hI_14 hF_15 h_16 => (bk_inl ?_))))))))
      have h_17 := ir_1_3 hI_14
      refine q_vret rfl rfl (bk_inl (q_aload_n c_86_8 rfl (v_gr (t := 3) c_86_9 kf_7_19 rfl (nb_ rfl) rfl (v_cv c_86_12 km_7_118 rfl rfl (nb_ rfl) ⟨⟨rfl, rfl⟩, nb_ rfl, rfl⟩ (nb_ rfl) (nb_ rfl) (q_aload_n c_23_0 rfl ?_)))))
      have h_18 := ir_3_3 hI
      have kn_19 : Hid (c_13 3 3 = c 3 3) := hF_15 3 3 qn_08ac8a977
      refine v_gi (z := 3) (v := c 3 3) c_23_1 kf_1_21 rfl (nb_ rfl) rfl rfl (hid kn_19) (v_bip c_23_4 (by decide) ?_)
      by_cases h_20 : c 3 3 < 16
      · refine v_ic_lt_t (t := 13) c_23_6 rfl ⟨by first | exact q_75c67c730 h_18 | omega, h_20, by decide⟩ (q_iconst c_23_13 (v_zret c_23_14 rfl (by decide) (bk_inl (v_if_eq_t (t := 21) c_86_15 rfl (by decide) (q_aload_n c_86_21 rfl (v_gr (t := 7) c_86_22 kf_7_26 rfl (nb_ rfl) rfl (q_aload_n c_86_25 rfl ?_)))))))
        refine v_gr (t := 1) c_86_26 kf_7_10 rfl (nb_ rfl) rfl (q_aload_n c_86_29 rfl (v_gr (t := P) c_86_30 kf_7_50 rfl (nb_ rfl) rfl (v_cv c_86_33 km_7_121 rfl rfl (nb_ rfl) ⟨⟨rfl, rfl⟩, nb_ rfl, rfl⟩ (nb_ rfl) (nb_ rfl) (s_42 hI_14 (fun c_21 hI_22 hF_23 => (bk_inl (q_aload_n c_86_36 rfl (v_gr (t := 1) c_86_37 kf_7_10 rfl (nb_ rfl) rfl (v_cv c_86_40 km_7_89 rfl rfl (nb_ rfl) ⟨⟨rfl, rfl⟩, nb_ rfl, rfl⟩ (nb_ rfl) (nb_ rfl) ?_)))))))))
        refine q_aload_n c_2_0 rfl ?_
        have h_24 := ir_1_4 hI_22
        refine v_gi (z := 4) (v := c_21 1 4) c_2_1 kf_5_38 rfl (nb_ rfl) rfl rfl rfl ?_
        by_cases h_25 : c_21 1 4 ≠ 0
        · refine v_if_ne_t (t := 11) c_2_4 rfl ⟨h_25, ⟨(Int.le_trans (by decide) h_24.1), (Int.le_trans h_24.2 (by decide))⟩, by decide, by decide⟩ (q_iconst c_2_11 (v_zret c_2_12 rfl (by decide) (bk_inl (v_if_eq_t (t := 88) c_86_43 rfl (by decide) (q_aload_n c_86_88 rfl (q_aload_n c_86_89 rfl (v_gr (t := 7) c_86_90 kf_7_26 rfl (nb_ rfl) rfl ?_)))))))
          have h_26 := ir_7_3 hI_22
          refine v_gi (z := 3) (v := c_21 7 3) c_86_93 kf_7_139 rfl (nb_ rfl) rfl rfl rfl (v_cv c_86_96 km_7_105 rfl rfl (nb_ rfl) ⟨⟨rfl, rfl⟩, nb_ rfl, rfl⟩ (nb_ rfl) (nb_ rfl) (q_aload_n c_83_0 rfl (v_gr (t := 1) c_83_1 kf_7_10 rfl (nb_ rfl) rfl (v_cv c_83_4 km_7_89 rfl rfl (nb_ rfl) ⟨⟨rfl, rfl⟩, nb_ rfl, rfl⟩ (nb_ rfl) (nb_ rfl) (q_aload_n c_2_0 rfl (v_gi (z := 4) (v := c_21 1 4) c_2_1 kf_5_38 rfl (nb_ rfl) rfl rfl rfl (v_if_ne_t (t := 11) c_2_4 rfl ⟨by first | exact q_646bc4652 h_24 h_25 | omega, ⟨(Int.le_trans (by decide) h_24.1), (Int.le_trans h_24.2 (by decide))⟩, by decide, by decide⟩ ?_)))))))
          refine q_iconst c_2_11 (v_zret c_2_12 rfl (by decide) (bk_inl (v_if_eq_t (t := 14) c_83_7 rfl (by decide) (q_aload_n c_83_14 rfl (v_gr (t := 1) c_83_15 kf_7_10 rfl (nb_ rfl) rfl (v_gi (z := 4) (v := c_21 1 4) c_83_18 kf_7_351 rfl (nb_ rfl) rfl rfl rfl (v_bip c_83_21 (by decide) ?_)))))))
          refine v_isub (v := c_21 1 4 - 10) c_83_23 rfl (q_iret c_83_24 rfl (bk_inl (q_iret c_86_99 rfl ?_)))
          have kn_27 : Hid (c_21 1 3 = c_13 1 3) := hF_23 1 3 qn_b30559106
          have h_28 : c_21 1 3 = c_13 1 3 := (hid kn_27)
          exact K c_21 (c_21 1 4 - 10) hI_22 (fun a j hm => (hF_23 a j (qv_9761d3a0a hm)).trans (hF_15 a j (qv_ecb23a814 hm))) ⟨by first | exact rgm_l h_24.1 (by decide) | omega, by first | exact rgm_h h_24.2 (by decide) | omega⟩ ⟨by first | exact q_1317ba452 h_16 h_17 | omega, by first | exact q_720657ba9 h_3 | omega, by first | (clear ha1 h_1 h_3 h_17 h_16 h_18 h_20 h_24 h_26 h_25; omega) | omega, by first | (clear ha1 h_1 h_3 h_17 h_16 h_18 h_20 h_24 h_26 h_25; omega) | omega⟩
        · refine v_if_ne_f (t := 11) c_2_4 rfl (Decidable.not_not.mp h_25) (q_iconst c_2_7 (q_goto (t := 12) c_2_8 rfl (v_zret c_2_12 rfl (by decide) (bk_inl (v_if_eq_f (t := 88) c_86_43 rfl (by decide) (q_aload_n c_86_46 rfl (v_gr (t := 3) c_86_47 kf_7_19 rfl (nb_ rfl) rfl ?_)))))))
          refine q_aload_n c_86_50 rfl (v_gr (t := 37) c_86_51 kf_7_62 rfl (nb_ rfl) rfl ?_)
          have kn_29 : Hid (c_21 3 3 = c 3 3) := (hF_23 3 3 qn_9a819f161).trans (hid kn_19)
          have h_30 : c_21 3 3 = c 3 3 := (hid kn_29)
          refine v_cv c_86_54 km_7_125 rfl rfl (nb_ rfl) ⟨⟨rfl, rfl⟩, nb_ rfl, rfl⟩ (nb_ rfl) (nb_ rfl) (s_24 hI_22 (fun c_31 hI_32 hF_33 h_34 => (bk_inl ?_)))
          have h_35 := ir_3_3 hI_32
          refine q_aload_n c_86_57 rfl (v_gr (t := 7) c_86_58 kf_7_26 rfl (nb_ rfl) rfl (q_aload_n c_86_61 rfl (v_gr (t := 37) c_86_62 kf_7_62 rfl (nb_ rfl) rfl (q_iconst c_86_65 (q_aload_n c_86_66 rfl (v_gr (t := 7) c_86_67 kf_7_26 rfl (nb_ rfl) rfl ?_))))))
          have h_36 := ir_7_2 hI_22
          have kn_37 : Hid (c_31 7 2 = c_21 7 2) := hF_33 7 2 (fun q => q.elim (fun h => absurd h.1 (nn rfl)) (fun h => absurd h (nn rfl)))
          refine v_gi (z := 2) (v := c_21 7 2) c_86_70 kf_7_129 rfl (nb_ rfl) rfl rfl (hid kn_37) (q_iconst c_86_73 ?_)
          have h_38 := ir_7_1 hI_22
          have kn_39 : Hid (c_31 7 1 = c_21 7 1) := hF_33 7 1 (fun q => q.elim (fun h => absurd h.1 (nn rfl)) (fun h => absurd h (nn rfl)))
          have h_40 : c_31 7 1 = c_21 7 1 := (hid kn_39)
          refine v_cv c_86_74 km_7_132 rfl rfl (nb_ rfl) ⟨⟨rfl, rfl⟩, nb_ rfl, rfl⟩ (nb_ rfl) (nb_ rfl) (r_63 (a2 := 0) (a3 := c_21 7 2) (a4 := 0) hI_32 (show 0 ≤ 0 ∧ 0 ≤ 38 from ⟨by decide, by decide⟩) (show 0 ≤ c_21 7 2 ∧ c_21 7 2 ≤ 38 from ⟨by first | exact q_8f9397160 h_36 | omega, by first | exact q_e17ec74dc h_36 | omega⟩) (show 0 ≤ 0 ∧ 0 ≤ 7 from ⟨by decide, by decide⟩) (fun c_41 hI_42 hF_43 h_44 => (bk_inl ?_)))
          have h_45 := ir_7_1 hI_42
          refine q_aload_n c_86_77 rfl (q_aload_n c_86_78 rfl (v_gr (t := 7) c_86_79 kf_7_26 rfl (nb_ rfl) rfl ?_))
          have h_46 := ir_7_4 hI_42
          refine v_gi (z := 4) (v := c_41 7 4) c_86_82 kf_7_136 rfl (nb_ rfl) rfl rfl rfl (v_pi (z := 11) c_86_85 kf_7_99 rfl (nb_ rfl) rfl rfl rfl (by decide) (q_aload_n c_86_88 rfl (q_aload_n c_86_89 rfl (v_gr (t := 7) c_86_90 kf_7_26 rfl (nb_ rfl) rfl ?_))))
          have h_47 := ir_7_3 hI_42
          refine v_gi (z := 3) (v := c_41 7 3) c_86_93 kf_7_139 rfl (nb_ rfl) rfl rfl (up_c (nn rfl)) (v_cv c_86_96 km_7_105 rfl rfl (nb_ rfl) ⟨⟨rfl, rfl⟩, nb_ rfl, rfl⟩ (nb_ rfl) (nb_ rfl) (q_aload_n c_83_0 rfl (v_gr (t := 1) c_83_1 kf_7_10 rfl (nb_ rfl) rfl (v_cv c_83_4 km_7_89 rfl rfl (nb_ rfl) ⟨⟨rfl, rfl⟩, nb_ rfl, rfl⟩ (nb_ rfl) (nb_ rfl) (q_aload_n c_2_0 rfl ?_)))))
          have kn_48 : Hid (c_31 1 4 = c_21 1 4) := hF_33 1 4 (fun q => q.elim (fun h => absurd h.1 (nn rfl)) (fun h => absurd h (nn rfl)))
          have kn_49 : Hid (c_41 1 4 = c_21 1 4) := (hF_43 1 4 (qn_71b2ffb85 hP)).trans (hid kn_48)
          refine v_gi (z := 4) (v := c_21 1 4) c_2_1 kf_5_38 rfl (nb_ rfl) rfl rfl ((up_c (nn rfl)).trans (hid kn_49)) (v_if_ne_f (t := 11) c_2_4 rfl (by first | exact q_163d1c5eb h_24 h_25 | omega) (q_iconst c_2_7 (q_goto (t := 12) c_2_8 rfl (v_zret c_2_12 rfl (by decide) (bk_inl (v_if_eq_f (t := 14) c_83_7 rfl (by decide) (q_iload_n c_83_10 rfl ?_)))))))
          refine q_goto (t := 24) c_83_11 rfl (q_iret c_83_24 rfl (bk_inl (q_iret c_86_99 rfl ?_)))
          have hI_50 := iw_0_11 (v := c_41 7 4) hI_42 ⟨h_46.1, h_46.2⟩
          have kn_51 : Hid (c_21 1 3 = c_13 1 3) := hF_23 1 3 qn_b30559106
          have kn_52 : Hid (c_31 1 3 = c_13 1 3) := (hF_33 1 3 (fun q => q.elim (fun h => absurd h.1 (nn rfl)) (fun h => absurd h (nn rfl)))).trans (hid kn_51)
          have kn_53 : Hid (c_41 1 3 = c_13 1 3) := (hF_43 1 3 (qn_71b2ffb85 hP)).trans (hid kn_52)
          have h_54 : (up c_41 0 11 (c_41 7 4)) 1 3 = c_13 1 3 := ((up_c (nn rfl)).trans (hid kn_53))
          exact K (up c_41 0 11 (c_41 7 4)) (c_41 7 3) hI_50 (fun a j hm => (up_b (Decidable.or_iff_not_imp_left.mpr (fun h1 h2 => hm (Or.inr (Or.inr (Or.inr (Or.inr (Or.inr (Or.inr (Or.inr (Or.inr (Or.inr (Or.inr (Or.inr (Or.inr (Or.inr (Or.inr (Or.inl ⟨Decidable.not_not.mp h1, h2⟩)))))))))))))))))).trans ((hF_43 a j (qv_e0fb561f1 hm)).trans ((hF_33 a j (qv_36124640b hm)).trans ((hF_23 a j (qv_9761d3a0a hm)).trans (hF_15 a j (qv_ecb23a814 hm)))))) h_47 ⟨by first | exact q_1317ba452 h_16 h_17 | omega, by first | exact q_720657ba9 h_3 | omega, by first | (clear ha1 h_1 h_3 h_17 h_16 h_18 h_20 h_24 h_25 h_35 h_36 h_38 h_45 h_44 h_46 h_47 h_34; omega) | omega, by first | (clear ha1 h_1 h_3 h_17 h_16 h_18 h_20 h_24 h_25 h_35 h_36 h_38 h_45 h_44 h_46 h_47 h_34; omega) | omega⟩
      · refine v_ic_lt_f (t := 13) c_23_6 rfl ⟨by decide, (Int.not_lt.mp h_20), by first | exact q_8258630c3 h_18 | omega⟩ (q_iconst c_23_9 (q_goto (t := 14) c_23_10 rfl (v_zret c_23_14 rfl (by decide) (bk_inl (v_if_eq_f (t := 21) c_86_15 rfl (by decide) (v_bip c_86_18 (by decide) (q_iret c_86_20 rfl ?_)))))))
        exact K c_13 (-20) hI_14 (fun a j hm => hF_15 a j (qv_ecb23a814 hm)) ⟨by decide, by decide⟩ ⟨by first | exact q_1317ba452 h_16 h_17 | omega, by first | exact q_720657ba9 h_3 | omega, by omega, by omega⟩

set_option maxRecDepth 100000 in
set_option maxHeartbeats 4000000 in
theorem s_87 {sc : List Int32} {e : Int} {d u P Q : Nat} {c : ME} {a1 : Int} {Z : AR → Prop} (hI : Iv u e P Q c) (ha1 : (-2147483648) ≤ a1 ∧ a1 ≤ 2147483647) (T101 : ∀ c2 : ME, Iv u e P Q c2 → (∀ (a : Nat) (j : Int), ¬ ((a = 0 ∧ j = 13)) → c2 a j = c a j) → ((c2 1 3 = c 1 3)) → ((a1 < 0) ∨ (a1 > c 1 3) ∨ (a1 > 60)) → Z (.inr 101, Wd P Q P P c2, 1, 6)) (K : ∀ (c2 : ME) (y : Int), Iv u e P Q c2 → (∀ (a : Nat) (j : Int), ¬ ((a = 1 ∧ j = 1) ∨ (a = 1 ∧ j = 2) ∨ (a = 1 ∧ j = 3) ∨ (a = 1 ∧ j = 4) ∨ (a = 1 ∧ j = 5) ∨ (a = 0 ∧ j = 13) ∨ (a = P ∧ j = 4) ∨ a = (P + 4) ∨ a = (P + 5)) → c2 a j = c a j) → (-2147483648) ≤ y ∧ y ≤ 2147483647 → ((c2 1 3 = 0 ∧ a1 ≥ 0 ∧ a1 ≤ c 1 3 ∧ a1 ≤ 60)) → Z (.inl (some (vi y)), Wd P Q P P c2, 0, 0)) : Wp sc (d + 11) 87 0 [(0, .ref 0), (1, vi a1)] [] (Wd P Q P P c) 0 0 Z := by
  have hP := iv_P hI
  have hQ := iv_Q hI
  refine q_aload_n c_87_0 rfl (q_iload_n c_87_1 rfl (v_bip c_87_2 (by decide) (v_cv c_87_4 km_7_81 rfl rfl (nb_ rfl) ⟨⟨rfl, rfl⟩, nb_ rfl, rfl⟩ (nb_ rfl) (nb_ rfl) (q_aload_n c_82_0 rfl (q_iload_n c_82_1 rfl (q_iconst c_82_2 (q_iload_n c_82_3 rfl ?_)))))))
  refine q_aload_n c_82_4 rfl (v_gr (t := 1) c_82_5 kf_7_10 rfl (nb_ rfl) rfl ?_)
  have h_1 := ir_1_3 hI
  refine v_gi (z := 3) (v := c 1 3) c_82_8 kf_7_77 rfl (nb_ rfl) rfl rfl rfl (v_minx c_82_11 rfl (by omega) (nb_ rfl) ⟨by omega, by omega, by omega, by omega⟩ (fun y_2 hy_2 => (q_call c_82_14 rfl rfl rfl (q_iload_n c_80_0 rfl (q_iload_n c_80_1 rfl ?_)))))
  by_cases h_3 : a1 < 0
  · refine v_ic_lt_t (t := 14) c_80_2 rfl ⟨ha1.1, h_3, by decide⟩ (q_iconst c_80_14 (v_zret c_80_15 rfl (by decide) (bk_inl (v_cv c_82_17 km_7_161 rfl rfl (nb_ rfl) ⟨⟨rfl, rfl⟩, nb_ rfl, rfl⟩ (nb_ rfl) (nb_ rfl) (q_iload_n c_81_0 rfl (v_if_ne_f (t := 25) c_81_1 rfl (by decide) (q_aload_n c_81_4 rfl ?_)))))))
    refine q_dup c_81_5 rfl ?_
    have h_4 := ir_0_13 hI
    refine v_gi (z := 13) (v := c 0 13) c_81_6 kf_7_330 rfl (nb_ rfl) rfl rfl rfl (q_iconst c_81_9 (v_iadd (v := c 0 13 + 1) c_81_10 rfl (v_nrm (fun y_5 hy_5 => (v_pi (z := 13) c_81_11 kf_7_330 rfl (nb_ rfl) rfl rfl rfl (by decide) (v_new c_81_14 rfl (by decide) (ld_ rfl) (nb_ rfl) (by decide) rfl (bk_out rfl rfl (bk_out rfl rfl ?_))))))))
    have hI_6 := iw_0_13 (v := y_5) hI ⟨hy_5.1, hy_5.2⟩
    have h_7 : (up c 0 13 y_5) 1 3 = c 1 3 := (up_c (nn rfl))
    exact T101 _ hI_6 (fun a j hm => up_b (Decidable.or_iff_not_imp_left.mpr (fun h1 h2 => hm ⟨Decidable.not_not.mp h1, h2⟩))) (by first | assumption | omega) (Or.inl (by first | exact q_e97a17f6e h_3 | omega))
  · refine v_ic_lt_f (t := 14) c_80_2 rfl ⟨by decide, (Int.not_lt.mp h_3), ha1.2⟩ (q_iload_n c_80_5 rfl (q_iload_n c_80_6 rfl ?_))
    by_cases h_8 : a1 > y_2
    · refine v_ic_gt_t (t := 14) c_80_7 rfl ⟨by omega, h_8, ha1.2⟩ (q_iconst c_80_14 (v_zret c_80_15 rfl (by decide) (bk_inl (v_cv c_82_17 km_7_161 rfl rfl (nb_ rfl) ⟨⟨rfl, rfl⟩, nb_ rfl, rfl⟩ (nb_ rfl) (nb_ rfl) (q_iload_n c_81_0 rfl (v_if_ne_f (t := 25) c_81_1 rfl (by decide) (q_aload_n c_81_4 rfl ?_)))))))
      refine q_dup c_81_5 rfl ?_
      have h_9 := ir_0_13 hI
      refine v_gi (z := 13) (v := c 0 13) c_81_6 kf_7_330 rfl (nb_ rfl) rfl rfl rfl (q_iconst c_81_9 (v_iadd (v := c 0 13 + 1) c_81_10 rfl (v_nrm (fun y_10 hy_10 => (v_pi (z := 13) c_81_11 kf_7_330 rfl (nb_ rfl) rfl rfl rfl (by decide) (v_new c_81_14 rfl (by decide) (ld_ rfl) (nb_ rfl) (by decide) rfl (bk_out rfl rfl (bk_out rfl rfl ?_))))))))
      have hI_11 := iw_0_13 (v := y_10) hI ⟨hy_10.1, hy_10.2⟩
      have h_12 : (up c 0 13 y_10) 1 3 = c 1 3 := (up_c (nn rfl))
      exact T101 _ hI_11 (fun a j hm => up_b (Decidable.or_iff_not_imp_left.mpr (fun h1 h2 => hm ⟨Decidable.not_not.mp h1, h2⟩))) (by first | assumption | omega) (by omega)
    · refine v_ic_gt_f (t := 14) c_80_7 rfl ⟨ha1.1, (Int.not_lt.mp h_8), by omega⟩ (q_iconst c_80_10 (q_goto (t := 15) c_80_11 rfl (v_zret c_80_15 rfl (by decide) (bk_inl (v_cv c_82_17 km_7_161 rfl rfl (nb_ rfl) ⟨⟨rfl, rfl⟩, nb_ rfl, rfl⟩ (nb_ rfl) (nb_ rfl) (q_iload_n c_81_0 rfl (v_if_ne_t (t := 25) c_81_1 rfl (by decide) ?_)))))))
      refine q_vret rfl rfl (bk_inl (q_aload_n c_82_20 rfl (v_gr (t := 1) c_82_21 kf_7_10 rfl (nb_ rfl) rfl (q_iload_n c_82_24 rfl (v_cv c_82_25 km_7_348 rfl rfl (nb_ rfl) ⟨⟨rfl, rfl⟩, nb_ rfl, rfl⟩ (nb_ rfl) (nb_ rfl) (s_74 (a1 := a1) hI (show 0 ≤ a1 ∧ a1 ≤ 600 from ⟨by first | exact q_720657ba9 h_3 | omega, by omega⟩) (fun c_13 hI_14 hF_15 h_16 => (bk_inl ?_))))))))
      have h_17 := ir_1_3 hI_14
      refine q_vret rfl rfl (bk_inl (q_aload_n c_87_7 rfl (v_gr (t := P) c_87_8 kf_7_50 rfl (nb_ rfl) rfl (q_aload_n c_87_11 rfl (v_gr (t := 1) c_87_12 kf_7_10 rfl (nb_ rfl) rfl (v_cv c_87_15 km_7_142 rfl (ck_p0 hP) (a68z hP) ⟨⟨rfl, rfl⟩, by decide, rfl⟩ (nb_ rfl) (nb_ rfl) (s_35 hI_14 hP (fun c_18 hI_19 hF_20 => (bk_inl ?_)))))))))
      refine q_aload_n c_87_18 rfl (q_aload_n c_87_19 rfl (v_gr (t := P) c_87_20 kf_7_50 rfl (nb_ rfl) rfl ?_))
      have h_21 := ir_p0_4 hI_19 hP
      refine v_gi (z := 4) (v := c_18 P 4) c_87_23 kf_7_145 (ck_p0 hP) (a68z hP) rfl rfl rfl (v_cv c_87_26 km_7_105 rfl rfl (nb_ rfl) ⟨⟨rfl, rfl⟩, nb_ rfl, rfl⟩ (nb_ rfl) (nb_ rfl) (q_aload_n c_83_0 rfl (v_gr (t := 1) c_83_1 kf_7_10 rfl (nb_ rfl) rfl (v_cv c_83_4 km_7_89 rfl rfl (nb_ rfl) ⟨⟨rfl, rfl⟩, nb_ rfl, rfl⟩ (nb_ rfl) (nb_ rfl) (q_aload_n c_2_0 rfl ?_)))))
      have h_22 := ir_1_4 hI_19
      refine v_gi (z := 4) (v := c_18 1 4) c_2_1 kf_5_38 rfl (nb_ rfl) rfl rfl rfl ?_
      by_cases h_23 : c_18 1 4 ≠ 0
      · refine v_if_ne_t (t := 11) c_2_4 rfl ⟨h_23, ⟨(Int.le_trans (by decide) h_22.1), (Int.le_trans h_22.2 (by decide))⟩, by decide, by decide⟩ (q_iconst c_2_11 (v_zret c_2_12 rfl (by decide) (bk_inl (v_if_eq_t (t := 14) c_83_7 rfl (by decide) (q_aload_n c_83_14 rfl (v_gr (t := 1) c_83_15 kf_7_10 rfl (nb_ rfl) rfl (v_gi (z := 4) (v := c_18 1 4) c_83_18 kf_7_351 rfl (nb_ rfl) rfl rfl rfl ?_)))))))
        refine v_bip c_83_21 (by decide) (v_isub (v := c_18 1 4 - 10) c_83_23 rfl (q_iret c_83_24 rfl (bk_inl (q_iret c_87_29 rfl ?_))))
        have kn_24 : Hid (c_18 1 3 = c_13 1 3) := hF_20 1 3 (qn_8ffdef26a hP)
        have h_25 : c_18 1 3 = c_13 1 3 := (hid kn_24)
        exact K c_18 (c_18 1 4 - 10) hI_19 (fun a j hm => (hF_20 a j (qv_3177d7d4a hm)).trans (hF_15 a j (qv_8416ee9ef hm))) ⟨by first | exact rgm_l h_22.1 (by decide) | omega, by first | exact rgm_h h_22.2 (by decide) | omega⟩ ⟨by first | exact q_1317ba452 h_16 h_17 | omega, by first | exact q_720657ba9 h_3 | omega, by first | (clear ha1 h_1 h_3 h_17 h_16 h_21 h_22 h_23; omega) | omega, by first | (clear ha1 h_1 h_3 h_17 h_16 h_21 h_22 h_23; omega) | omega⟩
      · refine v_if_ne_f (t := 11) c_2_4 rfl (Decidable.not_not.mp h_23) (q_iconst c_2_7 (q_goto (t := 12) c_2_8 rfl (v_zret c_2_12 rfl (by decide) (bk_inl (v_if_eq_f (t := 14) c_83_7 rfl (by decide) (q_iload_n c_83_10 rfl (q_goto (t := 24) c_83_11 rfl ?_)))))))
        refine q_iret c_83_24 rfl (bk_inl (q_iret c_87_29 rfl ?_))
        have kn_26 : Hid (c_18 1 3 = c_13 1 3) := hF_20 1 3 (qn_8ffdef26a hP)
        have h_27 : c_18 1 3 = c_13 1 3 := (hid kn_26)
        exact K c_18 (c_18 P 4) hI_19 (fun a j hm => (hF_20 a j (qv_3177d7d4a hm)).trans (hF_15 a j (qv_8416ee9ef hm))) ⟨(Int.le_trans (by decide) h_21.1), (Int.le_trans h_21.2 (by decide))⟩ ⟨by first | exact q_1317ba452 h_16 h_17 | omega, by first | exact q_720657ba9 h_3 | omega, by omega, by omega⟩

set_option maxRecDepth 100000 in
set_option maxHeartbeats 4000000 in
theorem s_88 {sc : List Int32} {e : Int} {d u P Q : Nat} {c : ME} {a1 : Int} {Z : AR → Prop} (hI : Iv u e P Q c) (ha1 : (-2147483648) ≤ a1 ∧ a1 ≤ 2147483647) (T101 : ∀ c2 : ME, Iv u e P Q c2 → (∀ (a : Nat) (j : Int), ¬ ((a = 0 ∧ j = 13)) → c2 a j = c a j) → ((c2 1 3 = c 1 3)) → ((a1 < 0) ∨ (a1 > c 1 3) ∨ (a1 > 60)) → Z (.inr 101, Wd P Q P P c2, 1, 6)) (K : ∀ (c2 : ME) (y : Int), Iv u e P Q c2 → (∀ (a : Nat) (j : Int), ¬ ((a = 1 ∧ j = 1) ∨ (a = 1 ∧ j = 2) ∨ (a = 1 ∧ j = 3) ∨ (a = 1 ∧ j = 4) ∨ (a = 1 ∧ j = 5) ∨ (a = 0 ∧ j = 13) ∨ (a = P ∧ j = 5) ∨ a = (P + 5) ∨ a = (P + 6)) → c2 a j = c a j) → (-2147483648) ≤ y ∧ y ≤ 2147483647 → ((c2 1 3 = 0 ∧ a1 ≥ 0 ∧ a1 ≤ c 1 3 ∧ a1 ≤ 60)) → Z (.inl (some (vi y)), Wd P Q P P c2, 0, 0)) : Wp sc (d + 11) 88 0 [(0, .ref 0), (1, vi a1)] [] (Wd P Q P P c) 0 0 Z := by
  have hP := iv_P hI
  have hQ := iv_Q hI
  refine q_aload_n c_88_0 rfl (q_iload_n c_88_1 rfl (v_bip c_88_2 (by decide) (v_cv c_88_4 km_7_81 rfl rfl (nb_ rfl) ⟨⟨rfl, rfl⟩, nb_ rfl, rfl⟩ (nb_ rfl) (nb_ rfl) (q_aload_n c_82_0 rfl (q_iload_n c_82_1 rfl (q_iconst c_82_2 (q_iload_n c_82_3 rfl ?_)))))))
  refine q_aload_n c_82_4 rfl (v_gr (t := 1) c_82_5 kf_7_10 rfl (nb_ rfl) rfl ?_)
  have h_1 := ir_1_3 hI
  refine v_gi (z := 3) (v := c 1 3) c_82_8 kf_7_77 rfl (nb_ rfl) rfl rfl rfl (v_minx c_82_11 rfl (by omega) (nb_ rfl) ⟨by omega, by omega, by omega, by omega⟩ (fun y_2 hy_2 => (q_call c_82_14 rfl rfl rfl (q_iload_n c_80_0 rfl (q_iload_n c_80_1 rfl ?_)))))
  by_cases h_3 : a1 < 0
  · refine v_ic_lt_t (t := 14) c_80_2 rfl ⟨ha1.1, h_3, by decide⟩ (q_iconst c_80_14 (v_zret c_80_15 rfl (by decide) (bk_inl (v_cv c_82_17 km_7_161 rfl rfl (nb_ rfl) ⟨⟨rfl, rfl⟩, nb_ rfl, rfl⟩ (nb_ rfl) (nb_ rfl) (q_iload_n c_81_0 rfl (v_if_ne_f (t := 25) c_81_1 rfl (by decide) (q_aload_n c_81_4 rfl ?_)))))))
    refine q_dup c_81_5 rfl ?_
    have h_4 := ir_0_13 hI
    refine v_gi (z := 13) (v := c 0 13) c_81_6 kf_7_330 rfl (nb_ rfl) rfl rfl rfl (q_iconst c_81_9 (v_iadd (v := c 0 13 + 1) c_81_10 rfl (v_nrm (fun y_5 hy_5 => (v_pi (z := 13) c_81_11 kf_7_330 rfl (nb_ rfl) rfl rfl rfl (by decide) (v_new c_81_14 rfl (by decide) (ld_ rfl) (nb_ rfl) (by decide) rfl (bk_out rfl rfl (bk_out rfl rfl ?_))))))))
    have hI_6 := iw_0_13 (v := y_5) hI ⟨hy_5.1, hy_5.2⟩
    have h_7 : (up c 0 13 y_5) 1 3 = c 1 3 := (up_c (nn rfl))
    exact T101 _ hI_6 (fun a j hm => up_b (Decidable.or_iff_not_imp_left.mpr (fun h1 h2 => hm ⟨Decidable.not_not.mp h1, h2⟩))) (by first | assumption | omega) (Or.inl (by first | exact q_e97a17f6e h_3 | omega))
  · refine v_ic_lt_f (t := 14) c_80_2 rfl ⟨by decide, (Int.not_lt.mp h_3), ha1.2⟩ (q_iload_n c_80_5 rfl (q_iload_n c_80_6 rfl ?_))
    by_cases h_8 : a1 > y_2
    · refine v_ic_gt_t (t := 14) c_80_7 rfl ⟨by omega, h_8, ha1.2⟩ (q_iconst c_80_14 (v_zret c_80_15 rfl (by decide) (bk_inl (v_cv c_82_17 km_7_161 rfl rfl (nb_ rfl) ⟨⟨rfl, rfl⟩, nb_ rfl, rfl⟩ (nb_ rfl) (nb_ rfl) (q_iload_n c_81_0 rfl (v_if_ne_f (t := 25) c_81_1 rfl (by decide) (q_aload_n c_81_4 rfl ?_)))))))
      refine q_dup c_81_5 rfl ?_
      have h_9 := ir_0_13 hI
      refine v_gi (z := 13) (v := c 0 13) c_81_6 kf_7_330 rfl (nb_ rfl) rfl rfl rfl (q_iconst c_81_9 (v_iadd (v := c 0 13 + 1) c_81_10 rfl (v_nrm (fun y_10 hy_10 => (v_pi (z := 13) c_81_11 kf_7_330 rfl (nb_ rfl) rfl rfl rfl (by decide) (v_new c_81_14 rfl (by decide) (ld_ rfl) (nb_ rfl) (by decide) rfl (bk_out rfl rfl (bk_out rfl rfl ?_))))))))
      have hI_11 := iw_0_13 (v := y_10) hI ⟨hy_10.1, hy_10.2⟩
      have h_12 : (up c 0 13 y_10) 1 3 = c 1 3 := (up_c (nn rfl))
      exact T101 _ hI_11 (fun a j hm => up_b (Decidable.or_iff_not_imp_left.mpr (fun h1 h2 => hm ⟨Decidable.not_not.mp h1, h2⟩))) (by first | assumption | omega) (by omega)
    · refine v_ic_gt_f (t := 14) c_80_7 rfl ⟨ha1.1, (Int.not_lt.mp h_8), by omega⟩ (q_iconst c_80_10 (q_goto (t := 15) c_80_11 rfl (v_zret c_80_15 rfl (by decide) (bk_inl (v_cv c_82_17 km_7_161 rfl rfl (nb_ rfl) ⟨⟨rfl, rfl⟩, nb_ rfl, rfl⟩ (nb_ rfl) (nb_ rfl) (q_iload_n c_81_0 rfl (v_if_ne_t (t := 25) c_81_1 rfl (by decide) ?_)))))))
      refine q_vret rfl rfl (bk_inl (q_aload_n c_82_20 rfl (v_gr (t := 1) c_82_21 kf_7_10 rfl (nb_ rfl) rfl (q_iload_n c_82_24 rfl (v_cv c_82_25 km_7_348 rfl rfl (nb_ rfl) ⟨⟨rfl, rfl⟩, nb_ rfl, rfl⟩ (nb_ rfl) (nb_ rfl) (s_74 (a1 := a1) hI (show 0 ≤ a1 ∧ a1 ≤ 600 from ⟨by first | exact q_720657ba9 h_3 | omega, by omega⟩) (fun c_13 hI_14 hF_15 h_16 => (bk_inl ?_))))))))
      have h_17 := ir_1_3 hI_14
      refine q_vret rfl rfl (bk_inl (q_aload_n c_88_7 rfl (v_gr (t := P) c_88_8 kf_7_50 rfl (nb_ rfl) rfl (q_aload_n c_88_11 rfl (v_gr (t := 1) c_88_12 kf_7_10 rfl (nb_ rfl) rfl (v_cv c_88_15 km_7_148 rfl (ck_p0 hP) (a68z hP) ⟨⟨rfl, rfl⟩, by decide, rfl⟩ (nb_ rfl) (nb_ rfl) (s_36 hI_14 hP (fun c_18 hI_19 hF_20 => (bk_inl ?_)))))))))
      refine q_aload_n c_88_18 rfl (q_aload_n c_88_19 rfl (v_gr (t := P) c_88_20 kf_7_50 rfl (nb_ rfl) rfl ?_))
      have h_21 := ir_p0_5 hI_19 hP
      refine v_gi (z := 5) (v := c_18 P 5) c_88_23 kf_7_151 (ck_p0 hP) (a68z hP) rfl rfl rfl (v_cv c_88_26 km_7_105 rfl rfl (nb_ rfl) ⟨⟨rfl, rfl⟩, nb_ rfl, rfl⟩ (nb_ rfl) (nb_ rfl) (q_aload_n c_83_0 rfl (v_gr (t := 1) c_83_1 kf_7_10 rfl (nb_ rfl) rfl (v_cv c_83_4 km_7_89 rfl rfl (nb_ rfl) ⟨⟨rfl, rfl⟩, nb_ rfl, rfl⟩ (nb_ rfl) (nb_ rfl) (q_aload_n c_2_0 rfl ?_)))))
      have h_22 := ir_1_4 hI_19
      refine v_gi (z := 4) (v := c_18 1 4) c_2_1 kf_5_38 rfl (nb_ rfl) rfl rfl rfl ?_
      by_cases h_23 : c_18 1 4 ≠ 0
      · refine v_if_ne_t (t := 11) c_2_4 rfl ⟨h_23, ⟨(Int.le_trans (by decide) h_22.1), (Int.le_trans h_22.2 (by decide))⟩, by decide, by decide⟩ (q_iconst c_2_11 (v_zret c_2_12 rfl (by decide) (bk_inl (v_if_eq_t (t := 14) c_83_7 rfl (by decide) (q_aload_n c_83_14 rfl (v_gr (t := 1) c_83_15 kf_7_10 rfl (nb_ rfl) rfl (v_gi (z := 4) (v := c_18 1 4) c_83_18 kf_7_351 rfl (nb_ rfl) rfl rfl rfl ?_)))))))
        refine v_bip c_83_21 (by decide) (v_isub (v := c_18 1 4 - 10) c_83_23 rfl (q_iret c_83_24 rfl (bk_inl (q_iret c_88_29 rfl ?_))))
        have kn_24 : Hid (c_18 1 3 = c_13 1 3) := hF_20 1 3 (qn_d980de1cd hP)
        have h_25 : c_18 1 3 = c_13 1 3 := (hid kn_24)
        exact K c_18 (c_18 1 4 - 10) hI_19 (fun a j hm => (hF_20 a j (qv_8f9429039 hm)).trans (hF_15 a j (qv_602af1626 hm))) ⟨by first | exact rgm_l h_22.1 (by decide) | omega, by first | exact rgm_h h_22.2 (by decide) | omega⟩ ⟨by first | exact q_1317ba452 h_16 h_17 | omega, by first | exact q_720657ba9 h_3 | omega, by first | (clear ha1 h_1 h_3 h_17 h_16 h_21 h_22 h_23; omega) | omega, by first | (clear ha1 h_1 h_3 h_17 h_16 h_21 h_22 h_23; omega) | omega⟩
      · refine v_if_ne_f (t := 11) c_2_4 rfl (Decidable.not_not.mp h_23) (q_iconst c_2_7 (q_goto (t := 12) c_2_8 rfl (v_zret c_2_12 rfl (by decide) (bk_inl (v_if_eq_f (t := 14) c_83_7 rfl (by decide) (q_iload_n c_83_10 rfl (q_goto (t := 24) c_83_11 rfl ?_)))))))
        refine q_iret c_83_24 rfl (bk_inl (q_iret c_88_29 rfl ?_))
        have kn_26 : Hid (c_18 1 3 = c_13 1 3) := hF_20 1 3 (qn_d980de1cd hP)
        have h_27 : c_18 1 3 = c_13 1 3 := (hid kn_26)
        exact K c_18 (c_18 P 5) hI_19 (fun a j hm => (hF_20 a j (qv_8f9429039 hm)).trans (hF_15 a j (qv_602af1626 hm))) ⟨(Int.le_trans (by decide) h_21.1), (Int.le_trans h_21.2 (by decide))⟩ ⟨by first | exact q_1317ba452 h_16 h_17 | omega, by first | exact q_720657ba9 h_3 | omega, by omega, by omega⟩

set_option maxRecDepth 100000 in
set_option maxHeartbeats 4000000 in
theorem s_89 {sc : List Int32} {e : Int} {d u P Q : Nat} {c : ME} {Z : AR → Prop} (hI : Iv u e P Q c)  (K : ∀ (y : Int), (-1) ≤ y ∧ y ≤ 600 → Z (.inl (some (vi y)), Wd P Q P P c, 0, 0)) : Wp sc (d + 7) 89 0 [(0, .ref 0)] [] (Wd P Q P P c) 0 0 Z := by
  have hP := iv_P hI
  have hQ := iv_Q hI
  refine q_aload_n c_89_0 rfl (v_gr (t := 1) c_89_1 kf_7_10 rfl (nb_ rfl) rfl ?_)
  have h_1 := ir_1_5 hI
  refine v_gi (z := 5) (v := c 1 5) c_89_4 kf_7_154 rfl (nb_ rfl) rfl rfl rfl (q_iret c_89_7 rfl ?_)
  exact K (c 1 5) h_1

set_option maxRecDepth 100000 in
set_option maxHeartbeats 4000000 in
theorem s_90 {sc : List Int32} {e : Int} {d u P Q : Nat} {c : ME} {a1 : Int} {Z : AR → Prop} (hI : Iv u e P Q c) (ha1 : (-2147483648) ≤ a1 ∧ a1 ≤ 2147483647) (T101 : ∀ c2 : ME, Iv u e P Q c2 → (∀ (a : Nat) (j : Int), ¬ ((a = 0 ∧ j = 13)) → c2 a j = c a j) → Z (.inr 101, Wd P Q P P c2, 1, 6)) (K : ∀ (c2 : ME) (y : Int), Iv u e P Q c2 → (∀ (a : Nat) (j : Int), ¬ ((a = 0 ∧ j = 13)) → c2 a j = c a j) → (-2147483648) ≤ y ∧ y ≤ 2147483647 → Z (.inl (some (vi y)), Wd P Q P P c2, 0, 0)) : Wp sc (d + 9) 90 0 [(0, .ref 0), (1, vi a1)] [] (Wd P Q P P c) 0 0 Z := by
  have hP := iv_P hI
  have hQ := iv_Q hI
  refine q_aload_n c_90_0 rfl (q_iload_n c_90_1 rfl (q_iconst c_90_2 (v_bip c_90_3 (by decide) (q_call c_90_5 rfl rfl rfl (q_iload_n c_80_0 rfl (q_iload_n c_80_1 rfl ?_))))))
  by_cases h_1 : a1 < 0
  · refine v_ic_lt_t (t := 14) c_80_2 rfl ⟨ha1.1, h_1, by decide⟩ (q_iconst c_80_14 (v_zret c_80_15 rfl (by decide) (bk_inl (v_cv c_90_8 km_7_161 rfl rfl (nb_ rfl) ⟨⟨rfl, rfl⟩, nb_ rfl, rfl⟩ (nb_ rfl) (nb_ rfl) (q_iload_n c_81_0 rfl (v_if_ne_f (t := 25) c_81_1 rfl (by decide) (q_aload_n c_81_4 rfl ?_)))))))
    refine q_dup c_81_5 rfl ?_
    have h_2 := ir_0_13 hI
    refine v_gi (z := 13) (v := c 0 13) c_81_6 kf_7_330 rfl (nb_ rfl) rfl rfl rfl (q_iconst c_81_9 (v_iadd (v := c 0 13 + 1) c_81_10 rfl (v_nrm (fun y_3 hy_3 => (v_pi (z := 13) c_81_11 kf_7_330 rfl (nb_ rfl) rfl rfl rfl (by decide) (v_new c_81_14 rfl (by decide) (ld_ rfl) (nb_ rfl) (by decide) rfl (bk_out rfl rfl ?_)))))))
    have hI_4 := iw_0_13 (v := y_3) hI ⟨hy_3.1, hy_3.2⟩
    exact T101 _ hI_4 (fun a j hm => up_b (Decidable.or_iff_not_imp_left.mpr (fun h1 h2 => hm ⟨Decidable.not_not.mp h1, h2⟩)))
  · refine v_ic_lt_f (t := 14) c_80_2 rfl ⟨by decide, (Int.not_lt.mp h_1), ha1.2⟩ (q_iload_n c_80_5 rfl (q_iload_n c_80_6 rfl ?_))
    by_cases h_5 : a1 > 12
    · refine v_ic_gt_t (t := 14) c_80_7 rfl ⟨by decide, h_5, ha1.2⟩ (q_iconst c_80_14 (v_zret c_80_15 rfl (by decide) (bk_inl (v_cv c_90_8 km_7_161 rfl rfl (nb_ rfl) ⟨⟨rfl, rfl⟩, nb_ rfl, rfl⟩ (nb_ rfl) (nb_ rfl) (q_iload_n c_81_0 rfl (v_if_ne_f (t := 25) c_81_1 rfl (by decide) (q_aload_n c_81_4 rfl ?_)))))))
      refine q_dup c_81_5 rfl ?_
      have h_6 := ir_0_13 hI
      refine v_gi (z := 13) (v := c 0 13) c_81_6 kf_7_330 rfl (nb_ rfl) rfl rfl rfl (q_iconst c_81_9 (v_iadd (v := c 0 13 + 1) c_81_10 rfl (v_nrm (fun y_7 hy_7 => (v_pi (z := 13) c_81_11 kf_7_330 rfl (nb_ rfl) rfl rfl rfl (by decide) (v_new c_81_14 rfl (by decide) (ld_ rfl) (nb_ rfl) (by decide) rfl (bk_out rfl rfl ?_)))))))
      have hI_8 := iw_0_13 (v := y_7) hI ⟨hy_7.1, hy_7.2⟩
      exact T101 _ hI_8 (fun a j hm => up_b (Decidable.or_iff_not_imp_left.mpr (fun h1 h2 => hm ⟨Decidable.not_not.mp h1, h2⟩)))
    · refine v_ic_gt_f (t := 14) c_80_7 rfl ⟨ha1.1, (Int.not_lt.mp h_5), by decide⟩ (q_iconst c_80_10 (q_goto (t := 15) c_80_11 rfl (v_zret c_80_15 rfl (by decide) (bk_inl (v_cv c_90_8 km_7_161 rfl rfl (nb_ rfl) ⟨⟨rfl, rfl⟩, nb_ rfl, rfl⟩ (nb_ rfl) (nb_ rfl) (q_iload_n c_81_0 rfl (v_if_ne_t (t := 25) c_81_1 rfl (by decide) ?_)))))))
      refine q_vret rfl rfl (bk_inl (q_iload_n c_90_11 rfl ?_))
      by_cases h_9 : a1 = 0
      · skip
        refine v_tsw_i (t := 76) 0 c_90_12 (by omega) (by decide) rfl (by decide) (q_aload_n c_90_76 rfl (v_gr (t := P) c_90_77 kf_7_50 rfl (nb_ rfl) rfl ?_))
        have h_10 := ir_p0_0 hI hP
        refine v_gi (z := 0) (v := c P 0) c_90_80 kf_7_102 (ck_p0 hP) (a68z hP) rfl rfl rfl (q_iret c_90_83 rfl ?_)
        exact K c (c P 0) hI (fun a j hm => rfl) ⟨(Int.le_trans (by decide) h_10.1), (Int.le_trans h_10.2 (by decide))⟩
      by_cases h_11 : a1 = 1
      · skip
        refine v_tsw_i (t := 84) 1 rfl (by omega) (by decide) rfl (by decide) (q_aload_n c_90_84 rfl (v_gr (t := P) c_90_85 kf_7_50 rfl (nb_ rfl) rfl ?_))
        have h_12 := ir_p0_1 hI hP
        refine v_gi (z := 1) (v := c P 1) c_90_88 kf_7_165 (ck_p0 hP) (a68z hP) rfl rfl rfl (q_iret c_90_91 rfl ?_)
        exact K c (c P 1) hI (fun a j hm => rfl) ⟨(Int.le_trans (by decide) h_12.1), (Int.le_trans h_12.2 (by decide))⟩
      by_cases h_13 : a1 = 2
      · skip
        refine v_tsw_i (t := 92) 2 rfl (by omega) (by decide) rfl (by decide) (q_aload_n c_90_92 rfl (v_gr (t := P) c_90_93 kf_7_50 rfl (nb_ rfl) rfl ?_))
        have h_14 := ir_p0_2 hI hP
        refine v_gi (z := 2) (v := c P 2) c_90_96 kf_7_168 (ck_p0 hP) (a68z hP) rfl rfl rfl (q_iret c_90_99 rfl ?_)
        exact K c (c P 2) hI (fun a j hm => rfl) ⟨(Int.le_trans (by decide) h_14.1), (Int.le_trans h_14.2 (by decide))⟩
      by_cases h_15 : a1 = 3
      · skip
        refine v_tsw_i (t := 100) 3 rfl (by omega) (by decide) rfl (by decide) (q_aload_n c_90_100 rfl (v_gr (t := P) c_90_101 kf_7_50 rfl (nb_ rfl) rfl ?_))
        have h_16 := ir_p0_3 hI hP
        refine v_gi (z := 3) (v := c P 3) c_90_104 kf_7_171 (ck_p0 hP) (a68z hP) rfl rfl rfl (q_iret c_90_107 rfl ?_)
        exact K c (c P 3) hI (fun a j hm => rfl) ⟨(Int.le_trans (by decide) h_16.1), (Int.le_trans h_16.2 (by decide))⟩
      by_cases h_17 : a1 = 4
      · skip
        refine v_tsw_i (t := 108) 4 rfl (by omega) (by decide) rfl (by decide) (q_aload_n c_90_108 rfl (v_gr (t := 37) c_90_109 kf_7_62 rfl (nb_ rfl) rfl (v_gr (t := 38) c_90_112 kf_7_174 rfl (nb_ rfl) rfl (v_bip c_90_115 (by decide) ?_))))
        have h_18 := ir_38 hI 31
        refine v_ia (v := c 38 31) c_90_117 rfl (by decide) (by decide) (by decide) rfl (q_iret c_90_118 rfl ?_)
        exact K c (c 38 31) hI (fun a j hm => rfl) h_18
      by_cases h_19 : a1 = 5
      · skip
        refine v_tsw_i (t := 119) 5 rfl (by omega) (by decide) rfl (by decide) (q_aload_n c_90_119 rfl (v_gr (t := 37) c_90_120 kf_7_62 rfl (nb_ rfl) rfl (v_cv c_90_123 km_7_177 rfl rfl (nb_ rfl) ⟨⟨rfl, rfl⟩, nb_ rfl, rfl⟩ (nb_ rfl) (nb_ rfl) (s_69 hI (.inl ⟨rfl, rfl⟩) (fun y_20 hy_20 => (bk_inl (q_iret c_90_126 rfl ?_)))))))
        exact K c y_20 hI (fun a j hm => rfl) hy_20
      by_cases h_21 : a1 = 6
      · skip
        refine v_tsw_i (t := 127) 6 rfl (by omega) (by decide) rfl (by decide) (q_aload_n c_90_127 rfl (v_gr (t := 37) c_90_128 kf_7_62 rfl (nb_ rfl) rfl (v_gr (t := 38) c_90_131 kf_7_174 rfl (nb_ rfl) rfl (v_bip c_90_134 (by decide) ?_))))
        have h_22 := ir_38 hI 32
        refine v_ia (v := c 38 32) c_90_136 rfl (by decide) (by decide) (by decide) rfl (q_iret c_90_137 rfl ?_)
        exact K c (c 38 32) hI (fun a j hm => rfl) h_22
      by_cases h_23 : a1 = 7
      · skip
        refine v_tsw_i (t := 138) 7 rfl (by omega) (by decide) rfl (by decide) (q_aload_n c_90_138 rfl (v_gr (t := 37) c_90_139 kf_7_62 rfl (nb_ rfl) rfl (v_gr (t := 38) c_90_142 kf_7_174 rfl (nb_ rfl) rfl (v_bip c_90_145 (by decide) ?_))))
        have h_24 := ir_38 hI 33
        refine v_ia (v := c 38 33) c_90_147 rfl (by decide) (by decide) (by decide) rfl (q_iret c_90_148 rfl ?_)
        exact K c (c 38 33) hI (fun a j hm => rfl) h_24
      by_cases h_25 : a1 = 8
      · skip
        refine v_tsw_i (t := 149) 8 rfl (by omega) (by decide) rfl (by decide) (q_aload_n c_90_149 rfl (v_gr (t := 37) c_90_150 kf_7_62 rfl (nb_ rfl) rfl (v_cv c_90_153 km_7_181 rfl rfl (nb_ rfl) ⟨⟨rfl, rfl⟩, nb_ rfl, rfl⟩ (nb_ rfl) (nb_ rfl) (s_70 hI (.inl ⟨rfl, rfl⟩) (fun y_26 hy_26 => (bk_inl (q_iret c_90_156 rfl ?_)))))))
        exact K c y_26 hI (fun a j hm => rfl) hy_26
      by_cases h_27 : a1 = 9
      · skip
        refine v_tsw_i (t := 157) 9 rfl (by omega) (by decide) rfl (by decide) (q_aload_n c_90_157 rfl (v_gr (t := 37) c_90_158 kf_7_62 rfl (nb_ rfl) rfl (v_gr (t := 38) c_90_161 kf_7_174 rfl (nb_ rfl) rfl (v_bip c_90_164 (by decide) ?_))))
        have h_28 := ir_38 hI 30
        refine v_ia (v := c 38 30) c_90_166 rfl (by decide) (by decide) (by decide) rfl (q_iret c_90_167 rfl ?_)
        exact K c (c 38 30) hI (fun a j hm => rfl) h_28
      by_cases h_29 : a1 = 10
      · skip
        refine v_tsw_i (t := 168) 10 rfl (by omega) (by decide) rfl (by decide) (q_aload_n c_90_168 rfl ?_)
        have h_30 := ir_0_11 hI
        refine v_gi (z := 11) (v := c 0 11) c_90_169 kf_7_99 rfl (nb_ rfl) rfl rfl rfl (q_iret c_90_172 rfl ?_)
        exact K c (c 0 11) hI (fun a j hm => rfl) h_30
      by_cases h_31 : a1 = 11
      · skip
        refine v_tsw_i (t := 173) 11 rfl (by omega) (by decide) rfl (by decide) (q_aload_n c_90_173 rfl (v_gr (t := P) c_90_174 kf_7_50 rfl (nb_ rfl) rfl ?_))
        have h_32 := ir_p0_4 hI hP
        refine v_gi (z := 4) (v := c P 4) c_90_177 kf_7_145 (ck_p0 hP) (a68z hP) rfl rfl rfl (q_iret c_90_180 rfl ?_)
        exact K c (c P 4) hI (fun a j hm => rfl) ⟨(Int.le_trans (by decide) h_32.1), (Int.le_trans h_32.2 (by decide))⟩
      refine v_tsw_o (t := 181) rfl (by omega) (by decide) (q_aload_n c_90_181 rfl (v_gr (t := P) c_90_182 kf_7_50 rfl (nb_ rfl) rfl ?_))
      have h_33 := ir_p0_5 hI hP
      refine v_gi (z := 5) (v := c P 5) c_90_185 kf_7_151 (ck_p0 hP) (a68z hP) rfl rfl rfl (q_iret c_90_188 rfl ?_)
      exact K c (c P 5) hI (fun a j hm => rfl) ⟨(Int.le_trans (by decide) h_33.1), (Int.le_trans h_33.2 (by decide))⟩

set_option maxRecDepth 100000 in
set_option maxHeartbeats 4000000 in
theorem s_93 {sc : List Int32} {e : Int} {d u P Q : Nat} {c : ME} {a1 : Int} {a2 : Int} {Z : AR → Prop} (hI : Iv u e P Q c) (ha1 : (-2147483648) ≤ a1 ∧ a1 ≤ 2147483647) (ha2 : (-2147483648) ≤ a2 ∧ a2 ≤ 2147483647) (T100 : ∀ c2 : ME, Iv u e P Q c2 → (∀ (a : Nat) (j : Int), ¬ ((a = 0 ∧ j = 12) ∨ (a = 0 ∧ j = 13)) → c2 a j = c a j) → Z (.inr 100, Wd P Q P P c2, 1, 6)) (T101 : ∀ c2 : ME, Iv u e P Q c2 → (∀ (a : Nat) (j : Int), ¬ ((a = 0 ∧ j = 12) ∨ (a = 0 ∧ j = 13)) → c2 a j = c a j) → Z (.inr 101, Wd P Q P P c2, 1, 6)) (K : ∀ (c2 : ME) (y : Int), Iv u e P Q c2 → (∀ (a : Nat) (j : Int), ¬ ((a = 0 ∧ j = 12) ∨ (a = 0 ∧ j = 13)) → c2 a j = c a j) → (-2147483648) ≤ y ∧ y ≤ 2147483647 → Z (.inl (some (vi y)), Wd P Q P P c2, 0, 0)) : Wp sc (d + 9) 93 0 [(0, .ref 0), (1, vi a1), (2, vi a2)] [] (Wd P Q P P c) 0 0 Z := by
  have hP := iv_P hI
  have hQ := iv_Q hI
  refine q_aload_n c_93_0 rfl (q_iload_n c_93_1 rfl (v_cv c_93_2 km_7_184 rfl rfl (nb_ rfl) ⟨⟨rfl, rfl⟩, nb_ rfl, rfl⟩ (nb_ rfl) (nb_ rfl) (q_aload_n c_92_0 rfl (q_iload_n c_92_1 rfl (q_iconst c_92_2 (q_aload_n c_92_3 rfl (v_gr (t := P) c_92_4 kf_7_50 rfl (nb_ rfl) rfl ?_)))))))
  have h_1 := ir_p0_0 hI hP
  refine v_gi (z := 0) (v := c P 0) c_92_7 kf_7_102 (ck_p0 hP) (a68z hP) rfl rfl rfl (q_iconst c_92_10 (v_isub (v := c P 0 - 1) c_92_11 rfl (q_call c_92_12 rfl rfl rfl (q_iload_n c_80_0 rfl (q_iload_n c_80_1 rfl ?_)))))
  by_cases h_2 : a1 < 0
  · refine v_ic_lt_t (t := 14) c_80_2 rfl ⟨ha1.1, h_2, by decide⟩ (q_iconst c_80_14 (v_zret c_80_15 rfl (by decide) (bk_inl (v_cv c_92_15 km_7_333 rfl rfl (nb_ rfl) ⟨⟨rfl, rfl⟩, nb_ rfl, rfl⟩ (nb_ rfl) (nb_ rfl) (q_iload_n c_91_0 rfl (v_if_ne_f (t := 25) c_91_1 rfl (by decide) (q_aload_n c_91_4 rfl ?_)))))))
    refine q_dup c_91_5 rfl ?_
    have h_3 := ir_0_12 hI
    refine v_gi (z := 12) (v := c 0 12) c_91_6 kf_7_327 rfl (nb_ rfl) rfl rfl rfl (q_iconst c_91_9 (v_iadd (v := c 0 12 + 1) c_91_10 rfl (v_nrm (fun y_4 hy_4 => (v_pi (z := 12) c_91_11 kf_7_327 rfl (nb_ rfl) rfl rfl rfl (by decide) (v_new c_91_14 rfl (by decide) (ld_ rfl) (nb_ rfl) (by decide) rfl (bk_out rfl rfl (bk_out rfl rfl ?_))))))))
    have hI_5 := iw_0_12 (v := y_4) hI ⟨hy_4.1, hy_4.2⟩
    exact T100 _ hI_5 (fun a j hm => up_b (Decidable.or_iff_not_imp_left.mpr (fun h1 h2 => hm (Or.inl ⟨Decidable.not_not.mp h1, h2⟩))))
  · refine v_ic_lt_f (t := 14) c_80_2 rfl ⟨by decide, (Int.not_lt.mp h_2), ha1.2⟩ (q_iload_n c_80_5 rfl (q_iload_n c_80_6 rfl ?_))
    by_cases h_6 : a1 > c P 0 - 1
    · refine v_ic_gt_t (t := 14) c_80_7 rfl ⟨by first | exact rgm_l h_1.1 (by decide) | omega, h_6, ha1.2⟩ (q_iconst c_80_14 (v_zret c_80_15 rfl (by decide) (bk_inl (v_cv c_92_15 km_7_333 rfl rfl (nb_ rfl) ⟨⟨rfl, rfl⟩, nb_ rfl, rfl⟩ (nb_ rfl) (nb_ rfl) (q_iload_n c_91_0 rfl (v_if_ne_f (t := 25) c_91_1 rfl (by decide) (q_aload_n c_91_4 rfl ?_)))))))
      refine q_dup c_91_5 rfl ?_
      have h_7 := ir_0_12 hI
      refine v_gi (z := 12) (v := c 0 12) c_91_6 kf_7_327 rfl (nb_ rfl) rfl rfl rfl (q_iconst c_91_9 (v_iadd (v := c 0 12 + 1) c_91_10 rfl (v_nrm (fun y_8 hy_8 => (v_pi (z := 12) c_91_11 kf_7_327 rfl (nb_ rfl) rfl rfl rfl (by decide) (v_new c_91_14 rfl (by decide) (ld_ rfl) (nb_ rfl) (by decide) rfl (bk_out rfl rfl (bk_out rfl rfl ?_))))))))
      have hI_9 := iw_0_12 (v := y_8) hI ⟨hy_8.1, hy_8.2⟩
      exact T100 _ hI_9 (fun a j hm => up_b (Decidable.or_iff_not_imp_left.mpr (fun h1 h2 => hm (Or.inl ⟨Decidable.not_not.mp h1, h2⟩))))
    · refine v_ic_gt_f (t := 14) c_80_7 rfl ⟨ha1.1, (Int.not_lt.mp h_6), by first | exact rgm_h h_1.2 (by decide) | omega⟩ (q_iconst c_80_10 (q_goto (t := 15) c_80_11 rfl (v_zret c_80_15 rfl (by decide) (bk_inl (v_cv c_92_15 km_7_333 rfl rfl (nb_ rfl) ⟨⟨rfl, rfl⟩, nb_ rfl, rfl⟩ (nb_ rfl) (nb_ rfl) (q_iload_n c_91_0 rfl (v_if_ne_t (t := 25) c_91_1 rfl (by decide) ?_)))))))
      refine q_vret rfl rfl (bk_inl (q_vret rfl rfl (bk_inl (q_aload_n c_93_5 rfl (q_iload_n c_93_6 rfl (q_iconst c_93_7 (v_bip c_93_8 (by decide) ?_)))))))
      refine q_call c_93_10 rfl rfl rfl (q_iload_n c_80_0 rfl (q_iload_n c_80_1 rfl ?_))
      by_cases h_10 : a2 < 0
      · refine v_ic_lt_t (t := 14) c_80_2 rfl ⟨ha2.1, h_10, by decide⟩ (q_iconst c_80_14 (v_zret c_80_15 rfl (by decide) (bk_inl (v_cv c_93_13 km_7_161 rfl rfl (nb_ rfl) ⟨⟨rfl, rfl⟩, nb_ rfl, rfl⟩ (nb_ rfl) (nb_ rfl) (q_iload_n c_81_0 rfl (v_if_ne_f (t := 25) c_81_1 rfl (by decide) (q_aload_n c_81_4 rfl ?_)))))))
        refine q_dup c_81_5 rfl ?_
        have h_11 := ir_0_13 hI
        refine v_gi (z := 13) (v := c 0 13) c_81_6 kf_7_330 rfl (nb_ rfl) rfl rfl rfl (q_iconst c_81_9 (v_iadd (v := c 0 13 + 1) c_81_10 rfl (v_nrm (fun y_12 hy_12 => (v_pi (z := 13) c_81_11 kf_7_330 rfl (nb_ rfl) rfl rfl rfl (by decide) (v_new c_81_14 rfl (by decide) (ld_ rfl) (nb_ rfl) (by decide) rfl (bk_out rfl rfl ?_)))))))
        have hI_13 := iw_0_13 (v := y_12) hI ⟨hy_12.1, hy_12.2⟩
        exact T101 _ hI_13 (fun a j hm => up_b (Decidable.or_iff_not_imp_left.mpr (fun h1 h2 => hm (Or.inr ⟨Decidable.not_not.mp h1, h2⟩))))
      · refine v_ic_lt_f (t := 14) c_80_2 rfl ⟨by decide, (Int.not_lt.mp h_10), ha2.2⟩ (q_iload_n c_80_5 rfl (q_iload_n c_80_6 rfl ?_))
        by_cases h_14 : a2 > 6
        · refine v_ic_gt_t (t := 14) c_80_7 rfl ⟨by decide, h_14, ha2.2⟩ (q_iconst c_80_14 (v_zret c_80_15 rfl (by decide) (bk_inl (v_cv c_93_13 km_7_161 rfl rfl (nb_ rfl) ⟨⟨rfl, rfl⟩, nb_ rfl, rfl⟩ (nb_ rfl) (nb_ rfl) (q_iload_n c_81_0 rfl (v_if_ne_f (t := 25) c_81_1 rfl (by decide) (q_aload_n c_81_4 rfl ?_)))))))
          refine q_dup c_81_5 rfl ?_
          have h_15 := ir_0_13 hI
          refine v_gi (z := 13) (v := c 0 13) c_81_6 kf_7_330 rfl (nb_ rfl) rfl rfl rfl (q_iconst c_81_9 (v_iadd (v := c 0 13 + 1) c_81_10 rfl (v_nrm (fun y_16 hy_16 => (v_pi (z := 13) c_81_11 kf_7_330 rfl (nb_ rfl) rfl rfl rfl (by decide) (v_new c_81_14 rfl (by decide) (ld_ rfl) (nb_ rfl) (by decide) rfl (bk_out rfl rfl ?_)))))))
          have hI_17 := iw_0_13 (v := y_16) hI ⟨hy_16.1, hy_16.2⟩
          exact T101 _ hI_17 (fun a j hm => up_b (Decidable.or_iff_not_imp_left.mpr (fun h1 h2 => hm (Or.inr ⟨Decidable.not_not.mp h1, h2⟩))))
        · refine v_ic_gt_f (t := 14) c_80_7 rfl ⟨ha2.1, (Int.not_lt.mp h_14), by decide⟩ (q_iconst c_80_10 (q_goto (t := 15) c_80_11 rfl (v_zret c_80_15 rfl (by decide) (bk_inl (v_cv c_93_13 km_7_161 rfl rfl (nb_ rfl) ⟨⟨rfl, rfl⟩, nb_ rfl, rfl⟩ (nb_ rfl) (nb_ rfl) (q_iload_n c_81_0 rfl (v_if_ne_t (t := 25) c_81_1 rfl (by decide) ?_)))))))
          refine q_vret rfl rfl (bk_inl (q_iload_n c_93_16 rfl ?_))
          by_cases h_18 : a2 = 4
          · skip
            refine v_tsw_i (t := 44) 4 c_93_17 (by omega) (by decide) rfl (by decide) (q_aload_n c_93_44 rfl (v_gr (t := 37) c_93_45 kf_7_62 rfl (nb_ rfl) rfl (q_iload_n c_93_48 rfl ?_)))
            have h_19 := ir_38_g hI (j := 4 * a1) (by first | exact q_b0d0e4535 h_1 h_6 | omega)
            have h_20 := ir_38_g hI (j := 4 * a1 + 1) (by first | exact q_e3354e5e9 h_1 h_6 | omega)
            have h_21 := ir_38_g hI (j := 4 * a1 + 2) (by first | exact q_0a5347bcd h_1 h_6 | omega)
            have h_22 := ir_38_g hI (j := 4 * a1 + 3) (by first | exact q_9939b3b7f h_1 h_6 | omega)
            refine v_cv c_93_49 km_7_187 rfl rfl (nb_ rfl) ⟨⟨rfl, rfl⟩, nb_ rfl, rfl⟩ (nb_ rfl) (nb_ rfl) (s_43 (v1 := c 38 (4 * a1)) (v2 := c 38 (4 * a1 + 1)) (v3 := c 38 (4 * a1 + 2)) (v4 := c 38 (4 * a1 + 3)) (r := c 38 (4 * a1 + 1) + c 38 (4 * a1 + 2) + c 38 (4 * a1 + 3) + c 38 (4 * a1)) (a1 := a1) hI (.inl ⟨rfl, rfl⟩) (show 0 ≤ a1 ∧ a1 ≤ 5 from ⟨by first | exact q_720657ba9 h_2 | omega, by first | exact q_3a2e67ab0 h_1 h_6 | omega⟩) (rfl) (rfl) (rfl) (rfl) (by omega) (bk_inl (q_iret c_93_52 rfl ?_)))
            exact K c (c 38 (4 * a1 + 1) + c 38 (4 * a1 + 2) + c 38 (4 * a1 + 3) + c 38 (4 * a1)) hI (fun a j hm => rfl) ⟨by first | exact q_e052ef40e h_19 h_20 h_21 h_22 | omega, by first | exact q_db9ef1f4a h_19 h_20 h_21 h_22 | omega⟩
          by_cases h_23 : a2 = 5
          · skip
            refine v_tsw_i (t := 53) 5 rfl (by omega) (by decide) rfl (by decide) (q_aload_n c_93_53 rfl (v_gr (t := 37) c_93_54 kf_7_62 rfl (nb_ rfl) rfl (q_iload_n c_93_57 rfl (v_cv c_93_58 km_7_190 rfl rfl (nb_ rfl) ⟨⟨rfl, rfl⟩, nb_ rfl, rfl⟩ (nb_ rfl) (nb_ rfl) (s_51 (a1 := a1) hI (.inl ⟨rfl, rfl⟩) (show 0 ≤ a1 ∧ a1 ≤ 5 from ⟨by first | exact q_720657ba9 h_2 | omega, by first | exact q_3a2e67ab0 h_1 h_6 | omega⟩) (fun y_24 hy_24 => (bk_inl (q_iret c_93_61 rfl ?_))))))))
            exact K c y_24 hI (fun a j hm => rfl) hy_24
          by_cases h_25 : a2 = 6
          · skip
            refine v_tsw_i (t := 62) 6 rfl (by omega) (by decide) rfl (by decide) (q_aload_n c_93_62 rfl (v_gr (t := 37) c_93_63 kf_7_62 rfl (nb_ rfl) rfl (q_iload_n c_93_66 rfl (v_cv c_93_67 km_7_193 rfl rfl (nb_ rfl) ⟨⟨rfl, rfl⟩, nb_ rfl, rfl⟩ (nb_ rfl) (nb_ rfl) (s_68 (a1 := a1) hI (.inl ⟨rfl, rfl⟩) (show 0 ≤ a1 ∧ a1 ≤ 5 from ⟨by first | exact q_720657ba9 h_2 | omega, by first | exact q_3a2e67ab0 h_1 h_6 | omega⟩) (fun y_26 hy_26 => (bk_inl (q_iret c_93_70 rfl ?_))))))))
            exact K c y_26 hI (fun a j hm => rfl) hy_26
          refine v_tsw_o (t := 71) rfl (by omega) (by decide) (q_aload_n c_93_71 rfl (v_gr (t := 37) c_93_72 kf_7_62 rfl (nb_ rfl) rfl (q_iload_n c_93_75 rfl (q_iload_n c_93_76 rfl ?_))))
          have h_27 := ir_38_g hI (j := 4 * a1 + a2) (by first | exact q_8739f12d8 h_1 h_14 h_18 h_23 h_25 h_6 | omega)
          refine v_cv c_93_77 km_7_196 rfl rfl (nb_ rfl) ⟨⟨rfl, rfl⟩, nb_ rfl, rfl⟩ (nb_ rfl) (nb_ rfl) (s_45 (v1 := c 38 (4 * a1 + a2)) (r := c 38 (4 * a1 + a2)) (a1 := a1) (a2 := a2) hI (.inl ⟨rfl, rfl⟩) (show 0 ≤ a1 ∧ a1 ≤ 5 from ⟨by first | exact q_720657ba9 h_2 | omega, by first | exact q_3a2e67ab0 h_1 h_6 | omega⟩) (show 0 ≤ a2 ∧ a2 ≤ 3 from ⟨by first | exact q_720657ba9 h_10 | omega, by first | exact q_60651cd96 h_14 h_18 h_23 h_25 | omega⟩) (rfl) (by omega) (bk_inl (q_iret c_93_80 rfl ?_)))
          exact K c (c 38 (4 * a1 + a2)) hI (fun a j hm => rfl) ⟨(Int.le_trans (by decide) h_27.1), (Int.le_trans h_27.2 (by decide))⟩

set_option maxRecDepth 100000 in
set_option maxHeartbeats 4000000 in
theorem s_95 {sc : List Int32} {e : Int} {d u P Q : Nat} {c : ME} {a1 : Int} {a2 : Int} {Z : AR → Prop} (hI : Iv u e P Q c) (ha1 : (-2147483648) ≤ a1 ∧ a1 ≤ 2147483647) (ha2 : (-2147483648) ≤ a2 ∧ a2 ≤ 2147483647) (T100 : ∀ c2 : ME, Iv u e P Q c2 → (∀ (a : Nat) (j : Int), ¬ ((a = 0 ∧ j = 12) ∨ (a = 0 ∧ j = 13)) → c2 a j = c a j) → Z (.inr 100, Wd P Q P P c2, 1, 6)) (T101 : ∀ c2 : ME, Iv u e P Q c2 → (∀ (a : Nat) (j : Int), ¬ ((a = 0 ∧ j = 12) ∨ (a = 0 ∧ j = 13)) → c2 a j = c a j) → Z (.inr 101, Wd P Q P P c2, 1, 6)) (K : ∀ (c2 : ME) (y : Int), Iv u e P Q c2 → (∀ (a : Nat) (j : Int), ¬ ((a = 0 ∧ j = 12) ∨ (a = 0 ∧ j = 13)) → c2 a j = c a j) → (-2147483648) ≤ y ∧ y ≤ 2147483647 → Z (.inl (some (vi y)), Wd P Q P P c2, 0, 0)) : Wp sc (d + 9) 95 0 [(0, .ref 0), (1, vi a1), (2, vi a2)] [] (Wd P Q P P c) 0 0 Z := by
  have hP := iv_P hI
  have hQ := iv_Q hI
  refine q_aload_n c_95_0 rfl (q_iload_n c_95_1 rfl (v_cv c_95_2 km_7_200 rfl rfl (nb_ rfl) ⟨⟨rfl, rfl⟩, nb_ rfl, rfl⟩ (nb_ rfl) (nb_ rfl) (q_aload_n c_94_0 rfl (q_iload_n c_94_1 rfl (q_iconst c_94_2 (q_aload_n c_94_3 rfl (v_gr (t := P) c_94_4 kf_7_50 rfl (nb_ rfl) rfl ?_)))))))
  have h_1 := ir_p0_1 hI hP
  refine v_gi (z := 1) (v := c P 1) c_94_7 kf_7_165 (ck_p0 hP) (a68z hP) rfl rfl rfl (q_iconst c_94_10 (v_isub (v := c P 1 - 1) c_94_11 rfl (q_call c_94_12 rfl rfl rfl (q_iload_n c_80_0 rfl (q_iload_n c_80_1 rfl ?_)))))
  by_cases h_2 : a1 < 0
  · refine v_ic_lt_t (t := 14) c_80_2 rfl ⟨ha1.1, h_2, by decide⟩ (q_iconst c_80_14 (v_zret c_80_15 rfl (by decide) (bk_inl (v_cv c_94_15 km_7_333 rfl rfl (nb_ rfl) ⟨⟨rfl, rfl⟩, nb_ rfl, rfl⟩ (nb_ rfl) (nb_ rfl) (q_iload_n c_91_0 rfl (v_if_ne_f (t := 25) c_91_1 rfl (by decide) (q_aload_n c_91_4 rfl ?_)))))))
    refine q_dup c_91_5 rfl ?_
    have h_3 := ir_0_12 hI
    refine v_gi (z := 12) (v := c 0 12) c_91_6 kf_7_327 rfl (nb_ rfl) rfl rfl rfl (q_iconst c_91_9 (v_iadd (v := c 0 12 + 1) c_91_10 rfl (v_nrm (fun y_4 hy_4 => (v_pi (z := 12) c_91_11 kf_7_327 rfl (nb_ rfl) rfl rfl rfl (by decide) (v_new c_91_14 rfl (by decide) (ld_ rfl) (nb_ rfl) (by decide) rfl (bk_out rfl rfl (bk_out rfl rfl ?_))))))))
    have hI_5 := iw_0_12 (v := y_4) hI ⟨hy_4.1, hy_4.2⟩
    exact T100 _ hI_5 (fun a j hm => up_b (Decidable.or_iff_not_imp_left.mpr (fun h1 h2 => hm (Or.inl ⟨Decidable.not_not.mp h1, h2⟩))))
  · refine v_ic_lt_f (t := 14) c_80_2 rfl ⟨by decide, (Int.not_lt.mp h_2), ha1.2⟩ (q_iload_n c_80_5 rfl (q_iload_n c_80_6 rfl ?_))
    by_cases h_6 : a1 > c P 1 - 1
    · refine v_ic_gt_t (t := 14) c_80_7 rfl ⟨by first | exact rgm_l h_1.1 (by decide) | omega, h_6, ha1.2⟩ (q_iconst c_80_14 (v_zret c_80_15 rfl (by decide) (bk_inl (v_cv c_94_15 km_7_333 rfl rfl (nb_ rfl) ⟨⟨rfl, rfl⟩, nb_ rfl, rfl⟩ (nb_ rfl) (nb_ rfl) (q_iload_n c_91_0 rfl (v_if_ne_f (t := 25) c_91_1 rfl (by decide) (q_aload_n c_91_4 rfl ?_)))))))
      refine q_dup c_91_5 rfl ?_
      have h_7 := ir_0_12 hI
      refine v_gi (z := 12) (v := c 0 12) c_91_6 kf_7_327 rfl (nb_ rfl) rfl rfl rfl (q_iconst c_91_9 (v_iadd (v := c 0 12 + 1) c_91_10 rfl (v_nrm (fun y_8 hy_8 => (v_pi (z := 12) c_91_11 kf_7_327 rfl (nb_ rfl) rfl rfl rfl (by decide) (v_new c_91_14 rfl (by decide) (ld_ rfl) (nb_ rfl) (by decide) rfl (bk_out rfl rfl (bk_out rfl rfl ?_))))))))
      have hI_9 := iw_0_12 (v := y_8) hI ⟨hy_8.1, hy_8.2⟩
      exact T100 _ hI_9 (fun a j hm => up_b (Decidable.or_iff_not_imp_left.mpr (fun h1 h2 => hm (Or.inl ⟨Decidable.not_not.mp h1, h2⟩))))
    · refine v_ic_gt_f (t := 14) c_80_7 rfl ⟨ha1.1, (Int.not_lt.mp h_6), by first | exact rgm_h h_1.2 (by decide) | omega⟩ (q_iconst c_80_10 (q_goto (t := 15) c_80_11 rfl (v_zret c_80_15 rfl (by decide) (bk_inl (v_cv c_94_15 km_7_333 rfl rfl (nb_ rfl) ⟨⟨rfl, rfl⟩, nb_ rfl, rfl⟩ (nb_ rfl) (nb_ rfl) (q_iload_n c_91_0 rfl (v_if_ne_t (t := 25) c_91_1 rfl (by decide) ?_)))))))
      refine q_vret rfl rfl (bk_inl (q_vret rfl rfl (bk_inl (q_aload_n c_95_5 rfl (q_iload_n c_95_6 rfl (q_iconst c_95_7 (q_iconst c_95_8 ?_)))))))
      refine q_call c_95_9 rfl rfl rfl (q_iload_n c_80_0 rfl (q_iload_n c_80_1 rfl ?_))
      by_cases h_10 : a2 < 0
      · refine v_ic_lt_t (t := 14) c_80_2 rfl ⟨ha2.1, h_10, by decide⟩ (q_iconst c_80_14 (v_zret c_80_15 rfl (by decide) (bk_inl (v_cv c_95_12 km_7_161 rfl rfl (nb_ rfl) ⟨⟨rfl, rfl⟩, nb_ rfl, rfl⟩ (nb_ rfl) (nb_ rfl) (q_iload_n c_81_0 rfl (v_if_ne_f (t := 25) c_81_1 rfl (by decide) (q_aload_n c_81_4 rfl ?_)))))))
        refine q_dup c_81_5 rfl ?_
        have h_11 := ir_0_13 hI
        refine v_gi (z := 13) (v := c 0 13) c_81_6 kf_7_330 rfl (nb_ rfl) rfl rfl rfl (q_iconst c_81_9 (v_iadd (v := c 0 13 + 1) c_81_10 rfl (v_nrm (fun y_12 hy_12 => (v_pi (z := 13) c_81_11 kf_7_330 rfl (nb_ rfl) rfl rfl rfl (by decide) (v_new c_81_14 rfl (by decide) (ld_ rfl) (nb_ rfl) (by decide) rfl (bk_out rfl rfl ?_)))))))
        have hI_13 := iw_0_13 (v := y_12) hI ⟨hy_12.1, hy_12.2⟩
        exact T101 _ hI_13 (fun a j hm => up_b (Decidable.or_iff_not_imp_left.mpr (fun h1 h2 => hm (Or.inr ⟨Decidable.not_not.mp h1, h2⟩))))
      · refine v_ic_lt_f (t := 14) c_80_2 rfl ⟨by decide, (Int.not_lt.mp h_10), ha2.2⟩ (q_iload_n c_80_5 rfl (q_iload_n c_80_6 rfl ?_))
        by_cases h_14 : a2 > 2
        · refine v_ic_gt_t (t := 14) c_80_7 rfl ⟨by decide, h_14, ha2.2⟩ (q_iconst c_80_14 (v_zret c_80_15 rfl (by decide) (bk_inl (v_cv c_95_12 km_7_161 rfl rfl (nb_ rfl) ⟨⟨rfl, rfl⟩, nb_ rfl, rfl⟩ (nb_ rfl) (nb_ rfl) (q_iload_n c_81_0 rfl (v_if_ne_f (t := 25) c_81_1 rfl (by decide) (q_aload_n c_81_4 rfl ?_)))))))
          refine q_dup c_81_5 rfl ?_
          have h_15 := ir_0_13 hI
          refine v_gi (z := 13) (v := c 0 13) c_81_6 kf_7_330 rfl (nb_ rfl) rfl rfl rfl (q_iconst c_81_9 (v_iadd (v := c 0 13 + 1) c_81_10 rfl (v_nrm (fun y_16 hy_16 => (v_pi (z := 13) c_81_11 kf_7_330 rfl (nb_ rfl) rfl rfl rfl (by decide) (v_new c_81_14 rfl (by decide) (ld_ rfl) (nb_ rfl) (by decide) rfl (bk_out rfl rfl ?_)))))))
          have hI_17 := iw_0_13 (v := y_16) hI ⟨hy_16.1, hy_16.2⟩
          exact T101 _ hI_17 (fun a j hm => up_b (Decidable.or_iff_not_imp_left.mpr (fun h1 h2 => hm (Or.inr ⟨Decidable.not_not.mp h1, h2⟩))))
        · refine v_ic_gt_f (t := 14) c_80_7 rfl ⟨ha2.1, (Int.not_lt.mp h_14), by decide⟩ (q_iconst c_80_10 (q_goto (t := 15) c_80_11 rfl (v_zret c_80_15 rfl (by decide) (bk_inl (v_cv c_95_12 km_7_161 rfl rfl (nb_ rfl) ⟨⟨rfl, rfl⟩, nb_ rfl, rfl⟩ (nb_ rfl) (nb_ rfl) (q_iload_n c_81_0 rfl (v_if_ne_t (t := 25) c_81_1 rfl (by decide) ?_)))))))
          refine q_vret rfl rfl (bk_inl (q_aload_n c_95_15 rfl (v_gr (t := P) c_95_16 kf_7_50 rfl (nb_ rfl) rfl (q_iload_n c_95_19 rfl (q_iload_n c_95_20 rfl (v_cv c_95_21 km_7_203 rfl (ck_p0 hP) (a68z hP) ⟨⟨rfl, rfl⟩, by decide, rfl⟩ (nb_ rfl) (nb_ rfl) (s_29 (a1 := a1) (a2 := a2) hI hP (show 0 ≤ a1 ∧ a1 ≤ 3 from ⟨by first | exact q_720657ba9 h_2 | omega, by first | exact q_1b5e4f74b h_1 h_6 | omega⟩) (show 0 ≤ a2 ∧ a2 ≤ 2 from ⟨by first | exact q_720657ba9 h_10 | omega, by first | exact q_e9525d7af h_14 | omega⟩) (fun y_18 hy_18 => (bk_inl ?_)))))))))
          refine q_iret c_95_24 rfl ?_
          exact K c y_18 hI (fun a j hm => rfl) ⟨(Int.le_trans (by decide) hy_18.1), (Int.le_trans hy_18.2 (by decide))⟩

set_option maxRecDepth 100000 in
set_option maxHeartbeats 4000000 in
theorem s_97 {sc : List Int32} {e : Int} {d u P Q : Nat} {c : ME} {a1 : Int} {a2 : Int} {Z : AR → Prop} (hI : Iv u e P Q c) (ha1 : (-2147483648) ≤ a1 ∧ a1 ≤ 2147483647) (ha2 : (-2147483648) ≤ a2 ∧ a2 ≤ 2147483647) (T100 : ∀ c2 : ME, Iv u e P Q c2 → (∀ (a : Nat) (j : Int), ¬ ((a = 0 ∧ j = 12) ∨ (a = 0 ∧ j = 13)) → c2 a j = c a j) → Z (.inr 100, Wd P Q P P c2, 1, 6)) (T101 : ∀ c2 : ME, Iv u e P Q c2 → (∀ (a : Nat) (j : Int), ¬ ((a = 0 ∧ j = 12) ∨ (a = 0 ∧ j = 13)) → c2 a j = c a j) → Z (.inr 101, Wd P Q P P c2, 1, 6)) (K : ∀ (c2 : ME) (y : Int), Iv u e P Q c2 → (∀ (a : Nat) (j : Int), ¬ ((a = 0 ∧ j = 12) ∨ (a = 0 ∧ j = 13)) → c2 a j = c a j) → (-2147483648) ≤ y ∧ y ≤ 2147483647 → Z (.inl (some (vi y)), Wd P Q P P c2, 0, 0)) : Wp sc (d + 9) 97 0 [(0, .ref 0), (1, vi a1), (2, vi a2)] [] (Wd P Q P P c) 0 0 Z := by
  have hP := iv_P hI
  have hQ := iv_Q hI
  refine q_aload_n c_97_0 rfl (q_iload_n c_97_1 rfl (v_cv c_97_2 km_7_206 rfl rfl (nb_ rfl) ⟨⟨rfl, rfl⟩, nb_ rfl, rfl⟩ (nb_ rfl) (nb_ rfl) (q_aload_n c_96_0 rfl (q_iload_n c_96_1 rfl (q_iconst c_96_2 (q_aload_n c_96_3 rfl (v_gr (t := P) c_96_4 kf_7_50 rfl (nb_ rfl) rfl ?_)))))))
  have h_1 := ir_p0_2 hI hP
  refine v_gi (z := 2) (v := c P 2) c_96_7 kf_7_168 (ck_p0 hP) (a68z hP) rfl rfl rfl (q_iconst c_96_10 (v_isub (v := c P 2 - 1) c_96_11 rfl (q_call c_96_12 rfl rfl rfl (q_iload_n c_80_0 rfl (q_iload_n c_80_1 rfl ?_)))))
  by_cases h_2 : a1 < 0
  · refine v_ic_lt_t (t := 14) c_80_2 rfl ⟨ha1.1, h_2, by decide⟩ (q_iconst c_80_14 (v_zret c_80_15 rfl (by decide) (bk_inl (v_cv c_96_15 km_7_333 rfl rfl (nb_ rfl) ⟨⟨rfl, rfl⟩, nb_ rfl, rfl⟩ (nb_ rfl) (nb_ rfl) (q_iload_n c_91_0 rfl (v_if_ne_f (t := 25) c_91_1 rfl (by decide) (q_aload_n c_91_4 rfl ?_)))))))
    refine q_dup c_91_5 rfl ?_
    have h_3 := ir_0_12 hI
    refine v_gi (z := 12) (v := c 0 12) c_91_6 kf_7_327 rfl (nb_ rfl) rfl rfl rfl (q_iconst c_91_9 (v_iadd (v := c 0 12 + 1) c_91_10 rfl (v_nrm (fun y_4 hy_4 => (v_pi (z := 12) c_91_11 kf_7_327 rfl (nb_ rfl) rfl rfl rfl (by decide) (v_new c_91_14 rfl (by decide) (ld_ rfl) (nb_ rfl) (by decide) rfl (bk_out rfl rfl (bk_out rfl rfl ?_))))))))
    have hI_5 := iw_0_12 (v := y_4) hI ⟨hy_4.1, hy_4.2⟩
    exact T100 _ hI_5 (fun a j hm => up_b (Decidable.or_iff_not_imp_left.mpr (fun h1 h2 => hm (Or.inl ⟨Decidable.not_not.mp h1, h2⟩))))
  · refine v_ic_lt_f (t := 14) c_80_2 rfl ⟨by decide, (Int.not_lt.mp h_2), ha1.2⟩ (q_iload_n c_80_5 rfl (q_iload_n c_80_6 rfl ?_))
    by_cases h_6 : a1 > c P 2 - 1
    · refine v_ic_gt_t (t := 14) c_80_7 rfl ⟨by first | exact rgm_l h_1.1 (by decide) | omega, h_6, ha1.2⟩ (q_iconst c_80_14 (v_zret c_80_15 rfl (by decide) (bk_inl (v_cv c_96_15 km_7_333 rfl rfl (nb_ rfl) ⟨⟨rfl, rfl⟩, nb_ rfl, rfl⟩ (nb_ rfl) (nb_ rfl) (q_iload_n c_91_0 rfl (v_if_ne_f (t := 25) c_91_1 rfl (by decide) (q_aload_n c_91_4 rfl ?_)))))))
      refine q_dup c_91_5 rfl ?_
      have h_7 := ir_0_12 hI
      refine v_gi (z := 12) (v := c 0 12) c_91_6 kf_7_327 rfl (nb_ rfl) rfl rfl rfl (q_iconst c_91_9 (v_iadd (v := c 0 12 + 1) c_91_10 rfl (v_nrm (fun y_8 hy_8 => (v_pi (z := 12) c_91_11 kf_7_327 rfl (nb_ rfl) rfl rfl rfl (by decide) (v_new c_91_14 rfl (by decide) (ld_ rfl) (nb_ rfl) (by decide) rfl (bk_out rfl rfl (bk_out rfl rfl ?_))))))))
      have hI_9 := iw_0_12 (v := y_8) hI ⟨hy_8.1, hy_8.2⟩
      exact T100 _ hI_9 (fun a j hm => up_b (Decidable.or_iff_not_imp_left.mpr (fun h1 h2 => hm (Or.inl ⟨Decidable.not_not.mp h1, h2⟩))))
    · refine v_ic_gt_f (t := 14) c_80_7 rfl ⟨ha1.1, (Int.not_lt.mp h_6), by first | exact rgm_h h_1.2 (by decide) | omega⟩ (q_iconst c_80_10 (q_goto (t := 15) c_80_11 rfl (v_zret c_80_15 rfl (by decide) (bk_inl (v_cv c_96_15 km_7_333 rfl rfl (nb_ rfl) ⟨⟨rfl, rfl⟩, nb_ rfl, rfl⟩ (nb_ rfl) (nb_ rfl) (q_iload_n c_91_0 rfl (v_if_ne_t (t := 25) c_91_1 rfl (by decide) ?_)))))))
      refine q_vret rfl rfl (bk_inl (q_vret rfl rfl (bk_inl (q_aload_n c_97_5 rfl (q_iload_n c_97_6 rfl (q_iconst c_97_7 (q_iconst c_97_8 ?_)))))))
      refine q_call c_97_9 rfl rfl rfl (q_iload_n c_80_0 rfl (q_iload_n c_80_1 rfl ?_))
      by_cases h_10 : a2 < 0
      · refine v_ic_lt_t (t := 14) c_80_2 rfl ⟨ha2.1, h_10, by decide⟩ (q_iconst c_80_14 (v_zret c_80_15 rfl (by decide) (bk_inl (v_cv c_97_12 km_7_161 rfl rfl (nb_ rfl) ⟨⟨rfl, rfl⟩, nb_ rfl, rfl⟩ (nb_ rfl) (nb_ rfl) (q_iload_n c_81_0 rfl (v_if_ne_f (t := 25) c_81_1 rfl (by decide) (q_aload_n c_81_4 rfl ?_)))))))
        refine q_dup c_81_5 rfl ?_
        have h_11 := ir_0_13 hI
        refine v_gi (z := 13) (v := c 0 13) c_81_6 kf_7_330 rfl (nb_ rfl) rfl rfl rfl (q_iconst c_81_9 (v_iadd (v := c 0 13 + 1) c_81_10 rfl (v_nrm (fun y_12 hy_12 => (v_pi (z := 13) c_81_11 kf_7_330 rfl (nb_ rfl) rfl rfl rfl (by decide) (v_new c_81_14 rfl (by decide) (ld_ rfl) (nb_ rfl) (by decide) rfl (bk_out rfl rfl ?_)))))))
        have hI_13 := iw_0_13 (v := y_12) hI ⟨hy_12.1, hy_12.2⟩
        exact T101 _ hI_13 (fun a j hm => up_b (Decidable.or_iff_not_imp_left.mpr (fun h1 h2 => hm (Or.inr ⟨Decidable.not_not.mp h1, h2⟩))))
      · refine v_ic_lt_f (t := 14) c_80_2 rfl ⟨by decide, (Int.not_lt.mp h_10), ha2.2⟩ (q_iload_n c_80_5 rfl (q_iload_n c_80_6 rfl ?_))
        by_cases h_14 : a2 > 1
        · refine v_ic_gt_t (t := 14) c_80_7 rfl ⟨by decide, h_14, ha2.2⟩ (q_iconst c_80_14 (v_zret c_80_15 rfl (by decide) (bk_inl (v_cv c_97_12 km_7_161 rfl rfl (nb_ rfl) ⟨⟨rfl, rfl⟩, nb_ rfl, rfl⟩ (nb_ rfl) (nb_ rfl) (q_iload_n c_81_0 rfl (v_if_ne_f (t := 25) c_81_1 rfl (by decide) (q_aload_n c_81_4 rfl ?_)))))))
          refine q_dup c_81_5 rfl ?_
          have h_15 := ir_0_13 hI
          refine v_gi (z := 13) (v := c 0 13) c_81_6 kf_7_330 rfl (nb_ rfl) rfl rfl rfl (q_iconst c_81_9 (v_iadd (v := c 0 13 + 1) c_81_10 rfl (v_nrm (fun y_16 hy_16 => (v_pi (z := 13) c_81_11 kf_7_330 rfl (nb_ rfl) rfl rfl rfl (by decide) (v_new c_81_14 rfl (by decide) (ld_ rfl) (nb_ rfl) (by decide) rfl (bk_out rfl rfl ?_)))))))
          have hI_17 := iw_0_13 (v := y_16) hI ⟨hy_16.1, hy_16.2⟩
          exact T101 _ hI_17 (fun a j hm => up_b (Decidable.or_iff_not_imp_left.mpr (fun h1 h2 => hm (Or.inr ⟨Decidable.not_not.mp h1, h2⟩))))
        · refine v_ic_gt_f (t := 14) c_80_7 rfl ⟨ha2.1, (Int.not_lt.mp h_14), by decide⟩ (q_iconst c_80_10 (q_goto (t := 15) c_80_11 rfl (v_zret c_80_15 rfl (by decide) (bk_inl (v_cv c_97_12 km_7_161 rfl rfl (nb_ rfl) ⟨⟨rfl, rfl⟩, nb_ rfl, rfl⟩ (nb_ rfl) (nb_ rfl) (q_iload_n c_81_0 rfl (v_if_ne_t (t := 25) c_81_1 rfl (by decide) ?_)))))))
          refine q_vret rfl rfl (bk_inl (q_iload_n c_97_15 rfl ?_))
          by_cases h_18 : a2 ≠ 0
          · refine v_if_ne_t (t := 29) c_97_16 rfl ⟨h_18, ⟨ha2.1, ha2.2⟩, by decide, by decide⟩ (q_aload_n c_97_29 rfl (v_gr (t := 37) c_97_30 kf_7_62 rfl (nb_ rfl) rfl (q_iload_n c_97_33 rfl ?_)))
            have h_19 := ir_38 hI 30
            have h_20 := tb_rng (c 38 30) a1
            refine v_cv c_97_34 km_7_212 rfl rfl (nb_ rfl) ⟨⟨rfl, rfl⟩, nb_ rfl, rfl⟩ (nb_ rfl) (nb_ rfl) (s_46 (v1 := c 38 30) (r := (tb (c 38 30) a1)) (a1 := a1) hI (.inl ⟨rfl, rfl⟩) (show 0 ≤ a1 ∧ a1 ≤ 3 from ⟨by first | exact q_720657ba9 h_2 | omega, by first | exact q_1b5e4f74b h_1 h_6 | omega⟩) (rfl) rfl (bk_inl ?_))
            by_cases h_21 : (tb (c 38 30) a1) = 0
            · refine v_if_eq_t (t := 44) c_97_37 rfl h_21 (q_iconst c_97_44 (q_iret c_97_45 rfl ?_))
              exact K c 0 hI (fun a j hm => rfl) ⟨by decide, by decide⟩
            · refine v_if_eq_f (t := 44) c_97_37 rfl ⟨h_21, ⟨by first | (clear ha1 ha2 h_1 h_2 h_6 h_10 h_14 h_19 h_18; omega) | omega, by first | (clear ha1 ha2 h_1 h_2 h_6 h_10 h_14 h_19 h_18; omega) | omega⟩, by decide, by decide⟩ (q_iconst c_97_40 (q_goto (t := 45) c_97_41 rfl (q_iret c_97_45 rfl ?_)))
              exact K c 1 hI (fun a j hm => rfl) ⟨by decide, by decide⟩
          · refine v_if_ne_f (t := 29) c_97_16 rfl (Decidable.not_not.mp h_18) (q_aload_n c_97_19 rfl (v_gr (t := P) c_97_20 kf_7_50 rfl (nb_ rfl) rfl (v_gr (t := (P + 3)) c_97_23 kf_7_209 (ck_p0 hP) (a68z hP) rfl (q_iload_n c_97_26 rfl ?_))))
            have h_22 := ir_p3 hI hP a1
            refine v_ia (v := c (P + 3) a1) c_97_27 (ck_p3 hP) (a68 hP rfl) (by decide) ⟨by first | exact q_720657ba9 h_2 | omega, by first | exact q_0435250f0 h_1 h_6 | omega⟩ rfl (q_iret c_97_28 rfl ?_)
            exact K c (c (P + 3) a1) hI (fun a j hm => rfl) ⟨(Int.le_trans (by decide) h_22.1), (Int.le_trans h_22.2 (by decide))⟩

set_option maxRecDepth 100000 in
set_option maxHeartbeats 4000000 in
theorem s_98 {sc : List Int32} {e : Int} {d u P Q : Nat} {c : ME} {a1 : Int} {Z : AR → Prop} (hI : Iv u e P Q c) (ha1 : (-2147483648) ≤ a1 ∧ a1 ≤ 2147483647) (T100 : ∀ c2 : ME, Iv u e P Q c2 → (∀ (a : Nat) (j : Int), ¬ ((a = 0 ∧ j = 12)) → c2 a j = c a j) → Z (.inr 100, Wd P Q P P c2, 1, 6)) (K : ∀ (c2 : ME) (y : Int), Iv u e P Q c2 → (∀ (a : Nat) (j : Int), ¬ ((a = 0 ∧ j = 12)) → c2 a j = c a j) → (-2147483648) ≤ y ∧ y ≤ 2147483647 → Z (.inl (some (vi y)), Wd P Q P P c2, 0, 0)) : Wp sc (d + 9) 98 0 [(0, .ref 0), (1, vi a1)] [] (Wd P Q P P c) 0 0 Z := by
  have hP := iv_P hI
  have hQ := iv_Q hI
  refine q_aload_n c_98_0 rfl (q_iload_n c_98_1 rfl (v_cv c_98_2 km_7_184 rfl rfl (nb_ rfl) ⟨⟨rfl, rfl⟩, nb_ rfl, rfl⟩ (nb_ rfl) (nb_ rfl) (q_aload_n c_92_0 rfl (q_iload_n c_92_1 rfl (q_iconst c_92_2 (q_aload_n c_92_3 rfl (v_gr (t := P) c_92_4 kf_7_50 rfl (nb_ rfl) rfl ?_)))))))
  have h_1 := ir_p0_0 hI hP
  refine v_gi (z := 0) (v := c P 0) c_92_7 kf_7_102 (ck_p0 hP) (a68z hP) rfl rfl rfl (q_iconst c_92_10 (v_isub (v := c P 0 - 1) c_92_11 rfl (q_call c_92_12 rfl rfl rfl (q_iload_n c_80_0 rfl (q_iload_n c_80_1 rfl ?_)))))
  by_cases h_2 : a1 < 0
  · refine v_ic_lt_t (t := 14) c_80_2 rfl ⟨ha1.1, h_2, by decide⟩ (q_iconst c_80_14 (v_zret c_80_15 rfl (by decide) (bk_inl (v_cv c_92_15 km_7_333 rfl rfl (nb_ rfl) ⟨⟨rfl, rfl⟩, nb_ rfl, rfl⟩ (nb_ rfl) (nb_ rfl) (q_iload_n c_91_0 rfl (v_if_ne_f (t := 25) c_91_1 rfl (by decide) (q_aload_n c_91_4 rfl ?_)))))))
    refine q_dup c_91_5 rfl ?_
    have h_3 := ir_0_12 hI
    refine v_gi (z := 12) (v := c 0 12) c_91_6 kf_7_327 rfl (nb_ rfl) rfl rfl rfl (q_iconst c_91_9 (v_iadd (v := c 0 12 + 1) c_91_10 rfl (v_nrm (fun y_4 hy_4 => (v_pi (z := 12) c_91_11 kf_7_327 rfl (nb_ rfl) rfl rfl rfl (by decide) (v_new c_91_14 rfl (by decide) (ld_ rfl) (nb_ rfl) (by decide) rfl (bk_out rfl rfl (bk_out rfl rfl ?_))))))))
    have hI_5 := iw_0_12 (v := y_4) hI ⟨hy_4.1, hy_4.2⟩
    exact T100 _ hI_5 (fun a j hm => up_b (Decidable.or_iff_not_imp_left.mpr (fun h1 h2 => hm ⟨Decidable.not_not.mp h1, h2⟩)))
  · refine v_ic_lt_f (t := 14) c_80_2 rfl ⟨by decide, (Int.not_lt.mp h_2), ha1.2⟩ (q_iload_n c_80_5 rfl (q_iload_n c_80_6 rfl ?_))
    by_cases h_6 : a1 > c P 0 - 1
    · refine v_ic_gt_t (t := 14) c_80_7 rfl ⟨by first | exact rgm_l h_1.1 (by decide) | omega, h_6, ha1.2⟩ (q_iconst c_80_14 (v_zret c_80_15 rfl (by decide) (bk_inl (v_cv c_92_15 km_7_333 rfl rfl (nb_ rfl) ⟨⟨rfl, rfl⟩, nb_ rfl, rfl⟩ (nb_ rfl) (nb_ rfl) (q_iload_n c_91_0 rfl (v_if_ne_f (t := 25) c_91_1 rfl (by decide) (q_aload_n c_91_4 rfl ?_)))))))
      refine q_dup c_91_5 rfl ?_
      have h_7 := ir_0_12 hI
      refine v_gi (z := 12) (v := c 0 12) c_91_6 kf_7_327 rfl (nb_ rfl) rfl rfl rfl (q_iconst c_91_9 (v_iadd (v := c 0 12 + 1) c_91_10 rfl (v_nrm (fun y_8 hy_8 => (v_pi (z := 12) c_91_11 kf_7_327 rfl (nb_ rfl) rfl rfl rfl (by decide) (v_new c_91_14 rfl (by decide) (ld_ rfl) (nb_ rfl) (by decide) rfl (bk_out rfl rfl (bk_out rfl rfl ?_))))))))
      have hI_9 := iw_0_12 (v := y_8) hI ⟨hy_8.1, hy_8.2⟩
      exact T100 _ hI_9 (fun a j hm => up_b (Decidable.or_iff_not_imp_left.mpr (fun h1 h2 => hm ⟨Decidable.not_not.mp h1, h2⟩)))
    · refine v_ic_gt_f (t := 14) c_80_7 rfl ⟨ha1.1, (Int.not_lt.mp h_6), by first | exact rgm_h h_1.2 (by decide) | omega⟩ (q_iconst c_80_10 (q_goto (t := 15) c_80_11 rfl (v_zret c_80_15 rfl (by decide) (bk_inl (v_cv c_92_15 km_7_333 rfl rfl (nb_ rfl) ⟨⟨rfl, rfl⟩, nb_ rfl, rfl⟩ (nb_ rfl) (nb_ rfl) (q_iload_n c_91_0 rfl (v_if_ne_t (t := 25) c_91_1 rfl (by decide) ?_)))))))
      refine q_vret rfl rfl (bk_inl (q_vret rfl rfl (bk_inl (v_sip c_98_5 (by decide) (q_aload_n c_98_8 rfl (v_gr (t := 37) c_98_9 kf_7_62 rfl (nb_ rfl) rfl (q_iload_n c_98_12 rfl ?_)))))))
      have h_10 := ir_38_g hI (j := 4 * a1) (by first | exact q_b0d0e4535 h_1 h_6 | omega)
      have h_11 := ir_38_g hI (j := 4 * a1 + 1) (by first | exact q_e3354e5e9 h_1 h_6 | omega)
      have h_12 := ir_38_g hI (j := 4 * a1 + 2) (by first | exact q_0a5347bcd h_1 h_6 | omega)
      have h_13 := ir_38_g hI (j := 4 * a1 + 3) (by first | exact q_9939b3b7f h_1 h_6 | omega)
      refine v_cv c_98_13 km_7_187 rfl rfl (nb_ rfl) ⟨⟨rfl, rfl⟩, nb_ rfl, rfl⟩ (nb_ rfl) (nb_ rfl) (s_43 (v1 := c 38 (4 * a1)) (v2 := c 38 (4 * a1 + 1)) (v3 := c 38 (4 * a1 + 2)) (v4 := c 38 (4 * a1 + 3)) (r := c 38 (4 * a1 + 1) + c 38 (4 * a1 + 2) + c 38 (4 * a1 + 3) + c 38 (4 * a1)) (a1 := a1) hI (.inl ⟨rfl, rfl⟩) (show 0 ≤ a1 ∧ a1 ≤ 5 from ⟨by first | exact q_720657ba9 h_2 | omega, by first | exact q_3a2e67ab0 h_1 h_6 | omega⟩) (rfl) (rfl) (rfl) (rfl) (by omega) (bk_inl (v_isub (v := 9999 - c 38 (4 * a1 + 1) - c 38 (4 * a1 + 2) - c 38 (4 * a1 + 3) - c 38 (4 * a1)) c_98_16 (by first | exact q_f408b7df8 | omega) (q_iret c_98_17 rfl ?_))))
      exact K c (9999 - c 38 (4 * a1 + 1) - c 38 (4 * a1 + 2) - c 38 (4 * a1 + 3) - c 38 (4 * a1)) hI (fun a j hm => rfl) ⟨by first | exact q_fb5727b6a h_10 h_11 h_12 h_13 | omega, by first | exact q_033ec8ac9 h_10 h_11 h_12 h_13 | omega⟩

set_option maxRecDepth 100000 in
set_option maxHeartbeats 4000000 in
theorem s_99_l {sc : List Int32} {e : Int} {d u P Q : Nat} {c : ME} {a1 : Int} {Z : AR → Prop} (hI : Iv u e P Q c) (ha1 : (-2147483648) ≤ a1 ∧ a1 ≤ 2147483647) (T101 : ∀ c2 : ME, Iv u e P Q c2 → (∀ (a : Nat) (j : Int), ¬ ((a = 0 ∧ j = 13)) → c2 a j = c a j) → Z (.inr 101, Wd P Q P P c2, 1, 6)) (K : ∀ (c2 : ME) (y : Int), Iv u e P Q c2 → (∀ (a : Nat) (j : Int), ¬ ((a = 0 ∧ j = 13)) → c2 a j = c a j) → (-2147483648) ≤ y ∧ y ≤ 2147483647 → Z (.inl (some (vi y)), Wd P Q P P c2, 0, 0)) : ∀ n : Nat, (∀ (c2 : ME) (v2 : Int) (v3 : Int), Iv u e P Q c2 → (∀ (a : Nat) (j : Int), ¬ ((a = 0 ∧ j = 13)) → c2 a j = c a j) → (-1) ≤ v2 ∧ v2 ≤ 5 → 0 ≤ v3 ∧ v3 ≤ 6 → 13 - 2 * v3 < (n : Int) → Wp sc (d + 8) 99 14 [(0, .ref 0), (1, vi a1), (2, vi v2), (3, vi v3)] [] (Wd P Q P P c2) 0 0 Z) := by
  intro n
  induction n with
  | zero => exact (by intro c2 v2 v3 hI2 hF hv2 hv3 hm9; have hP := iv_P hI; have hQ := iv_Q hI; exfalso; omega)
  | succ n ih =>
    have hP := iv_P hI
    have hQ := iv_Q hI
    intro c2 v2 v3 hI2 hF hv2 hv3 hm9
    refine q_iload_n c_99_14 rfl (q_aload_n c_99_15 rfl (v_gr (t := P) c_99_16 kf_7_50 rfl (nb_ rfl) rfl ?_))
    have h_1 := ir_p0_0 hI hP
    have kn_2 : Hid (c2 P 0 = c P 0) := hF P 0 (fun h => absurd h.1 (np0 hP rfl))
    refine v_gi (z := 0) (v := c P 0) c_99_19 kf_7_102 (ck_p0 hP) (a68z hP) rfl rfl (hid kn_2) ?_
    by_cases h_3 : v3 ≥ c P 0
    · refine v_ic_ge_t (t := 68) c_99_22 rfl ⟨by first | exact q_730ab5169 h_1 | omega, h_3, (Int.le_trans hv3.2 (by decide))⟩ (q_iload_n c_99_68 rfl ?_)
      by_cases h_4 : a1 = 0
      · refine v_if_eq_t (t := 77) c_99_69 rfl h_4 (q_iload_n c_99_77 rfl (q_goto (t := 89) c_99_78 rfl (q_iret c_99_89 rfl ?_)))
        exact K c2 v2 hI2 (fun a j hm => hF a j hm) ⟨(Int.le_trans (by decide) hv2.1), (Int.le_trans hv2.2 (by decide))⟩
      · refine v_if_eq_f (t := 77) c_99_69 rfl ⟨h_4, ⟨ha1.1, ha1.2⟩, by decide, by decide⟩ (q_iload_n c_99_72 rfl (q_iconst c_99_73 ?_))
        by_cases h_5 : v2 ≠ (-1)
        · refine v_ic_ne_t (t := 81) c_99_74 rfl ⟨h_5, ⟨(Int.le_trans (by decide) hv2.1), (Int.le_trans hv2.2 (by decide))⟩, by decide, by decide⟩ (q_aload_n c_99_81 rfl (v_gr (t := 37) c_99_82 kf_7_62 rfl (nb_ rfl) rfl (q_iload_n c_99_85 rfl (v_cv c_99_86 km_7_190 rfl rfl (nb_ rfl) ⟨⟨rfl, rfl⟩, nb_ rfl, rfl⟩ (nb_ rfl) (nb_ rfl) (s_51 (a1 := v2) hI2 (.inl ⟨rfl, rfl⟩) (show 0 ≤ v2 ∧ v2 ≤ 5 from ⟨by first | exact q_8754394d5 h_5 hv2 | omega, hv2.2⟩) (fun y_6 hy_6 => (bk_inl (q_iret c_99_89 rfl ?_))))))))
          exact K c2 y_6 hI2 (fun a j hm => hF a j hm) hy_6
        · refine v_ic_ne_f (t := 81) c_99_74 rfl (Decidable.not_not.mp h_5) (q_iload_n c_99_77 rfl (q_goto (t := 89) c_99_78 rfl (q_iret c_99_89 rfl ?_)))
          exact K c2 v2 hI2 (fun a j hm => hF a j hm) ⟨(Int.le_trans (by decide) hv2.1), (Int.le_trans hv2.2 (by decide))⟩
    · refine v_ic_ge_f (t := 68) c_99_22 rfl ⟨(Int.le_trans (by decide) hv3.1), (Int.not_le.mp h_3), by first | exact q_b289b7db2 h_1 | omega⟩ (q_aload_n c_99_25 rfl (v_gr (t := 37) c_99_26 kf_7_62 rfl (nb_ rfl) rfl (q_iload_n c_99_29 rfl ?_)))
      have h_7 := ir_38_g hI (j := 4 * v3) (by first | exact q_aa51b186e h_1 h_3 | omega)
      have kn_8 : Hid (c2 38 (4 * v3) = c 38 (4 * v3)) := hF 38 (4 * v3) (fun h => absurd h.1 (nn rfl))
      have h_9 := ir_38_g hI (j := 4 * v3 + 1) (by first | exact q_57851f9de h_1 h_3 | omega)
      have kn_10 : Hid (c2 38 (4 * v3 + 1) = c 38 (4 * v3 + 1)) := hF 38 (4 * v3 + 1) (fun h => absurd h.1 (nn rfl))
      have h_11 := ir_38_g hI (j := 4 * v3 + 2) (by first | exact q_7296e74e6 h_1 h_3 | omega)
      have kn_12 : Hid (c2 38 (4 * v3 + 2) = c 38 (4 * v3 + 2)) := hF 38 (4 * v3 + 2) (fun h => absurd h.1 (nn rfl))
      have h_13 := ir_38_g hI (j := 4 * v3 + 3) (by first | exact q_b15525c4c h_1 h_3 | omega)
      have kn_14 : Hid (c2 38 (4 * v3 + 3) = c 38 (4 * v3 + 3)) := hF 38 (4 * v3 + 3) (fun h => absurd h.1 (nn rfl))
      refine v_cv c_99_30 km_7_187 rfl rfl (nb_ rfl) ⟨⟨rfl, rfl⟩, nb_ rfl, rfl⟩ (nb_ rfl) (nb_ rfl) (s_43 (v1 := c 38 (4 * v3)) (v2 := c 38 (4 * v3 + 1)) (v3 := c 38 (4 * v3 + 2)) (v4 := c 38 (4 * v3 + 3)) (r := c 38 (4 * v3 + 1) + c 38 (4 * v3 + 2) + c 38 (4 * v3 + 3) + c 38 (4 * v3)) (a1 := v3) hI2 (.inl ⟨rfl, rfl⟩) (show 0 ≤ v3 ∧ v3 ≤ 5 from ⟨hv3.1, by first | exact q_d63a8538e h_1 h_3 | omega⟩) ((hid kn_8)) ((hid kn_10)) ((hid kn_12)) ((hid kn_14)) (by omega) (bk_inl ?_))
      by_cases h_15 : c 38 (4 * v3 + 1) + c 38 (4 * v3 + 2) + c 38 (4 * v3 + 3) + c 38 (4 * v3) ≤ 0
      · refine v_if_le_t (t := 62) c_99_33 rfl ⟨by first | exact q_df6958c12 h_11 h_13 h_7 h_9 | omega, h_15, by decide⟩ (v_iinc (v := v3 + 1) c_99_62 rfl (nb_ rfl) rfl (q_goto (t := 14) c_99_65 rfl (Wp_ls [(0, .ref 0), (1, vi a1), (2, vi v2), (3, vi (v3 + 1))] (lsub_cons rfl (lsub_cons rfl (lsub_cons rfl (lsub_cons rfl lsub_nil)))) ?_)))
        exact ih c2 v2 (v3 + 1) hI2 (fun a j hm => hF a j hm) hv2 ⟨by first | exact rgp_l hv3.1 (by decide) | omega, by first | exact q_4a76cd9c7 h_1 h_3 | omega⟩ (by omega)
      · refine v_if_le_f (t := 62) c_99_33 rfl ⟨by decide, (Int.not_le.mp h_15), by first | exact q_e2451768c h_11 h_13 h_7 h_9 | omega⟩ (q_iload_n c_99_36 rfl (q_iconst c_99_37 ?_))
        by_cases h_16 : v2 = (-1)
        · refine v_ic_eq_t (t := 60) c_99_38 rfl h_16 (q_iload_n c_99_60 rfl (q_istore_n c_99_61 (nb_ rfl) (v_iinc (v := v3 + 1) c_99_62 rfl (nb_ rfl) rfl (q_goto (t := 14) c_99_65 rfl (Wp_ls [(0, .ref 0), (1, vi a1), (2, vi v3), (3, vi (v3 + 1))] (lsub_cons rfl (lsub_cons rfl (lsub_cons rfl (lsub_cons rfl lsub_nil)))) ?_)))))
          exact ih c2 v3 (v3 + 1) hI2 (fun a j hm => hF a j hm) ⟨(Int.le_trans (by decide) hv3.1), by first | exact q_d63a8538e h_1 h_3 | omega⟩ ⟨by first | exact rgp_l hv3.1 (by decide) | omega, by first | exact q_4a76cd9c7 h_1 h_3 | omega⟩ (by omega)
        · refine v_ic_eq_f (t := 60) c_99_38 rfl ⟨h_16, ⟨(Int.le_trans (by decide) hv2.1), (Int.le_trans hv2.2 (by decide))⟩, by decide, by decide⟩ (q_aload_n c_99_41 rfl (v_gr (t := 37) c_99_42 kf_7_62 rfl (nb_ rfl) rfl (q_iload_n c_99_45 rfl (v_cv c_99_46 km_7_190 rfl rfl (nb_ rfl) ⟨⟨rfl, rfl⟩, nb_ rfl, rfl⟩ (nb_ rfl) (nb_ rfl) (s_51 (a1 := v3) hI2 (.inl ⟨rfl, rfl⟩) (show 0 ≤ v3 ∧ v3 ≤ 5 from ⟨hv3.1, by first | exact q_d63a8538e h_1 h_3 | omega⟩) (fun y_17 hy_17 => (bk_inl (q_aload_n c_99_49 rfl (v_gr (t := 37) c_99_50 kf_7_62 rfl (nb_ rfl) rfl ?_)))))))))
          refine q_iload_n c_99_53 rfl (v_cv c_99_54 km_7_190 rfl rfl (nb_ rfl) ⟨⟨rfl, rfl⟩, nb_ rfl, rfl⟩ (nb_ rfl) (nb_ rfl) (s_51 (a1 := v2) hI2 (.inl ⟨rfl, rfl⟩) (show 0 ≤ v2 ∧ v2 ≤ 5 from ⟨by first | exact q_a0327fb45 h_16 hv2 | omega, hv2.2⟩) (fun y_18 hy_18 => (bk_inl ?_))))
          by_cases h_19 : y_17 ≤ y_18
          · refine v_ic_le_t (t := 62) c_99_57 rfl ⟨hy_17.1, h_19, hy_18.2⟩ (v_iinc (v := v3 + 1) c_99_62 rfl (nb_ rfl) rfl (q_goto (t := 14) c_99_65 rfl (Wp_ls [(0, .ref 0), (1, vi a1), (2, vi v2), (3, vi (v3 + 1))] (lsub_cons rfl (lsub_cons rfl (lsub_cons rfl (lsub_cons rfl lsub_nil)))) ?_)))
            exact ih c2 v2 (v3 + 1) hI2 (fun a j hm => hF a j hm) hv2 ⟨by first | exact rgp_l hv3.1 (by decide) | omega, by first | exact q_4a76cd9c7 h_1 h_3 | omega⟩ (by omega)
          · refine v_ic_le_f (t := 62) c_99_57 rfl ⟨hy_18.1, (Int.not_le.mp h_19), hy_17.2⟩ (q_iload_n c_99_60 rfl (q_istore_n c_99_61 (nb_ rfl) (v_iinc (v := v3 + 1) c_99_62 rfl (nb_ rfl) rfl (q_goto (t := 14) c_99_65 rfl (Wp_ls [(0, .ref 0), (1, vi a1), (2, vi v3), (3, vi (v3 + 1))] (lsub_cons rfl (lsub_cons rfl (lsub_cons rfl (lsub_cons rfl lsub_nil)))) ?_)))))
            exact ih c2 v3 (v3 + 1) hI2 (fun a j hm => hF a j hm) ⟨(Int.le_trans (by decide) hv3.1), by first | exact q_d63a8538e h_1 h_3 | omega⟩ ⟨by first | exact rgp_l hv3.1 (by decide) | omega, by first | exact q_4a76cd9c7 h_1 h_3 | omega⟩ (by omega)
set_option maxRecDepth 100000 in
set_option maxHeartbeats 4000000 in
theorem s_99 {sc : List Int32} {e : Int} {d u P Q : Nat} {c : ME} {a1 : Int} {Z : AR → Prop} (hI : Iv u e P Q c) (ha1 : (-2147483648) ≤ a1 ∧ a1 ≤ 2147483647) (T101 : ∀ c2 : ME, Iv u e P Q c2 → (∀ (a : Nat) (j : Int), ¬ ((a = 0 ∧ j = 13)) → c2 a j = c a j) → Z (.inr 101, Wd P Q P P c2, 1, 6)) (K : ∀ (c2 : ME) (y : Int), Iv u e P Q c2 → (∀ (a : Nat) (j : Int), ¬ ((a = 0 ∧ j = 13)) → c2 a j = c a j) → (-2147483648) ≤ y ∧ y ≤ 2147483647 → Z (.inl (some (vi y)), Wd P Q P P c2, 0, 0)) : Wp sc (d + 8) 99 0 [(0, .ref 0), (1, vi a1)] [] (Wd P Q P P c) 0 0 Z := by
  have hP := iv_P hI
  have hQ := iv_Q hI
  refine q_aload_n c_99_0 rfl (q_iload_n c_99_1 rfl (q_iconst c_99_2 (q_iconst c_99_3 (q_call c_99_4 rfl rfl rfl (q_iload_n c_80_0 rfl (q_iload_n c_80_1 rfl ?_))))))
  by_cases h_20 : a1 < 0
  · refine v_ic_lt_t (t := 14) c_80_2 rfl ⟨ha1.1, h_20, by decide⟩ (q_iconst c_80_14 (v_zret c_80_15 rfl (by decide) (bk_inl (v_cv c_99_7 km_7_161 rfl rfl (nb_ rfl) ⟨⟨rfl, rfl⟩, nb_ rfl, rfl⟩ (nb_ rfl) (nb_ rfl) (q_iload_n c_81_0 rfl (v_if_ne_f (t := 25) c_81_1 rfl (by decide) (q_aload_n c_81_4 rfl ?_)))))))
    refine q_dup c_81_5 rfl ?_
    have h_21 := ir_0_13 hI
    refine v_gi (z := 13) (v := c 0 13) c_81_6 kf_7_330 rfl (nb_ rfl) rfl rfl rfl (q_iconst c_81_9 (v_iadd (v := c 0 13 + 1) c_81_10 rfl (v_nrm (fun y_22 hy_22 => (v_pi (z := 13) c_81_11 kf_7_330 rfl (nb_ rfl) rfl rfl rfl (by decide) (v_new c_81_14 rfl (by decide) (ld_ rfl) (nb_ rfl) (by decide) rfl (bk_out rfl rfl ?_)))))))
    have hI_23 := iw_0_13 (v := y_22) hI ⟨hy_22.1, hy_22.2⟩
    exact T101 _ hI_23 (fun a j hm => up_b (Decidable.or_iff_not_imp_left.mpr (fun h1 h2 => hm ⟨Decidable.not_not.mp h1, h2⟩)))
  · refine v_ic_lt_f (t := 14) c_80_2 rfl ⟨by decide, (Int.not_lt.mp h_20), ha1.2⟩ (q_iload_n c_80_5 rfl (q_iload_n c_80_6 rfl ?_))
    by_cases h_24 : a1 > 1
    · refine v_ic_gt_t (t := 14) c_80_7 rfl ⟨by decide, h_24, ha1.2⟩ (q_iconst c_80_14 (v_zret c_80_15 rfl (by decide) (bk_inl (v_cv c_99_7 km_7_161 rfl rfl (nb_ rfl) ⟨⟨rfl, rfl⟩, nb_ rfl, rfl⟩ (nb_ rfl) (nb_ rfl) (q_iload_n c_81_0 rfl (v_if_ne_f (t := 25) c_81_1 rfl (by decide) (q_aload_n c_81_4 rfl ?_)))))))
      refine q_dup c_81_5 rfl ?_
      have h_25 := ir_0_13 hI
      refine v_gi (z := 13) (v := c 0 13) c_81_6 kf_7_330 rfl (nb_ rfl) rfl rfl rfl (q_iconst c_81_9 (v_iadd (v := c 0 13 + 1) c_81_10 rfl (v_nrm (fun y_26 hy_26 => (v_pi (z := 13) c_81_11 kf_7_330 rfl (nb_ rfl) rfl rfl rfl (by decide) (v_new c_81_14 rfl (by decide) (ld_ rfl) (nb_ rfl) (by decide) rfl (bk_out rfl rfl ?_)))))))
      have hI_27 := iw_0_13 (v := y_26) hI ⟨hy_26.1, hy_26.2⟩
      exact T101 _ hI_27 (fun a j hm => up_b (Decidable.or_iff_not_imp_left.mpr (fun h1 h2 => hm ⟨Decidable.not_not.mp h1, h2⟩)))
    · refine v_ic_gt_f (t := 14) c_80_7 rfl ⟨ha1.1, (Int.not_lt.mp h_24), by decide⟩ (q_iconst c_80_10 (q_goto (t := 15) c_80_11 rfl (v_zret c_80_15 rfl (by decide) (bk_inl (v_cv c_99_7 km_7_161 rfl rfl (nb_ rfl) ⟨⟨rfl, rfl⟩, nb_ rfl, rfl⟩ (nb_ rfl) (nb_ rfl) (q_iload_n c_81_0 rfl (v_if_ne_t (t := 25) c_81_1 rfl (by decide) ?_)))))))
      refine q_vret rfl rfl (bk_inl (q_iconst c_99_10 (q_istore_n c_99_11 (nb_ rfl) (q_iconst c_99_12 (q_istore_n c_99_13 (nb_ rfl) (Wp_ls [(0, .ref 0), (1, vi a1), (2, vi (-1)), (3, vi 0)] (lsub_cons rfl (lsub_cons rfl (lsub_cons rfl (lsub_cons rfl lsub_nil)))) ?_))))))
      exact (s_99_l (sc := sc) (d := d) hI ha1 T101 K 16) c (-1) 0 hI (fun a j hm => rfl) ⟨by decide, by decide⟩ ⟨by decide, by decide⟩ (by omega)

set_option maxRecDepth 100000 in
set_option maxHeartbeats 4000000 in
theorem s_100_l {sc : List Int32} {e : Int} {d u P Q : Nat} {c : ME} {a1 : Int} {a2 : Int} {Z : AR → Prop} (hI : Iv u e P Q c) (ha1 : (-2147483648) ≤ a1 ∧ a1 ≤ 2147483647) (ha2 : (-2147483648) ≤ a2 ∧ a2 ≤ 2147483647) (T101 : ∀ c2 : ME, Iv u e P Q c2 → (∀ (a : Nat) (j : Int), ¬ ((a = 0 ∧ j = 13)) → c2 a j = c a j) → Z (.inr 101, Wd P Q P P c2, 1, 6)) (K : ∀ (c2 : ME) (y : Int), Iv u e P Q c2 → (∀ (a : Nat) (j : Int), ¬ ((a = 0 ∧ j = 13)) → c2 a j = c a j) → (-2147483648) ≤ y ∧ y ≤ 2147483647 → Z (.inl (some (vi y)), Wd P Q P P c2, 0, 0)) : ∀ n : Nat, (∀ (c2 : ME) (v3 : Int) (v4 : Int) (v5 : Int) (v6 : Int), Iv u e P Q c2 → (∀ (a : Nat) (j : Int), ¬ ((a = 0 ∧ j = 13)) → c2 a j = c a j) → (-2147483648) ≤ v3 ∧ v3 ≤ 2147483647 → (-1) ≤ v4 ∧ v4 ≤ 5 → 0 ≤ v5 ∧ v5 ≤ 9999 → 0 ≤ v6 ∧ v6 ≤ 6 → ((a1 ≥ 0 ∧ a1 ≤ 3)) → 13 - 2 * v6 < (n : Int) → Wp sc (d + 8) 100 38 [(0, .ref 0), (1, vi a1), (2, vi a2), (3, vi v3), (4, vi v4), (5, vi v5), (6, vi v6)] [] (Wd P Q P P c2) 0 0 Z) := by
  intro n
  induction n with
  | zero => exact (by intro c2 v3 v4 v5 v6 hI2 hF hv3 hv4 hv5 hv6 hx0 hm9; have hP := iv_P hI; have hQ := iv_Q hI; exfalso; omega)
  | succ n ih =>
    have hP := iv_P hI
    have hQ := iv_Q hI
    intro c2 v3 v4 v5 v6 hI2 hF hv3 hv4 hv5 hv6 hx0 hm9
    refine q_iload c_100_38 rfl (q_aload_n c_100_40 rfl (v_gr (t := P) c_100_41 kf_7_50 rfl (nb_ rfl) rfl ?_))
    have h_1 := ir_p0_0 hI hP
    have kn_2 : Hid (c2 P 0 = c P 0) := hF P 0 (fun h => absurd h.1 (np0 hP rfl))
    refine v_gi (z := 0) (v := c P 0) c_100_44 kf_7_102 (ck_p0 hP) (a68z hP) rfl rfl (hid kn_2) ?_
    by_cases h_3 : v6 ≥ c P 0
    · refine v_ic_ge_t (t := 88) c_100_47 rfl ⟨by first | exact q_730ab5169 h_1 | omega, h_3, (Int.le_trans hv6.2 (by decide))⟩ (q_iload_n c_100_88 rfl ?_)
      by_cases h_4 : a2 ≠ 0
      · refine v_if_ne_t (t := 96) c_100_89 rfl ⟨h_4, ⟨ha2.1, ha2.2⟩, by decide, by decide⟩ (q_iload c_100_96 rfl (q_iret c_100_98 rfl ?_))
        exact K c2 v4 hI2 (fun a j hm => hF a j hm) ⟨(Int.le_trans (by decide) hv4.1), (Int.le_trans hv4.2 (by decide))⟩
      · refine v_if_ne_f (t := 96) c_100_89 rfl (Decidable.not_not.mp h_4) (q_iload_n c_100_92 rfl (q_goto (t := 98) c_100_93 rfl (q_iret c_100_98 rfl ?_)))
        exact K c2 v3 hI2 (fun a j hm => hF a j hm) hv3
    · refine v_ic_ge_f (t := 88) c_100_47 rfl ⟨(Int.le_trans (by decide) hv6.1), (Int.not_le.mp h_3), by first | exact q_b289b7db2 h_1 | omega⟩ (q_aload_n c_100_50 rfl (v_gr (t := 37) c_100_51 kf_7_62 rfl (nb_ rfl) rfl (q_iload c_100_54 rfl (q_iload_n c_100_56 rfl ?_))))
      have h_5 := ir_38_g hI (j := a1 + 4 * v6) (by omega)
      have kn_6 : Hid (c2 38 (a1 + 4 * v6) = c 38 (a1 + 4 * v6)) := hF 38 (a1 + 4 * v6) (fun h => absurd h.1 (nn rfl))
      refine v_cv c_100_57 km_7_196 rfl rfl (nb_ rfl) ⟨⟨rfl, rfl⟩, nb_ rfl, rfl⟩ (nb_ rfl) (nb_ rfl) (s_45 (v1 := c 38 (a1 + 4 * v6)) (r := c 38 (a1 + 4 * v6)) (a1 := v6) (a2 := a1) hI2 (.inl ⟨rfl, rfl⟩) (show 0 ≤ v6 ∧ v6 ≤ 5 from ⟨hv6.1, by first | exact q_d63a8538e h_1 h_3 | omega⟩) (show 0 ≤ a1 ∧ a1 ≤ 3 from ⟨by omega, by omega⟩) ((congrArg (c2 38) (show 4 * v6 + a1 = a1 + 4 * v6 from by first | exact q_e870fe981 | omega)).trans (hid kn_6)) (by omega) (bk_inl (q_istore c_100_60 (nb_ rfl) (q_iload_n c_100_62 rfl (q_iload c_100_63 rfl (v_iadd (v := c 38 (a1 + 4 * v6) + v3) c_100_65 (by first | exact q_3c678d369 | omega) (v_nrm (fun y_7 hy_7 => (q_istore_n c_100_66 (nb_ rfl) ?_)))))))))
      refine q_iload c_100_67 rfl (q_iload c_100_69 rfl ?_)
      by_cases h_8 : c 38 (a1 + 4 * v6) ≤ v5
      · refine v_ic_le_t (t := 82) c_100_71 rfl ⟨by first | exact q_c4d6b60d6 h_5 | omega, h_8, (Int.le_trans hv5.2 (by decide))⟩ (v_iinc (v := v6 + 1) c_100_82 rfl (nb_ rfl) rfl (q_goto (t := 38) c_100_85 rfl (Wp_ls [(0, .ref 0), (1, vi a1), (2, vi a2), (3, vi y_7), (4, vi v4), (5, vi v5), (6, vi (v6 + 1))] (lsub_cons rfl (lsub_cons rfl (lsub_cons rfl (lsub_cons rfl (lsub_cons rfl (lsub_cons rfl (lsub_cons rfl lsub_nil))))))) ?_)))
        exact ih c2 y_7 v4 v5 (v6 + 1) hI2 (fun a j hm => hF a j hm) hy_7 hv4 hv5 ⟨by first | exact rgp_l hv6.1 (by decide) | omega, by first | exact q_4a76cd9c7 h_1 h_3 | omega⟩ ⟨by omega, by omega⟩ (by omega)
      · refine v_ic_le_f (t := 82) c_100_71 rfl ⟨(Int.le_trans (by decide) hv5.1), (Int.not_le.mp h_8), by first | exact q_838dca997 h_5 | omega⟩ (q_iload c_100_74 rfl (q_istore c_100_76 (nb_ rfl) (q_iload c_100_78 rfl (q_istore c_100_80 (nb_ rfl) (v_iinc (v := v6 + 1) c_100_82 rfl (nb_ rfl) rfl (Wp_ls [(6, vi (v6 + 1)), (4, vi v6), (5, vi (c 38 (a1 + 4 * v6))), (3, vi y_7), (7, vi (c 38 (a1 + 4 * v6))), (0, .ref 0), (1, vi a1), (2, vi a2)] (lsub_cons rfl (lsub_cons rfl (lsub_cons rfl (lsub_cons rfl (lsub_cons rfl (lsub_cons rfl (lsub_cons rfl (lsub_cons rfl lsub_nil)))))))) (q_goto (t := 38) c_100_85 rfl ?_)))))))
        refine Wp_ls [(0, .ref 0), (1, vi a1), (2, vi a2), (3, vi y_7), (4, vi v6), (5, vi (c 38 (a1 + 4 * v6))), (6, vi (v6 + 1))] (lsub_cons rfl (lsub_cons rfl (lsub_cons rfl (lsub_cons rfl (lsub_cons rfl (lsub_cons rfl (lsub_cons rfl lsub_nil))))))) ?_
        exact ih c2 y_7 v6 (c 38 (a1 + 4 * v6)) (v6 + 1) hI2 (fun a j hm => hF a j hm) hy_7 ⟨(Int.le_trans (by decide) hv6.1), by first | exact q_d63a8538e h_1 h_3 | omega⟩ ⟨by first | exact q_52c13326e h_8 hv5 | omega, by first | exact q_f52da7857 h_5 | omega⟩ ⟨by first | exact rgp_l hv6.1 (by decide) | omega, by first | exact q_4a76cd9c7 h_1 h_3 | omega⟩ ⟨by omega, by omega⟩ (by omega)
set_option maxRecDepth 100000 in
set_option maxHeartbeats 4000000 in
theorem s_100 {sc : List Int32} {e : Int} {d u P Q : Nat} {c : ME} {a1 : Int} {a2 : Int} {Z : AR → Prop} (hI : Iv u e P Q c) (ha1 : (-2147483648) ≤ a1 ∧ a1 ≤ 2147483647) (ha2 : (-2147483648) ≤ a2 ∧ a2 ≤ 2147483647) (T101 : ∀ c2 : ME, Iv u e P Q c2 → (∀ (a : Nat) (j : Int), ¬ ((a = 0 ∧ j = 13)) → c2 a j = c a j) → Z (.inr 101, Wd P Q P P c2, 1, 6)) (K : ∀ (c2 : ME) (y : Int), Iv u e P Q c2 → (∀ (a : Nat) (j : Int), ¬ ((a = 0 ∧ j = 13)) → c2 a j = c a j) → (-2147483648) ≤ y ∧ y ≤ 2147483647 → Z (.inl (some (vi y)), Wd P Q P P c2, 0, 0)) : Wp sc (d + 8) 100 0 [(0, .ref 0), (1, vi a1), (2, vi a2)] [] (Wd P Q P P c) 0 0 Z := by
  have hP := iv_P hI
  have hQ := iv_Q hI
  refine q_aload_n c_100_0 rfl (q_iload_n c_100_1 rfl (q_iconst c_100_2 (q_iconst c_100_3 (q_call c_100_4 rfl rfl rfl (q_iload_n c_80_0 rfl (q_iload_n c_80_1 rfl ?_))))))
  by_cases h_9 : a1 < 0
  · refine v_ic_lt_t (t := 14) c_80_2 rfl ⟨ha1.1, h_9, by decide⟩ (q_iconst c_80_14 (v_zret c_80_15 rfl (by decide) (bk_inl (v_if_eq_t (t := 23) c_100_7 rfl (by decide) (q_iconst c_100_23 (v_cv c_100_24 km_7_161 rfl rfl (nb_ rfl) ⟨⟨rfl, rfl⟩, nb_ rfl, rfl⟩ (nb_ rfl) (nb_ rfl) (q_iload_n c_81_0 rfl ?_)))))))
    refine v_if_ne_f (t := 25) c_81_1 rfl (by decide) (q_aload_n c_81_4 rfl (q_dup c_81_5 rfl ?_))
    have h_10 := ir_0_13 hI
    refine v_gi (z := 13) (v := c 0 13) c_81_6 kf_7_330 rfl (nb_ rfl) rfl rfl rfl (q_iconst c_81_9 (v_iadd (v := c 0 13 + 1) c_81_10 rfl (v_nrm (fun y_11 hy_11 => (v_pi (z := 13) c_81_11 kf_7_330 rfl (nb_ rfl) rfl rfl rfl (by decide) (v_new c_81_14 rfl (by decide) (ld_ rfl) (nb_ rfl) (by decide) rfl (bk_out rfl rfl ?_)))))))
    have hI_12 := iw_0_13 (v := y_11) hI ⟨hy_11.1, hy_11.2⟩
    exact T101 _ hI_12 (fun a j hm => up_b (Decidable.or_iff_not_imp_left.mpr (fun h1 h2 => hm ⟨Decidable.not_not.mp h1, h2⟩)))
  · refine v_ic_lt_f (t := 14) c_80_2 rfl ⟨by decide, (Int.not_lt.mp h_9), ha1.2⟩ (q_iload_n c_80_5 rfl (q_iload_n c_80_6 rfl ?_))
    by_cases h_13 : a1 > 3
    · refine v_ic_gt_t (t := 14) c_80_7 rfl ⟨by decide, h_13, ha1.2⟩ (q_iconst c_80_14 (v_zret c_80_15 rfl (by decide) (bk_inl (v_if_eq_t (t := 23) c_100_7 rfl (by decide) (q_iconst c_100_23 (v_cv c_100_24 km_7_161 rfl rfl (nb_ rfl) ⟨⟨rfl, rfl⟩, nb_ rfl, rfl⟩ (nb_ rfl) (nb_ rfl) (q_iload_n c_81_0 rfl ?_)))))))
      refine v_if_ne_f (t := 25) c_81_1 rfl (by decide) (q_aload_n c_81_4 rfl (q_dup c_81_5 rfl ?_))
      have h_14 := ir_0_13 hI
      refine v_gi (z := 13) (v := c 0 13) c_81_6 kf_7_330 rfl (nb_ rfl) rfl rfl rfl (q_iconst c_81_9 (v_iadd (v := c 0 13 + 1) c_81_10 rfl (v_nrm (fun y_15 hy_15 => (v_pi (z := 13) c_81_11 kf_7_330 rfl (nb_ rfl) rfl rfl rfl (by decide) (v_new c_81_14 rfl (by decide) (ld_ rfl) (nb_ rfl) (by decide) rfl (bk_out rfl rfl ?_)))))))
      have hI_16 := iw_0_13 (v := y_15) hI ⟨hy_15.1, hy_15.2⟩
      exact T101 _ hI_16 (fun a j hm => up_b (Decidable.or_iff_not_imp_left.mpr (fun h1 h2 => hm ⟨Decidable.not_not.mp h1, h2⟩)))
    · refine v_ic_gt_f (t := 14) c_80_7 rfl ⟨ha1.1, (Int.not_lt.mp h_13), by decide⟩ (q_iconst c_80_10 (q_goto (t := 15) c_80_11 rfl (v_zret c_80_15 rfl (by decide) (bk_inl (v_if_eq_f (t := 23) c_100_7 rfl (by decide) (q_iload_n c_100_10 rfl (q_iconst c_100_11 ?_)))))))
      refine q_iconst c_100_12 (q_call c_100_13 rfl rfl rfl (q_iload_n c_80_0 rfl (q_iload_n c_80_1 rfl ?_)))
      by_cases h_17 : a2 < 0
      · refine v_ic_lt_t (t := 14) c_80_2 rfl ⟨ha2.1, h_17, by decide⟩ (q_iconst c_80_14 (v_zret c_80_15 rfl (by decide) (bk_inl (v_if_eq_t (t := 23) c_100_16 rfl (by decide) (q_iconst c_100_23 (v_cv c_100_24 km_7_161 rfl rfl (nb_ rfl) ⟨⟨rfl, rfl⟩, nb_ rfl, rfl⟩ (nb_ rfl) (nb_ rfl) (q_iload_n c_81_0 rfl ?_)))))))
        refine v_if_ne_f (t := 25) c_81_1 rfl (by decide) (q_aload_n c_81_4 rfl (q_dup c_81_5 rfl ?_))
        have h_18 := ir_0_13 hI
        refine v_gi (z := 13) (v := c 0 13) c_81_6 kf_7_330 rfl (nb_ rfl) rfl rfl rfl (q_iconst c_81_9 (v_iadd (v := c 0 13 + 1) c_81_10 rfl (v_nrm (fun y_19 hy_19 => (v_pi (z := 13) c_81_11 kf_7_330 rfl (nb_ rfl) rfl rfl rfl (by decide) (v_new c_81_14 rfl (by decide) (ld_ rfl) (nb_ rfl) (by decide) rfl (bk_out rfl rfl ?_)))))))
        have hI_20 := iw_0_13 (v := y_19) hI ⟨hy_19.1, hy_19.2⟩
        exact T101 _ hI_20 (fun a j hm => up_b (Decidable.or_iff_not_imp_left.mpr (fun h1 h2 => hm ⟨Decidable.not_not.mp h1, h2⟩)))
      · refine v_ic_lt_f (t := 14) c_80_2 rfl ⟨by decide, (Int.not_lt.mp h_17), ha2.2⟩ (q_iload_n c_80_5 rfl (q_iload_n c_80_6 rfl ?_))
        by_cases h_21 : a2 > 1
        · refine v_ic_gt_t (t := 14) c_80_7 rfl ⟨by decide, h_21, ha2.2⟩ (q_iconst c_80_14 (v_zret c_80_15 rfl (by decide) (bk_inl (v_if_eq_t (t := 23) c_100_16 rfl (by decide) (q_iconst c_100_23 (v_cv c_100_24 km_7_161 rfl rfl (nb_ rfl) ⟨⟨rfl, rfl⟩, nb_ rfl, rfl⟩ (nb_ rfl) (nb_ rfl) (q_iload_n c_81_0 rfl ?_)))))))
          refine v_if_ne_f (t := 25) c_81_1 rfl (by decide) (q_aload_n c_81_4 rfl (q_dup c_81_5 rfl ?_))
          have h_22 := ir_0_13 hI
          refine v_gi (z := 13) (v := c 0 13) c_81_6 kf_7_330 rfl (nb_ rfl) rfl rfl rfl (q_iconst c_81_9 (v_iadd (v := c 0 13 + 1) c_81_10 rfl (v_nrm (fun y_23 hy_23 => (v_pi (z := 13) c_81_11 kf_7_330 rfl (nb_ rfl) rfl rfl rfl (by decide) (v_new c_81_14 rfl (by decide) (ld_ rfl) (nb_ rfl) (by decide) rfl (bk_out rfl rfl ?_)))))))
          have hI_24 := iw_0_13 (v := y_23) hI ⟨hy_23.1, hy_23.2⟩
          exact T101 _ hI_24 (fun a j hm => up_b (Decidable.or_iff_not_imp_left.mpr (fun h1 h2 => hm ⟨Decidable.not_not.mp h1, h2⟩)))
        · refine v_ic_gt_f (t := 14) c_80_7 rfl ⟨ha2.1, (Int.not_lt.mp h_21), by decide⟩ (q_iconst c_80_10 (q_goto (t := 15) c_80_11 rfl (v_zret c_80_15 rfl (by decide) (bk_inl (v_if_eq_f (t := 23) c_100_16 rfl (by decide) (q_iconst c_100_19 (q_goto (t := 24) c_100_20 rfl ?_)))))))
          refine v_cv c_100_24 km_7_161 rfl rfl (nb_ rfl) ⟨⟨rfl, rfl⟩, nb_ rfl, rfl⟩ (nb_ rfl) (nb_ rfl) (q_iload_n c_81_0 rfl (v_if_ne_t (t := 25) c_81_1 rfl (by decide) (q_vret rfl rfl (bk_inl (q_iconst c_100_27 (q_istore_n c_100_28 (nb_ rfl) (q_iconst c_100_29 ?_)))))))
          refine q_istore c_100_30 (nb_ rfl) (q_iconst c_100_32 (q_istore c_100_33 (nb_ rfl) (q_iconst c_100_35 (q_istore c_100_36 (nb_ rfl) (Wp_ls [(0, .ref 0), (1, vi a1), (2, vi a2), (3, vi 0), (4, vi (-1)), (5, vi 0), (6, vi 0)] (lsub_cons rfl (lsub_cons rfl (lsub_cons rfl (lsub_cons rfl (lsub_cons rfl (lsub_cons rfl (lsub_cons rfl lsub_nil))))))) ?_)))))
          exact (s_100_l (sc := sc) (d := d) hI ha1 ha2 T101 K 16) c 0 (-1) 0 0 hI (fun a j hm => rfl) ⟨by decide, by decide⟩ ⟨by decide, by decide⟩ ⟨by decide, by decide⟩ ⟨by decide, by decide⟩ ⟨by first | exact q_720657ba9 h_9 | omega, by first | exact q_eef7e887c h_13 | omega⟩ (by omega)

set_option maxRecDepth 100000 in
set_option maxHeartbeats 4000000 in
theorem s_101_l {sc : List Int32} {e : Int} {d u P Q : Nat} {c : ME} {Z : AR → Prop} (hI : Iv u e P Q c)  (K : ∀ (y : Int), (-2147483648) ≤ y ∧ y ≤ 2147483647 → Z (.inl (some (vi y)), Wd P Q P P c, 0, 0)) : ∀ n : Nat, (∀ (v1 : Int) (v2 : Int), (-2147483648) ≤ v1 ∧ v1 ≤ 2147483647 → 0 ≤ v2 ∧ v2 ≤ 6 → 13 - 2 * v2 < (n : Int) → Wp sc (d + 9) 101 4 [(0, .ref 0), (1, vi v1), (2, vi v2)] [] (Wd P Q P P c) 0 0 Z) := by
  intro n
  induction n with
  | zero => exact (by intro v1 v2 hv1 hv2 hm9; have hP := iv_P hI; have hQ := iv_Q hI; exfalso; omega)
  | succ n ih =>
    have hP := iv_P hI
    have hQ := iv_Q hI
    intro v1 v2 hv1 hv2 hm9
    refine q_iload_n c_101_4 rfl (q_aload_n c_101_5 rfl (v_gr (t := P) c_101_6 kf_7_50 rfl (nb_ rfl) rfl ?_))
    have h_1 := ir_p0_0 hI hP
    refine v_gi (z := 0) (v := c P 0) c_101_9 kf_7_102 (ck_p0 hP) (a68z hP) rfl rfl rfl ?_
    by_cases h_2 : v2 ≥ c P 0
    · refine v_ic_ge_t (t := 39) c_101_12 rfl ⟨(Int.le_trans (by decide) h_1.1), h_2, (Int.le_trans hv2.2 (by decide))⟩ (q_iload_n c_101_39 rfl (q_iret c_101_40 rfl ?_))
      exact K v1 hv1
    · refine v_ic_ge_f (t := 39) c_101_12 rfl ⟨(Int.le_trans (by decide) hv2.1), (Int.not_le.mp h_2), (Int.le_trans h_1.2 (by decide))⟩ (q_aload_n c_101_15 rfl (v_gr (t := 37) c_101_16 kf_7_62 rfl (nb_ rfl) rfl (q_iload_n c_101_19 rfl (v_cv c_101_20 km_7_215 rfl rfl (nb_ rfl) ⟨⟨rfl, rfl⟩, nb_ rfl, rfl⟩ (nb_ rfl) (nb_ rfl) (s_67 (a1 := v2) hI (.inl ⟨rfl, rfl⟩) (show 0 ≤ v2 ∧ v2 ≤ 5 from ⟨hv2.1, by first | exact q_d63a8538e h_1 h_2 | omega⟩) (fun y_3 hy_3 => (bk_inl (q_iconst c_101_23 ?_))))))))
      by_cases h_4 : y_3 ≠ 1
      · refine v_ic_ne_t (t := 33) c_101_24 rfl ⟨h_4, ⟨hy_3.1, hy_3.2⟩, by decide, by decide⟩ (v_iinc (v := v2 + 1) c_101_33 rfl (nb_ rfl) rfl (q_goto (t := 4) c_101_36 rfl (Wp_ls [(0, .ref 0), (1, vi v1), (2, vi (v2 + 1))] (lsub_cons rfl (lsub_cons rfl (lsub_cons rfl lsub_nil))) ?_)))
        exact ih v1 (v2 + 1) hv1 ⟨by first | exact rgp_l hv2.1 (by decide) | omega, by first | exact q_4a76cd9c7 h_1 h_2 | omega⟩ (by omega)
      · refine v_ic_ne_f (t := 33) c_101_24 rfl (Decidable.not_not.mp h_4) (q_iload_n c_101_27 rfl (q_iconst c_101_28 (q_iload_n c_101_29 rfl (v_shl1 c_101_30 ⟨by omega, by omega⟩ (fun y_5 hy_5 => (v_iorx c_101_31 (fun y_6 hy_6 => (q_istore_n c_101_32 (nb_ rfl) (v_iinc (v := v2 + 1) c_101_33 rfl (nb_ rfl) rfl ?_)))))))))
        refine q_goto (t := 4) c_101_36 rfl (Wp_ls [(0, .ref 0), (1, vi y_6), (2, vi (v2 + 1))] (lsub_cons rfl (lsub_cons rfl (lsub_cons rfl lsub_nil))) ?_)
        exact ih y_6 (v2 + 1) hy_6 ⟨by first | exact rgp_l hv2.1 (by decide) | omega, by first | exact q_4a76cd9c7 h_1 h_2 | omega⟩ (by omega)
set_option maxRecDepth 100000 in
set_option maxHeartbeats 4000000 in
theorem s_101 {sc : List Int32} {e : Int} {d u P Q : Nat} {c : ME} {Z : AR → Prop} (hI : Iv u e P Q c)  (K : ∀ (y : Int), (-2147483648) ≤ y ∧ y ≤ 2147483647 → Z (.inl (some (vi y)), Wd P Q P P c, 0, 0)) : Wp sc (d + 9) 101 0 [(0, .ref 0)] [] (Wd P Q P P c) 0 0 Z := by
  have hP := iv_P hI
  have hQ := iv_Q hI
  refine q_iconst c_101_0 (q_istore_n c_101_1 (nb_ rfl) (q_iconst c_101_2 (q_istore_n c_101_3 (nb_ rfl) (Wp_ls [(0, .ref 0), (1, vi 0), (2, vi 0)] (lsub_cons rfl (lsub_cons rfl (lsub_cons rfl lsub_nil))) ?_))))
  exact (s_101_l (sc := sc) (d := d) hI K 16) 0 0 ⟨by decide, by decide⟩ ⟨by decide, by decide⟩ (by omega)

set_option maxRecDepth 100000 in
set_option maxHeartbeats 4000000 in
theorem s_102_l {sc : List Int32} {e : Int} {d u P Q : Nat} {c : ME} {a1 : Int} {Z : AR → Prop} (hI : Iv u e P Q c) (ha1 : (-2147483648) ≤ a1 ∧ a1 ≤ 2147483647) (T100 : ∀ c2 : ME, Iv u e P Q c2 → (∀ (a : Nat) (j : Int), ¬ ((a = 0 ∧ j = 12)) → c2 a j = c a j) → Z (.inr 100, Wd P Q P P c2, 1, 6)) (K : ∀ (c2 : ME) (y : Int), Iv u e P Q c2 → (∀ (a : Nat) (j : Int), ¬ ((a = 0 ∧ j = 12)) → c2 a j = c a j) → (-2147483648) ≤ y ∧ y ≤ 2147483647 → Z (.inl (some (vi y)), Wd P Q P P c2, 0, 0)) : ∀ n : Nat, (∀ (c2 : ME) (v2 : Int) (v3 : Int) (v4 : Int), Iv u e P Q c2 → (∀ (a : Nat) (j : Int), ¬ ((a = 0 ∧ j = 12)) → c2 a j = c a j) → (-1) ≤ v2 ∧ v2 ≤ 5 → (-2147483648) ≤ v3 ∧ v3 ≤ 2147483647 → 0 ≤ v4 ∧ v4 ≤ 6 → ((a1 ≥ 0 ∧ a1 ≤ 5)) → 13 - 2 * v4 < (n : Int) → Wp sc (d + 9) 102 12 [(0, .ref 0), (1, vi a1), (2, vi v2), (3, vi v3), (4, vi v4)] [] (Wd P Q P P c2) 0 0 Z) := by
  intro n
  induction n with
  | zero => exact (by intro c2 v2 v3 v4 hI2 hF hv2 hv3 hv4 hx0 hm9; have hP := iv_P hI; have hQ := iv_Q hI; exfalso; omega)
  | succ n ih =>
    have hP := iv_P hI
    have hQ := iv_Q hI
    intro c2 v2 v3 v4 hI2 hF hv2 hv3 hv4 hx0 hm9
    refine q_iload c_102_12 rfl (q_aload_n c_102_14 rfl (v_gr (t := P) c_102_15 kf_7_50 rfl (nb_ rfl) rfl ?_))
    have h_1 := ir_p0_0 hI hP
    have kn_2 : Hid (c2 P 0 = c P 0) := hF P 0 (fun h => absurd h.1 (np0 hP rfl))
    refine v_gi (z := 0) (v := c P 0) c_102_18 kf_7_102 (ck_p0 hP) (a68z hP) rfl rfl (hid kn_2) ?_
    by_cases h_3 : v4 ≥ c P 0
    · refine v_ic_ge_t (t := 88) c_102_21 rfl ⟨by first | exact q_730ab5169 h_1 | omega, h_3, (Int.le_trans hv4.2 (by decide))⟩ (q_iload_n c_102_88 rfl (q_iret c_102_89 rfl ?_))
      exact K c2 v2 hI2 (fun a j hm => hF a j hm) ⟨(Int.le_trans (by decide) hv2.1), (Int.le_trans hv2.2 (by decide))⟩
    · refine v_ic_ge_f (t := 88) c_102_21 rfl ⟨(Int.le_trans (by decide) hv4.1), (Int.not_le.mp h_3), by first | exact q_b289b7db2 h_1 | omega⟩ (q_aload_n c_102_24 rfl (v_gr (t := 37) c_102_25 kf_7_62 rfl (nb_ rfl) rfl (q_iload c_102_28 rfl (v_cv c_102_30 km_7_193 rfl rfl (nb_ rfl) ⟨⟨rfl, rfl⟩, nb_ rfl, rfl⟩ (nb_ rfl) (nb_ rfl) (s_68 (a1 := v4) hI2 (.inl ⟨rfl, rfl⟩) (show 0 ≤ v4 ∧ v4 ≤ 5 from ⟨hv4.1, by first | exact q_d63a8538e h_1 h_3 | omega⟩) (fun y_4 hy_4 => (bk_inl (q_aload_n c_102_33 rfl (v_gr (t := 37) c_102_34 kf_7_62 rfl (nb_ rfl) rfl ?_)))))))))
      refine q_iload_n c_102_37 rfl (v_cv c_102_38 km_7_193 rfl rfl (nb_ rfl) ⟨⟨rfl, rfl⟩, nb_ rfl, rfl⟩ (nb_ rfl) (nb_ rfl) (s_68 (a1 := a1) hI2 (.inl ⟨rfl, rfl⟩) (show 0 ≤ a1 ∧ a1 ≤ 5 from ⟨by omega, by omega⟩) (fun y_5 hy_5 => (bk_inl (v_isub (v := y_4 - y_5) c_102_41 rfl (v_nrm (fun y_6 hy_6 => (v_absx c_102_42 rfl (by omega) (nb_ rfl) (fun y_7 hy_7 => (q_istore c_102_45 (nb_ rfl) (q_iload c_102_47 rfl ?_)))))))))))
      refine q_iload_n c_102_49 rfl ?_
      by_cases h_8 : v4 = a1
      · refine v_ic_eq_t (t := 82) c_102_50 rfl h_8 (v_iinc (v := v4 + 1) c_102_82 rfl (nb_ rfl) rfl (q_goto (t := 12) c_102_85 rfl (Wp_ls [(0, .ref 0), (1, vi a1), (2, vi v2), (3, vi v3), (4, vi (v4 + 1))] (lsub_cons rfl (lsub_cons rfl (lsub_cons rfl (lsub_cons rfl (lsub_cons rfl lsub_nil))))) ?_)))
        exact ih c2 v2 v3 (v4 + 1) hI2 (fun a j hm => hF a j hm) hv2 hv3 ⟨by first | exact rgp_l hv4.1 (by decide) | omega, by first | exact q_4a76cd9c7 h_1 h_3 | omega⟩ ⟨by omega, by omega⟩ (by omega)
      · refine v_ic_eq_f (t := 82) c_102_50 rfl ⟨h_8, ⟨(Int.le_trans (by decide) hv4.1), (Int.le_trans hv4.2 (by decide))⟩, ha1.1, ha1.2⟩ (q_aload_n c_102_53 rfl (v_gr (t := 37) c_102_54 kf_7_62 rfl (nb_ rfl) rfl (q_iload c_102_57 rfl ?_)))
        have h_9 := ir_38_g hI (j := 4 * v4) (by first | exact q_aa51b186e h_1 h_3 | omega)
        have kn_10 : Hid (c2 38 (4 * v4) = c 38 (4 * v4)) := hF 38 (4 * v4) (fun h => absurd h.1 (nn rfl))
        have h_11 := ir_38_g hI (j := 4 * v4 + 1) (by first | exact q_57851f9de h_1 h_3 | omega)
        have kn_12 : Hid (c2 38 (4 * v4 + 1) = c 38 (4 * v4 + 1)) := hF 38 (4 * v4 + 1) (fun h => absurd h.1 (nn rfl))
        have h_13 := ir_38_g hI (j := 4 * v4 + 2) (by first | exact q_7296e74e6 h_1 h_3 | omega)
        have kn_14 : Hid (c2 38 (4 * v4 + 2) = c 38 (4 * v4 + 2)) := hF 38 (4 * v4 + 2) (fun h => absurd h.1 (nn rfl))
        have h_15 := ir_38_g hI (j := 4 * v4 + 3) (by first | exact q_b15525c4c h_1 h_3 | omega)
        have kn_16 : Hid (c2 38 (4 * v4 + 3) = c 38 (4 * v4 + 3)) := hF 38 (4 * v4 + 3) (fun h => absurd h.1 (nn rfl))
        refine v_cv c_102_59 km_7_187 rfl rfl (nb_ rfl) ⟨⟨rfl, rfl⟩, nb_ rfl, rfl⟩ (nb_ rfl) (nb_ rfl) (s_43 (v1 := c 38 (4 * v4)) (v2 := c 38 (4 * v4 + 1)) (v3 := c 38 (4 * v4 + 2)) (v4 := c 38 (4 * v4 + 3)) (r := c 38 (4 * v4 + 1) + c 38 (4 * v4 + 2) + c 38 (4 * v4 + 3) + c 38 (4 * v4)) (a1 := v4) hI2 (.inl ⟨rfl, rfl⟩) (show 0 ≤ v4 ∧ v4 ≤ 5 from ⟨hv4.1, by first | exact q_d63a8538e h_1 h_3 | omega⟩) ((hid kn_10)) ((hid kn_12)) ((hid kn_14)) ((hid kn_16)) (by omega) (bk_inl ?_))
        by_cases h_17 : c 38 (4 * v4 + 1) + c 38 (4 * v4 + 2) + c 38 (4 * v4 + 3) + c 38 (4 * v4) ≤ 0
        · refine v_if_le_t (t := 82) c_102_62 rfl ⟨by first | exact q_8c4697e7c h_11 h_13 h_15 h_9 | omega, h_17, by decide⟩ (v_iinc (v := v4 + 1) c_102_82 rfl (nb_ rfl) rfl (q_goto (t := 12) c_102_85 rfl (Wp_ls [(0, .ref 0), (1, vi a1), (2, vi v2), (3, vi v3), (4, vi (v4 + 1))] (lsub_cons rfl (lsub_cons rfl (lsub_cons rfl (lsub_cons rfl (lsub_cons rfl lsub_nil))))) ?_)))
          exact ih c2 v2 v3 (v4 + 1) hI2 (fun a j hm => hF a j hm) hv2 hv3 ⟨by first | exact rgp_l hv4.1 (by decide) | omega, by first | exact q_4a76cd9c7 h_1 h_3 | omega⟩ ⟨by first | (clear ha1 hv2 hv3 hv4 h_1 h_3 h_9 h_11 h_13 h_15 h_17 h_8; omega) | omega, by first | (clear ha1 hv2 hv3 hv4 h_1 h_3 h_9 h_11 h_13 h_15 h_17 h_8; omega) | omega⟩ (by omega)
        · refine v_if_le_f (t := 82) c_102_62 rfl ⟨by decide, (Int.not_le.mp h_17), by first | exact q_46d991406 h_11 h_13 h_15 h_9 | omega⟩ (q_iload_n c_102_65 rfl (q_iconst c_102_66 ?_))
          by_cases h_18 : v2 = (-1)
          · refine v_ic_eq_t (t := 76) c_102_67 rfl h_18 (q_iload c_102_76 rfl (q_istore_n c_102_78 (nb_ rfl) (q_iload c_102_79 rfl (q_istore_n c_102_81 (nb_ rfl) (v_iinc (v := v4 + 1) c_102_82 rfl (nb_ rfl) rfl (q_goto (t := 12) c_102_85 rfl (Wp_ls [(0, .ref 0), (1, vi a1), (2, vi v4), (3, vi y_7), (4, vi (v4 + 1))] (lsub_cons rfl (lsub_cons rfl (lsub_cons rfl (lsub_cons rfl (lsub_cons rfl lsub_nil))))) ?_)))))))
            exact ih c2 v4 y_7 (v4 + 1) hI2 (fun a j hm => hF a j hm) ⟨(Int.le_trans (by decide) hv4.1), by first | exact q_d63a8538e h_1 h_3 | omega⟩ hy_7 ⟨by first | exact rgp_l hv4.1 (by decide) | omega, by first | exact q_4a76cd9c7 h_1 h_3 | omega⟩ ⟨by first | (clear ha1 hv2 hv3 hv4 h_1 h_3 h_9 h_11 h_13 h_15 h_17 h_18 h_8; omega) | omega, by first | (clear ha1 hv2 hv3 hv4 h_1 h_3 h_9 h_11 h_13 h_15 h_17 h_18 h_8; omega) | omega⟩ (by omega)
          · refine v_ic_eq_f (t := 76) c_102_67 rfl ⟨h_18, ⟨(Int.le_trans (by decide) hv2.1), (Int.le_trans hv2.2 (by decide))⟩, by decide, by decide⟩ (q_iload c_102_70 rfl (q_iload_n c_102_72 rfl ?_))
            by_cases h_19 : y_7 ≥ v3
            · refine v_ic_ge_t (t := 82) c_102_73 rfl ⟨hv3.1, h_19, hy_7.2⟩ (v_iinc (v := v4 + 1) c_102_82 rfl (nb_ rfl) rfl (q_goto (t := 12) c_102_85 rfl (Wp_ls [(0, .ref 0), (1, vi a1), (2, vi v2), (3, vi v3), (4, vi (v4 + 1))] (lsub_cons rfl (lsub_cons rfl (lsub_cons rfl (lsub_cons rfl (lsub_cons rfl lsub_nil))))) ?_)))
              exact ih c2 v2 v3 (v4 + 1) hI2 (fun a j hm => hF a j hm) hv2 hv3 ⟨by first | exact rgp_l hv4.1 (by decide) | omega, by first | exact q_4a76cd9c7 h_1 h_3 | omega⟩ ⟨by first | (clear ha1 hv2 hv3 hv4 h_1 h_3 h_9 h_11 h_13 h_15 h_17 h_19 h_8 h_18; omega) | omega, by first | (clear ha1 hv2 hv3 hv4 h_1 h_3 h_9 h_11 h_13 h_15 h_17 h_19 h_8 h_18; omega) | omega⟩ (by omega)
            · refine v_ic_ge_f (t := 82) c_102_73 rfl ⟨hy_7.1, (Int.not_le.mp h_19), hv3.2⟩ (q_iload c_102_76 rfl (q_istore_n c_102_78 (nb_ rfl) (q_iload c_102_79 rfl (q_istore_n c_102_81 (nb_ rfl) (v_iinc (v := v4 + 1) c_102_82 rfl (nb_ rfl) rfl (q_goto (t := 12) c_102_85 rfl (Wp_ls [(0, .ref 0), (1, vi a1), (2, vi v4), (3, vi y_7), (4, vi (v4 + 1))] (lsub_cons rfl (lsub_cons rfl (lsub_cons rfl (lsub_cons rfl (lsub_cons rfl lsub_nil))))) ?_)))))))
              exact ih c2 v4 y_7 (v4 + 1) hI2 (fun a j hm => hF a j hm) ⟨(Int.le_trans (by decide) hv4.1), by first | exact q_d63a8538e h_1 h_3 | omega⟩ hy_7 ⟨by first | exact rgp_l hv4.1 (by decide) | omega, by first | exact q_4a76cd9c7 h_1 h_3 | omega⟩ ⟨by first | (clear ha1 hv2 hv3 hv4 h_1 h_3 h_9 h_11 h_13 h_15 h_17 h_19 h_8 h_18; omega) | omega, by first | (clear ha1 hv2 hv3 hv4 h_1 h_3 h_9 h_11 h_13 h_15 h_17 h_19 h_8 h_18; omega) | omega⟩ (by omega)
set_option maxRecDepth 100000 in
set_option maxHeartbeats 4000000 in
theorem s_102 {sc : List Int32} {e : Int} {d u P Q : Nat} {c : ME} {a1 : Int} {Z : AR → Prop} (hI : Iv u e P Q c) (ha1 : (-2147483648) ≤ a1 ∧ a1 ≤ 2147483647) (T100 : ∀ c2 : ME, Iv u e P Q c2 → (∀ (a : Nat) (j : Int), ¬ ((a = 0 ∧ j = 12)) → c2 a j = c a j) → Z (.inr 100, Wd P Q P P c2, 1, 6)) (K : ∀ (c2 : ME) (y : Int), Iv u e P Q c2 → (∀ (a : Nat) (j : Int), ¬ ((a = 0 ∧ j = 12)) → c2 a j = c a j) → (-2147483648) ≤ y ∧ y ≤ 2147483647 → Z (.inl (some (vi y)), Wd P Q P P c2, 0, 0)) : Wp sc (d + 9) 102 0 [(0, .ref 0), (1, vi a1)] [] (Wd P Q P P c) 0 0 Z := by
  have hP := iv_P hI
  have hQ := iv_Q hI
  refine q_aload_n c_102_0 rfl (q_iload_n c_102_1 rfl (v_cv c_102_2 km_7_184 rfl rfl (nb_ rfl) ⟨⟨rfl, rfl⟩, nb_ rfl, rfl⟩ (nb_ rfl) (nb_ rfl) (q_aload_n c_92_0 rfl (q_iload_n c_92_1 rfl (q_iconst c_92_2 (q_aload_n c_92_3 rfl (v_gr (t := P) c_92_4 kf_7_50 rfl (nb_ rfl) rfl ?_)))))))
  have h_20 := ir_p0_0 hI hP
  refine v_gi (z := 0) (v := c P 0) c_92_7 kf_7_102 (ck_p0 hP) (a68z hP) rfl rfl rfl (q_iconst c_92_10 (v_isub (v := c P 0 - 1) c_92_11 rfl (q_call c_92_12 rfl rfl rfl (q_iload_n c_80_0 rfl (q_iload_n c_80_1 rfl ?_)))))
  by_cases h_21 : a1 < 0
  · refine v_ic_lt_t (t := 14) c_80_2 rfl ⟨ha1.1, h_21, by decide⟩ (q_iconst c_80_14 (v_zret c_80_15 rfl (by decide) (bk_inl (v_cv c_92_15 km_7_333 rfl rfl (nb_ rfl) ⟨⟨rfl, rfl⟩, nb_ rfl, rfl⟩ (nb_ rfl) (nb_ rfl) (q_iload_n c_91_0 rfl (v_if_ne_f (t := 25) c_91_1 rfl (by decide) (q_aload_n c_91_4 rfl ?_)))))))
    refine q_dup c_91_5 rfl ?_
    have h_22 := ir_0_12 hI
    refine v_gi (z := 12) (v := c 0 12) c_91_6 kf_7_327 rfl (nb_ rfl) rfl rfl rfl (q_iconst c_91_9 (v_iadd (v := c 0 12 + 1) c_91_10 rfl (v_nrm (fun y_23 hy_23 => (v_pi (z := 12) c_91_11 kf_7_327 rfl (nb_ rfl) rfl rfl rfl (by decide) (v_new c_91_14 rfl (by decide) (ld_ rfl) (nb_ rfl) (by decide) rfl (bk_out rfl rfl (bk_out rfl rfl ?_))))))))
    have hI_24 := iw_0_12 (v := y_23) hI ⟨hy_23.1, hy_23.2⟩
    exact T100 _ hI_24 (fun a j hm => up_b (Decidable.or_iff_not_imp_left.mpr (fun h1 h2 => hm ⟨Decidable.not_not.mp h1, h2⟩)))
  · refine v_ic_lt_f (t := 14) c_80_2 rfl ⟨by decide, (Int.not_lt.mp h_21), ha1.2⟩ (q_iload_n c_80_5 rfl (q_iload_n c_80_6 rfl ?_))
    by_cases h_25 : a1 > c P 0 - 1
    · refine v_ic_gt_t (t := 14) c_80_7 rfl ⟨by first | exact rgm_l h_20.1 (by decide) | omega, h_25, ha1.2⟩ (q_iconst c_80_14 (v_zret c_80_15 rfl (by decide) (bk_inl (v_cv c_92_15 km_7_333 rfl rfl (nb_ rfl) ⟨⟨rfl, rfl⟩, nb_ rfl, rfl⟩ (nb_ rfl) (nb_ rfl) (q_iload_n c_91_0 rfl (v_if_ne_f (t := 25) c_91_1 rfl (by decide) (q_aload_n c_91_4 rfl ?_)))))))
      refine q_dup c_91_5 rfl ?_
      have h_26 := ir_0_12 hI
      refine v_gi (z := 12) (v := c 0 12) c_91_6 kf_7_327 rfl (nb_ rfl) rfl rfl rfl (q_iconst c_91_9 (v_iadd (v := c 0 12 + 1) c_91_10 rfl (v_nrm (fun y_27 hy_27 => (v_pi (z := 12) c_91_11 kf_7_327 rfl (nb_ rfl) rfl rfl rfl (by decide) (v_new c_91_14 rfl (by decide) (ld_ rfl) (nb_ rfl) (by decide) rfl (bk_out rfl rfl (bk_out rfl rfl ?_))))))))
      have hI_28 := iw_0_12 (v := y_27) hI ⟨hy_27.1, hy_27.2⟩
      exact T100 _ hI_28 (fun a j hm => up_b (Decidable.or_iff_not_imp_left.mpr (fun h1 h2 => hm ⟨Decidable.not_not.mp h1, h2⟩)))
    · refine v_ic_gt_f (t := 14) c_80_7 rfl ⟨ha1.1, (Int.not_lt.mp h_25), by first | exact rgm_h h_20.2 (by decide) | omega⟩ (q_iconst c_80_10 (q_goto (t := 15) c_80_11 rfl (v_zret c_80_15 rfl (by decide) (bk_inl (v_cv c_92_15 km_7_333 rfl rfl (nb_ rfl) ⟨⟨rfl, rfl⟩, nb_ rfl, rfl⟩ (nb_ rfl) (nb_ rfl) (q_iload_n c_91_0 rfl (v_if_ne_t (t := 25) c_91_1 rfl (by decide) ?_)))))))
      refine q_vret rfl rfl (bk_inl (q_vret rfl rfl (bk_inl (q_iconst c_102_5 (q_istore_n c_102_6 (nb_ rfl) (q_iconst c_102_7 (q_istore_n c_102_8 (nb_ rfl) ?_)))))))
      refine q_iconst c_102_9 (q_istore c_102_10 (nb_ rfl) (Wp_ls [(0, .ref 0), (1, vi a1), (2, vi (-1)), (3, vi 0), (4, vi 0)] (lsub_cons rfl (lsub_cons rfl (lsub_cons rfl (lsub_cons rfl (lsub_cons rfl lsub_nil))))) ?_))
      exact (s_102_l (sc := sc) (d := d) hI ha1 T100 K 16) c (-1) 0 0 hI (fun a j hm => rfl) ⟨by decide, by decide⟩ ⟨by decide, by decide⟩ ⟨by decide, by decide⟩ ⟨by first | exact q_720657ba9 h_21 | omega, by first | exact q_3a2e67ab0 h_20 h_25 | omega⟩ (by omega)

set_option maxRecDepth 100000 in
set_option maxHeartbeats 4000000 in
theorem s_103 {sc : List Int32} {e : Int} {d u P Q : Nat} {c : ME} {a1 : Int} {Z : AR → Prop} (hI : Iv u e P Q c) (ha1 : (-2147483648) ≤ a1 ∧ a1 ≤ 2147483647) (T100 : ∀ c2 : ME, Iv u e P Q c2 → (∀ (a : Nat) (j : Int), ¬ ((a = 0 ∧ j = 12) ∨ a = (P + 10) ∨ a = (P + 11)) → c2 a j = c a j) → Z (.inr 100, Wd P Q P P c2, 1, 6)) (K : ∀ (c2 : ME) (y : Int), Iv u e P Q c2 → (∀ (a : Nat) (j : Int), ¬ ((a = 0 ∧ j = 12) ∨ a = (P + 10) ∨ a = (P + 11)) → c2 a j = c a j) → (-2147483648) ≤ y ∧ y ≤ 2147483647 → Z (.inl (some (vi y)), Wd P Q P P c2, 0, 0)) : Wp sc (d + 10) 103 0 [(0, .ref 0), (1, vi a1)] [] (Wd P Q P P c) 0 0 Z := by
  have hP := iv_P hI
  have hQ := iv_Q hI
  refine q_aload_n c_103_0 rfl (q_iload_n c_103_1 rfl (v_cv c_103_2 km_7_184 rfl rfl (nb_ rfl) ⟨⟨rfl, rfl⟩, nb_ rfl, rfl⟩ (nb_ rfl) (nb_ rfl) (q_aload_n c_92_0 rfl (q_iload_n c_92_1 rfl (q_iconst c_92_2 (q_aload_n c_92_3 rfl (v_gr (t := P) c_92_4 kf_7_50 rfl (nb_ rfl) rfl ?_)))))))
  have h_1 := ir_p0_0 hI hP
  refine v_gi (z := 0) (v := c P 0) c_92_7 kf_7_102 (ck_p0 hP) (a68z hP) rfl rfl rfl (q_iconst c_92_10 (v_isub (v := c P 0 - 1) c_92_11 rfl (q_call c_92_12 rfl rfl rfl (q_iload_n c_80_0 rfl (q_iload_n c_80_1 rfl ?_)))))
  by_cases h_2 : a1 < 0
  · refine v_ic_lt_t (t := 14) c_80_2 rfl ⟨ha1.1, h_2, by decide⟩ (q_iconst c_80_14 (v_zret c_80_15 rfl (by decide) (bk_inl (v_cv c_92_15 km_7_333 rfl rfl (nb_ rfl) ⟨⟨rfl, rfl⟩, nb_ rfl, rfl⟩ (nb_ rfl) (nb_ rfl) (q_iload_n c_91_0 rfl (v_if_ne_f (t := 25) c_91_1 rfl (by decide) (q_aload_n c_91_4 rfl ?_)))))))
    refine q_dup c_91_5 rfl ?_
    have h_3 := ir_0_12 hI
    refine v_gi (z := 12) (v := c 0 12) c_91_6 kf_7_327 rfl (nb_ rfl) rfl rfl rfl (q_iconst c_91_9 (v_iadd (v := c 0 12 + 1) c_91_10 rfl (v_nrm (fun y_4 hy_4 => (v_pi (z := 12) c_91_11 kf_7_327 rfl (nb_ rfl) rfl rfl rfl (by decide) (v_new c_91_14 rfl (by decide) (ld_ rfl) (nb_ rfl) (by decide) rfl (bk_out rfl rfl (bk_out rfl rfl ?_))))))))
    have hI_5 := iw_0_12 (v := y_4) hI ⟨hy_4.1, hy_4.2⟩
    exact T100 _ hI_5 (fun a j hm => up_b (Decidable.or_iff_not_imp_left.mpr (fun h1 h2 => hm (Or.inl ⟨Decidable.not_not.mp h1, h2⟩))))
  · refine v_ic_lt_f (t := 14) c_80_2 rfl ⟨by decide, (Int.not_lt.mp h_2), ha1.2⟩ (q_iload_n c_80_5 rfl (q_iload_n c_80_6 rfl ?_))
    by_cases h_6 : a1 > c P 0 - 1
    · refine v_ic_gt_t (t := 14) c_80_7 rfl ⟨by first | exact rgm_l h_1.1 (by decide) | omega, h_6, ha1.2⟩ (q_iconst c_80_14 (v_zret c_80_15 rfl (by decide) (bk_inl (v_cv c_92_15 km_7_333 rfl rfl (nb_ rfl) ⟨⟨rfl, rfl⟩, nb_ rfl, rfl⟩ (nb_ rfl) (nb_ rfl) (q_iload_n c_91_0 rfl (v_if_ne_f (t := 25) c_91_1 rfl (by decide) (q_aload_n c_91_4 rfl ?_)))))))
      refine q_dup c_91_5 rfl ?_
      have h_7 := ir_0_12 hI
      refine v_gi (z := 12) (v := c 0 12) c_91_6 kf_7_327 rfl (nb_ rfl) rfl rfl rfl (q_iconst c_91_9 (v_iadd (v := c 0 12 + 1) c_91_10 rfl (v_nrm (fun y_8 hy_8 => (v_pi (z := 12) c_91_11 kf_7_327 rfl (nb_ rfl) rfl rfl rfl (by decide) (v_new c_91_14 rfl (by decide) (ld_ rfl) (nb_ rfl) (by decide) rfl (bk_out rfl rfl (bk_out rfl rfl ?_))))))))
      have hI_9 := iw_0_12 (v := y_8) hI ⟨hy_8.1, hy_8.2⟩
      exact T100 _ hI_9 (fun a j hm => up_b (Decidable.or_iff_not_imp_left.mpr (fun h1 h2 => hm (Or.inl ⟨Decidable.not_not.mp h1, h2⟩))))
    · refine v_ic_gt_f (t := 14) c_80_7 rfl ⟨ha1.1, (Int.not_lt.mp h_6), by first | exact rgm_h h_1.2 (by decide) | omega⟩ (q_iconst c_80_10 (q_goto (t := 15) c_80_11 rfl (v_zret c_80_15 rfl (by decide) (bk_inl (v_cv c_92_15 km_7_333 rfl rfl (nb_ rfl) ⟨⟨rfl, rfl⟩, nb_ rfl, rfl⟩ (nb_ rfl) (nb_ rfl) (q_iload_n c_91_0 rfl (v_if_ne_t (t := 25) c_91_1 rfl (by decide) ?_)))))))
      refine q_vret rfl rfl (bk_inl (q_vret rfl rfl (bk_inl (q_aload_n c_103_5 rfl (v_gr (t := 37) c_103_6 kf_7_62 rfl (nb_ rfl) rfl (q_iload_n c_103_9 rfl (v_cv c_103_10 km_7_223 rfl rfl (nb_ rfl) ⟨⟨rfl, rfl⟩, nb_ rfl, rfl⟩ (nb_ rfl) (nb_ rfl) (s_56 (a1 := a1) hI (.inl ⟨rfl, rfl⟩) (show 0 ≤ a1 ∧ a1 ≤ 5 from ⟨by first | exact q_720657ba9 h_2 | omega, by first | exact q_3a2e67ab0 h_1 h_6 | omega⟩) (fun c_10 y_13 hI_11 hF_12 hy_13 => ?_)))))))))
      refine bk_inl (q_iret c_103_13 rfl ?_)
      exact K c_10 y_13 hI_11 (fun a j hm => hF_12 a j (qv_0ad0c61ad hm)) ⟨(Int.le_trans (by decide) hy_13.1), (Int.le_trans hy_13.2 (by decide))⟩
end
section
/-! ===== contracts 8 ===== -/
theorem q_72f86bfab {x0 : Int} (f0 : ¬ (x0 > 9999)) : x0 ≤ 9999 := by omega
theorem qv_3032f6718 {P : Nat} {a : Nat} {j : Int} (hm : ¬ ((a = 0 ∧ j = 13) ∨ a = (P + 10) ∨ a = (P + 11))) : ¬ (a = (P + 10) ∨ a = (P + 11)) := (fun q => q.elim (fun h => hm (Or.inr (Or.inl h))) (fun h => hm (Or.inr (Or.inr h))))
theorem qn_ab81a8ac9 {P : Nat} {j : Int} (hP : P = 13 ∨ P = 25) : ¬ ((P = 0 ∧ j = 13) ∨ P = (P + 10) ∨ P = (P + 11)) := (fun q => q.elim (fun h => absurd h.1 (np0 hP rfl)) (fun q => q.elim (fun h => absurd h (p0p rfl)) (fun h => absurd h (p0p rfl))))
theorem qn_5876f74f1 {P : Nat} {j : Int} (hP : P = 13 ∨ P = 25) : ¬ (((38 : Nat) = 0 ∧ j = 13) ∨ (38 : Nat) = (P + 10) ∨ (38 : Nat) = (P + 11)) := (fun q => q.elim (fun h => absurd h.1 (nn rfl)) (fun q => q.elim (fun h => absurd h (pn hP rfl rfl)) (fun h => absurd h (pn hP rfl rfl))))
theorem qn_4bb47e378 {P : Nat} (hP : P = 13 ∨ P = 25) : ¬ ((38 : Nat) = (P + 10) ∨ (38 : Nat) = (P + 11)) := (fun q => q.elim (fun h => absurd h (pn hP rfl rfl)) (fun h => absurd h (pn hP rfl rfl)))
theorem qv_da6bc483e {P : Nat} {a : Nat} {j : Int} (hm : ¬ ((a = 0 ∧ j = 12) ∨ a = (P + 10) ∨ a = (P + 11) ∨ a = 40)) : ¬ (a = (P + 10) ∨ a = (P + 11)) := (fun q => q.elim (fun h => hm (Or.inr (Or.inl h))) (fun h => hm (Or.inr (Or.inr (Or.inl h)))))
theorem q_1eecf77db {x0 : Int} (f0 : ¬ (x0 > 99)) : x0 + 1 ≤ 100 := by omega
theorem q_e0f71dbae {x0 x1 x2 : Int} (f0 : 0 ≤ x0 ∧ x0 ≤ 6) (f1 : ¬ (x1 > x0 - 1)) (f2 : ¬ (x2 > 4)) (f3 : x2 ≠ 4) : 4 * x1 + x2 < 24 := by omega
theorem q_adb162ac9 {x0 : Int} (f0 : ¬ (x0 > 4)) (f1 : x0 ≠ 4) : x0 ≤ 3 := by omega
theorem q_888803a02 {x0 x1 : Int} : x0 - (x1) = x0 - x1 := by omega
theorem q_fda856264 {x0 x1 : Int} (f0 : 0 ≤ x0 ∧ x0 ≤ x1) : (-2147483648) ≤ x0 := by omega
theorem q_4bf067e8d {x0 x1 : Int} (f0 : 0 ≤ x0 ∧ x0 ≤ 9999) (f1 : 0 ≤ x1 ∧ x1 ≤ x0) : x1 ≤ 2147483647 := by omega
theorem q_c0b7ed1c9 {x0 x1 x2 x3 x4 x5 x6 x7 : Int} (f0 : 0 ≤ x0 ∧ x0 ≤ x1) (f1 : 0 ≤ x2 ∧ x2 ≤ x3) (f2 : 0 ≤ x4 ∧ x4 ≤ x5) (f3 : 0 ≤ x6 ∧ x6 ≤ x7) : (-2147483648) ≤ x0 + x2 + x4 + x6 := by omega
theorem q_c7a0dd24d {x0 x1 x2 x3 x4 x5 x6 x7 : Int} (f0 : 0 ≤ x0 ∧ x0 ≤ 9999) (f1 : 0 ≤ x1 ∧ x1 ≤ 9999) (f2 : 0 ≤ x2 ∧ x2 ≤ 9999) (f3 : 0 ≤ x3 ∧ x3 ≤ 9999) (f4 : 0 ≤ x4 ∧ x4 ≤ x0) (f5 : 0 ≤ x5 ∧ x5 ≤ x1) (f6 : 0 ≤ x6 ∧ x6 ≤ x2) (f7 : 0 ≤ x7 ∧ x7 ≤ x3) : x4 + x5 + x6 + x7 ≤ 2147483647 := by omega
theorem q_39694b04c {x0 x1 : Int} (f0 : ¬ (x0 > x1 - 1)) (f1 : 0 ≤ x1 ∧ x1 ≤ 6) : 4 * x0 < 24 := by omega
theorem q_daba94bfb {x0 x1 : Int} (f0 : ¬ (x0 > x1 - 1)) (f1 : 0 ≤ x1 ∧ x1 ≤ 6) : 4 * x0 + 1 < 24 := by omega
theorem q_c56a483ea {x0 x1 : Int} (f0 : ¬ (x0 > x1 - 1)) (f1 : 0 ≤ x1 ∧ x1 ≤ 6) : 4 * x0 + 2 < 24 := by omega
theorem q_bd71cc491 {x0 x1 : Int} (f0 : ¬ (x0 > x1 - 1)) (f1 : 0 ≤ x1 ∧ x1 ≤ 6) : 4 * x0 + 3 < 24 := by omega
theorem q_2aee6eea3 {x0 x1 : Int} (f0 : ¬ (x0 > x1 - 1)) (f1 : 0 ≤ x1 ∧ x1 ≤ 6) : x0 ≤ 5 := by omega
theorem q_a579d0053 {x0 x1 : Int} (f0 : 0 ≤ x0 ∧ x0 ≤ 9999) (f1 : 0 ≤ x1 ∧ x1 ≤ x0) : x1 ≤ 9999 := by omega
theorem c_104_0 : mLk 104 0 = some (.aload_n 0, 1) := rfl
theorem c_104_1 : mLk 104 1 = some (.iload_n 1, 1) := rfl
theorem c_104_2 : mLk 104 2 = some (.iconst 0, 1) := rfl
theorem c_104_3 : mLk 104 3 = some (.sipush 9999, 3) := rfl
theorem c_104_6 : mLk 104 6 = some (.invokestatic 157, 3) := rfl
theorem c_104_9 : mLk 104 9 = some (.ifCond .eq 75, 3) := rfl
theorem c_104_84 : mLk 104 84 = some (.iconst 0, 1) := rfl
theorem c_104_85 : mLk 104 85 = some (.invokevirtual 161, 3) := rfl
theorem c_104_12 : mLk 104 12 = some (.iload_n 2, 1) := rfl
theorem c_104_13 : mLk 104 13 = some (.iconst 0, 1) := rfl
theorem c_104_14 : mLk 104 14 = some (.sipush 9999, 3) := rfl
theorem c_104_17 : mLk 104 17 = some (.invokestatic 157, 3) := rfl
theorem c_104_20 : mLk 104 20 = some (.ifCond .eq 64, 3) := rfl
theorem c_104_23 : mLk 104 23 = some (.iload_n 3, 1) := rfl
theorem c_104_24 : mLk 104 24 = some (.iconst 0, 1) := rfl
theorem c_104_25 : mLk 104 25 = some (.sipush 9999, 3) := rfl
theorem c_104_28 : mLk 104 28 = some (.invokestatic 157, 3) := rfl
theorem c_104_31 : mLk 104 31 = some (.ifCond .eq 53, 3) := rfl
theorem c_104_34 : mLk 104 34 = some (.iload 4, 2) := rfl
theorem c_104_36 : mLk 104 36 = some (.iconst 0, 1) := rfl
theorem c_104_37 : mLk 104 37 = some (.sipush 9999, 3) := rfl
theorem c_104_40 : mLk 104 40 = some (.invokestatic 157, 3) := rfl
theorem c_104_43 : mLk 104 43 = some (.ifCond .eq 41, 3) := rfl
theorem c_104_46 : mLk 104 46 = some (.iload 5, 2) := rfl
theorem c_104_48 : mLk 104 48 = some (.iconst 0, 1) := rfl
theorem c_104_49 : mLk 104 49 = some (.sipush 400, 3) := rfl
theorem c_104_52 : mLk 104 52 = some (.invokestatic 157, 3) := rfl
theorem c_104_55 : mLk 104 55 = some (.ifCond .eq 29, 3) := rfl
theorem c_104_58 : mLk 104 58 = some (.iload 6, 2) := rfl
theorem c_104_60 : mLk 104 60 = some (.iconst 0, 1) := rfl
theorem c_104_61 : mLk 104 61 = some (.sipush 400, 3) := rfl
theorem c_104_64 : mLk 104 64 = some (.invokestatic 157, 3) := rfl
theorem c_104_67 : mLk 104 67 = some (.ifCond .eq 17, 3) := rfl
theorem c_104_70 : mLk 104 70 = some (.iload 7, 2) := rfl
theorem c_104_72 : mLk 104 72 = some (.iconst 0, 1) := rfl
theorem c_104_73 : mLk 104 73 = some (.iconst 5, 1) := rfl
theorem c_104_74 : mLk 104 74 = some (.invokestatic 157, 3) := rfl
theorem c_104_77 : mLk 104 77 = some (.ifCond .eq 7, 3) := rfl
theorem c_104_80 : mLk 104 80 = some (.iconst 1, 1) := rfl
theorem c_104_81 : mLk 104 81 = some (.goto 4, 3) := rfl
theorem c_104_88 : mLk 104 88 = some (.aload_n 0, 1) := rfl
theorem c_104_89 : mLk 104 89 = some (.getfield 50, 3) := rfl
theorem c_104_92 : mLk 104 92 = some (.getfield 109, 3) := rfl
theorem c_104_95 : mLk 104 95 = some (.iload_n 1, 1) := rfl
theorem c_104_96 : mLk 104 96 = some (.iload_n 2, 1) := rfl
theorem c_104_97 : mLk 104 97 = some (.iload_n 3, 1) := rfl
theorem c_104_98 : mLk 104 98 = some (.iload 4, 2) := rfl
theorem c_104_100 : mLk 104 100 = some (.iload 5, 2) := rfl
theorem c_104_102 : mLk 104 102 = some (.iload 6, 2) := rfl
theorem c_104_104 : mLk 104 104 = some (.iload 7, 2) := rfl
theorem c_104_106 : mLk 104 106 = some (.invokevirtual 226, 3) := rfl
theorem c_104_109 : mLk 104 109 = some (.ireturn, 1) := rfl
theorem c_105_17 : mLk 105 17 = some (.iload 4, 2) := rfl
theorem c_105_19 : mLk 105 19 = some (.aload_n 0, 1) := rfl
theorem c_105_20 : mLk 105 20 = some (.getfield 50, 3) := rfl
theorem c_105_23 : mLk 105 23 = some (.getfield 102, 3) := rfl
theorem c_105_26 : mLk 105 26 = some (.if_icmp .ge 48, 3) := rfl
theorem c_105_74 : mLk 105 74 = some (.iload_n 1, 1) := rfl
theorem c_105_75 : mLk 105 75 = some (.ifCond .ne 7, 3) := rfl
theorem c_105_82 : mLk 105 82 = some (.iload_n 3, 1) := rfl
theorem c_105_83 : mLk 105 83 = some (.ireturn, 1) := rfl
theorem c_105_78 : mLk 105 78 = some (.iload_n 2, 1) := rfl
theorem c_105_79 : mLk 105 79 = some (.goto 4, 3) := rfl
theorem c_105_29 : mLk 105 29 = some (.aload_n 0, 1) := rfl
theorem c_105_30 : mLk 105 30 = some (.getfield 62, 3) := rfl
theorem c_105_33 : mLk 105 33 = some (.iload 4, 2) := rfl
theorem c_105_35 : mLk 105 35 = some (.invokevirtual 187, 3) := rfl
theorem c_105_38 : mLk 105 38 = some (.ifCond .le 15, 3) := rfl
theorem c_105_53 : mLk 105 53 = some (.iconst (-1), 1) := rfl
theorem c_105_54 : mLk 105 54 = some (.istore 5, 2) := rfl
theorem c_105_56 : mLk 105 56 = some (.iload 5, 2) := rfl
theorem c_105_58 : mLk 105 58 = some (.iload_n 3, 1) := rfl
theorem c_105_59 : mLk 105 59 = some (.if_icmp .le 9, 3) := rfl
theorem c_105_68 : mLk 105 68 = some (.iinc 4 1, 3) := rfl
theorem c_105_71 : mLk 105 71 = some (.goto (-54), 3) := rfl
theorem c_105_41 : mLk 105 41 = some (.aload_n 0, 1) := rfl
theorem c_105_42 : mLk 105 42 = some (.getfield 62, 3) := rfl
theorem c_105_45 : mLk 105 45 = some (.iload 4, 2) := rfl
theorem c_105_47 : mLk 105 47 = some (.invokevirtual 223, 3) := rfl
theorem c_105_50 : mLk 105 50 = some (.goto 4, 3) := rfl
theorem c_105_62 : mLk 105 62 = some (.iload 5, 2) := rfl
theorem c_105_64 : mLk 105 64 = some (.istore_n 3, 1) := rfl
theorem c_105_65 : mLk 105 65 = some (.iload 4, 2) := rfl
theorem c_105_67 : mLk 105 67 = some (.istore_n 2, 1) := rfl
theorem c_105_0 : mLk 105 0 = some (.aload_n 0, 1) := rfl
theorem c_105_1 : mLk 105 1 = some (.iload_n 1, 1) := rfl
theorem c_105_2 : mLk 105 2 = some (.iconst 0, 1) := rfl
theorem c_105_3 : mLk 105 3 = some (.iconst 1, 1) := rfl
theorem c_105_4 : mLk 105 4 = some (.invokestatic 157, 3) := rfl
theorem c_105_7 : mLk 105 7 = some (.invokevirtual 161, 3) := rfl
theorem c_105_10 : mLk 105 10 = some (.iconst (-1), 1) := rfl
theorem c_105_11 : mLk 105 11 = some (.istore_n 2, 1) := rfl
theorem c_105_12 : mLk 105 12 = some (.iconst (-1), 1) := rfl
theorem c_105_13 : mLk 105 13 = some (.istore_n 3, 1) := rfl
theorem c_105_14 : mLk 105 14 = some (.iconst 0, 1) := rfl
theorem c_105_15 : mLk 105 15 = some (.istore 4, 2) := rfl
theorem c_106_4 : mLk 106 4 = some (.iload_n 2, 1) := rfl
theorem c_106_5 : mLk 106 5 = some (.aload_n 0, 1) := rfl
theorem c_106_6 : mLk 106 6 = some (.getfield 50, 3) := rfl
theorem c_106_9 : mLk 106 9 = some (.getfield 102, 3) := rfl
theorem c_106_12 : mLk 106 12 = some (.if_icmp .ge 26, 3) := rfl
theorem c_106_38 : mLk 106 38 = some (.iload_n 1, 1) := rfl
theorem c_106_39 : mLk 106 39 = some (.ireturn, 1) := rfl
theorem c_106_15 : mLk 106 15 = some (.aload_n 0, 1) := rfl
theorem c_106_16 : mLk 106 16 = some (.getfield 62, 3) := rfl
theorem c_106_19 : mLk 106 19 = some (.iload_n 2, 1) := rfl
theorem c_106_20 : mLk 106 20 = some (.invokevirtual 230, 3) := rfl
theorem c_106_23 : mLk 106 23 = some (.ifCond .eq 9, 3) := rfl
theorem c_106_32 : mLk 106 32 = some (.iinc 2 1, 3) := rfl
theorem c_106_35 : mLk 106 35 = some (.goto (-31), 3) := rfl
theorem c_106_26 : mLk 106 26 = some (.iload_n 1, 1) := rfl
theorem c_106_27 : mLk 106 27 = some (.iconst 1, 1) := rfl
theorem c_106_28 : mLk 106 28 = some (.iload_n 2, 1) := rfl
theorem c_106_29 : mLk 106 29 = some (.ishl, 1) := rfl
theorem c_106_30 : mLk 106 30 = some (.ior, 1) := rfl
theorem c_106_31 : mLk 106 31 = some (.istore_n 1, 1) := rfl
theorem c_106_0 : mLk 106 0 = some (.iconst 0, 1) := rfl
theorem c_106_1 : mLk 106 1 = some (.istore_n 1, 1) := rfl
theorem c_106_2 : mLk 106 2 = some (.iconst 0, 1) := rfl
theorem c_106_3 : mLk 106 3 = some (.istore_n 2, 1) := rfl
theorem c_107_4 : mLk 107 4 = some (.iload_n 2, 1) := rfl
theorem c_107_5 : mLk 107 5 = some (.aload_n 0, 1) := rfl
theorem c_107_6 : mLk 107 6 = some (.getfield 50, 3) := rfl
theorem c_107_9 : mLk 107 9 = some (.getfield 102, 3) := rfl
theorem c_107_12 : mLk 107 12 = some (.if_icmp .ge 34, 3) := rfl
theorem c_107_46 : mLk 107 46 = some (.iload_n 1, 1) := rfl
theorem c_107_47 : mLk 107 47 = some (.ireturn, 1) := rfl
theorem c_107_15 : mLk 107 15 = some (.aload_n 0, 1) := rfl
theorem c_107_16 : mLk 107 16 = some (.getfield 62, 3) := rfl
theorem c_107_19 : mLk 107 19 = some (.iload_n 2, 1) := rfl
theorem c_107_20 : mLk 107 20 = some (.invokevirtual 230, 3) := rfl
theorem c_107_23 : mLk 107 23 = some (.ifCond .eq 17, 3) := rfl
theorem c_107_40 : mLk 107 40 = some (.iinc 2 1, 3) := rfl
theorem c_107_43 : mLk 107 43 = some (.goto (-39), 3) := rfl
theorem c_107_26 : mLk 107 26 = some (.iload_n 1, 1) := rfl
theorem c_107_27 : mLk 107 27 = some (.aload_n 0, 1) := rfl
theorem c_107_28 : mLk 107 28 = some (.getfield 62, 3) := rfl
theorem c_107_31 : mLk 107 31 = some (.iload_n 2, 1) := rfl
theorem c_107_32 : mLk 107 32 = some (.invokevirtual 187, 3) := rfl
theorem c_107_35 : mLk 107 35 = some (.bipush 10, 2) := rfl
theorem c_107_39 : mLk 107 39 = some (.istore_n 1, 1) := rfl
theorem c_107_0 : mLk 107 0 = some (.iconst 0, 1) := rfl
theorem c_107_1 : mLk 107 1 = some (.istore_n 1, 1) := rfl
theorem c_107_2 : mLk 107 2 = some (.iconst 0, 1) := rfl
theorem c_107_3 : mLk 107 3 = some (.istore_n 2, 1) := rfl
theorem c_108_0 : mLk 108 0 = some (.aload_n 0, 1) := rfl
theorem c_108_1 : mLk 108 1 = some (.iload_n 1, 1) := rfl
theorem c_108_2 : mLk 108 2 = some (.invokevirtual 184, 3) := rfl
theorem c_108_5 : mLk 108 5 = some (.aload_n 0, 1) := rfl
theorem c_108_6 : mLk 108 6 = some (.iload_n 2, 1) := rfl
theorem c_108_7 : mLk 108 7 = some (.invokevirtual 184, 3) := rfl
theorem c_108_10 : mLk 108 10 = some (.aload_n 0, 1) := rfl
theorem c_108_11 : mLk 108 11 = some (.getfield 66, 3) := rfl
theorem c_108_14 : mLk 108 14 = some (.aload_n 0, 1) := rfl
theorem c_108_15 : mLk 108 15 = some (.getfield 62, 3) := rfl
theorem c_108_18 : mLk 108 18 = some (.invokevirtual 233, 3) := rfl
theorem c_108_21 : mLk 108 21 = some (.aload_n 0, 1) := rfl
theorem c_108_22 : mLk 108 22 = some (.getfield 66, 3) := rfl
theorem c_108_25 : mLk 108 25 = some (.iload_n 1, 1) := rfl
theorem c_108_26 : mLk 108 26 = some (.iload_n 2, 1) := rfl
theorem c_108_27 : mLk 108 27 = some (.invokevirtual 236, 3) := rfl
theorem c_108_30 : mLk 108 30 = some (.ifCond .eq 14, 3) := rfl
theorem c_108_44 : mLk 108 44 = some (.iconst (-1), 1) := rfl
theorem c_108_45 : mLk 108 45 = some (.ireturn, 1) := rfl
theorem c_108_33 : mLk 108 33 = some (.aload_n 0, 1) := rfl
theorem c_108_34 : mLk 108 34 = some (.getfield 66, 3) := rfl
theorem c_108_37 : mLk 108 37 = some (.iload_n 2, 1) := rfl
theorem c_108_38 : mLk 108 38 = some (.invokevirtual 223, 3) := rfl
theorem c_108_41 : mLk 108 41 = some (.goto 4, 3) := rfl
theorem c_109_18 : mLk 109 18 = some (.iload_n 2, 1) := rfl
theorem c_109_19 : mLk 109 19 = some (.bipush 99, 2) := rfl
theorem c_109_21 : mLk 109 21 = some (.if_icmp .gt 34, 3) := rfl
theorem c_109_55 : mLk 109 55 = some (.iconst (-1), 1) := rfl
theorem c_109_56 : mLk 109 56 = some (.ireturn, 1) := rfl
theorem c_109_24 : mLk 109 24 = some (.aload_n 0, 1) := rfl
theorem c_109_25 : mLk 109 25 = some (.getfield 66, 3) := rfl
theorem c_109_28 : mLk 109 28 = some (.iload_n 1, 1) := rfl
theorem c_109_29 : mLk 109 29 = some (.invokevirtual 230, 3) := rfl
theorem c_109_32 : mLk 109 32 = some (.ifCond .eq 5, 3) := rfl
theorem c_109_37 : mLk 109 37 = some (.aload_n 0, 1) := rfl
theorem c_109_38 : mLk 109 38 = some (.getfield 66, 3) := rfl
theorem c_109_41 : mLk 109 41 = some (.invokevirtual 240, 3) := rfl
theorem c_109_44 : mLk 109 44 = some (.ifCond .ne 5, 3) := rfl
theorem c_109_49 : mLk 109 49 = some (.iinc 2 1, 3) := rfl
theorem c_109_52 : mLk 109 52 = some (.goto (-34), 3) := rfl
theorem c_109_47 : mLk 109 47 = some (.iconst (-1), 1) := rfl
theorem c_109_48 : mLk 109 48 = some (.ireturn, 1) := rfl
theorem c_109_35 : mLk 109 35 = some (.iload_n 2, 1) := rfl
theorem c_109_36 : mLk 109 36 = some (.ireturn, 1) := rfl
theorem c_109_0 : mLk 109 0 = some (.aload_n 0, 1) := rfl
theorem c_109_1 : mLk 109 1 = some (.iload_n 1, 1) := rfl
theorem c_109_2 : mLk 109 2 = some (.invokevirtual 184, 3) := rfl
theorem c_109_5 : mLk 109 5 = some (.aload_n 0, 1) := rfl
theorem c_109_6 : mLk 109 6 = some (.getfield 66, 3) := rfl
theorem c_109_9 : mLk 109 9 = some (.aload_n 0, 1) := rfl
theorem c_109_10 : mLk 109 10 = some (.getfield 62, 3) := rfl
theorem c_109_13 : mLk 109 13 = some (.invokevirtual 233, 3) := rfl
theorem c_109_16 : mLk 109 16 = some (.iconst 0, 1) := rfl
theorem c_109_17 : mLk 109 17 = some (.istore_n 2, 1) := rfl
theorem c_110_0 : mLk 110 0 = some (.aload_n 0, 1) := rfl
theorem c_110_1 : mLk 110 1 = some (.iload_n 1, 1) := rfl
theorem c_110_2 : mLk 110 2 = some (.invokevirtual 200, 3) := rfl
theorem c_110_5 : mLk 110 5 = some (.aload_n 0, 1) := rfl
theorem c_110_6 : mLk 110 6 = some (.iload_n 2, 1) := rfl
theorem c_110_7 : mLk 110 7 = some (.invokevirtual 184, 3) := rfl
theorem c_110_10 : mLk 110 10 = some (.aload_n 0, 1) := rfl
theorem c_110_11 : mLk 110 11 = some (.iload_n 3, 1) := rfl
theorem c_110_12 : mLk 110 12 = some (.iconst 0, 1) := rfl
theorem c_110_13 : mLk 110 13 = some (.iconst 4, 1) := rfl
theorem c_110_14 : mLk 110 14 = some (.invokestatic 157, 3) := rfl
theorem c_110_17 : mLk 110 17 = some (.invokevirtual 161, 3) := rfl
theorem c_110_20 : mLk 110 20 = some (.aload_n 0, 1) := rfl
theorem c_110_21 : mLk 110 21 = some (.getfield 66, 3) := rfl
theorem c_110_24 : mLk 110 24 = some (.aload_n 0, 1) := rfl
theorem c_110_25 : mLk 110 25 = some (.getfield 62, 3) := rfl
theorem c_110_28 : mLk 110 28 = some (.invokevirtual 233, 3) := rfl
theorem c_110_31 : mLk 110 31 = some (.aload_n 0, 1) := rfl
theorem c_110_32 : mLk 110 32 = some (.getfield 66, 3) := rfl
theorem c_110_35 : mLk 110 35 = some (.iload_n 1, 1) := rfl
theorem c_110_36 : mLk 110 36 = some (.iload_n 2, 1) := rfl
theorem c_110_37 : mLk 110 37 = some (.invokevirtual 243, 3) := rfl
theorem c_110_40 : mLk 110 40 = some (.pop, 1) := rfl
theorem c_110_41 : mLk 110 41 = some (.iload_n 3, 1) := rfl
theorem c_110_42 : mLk 110 42 = some (.iconst 4, 1) := rfl
theorem c_110_43 : mLk 110 43 = some (.if_icmp .ne 25, 3) := rfl
theorem c_110_68 : mLk 110 68 = some (.aload_n 0, 1) := rfl
theorem c_110_69 : mLk 110 69 = some (.getfield 66, 3) := rfl
theorem c_110_72 : mLk 110 72 = some (.iload_n 2, 1) := rfl
theorem c_110_73 : mLk 110 73 = some (.iload_n 3, 1) := rfl
theorem c_110_74 : mLk 110 74 = some (.invokevirtual 196, 3) := rfl
theorem c_110_77 : mLk 110 77 = some (.ireturn, 1) := rfl
theorem c_110_46 : mLk 110 46 = some (.aload_n 0, 1) := rfl
theorem c_110_47 : mLk 110 47 = some (.getfield 66, 3) := rfl
theorem c_110_50 : mLk 110 50 = some (.getfield 174, 3) := rfl
theorem c_110_53 : mLk 110 53 = some (.bipush 32, 2) := rfl
theorem c_110_55 : mLk 110 55 = some (.iaload, 1) := rfl
theorem c_110_56 : mLk 110 56 = some (.aload_n 0, 1) := rfl
theorem c_110_57 : mLk 110 57 = some (.getfield 62, 3) := rfl
theorem c_110_60 : mLk 110 60 = some (.getfield 174, 3) := rfl
theorem c_110_63 : mLk 110 63 = some (.bipush 32, 2) := rfl
theorem c_110_65 : mLk 110 65 = some (.iaload, 1) := rfl
theorem c_110_66 : mLk 110 66 = some (.isub, 1) := rfl
theorem c_110_67 : mLk 110 67 = some (.ireturn, 1) := rfl
theorem c_111_0 : mLk 111 0 = some (.aload_n 0, 1) := rfl
theorem c_111_1 : mLk 111 1 = some (.iload_n 1, 1) := rfl
theorem c_111_2 : mLk 111 2 = some (.invokevirtual 206, 3) := rfl
theorem c_111_5 : mLk 111 5 = some (.aload_n 0, 1) := rfl
theorem c_111_6 : mLk 111 6 = some (.iload_n 2, 1) := rfl
theorem c_111_7 : mLk 111 7 = some (.invokevirtual 184, 3) := rfl
theorem c_111_10 : mLk 111 10 = some (.aload_n 0, 1) := rfl
theorem c_111_11 : mLk 111 11 = some (.iload_n 3, 1) := rfl
theorem c_111_12 : mLk 111 12 = some (.iconst 0, 1) := rfl
theorem c_111_13 : mLk 111 13 = some (.iconst 4, 1) := rfl
theorem c_111_14 : mLk 111 14 = some (.invokestatic 157, 3) := rfl
theorem c_111_17 : mLk 111 17 = some (.invokevirtual 161, 3) := rfl
theorem c_111_20 : mLk 111 20 = some (.iload_n 3, 1) := rfl
theorem c_111_21 : mLk 111 21 = some (.iconst 4, 1) := rfl
theorem c_111_22 : mLk 111 22 = some (.if_icmp .ne 15, 3) := rfl
theorem c_111_37 : mLk 111 37 = some (.aload_n 0, 1) := rfl
theorem c_111_38 : mLk 111 38 = some (.getfield 62, 3) := rfl
theorem c_111_41 : mLk 111 41 = some (.iload_n 1, 1) := rfl
theorem c_111_42 : mLk 111 42 = some (.iload_n 2, 1) := rfl
theorem c_111_43 : mLk 111 43 = some (.iload_n 3, 1) := rfl
theorem c_111_44 : mLk 111 44 = some (.invokevirtual 249, 3) := rfl
theorem c_111_47 : mLk 111 47 = some (.ireturn, 1) := rfl
theorem c_111_25 : mLk 111 25 = some (.aload_n 0, 1) := rfl
theorem c_111_26 : mLk 111 26 = some (.getfield 62, 3) := rfl
theorem c_111_29 : mLk 111 29 = some (.iload_n 1, 1) := rfl
theorem c_111_30 : mLk 111 30 = some (.iload_n 2, 1) := rfl
theorem c_111_31 : mLk 111 31 = some (.invokevirtual 246, 3) := rfl
theorem c_111_34 : mLk 111 34 = some (.goto 13, 3) := rfl
theorem c_112_49 : mLk 112 49 = some (.iload 4, 2) := rfl
theorem c_112_51 : mLk 112 51 = some (.bipush 99, 2) := rfl
theorem c_112_53 : mLk 112 53 = some (.if_icmp .gt 34, 3) := rfl
theorem c_112_87 : mLk 112 87 = some (.iconst (-1), 1) := rfl
theorem c_112_88 : mLk 112 88 = some (.ireturn, 1) := rfl
theorem c_112_56 : mLk 112 56 = some (.aload_n 0, 1) := rfl
theorem c_112_57 : mLk 112 57 = some (.getfield 66, 3) := rfl
theorem c_112_60 : mLk 112 60 = some (.iload_n 1, 1) := rfl
theorem c_112_61 : mLk 112 61 = some (.invokevirtual 193, 3) := rfl
theorem c_112_64 : mLk 112 64 = some (.iload_n 3, 1) := rfl
theorem c_112_65 : mLk 112 65 = some (.if_icmp .lt 6, 3) := rfl
theorem c_112_71 : mLk 112 71 = some (.aload_n 0, 1) := rfl
theorem c_112_72 : mLk 112 72 = some (.getfield 66, 3) := rfl
theorem c_112_75 : mLk 112 75 = some (.iload_n 2, 1) := rfl
theorem c_112_76 : mLk 112 76 = some (.iload_n 1, 1) := rfl
theorem c_112_77 : mLk 112 77 = some (.invokevirtual 243, 3) := rfl
theorem c_112_80 : mLk 112 80 = some (.pop, 1) := rfl
theorem c_112_81 : mLk 112 81 = some (.iinc 4 1, 3) := rfl
theorem c_112_84 : mLk 112 84 = some (.goto (-35), 3) := rfl
theorem c_112_68 : mLk 112 68 = some (.iload 4, 2) := rfl
theorem c_112_70 : mLk 112 70 = some (.ireturn, 1) := rfl
theorem c_112_0 : mLk 112 0 = some (.aload_n 0, 1) := rfl
theorem c_112_1 : mLk 112 1 = some (.iload_n 1, 1) := rfl
theorem c_112_2 : mLk 112 2 = some (.invokevirtual 184, 3) := rfl
theorem c_112_5 : mLk 112 5 = some (.aload_n 0, 1) := rfl
theorem c_112_6 : mLk 112 6 = some (.iload_n 2, 1) := rfl
theorem c_112_7 : mLk 112 7 = some (.invokevirtual 200, 3) := rfl
theorem c_112_10 : mLk 112 10 = some (.aload_n 0, 1) := rfl
theorem c_112_11 : mLk 112 11 = some (.iload_n 3, 1) := rfl
theorem c_112_12 : mLk 112 12 = some (.iconst 0, 1) := rfl
theorem c_112_13 : mLk 112 13 = some (.sipush 1000, 3) := rfl
theorem c_112_16 : mLk 112 16 = some (.invokestatic 157, 3) := rfl
theorem c_112_19 : mLk 112 19 = some (.invokevirtual 161, 3) := rfl
theorem c_112_22 : mLk 112 22 = some (.aload_n 0, 1) := rfl
theorem c_112_23 : mLk 112 23 = some (.getfield 62, 3) := rfl
theorem c_112_26 : mLk 112 26 = some (.iload_n 1, 1) := rfl
theorem c_112_27 : mLk 112 27 = some (.invokevirtual 187, 3) := rfl
theorem c_112_30 : mLk 112 30 = some (.ifCond .ne 5, 3) := rfl
theorem c_112_35 : mLk 112 35 = some (.aload_n 0, 1) := rfl
theorem c_112_36 : mLk 112 36 = some (.getfield 66, 3) := rfl
theorem c_112_39 : mLk 112 39 = some (.aload_n 0, 1) := rfl
theorem c_112_40 : mLk 112 40 = some (.getfield 62, 3) := rfl
theorem c_112_43 : mLk 112 43 = some (.invokevirtual 233, 3) := rfl
theorem c_112_46 : mLk 112 46 = some (.iconst 0, 1) := rfl
theorem c_112_47 : mLk 112 47 = some (.istore 4, 2) := rfl
theorem c_112_33 : mLk 112 33 = some (.iconst (-1), 1) := rfl
theorem c_112_34 : mLk 112 34 = some (.ireturn, 1) := rfl
theorem c_113_4 : mLk 113 4 = some (.iload_n 3, 1) := rfl
theorem c_113_5 : mLk 113 5 = some (.iconst 4, 1) := rfl
theorem c_113_6 : mLk 113 6 = some (.if_icmp .ge 39, 3) := rfl
theorem c_113_45 : mLk 113 45 = some (.iload_n 2, 1) := rfl
theorem c_113_46 : mLk 113 46 = some (.ireturn, 1) := rfl
theorem c_113_9 : mLk 113 9 = some (.aload_n 0, 1) := rfl
theorem c_113_10 : mLk 113 10 = some (.getfield 44, 3) := rfl
theorem c_113_13 : mLk 113 13 = some (.iload_n 3, 1) := rfl
theorem c_113_14 : mLk 113 14 = some (.aload_n 0, 1) := rfl
theorem c_113_15 : mLk 113 15 = some (.getfield 62, 3) := rfl
theorem c_113_18 : mLk 113 18 = some (.iload_n 1, 1) := rfl
theorem c_113_19 : mLk 113 19 = some (.iload_n 3, 1) := rfl
theorem c_113_20 : mLk 113 20 = some (.aload_n 0, 1) := rfl
theorem c_113_21 : mLk 113 21 = some (.getfield 44, 3) := rfl
theorem c_113_24 : mLk 113 24 = some (.iload_n 3, 1) := rfl
theorem c_113_25 : mLk 113 25 = some (.iaload, 1) := rfl
theorem c_113_26 : mLk 113 26 = some (.invokevirtual 354, 3) := rfl
theorem c_113_29 : mLk 113 29 = some (.iastore, 1) := rfl
theorem c_113_30 : mLk 113 30 = some (.iload_n 2, 1) := rfl
theorem c_113_31 : mLk 113 31 = some (.aload_n 0, 1) := rfl
theorem c_113_32 : mLk 113 32 = some (.getfield 44, 3) := rfl
theorem c_113_35 : mLk 113 35 = some (.iload_n 3, 1) := rfl
theorem c_113_38 : mLk 113 38 = some (.istore_n 2, 1) := rfl
theorem c_113_39 : mLk 113 39 = some (.iinc 3 1, 3) := rfl
theorem c_113_42 : mLk 113 42 = some (.goto (-38), 3) := rfl
theorem c_113_0 : mLk 113 0 = some (.iconst 0, 1) := rfl
theorem c_113_1 : mLk 113 1 = some (.istore_n 2, 1) := rfl
theorem c_113_2 : mLk 113 2 = some (.iconst 0, 1) := rfl
theorem c_113_3 : mLk 113 3 = some (.istore_n 3, 1) := rfl
theorem kf_7_44 : a_lk (kF 7) 44 = some (7, 6) := rfl
theorem km_7_226 : a_lk (kM 7) 226 = some (0, 20) := rfl
theorem km_7_230 : a_lk (kM 7) 230 = some (0, 57) := rfl
theorem km_7_233 : a_lk (kM 7) 233 = some (0, 66) := rfl
theorem km_7_236 : a_lk (kM 7) 236 = some (0, 55) := rfl
theorem km_7_240 : a_lk (kM 7) 240 = some (0, 60) := rfl
theorem km_7_243 : a_lk (kM 7) 243 = some (0, 44) := rfl
theorem km_7_246 : a_lk (kM 7) 246 = some (0, 49) := rfl
theorem km_7_249 : a_lk (kM 7) 249 = some (0, 48) := rfl
theorem km_7_354 : a_lk (kM 7) 354 = some (0, 47) := rfl
set_option maxRecDepth 100000 in
set_option maxHeartbeats 4000000 in
theorem s_104 {sc : List Int32} {e : Int} {d u P Q : Nat} {c : ME} {a1 : Int} {a2 : Int} {a3 : Int} {a4 : Int} {a5 : Int} {a6 : Int} {a7 : Int} {Z : AR → Prop} (hI : Iv u e P Q c) (ha1 : (-2147483648) ≤ a1 ∧ a1 ≤ 2147483647) (ha2 : (-2147483648) ≤ a2 ∧ a2 ≤ 2147483647) (ha3 : (-2147483648) ≤ a3 ∧ a3 ≤ 2147483647) (ha4 : (-2147483648) ≤ a4 ∧ a4 ≤ 2147483647) (ha5 : (-2147483648) ≤ a5 ∧ a5 ≤ 2147483647) (ha6 : (-2147483648) ≤ a6 ∧ a6 ≤ 2147483647) (ha7 : (-2147483648) ≤ a7 ∧ a7 ≤ 2147483647) (T101 : ∀ c2 : ME, Iv u e P Q c2 → (∀ (a : Nat) (j : Int), ¬ ((a = 0 ∧ j = 13) ∨ a = (P + 10) ∨ a = (P + 11)) → c2 a j = c a j) → Z (.inr 101, Wd P Q P P c2, 1, 6)) (K : ∀ (c2 : ME) (y : Int), Iv u e P Q c2 → (∀ (a : Nat) (j : Int), ¬ ((a = 0 ∧ j = 13) ∨ a = (P + 10) ∨ a = (P + 11)) → c2 a j = c a j) → (-2147483648) ≤ y ∧ y ≤ 2147483647 → Z (.inl (some (vi y)), Wd P Q P P c2, 0, 0)) : Wp sc (d + 9) 104 0 [(0, .ref 0), (1, vi a1), (2, vi a2), (3, vi a3), (4, vi a4), (5, vi a5), (6, vi a6), (7, vi a7)] [] (Wd P Q P P c) 0 0 Z := by
  have hP := iv_P hI
  have hQ := iv_Q hI
  refine q_aload_n c_104_0 rfl (q_iload_n c_104_1 rfl (q_iconst c_104_2 (v_sip c_104_3 (by decide) (q_call c_104_6 rfl rfl rfl (q_iload_n c_80_0 rfl (q_iload_n c_80_1 rfl ?_))))))
  by_cases h_1 : a1 < 0
  · refine v_ic_lt_t (t := 14) c_80_2 rfl ⟨ha1.1, h_1, by decide⟩ (q_iconst c_80_14 (v_zret c_80_15 rfl (by decide) (bk_inl (v_if_eq_t (t := 84) c_104_9 rfl (by decide) (q_iconst c_104_84 (v_cv c_104_85 km_7_161 rfl rfl (nb_ rfl) ⟨⟨rfl, rfl⟩, nb_ rfl, rfl⟩ (nb_ rfl) (nb_ rfl) (q_iload_n c_81_0 rfl ?_)))))))
    refine v_if_ne_f (t := 25) c_81_1 rfl (by decide) (q_aload_n c_81_4 rfl (q_dup c_81_5 rfl ?_))
    have h_2 := ir_0_13 hI
    refine v_gi (z := 13) (v := c 0 13) c_81_6 kf_7_330 rfl (nb_ rfl) rfl rfl rfl (q_iconst c_81_9 (v_iadd (v := c 0 13 + 1) c_81_10 rfl (v_nrm (fun y_3 hy_3 => (v_pi (z := 13) c_81_11 kf_7_330 rfl (nb_ rfl) rfl rfl rfl (by decide) (v_new c_81_14 rfl (by decide) (ld_ rfl) (nb_ rfl) (by decide) rfl (bk_out rfl rfl ?_)))))))
    have hI_4 := iw_0_13 (v := y_3) hI ⟨hy_3.1, hy_3.2⟩
    exact T101 _ hI_4 (fun a j hm => up_b (Decidable.or_iff_not_imp_left.mpr (fun h1 h2 => hm (Or.inl ⟨Decidable.not_not.mp h1, h2⟩))))
  · refine v_ic_lt_f (t := 14) c_80_2 rfl ⟨by decide, (Int.not_lt.mp h_1), ha1.2⟩ (q_iload_n c_80_5 rfl (q_iload_n c_80_6 rfl ?_))
    by_cases h_5 : a1 > 9999
    · refine v_ic_gt_t (t := 14) c_80_7 rfl ⟨by decide, h_5, ha1.2⟩ (q_iconst c_80_14 (v_zret c_80_15 rfl (by decide) (bk_inl (v_if_eq_t (t := 84) c_104_9 rfl (by decide) (q_iconst c_104_84 (v_cv c_104_85 km_7_161 rfl rfl (nb_ rfl) ⟨⟨rfl, rfl⟩, nb_ rfl, rfl⟩ (nb_ rfl) (nb_ rfl) (q_iload_n c_81_0 rfl ?_)))))))
      refine v_if_ne_f (t := 25) c_81_1 rfl (by decide) (q_aload_n c_81_4 rfl (q_dup c_81_5 rfl ?_))
      have h_6 := ir_0_13 hI
      refine v_gi (z := 13) (v := c 0 13) c_81_6 kf_7_330 rfl (nb_ rfl) rfl rfl rfl (q_iconst c_81_9 (v_iadd (v := c 0 13 + 1) c_81_10 rfl (v_nrm (fun y_7 hy_7 => (v_pi (z := 13) c_81_11 kf_7_330 rfl (nb_ rfl) rfl rfl rfl (by decide) (v_new c_81_14 rfl (by decide) (ld_ rfl) (nb_ rfl) (by decide) rfl (bk_out rfl rfl ?_)))))))
      have hI_8 := iw_0_13 (v := y_7) hI ⟨hy_7.1, hy_7.2⟩
      exact T101 _ hI_8 (fun a j hm => up_b (Decidable.or_iff_not_imp_left.mpr (fun h1 h2 => hm (Or.inl ⟨Decidable.not_not.mp h1, h2⟩))))
    · refine v_ic_gt_f (t := 14) c_80_7 rfl ⟨ha1.1, (Int.not_lt.mp h_5), by decide⟩ (q_iconst c_80_10 (q_goto (t := 15) c_80_11 rfl (v_zret c_80_15 rfl (by decide) (bk_inl (v_if_eq_f (t := 84) c_104_9 rfl (by decide) (q_iload_n c_104_12 rfl (q_iconst c_104_13 ?_)))))))
      refine v_sip c_104_14 (by decide) (q_call c_104_17 rfl rfl rfl (q_iload_n c_80_0 rfl (q_iload_n c_80_1 rfl ?_)))
      by_cases h_9 : a2 < 0
      · refine v_ic_lt_t (t := 14) c_80_2 rfl ⟨ha2.1, h_9, by decide⟩ (q_iconst c_80_14 (v_zret c_80_15 rfl (by decide) (bk_inl (v_if_eq_t (t := 84) c_104_20 rfl (by decide) (q_iconst c_104_84 (v_cv c_104_85 km_7_161 rfl rfl (nb_ rfl) ⟨⟨rfl, rfl⟩, nb_ rfl, rfl⟩ (nb_ rfl) (nb_ rfl) (q_iload_n c_81_0 rfl ?_)))))))
        refine v_if_ne_f (t := 25) c_81_1 rfl (by decide) (q_aload_n c_81_4 rfl (q_dup c_81_5 rfl ?_))
        have h_10 := ir_0_13 hI
        refine v_gi (z := 13) (v := c 0 13) c_81_6 kf_7_330 rfl (nb_ rfl) rfl rfl rfl (q_iconst c_81_9 (v_iadd (v := c 0 13 + 1) c_81_10 rfl (v_nrm (fun y_11 hy_11 => (v_pi (z := 13) c_81_11 kf_7_330 rfl (nb_ rfl) rfl rfl rfl (by decide) (v_new c_81_14 rfl (by decide) (ld_ rfl) (nb_ rfl) (by decide) rfl (bk_out rfl rfl ?_)))))))
        have hI_12 := iw_0_13 (v := y_11) hI ⟨hy_11.1, hy_11.2⟩
        exact T101 _ hI_12 (fun a j hm => up_b (Decidable.or_iff_not_imp_left.mpr (fun h1 h2 => hm (Or.inl ⟨Decidable.not_not.mp h1, h2⟩))))
      · refine v_ic_lt_f (t := 14) c_80_2 rfl ⟨by decide, (Int.not_lt.mp h_9), ha2.2⟩ (q_iload_n c_80_5 rfl (q_iload_n c_80_6 rfl ?_))
        by_cases h_13 : a2 > 9999
        · refine v_ic_gt_t (t := 14) c_80_7 rfl ⟨by decide, h_13, ha2.2⟩ (q_iconst c_80_14 (v_zret c_80_15 rfl (by decide) (bk_inl (v_if_eq_t (t := 84) c_104_20 rfl (by decide) (q_iconst c_104_84 (v_cv c_104_85 km_7_161 rfl rfl (nb_ rfl) ⟨⟨rfl, rfl⟩, nb_ rfl, rfl⟩ (nb_ rfl) (nb_ rfl) (q_iload_n c_81_0 rfl ?_)))))))
          refine v_if_ne_f (t := 25) c_81_1 rfl (by decide) (q_aload_n c_81_4 rfl (q_dup c_81_5 rfl ?_))
          have h_14 := ir_0_13 hI
          refine v_gi (z := 13) (v := c 0 13) c_81_6 kf_7_330 rfl (nb_ rfl) rfl rfl rfl (q_iconst c_81_9 (v_iadd (v := c 0 13 + 1) c_81_10 rfl (v_nrm (fun y_15 hy_15 => (v_pi (z := 13) c_81_11 kf_7_330 rfl (nb_ rfl) rfl rfl rfl (by decide) (v_new c_81_14 rfl (by decide) (ld_ rfl) (nb_ rfl) (by decide) rfl (bk_out rfl rfl ?_)))))))
          have hI_16 := iw_0_13 (v := y_15) hI ⟨hy_15.1, hy_15.2⟩
          exact T101 _ hI_16 (fun a j hm => up_b (Decidable.or_iff_not_imp_left.mpr (fun h1 h2 => hm (Or.inl ⟨Decidable.not_not.mp h1, h2⟩))))
        · refine v_ic_gt_f (t := 14) c_80_7 rfl ⟨ha2.1, (Int.not_lt.mp h_13), by decide⟩ (q_iconst c_80_10 (q_goto (t := 15) c_80_11 rfl (v_zret c_80_15 rfl (by decide) (bk_inl (v_if_eq_f (t := 84) c_104_20 rfl (by decide) (q_iload_n c_104_23 rfl (q_iconst c_104_24 ?_)))))))
          refine v_sip c_104_25 (by decide) (q_call c_104_28 rfl rfl rfl (q_iload_n c_80_0 rfl (q_iload_n c_80_1 rfl ?_)))
          by_cases h_17 : a3 < 0
          · refine v_ic_lt_t (t := 14) c_80_2 rfl ⟨ha3.1, h_17, by decide⟩ (q_iconst c_80_14 (v_zret c_80_15 rfl (by decide) (bk_inl (v_if_eq_t (t := 84) c_104_31 rfl (by decide) (q_iconst c_104_84 (v_cv c_104_85 km_7_161 rfl rfl (nb_ rfl) ⟨⟨rfl, rfl⟩, nb_ rfl, rfl⟩ (nb_ rfl) (nb_ rfl) (q_iload_n c_81_0 rfl ?_)))))))
            refine v_if_ne_f (t := 25) c_81_1 rfl (by decide) (q_aload_n c_81_4 rfl (q_dup c_81_5 rfl ?_))
            have h_18 := ir_0_13 hI
            refine v_gi (z := 13) (v := c 0 13) c_81_6 kf_7_330 rfl (nb_ rfl) rfl rfl rfl (q_iconst c_81_9 (v_iadd (v := c 0 13 + 1) c_81_10 rfl (v_nrm (fun y_19 hy_19 => (v_pi (z := 13) c_81_11 kf_7_330 rfl (nb_ rfl) rfl rfl rfl (by decide) (v_new c_81_14 rfl (by decide) (ld_ rfl) (nb_ rfl) (by decide) rfl (bk_out rfl rfl ?_)))))))
            have hI_20 := iw_0_13 (v := y_19) hI ⟨hy_19.1, hy_19.2⟩
            exact T101 _ hI_20 (fun a j hm => up_b (Decidable.or_iff_not_imp_left.mpr (fun h1 h2 => hm (Or.inl ⟨Decidable.not_not.mp h1, h2⟩))))
          · refine v_ic_lt_f (t := 14) c_80_2 rfl ⟨by decide, (Int.not_lt.mp h_17), ha3.2⟩ (q_iload_n c_80_5 rfl (q_iload_n c_80_6 rfl ?_))
            by_cases h_21 : a3 > 9999
            · refine v_ic_gt_t (t := 14) c_80_7 rfl ⟨by decide, h_21, ha3.2⟩ (q_iconst c_80_14 (v_zret c_80_15 rfl (by decide) (bk_inl (v_if_eq_t (t := 84) c_104_31 rfl (by decide) (q_iconst c_104_84 (v_cv c_104_85 km_7_161 rfl rfl (nb_ rfl) ⟨⟨rfl, rfl⟩, nb_ rfl, rfl⟩ (nb_ rfl) (nb_ rfl) (q_iload_n c_81_0 rfl ?_)))))))
              refine v_if_ne_f (t := 25) c_81_1 rfl (by decide) (q_aload_n c_81_4 rfl (q_dup c_81_5 rfl ?_))
              have h_22 := ir_0_13 hI
              refine v_gi (z := 13) (v := c 0 13) c_81_6 kf_7_330 rfl (nb_ rfl) rfl rfl rfl (q_iconst c_81_9 (v_iadd (v := c 0 13 + 1) c_81_10 rfl (v_nrm (fun y_23 hy_23 => (v_pi (z := 13) c_81_11 kf_7_330 rfl (nb_ rfl) rfl rfl rfl (by decide) (v_new c_81_14 rfl (by decide) (ld_ rfl) (nb_ rfl) (by decide) rfl (bk_out rfl rfl ?_)))))))
              have hI_24 := iw_0_13 (v := y_23) hI ⟨hy_23.1, hy_23.2⟩
              exact T101 _ hI_24 (fun a j hm => up_b (Decidable.or_iff_not_imp_left.mpr (fun h1 h2 => hm (Or.inl ⟨Decidable.not_not.mp h1, h2⟩))))
            · refine v_ic_gt_f (t := 14) c_80_7 rfl ⟨ha3.1, (Int.not_lt.mp h_21), by decide⟩ (q_iconst c_80_10 (q_goto (t := 15) c_80_11 rfl (v_zret c_80_15 rfl (by decide) (bk_inl (v_if_eq_f (t := 84) c_104_31 rfl (by decide) (q_iload c_104_34 rfl (q_iconst c_104_36 ?_)))))))
              refine v_sip c_104_37 (by decide) (q_call c_104_40 rfl rfl rfl (q_iload_n c_80_0 rfl (q_iload_n c_80_1 rfl ?_)))
              by_cases h_25 : a4 < 0
              · refine v_ic_lt_t (t := 14) c_80_2 rfl ⟨ha4.1, h_25, by decide⟩ (q_iconst c_80_14 (v_zret c_80_15 rfl (by decide) (bk_inl (v_if_eq_t (t := 84) c_104_43 rfl (by decide) (q_iconst c_104_84 (v_cv c_104_85 km_7_161 rfl rfl (nb_ rfl) ⟨⟨rfl, rfl⟩, nb_ rfl, rfl⟩ (nb_ rfl) (nb_ rfl) (q_iload_n c_81_0 rfl ?_)))))))
                refine v_if_ne_f (t := 25) c_81_1 rfl (by decide) (q_aload_n c_81_4 rfl (q_dup c_81_5 rfl ?_))
                have h_26 := ir_0_13 hI
                refine v_gi (z := 13) (v := c 0 13) c_81_6 kf_7_330 rfl (nb_ rfl) rfl rfl rfl (q_iconst c_81_9 (v_iadd (v := c 0 13 + 1) c_81_10 rfl (v_nrm (fun y_27 hy_27 => (v_pi (z := 13) c_81_11 kf_7_330 rfl (nb_ rfl) rfl rfl rfl (by decide) (v_new c_81_14 rfl (by decide) (ld_ rfl) (nb_ rfl) (by decide) rfl (bk_out rfl rfl ?_)))))))
                have hI_28 := iw_0_13 (v := y_27) hI ⟨hy_27.1, hy_27.2⟩
                exact T101 _ hI_28 (fun a j hm => up_b (Decidable.or_iff_not_imp_left.mpr (fun h1 h2 => hm (Or.inl ⟨Decidable.not_not.mp h1, h2⟩))))
              · refine v_ic_lt_f (t := 14) c_80_2 rfl ⟨by decide, (Int.not_lt.mp h_25), ha4.2⟩ (q_iload_n c_80_5 rfl (q_iload_n c_80_6 rfl ?_))
                by_cases h_29 : a4 > 9999
                · refine v_ic_gt_t (t := 14) c_80_7 rfl ⟨by decide, h_29, ha4.2⟩ (q_iconst c_80_14 (v_zret c_80_15 rfl (by decide) (bk_inl (v_if_eq_t (t := 84) c_104_43 rfl (by decide) (q_iconst c_104_84 (v_cv c_104_85 km_7_161 rfl rfl (nb_ rfl) ⟨⟨rfl, rfl⟩, nb_ rfl, rfl⟩ (nb_ rfl) (nb_ rfl) (q_iload_n c_81_0 rfl ?_)))))))
                  refine v_if_ne_f (t := 25) c_81_1 rfl (by decide) (q_aload_n c_81_4 rfl (q_dup c_81_5 rfl ?_))
                  have h_30 := ir_0_13 hI
                  refine v_gi (z := 13) (v := c 0 13) c_81_6 kf_7_330 rfl (nb_ rfl) rfl rfl rfl (q_iconst c_81_9 (v_iadd (v := c 0 13 + 1) c_81_10 rfl (v_nrm (fun y_31 hy_31 => (v_pi (z := 13) c_81_11 kf_7_330 rfl (nb_ rfl) rfl rfl rfl (by decide) (v_new c_81_14 rfl (by decide) (ld_ rfl) (nb_ rfl) (by decide) rfl (bk_out rfl rfl ?_)))))))
                  have hI_32 := iw_0_13 (v := y_31) hI ⟨hy_31.1, hy_31.2⟩
                  exact T101 _ hI_32 (fun a j hm => up_b (Decidable.or_iff_not_imp_left.mpr (fun h1 h2 => hm (Or.inl ⟨Decidable.not_not.mp h1, h2⟩))))
                · refine v_ic_gt_f (t := 14) c_80_7 rfl ⟨ha4.1, (Int.not_lt.mp h_29), by decide⟩ (q_iconst c_80_10 (q_goto (t := 15) c_80_11 rfl (v_zret c_80_15 rfl (by decide) (bk_inl (v_if_eq_f (t := 84) c_104_43 rfl (by decide) (q_iload c_104_46 rfl (q_iconst c_104_48 ?_)))))))
                  refine v_sip c_104_49 (by decide) (q_call c_104_52 rfl rfl rfl (q_iload_n c_80_0 rfl (q_iload_n c_80_1 rfl ?_)))
                  by_cases h_33 : a5 < 0
                  · refine v_ic_lt_t (t := 14) c_80_2 rfl ⟨ha5.1, h_33, by decide⟩ (q_iconst c_80_14 (v_zret c_80_15 rfl (by decide) (bk_inl (v_if_eq_t (t := 84) c_104_55 rfl (by decide) (q_iconst c_104_84 (v_cv c_104_85 km_7_161 rfl rfl (nb_ rfl) ⟨⟨rfl, rfl⟩, nb_ rfl, rfl⟩ (nb_ rfl) (nb_ rfl) (q_iload_n c_81_0 rfl ?_)))))))
                    refine v_if_ne_f (t := 25) c_81_1 rfl (by decide) (q_aload_n c_81_4 rfl (q_dup c_81_5 rfl ?_))
                    have h_34 := ir_0_13 hI
                    refine v_gi (z := 13) (v := c 0 13) c_81_6 kf_7_330 rfl (nb_ rfl) rfl rfl rfl (q_iconst c_81_9 (v_iadd (v := c 0 13 + 1) c_81_10 rfl (v_nrm (fun y_35 hy_35 => (v_pi (z := 13) c_81_11 kf_7_330 rfl (nb_ rfl) rfl rfl rfl (by decide) (v_new c_81_14 rfl (by decide) (ld_ rfl) (nb_ rfl) (by decide) rfl (bk_out rfl rfl ?_)))))))
                    have hI_36 := iw_0_13 (v := y_35) hI ⟨hy_35.1, hy_35.2⟩
                    exact T101 _ hI_36 (fun a j hm => up_b (Decidable.or_iff_not_imp_left.mpr (fun h1 h2 => hm (Or.inl ⟨Decidable.not_not.mp h1, h2⟩))))
                  · refine v_ic_lt_f (t := 14) c_80_2 rfl ⟨by decide, (Int.not_lt.mp h_33), ha5.2⟩ (q_iload_n c_80_5 rfl (q_iload_n c_80_6 rfl ?_))
                    by_cases h_37 : a5 > 400
                    · refine v_ic_gt_t (t := 14) c_80_7 rfl ⟨by decide, h_37, ha5.2⟩ (q_iconst c_80_14 (v_zret c_80_15 rfl (by decide) (bk_inl (v_if_eq_t (t := 84) c_104_55 rfl (by decide) (q_iconst c_104_84 (v_cv c_104_85 km_7_161 rfl rfl (nb_ rfl) ⟨⟨rfl, rfl⟩, nb_ rfl, rfl⟩ (nb_ rfl) (nb_ rfl) (q_iload_n c_81_0 rfl ?_)))))))
                      refine v_if_ne_f (t := 25) c_81_1 rfl (by decide) (q_aload_n c_81_4 rfl (q_dup c_81_5 rfl ?_))
                      have h_38 := ir_0_13 hI
                      refine v_gi (z := 13) (v := c 0 13) c_81_6 kf_7_330 rfl (nb_ rfl) rfl rfl rfl (q_iconst c_81_9 (v_iadd (v := c 0 13 + 1) c_81_10 rfl (v_nrm (fun y_39 hy_39 => (v_pi (z := 13) c_81_11 kf_7_330 rfl (nb_ rfl) rfl rfl rfl (by decide) (v_new c_81_14 rfl (by decide) (ld_ rfl) (nb_ rfl) (by decide) rfl (bk_out rfl rfl ?_)))))))
                      have hI_40 := iw_0_13 (v := y_39) hI ⟨hy_39.1, hy_39.2⟩
                      exact T101 _ hI_40 (fun a j hm => up_b (Decidable.or_iff_not_imp_left.mpr (fun h1 h2 => hm (Or.inl ⟨Decidable.not_not.mp h1, h2⟩))))
                    · refine v_ic_gt_f (t := 14) c_80_7 rfl ⟨ha5.1, (Int.not_lt.mp h_37), by decide⟩ (q_iconst c_80_10 (q_goto (t := 15) c_80_11 rfl (v_zret c_80_15 rfl (by decide) (bk_inl (v_if_eq_f (t := 84) c_104_55 rfl (by decide) (q_iload c_104_58 rfl (q_iconst c_104_60 ?_)))))))
                      refine v_sip c_104_61 (by decide) (q_call c_104_64 rfl rfl rfl (q_iload_n c_80_0 rfl (q_iload_n c_80_1 rfl ?_)))
                      by_cases h_41 : a6 < 0
                      · refine v_ic_lt_t (t := 14) c_80_2 rfl ⟨ha6.1, h_41, by decide⟩ (q_iconst c_80_14 (v_zret c_80_15 rfl (by decide) (bk_inl (v_if_eq_t (t := 84) c_104_67 rfl (by decide) (q_iconst c_104_84 (v_cv c_104_85 km_7_161 rfl rfl (nb_ rfl) ⟨⟨rfl, rfl⟩, nb_ rfl, rfl⟩ (nb_ rfl) (nb_ rfl) (q_iload_n c_81_0 rfl ?_)))))))
                        refine v_if_ne_f (t := 25) c_81_1 rfl (by decide) (q_aload_n c_81_4 rfl (q_dup c_81_5 rfl ?_))
                        have h_42 := ir_0_13 hI
                        refine v_gi (z := 13) (v := c 0 13) c_81_6 kf_7_330 rfl (nb_ rfl) rfl rfl rfl (q_iconst c_81_9 (v_iadd (v := c 0 13 + 1) c_81_10 rfl (v_nrm (fun y_43 hy_43 => (v_pi (z := 13) c_81_11 kf_7_330 rfl (nb_ rfl) rfl rfl rfl (by decide) (v_new c_81_14 rfl (by decide) (ld_ rfl) (nb_ rfl) (by decide) rfl (bk_out rfl rfl ?_)))))))
                        have hI_44 := iw_0_13 (v := y_43) hI ⟨hy_43.1, hy_43.2⟩
                        exact T101 _ hI_44 (fun a j hm => up_b (Decidable.or_iff_not_imp_left.mpr (fun h1 h2 => hm (Or.inl ⟨Decidable.not_not.mp h1, h2⟩))))
                      · refine v_ic_lt_f (t := 14) c_80_2 rfl ⟨by decide, (Int.not_lt.mp h_41), ha6.2⟩ (q_iload_n c_80_5 rfl (q_iload_n c_80_6 rfl ?_))
                        by_cases h_45 : a6 > 400
                        · refine v_ic_gt_t (t := 14) c_80_7 rfl ⟨by decide, h_45, ha6.2⟩ (q_iconst c_80_14 (v_zret c_80_15 rfl (by decide) (bk_inl (v_if_eq_t (t := 84) c_104_67 rfl (by decide) (q_iconst c_104_84 (v_cv c_104_85 km_7_161 rfl rfl (nb_ rfl) ⟨⟨rfl, rfl⟩, nb_ rfl, rfl⟩ (nb_ rfl) (nb_ rfl) (q_iload_n c_81_0 rfl ?_)))))))
                          refine v_if_ne_f (t := 25) c_81_1 rfl (by decide) (q_aload_n c_81_4 rfl (q_dup c_81_5 rfl ?_))
                          have h_46 := ir_0_13 hI
                          refine v_gi (z := 13) (v := c 0 13) c_81_6 kf_7_330 rfl (nb_ rfl) rfl rfl rfl (q_iconst c_81_9 (v_iadd (v := c 0 13 + 1) c_81_10 rfl (v_nrm (fun y_47 hy_47 => (v_pi (z := 13) c_81_11 kf_7_330 rfl (nb_ rfl) rfl rfl rfl (by decide) (v_new c_81_14 rfl (by decide) (ld_ rfl) (nb_ rfl) (by decide) rfl (bk_out rfl rfl ?_)))))))
                          have hI_48 := iw_0_13 (v := y_47) hI ⟨hy_47.1, hy_47.2⟩
                          exact T101 _ hI_48 (fun a j hm => up_b (Decidable.or_iff_not_imp_left.mpr (fun h1 h2 => hm (Or.inl ⟨Decidable.not_not.mp h1, h2⟩))))
                        · refine v_ic_gt_f (t := 14) c_80_7 rfl ⟨ha6.1, (Int.not_lt.mp h_45), by decide⟩ (q_iconst c_80_10 (q_goto (t := 15) c_80_11 rfl (v_zret c_80_15 rfl (by decide) (bk_inl (v_if_eq_f (t := 84) c_104_67 rfl (by decide) (q_iload c_104_70 rfl (q_iconst c_104_72 ?_)))))))
                          refine q_iconst c_104_73 (q_call c_104_74 rfl rfl rfl (q_iload_n c_80_0 rfl (q_iload_n c_80_1 rfl ?_)))
                          by_cases h_49 : a7 < 0
                          · refine v_ic_lt_t (t := 14) c_80_2 rfl ⟨ha7.1, h_49, by decide⟩ (q_iconst c_80_14 (v_zret c_80_15 rfl (by decide) (bk_inl (v_if_eq_t (t := 84) c_104_77 rfl (by decide) (q_iconst c_104_84 (v_cv c_104_85 km_7_161 rfl rfl (nb_ rfl) ⟨⟨rfl, rfl⟩, nb_ rfl, rfl⟩ (nb_ rfl) (nb_ rfl) (q_iload_n c_81_0 rfl ?_)))))))
                            refine v_if_ne_f (t := 25) c_81_1 rfl (by decide) (q_aload_n c_81_4 rfl (q_dup c_81_5 rfl ?_))
                            have h_50 := ir_0_13 hI
                            refine v_gi (z := 13) (v := c 0 13) c_81_6 kf_7_330 rfl (nb_ rfl) rfl rfl rfl (q_iconst c_81_9 (v_iadd (v := c 0 13 + 1) c_81_10 rfl (v_nrm (fun y_51 hy_51 => (v_pi (z := 13) c_81_11 kf_7_330 rfl (nb_ rfl) rfl rfl rfl (by decide) (v_new c_81_14 rfl (by decide) (ld_ rfl) (nb_ rfl) (by decide) rfl (bk_out rfl rfl ?_)))))))
                            have hI_52 := iw_0_13 (v := y_51) hI ⟨hy_51.1, hy_51.2⟩
                            exact T101 _ hI_52 (fun a j hm => up_b (Decidable.or_iff_not_imp_left.mpr (fun h1 h2 => hm (Or.inl ⟨Decidable.not_not.mp h1, h2⟩))))
                          · refine v_ic_lt_f (t := 14) c_80_2 rfl ⟨by decide, (Int.not_lt.mp h_49), ha7.2⟩ (q_iload_n c_80_5 rfl (q_iload_n c_80_6 rfl ?_))
                            by_cases h_53 : a7 > 5
                            · refine v_ic_gt_t (t := 14) c_80_7 rfl ⟨by decide, h_53, ha7.2⟩ (q_iconst c_80_14 (v_zret c_80_15 rfl (by decide) (bk_inl (v_if_eq_t (t := 84) c_104_77 rfl (by decide) (q_iconst c_104_84 (v_cv c_104_85 km_7_161 rfl rfl (nb_ rfl) ⟨⟨rfl, rfl⟩, nb_ rfl, rfl⟩ (nb_ rfl) (nb_ rfl) (q_iload_n c_81_0 rfl ?_)))))))
                              refine v_if_ne_f (t := 25) c_81_1 rfl (by decide) (q_aload_n c_81_4 rfl (q_dup c_81_5 rfl ?_))
                              have h_54 := ir_0_13 hI
                              refine v_gi (z := 13) (v := c 0 13) c_81_6 kf_7_330 rfl (nb_ rfl) rfl rfl rfl (q_iconst c_81_9 (v_iadd (v := c 0 13 + 1) c_81_10 rfl (v_nrm (fun y_55 hy_55 => (v_pi (z := 13) c_81_11 kf_7_330 rfl (nb_ rfl) rfl rfl rfl (by decide) (v_new c_81_14 rfl (by decide) (ld_ rfl) (nb_ rfl) (by decide) rfl (bk_out rfl rfl ?_)))))))
                              have hI_56 := iw_0_13 (v := y_55) hI ⟨hy_55.1, hy_55.2⟩
                              exact T101 _ hI_56 (fun a j hm => up_b (Decidable.or_iff_not_imp_left.mpr (fun h1 h2 => hm (Or.inl ⟨Decidable.not_not.mp h1, h2⟩))))
                            · refine v_ic_gt_f (t := 14) c_80_7 rfl ⟨ha7.1, (Int.not_lt.mp h_53), by decide⟩ (q_iconst c_80_10 (q_goto (t := 15) c_80_11 rfl (v_zret c_80_15 rfl (by decide) (bk_inl (v_if_eq_f (t := 84) c_104_77 rfl (by decide) (q_iconst c_104_80 (q_goto (t := 85) c_104_81 rfl ?_)))))))
                              refine v_cv c_104_85 km_7_161 rfl rfl (nb_ rfl) ⟨⟨rfl, rfl⟩, nb_ rfl, rfl⟩ (nb_ rfl) (nb_ rfl) (q_iload_n c_81_0 rfl (v_if_ne_t (t := 25) c_81_1 rfl (by decide) (q_vret rfl rfl (bk_inl (q_aload_n c_104_88 rfl (v_gr (t := P) c_104_89 kf_7_50 rfl (nb_ rfl) rfl (v_gr (t := (P + 7)) c_104_92 kf_7_109 (ck_p0 hP) (a68z hP) rfl ?_)))))))
                              refine q_iload_n c_104_95 rfl (q_iload_n c_104_96 rfl (q_iload_n c_104_97 rfl (q_iload c_104_98 rfl (q_iload c_104_100 rfl (q_iload c_104_102 rfl (q_iload c_104_104 rfl (v_cv c_104_106 km_7_226 rfl (ck_p7 hP) (a68 hP rfl) ⟨⟨rfl, rfl⟩, by decide, rfl⟩ (nb_ rfl) (nb_ rfl) (s_20 (a1 := a1) (a2 := a2) (a3 := a3) (a4 := a4) (a5 := a5) (a6 := a6) (a7 := a7) hI hP (show 0 ≤ a1 ∧ a1 ≤ 9999 from ⟨by first | exact q_720657ba9 h_1 | omega, by first | exact q_72f86bfab h_5 | omega⟩) (show 0 ≤ a2 ∧ a2 ≤ 9999 from ⟨by first | exact q_720657ba9 h_9 | omega, by first | exact q_72f86bfab h_13 | omega⟩) (show 0 ≤ a3 ∧ a3 ≤ 9999 from ⟨by first | exact q_720657ba9 h_17 | omega, by first | exact q_72f86bfab h_21 | omega⟩) (show 0 ≤ a4 ∧ a4 ≤ 9999 from ⟨by first | exact q_720657ba9 h_25 | omega, by first | exact q_72f86bfab h_29 | omega⟩) (show (-2147483648) ≤ a5 ∧ a5 ≤ 2147483647 from ha5) (show (-2147483648) ≤ a6 ∧ a6 ≤ 2147483647 from ha6) (show (-2147483648) ≤ a7 ∧ a7 ≤ 2147483647 from ha7) (fun c_57 y_60 hI_58 hF_59 hy_60 => ?_)))))))))
                              refine bk_inl (q_iret c_104_109 rfl ?_)
                              exact K c_57 y_60 hI_58 (fun a j hm => hF_59 a j (qv_3032f6718 hm)) ⟨(Int.le_trans (by decide) hy_60.1), (Int.le_trans hy_60.2 (by decide))⟩

set_option maxRecDepth 100000 in
set_option maxHeartbeats 4000000 in
theorem s_105_l {sc : List Int32} {e : Int} {d u P Q : Nat} {c : ME} {a1 : Int} {Z : AR → Prop} (hI : Iv u e P Q c) (ha1 : (-2147483648) ≤ a1 ∧ a1 ≤ 2147483647) (T101 : ∀ c2 : ME, Iv u e P Q c2 → (∀ (a : Nat) (j : Int), ¬ ((a = 0 ∧ j = 13) ∨ a = (P + 10) ∨ a = (P + 11)) → c2 a j = c a j) → Z (.inr 101, Wd P Q P P c2, 1, 6)) (K : ∀ (c2 : ME) (y : Int), Iv u e P Q c2 → (∀ (a : Nat) (j : Int), ¬ ((a = 0 ∧ j = 13) ∨ a = (P + 10) ∨ a = (P + 11)) → c2 a j = c a j) → (-2147483648) ≤ y ∧ y ≤ 2147483647 → Z (.inl (some (vi y)), Wd P Q P P c2, 0, 0)) : ∀ n : Nat, (∀ (c2 : ME) (v2 : Int) (v3 : Int) (v4 : Int), Iv u e P Q c2 → (∀ (a : Nat) (j : Int), ¬ ((a = 0 ∧ j = 13) ∨ a = (P + 10) ∨ a = (P + 11)) → c2 a j = c a j) → (-1) ≤ v2 ∧ v2 ≤ 5 → (-1) ≤ v3 ∧ v3 ≤ 99 → 0 ≤ v4 ∧ v4 ≤ 6 → 13 - 2 * v4 < (n : Int) → Wp sc (d + 10) 105 17 [(0, .ref 0), (1, vi a1), (2, vi v2), (3, vi v3), (4, vi v4)] [] (Wd P Q P P c2) 0 0 Z) := by
  intro n
  induction n with
  | zero => exact (by intro c2 v2 v3 v4 hI2 hF hv2 hv3 hv4 hm9; have hP := iv_P hI; have hQ := iv_Q hI; exfalso; omega)
  | succ n ih =>
    have hP := iv_P hI
    have hQ := iv_Q hI
    intro c2 v2 v3 v4 hI2 hF hv2 hv3 hv4 hm9
    refine q_iload c_105_17 rfl (q_aload_n c_105_19 rfl (v_gr (t := P) c_105_20 kf_7_50 rfl (nb_ rfl) rfl ?_))
    have h_1 := ir_p0_0 hI hP
    have kn_2 : Hid (c2 P 0 = c P 0) := hF P 0 (qn_ab81a8ac9 hP)
    refine v_gi (z := 0) (v := c P 0) c_105_23 kf_7_102 (ck_p0 hP) (a68z hP) rfl rfl (hid kn_2) ?_
    by_cases h_3 : v4 ≥ c P 0
    · refine v_ic_ge_t (t := 74) c_105_26 rfl ⟨by first | exact q_730ab5169 h_1 | omega, h_3, (Int.le_trans hv4.2 (by decide))⟩ (q_iload_n c_105_74 rfl ?_)
      by_cases h_4 : a1 ≠ 0
      · refine v_if_ne_t (t := 82) c_105_75 rfl ⟨h_4, ⟨ha1.1, ha1.2⟩, by decide, by decide⟩ (q_iload_n c_105_82 rfl (q_iret c_105_83 rfl ?_))
        exact K c2 v3 hI2 (fun a j hm => hF a j hm) ⟨(Int.le_trans (by decide) hv3.1), (Int.le_trans hv3.2 (by decide))⟩
      · refine v_if_ne_f (t := 82) c_105_75 rfl (Decidable.not_not.mp h_4) (q_iload_n c_105_78 rfl (q_goto (t := 83) c_105_79 rfl (q_iret c_105_83 rfl ?_)))
        exact K c2 v2 hI2 (fun a j hm => hF a j hm) ⟨(Int.le_trans (by decide) hv2.1), (Int.le_trans hv2.2 (by decide))⟩
    · refine v_ic_ge_f (t := 74) c_105_26 rfl ⟨(Int.le_trans (by decide) hv4.1), (Int.not_le.mp h_3), by first | exact q_b289b7db2 h_1 | omega⟩ (q_aload_n c_105_29 rfl (v_gr (t := 37) c_105_30 kf_7_62 rfl (nb_ rfl) rfl (q_iload c_105_33 rfl ?_)))
      have h_5 := ir_38_g hI (j := 4 * v4) (by first | exact q_aa51b186e h_1 h_3 | omega)
      have kn_6 : Hid (c2 38 (4 * v4) = c 38 (4 * v4)) := hF 38 (4 * v4) (qn_5876f74f1 hP)
      have h_7 := ir_38_g hI (j := 4 * v4 + 1) (by first | exact q_57851f9de h_1 h_3 | omega)
      have kn_8 : Hid (c2 38 (4 * v4 + 1) = c 38 (4 * v4 + 1)) := hF 38 (4 * v4 + 1) (qn_5876f74f1 hP)
      have h_9 := ir_38_g hI (j := 4 * v4 + 2) (by first | exact q_7296e74e6 h_1 h_3 | omega)
      have kn_10 : Hid (c2 38 (4 * v4 + 2) = c 38 (4 * v4 + 2)) := hF 38 (4 * v4 + 2) (qn_5876f74f1 hP)
      have h_11 := ir_38_g hI (j := 4 * v4 + 3) (by first | exact q_b15525c4c h_1 h_3 | omega)
      have kn_12 : Hid (c2 38 (4 * v4 + 3) = c 38 (4 * v4 + 3)) := hF 38 (4 * v4 + 3) (qn_5876f74f1 hP)
      refine v_cv c_105_35 km_7_187 rfl rfl (nb_ rfl) ⟨⟨rfl, rfl⟩, nb_ rfl, rfl⟩ (nb_ rfl) (nb_ rfl) (s_43 (v1 := c 38 (4 * v4)) (v2 := c 38 (4 * v4 + 1)) (v3 := c 38 (4 * v4 + 2)) (v4 := c 38 (4 * v4 + 3)) (r := c 38 (4 * v4 + 1) + c 38 (4 * v4 + 2) + c 38 (4 * v4 + 3) + c 38 (4 * v4)) (a1 := v4) hI2 (.inl ⟨rfl, rfl⟩) (show 0 ≤ v4 ∧ v4 ≤ 5 from ⟨hv4.1, by first | exact q_d63a8538e h_1 h_3 | omega⟩) ((hid kn_6)) ((hid kn_8)) ((hid kn_10)) ((hid kn_12)) (by omega) (bk_inl ?_))
      by_cases h_13 : c 38 (4 * v4 + 1) + c 38 (4 * v4 + 2) + c 38 (4 * v4 + 3) + c 38 (4 * v4) ≤ 0
      · refine v_if_le_t (t := 53) c_105_38 rfl ⟨by first | exact q_94559468f h_11 h_5 h_7 h_9 | omega, h_13, by decide⟩ (q_iconst c_105_53 (q_istore c_105_54 (nb_ rfl) (q_iload c_105_56 rfl (q_iload_n c_105_58 rfl (v_ic_le_t (t := 68) c_105_59 rfl ⟨by decide, (Int.le_trans (by decide) hv3.1), (Int.le_trans hv3.2 (by decide))⟩ (v_iinc (v := v4 + 1) c_105_68 rfl (nb_ rfl) rfl (q_goto (t := 17) c_105_71 rfl ?_)))))))
        refine Wp_ls [(0, .ref 0), (1, vi a1), (2, vi v2), (3, vi v3), (4, vi (v4 + 1))] (lsub_cons rfl (lsub_cons rfl (lsub_cons rfl (lsub_cons rfl (lsub_cons rfl lsub_nil))))) ?_
        exact ih c2 v2 v3 (v4 + 1) hI2 (fun a j hm => hF a j hm) hv2 hv3 ⟨by first | exact rgp_l hv4.1 (by decide) | omega, by first | exact q_4a76cd9c7 h_1 h_3 | omega⟩ (by omega)
      · refine v_if_le_f (t := 53) c_105_38 rfl ⟨by decide, (Int.not_le.mp h_13), by first | exact q_f81653045 h_11 h_5 h_7 h_9 | omega⟩ (q_aload_n c_105_41 rfl (v_gr (t := 37) c_105_42 kf_7_62 rfl (nb_ rfl) rfl (q_iload c_105_45 rfl (v_cv c_105_47 km_7_223 rfl rfl (nb_ rfl) ⟨⟨rfl, rfl⟩, nb_ rfl, rfl⟩ (nb_ rfl) (nb_ rfl) (s_56 (a1 := v4) hI2 (.inl ⟨rfl, rfl⟩) (show 0 ≤ v4 ∧ v4 ≤ 5 from ⟨hv4.1, by first | exact q_d63a8538e h_1 h_3 | omega⟩) (fun c_14 y_17 hI_15 hF_16 hy_17 => (bk_inl (q_goto (t := 54) c_105_50 rfl (q_istore c_105_54 (nb_ rfl) ?_)))))))))
        refine q_iload c_105_56 rfl (q_iload_n c_105_58 rfl ?_)
        by_cases h_18 : y_17 ≤ v3
        · refine v_ic_le_t (t := 68) c_105_59 rfl ⟨(Int.le_trans (by decide) hy_17.1), h_18, (Int.le_trans hv3.2 (by decide))⟩ (v_iinc (v := v4 + 1) c_105_68 rfl (nb_ rfl) rfl (q_goto (t := 17) c_105_71 rfl (Wp_ls [(0, .ref 0), (1, vi a1), (2, vi v2), (3, vi v3), (4, vi (v4 + 1))] (lsub_cons rfl (lsub_cons rfl (lsub_cons rfl (lsub_cons rfl (lsub_cons rfl lsub_nil))))) ?_)))
          exact ih c_14 v2 v3 (v4 + 1) hI_15 (fun a j hm => (hF_16 a j (qv_3032f6718 hm)).trans (hF a j hm)) hv2 hv3 ⟨by first | exact rgp_l hv4.1 (by decide) | omega, by first | exact q_4a76cd9c7 h_1 h_3 | omega⟩ (by omega)
        · refine v_ic_le_f (t := 68) c_105_59 rfl ⟨(Int.le_trans (by decide) hv3.1), (Int.not_le.mp h_18), (Int.le_trans hy_17.2 (by decide))⟩ (q_iload c_105_62 rfl (q_istore_n c_105_64 (nb_ rfl) (q_iload c_105_65 rfl (q_istore_n c_105_67 (nb_ rfl) (v_iinc (v := v4 + 1) c_105_68 rfl (nb_ rfl) rfl (q_goto (t := 17) c_105_71 rfl (Wp_ls [(0, .ref 0), (1, vi a1), (2, vi v4), (3, vi y_17), (4, vi (v4 + 1))] (lsub_cons rfl (lsub_cons rfl (lsub_cons rfl (lsub_cons rfl (lsub_cons rfl lsub_nil))))) ?_)))))))
          exact ih c_14 v4 y_17 (v4 + 1) hI_15 (fun a j hm => (hF_16 a j (qv_3032f6718 hm)).trans (hF a j hm)) ⟨(Int.le_trans (by decide) hv4.1), by first | exact q_d63a8538e h_1 h_3 | omega⟩ ⟨(Int.le_trans (by decide) hy_17.1), hy_17.2⟩ ⟨by first | exact rgp_l hv4.1 (by decide) | omega, by first | exact q_4a76cd9c7 h_1 h_3 | omega⟩ (by omega)
set_option maxRecDepth 100000 in
set_option maxHeartbeats 4000000 in
theorem s_105 {sc : List Int32} {e : Int} {d u P Q : Nat} {c : ME} {a1 : Int} {Z : AR → Prop} (hI : Iv u e P Q c) (ha1 : (-2147483648) ≤ a1 ∧ a1 ≤ 2147483647) (T101 : ∀ c2 : ME, Iv u e P Q c2 → (∀ (a : Nat) (j : Int), ¬ ((a = 0 ∧ j = 13) ∨ a = (P + 10) ∨ a = (P + 11)) → c2 a j = c a j) → Z (.inr 101, Wd P Q P P c2, 1, 6)) (K : ∀ (c2 : ME) (y : Int), Iv u e P Q c2 → (∀ (a : Nat) (j : Int), ¬ ((a = 0 ∧ j = 13) ∨ a = (P + 10) ∨ a = (P + 11)) → c2 a j = c a j) → (-2147483648) ≤ y ∧ y ≤ 2147483647 → Z (.inl (some (vi y)), Wd P Q P P c2, 0, 0)) : Wp sc (d + 10) 105 0 [(0, .ref 0), (1, vi a1)] [] (Wd P Q P P c) 0 0 Z := by
  have hP := iv_P hI
  have hQ := iv_Q hI
  refine q_aload_n c_105_0 rfl (q_iload_n c_105_1 rfl (q_iconst c_105_2 (q_iconst c_105_3 (q_call c_105_4 rfl rfl rfl (q_iload_n c_80_0 rfl (q_iload_n c_80_1 rfl ?_))))))
  by_cases h_19 : a1 < 0
  · refine v_ic_lt_t (t := 14) c_80_2 rfl ⟨ha1.1, h_19, by decide⟩ (q_iconst c_80_14 (v_zret c_80_15 rfl (by decide) (bk_inl (v_cv c_105_7 km_7_161 rfl rfl (nb_ rfl) ⟨⟨rfl, rfl⟩, nb_ rfl, rfl⟩ (nb_ rfl) (nb_ rfl) (q_iload_n c_81_0 rfl (v_if_ne_f (t := 25) c_81_1 rfl (by decide) (q_aload_n c_81_4 rfl ?_)))))))
    refine q_dup c_81_5 rfl ?_
    have h_20 := ir_0_13 hI
    refine v_gi (z := 13) (v := c 0 13) c_81_6 kf_7_330 rfl (nb_ rfl) rfl rfl rfl (q_iconst c_81_9 (v_iadd (v := c 0 13 + 1) c_81_10 rfl (v_nrm (fun y_21 hy_21 => (v_pi (z := 13) c_81_11 kf_7_330 rfl (nb_ rfl) rfl rfl rfl (by decide) (v_new c_81_14 rfl (by decide) (ld_ rfl) (nb_ rfl) (by decide) rfl (bk_out rfl rfl ?_)))))))
    have hI_22 := iw_0_13 (v := y_21) hI ⟨hy_21.1, hy_21.2⟩
    exact T101 _ hI_22 (fun a j hm => up_b (Decidable.or_iff_not_imp_left.mpr (fun h1 h2 => hm (Or.inl ⟨Decidable.not_not.mp h1, h2⟩))))
  · refine v_ic_lt_f (t := 14) c_80_2 rfl ⟨by decide, (Int.not_lt.mp h_19), ha1.2⟩ (q_iload_n c_80_5 rfl (q_iload_n c_80_6 rfl ?_))
    by_cases h_23 : a1 > 1
    · refine v_ic_gt_t (t := 14) c_80_7 rfl ⟨by decide, h_23, ha1.2⟩ (q_iconst c_80_14 (v_zret c_80_15 rfl (by decide) (bk_inl (v_cv c_105_7 km_7_161 rfl rfl (nb_ rfl) ⟨⟨rfl, rfl⟩, nb_ rfl, rfl⟩ (nb_ rfl) (nb_ rfl) (q_iload_n c_81_0 rfl (v_if_ne_f (t := 25) c_81_1 rfl (by decide) (q_aload_n c_81_4 rfl ?_)))))))
      refine q_dup c_81_5 rfl ?_
      have h_24 := ir_0_13 hI
      refine v_gi (z := 13) (v := c 0 13) c_81_6 kf_7_330 rfl (nb_ rfl) rfl rfl rfl (q_iconst c_81_9 (v_iadd (v := c 0 13 + 1) c_81_10 rfl (v_nrm (fun y_25 hy_25 => (v_pi (z := 13) c_81_11 kf_7_330 rfl (nb_ rfl) rfl rfl rfl (by decide) (v_new c_81_14 rfl (by decide) (ld_ rfl) (nb_ rfl) (by decide) rfl (bk_out rfl rfl ?_)))))))
      have hI_26 := iw_0_13 (v := y_25) hI ⟨hy_25.1, hy_25.2⟩
      exact T101 _ hI_26 (fun a j hm => up_b (Decidable.or_iff_not_imp_left.mpr (fun h1 h2 => hm (Or.inl ⟨Decidable.not_not.mp h1, h2⟩))))
    · refine v_ic_gt_f (t := 14) c_80_7 rfl ⟨ha1.1, (Int.not_lt.mp h_23), by decide⟩ (q_iconst c_80_10 (q_goto (t := 15) c_80_11 rfl (v_zret c_80_15 rfl (by decide) (bk_inl (v_cv c_105_7 km_7_161 rfl rfl (nb_ rfl) ⟨⟨rfl, rfl⟩, nb_ rfl, rfl⟩ (nb_ rfl) (nb_ rfl) (q_iload_n c_81_0 rfl (v_if_ne_t (t := 25) c_81_1 rfl (by decide) ?_)))))))
      refine q_vret rfl rfl (bk_inl (q_iconst c_105_10 (q_istore_n c_105_11 (nb_ rfl) (q_iconst c_105_12 (q_istore_n c_105_13 (nb_ rfl) (q_iconst c_105_14 (q_istore c_105_15 (nb_ rfl) ?_)))))))
      refine Wp_ls [(0, .ref 0), (1, vi a1), (2, vi (-1)), (3, vi (-1)), (4, vi 0)] (lsub_cons rfl (lsub_cons rfl (lsub_cons rfl (lsub_cons rfl (lsub_cons rfl lsub_nil))))) ?_
      exact (s_105_l (sc := sc) (d := d) hI ha1 T101 K 16) c (-1) (-1) 0 hI (fun a j hm => rfl) ⟨by decide, by decide⟩ ⟨by decide, by decide⟩ ⟨by decide, by decide⟩ (by omega)

set_option maxRecDepth 100000 in
set_option maxHeartbeats 4000000 in
theorem s_106_l {sc : List Int32} {e : Int} {d u P Q : Nat} {c : ME} {Z : AR → Prop} (hI : Iv u e P Q c)  (K : ∀ (c2 : ME) (y : Int), Iv u e P Q c2 → (∀ (a : Nat) (j : Int), ¬ (a = (P + 10) ∨ a = (P + 11)) → c2 a j = c a j) → (-2147483648) ≤ y ∧ y ≤ 2147483647 → Z (.inl (some (vi y)), Wd P Q P P c2, 0, 0)) : ∀ n : Nat, (∀ (c2 : ME) (v1 : Int) (v2 : Int), Iv u e P Q c2 → (∀ (a : Nat) (j : Int), ¬ (a = (P + 10) ∨ a = (P + 11)) → c2 a j = c a j) → (-2147483648) ≤ v1 ∧ v1 ≤ 2147483647 → 0 ≤ v2 ∧ v2 ≤ 6 → 13 - 2 * v2 < (n : Int) → Wp sc (d + 11) 106 4 [(0, .ref 0), (1, vi v1), (2, vi v2)] [] (Wd P Q P P c2) 0 0 Z) := by
  intro n
  induction n with
  | zero => exact (by intro c2 v1 v2 hI2 hF hv1 hv2 hm9; have hP := iv_P hI; have hQ := iv_Q hI; exfalso; omega)
  | succ n ih =>
    have hP := iv_P hI
    have hQ := iv_Q hI
    intro c2 v1 v2 hI2 hF hv1 hv2 hm9
    refine q_iload_n c_106_4 rfl (q_aload_n c_106_5 rfl (v_gr (t := P) c_106_6 kf_7_50 rfl (nb_ rfl) rfl ?_))
    have h_1 := ir_p0_0 hI hP
    have kn_2 : Hid (c2 P 0 = c P 0) := hF P 0 (fun q => q.elim (fun h => absurd h (p0p rfl)) (fun h => absurd h (p0p rfl)))
    refine v_gi (z := 0) (v := c P 0) c_106_9 kf_7_102 (ck_p0 hP) (a68z hP) rfl rfl (hid kn_2) ?_
    by_cases h_3 : v2 ≥ c P 0
    · refine v_ic_ge_t (t := 38) c_106_12 rfl ⟨by first | exact q_730ab5169 h_1 | omega, h_3, (Int.le_trans hv2.2 (by decide))⟩ (q_iload_n c_106_38 rfl (q_iret c_106_39 rfl ?_))
      exact K c2 v1 hI2 (fun a j hm => hF a j hm) hv1
    · refine v_ic_ge_f (t := 38) c_106_12 rfl ⟨(Int.le_trans (by decide) hv2.1), (Int.not_le.mp h_3), by first | exact q_b289b7db2 h_1 | omega⟩ (q_aload_n c_106_15 rfl (v_gr (t := 37) c_106_16 kf_7_62 rfl (nb_ rfl) rfl (q_iload_n c_106_19 rfl (v_cv c_106_20 km_7_230 rfl rfl (nb_ rfl) ⟨⟨rfl, rfl⟩, nb_ rfl, rfl⟩ (nb_ rfl) (nb_ rfl) (s_57 (a1 := v2) hI2 (.inl ⟨rfl, rfl⟩) (show 0 ≤ v2 ∧ v2 ≤ 5 from ⟨hv2.1, by first | exact q_d63a8538e h_1 h_3 | omega⟩) (fun c_4 y_7 hI_5 hF_6 hy_7 => (bk_inl ?_)))))))
      by_cases h_8 : y_7 = 0
      · refine v_if_eq_t (t := 32) c_106_23 rfl h_8 (v_iinc (v := v2 + 1) c_106_32 rfl (nb_ rfl) rfl (q_goto (t := 4) c_106_35 rfl (Wp_ls [(0, .ref 0), (1, vi v1), (2, vi (v2 + 1))] (lsub_cons rfl (lsub_cons rfl (lsub_cons rfl lsub_nil))) ?_)))
        exact ih c_4 v1 (v2 + 1) hI_5 (fun a j hm => (hF_6 a j hm).trans (hF a j hm)) hv1 ⟨by first | exact rgp_l hv2.1 (by decide) | omega, by first | exact q_4a76cd9c7 h_1 h_3 | omega⟩ (by omega)
      · refine v_if_eq_f (t := 32) c_106_23 rfl ⟨h_8, ⟨(Int.le_trans (by decide) hy_7.1), (Int.le_trans hy_7.2 (by decide))⟩, by decide, by decide⟩ (q_iload_n c_106_26 rfl (q_iconst c_106_27 (q_iload_n c_106_28 rfl (v_shl1 c_106_29 ⟨by omega, by omega⟩ (fun y_9 hy_9 => (v_iorx c_106_30 (fun y_10 hy_10 => (q_istore_n c_106_31 (nb_ rfl) (v_iinc (v := v2 + 1) c_106_32 rfl (nb_ rfl) rfl ?_)))))))))
        refine q_goto (t := 4) c_106_35 rfl (Wp_ls [(0, .ref 0), (1, vi y_10), (2, vi (v2 + 1))] (lsub_cons rfl (lsub_cons rfl (lsub_cons rfl lsub_nil))) ?_)
        exact ih c_4 y_10 (v2 + 1) hI_5 (fun a j hm => (hF_6 a j hm).trans (hF a j hm)) hy_10 ⟨by first | exact rgp_l hv2.1 (by decide) | omega, by first | exact q_4a76cd9c7 h_1 h_3 | omega⟩ (by omega)
set_option maxRecDepth 100000 in
set_option maxHeartbeats 4000000 in
theorem s_106 {sc : List Int32} {e : Int} {d u P Q : Nat} {c : ME} {Z : AR → Prop} (hI : Iv u e P Q c)  (K : ∀ (c2 : ME) (y : Int), Iv u e P Q c2 → (∀ (a : Nat) (j : Int), ¬ (a = (P + 10) ∨ a = (P + 11)) → c2 a j = c a j) → (-2147483648) ≤ y ∧ y ≤ 2147483647 → Z (.inl (some (vi y)), Wd P Q P P c2, 0, 0)) : Wp sc (d + 11) 106 0 [(0, .ref 0)] [] (Wd P Q P P c) 0 0 Z := by
  have hP := iv_P hI
  have hQ := iv_Q hI
  refine q_iconst c_106_0 (q_istore_n c_106_1 (nb_ rfl) (q_iconst c_106_2 (q_istore_n c_106_3 (nb_ rfl) (Wp_ls [(0, .ref 0), (1, vi 0), (2, vi 0)] (lsub_cons rfl (lsub_cons rfl (lsub_cons rfl lsub_nil))) ?_))))
  exact (s_106_l (sc := sc) (d := d) hI K 16) c 0 0 hI (fun a j hm => rfl) ⟨by decide, by decide⟩ ⟨by decide, by decide⟩ (by omega)

set_option maxRecDepth 100000 in
set_option maxHeartbeats 4000000 in
theorem s_107_l {sc : List Int32} {e : Int} {d u P Q : Nat} {c : ME} {Z : AR → Prop} (hI : Iv u e P Q c)  (K : ∀ (c2 : ME) (y : Int), Iv u e P Q c2 → (∀ (a : Nat) (j : Int), ¬ (a = (P + 10) ∨ a = (P + 11)) → c2 a j = c a j) → (-2147483648) ≤ y ∧ y ≤ 2147483647 → Z (.inl (some (vi y)), Wd P Q P P c2, 0, 0)) : ∀ n : Nat, (∀ (c2 : ME) (v1 : Int) (v2 : Int), Iv u e P Q c2 → (∀ (a : Nat) (j : Int), ¬ (a = (P + 10) ∨ a = (P + 11)) → c2 a j = c a j) → (-2147483648) ≤ v1 ∧ v1 ≤ 2147483647 → 0 ≤ v2 ∧ v2 ≤ 6 → 13 - 2 * v2 < (n : Int) → Wp sc (d + 11) 107 4 [(0, .ref 0), (1, vi v1), (2, vi v2)] [] (Wd P Q P P c2) 0 0 Z) := by
  intro n
  induction n with
  | zero => exact (by intro c2 v1 v2 hI2 hF hv1 hv2 hm9; have hP := iv_P hI; have hQ := iv_Q hI; exfalso; omega)
  | succ n ih =>
    have hP := iv_P hI
    have hQ := iv_Q hI
    intro c2 v1 v2 hI2 hF hv1 hv2 hm9
    refine q_iload_n c_107_4 rfl (q_aload_n c_107_5 rfl (v_gr (t := P) c_107_6 kf_7_50 rfl (nb_ rfl) rfl ?_))
    have h_1 := ir_p0_0 hI hP
    have kn_2 : Hid (c2 P 0 = c P 0) := hF P 0 (fun q => q.elim (fun h => absurd h (p0p rfl)) (fun h => absurd h (p0p rfl)))
    refine v_gi (z := 0) (v := c P 0) c_107_9 kf_7_102 (ck_p0 hP) (a68z hP) rfl rfl (hid kn_2) ?_
    by_cases h_3 : v2 ≥ c P 0
    · refine v_ic_ge_t (t := 46) c_107_12 rfl ⟨by first | exact q_730ab5169 h_1 | omega, h_3, (Int.le_trans hv2.2 (by decide))⟩ (q_iload_n c_107_46 rfl (q_iret c_107_47 rfl ?_))
      exact K c2 v1 hI2 (fun a j hm => hF a j hm) hv1
    · refine v_ic_ge_f (t := 46) c_107_12 rfl ⟨(Int.le_trans (by decide) hv2.1), (Int.not_le.mp h_3), by first | exact q_b289b7db2 h_1 | omega⟩ (q_aload_n c_107_15 rfl (v_gr (t := 37) c_107_16 kf_7_62 rfl (nb_ rfl) rfl (q_iload_n c_107_19 rfl (v_cv c_107_20 km_7_230 rfl rfl (nb_ rfl) ⟨⟨rfl, rfl⟩, nb_ rfl, rfl⟩ (nb_ rfl) (nb_ rfl) (s_57 (a1 := v2) hI2 (.inl ⟨rfl, rfl⟩) (show 0 ≤ v2 ∧ v2 ≤ 5 from ⟨hv2.1, by first | exact q_d63a8538e h_1 h_3 | omega⟩) (fun c_4 y_7 hI_5 hF_6 hy_7 => (bk_inl ?_)))))))
      by_cases h_8 : y_7 = 0
      · refine v_if_eq_t (t := 40) c_107_23 rfl h_8 (v_iinc (v := v2 + 1) c_107_40 rfl (nb_ rfl) rfl (q_goto (t := 4) c_107_43 rfl (Wp_ls [(0, .ref 0), (1, vi v1), (2, vi (v2 + 1))] (lsub_cons rfl (lsub_cons rfl (lsub_cons rfl lsub_nil))) ?_)))
        exact ih c_4 v1 (v2 + 1) hI_5 (fun a j hm => (hF_6 a j hm).trans (hF a j hm)) hv1 ⟨by first | exact rgp_l hv2.1 (by decide) | omega, by first | exact q_4a76cd9c7 h_1 h_3 | omega⟩ (by omega)
      · refine v_if_eq_f (t := 40) c_107_23 rfl ⟨h_8, ⟨(Int.le_trans (by decide) hy_7.1), (Int.le_trans hy_7.2 (by decide))⟩, by decide, by decide⟩ (q_iload_n c_107_26 rfl (q_aload_n c_107_27 rfl (v_gr (t := 37) c_107_28 kf_7_62 rfl (nb_ rfl) rfl (q_iload_n c_107_31 rfl ?_))))
        have h_9 := ir_38_g hI (j := 4 * v2) (by first | exact q_aa51b186e h_1 h_3 | omega)
        have kn_10 : Hid (c2 38 (4 * v2) = c 38 (4 * v2)) := hF 38 (4 * v2) (qn_4bb47e378 hP)
        have kn_11 : Hid (c_4 38 (4 * v2) = c 38 (4 * v2)) := (hF_6 38 (4 * v2) (qn_4bb47e378 hP)).trans (hid kn_10)
        have h_12 := ir_38_g hI (j := 4 * v2 + 1) (by first | exact q_57851f9de h_1 h_3 | omega)
        have kn_13 : Hid (c2 38 (4 * v2 + 1) = c 38 (4 * v2 + 1)) := hF 38 (4 * v2 + 1) (qn_4bb47e378 hP)
        have kn_14 : Hid (c_4 38 (4 * v2 + 1) = c 38 (4 * v2 + 1)) := (hF_6 38 (4 * v2 + 1) (qn_4bb47e378 hP)).trans (hid kn_13)
        have h_15 := ir_38_g hI (j := 4 * v2 + 2) (by first | exact q_7296e74e6 h_1 h_3 | omega)
        have kn_16 : Hid (c2 38 (4 * v2 + 2) = c 38 (4 * v2 + 2)) := hF 38 (4 * v2 + 2) (qn_4bb47e378 hP)
        have kn_17 : Hid (c_4 38 (4 * v2 + 2) = c 38 (4 * v2 + 2)) := (hF_6 38 (4 * v2 + 2) (qn_4bb47e378 hP)).trans (hid kn_16)
        have h_18 := ir_38_g hI (j := 4 * v2 + 3) (by first | exact q_b15525c4c h_1 h_3 | omega)
        have kn_19 : Hid (c2 38 (4 * v2 + 3) = c 38 (4 * v2 + 3)) := hF 38 (4 * v2 + 3) (qn_4bb47e378 hP)
        have kn_20 : Hid (c_4 38 (4 * v2 + 3) = c 38 (4 * v2 + 3)) := (hF_6 38 (4 * v2 + 3) (qn_4bb47e378 hP)).trans (hid kn_19)
        refine v_cv c_107_32 km_7_187 rfl rfl (nb_ rfl) ⟨⟨rfl, rfl⟩, nb_ rfl, rfl⟩ (nb_ rfl) (nb_ rfl) (s_43 (v1 := c 38 (4 * v2)) (v2 := c 38 (4 * v2 + 1)) (v3 := c 38 (4 * v2 + 2)) (v4 := c 38 (4 * v2 + 3)) (r := c 38 (4 * v2 + 1) + c 38 (4 * v2 + 2) + c 38 (4 * v2 + 3) + c 38 (4 * v2)) (a1 := v2) hI_5 (.inl ⟨rfl, rfl⟩) (show 0 ≤ v2 ∧ v2 ≤ 5 from ⟨hv2.1, by first | exact q_d63a8538e h_1 h_3 | omega⟩) ((hid kn_11)) ((hid kn_14)) ((hid kn_17)) ((hid kn_20)) (by omega) (bk_inl (v_bip c_107_35 (by decide) (v_idiv (v := ((c 38 (4 * v2 + 1) + c 38 (4 * v2 + 2) + c 38 (4 * v2 + 3) + c 38 (4 * v2)) / 10)) rfl (by omega) rfl (v_iadd (v := ((c 38 (4 * v2 + 1) + c 38 (4 * v2 + 2) + c 38 (4 * v2 + 3) + c 38 (4 * v2)) / 10) + v1) rfl (by first | exact q_893c89ded | omega) (v_nrm (fun y_21 hy_21 => (q_istore_n c_107_39 (nb_ rfl) (v_iinc (v := v2 + 1) c_107_40 rfl (nb_ rfl) rfl ?_)))))))))
        refine q_goto (t := 4) c_107_43 rfl (Wp_ls [(0, .ref 0), (1, vi y_21), (2, vi (v2 + 1))] (lsub_cons rfl (lsub_cons rfl (lsub_cons rfl lsub_nil))) ?_)
        exact ih c_4 y_21 (v2 + 1) hI_5 (fun a j hm => (hF_6 a j hm).trans (hF a j hm)) hy_21 ⟨by first | exact rgp_l hv2.1 (by decide) | omega, by first | exact q_4a76cd9c7 h_1 h_3 | omega⟩ (by omega)
set_option maxRecDepth 100000 in
set_option maxHeartbeats 4000000 in
theorem s_107 {sc : List Int32} {e : Int} {d u P Q : Nat} {c : ME} {Z : AR → Prop} (hI : Iv u e P Q c)  (K : ∀ (c2 : ME) (y : Int), Iv u e P Q c2 → (∀ (a : Nat) (j : Int), ¬ (a = (P + 10) ∨ a = (P + 11)) → c2 a j = c a j) → (-2147483648) ≤ y ∧ y ≤ 2147483647 → Z (.inl (some (vi y)), Wd P Q P P c2, 0, 0)) : Wp sc (d + 11) 107 0 [(0, .ref 0)] [] (Wd P Q P P c) 0 0 Z := by
  have hP := iv_P hI
  have hQ := iv_Q hI
  refine q_iconst c_107_0 (q_istore_n c_107_1 (nb_ rfl) (q_iconst c_107_2 (q_istore_n c_107_3 (nb_ rfl) (Wp_ls [(0, .ref 0), (1, vi 0), (2, vi 0)] (lsub_cons rfl (lsub_cons rfl (lsub_cons rfl lsub_nil))) ?_))))
  exact (s_107_l (sc := sc) (d := d) hI K 16) c 0 0 hI (fun a j hm => rfl) ⟨by decide, by decide⟩ ⟨by decide, by decide⟩ (by omega)

set_option maxRecDepth 100000 in
set_option maxHeartbeats 4000000 in
theorem s_108 {sc : List Int32} {d P Q : Nat} {c : ME} {a1 : Int} {a2 : Int} {Z : AR → Prop} (hI : Iv 0 (-1) P Q c) (ha1 : (-2147483648) ≤ a1 ∧ a1 ≤ 2147483647) (ha2 : (-2147483648) ≤ a2 ∧ a2 ≤ 2147483647) (T100 : ∀ c2 : ME, Iv 0 (-1) P Q c2 → (∀ (a : Nat) (j : Int), ¬ ((a = 0 ∧ j = 12) ∨ a = (P + 10) ∨ a = (P + 11) ∨ a = 40) → c2 a j = c a j) → Z (.inr 100, Wd P Q P P c2, 1, 6)) (K : ∀ (c2 : ME) (y : Int), Iv 0 (-1) P Q c2 → (∀ (a : Nat) (j : Int), ¬ ((a = 0 ∧ j = 12) ∨ a = (P + 10) ∨ a = (P + 11) ∨ a = 40) → c2 a j = c a j) → (-2147483648) ≤ y ∧ y ≤ 2147483647 → Z (.inl (some (vi y)), Wd P Q P P c2, 0, 0)) : Wp sc (d + 11) 108 0 [(0, .ref 0), (1, vi a1), (2, vi a2)] [] (Wd P Q P P c) 0 0 Z := by
  have hP := iv_P hI
  have hQ := iv_Q hI
  refine q_aload_n c_108_0 rfl (q_iload_n c_108_1 rfl (v_cv c_108_2 km_7_184 rfl rfl (nb_ rfl) ⟨⟨rfl, rfl⟩, nb_ rfl, rfl⟩ (nb_ rfl) (nb_ rfl) (q_aload_n c_92_0 rfl (q_iload_n c_92_1 rfl (q_iconst c_92_2 (q_aload_n c_92_3 rfl (v_gr (t := P) c_92_4 kf_7_50 rfl (nb_ rfl) rfl ?_)))))))
  have h_1 := ir_p0_0 hI hP
  refine v_gi (z := 0) (v := c P 0) c_92_7 kf_7_102 (ck_p0 hP) (a68z hP) rfl rfl rfl (q_iconst c_92_10 (v_isub (v := c P 0 - 1) c_92_11 rfl (q_call c_92_12 rfl rfl rfl (q_iload_n c_80_0 rfl (q_iload_n c_80_1 rfl ?_)))))
  by_cases h_2 : a1 < 0
  · refine v_ic_lt_t (t := 14) c_80_2 rfl ⟨ha1.1, h_2, by decide⟩ (q_iconst c_80_14 (v_zret c_80_15 rfl (by decide) (bk_inl (v_cv c_92_15 km_7_333 rfl rfl (nb_ rfl) ⟨⟨rfl, rfl⟩, nb_ rfl, rfl⟩ (nb_ rfl) (nb_ rfl) (q_iload_n c_91_0 rfl (v_if_ne_f (t := 25) c_91_1 rfl (by decide) (q_aload_n c_91_4 rfl ?_)))))))
    refine q_dup c_91_5 rfl ?_
    have h_3 := ir_0_12 hI
    refine v_gi (z := 12) (v := c 0 12) c_91_6 kf_7_327 rfl (nb_ rfl) rfl rfl rfl (q_iconst c_91_9 (v_iadd (v := c 0 12 + 1) c_91_10 rfl (v_nrm (fun y_4 hy_4 => (v_pi (z := 12) c_91_11 kf_7_327 rfl (nb_ rfl) rfl rfl rfl (by decide) (v_new c_91_14 rfl (by decide) (ld_ rfl) (nb_ rfl) (by decide) rfl (bk_out rfl rfl (bk_out rfl rfl ?_))))))))
    have hI_5 := iw_0_12 (v := y_4) hI ⟨hy_4.1, hy_4.2⟩
    exact T100 _ hI_5 (fun a j hm => up_b (Decidable.or_iff_not_imp_left.mpr (fun h1 h2 => hm (Or.inl ⟨Decidable.not_not.mp h1, h2⟩))))
  · refine v_ic_lt_f (t := 14) c_80_2 rfl ⟨by decide, (Int.not_lt.mp h_2), ha1.2⟩ (q_iload_n c_80_5 rfl (q_iload_n c_80_6 rfl ?_))
    by_cases h_6 : a1 > c P 0 - 1
    · refine v_ic_gt_t (t := 14) c_80_7 rfl ⟨by first | exact rgm_l h_1.1 (by decide) | omega, h_6, ha1.2⟩ (q_iconst c_80_14 (v_zret c_80_15 rfl (by decide) (bk_inl (v_cv c_92_15 km_7_333 rfl rfl (nb_ rfl) ⟨⟨rfl, rfl⟩, nb_ rfl, rfl⟩ (nb_ rfl) (nb_ rfl) (q_iload_n c_91_0 rfl (v_if_ne_f (t := 25) c_91_1 rfl (by decide) (q_aload_n c_91_4 rfl ?_)))))))
      refine q_dup c_91_5 rfl ?_
      have h_7 := ir_0_12 hI
      refine v_gi (z := 12) (v := c 0 12) c_91_6 kf_7_327 rfl (nb_ rfl) rfl rfl rfl (q_iconst c_91_9 (v_iadd (v := c 0 12 + 1) c_91_10 rfl (v_nrm (fun y_8 hy_8 => (v_pi (z := 12) c_91_11 kf_7_327 rfl (nb_ rfl) rfl rfl rfl (by decide) (v_new c_91_14 rfl (by decide) (ld_ rfl) (nb_ rfl) (by decide) rfl (bk_out rfl rfl (bk_out rfl rfl ?_))))))))
      have hI_9 := iw_0_12 (v := y_8) hI ⟨hy_8.1, hy_8.2⟩
      exact T100 _ hI_9 (fun a j hm => up_b (Decidable.or_iff_not_imp_left.mpr (fun h1 h2 => hm (Or.inl ⟨Decidable.not_not.mp h1, h2⟩))))
    · refine v_ic_gt_f (t := 14) c_80_7 rfl ⟨ha1.1, (Int.not_lt.mp h_6), by first | exact rgm_h h_1.2 (by decide) | omega⟩ (q_iconst c_80_10 (q_goto (t := 15) c_80_11 rfl (v_zret c_80_15 rfl (by decide) (bk_inl (v_cv c_92_15 km_7_333 rfl rfl (nb_ rfl) ⟨⟨rfl, rfl⟩, nb_ rfl, rfl⟩ (nb_ rfl) (nb_ rfl) (q_iload_n c_91_0 rfl (v_if_ne_t (t := 25) c_91_1 rfl (by decide) ?_)))))))
      refine q_vret rfl rfl (bk_inl (q_vret rfl rfl (bk_inl (q_aload_n c_108_5 rfl (q_iload_n c_108_6 rfl (v_cv c_108_7 km_7_184 rfl rfl (nb_ rfl) ⟨⟨rfl, rfl⟩, nb_ rfl, rfl⟩ (nb_ rfl) (nb_ rfl) (q_aload_n c_92_0 rfl ?_)))))))
      refine q_iload_n c_92_1 rfl (q_iconst c_92_2 (q_aload_n c_92_3 rfl (v_gr (t := P) c_92_4 kf_7_50 rfl (nb_ rfl) rfl (v_gi (z := 0) (v := c P 0) c_92_7 kf_7_102 (ck_p0 hP) (a68z hP) rfl rfl rfl (q_iconst c_92_10 (v_isub (v := c P 0 - 1) c_92_11 rfl (q_call c_92_12 rfl rfl rfl ?_)))))))
      refine q_iload_n c_80_0 rfl (q_iload_n c_80_1 rfl ?_)
      by_cases h_10 : a2 < 0
      · refine v_ic_lt_t (t := 14) c_80_2 rfl ⟨ha2.1, h_10, by decide⟩ (q_iconst c_80_14 (v_zret c_80_15 rfl (by decide) (bk_inl (v_cv c_92_15 km_7_333 rfl rfl (nb_ rfl) ⟨⟨rfl, rfl⟩, nb_ rfl, rfl⟩ (nb_ rfl) (nb_ rfl) (q_iload_n c_91_0 rfl (v_if_ne_f (t := 25) c_91_1 rfl (by decide) (q_aload_n c_91_4 rfl ?_)))))))
        refine q_dup c_91_5 rfl ?_
        have h_11 := ir_0_12 hI
        refine v_gi (z := 12) (v := c 0 12) c_91_6 kf_7_327 rfl (nb_ rfl) rfl rfl rfl (q_iconst c_91_9 (v_iadd (v := c 0 12 + 1) c_91_10 rfl (v_nrm (fun y_12 hy_12 => (v_pi (z := 12) c_91_11 kf_7_327 rfl (nb_ rfl) rfl rfl rfl (by decide) (v_new c_91_14 rfl (by decide) (ld_ rfl) (nb_ rfl) (by decide) rfl (bk_out rfl rfl (bk_out rfl rfl ?_))))))))
        have hI_13 := iw_0_12 (v := y_12) hI ⟨hy_12.1, hy_12.2⟩
        exact T100 _ hI_13 (fun a j hm => up_b (Decidable.or_iff_not_imp_left.mpr (fun h1 h2 => hm (Or.inl ⟨Decidable.not_not.mp h1, h2⟩))))
      · refine v_ic_lt_f (t := 14) c_80_2 rfl ⟨by decide, (Int.not_lt.mp h_10), ha2.2⟩ (q_iload_n c_80_5 rfl (q_iload_n c_80_6 rfl ?_))
        by_cases h_14 : a2 > c P 0 - 1
        · refine v_ic_gt_t (t := 14) c_80_7 rfl ⟨by first | exact rgm_l h_1.1 (by decide) | omega, h_14, ha2.2⟩ (q_iconst c_80_14 (v_zret c_80_15 rfl (by decide) (bk_inl (v_cv c_92_15 km_7_333 rfl rfl (nb_ rfl) ⟨⟨rfl, rfl⟩, nb_ rfl, rfl⟩ (nb_ rfl) (nb_ rfl) (q_iload_n c_91_0 rfl (v_if_ne_f (t := 25) c_91_1 rfl (by decide) (q_aload_n c_91_4 rfl ?_)))))))
          refine q_dup c_91_5 rfl ?_
          have h_15 := ir_0_12 hI
          refine v_gi (z := 12) (v := c 0 12) c_91_6 kf_7_327 rfl (nb_ rfl) rfl rfl rfl (q_iconst c_91_9 (v_iadd (v := c 0 12 + 1) c_91_10 rfl (v_nrm (fun y_16 hy_16 => (v_pi (z := 12) c_91_11 kf_7_327 rfl (nb_ rfl) rfl rfl rfl (by decide) (v_new c_91_14 rfl (by decide) (ld_ rfl) (nb_ rfl) (by decide) rfl (bk_out rfl rfl (bk_out rfl rfl ?_))))))))
          have hI_17 := iw_0_12 (v := y_16) hI ⟨hy_16.1, hy_16.2⟩
          exact T100 _ hI_17 (fun a j hm => up_b (Decidable.or_iff_not_imp_left.mpr (fun h1 h2 => hm (Or.inl ⟨Decidable.not_not.mp h1, h2⟩))))
        · refine v_ic_gt_f (t := 14) c_80_7 rfl ⟨ha2.1, (Int.not_lt.mp h_14), by first | exact rgm_h h_1.2 (by decide) | omega⟩ (q_iconst c_80_10 (q_goto (t := 15) c_80_11 rfl (v_zret c_80_15 rfl (by decide) (bk_inl (v_cv c_92_15 km_7_333 rfl rfl (nb_ rfl) ⟨⟨rfl, rfl⟩, nb_ rfl, rfl⟩ (nb_ rfl) (nb_ rfl) (q_iload_n c_91_0 rfl (v_if_ne_t (t := 25) c_91_1 rfl (by decide) ?_)))))))
          refine q_vret rfl rfl (bk_inl (q_vret rfl rfl (bk_inl (q_aload_n c_108_10 rfl (v_gr (t := 39) c_108_11 kf_7_66 rfl (nb_ rfl) rfl (q_aload_n c_108_14 rfl (v_gr (t := 37) c_108_15 kf_7_62 rfl (nb_ rfl) rfl ?_)))))))
          refine v_cv c_108_18 km_7_233 rfl rfl (nb_ rfl) ⟨⟨rfl, rfl⟩, nb_ rfl, rfl⟩ (nb_ rfl) (nb_ rfl) (s_66 hI (fun c_18 hI_19 hF_20 => (bk_inl (q_aload_n c_108_21 rfl (v_gr (t := 39) c_108_22 kf_7_66 rfl (nb_ rfl) rfl (q_iload_n c_108_25 rfl (q_iload_n c_108_26 rfl (v_cv c_108_27 km_7_236 rfl rfl (nb_ rfl) ⟨⟨rfl, rfl⟩, nb_ rfl, rfl⟩ (nb_ rfl) (nb_ rfl) (s_55 (a1 := a1) (a2 := a2) hI_19 (.inr ⟨rfl, rfl⟩) (show 0 ≤ a1 ∧ a1 ≤ 5 from ⟨by first | exact q_720657ba9 h_2 | omega, by first | exact q_3a2e67ab0 h_1 h_6 | omega⟩) (show 0 ≤ a2 ∧ a2 ≤ 5 from ⟨by first | exact q_720657ba9 h_10 | omega, by first | exact q_3a2e67ab0 h_1 h_14 | omega⟩) (fun c_21 y_24 hI_22 hF_23 hy_24 => (bk_inl ?_)))))))))))
          by_cases h_25 : y_24 = 0
          · refine v_if_eq_t (t := 44) c_108_30 rfl h_25 (q_iconst c_108_44 (q_iret c_108_45 rfl ?_))
            exact K c_21 (-1) hI_22 (fun a j hm => (hF_23 a j (fun h => hm (Or.inr (Or.inr (Or.inr h))))).trans (hF_20 a j (fun h => hm (Or.inr (Or.inr (Or.inr h)))))) ⟨by decide, by decide⟩
          · refine v_if_eq_f (t := 44) c_108_30 rfl ⟨h_25, ⟨(Int.le_trans (by decide) hy_24.1), (Int.le_trans hy_24.2 (by decide))⟩, by decide, by decide⟩ (q_aload_n c_108_33 rfl (v_gr (t := 39) c_108_34 kf_7_66 rfl (nb_ rfl) rfl (q_iload_n c_108_37 rfl (v_cv c_108_38 km_7_223 rfl rfl (nb_ rfl) ⟨⟨rfl, rfl⟩, nb_ rfl, rfl⟩ (nb_ rfl) (nb_ rfl) (s_56 (a1 := a2) hI_22 (.inr ⟨rfl, rfl⟩) (show 0 ≤ a2 ∧ a2 ≤ 5 from ⟨by first | exact q_720657ba9 h_10 | omega, by first | exact q_3a2e67ab0 h_1 h_14 | omega⟩) (fun c_26 y_29 hI_27 hF_28 hy_29 => (bk_inl (q_goto (t := 45) c_108_41 rfl (q_iret c_108_45 rfl ?_)))))))))
            exact K c_26 y_29 hI_27 (fun a j hm => (hF_28 a j (qv_da6bc483e hm)).trans ((hF_23 a j (fun h => hm (Or.inr (Or.inr (Or.inr h))))).trans (hF_20 a j (fun h => hm (Or.inr (Or.inr (Or.inr h))))))) ⟨(Int.le_trans (by decide) hy_29.1), (Int.le_trans hy_29.2 (by decide))⟩

set_option maxRecDepth 100000 in
set_option maxHeartbeats 4000000 in
theorem s_109_l {sc : List Int32} {d P Q : Nat} {c : ME} {a1 : Int} {Z : AR → Prop} (hI : Iv 0 (-1) P Q c) (ha1 : (-2147483648) ≤ a1 ∧ a1 ≤ 2147483647) (T100 : ∀ c2 : ME, Iv 0 (-1) P Q c2 → (∀ (a : Nat) (j : Int), ¬ ((a = 0 ∧ j = 12) ∨ a = (P + 10) ∨ a = (P + 11) ∨ a = 40) → c2 a j = c a j) → Z (.inr 100, Wd P Q P P c2, 1, 6)) (K : ∀ (c2 : ME) (y : Int), Iv 0 (-1) P Q c2 → (∀ (a : Nat) (j : Int), ¬ ((a = 0 ∧ j = 12) ∨ a = (P + 10) ∨ a = (P + 11) ∨ a = 40) → c2 a j = c a j) → (-2147483648) ≤ y ∧ y ≤ 2147483647 → Z (.inl (some (vi y)), Wd P Q P P c2, 0, 0)) : ∀ n : Nat, (∀ (c2 : ME) (v2 : Int), Iv 0 (-1) P Q c2 → (∀ (a : Nat) (j : Int), ¬ ((a = 0 ∧ j = 12) ∨ a = (P + 10) ∨ a = (P + 11) ∨ a = 40) → c2 a j = c a j) → 0 ≤ v2 ∧ v2 ≤ 100 → ((a1 ≥ 0 ∧ a1 ≤ 5)) → 201 - 2 * v2 < (n : Int) → Wp sc (d + 11) 109 18 [(0, .ref 0), (1, vi a1), (2, vi v2)] [] (Wd P Q P P c2) 0 0 Z) := by
  intro n
  induction n with
  | zero => exact (by intro c2 v2 hI2 hF hv2 hx0 hm9; have hP := iv_P hI; have hQ := iv_Q hI; exfalso; omega)
  | succ n ih =>
    have hP := iv_P hI
    have hQ := iv_Q hI
    intro c2 v2 hI2 hF hv2 hx0 hm9
    refine q_iload_n c_109_18 rfl (v_bip c_109_19 (by decide) ?_)
    by_cases h_1 : v2 > 99
    · refine v_ic_gt_t (t := 55) c_109_21 rfl ⟨by decide, h_1, (Int.le_trans hv2.2 (by decide))⟩ (q_iconst c_109_55 (q_iret c_109_56 rfl ?_))
      exact K c2 (-1) hI2 (fun a j hm => hF a j hm) ⟨by decide, by decide⟩
    · refine v_ic_gt_f (t := 55) c_109_21 rfl ⟨(Int.le_trans (by decide) hv2.1), (Int.not_lt.mp h_1), by decide⟩ (q_aload_n c_109_24 rfl (v_gr (t := 39) c_109_25 kf_7_66 rfl (nb_ rfl) rfl (q_iload_n c_109_28 rfl (v_cv c_109_29 km_7_230 rfl rfl (nb_ rfl) ⟨⟨rfl, rfl⟩, nb_ rfl, rfl⟩ (nb_ rfl) (nb_ rfl) (s_57 (a1 := a1) hI2 (.inr ⟨rfl, rfl⟩) (show 0 ≤ a1 ∧ a1 ≤ 5 from ⟨by omega, by omega⟩) (fun c_2 y_5 hI_3 hF_4 hy_5 => (bk_inl ?_)))))))
      by_cases h_6 : y_5 = 0
      · refine v_if_eq_t (t := 37) c_109_32 rfl h_6 (q_aload_n c_109_37 rfl (v_gr (t := 39) c_109_38 kf_7_66 rfl (nb_ rfl) rfl (v_cv c_109_41 km_7_240 rfl rfl (nb_ rfl) ⟨⟨rfl, rfl⟩, nb_ rfl, rfl⟩ (nb_ rfl) (nb_ rfl) (s_60 hI_3 (.inr ⟨rfl, rfl⟩) (fun c_7 y_10 hI_8 hF_9 hy_10 => (bk_inl ?_))))))
        by_cases h_11 : y_10 ≠ 0
        · refine v_if_ne_t (t := 49) c_109_44 rfl ⟨h_11, ⟨(Int.le_trans (by decide) hy_10.1), (Int.le_trans hy_10.2 (by decide))⟩, by decide, by decide⟩ (v_iinc (v := v2 + 1) c_109_49 rfl (nb_ rfl) rfl (q_goto (t := 18) c_109_52 rfl (Wp_ls [(0, .ref 0), (1, vi a1), (2, vi (v2 + 1))] (lsub_cons rfl (lsub_cons rfl (lsub_cons rfl lsub_nil))) ?_)))
          exact ih c_7 (v2 + 1) hI_8 (fun a j hm => (hF_9 a j (fun h => hm (Or.inr (Or.inr (Or.inr h))))).trans ((hF_4 a j (qv_da6bc483e hm)).trans (hF a j hm))) ⟨by first | exact rgp_l hv2.1 (by decide) | omega, by first | exact q_1eecf77db h_1 | omega⟩ ⟨by first | (clear ha1 hv2 h_1 h_6 h_11; omega) | omega, by first | (clear ha1 hv2 h_1 h_6 h_11; omega) | omega⟩ (by omega)
        · refine v_if_ne_f (t := 49) c_109_44 rfl (Decidable.not_not.mp h_11) (q_iconst c_109_47 (q_iret c_109_48 rfl ?_))
          exact K c_7 (-1) hI_8 (fun a j hm => (hF_9 a j (fun h => hm (Or.inr (Or.inr (Or.inr h))))).trans ((hF_4 a j (qv_da6bc483e hm)).trans (hF a j hm))) ⟨by decide, by decide⟩
      · refine v_if_eq_f (t := 37) c_109_32 rfl ⟨h_6, ⟨(Int.le_trans (by decide) hy_5.1), (Int.le_trans hy_5.2 (by decide))⟩, by decide, by decide⟩ (q_iload_n c_109_35 rfl (q_iret c_109_36 rfl ?_))
        exact K c_2 v2 hI_3 (fun a j hm => (hF_4 a j (qv_da6bc483e hm)).trans (hF a j hm)) ⟨(Int.le_trans (by decide) hv2.1), (Int.le_trans hv2.2 (by decide))⟩
set_option maxRecDepth 100000 in
set_option maxHeartbeats 4000000 in
theorem s_109 {sc : List Int32} {d P Q : Nat} {c : ME} {a1 : Int} {Z : AR → Prop} (hI : Iv 0 (-1) P Q c) (ha1 : (-2147483648) ≤ a1 ∧ a1 ≤ 2147483647) (T100 : ∀ c2 : ME, Iv 0 (-1) P Q c2 → (∀ (a : Nat) (j : Int), ¬ ((a = 0 ∧ j = 12) ∨ a = (P + 10) ∨ a = (P + 11) ∨ a = 40) → c2 a j = c a j) → Z (.inr 100, Wd P Q P P c2, 1, 6)) (K : ∀ (c2 : ME) (y : Int), Iv 0 (-1) P Q c2 → (∀ (a : Nat) (j : Int), ¬ ((a = 0 ∧ j = 12) ∨ a = (P + 10) ∨ a = (P + 11) ∨ a = 40) → c2 a j = c a j) → (-2147483648) ≤ y ∧ y ≤ 2147483647 → Z (.inl (some (vi y)), Wd P Q P P c2, 0, 0)) : Wp sc (d + 11) 109 0 [(0, .ref 0), (1, vi a1)] [] (Wd P Q P P c) 0 0 Z := by
  have hP := iv_P hI
  have hQ := iv_Q hI
  refine q_aload_n c_109_0 rfl (q_iload_n c_109_1 rfl (v_cv c_109_2 km_7_184 rfl rfl (nb_ rfl) ⟨⟨rfl, rfl⟩, nb_ rfl, rfl⟩ (nb_ rfl) (nb_ rfl) (q_aload_n c_92_0 rfl (q_iload_n c_92_1 rfl (q_iconst c_92_2 (q_aload_n c_92_3 rfl (v_gr (t := P) c_92_4 kf_7_50 rfl (nb_ rfl) rfl ?_)))))))
  have h_12 := ir_p0_0 hI hP
  refine v_gi (z := 0) (v := c P 0) c_92_7 kf_7_102 (ck_p0 hP) (a68z hP) rfl rfl rfl (q_iconst c_92_10 (v_isub (v := c P 0 - 1) c_92_11 rfl (q_call c_92_12 rfl rfl rfl (q_iload_n c_80_0 rfl (q_iload_n c_80_1 rfl ?_)))))
  by_cases h_13 : a1 < 0
  · refine v_ic_lt_t (t := 14) c_80_2 rfl ⟨ha1.1, h_13, by decide⟩ (q_iconst c_80_14 (v_zret c_80_15 rfl (by decide) (bk_inl (v_cv c_92_15 km_7_333 rfl rfl (nb_ rfl) ⟨⟨rfl, rfl⟩, nb_ rfl, rfl⟩ (nb_ rfl) (nb_ rfl) (q_iload_n c_91_0 rfl (v_if_ne_f (t := 25) c_91_1 rfl (by decide) (q_aload_n c_91_4 rfl ?_)))))))
    refine q_dup c_91_5 rfl ?_
    have h_14 := ir_0_12 hI
    refine v_gi (z := 12) (v := c 0 12) c_91_6 kf_7_327 rfl (nb_ rfl) rfl rfl rfl (q_iconst c_91_9 (v_iadd (v := c 0 12 + 1) c_91_10 rfl (v_nrm (fun y_15 hy_15 => (v_pi (z := 12) c_91_11 kf_7_327 rfl (nb_ rfl) rfl rfl rfl (by decide) (v_new c_91_14 rfl (by decide) (ld_ rfl) (nb_ rfl) (by decide) rfl (bk_out rfl rfl (bk_out rfl rfl ?_))))))))
    have hI_16 := iw_0_12 (v := y_15) hI ⟨hy_15.1, hy_15.2⟩
    exact T100 _ hI_16 (fun a j hm => up_b (Decidable.or_iff_not_imp_left.mpr (fun h1 h2 => hm (Or.inl ⟨Decidable.not_not.mp h1, h2⟩))))
  · refine v_ic_lt_f (t := 14) c_80_2 rfl ⟨by decide, (Int.not_lt.mp h_13), ha1.2⟩ (q_iload_n c_80_5 rfl (q_iload_n c_80_6 rfl ?_))
    by_cases h_17 : a1 > c P 0 - 1
    · refine v_ic_gt_t (t := 14) c_80_7 rfl ⟨by first | exact rgm_l h_12.1 (by decide) | omega, h_17, ha1.2⟩ (q_iconst c_80_14 (v_zret c_80_15 rfl (by decide) (bk_inl (v_cv c_92_15 km_7_333 rfl rfl (nb_ rfl) ⟨⟨rfl, rfl⟩, nb_ rfl, rfl⟩ (nb_ rfl) (nb_ rfl) (q_iload_n c_91_0 rfl (v_if_ne_f (t := 25) c_91_1 rfl (by decide) (q_aload_n c_91_4 rfl ?_)))))))
      refine q_dup c_91_5 rfl ?_
      have h_18 := ir_0_12 hI
      refine v_gi (z := 12) (v := c 0 12) c_91_6 kf_7_327 rfl (nb_ rfl) rfl rfl rfl (q_iconst c_91_9 (v_iadd (v := c 0 12 + 1) c_91_10 rfl (v_nrm (fun y_19 hy_19 => (v_pi (z := 12) c_91_11 kf_7_327 rfl (nb_ rfl) rfl rfl rfl (by decide) (v_new c_91_14 rfl (by decide) (ld_ rfl) (nb_ rfl) (by decide) rfl (bk_out rfl rfl (bk_out rfl rfl ?_))))))))
      have hI_20 := iw_0_12 (v := y_19) hI ⟨hy_19.1, hy_19.2⟩
      exact T100 _ hI_20 (fun a j hm => up_b (Decidable.or_iff_not_imp_left.mpr (fun h1 h2 => hm (Or.inl ⟨Decidable.not_not.mp h1, h2⟩))))
    · refine v_ic_gt_f (t := 14) c_80_7 rfl ⟨ha1.1, (Int.not_lt.mp h_17), by first | exact rgm_h h_12.2 (by decide) | omega⟩ (q_iconst c_80_10 (q_goto (t := 15) c_80_11 rfl (v_zret c_80_15 rfl (by decide) (bk_inl (v_cv c_92_15 km_7_333 rfl rfl (nb_ rfl) ⟨⟨rfl, rfl⟩, nb_ rfl, rfl⟩ (nb_ rfl) (nb_ rfl) (q_iload_n c_91_0 rfl (v_if_ne_t (t := 25) c_91_1 rfl (by decide) ?_)))))))
      refine q_vret rfl rfl (bk_inl (q_vret rfl rfl (bk_inl (q_aload_n c_109_5 rfl (v_gr (t := 39) c_109_6 kf_7_66 rfl (nb_ rfl) rfl (q_aload_n c_109_9 rfl (v_gr (t := 37) c_109_10 kf_7_62 rfl (nb_ rfl) rfl ?_)))))))
      refine v_cv c_109_13 km_7_233 rfl rfl (nb_ rfl) ⟨⟨rfl, rfl⟩, nb_ rfl, rfl⟩ (nb_ rfl) (nb_ rfl) (s_66 hI (fun c_21 hI_22 hF_23 => (bk_inl (q_iconst c_109_16 (q_istore_n c_109_17 (nb_ rfl) (Wp_ls [(0, .ref 0), (1, vi a1), (2, vi 0)] (lsub_cons rfl (lsub_cons rfl (lsub_cons rfl lsub_nil))) ?_))))))
      exact (s_109_l (sc := sc) (d := d) hI ha1 T100 K 204) c_21 0 hI_22 (fun a j hm => hF_23 a j (fun h => hm (Or.inr (Or.inr (Or.inr h))))) ⟨by decide, by decide⟩ ⟨by first | exact q_720657ba9 h_13 | omega, by first | exact q_3a2e67ab0 h_12 h_17 | omega⟩ (by omega)

set_option maxRecDepth 100000 in
set_option maxHeartbeats 4000000 in
theorem s_110 {sc : List Int32} {d P Q : Nat} {c : ME} {a1 : Int} {a2 : Int} {a3 : Int} {Z : AR → Prop} (hI : Iv 0 (-1) P Q c) (ha1 : (-2147483648) ≤ a1 ∧ a1 ≤ 2147483647) (ha2 : (-2147483648) ≤ a2 ∧ a2 ≤ 2147483647) (ha3 : (-2147483648) ≤ a3 ∧ a3 ≤ 2147483647) (T100 : ∀ c2 : ME, Iv 0 (-1) P Q c2 → (∀ (a : Nat) (j : Int), ¬ ((a = 0 ∧ j = 12) ∨ (a = 0 ∧ j = 13) ∨ a = 40) → c2 a j = c a j) → Z (.inr 100, Wd P Q P P c2, 1, 6)) (T101 : ∀ c2 : ME, Iv 0 (-1) P Q c2 → (∀ (a : Nat) (j : Int), ¬ ((a = 0 ∧ j = 12) ∨ (a = 0 ∧ j = 13) ∨ a = 40) → c2 a j = c a j) → Z (.inr 101, Wd P Q P P c2, 1, 6)) (K : ∀ (c2 : ME) (y : Int), Iv 0 (-1) P Q c2 → (∀ (a : Nat) (j : Int), ¬ ((a = 0 ∧ j = 12) ∨ (a = 0 ∧ j = 13) ∨ a = 40) → c2 a j = c a j) → (-2147483648) ≤ y ∧ y ≤ 2147483647 → Z (.inl (some (vi y)), Wd P Q P P c2, 0, 0)) : Wp sc (d + 9) 110 0 [(0, .ref 0), (1, vi a1), (2, vi a2), (3, vi a3)] [] (Wd P Q P P c) 0 0 Z := by
  have hP := iv_P hI
  have hQ := iv_Q hI
  refine q_aload_n c_110_0 rfl (q_iload_n c_110_1 rfl (v_cv c_110_2 km_7_200 rfl rfl (nb_ rfl) ⟨⟨rfl, rfl⟩, nb_ rfl, rfl⟩ (nb_ rfl) (nb_ rfl) (q_aload_n c_94_0 rfl (q_iload_n c_94_1 rfl (q_iconst c_94_2 (q_aload_n c_94_3 rfl (v_gr (t := P) c_94_4 kf_7_50 rfl (nb_ rfl) rfl ?_)))))))
  have h_1 := ir_p0_1 hI hP
  refine v_gi (z := 1) (v := c P 1) c_94_7 kf_7_165 (ck_p0 hP) (a68z hP) rfl rfl rfl (q_iconst c_94_10 (v_isub (v := c P 1 - 1) c_94_11 rfl (q_call c_94_12 rfl rfl rfl (q_iload_n c_80_0 rfl (q_iload_n c_80_1 rfl ?_)))))
  by_cases h_2 : a1 < 0
  · refine v_ic_lt_t (t := 14) c_80_2 rfl ⟨ha1.1, h_2, by decide⟩ (q_iconst c_80_14 (v_zret c_80_15 rfl (by decide) (bk_inl (v_cv c_94_15 km_7_333 rfl rfl (nb_ rfl) ⟨⟨rfl, rfl⟩, nb_ rfl, rfl⟩ (nb_ rfl) (nb_ rfl) (q_iload_n c_91_0 rfl (v_if_ne_f (t := 25) c_91_1 rfl (by decide) (q_aload_n c_91_4 rfl ?_)))))))
    refine q_dup c_91_5 rfl ?_
    have h_3 := ir_0_12 hI
    refine v_gi (z := 12) (v := c 0 12) c_91_6 kf_7_327 rfl (nb_ rfl) rfl rfl rfl (q_iconst c_91_9 (v_iadd (v := c 0 12 + 1) c_91_10 rfl (v_nrm (fun y_4 hy_4 => (v_pi (z := 12) c_91_11 kf_7_327 rfl (nb_ rfl) rfl rfl rfl (by decide) (v_new c_91_14 rfl (by decide) (ld_ rfl) (nb_ rfl) (by decide) rfl (bk_out rfl rfl (bk_out rfl rfl ?_))))))))
    have hI_5 := iw_0_12 (v := y_4) hI ⟨hy_4.1, hy_4.2⟩
    exact T100 _ hI_5 (fun a j hm => up_b (Decidable.or_iff_not_imp_left.mpr (fun h1 h2 => hm (Or.inl ⟨Decidable.not_not.mp h1, h2⟩))))
  · refine v_ic_lt_f (t := 14) c_80_2 rfl ⟨by decide, (Int.not_lt.mp h_2), ha1.2⟩ (q_iload_n c_80_5 rfl (q_iload_n c_80_6 rfl ?_))
    by_cases h_6 : a1 > c P 1 - 1
    · refine v_ic_gt_t (t := 14) c_80_7 rfl ⟨by first | exact rgm_l h_1.1 (by decide) | omega, h_6, ha1.2⟩ (q_iconst c_80_14 (v_zret c_80_15 rfl (by decide) (bk_inl (v_cv c_94_15 km_7_333 rfl rfl (nb_ rfl) ⟨⟨rfl, rfl⟩, nb_ rfl, rfl⟩ (nb_ rfl) (nb_ rfl) (q_iload_n c_91_0 rfl (v_if_ne_f (t := 25) c_91_1 rfl (by decide) (q_aload_n c_91_4 rfl ?_)))))))
      refine q_dup c_91_5 rfl ?_
      have h_7 := ir_0_12 hI
      refine v_gi (z := 12) (v := c 0 12) c_91_6 kf_7_327 rfl (nb_ rfl) rfl rfl rfl (q_iconst c_91_9 (v_iadd (v := c 0 12 + 1) c_91_10 rfl (v_nrm (fun y_8 hy_8 => (v_pi (z := 12) c_91_11 kf_7_327 rfl (nb_ rfl) rfl rfl rfl (by decide) (v_new c_91_14 rfl (by decide) (ld_ rfl) (nb_ rfl) (by decide) rfl (bk_out rfl rfl (bk_out rfl rfl ?_))))))))
      have hI_9 := iw_0_12 (v := y_8) hI ⟨hy_8.1, hy_8.2⟩
      exact T100 _ hI_9 (fun a j hm => up_b (Decidable.or_iff_not_imp_left.mpr (fun h1 h2 => hm (Or.inl ⟨Decidable.not_not.mp h1, h2⟩))))
    · refine v_ic_gt_f (t := 14) c_80_7 rfl ⟨ha1.1, (Int.not_lt.mp h_6), by first | exact rgm_h h_1.2 (by decide) | omega⟩ (q_iconst c_80_10 (q_goto (t := 15) c_80_11 rfl (v_zret c_80_15 rfl (by decide) (bk_inl (v_cv c_94_15 km_7_333 rfl rfl (nb_ rfl) ⟨⟨rfl, rfl⟩, nb_ rfl, rfl⟩ (nb_ rfl) (nb_ rfl) (q_iload_n c_91_0 rfl (v_if_ne_t (t := 25) c_91_1 rfl (by decide) ?_)))))))
      refine q_vret rfl rfl (bk_inl (q_vret rfl rfl (bk_inl (q_aload_n c_110_5 rfl (q_iload_n c_110_6 rfl (v_cv c_110_7 km_7_184 rfl rfl (nb_ rfl) ⟨⟨rfl, rfl⟩, nb_ rfl, rfl⟩ (nb_ rfl) (nb_ rfl) (q_aload_n c_92_0 rfl ?_)))))))
      refine q_iload_n c_92_1 rfl (q_iconst c_92_2 (q_aload_n c_92_3 rfl (v_gr (t := P) c_92_4 kf_7_50 rfl (nb_ rfl) rfl ?_)))
      have h_10 := ir_p0_0 hI hP
      refine v_gi (z := 0) (v := c P 0) c_92_7 kf_7_102 (ck_p0 hP) (a68z hP) rfl rfl rfl (q_iconst c_92_10 (v_isub (v := c P 0 - 1) c_92_11 rfl (q_call c_92_12 rfl rfl rfl (q_iload_n c_80_0 rfl (q_iload_n c_80_1 rfl ?_)))))
      by_cases h_11 : a2 < 0
      · refine v_ic_lt_t (t := 14) c_80_2 rfl ⟨ha2.1, h_11, by decide⟩ (q_iconst c_80_14 (v_zret c_80_15 rfl (by decide) (bk_inl (v_cv c_92_15 km_7_333 rfl rfl (nb_ rfl) ⟨⟨rfl, rfl⟩, nb_ rfl, rfl⟩ (nb_ rfl) (nb_ rfl) (q_iload_n c_91_0 rfl (v_if_ne_f (t := 25) c_91_1 rfl (by decide) (q_aload_n c_91_4 rfl ?_)))))))
        refine q_dup c_91_5 rfl ?_
        have h_12 := ir_0_12 hI
        refine v_gi (z := 12) (v := c 0 12) c_91_6 kf_7_327 rfl (nb_ rfl) rfl rfl rfl (q_iconst c_91_9 (v_iadd (v := c 0 12 + 1) c_91_10 rfl (v_nrm (fun y_13 hy_13 => (v_pi (z := 12) c_91_11 kf_7_327 rfl (nb_ rfl) rfl rfl rfl (by decide) (v_new c_91_14 rfl (by decide) (ld_ rfl) (nb_ rfl) (by decide) rfl (bk_out rfl rfl (bk_out rfl rfl ?_))))))))
        have hI_14 := iw_0_12 (v := y_13) hI ⟨hy_13.1, hy_13.2⟩
        exact T100 _ hI_14 (fun a j hm => up_b (Decidable.or_iff_not_imp_left.mpr (fun h1 h2 => hm (Or.inl ⟨Decidable.not_not.mp h1, h2⟩))))
      · refine v_ic_lt_f (t := 14) c_80_2 rfl ⟨by decide, (Int.not_lt.mp h_11), ha2.2⟩ (q_iload_n c_80_5 rfl (q_iload_n c_80_6 rfl ?_))
        by_cases h_15 : a2 > c P 0 - 1
        · refine v_ic_gt_t (t := 14) c_80_7 rfl ⟨by first | exact rgm_l h_10.1 (by decide) | omega, h_15, ha2.2⟩ (q_iconst c_80_14 (v_zret c_80_15 rfl (by decide) (bk_inl (v_cv c_92_15 km_7_333 rfl rfl (nb_ rfl) ⟨⟨rfl, rfl⟩, nb_ rfl, rfl⟩ (nb_ rfl) (nb_ rfl) (q_iload_n c_91_0 rfl (v_if_ne_f (t := 25) c_91_1 rfl (by decide) (q_aload_n c_91_4 rfl ?_)))))))
          refine q_dup c_91_5 rfl ?_
          have h_16 := ir_0_12 hI
          refine v_gi (z := 12) (v := c 0 12) c_91_6 kf_7_327 rfl (nb_ rfl) rfl rfl rfl (q_iconst c_91_9 (v_iadd (v := c 0 12 + 1) c_91_10 rfl (v_nrm (fun y_17 hy_17 => (v_pi (z := 12) c_91_11 kf_7_327 rfl (nb_ rfl) rfl rfl rfl (by decide) (v_new c_91_14 rfl (by decide) (ld_ rfl) (nb_ rfl) (by decide) rfl (bk_out rfl rfl (bk_out rfl rfl ?_))))))))
          have hI_18 := iw_0_12 (v := y_17) hI ⟨hy_17.1, hy_17.2⟩
          exact T100 _ hI_18 (fun a j hm => up_b (Decidable.or_iff_not_imp_left.mpr (fun h1 h2 => hm (Or.inl ⟨Decidable.not_not.mp h1, h2⟩))))
        · refine v_ic_gt_f (t := 14) c_80_7 rfl ⟨ha2.1, (Int.not_lt.mp h_15), by first | exact rgm_h h_10.2 (by decide) | omega⟩ (q_iconst c_80_10 (q_goto (t := 15) c_80_11 rfl (v_zret c_80_15 rfl (by decide) (bk_inl (v_cv c_92_15 km_7_333 rfl rfl (nb_ rfl) ⟨⟨rfl, rfl⟩, nb_ rfl, rfl⟩ (nb_ rfl) (nb_ rfl) (q_iload_n c_91_0 rfl (v_if_ne_t (t := 25) c_91_1 rfl (by decide) ?_)))))))
          refine q_vret rfl rfl (bk_inl (q_vret rfl rfl (bk_inl (q_aload_n c_110_10 rfl (q_iload_n c_110_11 rfl (q_iconst c_110_12 (q_iconst c_110_13 ?_)))))))
          refine q_call c_110_14 rfl rfl rfl (q_iload_n c_80_0 rfl (q_iload_n c_80_1 rfl ?_))
          by_cases h_19 : a3 < 0
          · refine v_ic_lt_t (t := 14) c_80_2 rfl ⟨ha3.1, h_19, by decide⟩ (q_iconst c_80_14 (v_zret c_80_15 rfl (by decide) (bk_inl (v_cv c_110_17 km_7_161 rfl rfl (nb_ rfl) ⟨⟨rfl, rfl⟩, nb_ rfl, rfl⟩ (nb_ rfl) (nb_ rfl) (q_iload_n c_81_0 rfl (v_if_ne_f (t := 25) c_81_1 rfl (by decide) (q_aload_n c_81_4 rfl ?_)))))))
            refine q_dup c_81_5 rfl ?_
            have h_20 := ir_0_13 hI
            refine v_gi (z := 13) (v := c 0 13) c_81_6 kf_7_330 rfl (nb_ rfl) rfl rfl rfl (q_iconst c_81_9 (v_iadd (v := c 0 13 + 1) c_81_10 rfl (v_nrm (fun y_21 hy_21 => (v_pi (z := 13) c_81_11 kf_7_330 rfl (nb_ rfl) rfl rfl rfl (by decide) (v_new c_81_14 rfl (by decide) (ld_ rfl) (nb_ rfl) (by decide) rfl (bk_out rfl rfl ?_)))))))
            have hI_22 := iw_0_13 (v := y_21) hI ⟨hy_21.1, hy_21.2⟩
            exact T101 _ hI_22 (fun a j hm => up_b (Decidable.or_iff_not_imp_left.mpr (fun h1 h2 => hm (Or.inr (Or.inl ⟨Decidable.not_not.mp h1, h2⟩)))))
          · refine v_ic_lt_f (t := 14) c_80_2 rfl ⟨by decide, (Int.not_lt.mp h_19), ha3.2⟩ (q_iload_n c_80_5 rfl (q_iload_n c_80_6 rfl ?_))
            by_cases h_23 : a3 > 4
            · refine v_ic_gt_t (t := 14) c_80_7 rfl ⟨by decide, h_23, ha3.2⟩ (q_iconst c_80_14 (v_zret c_80_15 rfl (by decide) (bk_inl (v_cv c_110_17 km_7_161 rfl rfl (nb_ rfl) ⟨⟨rfl, rfl⟩, nb_ rfl, rfl⟩ (nb_ rfl) (nb_ rfl) (q_iload_n c_81_0 rfl (v_if_ne_f (t := 25) c_81_1 rfl (by decide) (q_aload_n c_81_4 rfl ?_)))))))
              refine q_dup c_81_5 rfl ?_
              have h_24 := ir_0_13 hI
              refine v_gi (z := 13) (v := c 0 13) c_81_6 kf_7_330 rfl (nb_ rfl) rfl rfl rfl (q_iconst c_81_9 (v_iadd (v := c 0 13 + 1) c_81_10 rfl (v_nrm (fun y_25 hy_25 => (v_pi (z := 13) c_81_11 kf_7_330 rfl (nb_ rfl) rfl rfl rfl (by decide) (v_new c_81_14 rfl (by decide) (ld_ rfl) (nb_ rfl) (by decide) rfl (bk_out rfl rfl ?_)))))))
              have hI_26 := iw_0_13 (v := y_25) hI ⟨hy_25.1, hy_25.2⟩
              exact T101 _ hI_26 (fun a j hm => up_b (Decidable.or_iff_not_imp_left.mpr (fun h1 h2 => hm (Or.inr (Or.inl ⟨Decidable.not_not.mp h1, h2⟩)))))
            · refine v_ic_gt_f (t := 14) c_80_7 rfl ⟨ha3.1, (Int.not_lt.mp h_23), by decide⟩ (q_iconst c_80_10 (q_goto (t := 15) c_80_11 rfl (v_zret c_80_15 rfl (by decide) (bk_inl (v_cv c_110_17 km_7_161 rfl rfl (nb_ rfl) ⟨⟨rfl, rfl⟩, nb_ rfl, rfl⟩ (nb_ rfl) (nb_ rfl) (q_iload_n c_81_0 rfl (v_if_ne_t (t := 25) c_81_1 rfl (by decide) ?_)))))))
              refine q_vret rfl rfl (bk_inl (q_aload_n c_110_20 rfl (v_gr (t := 39) c_110_21 kf_7_66 rfl (nb_ rfl) rfl (q_aload_n c_110_24 rfl (v_gr (t := 37) c_110_25 kf_7_62 rfl (nb_ rfl) rfl (v_cv c_110_28 km_7_233 rfl rfl (nb_ rfl) ⟨⟨rfl, rfl⟩, nb_ rfl, rfl⟩ (nb_ rfl) (nb_ rfl) (s_66 hI (fun c_27 hI_28 hF_29 => (bk_inl ?_)))))))))
              refine q_aload_n c_110_31 rfl (v_gr (t := 39) c_110_32 kf_7_66 rfl (nb_ rfl) rfl (q_iload_n c_110_35 rfl (q_iload_n c_110_36 rfl (v_cv c_110_37 km_7_243 rfl rfl (nb_ rfl) ⟨⟨rfl, rfl⟩, nb_ rfl, rfl⟩ (nb_ rfl) (nb_ rfl) (s_44 (a1 := a1) (a2 := a2) hI_28 (.inr ⟨rfl, rfl⟩) (show 0 ≤ a1 ∧ a1 ≤ 3 from ⟨by first | exact q_720657ba9 h_2 | omega, by first | exact q_1b5e4f74b h_1 h_6 | omega⟩) (show 0 ≤ a2 ∧ a2 ≤ 5 from ⟨by first | exact q_720657ba9 h_11 | omega, by first | exact q_3a2e67ab0 h_10 h_15 | omega⟩) (fun c_30 y_33 hI_31 hF_32 hy_33 => (bk_inl (q_pop c_110_40 rfl (q_iload_n c_110_41 rfl ?_)))))))))
              refine q_iconst c_110_42 ?_
              by_cases h_34 : a3 ≠ 4
              · refine v_ic_ne_t (t := 68) c_110_43 rfl ⟨h_34, ⟨ha3.1, ha3.2⟩, by decide, by decide⟩ (q_aload_n c_110_68 rfl (v_gr (t := 39) c_110_69 kf_7_66 rfl (nb_ rfl) rfl (q_iload_n c_110_72 rfl (q_iload_n c_110_73 rfl ?_))))
                have h_35 := ir_40_g hI_31 (j := 4 * a2 + a3) (by first | exact q_e0f71dbae h_10 h_15 h_23 h_34 | omega)
                refine v_cv c_110_74 km_7_196 rfl rfl (nb_ rfl) ⟨⟨rfl, rfl⟩, nb_ rfl, rfl⟩ (nb_ rfl) (nb_ rfl) (s_45 (v1 := c_30 40 (4 * a2 + a3)) (r := c_30 40 (4 * a2 + a3)) (a1 := a2) (a2 := a3) hI_31 (.inr ⟨rfl, rfl⟩) (show 0 ≤ a2 ∧ a2 ≤ 5 from ⟨by first | exact q_720657ba9 h_11 | omega, by first | exact q_3a2e67ab0 h_10 h_15 | omega⟩) (show 0 ≤ a3 ∧ a3 ≤ 3 from ⟨by first | exact q_720657ba9 h_19 | omega, by first | exact q_adb162ac9 h_23 h_34 | omega⟩) (rfl) (by omega) (bk_inl (q_iret c_110_77 rfl ?_)))
                exact K c_30 (c_30 40 (4 * a2 + a3)) hI_31 (fun a j hm => (hF_32 a j (fun h => hm (Or.inr (Or.inr h)))).trans (hF_29 a j (fun h => hm (Or.inr (Or.inr h))))) ⟨(Int.le_trans (by decide) h_35.1), (Int.le_trans h_35.2 (by decide))⟩
              · refine v_ic_ne_f (t := 68) c_110_43 rfl (Decidable.not_not.mp h_34) (q_aload_n c_110_46 rfl (v_gr (t := 39) c_110_47 kf_7_66 rfl (nb_ rfl) rfl (v_gr (t := 40) c_110_50 kf_7_174 rfl (nb_ rfl) rfl (v_bip c_110_53 (by decide) ?_))))
                have h_36 := ir_40 hI_31 32
                refine v_ia (v := c_30 40 32) c_110_55 rfl (by decide) (by decide) (by decide) rfl (q_aload_n c_110_56 rfl (v_gr (t := 37) c_110_57 kf_7_62 rfl (nb_ rfl) rfl (v_gr (t := 38) c_110_60 kf_7_174 rfl (nb_ rfl) rfl (v_bip c_110_63 (by decide) ?_))))
                have h_37 := ir_38 hI 32
                have kn_38 : Hid (c_27 38 32 = c 38 32) := hF_29 38 32 (fun h => absurd h (nn rfl))
                have kn_39 : Hid (c_30 38 32 = c 38 32) := (hF_32 38 32 (fun h => absurd h (nn rfl))).trans (hid kn_38)
                refine v_ia (v := c 38 32) c_110_65 rfl (by decide) (by decide) (by decide) (hid kn_39) (v_isub (v := c_30 40 32 - c 38 32) c_110_66 (by first | exact q_888803a02 | omega) (v_nrm (fun y_40 hy_40 => (q_iret c_110_67 rfl ?_))))
                exact K c_30 y_40 hI_31 (fun a j hm => (hF_32 a j (fun h => hm (Or.inr (Or.inr h)))).trans (hF_29 a j (fun h => hm (Or.inr (Or.inr h))))) hy_40

set_option maxRecDepth 100000 in
set_option maxHeartbeats 4000000 in
theorem s_111 {sc : List Int32} {e : Int} {d u P Q : Nat} {c : ME} {a1 : Int} {a2 : Int} {a3 : Int} {Z : AR → Prop} (hI : Iv u e P Q c) (ha1 : (-2147483648) ≤ a1 ∧ a1 ≤ 2147483647) (ha2 : (-2147483648) ≤ a2 ∧ a2 ≤ 2147483647) (ha3 : (-2147483648) ≤ a3 ∧ a3 ≤ 2147483647) (T100 : ∀ c2 : ME, Iv u e P Q c2 → (∀ (a : Nat) (j : Int), ¬ ((a = 0 ∧ j = 12) ∨ (a = 0 ∧ j = 13)) → c2 a j = c a j) → Z (.inr 100, Wd P Q P P c2, 1, 6)) (T101 : ∀ c2 : ME, Iv u e P Q c2 → (∀ (a : Nat) (j : Int), ¬ ((a = 0 ∧ j = 12) ∨ (a = 0 ∧ j = 13)) → c2 a j = c a j) → Z (.inr 101, Wd P Q P P c2, 1, 6)) (K : ∀ (c2 : ME) (y : Int), Iv u e P Q c2 → (∀ (a : Nat) (j : Int), ¬ ((a = 0 ∧ j = 12) ∨ (a = 0 ∧ j = 13)) → c2 a j = c a j) → (-2147483648) ≤ y ∧ y ≤ 2147483647 → Z (.inl (some (vi y)), Wd P Q P P c2, 0, 0)) : Wp sc (d + 11) 111 0 [(0, .ref 0), (1, vi a1), (2, vi a2), (3, vi a3)] [] (Wd P Q P P c) 0 0 Z := by
  have hP := iv_P hI
  have hQ := iv_Q hI
  refine q_aload_n c_111_0 rfl (q_iload_n c_111_1 rfl (v_cv c_111_2 km_7_206 rfl rfl (nb_ rfl) ⟨⟨rfl, rfl⟩, nb_ rfl, rfl⟩ (nb_ rfl) (nb_ rfl) (q_aload_n c_96_0 rfl (q_iload_n c_96_1 rfl (q_iconst c_96_2 (q_aload_n c_96_3 rfl (v_gr (t := P) c_96_4 kf_7_50 rfl (nb_ rfl) rfl ?_)))))))
  have h_1 := ir_p0_2 hI hP
  refine v_gi (z := 2) (v := c P 2) c_96_7 kf_7_168 (ck_p0 hP) (a68z hP) rfl rfl rfl (q_iconst c_96_10 (v_isub (v := c P 2 - 1) c_96_11 rfl (q_call c_96_12 rfl rfl rfl (q_iload_n c_80_0 rfl (q_iload_n c_80_1 rfl ?_)))))
  by_cases h_2 : a1 < 0
  · refine v_ic_lt_t (t := 14) c_80_2 rfl ⟨ha1.1, h_2, by decide⟩ (q_iconst c_80_14 (v_zret c_80_15 rfl (by decide) (bk_inl (v_cv c_96_15 km_7_333 rfl rfl (nb_ rfl) ⟨⟨rfl, rfl⟩, nb_ rfl, rfl⟩ (nb_ rfl) (nb_ rfl) (q_iload_n c_91_0 rfl (v_if_ne_f (t := 25) c_91_1 rfl (by decide) (q_aload_n c_91_4 rfl ?_)))))))
    refine q_dup c_91_5 rfl ?_
    have h_3 := ir_0_12 hI
    refine v_gi (z := 12) (v := c 0 12) c_91_6 kf_7_327 rfl (nb_ rfl) rfl rfl rfl (q_iconst c_91_9 (v_iadd (v := c 0 12 + 1) c_91_10 rfl (v_nrm (fun y_4 hy_4 => (v_pi (z := 12) c_91_11 kf_7_327 rfl (nb_ rfl) rfl rfl rfl (by decide) (v_new c_91_14 rfl (by decide) (ld_ rfl) (nb_ rfl) (by decide) rfl (bk_out rfl rfl (bk_out rfl rfl ?_))))))))
    have hI_5 := iw_0_12 (v := y_4) hI ⟨hy_4.1, hy_4.2⟩
    exact T100 _ hI_5 (fun a j hm => up_b (Decidable.or_iff_not_imp_left.mpr (fun h1 h2 => hm (Or.inl ⟨Decidable.not_not.mp h1, h2⟩))))
  · refine v_ic_lt_f (t := 14) c_80_2 rfl ⟨by decide, (Int.not_lt.mp h_2), ha1.2⟩ (q_iload_n c_80_5 rfl (q_iload_n c_80_6 rfl ?_))
    by_cases h_6 : a1 > c P 2 - 1
    · refine v_ic_gt_t (t := 14) c_80_7 rfl ⟨by first | exact rgm_l h_1.1 (by decide) | omega, h_6, ha1.2⟩ (q_iconst c_80_14 (v_zret c_80_15 rfl (by decide) (bk_inl (v_cv c_96_15 km_7_333 rfl rfl (nb_ rfl) ⟨⟨rfl, rfl⟩, nb_ rfl, rfl⟩ (nb_ rfl) (nb_ rfl) (q_iload_n c_91_0 rfl (v_if_ne_f (t := 25) c_91_1 rfl (by decide) (q_aload_n c_91_4 rfl ?_)))))))
      refine q_dup c_91_5 rfl ?_
      have h_7 := ir_0_12 hI
      refine v_gi (z := 12) (v := c 0 12) c_91_6 kf_7_327 rfl (nb_ rfl) rfl rfl rfl (q_iconst c_91_9 (v_iadd (v := c 0 12 + 1) c_91_10 rfl (v_nrm (fun y_8 hy_8 => (v_pi (z := 12) c_91_11 kf_7_327 rfl (nb_ rfl) rfl rfl rfl (by decide) (v_new c_91_14 rfl (by decide) (ld_ rfl) (nb_ rfl) (by decide) rfl (bk_out rfl rfl (bk_out rfl rfl ?_))))))))
      have hI_9 := iw_0_12 (v := y_8) hI ⟨hy_8.1, hy_8.2⟩
      exact T100 _ hI_9 (fun a j hm => up_b (Decidable.or_iff_not_imp_left.mpr (fun h1 h2 => hm (Or.inl ⟨Decidable.not_not.mp h1, h2⟩))))
    · refine v_ic_gt_f (t := 14) c_80_7 rfl ⟨ha1.1, (Int.not_lt.mp h_6), by first | exact rgm_h h_1.2 (by decide) | omega⟩ (q_iconst c_80_10 (q_goto (t := 15) c_80_11 rfl (v_zret c_80_15 rfl (by decide) (bk_inl (v_cv c_96_15 km_7_333 rfl rfl (nb_ rfl) ⟨⟨rfl, rfl⟩, nb_ rfl, rfl⟩ (nb_ rfl) (nb_ rfl) (q_iload_n c_91_0 rfl (v_if_ne_t (t := 25) c_91_1 rfl (by decide) ?_)))))))
      refine q_vret rfl rfl (bk_inl (q_vret rfl rfl (bk_inl (q_aload_n c_111_5 rfl (q_iload_n c_111_6 rfl (v_cv c_111_7 km_7_184 rfl rfl (nb_ rfl) ⟨⟨rfl, rfl⟩, nb_ rfl, rfl⟩ (nb_ rfl) (nb_ rfl) (q_aload_n c_92_0 rfl ?_)))))))
      refine q_iload_n c_92_1 rfl (q_iconst c_92_2 (q_aload_n c_92_3 rfl (v_gr (t := P) c_92_4 kf_7_50 rfl (nb_ rfl) rfl ?_)))
      have h_10 := ir_p0_0 hI hP
      refine v_gi (z := 0) (v := c P 0) c_92_7 kf_7_102 (ck_p0 hP) (a68z hP) rfl rfl rfl (q_iconst c_92_10 (v_isub (v := c P 0 - 1) c_92_11 rfl (q_call c_92_12 rfl rfl rfl (q_iload_n c_80_0 rfl (q_iload_n c_80_1 rfl ?_)))))
      by_cases h_11 : a2 < 0
      · refine v_ic_lt_t (t := 14) c_80_2 rfl ⟨ha2.1, h_11, by decide⟩ (q_iconst c_80_14 (v_zret c_80_15 rfl (by decide) (bk_inl (v_cv c_92_15 km_7_333 rfl rfl (nb_ rfl) ⟨⟨rfl, rfl⟩, nb_ rfl, rfl⟩ (nb_ rfl) (nb_ rfl) (q_iload_n c_91_0 rfl (v_if_ne_f (t := 25) c_91_1 rfl (by decide) (q_aload_n c_91_4 rfl ?_)))))))
        refine q_dup c_91_5 rfl ?_
        have h_12 := ir_0_12 hI
        refine v_gi (z := 12) (v := c 0 12) c_91_6 kf_7_327 rfl (nb_ rfl) rfl rfl rfl (q_iconst c_91_9 (v_iadd (v := c 0 12 + 1) c_91_10 rfl (v_nrm (fun y_13 hy_13 => (v_pi (z := 12) c_91_11 kf_7_327 rfl (nb_ rfl) rfl rfl rfl (by decide) (v_new c_91_14 rfl (by decide) (ld_ rfl) (nb_ rfl) (by decide) rfl (bk_out rfl rfl (bk_out rfl rfl ?_))))))))
        have hI_14 := iw_0_12 (v := y_13) hI ⟨hy_13.1, hy_13.2⟩
        exact T100 _ hI_14 (fun a j hm => up_b (Decidable.or_iff_not_imp_left.mpr (fun h1 h2 => hm (Or.inl ⟨Decidable.not_not.mp h1, h2⟩))))
      · refine v_ic_lt_f (t := 14) c_80_2 rfl ⟨by decide, (Int.not_lt.mp h_11), ha2.2⟩ (q_iload_n c_80_5 rfl (q_iload_n c_80_6 rfl ?_))
        by_cases h_15 : a2 > c P 0 - 1
        · refine v_ic_gt_t (t := 14) c_80_7 rfl ⟨by first | exact rgm_l h_10.1 (by decide) | omega, h_15, ha2.2⟩ (q_iconst c_80_14 (v_zret c_80_15 rfl (by decide) (bk_inl (v_cv c_92_15 km_7_333 rfl rfl (nb_ rfl) ⟨⟨rfl, rfl⟩, nb_ rfl, rfl⟩ (nb_ rfl) (nb_ rfl) (q_iload_n c_91_0 rfl (v_if_ne_f (t := 25) c_91_1 rfl (by decide) (q_aload_n c_91_4 rfl ?_)))))))
          refine q_dup c_91_5 rfl ?_
          have h_16 := ir_0_12 hI
          refine v_gi (z := 12) (v := c 0 12) c_91_6 kf_7_327 rfl (nb_ rfl) rfl rfl rfl (q_iconst c_91_9 (v_iadd (v := c 0 12 + 1) c_91_10 rfl (v_nrm (fun y_17 hy_17 => (v_pi (z := 12) c_91_11 kf_7_327 rfl (nb_ rfl) rfl rfl rfl (by decide) (v_new c_91_14 rfl (by decide) (ld_ rfl) (nb_ rfl) (by decide) rfl (bk_out rfl rfl (bk_out rfl rfl ?_))))))))
          have hI_18 := iw_0_12 (v := y_17) hI ⟨hy_17.1, hy_17.2⟩
          exact T100 _ hI_18 (fun a j hm => up_b (Decidable.or_iff_not_imp_left.mpr (fun h1 h2 => hm (Or.inl ⟨Decidable.not_not.mp h1, h2⟩))))
        · refine v_ic_gt_f (t := 14) c_80_7 rfl ⟨ha2.1, (Int.not_lt.mp h_15), by first | exact rgm_h h_10.2 (by decide) | omega⟩ (q_iconst c_80_10 (q_goto (t := 15) c_80_11 rfl (v_zret c_80_15 rfl (by decide) (bk_inl (v_cv c_92_15 km_7_333 rfl rfl (nb_ rfl) ⟨⟨rfl, rfl⟩, nb_ rfl, rfl⟩ (nb_ rfl) (nb_ rfl) (q_iload_n c_91_0 rfl (v_if_ne_t (t := 25) c_91_1 rfl (by decide) ?_)))))))
          refine q_vret rfl rfl (bk_inl (q_vret rfl rfl (bk_inl (q_aload_n c_111_10 rfl (q_iload_n c_111_11 rfl (q_iconst c_111_12 (q_iconst c_111_13 ?_)))))))
          refine q_call c_111_14 rfl rfl rfl (q_iload_n c_80_0 rfl (q_iload_n c_80_1 rfl ?_))
          by_cases h_19 : a3 < 0
          · refine v_ic_lt_t (t := 14) c_80_2 rfl ⟨ha3.1, h_19, by decide⟩ (q_iconst c_80_14 (v_zret c_80_15 rfl (by decide) (bk_inl (v_cv c_111_17 km_7_161 rfl rfl (nb_ rfl) ⟨⟨rfl, rfl⟩, nb_ rfl, rfl⟩ (nb_ rfl) (nb_ rfl) (q_iload_n c_81_0 rfl (v_if_ne_f (t := 25) c_81_1 rfl (by decide) (q_aload_n c_81_4 rfl ?_)))))))
            refine q_dup c_81_5 rfl ?_
            have h_20 := ir_0_13 hI
            refine v_gi (z := 13) (v := c 0 13) c_81_6 kf_7_330 rfl (nb_ rfl) rfl rfl rfl (q_iconst c_81_9 (v_iadd (v := c 0 13 + 1) c_81_10 rfl (v_nrm (fun y_21 hy_21 => (v_pi (z := 13) c_81_11 kf_7_330 rfl (nb_ rfl) rfl rfl rfl (by decide) (v_new c_81_14 rfl (by decide) (ld_ rfl) (nb_ rfl) (by decide) rfl (bk_out rfl rfl ?_)))))))
            have hI_22 := iw_0_13 (v := y_21) hI ⟨hy_21.1, hy_21.2⟩
            exact T101 _ hI_22 (fun a j hm => up_b (Decidable.or_iff_not_imp_left.mpr (fun h1 h2 => hm (Or.inr ⟨Decidable.not_not.mp h1, h2⟩))))
          · refine v_ic_lt_f (t := 14) c_80_2 rfl ⟨by decide, (Int.not_lt.mp h_19), ha3.2⟩ (q_iload_n c_80_5 rfl (q_iload_n c_80_6 rfl ?_))
            by_cases h_23 : a3 > 4
            · refine v_ic_gt_t (t := 14) c_80_7 rfl ⟨by decide, h_23, ha3.2⟩ (q_iconst c_80_14 (v_zret c_80_15 rfl (by decide) (bk_inl (v_cv c_111_17 km_7_161 rfl rfl (nb_ rfl) ⟨⟨rfl, rfl⟩, nb_ rfl, rfl⟩ (nb_ rfl) (nb_ rfl) (q_iload_n c_81_0 rfl (v_if_ne_f (t := 25) c_81_1 rfl (by decide) (q_aload_n c_81_4 rfl ?_)))))))
              refine q_dup c_81_5 rfl ?_
              have h_24 := ir_0_13 hI
              refine v_gi (z := 13) (v := c 0 13) c_81_6 kf_7_330 rfl (nb_ rfl) rfl rfl rfl (q_iconst c_81_9 (v_iadd (v := c 0 13 + 1) c_81_10 rfl (v_nrm (fun y_25 hy_25 => (v_pi (z := 13) c_81_11 kf_7_330 rfl (nb_ rfl) rfl rfl rfl (by decide) (v_new c_81_14 rfl (by decide) (ld_ rfl) (nb_ rfl) (by decide) rfl (bk_out rfl rfl ?_)))))))
              have hI_26 := iw_0_13 (v := y_25) hI ⟨hy_25.1, hy_25.2⟩
              exact T101 _ hI_26 (fun a j hm => up_b (Decidable.or_iff_not_imp_left.mpr (fun h1 h2 => hm (Or.inr ⟨Decidable.not_not.mp h1, h2⟩))))
            · refine v_ic_gt_f (t := 14) c_80_7 rfl ⟨ha3.1, (Int.not_lt.mp h_23), by decide⟩ (q_iconst c_80_10 (q_goto (t := 15) c_80_11 rfl (v_zret c_80_15 rfl (by decide) (bk_inl (v_cv c_111_17 km_7_161 rfl rfl (nb_ rfl) ⟨⟨rfl, rfl⟩, nb_ rfl, rfl⟩ (nb_ rfl) (nb_ rfl) (q_iload_n c_81_0 rfl (v_if_ne_t (t := 25) c_81_1 rfl (by decide) ?_)))))))
              refine q_vret rfl rfl (bk_inl (q_iload_n c_111_20 rfl (q_iconst c_111_21 ?_)))
              by_cases h_27 : a3 ≠ 4
              · refine v_ic_ne_t (t := 37) c_111_22 rfl ⟨h_27, ⟨ha3.1, ha3.2⟩, by decide, by decide⟩ (q_aload_n c_111_37 rfl (v_gr (t := 37) c_111_38 kf_7_62 rfl (nb_ rfl) rfl (q_iload_n c_111_41 rfl (q_iload_n c_111_42 rfl (q_iload_n c_111_43 rfl ?_)))))
                have h_28 := ir_p3 hI hP a1
                have h_29 := ir_38 hI 30
                have h_30 := ir_38_g hI (j := 4 * a2 + a3) (by first | exact q_e0f71dbae h_10 h_15 h_23 h_27 | omega)
                have h_31 := fal_rng (m := c (P + 3) a1) (t := tb (c 38 30) a1) (g := a3) (x := c 38 (4 * a2 + a3)) (by first | exact q_c6ed8760d h_30 | omega)
                refine v_cv c_111_44 km_7_249 rfl rfl (nb_ rfl) ⟨⟨rfl, rfl⟩, nb_ rfl, rfl⟩ (nb_ rfl) (nb_ rfl) (s_48 (v1 := c (P + 3) a1) (v2 := c 38 30) (v3 := c 38 (4 * a2 + a3)) (r := (fal (c (P + 3) a1) (tb (c 38 30) a1) a3 (c 38 (4 * a2 + a3)))) (a1 := a1) (a2 := a2) (a3 := a3) hI (.inl ⟨rfl, rfl⟩) (show 0 ≤ a1 ∧ a1 ≤ 3 from ⟨by first | exact q_720657ba9 h_2 | omega, by first | exact q_1b5e4f74b h_1 h_6 | omega⟩) (show 0 ≤ a2 ∧ a2 ≤ 5 from ⟨by first | exact q_720657ba9 h_11 | omega, by first | exact q_3a2e67ab0 h_10 h_15 | omega⟩) (show 0 ≤ a3 ∧ a3 ≤ 3 from ⟨by first | exact q_720657ba9 h_19 | omega, by first | exact q_adb162ac9 h_23 h_27 | omega⟩) (rfl) (rfl) (rfl) rfl (bk_inl (q_iret c_111_47 rfl ?_)))
                exact K c (fal (c (P + 3) a1) (tb (c 38 30) a1) a3 (c 38 (4 * a2 + a3))) hI (fun a j hm => rfl) ⟨by first | exact q_fda856264 h_31 | omega, by first | exact q_4bf067e8d h_30 h_31 | omega⟩
              · refine v_ic_ne_f (t := 37) c_111_22 rfl (Decidable.not_not.mp h_27) (q_aload_n c_111_25 rfl (v_gr (t := 37) c_111_26 kf_7_62 rfl (nb_ rfl) rfl (q_iload_n c_111_29 rfl (q_iload_n c_111_30 rfl ?_))))
                have h_32 := ir_p3 hI hP a1
                have h_33 := ir_38 hI 30
                have h_34 := ir_38_g hI (j := 4 * a2) (by first | exact q_b0d0e4535 h_10 h_15 | omega)
                have h_35 := ir_38_g hI (j := 4 * a2 + 1) (by first | exact q_e3354e5e9 h_10 h_15 | omega)
                have h_36 := ir_38_g hI (j := 4 * a2 + 2) (by first | exact q_0a5347bcd h_10 h_15 | omega)
                have h_37 := ir_38_g hI (j := 4 * a2 + 3) (by first | exact q_9939b3b7f h_10 h_15 | omega)
                have h_38 := fal_rng (m := c (P + 3) a1) (t := tb (c 38 30) a1) (g := 0) (x := c 38 (4 * a2)) (by first | exact q_c6ed8760d h_34 | omega)
                have h_39 := fal_rng (m := c (P + 3) a1) (t := tb (c 38 30) a1) (g := 1) (x := c 38 (4 * a2 + 1)) (by first | exact q_c6ed8760d h_35 | omega)
                have h_40 := fal_rng (m := c (P + 3) a1) (t := tb (c 38 30) a1) (g := 2) (x := c 38 (4 * a2 + 2)) (by first | exact q_c6ed8760d h_36 | omega)
                have h_41 := fal_rng (m := c (P + 3) a1) (t := tb (c 38 30) a1) (g := 3) (x := c 38 (4 * a2 + 3)) (by first | exact q_c6ed8760d h_37 | omega)
                refine v_cv c_111_31 km_7_246 rfl rfl (nb_ rfl) ⟨⟨rfl, rfl⟩, nb_ rfl, rfl⟩ (nb_ rfl) (nb_ rfl) (s_49 (v1 := c (P + 3) a1) (v2 := c 38 30) (v3 := c 38 (4 * a2)) (v4 := c 38 (4 * a2 + 1)) (v5 := c 38 (4 * a2 + 2)) (v6 := c 38 (4 * a2 + 3)) (r := (fal (c (P + 3) a1) (tb (c 38 30) a1) 0 (c 38 (4 * a2))) + (fal (c (P + 3) a1) (tb (c 38 30) a1) 1 (c 38 (4 * a2 + 1))) + (fal (c (P + 3) a1) (tb (c 38 30) a1) 2 (c 38 (4 * a2 + 2))) + (fal (c (P + 3) a1) (tb (c 38 30) a1) 3 (c 38 (4 * a2 + 3)))) (a1 := a1) (a2 := a2) hI (.inl ⟨rfl, rfl⟩) (show 0 ≤ a1 ∧ a1 ≤ 3 from ⟨by first | exact q_720657ba9 h_2 | omega, by first | exact q_1b5e4f74b h_1 h_6 | omega⟩) (show 0 ≤ a2 ∧ a2 ≤ 5 from ⟨by first | exact q_720657ba9 h_11 | omega, by first | exact q_3a2e67ab0 h_10 h_15 | omega⟩) (rfl) (rfl) (rfl) (rfl) (rfl) (rfl) rfl (bk_inl (q_goto (t := 47) c_111_34 rfl (q_iret c_111_47 rfl ?_))))
                exact K c ((fal (c (P + 3) a1) (tb (c 38 30) a1) 0 (c 38 (4 * a2))) + (fal (c (P + 3) a1) (tb (c 38 30) a1) 1 (c 38 (4 * a2 + 1))) + (fal (c (P + 3) a1) (tb (c 38 30) a1) 2 (c 38 (4 * a2 + 2))) + (fal (c (P + 3) a1) (tb (c 38 30) a1) 3 (c 38 (4 * a2 + 3)))) hI (fun a j hm => rfl) ⟨by first | exact q_c0b7ed1c9 h_38 h_39 h_40 h_41 | omega, by first | exact q_c7a0dd24d h_34 h_35 h_36 h_37 h_38 h_39 h_40 h_41 | omega⟩

set_option maxRecDepth 100000 in
set_option maxHeartbeats 4000000 in
theorem s_112_l {sc : List Int32} {d P Q : Nat} {c : ME} {a1 : Int} {a2 : Int} {a3 : Int} {Z : AR → Prop} (hI : Iv 0 (-1) P Q c) (ha1 : (-2147483648) ≤ a1 ∧ a1 ≤ 2147483647) (ha2 : (-2147483648) ≤ a2 ∧ a2 ≤ 2147483647) (ha3 : (-2147483648) ≤ a3 ∧ a3 ≤ 2147483647) (T100 : ∀ c2 : ME, Iv 0 (-1) P Q c2 → (∀ (a : Nat) (j : Int), ¬ ((a = 0 ∧ j = 12) ∨ (a = 0 ∧ j = 13) ∨ a = 40) → c2 a j = c a j) → Z (.inr 100, Wd P Q P P c2, 1, 6)) (T101 : ∀ c2 : ME, Iv 0 (-1) P Q c2 → (∀ (a : Nat) (j : Int), ¬ ((a = 0 ∧ j = 12) ∨ (a = 0 ∧ j = 13) ∨ a = 40) → c2 a j = c a j) → Z (.inr 101, Wd P Q P P c2, 1, 6)) (K : ∀ (c2 : ME) (y : Int), Iv 0 (-1) P Q c2 → (∀ (a : Nat) (j : Int), ¬ ((a = 0 ∧ j = 12) ∨ (a = 0 ∧ j = 13) ∨ a = 40) → c2 a j = c a j) → (-2147483648) ≤ y ∧ y ≤ 2147483647 → Z (.inl (some (vi y)), Wd P Q P P c2, 0, 0)) : ∀ n : Nat, (∀ (c2 : ME) (v4 : Int), Iv 0 (-1) P Q c2 → (∀ (a : Nat) (j : Int), ¬ ((a = 0 ∧ j = 12) ∨ (a = 0 ∧ j = 13) ∨ a = 40) → c2 a j = c a j) → 0 ≤ v4 ∧ v4 ≤ 100 → ((a1 ≥ 0 ∧ a1 ≤ 5)) → ((a2 ≥ 0 ∧ a2 ≤ 3)) → 201 - 2 * v4 < (n : Int) → Wp sc (d + 9) 112 49 [(0, .ref 0), (1, vi a1), (2, vi a2), (3, vi a3), (4, vi v4)] [] (Wd P Q P P c2) 0 0 Z) := by
  intro n
  induction n with
  | zero => exact (by intro c2 v4 hI2 hF hv4 hx0 hx1 hm9; have hP := iv_P hI; have hQ := iv_Q hI; exfalso; omega)
  | succ n ih =>
    have hP := iv_P hI
    have hQ := iv_Q hI
    intro c2 v4 hI2 hF hv4 hx0 hx1 hm9
    refine q_iload c_112_49 rfl (v_bip c_112_51 (by decide) ?_)
    by_cases h_1 : v4 > 99
    · refine v_ic_gt_t (t := 87) c_112_53 rfl ⟨by decide, h_1, (Int.le_trans hv4.2 (by decide))⟩ (q_iconst c_112_87 (q_iret c_112_88 rfl ?_))
      exact K c2 (-1) hI2 (fun a j hm => hF a j hm) ⟨by decide, by decide⟩
    · refine v_ic_gt_f (t := 87) c_112_53 rfl ⟨(Int.le_trans (by decide) hv4.1), (Int.not_lt.mp h_1), by decide⟩ (q_aload_n c_112_56 rfl (v_gr (t := 39) c_112_57 kf_7_66 rfl (nb_ rfl) rfl (q_iload_n c_112_60 rfl (v_cv c_112_61 km_7_193 rfl rfl (nb_ rfl) ⟨⟨rfl, rfl⟩, nb_ rfl, rfl⟩ (nb_ rfl) (nb_ rfl) (s_68 (a1 := a1) hI2 (.inr ⟨rfl, rfl⟩) (show 0 ≤ a1 ∧ a1 ≤ 5 from ⟨by omega, by omega⟩) (fun y_2 hy_2 => (bk_inl (q_iload_n c_112_64 rfl ?_))))))))
      by_cases h_3 : y_2 < a3
      · refine v_ic_lt_t (t := 71) c_112_65 rfl ⟨hy_2.1, h_3, ha3.2⟩ (q_aload_n c_112_71 rfl (v_gr (t := 39) c_112_72 kf_7_66 rfl (nb_ rfl) rfl (q_iload_n c_112_75 rfl (q_iload_n c_112_76 rfl (v_cv c_112_77 km_7_243 rfl rfl (nb_ rfl) ⟨⟨rfl, rfl⟩, nb_ rfl, rfl⟩ (nb_ rfl) (nb_ rfl) (s_44 (a1 := a2) (a2 := a1) hI2 (.inr ⟨rfl, rfl⟩) (show 0 ≤ a2 ∧ a2 ≤ 3 from ⟨by omega, by omega⟩) (show 0 ≤ a1 ∧ a1 ≤ 5 from ⟨by omega, by omega⟩) (fun c_4 y_7 hI_5 hF_6 hy_7 => (bk_inl (q_pop c_112_80 rfl ?_)))))))))
        refine v_iinc (v := v4 + 1) c_112_81 rfl (nb_ rfl) rfl (q_goto (t := 49) c_112_84 rfl (Wp_ls [(0, .ref 0), (1, vi a1), (2, vi a2), (3, vi a3), (4, vi (v4 + 1))] (lsub_cons rfl (lsub_cons rfl (lsub_cons rfl (lsub_cons rfl (lsub_cons rfl lsub_nil))))) ?_))
        exact ih c_4 (v4 + 1) hI_5 (fun a j hm => (hF_6 a j (fun h => hm (Or.inr (Or.inr h)))).trans (hF a j hm)) ⟨by first | exact rgp_l hv4.1 (by decide) | omega, by first | exact q_1eecf77db h_1 | omega⟩ ⟨by omega, by omega⟩ ⟨by omega, by omega⟩ (by omega)
      · refine v_ic_lt_f (t := 71) c_112_65 rfl ⟨ha3.1, (Int.not_lt.mp h_3), hy_2.2⟩ (q_iload c_112_68 rfl (q_iret c_112_70 rfl ?_))
        exact K c2 v4 hI2 (fun a j hm => hF a j hm) ⟨(Int.le_trans (by decide) hv4.1), (Int.le_trans hv4.2 (by decide))⟩
set_option maxRecDepth 100000 in
set_option maxHeartbeats 4000000 in
theorem s_112 {sc : List Int32} {d P Q : Nat} {c : ME} {a1 : Int} {a2 : Int} {a3 : Int} {Z : AR → Prop} (hI : Iv 0 (-1) P Q c) (ha1 : (-2147483648) ≤ a1 ∧ a1 ≤ 2147483647) (ha2 : (-2147483648) ≤ a2 ∧ a2 ≤ 2147483647) (ha3 : (-2147483648) ≤ a3 ∧ a3 ≤ 2147483647) (T100 : ∀ c2 : ME, Iv 0 (-1) P Q c2 → (∀ (a : Nat) (j : Int), ¬ ((a = 0 ∧ j = 12) ∨ (a = 0 ∧ j = 13) ∨ a = 40) → c2 a j = c a j) → Z (.inr 100, Wd P Q P P c2, 1, 6)) (T101 : ∀ c2 : ME, Iv 0 (-1) P Q c2 → (∀ (a : Nat) (j : Int), ¬ ((a = 0 ∧ j = 12) ∨ (a = 0 ∧ j = 13) ∨ a = 40) → c2 a j = c a j) → Z (.inr 101, Wd P Q P P c2, 1, 6)) (K : ∀ (c2 : ME) (y : Int), Iv 0 (-1) P Q c2 → (∀ (a : Nat) (j : Int), ¬ ((a = 0 ∧ j = 12) ∨ (a = 0 ∧ j = 13) ∨ a = 40) → c2 a j = c a j) → (-2147483648) ≤ y ∧ y ≤ 2147483647 → Z (.inl (some (vi y)), Wd P Q P P c2, 0, 0)) : Wp sc (d + 9) 112 0 [(0, .ref 0), (1, vi a1), (2, vi a2), (3, vi a3)] [] (Wd P Q P P c) 0 0 Z := by
  have hP := iv_P hI
  have hQ := iv_Q hI
  refine q_aload_n c_112_0 rfl (q_iload_n c_112_1 rfl (v_cv c_112_2 km_7_184 rfl rfl (nb_ rfl) ⟨⟨rfl, rfl⟩, nb_ rfl, rfl⟩ (nb_ rfl) (nb_ rfl) (q_aload_n c_92_0 rfl (q_iload_n c_92_1 rfl (q_iconst c_92_2 (q_aload_n c_92_3 rfl (v_gr (t := P) c_92_4 kf_7_50 rfl (nb_ rfl) rfl ?_)))))))
  have h_8 := ir_p0_0 hI hP
  refine v_gi (z := 0) (v := c P 0) c_92_7 kf_7_102 (ck_p0 hP) (a68z hP) rfl rfl rfl (q_iconst c_92_10 (v_isub (v := c P 0 - 1) c_92_11 rfl (q_call c_92_12 rfl rfl rfl (q_iload_n c_80_0 rfl (q_iload_n c_80_1 rfl ?_)))))
  by_cases h_9 : a1 < 0
  · refine v_ic_lt_t (t := 14) c_80_2 rfl ⟨ha1.1, h_9, by decide⟩ (q_iconst c_80_14 (v_zret c_80_15 rfl (by decide) (bk_inl (v_cv c_92_15 km_7_333 rfl rfl (nb_ rfl) ⟨⟨rfl, rfl⟩, nb_ rfl, rfl⟩ (nb_ rfl) (nb_ rfl) (q_iload_n c_91_0 rfl (v_if_ne_f (t := 25) c_91_1 rfl (by decide) (q_aload_n c_91_4 rfl ?_)))))))
    refine q_dup c_91_5 rfl ?_
    have h_10 := ir_0_12 hI
    refine v_gi (z := 12) (v := c 0 12) c_91_6 kf_7_327 rfl (nb_ rfl) rfl rfl rfl (q_iconst c_91_9 (v_iadd (v := c 0 12 + 1) c_91_10 rfl (v_nrm (fun y_11 hy_11 => (v_pi (z := 12) c_91_11 kf_7_327 rfl (nb_ rfl) rfl rfl rfl (by decide) (v_new c_91_14 rfl (by decide) (ld_ rfl) (nb_ rfl) (by decide) rfl (bk_out rfl rfl (bk_out rfl rfl ?_))))))))
    have hI_12 := iw_0_12 (v := y_11) hI ⟨hy_11.1, hy_11.2⟩
    exact T100 _ hI_12 (fun a j hm => up_b (Decidable.or_iff_not_imp_left.mpr (fun h1 h2 => hm (Or.inl ⟨Decidable.not_not.mp h1, h2⟩))))
  · refine v_ic_lt_f (t := 14) c_80_2 rfl ⟨by decide, (Int.not_lt.mp h_9), ha1.2⟩ (q_iload_n c_80_5 rfl (q_iload_n c_80_6 rfl ?_))
    by_cases h_13 : a1 > c P 0 - 1
    · refine v_ic_gt_t (t := 14) c_80_7 rfl ⟨by first | exact rgm_l h_8.1 (by decide) | omega, h_13, ha1.2⟩ (q_iconst c_80_14 (v_zret c_80_15 rfl (by decide) (bk_inl (v_cv c_92_15 km_7_333 rfl rfl (nb_ rfl) ⟨⟨rfl, rfl⟩, nb_ rfl, rfl⟩ (nb_ rfl) (nb_ rfl) (q_iload_n c_91_0 rfl (v_if_ne_f (t := 25) c_91_1 rfl (by decide) (q_aload_n c_91_4 rfl ?_)))))))
      refine q_dup c_91_5 rfl ?_
      have h_14 := ir_0_12 hI
      refine v_gi (z := 12) (v := c 0 12) c_91_6 kf_7_327 rfl (nb_ rfl) rfl rfl rfl (q_iconst c_91_9 (v_iadd (v := c 0 12 + 1) c_91_10 rfl (v_nrm (fun y_15 hy_15 => (v_pi (z := 12) c_91_11 kf_7_327 rfl (nb_ rfl) rfl rfl rfl (by decide) (v_new c_91_14 rfl (by decide) (ld_ rfl) (nb_ rfl) (by decide) rfl (bk_out rfl rfl (bk_out rfl rfl ?_))))))))
      have hI_16 := iw_0_12 (v := y_15) hI ⟨hy_15.1, hy_15.2⟩
      exact T100 _ hI_16 (fun a j hm => up_b (Decidable.or_iff_not_imp_left.mpr (fun h1 h2 => hm (Or.inl ⟨Decidable.not_not.mp h1, h2⟩))))
    · refine v_ic_gt_f (t := 14) c_80_7 rfl ⟨ha1.1, (Int.not_lt.mp h_13), by first | exact rgm_h h_8.2 (by decide) | omega⟩ (q_iconst c_80_10 (q_goto (t := 15) c_80_11 rfl (v_zret c_80_15 rfl (by decide) (bk_inl (v_cv c_92_15 km_7_333 rfl rfl (nb_ rfl) ⟨⟨rfl, rfl⟩, nb_ rfl, rfl⟩ (nb_ rfl) (nb_ rfl) (q_iload_n c_91_0 rfl (v_if_ne_t (t := 25) c_91_1 rfl (by decide) ?_)))))))
      refine q_vret rfl rfl (bk_inl (q_vret rfl rfl (bk_inl (q_aload_n c_112_5 rfl (q_iload_n c_112_6 rfl (v_cv c_112_7 km_7_200 rfl rfl (nb_ rfl) ⟨⟨rfl, rfl⟩, nb_ rfl, rfl⟩ (nb_ rfl) (nb_ rfl) (q_aload_n c_94_0 rfl ?_)))))))
      refine q_iload_n c_94_1 rfl (q_iconst c_94_2 (q_aload_n c_94_3 rfl (v_gr (t := P) c_94_4 kf_7_50 rfl (nb_ rfl) rfl ?_)))
      have h_17 := ir_p0_1 hI hP
      refine v_gi (z := 1) (v := c P 1) c_94_7 kf_7_165 (ck_p0 hP) (a68z hP) rfl rfl rfl (q_iconst c_94_10 (v_isub (v := c P 1 - 1) c_94_11 rfl (q_call c_94_12 rfl rfl rfl (q_iload_n c_80_0 rfl (q_iload_n c_80_1 rfl ?_)))))
      by_cases h_18 : a2 < 0
      · refine v_ic_lt_t (t := 14) c_80_2 rfl ⟨ha2.1, h_18, by decide⟩ (q_iconst c_80_14 (v_zret c_80_15 rfl (by decide) (bk_inl (v_cv c_94_15 km_7_333 rfl rfl (nb_ rfl) ⟨⟨rfl, rfl⟩, nb_ rfl, rfl⟩ (nb_ rfl) (nb_ rfl) (q_iload_n c_91_0 rfl (v_if_ne_f (t := 25) c_91_1 rfl (by decide) (q_aload_n c_91_4 rfl ?_)))))))
        refine q_dup c_91_5 rfl ?_
        have h_19 := ir_0_12 hI
        refine v_gi (z := 12) (v := c 0 12) c_91_6 kf_7_327 rfl (nb_ rfl) rfl rfl rfl (q_iconst c_91_9 (v_iadd (v := c 0 12 + 1) c_91_10 rfl (v_nrm (fun y_20 hy_20 => (v_pi (z := 12) c_91_11 kf_7_327 rfl (nb_ rfl) rfl rfl rfl (by decide) (v_new c_91_14 rfl (by decide) (ld_ rfl) (nb_ rfl) (by decide) rfl (bk_out rfl rfl (bk_out rfl rfl ?_))))))))
        have hI_21 := iw_0_12 (v := y_20) hI ⟨hy_20.1, hy_20.2⟩
        exact T100 _ hI_21 (fun a j hm => up_b (Decidable.or_iff_not_imp_left.mpr (fun h1 h2 => hm (Or.inl ⟨Decidable.not_not.mp h1, h2⟩))))
      · refine v_ic_lt_f (t := 14) c_80_2 rfl ⟨by decide, (Int.not_lt.mp h_18), ha2.2⟩ (q_iload_n c_80_5 rfl (q_iload_n c_80_6 rfl ?_))
        by_cases h_22 : a2 > c P 1 - 1
        · refine v_ic_gt_t (t := 14) c_80_7 rfl ⟨by first | exact rgm_l h_17.1 (by decide) | omega, h_22, ha2.2⟩ (q_iconst c_80_14 (v_zret c_80_15 rfl (by decide) (bk_inl (v_cv c_94_15 km_7_333 rfl rfl (nb_ rfl) ⟨⟨rfl, rfl⟩, nb_ rfl, rfl⟩ (nb_ rfl) (nb_ rfl) (q_iload_n c_91_0 rfl (v_if_ne_f (t := 25) c_91_1 rfl (by decide) (q_aload_n c_91_4 rfl ?_)))))))
          refine q_dup c_91_5 rfl ?_
          have h_23 := ir_0_12 hI
          refine v_gi (z := 12) (v := c 0 12) c_91_6 kf_7_327 rfl (nb_ rfl) rfl rfl rfl (q_iconst c_91_9 (v_iadd (v := c 0 12 + 1) c_91_10 rfl (v_nrm (fun y_24 hy_24 => (v_pi (z := 12) c_91_11 kf_7_327 rfl (nb_ rfl) rfl rfl rfl (by decide) (v_new c_91_14 rfl (by decide) (ld_ rfl) (nb_ rfl) (by decide) rfl (bk_out rfl rfl (bk_out rfl rfl ?_))))))))
          have hI_25 := iw_0_12 (v := y_24) hI ⟨hy_24.1, hy_24.2⟩
          exact T100 _ hI_25 (fun a j hm => up_b (Decidable.or_iff_not_imp_left.mpr (fun h1 h2 => hm (Or.inl ⟨Decidable.not_not.mp h1, h2⟩))))
        · refine v_ic_gt_f (t := 14) c_80_7 rfl ⟨ha2.1, (Int.not_lt.mp h_22), by first | exact rgm_h h_17.2 (by decide) | omega⟩ (q_iconst c_80_10 (q_goto (t := 15) c_80_11 rfl (v_zret c_80_15 rfl (by decide) (bk_inl (v_cv c_94_15 km_7_333 rfl rfl (nb_ rfl) ⟨⟨rfl, rfl⟩, nb_ rfl, rfl⟩ (nb_ rfl) (nb_ rfl) (q_iload_n c_91_0 rfl (v_if_ne_t (t := 25) c_91_1 rfl (by decide) ?_)))))))
          refine q_vret rfl rfl (bk_inl (q_vret rfl rfl (bk_inl (q_aload_n c_112_10 rfl (q_iload_n c_112_11 rfl (q_iconst c_112_12 (v_sip c_112_13 (by decide) ?_)))))))
          refine q_call c_112_16 rfl rfl rfl (q_iload_n c_80_0 rfl (q_iload_n c_80_1 rfl ?_))
          by_cases h_26 : a3 < 0
          · refine v_ic_lt_t (t := 14) c_80_2 rfl ⟨ha3.1, h_26, by decide⟩ (q_iconst c_80_14 (v_zret c_80_15 rfl (by decide) (bk_inl (v_cv c_112_19 km_7_161 rfl rfl (nb_ rfl) ⟨⟨rfl, rfl⟩, nb_ rfl, rfl⟩ (nb_ rfl) (nb_ rfl) (q_iload_n c_81_0 rfl (v_if_ne_f (t := 25) c_81_1 rfl (by decide) (q_aload_n c_81_4 rfl ?_)))))))
            refine q_dup c_81_5 rfl ?_
            have h_27 := ir_0_13 hI
            refine v_gi (z := 13) (v := c 0 13) c_81_6 kf_7_330 rfl (nb_ rfl) rfl rfl rfl (q_iconst c_81_9 (v_iadd (v := c 0 13 + 1) c_81_10 rfl (v_nrm (fun y_28 hy_28 => (v_pi (z := 13) c_81_11 kf_7_330 rfl (nb_ rfl) rfl rfl rfl (by decide) (v_new c_81_14 rfl (by decide) (ld_ rfl) (nb_ rfl) (by decide) rfl (bk_out rfl rfl ?_)))))))
            have hI_29 := iw_0_13 (v := y_28) hI ⟨hy_28.1, hy_28.2⟩
            exact T101 _ hI_29 (fun a j hm => up_b (Decidable.or_iff_not_imp_left.mpr (fun h1 h2 => hm (Or.inr (Or.inl ⟨Decidable.not_not.mp h1, h2⟩)))))
          · refine v_ic_lt_f (t := 14) c_80_2 rfl ⟨by decide, (Int.not_lt.mp h_26), ha3.2⟩ (q_iload_n c_80_5 rfl (q_iload_n c_80_6 rfl ?_))
            by_cases h_30 : a3 > 1000
            · refine v_ic_gt_t (t := 14) c_80_7 rfl ⟨by decide, h_30, ha3.2⟩ (q_iconst c_80_14 (v_zret c_80_15 rfl (by decide) (bk_inl (v_cv c_112_19 km_7_161 rfl rfl (nb_ rfl) ⟨⟨rfl, rfl⟩, nb_ rfl, rfl⟩ (nb_ rfl) (nb_ rfl) (q_iload_n c_81_0 rfl (v_if_ne_f (t := 25) c_81_1 rfl (by decide) (q_aload_n c_81_4 rfl ?_)))))))
              refine q_dup c_81_5 rfl ?_
              have h_31 := ir_0_13 hI
              refine v_gi (z := 13) (v := c 0 13) c_81_6 kf_7_330 rfl (nb_ rfl) rfl rfl rfl (q_iconst c_81_9 (v_iadd (v := c 0 13 + 1) c_81_10 rfl (v_nrm (fun y_32 hy_32 => (v_pi (z := 13) c_81_11 kf_7_330 rfl (nb_ rfl) rfl rfl rfl (by decide) (v_new c_81_14 rfl (by decide) (ld_ rfl) (nb_ rfl) (by decide) rfl (bk_out rfl rfl ?_)))))))
              have hI_33 := iw_0_13 (v := y_32) hI ⟨hy_32.1, hy_32.2⟩
              exact T101 _ hI_33 (fun a j hm => up_b (Decidable.or_iff_not_imp_left.mpr (fun h1 h2 => hm (Or.inr (Or.inl ⟨Decidable.not_not.mp h1, h2⟩)))))
            · refine v_ic_gt_f (t := 14) c_80_7 rfl ⟨ha3.1, (Int.not_lt.mp h_30), by decide⟩ (q_iconst c_80_10 (q_goto (t := 15) c_80_11 rfl (v_zret c_80_15 rfl (by decide) (bk_inl (v_cv c_112_19 km_7_161 rfl rfl (nb_ rfl) ⟨⟨rfl, rfl⟩, nb_ rfl, rfl⟩ (nb_ rfl) (nb_ rfl) (q_iload_n c_81_0 rfl (v_if_ne_t (t := 25) c_81_1 rfl (by decide) ?_)))))))
              refine q_vret rfl rfl (bk_inl (q_aload_n c_112_22 rfl (v_gr (t := 37) c_112_23 kf_7_62 rfl (nb_ rfl) rfl (q_iload_n c_112_26 rfl ?_))))
              have h_34 := ir_38_g hI (j := 4 * a1) (by first | exact q_39694b04c h_13 h_8 | omega)
              have h_35 := ir_38_g hI (j := 4 * a1 + 1) (by first | exact q_daba94bfb h_13 h_8 | omega)
              have h_36 := ir_38_g hI (j := 4 * a1 + 2) (by first | exact q_c56a483ea h_13 h_8 | omega)
              have h_37 := ir_38_g hI (j := 4 * a1 + 3) (by first | exact q_bd71cc491 h_13 h_8 | omega)
              refine v_cv c_112_27 km_7_187 rfl rfl (nb_ rfl) ⟨⟨rfl, rfl⟩, nb_ rfl, rfl⟩ (nb_ rfl) (nb_ rfl) (s_43 (v1 := c 38 (4 * a1)) (v2 := c 38 (4 * a1 + 1)) (v3 := c 38 (4 * a1 + 2)) (v4 := c 38 (4 * a1 + 3)) (r := c 38 (4 * a1 + 1) + c 38 (4 * a1 + 2) + c 38 (4 * a1 + 3) + c 38 (4 * a1)) (a1 := a1) hI (.inl ⟨rfl, rfl⟩) (show 0 ≤ a1 ∧ a1 ≤ 5 from ⟨by first | exact q_720657ba9 h_9 | omega, by first | exact q_2aee6eea3 h_13 h_8 | omega⟩) (rfl) (rfl) (rfl) (rfl) (by omega) (bk_inl ?_))
              by_cases h_38 : c 38 (4 * a1 + 1) + c 38 (4 * a1 + 2) + c 38 (4 * a1 + 3) + c 38 (4 * a1) ≠ 0
              · refine v_if_ne_t (t := 35) c_112_30 rfl ⟨h_38, ⟨by first | exact q_e052ef40e h_34 h_35 h_36 h_37 | omega, by first | exact q_db9ef1f4a h_34 h_35 h_36 h_37 | omega⟩, by decide, by decide⟩ (q_aload_n c_112_35 rfl (v_gr (t := 39) c_112_36 kf_7_66 rfl (nb_ rfl) rfl (q_aload_n c_112_39 rfl (v_gr (t := 37) c_112_40 kf_7_62 rfl (nb_ rfl) rfl (v_cv c_112_43 km_7_233 rfl rfl (nb_ rfl) ⟨⟨rfl, rfl⟩, nb_ rfl, rfl⟩ (nb_ rfl) (nb_ rfl) (s_66 hI (fun c_39 hI_40 hF_41 => (bk_inl (q_iconst c_112_46 ?_)))))))))
                refine q_istore c_112_47 (nb_ rfl) (Wp_ls [(0, .ref 0), (1, vi a1), (2, vi a2), (3, vi a3), (4, vi 0)] (lsub_cons rfl (lsub_cons rfl (lsub_cons rfl (lsub_cons rfl (lsub_cons rfl lsub_nil))))) ?_)
                exact (s_112_l (sc := sc) (d := d) hI ha1 ha2 ha3 T100 T101 K 204) c_39 0 hI_40 (fun a j hm => hF_41 a j (fun h => hm (Or.inr (Or.inr h)))) ⟨by decide, by decide⟩ ⟨by first | exact q_720657ba9 h_9 | omega, by first | exact q_2aee6eea3 h_13 h_8 | omega⟩ ⟨by first | exact q_720657ba9 h_18 | omega, by first | exact q_1b5e4f74b h_17 h_22 | omega⟩ (by omega)
              · refine v_if_ne_f (t := 35) c_112_30 rfl (Decidable.not_not.mp h_38) (q_iconst c_112_33 (q_iret c_112_34 rfl ?_))
                exact K c (-1) hI (fun a j hm => rfl) ⟨by decide, by decide⟩

set_option maxRecDepth 100000 in
set_option maxHeartbeats 4000000 in
theorem s_113_l {sc : List Int32} {e : Int} {d u P Q : Nat} {c : ME} {a1 : Int} {Z : AR → Prop} (hI : Iv u e P Q c) (ha1 : 0 ≤ a1 ∧ a1 ≤ 3) (K : ∀ (c2 : ME) (y : Int), Iv u e P Q c2 → (∀ (a : Nat) (j : Int), ¬ (a = 12) → c2 a j = c a j) → (-2147483648) ≤ y ∧ y ≤ 2147483647 → Z (.inl (some (vi y)), Wd P Q P P c2, 0, 0)) : ∀ n : Nat, (∀ (c2 : ME) (v2 : Int) (v3 : Int), Iv u e P Q c2 → (∀ (a : Nat) (j : Int), ¬ (a = 12) → c2 a j = c a j) → (-2147483648) ≤ v2 ∧ v2 ≤ 2147483647 → 0 ≤ v3 ∧ v3 ≤ 4 → 9 - 2 * v3 < (n : Int) → Wp sc (d + 9) 113 4 [(0, .ref 0), (1, vi a1), (2, vi v2), (3, vi v3)] [] (Wd P Q P P c2) 0 0 Z) := by
  intro n
  induction n with
  | zero => exact (by intro c2 v2 v3 hI2 hF hv2 hv3 hm9; have hP := iv_P hI; have hQ := iv_Q hI; exfalso; omega)
  | succ n ih =>
    have hP := iv_P hI
    have hQ := iv_Q hI
    intro c2 v2 v3 hI2 hF hv2 hv3 hm9
    refine q_iload_n c_113_4 rfl (q_iconst c_113_5 ?_)
    by_cases h_1 : v3 ≥ 4
    · refine v_ic_ge_t (t := 45) c_113_6 rfl ⟨by decide, h_1, (Int.le_trans hv3.2 (by decide))⟩ (q_iload_n c_113_45 rfl (q_iret c_113_46 rfl ?_))
      exact K c2 v2 hI2 (fun a j hm => hF a j hm) hv2
    · refine v_ic_ge_f (t := 45) c_113_6 rfl ⟨(Int.le_trans (by decide) hv3.1), (Int.not_le.mp h_1), by decide⟩ (q_aload_n c_113_9 rfl (v_gr (t := 12) c_113_10 kf_7_44 rfl (nb_ rfl) rfl (q_iload_n c_113_13 rfl (q_aload_n c_113_14 rfl (v_gr (t := 37) c_113_15 kf_7_62 rfl (nb_ rfl) rfl (q_iload_n c_113_18 rfl (q_iload_n c_113_19 rfl ?_)))))))
      refine q_aload_n c_113_20 rfl (v_gr (t := 12) c_113_21 kf_7_44 rfl (nb_ rfl) rfl (q_iload_n c_113_24 rfl ?_))
      have h_2 := ir_12 hI2 v3
      refine v_ia (v := c2 12 v3) c_113_25 rfl (by decide) (by decide) ⟨hv3.1, by first | exact q_2e808647e h_1 | omega⟩ rfl ?_
      have h_3 := ir_p3 hI hP a1
      have kn_4 : Hid (c2 (P + 3) a1 = c (P + 3) a1) := hF (P + 3) a1 (fun h => absurd h (np hP rfl rfl))
      have h_5 := ir_38 hI 30
      have kn_6 : Hid (c2 38 30 = c 38 30) := hF 38 30 (fun h => absurd h (nn rfl))
      have h_7 := fal_rng (m := c (P + 3) a1) (t := tb (c 38 30) a1) (g := v3) (x := c2 12 v3) (by first | exact q_c6ed8760d h_2 | omega)
      refine v_cv c_113_26 km_7_354 rfl rfl (nb_ rfl) ⟨⟨rfl, rfl⟩, nb_ rfl, rfl⟩ (nb_ rfl) (nb_ rfl) (s_47 (v1 := c (P + 3) a1) (v2 := c 38 30) (r := (fal (c (P + 3) a1) (tb (c 38 30) a1) v3 (c2 12 v3))) (a1 := a1) (a2 := v3) (a3 := c2 12 v3) hI2 (.inl ⟨rfl, rfl⟩) (show 0 ≤ a1 ∧ a1 ≤ 3 from ha1) (show 0 ≤ v3 ∧ v3 ≤ 3 from ⟨hv3.1, by first | exact q_482ef8d41 h_1 | omega⟩) (show 0 ≤ c2 12 v3 ∧ c2 12 v3 ≤ 9999 from h_2) ((hid kn_4)) ((hid kn_6)) rfl (bk_inl (v_is c_113_29 rfl (by decide) (by decide) ⟨hv3.1, by first | exact q_2e808647e h_1 | omega⟩ (q_iload_n c_113_30 rfl (q_aload_n c_113_31 rfl (v_gr (t := 12) c_113_32 kf_7_44 rfl (nb_ rfl) rfl (q_iload_n c_113_35 rfl (v_ia (v := (fal (c (P + 3) a1) (tb (c 38 30) a1) v3 (c2 12 v3))) rfl rfl (by decide) (by decide) ⟨hv3.1, by first | exact q_2e808647e h_1 | omega⟩ (up_e rfl) ?_))))))))
      refine v_iadd (v := (fal (c (P + 3) a1) (tb (c 38 30) a1) v3 (c2 12 v3)) + v2) rfl (by first | exact q_893c89ded | omega) (v_nrm (fun y_8 hy_8 => (q_istore_n c_113_38 (nb_ rfl) (v_iinc (v := v3 + 1) c_113_39 rfl (nb_ rfl) rfl (q_goto (t := 4) c_113_42 rfl ?_)))))
      have hI_9 := iw_12 (j := v3) (v := (fal (c (P + 3) a1) (tb (c 38 30) a1) v3 (c2 12 v3))) hI2 ⟨by first | exact q_47ff97009 h_7 | omega, by first | exact q_a579d0053 h_2 h_7 | omega⟩
      refine Wp_ls [(0, .ref 0), (1, vi a1), (2, vi y_8), (3, vi (v3 + 1))] (lsub_cons rfl (lsub_cons rfl (lsub_cons rfl (lsub_cons rfl lsub_nil)))) ?_
      exact ih (up c2 12 v3 (fal (c (P + 3) a1) (tb (c 38 30) a1) v3 (c2 12 v3))) y_8 (v3 + 1) hI_9 (fun a j hm => (up_b (Decidable.or_iff_not_imp_left.mpr (fun h1 h2 => hm (Decidable.not_not.mp h1)))).trans (hF a j hm)) hy_8 ⟨by first | exact rgp_l hv3.1 (by decide) | omega, by first | exact q_121241f94 h_1 | omega⟩ (by omega)
set_option maxRecDepth 100000 in
set_option maxHeartbeats 4000000 in
theorem s_113 {sc : List Int32} {e : Int} {d u P Q : Nat} {c : ME} {a1 : Int} {Z : AR → Prop} (hI : Iv u e P Q c) (ha1 : 0 ≤ a1 ∧ a1 ≤ 3) (K : ∀ (c2 : ME) (y : Int), Iv u e P Q c2 → (∀ (a : Nat) (j : Int), ¬ (a = 12) → c2 a j = c a j) → (-2147483648) ≤ y ∧ y ≤ 2147483647 → Z (.inl (some (vi y)), Wd P Q P P c2, 0, 0)) : Wp sc (d + 9) 113 0 [(0, .ref 0), (1, vi a1)] [] (Wd P Q P P c) 0 0 Z := by
  have hP := iv_P hI
  have hQ := iv_Q hI
  refine q_iconst c_113_0 (q_istore_n c_113_1 (nb_ rfl) (q_iconst c_113_2 (q_istore_n c_113_3 (nb_ rfl) (Wp_ls [(0, .ref 0), (1, vi a1), (2, vi 0), (3, vi 0)] (lsub_cons rfl (lsub_cons rfl (lsub_cons rfl (lsub_cons rfl lsub_nil)))) ?_))))
  exact (s_113_l (sc := sc) (d := d) hI ha1 K 12) c 0 0 hI (fun a j hm => rfl) ⟨by decide, by decide⟩ ⟨by decide, by decide⟩ (by omega)
end
