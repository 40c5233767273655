/-! ===== contracts 11 ===== -/
theorem q_b71d35cdf {x0 : Int} : (x0) + 1 = x0 + 1 := by omega
theorem q_c5c511dbd {x0 : Int} : (x0) + 2 = x0 + 2 := by omega
theorem q_d667f18da {x0 : Int} (f0 : x0 ≥ 6) : 0 ≤ x0 + 1 := by omega
theorem q_9ecb19880 {x0 : Int} (f0 : x0 ≥ 6) : 1 ≤ x0 + 1 := by omega
theorem q_b0e066d21 {x0 : Int} (f0 : x0 ≥ 6) : 2 ≤ x0 + 1 := by omega
theorem q_b4a8c2409 {x0 : Int} (f0 : x0 ≥ 6) : 3 ≤ x0 + 1 := by omega
theorem q_71cfba098 {x0 : Int} (f0 : ¬ (x0 ≥ 6)) : x0 + 1 ≤ 600 := by omega
theorem q_fc9c378ef {x0 : Int} (f0 : 0 ≤ x0 ∧ x0 ≤ 600) : 0 ≤ x0 + 1 := by omega
theorem q_5574c4e4e {x0 : Int} (f0 : 0 ≤ x0 ∧ x0 ≤ 600) : 1 ≤ x0 + 1 := by omega
theorem q_a2ce855bf {x0 x1 : Int} (f0 : (x0 ≥ x1)) : x1 ≤ x0 := by omega
theorem c_157_14 : mLk 157 14 = some (.iload_n 3, 1) := rfl
theorem c_157_15 : mLk 157 15 = some (.aload_n 0, 1) := rfl
theorem c_157_16 : mLk 157 16 = some (.getfield 111, 3) := rfl
theorem c_157_19 : mLk 157 19 = some (.if_icmp .ge 48, 3) := rfl
theorem c_157_67 : mLk 157 67 = some (.iload_n 2, 1) := rfl
theorem c_157_68 : mLk 157 68 = some (.bipush 6, 2) := rfl
theorem c_157_70 : mLk 157 70 = some (.if_icmp .le 7, 3) := rfl
theorem c_157_77 : mLk 157 77 = some (.iload_n 1, 1) := rfl
theorem c_157_78 : mLk 157 78 = some (.ireturn, 1) := rfl
theorem c_157_73 : mLk 157 73 = some (.iconst 0, 1) := rfl
theorem c_157_74 : mLk 157 74 = some (.goto 4, 3) := rfl
theorem c_157_22 : mLk 157 22 = some (.aload_n 0, 1) := rfl
theorem c_157_23 : mLk 157 23 = some (.getfield 20, 3) := rfl
theorem c_157_26 : mLk 157 26 = some (.iload_n 3, 1) := rfl
theorem c_157_27 : mLk 157 27 = some (.iaload, 1) := rfl
theorem c_157_28 : mLk 157 28 = some (.invokestatic 118, 3) := rfl
theorem c_155_0 : mLk 155 0 = some (.iload_n 0, 1) := rfl
theorem c_155_1 : mLk 155 1 = some (.bipush 97, 2) := rfl
theorem c_155_3 : mLk 155 3 = some (.if_icmp .lt 13, 3) := rfl
theorem c_155_16 : mLk 155 16 = some (.iconst 0, 1) := rfl
theorem c_155_17 : mLk 155 17 = some (.ireturn, 1) := rfl
theorem c_157_31 : mLk 157 31 = some (.ifCond .eq 36, 3) := rfl
theorem c_155_6 : mLk 155 6 = some (.iload_n 0, 1) := rfl
theorem c_155_7 : mLk 155 7 = some (.bipush 122, 2) := rfl
theorem c_155_9 : mLk 155 9 = some (.if_icmp .gt 7, 3) := rfl
theorem c_155_12 : mLk 155 12 = some (.iconst 1, 1) := rfl
theorem c_155_13 : mLk 155 13 = some (.goto 4, 3) := rfl
theorem c_157_34 : mLk 157 34 = some (.iload_n 2, 1) := rfl
theorem c_157_35 : mLk 157 35 = some (.bipush 6, 2) := rfl
theorem c_157_37 : mLk 157 37 = some (.if_icmp .ge 19, 3) := rfl
theorem c_157_56 : mLk 157 56 = some (.iconst 0, 1) := rfl
theorem c_157_57 : mLk 157 57 = some (.istore_n 1, 1) := rfl
theorem c_157_58 : mLk 157 58 = some (.iinc 2 1, 3) := rfl
theorem c_157_61 : mLk 157 61 = some (.iinc 3 1, 3) := rfl
theorem c_157_64 : mLk 157 64 = some (.goto (-50), 3) := rfl
theorem c_157_40 : mLk 157 40 = some (.iload_n 1, 1) := rfl
theorem c_157_41 : mLk 157 41 = some (.iconst 5, 1) := rfl
theorem c_157_42 : mLk 157 42 = some (.ishl, 1) := rfl
theorem c_157_43 : mLk 157 43 = some (.aload_n 0, 1) := rfl
theorem c_157_44 : mLk 157 44 = some (.getfield 20, 3) := rfl
theorem c_157_47 : mLk 157 47 = some (.iload_n 3, 1) := rfl
theorem c_157_48 : mLk 157 48 = some (.iaload, 1) := rfl
theorem c_157_49 : mLk 157 49 = some (.bipush 96, 2) := rfl
theorem c_157_51 : mLk 157 51 = some (.isub, 1) := rfl
theorem c_157_52 : mLk 157 52 = some (.ior, 1) := rfl
theorem c_157_53 : mLk 157 53 = some (.goto 4, 3) := rfl
theorem c_157_0 : mLk 157 0 = some (.aload_n 0, 1) := rfl
theorem c_157_1 : mLk 157 1 = some (.invokevirtual 114, 3) := rfl
theorem c_157_4 : mLk 157 4 = some (.pop, 1) := rfl
theorem c_157_5 : mLk 157 5 = some (.iconst 0, 1) := rfl
theorem c_157_6 : mLk 157 6 = some (.istore_n 1, 1) := rfl
theorem c_157_7 : mLk 157 7 = some (.iconst 0, 1) := rfl
theorem c_157_8 : mLk 157 8 = some (.istore_n 2, 1) := rfl
theorem c_157_9 : mLk 157 9 = some (.aload_n 0, 1) := rfl
theorem c_157_10 : mLk 157 10 = some (.getfield 108, 3) := rfl
theorem c_157_13 : mLk 157 13 = some (.istore_n 3, 1) := rfl
theorem c_158_0 : mLk 158 0 = some (.iconst 0, 1) := rfl
theorem c_158_1 : mLk 158 1 = some (.istore_n 1, 1) := rfl
theorem c_158_2 : mLk 158 2 = some (.iconst 0, 1) := rfl
theorem c_158_3 : mLk 158 3 = some (.istore_n 2, 1) := rfl
theorem c_158_4 : mLk 158 4 = some (.iload_n 2, 1) := rfl
theorem c_158_5 : mLk 158 5 = some (.aload_n 0, 1) := rfl
theorem c_158_6 : mLk 158 6 = some (.invokevirtual 122, 3) := rfl
theorem c_158_9 : mLk 158 9 = some (.if_icmp .ge 22, 3) := rfl
theorem c_158_12 : mLk 158 12 = some (.iload_n 1, 1) := rfl
theorem c_158_13 : mLk 158 13 = some (.iconst 5, 1) := rfl
theorem c_158_14 : mLk 158 14 = some (.ishl, 1) := rfl
theorem c_158_15 : mLk 158 15 = some (.aload_n 0, 1) := rfl
theorem c_158_16 : mLk 158 16 = some (.iload_n 2, 1) := rfl
theorem c_158_17 : mLk 158 17 = some (.invokevirtual 127, 3) := rfl
theorem c_158_20 : mLk 158 20 = some (.bipush 96, 2) := rfl
theorem c_158_22 : mLk 158 22 = some (.isub, 1) := rfl
theorem c_158_23 : mLk 158 23 = some (.ior, 1) := rfl
theorem c_158_24 : mLk 158 24 = some (.istore_n 1, 1) := rfl
theorem c_158_25 : mLk 158 25 = some (.iinc 2 1, 3) := rfl
theorem c_158_28 : mLk 158 28 = some (.goto (-24), 3) := rfl
theorem c_158_31 : mLk 158 31 = some (.iload_n 1, 1) := rfl
theorem c_158_32 : mLk 158 32 = some (.ireturn, 1) := rfl
theorem c_159_0 : mLk 159 0 = some (.aload_n 0, 1) := rfl
theorem c_159_1 : mLk 159 1 = some (.getfield 108, 3) := rfl
theorem c_159_4 : mLk 159 4 = some (.aload_n 0, 1) := rfl
theorem c_159_5 : mLk 159 5 = some (.getfield 111, 3) := rfl
theorem c_159_8 : mLk 159 8 = some (.if_icmp .ge 31, 3) := rfl
theorem c_159_11 : mLk 159 11 = some (.aload_n 0, 1) := rfl
theorem c_159_12 : mLk 159 12 = some (.getfield 20, 3) := rfl
theorem c_159_15 : mLk 159 15 = some (.aload_n 0, 1) := rfl
theorem c_159_16 : mLk 159 16 = some (.getfield 108, 3) := rfl
theorem c_159_19 : mLk 159 19 = some (.iaload, 1) := rfl
theorem c_159_20 : mLk 159 20 = some (.invokestatic 118, 3) := rfl
theorem c_159_23 : mLk 159 23 = some (.ifCond .eq 16, 3) := rfl
theorem c_159_26 : mLk 159 26 = some (.aload_n 0, 1) := rfl
theorem c_159_27 : mLk 159 27 = some (.dup, 1) := rfl
theorem c_159_28 : mLk 159 28 = some (.getfield 108, 3) := rfl
theorem c_159_31 : mLk 159 31 = some (.iconst 1, 1) := rfl
theorem c_159_32 : mLk 159 32 = some (.iadd, 1) := rfl
theorem c_159_33 : mLk 159 33 = some (.putfield 108, 3) := rfl
theorem c_159_36 : mLk 159 36 = some (.goto (-36), 3) := rfl
theorem km_8_114 : a_lk (kM 8) 114 = some (0, 154) := rfl
set_option maxRecDepth 100000 in
set_option maxHeartbeats 4000000 in
theorem s_157_l {sc : List Int32} {e : Int} {d u P Q : Nat} {c : ME} {Z : AR → Prop} (hI : Iv u e P Q c)  (K : ∀ (c2 : ME) (y : Int), Iv u e P Q c2 → (∀ (a : Nat) (j : Int), ¬ ((a = 41 ∧ j = 4)) → c2 a j = c a j) → (-2147483648) ≤ y ∧ y ≤ 2147483647 → ((c2 41 4 ≥ c 41 4)) → ((c2 41 4 ≤ c 41 3) ∨ (c2 41 4 = c 41 4)) → ((y = 0) ∨ (c2 41 4 < c 41 3)) → ((y = 0) ∨ (c 43 (c2 41 4) ≥ 97 ∧ c 43 (c2 41 4) ≤ 122)) → ((y ≥ 0 ∧ y ≤ 1023) ∨ (c 43 (c2 41 4 + 1) ≥ 97 ∧ c 43 (c2 41 4 + 1) ≤ 122 ∧ c 43 (c2 41 4 + 2) ≥ 97 ∧ c 43 (c2 41 4 + 2) ≤ 122 ∧ c2 41 4 + 3 ≤ c 41 3)) → Z (.inl (some (vi y)), Wd P Q P P c2, 0, 0)) : ∀ n : Nat, (∀ (c2 : ME) (v1 : Int) (v2 : Int) (v3 : Int), Iv u e P Q c2 → (∀ (a : Nat) (j : Int), ¬ ((a = 41 ∧ j = 4)) → c2 a j = c a j) → (-2147483648) ≤ v1 ∧ v1 ≤ 2147483647 → 0 ≤ v2 ∧ v2 ≤ 600 → 0 ≤ v3 ∧ v3 ≤ 605 → ((c2 41 4 ≥ c 41 4)) → ((c2 41 4 ≤ c 41 3) ∨ (c2 41 4 = c 41 4)) → ((v3 = c2 41 4 + v2)) → ((v2 ≥ 0)) → ((v2 ≥ 1) ∨ (v1 = 0)) → ((v2 = 0) ∨ (c 43 (c2 41 4) ≥ 97 ∧ c 43 (c2 41 4) ≤ 122)) → ((v2 ≤ 1) ∨ (c 43 (c2 41 4 + 1) ≥ 97 ∧ c 43 (c2 41 4 + 1) ≤ 122)) → ((v2 ≤ 2) ∨ (c 43 (c2 41 4 + 2) ≥ 97 ∧ c 43 (c2 41 4 + 2) ≤ 122)) → ((v2 ≥ 2) ∨ (v1 ≥ 0 ∧ v1 ≤ 31)) → ((v2 ≥ 3) ∨ (v1 ≥ 0 ∧ v1 ≤ 1023)) → ((v2 = 0) ∨ (v3 ≤ c 41 3)) → 1211 - 2 * v3 < (n : Int) → Wp sc (d + 8) 157 14 [(0, .ref 41), (1, vi v1), (2, vi v2), (3, vi v3)] [] (Wd P Q P P c2) 0 0 Z)
  | 0 => by intro c2 v1 v2 v3 hI2 hF hv1 hv2 hv3 hx0 hx1 hx2 hx3 hx4 hx5 hx6 hx7 hx8 hx9 hx10 hm9; have hP := iv_P hI; have hQ := iv_Q hI; exfalso; omega
  | n + 1 => by
    have hP := iv_P hI
    have hQ := iv_Q hI
    have ih := s_157_l (sc := sc) (d := d) hI K n
    intro c2 v1 v2 v3 hI2 hF hv1 hv2 hv3 hx0 hx1 hx2 hx3 hx4 hx5 hx6 hx7 hx8 hx9 hx10 hm9
    have h_1 := ir_41_4 hI
    have h_2 := ir_41_4 hI2
    have h_3 := ir_41_3 hI
    have h_4 := ir_43 hI (c2 41 4)
    have h_5 := ir_43 hI (c2 41 4 + 1)
    have h_6 := ir_43 hI (c2 41 4 + 2)
    refine q_iload_n c_157_14 rfl (q_aload_n c_157_15 rfl ?_)
    have kn_7 : Hid (c2 41 3 = c 41 3) := hF 41 3 (fun h => absurd h.2 (ni rfl))
    refine v_gi (z := 3) (v := c 41 3) c_157_16 kf_8_111 rfl (Nat.le_of_ble_eq_true rfl) rfl rfl (hid kn_7) ?_
    by_cases h_8 : v3 ≥ c 41 3
    · refine v_ic_ge_t (t := 67) c_157_19 rfl ⟨(Int.le_trans (by decide) h_3.1), h_8, (Int.le_trans hv3.2 (by decide))⟩ (q_iload_n c_157_67 rfl (v_bip c_157_68 (by decide) ?_))
      by_cases h_9 : v2 ≤ 6
      · refine v_ic_le_t (t := 77) c_157_70 rfl ⟨(Int.le_trans (by decide) hv2.1), h_9, by decide⟩ (q_iload_n c_157_77 rfl (q_iret c_157_78 rfl ?_))
        have h_10 : c 43 ((c2 41 4) + 1) = c 43 (c2 41 4 + 1) := congrArg (c 43) (by first | exact q_b71d35cdf | assumption | exact Int.le_antisymm (by omega) (by omega))
        have h_11 : c 43 ((c2 41 4) + 2) = c 43 (c2 41 4 + 2) := congrArg (c 43) (by first | exact q_c5c511dbd | assumption | exact Int.le_antisymm (by omega) (by omega))
        have h_12 : c 43 ((c2 41 4)) = c 43 (c2 41 4) := congrArg (c 43) (by first | exact q_ef0f4cfe4 | assumption | exact Int.le_antisymm (by omega) (by omega))
        exact K c2 v1 hI2 (fun a j hm => hF a j hm) hv1 (by first | (clear hv1 hv2 hv3 hx2 hx3 h_1 h_2 h_3 h_4 h_5 h_6 h_8 h_9 hx1 hx4 hx5 hx6 hx7 hx8 hx9 hx10; omega) | omega) (by omega) (by omega) (by omega) (by omega)
      · refine v_ic_le_f (t := 77) c_157_70 rfl ⟨by decide, (Int.not_le.mp h_9), (Int.le_trans hv2.2 (by decide))⟩ (q_iconst c_157_73 (q_goto (t := 78) c_157_74 rfl (q_iret c_157_78 rfl ?_)))
        have h_13 : c 43 ((c2 41 4) + 1) = c 43 (c2 41 4 + 1) := congrArg (c 43) (by first | exact q_b71d35cdf | assumption | exact Int.le_antisymm (by omega) (by omega))
        have h_14 : c 43 ((c2 41 4) + 2) = c 43 (c2 41 4 + 2) := congrArg (c 43) (by first | exact q_c5c511dbd | assumption | exact Int.le_antisymm (by omega) (by omega))
        have h_15 : c 43 ((c2 41 4)) = c 43 (c2 41 4) := congrArg (c 43) (by first | exact q_ef0f4cfe4 | assumption | exact Int.le_antisymm (by omega) (by omega))
        exact K c2 0 hI2 (fun a j hm => hF a j hm) ⟨by decide, by decide⟩ (by first | (clear hv1 hv2 hv3 hx2 hx3 h_1 h_2 h_3 h_4 h_5 h_6 h_8 h_9 hx1 hx4 hx5 hx6 hx7 hx8 hx9 hx10; omega) | omega) (Or.inl (by first | (clear hv1 hv2 hv3 hx0 hx3 h_1 h_2 h_3 h_4 h_5 h_6 h_8 hx1 hx4 hx5 hx6 hx7 hx8 hx9; omega) | omega)) (Or.inl (by first | assumption | omega)) (Or.inl (by first | assumption | omega)) (Or.inl ⟨by first | decide | omega, by first | decide | omega⟩)
    · refine v_ic_ge_f (t := 67) c_157_19 rfl ⟨(Int.le_trans (by decide) hv3.1), (Int.not_le.mp h_8), (Int.le_trans h_3.2 (by decide))⟩ (q_aload_n c_157_22 rfl (v_gr (t := 43) c_157_23 kf_8_20 rfl (Nat.le_of_ble_eq_true rfl) rfl (q_iload_n c_157_26 rfl ?_)))
      have h_16 := ir_43 hI v3
      have kn_17 : Hid (c2 43 v3 = c 43 v3) := hF 43 v3 (fun h => absurd h.1 (nn rfl))
      refine v_ia (v := c 43 v3) c_157_27 rfl (by decide) (by decide) ⟨hv3.1, by first | exact q_364416c3d h_3 h_8 | omega⟩ (hid kn_17) (q_call c_157_28 rfl rfl rfl (q_iload_n c_155_0 rfl (v_bip c_155_1 (by decide) ?_)))
      by_cases h_18 : c 43 v3 < 97
      · refine v_ic_lt_t (t := 16) c_155_3 rfl ⟨by first | exact q_cc1935a2a h_16 | omega, h_18, by decide⟩ (q_iconst c_155_16 (v_zret c_155_17 rfl (by decide) (bk_inl (v_if_eq_t (t := 67) c_157_31 rfl (by decide) (q_iload_n c_157_67 rfl (v_bip c_157_68 (by decide) ?_))))))
        by_cases h_19 : v2 ≤ 6
        · refine v_ic_le_t (t := 77) c_157_70 rfl ⟨(Int.le_trans (by decide) hv2.1), h_19, by decide⟩ (q_iload_n c_157_77 rfl (q_iret c_157_78 rfl ?_))
          have h_20 : c 43 ((c2 41 4) + 1) = c 43 (c2 41 4 + 1) := congrArg (c 43) (by first | exact q_b71d35cdf | assumption | exact Int.le_antisymm (by omega) (by omega))
          have h_21 : c 43 ((c2 41 4) + 2) = c 43 (c2 41 4 + 2) := congrArg (c 43) (by first | exact q_c5c511dbd | assumption | exact Int.le_antisymm (by omega) (by omega))
          have h_22 : c 43 ((c2 41 4)) = c 43 (c2 41 4) := congrArg (c 43) (by first | exact q_ef0f4cfe4 | assumption | exact Int.le_antisymm (by omega) (by omega))
          exact K c2 v1 hI2 (fun a j hm => hF a j hm) hv1 (by first | (clear hv1 hv2 hv3 hx2 hx3 h_1 h_2 h_3 h_4 h_5 h_6 h_8 h_16 h_18 h_19 hx1 hx4 hx5 hx6 hx7 hx8 hx9 hx10; omega) | omega) (Or.inl (by first | (clear hv1 hv3 hx0 hx3 h_1 h_2 h_3 h_4 h_5 h_6 h_16 h_18 h_19 hx1 hx4 hx5 hx6 hx7 hx8 hx9 hx10; omega) | omega)) (Or.inr (by first | (clear hv1 hv3 hx0 hx3 h_1 h_2 h_3 h_4 h_5 h_6 h_16 h_18 h_19 hx1 hx4 hx5 hx6 hx7 hx8 hx9 hx10; omega) | omega)) (by omega) (by omega)
        · refine v_ic_le_f (t := 77) c_157_70 rfl ⟨by decide, (Int.not_le.mp h_19), (Int.le_trans hv2.2 (by decide))⟩ (q_iconst c_157_73 (q_goto (t := 78) c_157_74 rfl (q_iret c_157_78 rfl ?_)))
          have h_23 : c 43 ((c2 41 4) + 1) = c 43 (c2 41 4 + 1) := congrArg (c 43) (by first | exact q_b71d35cdf | assumption | exact Int.le_antisymm (by omega) (by omega))
          have h_24 : c 43 ((c2 41 4) + 2) = c 43 (c2 41 4 + 2) := congrArg (c 43) (by first | exact q_c5c511dbd | assumption | exact Int.le_antisymm (by omega) (by omega))
          have h_25 : c 43 ((c2 41 4)) = c 43 (c2 41 4) := congrArg (c 43) (by first | exact q_ef0f4cfe4 | assumption | exact Int.le_antisymm (by omega) (by omega))
          exact K c2 0 hI2 (fun a j hm => hF a j hm) ⟨by decide, by decide⟩ (by first | (clear hv1 hv2 hv3 hx2 hx3 h_1 h_2 h_3 h_4 h_5 h_6 h_8 h_16 h_18 h_19 hx1 hx4 hx5 hx6 hx7 hx8 hx9 hx10; omega) | omega) (Or.inl (by first | (clear hv1 hv2 hv3 hx0 hx3 h_1 h_2 h_3 h_4 h_5 h_6 h_16 h_18 hx1 hx4 hx5 hx6 hx7 hx8 hx9 hx10; omega) | omega)) (Or.inl (by first | assumption | omega)) (Or.inl (by first | assumption | omega)) (Or.inl ⟨by first | decide | omega, by first | decide | omega⟩)
      · refine v_ic_lt_f (t := 16) c_155_3 rfl ⟨by decide, (Int.not_lt.mp h_18), by first | exact q_4e52e4576 h_16 | omega⟩ (q_iload_n c_155_6 rfl (v_bip c_155_7 (by decide) ?_))
        by_cases h_26 : c 43 v3 > 122
        · refine v_ic_gt_t (t := 16) c_155_9 rfl ⟨by decide, h_26, by first | exact q_4e52e4576 h_16 | omega⟩ (q_iconst c_155_16 (v_zret c_155_17 rfl (by decide) (bk_inl (v_if_eq_t (t := 67) c_157_31 rfl (by decide) (q_iload_n c_157_67 rfl (v_bip c_157_68 (by decide) ?_))))))
          by_cases h_27 : v2 ≤ 6
          · refine v_ic_le_t (t := 77) c_157_70 rfl ⟨(Int.le_trans (by decide) hv2.1), h_27, by decide⟩ (q_iload_n c_157_77 rfl (q_iret c_157_78 rfl ?_))
            have h_28 : c 43 ((c2 41 4) + 1) = c 43 (c2 41 4 + 1) := congrArg (c 43) (by first | exact q_b71d35cdf | assumption | exact Int.le_antisymm (by omega) (by omega))
            have h_29 : c 43 ((c2 41 4) + 2) = c 43 (c2 41 4 + 2) := congrArg (c 43) (by first | exact q_c5c511dbd | assumption | exact Int.le_antisymm (by omega) (by omega))
            have h_30 : c 43 ((c2 41 4)) = c 43 (c2 41 4) := congrArg (c 43) (by first | exact q_ef0f4cfe4 | assumption | exact Int.le_antisymm (by omega) (by omega))
            exact K c2 v1 hI2 (fun a j hm => hF a j hm) hv1 (by first | (clear hv1 hv2 hv3 hx2 hx3 h_1 h_2 h_3 h_4 h_5 h_6 h_8 h_16 h_18 h_26 h_27 hx1 hx4 hx5 hx6 hx7 hx8 hx9 hx10; omega) | omega) (Or.inl (by first | (clear hv1 hv3 hx0 hx3 h_1 h_2 h_3 h_4 h_5 h_6 h_16 h_18 h_26 h_27 hx1 hx4 hx5 hx6 hx7 hx8 hx9 hx10; omega) | omega)) (Or.inr (by first | (clear hv1 hv3 hx0 hx3 h_1 h_2 h_3 h_4 h_5 h_6 h_16 h_18 h_26 h_27 hx1 hx4 hx5 hx6 hx7 hx8 hx9 hx10; omega) | omega)) (by omega) (by omega)
          · refine v_ic_le_f (t := 77) c_157_70 rfl ⟨by decide, (Int.not_le.mp h_27), (Int.le_trans hv2.2 (by decide))⟩ (q_iconst c_157_73 (q_goto (t := 78) c_157_74 rfl (q_iret c_157_78 rfl ?_)))
            have h_31 : c 43 ((c2 41 4) + 1) = c 43 (c2 41 4 + 1) := congrArg (c 43) (by first | exact q_b71d35cdf | assumption | exact Int.le_antisymm (by omega) (by omega))
            have h_32 : c 43 ((c2 41 4) + 2) = c 43 (c2 41 4 + 2) := congrArg (c 43) (by first | exact q_c5c511dbd | assumption | exact Int.le_antisymm (by omega) (by omega))
            have h_33 : c 43 ((c2 41 4)) = c 43 (c2 41 4) := congrArg (c 43) (by first | exact q_ef0f4cfe4 | assumption | exact Int.le_antisymm (by omega) (by omega))
            exact K c2 0 hI2 (fun a j hm => hF a j hm) ⟨by decide, by decide⟩ (by first | (clear hv1 hv2 hv3 hx2 hx3 h_1 h_2 h_3 h_4 h_5 h_6 h_8 h_16 h_18 h_26 h_27 hx1 hx4 hx5 hx6 hx7 hx8 hx9 hx10; omega) | omega) (Or.inl (by first | (clear hv1 hv2 hv3 hx0 hx3 h_1 h_2 h_3 h_4 h_5 h_6 h_16 h_18 h_26 hx1 hx4 hx5 hx6 hx7 hx8 hx9 hx10; omega) | omega)) (Or.inl (by first | assumption | omega)) (Or.inl (by first | assumption | omega)) (Or.inl ⟨by first | decide | omega, by first | decide | omega⟩)
        · refine v_ic_gt_f (t := 16) c_155_9 rfl ⟨by first | exact q_831bb82af h_18 | omega, (Int.not_lt.mp h_26), by decide⟩ (q_iconst c_155_12 (q_goto (t := 17) c_155_13 rfl (v_zret c_155_17 rfl (by decide) (bk_inl (v_if_eq_f (t := 67) c_157_31 rfl (by decide) (q_iload_n c_157_34 rfl (v_bip c_157_35 (by decide) ?_)))))))
          by_cases h_34 : v2 ≥ 6
          · refine v_ic_ge_t (t := 56) c_157_37 rfl ⟨by decide, h_34, (Int.le_trans hv2.2 (by decide))⟩ (q_iconst c_157_56 (q_istore_n c_157_57 (Nat.le_of_ble_eq_true rfl) (v_iinc (v := v2 + 1) c_157_58 rfl (Nat.le_of_ble_eq_true rfl) rfl (v_iinc (v := v3 + 1) c_157_61 rfl (Nat.le_of_ble_eq_true rfl) rfl (q_goto (t := 14) c_157_64 rfl (Wp_ls [(0, .ref 41), (1, vi 0), (2, vi (v2 + 1)), (3, vi (v3 + 1))] (lsub_cons rfl (lsub_cons rfl (lsub_cons rfl (lsub_cons rfl lsub_nil)))) ?_))))))
            have h_35 : v3 = c2 41 4 → c 43 v3 = c 43 (c2 41 4) := fun e9 => congrArg (c 43) e9
            have h_36 : v3 = c2 41 4 + 1 → c 43 v3 = c 43 (c2 41 4 + 1) := fun e9 => congrArg (c 43) e9
            have h_37 : v3 = c2 41 4 + 2 → c 43 v3 = c 43 (c2 41 4 + 2) := fun e9 => congrArg (c 43) e9
            have h_38 : c 43 ((c2 41 4) + 1) = c 43 (c2 41 4 + 1) := congrArg (c 43) (by first | exact q_b71d35cdf | assumption | exact Int.le_antisymm (by omega) (by omega))
            have h_39 : c 43 ((c2 41 4) + 2) = c 43 (c2 41 4 + 2) := congrArg (c 43) (by first | exact q_c5c511dbd | assumption | exact Int.le_antisymm (by omega) (by omega))
            have h_40 : c 43 ((c2 41 4)) = c 43 (c2 41 4) := congrArg (c 43) (by first | exact q_ef0f4cfe4 | assumption | exact Int.le_antisymm (by omega) (by omega))
            exact ih c2 0 (v2 + 1) (v3 + 1) hI2 (fun a j hm => hF a j hm) ⟨by decide, by decide⟩ ⟨by first | exact rgp_l hv2.1 (by decide) | omega, by first | (clear hv1 hv2 hv3 hx0 hx3 h_1 h_4 h_5 h_6 h_16 h_18 h_26 h_34 hx1 hx4 hx5 hx6 hx7 hx8 hx9 hx10; omega) | omega⟩ ⟨by first | exact rgp_l hv3.1 (by decide) | omega, by first | exact q_dadb204b8 h_3 h_8 | omega⟩ (by first | (clear hv1 hv2 hv3 hx2 hx3 h_1 h_2 h_3 h_4 h_5 h_6 h_8 h_16 h_18 h_26 h_34 hx1 hx4 hx5 hx6 hx7 hx8 hx9 hx10 h_35 h_36 h_37; omega) | omega) (Or.inl (by first | (clear hv1 hv2 hv3 hx0 hx3 h_1 h_2 h_3 h_4 h_5 h_6 h_16 h_18 h_26 hx1 hx4 hx5 hx6 hx7 hx8 hx9 hx10 h_35 h_36 h_37; omega) | omega)) (by first | (clear hv1 hv2 hv3 hx0 hx3 h_1 h_2 h_3 h_4 h_5 h_6 h_8 h_16 h_18 h_26 h_34 hx1 hx4 hx5 hx6 hx7 hx8 hx9 hx10 h_35 h_36 h_37; omega) | omega) (by first | exact q_d667f18da h_34 | omega) (Or.inl (by first | exact q_9ecb19880 h_34 | omega)) (Or.inr ⟨by first | (clear hv1 hv2 hv3 hx0 hx2 hx3 h_1 h_2 h_3 h_4 h_5 h_6 h_8 h_16 h_18 h_26 hx1 hx4 hx6 hx7 hx8 hx9 hx10 h_35 h_36 h_37; omega) | omega, by first | (clear hv1 hv2 hv3 hx0 hx2 hx3 h_1 h_2 h_3 h_4 h_5 h_6 h_8 h_16 h_18 h_26 hx1 hx4 hx6 hx7 hx8 hx9 hx10 h_35 h_36 h_37; omega) | omega⟩) (Or.inr ⟨by first | (clear hv1 hv2 hv3 hx0 hx2 hx3 h_1 h_2 h_3 h_4 h_5 h_6 h_8 h_16 h_18 h_26 hx1 hx4 hx5 hx7 hx8 hx9 hx10 h_35 h_36 h_37; omega) | omega, by first | (clear hv1 hv2 hv3 hx0 hx2 hx3 h_1 h_2 h_3 h_4 h_5 h_6 h_8 h_16 h_18 h_26 hx1 hx4 hx5 hx7 hx8 hx9 hx10 h_35 h_36 h_37; omega) | omega⟩) (Or.inr ⟨by first | (clear hv1 hv2 hv3 hx0 hx2 hx3 h_1 h_2 h_3 h_4 h_5 h_6 h_8 h_16 h_18 h_26 hx1 hx4 hx5 hx6 hx8 hx9 hx10 h_35 h_36 h_37; omega) | omega, by first | (clear hv1 hv2 hv3 hx0 hx2 hx3 h_1 h_2 h_3 h_4 h_5 h_6 h_8 h_16 h_18 h_26 hx1 hx4 hx5 hx6 hx8 hx9 hx10 h_35 h_36 h_37; omega) | omega⟩) (Or.inl (by first | exact q_b0e066d21 h_34 | omega)) (Or.inl (by first | exact q_b4a8c2409 h_34 | omega)) (Or.inr (by first | exact q_d6c070bf6 h_8 | omega)) (by omega)
          · refine v_ic_ge_f (t := 56) c_157_37 rfl ⟨(Int.le_trans (by decide) hv2.1), (Int.not_le.mp h_34), by decide⟩ (q_iload_n c_157_40 rfl (q_iconst c_157_41 (v_ishl5 c_157_42 (fun y_41 hy_41 h_42 => (q_aload_n c_157_43 rfl (v_gr (t := 43) c_157_44 kf_8_20 rfl (Nat.le_of_ble_eq_true rfl) rfl (q_iload_n c_157_47 rfl (v_ia (v := c 43 v3) c_157_48 rfl (by decide) (by decide) ⟨hv3.1, by first | exact q_364416c3d h_3 h_8 | omega⟩ (hid kn_17) ?_))))))))
            refine v_bip c_157_49 (by decide) (v_isub (v := c 43 v3 - 96) c_157_51 rfl (v_ior5 c_157_52 (fun y_43 hy_43 h_44 h_45 => (q_goto (t := 57) c_157_53 rfl (q_istore_n c_157_57 (Nat.le_of_ble_eq_true rfl) (v_iinc (v := v2 + 1) c_157_58 rfl (Nat.le_of_ble_eq_true rfl) rfl (v_iinc (v := v3 + 1) c_157_61 rfl (Nat.le_of_ble_eq_true rfl) rfl (q_goto (t := 14) c_157_64 rfl ?_))))))))
            refine Wp_ls [(0, .ref 41), (1, vi y_43), (2, vi (v2 + 1)), (3, vi (v3 + 1))] (lsub_cons rfl (lsub_cons rfl (lsub_cons rfl (lsub_cons rfl lsub_nil)))) ?_
            have h_46 : v3 = c2 41 4 → c 43 v3 = c 43 (c2 41 4) := fun e9 => congrArg (c 43) e9
            have h_47 : v3 = c2 41 4 + 1 → c 43 v3 = c 43 (c2 41 4 + 1) := fun e9 => congrArg (c 43) e9
            have h_48 : v3 = c2 41 4 + 2 → c 43 v3 = c 43 (c2 41 4 + 2) := fun e9 => congrArg (c 43) e9
            have h_49 : c 43 ((c2 41 4) + 1) = c 43 (c2 41 4 + 1) := congrArg (c 43) (by first | exact q_b71d35cdf | assumption | exact Int.le_antisymm (by omega) (by omega))
            have h_50 : c 43 ((c2 41 4) + 2) = c 43 (c2 41 4 + 2) := congrArg (c 43) (by first | exact q_c5c511dbd | assumption | exact Int.le_antisymm (by omega) (by omega))
            have h_51 : c 43 ((c2 41 4)) = c 43 (c2 41 4) := congrArg (c 43) (by first | exact q_ef0f4cfe4 | assumption | exact Int.le_antisymm (by omega) (by omega))
            exact ih c2 y_43 (v2 + 1) (v3 + 1) hI2 (fun a j hm => hF a j hm) hy_43 ⟨by first | exact rgp_l hv2.1 (by decide) | omega, by first | exact q_71cfba098 h_34 | omega⟩ ⟨by first | exact rgp_l hv3.1 (by decide) | omega, by first | exact q_dadb204b8 h_3 h_8 | omega⟩ (by first | (clear hv1 hv2 hv3 hx2 hx3 h_1 h_2 h_3 h_4 h_5 h_6 h_8 h_16 h_18 h_26 h_34 hx1 hx4 hx5 hx6 hx7 hx8 hx9 hx10 h_46 h_47 h_48; omega) | omega) (Or.inl (by first | (clear hv1 hv3 hx0 hx3 h_1 h_2 h_3 h_4 h_5 h_6 h_16 h_18 h_26 h_34 hx1 hx4 hx5 hx6 hx7 hx8 hx9 hx10 h_46 h_47 h_48; omega) | omega)) (by first | (clear hv1 hv2 hv3 hx0 hx3 h_1 h_2 h_3 h_4 h_5 h_6 h_8 h_16 h_18 h_26 h_34 hx1 hx4 hx5 hx6 hx7 hx8 hx9 hx10 h_46 h_47 h_48; omega) | omega) (by first | exact q_fc9c378ef hv2 | omega) (Or.inl (by first | exact q_5574c4e4e hv2 | omega)) (Or.inr ⟨by first | (clear hv1 hv2 hv3 hx0 hx3 h_1 h_2 h_3 h_4 h_5 h_6 h_8 h_16 h_26 h_34 hx1 hx4 hx6 hx7 hx8 hx9 hx10 h_47 h_48; omega) | omega, by first | (clear hv1 hv2 hv3 hx0 hx3 h_1 h_2 h_3 h_4 h_5 h_6 h_8 h_16 h_18 h_34 hx1 hx4 hx6 hx7 hx8 hx9 hx10 h_47 h_48; omega) | omega⟩) (by omega) (by omega) (by omega) (by omega) (Or.inr (by first | exact q_d6c070bf6 h_8 | omega)) (by omega)
set_option maxRecDepth 100000 in
set_option maxHeartbeats 4000000 in
theorem s_157 {sc : List Int32} {e : Int} {d u P Q : Nat} {c : ME} {Z : AR → Prop} (hI : Iv u e P Q c)  (K : ∀ (c2 : ME) (y : Int), Iv u e P Q c2 → (∀ (a : Nat) (j : Int), ¬ ((a = 41 ∧ j = 4)) → c2 a j = c a j) → (-2147483648) ≤ y ∧ y ≤ 2147483647 → ((c2 41 4 ≥ c 41 4)) → ((c2 41 4 ≤ c 41 3) ∨ (c2 41 4 = c 41 4)) → ((y = 0) ∨ (c2 41 4 < c 41 3)) → ((y = 0) ∨ (c 43 (c2 41 4) ≥ 97 ∧ c 43 (c2 41 4) ≤ 122)) → ((y ≥ 0 ∧ y ≤ 1023) ∨ (c 43 (c2 41 4 + 1) ≥ 97 ∧ c 43 (c2 41 4 + 1) ≤ 122 ∧ c 43 (c2 41 4 + 2) ≥ 97 ∧ c 43 (c2 41 4 + 2) ≤ 122 ∧ c2 41 4 + 3 ≤ c 41 3)) → Z (.inl (some (vi y)), Wd P Q P P c2, 0, 0)) : Wp sc (d + 8) 157 0 [(0, .ref 41)] [] (Wd P Q P P c) 0 0 Z := by
  have hP := iv_P hI
  have hQ := iv_Q hI
  refine q_aload_n c_157_0 rfl ?_
  have h_52 := ir_41_4 hI
  have h_53 := ir_41_3 hI
  refine v_cv c_157_1 km_8_114 rfl rfl (Nat.le_of_ble_eq_true rfl) ⟨⟨rfl, rfl⟩, Nat.le_of_ble_eq_true rfl, rfl⟩ (Nat.le_of_ble_eq_true rfl) (Nat.le_of_ble_eq_true rfl) (s_154 hI (fun c_54 y_57 hI_55 hF_56 hy_57 h_58 h_59 h_60 h_61 => (bk_inl ?_)))
  have h_62 := ir_41_4 hI_55
  have h_63 := ir_43 hI (c_54 41 4)
  refine q_pop c_157_4 rfl (q_iconst c_157_5 (q_istore_n c_157_6 (Nat.le_of_ble_eq_true rfl) (q_iconst c_157_7 (q_istore_n c_157_8 (Nat.le_of_ble_eq_true rfl) (q_aload_n c_157_9 rfl (v_gi (z := 4) (v := c_54 41 4) c_157_10 kf_8_108 rfl (Nat.le_of_ble_eq_true rfl) rfl rfl rfl (q_istore_n c_157_13 (Nat.le_of_ble_eq_true rfl) ?_)))))))
  refine Wp_ls [(0, .ref 41), (1, vi 0), (2, vi 0), (3, vi (c_54 41 4))] (lsub_cons rfl (lsub_cons rfl (lsub_cons rfl (lsub_cons rfl lsub_nil)))) ?_
  have h_64 := ir_43 hI (c_54 41 4 + 1)
  have h_65 : c 43 ((c_54 41 4) + 1) = c 43 (c_54 41 4 + 1) := congrArg (c 43) (by first | exact q_b71d35cdf | assumption | exact Int.le_antisymm (by omega) (by omega))
  have h_66 := ir_43 hI (c_54 41 4 + 2)
  have h_67 : c 43 ((c_54 41 4) + 2) = c 43 (c_54 41 4 + 2) := congrArg (c 43) (by first | exact q_c5c511dbd | assumption | exact Int.le_antisymm (by omega) (by omega))
  have h_68 : c 43 ((c_54 41 4)) = c 43 (c_54 41 4) := congrArg (c 43) (by first | exact q_ef0f4cfe4 | assumption | exact Int.le_antisymm (by omega) (by omega))
  exact (s_157_l (sc := sc) (d := d) hI K 1214) c_54 0 0 (c_54 41 4) hI_55 (fun a j hm => hF_56 a j hm) ⟨by decide, by decide⟩ ⟨by decide, by decide⟩ h_62 (by first | exact q_a2ce855bf h_58 | omega) (by omega) (by first | assumption | omega) (by first | decide | omega) (Or.inr (by first | assumption | omega)) (Or.inl (by first | assumption | omega)) (Or.inl (by first | decide | omega)) (Or.inl (by first | decide | omega)) (Or.inr ⟨by first | decide | omega, by first | decide | omega⟩) (Or.inr ⟨by first | decide | omega, by first | decide | omega⟩) (Or.inl (by first | assumption | omega)) (by omega)

set_option maxRecDepth 100000 in
set_option maxHeartbeats 4000000 in
theorem s_158_16 {sc : List Int32} {d : Nat} {w : AW} {Z : AR → Prop} (K : Z (.inl (some (vi 10290)), w, 0, 0)) : Wp sc (d + 7) 158 0 [(0, .ref (a_SB + 16))] [] w 0 0 Z := by
  refine q_iconst c_158_0 (q_istore_n c_158_1 (Nat.le_of_ble_eq_true rfl) (q_iconst c_158_2 (q_istore_n c_158_3 (Nat.le_of_ble_eq_true rfl) (q_iload_n c_158_4 rfl (q_aload_n c_158_5 rfl (v_sln 3 c_158_6 rfl (by omega) (Nat.le_of_ble_eq_true rfl) (by decide) (by decide) (v_ic_ge_f (t := 31) c_158_9 rfl (by decide) ?_)))))))
  refine q_iload_n c_158_12 rfl (q_iconst c_158_13 (v_ishlc (v := 0) c_158_14 (by decide) (q_aload_n c_158_15 rfl (q_iload_n c_158_16 rfl (v_sch 106 c_158_17 rfl (by omega) (Nat.le_of_ble_eq_true rfl) (by decide) (by decide) (by decide) (v_bip c_158_20 (by decide) (v_isub (v := 10) c_158_22 (by decide) ?_)))))))
  refine v_iorc (v := 10) c_158_23 (by decide) (q_istore_n c_158_24 (Nat.le_of_ble_eq_true rfl) (v_iinc (v := 1) c_158_25 rfl (Nat.le_of_ble_eq_true rfl) (by decide) (q_goto (t := 4) c_158_28 rfl (q_iload_n c_158_4 rfl (q_aload_n c_158_5 rfl (v_sln 3 c_158_6 rfl (by omega) (Nat.le_of_ble_eq_true rfl) (by decide) (by decide) (v_ic_ge_f (t := 31) c_158_9 rfl (by decide) ?_)))))))
  refine q_iload_n c_158_12 rfl (q_iconst c_158_13 (v_ishlc (v := 320) c_158_14 (by decide) (q_aload_n c_158_15 rfl (q_iload_n c_158_16 rfl (v_sch 97 c_158_17 rfl (by omega) (Nat.le_of_ble_eq_true rfl) (by decide) (by decide) (by decide) (v_bip c_158_20 (by decide) (v_isub (v := 1) c_158_22 (by decide) ?_)))))))
  refine v_iorc (v := 321) c_158_23 (by decide) (q_istore_n c_158_24 (Nat.le_of_ble_eq_true rfl) (Wp_ls [(1, vi 321), (2, vi 1), (0, .ref (a_SB + 16))] (lsub_cons rfl (lsub_cons rfl (lsub_cons rfl lsub_nil))) (v_iinc (v := 2) c_158_25 rfl (Nat.le_of_ble_eq_true rfl) (by decide) (q_goto (t := 4) c_158_28 rfl (q_iload_n c_158_4 rfl (q_aload_n c_158_5 rfl (v_sln 3 c_158_6 rfl (by omega) (Nat.le_of_ble_eq_true rfl) (by decide) (by decide) ?_)))))))
  refine v_ic_ge_f (t := 31) c_158_9 rfl (by decide) (q_iload_n c_158_12 rfl (q_iconst c_158_13 (v_ishlc (v := 10272) c_158_14 (by decide) (q_aload_n c_158_15 rfl (q_iload_n c_158_16 rfl (v_sch 114 c_158_17 rfl (by omega) (Nat.le_of_ble_eq_true rfl) (by decide) (by decide) (by decide) (v_bip c_158_20 (by decide) ?_)))))))
  refine v_isub (v := 18) c_158_22 (by decide) (v_iorc (v := 10290) c_158_23 (by decide) (q_istore_n c_158_24 (Nat.le_of_ble_eq_true rfl) (v_iinc (v := 3) c_158_25 rfl (Nat.le_of_ble_eq_true rfl) (by decide) (q_goto (t := 4) c_158_28 rfl (q_iload_n c_158_4 rfl (q_aload_n c_158_5 rfl (v_sln 3 c_158_6 rfl (by omega) (Nat.le_of_ble_eq_true rfl) (by decide) (by decide) ?_)))))))
  refine v_ic_ge_t (t := 31) c_158_9 rfl (by decide) (q_iload_n c_158_31 rfl (q_iret c_158_32 rfl ?_))
  exact K
set_option maxRecDepth 100000 in
set_option maxHeartbeats 4000000 in
theorem s_158_17 {sc : List Int32} {d : Nat} {w : AW} {Z : AR → Prop} (K : Z (.inl (some (vi 20594117)), w, 0, 0)) : Wp sc (d + 7) 158 0 [(0, .ref (a_SB + 17))] [] w 0 0 Z := by
  refine q_iconst c_158_0 (q_istore_n c_158_1 (Nat.le_of_ble_eq_true rfl) (q_iconst c_158_2 (q_istore_n c_158_3 (Nat.le_of_ble_eq_true rfl) (q_iload_n c_158_4 rfl (q_aload_n c_158_5 rfl (v_sln 5 c_158_6 rfl (by omega) (Nat.le_of_ble_eq_true rfl) (by decide) (by decide) (v_ic_ge_f (t := 31) c_158_9 rfl (by decide) ?_)))))))
  refine q_iload_n c_158_12 rfl (q_iconst c_158_13 (v_ishlc (v := 0) c_158_14 (by decide) (q_aload_n c_158_15 rfl (q_iload_n c_158_16 rfl (v_sch 115 c_158_17 rfl (by omega) (Nat.le_of_ble_eq_true rfl) (by decide) (by decide) (by decide) (v_bip c_158_20 (by decide) (v_isub (v := 19) c_158_22 (by decide) ?_)))))))
  refine v_iorc (v := 19) c_158_23 (by decide) (q_istore_n c_158_24 (Nat.le_of_ble_eq_true rfl) (v_iinc (v := 1) c_158_25 rfl (Nat.le_of_ble_eq_true rfl) (by decide) (q_goto (t := 4) c_158_28 rfl (q_iload_n c_158_4 rfl (q_aload_n c_158_5 rfl (v_sln 5 c_158_6 rfl (by omega) (Nat.le_of_ble_eq_true rfl) (by decide) (by decide) (v_ic_ge_f (t := 31) c_158_9 rfl (by decide) ?_)))))))
  refine q_iload_n c_158_12 rfl (q_iconst c_158_13 (v_ishlc (v := 608) c_158_14 (by decide) (q_aload_n c_158_15 rfl (q_iload_n c_158_16 rfl (v_sch 116 c_158_17 rfl (by omega) (Nat.le_of_ble_eq_true rfl) (by decide) (by decide) (by decide) (v_bip c_158_20 (by decide) (v_isub (v := 20) c_158_22 (by decide) ?_)))))))
  refine v_iorc (v := 628) c_158_23 (by decide) (q_istore_n c_158_24 (Nat.le_of_ble_eq_true rfl) (Wp_ls [(1, vi 628), (2, vi 1), (0, .ref (a_SB + 17))] (lsub_cons rfl (lsub_cons rfl (lsub_cons rfl lsub_nil))) (v_iinc (v := 2) c_158_25 rfl (Nat.le_of_ble_eq_true rfl) (by decide) (q_goto (t := 4) c_158_28 rfl (q_iload_n c_158_4 rfl (q_aload_n c_158_5 rfl (v_sln 5 c_158_6 rfl (by omega) (Nat.le_of_ble_eq_true rfl) (by decide) (by decide) ?_)))))))
  refine v_ic_ge_f (t := 31) c_158_9 rfl (by decide) (q_iload_n c_158_12 rfl (q_iconst c_158_13 (v_ishlc (v := 20096) c_158_14 (by decide) (q_aload_n c_158_15 rfl (q_iload_n c_158_16 rfl (v_sch 111 c_158_17 rfl (by omega) (Nat.le_of_ble_eq_true rfl) (by decide) (by decide) (by decide) (v_bip c_158_20 (by decide) ?_)))))))
  refine v_isub (v := 15) c_158_22 (by decide) (v_iorc (v := 20111) c_158_23 (by decide) (q_istore_n c_158_24 (Nat.le_of_ble_eq_true rfl) (v_iinc (v := 3) c_158_25 rfl (Nat.le_of_ble_eq_true rfl) (by decide) (q_goto (t := 4) c_158_28 rfl (q_iload_n c_158_4 rfl (q_aload_n c_158_5 rfl (v_sln 5 c_158_6 rfl (by omega) (Nat.le_of_ble_eq_true rfl) (by decide) (by decide) ?_)))))))
  refine v_ic_ge_f (t := 31) c_158_9 rfl (by decide) (q_iload_n c_158_12 rfl (q_iconst c_158_13 (v_ishlc (v := 643552) c_158_14 (by decide) (q_aload_n c_158_15 rfl (q_iload_n c_158_16 rfl (v_sch 110 c_158_17 rfl (by omega) (Nat.le_of_ble_eq_true rfl) (by decide) (by decide) (by decide) (v_bip c_158_20 (by decide) ?_)))))))
  refine v_isub (v := 14) c_158_22 (by decide) (v_iorc (v := 643566) c_158_23 (by decide) (q_istore_n c_158_24 (Nat.le_of_ble_eq_true rfl) (v_iinc (v := 4) c_158_25 rfl (Nat.le_of_ble_eq_true rfl) (by decide) (Wp_ls [(2, vi 4), (1, vi 643566), (0, .ref (a_SB + 17))] (lsub_cons rfl (lsub_cons rfl (lsub_cons rfl lsub_nil))) (q_goto (t := 4) c_158_28 rfl (q_iload_n c_158_4 rfl (q_aload_n c_158_5 rfl ?_)))))))
  refine v_sln 5 c_158_6 rfl (by omega) (Nat.le_of_ble_eq_true rfl) (by decide) (by decide) (v_ic_ge_f (t := 31) c_158_9 rfl (by decide) (q_iload_n c_158_12 rfl (q_iconst c_158_13 (v_ishlc (v := 20594112) c_158_14 (by decide) (q_aload_n c_158_15 rfl (q_iload_n c_158_16 rfl (v_sch 101 c_158_17 rfl (by omega) (Nat.le_of_ble_eq_true rfl) (by decide) (by decide) (by decide) ?_)))))))
  refine v_bip c_158_20 (by decide) (v_isub (v := 5) c_158_22 (by decide) (v_iorc (v := 20594117) c_158_23 (by decide) (q_istore_n c_158_24 (Nat.le_of_ble_eq_true rfl) (v_iinc (v := 5) c_158_25 rfl (Nat.le_of_ble_eq_true rfl) (by decide) (q_goto (t := 4) c_158_28 rfl (q_iload_n c_158_4 rfl (q_aload_n c_158_5 rfl ?_)))))))
  refine v_sln 5 c_158_6 rfl (by omega) (Nat.le_of_ble_eq_true rfl) (by decide) (by decide) (v_ic_ge_t (t := 31) c_158_9 rfl (by decide) (q_iload_n c_158_31 rfl (q_iret c_158_32 rfl ?_)))
  exact K
set_option maxRecDepth 100000 in
set_option maxHeartbeats 4000000 in
theorem s_158_18 {sc : List Int32} {d : Nat} {w : AW} {Z : AR → Prop} (K : Z (.inl (some (vi 20223685)), w, 0, 0)) : Wp sc (d + 7) 158 0 [(0, .ref (a_SB + 18))] [] w 0 0 Z := by
  refine q_iconst c_158_0 (q_istore_n c_158_1 (Nat.le_of_ble_eq_true rfl) (q_iconst c_158_2 (q_istore_n c_158_3 (Nat.le_of_ble_eq_true rfl) (q_iload_n c_158_4 rfl (q_aload_n c_158_5 rfl (v_sln 5 c_158_6 rfl (by omega) (Nat.le_of_ble_eq_true rfl) (by decide) (by decide) (v_ic_ge_f (t := 31) c_158_9 rfl (by decide) ?_)))))))
  refine q_iload_n c_158_12 rfl (q_iconst c_158_13 (v_ishlc (v := 0) c_158_14 (by decide) (q_aload_n c_158_15 rfl (q_iload_n c_158_16 rfl (v_sch 115 c_158_17 rfl (by omega) (Nat.le_of_ble_eq_true rfl) (by decide) (by decide) (by decide) (v_bip c_158_20 (by decide) (v_isub (v := 19) c_158_22 (by decide) ?_)))))))
  refine v_iorc (v := 19) c_158_23 (by decide) (q_istore_n c_158_24 (Nat.le_of_ble_eq_true rfl) (v_iinc (v := 1) c_158_25 rfl (Nat.le_of_ble_eq_true rfl) (by decide) (q_goto (t := 4) c_158_28 rfl (q_iload_n c_158_4 rfl (q_aload_n c_158_5 rfl (v_sln 5 c_158_6 rfl (by omega) (Nat.le_of_ble_eq_true rfl) (by decide) (by decide) (v_ic_ge_f (t := 31) c_158_9 rfl (by decide) ?_)))))))
  refine q_iload_n c_158_12 rfl (q_iconst c_158_13 (v_ishlc (v := 608) c_158_14 (by decide) (q_aload_n c_158_15 rfl (q_iload_n c_158_16 rfl (v_sch 105 c_158_17 rfl (by omega) (Nat.le_of_ble_eq_true rfl) (by decide) (by decide) (by decide) (v_bip c_158_20 (by decide) (v_isub (v := 9) c_158_22 (by decide) ?_)))))))
  refine v_iorc (v := 617) c_158_23 (by decide) (q_istore_n c_158_24 (Nat.le_of_ble_eq_true rfl) (Wp_ls [(1, vi 617), (2, vi 1), (0, .ref (a_SB + 18))] (lsub_cons rfl (lsub_cons rfl (lsub_cons rfl lsub_nil))) (v_iinc (v := 2) c_158_25 rfl (Nat.le_of_ble_eq_true rfl) (by decide) (q_goto (t := 4) c_158_28 rfl (q_iload_n c_158_4 rfl (q_aload_n c_158_5 rfl (v_sln 5 c_158_6 rfl (by omega) (Nat.le_of_ble_eq_true rfl) (by decide) (by decide) ?_)))))))
  refine v_ic_ge_f (t := 31) c_158_9 rfl (by decide) (q_iload_n c_158_12 rfl (q_iconst c_158_13 (v_ishlc (v := 19744) c_158_14 (by decide) (q_aload_n c_158_15 rfl (q_iload_n c_158_16 rfl (v_sch 101 c_158_17 rfl (by omega) (Nat.le_of_ble_eq_true rfl) (by decide) (by decide) (by decide) (v_bip c_158_20 (by decide) ?_)))))))
  refine v_isub (v := 5) c_158_22 (by decide) (v_iorc (v := 19749) c_158_23 (by decide) (q_istore_n c_158_24 (Nat.le_of_ble_eq_true rfl) (v_iinc (v := 3) c_158_25 rfl (Nat.le_of_ble_eq_true rfl) (by decide) (q_goto (t := 4) c_158_28 rfl (q_iload_n c_158_4 rfl (q_aload_n c_158_5 rfl (v_sln 5 c_158_6 rfl (by omega) (Nat.le_of_ble_eq_true rfl) (by decide) (by decide) ?_)))))))
  refine v_ic_ge_f (t := 31) c_158_9 rfl (by decide) (q_iload_n c_158_12 rfl (q_iconst c_158_13 (v_ishlc (v := 631968) c_158_14 (by decide) (q_aload_n c_158_15 rfl (q_iload_n c_158_16 rfl (v_sch 118 c_158_17 rfl (by omega) (Nat.le_of_ble_eq_true rfl) (by decide) (by decide) (by decide) (v_bip c_158_20 (by decide) ?_)))))))
  refine v_isub (v := 22) c_158_22 (by decide) (v_iorc (v := 631990) c_158_23 (by decide) (q_istore_n c_158_24 (Nat.le_of_ble_eq_true rfl) (v_iinc (v := 4) c_158_25 rfl (Nat.le_of_ble_eq_true rfl) (by decide) (Wp_ls [(2, vi 4), (1, vi 631990), (0, .ref (a_SB + 18))] (lsub_cons rfl (lsub_cons rfl (lsub_cons rfl lsub_nil))) (q_goto (t := 4) c_158_28 rfl (q_iload_n c_158_4 rfl (q_aload_n c_158_5 rfl ?_)))))))
  refine v_sln 5 c_158_6 rfl (by omega) (Nat.le_of_ble_eq_true rfl) (by decide) (by decide) (v_ic_ge_f (t := 31) c_158_9 rfl (by decide) (q_iload_n c_158_12 rfl (q_iconst c_158_13 (v_ishlc (v := 20223680) c_158_14 (by decide) (q_aload_n c_158_15 rfl (q_iload_n c_158_16 rfl (v_sch 101 c_158_17 rfl (by omega) (Nat.le_of_ble_eq_true rfl) (by decide) (by decide) (by decide) ?_)))))))
  refine v_bip c_158_20 (by decide) (v_isub (v := 5) c_158_22 (by decide) (v_iorc (v := 20223685) c_158_23 (by decide) (q_istore_n c_158_24 (Nat.le_of_ble_eq_true rfl) (v_iinc (v := 5) c_158_25 rfl (Nat.le_of_ble_eq_true rfl) (by decide) (q_goto (t := 4) c_158_28 rfl (q_iload_n c_158_4 rfl (q_aload_n c_158_5 rfl ?_)))))))
  refine v_sln 5 c_158_6 rfl (by omega) (Nat.le_of_ble_eq_true rfl) (by decide) (by decide) (v_ic_ge_t (t := 31) c_158_9 rfl (by decide) (q_iload_n c_158_31 rfl (q_iret c_158_32 rfl ?_)))
  exact K
set_option maxRecDepth 100000 in
set_option maxHeartbeats 4000000 in
theorem s_158_19 {sc : List Int32} {d : Nat} {w : AW} {Z : AR → Prop} (K : Z (.inl (some (vi 153204)), w, 0, 0)) : Wp sc (d + 7) 158 0 [(0, .ref (a_SB + 19))] [] w 0 0 Z := by
  refine q_iconst c_158_0 (q_istore_n c_158_1 (Nat.le_of_ble_eq_true rfl) (q_iconst c_158_2 (q_istore_n c_158_3 (Nat.le_of_ble_eq_true rfl) (q_iload_n c_158_4 rfl (q_aload_n c_158_5 rfl (v_sln 4 c_158_6 rfl (by omega) (Nat.le_of_ble_eq_true rfl) (by decide) (by decide) (v_ic_ge_f (t := 31) c_158_9 rfl (by decide) ?_)))))))
  refine q_iload_n c_158_12 rfl (q_iconst c_158_13 (v_ishlc (v := 0) c_158_14 (by decide) (q_aload_n c_158_15 rfl (q_iload_n c_158_16 rfl (v_sch 100 c_158_17 rfl (by omega) (Nat.le_of_ble_eq_true rfl) (by decide) (by decide) (by decide) (v_bip c_158_20 (by decide) (v_isub (v := 4) c_158_22 (by decide) ?_)))))))
  refine v_iorc (v := 4) c_158_23 (by decide) (q_istore_n c_158_24 (Nat.le_of_ble_eq_true rfl) (v_iinc (v := 1) c_158_25 rfl (Nat.le_of_ble_eq_true rfl) (by decide) (q_goto (t := 4) c_158_28 rfl (q_iload_n c_158_4 rfl (q_aload_n c_158_5 rfl (v_sln 4 c_158_6 rfl (by omega) (Nat.le_of_ble_eq_true rfl) (by decide) (by decide) (v_ic_ge_f (t := 31) c_158_9 rfl (by decide) ?_)))))))
  refine q_iload_n c_158_12 rfl (q_iconst c_158_13 (v_ishlc (v := 128) c_158_14 (by decide) (q_aload_n c_158_15 rfl (q_iload_n c_158_16 rfl (v_sch 117 c_158_17 rfl (by omega) (Nat.le_of_ble_eq_true rfl) (by decide) (by decide) (by decide) (v_bip c_158_20 (by decide) (v_isub (v := 21) c_158_22 (by decide) ?_)))))))
  refine v_iorc (v := 149) c_158_23 (by decide) (q_istore_n c_158_24 (Nat.le_of_ble_eq_true rfl) (Wp_ls [(1, vi 149), (2, vi 1), (0, .ref (a_SB + 19))] (lsub_cons rfl (lsub_cons rfl (lsub_cons rfl lsub_nil))) (v_iinc (v := 2) c_158_25 rfl (Nat.le_of_ble_eq_true rfl) (by decide) (q_goto (t := 4) c_158_28 rfl (q_iload_n c_158_4 rfl (q_aload_n c_158_5 rfl (v_sln 4 c_158_6 rfl (by omega) (Nat.le_of_ble_eq_true rfl) (by decide) (by decide) ?_)))))))
  refine v_ic_ge_f (t := 31) c_158_9 rfl (by decide) (q_iload_n c_158_12 rfl (q_iconst c_158_13 (v_ishlc (v := 4768) c_158_14 (by decide) (q_aload_n c_158_15 rfl (q_iload_n c_158_16 rfl (v_sch 115 c_158_17 rfl (by omega) (Nat.le_of_ble_eq_true rfl) (by decide) (by decide) (by decide) (v_bip c_158_20 (by decide) ?_)))))))
  refine v_isub (v := 19) c_158_22 (by decide) (v_iorc (v := 4787) c_158_23 (by decide) (q_istore_n c_158_24 (Nat.le_of_ble_eq_true rfl) (v_iinc (v := 3) c_158_25 rfl (Nat.le_of_ble_eq_true rfl) (by decide) (q_goto (t := 4) c_158_28 rfl (q_iload_n c_158_4 rfl (q_aload_n c_158_5 rfl (v_sln 4 c_158_6 rfl (by omega) (Nat.le_of_ble_eq_true rfl) (by decide) (by decide) ?_)))))))
  refine v_ic_ge_f (t := 31) c_158_9 rfl (by decide) (q_iload_n c_158_12 rfl (q_iconst c_158_13 (v_ishlc (v := 153184) c_158_14 (by decide) (q_aload_n c_158_15 rfl (q_iload_n c_158_16 rfl (v_sch 116 c_158_17 rfl (by omega) (Nat.le_of_ble_eq_true rfl) (by decide) (by decide) (by decide) (v_bip c_158_20 (by decide) ?_)))))))
  refine v_isub (v := 20) c_158_22 (by decide) (v_iorc (v := 153204) c_158_23 (by decide) (q_istore_n c_158_24 (Nat.le_of_ble_eq_true rfl) (v_iinc (v := 4) c_158_25 rfl (Nat.le_of_ble_eq_true rfl) (by decide) (Wp_ls [(2, vi 4), (1, vi 153204), (0, .ref (a_SB + 19))] (lsub_cons rfl (lsub_cons rfl (lsub_cons rfl lsub_nil))) (q_goto (t := 4) c_158_28 rfl (q_iload_n c_158_4 rfl (q_aload_n c_158_5 rfl ?_)))))))
  refine v_sln 4 c_158_6 rfl (by omega) (Nat.le_of_ble_eq_true rfl) (by decide) (by decide) (v_ic_ge_t (t := 31) c_158_9 rfl (by decide) (q_iload_n c_158_31 rfl (q_iret c_158_32 rfl ?_)))
  exact K
set_option maxRecDepth 100000 in
set_option maxHeartbeats 4000000 in
theorem s_158_20 {sc : List Int32} {d : Nat} {w : AW} {Z : AR → Prop} (K : Z (.inl (some (vi 12748404)), w, 0, 0)) : Wp sc (d + 7) 158 0 [(0, .ref (a_SB + 20))] [] w 0 0 Z := by
  refine q_iconst c_158_0 (q_istore_n c_158_1 (Nat.le_of_ble_eq_true rfl) (q_iconst c_158_2 (q_istore_n c_158_3 (Nat.le_of_ble_eq_true rfl) (q_iload_n c_158_4 rfl (q_aload_n c_158_5 rfl (v_sln 5 c_158_6 rfl (by omega) (Nat.le_of_ble_eq_true rfl) (by decide) (by decide) (v_ic_ge_f (t := 31) c_158_9 rfl (by decide) ?_)))))))
  refine q_iload_n c_158_12 rfl (q_iconst c_158_13 (v_ishlc (v := 0) c_158_14 (by decide) (q_aload_n c_158_15 rfl (q_iload_n c_158_16 rfl (v_sch 108 c_158_17 rfl (by omega) (Nat.le_of_ble_eq_true rfl) (by decide) (by decide) (by decide) (v_bip c_158_20 (by decide) (v_isub (v := 12) c_158_22 (by decide) ?_)))))))
  refine v_iorc (v := 12) c_158_23 (by decide) (q_istore_n c_158_24 (Nat.le_of_ble_eq_true rfl) (v_iinc (v := 1) c_158_25 rfl (Nat.le_of_ble_eq_true rfl) (by decide) (q_goto (t := 4) c_158_28 rfl (q_iload_n c_158_4 rfl (q_aload_n c_158_5 rfl (v_sln 5 c_158_6 rfl (by omega) (Nat.le_of_ble_eq_true rfl) (by decide) (by decide) (v_ic_ge_f (t := 31) c_158_9 rfl (by decide) ?_)))))))
  refine q_iload_n c_158_12 rfl (q_iconst c_158_13 (v_ishlc (v := 384) c_158_14 (by decide) (q_aload_n c_158_15 rfl (q_iload_n c_158_16 rfl (v_sch 101 c_158_17 rfl (by omega) (Nat.le_of_ble_eq_true rfl) (by decide) (by decide) (by decide) (v_bip c_158_20 (by decide) (v_isub (v := 5) c_158_22 (by decide) ?_)))))))
  refine v_iorc (v := 389) c_158_23 (by decide) (q_istore_n c_158_24 (Nat.le_of_ble_eq_true rfl) (Wp_ls [(1, vi 389), (2, vi 1), (0, .ref (a_SB + 20))] (lsub_cons rfl (lsub_cons rfl (lsub_cons rfl lsub_nil))) (v_iinc (v := 2) c_158_25 rfl (Nat.le_of_ble_eq_true rfl) (by decide) (q_goto (t := 4) c_158_28 rfl (q_iload_n c_158_4 rfl (q_aload_n c_158_5 rfl (v_sln 5 c_158_6 rfl (by omega) (Nat.le_of_ble_eq_true rfl) (by decide) (by decide) ?_)))))))
  refine v_ic_ge_f (t := 31) c_158_9 rfl (by decide) (q_iload_n c_158_12 rfl (q_iconst c_158_13 (v_ishlc (v := 12448) c_158_14 (by decide) (q_aload_n c_158_15 rfl (q_iload_n c_158_16 rfl (v_sch 97 c_158_17 rfl (by omega) (Nat.le_of_ble_eq_true rfl) (by decide) (by decide) (by decide) (v_bip c_158_20 (by decide) ?_)))))))
  refine v_isub (v := 1) c_158_22 (by decide) (v_iorc (v := 12449) c_158_23 (by decide) (q_istore_n c_158_24 (Nat.le_of_ble_eq_true rfl) (v_iinc (v := 3) c_158_25 rfl (Nat.le_of_ble_eq_true rfl) (by decide) (q_goto (t := 4) c_158_28 rfl (q_iload_n c_158_4 rfl (q_aload_n c_158_5 rfl (v_sln 5 c_158_6 rfl (by omega) (Nat.le_of_ble_eq_true rfl) (by decide) (by decide) ?_)))))))
  refine v_ic_ge_f (t := 31) c_158_9 rfl (by decide) (q_iload_n c_158_12 rfl (q_iconst c_158_13 (v_ishlc (v := 398368) c_158_14 (by decide) (q_aload_n c_158_15 rfl (q_iload_n c_158_16 rfl (v_sch 115 c_158_17 rfl (by omega) (Nat.le_of_ble_eq_true rfl) (by decide) (by decide) (by decide) (v_bip c_158_20 (by decide) ?_)))))))
  refine v_isub (v := 19) c_158_22 (by decide) (v_iorc (v := 398387) c_158_23 (by decide) (q_istore_n c_158_24 (Nat.le_of_ble_eq_true rfl) (v_iinc (v := 4) c_158_25 rfl (Nat.le_of_ble_eq_true rfl) (by decide) (Wp_ls [(2, vi 4), (1, vi 398387), (0, .ref (a_SB + 20))] (lsub_cons rfl (lsub_cons rfl (lsub_cons rfl lsub_nil))) (q_goto (t := 4) c_158_28 rfl (q_iload_n c_158_4 rfl (q_aload_n c_158_5 rfl ?_)))))))
  refine v_sln 5 c_158_6 rfl (by omega) (Nat.le_of_ble_eq_true rfl) (by decide) (by decide) (v_ic_ge_f (t := 31) c_158_9 rfl (by decide) (q_iload_n c_158_12 rfl (q_iconst c_158_13 (v_ishlc (v := 12748384) c_158_14 (by decide) (q_aload_n c_158_15 rfl (q_iload_n c_158_16 rfl (v_sch 116 c_158_17 rfl (by omega) (Nat.le_of_ble_eq_true rfl) (by decide) (by decide) (by decide) ?_)))))))
  refine v_bip c_158_20 (by decide) (v_isub (v := 20) c_158_22 (by decide) (v_iorc (v := 12748404) c_158_23 (by decide) (q_istore_n c_158_24 (Nat.le_of_ble_eq_true rfl) (v_iinc (v := 5) c_158_25 rfl (Nat.le_of_ble_eq_true rfl) (by decide) (q_goto (t := 4) c_158_28 rfl (q_iload_n c_158_4 rfl (q_aload_n c_158_5 rfl ?_)))))))
  refine v_sln 5 c_158_6 rfl (by omega) (Nat.le_of_ble_eq_true rfl) (by decide) (by decide) (v_ic_ge_t (t := 31) c_158_9 rfl (by decide) (q_iload_n c_158_31 rfl (q_iret c_158_32 rfl ?_)))
  exact K
set_option maxRecDepth 100000 in
set_option maxHeartbeats 4000000 in
theorem s_158_21 {sc : List Int32} {d : Nat} {w : AW} {Z : AR → Prop} (K : Z (.inl (some (vi 441972)), w, 0, 0)) : Wp sc (d + 7) 158 0 [(0, .ref (a_SB + 21))] [] w 0 0 Z := by
  refine q_iconst c_158_0 (q_istore_n c_158_1 (Nat.le_of_ble_eq_true rfl) (q_iconst c_158_2 (q_istore_n c_158_3 (Nat.le_of_ble_eq_true rfl) (q_iload_n c_158_4 rfl (q_aload_n c_158_5 rfl (v_sln 4 c_158_6 rfl (by omega) (Nat.le_of_ble_eq_true rfl) (by decide) (by decide) (v_ic_ge_f (t := 31) c_158_9 rfl (by decide) ?_)))))))
  refine q_iload_n c_158_12 rfl (q_iconst c_158_13 (v_ishlc (v := 0) c_158_14 (by decide) (q_aload_n c_158_15 rfl (q_iload_n c_158_16 rfl (v_sch 109 c_158_17 rfl (by omega) (Nat.le_of_ble_eq_true rfl) (by decide) (by decide) (by decide) (v_bip c_158_20 (by decide) (v_isub (v := 13) c_158_22 (by decide) ?_)))))))
  refine v_iorc (v := 13) c_158_23 (by decide) (q_istore_n c_158_24 (Nat.le_of_ble_eq_true rfl) (v_iinc (v := 1) c_158_25 rfl (Nat.le_of_ble_eq_true rfl) (by decide) (q_goto (t := 4) c_158_28 rfl (q_iload_n c_158_4 rfl (q_aload_n c_158_5 rfl (v_sln 4 c_158_6 rfl (by omega) (Nat.le_of_ble_eq_true rfl) (by decide) (by decide) (v_ic_ge_f (t := 31) c_158_9 rfl (by decide) ?_)))))))
  refine q_iload_n c_158_12 rfl (q_iconst c_158_13 (v_ishlc (v := 416) c_158_14 (by decide) (q_aload_n c_158_15 rfl (q_iload_n c_158_16 rfl (v_sch 111 c_158_17 rfl (by omega) (Nat.le_of_ble_eq_true rfl) (by decide) (by decide) (by decide) (v_bip c_158_20 (by decide) (v_isub (v := 15) c_158_22 (by decide) ?_)))))))
  refine v_iorc (v := 431) c_158_23 (by decide) (q_istore_n c_158_24 (Nat.le_of_ble_eq_true rfl) (Wp_ls [(1, vi 431), (2, vi 1), (0, .ref (a_SB + 21))] (lsub_cons rfl (lsub_cons rfl (lsub_cons rfl lsub_nil))) (v_iinc (v := 2) c_158_25 rfl (Nat.le_of_ble_eq_true rfl) (by decide) (q_goto (t := 4) c_158_28 rfl (q_iload_n c_158_4 rfl (q_aload_n c_158_5 rfl (v_sln 4 c_158_6 rfl (by omega) (Nat.le_of_ble_eq_true rfl) (by decide) (by decide) ?_)))))))
  refine v_ic_ge_f (t := 31) c_158_9 rfl (by decide) (q_iload_n c_158_12 rfl (q_iconst c_158_13 (v_ishlc (v := 13792) c_158_14 (by decide) (q_aload_n c_158_15 rfl (q_iload_n c_158_16 rfl (v_sch 115 c_158_17 rfl (by omega) (Nat.le_of_ble_eq_true rfl) (by decide) (by decide) (by decide) (v_bip c_158_20 (by decide) ?_)))))))
  refine v_isub (v := 19) c_158_22 (by decide) (v_iorc (v := 13811) c_158_23 (by decide) (q_istore_n c_158_24 (Nat.le_of_ble_eq_true rfl) (v_iinc (v := 3) c_158_25 rfl (Nat.le_of_ble_eq_true rfl) (by decide) (q_goto (t := 4) c_158_28 rfl (q_iload_n c_158_4 rfl (q_aload_n c_158_5 rfl (v_sln 4 c_158_6 rfl (by omega) (Nat.le_of_ble_eq_true rfl) (by decide) (by decide) ?_)))))))
  refine v_ic_ge_f (t := 31) c_158_9 rfl (by decide) (q_iload_n c_158_12 rfl (q_iconst c_158_13 (v_ishlc (v := 441952) c_158_14 (by decide) (q_aload_n c_158_15 rfl (q_iload_n c_158_16 rfl (v_sch 116 c_158_17 rfl (by omega) (Nat.le_of_ble_eq_true rfl) (by decide) (by decide) (by decide) (v_bip c_158_20 (by decide) ?_)))))))
  refine v_isub (v := 20) c_158_22 (by decide) (v_iorc (v := 441972) c_158_23 (by decide) (q_istore_n c_158_24 (Nat.le_of_ble_eq_true rfl) (v_iinc (v := 4) c_158_25 rfl (Nat.le_of_ble_eq_true rfl) (by decide) (Wp_ls [(2, vi 4), (1, vi 441972), (0, .ref (a_SB + 21))] (lsub_cons rfl (lsub_cons rfl (lsub_cons rfl lsub_nil))) (q_goto (t := 4) c_158_28 rfl (q_iload_n c_158_4 rfl (q_aload_n c_158_5 rfl ?_)))))))
  refine v_sln 4 c_158_6 rfl (by omega) (Nat.le_of_ble_eq_true rfl) (by decide) (by decide) (v_ic_ge_t (t := 31) c_158_9 rfl (by decide) (q_iload_n c_158_31 rfl (q_iret c_158_32 rfl ?_)))
  exact K
set_option maxRecDepth 100000 in
set_option maxHeartbeats 4000000 in
theorem s_158_22 {sc : List Int32} {d : Nat} {w : AW} {Z : AR → Prop} (K : Z (.inl (some (vi 206277)), w, 0, 0)) : Wp sc (d + 7) 158 0 [(0, .ref (a_SB + 22))] [] w 0 0 Z := by
  refine q_iconst c_158_0 (q_istore_n c_158_1 (Nat.le_of_ble_eq_true rfl) (q_iconst c_158_2 (q_istore_n c_158_3 (Nat.le_of_ble_eq_true rfl) (q_iload_n c_158_4 rfl (q_aload_n c_158_5 rfl (v_sln 4 c_158_6 rfl (by omega) (Nat.le_of_ble_eq_true rfl) (by decide) (by decide) (v_ic_ge_f (t := 31) c_158_9 rfl (by decide) ?_)))))))
  refine q_iload_n c_158_12 rfl (q_iconst c_158_13 (v_ishlc (v := 0) c_158_14 (by decide) (q_aload_n c_158_15 rfl (q_iload_n c_158_16 rfl (v_sch 102 c_158_17 rfl (by omega) (Nat.le_of_ble_eq_true rfl) (by decide) (by decide) (by decide) (v_bip c_158_20 (by decide) (v_isub (v := 6) c_158_22 (by decide) ?_)))))))
  refine v_iorc (v := 6) c_158_23 (by decide) (q_istore_n c_158_24 (Nat.le_of_ble_eq_true rfl) (v_iinc (v := 1) c_158_25 rfl (Nat.le_of_ble_eq_true rfl) (by decide) (q_goto (t := 4) c_158_28 rfl (q_iload_n c_158_4 rfl (q_aload_n c_158_5 rfl (v_sln 4 c_158_6 rfl (by omega) (Nat.le_of_ble_eq_true rfl) (by decide) (by decide) (v_ic_ge_f (t := 31) c_158_9 rfl (by decide) ?_)))))))
  refine q_iload_n c_158_12 rfl (q_iconst c_158_13 (v_ishlc (v := 192) c_158_14 (by decide) (q_aload_n c_158_15 rfl (q_iload_n c_158_16 rfl (v_sch 105 c_158_17 rfl (by omega) (Nat.le_of_ble_eq_true rfl) (by decide) (by decide) (by decide) (v_bip c_158_20 (by decide) (v_isub (v := 9) c_158_22 (by decide) ?_)))))))
  refine v_iorc (v := 201) c_158_23 (by decide) (q_istore_n c_158_24 (Nat.le_of_ble_eq_true rfl) (Wp_ls [(1, vi 201), (2, vi 1), (0, .ref (a_SB + 22))] (lsub_cons rfl (lsub_cons rfl (lsub_cons rfl lsub_nil))) (v_iinc (v := 2) c_158_25 rfl (Nat.le_of_ble_eq_true rfl) (by decide) (q_goto (t := 4) c_158_28 rfl (q_iload_n c_158_4 rfl (q_aload_n c_158_5 rfl (v_sln 4 c_158_6 rfl (by omega) (Nat.le_of_ble_eq_true rfl) (by decide) (by decide) ?_)))))))
  refine v_ic_ge_f (t := 31) c_158_9 rfl (by decide) (q_iload_n c_158_12 rfl (q_iconst c_158_13 (v_ishlc (v := 6432) c_158_14 (by decide) (q_aload_n c_158_15 rfl (q_iload_n c_158_16 rfl (v_sch 110 c_158_17 rfl (by omega) (Nat.le_of_ble_eq_true rfl) (by decide) (by decide) (by decide) (v_bip c_158_20 (by decide) ?_)))))))
  refine v_isub (v := 14) c_158_22 (by decide) (v_iorc (v := 6446) c_158_23 (by decide) (q_istore_n c_158_24 (Nat.le_of_ble_eq_true rfl) (v_iinc (v := 3) c_158_25 rfl (Nat.le_of_ble_eq_true rfl) (by decide) (q_goto (t := 4) c_158_28 rfl (q_iload_n c_158_4 rfl (q_aload_n c_158_5 rfl (v_sln 4 c_158_6 rfl (by omega) (Nat.le_of_ble_eq_true rfl) (by decide) (by decide) ?_)))))))
  refine v_ic_ge_f (t := 31) c_158_9 rfl (by decide) (q_iload_n c_158_12 rfl (q_iconst c_158_13 (v_ishlc (v := 206272) c_158_14 (by decide) (q_aload_n c_158_15 rfl (q_iload_n c_158_16 rfl (v_sch 101 c_158_17 rfl (by omega) (Nat.le_of_ble_eq_true rfl) (by decide) (by decide) (by decide) (v_bip c_158_20 (by decide) ?_)))))))
  refine v_isub (v := 5) c_158_22 (by decide) (v_iorc (v := 206277) c_158_23 (by decide) (q_istore_n c_158_24 (Nat.le_of_ble_eq_true rfl) (v_iinc (v := 4) c_158_25 rfl (Nat.le_of_ble_eq_true rfl) (by decide) (Wp_ls [(2, vi 4), (1, vi 206277), (0, .ref (a_SB + 22))] (lsub_cons rfl (lsub_cons rfl (lsub_cons rfl lsub_nil))) (q_goto (t := 4) c_158_28 rfl (q_iload_n c_158_4 rfl (q_aload_n c_158_5 rfl ?_)))))))
  refine v_sln 4 c_158_6 rfl (by omega) (Nat.le_of_ble_eq_true rfl) (by decide) (by decide) (v_ic_ge_t (t := 31) c_158_9 rfl (by decide) (q_iload_n c_158_31 rfl (q_iret c_158_32 rfl ?_)))
  exact K
set_option maxRecDepth 100000 in
set_option maxHeartbeats 4000000 in
theorem s_158_23 {sc : List Int32} {d : Nat} {w : AW} {Z : AR → Prop} (K : Z (.inl (some (vi 13604)), w, 0, 0)) : Wp sc (d + 7) 158 0 [(0, .ref (a_SB + 23))] [] w 0 0 Z := by
  refine q_iconst c_158_0 (q_istore_n c_158_1 (Nat.le_of_ble_eq_true rfl) (q_iconst c_158_2 (q_istore_n c_158_3 (Nat.le_of_ble_eq_true rfl) (q_iload_n c_158_4 rfl (q_aload_n c_158_5 rfl (v_sln 3 c_158_6 rfl (by omega) (Nat.le_of_ble_eq_true rfl) (by decide) (by decide) (v_ic_ge_f (t := 31) c_158_9 rfl (by decide) ?_)))))))
  refine q_iload_n c_158_12 rfl (q_iconst c_158_13 (v_ishlc (v := 0) c_158_14 (by decide) (q_aload_n c_158_15 rfl (q_iload_n c_158_16 rfl (v_sch 109 c_158_17 rfl (by omega) (Nat.le_of_ble_eq_true rfl) (by decide) (by decide) (by decide) (v_bip c_158_20 (by decide) (v_isub (v := 13) c_158_22 (by decide) ?_)))))))
  refine v_iorc (v := 13) c_158_23 (by decide) (q_istore_n c_158_24 (Nat.le_of_ble_eq_true rfl) (v_iinc (v := 1) c_158_25 rfl (Nat.le_of_ble_eq_true rfl) (by decide) (q_goto (t := 4) c_158_28 rfl (q_iload_n c_158_4 rfl (q_aload_n c_158_5 rfl (v_sln 3 c_158_6 rfl (by omega) (Nat.le_of_ble_eq_true rfl) (by decide) (by decide) (v_ic_ge_f (t := 31) c_158_9 rfl (by decide) ?_)))))))
  refine q_iload_n c_158_12 rfl (q_iconst c_158_13 (v_ishlc (v := 416) c_158_14 (by decide) (q_aload_n c_158_15 rfl (q_iload_n c_158_16 rfl (v_sch 105 c_158_17 rfl (by omega) (Nat.le_of_ble_eq_true rfl) (by decide) (by decide) (by decide) (v_bip c_158_20 (by decide) (v_isub (v := 9) c_158_22 (by decide) ?_)))))))
  refine v_iorc (v := 425) c_158_23 (by decide) (q_istore_n c_158_24 (Nat.le_of_ble_eq_true rfl) (Wp_ls [(1, vi 425), (2, vi 1), (0, .ref (a_SB + 23))] (lsub_cons rfl (lsub_cons rfl (lsub_cons rfl lsub_nil))) (v_iinc (v := 2) c_158_25 rfl (Nat.le_of_ble_eq_true rfl) (by decide) (q_goto (t := 4) c_158_28 rfl (q_iload_n c_158_4 rfl (q_aload_n c_158_5 rfl (v_sln 3 c_158_6 rfl (by omega) (Nat.le_of_ble_eq_true rfl) (by decide) (by decide) ?_)))))))
  refine v_ic_ge_f (t := 31) c_158_9 rfl (by decide) (q_iload_n c_158_12 rfl (q_iconst c_158_13 (v_ishlc (v := 13600) c_158_14 (by decide) (q_aload_n c_158_15 rfl (q_iload_n c_158_16 rfl (v_sch 100 c_158_17 rfl (by omega) (Nat.le_of_ble_eq_true rfl) (by decide) (by decide) (by decide) (v_bip c_158_20 (by decide) ?_)))))))
  refine v_isub (v := 4) c_158_22 (by decide) (v_iorc (v := 13604) c_158_23 (by decide) (q_istore_n c_158_24 (Nat.le_of_ble_eq_true rfl) (v_iinc (v := 3) c_158_25 rfl (Nat.le_of_ble_eq_true rfl) (by decide) (q_goto (t := 4) c_158_28 rfl (q_iload_n c_158_4 rfl (q_aload_n c_158_5 rfl (v_sln 3 c_158_6 rfl (by omega) (Nat.le_of_ble_eq_true rfl) (by decide) (by decide) ?_)))))))
  refine v_ic_ge_t (t := 31) c_158_9 rfl (by decide) (q_iload_n c_158_31 rfl (q_iret c_158_32 rfl ?_))
  exact K
set_option maxRecDepth 100000 in
set_option maxHeartbeats 4000000 in
theorem s_158_24 {sc : List Int32} {d : Nat} {w : AW} {Z : AR → Prop} (K : Z (.inl (some (vi 116443749)), w, 0, 0)) : Wp sc (d + 7) 158 0 [(0, .ref (a_SB + 24))] [] w 0 0 Z := by
  refine q_iconst c_158_0 (q_istore_n c_158_1 (Nat.le_of_ble_eq_true rfl) (q_iconst c_158_2 (q_istore_n c_158_3 (Nat.le_of_ble_eq_true rfl) (q_iload_n c_158_4 rfl (q_aload_n c_158_5 rfl (v_sln 6 c_158_6 rfl (by omega) (Nat.le_of_ble_eq_true rfl) (by decide) (by decide) (v_ic_ge_f (t := 31) c_158_9 rfl (by decide) ?_)))))))
  refine q_iload_n c_158_12 rfl (q_iconst c_158_13 (v_ishlc (v := 0) c_158_14 (by decide) (q_aload_n c_158_15 rfl (q_iload_n c_158_16 rfl (v_sch 99 c_158_17 rfl (by omega) (Nat.le_of_ble_eq_true rfl) (by decide) (by decide) (by decide) (v_bip c_158_20 (by decide) (v_isub (v := 3) c_158_22 (by decide) ?_)))))))
  refine v_iorc (v := 3) c_158_23 (by decide) (q_istore_n c_158_24 (Nat.le_of_ble_eq_true rfl) (v_iinc (v := 1) c_158_25 rfl (Nat.le_of_ble_eq_true rfl) (by decide) (q_goto (t := 4) c_158_28 rfl (q_iload_n c_158_4 rfl (q_aload_n c_158_5 rfl (v_sln 6 c_158_6 rfl (by omega) (Nat.le_of_ble_eq_true rfl) (by decide) (by decide) (v_ic_ge_f (t := 31) c_158_9 rfl (by decide) ?_)))))))
  refine q_iload_n c_158_12 rfl (q_iconst c_158_13 (v_ishlc (v := 96) c_158_14 (by decide) (q_aload_n c_158_15 rfl (q_iload_n c_158_16 rfl (v_sch 111 c_158_17 rfl (by omega) (Nat.le_of_ble_eq_true rfl) (by decide) (by decide) (by decide) (v_bip c_158_20 (by decide) (v_isub (v := 15) c_158_22 (by decide) ?_)))))))
  refine v_iorc (v := 111) c_158_23 (by decide) (q_istore_n c_158_24 (Nat.le_of_ble_eq_true rfl) (Wp_ls [(1, vi 111), (2, vi 1), (0, .ref (a_SB + 24))] (lsub_cons rfl (lsub_cons rfl (lsub_cons rfl lsub_nil))) (v_iinc (v := 2) c_158_25 rfl (Nat.le_of_ble_eq_true rfl) (by decide) (q_goto (t := 4) c_158_28 rfl (q_iload_n c_158_4 rfl (q_aload_n c_158_5 rfl (v_sln 6 c_158_6 rfl (by omega) (Nat.le_of_ble_eq_true rfl) (by decide) (by decide) ?_)))))))
  refine v_ic_ge_f (t := 31) c_158_9 rfl (by decide) (q_iload_n c_158_12 rfl (q_iconst c_158_13 (v_ishlc (v := 3552) c_158_14 (by decide) (q_aload_n c_158_15 rfl (q_iload_n c_158_16 rfl (v_sch 97 c_158_17 rfl (by omega) (Nat.le_of_ble_eq_true rfl) (by decide) (by decide) (by decide) (v_bip c_158_20 (by decide) ?_)))))))
  refine v_isub (v := 1) c_158_22 (by decide) (v_iorc (v := 3553) c_158_23 (by decide) (q_istore_n c_158_24 (Nat.le_of_ble_eq_true rfl) (v_iinc (v := 3) c_158_25 rfl (Nat.le_of_ble_eq_true rfl) (by decide) (q_goto (t := 4) c_158_28 rfl (q_iload_n c_158_4 rfl (q_aload_n c_158_5 rfl (v_sln 6 c_158_6 rfl (by omega) (Nat.le_of_ble_eq_true rfl) (by decide) (by decide) ?_)))))))
  refine v_ic_ge_f (t := 31) c_158_9 rfl (by decide) (q_iload_n c_158_12 rfl (q_iconst c_158_13 (v_ishlc (v := 113696) c_158_14 (by decide) (q_aload_n c_158_15 rfl (q_iload_n c_158_16 rfl (v_sch 114 c_158_17 rfl (by omega) (Nat.le_of_ble_eq_true rfl) (by decide) (by decide) (by decide) (v_bip c_158_20 (by decide) ?_)))))))
  refine v_isub (v := 18) c_158_22 (by decide) (v_iorc (v := 113714) c_158_23 (by decide) (q_istore_n c_158_24 (Nat.le_of_ble_eq_true rfl) (v_iinc (v := 4) c_158_25 rfl (Nat.le_of_ble_eq_true rfl) (by decide) (Wp_ls [(2, vi 4), (1, vi 113714), (0, .ref (a_SB + 24))] (lsub_cons rfl (lsub_cons rfl (lsub_cons rfl lsub_nil))) (q_goto (t := 4) c_158_28 rfl (q_iload_n c_158_4 rfl (q_aload_n c_158_5 rfl ?_)))))))
  refine v_sln 6 c_158_6 rfl (by omega) (Nat.le_of_ble_eq_true rfl) (by decide) (by decide) (v_ic_ge_f (t := 31) c_158_9 rfl (by decide) (q_iload_n c_158_12 rfl (q_iconst c_158_13 (v_ishlc (v := 3638848) c_158_14 (by decide) (q_aload_n c_158_15 rfl (q_iload_n c_158_16 rfl (v_sch 115 c_158_17 rfl (by omega) (Nat.le_of_ble_eq_true rfl) (by decide) (by decide) (by decide) ?_)))))))
  refine v_bip c_158_20 (by decide) (v_isub (v := 19) c_158_22 (by decide) (v_iorc (v := 3638867) c_158_23 (by decide) (q_istore_n c_158_24 (Nat.le_of_ble_eq_true rfl) (v_iinc (v := 5) c_158_25 rfl (Nat.le_of_ble_eq_true rfl) (by decide) (q_goto (t := 4) c_158_28 rfl (q_iload_n c_158_4 rfl (q_aload_n c_158_5 rfl ?_)))))))
  refine v_sln 6 c_158_6 rfl (by omega) (Nat.le_of_ble_eq_true rfl) (by decide) (by decide) (v_ic_ge_f (t := 31) c_158_9 rfl (by decide) (q_iload_n c_158_12 rfl (q_iconst c_158_13 (v_ishlc (v := 116443744) c_158_14 (by decide) (q_aload_n c_158_15 rfl (q_iload_n c_158_16 rfl (v_sch 101 c_158_17 rfl (by omega) (Nat.le_of_ble_eq_true rfl) (by decide) (by decide) (by decide) ?_)))))))
  refine v_bip c_158_20 (by decide) (v_isub (v := 5) c_158_22 (by decide) (v_iorc (v := 116443749) c_158_23 (by decide) (q_istore_n c_158_24 (Nat.le_of_ble_eq_true rfl) (v_iinc (v := 6) c_158_25 rfl (Nat.le_of_ble_eq_true rfl) (by decide) (q_goto (t := 4) c_158_28 rfl (q_iload_n c_158_4 rfl (q_aload_n c_158_5 rfl ?_)))))))
  refine v_sln 6 c_158_6 rfl (by omega) (Nat.le_of_ble_eq_true rfl) (by decide) (by decide) (v_ic_ge_t (t := 31) c_158_9 rfl (by decide) (q_iload_n c_158_31 rfl (q_iret c_158_32 rfl ?_)))
  exact K
set_option maxRecDepth 100000 in
set_option maxHeartbeats 4000000 in
theorem s_158_25 {sc : List Int32} {d : Nat} {w : AW} {Z : AR → Prop} (K : Z (.inl (some (vi 284267)), w, 0, 0)) : Wp sc (d + 7) 158 0 [(0, .ref (a_SB + 25))] [] w 0 0 Z := by
  refine q_iconst c_158_0 (q_istore_n c_158_1 (Nat.le_of_ble_eq_true rfl) (q_iconst c_158_2 (q_istore_n c_158_3 (Nat.le_of_ble_eq_true rfl) (q_iload_n c_158_4 rfl (q_aload_n c_158_5 rfl (v_sln 4 c_158_6 rfl (by omega) (Nat.le_of_ble_eq_true rfl) (by decide) (by decide) (v_ic_ge_f (t := 31) c_158_9 rfl (by decide) ?_)))))))
  refine q_iload_n c_158_12 rfl (q_iconst c_158_13 (v_ishlc (v := 0) c_158_14 (by decide) (q_aload_n c_158_15 rfl (q_iload_n c_158_16 rfl (v_sch 104 c_158_17 rfl (by omega) (Nat.le_of_ble_eq_true rfl) (by decide) (by decide) (by decide) (v_bip c_158_20 (by decide) (v_isub (v := 8) c_158_22 (by decide) ?_)))))))
  refine v_iorc (v := 8) c_158_23 (by decide) (q_istore_n c_158_24 (Nat.le_of_ble_eq_true rfl) (v_iinc (v := 1) c_158_25 rfl (Nat.le_of_ble_eq_true rfl) (by decide) (q_goto (t := 4) c_158_28 rfl (q_iload_n c_158_4 rfl (q_aload_n c_158_5 rfl (v_sln 4 c_158_6 rfl (by omega) (Nat.le_of_ble_eq_true rfl) (by decide) (by decide) (v_ic_ge_f (t := 31) c_158_9 rfl (by decide) ?_)))))))
  refine q_iload_n c_158_12 rfl (q_iconst c_158_13 (v_ishlc (v := 256) c_158_14 (by decide) (q_aload_n c_158_15 rfl (q_iload_n c_158_16 rfl (v_sch 117 c_158_17 rfl (by omega) (Nat.le_of_ble_eq_true rfl) (by decide) (by decide) (by decide) (v_bip c_158_20 (by decide) (v_isub (v := 21) c_158_22 (by decide) ?_)))))))
  refine v_iorc (v := 277) c_158_23 (by decide) (q_istore_n c_158_24 (Nat.le_of_ble_eq_true rfl) (Wp_ls [(1, vi 277), (2, vi 1), (0, .ref (a_SB + 25))] (lsub_cons rfl (lsub_cons rfl (lsub_cons rfl lsub_nil))) (v_iinc (v := 2) c_158_25 rfl (Nat.le_of_ble_eq_true rfl) (by decide) (q_goto (t := 4) c_158_28 rfl (q_iload_n c_158_4 rfl (q_aload_n c_158_5 rfl (v_sln 4 c_158_6 rfl (by omega) (Nat.le_of_ble_eq_true rfl) (by decide) (by decide) ?_)))))))
  refine v_ic_ge_f (t := 31) c_158_9 rfl (by decide) (q_iload_n c_158_12 rfl (q_iconst c_158_13 (v_ishlc (v := 8864) c_158_14 (by decide) (q_aload_n c_158_15 rfl (q_iload_n c_158_16 rfl (v_sch 115 c_158_17 rfl (by omega) (Nat.le_of_ble_eq_true rfl) (by decide) (by decide) (by decide) (v_bip c_158_20 (by decide) ?_)))))))
  refine v_isub (v := 19) c_158_22 (by decide) (v_iorc (v := 8883) c_158_23 (by decide) (q_istore_n c_158_24 (Nat.le_of_ble_eq_true rfl) (v_iinc (v := 3) c_158_25 rfl (Nat.le_of_ble_eq_true rfl) (by decide) (q_goto (t := 4) c_158_28 rfl (q_iload_n c_158_4 rfl (q_aload_n c_158_5 rfl (v_sln 4 c_158_6 rfl (by omega) (Nat.le_of_ble_eq_true rfl) (by decide) (by decide) ?_)))))))
  refine v_ic_ge_f (t := 31) c_158_9 rfl (by decide) (q_iload_n c_158_12 rfl (q_iconst c_158_13 (v_ishlc (v := 284256) c_158_14 (by decide) (q_aload_n c_158_15 rfl (q_iload_n c_158_16 rfl (v_sch 107 c_158_17 rfl (by omega) (Nat.le_of_ble_eq_true rfl) (by decide) (by decide) (by decide) (v_bip c_158_20 (by decide) ?_)))))))
  refine v_isub (v := 11) c_158_22 (by decide) (v_iorc (v := 284267) c_158_23 (by decide) (q_istore_n c_158_24 (Nat.le_of_ble_eq_true rfl) (v_iinc (v := 4) c_158_25 rfl (Nat.le_of_ble_eq_true rfl) (by decide) (Wp_ls [(2, vi 4), (1, vi 284267), (0, .ref (a_SB + 25))] (lsub_cons rfl (lsub_cons rfl (lsub_cons rfl lsub_nil))) (q_goto (t := 4) c_158_28 rfl (q_iload_n c_158_4 rfl (q_aload_n c_158_5 rfl ?_)))))))
  refine v_sln 4 c_158_6 rfl (by omega) (Nat.le_of_ble_eq_true rfl) (by decide) (by decide) (v_ic_ge_t (t := 31) c_158_9 rfl (by decide) (q_iload_n c_158_31 rfl (q_iret c_158_32 rfl ?_)))
  exact K
set_option maxRecDepth 100000 in
set_option maxHeartbeats 4000000 in
theorem s_158_26 {sc : List Int32} {d : Nat} {w : AW} {Z : AR → Prop} (K : Z (.inl (some (vi 1420)), w, 0, 0)) : Wp sc (d + 7) 158 0 [(0, .ref (a_SB + 26))] [] w 0 0 Z := by
  refine q_iconst c_158_0 (q_istore_n c_158_1 (Nat.le_of_ble_eq_true rfl) (q_iconst c_158_2 (q_istore_n c_158_3 (Nat.le_of_ble_eq_true rfl) (q_iload_n c_158_4 rfl (q_aload_n c_158_5 rfl (v_sln 3 c_158_6 rfl (by omega) (Nat.le_of_ble_eq_true rfl) (by decide) (by decide) (v_ic_ge_f (t := 31) c_158_9 rfl (by decide) ?_)))))))
  refine q_iload_n c_158_12 rfl (q_iconst c_158_13 (v_ishlc (v := 0) c_158_14 (by decide) (q_aload_n c_158_15 rfl (q_iload_n c_158_16 rfl (v_sch 97 c_158_17 rfl (by omega) (Nat.le_of_ble_eq_true rfl) (by decide) (by decide) (by decide) (v_bip c_158_20 (by decide) (v_isub (v := 1) c_158_22 (by decide) ?_)))))))
  refine v_iorc (v := 1) c_158_23 (by decide) (q_istore_n c_158_24 (Nat.le_of_ble_eq_true rfl) (v_iinc (v := 1) c_158_25 rfl (Nat.le_of_ble_eq_true rfl) (by decide) (q_goto (t := 4) c_158_28 rfl (q_iload_n c_158_4 rfl (q_aload_n c_158_5 rfl (v_sln 3 c_158_6 rfl (by omega) (Nat.le_of_ble_eq_true rfl) (by decide) (by decide) (v_ic_ge_f (t := 31) c_158_9 rfl (by decide) ?_)))))))
  refine q_iload_n c_158_12 rfl (q_iconst c_158_13 (v_ishlc (v := 32) c_158_14 (by decide) (q_aload_n c_158_15 rfl (q_iload_n c_158_16 rfl (v_sch 108 c_158_17 rfl (by omega) (Nat.le_of_ble_eq_true rfl) (by decide) (by decide) (by decide) (v_bip c_158_20 (by decide) (v_isub (v := 12) c_158_22 (by decide) ?_)))))))
  refine v_iorc (v := 44) c_158_23 (by decide) (q_istore_n c_158_24 (Nat.le_of_ble_eq_true rfl) (Wp_ls [(1, vi 44), (2, vi 1), (0, .ref (a_SB + 26))] (lsub_cons rfl (lsub_cons rfl (lsub_cons rfl lsub_nil))) (v_iinc (v := 2) c_158_25 rfl (Nat.le_of_ble_eq_true rfl) (by decide) (q_goto (t := 4) c_158_28 rfl (q_iload_n c_158_4 rfl (q_aload_n c_158_5 rfl (v_sln 3 c_158_6 rfl (by omega) (Nat.le_of_ble_eq_true rfl) (by decide) (by decide) ?_)))))))
  refine v_ic_ge_f (t := 31) c_158_9 rfl (by decide) (q_iload_n c_158_12 rfl (q_iconst c_158_13 (v_ishlc (v := 1408) c_158_14 (by decide) (q_aload_n c_158_15 rfl (q_iload_n c_158_16 rfl (v_sch 108 c_158_17 rfl (by omega) (Nat.le_of_ble_eq_true rfl) (by decide) (by decide) (by decide) (v_bip c_158_20 (by decide) ?_)))))))
  refine v_isub (v := 12) c_158_22 (by decide) (v_iorc (v := 1420) c_158_23 (by decide) (q_istore_n c_158_24 (Nat.le_of_ble_eq_true rfl) (v_iinc (v := 3) c_158_25 rfl (Nat.le_of_ble_eq_true rfl) (by decide) (q_goto (t := 4) c_158_28 rfl (q_iload_n c_158_4 rfl (q_aload_n c_158_5 rfl (v_sln 3 c_158_6 rfl (by omega) (Nat.le_of_ble_eq_true rfl) (by decide) (by decide) ?_)))))))
  refine v_ic_ge_t (t := 31) c_158_9 rfl (by decide) (q_iload_n c_158_31 rfl (q_iret c_158_32 rfl ?_))
  exact K
set_option maxRecDepth 100000 in
set_option maxHeartbeats 4000000 in
theorem s_158_27 {sc : List Int32} {d : Nat} {w : AW} {Z : AR → Prop} (K : Z (.inl (some (vi 1253)), w, 0, 0)) : Wp sc (d + 7) 158 0 [(0, .ref (a_SB + 27))] [] w 0 0 Z := by
  refine q_iconst c_158_0 (q_istore_n c_158_1 (Nat.le_of_ble_eq_true rfl) (q_iconst c_158_2 (q_istore_n c_158_3 (Nat.le_of_ble_eq_true rfl) (q_iload_n c_158_4 rfl (q_aload_n c_158_5 rfl (v_sln 3 c_158_6 rfl (by omega) (Nat.le_of_ble_eq_true rfl) (by decide) (by decide) (v_ic_ge_f (t := 31) c_158_9 rfl (by decide) ?_)))))))
  refine q_iload_n c_158_12 rfl (q_iconst c_158_13 (v_ishlc (v := 0) c_158_14 (by decide) (q_aload_n c_158_15 rfl (q_iload_n c_158_16 rfl (v_sch 97 c_158_17 rfl (by omega) (Nat.le_of_ble_eq_true rfl) (by decide) (by decide) (by decide) (v_bip c_158_20 (by decide) (v_isub (v := 1) c_158_22 (by decide) ?_)))))))
  refine v_iorc (v := 1) c_158_23 (by decide) (q_istore_n c_158_24 (Nat.le_of_ble_eq_true rfl) (v_iinc (v := 1) c_158_25 rfl (Nat.le_of_ble_eq_true rfl) (by decide) (q_goto (t := 4) c_158_28 rfl (q_iload_n c_158_4 rfl (q_aload_n c_158_5 rfl (v_sln 3 c_158_6 rfl (by omega) (Nat.le_of_ble_eq_true rfl) (by decide) (by decide) (v_ic_ge_f (t := 31) c_158_9 rfl (by decide) ?_)))))))
  refine q_iload_n c_158_12 rfl (q_iconst c_158_13 (v_ishlc (v := 32) c_158_14 (by decide) (q_aload_n c_158_15 rfl (q_iload_n c_158_16 rfl (v_sch 103 c_158_17 rfl (by omega) (Nat.le_of_ble_eq_true rfl) (by decide) (by decide) (by decide) (v_bip c_158_20 (by decide) (v_isub (v := 7) c_158_22 (by decide) ?_)))))))
  refine v_iorc (v := 39) c_158_23 (by decide) (q_istore_n c_158_24 (Nat.le_of_ble_eq_true rfl) (Wp_ls [(1, vi 39), (2, vi 1), (0, .ref (a_SB + 27))] (lsub_cons rfl (lsub_cons rfl (lsub_cons rfl lsub_nil))) (v_iinc (v := 2) c_158_25 rfl (Nat.le_of_ble_eq_true rfl) (by decide) (q_goto (t := 4) c_158_28 rfl (q_iload_n c_158_4 rfl (q_aload_n c_158_5 rfl (v_sln 3 c_158_6 rfl (by omega) (Nat.le_of_ble_eq_true rfl) (by decide) (by decide) ?_)))))))
  refine v_ic_ge_f (t := 31) c_158_9 rfl (by decide) (q_iload_n c_158_12 rfl (q_iconst c_158_13 (v_ishlc (v := 1248) c_158_14 (by decide) (q_aload_n c_158_15 rfl (q_iload_n c_158_16 rfl (v_sch 101 c_158_17 rfl (by omega) (Nat.le_of_ble_eq_true rfl) (by decide) (by decide) (by decide) (v_bip c_158_20 (by decide) ?_)))))))
  refine v_isub (v := 5) c_158_22 (by decide) (v_iorc (v := 1253) c_158_23 (by decide) (q_istore_n c_158_24 (Nat.le_of_ble_eq_true rfl) (v_iinc (v := 3) c_158_25 rfl (Nat.le_of_ble_eq_true rfl) (by decide) (q_goto (t := 4) c_158_28 rfl (q_iload_n c_158_4 rfl (q_aload_n c_158_5 rfl (v_sln 3 c_158_6 rfl (by omega) (Nat.le_of_ble_eq_true rfl) (by decide) (by decide) ?_)))))))
  refine v_ic_ge_t (t := 31) c_158_9 rfl (by decide) (q_iload_n c_158_31 rfl (q_iret c_158_32 rfl ?_))
  exact K
set_option maxRecDepth 100000 in
set_option maxHeartbeats 4000000 in
theorem s_158_28 {sc : List Int32} {d : Nat} {w : AW} {Z : AR → Prop} (K : Z (.inl (some (vi 4153)), w, 0, 0)) : Wp sc (d + 7) 158 0 [(0, .ref (a_SB + 28))] [] w 0 0 Z := by
  refine q_iconst c_158_0 (q_istore_n c_158_1 (Nat.le_of_ble_eq_true rfl) (q_iconst c_158_2 (q_istore_n c_158_3 (Nat.le_of_ble_eq_true rfl) (q_iload_n c_158_4 rfl (q_aload_n c_158_5 rfl (v_sln 3 c_158_6 rfl (by omega) (Nat.le_of_ble_eq_true rfl) (by decide) (by decide) (v_ic_ge_f (t := 31) c_158_9 rfl (by decide) ?_)))))))
  refine q_iload_n c_158_12 rfl (q_iconst c_158_13 (v_ishlc (v := 0) c_158_14 (by decide) (q_aload_n c_158_15 rfl (q_iload_n c_158_16 rfl (v_sch 100 c_158_17 rfl (by omega) (Nat.le_of_ble_eq_true rfl) (by decide) (by decide) (by decide) (v_bip c_158_20 (by decide) (v_isub (v := 4) c_158_22 (by decide) ?_)))))))
  refine v_iorc (v := 4) c_158_23 (by decide) (q_istore_n c_158_24 (Nat.le_of_ble_eq_true rfl) (v_iinc (v := 1) c_158_25 rfl (Nat.le_of_ble_eq_true rfl) (by decide) (q_goto (t := 4) c_158_28 rfl (q_iload_n c_158_4 rfl (q_aload_n c_158_5 rfl (v_sln 3 c_158_6 rfl (by omega) (Nat.le_of_ble_eq_true rfl) (by decide) (by decide) (v_ic_ge_f (t := 31) c_158_9 rfl (by decide) ?_)))))))
  refine q_iload_n c_158_12 rfl (q_iconst c_158_13 (v_ishlc (v := 128) c_158_14 (by decide) (q_aload_n c_158_15 rfl (q_iload_n c_158_16 rfl (v_sch 97 c_158_17 rfl (by omega) (Nat.le_of_ble_eq_true rfl) (by decide) (by decide) (by decide) (v_bip c_158_20 (by decide) (v_isub (v := 1) c_158_22 (by decide) ?_)))))))
  refine v_iorc (v := 129) c_158_23 (by decide) (q_istore_n c_158_24 (Nat.le_of_ble_eq_true rfl) (Wp_ls [(1, vi 129), (2, vi 1), (0, .ref (a_SB + 28))] (lsub_cons rfl (lsub_cons rfl (lsub_cons rfl lsub_nil))) (v_iinc (v := 2) c_158_25 rfl (Nat.le_of_ble_eq_true rfl) (by decide) (q_goto (t := 4) c_158_28 rfl (q_iload_n c_158_4 rfl (q_aload_n c_158_5 rfl (v_sln 3 c_158_6 rfl (by omega) (Nat.le_of_ble_eq_true rfl) (by decide) (by decide) ?_)))))))
  refine v_ic_ge_f (t := 31) c_158_9 rfl (by decide) (q_iload_n c_158_12 rfl (q_iconst c_158_13 (v_ishlc (v := 4128) c_158_14 (by decide) (q_aload_n c_158_15 rfl (q_iload_n c_158_16 rfl (v_sch 121 c_158_17 rfl (by omega) (Nat.le_of_ble_eq_true rfl) (by decide) (by decide) (by decide) (v_bip c_158_20 (by decide) ?_)))))))
  refine v_isub (v := 25) c_158_22 (by decide) (v_iorc (v := 4153) c_158_23 (by decide) (q_istore_n c_158_24 (Nat.le_of_ble_eq_true rfl) (v_iinc (v := 3) c_158_25 rfl (Nat.le_of_ble_eq_true rfl) (by decide) (q_goto (t := 4) c_158_28 rfl (q_iload_n c_158_4 rfl (q_aload_n c_158_5 rfl (v_sln 3 c_158_6 rfl (by omega) (Nat.le_of_ble_eq_true rfl) (by decide) (by decide) ?_)))))))
  refine v_ic_ge_t (t := 31) c_158_9 rfl (by decide) (q_iload_n c_158_31 rfl (q_iret c_158_32 rfl ?_))
  exact K
set_option maxRecDepth 100000 in
set_option maxHeartbeats 4000000 in
theorem s_158_29 {sc : List Int32} {d : Nat} {w : AW} {Z : AR → Prop} (K : Z (.inl (some (vi 7939524)), w, 0, 0)) : Wp sc (d + 7) 158 0 [(0, .ref (a_SB + 29))] [] w 0 0 Z := by
  refine q_iconst c_158_0 (q_istore_n c_158_1 (Nat.le_of_ble_eq_true rfl) (q_iconst c_158_2 (q_istore_n c_158_3 (Nat.le_of_ble_eq_true rfl) (q_iload_n c_158_4 rfl (q_aload_n c_158_5 rfl (v_sln 5 c_158_6 rfl (by omega) (Nat.le_of_ble_eq_true rfl) (by decide) (by decide) (v_ic_ge_f (t := 31) c_158_9 rfl (by decide) ?_)))))))
  refine q_iload_n c_158_12 rfl (q_iconst c_158_13 (v_ishlc (v := 0) c_158_14 (by decide) (q_aload_n c_158_15 rfl (q_iload_n c_158_16 rfl (v_sch 103 c_158_17 rfl (by omega) (Nat.le_of_ble_eq_true rfl) (by decide) (by decide) (by decide) (v_bip c_158_20 (by decide) (v_isub (v := 7) c_158_22 (by decide) ?_)))))))
  refine v_iorc (v := 7) c_158_23 (by decide) (q_istore_n c_158_24 (Nat.le_of_ble_eq_true rfl) (v_iinc (v := 1) c_158_25 rfl (Nat.le_of_ble_eq_true rfl) (by decide) (q_goto (t := 4) c_158_28 rfl (q_iload_n c_158_4 rfl (q_aload_n c_158_5 rfl (v_sln 5 c_158_6 rfl (by omega) (Nat.le_of_ble_eq_true rfl) (by decide) (by decide) (v_ic_ge_f (t := 31) c_158_9 rfl (by decide) ?_)))))))
  refine q_iload_n c_158_12 rfl (q_iconst c_158_13 (v_ishlc (v := 224) c_158_14 (by decide) (q_aload_n c_158_15 rfl (q_iload_n c_158_16 rfl (v_sch 114 c_158_17 rfl (by omega) (Nat.le_of_ble_eq_true rfl) (by decide) (by decide) (by decide) (v_bip c_158_20 (by decide) (v_isub (v := 18) c_158_22 (by decide) ?_)))))))
  refine v_iorc (v := 242) c_158_23 (by decide) (q_istore_n c_158_24 (Nat.le_of_ble_eq_true rfl) (Wp_ls [(1, vi 242), (2, vi 1), (0, .ref (a_SB + 29))] (lsub_cons rfl (lsub_cons rfl (lsub_cons rfl lsub_nil))) (v_iinc (v := 2) c_158_25 rfl (Nat.le_of_ble_eq_true rfl) (by decide) (q_goto (t := 4) c_158_28 rfl (q_iload_n c_158_4 rfl (q_aload_n c_158_5 rfl (v_sln 5 c_158_6 rfl (by omega) (Nat.le_of_ble_eq_true rfl) (by decide) (by decide) ?_)))))))
  refine v_ic_ge_f (t := 31) c_158_9 rfl (by decide) (q_iload_n c_158_12 rfl (q_iconst c_158_13 (v_ishlc (v := 7744) c_158_14 (by decide) (q_aload_n c_158_15 rfl (q_iload_n c_158_16 rfl (v_sch 105 c_158_17 rfl (by omega) (Nat.le_of_ble_eq_true rfl) (by decide) (by decide) (by decide) (v_bip c_158_20 (by decide) ?_)))))))
  refine v_isub (v := 9) c_158_22 (by decide) (v_iorc (v := 7753) c_158_23 (by decide) (q_istore_n c_158_24 (Nat.le_of_ble_eq_true rfl) (v_iinc (v := 3) c_158_25 rfl (Nat.le_of_ble_eq_true rfl) (by decide) (q_goto (t := 4) c_158_28 rfl (q_iload_n c_158_4 rfl (q_aload_n c_158_5 rfl (v_sln 5 c_158_6 rfl (by omega) (Nat.le_of_ble_eq_true rfl) (by decide) (by decide) ?_)))))))
  refine v_ic_ge_f (t := 31) c_158_9 rfl (by decide) (q_iload_n c_158_12 rfl (q_iconst c_158_13 (v_ishlc (v := 248096) c_158_14 (by decide) (q_aload_n c_158_15 rfl (q_iload_n c_158_16 rfl (v_sch 110 c_158_17 rfl (by omega) (Nat.le_of_ble_eq_true rfl) (by decide) (by decide) (by decide) (v_bip c_158_20 (by decide) ?_)))))))
  refine v_isub (v := 14) c_158_22 (by decide) (v_iorc (v := 248110) c_158_23 (by decide) (q_istore_n c_158_24 (Nat.le_of_ble_eq_true rfl) (v_iinc (v := 4) c_158_25 rfl (Nat.le_of_ble_eq_true rfl) (by decide) (Wp_ls [(2, vi 4), (1, vi 248110), (0, .ref (a_SB + 29))] (lsub_cons rfl (lsub_cons rfl (lsub_cons rfl lsub_nil))) (q_goto (t := 4) c_158_28 rfl (q_iload_n c_158_4 rfl (q_aload_n c_158_5 rfl ?_)))))))
  refine v_sln 5 c_158_6 rfl (by omega) (Nat.le_of_ble_eq_true rfl) (by decide) (by decide) (v_ic_ge_f (t := 31) c_158_9 rfl (by decide) (q_iload_n c_158_12 rfl (q_iconst c_158_13 (v_ishlc (v := 7939520) c_158_14 (by decide) (q_aload_n c_158_15 rfl (q_iload_n c_158_16 rfl (v_sch 100 c_158_17 rfl (by omega) (Nat.le_of_ble_eq_true rfl) (by decide) (by decide) (by decide) ?_)))))))
  refine v_bip c_158_20 (by decide) (v_isub (v := 4) c_158_22 (by decide) (v_iorc (v := 7939524) c_158_23 (by decide) (q_istore_n c_158_24 (Nat.le_of_ble_eq_true rfl) (v_iinc (v := 5) c_158_25 rfl (Nat.le_of_ble_eq_true rfl) (by decide) (q_goto (t := 4) c_158_28 rfl (q_iload_n c_158_4 rfl (q_aload_n c_158_5 rfl ?_)))))))
  refine v_sln 5 c_158_6 rfl (by omega) (Nat.le_of_ble_eq_true rfl) (by decide) (by decide) (v_ic_ge_t (t := 31) c_158_9 rfl (by decide) (q_iload_n c_158_31 rfl (q_iret c_158_32 rfl ?_)))
  exact K
set_option maxRecDepth 100000 in
set_option maxHeartbeats 4000000 in
theorem s_158_30 {sc : List Int32} {d : Nat} {w : AW} {Z : AR → Prop} (K : Z (.inl (some (vi 632020)), w, 0, 0)) : Wp sc (d + 7) 158 0 [(0, .ref (a_SB + 30))] [] w 0 0 Z := by
  refine q_iconst c_158_0 (q_istore_n c_158_1 (Nat.le_of_ble_eq_true rfl) (q_iconst c_158_2 (q_istore_n c_158_3 (Nat.le_of_ble_eq_true rfl) (q_iload_n c_158_4 rfl (q_aload_n c_158_5 rfl (v_sln 4 c_158_6 rfl (by omega) (Nat.le_of_ble_eq_true rfl) (by decide) (by decide) (v_ic_ge_f (t := 31) c_158_9 rfl (by decide) ?_)))))))
  refine q_iload_n c_158_12 rfl (q_iconst c_158_13 (v_ishlc (v := 0) c_158_14 (by decide) (q_aload_n c_158_15 rfl (q_iload_n c_158_16 rfl (v_sch 115 c_158_17 rfl (by omega) (Nat.le_of_ble_eq_true rfl) (by decide) (by decide) (by decide) (v_bip c_158_20 (by decide) (v_isub (v := 19) c_158_22 (by decide) ?_)))))))
  refine v_iorc (v := 19) c_158_23 (by decide) (q_istore_n c_158_24 (Nat.le_of_ble_eq_true rfl) (v_iinc (v := 1) c_158_25 rfl (Nat.le_of_ble_eq_true rfl) (by decide) (q_goto (t := 4) c_158_28 rfl (q_iload_n c_158_4 rfl (q_aload_n c_158_5 rfl (v_sln 4 c_158_6 rfl (by omega) (Nat.le_of_ble_eq_true rfl) (by decide) (by decide) (v_ic_ge_f (t := 31) c_158_9 rfl (by decide) ?_)))))))
  refine q_iload_n c_158_12 rfl (q_iconst c_158_13 (v_ishlc (v := 608) c_158_14 (by decide) (q_aload_n c_158_15 rfl (q_iload_n c_158_16 rfl (v_sch 105 c_158_17 rfl (by omega) (Nat.le_of_ble_eq_true rfl) (by decide) (by decide) (by decide) (v_bip c_158_20 (by decide) (v_isub (v := 9) c_158_22 (by decide) ?_)))))))
  refine v_iorc (v := 617) c_158_23 (by decide) (q_istore_n c_158_24 (Nat.le_of_ble_eq_true rfl) (Wp_ls [(1, vi 617), (2, vi 1), (0, .ref (a_SB + 30))] (lsub_cons rfl (lsub_cons rfl (lsub_cons rfl lsub_nil))) (v_iinc (v := 2) c_158_25 rfl (Nat.le_of_ble_eq_true rfl) (by decide) (q_goto (t := 4) c_158_28 rfl (q_iload_n c_158_4 rfl (q_aload_n c_158_5 rfl (v_sln 4 c_158_6 rfl (by omega) (Nat.le_of_ble_eq_true rfl) (by decide) (by decide) ?_)))))))
  refine v_ic_ge_f (t := 31) c_158_9 rfl (by decide) (q_iload_n c_158_12 rfl (q_iconst c_158_13 (v_ishlc (v := 19744) c_158_14 (by decide) (q_aload_n c_158_15 rfl (q_iload_n c_158_16 rfl (v_sch 102 c_158_17 rfl (by omega) (Nat.le_of_ble_eq_true rfl) (by decide) (by decide) (by decide) (v_bip c_158_20 (by decide) ?_)))))))
  refine v_isub (v := 6) c_158_22 (by decide) (v_iorc (v := 19750) c_158_23 (by decide) (q_istore_n c_158_24 (Nat.le_of_ble_eq_true rfl) (v_iinc (v := 3) c_158_25 rfl (Nat.le_of_ble_eq_true rfl) (by decide) (q_goto (t := 4) c_158_28 rfl (q_iload_n c_158_4 rfl (q_aload_n c_158_5 rfl (v_sln 4 c_158_6 rfl (by omega) (Nat.le_of_ble_eq_true rfl) (by decide) (by decide) ?_)))))))
  refine v_ic_ge_f (t := 31) c_158_9 rfl (by decide) (q_iload_n c_158_12 rfl (q_iconst c_158_13 (v_ishlc (v := 632000) c_158_14 (by decide) (q_aload_n c_158_15 rfl (q_iload_n c_158_16 rfl (v_sch 116 c_158_17 rfl (by omega) (Nat.le_of_ble_eq_true rfl) (by decide) (by decide) (by decide) (v_bip c_158_20 (by decide) ?_)))))))
  refine v_isub (v := 20) c_158_22 (by decide) (v_iorc (v := 632020) c_158_23 (by decide) (q_istore_n c_158_24 (Nat.le_of_ble_eq_true rfl) (v_iinc (v := 4) c_158_25 rfl (Nat.le_of_ble_eq_true rfl) (by decide) (Wp_ls [(2, vi 4), (1, vi 632020), (0, .ref (a_SB + 30))] (lsub_cons rfl (lsub_cons rfl (lsub_cons rfl lsub_nil))) (q_goto (t := 4) c_158_28 rfl (q_iload_n c_158_4 rfl (q_aload_n c_158_5 rfl ?_)))))))
  refine v_sln 4 c_158_6 rfl (by omega) (Nat.le_of_ble_eq_true rfl) (by decide) (by decide) (v_ic_ge_t (t := 31) c_158_9 rfl (by decide) (q_iload_n c_158_31 rfl (q_iret c_158_32 rfl ?_)))
  exact K
set_option maxRecDepth 100000 in
set_option maxHeartbeats 4000000 in
theorem s_158_31 {sc : List Int32} {d : Nat} {w : AW} {Z : AR → Prop} (K : Z (.inl (some (vi 540338)), w, 0, 0)) : Wp sc (d + 7) 158 0 [(0, .ref (a_SB + 31))] [] w 0 0 Z := by
  refine q_iconst c_158_0 (q_istore_n c_158_1 (Nat.le_of_ble_eq_true rfl) (q_iconst c_158_2 (q_istore_n c_158_3 (Nat.le_of_ble_eq_true rfl) (q_iload_n c_158_4 rfl (q_aload_n c_158_5 rfl (v_sln 4 c_158_6 rfl (by omega) (Nat.le_of_ble_eq_true rfl) (by decide) (by decide) (v_ic_ge_f (t := 31) c_158_9 rfl (by decide) ?_)))))))
  refine q_iload_n c_158_12 rfl (q_iconst c_158_13 (v_ishlc (v := 0) c_158_14 (by decide) (q_aload_n c_158_15 rfl (q_iload_n c_158_16 rfl (v_sch 112 c_158_17 rfl (by omega) (Nat.le_of_ble_eq_true rfl) (by decide) (by decide) (by decide) (v_bip c_158_20 (by decide) (v_isub (v := 16) c_158_22 (by decide) ?_)))))))
  refine v_iorc (v := 16) c_158_23 (by decide) (q_istore_n c_158_24 (Nat.le_of_ble_eq_true rfl) (v_iinc (v := 1) c_158_25 rfl (Nat.le_of_ble_eq_true rfl) (by decide) (q_goto (t := 4) c_158_28 rfl (q_iload_n c_158_4 rfl (q_aload_n c_158_5 rfl (v_sln 4 c_158_6 rfl (by omega) (Nat.le_of_ble_eq_true rfl) (by decide) (by decide) (v_ic_ge_f (t := 31) c_158_9 rfl (by decide) ?_)))))))
  refine q_iload_n c_158_12 rfl (q_iconst c_158_13 (v_ishlc (v := 512) c_158_14 (by decide) (q_aload_n c_158_15 rfl (q_iload_n c_158_16 rfl (v_sch 111 c_158_17 rfl (by omega) (Nat.le_of_ble_eq_true rfl) (by decide) (by decide) (by decide) (v_bip c_158_20 (by decide) (v_isub (v := 15) c_158_22 (by decide) ?_)))))))
  refine v_iorc (v := 527) c_158_23 (by decide) (q_istore_n c_158_24 (Nat.le_of_ble_eq_true rfl) (Wp_ls [(1, vi 527), (2, vi 1), (0, .ref (a_SB + 31))] (lsub_cons rfl (lsub_cons rfl (lsub_cons rfl lsub_nil))) (v_iinc (v := 2) c_158_25 rfl (Nat.le_of_ble_eq_true rfl) (by decide) (q_goto (t := 4) c_158_28 rfl (q_iload_n c_158_4 rfl (q_aload_n c_158_5 rfl (v_sln 4 c_158_6 rfl (by omega) (Nat.le_of_ble_eq_true rfl) (by decide) (by decide) ?_)))))))
  refine v_ic_ge_f (t := 31) c_158_9 rfl (by decide) (q_iload_n c_158_12 rfl (q_iconst c_158_13 (v_ishlc (v := 16864) c_158_14 (by decide) (q_aload_n c_158_15 rfl (q_iload_n c_158_16 rfl (v_sch 117 c_158_17 rfl (by omega) (Nat.le_of_ble_eq_true rfl) (by decide) (by decide) (by decide) (v_bip c_158_20 (by decide) ?_)))))))
  refine v_isub (v := 21) c_158_22 (by decide) (v_iorc (v := 16885) c_158_23 (by decide) (q_istore_n c_158_24 (Nat.le_of_ble_eq_true rfl) (v_iinc (v := 3) c_158_25 rfl (Nat.le_of_ble_eq_true rfl) (by decide) (q_goto (t := 4) c_158_28 rfl (q_iload_n c_158_4 rfl (q_aload_n c_158_5 rfl (v_sln 4 c_158_6 rfl (by omega) (Nat.le_of_ble_eq_true rfl) (by decide) (by decide) ?_)))))))
  refine v_ic_ge_f (t := 31) c_158_9 rfl (by decide) (q_iload_n c_158_12 rfl (q_iconst c_158_13 (v_ishlc (v := 540320) c_158_14 (by decide) (q_aload_n c_158_15 rfl (q_iload_n c_158_16 rfl (v_sch 114 c_158_17 rfl (by omega) (Nat.le_of_ble_eq_true rfl) (by decide) (by decide) (by decide) (v_bip c_158_20 (by decide) ?_)))))))
  refine v_isub (v := 18) c_158_22 (by decide) (v_iorc (v := 540338) c_158_23 (by decide) (q_istore_n c_158_24 (Nat.le_of_ble_eq_true rfl) (v_iinc (v := 4) c_158_25 rfl (Nat.le_of_ble_eq_true rfl) (by decide) (Wp_ls [(2, vi 4), (1, vi 540338), (0, .ref (a_SB + 31))] (lsub_cons rfl (lsub_cons rfl (lsub_cons rfl lsub_nil))) (q_goto (t := 4) c_158_28 rfl (q_iload_n c_158_4 rfl (q_aload_n c_158_5 rfl ?_)))))))
  refine v_sln 4 c_158_6 rfl (by omega) (Nat.le_of_ble_eq_true rfl) (by decide) (by decide) (v_ic_ge_t (t := 31) c_158_9 rfl (by decide) (q_iload_n c_158_31 rfl (q_iret c_158_32 rfl ?_)))
  exact K
set_option maxRecDepth 100000 in
set_option maxHeartbeats 4000000 in
theorem s_158_32 {sc : List Int32} {d : Nat} {w : AW} {Z : AR → Prop} (K : Z (.inl (some (vi 20037104)), w, 0, 0)) : Wp sc (d + 7) 158 0 [(0, .ref (a_SB + 32))] [] w 0 0 Z := by
  refine q_iconst c_158_0 (q_istore_n c_158_1 (Nat.le_of_ble_eq_true rfl) (q_iconst c_158_2 (q_istore_n c_158_3 (Nat.le_of_ble_eq_true rfl) (q_iload_n c_158_4 rfl (q_aload_n c_158_5 rfl (v_sln 5 c_158_6 rfl (by omega) (Nat.le_of_ble_eq_true rfl) (by decide) (by decide) (v_ic_ge_f (t := 31) c_158_9 rfl (by decide) ?_)))))))
  refine q_iload_n c_158_12 rfl (q_iconst c_158_13 (v_ishlc (v := 0) c_158_14 (by decide) (q_aload_n c_158_15 rfl (q_iload_n c_158_16 rfl (v_sch 115 c_158_17 rfl (by omega) (Nat.le_of_ble_eq_true rfl) (by decide) (by decide) (by decide) (v_bip c_158_20 (by decide) (v_isub (v := 19) c_158_22 (by decide) ?_)))))))
  refine v_iorc (v := 19) c_158_23 (by decide) (q_istore_n c_158_24 (Nat.le_of_ble_eq_true rfl) (v_iinc (v := 1) c_158_25 rfl (Nat.le_of_ble_eq_true rfl) (by decide) (q_goto (t := 4) c_158_28 rfl (q_iload_n c_158_4 rfl (q_aload_n c_158_5 rfl (v_sln 5 c_158_6 rfl (by omega) (Nat.le_of_ble_eq_true rfl) (by decide) (by decide) (v_ic_ge_f (t := 31) c_158_9 rfl (by decide) ?_)))))))
  refine q_iload_n c_158_12 rfl (q_iconst c_158_13 (v_ishlc (v := 608) c_158_14 (by decide) (q_aload_n c_158_15 rfl (q_iload_n c_158_16 rfl (v_sch 99 c_158_17 rfl (by omega) (Nat.le_of_ble_eq_true rfl) (by decide) (by decide) (by decide) (v_bip c_158_20 (by decide) (v_isub (v := 3) c_158_22 (by decide) ?_)))))))
  refine v_iorc (v := 611) c_158_23 (by decide) (q_istore_n c_158_24 (Nat.le_of_ble_eq_true rfl) (Wp_ls [(1, vi 611), (2, vi 1), (0, .ref (a_SB + 32))] (lsub_cons rfl (lsub_cons rfl (lsub_cons rfl lsub_nil))) (v_iinc (v := 2) c_158_25 rfl (Nat.le_of_ble_eq_true rfl) (by decide) (q_goto (t := 4) c_158_28 rfl (q_iload_n c_158_4 rfl (q_aload_n c_158_5 rfl (v_sln 5 c_158_6 rfl (by omega) (Nat.le_of_ble_eq_true rfl) (by decide) (by decide) ?_)))))))
  refine v_ic_ge_f (t := 31) c_158_9 rfl (by decide) (q_iload_n c_158_12 rfl (q_iconst c_158_13 (v_ishlc (v := 19552) c_158_14 (by decide) (q_aload_n c_158_15 rfl (q_iload_n c_158_16 rfl (v_sch 111 c_158_17 rfl (by omega) (Nat.le_of_ble_eq_true rfl) (by decide) (by decide) (by decide) (v_bip c_158_20 (by decide) ?_)))))))
  refine v_isub (v := 15) c_158_22 (by decide) (v_iorc (v := 19567) c_158_23 (by decide) (q_istore_n c_158_24 (Nat.le_of_ble_eq_true rfl) (v_iinc (v := 3) c_158_25 rfl (Nat.le_of_ble_eq_true rfl) (by decide) (q_goto (t := 4) c_158_28 rfl (q_iload_n c_158_4 rfl (q_aload_n c_158_5 rfl (v_sln 5 c_158_6 rfl (by omega) (Nat.le_of_ble_eq_true rfl) (by decide) (by decide) ?_)))))))
  refine v_ic_ge_f (t := 31) c_158_9 rfl (by decide) (q_iload_n c_158_12 rfl (q_iconst c_158_13 (v_ishlc (v := 626144) c_158_14 (by decide) (q_aload_n c_158_15 rfl (q_iload_n c_158_16 rfl (v_sch 111 c_158_17 rfl (by omega) (Nat.le_of_ble_eq_true rfl) (by decide) (by decide) (by decide) (v_bip c_158_20 (by decide) ?_)))))))
  refine v_isub (v := 15) c_158_22 (by decide) (v_iorc (v := 626159) c_158_23 (by decide) (q_istore_n c_158_24 (Nat.le_of_ble_eq_true rfl) (v_iinc (v := 4) c_158_25 rfl (Nat.le_of_ble_eq_true rfl) (by decide) (Wp_ls [(2, vi 4), (1, vi 626159), (0, .ref (a_SB + 32))] (lsub_cons rfl (lsub_cons rfl (lsub_cons rfl lsub_nil))) (q_goto (t := 4) c_158_28 rfl (q_iload_n c_158_4 rfl (q_aload_n c_158_5 rfl ?_)))))))
  refine v_sln 5 c_158_6 rfl (by omega) (Nat.le_of_ble_eq_true rfl) (by decide) (by decide) (v_ic_ge_f (t := 31) c_158_9 rfl (by decide) (q_iload_n c_158_12 rfl (q_iconst c_158_13 (v_ishlc (v := 20037088) c_158_14 (by decide) (q_aload_n c_158_15 rfl (q_iload_n c_158_16 rfl (v_sch 112 c_158_17 rfl (by omega) (Nat.le_of_ble_eq_true rfl) (by decide) (by decide) (by decide) ?_)))))))
  refine v_bip c_158_20 (by decide) (v_isub (v := 16) c_158_22 (by decide) (v_iorc (v := 20037104) c_158_23 (by decide) (q_istore_n c_158_24 (Nat.le_of_ble_eq_true rfl) (v_iinc (v := 5) c_158_25 rfl (Nat.le_of_ble_eq_true rfl) (by decide) (q_goto (t := 4) c_158_28 rfl (q_iload_n c_158_4 rfl (q_aload_n c_158_5 rfl ?_)))))))
  refine v_sln 5 c_158_6 rfl (by omega) (Nat.le_of_ble_eq_true rfl) (by decide) (by decide) (v_ic_ge_t (t := 31) c_158_9 rfl (by decide) (q_iload_n c_158_31 rfl (q_iret c_158_32 rfl ?_)))
  exact K
set_option maxRecDepth 100000 in
set_option maxHeartbeats 4000000 in
theorem s_158_33 {sc : List Int32} {d : Nat} {w : AW} {Z : AR → Prop} (K : Z (.inl (some (vi 660530)), w, 0, 0)) : Wp sc (d + 7) 158 0 [(0, .ref (a_SB + 33))] [] w 0 0 Z := by
  refine q_iconst c_158_0 (q_istore_n c_158_1 (Nat.le_of_ble_eq_true rfl) (q_iconst c_158_2 (q_istore_n c_158_3 (Nat.le_of_ble_eq_true rfl) (q_iload_n c_158_4 rfl (q_aload_n c_158_5 rfl (v_sln 4 c_158_6 rfl (by omega) (Nat.le_of_ble_eq_true rfl) (by decide) (by decide) (v_ic_ge_f (t := 31) c_158_9 rfl (by decide) ?_)))))))
  refine q_iload_n c_158_12 rfl (q_iconst c_158_13 (v_ishlc (v := 0) c_158_14 (by decide) (q_aload_n c_158_15 rfl (q_iload_n c_158_16 rfl (v_sch 116 c_158_17 rfl (by omega) (Nat.le_of_ble_eq_true rfl) (by decide) (by decide) (by decide) (v_bip c_158_20 (by decide) (v_isub (v := 20) c_158_22 (by decide) ?_)))))))
  refine v_iorc (v := 20) c_158_23 (by decide) (q_istore_n c_158_24 (Nat.le_of_ble_eq_true rfl) (v_iinc (v := 1) c_158_25 rfl (Nat.le_of_ble_eq_true rfl) (by decide) (q_goto (t := 4) c_158_28 rfl (q_iload_n c_158_4 rfl (q_aload_n c_158_5 rfl (v_sln 4 c_158_6 rfl (by omega) (Nat.le_of_ble_eq_true rfl) (by decide) (by decide) (v_ic_ge_f (t := 31) c_158_9 rfl (by decide) ?_)))))))
  refine q_iload_n c_158_12 rfl (q_iconst c_158_13 (v_ishlc (v := 640) c_158_14 (by decide) (q_aload_n c_158_15 rfl (q_iload_n c_158_16 rfl (v_sch 101 c_158_17 rfl (by omega) (Nat.le_of_ble_eq_true rfl) (by decide) (by decide) (by decide) (v_bip c_158_20 (by decide) (v_isub (v := 5) c_158_22 (by decide) ?_)))))))
  refine v_iorc (v := 645) c_158_23 (by decide) (q_istore_n c_158_24 (Nat.le_of_ble_eq_true rfl) (Wp_ls [(1, vi 645), (2, vi 1), (0, .ref (a_SB + 33))] (lsub_cons rfl (lsub_cons rfl (lsub_cons rfl lsub_nil))) (v_iinc (v := 2) c_158_25 rfl (Nat.le_of_ble_eq_true rfl) (by decide) (q_goto (t := 4) c_158_28 rfl (q_iload_n c_158_4 rfl (q_aload_n c_158_5 rfl (v_sln 4 c_158_6 rfl (by omega) (Nat.le_of_ble_eq_true rfl) (by decide) (by decide) ?_)))))))
  refine v_ic_ge_f (t := 31) c_158_9 rfl (by decide) (q_iload_n c_158_12 rfl (q_iconst c_158_13 (v_ishlc (v := 20640) c_158_14 (by decide) (q_aload_n c_158_15 rfl (q_iload_n c_158_16 rfl (v_sch 97 c_158_17 rfl (by omega) (Nat.le_of_ble_eq_true rfl) (by decide) (by decide) (by decide) (v_bip c_158_20 (by decide) ?_)))))))
  refine v_isub (v := 1) c_158_22 (by decide) (v_iorc (v := 20641) c_158_23 (by decide) (q_istore_n c_158_24 (Nat.le_of_ble_eq_true rfl) (v_iinc (v := 3) c_158_25 rfl (Nat.le_of_ble_eq_true rfl) (by decide) (q_goto (t := 4) c_158_28 rfl (q_iload_n c_158_4 rfl (q_aload_n c_158_5 rfl (v_sln 4 c_158_6 rfl (by omega) (Nat.le_of_ble_eq_true rfl) (by decide) (by decide) ?_)))))))
  refine v_ic_ge_f (t := 31) c_158_9 rfl (by decide) (q_iload_n c_158_12 rfl (q_iconst c_158_13 (v_ishlc (v := 660512) c_158_14 (by decide) (q_aload_n c_158_15 rfl (q_iload_n c_158_16 rfl (v_sch 114 c_158_17 rfl (by omega) (Nat.le_of_ble_eq_true rfl) (by decide) (by decide) (by decide) (v_bip c_158_20 (by decide) ?_)))))))
  refine v_isub (v := 18) c_158_22 (by decide) (v_iorc (v := 660530) c_158_23 (by decide) (q_istore_n c_158_24 (Nat.le_of_ble_eq_true rfl) (v_iinc (v := 4) c_158_25 rfl (Nat.le_of_ble_eq_true rfl) (by decide) (Wp_ls [(2, vi 4), (1, vi 660530), (0, .ref (a_SB + 33))] (lsub_cons rfl (lsub_cons rfl (lsub_cons rfl lsub_nil))) (q_goto (t := 4) c_158_28 rfl (q_iload_n c_158_4 rfl (q_aload_n c_158_5 rfl ?_)))))))
  refine v_sln 4 c_158_6 rfl (by omega) (Nat.le_of_ble_eq_true rfl) (by decide) (by decide) (v_ic_ge_t (t := 31) c_158_9 rfl (by decide) (q_iload_n c_158_31 rfl (q_iret c_158_32 rfl ?_)))
  exact K
set_option maxRecDepth 100000 in
set_option maxHeartbeats 4000000 in
theorem s_158_34 {sc : List Int32} {d : Nat} {w : AW} {Z : AR → Prop} (K : Z (.inl (some (vi 628108)), w, 0, 0)) : Wp sc (d + 7) 158 0 [(0, .ref (a_SB + 34))] [] w 0 0 Z := by
  refine q_iconst c_158_0 (q_istore_n c_158_1 (Nat.le_of_ble_eq_true rfl) (q_iconst c_158_2 (q_istore_n c_158_3 (Nat.le_of_ble_eq_true rfl) (q_iload_n c_158_4 rfl (q_aload_n c_158_5 rfl (v_sln 4 c_158_6 rfl (by omega) (Nat.le_of_ble_eq_true rfl) (by decide) (by decide) (v_ic_ge_f (t := 31) c_158_9 rfl (by decide) ?_)))))))
  refine q_iload_n c_158_12 rfl (q_iconst c_158_13 (v_ishlc (v := 0) c_158_14 (by decide) (q_aload_n c_158_15 rfl (q_iload_n c_158_16 rfl (v_sch 115 c_158_17 rfl (by omega) (Nat.le_of_ble_eq_true rfl) (by decide) (by decide) (by decide) (v_bip c_158_20 (by decide) (v_isub (v := 19) c_158_22 (by decide) ?_)))))))
  refine v_iorc (v := 19) c_158_23 (by decide) (q_istore_n c_158_24 (Nat.le_of_ble_eq_true rfl) (v_iinc (v := 1) c_158_25 rfl (Nat.le_of_ble_eq_true rfl) (by decide) (q_goto (t := 4) c_158_28 rfl (q_iload_n c_158_4 rfl (q_aload_n c_158_5 rfl (v_sln 4 c_158_6 rfl (by omega) (Nat.le_of_ble_eq_true rfl) (by decide) (by decide) (v_ic_ge_f (t := 31) c_158_9 rfl (by decide) ?_)))))))
  refine q_iload_n c_158_12 rfl (q_iconst c_158_13 (v_ishlc (v := 608) c_158_14 (by decide) (q_aload_n c_158_15 rfl (q_iload_n c_158_16 rfl (v_sch 101 c_158_17 rfl (by omega) (Nat.le_of_ble_eq_true rfl) (by decide) (by decide) (by decide) (v_bip c_158_20 (by decide) (v_isub (v := 5) c_158_22 (by decide) ?_)))))))
  refine v_iorc (v := 613) c_158_23 (by decide) (q_istore_n c_158_24 (Nat.le_of_ble_eq_true rfl) (Wp_ls [(1, vi 613), (2, vi 1), (0, .ref (a_SB + 34))] (lsub_cons rfl (lsub_cons rfl (lsub_cons rfl lsub_nil))) (v_iinc (v := 2) c_158_25 rfl (Nat.le_of_ble_eq_true rfl) (by decide) (q_goto (t := 4) c_158_28 rfl (q_iload_n c_158_4 rfl (q_aload_n c_158_5 rfl (v_sln 4 c_158_6 rfl (by omega) (Nat.le_of_ble_eq_true rfl) (by decide) (by decide) ?_)))))))
  refine v_ic_ge_f (t := 31) c_158_9 rfl (by decide) (q_iload_n c_158_12 rfl (q_iconst c_158_13 (v_ishlc (v := 19616) c_158_14 (by decide) (q_aload_n c_158_15 rfl (q_iload_n c_158_16 rfl (v_sch 108 c_158_17 rfl (by omega) (Nat.le_of_ble_eq_true rfl) (by decide) (by decide) (by decide) (v_bip c_158_20 (by decide) ?_)))))))
  refine v_isub (v := 12) c_158_22 (by decide) (v_iorc (v := 19628) c_158_23 (by decide) (q_istore_n c_158_24 (Nat.le_of_ble_eq_true rfl) (v_iinc (v := 3) c_158_25 rfl (Nat.le_of_ble_eq_true rfl) (by decide) (q_goto (t := 4) c_158_28 rfl (q_iload_n c_158_4 rfl (q_aload_n c_158_5 rfl (v_sln 4 c_158_6 rfl (by omega) (Nat.le_of_ble_eq_true rfl) (by decide) (by decide) ?_)))))))
  refine v_ic_ge_f (t := 31) c_158_9 rfl (by decide) (q_iload_n c_158_12 rfl (q_iconst c_158_13 (v_ishlc (v := 628096) c_158_14 (by decide) (q_aload_n c_158_15 rfl (q_iload_n c_158_16 rfl (v_sch 108 c_158_17 rfl (by omega) (Nat.le_of_ble_eq_true rfl) (by decide) (by decide) (by decide) (v_bip c_158_20 (by decide) ?_)))))))
  refine v_isub (v := 12) c_158_22 (by decide) (v_iorc (v := 628108) c_158_23 (by decide) (q_istore_n c_158_24 (Nat.le_of_ble_eq_true rfl) (v_iinc (v := 4) c_158_25 rfl (Nat.le_of_ble_eq_true rfl) (by decide) (Wp_ls [(2, vi 4), (1, vi 628108), (0, .ref (a_SB + 34))] (lsub_cons rfl (lsub_cons rfl (lsub_cons rfl lsub_nil))) (q_goto (t := 4) c_158_28 rfl (q_iload_n c_158_4 rfl (q_aload_n c_158_5 rfl ?_)))))))
  refine v_sln 4 c_158_6 rfl (by omega) (Nat.le_of_ble_eq_true rfl) (by decide) (by decide) (v_ic_ge_t (t := 31) c_158_9 rfl (by decide) (q_iload_n c_158_31 rfl (q_iret c_158_32 rfl ?_)))
  exact K
set_option maxRecDepth 100000 in
set_option maxHeartbeats 4000000 in
theorem s_158_35 {sc : List Int32} {d : Nat} {w : AW} {Z : AR → Prop} (K : Z (.inl (some (vi 1279278)), w, 0, 0)) : Wp sc (d + 7) 158 0 [(0, .ref (a_SB + 35))] [] w 0 0 Z := by
  refine q_iconst c_158_0 (q_istore_n c_158_1 (Nat.le_of_ble_eq_true rfl) (q_iconst c_158_2 (q_istore_n c_158_3 (Nat.le_of_ble_eq_true rfl) (q_iload_n c_158_4 rfl (q_aload_n c_158_5 rfl (v_sln 5 c_158_6 rfl (by omega) (Nat.le_of_ble_eq_true rfl) (by decide) (by decide) (v_ic_ge_f (t := 31) c_158_9 rfl (by decide) ?_)))))))
  refine q_iload_n c_158_12 rfl (q_iconst c_158_13 (v_ishlc (v := 0) c_158_14 (by decide) (q_aload_n c_158_15 rfl (q_iload_n c_158_16 rfl (v_sch 97 c_158_17 rfl (by omega) (Nat.le_of_ble_eq_true rfl) (by decide) (by decide) (by decide) (v_bip c_158_20 (by decide) (v_isub (v := 1) c_158_22 (by decide) ?_)))))))
  refine v_iorc (v := 1) c_158_23 (by decide) (q_istore_n c_158_24 (Nat.le_of_ble_eq_true rfl) (v_iinc (v := 1) c_158_25 rfl (Nat.le_of_ble_eq_true rfl) (by decide) (q_goto (t := 4) c_158_28 rfl (q_iload_n c_158_4 rfl (q_aload_n c_158_5 rfl (v_sln 5 c_158_6 rfl (by omega) (Nat.le_of_ble_eq_true rfl) (by decide) (by decide) (v_ic_ge_f (t := 31) c_158_9 rfl (by decide) ?_)))))))
  refine q_iload_n c_158_12 rfl (q_iconst c_158_13 (v_ishlc (v := 32) c_158_14 (by decide) (q_aload_n c_158_15 rfl (q_iload_n c_158_16 rfl (v_sch 103 c_158_17 rfl (by omega) (Nat.le_of_ble_eq_true rfl) (by decide) (by decide) (by decide) (v_bip c_158_20 (by decide) (v_isub (v := 7) c_158_22 (by decide) ?_)))))))
  refine v_iorc (v := 39) c_158_23 (by decide) (q_istore_n c_158_24 (Nat.le_of_ble_eq_true rfl) (Wp_ls [(1, vi 39), (2, vi 1), (0, .ref (a_SB + 35))] (lsub_cons rfl (lsub_cons rfl (lsub_cons rfl lsub_nil))) (v_iinc (v := 2) c_158_25 rfl (Nat.le_of_ble_eq_true rfl) (by decide) (q_goto (t := 4) c_158_28 rfl (q_iload_n c_158_4 rfl (q_aload_n c_158_5 rfl (v_sln 5 c_158_6 rfl (by omega) (Nat.le_of_ble_eq_true rfl) (by decide) (by decide) ?_)))))))
  refine v_ic_ge_f (t := 31) c_158_9 rfl (by decide) (q_iload_n c_158_12 rfl (q_iconst c_158_13 (v_ishlc (v := 1248) c_158_14 (by decide) (q_aload_n c_158_15 rfl (q_iload_n c_158_16 rfl (v_sch 97 c_158_17 rfl (by omega) (Nat.le_of_ble_eq_true rfl) (by decide) (by decide) (by decide) (v_bip c_158_20 (by decide) ?_)))))))
  refine v_isub (v := 1) c_158_22 (by decide) (v_iorc (v := 1249) c_158_23 (by decide) (q_istore_n c_158_24 (Nat.le_of_ble_eq_true rfl) (v_iinc (v := 3) c_158_25 rfl (Nat.le_of_ble_eq_true rfl) (by decide) (q_goto (t := 4) c_158_28 rfl (q_iload_n c_158_4 rfl (q_aload_n c_158_5 rfl (v_sln 5 c_158_6 rfl (by omega) (Nat.le_of_ble_eq_true rfl) (by decide) (by decide) ?_)))))))
  refine v_ic_ge_f (t := 31) c_158_9 rfl (by decide) (q_iload_n c_158_12 rfl (q_iconst c_158_13 (v_ishlc (v := 39968) c_158_14 (by decide) (q_aload_n c_158_15 rfl (q_iload_n c_158_16 rfl (v_sch 105 c_158_17 rfl (by omega) (Nat.le_of_ble_eq_true rfl) (by decide) (by decide) (by decide) (v_bip c_158_20 (by decide) ?_)))))))
  refine v_isub (v := 9) c_158_22 (by decide) (v_iorc (v := 39977) c_158_23 (by decide) (q_istore_n c_158_24 (Nat.le_of_ble_eq_true rfl) (v_iinc (v := 4) c_158_25 rfl (Nat.le_of_ble_eq_true rfl) (by decide) (Wp_ls [(2, vi 4), (1, vi 39977), (0, .ref (a_SB + 35))] (lsub_cons rfl (lsub_cons rfl (lsub_cons rfl lsub_nil))) (q_goto (t := 4) c_158_28 rfl (q_iload_n c_158_4 rfl (q_aload_n c_158_5 rfl ?_)))))))
  refine v_sln 5 c_158_6 rfl (by omega) (Nat.le_of_ble_eq_true rfl) (by decide) (by decide) (v_ic_ge_f (t := 31) c_158_9 rfl (by decide) (q_iload_n c_158_12 rfl (q_iconst c_158_13 (v_ishlc (v := 1279264) c_158_14 (by decide) (q_aload_n c_158_15 rfl (q_iload_n c_158_16 rfl (v_sch 110 c_158_17 rfl (by omega) (Nat.le_of_ble_eq_true rfl) (by decide) (by decide) (by decide) ?_)))))))
  refine v_bip c_158_20 (by decide) (v_isub (v := 14) c_158_22 (by decide) (v_iorc (v := 1279278) c_158_23 (by decide) (q_istore_n c_158_24 (Nat.le_of_ble_eq_true rfl) (v_iinc (v := 5) c_158_25 rfl (Nat.le_of_ble_eq_true rfl) (by decide) (q_goto (t := 4) c_158_28 rfl (q_iload_n c_158_4 rfl (q_aload_n c_158_5 rfl ?_)))))))
  refine v_sln 5 c_158_6 rfl (by omega) (Nat.le_of_ble_eq_true rfl) (by decide) (by decide) (v_ic_ge_t (t := 31) c_158_9 rfl (by decide) (q_iload_n c_158_31 rfl (q_iret c_158_32 rfl ?_)))
  exact K

set_option maxRecDepth 100000 in
set_option maxHeartbeats 4000000 in
theorem s_159_l {sc : List Int32} {e : Int} {d u P Q : Nat} {c : ME} {Z : AR → Prop} (hI : Iv u e P Q c)  (K : ∀ (c2 : ME), Iv u e P Q c2 → (∀ (a : Nat) (j : Int), ¬ ((a = 41 ∧ j = 4)) → c2 a j = c a j) → ((c2 41 4 ≥ c 41 4)) → ((c2 41 4 ≤ c 41 3) ∨ (c2 41 4 = c 41 4)) → ((c 43 (c 41 4) < 97) ∨ (c 43 (c 41 4) > 122) ∨ (c 41 4 ≥ c 41 3) ∨ (c2 41 4 ≥ c 41 4 + 1)) → ((c 43 (c 41 4) < 97) ∨ (c 43 (c 41 4) > 122) ∨ (c 43 (c 41 4 + 1) < 97) ∨ (c 43 (c 41 4 + 1) > 122) ∨ (c 43 (c 41 4 + 2) < 97) ∨ (c 43 (c 41 4 + 2) > 122) ∨ (c 41 4 + 3 > c 41 3) ∨ (c2 41 4 ≥ c 41 4 + 3)) → Z (.inl (none), Wd P Q P P c2, 0, 0)) : ∀ n : Nat, (∀ (c2 : ME), Iv u e P Q c2 → (∀ (a : Nat) (j : Int), ¬ ((a = 41 ∧ j = 4)) → c2 a j = c a j) → ((c2 41 4 ≥ c 41 4)) → ((c2 41 4 ≤ c 41 3) ∨ (c2 41 4 = c 41 4)) → 1211 - 2 * c2 41 4 < (n : Int) → Wp sc (d + 8) 159 0 [(0, .ref 41)] [] (Wd P Q P P c2) 0 0 Z)
  | 0 => by intro c2 hI2 hF hx0 hx1 hm9; have hP := iv_P hI; have hQ := iv_Q hI; have h_31 := ir_41_4 hI2; exfalso; omega
  | n + 1 => by
    have hP := iv_P hI
    have hQ := iv_Q hI
    have ih := s_159_l (sc := sc) (d := d) hI K n
    intro c2 hI2 hF hx0 hx1 hm9
    have h_1 := ir_41_4 hI
    have h_2 := ir_41_4 hI2
    have h_3 := ir_41_3 hI
    refine q_aload_n c_159_0 rfl (v_gi (z := 4) (v := c2 41 4) c_159_1 kf_8_108 rfl (Nat.le_of_ble_eq_true rfl) rfl rfl rfl (q_aload_n c_159_4 rfl ?_))
    have kn_4 : Hid (c2 41 3 = c 41 3) := hF 41 3 (fun h => absurd h.2 (ni rfl))
    refine v_gi (z := 3) (v := c 41 3) c_159_5 kf_8_111 rfl (Nat.le_of_ble_eq_true rfl) rfl rfl (hid kn_4) ?_
    by_cases h_5 : c2 41 4 ≥ c 41 3
    · refine v_ic_ge_t (t := 39) c_159_8 rfl ⟨(Int.le_trans (by decide) h_3.1), h_5, (Int.le_trans h_2.2 (by decide))⟩ (q_vret rfl rfl ?_)
      have h_6 := ir_43 hI (c2 41 4)
      have h_7 := ir_43 hI (c 41 4)
      have h_8 : c2 41 4 = c 41 4 → c 43 (c2 41 4) = c 43 (c 41 4) := fun e9 => congrArg (c 43) e9
      have h_9 := ir_43 hI (c 41 4 + 1)
      have h_10 : c2 41 4 = c 41 4 + 1 → c 43 (c2 41 4) = c 43 (c 41 4 + 1) := fun e9 => congrArg (c 43) e9
      have h_11 := ir_43 hI (c 41 4 + 2)
      have h_12 : c2 41 4 = c 41 4 + 2 → c 43 (c2 41 4) = c 43 (c 41 4 + 2) := fun e9 => congrArg (c 43) e9
      exact K c2 hI2 (fun a j hm => hF a j hm) (by first | (clear h_1 h_2 h_3 h_5 h_6 h_7 h_9 h_11 hx1 h_8 h_10 h_12; omega) | omega) (by omega) (by omega) (by omega)
    · refine v_ic_ge_f (t := 39) c_159_8 rfl ⟨(Int.le_trans (by decide) h_2.1), (Int.not_le.mp h_5), (Int.le_trans h_3.2 (by decide))⟩ (q_aload_n c_159_11 rfl (v_gr (t := 43) c_159_12 kf_8_20 rfl (Nat.le_of_ble_eq_true rfl) rfl (q_aload_n c_159_15 rfl (v_gi (z := 4) (v := c2 41 4) c_159_16 kf_8_108 rfl (Nat.le_of_ble_eq_true rfl) rfl rfl rfl ?_))))
      have h_13 := ir_43 hI (c2 41 4)
      have kn_14 : Hid (c2 43 (c2 41 4) = c 43 (c2 41 4)) := hF 43 (c2 41 4) (fun h => absurd h.1 (nn rfl))
      refine v_ia (v := c 43 (c2 41 4)) c_159_19 rfl (by decide) (by decide) ⟨h_2.1, by first | exact q_364416c3d h_3 h_5 | omega⟩ (hid kn_14) (q_call c_159_20 rfl rfl rfl (q_iload_n c_155_0 rfl (v_bip c_155_1 (by decide) ?_)))
      by_cases h_15 : c 43 (c2 41 4) < 97
      · refine v_ic_lt_t (t := 16) c_155_3 rfl ⟨by first | exact q_cc1935a2a h_13 | omega, h_15, by decide⟩ (q_iconst c_155_16 (v_zret c_155_17 rfl (by decide) (bk_inl (v_if_eq_t (t := 39) c_159_23 rfl (by decide) (q_vret rfl rfl ?_)))))
        have h_16 := ir_43 hI (c 41 4)
        have h_17 : c2 41 4 = c 41 4 → c 43 (c2 41 4) = c 43 (c 41 4) := fun e9 => congrArg (c 43) e9
        have h_18 := ir_43 hI (c 41 4 + 1)
        have h_19 : c2 41 4 = c 41 4 + 1 → c 43 (c2 41 4) = c 43 (c 41 4 + 1) := fun e9 => congrArg (c 43) e9
        have h_20 := ir_43 hI (c 41 4 + 2)
        have h_21 : c2 41 4 = c 41 4 + 2 → c 43 (c2 41 4) = c 43 (c 41 4 + 2) := fun e9 => congrArg (c 43) e9
        exact K c2 hI2 (fun a j hm => hF a j hm) (by first | (clear h_1 h_2 h_3 h_5 h_13 h_15 h_16 h_18 h_20 hx1 h_17 h_19 h_21; omega) | omega) (Or.inl (by first | exact q_5fcb01701 h_5 | omega)) (by omega) (by omega)
      · refine v_ic_lt_f (t := 16) c_155_3 rfl ⟨by decide, (Int.not_lt.mp h_15), by first | exact q_4e52e4576 h_13 | omega⟩ (q_iload_n c_155_6 rfl (v_bip c_155_7 (by decide) ?_))
        by_cases h_22 : c 43 (c2 41 4) > 122
        · refine v_ic_gt_t (t := 16) c_155_9 rfl ⟨by decide, h_22, by first | exact q_4e52e4576 h_13 | omega⟩ (q_iconst c_155_16 (v_zret c_155_17 rfl (by decide) (bk_inl (v_if_eq_t (t := 39) c_159_23 rfl (by decide) (q_vret rfl rfl ?_)))))
          have h_23 := ir_43 hI (c 41 4)
          have h_24 : c2 41 4 = c 41 4 → c 43 (c2 41 4) = c 43 (c 41 4) := fun e9 => congrArg (c 43) e9
          have h_25 := ir_43 hI (c 41 4 + 1)
          have h_26 : c2 41 4 = c 41 4 + 1 → c 43 (c2 41 4) = c 43 (c 41 4 + 1) := fun e9 => congrArg (c 43) e9
          have h_27 := ir_43 hI (c 41 4 + 2)
          have h_28 : c2 41 4 = c 41 4 + 2 → c 43 (c2 41 4) = c 43 (c 41 4 + 2) := fun e9 => congrArg (c 43) e9
          exact K c2 hI2 (fun a j hm => hF a j hm) (by first | (clear h_1 h_2 h_3 h_5 h_13 h_15 h_22 h_23 h_25 h_27 hx1 h_24 h_26 h_28; omega) | omega) (Or.inl (by first | exact q_5fcb01701 h_5 | omega)) (by omega) (by omega)
        · refine v_ic_gt_f (t := 16) c_155_9 rfl ⟨by first | exact q_831bb82af h_15 | omega, (Int.not_lt.mp h_22), by decide⟩ (q_iconst c_155_12 (q_goto (t := 17) c_155_13 rfl (v_zret c_155_17 rfl (by decide) (bk_inl (v_if_eq_f (t := 39) c_159_23 rfl (by decide) (q_aload_n c_159_26 rfl (q_dup c_159_27 rfl ?_)))))))
          refine v_gi (z := 4) (v := c2 41 4) c_159_28 kf_8_108 rfl (Nat.le_of_ble_eq_true rfl) rfl rfl rfl (q_iconst c_159_31 (v_iadd (v := c2 41 4 + 1) c_159_32 rfl (v_pi (z := 4) c_159_33 kf_8_108 rfl (Nat.le_of_ble_eq_true rfl) rfl rfl rfl (by decide) (q_goto (t := 0) c_159_36 rfl ?_))))
          have hI_29 := iw_41_4 (v := c2 41 4 + 1) hI2 ⟨by first | exact rgp_l h_2.1 (by decide) | omega, by first | exact q_dadb204b8 h_3 h_5 | omega⟩
          refine Wp_ls [(0, .ref 41)] (lsub_cons rfl lsub_nil) ?_
          have h_30 : (up c2 41 4 (c2 41 4 + 1)) 41 4 = c2 41 4 + 1 := (up_e rfl)
          exact ih (up c2 41 4 (c2 41 4 + 1)) hI_29 (fun a j hm => (up_b (Decidable.or_iff_not_imp_left.mpr (fun h1 h2 => hm ⟨Decidable.not_not.mp h1, h2⟩))).trans (hF a j hm)) (by first | (clear h_1 h_2 h_3 h_5 h_13 h_15 h_22 hx1; omega) | omega) (Or.inl (by first | exact q_d6c070bf6 h_5 | omega)) (by omega)
set_option maxRecDepth 100000 in
set_option maxHeartbeats 4000000 in
theorem s_159 {sc : List Int32} {e : Int} {d u P Q : Nat} {c : ME} {Z : AR → Prop} (hI : Iv u e P Q c)  (K : ∀ (c2 : ME), Iv u e P Q c2 → (∀ (a : Nat) (j : Int), ¬ ((a = 41 ∧ j = 4)) → c2 a j = c a j) → ((c2 41 4 ≥ c 41 4)) → ((c2 41 4 ≤ c 41 3) ∨ (c2 41 4 = c 41 4)) → ((c 43 (c 41 4) < 97) ∨ (c 43 (c 41 4) > 122) ∨ (c 41 4 ≥ c 41 3) ∨ (c2 41 4 ≥ c 41 4 + 1)) → ((c 43 (c 41 4) < 97) ∨ (c 43 (c 41 4) > 122) ∨ (c 43 (c 41 4 + 1) < 97) ∨ (c 43 (c 41 4 + 1) > 122) ∨ (c 43 (c 41 4 + 2) < 97) ∨ (c 43 (c 41 4 + 2) > 122) ∨ (c 41 4 + 3 > c 41 3) ∨ (c2 41 4 ≥ c 41 4 + 3)) → Z (.inl (none), Wd P Q P P c2, 0, 0)) : Wp sc (d + 8) 159 0 [(0, .ref 41)] [] (Wd P Q P P c) 0 0 Z := by
  have hP := iv_P hI
  have hQ := iv_Q hI
  refine Wp_ls [(0, .ref 41)] (lsub_cons rfl lsub_nil) ?_
  have h_32 := ir_41_4 hI
  exact (s_159_l (sc := sc) (d := d) hI K 1214) c hI (fun a j hm => rfl) (by first | exact q_e074ea49a | omega) (Or.inr (by first | assumption | omega)) (by omega)

