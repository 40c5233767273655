section
/-! ===== contracts 11 ===== -/
theorem q_b71d35cdf {x0 : Int} : (x0) + 1 = x0 + 1 := by omega
theorem q_c5c511dbd {x0 : Int} : (x0) + 2 = x0 + 2 := by omega
theorem q_d667f18da {x0 : Int} (f0 : x0 ≥ 6) : 0 ≤ x0 + 1 := by omega
theorem q_9ecb19880 {x0 : Int} (f0 : x0 ≥ 6) : 1 ≤ x0 + 1 := by omega
theorem q_b0e066d21 {x0 : Int} (f0 : x0 ≥ 6) : 2 ≤ x0 + 1 := by omega
theorem q_b4a8c2409 {x0 : Int} (f0 : x0 ≥ 6) : 3 ≤ x0 + 1 := by omega
theorem q_71cfba098 {x0 : Int} (f0 : ¬ (x0 ≥ 6)) : x0 + 1 ≤ 600 := by omega
theorem q_fc9c378ef {x0 : Int} (f0 : 0 ≤ x0 ∧ x0 ≤ 600) : 0 ≤ x0 + 1 := by omega
theorem q_5574c4e4e {x0 : Int} (f0 : 0 ≤ x0 ∧ x0 ≤ 600) : 1 ≤ x0 + 1 := by omega
theorem q_a2ce855bf {x0 x1 : Int} (f0 : (x0 ≥ x1)) : x1 ≤ x0 := by omega
theorem c_157_14 : mLk 157 14 = some (.iload_n 3, 1) := rfl
theorem c_157_15 : mLk 157 15 = some (.aload_n 0, 1) := rfl
theorem c_157_16 : mLk 157 16 = some (.getfield 111, 3) := rfl
theorem c_157_19 : mLk 157 19 = some (.if_icmp .ge 48, 3) := rfl
theorem c_157_67 : mLk 157 67 = some (.iload_n 2, 1) := rfl
theorem c_157_68 : mLk 157 68 = some (.bipush 6, 2) := rfl
theorem c_157_70 : mLk 157 70 = some (.if_icmp .le 7, 3) := rfl
theorem c_157_77 : mLk 157 77 = some (.iload_n 1, 1) := rfl
theorem c_157_78 : mLk 157 78 = some (.ireturn, 1) := rfl
theorem c_157_73 : mLk 157 73 = some (.iconst 0, 1) := rfl
theorem c_157_74 : mLk 157 74 = some (.goto 4, 3) := rfl
theorem c_157_22 : mLk 157 22 = some (.aload_n 0, 1) := rfl
theorem c_157_23 : mLk 157 23 = some (.getfield 20, 3) := rfl
theorem c_157_26 : mLk 157 26 = some (.iload_n 3, 1) := rfl
theorem c_157_27 : mLk 157 27 = some (.iaload, 1) := rfl
theorem c_157_28 : mLk 157 28 = some (.invokestatic 118, 3) := rfl
theorem c_155_0 : mLk 155 0 = some (.iload_n 0, 1) := rfl
theorem c_155_1 : mLk 155 1 = some (.bipush 97, 2) := rfl
theorem c_155_3 : mLk 155 3 = some (.if_icmp .lt 13, 3) := rfl
theorem c_155_16 : mLk 155 16 = some (.iconst 0, 1) := rfl
theorem c_155_17 : mLk 155 17 = some (.ireturn, 1) := rfl
theorem c_157_31 : mLk 157 31 = some (.ifCond .eq 36, 3) := rfl
theorem c_155_6 : mLk 155 6 = some (.iload_n 0, 1) := rfl
theorem c_155_7 : mLk 155 7 = some (.bipush 122, 2) := rfl
theorem c_155_9 : mLk 155 9 = some (.if_icmp .gt 7, 3) := rfl
theorem c_155_12 : mLk 155 12 = some (.iconst 1, 1) := rfl
theorem c_155_13 : mLk 155 13 = some (.goto 4, 3) := rfl
theorem c_157_34 : mLk 157 34 = some (.iload_n 2, 1) := rfl
theorem c_157_35 : mLk 157 35 = some (.bipush 6, 2) := rfl
theorem c_157_37 : mLk 157 37 = some (.if_icmp .ge 19, 3) := rfl
theorem c_157_56 : mLk 157 56 = some (.iconst 0, 1) := rfl
theorem c_157_57 : mLk 157 57 = some (.istore_n 1, 1) := rfl
theorem c_157_58 : mLk 157 58 = some (.iinc 2 1, 3) := rfl
theorem c_157_61 : mLk 157 61 = some (.iinc 3 1, 3) := rfl
theorem c_157_64 : mLk 157 64 = some (.goto (-50), 3) := rfl
theorem c_157_40 : mLk 157 40 = some (.iload_n 1, 1) := rfl
theorem c_157_41 : mLk 157 41 = some (.iconst 5, 1) := rfl
theorem c_157_42 : mLk 157 42 = some (.ishl, 1) := rfl
theorem c_157_43 : mLk 157 43 = some (.aload_n 0, 1) := rfl
theorem c_157_44 : mLk 157 44 = some (.getfield 20, 3) := rfl
theorem c_157_47 : mLk 157 47 = some (.iload_n 3, 1) := rfl
theorem c_157_48 : mLk 157 48 = some (.iaload, 1) := rfl
theorem c_157_49 : mLk 157 49 = some (.bipush 96, 2) := rfl
theorem c_157_51 : mLk 157 51 = some (.isub, 1) := rfl
theorem c_157_52 : mLk 157 52 = some (.ior, 1) := rfl
theorem c_157_53 : mLk 157 53 = some (.goto 4, 3) := rfl
theorem c_157_0 : mLk 157 0 = some (.aload_n 0, 1) := rfl
theorem c_157_1 : mLk 157 1 = some (.invokevirtual 114, 3) := rfl
theorem c_157_4 : mLk 157 4 = some (.pop, 1) := rfl
theorem c_157_5 : mLk 157 5 = some (.iconst 0, 1) := rfl
theorem c_157_6 : mLk 157 6 = some (.istore_n 1, 1) := rfl
theorem c_157_7 : mLk 157 7 = some (.iconst 0, 1) := rfl
theorem c_157_8 : mLk 157 8 = some (.istore_n 2, 1) := rfl
theorem c_157_9 : mLk 157 9 = some (.aload_n 0, 1) := rfl
theorem c_157_10 : mLk 157 10 = some (.getfield 108, 3) := rfl
theorem c_157_13 : mLk 157 13 = some (.istore_n 3, 1) := rfl
theorem c_158_0 : mLk 158 0 = some (.iconst 0, 1) := rfl
theorem c_158_1 : mLk 158 1 = some (.istore_n 1, 1) := rfl
theorem c_158_2 : mLk 158 2 = some (.iconst 0, 1) := rfl
theorem c_158_3 : mLk 158 3 = some (.istore_n 2, 1) := rfl
theorem c_158_4 : mLk 158 4 = some (.iload_n 2, 1) := rfl
theorem c_158_5 : mLk 158 5 = some (.aload_n 0, 1) := rfl
theorem c_158_6 : mLk 158 6 = some (.invokevirtual 122, 3) := rfl
theorem c_158_9 : mLk 158 9 = some (.if_icmp .ge 22, 3) := rfl
theorem c_158_12 : mLk 158 12 = some (.iload_n 1, 1) := rfl
theorem c_158_13 : mLk 158 13 = some (.iconst 5, 1) := rfl
theorem c_158_14 : mLk 158 14 = some (.ishl, 1) := rfl
theorem c_158_15 : mLk 158 15 = some (.aload_n 0, 1) := rfl
theorem c_158_16 : mLk 158 16 = some (.iload_n 2, 1) := rfl
theorem c_158_17 : mLk 158 17 = some (.invokevirtual 127, 3) := rfl
theorem c_158_20 : mLk 158 20 = some (.bipush 96, 2) := rfl
theorem c_158_22 : mLk 158 22 = some (.isub, 1) := rfl
theorem c_158_23 : mLk 158 23 = some (.ior, 1) := rfl
theorem c_158_24 : mLk 158 24 = some (.istore_n 1, 1) := rfl
theorem c_158_25 : mLk 158 25 = some (.iinc 2 1, 3) := rfl
theorem c_158_28 : mLk 158 28 = some (.goto (-24), 3) := rfl
theorem c_158_31 : mLk 158 31 = some (.iload_n 1, 1) := rfl
theorem c_158_32 : mLk 158 32 = some (.ireturn, 1) := rfl
theorem c_159_0 : mLk 159 0 = some (.aload_n 0, 1) := rfl
theorem c_159_1 : mLk 159 1 = some (.getfield 108, 3) := rfl
theorem c_159_4 : mLk 159 4 = some (.aload_n 0, 1) := rfl
theorem c_159_5 : mLk 159 5 = some (.getfield 111, 3) := rfl
theorem c_159_8 : mLk 159 8 = some (.if_icmp .ge 31, 3) := rfl
theorem c_159_11 : mLk 159 11 = some (.aload_n 0, 1) := rfl
theorem c_159_12 : mLk 159 12 = some (.getfield 20, 3) := rfl
theorem c_159_15 : mLk 159 15 = some (.aload_n 0, 1) := rfl
theorem c_159_16 : mLk 159 16 = some (.getfield 108, 3) := rfl
theorem c_159_19 : mLk 159 19 = some (.iaload, 1) := rfl
theorem c_159_20 : mLk 159 20 = some (.invokestatic 118, 3) := rfl
theorem c_159_23 : mLk 159 23 = some (.ifCond .eq 16, 3) := rfl
theorem c_159_26 : mLk 159 26 = some (.aload_n 0, 1) := rfl
theorem c_159_27 : mLk 159 27 = some (.dup, 1) := rfl
theorem c_159_28 : mLk 159 28 = some (.getfield 108, 3) := rfl
theorem c_159_31 : mLk 159 31 = some (.iconst 1, 1) := rfl
theorem c_159_32 : mLk 159 32 = some (.iadd, 1) := rfl
theorem c_159_33 : mLk 159 33 = some (.putfield 108, 3) := rfl
theorem c_159_36 : mLk 159 36 = some (.goto (-36), 3) := rfl
theorem km_8_114 : a_lk (kM 8) 114 = some (0, 154) := rfl
set_option maxRecDepth 100000 in
set_option maxHeartbeats 4000000 in
theorem s_157_l {sc : List Int32} {e : Int} {d u P Q : Nat} {c : ME} {Z : AR → Prop} (hI : Iv u e P Q c)  (K : ∀ (c2 : ME) (y : Int), Iv u e P Q c2 → (∀ (a : Nat) (j : Int), ¬ ((a = 41 ∧ j = 4)) → c2 a j = c a j) → (-2147483648) ≤ y ∧ y ≤ 2147483647 → ((c2 41 4 ≥ c 41 4)) → ((c2 41 4 ≤ c 41 3) ∨ (c2 41 4 = c 41 4)) → ((y = 0) ∨ (c2 41 4 < c 41 3)) → ((y = 0) ∨ (c 43 (c2 41 4) ≥ 97 ∧ c 43 (c2 41 4) ≤ 122)) → ((y ≥ 0 ∧ y ≤ 1023) ∨ (c 43 (c2 41 4 + 1) ≥ 97 ∧ c 43 (c2 41 4 + 1) ≤ 122 ∧ c 43 (c2 41 4 + 2) ≥ 97 ∧ c 43 (c2 41 4 + 2) ≤ 122 ∧ c2 41 4 + 3 ≤ c 41 3)) → Z (.inl (some (vi y)), Wd P Q P P c2, 0, 0)) : ∀ n : Nat, (∀ (c2 : ME) (v1 : Int) (v2 : Int) (v3 : Int), Iv u e P Q c2 → (∀ (a : Nat) (j : Int), ¬ ((a = 41 ∧ j = 4)) → c2 a j = c a j) → (-2147483648) ≤ v1 ∧ v1 ≤ 2147483647 → 0 ≤ v2 ∧ v2 ≤ 600 → 0 ≤ v3 ∧ v3 ≤ 605 → ((c2 41 4 ≥ c 41 4)) → ((c2 41 4 ≤ c 41 3) ∨ (c2 41 4 = c 41 4)) → ((v3 = c2 41 4 + v2)) → ((v2 ≥ 0)) → ((v2 ≥ 1) ∨ (v1 = 0)) → ((v2 = 0) ∨ (c 43 (c2 41 4) ≥ 97 ∧ c 43 (c2 41 4) ≤ 122)) → ((v2 ≤ 1) ∨ (c 43 (c2 41 4 + 1) ≥ 97 ∧ c 43 (c2 41 4 + 1) ≤ 122)) → ((v2 ≤ 2) ∨ (c 43 (c2 41 4 + 2) ≥ 97 ∧ c 43 (c2 41 4 + 2) ≤ 122)) → ((v2 ≥ 2) ∨ (v1 ≥ 0 ∧ v1 ≤ 31)) → ((v2 ≥ 3) ∨ (v1 ≥ 0 ∧ v1 ≤ 1023)) → ((v2 = 0) ∨ (v3 ≤ c 41 3)) → 1211 - 2 * v3 < (n : Int) → Wp sc (d + 8) 157 14 [(0, .ref 41), (1, vi v1), (2, vi v2), (3, vi v3)] [] (Wd P Q P P c2) 0 0 Z) := by
  intro n
  induction n with
  | zero => exact (by intro c2 v1 v2 v3 hI2 hF hv1 hv2 hv3 hx0 hx1 hx2 hx3 hx4 hx5 hx6 hx7 hx8 hx9 hx10 hm9; have hP := iv_P hI; have hQ := iv_Q hI; exfalso; omega)
  | succ n ih =>
    have hP := iv_P hI
    have hQ := iv_Q hI
    intro c2 v1 v2 v3 hI2 hF hv1 hv2 hv3 hx0 hx1 hx2 hx3 hx4 hx5 hx6 hx7 hx8 hx9 hx10 hm9
    have h_1 := ir_41_4 hI
    have h_2 := ir_41_4 hI2
    have h_3 := ir_41_3 hI
    have h_4 := ir_43 hI (c2 41 4)
    have h_5 := ir_43 hI (c2 41 4 + 1)
    have h_6 := ir_43 hI (c2 41 4 + 2)
    refine q_iload_n c_157_14 rfl (q_aload_n c_157_15 rfl ?_)
    have kn_7 : Hid (c2 41 3 = c 41 3) := hF 41 3 (fun h => absurd h.2 (ni rfl))
    refine v_gi (z := 3) (v := c 41 3) c_157_16 kf_8_111 rfl (nb_ rfl) rfl rfl (hid kn_7) ?_
    by_cases h_8 : v3 ≥ c 41 3
    · refine v_ic_ge_t (t := 67) c_157_19 rfl ⟨(Int.le_trans (by decide) h_3.1), h_8, (Int.le_trans hv3.2 (by decide))⟩ (q_iload_n c_157_67 rfl (v_bip c_157_68 (by decide) ?_))
      by_cases h_9 : v2 ≤ 6
      · refine v_ic_le_t (t := 77) c_157_70 rfl ⟨(Int.le_trans (by decide) hv2.1), h_9, by decide⟩ (q_iload_n c_157_77 rfl (q_iret c_157_78 rfl ?_))
        have h_10 : c 43 ((c2 41 4) + 1) = c 43 (c2 41 4 + 1) := congrArg (c 43) (by first | exact q_b71d35cdf | assumption | exact Int.le_antisymm (by omega) (by omega))
        have h_11 : c 43 ((c2 41 4) + 2) = c 43 (c2 41 4 + 2) := congrArg (c 43) (by first | exact q_c5c511dbd | assumption | exact Int.le_antisymm (by omega) (by omega))
        have h_12 : c 43 ((c2 41 4)) = c 43 (c2 41 4) := congrArg (c 43) (by first | exact q_ef0f4cfe4 | assumption | exact Int.le_antisymm (by omega) (by omega))
        exact K c2 v1 hI2 (fun a j hm => hF a j hm) hv1 (by first | (clear hv1 hv2 hv3 hx2 hx3 h_1 h_2 h_3 h_4 h_5 h_6 h_8 h_9 hx1 hx4 hx5 hx6 hx7 hx8 hx9 hx10; omega) | omega) (by omega) (by omega) (by omega) (by omega)
      · refine v_ic_le_f (t := 77) c_157_70 rfl ⟨by decide, (Int.not_le.mp h_9), (Int.le_trans hv2.2 (by decide))⟩ (q_iconst c_157_73 (q_goto (t := 78) c_157_74 rfl (q_iret c_157_78 rfl ?_)))
        have h_13 : c 43 ((c2 41 4) + 1) = c 43 (c2 41 4 + 1) := congrArg (c 43) (by first | exact q_b71d35cdf | assumption | exact Int.le_antisymm (by omega) (by omega))
        have h_14 : c 43 ((c2 41 4) + 2) = c 43 (c2 41 4 + 2) := congrArg (c 43) (by first | exact q_c5c511dbd | assumption | exact Int.le_antisymm (by omega) (by omega))
        have h_15 : c 43 ((c2 41 4)) = c 43 (c2 41 4) := congrArg (c 43) (by first | exact q_ef0f4cfe4 | assumption | exact Int.le_antisymm (by omega) (by omega))
        exact K c2 0 hI2 (fun a j hm => hF a j hm) ⟨by decide, by decide⟩ (by first | (clear hv1 hv2 hv3 hx2 hx3 h_1 h_2 h_3 h_4 h_5 h_6 h_8 h_9 hx1 hx4 hx5 hx6 hx7 hx8 hx9 hx10; omega) | omega) (Or.inl (by first | (clear hv1 hv2 hv3 hx0 hx3 h_1 h_2 h_3 h_4 h_5 h_6 h_8 hx1 hx4 hx5 hx6 hx7 hx8 hx9; omega) | omega)) (Or.inl (by first | assumption | omega)) (Or.inl (by first | assumption | omega)) (Or.inl ⟨by first | decide | omega, by first | decide | omega⟩)
    · refine v_ic_ge_f (t := 67) c_157_19 rfl ⟨(Int.le_trans (by decide) hv3.1), (Int.not_le.mp h_8), (Int.le_trans h_3.2 (by decide))⟩ (q_aload_n c_157_22 rfl (v_gr (t := 43) c_157_23 kf_8_20 rfl (nb_ rfl) rfl (q_iload_n c_157_26 rfl ?_)))
      have h_16 := ir_43 hI v3
      have kn_17 : Hid (c2 43 v3 = c 43 v3) := hF 43 v3 (fun h => absurd h.1 (nn rfl))
      refine v_ia (v := c 43 v3) c_157_27 rfl (by decide) (by decide) ⟨hv3.1, by first | exact q_364416c3d h_3 h_8 | omega⟩ (hid kn_17) (q_call c_157_28 rfl rfl rfl (q_iload_n c_155_0 rfl (v_bip c_155_1 (by decide) ?_)))
      by_cases h_18 : c 43 v3 < 97
      · refine v_ic_lt_t (t := 16) c_155_3 rfl ⟨by first | exact q_cc1935a2a h_16 | omega, h_18, by decide⟩ (q_iconst c_155_16 (v_zret c_155_17 rfl (by decide) (bk_inl (v_if_eq_t (t := 67) c_157_31 rfl (by decide) (q_iload_n c_157_67 rfl (v_bip c_157_68 (by decide) ?_))))))
        by_cases h_19 : v2 ≤ 6
        · refine v_ic_le_t (t := 77) c_157_70 rfl ⟨(Int.le_trans (by decide) hv2.1), h_19, by decide⟩ (q_iload_n c_157_77 rfl (q_iret c_157_78 rfl ?_))
          have h_20 : c 43 ((c2 41 4) + 1) = c 43 (c2 41 4 + 1) := congrArg (c 43) (by first | exact q_b71d35cdf | assumption | exact Int.le_antisymm (by omega) (by omega))
          have h_21 : c 43 ((c2 41 4) + 2) = c 43 (c2 41 4 + 2) := congrArg (c 43) (by first | exact q_c5c511dbd | assumption | exact Int.le_antisymm (by omega) (by omega))
          have h_22 : c 43 ((c2 41 4)) = c 43 (c2 41 4) := congrArg (c 43) (by first | exact q_ef0f4cfe4 | assumption | exact Int.le_antisymm (by omega) (by omega))
          exact K c2 v1 hI2 (fun a j hm => hF a j hm) hv1 (by first | (clear hv1 hv2 hv3 hx2 hx3 h_1 h_2 h_3 h_4 h_5 h_6 h_8 h_16 h_18 h_19 hx1 hx4 hx5 hx6 hx7 hx8 hx9 hx10; omega) | omega) (Or.inl (by first | (clear hv1 hv3 hx0 hx3 h_1 h_2 h_3 h_4 h_5 h_6 h_16 h_18 h_19 hx1 hx4 hx5 hx6 hx7 hx8 hx9 hx10; omega) | omega)) (Or.inr (by first | (clear hv1 hv3 hx0 hx3 h_1 h_2 h_3 h_4 h_5 h_6 h_16 h_18 h_19 hx1 hx4 hx5 hx6 hx7 hx8 hx9 hx10; omega) | omega)) (by omega) (by omega)
        · refine v_ic_le_f (t := 77) c_157_70 rfl ⟨by decide, (Int.not_le.mp h_19), (Int.le_trans hv2.2 (by decide))⟩ (q_iconst c_157_73 (q_goto (t := 78) c_157_74 rfl (q_iret c_157_78 rfl ?_)))
          have h_23 : c 43 ((c2 41 4) + 1) = c 43 (c2 41 4 + 1) := congrArg (c 43) (by first | exact q_b71d35cdf | assumption | exact Int.le_antisymm (by omega) (by omega))
          have h_24 : c 43 ((c2 41 4) + 2) = c 43 (c2 41 4 + 2) := congrArg (c 43) (by first | exact q_c5c511dbd | assumption | exact Int.le_antisymm (by omega) (by omega))
          have h_25 : c 43 ((c2 41 4)) = c 43 (c2 41 4) := congrArg (c 43) (by first | exact q_ef0f4cfe4 | assumption | exact Int.le_antisymm (by omega) (by omega))
          exact K c2 0 hI2 (fun a j hm => hF a j hm) ⟨by decide, by decide⟩ (by first | (clear hv1 hv2 hv3 hx2 hx3 h_1 h_2 h_3 h_4 h_5 h_6 h_8 h_16 h_18 h_19 hx1 hx4 hx5 hx6 hx7 hx8 hx9 hx10; omega) | omega) (Or.inl (by first | (clear hv1 hv2 hv3 hx0 hx3 h_1 h_2 h_3 h_4 h_5 h_6 h_16 h_18 hx1 hx4 hx5 hx6 hx7 hx8 hx9 hx10; omega) | omega)) (Or.inl (by first | assumption | omega)) (Or.inl (by first | assumption | omega)) (Or.inl ⟨by first | decide | omega, by first | decide | omega⟩)
      · refine v_ic_lt_f (t := 16) c_155_3 rfl ⟨by decide, (Int.not_lt.mp h_18), by first | exact q_4e52e4576 h_16 | omega⟩ (q_iload_n c_155_6 rfl (v_bip c_155_7 (by decide) ?_))
        by_cases h_26 : c 43 v3 > 122
        · refine v_ic_gt_t (t := 16) c_155_9 rfl ⟨by decide, h_26, by first | exact q_4e52e4576 h_16 | omega⟩ (q_iconst c_155_16 (v_zret c_155_17 rfl (by decide) (bk_inl (v_if_eq_t (t := 67) c_157_31 rfl (by decide) (q_iload_n c_157_67 rfl (v_bip c_157_68 (by decide) ?_))))))
          by_cases h_27 : v2 ≤ 6
          · refine v_ic_le_t (t := 77) c_157_70 rfl ⟨(Int.le_trans (by decide) hv2.1), h_27, by decide⟩ (q_iload_n c_157_77 rfl (q_iret c_157_78 rfl ?_))
            have h_28 : c 43 ((c2 41 4) + 1) = c 43 (c2 41 4 + 1) := congrArg (c 43) (by first | exact q_b71d35cdf | assumption | exact Int.le_antisymm (by omega) (by omega))
            have h_29 : c 43 ((c2 41 4) + 2) = c 43 (c2 41 4 + 2) := congrArg (c 43) (by first | exact q_c5c511dbd | assumption | exact Int.le_antisymm (by omega) (by omega))
            have h_30 : c 43 ((c2 41 4)) = c 43 (c2 41 4) := congrArg (c 43) (by first | exact q_ef0f4cfe4 | assumption | exact Int.le_antisymm (by omega) (by omega))
            exact K c2 v1 hI2 (fun a j hm => hF a j hm) hv1 (by first | (clear hv1 hv2 hv3 hx2 hx3 h_1 h_2 h_3 h_4 h_5 h_6 h_8 h_16 h_18 h_26 h_27 hx1 hx4 hx5 hx6 hx7 hx8 hx9 hx10; omega) | omega) (Or.inl (by first | (clear hv1 hv3 hx0 hx3 h_1 h_2 h_3 h_4 h_5 h_6 h_16 h_18 h_26 h_27 hx1 hx4 hx5 hx6 hx7 hx8 hx9 hx10; omega) | omega)) (Or.inr (by first | (clear hv1 hv3 hx0 hx3 h_1 h_2 h_3 h_4 h_5 h_6 h_16 h_18 h_26 h_27 hx1 hx4 hx5 hx6 hx7 hx8 hx9 hx10; omega) | omega)) (by omega) (by omega)
          · refine v_ic_le_f (t := 77) c_157_70 rfl ⟨by decide, (Int.not_le.mp h_27), (Int.le_trans hv2.2 (by decide))⟩ (q_iconst c_157_73 (q_goto (t := 78) c_157_74 rfl (q_iret c_157_78 rfl ?_)))
            have h_31 : c 43 ((c2 41 4) + 1) = c 43 (c2 41 4 + 1) := congrArg (c 43) (by first | exact q_b71d35cdf | assumption | exact Int.le_antisymm (by omega) (by omega))
            have h_32 : c 43 ((c2 41 4) + 2) = c 43 (c2 41 4 + 2) := congrArg (c 43) (by first | exact q_c5c511dbd | assumption | exact Int.le_antisymm (by omega) (by omega))
            have h_33 : c 43 ((c2 41 4)) = c 43 (c2 41 4) := congrArg (c 43) (by first | exact q_ef0f4cfe4 | assumption | exact Int.le_antisymm (by omega) (by omega))
            exact K c2 0 hI2 (fun a j hm => hF a j hm) ⟨by decide, by decide⟩ (by first | (clear hv1 hv2 hv3 hx2 hx3 h_1 h_2 h_3 h_4 h_5 h_6 h_8 h_16 h_18 h_26 h_27 hx1 hx4 hx5 hx6 hx7 hx8 hx9 hx10; omega) | omega) (Or.inl (by first | (clear hv1 hv2 hv3 hx0 hx3 h_1 h_2 h_3 h_4 h_5 h_6 h_16 h_18 h_26 hx1 hx4 hx5 hx6 hx7 hx8 hx9 hx10; omega) | omega)) (Or.inl (by first | assumption | omega)) (Or.inl (by first | assumption | omega)) (Or.inl ⟨by first | decide | omega, by first | decide | omega⟩)
        · refine v_ic_gt_f (t := 16) c_155_9 rfl ⟨by first | exact q_831bb82af h_18 | omega, (Int.not_lt.mp h_26), by decide⟩ (q_iconst c_155_12 (q_goto (t := 17) c_155_13 rfl (v_zret c_155_17 rfl (by decide) (bk_inl (v_if_eq_f (t := 67) c_157_31 rfl (by decide) (q_iload_n c_157_34 rfl (v_bip c_157_35 (by decide) ?_)))))))
          by_cases h_34 : v2 ≥ 6
          · refine v_ic_ge_t (t := 56) c_157_37 rfl ⟨by decide, h_34, (Int.le_trans hv2.2 (by decide))⟩ (q_iconst c_157_56 (q_istore_n c_157_57 (nb_ rfl) (v_iinc (v := v2 + 1) c_157_58 rfl (nb_ rfl) rfl (v_iinc (v := v3 + 1) c_157_61 rfl (nb_ rfl) rfl (q_goto (t := 14) c_157_64 rfl (Wp_ls [(0, .ref 41), (1, vi 0), (2, vi (v2 + 1)), (3, vi (v3 + 1))] (lsub_cons rfl (lsub_cons rfl (lsub_cons rfl (lsub_cons rfl lsub_nil)))) ?_))))))
            have h_35 : v3 = c2 41 4 → c 43 v3 = c 43 (c2 41 4) := fun e9 => congrArg (c 43) e9
            have h_36 : v3 = c2 41 4 + 1 → c 43 v3 = c 43 (c2 41 4 + 1) := fun e9 => congrArg (c 43) e9
            have h_37 : v3 = c2 41 4 + 2 → c 43 v3 = c 43 (c2 41 4 + 2) := fun e9 => congrArg (c 43) e9
            have h_38 : c 43 ((c2 41 4) + 1) = c 43 (c2 41 4 + 1) := congrArg (c 43) (by first | exact q_b71d35cdf | assumption | exact Int.le_antisymm (by omega) (by omega))
            have h_39 : c 43 ((c2 41 4) + 2) = c 43 (c2 41 4 + 2) := congrArg (c 43) (by first | exact q_c5c511dbd | assumption | exact Int.le_antisymm (by omega) (by omega))
            have h_40 : c 43 ((c2 41 4)) = c 43 (c2 41 4) := congrArg (c 43) (by first | exact q_ef0f4cfe4 | assumption | exact Int.le_antisymm (by omega) (by omega))
            exact ih c2 0 (v2 + 1) (v3 + 1) hI2 (fun a j hm => hF a j hm) ⟨by decide, by decide⟩ ⟨by first | exact rgp_l hv2.1 (by decide) | omega, by first | (clear hv1 hv2 hv3 hx0 hx3 h_1 h_4 h_5 h_6 h_16 h_18 h_26 h_34 hx1 hx4 hx5 hx6 hx7 hx8 hx9 hx10; omega) | omega⟩ ⟨by first | exact rgp_l hv3.1 (by decide) | omega, by first | exact q_dadb204b8 h_3 h_8 | omega⟩ (by first | (clear hv1 hv2 hv3 hx2 hx3 h_1 h_2 h_3 h_4 h_5 h_6 h_8 h_16 h_18 h_26 h_34 hx1 hx4 hx5 hx6 hx7 hx8 hx9 hx10 h_35 h_36 h_37; omega) | omega) (Or.inl (by first | (clear hv1 hv2 hv3 hx0 hx3 h_1 h_2 h_3 h_4 h_5 h_6 h_16 h_18 h_26 hx1 hx4 hx5 hx6 hx7 hx8 hx9 hx10 h_35 h_36 h_37; omega) | omega)) (by first | (clear hv1 hv2 hv3 hx0 hx3 h_1 h_2 h_3 h_4 h_5 h_6 h_8 h_16 h_18 h_26 h_34 hx1 hx4 hx5 hx6 hx7 hx8 hx9 hx10 h_35 h_36 h_37; omega) | omega) (by first | exact q_d667f18da h_34 | omega) (Or.inl (by first | exact q_9ecb19880 h_34 | omega)) (Or.inr ⟨by first | (clear hv1 hv2 hv3 hx0 hx2 hx3 h_1 h_2 h_3 h_4 h_5 h_6 h_8 h_16 h_18 h_26 hx1 hx4 hx6 hx7 hx8 hx9 hx10 h_35 h_36 h_37; omega) | omega, by first | (clear hv1 hv2 hv3 hx0 hx2 hx3 h_1 h_2 h_3 h_4 h_5 h_6 h_8 h_16 h_18 h_26 hx1 hx4 hx6 hx7 hx8 hx9 hx10 h_35 h_36 h_37; omega) | omega⟩) (Or.inr ⟨by first | (clear hv1 hv2 hv3 hx0 hx2 hx3 h_1 h_2 h_3 h_4 h_5 h_6 h_8 h_16 h_18 h_26 hx1 hx4 hx5 hx7 hx8 hx9 hx10 h_35 h_36 h_37; omega) | omega, by first | (clear hv1 hv2 hv3 hx0 hx2 hx3 h_1 h_2 h_3 h_4 h_5 h_6 h_8 h_16 h_18 h_26 hx1 hx4 hx5 hx7 hx8 hx9 hx10 h_35 h_36 h_37; omega) | omega⟩) (Or.inr ⟨by first | (clear hv1 hv2 hv3 hx0 hx2 hx3 h_1 h_2 h_3 h_4 h_5 h_6 h_8 h_16 h_18 h_26 hx1 hx4 hx5 hx6 hx8 hx9 hx10 h_35 h_36 h_37; omega) | omega, by first | (clear hv1 hv2 hv3 hx0 hx2 hx3 h_1 h_2 h_3 h_4 h_5 h_6 h_8 h_16 h_18 h_26 hx1 hx4 hx5 hx6 hx8 hx9 hx10 h_35 h_36 h_37; omega) | omega⟩) (Or.inl (by first | exact q_b0e066d21 h_34 | omega)) (Or.inl (by first | exact q_b4a8c2409 h_34 | omega)) (Or.inr (by first | exact q_d6c070bf6 h_8 | omega)) (by omega)
          · refine v_ic_ge_f (t := 56) c_157_37 rfl ⟨(Int.le_trans (by decide) hv2.1), (Int.not_le.mp h_34), by decide⟩ (q_iload_n c_157_40 rfl (q_iconst c_157_41 (v_ishl5 c_157_42 (fun y_41 hy_41 h_42 => (q_aload_n c_157_43 rfl (v_gr (t := 43) c_157_44 kf_8_20 rfl (nb_ rfl) rfl (q_iload_n c_157_47 rfl (v_ia (v := c 43 v3) c_157_48 rfl (by decide) (by decide) ⟨hv3.1, by first | exact q_364416c3d h_3 h_8 | omega⟩ (hid kn_17) ?_))))))))
            refine v_bip c_157_49 (by decide) (v_isub (v := c 43 v3 - 96) c_157_51 rfl (v_ior5 c_157_52 (fun y_43 hy_43 h_44 h_45 => (q_goto (t := 57) c_157_53 rfl (q_istore_n c_157_57 (nb_ rfl) (v_iinc (v := v2 + 1) c_157_58 rfl (nb_ rfl) rfl (v_iinc (v := v3 + 1) c_157_61 rfl (nb_ rfl) rfl (q_goto (t := 14) c_157_64 rfl ?_))))))))
            refine Wp_ls [(0, .ref 41), (1, vi y_43), (2, vi (v2 + 1)), (3, vi (v3 + 1))] (lsub_cons rfl (lsub_cons rfl (lsub_cons rfl (lsub_cons rfl lsub_nil)))) ?_
            have h_46 : v3 = c2 41 4 → c 43 v3 = c 43 (c2 41 4) := fun e9 => congrArg (c 43) e9
            have h_47 : v3 = c2 41 4 + 1 → c 43 v3 = c 43 (c2 41 4 + 1) := fun e9 => congrArg (c 43) e9
            have h_48 : v3 = c2 41 4 + 2 → c 43 v3 = c 43 (c2 41 4 + 2) := fun e9 => congrArg (c 43) e9
            have h_49 : c 43 ((c2 41 4) + 1) = c 43 (c2 41 4 + 1) := congrArg (c 43) (by first | exact q_b71d35cdf | assumption | exact Int.le_antisymm (by omega) (by omega))
            have h_50 : c 43 ((c2 41 4) + 2) = c 43 (c2 41 4 + 2) := congrArg (c 43) (by first | exact q_c5c511dbd | assumption | exact Int.le_antisymm (by omega) (by omega))
            have h_51 : c 43 ((c2 41 4)) = c 43 (c2 41 4) := congrArg (c 43) (by first | exact q_ef0f4cfe4 | assumption | exact Int.le_antisymm (by omega) (by omega))
            exact ih c2 y_43 (v2 + 1) (v3 + 1) hI2 (fun a j hm => hF a j hm) hy_43 ⟨by first | exact rgp_l hv2.1 (by decide) | omega, by first | exact q_71cfba098 h_34 | omega⟩ ⟨by first | exact rgp_l hv3.1 (by decide) | omega, by first | exact q_dadb204b8 h_3 h_8 | omega⟩ (by first | (clear hv1 hv2 hv3 hx2 hx3 h_1 h_2 h_3 h_4 h_5 h_6 h_8 h_16 h_18 h_26 h_34 hx1 hx4 hx5 hx6 hx7 hx8 hx9 hx10 h_46 h_47 h_48; omega) | omega) (Or.inl (by first | (clear hv1 hv3 hx0 hx3 h_1 h_2 h_3 h_4 h_5 h_6 h_16 h_18 h_26 h_34 hx1 hx4 hx5 hx6 hx7 hx8 hx9 hx10 h_46 h_47 h_48; omega) | omega)) (by first | (clear hv1 hv2 hv3 hx0 hx3 h_1 h_2 h_3 h_4 h_5 h_6 h_8 h_16 h_18 h_26 h_34 hx1 hx4 hx5 hx6 hx7 hx8 hx9 hx10 h_46 h_47 h_48; omega) | omega) (by first | exact q_fc9c378ef hv2 | omega) (Or.inl (by first | exact q_5574c4e4e hv2 | omega)) (Or.inr ⟨by first | (clear hv1 hv2 hv3 hx0 hx3 h_1 h_2 h_3 h_4 h_5 h_6 h_8 h_16 h_26 h_34 hx1 hx4 hx6 hx7 hx8 hx9 hx10 h_47 h_48; omega) | omega, by first | (clear hv1 hv2 hv3 hx0 hx3 h_1 h_2 h_3 h_4 h_5 h_6 h_8 h_16 h_18 h_34 hx1 hx4 hx6 hx7 hx8 hx9 hx10 h_47 h_48; omega) | omega⟩) (by omega) (by omega) (by omega) (by omega) (Or.inr (by first | exact q_d6c070bf6 h_8 | omega)) (by omega)
set_option maxRecDepth 100000 in
set_option maxHeartbeats 4000000 in
theorem s_157 {sc : List Int32} {e : Int} {d u P Q : Nat} {c : ME} {Z : AR → Prop} (hI : Iv u e P Q c)  (K : ∀ (c2 : ME) (y : Int), Iv u e P Q c2 → (∀ (a : Nat) (j : Int), ¬ ((a = 41 ∧ j = 4)) → c2 a j = c a j) → (-2147483648) ≤ y ∧ y ≤ 2147483647 → ((c2 41 4 ≥ c 41 4)) → ((c2 41 4 ≤ c 41 3) ∨ (c2 41 4 = c 41 4)) → ((y = 0) ∨ (c2 41 4 < c 41 3)) → ((y = 0) ∨ (c 43 (c2 41 4) ≥ 97 ∧ c 43 (c2 41 4) ≤ 122)) → ((y ≥ 0 ∧ y ≤ 1023) ∨ (c 43 (c2 41 4 + 1) ≥ 97 ∧ c 43 (c2 41 4 + 1) ≤ 122 ∧ c 43 (c2 41 4 + 2) ≥ 97 ∧ c 43 (c2 41 4 + 2) ≤ 122 ∧ c2 41 4 + 3 ≤ c 41 3)) → Z (.inl (some (vi y)), Wd P Q P P c2, 0, 0)) : Wp sc (d + 8) 157 0 [(0, .ref 41)] [] (Wd P Q P P c) 0 0 Z := by
  have hP := iv_P hI
  have hQ := iv_Q hI
  refine q_aload_n c_157_0 rfl ?_
  have h_52 := ir_41_4 hI
  have h_53 := ir_41_3 hI
  refine v_cv c_157_1 km_8_114 rfl rfl (nb_ rfl) ⟨⟨rfl, rfl⟩, nb_ rfl, rfl⟩ (nb_ rfl) (nb_ rfl) (s_154 hI (fun c_54 y_57 hI_55 hF_56 hy_57 h_58 h_59 h_60 h_61 => (bk_inl ?_)))
  have h_62 := ir_41_4 hI_55
  have h_63 := ir_43 hI (c_54 41 4)
  refine q_pop c_157_4 rfl (q_iconst c_157_5 (q_istore_n c_157_6 (nb_ rfl) (q_iconst c_157_7 (q_istore_n c_157_8 (nb_ rfl) (q_aload_n c_157_9 rfl (v_gi (z := 4) (v := c_54 41 4) c_157_10 kf_8_108 rfl (nb_ rfl) rfl rfl rfl (q_istore_n c_157_13 (nb_ rfl) ?_)))))))
  refine Wp_ls [(0, .ref 41), (1, vi 0), (2, vi 0), (3, vi (c_54 41 4))] (lsub_cons rfl (lsub_cons rfl (lsub_cons rfl (lsub_cons rfl lsub_nil)))) ?_
  have h_64 := ir_43 hI (c_54 41 4 + 1)
  have h_65 : c 43 ((c_54 41 4) + 1) = c 43 (c_54 41 4 + 1) := congrArg (c 43) (by first | exact q_b71d35cdf | assumption | exact Int.le_antisymm (by omega) (by omega))
  have h_66 := ir_43 hI (c_54 41 4 + 2)
  have h_67 : c 43 ((c_54 41 4) + 2) = c 43 (c_54 41 4 + 2) := congrArg (c 43) (by first | exact q_c5c511dbd | assumption | exact Int.le_antisymm (by omega) (by omega))
  have h_68 : c 43 ((c_54 41 4)) = c 43 (c_54 41 4) := congrArg (c 43) (by first | exact q_ef0f4cfe4 | assumption | exact Int.le_antisymm (by omega) (by omega))
  exact (s_157_l (sc := sc) (d := d) hI K 1214) c_54 0 0 (c_54 41 4) hI_55 (fun a j hm => hF_56 a j hm) ⟨by decide, by decide⟩ ⟨by decide, by decide⟩ h_62 (by first | exact q_a2ce855bf h_58 | omega) (by omega) (by first | assumption | omega) (by first | decide | omega) (Or.inr (by first | assumption | omega)) (Or.inl (by first | assumption | omega)) (Or.inl (by first | decide | omega)) (Or.inl (by first | decide | omega)) (Or.inr ⟨by first | decide | omega, by first | decide | omega⟩) (Or.inr ⟨by first | decide | omega, by first | decide | omega⟩) (Or.inl (by first | assumption | omega)) (by omega)

set_option maxRecDepth 100000 in
set_option maxHeartbeats 4000000 in
theorem s_158_16 {sc : List Int32} {d : Nat} {w : AW} {Z : AR → Prop} (K : Z (.inl (some (vi 10290)), w, 0, 0)) : Wp sc (d + 7) 158 0 [(0, .ref (a_SB + 16))] [] w 0 0 Z := by
  refine q_iconst c_158_0 (q_istore_n c_158_1 (nb_ rfl) (q_iconst c_158_2 (q_istore_n c_158_3 (nb_ rfl) (q_iload_n c_158_4 rfl (q_aload_n c_158_5 rfl (v_sln 3 c_158_6 rfl (ld_ rfl) (nb_ rfl) (by decide) (by decide) (v_ic_ge_f (t := 31) c_158_9 rfl (by decide) ?_)))))))
  refine q_iload_n c_158_12 rfl (q_iconst c_158_13 (v_ishlc (v := 0) c_158_14 (by decide) (q_aload_n c_158_15 rfl (q_iload_n c_158_16 rfl (v_sch 106 c_158_17 rfl (ld_ rfl) (nb_ rfl) (by decide) (by decide) (by decide) (v_bip c_158_20 (by decide) (v_isub (v := 10) c_158_22 (by decide) ?_)))))))
  refine v_iorc (v := 10) c_158_23 (by decide) (q_istore_n c_158_24 (nb_ rfl) (v_iinc (v := 1) c_158_25 rfl (nb_ rfl) (by decide) (q_goto (t := 4) c_158_28 rfl (q_iload_n c_158_4 rfl (q_aload_n c_158_5 rfl (v_sln 3 c_158_6 rfl (ld_ rfl) (nb_ rfl) (by decide) (by decide) (v_ic_ge_f (t := 31) c_158_9 rfl (by decide) ?_)))))))
  refine q_iload_n c_158_12 rfl (q_iconst c_158_13 (v_ishlc (v := 320) c_158_14 (by decide) (q_aload_n c_158_15 rfl (q_iload_n c_158_16 rfl (v_sch 97 c_158_17 rfl (ld_ rfl) (nb_ rfl) (by decide) (by decide) (by decide) (v_bip c_158_20 (by decide) (v_isub (v := 1) c_158_22 (by decide) ?_)))))))
  refine v_iorc (v := 321) c_158_23 (by decide) (q_istore_n c_158_24 (nb_ rfl) (Wp_ls [(1, vi 321), (2, vi 1), (0, .ref (a_SB + 16))] (lsub_cons rfl (lsub_cons rfl (lsub_cons rfl lsub_nil))) (v_iinc (v := 2) c_158_25 rfl (nb_ rfl) (by decide) (q_goto (t := 4) c_158_28 rfl (q_iload_n c_158_4 rfl (q_aload_n c_158_5 rfl (v_sln 3 c_158_6 rfl (ld_ rfl) (nb_ rfl) (by decide) (by decide) ?_)))))))
  refine v_ic_ge_f (t := 31) c_158_9 rfl (by decide) (q_iload_n c_158_12 rfl (q_iconst c_158_13 (v_ishlc (v := 10272) c_158_14 (by decide) (q_aload_n c_158_15 rfl (q_iload_n c_158_16 rfl (v_sch 114 c_158_17 rfl (ld_ rfl) (nb_ rfl) (by decide) (by decide) (by decide) (v_bip c_158_20 (by decide) ?_)))))))
  refine v_isub (v := 18) c_158_22 (by decide) (v_iorc (v := 10290) c_158_23 (by decide) (q_istore_n c_158_24 (nb_ rfl) (v_iinc (v := 3) c_158_25 rfl (nb_ rfl) (by decide) (q_goto (t := 4) c_158_28 rfl (q_iload_n c_158_4 rfl (q_aload_n c_158_5 rfl (v_sln 3 c_158_6 rfl (ld_ rfl) (nb_ rfl) (by decide) (by decide) ?_)))))))
  refine v_ic_ge_t (t := 31) c_158_9 rfl (by decide) (q_iload_n c_158_31 rfl (q_iret c_158_32 rfl ?_))
  exact K
set_option maxRecDepth 100000 in
set_option maxHeartbeats 4000000 in
theorem s_158_17 {sc : List Int32} {d : Nat} {w : AW} {Z : AR → Prop} (K : Z (.inl (some (vi 20594117)), w, 0, 0)) : Wp sc (d + 7) 158 0 [(0, .ref (a_SB + 17))] [] w 0 0 Z := by
  refine q_iconst c_158_0 (q_istore_n c_158_1 (nb_ rfl) (q_iconst c_158_2 (q_istore_n c_158_3 (nb_ rfl) (q_iload_n c_158_4 rfl (q_aload_n c_158_5 rfl (v_sln 5 c_158_6 rfl (ld_ rfl) (nb_ rfl) (by decide) (by decide) (v_ic_ge_f (t := 31) c_158_9 rfl (by decide) ?_)))))))
  refine q_iload_n c_158_12 rfl (q_iconst c_158_13 (v_ishlc (v := 0) c_158_14 (by decide) (q_aload_n c_158_15 rfl (q_iload_n c_158_16 rfl (v_sch 115 c_158_17 rfl (ld_ rfl) (nb_ rfl) (by decide) (by decide) (by decide) (v_bip c_158_20 (by decide) (v_isub (v := 19) c_158_22 (by decide) ?_)))))))
  refine v_iorc (v := 19) c_158_23 (by decide) (q_istore_n c_158_24 (nb_ rfl) (v_iinc (v := 1) c_158_25 rfl (nb_ rfl) (by decide) (q_goto (t := 4) c_158_28 rfl (q_iload_n c_158_4 rfl (q_aload_n c_158_5 rfl (v_sln 5 c_158_6 rfl (ld_ rfl) (nb_ rfl) (by decide) (by decide) (v_ic_ge_f (t := 31) c_158_9 rfl (by decide) ?_)))))))
  refine q_iload_n c_158_12 rfl (q_iconst c_158_13 (v_ishlc (v := 608) c_158_14 (by decide) (q_aload_n c_158_15 rfl (q_iload_n c_158_16 rfl (v_sch 116 c_158_17 rfl (ld_ rfl) (nb_ rfl) (by decide) (by decide) (by decide) (v_bip c_158_20 (by decide) (v_isub (v := 20) c_158_22 (by decide) ?_)))))))
  refine v_iorc (v := 628) c_158_23 (by decide) (q_istore_n c_158_24 (nb_ rfl) (Wp_ls [(1, vi 628), (2, vi 1), (0, .ref (a_SB + 17))] (lsub_cons rfl (lsub_cons rfl (lsub_cons rfl lsub_nil))) (v_iinc (v := 2) c_158_25 rfl (nb_ rfl) (by decide) (q_goto (t := 4) c_158_28 rfl (q_iload_n c_158_4 rfl (q_aload_n c_158_5 rfl (v_sln 5 c_158_6 rfl (ld_ rfl) (nb_ rfl) (by decide) (by decide) ?_)))))))
  refine v_ic_ge_f (t := 31) c_158_9 rfl (by decide) (q_iload_n c_158_12 rfl (q_iconst c_158_13 (v_ishlc (v := 20096) c_158_14 (by decide) (q_aload_n c_158_15 rfl (q_iload_n c_158_16 rfl (v_sch 111 c_158_17 rfl (ld_ rfl) (nb_ rfl) (by decide) (by decide) (by decide) (v_bip c_158_20 (by decide) ?_)))))))
  refine v_isub (v := 15) c_158_22 (by decide) (v_iorc (v := 20111) c_158_23 (by decide) (q_istore_n c_158_24 (nb_ rfl) (v_iinc (v := 3) c_158_25 rfl (nb_ rfl) (by decide) (q_goto (t := 4) c_158_28 rfl (q_iload_n c_158_4 rfl (q_aload_n c_158_5 rfl (v_sln 5 c_158_6 rfl (ld_ rfl) (nb_ rfl) (by decide) (by decide) ?_)))))))
  refine v_ic_ge_f (t := 31) c_158_9 rfl (by decide) (q_iload_n c_158_12 rfl (q_iconst c_158_13 (v_ishlc (v := 643552) c_158_14 (by decide) (q_aload_n c_158_15 rfl (q_iload_n c_158_16 rfl (v_sch 110 c_158_17 rfl (ld_ rfl) (nb_ rfl) (by decide) (by decide) (by decide) (v_bip c_158_20 (by decide) ?_)))))))
  refine v_isub (v := 14) c_158_22 (by decide) (v_iorc (v := 643566) c_158_23 (by decide) (q_istore_n c_158_24 (nb_ rfl) (v_iinc (v := 4) c_158_25 rfl (nb_ rfl) (by decide) (Wp_ls [(2, vi 4), (1, vi 643566), (0, .ref (a_SB + 17))] (lsub_cons rfl (lsub_cons rfl (lsub_cons rfl lsub_nil))) (q_goto (t := 4) c_158_28 rfl (q_iload_n c_158_4 rfl (q_aload_n c_158_5 rfl ?_)))))))
  refine v_sln 5 c_158_6 rfl (ld_ rfl) (nb_ rfl) (by decide) (by decide) (v_ic_ge_f (t := 31) c_158_9 rfl (by decide) (q_iload_n c_158_12 rfl (q_iconst c_158_13 (v_ishlc (v := 20594112) c_158_14 (by decide) (q_aload_n c_158_15 rfl (q_iload_n c_158_16 rfl (v_sch 101 c_158_17 rfl (ld_ rfl) (nb_ rfl) (by decide) (by decide) (by decide) ?_)))))))
  refine v_bip c_158_20 (by decide) (v_isub (v := 5) c_158_22 (by decide) (v_iorc (v := 20594117) c_158_23 (by decide) (q_istore_n c_158_24 (nb_ rfl) (v_iinc (v := 5) c_158_25 rfl (nb_ rfl) (by decide) (q_goto (t := 4) c_158_28 rfl (q_iload_n c_158_4 rfl (q_aload_n c_158_5 rfl ?_)))))))
  refine v_sln 5 c_158_6 rfl (ld_ rfl) (nb_ rfl) (by decide) (by decide) (v_ic_ge_t (t := 31) c_158_9 rfl (by decide) (q_iload_n c_158_31 rfl (q_iret c_158_32 rfl ?_)))
  exact K
set_option maxRecDepth 100000 in
set_option maxHeartbeats 4000000 in
theorem s_158_18 {sc : List Int32} {d : Nat} {w : AW} {Z : AR → Prop} (K : Z (.inl (some (vi 20223685)), w, 0, 0)) : Wp sc (d + 7) 158 0 [(0, .ref (a_SB + 18))] [] w 0 0 Z := by
  refine q_iconst c_158_0 (q_istore_n c_158_1 (nb_ rfl) (q_iconst c_158_2 (q_istore_n c_158_3 (nb_ rfl) (q_iload_n c_158_4 rfl (q_aload_n c_158_5 rfl (v_sln 5 c_158_6 rfl (ld_ rfl) (nb_ rfl) (by decide) (by decide) (v_ic_ge_f (t := 31) c_158_9 rfl (by decide) ?_)))))))
  refine q_iload_n c_158_12 rfl (q_iconst c_158_13 (v_ishlc (v := 0) c_158_14 (by decide) (q_aload_n c_158_15 rfl (q_iload_n c_158_16 rfl (v_sch 115 c_158_17 rfl (ld_ rfl) (nb_ rfl) (by decide) (by decide) (by decide) (v_bip c_158_20 (by decide) (v_isub (v := 19) c_158_22 (by decide) ?_)))))))
  refine v_iorc (v := 19) c_158_23 (by decide) (q_istore_n c_158_24 (nb_ rfl) (v_iinc (v := 1) c_158_25 rfl (nb_ rfl) (by decide) (q_goto (t := 4) c_158_28 rfl (q_iload_n c_158_4 rfl (q_aload_n c_158_5 rfl (v_sln 5 c_158_6 rfl (ld_ rfl) (nb_ rfl) (by decide) (by decide) (v_ic_ge_f (t := 31) c_158_9 rfl (by decide) ?_)))))))
  refine q_iload_n c_158_12 rfl (q_iconst c_158_13 (v_ishlc (v := 608) c_158_14 (by decide) (q_aload_n c_158_15 rfl (q_iload_n c_158_16 rfl (v_sch 105 c_158_17 rfl (ld_ rfl) (nb_ rfl) (by decide) (by decide) (by decide) (v_bip c_158_20 (by decide) (v_isub (v := 9) c_158_22 (by decide) ?_)))))))
  refine v_iorc (v := 617) c_158_23 (by decide) (q_istore_n c_158_24 (nb_ rfl) (Wp_ls [(1, vi 617), (2, vi 1), (0, .ref (a_SB + 18))] (lsub_cons rfl (lsub_cons rfl (lsub_cons rfl lsub_nil))) (v_iinc (v := 2) c_158_25 rfl (nb_ rfl) (by decide) (q_goto (t := 4) c_158_28 rfl (q_iload_n c_158_4 rfl (q_aload_n c_158_5 rfl (v_sln 5 c_158_6 rfl (ld_ rfl) (nb_ rfl) (by decide) (by decide) ?_)))))))
  refine v_ic_ge_f (t := 31) c_158_9 rfl (by decide) (q_iload_n c_158_12 rfl (q_iconst c_158_13 (v_ishlc (v := 19744) c_158_14 (by decide) (q_aload_n c_158_15 rfl (q_iload_n c_158_16 rfl (v_sch 101 c_158_17 rfl (ld_ rfl) (nb_ rfl) (by decide) (by decide) (by decide) (v_bip c_158_20 (by decide) ?_)))))))
  refine v_isub (v := 5) c_158_22 (by decide) (v_iorc (v := 19749) c_158_23 (by decide) (q_istore_n c_158_24 (nb_ rfl) (v_iinc (v := 3) c_158_25 rfl (nb_ rfl) (by decide) (q_goto (t := 4) c_158_28 rfl (q_iload_n c_158_4 rfl (q_aload_n c_158_5 rfl (v_sln 5 c_158_6 rfl (ld_ rfl) (nb_ rfl) (by decide) (by decide) ?_)))))))
  refine v_ic_ge_f (t := 31) c_158_9 rfl (by decide) (q_iload_n c_158_12 rfl (q_iconst c_158_13 (v_ishlc (v := 631968) c_158_14 (by decide) (q_aload_n c_158_15 rfl (q_iload_n c_158_16 rfl (v_sch 118 c_158_17 rfl (ld_ rfl) (nb_ rfl) (by decide) (by decide) (by decide) (v_bip c_158_20 (by decide) ?_)))))))
  refine v_isub (v := 22) c_158_22 (by decide) (v_iorc (v := 631990) c_158_23 (by decide) (q_istore_n c_158_24 (nb_ rfl) (v_iinc (v := 4) c_158_25 rfl (nb_ rfl) (by decide) (Wp_ls [(2, vi 4), (1, vi 631990), (0, .ref (a_SB + 18))] (lsub_cons rfl (lsub_cons rfl (lsub_cons rfl lsub_nil))) (q_goto (t := 4) c_158_28 rfl (q_iload_n c_158_4 rfl (q_aload_n c_158_5 rfl ?_)))))))
  refine v_sln 5 c_158_6 rfl (ld_ rfl) (nb_ rfl) (by decide) (by decide) (v_ic_ge_f (t := 31) c_158_9 rfl (by decide) (q_iload_n c_158_12 rfl (q_iconst c_158_13 (v_ishlc (v := 20223680) c_158_14 (by decide) (q_aload_n c_158_15 rfl (q_iload_n c_158_16 rfl (v_sch 101 c_158_17 rfl (ld_ rfl) (nb_ rfl) (by decide) (by decide) (by decide) ?_)))))))
  refine v_bip c_158_20 (by decide) (v_isub (v := 5) c_158_22 (by decide) (v_iorc (v := 20223685) c_158_23 (by decide) (q_istore_n c_158_24 (nb_ rfl) (v_iinc (v := 5) c_158_25 rfl (nb_ rfl) (by decide) (q_goto (t := 4) c_158_28 rfl (q_iload_n c_158_4 rfl (q_aload_n c_158_5 rfl ?_)))))))
  refine v_sln 5 c_158_6 rfl (ld_ rfl) (nb_ rfl) (by decide) (by decide) (v_ic_ge_t (t := 31) c_158_9 rfl (by decide) (q_iload_n c_158_31 rfl (q_iret c_158_32 rfl ?_)))
  exact K
set_option maxRecDepth 100000 in
set_option maxHeartbeats 4000000 in
theorem s_158_19 {sc : List Int32} {d : Nat} {w : AW} {Z : AR → Prop} (K : Z (.inl (some (vi 153204)), w, 0, 0)) : Wp sc (d + 7) 158 0 [(0, .ref (a_SB + 19))] [] w 0 0 Z := by
  refine q_iconst c_158_0 (q_istore_n c_158_1 (nb_ rfl) (q_iconst c_158_2 (q_istore_n c_158_3 (nb_ rfl) (q_iload_n c_158_4 rfl (q_aload_n c_158_5 rfl (v_sln 4 c_158_6 rfl (ld_ rfl) (nb_ rfl) (by decide) (by decide) (v_ic_ge_f (t := 31) c_158_9 rfl (by decide) ?_)))))))
  refine q_iload_n c_158_12 rfl (q_iconst c_158_13 (v_ishlc (v := 0) c_158_14 (by decide) (q_aload_n c_158_15 rfl (q_iload_n c_158_16 rfl (v_sch 100 c_158_17 rfl (ld_ rfl) (nb_ rfl) (by decide) (by decide) (by decide) (v_bip c_158_20 (by decide) (v_isub (v := 4) c_158_22 (by decide) ?_)))))))
  refine v_iorc (v := 4) c_158_23 (by decide) (q_istore_n c_158_24 (nb_ rfl) (v_iinc (v := 1) c_158_25 rfl (nb_ rfl) (by decide) (q_goto (t := 4) c_158_28 rfl (q_iload_n c_158_4 rfl (q_aload_n c_158_5 rfl (v_sln 4 c_158_6 rfl (ld_ rfl) (nb_ rfl) (by decide) (by decide) (v_ic_ge_f (t := 31) c_158_9 rfl (by decide) ?_)))))))
  refine q_iload_n c_158_12 rfl (q_iconst c_158_13 (v_ishlc (v := 128) c_158_14 (by decide) (q_aload_n c_158_15 rfl (q_iload_n c_158_16 rfl (v_sch 117 c_158_17 rfl (ld_ rfl) (nb_ rfl) (by decide) (by decide) (by decide) (v_bip c_158_20 (by decide) (v_isub (v := 21) c_158_22 (by decide) ?_)))))))
  refine v_iorc (v := 149) c_158_23 (by decide) (q_istore_n c_158_24 (nb_ rfl) (Wp_ls [(1, vi 149), (2, vi 1), (0, .ref (a_SB + 19))] (lsub_cons rfl (lsub_cons rfl (lsub_cons rfl lsub_nil))) (v_iinc (v := 2) c_158_25 rfl (nb_ rfl) (by decide) (q_goto (t := 4) c_158_28 rfl (q_iload_n c_158_4 rfl (q_aload_n c_158_5 rfl (v_sln 4 c_158_6 rfl (ld_ rfl) (nb_ rfl) (by decide) (by decide) ?_)))))))
  refine v_ic_ge_f (t := 31) c_158_9 rfl (by decide) (q_iload_n c_158_12 rfl (q_iconst c_158_13 (v_ishlc (v := 4768) c_158_14 (by decide) (q_aload_n c_158_15 rfl (q_iload_n c_158_16 rfl (v_sch 115 c_158_17 rfl (ld_ rfl) (nb_ rfl) (by decide) (by decide) (by decide) (v_bip c_158_20 (by decide) ?_)))))))
  refine v_isub (v := 19) c_158_22 (by decide) (v_iorc (v := 4787) c_158_23 (by decide) (q_istore_n c_158_24 (nb_ rfl) (v_iinc (v := 3) c_158_25 rfl (nb_ rfl) (by decide) (q_goto (t := 4) c_158_28 rfl (q_iload_n c_158_4 rfl (q_aload_n c_158_5 rfl (v_sln 4 c_158_6 rfl (ld_ rfl) (nb_ rfl) (by decide) (by decide) ?_)))))))
  refine v_ic_ge_f (t := 31) c_158_9 rfl (by decide) (q_iload_n c_158_12 rfl (q_iconst c_158_13 (v_ishlc (v := 153184) c_158_14 (by decide) (q_aload_n c_158_15 rfl (q_iload_n c_158_16 rfl (v_sch 116 c_158_17 rfl (ld_ rfl) (nb_ rfl) (by decide) (by decide) (by decide) (v_bip c_158_20 (by decide) ?_)))))))
  refine v_isub (v := 20) c_158_22 (by decide) (v_iorc (v := 153204) c_158_23 (by decide) (q_istore_n c_158_24 (nb_ rfl) (v_iinc (v := 4) c_158_25 rfl (nb_ rfl) (by decide) (Wp_ls [(2, vi 4), (1, vi 153204), (0, .ref (a_SB + 19))] (lsub_cons rfl (lsub_cons rfl (lsub_cons rfl lsub_nil))) (q_goto (t := 4) c_158_28 rfl (q_iload_n c_158_4 rfl (q_aload_n c_158_5 rfl ?_)))))))
  refine v_sln 4 c_158_6 rfl (ld_ rfl) (nb_ rfl) (by decide) (by decide) (v_ic_ge_t (t := 31) c_158_9 rfl (by decide) (q_iload_n c_158_31 rfl (q_iret c_158_32 rfl ?_)))
  exact K
set_option maxRecDepth 100000 in
set_option maxHeartbeats 4000000 in
theorem s_158_20 {sc : List Int32} {d : Nat} {w : AW} {Z : AR → Prop} (K : Z (.inl (some (vi 12748404)), w, 0, 0)) : Wp sc (d + 7) 158 0 [(0, .ref (a_SB + 20))] [] w 0 0 Z := by
  refine q_iconst c_158_0 (q_istore_n c_158_1 (nb_ rfl) (q_iconst c_158_2 (q_istore_n c_158_3 (nb_ rfl) (q_iload_n c_158_4 rfl (q_aload_n c_158_5 rfl (v_sln 5 c_158_6 rfl (ld_ rfl) (nb_ rfl) (by decide) (by decide) (v_ic_ge_f (t := 31) c_158_9 rfl (by decide) ?_)))))))
  refine q_iload_n c_158_12 rfl (q_iconst c_158_13 (v_ishlc (v := 0) c_158_14 (by decide) (q_aload_n c_158_15 rfl (q_iload_n c_158_16 rfl (v_sch 108 c_158_17 rfl (ld_ rfl) (nb_ rfl) (by decide) (by decide) (by decide) (v_bip c_158_20 (by decide) (v_isub (v := 12) c_158_22 (by decide) ?_)))))))
  refine v_iorc (v := 12) c_158_23 (by decide) (q_istore_n c_158_24 (nb_ rfl) (v_iinc (v := 1) c_158_25 rfl (nb_ rfl) (by decide) (q_goto (t := 4) c_158_28 rfl (q_iload_n c_158_4 rfl (q_aload_n c_158_5 rfl (v_sln 5 c_158_6 rfl (ld_ rfl) (nb_ rfl) (by decide) (by decide) (v_ic_ge_f (t := 31) c_158_9 rfl (by decide) ?_)))))))
  refine q_iload_n c_158_12 rfl (q_iconst c_158_13 (v_ishlc (v := 384) c_158_14 (by decide) (q_aload_n c_158_15 rfl (q_iload_n c_158_16 rfl (v_sch 101 c_158_17 rfl (ld_ rfl) (nb_ rfl) (by decide) (by decide) (by decide) (v_bip c_158_20 (by decide) (v_isub (v := 5) c_158_22 (by decide) ?_)))))))
  refine v_iorc (v := 389) c_158_23 (by decide) (q_istore_n c_158_24 (nb_ rfl) (Wp_ls [(1, vi 389), (2, vi 1), (0, .ref (a_SB + 20))] (lsub_cons rfl (lsub_cons rfl (lsub_cons rfl lsub_nil))) (v_iinc (v := 2) c_158_25 rfl (nb_ rfl) (by decide) (q_goto (t := 4) c_158_28 rfl (q_iload_n c_158_4 rfl (q_aload_n c_158_5 rfl (v_sln 5 c_158_6 rfl (ld_ rfl) (nb_ rfl) (by decide) (by decide) ?_)))))))
  refine v_ic_ge_f (t := 31) c_158_9 rfl (by decide) (q_iload_n c_158_12 rfl (q_iconst c_158_13 (v_ishlc (v := 12448) c_158_14 (by decide) (q_aload_n c_158_15 rfl (q_iload_n c_158_16 rfl (v_sch 97 c_158_17 rfl (ld_ rfl) (nb_ rfl) (by decide) (by decide) (by decide) (v_bip c_158_20 (by decide) ?_)))))))
  refine v_isub (v := 1) c_158_22 (by decide) (v_iorc (v := 12449) c_158_23 (by decide) (q_istore_n c_158_24 (nb_ rfl) (v_iinc (v := 3) c_158_25 rfl (nb_ rfl) (by decide) (q_goto (t := 4) c_158_28 rfl (q_iload_n c_158_4 rfl (q_aload_n c_158_5 rfl (v_sln 5 c_158_6 rfl (ld_ rfl) (nb_ rfl) (by decide) (by decide) ?_)))))))
  refine v_ic_ge_f (t := 31) c_158_9 rfl (by decide) (q_iload_n c_158_12 rfl (q_iconst c_158_13 (v_ishlc (v := 398368) c_158_14 (by decide) (q_aload_n c_158_15 rfl (q_iload_n c_158_16 rfl (v_sch 115 c_158_17 rfl (ld_ rfl) (nb_ rfl) (by decide) (by decide) (by decide) (v_bip c_158_20 (by decide) ?_)))))))
  refine v_isub (v := 19) c_158_22 (by decide) (v_iorc (v := 398387) c_158_23 (by decide) (q_istore_n c_158_24 (nb_ rfl) (v_iinc (v := 4) c_158_25 rfl (nb_ rfl) (by decide) (Wp_ls [(2, vi 4), (1, vi 398387), (0, .ref (a_SB + 20))] (lsub_cons rfl (lsub_cons rfl (lsub_cons rfl lsub_nil))) (q_goto (t := 4) c_158_28 rfl (q_iload_n c_158_4 rfl (q_aload_n c_158_5 rfl ?_)))))))
  refine v_sln 5 c_158_6 rfl (ld_ rfl) (nb_ rfl) (by decide) (by decide) (v_ic_ge_f (t := 31) c_158_9 rfl (by decide) (q_iload_n c_158_12 rfl (q_iconst c_158_13 (v_ishlc (v := 12748384) c_158_14 (by decide) (q_aload_n c_158_15 rfl (q_iload_n c_158_16 rfl (v_sch 116 c_158_17 rfl (ld_ rfl) (nb_ rfl) (by decide) (by decide) (by decide) ?_)))))))
  refine v_bip c_158_20 (by decide) (v_isub (v := 20) c_158_22 (by decide) (v_iorc (v := 12748404) c_158_23 (by decide) (q_istore_n c_158_24 (nb_ rfl) (v_iinc (v := 5) c_158_25 rfl (nb_ rfl) (by decide) (q_goto (t := 4) c_158_28 rfl (q_iload_n c_158_4 rfl (q_aload_n c_158_5 rfl ?_)))))))
  refine v_sln 5 c_158_6 rfl (ld_ rfl) (nb_ rfl) (by decide) (by decide) (v_ic_ge_t (t := 31) c_158_9 rfl (by decide) (q_iload_n c_158_31 rfl (q_iret c_158_32 rfl ?_)))
  exact K
set_option maxRecDepth 100000 in
set_option maxHeartbeats 4000000 in
theorem s_158_21 {sc : List Int32} {d : Nat} {w : AW} {Z : AR → Prop} (K : Z (.inl (some (vi 441972)), w, 0, 0)) : Wp sc (d + 7) 158 0 [(0, .ref (a_SB + 21))] [] w 0 0 Z := by
  refine q_iconst c_158_0 (q_istore_n c_158_1 (nb_ rfl) (q_iconst c_158_2 (q_istore_n c_158_3 (nb_ rfl) (q_iload_n c_158_4 rfl (q_aload_n c_158_5 rfl (v_sln 4 c_158_6 rfl (ld_ rfl) (nb_ rfl) (by decide) (by decide) (v_ic_ge_f (t := 31) c_158_9 rfl (by decide) ?_)))))))
  refine q_iload_n c_158_12 rfl (q_iconst c_158_13 (v_ishlc (v := 0) c_158_14 (by decide) (q_aload_n c_158_15 rfl (q_iload_n c_158_16 rfl (v_sch 109 c_158_17 rfl (ld_ rfl) (nb_ rfl) (by decide) (by decide) (by decide) (v_bip c_158_20 (by decide) (v_isub (v := 13) c_158_22 (by decide) ?_)))))))
  refine v_iorc (v := 13) c_158_23 (by decide) (q_istore_n c_158_24 (nb_ rfl) (v_iinc (v := 1) c_158_25 rfl (nb_ rfl) (by decide) (q_goto (t := 4) c_158_28 rfl (q_iload_n c_158_4 rfl (q_aload_n c_158_5 rfl (v_sln 4 c_158_6 rfl (ld_ rfl) (nb_ rfl) (by decide) (by decide) (v_ic_ge_f (t := 31) c_158_9 rfl (by decide) ?_)))))))
  refine q_iload_n c_158_12 rfl (q_iconst c_158_13 (v_ishlc (v := 416) c_158_14 (by decide) (q_aload_n c_158_15 rfl (q_iload_n c_158_16 rfl (v_sch 111 c_158_17 rfl (ld_ rfl) (nb_ rfl) (by decide) (by decide) (by decide) (v_bip c_158_20 (by decide) (v_isub (v := 15) c_158_22 (by decide) ?_)))))))
  refine v_iorc (v := 431) c_158_23 (by decide) (q_istore_n c_158_24 (nb_ rfl) (Wp_ls [(1, vi 431), (2, vi 1), (0, .ref (a_SB + 21))] (lsub_cons rfl (lsub_cons rfl (lsub_cons rfl lsub_nil))) (v_iinc (v := 2) c_158_25 rfl (nb_ rfl) (by decide) (q_goto (t := 4) c_158_28 rfl (q_iload_n c_158_4 rfl (q_aload_n c_158_5 rfl (v_sln 4 c_158_6 rfl (ld_ rfl) (nb_ rfl) (by decide) (by decide) ?_)))))))
  refine v_ic_ge_f (t := 31) c_158_9 rfl (by decide) (q_iload_n c_158_12 rfl (q_iconst c_158_13 (v_ishlc (v := 13792) c_158_14 (by decide) (q_aload_n c_158_15 rfl (q_iload_n c_158_16 rfl (v_sch 115 c_158_17 rfl (ld_ rfl) (nb_ rfl) (by decide) (by decide) (by decide) (v_bip c_158_20 (by decide) ?_)))))))
  refine v_isub (v := 19) c_158_22 (by decide) (v_iorc (v := 13811) c_158_23 (by decide) (q_istore_n c_158_24 (nb_ rfl) (v_iinc (v := 3) c_158_25 rfl (nb_ rfl) (by decide) (q_goto (t := 4) c_158_28 rfl (q_iload_n c_158_4 rfl (q_aload_n c_158_5 rfl (v_sln 4 c_158_6 rfl (ld_ rfl) (nb_ rfl) (by decide) (by decide) ?_)))))))
  refine v_ic_ge_f (t := 31) c_158_9 rfl (by decide) (q_iload_n c_158_12 rfl (q_iconst c_158_13 (v_ishlc (v := 441952) c_158_14 (by decide) (q_aload_n c_158_15 rfl (q_iload_n c_158_16 rfl (v_sch 116 c_158_17 rfl (ld_ rfl) (nb_ rfl) (by decide) (by decide) (by decide) (v_bip c_158_20 (by decide) ?_)))))))
  refine v_isub (v := 20) c_158_22 (by decide) (v_iorc (v := 441972) c_158_23 (by decide) (q_istore_n c_158_24 (nb_ rfl) (v_iinc (v := 4) c_158_25 rfl (nb_ rfl) (by decide) (Wp_ls [(2, vi 4), (1, vi 441972), (0, .ref (a_SB + 21))] (lsub_cons rfl (lsub_cons rfl (lsub_cons rfl lsub_nil))) (q_goto (t := 4) c_158_28 rfl (q_iload_n c_158_4 rfl (q_aload_n c_158_5 rfl ?_)))))))
  refine v_sln 4 c_158_6 rfl (ld_ rfl) (nb_ rfl) (by decide) (by decide) (v_ic_ge_t (t := 31) c_158_9 rfl (by decide) (q_iload_n c_158_31 rfl (q_iret c_158_32 rfl ?_)))
  exact K
set_option maxRecDepth 100000 in
set_option maxHeartbeats 4000000 in
theorem s_158_22 {sc : List Int32} {d : Nat} {w : AW} {Z : AR → Prop} (K : Z (.inl (some (vi 206277)), w, 0, 0)) : Wp sc (d + 7) 158 0 [(0, .ref (a_SB + 22))] [] w 0 0 Z := by
  refine q_iconst c_158_0 (q_istore_n c_158_1 (nb_ rfl) (q_iconst c_158_2 (q_istore_n c_158_3 (nb_ rfl) (q_iload_n c_158_4 rfl (q_aload_n c_158_5 rfl (v_sln 4 c_158_6 rfl (ld_ rfl) (nb_ rfl) (by decide) (by decide) (v_ic_ge_f (t := 31) c_158_9 rfl (by decide) ?_)))))))
  refine q_iload_n c_158_12 rfl (q_iconst c_158_13 (v_ishlc (v := 0) c_158_14 (by decide) (q_aload_n c_158_15 rfl (q_iload_n c_158_16 rfl (v_sch 102 c_158_17 rfl (ld_ rfl) (nb_ rfl) (by decide) (by decide) (by decide) (v_bip c_158_20 (by decide) (v_isub (v := 6) c_158_22 (by decide) ?_)))))))
  refine v_iorc (v := 6) c_158_23 (by decide) (q_istore_n c_158_24 (nb_ rfl) (v_iinc (v := 1) c_158_25 rfl (nb_ rfl) (by decide) (q_goto (t := 4) c_158_28 rfl (q_iload_n c_158_4 rfl (q_aload_n c_158_5 rfl (v_sln 4 c_158_6 rfl (ld_ rfl) (nb_ rfl) (by decide) (by decide) (v_ic_ge_f (t := 31) c_158_9 rfl (by decide) ?_)))))))
  refine q_iload_n c_158_12 rfl (q_iconst c_158_13 (v_ishlc (v := 192) c_158_14 (by decide) (q_aload_n c_158_15 rfl (q_iload_n c_158_16 rfl (v_sch 105 c_158_17 rfl (ld_ rfl) (nb_ rfl) (by decide) (by decide) (by decide) (v_bip c_158_20 (by decide) (v_isub (v := 9) c_158_22 (by decide) ?_)))))))
  refine v_iorc (v := 201) c_158_23 (by decide) (q_istore_n c_158_24 (nb_ rfl) (Wp_ls [(1, vi 201), (2, vi 1), (0, .ref (a_SB + 22))] (lsub_cons rfl (lsub_cons rfl (lsub_cons rfl lsub_nil))) (v_iinc (v := 2) c_158_25 rfl (nb_ rfl) (by decide) (q_goto (t := 4) c_158_28 rfl (q_iload_n c_158_4 rfl (q_aload_n c_158_5 rfl (v_sln 4 c_158_6 rfl (ld_ rfl) (nb_ rfl) (by decide) (by decide) ?_)))))))
  refine v_ic_ge_f (t := 31) c_158_9 rfl (by decide) (q_iload_n c_158_12 rfl (q_iconst c_158_13 (v_ishlc (v := 6432) c_158_14 (by decide) (q_aload_n c_158_15 rfl (q_iload_n c_158_16 rfl (v_sch 110 c_158_17 rfl (ld_ rfl) (nb_ rfl) (by decide) (by decide) (by decide) (v_bip c_158_20 (by decide) ?_)))))))
  refine v_isub (v := 14) c_158_22 (by decide) (v_iorc (v := 6446) c_158_23 (by decide) (q_istore_n c_158_24 (nb_ rfl) (v_iinc (v := 3) c_158_25 rfl (nb_ rfl) (by decide) (q_goto (t := 4) c_158_28 rfl (q_iload_n c_158_4 rfl (q_aload_n c_158_5 rfl (v_sln 4 c_158_6 rfl (ld_ rfl) (nb_ rfl) (by decide) (by decide) ?_)))))))
  refine v_ic_ge_f (t := 31) c_158_9 rfl (by decide) (q_iload_n c_158_12 rfl (q_iconst c_158_13 (v_ishlc (v := 206272) c_158_14 (by decide) (q_aload_n c_158_15 rfl (q_iload_n c_158_16 rfl (v_sch 101 c_158_17 rfl (ld_ rfl) (nb_ rfl) (by decide) (by decide) (by decide) (v_bip c_158_20 (by decide) ?_)))))))
  refine v_isub (v := 5) c_158_22 (by decide) (v_iorc (v := 206277) c_158_23 (by decide) (q_istore_n c_158_24 (nb_ rfl) (v_iinc (v := 4) c_158_25 rfl (nb_ rfl) (by decide) (Wp_ls [(2, vi 4), (1, vi 206277), (0, .ref (a_SB + 22))] (lsub_cons rfl (lsub_cons rfl (lsub_cons rfl lsub_nil))) (q_goto (t := 4) c_158_28 rfl (q_iload_n c_158_4 rfl (q_aload_n c_158_5 rfl ?_)))))))
  refine v_sln 4 c_158_6 rfl (ld_ rfl) (nb_ rfl) (by decide) (by decide) (v_ic_ge_t (t := 31) c_158_9 rfl (by decide) (q_iload_n c_158_31 rfl (q_iret c_158_32 rfl ?_)))
  exact K
set_option maxRecDepth 100000 in
set_option maxHeartbeats 4000000 in
theorem s_158_23 {sc : List Int32} {d : Nat} {w : AW} {Z : AR → Prop} (K : Z (.inl (some (vi 13604)), w, 0, 0)) : Wp sc (d + 7) 158 0 [(0, .ref (a_SB + 23))] [] w 0 0 Z := by
  refine q_iconst c_158_0 (q_istore_n c_158_1 (nb_ rfl) (q_iconst c_158_2 (q_istore_n c_158_3 (nb_ rfl) (q_iload_n c_158_4 rfl (q_aload_n c_158_5 rfl (v_sln 3 c_158_6 rfl (ld_ rfl) (nb_ rfl) (by decide) (by decide) (v_ic_ge_f (t := 31) c_158_9 rfl (by decide) ?_)))))))
  refine q_iload_n c_158_12 rfl (q_iconst c_158_13 (v_ishlc (v := 0) c_158_14 (by decide) (q_aload_n c_158_15 rfl (q_iload_n c_158_16 rfl (v_sch 109 c_158_17 rfl (ld_ rfl) (nb_ rfl) (by decide) (by decide) (by decide) (v_bip c_158_20 (by decide) (v_isub (v := 13) c_158_22 (by decide) ?_)))))))
  refine v_iorc (v := 13) c_158_23 (by decide) (q_istore_n c_158_24 (nb_ rfl) (v_iinc (v := 1) c_158_25 rfl (nb_ rfl) (by decide) (q_goto (t := 4) c_158_28 rfl (q_iload_n c_158_4 rfl (q_aload_n c_158_5 rfl (v_sln 3 c_158_6 rfl (ld_ rfl) (nb_ rfl) (by decide) (by decide) (v_ic_ge_f (t := 31) c_158_9 rfl (by decide) ?_)))))))
  refine q_iload_n c_158_12 rfl (q_iconst c_158_13 (v_ishlc (v := 416) c_158_14 (by decide) (q_aload_n c_158_15 rfl (q_iload_n c_158_16 rfl (v_sch 105 c_158_17 rfl (ld_ rfl) (nb_ rfl) (by decide) (by decide) (by decide) (v_bip c_158_20 (by decide) (v_isub (v := 9) c_158_22 (by decide) ?_)))))))
  refine v_iorc (v := 425) c_158_23 (by decide) (q_istore_n c_158_24 (nb_ rfl) (Wp_ls [(1, vi 425), (2, vi 1), (0, .ref (a_SB + 23))] (lsub_cons rfl (lsub_cons rfl (lsub_cons rfl lsub_nil))) (v_iinc (v := 2) c_158_25 rfl (nb_ rfl) (by decide) (q_goto (t := 4) c_158_28 rfl (q_iload_n c_158_4 rfl (q_aload_n c_158_5 rfl (v_sln 3 c_158_6 rfl (ld_ rfl) (nb_ rfl) (by decide) (by decide) ?_)))))))
  refine v_ic_ge_f (t := 31) c_158_9 rfl (by decide) (q_iload_n c_158_12 rfl (q_iconst c_158_13 (v_ishlc (v := 13600) c_158_14 (by decide) (q_aload_n c_158_15 rfl (q_iload_n c_158_16 rfl (v_sch 100 c_158_17 rfl (ld_ rfl) (nb_ rfl) (by decide) (by decide) (by decide) (v_bip c_158_20 (by decide) ?_)))))))
  refine v_isub (v := 4) c_158_22 (by decide) (v_iorc (v := 13604) c_158_23 (by decide) (q_istore_n c_158_24 (nb_ rfl) (v_iinc (v := 3) c_158_25 rfl (nb_ rfl) (by decide) (q_goto (t := 4) c_158_28 rfl (q_iload_n c_158_4 rfl (q_aload_n c_158_5 rfl (v_sln 3 c_158_6 rfl (ld_ rfl) (nb_ rfl) (by decide) (by decide) ?_)))))))
  refine v_ic_ge_t (t := 31) c_158_9 rfl (by decide) (q_iload_n c_158_31 rfl (q_iret c_158_32 rfl ?_))
  exact K
set_option maxRecDepth 100000 in
set_option maxHeartbeats 4000000 in
theorem s_158_24 {sc : List Int32} {d : Nat} {w : AW} {Z : AR → Prop} (K : Z (.inl (some (vi 116443749)), w, 0, 0)) : Wp sc (d + 7) 158 0 [(0, .ref (a_SB + 24))] [] w 0 0 Z := by
  refine q_iconst c_158_0 (q_istore_n c_158_1 (nb_ rfl) (q_iconst c_158_2 (q_istore_n c_158_3 (nb_ rfl) (q_iload_n c_158_4 rfl (q_aload_n c_158_5 rfl (v_sln 6 c_158_6 rfl (ld_ rfl) (nb_ rfl) (by decide) (by decide) (v_ic_ge_f (t := 31) c_158_9 rfl (by decide) ?_)))))))
  refine q_iload_n c_158_12 rfl (q_iconst c_158_13 (v_ishlc (v := 0) c_158_14 (by decide) (q_aload_n c_158_15 rfl (q_iload_n c_158_16 rfl (v_sch 99 c_158_17 rfl (ld_ rfl) (nb_ rfl) (by decide) (by decide) (by decide) (v_bip c_158_20 (by decide) (v_isub (v := 3) c_158_22 (by decide) ?_)))))))
  refine v_iorc (v := 3) c_158_23 (by decide) (q_istore_n c_158_24 (nb_ rfl) (v_iinc (v := 1) c_158_25 rfl (nb_ rfl) (by decide) (q_goto (t := 4) c_158_28 rfl (q_iload_n c_158_4 rfl (q_aload_n c_158_5 rfl (v_sln 6 c_158_6 rfl (ld_ rfl) (nb_ rfl) (by decide) (by decide) (v_ic_ge_f (t := 31) c_158_9 rfl (by decide) ?_)))))))
  refine q_iload_n c_158_12 rfl (q_iconst c_158_13 (v_ishlc (v := 96) c_158_14 (by decide) (q_aload_n c_158_15 rfl (q_iload_n c_158_16 rfl (v_sch 111 c_158_17 rfl (ld_ rfl) (nb_ rfl) (by decide) (by decide) (by decide) (v_bip c_158_20 (by decide) (v_isub (v := 15) c_158_22 (by decide) ?_)))))))
  refine v_iorc (v := 111) c_158_23 (by decide) (q_istore_n c_158_24 (nb_ rfl) (Wp_ls [(1, vi 111), (2, vi 1), (0, .ref (a_SB + 24))] (lsub_cons rfl (lsub_cons rfl (lsub_cons rfl lsub_nil))) (v_iinc (v := 2) c_158_25 rfl (nb_ rfl) (by decide) (q_goto (t := 4) c_158_28 rfl (q_iload_n c_158_4 rfl (q_aload_n c_158_5 rfl (v_sln 6 c_158_6 rfl (ld_ rfl) (nb_ rfl) (by decide) (by decide) ?_)))))))
  refine v_ic_ge_f (t := 31) c_158_9 rfl (by decide) (q_iload_n c_158_12 rfl (q_iconst c_158_13 (v_ishlc (v := 3552) c_158_14 (by decide) (q_aload_n c_158_15 rfl (q_iload_n c_158_16 rfl (v_sch 97 c_158_17 rfl (ld_ rfl) (nb_ rfl) (by decide) (by decide) (by decide) (v_bip c_158_20 (by decide) ?_)))))))
  refine v_isub (v := 1) c_158_22 (by decide) (v_iorc (v := 3553) c_158_23 (by decide) (q_istore_n c_158_24 (nb_ rfl) (v_iinc (v := 3) c_158_25 rfl (nb_ rfl) (by decide) (q_goto (t := 4) c_158_28 rfl (q_iload_n c_158_4 rfl (q_aload_n c_158_5 rfl (v_sln 6 c_158_6 rfl (ld_ rfl) (nb_ rfl) (by decide) (by decide) ?_)))))))
  refine v_ic_ge_f (t := 31) c_158_9 rfl (by decide) (q_iload_n c_158_12 rfl (q_iconst c_158_13 (v_ishlc (v := 113696) c_158_14 (by decide) (q_aload_n c_158_15 rfl (q_iload_n c_158_16 rfl (v_sch 114 c_158_17 rfl (ld_ rfl) (nb_ rfl) (by decide) (by decide) (by decide) (v_bip c_158_20 (by decide) ?_)))))))
  refine v_isub (v := 18) c_158_22 (by decide) (v_iorc (v := 113714) c_158_23 (by decide) (q_istore_n c_158_24 (nb_ rfl) (v_iinc (v := 4) c_158_25 rfl (nb_ rfl) (by decide) (Wp_ls [(2, vi 4), (1, vi 113714), (0, .ref (a_SB + 24))] (lsub_cons rfl (lsub_cons rfl (lsub_cons rfl lsub_nil))) (q_goto (t := 4) c_158_28 rfl (q_iload_n c_158_4 rfl (q_aload_n c_158_5 rfl ?_)))))))
  refine v_sln 6 c_158_6 rfl (ld_ rfl) (nb_ rfl) (by decide) (by decide) (v_ic_ge_f (t := 31) c_158_9 rfl (by decide) (q_iload_n c_158_12 rfl (q_iconst c_158_13 (v_ishlc (v := 3638848) c_158_14 (by decide) (q_aload_n c_158_15 rfl (q_iload_n c_158_16 rfl (v_sch 115 c_158_17 rfl (ld_ rfl) (nb_ rfl) (by decide) (by decide) (by decide) ?_)))))))
  refine v_bip c_158_20 (by decide) (v_isub (v := 19) c_158_22 (by decide) (v_iorc (v := 3638867) c_158_23 (by decide) (q_istore_n c_158_24 (nb_ rfl) (v_iinc (v := 5) c_158_25 rfl (nb_ rfl) (by decide) (q_goto (t := 4) c_158_28 rfl (q_iload_n c_158_4 rfl (q_aload_n c_158_5 rfl ?_)))))))
  refine v_sln 6 c_158_6 rfl (ld_ rfl) (nb_ rfl) (by decide) (by decide) (v_ic_ge_f (t := 31) c_158_9 rfl (by decide) (q_iload_n c_158_12 rfl (q_iconst c_158_13 (v_ishlc (v := 116443744) c_158_14 (by decide) (q_aload_n c_158_15 rfl (q_iload_n c_158_16 rfl (v_sch 101 c_158_17 rfl (ld_ rfl) (nb_ rfl) (by decide) (by decide) (by decide) ?_)))))))
  refine v_bip c_158_20 (by decide) (v_isub (v := 5) c_158_22 (by decide) (v_iorc (v := 116443749) c_158_23 (by decide) (q_istore_n c_158_24 (nb_ rfl) (v_iinc (v := 6) c_158_25 rfl (nb_ rfl) (by decide) (q_goto (t := 4) c_158_28 rfl (q_iload_n c_158_4 rfl (q_aload_n c_158_5 rfl ?_)))))))
  refine v_sln 6 c_158_6 rfl (ld_ rfl) (nb_ rfl) (by decide) (by decide) (v_ic_ge_t (t := 31) c_158_9 rfl (by decide) (q_iload_n c_158_31 rfl (q_iret c_158_32 rfl ?_)))
  exact K
set_option maxRecDepth 100000 in
set_option maxHeartbeats 4000000 in
theorem s_158_25 {sc : List Int32} {d : Nat} {w : AW} {Z : AR → Prop} (K : Z (.inl (some (vi 284267)), w, 0, 0)) : Wp sc (d + 7) 158 0 [(0, .ref (a_SB + 25))] [] w 0 0 Z := by
  refine q_iconst c_158_0 (q_istore_n c_158_1 (nb_ rfl) (q_iconst c_158_2 (q_istore_n c_158_3 (nb_ rfl) (q_iload_n c_158_4 rfl (q_aload_n c_158_5 rfl (v_sln 4 c_158_6 rfl (ld_ rfl) (nb_ rfl) (by decide) (by decide) (v_ic_ge_f (t := 31) c_158_9 rfl (by decide) ?_)))))))
  refine q_iload_n c_158_12 rfl (q_iconst c_158_13 (v_ishlc (v := 0) c_158_14 (by decide) (q_aload_n c_158_15 rfl (q_iload_n c_158_16 rfl (v_sch 104 c_158_17 rfl (ld_ rfl) (nb_ rfl) (by decide) (by decide) (by decide) (v_bip c_158_20 (by decide) (v_isub (v := 8) c_158_22 (by decide) ?_)))))))
  refine v_iorc (v := 8) c_158_23 (by decide) (q_istore_n c_158_24 (nb_ rfl) (v_iinc (v := 1) c_158_25 rfl (nb_ rfl) (by decide) (q_goto (t := 4) c_158_28 rfl (q_iload_n c_158_4 rfl (q_aload_n c_158_5 rfl (v_sln 4 c_158_6 rfl (ld_ rfl) (nb_ rfl) (by decide) (by decide) (v_ic_ge_f (t := 31) c_158_9 rfl (by decide) ?_)))))))
  refine q_iload_n c_158_12 rfl (q_iconst c_158_13 (v_ishlc (v := 256) c_158_14 (by decide) (q_aload_n c_158_15 rfl (q_iload_n c_158_16 rfl (v_sch 117 c_158_17 rfl (ld_ rfl) (nb_ rfl) (by decide) (by decide) (by decide) (v_bip c_158_20 (by decide) (v_isub (v := 21) c_158_22 (by decide) ?_)))))))
  refine v_iorc (v := 277) c_158_23 (by decide) (q_istore_n c_158_24 (nb_ rfl) (Wp_ls [(1, vi 277), (2, vi 1), (0, .ref (a_SB + 25))] (lsub_cons rfl (lsub_cons rfl (lsub_cons rfl lsub_nil))) (v_iinc (v := 2) c_158_25 rfl (nb_ rfl) (by decide) (q_goto (t := 4) c_158_28 rfl (q_iload_n c_158_4 rfl (q_aload_n c_158_5 rfl (v_sln 4 c_158_6 rfl (ld_ rfl) (nb_ rfl) (by decide) (by decide) ?_)))))))
  refine v_ic_ge_f (t := 31) c_158_9 rfl (by decide) (q_iload_n c_158_12 rfl (q_iconst c_158_13 (v_ishlc (v := 8864) c_158_14 (by decide) (q_aload_n c_158_15 rfl (q_iload_n c_158_16 rfl (v_sch 115 c_158_17 rfl (ld_ rfl) (nb_ rfl) (by decide) (by decide) (by decide) (v_bip c_158_20 (by decide) ?_)))))))
  refine v_isub (v := 19) c_158_22 (by decide) (v_iorc (v := 8883) c_158_23 (by decide) (q_istore_n c_158_24 (nb_ rfl) (v_iinc (v := 3) c_158_25 rfl (nb_ rfl) (by decide) (q_goto (t := 4) c_158_28 rfl (q_iload_n c_158_4 rfl (q_aload_n c_158_5 rfl (v_sln 4 c_158_6 rfl (ld_ rfl) (nb_ rfl) (by decide) (by decide) ?_)))))))
  refine v_ic_ge_f (t := 31) c_158_9 rfl (by decide) (q_iload_n c_158_12 rfl (q_iconst c_158_13 (v_ishlc (v := 284256) c_158_14 (by decide) (q_aload_n c_158_15 rfl (q_iload_n c_158_16 rfl (v_sch 107 c_158_17 rfl (ld_ rfl) (nb_ rfl) (by decide) (by decide) (by decide) (v_bip c_158_20 (by decide) ?_)))))))
  refine v_isub (v := 11) c_158_22 (by decide) (v_iorc (v := 284267) c_158_23 (by decide) (q_istore_n c_158_24 (nb_ rfl) (v_iinc (v := 4) c_158_25 rfl (nb_ rfl) (by decide) (Wp_ls [(2, vi 4), (1, vi 284267), (0, .ref (a_SB + 25))] (lsub_cons rfl (lsub_cons rfl (lsub_cons rfl lsub_nil))) (q_goto (t := 4) c_158_28 rfl (q_iload_n c_158_4 rfl (q_aload_n c_158_5 rfl ?_)))))))
  refine v_sln 4 c_158_6 rfl (ld_ rfl) (nb_ rfl) (by decide) (by decide) (v_ic_ge_t (t := 31) c_158_9 rfl (by decide) (q_iload_n c_158_31 rfl (q_iret c_158_32 rfl ?_)))
  exact K
set_option maxRecDepth 100000 in
set_option maxHeartbeats 4000000 in
theorem s_158_26 {sc : List Int32} {d : Nat} {w : AW} {Z : AR → Prop} (K : Z (.inl (some (vi 1420)), w, 0, 0)) : Wp sc (d + 7) 158 0 [(0, .ref (a_SB + 26))] [] w 0 0 Z := by
  refine q_iconst c_158_0 (q_istore_n c_158_1 (nb_ rfl) (q_iconst c_158_2 (q_istore_n c_158_3 (nb_ rfl) (q_iload_n c_158_4 rfl (q_aload_n c_158_5 rfl (v_sln 3 c_158_6 rfl (ld_ rfl) (nb_ rfl) (by decide) (by decide) (v_ic_ge_f (t := 31) c_158_9 rfl (by decide) ?_)))))))
  refine q_iload_n c_158_12 rfl (q_iconst c_158_13 (v_ishlc (v := 0) c_158_14 (by decide) (q_aload_n c_158_15 rfl (q_iload_n c_158_16 rfl (v_sch 97 c_158_17 rfl (ld_ rfl) (nb_ rfl) (by decide) (by decide) (by decide) (v_bip c_158_20 (by decide) (v_isub (v := 1) c_158_22 (by decide) ?_)))))))
  refine v_iorc (v := 1) c_158_23 (by decide) (q_istore_n c_158_24 (nb_ rfl) (v_iinc (v := 1) c_158_25 rfl (nb_ rfl) (by decide) (q_goto (t := 4) c_158_28 rfl (q_iload_n c_158_4 rfl (q_aload_n c_158_5 rfl (v_sln 3 c_158_6 rfl (ld_ rfl) (nb_ rfl) (by decide) (by decide) (v_ic_ge_f (t := 31) c_158_9 rfl (by decide) ?_)))))))
  refine q_iload_n c_158_12 rfl (q_iconst c_158_13 (v_ishlc (v := 32) c_158_14 (by decide) (q_aload_n c_158_15 rfl (q_iload_n c_158_16 rfl (v_sch 108 c_158_17 rfl (ld_ rfl) (nb_ rfl) (by decide) (by decide) (by decide) (v_bip c_158_20 (by decide) (v_isub (v := 12) c_158_22 (by decide) ?_)))))))
  refine v_iorc (v := 44) c_158_23 (by decide) (q_istore_n c_158_24 (nb_ rfl) (Wp_ls [(1, vi 44), (2, vi 1), (0, .ref (a_SB + 26))] (lsub_cons rfl (lsub_cons rfl (lsub_cons rfl lsub_nil))) (v_iinc (v := 2) c_158_25 rfl (nb_ rfl) (by decide) (q_goto (t := 4) c_158_28 rfl (q_iload_n c_158_4 rfl (q_aload_n c_158_5 rfl (v_sln 3 c_158_6 rfl (ld_ rfl) (nb_ rfl) (by decide) (by decide) ?_)))))))
  refine v_ic_ge_f (t := 31) c_158_9 rfl (by decide) (q_iload_n c_158_12 rfl (q_iconst c_158_13 (v_ishlc (v := 1408) c_158_14 (by decide) (q_aload_n c_158_15 rfl (q_iload_n c_158_16 rfl (v_sch 108 c_158_17 rfl (ld_ rfl) (nb_ rfl) (by decide) (by decide) (by decide) (v_bip c_158_20 (by decide) ?_)))))))
  refine v_isub (v := 12) c_158_22 (by decide) (v_iorc (v := 1420) c_158_23 (by decide) (q_istore_n c_158_24 (nb_ rfl) (v_iinc (v := 3) c_158_25 rfl (nb_ rfl) (by decide) (q_goto (t := 4) c_158_28 rfl (q_iload_n c_158_4 rfl (q_aload_n c_158_5 rfl (v_sln 3 c_158_6 rfl (ld_ rfl) (nb_ rfl) (by decide) (by decide) ?_)))))))
  refine v_ic_ge_t (t := 31) c_158_9 rfl (by decide) (q_iload_n c_158_31 rfl (q_iret c_158_32 rfl ?_))
  exact K
set_option maxRecDepth 100000 in
set_option maxHeartbeats 4000000 in
theorem s_158_27 {sc : List Int32} {d : Nat} {w : AW} {Z : AR → Prop} (K : Z (.inl (some (vi 1253)), w, 0, 0)) : Wp sc (d + 7) 158 0 [(0, .ref (a_SB + 27))] [] w 0 0 Z := by
  refine q_iconst c_158_0 (q_istore_n c_158_1 (nb_ rfl) (q_iconst c_158_2 (q_istore_n c_158_3 (nb_ rfl) (q_iload_n c_158_4 rfl (q_aload_n c_158_5 rfl (v_sln 3 c_158_6 rfl (ld_ rfl) (nb_ rfl) (by decide) (by decide) (v_ic_ge_f (t := 31) c_158_9 rfl (by decide) ?_)))))))
  refine q_iload_n c_158_12 rfl (q_iconst c_158_13 (v_ishlc (v := 0) c_158_14 (by decide) (q_aload_n c_158_15 rfl (q_iload_n c_158_16 rfl (v_sch 97 c_158_17 rfl (ld_ rfl) (nb_ rfl) (by decide) (by decide) (by decide) (v_bip c_158_20 (by decide) (v_isub (v := 1) c_158_22 (by decide) ?_)))))))
  refine v_iorc (v := 1) c_158_23 (by decide) (q_istore_n c_158_24 (nb_ rfl) (v_iinc (v := 1) c_158_25 rfl (nb_ rfl) (by decide) (q_goto (t := 4) c_158_28 rfl (q_iload_n c_158_4 rfl (q_aload_n c_158_5 rfl (v_sln 3 c_158_6 rfl (ld_ rfl) (nb_ rfl) (by decide) (by decide) (v_ic_ge_f (t := 31) c_158_9 rfl (by decide) ?_)))))))
  refine q_iload_n c_158_12 rfl (q_iconst c_158_13 (v_ishlc (v := 32) c_158_14 (by decide) (q_aload_n c_158_15 rfl (q_iload_n c_158_16 rfl (v_sch 103 c_158_17 rfl (ld_ rfl) (nb_ rfl) (by decide) (by decide) (by decide) (v_bip c_158_20 (by decide) (v_isub (v := 7) c_158_22 (by decide) ?_)))))))
  refine v_iorc (v := 39) c_158_23 (by decide) (q_istore_n c_158_24 (nb_ rfl) (Wp_ls [(1, vi 39), (2, vi 1), (0, .ref (a_SB + 27))] (lsub_cons rfl (lsub_cons rfl (lsub_cons rfl lsub_nil))) (v_iinc (v := 2) c_158_25 rfl (nb_ rfl) (by decide) (q_goto (t := 4) c_158_28 rfl (q_iload_n c_158_4 rfl (q_aload_n c_158_5 rfl (v_sln 3 c_158_6 rfl (ld_ rfl) (nb_ rfl) (by decide) (by decide) ?_)))))))
  refine v_ic_ge_f (t := 31) c_158_9 rfl (by decide) (q_iload_n c_158_12 rfl (q_iconst c_158_13 (v_ishlc (v := 1248) c_158_14 (by decide) (q_aload_n c_158_15 rfl (q_iload_n c_158_16 rfl (v_sch 101 c_158_17 rfl (ld_ rfl) (nb_ rfl) (by decide) (by decide) (by decide) (v_bip c_158_20 (by decide) ?_)))))))
  refine v_isub (v := 5) c_158_22 (by decide) (v_iorc (v := 1253) c_158_23 (by decide) (q_istore_n c_158_24 (nb_ rfl) (v_iinc (v := 3) c_158_25 rfl (nb_ rfl) (by decide) (q_goto (t := 4) c_158_28 rfl (q_iload_n c_158_4 rfl (q_aload_n c_158_5 rfl (v_sln 3 c_158_6 rfl (ld_ rfl) (nb_ rfl) (by decide) (by decide) ?_)))))))
  refine v_ic_ge_t (t := 31) c_158_9 rfl (by decide) (q_iload_n c_158_31 rfl (q_iret c_158_32 rfl ?_))
  exact K
set_option maxRecDepth 100000 in
set_option maxHeartbeats 4000000 in
theorem s_158_28 {sc : List Int32} {d : Nat} {w : AW} {Z : AR → Prop} (K : Z (.inl (some (vi 4153)), w, 0, 0)) : Wp sc (d + 7) 158 0 [(0, .ref (a_SB + 28))] [] w 0 0 Z := by
  refine q_iconst c_158_0 (q_istore_n c_158_1 (nb_ rfl) (q_iconst c_158_2 (q_istore_n c_158_3 (nb_ rfl) (q_iload_n c_158_4 rfl (q_aload_n c_158_5 rfl (v_sln 3 c_158_6 rfl (ld_ rfl) (nb_ rfl) (by decide) (by decide) (v_ic_ge_f (t := 31) c_158_9 rfl (by decide) ?_)))))))
  refine q_iload_n c_158_12 rfl (q_iconst c_158_13 (v_ishlc (v := 0) c_158_14 (by decide) (q_aload_n c_158_15 rfl (q_iload_n c_158_16 rfl (v_sch 100 c_158_17 rfl (ld_ rfl) (nb_ rfl) (by decide) (by decide) (by decide) (v_bip c_158_20 (by decide) (v_isub (v := 4) c_158_22 (by decide) ?_)))))))
  refine v_iorc (v := 4) c_158_23 (by decide) (q_istore_n c_158_24 (nb_ rfl) (v_iinc (v := 1) c_158_25 rfl (nb_ rfl) (by decide) (q_goto (t := 4) c_158_28 rfl (q_iload_n c_158_4 rfl (q_aload_n c_158_5 rfl (v_sln 3 c_158_6 rfl (ld_ rfl) (nb_ rfl) (by decide) (by decide) (v_ic_ge_f (t := 31) c_158_9 rfl (by decide) ?_)))))))
  refine q_iload_n c_158_12 rfl (q_iconst c_158_13 (v_ishlc (v := 128) c_158_14 (by decide) (q_aload_n c_158_15 rfl (q_iload_n c_158_16 rfl (v_sch 97 c_158_17 rfl (ld_ rfl) (nb_ rfl) (by decide) (by decide) (by decide) (v_bip c_158_20 (by decide) (v_isub (v := 1) c_158_22 (by decide) ?_)))))))
  refine v_iorc (v := 129) c_158_23 (by decide) (q_istore_n c_158_24 (nb_ rfl) (Wp_ls [(1, vi 129), (2, vi 1), (0, .ref (a_SB + 28))] (lsub_cons rfl (lsub_cons rfl (lsub_cons rfl lsub_nil))) (v_iinc (v := 2) c_158_25 rfl (nb_ rfl) (by decide) (q_goto (t := 4) c_158_28 rfl (q_iload_n c_158_4 rfl (q_aload_n c_158_5 rfl (v_sln 3 c_158_6 rfl (ld_ rfl) (nb_ rfl) (by decide) (by decide) ?_)))))))
  refine v_ic_ge_f (t := 31) c_158_9 rfl (by decide) (q_iload_n c_158_12 rfl (q_iconst c_158_13 (v_ishlc (v := 4128) c_158_14 (by decide) (q_aload_n c_158_15 rfl (q_iload_n c_158_16 rfl (v_sch 121 c_158_17 rfl (ld_ rfl) (nb_ rfl) (by decide) (by decide) (by decide) (v_bip c_158_20 (by decide) ?_)))))))
  refine v_isub (v := 25) c_158_22 (by decide) (v_iorc (v := 4153) c_158_23 (by decide) (q_istore_n c_158_24 (nb_ rfl) (v_iinc (v := 3) c_158_25 rfl (nb_ rfl) (by decide) (q_goto (t := 4) c_158_28 rfl (q_iload_n c_158_4 rfl (q_aload_n c_158_5 rfl (v_sln 3 c_158_6 rfl (ld_ rfl) (nb_ rfl) (by decide) (by decide) ?_)))))))
  refine v_ic_ge_t (t := 31) c_158_9 rfl (by decide) (q_iload_n c_158_31 rfl (q_iret c_158_32 rfl ?_))
  exact K
set_option maxRecDepth 100000 in
set_option maxHeartbeats 4000000 in
theorem s_158_29 {sc : List Int32} {d : Nat} {w : AW} {Z : AR → Prop} (K : Z (.inl (some (vi 7939524)), w, 0, 0)) : Wp sc (d + 7) 158 0 [(0, .ref (a_SB + 29))] [] w 0 0 Z := by
  refine q_iconst c_158_0 (q_istore_n c_158_1 (nb_ rfl) (q_iconst c_158_2 (q_istore_n c_158_3 (nb_ rfl) (q_iload_n c_158_4 rfl (q_aload_n c_158_5 rfl (v_sln 5 c_158_6 rfl (ld_ rfl) (nb_ rfl) (by decide) (by decide) (v_ic_ge_f (t := 31) c_158_9 rfl (by decide) ?_)))))))
  refine q_iload_n c_158_12 rfl (q_iconst c_158_13 (v_ishlc (v := 0) c_158_14 (by decide) (q_aload_n c_158_15 rfl (q_iload_n c_158_16 rfl (v_sch 103 c_158_17 rfl (ld_ rfl) (nb_ rfl) (by decide) (by decide) (by decide) (v_bip c_158_20 (by decide) (v_isub (v := 7) c_158_22 (by decide) ?_)))))))
  refine v_iorc (v := 7) c_158_23 (by decide) (q_istore_n c_158_24 (nb_ rfl) (v_iinc (v := 1) c_158_25 rfl (nb_ rfl) (by decide) (q_goto (t := 4) c_158_28 rfl (q_iload_n c_158_4 rfl (q_aload_n c_158_5 rfl (v_sln 5 c_158_6 rfl (ld_ rfl) (nb_ rfl) (by decide) (by decide) (v_ic_ge_f (t := 31) c_158_9 rfl (by decide) ?_)))))))
  refine q_iload_n c_158_12 rfl (q_iconst c_158_13 (v_ishlc (v := 224) c_158_14 (by decide) (q_aload_n c_158_15 rfl (q_iload_n c_158_16 rfl (v_sch 114 c_158_17 rfl (ld_ rfl) (nb_ rfl) (by decide) (by decide) (by decide) (v_bip c_158_20 (by decide) (v_isub (v := 18) c_158_22 (by decide) ?_)))))))
  refine v_iorc (v := 242) c_158_23 (by decide) (q_istore_n c_158_24 (nb_ rfl) (Wp_ls [(1, vi 242), (2, vi 1), (0, .ref (a_SB + 29))] (lsub_cons rfl (lsub_cons rfl (lsub_cons rfl lsub_nil))) (v_iinc (v := 2) c_158_25 rfl (nb_ rfl) (by decide) (q_goto (t := 4) c_158_28 rfl (q_iload_n c_158_4 rfl (q_aload_n c_158_5 rfl (v_sln 5 c_158_6 rfl (ld_ rfl) (nb_ rfl) (by decide) (by decide) ?_)))))))
  refine v_ic_ge_f (t := 31) c_158_9 rfl (by decide) (q_iload_n c_158_12 rfl (q_iconst c_158_13 (v_ishlc (v := 7744) c_158_14 (by decide) (q_aload_n c_158_15 rfl (q_iload_n c_158_16 rfl (v_sch 105 c_158_17 rfl (ld_ rfl) (nb_ rfl) (by decide) (by decide) (by decide) (v_bip c_158_20 (by decide) ?_)))))))
  refine v_isub (v := 9) c_158_22 (by decide) (v_iorc (v := 7753) c_158_23 (by decide) (q_istore_n c_158_24 (nb_ rfl) (v_iinc (v := 3) c_158_25 rfl (nb_ rfl) (by decide) (q_goto (t := 4) c_158_28 rfl (q_iload_n c_158_4 rfl (q_aload_n c_158_5 rfl (v_sln 5 c_158_6 rfl (ld_ rfl) (nb_ rfl) (by decide) (by decide) ?_)))))))
  refine v_ic_ge_f (t := 31) c_158_9 rfl (by decide) (q_iload_n c_158_12 rfl (q_iconst c_158_13 (v_ishlc (v := 248096) c_158_14 (by decide) (q_aload_n c_158_15 rfl (q_iload_n c_158_16 rfl (v_sch 110 c_158_17 rfl (ld_ rfl) (nb_ rfl) (by decide) (by decide) (by decide) (v_bip c_158_20 (by decide) ?_)))))))
  refine v_isub (v := 14) c_158_22 (by decide) (v_iorc (v := 248110) c_158_23 (by decide) (q_istore_n c_158_24 (nb_ rfl) (v_iinc (v := 4) c_158_25 rfl (nb_ rfl) (by decide) (Wp_ls [(2, vi 4), (1, vi 248110), (0, .ref (a_SB + 29))] (lsub_cons rfl (lsub_cons rfl (lsub_cons rfl lsub_nil))) (q_goto (t := 4) c_158_28 rfl (q_iload_n c_158_4 rfl (q_aload_n c_158_5 rfl ?_)))))))
  refine v_sln 5 c_158_6 rfl (ld_ rfl) (nb_ rfl) (by decide) (by decide) (v_ic_ge_f (t := 31) c_158_9 rfl (by decide) (q_iload_n c_158_12 rfl (q_iconst c_158_13 (v_ishlc (v := 7939520) c_158_14 (by decide) (q_aload_n c_158_15 rfl (q_iload_n c_158_16 rfl (v_sch 100 c_158_17 rfl (ld_ rfl) (nb_ rfl) (by decide) (by decide) (by decide) ?_)))))))
  refine v_bip c_158_20 (by decide) (v_isub (v := 4) c_158_22 (by decide) (v_iorc (v := 7939524) c_158_23 (by decide) (q_istore_n c_158_24 (nb_ rfl) (v_iinc (v := 5) c_158_25 rfl (nb_ rfl) (by decide) (q_goto (t := 4) c_158_28 rfl (q_iload_n c_158_4 rfl (q_aload_n c_158_5 rfl ?_)))))))
  refine v_sln 5 c_158_6 rfl (ld_ rfl) (nb_ rfl) (by decide) (by decide) (v_ic_ge_t (t := 31) c_158_9 rfl (by decide) (q_iload_n c_158_31 rfl (q_iret c_158_32 rfl ?_)))
  exact K
set_option maxRecDepth 100000 in
set_option maxHeartbeats 4000000 in
theorem s_158_30 {sc : List Int32} {d : Nat} {w : AW} {Z : AR → Prop} (K : Z (.inl (some (vi 632020)), w, 0, 0)) : Wp sc (d + 7) 158 0 [(0, .ref (a_SB + 30))] [] w 0 0 Z := by
  refine q_iconst c_158_0 (q_istore_n c_158_1 (nb_ rfl) (q_iconst c_158_2 (q_istore_n c_158_3 (nb_ rfl) (q_iload_n c_158_4 rfl (q_aload_n c_158_5 rfl (v_sln 4 c_158_6 rfl (ld_ rfl) (nb_ rfl) (by decide) (by decide) (v_ic_ge_f (t := 31) c_158_9 rfl (by decide) ?_)))))))
  refine q_iload_n c_158_12 rfl (q_iconst c_158_13 (v_ishlc (v := 0) c_158_14 (by decide) (q_aload_n c_158_15 rfl (q_iload_n c_158_16 rfl (v_sch 115 c_158_17 rfl (ld_ rfl) (nb_ rfl) (by decide) (by decide) (by decide) (v_bip c_158_20 (by decide) (v_isub (v := 19) c_158_22 (by decide) ?_)))))))
  refine v_iorc (v := 19) c_158_23 (by decide) (q_istore_n c_158_24 (nb_ rfl) (v_iinc (v := 1) c_158_25 rfl (nb_ rfl) (by decide) (q_goto (t := 4) c_158_28 rfl (q_iload_n c_158_4 rfl (q_aload_n c_158_5 rfl (v_sln 4 c_158_6 rfl (ld_ rfl) (nb_ rfl) (by decide) (by decide) (v_ic_ge_f (t := 31) c_158_9 rfl (by decide) ?_)))))))
  refine q_iload_n c_158_12 rfl (q_iconst c_158_13 (v_ishlc (v := 608) c_158_14 (by decide) (q_aload_n c_158_15 rfl (q_iload_n c_158_16 rfl (v_sch 105 c_158_17 rfl (ld_ rfl) (nb_ rfl) (by decide) (by decide) (by decide) (v_bip c_158_20 (by decide) (v_isub (v := 9) c_158_22 (by decide) ?_)))))))
  refine v_iorc (v := 617) c_158_23 (by decide) (q_istore_n c_158_24 (nb_ rfl) (Wp_ls [(1, vi 617), (2, vi 1), (0, .ref (a_SB + 30))] (lsub_cons rfl (lsub_cons rfl (lsub_cons rfl lsub_nil))) (v_iinc (v := 2) c_158_25 rfl (nb_ rfl) (by decide) (q_goto (t := 4) c_158_28 rfl (q_iload_n c_158_4 rfl (q_aload_n c_158_5 rfl (v_sln 4 c_158_6 rfl (ld_ rfl) (nb_ rfl) (by decide) (by decide) ?_)))))))
  refine v_ic_ge_f (t := 31) c_158_9 rfl (by decide) (q_iload_n c_158_12 rfl (q_iconst c_158_13 (v_ishlc (v := 19744) c_158_14 (by decide) (q_aload_n c_158_15 rfl (q_iload_n c_158_16 rfl (v_sch 102 c_158_17 rfl (ld_ rfl) (nb_ rfl) (by decide) (by decide) (by decide) (v_bip c_158_20 (by decide) ?_)))))))
  refine v_isub (v := 6) c_158_22 (by decide) (v_iorc (v := 19750) c_158_23 (by decide) (q_istore_n c_158_24 (nb_ rfl) (v_iinc (v := 3) c_158_25 rfl (nb_ rfl) (by decide) (q_goto (t := 4) c_158_28 rfl (q_iload_n c_158_4 rfl (q_aload_n c_158_5 rfl (v_sln 4 c_158_6 rfl (ld_ rfl) (nb_ rfl) (by decide) (by decide) ?_)))))))
  refine v_ic_ge_f (t := 31) c_158_9 rfl (by decide) (q_iload_n c_158_12 rfl (q_iconst c_158_13 (v_ishlc (v := 632000) c_158_14 (by decide) (q_aload_n c_158_15 rfl (q_iload_n c_158_16 rfl (v_sch 116 c_158_17 rfl (ld_ rfl) (nb_ rfl) (by decide) (by decide) (by decide) (v_bip c_158_20 (by decide) ?_)))))))
  refine v_isub (v := 20) c_158_22 (by decide) (v_iorc (v := 632020) c_158_23 (by decide) (q_istore_n c_158_24 (nb_ rfl) (v_iinc (v := 4) c_158_25 rfl (nb_ rfl) (by decide) (Wp_ls [(2, vi 4), (1, vi 632020), (0, .ref (a_SB + 30))] (lsub_cons rfl (lsub_cons rfl (lsub_cons rfl lsub_nil))) (q_goto (t := 4) c_158_28 rfl (q_iload_n c_158_4 rfl (q_aload_n c_158_5 rfl ?_)))))))
  refine v_sln 4 c_158_6 rfl (ld_ rfl) (nb_ rfl) (by decide) (by decide) (v_ic_ge_t (t := 31) c_158_9 rfl (by decide) (q_iload_n c_158_31 rfl (q_iret c_158_32 rfl ?_)))
  exact K
set_option maxRecDepth 100000 in
set_option maxHeartbeats 4000000 in
theorem s_158_31 {sc : List Int32} {d : Nat} {w : AW} {Z : AR → Prop} (K : Z (.inl (some (vi 540338)), w, 0, 0)) : Wp sc (d + 7) 158 0 [(0, .ref (a_SB + 31))] [] w 0 0 Z := by
  refine q_iconst c_158_0 (q_istore_n c_158_1 (nb_ rfl) (q_iconst c_158_2 (q_istore_n c_158_3 (nb_ rfl) (q_iload_n c_158_4 rfl (q_aload_n c_158_5 rfl (v_sln 4 c_158_6 rfl (ld_ rfl) (nb_ rfl) (by decide) (by decide) (v_ic_ge_f (t := 31) c_158_9 rfl (by decide) ?_)))))))
  refine q_iload_n c_158_12 rfl (q_iconst c_158_13 (v_ishlc (v := 0) c_158_14 (by decide) (q_aload_n c_158_15 rfl (q_iload_n c_158_16 rfl (v_sch 112 c_158_17 rfl (ld_ rfl) (nb_ rfl) (by decide) (by decide) (by decide) (v_bip c_158_20 (by decide) (v_isub (v := 16) c_158_22 (by decide) ?_)))))))
  refine v_iorc (v := 16) c_158_23 (by decide) (q_istore_n c_158_24 (nb_ rfl) (v_iinc (v := 1) c_158_25 rfl (nb_ rfl) (by decide) (q_goto (t := 4) c_158_28 rfl (q_iload_n c_158_4 rfl (q_aload_n c_158_5 rfl (v_sln 4 c_158_6 rfl (ld_ rfl) (nb_ rfl) (by decide) (by decide) (v_ic_ge_f (t := 31) c_158_9 rfl (by decide) ?_)))))))
  refine q_iload_n c_158_12 rfl (q_iconst c_158_13 (v_ishlc (v := 512) c_158_14 (by decide) (q_aload_n c_158_15 rfl (q_iload_n c_158_16 rfl (v_sch 111 c_158_17 rfl (ld_ rfl) (nb_ rfl) (by decide) (by decide) (by decide) (v_bip c_158_20 (by decide) (v_isub (v := 15) c_158_22 (by decide) ?_)))))))
  refine v_iorc (v := 527) c_158_23 (by decide) (q_istore_n c_158_24 (nb_ rfl) (Wp_ls [(1, vi 527), (2, vi 1), (0, .ref (a_SB + 31))] (lsub_cons rfl (lsub_cons rfl (lsub_cons rfl lsub_nil))) (v_iinc (v := 2) c_158_25 rfl (nb_ rfl) (by decide) (q_goto (t := 4) c_158_28 rfl (q_iload_n c_158_4 rfl (q_aload_n c_158_5 rfl (v_sln 4 c_158_6 rfl (ld_ rfl) (nb_ rfl) (by decide) (by decide) ?_)))))))
  refine v_ic_ge_f (t := 31) c_158_9 rfl (by decide) (q_iload_n c_158_12 rfl (q_iconst c_158_13 (v_ishlc (v := 16864) c_158_14 (by decide) (q_aload_n c_158_15 rfl (q_iload_n c_158_16 rfl (v_sch 117 c_158_17 rfl (ld_ rfl) (nb_ rfl) (by decide) (by decide) (by decide) (v_bip c_158_20 (by decide) ?_)))))))
  refine v_isub (v := 21) c_158_22 (by decide) (v_iorc (v := 16885) c_158_23 (by decide) (q_istore_n c_158_24 (nb_ rfl) (v_iinc (v := 3) c_158_25 rfl (nb_ rfl) (by decide) (q_goto (t := 4) c_158_28 rfl (q_iload_n c_158_4 rfl (q_aload_n c_158_5 rfl (v_sln 4 c_158_6 rfl (ld_ rfl) (nb_ rfl) (by decide) (by decide) ?_)))))))
  refine v_ic_ge_f (t := 31) c_158_9 rfl (by decide) (q_iload_n c_158_12 rfl (q_iconst c_158_13 (v_ishlc (v := 540320) c_158_14 (by decide) (q_aload_n c_158_15 rfl (q_iload_n c_158_16 rfl (v_sch 114 c_158_17 rfl (ld_ rfl) (nb_ rfl) (by decide) (by decide) (by decide) (v_bip c_158_20 (by decide) ?_)))))))
  refine v_isub (v := 18) c_158_22 (by decide) (v_iorc (v := 540338) c_158_23 (by decide) (q_istore_n c_158_24 (nb_ rfl) (v_iinc (v := 4) c_158_25 rfl (nb_ rfl) (by decide) (Wp_ls [(2, vi 4), (1, vi 540338), (0, .ref (a_SB + 31))] (lsub_cons rfl (lsub_cons rfl (lsub_cons rfl lsub_nil))) (q_goto (t := 4) c_158_28 rfl (q_iload_n c_158_4 rfl (q_aload_n c_158_5 rfl ?_)))))))
  refine v_sln 4 c_158_6 rfl (ld_ rfl) (nb_ rfl) (by decide) (by decide) (v_ic_ge_t (t := 31) c_158_9 rfl (by decide) (q_iload_n c_158_31 rfl (q_iret c_158_32 rfl ?_)))
  exact K
set_option maxRecDepth 100000 in
set_option maxHeartbeats 4000000 in
theorem s_158_32 {sc : List Int32} {d : Nat} {w : AW} {Z : AR → Prop} (K : Z (.inl (some (vi 20037104)), w, 0, 0)) : Wp sc (d + 7) 158 0 [(0, .ref (a_SB + 32))] [] w 0 0 Z := by
  refine q_iconst c_158_0 (q_istore_n c_158_1 (nb_ rfl) (q_iconst c_158_2 (q_istore_n c_158_3 (nb_ rfl) (q_iload_n c_158_4 rfl (q_aload_n c_158_5 rfl (v_sln 5 c_158_6 rfl (ld_ rfl) (nb_ rfl) (by decide) (by decide) (v_ic_ge_f (t := 31) c_158_9 rfl (by decide) ?_)))))))
  refine q_iload_n c_158_12 rfl (q_iconst c_158_13 (v_ishlc (v := 0) c_158_14 (by decide) (q_aload_n c_158_15 rfl (q_iload_n c_158_16 rfl (v_sch 115 c_158_17 rfl (ld_ rfl) (nb_ rfl) (by decide) (by decide) (by decide) (v_bip c_158_20 (by decide) (v_isub (v := 19) c_158_22 (by decide) ?_)))))))
  refine v_iorc (v := 19) c_158_23 (by decide) (q_istore_n c_158_24 (nb_ rfl) (v_iinc (v := 1) c_158_25 rfl (nb_ rfl) (by decide) (q_goto (t := 4) c_158_28 rfl (q_iload_n c_158_4 rfl (q_aload_n c_158_5 rfl (v_sln 5 c_158_6 rfl (ld_ rfl) (nb_ rfl) (by decide) (by decide) (v_ic_ge_f (t := 31) c_158_9 rfl (by decide) ?_)))))))
  refine q_iload_n c_158_12 rfl (q_iconst c_158_13 (v_ishlc (v := 608) c_158_14 (by decide) (q_aload_n c_158_15 rfl (q_iload_n c_158_16 rfl (v_sch 99 c_158_17 rfl (ld_ rfl) (nb_ rfl) (by decide) (by decide) (by decide) (v_bip c_158_20 (by decide) (v_isub (v := 3) c_158_22 (by decide) ?_)))))))
  refine v_iorc (v := 611) c_158_23 (by decide) (q_istore_n c_158_24 (nb_ rfl) (Wp_ls [(1, vi 611), (2, vi 1), (0, .ref (a_SB + 32))] (lsub_cons rfl (lsub_cons rfl (lsub_cons rfl lsub_nil))) (v_iinc (v := 2) c_158_25 rfl (nb_ rfl) (by decide) (q_goto (t := 4) c_158_28 rfl (q_iload_n c_158_4 rfl (q_aload_n c_158_5 rfl (v_sln 5 c_158_6 rfl (ld_ rfl) (nb_ rfl) (by decide) (by decide) ?_)))))))
  refine v_ic_ge_f (t := 31) c_158_9 rfl (by decide) (q_iload_n c_158_12 rfl (q_iconst c_158_13 (v_ishlc (v := 19552) c_158_14 (by decide) (q_aload_n c_158_15 rfl (q_iload_n c_158_16 rfl (v_sch 111 c_158_17 rfl (ld_ rfl) (nb_ rfl) (by decide) (by decide) (by decide) (v_bip c_158_20 (by decide) ?_)))))))
  refine v_isub (v := 15) c_158_22 (by decide) (v_iorc (v := 19567) c_158_23 (by decide) (q_istore_n c_158_24 (nb_ rfl) (v_iinc (v := 3) c_158_25 rfl (nb_ rfl) (by decide) (q_goto (t := 4) c_158_28 rfl (q_iload_n c_158_4 rfl (q_aload_n c_158_5 rfl (v_sln 5 c_158_6 rfl (ld_ rfl) (nb_ rfl) (by decide) (by decide) ?_)))))))
  refine v_ic_ge_f (t := 31) c_158_9 rfl (by decide) (q_iload_n c_158_12 rfl (q_iconst c_158_13 (v_ishlc (v := 626144) c_158_14 (by decide) (q_aload_n c_158_15 rfl (q_iload_n c_158_16 rfl (v_sch 111 c_158_17 rfl (ld_ rfl) (nb_ rfl) (by decide) (by decide) (by decide) (v_bip c_158_20 (by decide) ?_)))))))
  refine v_isub (v := 15) c_158_22 (by decide) (v_iorc (v := 626159) c_158_23 (by decide) (q_istore_n c_158_24 (nb_ rfl) (v_iinc (v := 4) c_158_25 rfl (nb_ rfl) (by decide) (Wp_ls [(2, vi 4), (1, vi 626159), (0, .ref (a_SB + 32))] (lsub_cons rfl (lsub_cons rfl (lsub_cons rfl lsub_nil))) (q_goto (t := 4) c_158_28 rfl (q_iload_n c_158_4 rfl (q_aload_n c_158_5 rfl ?_)))))))
  refine v_sln 5 c_158_6 rfl (ld_ rfl) (nb_ rfl) (by decide) (by decide) (v_ic_ge_f (t := 31) c_158_9 rfl (by decide) (q_iload_n c_158_12 rfl (q_iconst c_158_13 (v_ishlc (v := 20037088) c_158_14 (by decide) (q_aload_n c_158_15 rfl (q_iload_n c_158_16 rfl (v_sch 112 c_158_17 rfl (ld_ rfl) (nb_ rfl) (by decide) (by decide) (by decide) ?_)))))))
  refine v_bip c_158_20 (by decide) (v_isub (v := 16) c_158_22 (by decide) (v_iorc (v := 20037104) c_158_23 (by decide) (q_istore_n c_158_24 (nb_ rfl) (v_iinc (v := 5) c_158_25 rfl (nb_ rfl) (by decide) (q_goto (t := 4) c_158_28 rfl (q_iload_n c_158_4 rfl (q_aload_n c_158_5 rfl ?_)))))))
  refine v_sln 5 c_158_6 rfl (ld_ rfl) (nb_ rfl) (by decide) (by decide) (v_ic_ge_t (t := 31) c_158_9 rfl (by decide) (q_iload_n c_158_31 rfl (q_iret c_158_32 rfl ?_)))
  exact K
set_option maxRecDepth 100000 in
set_option maxHeartbeats 4000000 in
theorem s_158_33 {sc : List Int32} {d : Nat} {w : AW} {Z : AR → Prop} (K : Z (.inl (some (vi 660530)), w, 0, 0)) : Wp sc (d + 7) 158 0 [(0, .ref (a_SB + 33))] [] w 0 0 Z := by
  refine q_iconst c_158_0 (q_istore_n c_158_1 (nb_ rfl) (q_iconst c_158_2 (q_istore_n c_158_3 (nb_ rfl) (q_iload_n c_158_4 rfl (q_aload_n c_158_5 rfl (v_sln 4 c_158_6 rfl (ld_ rfl) (nb_ rfl) (by decide) (by decide) (v_ic_ge_f (t := 31) c_158_9 rfl (by decide) ?_)))))))
  refine q_iload_n c_158_12 rfl (q_iconst c_158_13 (v_ishlc (v := 0) c_158_14 (by decide) (q_aload_n c_158_15 rfl (q_iload_n c_158_16 rfl (v_sch 116 c_158_17 rfl (ld_ rfl) (nb_ rfl) (by decide) (by decide) (by decide) (v_bip c_158_20 (by decide) (v_isub (v := 20) c_158_22 (by decide) ?_)))))))
  refine v_iorc (v := 20) c_158_23 (by decide) (q_istore_n c_158_24 (nb_ rfl) (v_iinc (v := 1) c_158_25 rfl (nb_ rfl) (by decide) (q_goto (t := 4) c_158_28 rfl (q_iload_n c_158_4 rfl (q_aload_n c_158_5 rfl (v_sln 4 c_158_6 rfl (ld_ rfl) (nb_ rfl) (by decide) (by decide) (v_ic_ge_f (t := 31) c_158_9 rfl (by decide) ?_)))))))
  refine q_iload_n c_158_12 rfl (q_iconst c_158_13 (v_ishlc (v := 640) c_158_14 (by decide) (q_aload_n c_158_15 rfl (q_iload_n c_158_16 rfl (v_sch 101 c_158_17 rfl (ld_ rfl) (nb_ rfl) (by decide) (by decide) (by decide) (v_bip c_158_20 (by decide) (v_isub (v := 5) c_158_22 (by decide) ?_)))))))
  refine v_iorc (v := 645) c_158_23 (by decide) (q_istore_n c_158_24 (nb_ rfl) (Wp_ls [(1, vi 645), (2, vi 1), (0, .ref (a_SB + 33))] (lsub_cons rfl (lsub_cons rfl (lsub_cons rfl lsub_nil))) (v_iinc (v := 2) c_158_25 rfl (nb_ rfl) (by decide) (q_goto (t := 4) c_158_28 rfl (q_iload_n c_158_4 rfl (q_aload_n c_158_5 rfl (v_sln 4 c_158_6 rfl (ld_ rfl) (nb_ rfl) (by decide) (by decide) ?_)))))))
  refine v_ic_ge_f (t := 31) c_158_9 rfl (by decide) (q_iload_n c_158_12 rfl (q_iconst c_158_13 (v_ishlc (v := 20640) c_158_14 (by decide) (q_aload_n c_158_15 rfl (q_iload_n c_158_16 rfl (v_sch 97 c_158_17 rfl (ld_ rfl) (nb_ rfl) (by decide) (by decide) (by decide) (v_bip c_158_20 (by decide) ?_)))))))
  refine v_isub (v := 1) c_158_22 (by decide) (v_iorc (v := 20641) c_158_23 (by decide) (q_istore_n c_158_24 (nb_ rfl) (v_iinc (v := 3) c_158_25 rfl (nb_ rfl) (by decide) (q_goto (t := 4) c_158_28 rfl (q_iload_n c_158_4 rfl (q_aload_n c_158_5 rfl (v_sln 4 c_158_6 rfl (ld_ rfl) (nb_ rfl) (by decide) (by decide) ?_)))))))
  refine v_ic_ge_f (t := 31) c_158_9 rfl (by decide) (q_iload_n c_158_12 rfl (q_iconst c_158_13 (v_ishlc (v := 660512) c_158_14 (by decide) (q_aload_n c_158_15 rfl (q_iload_n c_158_16 rfl (v_sch 114 c_158_17 rfl (ld_ rfl) (nb_ rfl) (by decide) (by decide) (by decide) (v_bip c_158_20 (by decide) ?_)))))))
  refine v_isub (v := 18) c_158_22 (by decide) (v_iorc (v := 660530) c_158_23 (by decide) (q_istore_n c_158_24 (nb_ rfl) (v_iinc (v := 4) c_158_25 rfl (nb_ rfl) (by decide) (Wp_ls [(2, vi 4), (1, vi 660530), (0, .ref (a_SB + 33))] (lsub_cons rfl (lsub_cons rfl (lsub_cons rfl lsub_nil))) (q_goto (t := 4) c_158_28 rfl (q_iload_n c_158_4 rfl (q_aload_n c_158_5 rfl ?_)))))))
  refine v_sln 4 c_158_6 rfl (ld_ rfl) (nb_ rfl) (by decide) (by decide) (v_ic_ge_t (t := 31) c_158_9 rfl (by decide) (q_iload_n c_158_31 rfl (q_iret c_158_32 rfl ?_)))
  exact K
set_option maxRecDepth 100000 in
set_option maxHeartbeats 4000000 in
theorem s_158_34 {sc : List Int32} {d : Nat} {w : AW} {Z : AR → Prop} (K : Z (.inl (some (vi 628108)), w, 0, 0)) : Wp sc (d + 7) 158 0 [(0, .ref (a_SB + 34))] [] w 0 0 Z := by
  refine q_iconst c_158_0 (q_istore_n c_158_1 (nb_ rfl) (q_iconst c_158_2 (q_istore_n c_158_3 (nb_ rfl) (q_iload_n c_158_4 rfl (q_aload_n c_158_5 rfl (v_sln 4 c_158_6 rfl (ld_ rfl) (nb_ rfl) (by decide) (by decide) (v_ic_ge_f (t := 31) c_158_9 rfl (by decide) ?_)))))))
  refine q_iload_n c_158_12 rfl (q_iconst c_158_13 (v_ishlc (v := 0) c_158_14 (by decide) (q_aload_n c_158_15 rfl (q_iload_n c_158_16 rfl (v_sch 115 c_158_17 rfl (ld_ rfl) (nb_ rfl) (by decide) (by decide) (by decide) (v_bip c_158_20 (by decide) (v_isub (v := 19) c_158_22 (by decide) ?_)))))))
  refine v_iorc (v := 19) c_158_23 (by decide) (q_istore_n c_158_24 (nb_ rfl) (v_iinc (v := 1) c_158_25 rfl (nb_ rfl) (by decide) (q_goto (t := 4) c_158_28 rfl (q_iload_n c_158_4 rfl (q_aload_n c_158_5 rfl (v_sln 4 c_158_6 rfl (ld_ rfl) (nb_ rfl) (by decide) (by decide) (v_ic_ge_f (t := 31) c_158_9 rfl (by decide) ?_)))))))
  refine q_iload_n c_158_12 rfl (q_iconst c_158_13 (v_ishlc (v := 608) c_158_14 (by decide) (q_aload_n c_158_15 rfl (q_iload_n c_158_16 rfl (v_sch 101 c_158_17 rfl (ld_ rfl) (nb_ rfl) (by decide) (by decide) (by decide) (v_bip c_158_20 (by decide) (v_isub (v := 5) c_158_22 (by decide) ?_)))))))
  refine v_iorc (v := 613) c_158_23 (by decide) (q_istore_n c_158_24 (nb_ rfl) (Wp_ls [(1, vi 613), (2, vi 1), (0, .ref (a_SB + 34))] (lsub_cons rfl (lsub_cons rfl (lsub_cons rfl lsub_nil))) (v_iinc (v := 2) c_158_25 rfl (nb_ rfl) (by decide) (q_goto (t := 4) c_158_28 rfl (q_iload_n c_158_4 rfl (q_aload_n c_158_5 rfl (v_sln 4 c_158_6 rfl (ld_ rfl) (nb_ rfl) (by decide) (by decide) ?_)))))))
  refine v_ic_ge_f (t := 31) c_158_9 rfl (by decide) (q_iload_n c_158_12 rfl (q_iconst c_158_13 (v_ishlc (v := 19616) c_158_14 (by decide) (q_aload_n c_158_15 rfl (q_iload_n c_158_16 rfl (v_sch 108 c_158_17 rfl (ld_ rfl) (nb_ rfl) (by decide) (by decide) (by decide) (v_bip c_158_20 (by decide) ?_)))))))
  refine v_isub (v := 12) c_158_22 (by decide) (v_iorc (v := 19628) c_158_23 (by decide) (q_istore_n c_158_24 (nb_ rfl) (v_iinc (v := 3) c_158_25 rfl (nb_ rfl) (by decide) (q_goto (t := 4) c_158_28 rfl (q_iload_n c_158_4 rfl (q_aload_n c_158_5 rfl (v_sln 4 c_158_6 rfl (ld_ rfl) (nb_ rfl) (by decide) (by decide) ?_)))))))
  refine v_ic_ge_f (t := 31) c_158_9 rfl (by decide) (q_iload_n c_158_12 rfl (q_iconst c_158_13 (v_ishlc (v := 628096) c_158_14 (by decide) (q_aload_n c_158_15 rfl (q_iload_n c_158_16 rfl (v_sch 108 c_158_17 rfl (ld_ rfl) (nb_ rfl) (by decide) (by decide) (by decide) (v_bip c_158_20 (by decide) ?_)))))))
  refine v_isub (v := 12) c_158_22 (by decide) (v_iorc (v := 628108) c_158_23 (by decide) (q_istore_n c_158_24 (nb_ rfl) (v_iinc (v := 4) c_158_25 rfl (nb_ rfl) (by decide) (Wp_ls [(2, vi 4), (1, vi 628108), (0, .ref (a_SB + 34))] (lsub_cons rfl (lsub_cons rfl (lsub_cons rfl lsub_nil))) (q_goto (t := 4) c_158_28 rfl (q_iload_n c_158_4 rfl (q_aload_n c_158_5 rfl ?_)))))))
  refine v_sln 4 c_158_6 rfl (ld_ rfl) (nb_ rfl) (by decide) (by decide) (v_ic_ge_t (t := 31) c_158_9 rfl (by decide) (q_iload_n c_158_31 rfl (q_iret c_158_32 rfl ?_)))
  exact K
set_option maxRecDepth 100000 in
set_option maxHeartbeats 4000000 in
theorem s_158_35 {sc : List Int32} {d : Nat} {w : AW} {Z : AR → Prop} (K : Z (.inl (some (vi 1279278)), w, 0, 0)) : Wp sc (d + 7) 158 0 [(0, .ref (a_SB + 35))] [] w 0 0 Z := by
  refine q_iconst c_158_0 (q_istore_n c_158_1 (nb_ rfl) (q_iconst c_158_2 (q_istore_n c_158_3 (nb_ rfl) (q_iload_n c_158_4 rfl (q_aload_n c_158_5 rfl (v_sln 5 c_158_6 rfl (ld_ rfl) (nb_ rfl) (by decide) (by decide) (v_ic_ge_f (t := 31) c_158_9 rfl (by decide) ?_)))))))
  refine q_iload_n c_158_12 rfl (q_iconst c_158_13 (v_ishlc (v := 0) c_158_14 (by decide) (q_aload_n c_158_15 rfl (q_iload_n c_158_16 rfl (v_sch 97 c_158_17 rfl (ld_ rfl) (nb_ rfl) (by decide) (by decide) (by decide) (v_bip c_158_20 (by decide) (v_isub (v := 1) c_158_22 (by decide) ?_)))))))
  refine v_iorc (v := 1) c_158_23 (by decide) (q_istore_n c_158_24 (nb_ rfl) (v_iinc (v := 1) c_158_25 rfl (nb_ rfl) (by decide) (q_goto (t := 4) c_158_28 rfl (q_iload_n c_158_4 rfl (q_aload_n c_158_5 rfl (v_sln 5 c_158_6 rfl (ld_ rfl) (nb_ rfl) (by decide) (by decide) (v_ic_ge_f (t := 31) c_158_9 rfl (by decide) ?_)))))))
  refine q_iload_n c_158_12 rfl (q_iconst c_158_13 (v_ishlc (v := 32) c_158_14 (by decide) (q_aload_n c_158_15 rfl (q_iload_n c_158_16 rfl (v_sch 103 c_158_17 rfl (ld_ rfl) (nb_ rfl) (by decide) (by decide) (by decide) (v_bip c_158_20 (by decide) (v_isub (v := 7) c_158_22 (by decide) ?_)))))))
  refine v_iorc (v := 39) c_158_23 (by decide) (q_istore_n c_158_24 (nb_ rfl) (Wp_ls [(1, vi 39), (2, vi 1), (0, .ref (a_SB + 35))] (lsub_cons rfl (lsub_cons rfl (lsub_cons rfl lsub_nil))) (v_iinc (v := 2) c_158_25 rfl (nb_ rfl) (by decide) (q_goto (t := 4) c_158_28 rfl (q_iload_n c_158_4 rfl (q_aload_n c_158_5 rfl (v_sln 5 c_158_6 rfl (ld_ rfl) (nb_ rfl) (by decide) (by decide) ?_)))))))
  refine v_ic_ge_f (t := 31) c_158_9 rfl (by decide) (q_iload_n c_158_12 rfl (q_iconst c_158_13 (v_ishlc (v := 1248) c_158_14 (by decide) (q_aload_n c_158_15 rfl (q_iload_n c_158_16 rfl (v_sch 97 c_158_17 rfl (ld_ rfl) (nb_ rfl) (by decide) (by decide) (by decide) (v_bip c_158_20 (by decide) ?_)))))))
  refine v_isub (v := 1) c_158_22 (by decide) (v_iorc (v := 1249) c_158_23 (by decide) (q_istore_n c_158_24 (nb_ rfl) (v_iinc (v := 3) c_158_25 rfl (nb_ rfl) (by decide) (q_goto (t := 4) c_158_28 rfl (q_iload_n c_158_4 rfl (q_aload_n c_158_5 rfl (v_sln 5 c_158_6 rfl (ld_ rfl) (nb_ rfl) (by decide) (by decide) ?_)))))))
  refine v_ic_ge_f (t := 31) c_158_9 rfl (by decide) (q_iload_n c_158_12 rfl (q_iconst c_158_13 (v_ishlc (v := 39968) c_158_14 (by decide) (q_aload_n c_158_15 rfl (q_iload_n c_158_16 rfl (v_sch 105 c_158_17 rfl (ld_ rfl) (nb_ rfl) (by decide) (by decide) (by decide) (v_bip c_158_20 (by decide) ?_)))))))
  refine v_isub (v := 9) c_158_22 (by decide) (v_iorc (v := 39977) c_158_23 (by decide) (q_istore_n c_158_24 (nb_ rfl) (v_iinc (v := 4) c_158_25 rfl (nb_ rfl) (by decide) (Wp_ls [(2, vi 4), (1, vi 39977), (0, .ref (a_SB + 35))] (lsub_cons rfl (lsub_cons rfl (lsub_cons rfl lsub_nil))) (q_goto (t := 4) c_158_28 rfl (q_iload_n c_158_4 rfl (q_aload_n c_158_5 rfl ?_)))))))
  refine v_sln 5 c_158_6 rfl (ld_ rfl) (nb_ rfl) (by decide) (by decide) (v_ic_ge_f (t := 31) c_158_9 rfl (by decide) (q_iload_n c_158_12 rfl (q_iconst c_158_13 (v_ishlc (v := 1279264) c_158_14 (by decide) (q_aload_n c_158_15 rfl (q_iload_n c_158_16 rfl (v_sch 110 c_158_17 rfl (ld_ rfl) (nb_ rfl) (by decide) (by decide) (by decide) ?_)))))))
  refine v_bip c_158_20 (by decide) (v_isub (v := 14) c_158_22 (by decide) (v_iorc (v := 1279278) c_158_23 (by decide) (q_istore_n c_158_24 (nb_ rfl) (v_iinc (v := 5) c_158_25 rfl (nb_ rfl) (by decide) (q_goto (t := 4) c_158_28 rfl (q_iload_n c_158_4 rfl (q_aload_n c_158_5 rfl ?_)))))))
  refine v_sln 5 c_158_6 rfl (ld_ rfl) (nb_ rfl) (by decide) (by decide) (v_ic_ge_t (t := 31) c_158_9 rfl (by decide) (q_iload_n c_158_31 rfl (q_iret c_158_32 rfl ?_)))
  exact K

set_option maxRecDepth 100000 in
set_option maxHeartbeats 4000000 in
theorem s_159_l {sc : List Int32} {e : Int} {d u P Q : Nat} {c : ME} {Z : AR → Prop} (hI : Iv u e P Q c)  (K : ∀ (c2 : ME), Iv u e P Q c2 → (∀ (a : Nat) (j : Int), ¬ ((a = 41 ∧ j = 4)) → c2 a j = c a j) → ((c2 41 4 ≥ c 41 4)) → ((c2 41 4 ≤ c 41 3) ∨ (c2 41 4 = c 41 4)) → ((c 43 (c 41 4) < 97) ∨ (c 43 (c 41 4) > 122) ∨ (c 41 4 ≥ c 41 3) ∨ (c2 41 4 ≥ c 41 4 + 1)) → ((c 43 (c 41 4) < 97) ∨ (c 43 (c 41 4) > 122) ∨ (c 43 (c 41 4 + 1) < 97) ∨ (c 43 (c 41 4 + 1) > 122) ∨ (c 43 (c 41 4 + 2) < 97) ∨ (c 43 (c 41 4 + 2) > 122) ∨ (c 41 4 + 3 > c 41 3) ∨ (c2 41 4 ≥ c 41 4 + 3)) → Z (.inl (none), Wd P Q P P c2, 0, 0)) : ∀ n : Nat, (∀ (c2 : ME), Iv u e P Q c2 → (∀ (a : Nat) (j : Int), ¬ ((a = 41 ∧ j = 4)) → c2 a j = c a j) → ((c2 41 4 ≥ c 41 4)) → ((c2 41 4 ≤ c 41 3) ∨ (c2 41 4 = c 41 4)) → 1211 - 2 * c2 41 4 < (n : Int) → Wp sc (d + 8) 159 0 [(0, .ref 41)] [] (Wd P Q P P c2) 0 0 Z) := by
  intro n
  induction n with
  | zero => exact (by intro c2 hI2 hF hx0 hx1 hm9; have hP := iv_P hI; have hQ := iv_Q hI; have h_31 := ir_41_4 hI2; exfalso; omega)
  | succ n ih =>
    have hP := iv_P hI
    have hQ := iv_Q hI
    intro c2 hI2 hF hx0 hx1 hm9
    have h_1 := ir_41_4 hI
    have h_2 := ir_41_4 hI2
    have h_3 := ir_41_3 hI
    refine q_aload_n c_159_0 rfl (v_gi (z := 4) (v := c2 41 4) c_159_1 kf_8_108 rfl (nb_ rfl) rfl rfl rfl (q_aload_n c_159_4 rfl ?_))
    have kn_4 : Hid (c2 41 3 = c 41 3) := hF 41 3 (fun h => absurd h.2 (ni rfl))
    refine v_gi (z := 3) (v := c 41 3) c_159_5 kf_8_111 rfl (nb_ rfl) rfl rfl (hid kn_4) ?_
    by_cases h_5 : c2 41 4 ≥ c 41 3
    · refine v_ic_ge_t (t := 39) c_159_8 rfl ⟨(Int.le_trans (by decide) h_3.1), h_5, (Int.le_trans h_2.2 (by decide))⟩ (q_vret rfl rfl ?_)
      have h_6 := ir_43 hI (c2 41 4)
      have h_7 := ir_43 hI (c 41 4)
      have h_8 : c2 41 4 = c 41 4 → c 43 (c2 41 4) = c 43 (c 41 4) := fun e9 => congrArg (c 43) e9
      have h_9 := ir_43 hI (c 41 4 + 1)
      have h_10 : c2 41 4 = c 41 4 + 1 → c 43 (c2 41 4) = c 43 (c 41 4 + 1) := fun e9 => congrArg (c 43) e9
      have h_11 := ir_43 hI (c 41 4 + 2)
      have h_12 : c2 41 4 = c 41 4 + 2 → c 43 (c2 41 4) = c 43 (c 41 4 + 2) := fun e9 => congrArg (c 43) e9
      exact K c2 hI2 (fun a j hm => hF a j hm) (by first | (clear h_1 h_2 h_3 h_5 h_6 h_7 h_9 h_11 hx1 h_8 h_10 h_12; omega) | omega) (by omega) (by omega) (by omega)
    · refine v_ic_ge_f (t := 39) c_159_8 rfl ⟨(Int.le_trans (by decide) h_2.1), (Int.not_le.mp h_5), (Int.le_trans h_3.2 (by decide))⟩ (q_aload_n c_159_11 rfl (v_gr (t := 43) c_159_12 kf_8_20 rfl (nb_ rfl) rfl (q_aload_n c_159_15 rfl (v_gi (z := 4) (v := c2 41 4) c_159_16 kf_8_108 rfl (nb_ rfl) rfl rfl rfl ?_))))
      have h_13 := ir_43 hI (c2 41 4)
      have kn_14 : Hid (c2 43 (c2 41 4) = c 43 (c2 41 4)) := hF 43 (c2 41 4) (fun h => absurd h.1 (nn rfl))
      refine v_ia (v := c 43 (c2 41 4)) c_159_19 rfl (by decide) (by decide) ⟨h_2.1, by first | exact q_364416c3d h_3 h_5 | omega⟩ (hid kn_14) (q_call c_159_20 rfl rfl rfl (q_iload_n c_155_0 rfl (v_bip c_155_1 (by decide) ?_)))
      by_cases h_15 : c 43 (c2 41 4) < 97
      · refine v_ic_lt_t (t := 16) c_155_3 rfl ⟨by first | exact q_cc1935a2a h_13 | omega, h_15, by decide⟩ (q_iconst c_155_16 (v_zret c_155_17 rfl (by decide) (bk_inl (v_if_eq_t (t := 39) c_159_23 rfl (by decide) (q_vret rfl rfl ?_)))))
        have h_16 := ir_43 hI (c 41 4)
        have h_17 : c2 41 4 = c 41 4 → c 43 (c2 41 4) = c 43 (c 41 4) := fun e9 => congrArg (c 43) e9
        have h_18 := ir_43 hI (c 41 4 + 1)
        have h_19 : c2 41 4 = c 41 4 + 1 → c 43 (c2 41 4) = c 43 (c 41 4 + 1) := fun e9 => congrArg (c 43) e9
        have h_20 := ir_43 hI (c 41 4 + 2)
        have h_21 : c2 41 4 = c 41 4 + 2 → c 43 (c2 41 4) = c 43 (c 41 4 + 2) := fun e9 => congrArg (c 43) e9
        exact K c2 hI2 (fun a j hm => hF a j hm) (by first | (clear h_1 h_2 h_3 h_5 h_13 h_15 h_16 h_18 h_20 hx1 h_17 h_19 h_21; omega) | omega) (Or.inl (by first | exact q_5fcb01701 h_5 | omega)) (by omega) (by omega)
      · refine v_ic_lt_f (t := 16) c_155_3 rfl ⟨by decide, (Int.not_lt.mp h_15), by first | exact q_4e52e4576 h_13 | omega⟩ (q_iload_n c_155_6 rfl (v_bip c_155_7 (by decide) ?_))
        by_cases h_22 : c 43 (c2 41 4) > 122
        · refine v_ic_gt_t (t := 16) c_155_9 rfl ⟨by decide, h_22, by first | exact q_4e52e4576 h_13 | omega⟩ (q_iconst c_155_16 (v_zret c_155_17 rfl (by decide) (bk_inl (v_if_eq_t (t := 39) c_159_23 rfl (by decide) (q_vret rfl rfl ?_)))))
          have h_23 := ir_43 hI (c 41 4)
          have h_24 : c2 41 4 = c 41 4 → c 43 (c2 41 4) = c 43 (c 41 4) := fun e9 => congrArg (c 43) e9
          have h_25 := ir_43 hI (c 41 4 + 1)
          have h_26 : c2 41 4 = c 41 4 + 1 → c 43 (c2 41 4) = c 43 (c 41 4 + 1) := fun e9 => congrArg (c 43) e9
          have h_27 := ir_43 hI (c 41 4 + 2)
          have h_28 : c2 41 4 = c 41 4 + 2 → c 43 (c2 41 4) = c 43 (c 41 4 + 2) := fun e9 => congrArg (c 43) e9
          exact K c2 hI2 (fun a j hm => hF a j hm) (by first | (clear h_1 h_2 h_3 h_5 h_13 h_15 h_22 h_23 h_25 h_27 hx1 h_24 h_26 h_28; omega) | omega) (Or.inl (by first | exact q_5fcb01701 h_5 | omega)) (by omega) (by omega)
        · refine v_ic_gt_f (t := 16) c_155_9 rfl ⟨by first | exact q_831bb82af h_15 | omega, (Int.not_lt.mp h_22), by decide⟩ (q_iconst c_155_12 (q_goto (t := 17) c_155_13 rfl (v_zret c_155_17 rfl (by decide) (bk_inl (v_if_eq_f (t := 39) c_159_23 rfl (by decide) (q_aload_n c_159_26 rfl (q_dup c_159_27 rfl ?_)))))))
          refine v_gi (z := 4) (v := c2 41 4) c_159_28 kf_8_108 rfl (nb_ rfl) rfl rfl rfl (q_iconst c_159_31 (v_iadd (v := c2 41 4 + 1) c_159_32 rfl (v_pi (z := 4) c_159_33 kf_8_108 rfl (nb_ rfl) rfl rfl rfl (by decide) (q_goto (t := 0) c_159_36 rfl ?_))))
          have hI_29 := iw_41_4 (v := c2 41 4 + 1) hI2 ⟨by first | exact rgp_l h_2.1 (by decide) | omega, by first | exact q_dadb204b8 h_3 h_5 | omega⟩
          refine Wp_ls [(0, .ref 41)] (lsub_cons rfl lsub_nil) ?_
          have h_30 : (up c2 41 4 (c2 41 4 + 1)) 41 4 = c2 41 4 + 1 := (up_e rfl)
          exact ih (up c2 41 4 (c2 41 4 + 1)) hI_29 (fun a j hm => (up_b (Decidable.or_iff_not_imp_left.mpr (fun h1 h2 => hm ⟨Decidable.not_not.mp h1, h2⟩))).trans (hF a j hm)) (by first | (clear h_1 h_2 h_3 h_5 h_13 h_15 h_22 hx1; omega) | omega) (Or.inl (by first | exact q_d6c070bf6 h_5 | omega)) (by omega)
set_option maxRecDepth 100000 in
set_option maxHeartbeats 4000000 in
theorem s_159 {sc : List Int32} {e : Int} {d u P Q : Nat} {c : ME} {Z : AR → Prop} (hI : Iv u e P Q c)  (K : ∀ (c2 : ME), Iv u e P Q c2 → (∀ (a : Nat) (j : Int), ¬ ((a = 41 ∧ j = 4)) → c2 a j = c a j) → ((c2 41 4 ≥ c 41 4)) → ((c2 41 4 ≤ c 41 3) ∨ (c2 41 4 = c 41 4)) → ((c 43 (c 41 4) < 97) ∨ (c 43 (c 41 4) > 122) ∨ (c 41 4 ≥ c 41 3) ∨ (c2 41 4 ≥ c 41 4 + 1)) → ((c 43 (c 41 4) < 97) ∨ (c 43 (c 41 4) > 122) ∨ (c 43 (c 41 4 + 1) < 97) ∨ (c 43 (c 41 4 + 1) > 122) ∨ (c 43 (c 41 4 + 2) < 97) ∨ (c 43 (c 41 4 + 2) > 122) ∨ (c 41 4 + 3 > c 41 3) ∨ (c2 41 4 ≥ c 41 4 + 3)) → Z (.inl (none), Wd P Q P P c2, 0, 0)) : Wp sc (d + 8) 159 0 [(0, .ref 41)] [] (Wd P Q P P c) 0 0 Z := by
  have hP := iv_P hI
  have hQ := iv_Q hI
  refine Wp_ls [(0, .ref 41)] (lsub_cons rfl lsub_nil) ?_
  have h_32 := ir_41_4 hI
  exact (s_159_l (sc := sc) (d := d) hI K 1214) c hI (fun a j hm => rfl) (by first | exact q_e074ea49a | omega) (Or.inr (by first | assumption | omega)) (by omega)
end
section
/-! ===== contracts 12 ===== -/
theorem qn_97fd72088 : ¬ (((41 : Nat) = 41 ∧ (3 : Int) = 4) ∨ ((41 : Nat) = 41 ∧ (3 : Int) = 5) ∨ ((41 : Nat) = 41 ∧ (3 : Int) = 6)) := (fun q => q.elim (fun h => absurd h.2 (ni rfl)) (fun q => q.elim (fun h => absurd h.2 (ni rfl)) (fun h => absurd h.2 (ni rfl))))
theorem qv_74575dfaf {a : Nat} {j : Int} (hm : ¬ ((a = 41 ∧ j = 4) ∨ (a = 41 ∧ j = 5) ∨ (a = 41 ∧ j = 6))) : ¬ ((a = 41 ∧ j = 5) ∨ (a = 41 ∧ j = 6)) := (fun q => q.elim (fun h => hm (Or.inr (Or.inl h))) (fun h => hm (Or.inr (Or.inr h))))
theorem q_a3ee8eff6 {x0 : Int} (f0 : (x0 ≠ (-1))) (f1 : (-1) ≤ x0 ∧ x0 ≤ 605) : (-1) < x0 := by omega
theorem q_f9fcce0ec {x0 x1 : Int} (f0 : ¬ (x0 < x1)) : x1 ≤ x0 := by omega
theorem qn_0f2179ecb {j : Int} : ¬ (((43 : Nat) = 41 ∧ j = 4) ∨ ((43 : Nat) = 41 ∧ j = 5) ∨ ((43 : Nat) = 41 ∧ j = 6)) := (fun q => q.elim (fun h => absurd h.1 (nn rfl)) (fun q => q.elim (fun h => absurd h.1 (nn rfl)) (fun h => absurd h.1 (nn rfl))))
theorem q_f75a697ae {x0 x1 : Int} (f0 : ¬ (x0 < 48)) (f1 : 0 ≤ x1 ∧ x1 ≤ 99999) : 0 ≤ x0 + 10 * x1 - 48 := by omega
theorem q_96daf8289 {x0 x1 : Int} (f0 : ¬ (x0 > 57)) (f1 : x1 ≤ 9999) : x0 + 10 * x1 - 48 ≤ 99999 := by omega
theorem q_2c2c046ea {x0 : Int} (f0 : (-1) ≤ x0 ∧ x0 ≤ 605) (f1 : x0 ≠ (-1)) : (-1) < x0 := by omega
theorem q_65c5ff97d {x0 : Int} (f0 : (-1) ≤ x0 ∧ x0 ≤ 605) (f1 : ¬ (x0 ≠ (-1))) : x0 = (-1) := by omega
theorem q_1f32b40e2 {x0 x1 x2 : Int} (f0 : (x0 = 0) ∨ (x1 < x2)) (f1 : x0 > 57) : x1 ≤ x2 := by omega
theorem q_1c9f89747 {x0 x1 : Int} (f0 : (x0 = 0) ∨ (x0 = x1)) (f1 : ¬ (x0 < 48)) : 48 ≤ x1 := by omega
theorem q_9e52b01c0 {x0 x1 : Int} (f0 : (x0 = 0) ∨ (x0 = x1)) (f1 : ¬ (x0 < 48)) (f2 : ¬ (x0 > 57)) : x1 ≤ 57 := by omega
theorem q_1b38521ea {x0 x1 x2 : Int} (f0 : (x0 = 0) ∨ (x1 < x2)) (f1 : ¬ (x0 < 48)) : x1 < x2 := by omega
theorem q_bd023a79f {x0 : Int} (f0 : (-1) ≤ x0 ∧ x0 ≤ 605) (f1 : x0 ≠ (-1)) : ¬ x0 = (-1) := by omega
theorem q_9008534bf {x0 x1 x2 x3 : Int} (f0 : (x0 = 0) ∨ (x1 < x2)) (f1 : x0 = x3) (f2 : 0 ≤ x2 ∧ x2 ≤ 600) (f3 : 1 ≤ x3 ∧ x3 ≤ 255) : x1 + 1 ≤ 605 := by omega
theorem q_baf20dc67 {x0 x1 : Int} (f0 : (x0 ≥ x1)) : x1 ≤ x0 + 1 := by omega
theorem q_11b1af89a {x0 x1 x2 x3 : Int} (f0 : (x0 = 0) ∨ (x1 < x2)) (f1 : x0 = x3) (f2 : 1 ≤ x3 ∧ x3 ≤ 255) : x1 + 1 ≤ x2 := by omega
theorem q_3d104540d {x0 x1 : Int} (f0 : (x0 ≥ x1)) : x1 < x0 + 1 := by omega
theorem q_e869299d0 {x0 : Int} (f0 : (x0 ≠ (-1))) (f1 : (-1) ≤ x0 ∧ x0 ≤ 605) : ¬ x0 = (-1) := by omega
theorem q_0a1746f2d {x0 : Int} (f0 : x0 = 10290) : 0 < x0 := by omega
theorem q_5b5c1ed78 {x0 : Int} (f0 : x0 = 20594117) : 0 < x0 := by omega
theorem q_02c639724 {x0 : Int} (f0 : x0 = 20223685) : 0 < x0 := by omega
theorem q_c1447f94c {x0 : Int} (f0 : ¬ (x0 ≠ 153204)) : 0 < x0 := by omega
theorem qn_b860ee9cc : ¬ (((41 : Nat) = 41 ∧ (3 : Int) = 4) ∨ ((41 : Nat) = 41 ∧ (3 : Int) = 5) ∨ ((41 : Nat) = 41 ∧ (3 : Int) = 6) ∨ ((41 : Nat) = 41 ∧ (3 : Int) = 16) ∨ ((41 : Nat) = 41 ∧ (3 : Int) = 17) ∨ ((41 : Nat) = 41 ∧ (3 : Int) = 18) ∨ ((41 : Nat) = 41 ∧ (3 : Int) = 19) ∨ (41 : Nat) = 44 ∨ (41 : Nat) = 45 ∨ (41 : Nat) = 46) := (fun q => q.elim (fun h => absurd h.2 (ni rfl)) (fun q => q.elim (fun h => absurd h.2 (ni rfl)) (fun q => q.elim (fun h => absurd h.2 (ni rfl)) (fun q => q.elim (fun h => absurd h.2 (ni rfl)) (fun q => q.elim (fun h => absurd h.2 (ni rfl)) (fun q => q.elim (fun h => absurd h.2 (ni rfl)) (fun q => q.elim (fun h => absurd h.2 (ni rfl)) (fun q => q.elim (fun h => absurd h (nn rfl)) (fun q => q.elim (fun h => absurd h (nn rfl)) (fun h => absurd h (nn rfl)))))))))))
theorem q_e430e3a82 {x0 x1 : Int} (f0 : 0 ≤ x0 ∧ x0 ≤ 6) (f1 : 0 ≤ x1 ∧ x1 ≤ 4) : 0 ≤ 4 * x0 + x1 := by omega
theorem q_402c5255b {x0 : Int} (f0 : (x0 = 0) ∨ (x0 ≥ 0 ∧ x0 ≤ 999)) : x0 ≤ 999 := by omega
theorem qn_e8809db5e : ¬ (((41 : Nat) = 41 ∧ (16 : Int) = 4) ∨ ((41 : Nat) = 41 ∧ (16 : Int) = 5) ∨ ((41 : Nat) = 41 ∧ (16 : Int) = 6)) := (fun q => q.elim (fun h => absurd h.2 (ni rfl)) (fun q => q.elim (fun h => absurd h.2 (ni rfl)) (fun h => absurd h.2 (ni rfl))))
theorem qv_e105a9b19 {a : Nat} {j : Int} (hm : ¬ ((a = 41 ∧ j = 4) ∨ (a = 41 ∧ j = 5) ∨ (a = 41 ∧ j = 6) ∨ (a = 41 ∧ j = 16) ∨ (a = 41 ∧ j = 17) ∨ (a = 41 ∧ j = 18) ∨ (a = 41 ∧ j = 19) ∨ a = 44 ∨ a = 45 ∨ a = 46)) : ¬ ((a = 41 ∧ j = 4) ∨ (a = 41 ∧ j = 5) ∨ (a = 41 ∧ j = 6)) := (fun q => q.elim (fun h => hm (Or.inl h)) (fun q => q.elim (fun h => hm (Or.inr (Or.inl h))) (fun h => hm (Or.inr (Or.inr (Or.inl h))))))
theorem q_48b4e9a29 {x0 : Int} : 3 * (x0) = 3 * x0 := by omega
theorem q_1d3e4956f {x0 x1 : Int} (f0 : 0 ≤ x0 ∧ x0 ≤ 4) (f1 : 0 ≤ x1 ∧ x1 ≤ 3) : 0 ≤ 3 * x0 + x1 := by omega
theorem q_280111ceb {x0 : Int} (f0 : (x0 = 0) ∨ (x0 ≥ 0 ∧ x0 ≤ 10)) : x0 ≤ 10 := by omega
theorem qn_a870196d2 : ¬ (((41 : Nat) = 41 ∧ (17 : Int) = 4) ∨ ((41 : Nat) = 41 ∧ (17 : Int) = 5) ∨ ((41 : Nat) = 41 ∧ (17 : Int) = 6)) := (fun q => q.elim (fun h => absurd h.2 (ni rfl)) (fun q => q.elim (fun h => absurd h.2 (ni rfl)) (fun h => absurd h.2 (ni rfl))))
theorem q_8f3103337 {x0 : Int} (f0 : (x0 = 0) ∨ (x0 ≥ 0 ∧ x0 ≤ 50)) : x0 ≤ 50 := by omega
theorem q_bfe2babd2 {x0 x1 : Int} (f0 : ¬ (x0 ≠ 20223685)) (f1 : (x0 ≠ 20223685) ∨ (x1 ≤ 3)) : x1 < 4 := by omega
theorem qn_d8f940cfc : ¬ (((41 : Nat) = 41 ∧ (18 : Int) = 4) ∨ ((41 : Nat) = 41 ∧ (18 : Int) = 5) ∨ ((41 : Nat) = 41 ∧ (18 : Int) = 6)) := (fun q => q.elim (fun h => absurd h.2 (ni rfl)) (fun q => q.elim (fun h => absurd h.2 (ni rfl)) (fun h => absurd h.2 (ni rfl))))
theorem q_e93795c0a {x0 : Int} (f0 : (x0 = 0) ∨ (x0 ≥ 0 ∧ x0 ≤ 2)) : x0 ≤ 2 := by omega
theorem q_26a4771c0 {x0 x1 : Int} (f0 : ¬ (x0 ≠ 20223685)) (f1 : (x0 ≠ 20223685) ∨ (x1 ≤ 3)) : x1 + 1 ≤ 4 := by omega
theorem q_3c292ed47 {x0 x1 : Int} (f0 : ¬ (x0 ≠ 20594117)) (f1 : (x0 ≠ 20594117) ∨ (x1 ≤ 3)) : x1 ≤ 3 := by omega
theorem q_be3b6650b {x0 x1 : Int} (f0 : ¬ (x0 ≠ 10290)) (f1 : (x0 ≠ 10290) ∨ (x1 ≤ 5)) : x1 ≤ 5 := by omega
theorem qv_6e732907b {a : Nat} {j : Int} (hm : ¬ ((a = 41 ∧ j = 0) ∨ a = 42 ∨ (a = 41 ∧ j = 2) ∨ (a = 41 ∧ j = 3) ∨ (a = 41 ∧ j = 4) ∨ (a = 41 ∧ j = 5) ∨ (a = 41 ∧ j = 6) ∨ (a = 41 ∧ j = 7) ∨ (a = 41 ∧ j = 8) ∨ (a = 41 ∧ j = 16) ∨ (a = 41 ∧ j = 17) ∨ (a = 41 ∧ j = 18) ∨ (a = 41 ∧ j = 19) ∨ a = 44 ∨ a = 45 ∨ a = 46 ∨ (a = 41 ∧ j = 20) ∨ (a = 41 ∧ j = 21) ∨ (a = 41 ∧ j = 22) ∨ (a = 41 ∧ j = 23) ∨ (a = 41 ∧ j = 30) ∨ (a = 41 ∧ j = 35) ∨ (a = 41 ∧ j = 36) ∨ (a = 41 ∧ j = 47) ∨ (a = 41 ∧ j = 48) ∨ (a = 41 ∧ j = 52) ∨ a = 47 ∨ a = 48 ∨ a = 49 ∨ a = 58 ∨ a = 64)) : ¬ ((a = 41 ∧ j = 8)) := (fun h => hm (Or.inr (Or.inr (Or.inr (Or.inr (Or.inr (Or.inr (Or.inr (Or.inr (Or.inl h))))))))))
theorem qn_040eefb90 : ¬ (((41 : Nat) = 41 ∧ (2 : Int) = 20) ∨ ((41 : Nat) = 41 ∧ (2 : Int) = 21) ∨ ((41 : Nat) = 41 ∧ (2 : Int) = 22) ∨ ((41 : Nat) = 41 ∧ (2 : Int) = 23) ∨ ((41 : Nat) = 41 ∧ (2 : Int) = 30) ∨ ((41 : Nat) = 41 ∧ (2 : Int) = 35) ∨ ((41 : Nat) = 41 ∧ (2 : Int) = 36) ∨ ((41 : Nat) = 41 ∧ (2 : Int) = 47) ∨ ((41 : Nat) = 41 ∧ (2 : Int) = 48) ∨ ((41 : Nat) = 41 ∧ (2 : Int) = 52) ∨ (41 : Nat) = 47 ∨ (41 : Nat) = 48 ∨ (41 : Nat) = 49 ∨ (41 : Nat) = 58 ∨ (41 : Nat) = 64) := (fun q => q.elim (fun h => absurd h.2 (ni rfl)) (fun q => q.elim (fun h => absurd h.2 (ni rfl)) (fun q => q.elim (fun h => absurd h.2 (ni rfl)) (fun q => q.elim (fun h => absurd h.2 (ni rfl)) (fun q => q.elim (fun h => absurd h.2 (ni rfl)) (fun q => q.elim (fun h => absurd h.2 (ni rfl)) (fun q => q.elim (fun h => absurd h.2 (ni rfl)) (fun q => q.elim (fun h => absurd h.2 (ni rfl)) (fun q => q.elim (fun h => absurd h.2 (ni rfl)) (fun q => q.elim (fun h => absurd h.2 (ni rfl)) (fun q => q.elim (fun h => absurd h (nn rfl)) (fun q => q.elim (fun h => absurd h (nn rfl)) (fun q => q.elim (fun h => absurd h (nn rfl)) (fun q => q.elim (fun h => absurd h (nn rfl)) (fun h => absurd h (nn rfl))))))))))))))))
theorem qv_001693c50 {a : Nat} {j : Int} (hm : ¬ ((a = 41 ∧ j = 0) ∨ a = 42 ∨ (a = 41 ∧ j = 2) ∨ (a = 41 ∧ j = 3) ∨ (a = 41 ∧ j = 4) ∨ (a = 41 ∧ j = 5) ∨ (a = 41 ∧ j = 6) ∨ (a = 41 ∧ j = 7) ∨ (a = 41 ∧ j = 8) ∨ (a = 41 ∧ j = 16) ∨ (a = 41 ∧ j = 17) ∨ (a = 41 ∧ j = 18) ∨ (a = 41 ∧ j = 19) ∨ a = 44 ∨ a = 45 ∨ a = 46 ∨ (a = 41 ∧ j = 20) ∨ (a = 41 ∧ j = 21) ∨ (a = 41 ∧ j = 22) ∨ (a = 41 ∧ j = 23) ∨ (a = 41 ∧ j = 30) ∨ (a = 41 ∧ j = 35) ∨ (a = 41 ∧ j = 36) ∨ (a = 41 ∧ j = 47) ∨ (a = 41 ∧ j = 48) ∨ (a = 41 ∧ j = 52) ∨ a = 47 ∨ a = 48 ∨ a = 49 ∨ a = 58 ∨ a = 64)) : ¬ ((a = 41 ∧ j = 20) ∨ (a = 41 ∧ j = 21) ∨ (a = 41 ∧ j = 22) ∨ (a = 41 ∧ j = 23) ∨ (a = 41 ∧ j = 30) ∨ (a = 41 ∧ j = 35) ∨ (a = 41 ∧ j = 36) ∨ (a = 41 ∧ j = 47) ∨ (a = 41 ∧ j = 48) ∨ (a = 41 ∧ j = 52) ∨ a = 47 ∨ a = 48 ∨ a = 49 ∨ a = 58 ∨ a = 64) := (fun q => q.elim (fun h => hm (Or.inr (Or.inr (Or.inr (Or.inr (Or.inr (Or.inr (Or.inr (Or.inr (Or.inr (Or.inr (Or.inr (Or.inr (Or.inr (Or.inr (Or.inr (Or.inr (Or.inl h)))))))))))))))))) (fun q => q.elim (fun h => hm (Or.inr (Or.inr (Or.inr (Or.inr (Or.inr (Or.inr (Or.inr (Or.inr (Or.inr (Or.inr (Or.inr (Or.inr (Or.inr (Or.inr (Or.inr (Or.inr (Or.inr (Or.inl h))))))))))))))))))) (fun q => q.elim (fun h => hm (Or.inr (Or.inr (Or.inr (Or.inr (Or.inr (Or.inr (Or.inr (Or.inr (Or.inr (Or.inr (Or.inr (Or.inr (Or.inr (Or.inr (Or.inr (Or.inr (Or.inr (Or.inr (Or.inl h)))))))))))))))))))) (fun q => q.elim (fun h => hm (Or.inr (Or.inr (Or.inr (Or.inr (Or.inr (Or.inr (Or.inr (Or.inr (Or.inr (Or.inr (Or.inr (Or.inr (Or.inr (Or.inr (Or.inr (Or.inr (Or.inr (Or.inr (Or.inr (Or.inl h))))))))))))))))))))) (fun q => q.elim (fun h => hm (Or.inr (Or.inr (Or.inr (Or.inr (Or.inr (Or.inr (Or.inr (Or.inr (Or.inr (Or.inr (Or.inr (Or.inr (Or.inr (Or.inr (Or.inr (Or.inr (Or.inr (Or.inr (Or.inr (Or.inr (Or.inl h)))))))))))))))))))))) (fun q => q.elim (fun h => hm (Or.inr (Or.inr (Or.inr (Or.inr (Or.inr (Or.inr (Or.inr (Or.inr (Or.inr (Or.inr (Or.inr (Or.inr (Or.inr (Or.inr (Or.inr (Or.inr (Or.inr (Or.inr (Or.inr (Or.inr (Or.inr (Or.inl h))))))))))))))))))))))) (fun q => q.elim (fun h => hm (Or.inr (Or.inr (Or.inr (Or.inr (Or.inr (Or.inr (Or.inr (Or.inr (Or.inr (Or.inr (Or.inr (Or.inr (Or.inr (Or.inr (Or.inr (Or.inr (Or.inr (Or.inr (Or.inr (Or.inr (Or.inr (Or.inr (Or.inl h)))))))))))))))))))))))) (fun q => q.elim (fun h => hm (Or.inr (Or.inr (Or.inr (Or.inr (Or.inr (Or.inr (Or.inr (Or.inr (Or.inr (Or.inr (Or.inr (Or.inr (Or.inr (Or.inr (Or.inr (Or.inr (Or.inr (Or.inr (Or.inr (Or.inr (Or.inr (Or.inr (Or.inr (Or.inl h))))))))))))))))))))))))) (fun q => q.elim (fun h => hm (Or.inr (Or.inr (Or.inr (Or.inr (Or.inr (Or.inr (Or.inr (Or.inr (Or.inr (Or.inr (Or.inr (Or.inr (Or.inr (Or.inr (Or.inr (Or.inr (Or.inr (Or.inr (Or.inr (Or.inr (Or.inr (Or.inr (Or.inr (Or.inr (Or.inl h)))))))))))))))))))))))))) (fun q => q.elim (fun h => hm (Or.inr (Or.inr (Or.inr (Or.inr (Or.inr (Or.inr (Or.inr (Or.inr (Or.inr (Or.inr (Or.inr (Or.inr (Or.inr (Or.inr (Or.inr (Or.inr (Or.inr (Or.inr (Or.inr (Or.inr (Or.inr (Or.inr (Or.inr (Or.inr (Or.inr (Or.inl h))))))))))))))))))))))))))) (fun q => q.elim (fun h => hm (Or.inr (Or.inr (Or.inr (Or.inr (Or.inr (Or.inr (Or.inr (Or.inr (Or.inr (Or.inr (Or.inr (Or.inr (Or.inr (Or.inr (Or.inr (Or.inr (Or.inr (Or.inr (Or.inr (Or.inr (Or.inr (Or.inr (Or.inr (Or.inr (Or.inr (Or.inr (Or.inl h)))))))))))))))))))))))))))) (fun q => q.elim (fun h => hm (Or.inr (Or.inr (Or.inr (Or.inr (Or.inr (Or.inr (Or.inr (Or.inr (Or.inr (Or.inr (Or.inr (Or.inr (Or.inr (Or.inr (Or.inr (Or.inr (Or.inr (Or.inr (Or.inr (Or.inr (Or.inr (Or.inr (Or.inr (Or.inr (Or.inr (Or.inr (Or.inr (Or.inl h))))))))))))))))))))))))))))) (fun q => q.elim (fun h => hm (Or.inr (Or.inr (Or.inr (Or.inr (Or.inr (Or.inr (Or.inr (Or.inr (Or.inr (Or.inr (Or.inr (Or.inr (Or.inr (Or.inr (Or.inr (Or.inr (Or.inr (Or.inr (Or.inr (Or.inr (Or.inr (Or.inr (Or.inr (Or.inr (Or.inr (Or.inr (Or.inr (Or.inr (Or.inl h)))))))))))))))))))))))))))))) (fun q => q.elim (fun h => hm (Or.inr (Or.inr (Or.inr (Or.inr (Or.inr (Or.inr (Or.inr (Or.inr (Or.inr (Or.inr (Or.inr (Or.inr (Or.inr (Or.inr (Or.inr (Or.inr (Or.inr (Or.inr (Or.inr (Or.inr (Or.inr (Or.inr (Or.inr (Or.inr (Or.inr (Or.inr (Or.inr (Or.inr (Or.inr (Or.inl h))))))))))))))))))))))))))))))) (fun h => hm (Or.inr (Or.inr (Or.inr (Or.inr (Or.inr (Or.inr (Or.inr (Or.inr (Or.inr (Or.inr (Or.inr (Or.inr (Or.inr (Or.inr (Or.inr (Or.inr (Or.inr (Or.inr (Or.inr (Or.inr (Or.inr (Or.inr (Or.inr (Or.inr (Or.inr (Or.inr (Or.inr (Or.inr (Or.inr (Or.inr h)))))))))))))))))))))))))))))))))))))))))))))
theorem qn_b8e2be383 {j : Int} : ¬ (((43 : Nat) = 41 ∧ j = 0) ∨ (43 : Nat) = 42 ∨ ((43 : Nat) = 41 ∧ j = 2) ∨ ((43 : Nat) = 41 ∧ j = 3) ∨ ((43 : Nat) = 41 ∧ j = 4) ∨ ((43 : Nat) = 41 ∧ j = 5) ∨ ((43 : Nat) = 41 ∧ j = 6) ∨ ((43 : Nat) = 41 ∧ j = 7) ∨ ((43 : Nat) = 41 ∧ j = 8) ∨ ((43 : Nat) = 41 ∧ j = 16) ∨ ((43 : Nat) = 41 ∧ j = 17) ∨ ((43 : Nat) = 41 ∧ j = 18) ∨ ((43 : Nat) = 41 ∧ j = 19) ∨ (43 : Nat) = 44 ∨ (43 : Nat) = 45 ∨ (43 : Nat) = 46 ∨ ((43 : Nat) = 41 ∧ j = 20) ∨ ((43 : Nat) = 41 ∧ j = 21) ∨ ((43 : Nat) = 41 ∧ j = 22) ∨ ((43 : Nat) = 41 ∧ j = 23) ∨ ((43 : Nat) = 41 ∧ j = 30) ∨ ((43 : Nat) = 41 ∧ j = 35) ∨ ((43 : Nat) = 41 ∧ j = 36) ∨ ((43 : Nat) = 41 ∧ j = 47) ∨ ((43 : Nat) = 41 ∧ j = 48) ∨ ((43 : Nat) = 41 ∧ j = 52) ∨ (43 : Nat) = 47 ∨ (43 : Nat) = 48 ∨ (43 : Nat) = 49 ∨ (43 : Nat) = 58 ∨ (43 : Nat) = 64) := (fun q => q.elim (fun h => absurd h.1 (nn rfl)) (fun q => q.elim (fun h => absurd h (nn rfl)) (fun q => q.elim (fun h => absurd h.1 (nn rfl)) (fun q => q.elim (fun h => absurd h.1 (nn rfl)) (fun q => q.elim (fun h => absurd h.1 (nn rfl)) (fun q => q.elim (fun h => absurd h.1 (nn rfl)) (fun q => q.elim (fun h => absurd h.1 (nn rfl)) (fun q => q.elim (fun h => absurd h.1 (nn rfl)) (fun q => q.elim (fun h => absurd h.1 (nn rfl)) (fun q => q.elim (fun h => absurd h.1 (nn rfl)) (fun q => q.elim (fun h => absurd h.1 (nn rfl)) (fun q => q.elim (fun h => absurd h.1 (nn rfl)) (fun q => q.elim (fun h => absurd h.1 (nn rfl)) (fun q => q.elim (fun h => absurd h (nn rfl)) (fun q => q.elim (fun h => absurd h (nn rfl)) (fun q => q.elim (fun h => absurd h (nn rfl)) (fun q => q.elim (fun h => absurd h.1 (nn rfl)) (fun q => q.elim (fun h => absurd h.1 (nn rfl)) (fun q => q.elim (fun h => absurd h.1 (nn rfl)) (fun q => q.elim (fun h => absurd h.1 (nn rfl)) (fun q => q.elim (fun h => absurd h.1 (nn rfl)) (fun q => q.elim (fun h => absurd h.1 (nn rfl)) (fun q => q.elim (fun h => absurd h.1 (nn rfl)) (fun q => q.elim (fun h => absurd h.1 (nn rfl)) (fun q => q.elim (fun h => absurd h.1 (nn rfl)) (fun q => q.elim (fun h => absurd h.1 (nn rfl)) (fun q => q.elim (fun h => absurd h (nn rfl)) (fun q => q.elim (fun h => absurd h (nn rfl)) (fun q => q.elim (fun h => absurd h (nn rfl)) (fun q => q.elim (fun h => absurd h (nn rfl)) (fun h => absurd h (nn rfl))))))))))))))))))))))))))))))))
theorem qv_063f5c1cf {a : Nat} {j : Int} (hm : ¬ ((a = 41 ∧ j = 0) ∨ a = 42 ∨ (a = 41 ∧ j = 2) ∨ (a = 41 ∧ j = 3) ∨ (a = 41 ∧ j = 4) ∨ (a = 41 ∧ j = 5) ∨ (a = 41 ∧ j = 6) ∨ (a = 41 ∧ j = 7) ∨ (a = 41 ∧ j = 8) ∨ (a = 41 ∧ j = 16) ∨ (a = 41 ∧ j = 17) ∨ (a = 41 ∧ j = 18) ∨ (a = 41 ∧ j = 19) ∨ a = 44 ∨ a = 45 ∨ a = 46 ∨ (a = 41 ∧ j = 20) ∨ (a = 41 ∧ j = 21) ∨ (a = 41 ∧ j = 22) ∨ (a = 41 ∧ j = 23) ∨ (a = 41 ∧ j = 30) ∨ (a = 41 ∧ j = 35) ∨ (a = 41 ∧ j = 36) ∨ (a = 41 ∧ j = 47) ∨ (a = 41 ∧ j = 48) ∨ (a = 41 ∧ j = 52) ∨ a = 47 ∨ a = 48 ∨ a = 49 ∨ a = 58 ∨ a = 64)) : ¬ ((a = 41 ∧ j = 5) ∨ (a = 41 ∧ j = 6)) := (fun q => q.elim (fun h => hm (Or.inr (Or.inr (Or.inr (Or.inr (Or.inr (Or.inl h))))))) (fun h => hm (Or.inr (Or.inr (Or.inr (Or.inr (Or.inr (Or.inr (Or.inl h)))))))))
theorem q_05e4a3968 {x0 : Int} (f0 : x0 ≠ 10290) : ¬ x0 = 10290 := by omega
theorem q_58aa247fa {x0 : Int} (f0 : x0 ≠ 20594117) : ¬ x0 = 20594117 := by omega
theorem q_594b30c94 {x0 : Int} (f0 : x0 ≠ 20223685) : ¬ x0 = 20223685 := by omega
theorem qn_c33c5b2f3 : ¬ (((41 : Nat) = 41 ∧ (2 : Int) = 4) ∨ ((41 : Nat) = 41 ∧ (2 : Int) = 5) ∨ ((41 : Nat) = 41 ∧ (2 : Int) = 6) ∨ ((41 : Nat) = 41 ∧ (2 : Int) = 16) ∨ ((41 : Nat) = 41 ∧ (2 : Int) = 17) ∨ ((41 : Nat) = 41 ∧ (2 : Int) = 18) ∨ ((41 : Nat) = 41 ∧ (2 : Int) = 19) ∨ (41 : Nat) = 44 ∨ (41 : Nat) = 45 ∨ (41 : Nat) = 46) := (fun q => q.elim (fun h => absurd h.2 (ni rfl)) (fun q => q.elim (fun h => absurd h.2 (ni rfl)) (fun q => q.elim (fun h => absurd h.2 (ni rfl)) (fun q => q.elim (fun h => absurd h.2 (ni rfl)) (fun q => q.elim (fun h => absurd h.2 (ni rfl)) (fun q => q.elim (fun h => absurd h.2 (ni rfl)) (fun q => q.elim (fun h => absurd h.2 (ni rfl)) (fun q => q.elim (fun h => absurd h (nn rfl)) (fun q => q.elim (fun h => absurd h (nn rfl)) (fun h => absurd h (nn rfl)))))))))))
theorem qn_6151d08e8 : ¬ (((41 : Nat) = 41 ∧ (2 : Int) = 4) ∨ ((41 : Nat) = 41 ∧ (2 : Int) = 5) ∨ ((41 : Nat) = 41 ∧ (2 : Int) = 6)) := (fun q => q.elim (fun h => absurd h.2 (ni rfl)) (fun q => q.elim (fun h => absurd h.2 (ni rfl)) (fun h => absurd h.2 (ni rfl))))
theorem qv_3242bd920 {a : Nat} {j : Int} (hm : ¬ ((a = 41 ∧ j = 0) ∨ a = 42 ∨ (a = 41 ∧ j = 2) ∨ (a = 41 ∧ j = 3) ∨ (a = 41 ∧ j = 4) ∨ (a = 41 ∧ j = 5) ∨ (a = 41 ∧ j = 6) ∨ (a = 41 ∧ j = 7) ∨ (a = 41 ∧ j = 8) ∨ (a = 41 ∧ j = 16) ∨ (a = 41 ∧ j = 17) ∨ (a = 41 ∧ j = 18) ∨ (a = 41 ∧ j = 19) ∨ a = 44 ∨ a = 45 ∨ a = 46 ∨ (a = 41 ∧ j = 20) ∨ (a = 41 ∧ j = 21) ∨ (a = 41 ∧ j = 22) ∨ (a = 41 ∧ j = 23) ∨ (a = 41 ∧ j = 30) ∨ (a = 41 ∧ j = 35) ∨ (a = 41 ∧ j = 36) ∨ (a = 41 ∧ j = 47) ∨ (a = 41 ∧ j = 48) ∨ (a = 41 ∧ j = 52) ∨ a = 47 ∨ a = 48 ∨ a = 49 ∨ a = 58 ∨ a = 64)) : ¬ ((a = 41 ∧ j = 4) ∨ (a = 41 ∧ j = 5) ∨ (a = 41 ∧ j = 6)) := (fun q => q.elim (fun h => hm (Or.inr (Or.inr (Or.inr (Or.inr (Or.inl h)))))) (fun q => q.elim (fun h => hm (Or.inr (Or.inr (Or.inr (Or.inr (Or.inr (Or.inl h))))))) (fun h => hm (Or.inr (Or.inr (Or.inr (Or.inr (Or.inr (Or.inr (Or.inl h))))))))))
theorem qv_3a3bba8ab {a : Nat} {j : Int} (hm : ¬ ((a = 41 ∧ j = 0) ∨ a = 42 ∨ (a = 41 ∧ j = 2) ∨ (a = 41 ∧ j = 3) ∨ (a = 41 ∧ j = 4) ∨ (a = 41 ∧ j = 5) ∨ (a = 41 ∧ j = 6) ∨ (a = 41 ∧ j = 7) ∨ (a = 41 ∧ j = 8) ∨ (a = 41 ∧ j = 16) ∨ (a = 41 ∧ j = 17) ∨ (a = 41 ∧ j = 18) ∨ (a = 41 ∧ j = 19) ∨ a = 44 ∨ a = 45 ∨ a = 46 ∨ (a = 41 ∧ j = 20) ∨ (a = 41 ∧ j = 21) ∨ (a = 41 ∧ j = 22) ∨ (a = 41 ∧ j = 23) ∨ (a = 41 ∧ j = 30) ∨ (a = 41 ∧ j = 35) ∨ (a = 41 ∧ j = 36) ∨ (a = 41 ∧ j = 47) ∨ (a = 41 ∧ j = 48) ∨ (a = 41 ∧ j = 52) ∨ a = 47 ∨ a = 48 ∨ a = 49 ∨ a = 58 ∨ a = 64)) : ¬ ((a = 41 ∧ j = 4) ∨ (a = 41 ∧ j = 5) ∨ (a = 41 ∧ j = 6) ∨ (a = 41 ∧ j = 16) ∨ (a = 41 ∧ j = 17) ∨ (a = 41 ∧ j = 18) ∨ (a = 41 ∧ j = 19) ∨ a = 44 ∨ a = 45 ∨ a = 46) := (fun q => q.elim (fun h => hm (Or.inr (Or.inr (Or.inr (Or.inr (Or.inl h)))))) (fun q => q.elim (fun h => hm (Or.inr (Or.inr (Or.inr (Or.inr (Or.inr (Or.inl h))))))) (fun q => q.elim (fun h => hm (Or.inr (Or.inr (Or.inr (Or.inr (Or.inr (Or.inr (Or.inl h)))))))) (fun q => q.elim (fun h => hm (Or.inr (Or.inr (Or.inr (Or.inr (Or.inr (Or.inr (Or.inr (Or.inr (Or.inr (Or.inl h))))))))))) (fun q => q.elim (fun h => hm (Or.inr (Or.inr (Or.inr (Or.inr (Or.inr (Or.inr (Or.inr (Or.inr (Or.inr (Or.inr (Or.inl h)))))))))))) (fun q => q.elim (fun h => hm (Or.inr (Or.inr (Or.inr (Or.inr (Or.inr (Or.inr (Or.inr (Or.inr (Or.inr (Or.inr (Or.inr (Or.inl h))))))))))))) (fun q => q.elim (fun h => hm (Or.inr (Or.inr (Or.inr (Or.inr (Or.inr (Or.inr (Or.inr (Or.inr (Or.inr (Or.inr (Or.inr (Or.inr (Or.inl h)))))))))))))) (fun q => q.elim (fun h => hm (Or.inr (Or.inr (Or.inr (Or.inr (Or.inr (Or.inr (Or.inr (Or.inr (Or.inr (Or.inr (Or.inr (Or.inr (Or.inr (Or.inl h))))))))))))))) (fun q => q.elim (fun h => hm (Or.inr (Or.inr (Or.inr (Or.inr (Or.inr (Or.inr (Or.inr (Or.inr (Or.inr (Or.inr (Or.inr (Or.inr (Or.inr (Or.inr (Or.inl h)))))))))))))))) (fun h => hm (Or.inr (Or.inr (Or.inr (Or.inr (Or.inr (Or.inr (Or.inr (Or.inr (Or.inr (Or.inr (Or.inr (Or.inr (Or.inr (Or.inr (Or.inr (Or.inl h))))))))))))))))))))))))))
theorem q_a69d2ea54 {x0 : Int} (f0 : ¬ (x0 = 60)) (f1 : 0 ≤ x0 ∧ x0 ≤ 60) : x0 + 1 ≤ 60 := by omega
theorem q_1208b9ebe {x0 : Int} (f0 : ¬ (x0 ≠ 20223685)) : ¬ x0 = 10290 := by omega
theorem q_b173c0e21 {x0 : Int} (f0 : ¬ (x0 ≠ 20223685)) : ¬ x0 = 20594117 := by omega
theorem q_ccbc1c495 {x0 : Int} (f0 : ¬ (x0 ≠ 20594117)) : ¬ x0 = 10290 := by omega
theorem q_901e0d5fc {x0 : Int} (f0 : ¬ (x0 ≠ 20594117)) : ¬ x0 = 20223685 := by omega
theorem q_c62b11d31 {x0 : Int} (f0 : ¬ (x0 ≠ 10290)) : ¬ x0 = 20594117 := by omega
theorem q_6e54144a2 {x0 : Int} (f0 : ¬ (x0 ≠ 10290)) : ¬ x0 = 20223685 := by omega
theorem q_de8dff5f0 {x0 : Int} (f0 : ¬ (x0 ≠ 6)) : (-2147483648) ≤ x0 := by omega
theorem qn_d1f210dd4 : ¬ (((41 : Nat) = 41 ∧ (2 : Int) = 16) ∨ ((41 : Nat) = 41 ∧ (2 : Int) = 17) ∨ ((41 : Nat) = 41 ∧ (2 : Int) = 18) ∨ ((41 : Nat) = 41 ∧ (2 : Int) = 19)) := (fun q => q.elim (fun h => absurd h.2 (ni rfl)) (fun q => q.elim (fun h => absurd h.2 (ni rfl)) (fun q => q.elim (fun h => absurd h.2 (ni rfl)) (fun h => absurd h.2 (ni rfl)))))
theorem qn_650f73a3f : ¬ (((41 : Nat) = 41 ∧ (4 : Int) = 16) ∨ ((41 : Nat) = 41 ∧ (4 : Int) = 17) ∨ ((41 : Nat) = 41 ∧ (4 : Int) = 18) ∨ ((41 : Nat) = 41 ∧ (4 : Int) = 19)) := (fun q => q.elim (fun h => absurd h.2 (ni rfl)) (fun q => q.elim (fun h => absurd h.2 (ni rfl)) (fun q => q.elim (fun h => absurd h.2 (ni rfl)) (fun h => absurd h.2 (ni rfl)))))
theorem qv_701798ed8 {a : Nat} {j : Int} (hm : ¬ ((a = 41 ∧ j = 0) ∨ a = 42 ∨ (a = 41 ∧ j = 2) ∨ (a = 41 ∧ j = 3) ∨ (a = 41 ∧ j = 4) ∨ (a = 41 ∧ j = 5) ∨ (a = 41 ∧ j = 6) ∨ (a = 41 ∧ j = 7) ∨ (a = 41 ∧ j = 8) ∨ (a = 41 ∧ j = 16) ∨ (a = 41 ∧ j = 17) ∨ (a = 41 ∧ j = 18) ∨ (a = 41 ∧ j = 19) ∨ a = 44 ∨ a = 45 ∨ a = 46 ∨ (a = 41 ∧ j = 20) ∨ (a = 41 ∧ j = 21) ∨ (a = 41 ∧ j = 22) ∨ (a = 41 ∧ j = 23) ∨ (a = 41 ∧ j = 30) ∨ (a = 41 ∧ j = 35) ∨ (a = 41 ∧ j = 36) ∨ (a = 41 ∧ j = 47) ∨ (a = 41 ∧ j = 48) ∨ (a = 41 ∧ j = 52) ∨ a = 47 ∨ a = 48 ∨ a = 49 ∨ a = 58 ∨ a = 64)) : ¬ ((a = 41 ∧ j = 16) ∨ (a = 41 ∧ j = 17) ∨ (a = 41 ∧ j = 18) ∨ (a = 41 ∧ j = 19)) := (fun q => q.elim (fun h => hm (Or.inr (Or.inr (Or.inr (Or.inr (Or.inr (Or.inr (Or.inr (Or.inr (Or.inr (Or.inl h))))))))))) (fun q => q.elim (fun h => hm (Or.inr (Or.inr (Or.inr (Or.inr (Or.inr (Or.inr (Or.inr (Or.inr (Or.inr (Or.inr (Or.inl h)))))))))))) (fun q => q.elim (fun h => hm (Or.inr (Or.inr (Or.inr (Or.inr (Or.inr (Or.inr (Or.inr (Or.inr (Or.inr (Or.inr (Or.inr (Or.inl h))))))))))))) (fun h => hm (Or.inr (Or.inr (Or.inr (Or.inr (Or.inr (Or.inr (Or.inr (Or.inr (Or.inr (Or.inr (Or.inr (Or.inr (Or.inl h)))))))))))))))))
theorem qv_efbc52a90 {a : Nat} {j : Int} (hm : ¬ ((a = 41 ∧ j = 0) ∨ a = 42 ∨ (a = 41 ∧ j = 2) ∨ (a = 41 ∧ j = 3) ∨ (a = 41 ∧ j = 4) ∨ (a = 41 ∧ j = 5) ∨ (a = 41 ∧ j = 6) ∨ (a = 41 ∧ j = 7) ∨ (a = 41 ∧ j = 8) ∨ (a = 41 ∧ j = 16) ∨ (a = 41 ∧ j = 17) ∨ (a = 41 ∧ j = 18) ∨ (a = 41 ∧ j = 19) ∨ a = 44 ∨ a = 45 ∨ a = 46 ∨ (a = 41 ∧ j = 20) ∨ (a = 41 ∧ j = 21) ∨ (a = 41 ∧ j = 22) ∨ (a = 41 ∧ j = 23) ∨ (a = 41 ∧ j = 30) ∨ (a = 41 ∧ j = 35) ∨ (a = 41 ∧ j = 36) ∨ (a = 41 ∧ j = 47) ∨ (a = 41 ∧ j = 48) ∨ (a = 41 ∧ j = 52) ∨ a = 47 ∨ a = 48 ∨ a = 49 ∨ a = 58 ∨ a = 64)) : ¬ ((a = 41 ∧ j = 2) ∨ (a = 41 ∧ j = 3) ∨ (a = 41 ∧ j = 4) ∨ (a = 41 ∧ j = 5) ∨ (a = 41 ∧ j = 7) ∨ (a = 41 ∧ j = 8)) := (fun q => q.elim (fun h => hm (Or.inr (Or.inr (Or.inl h)))) (fun q => q.elim (fun h => hm (Or.inr (Or.inr (Or.inr (Or.inl h))))) (fun q => q.elim (fun h => hm (Or.inr (Or.inr (Or.inr (Or.inr (Or.inl h)))))) (fun q => q.elim (fun h => hm (Or.inr (Or.inr (Or.inr (Or.inr (Or.inr (Or.inl h))))))) (fun q => q.elim (fun h => hm (Or.inr (Or.inr (Or.inr (Or.inr (Or.inr (Or.inr (Or.inr (Or.inl h))))))))) (fun h => hm (Or.inr (Or.inr (Or.inr (Or.inr (Or.inr (Or.inr (Or.inr (Or.inr (Or.inl h)))))))))))))))
theorem q_59baff7b3 {x0 x1 x2 x3 x4 x5 : Int} (f0 : (x0 = x1 ∧ x2 = 0 ∧ x3 = (-1) ∧ x4 = 0 ∧ x5 = 0)) (f1 : 0 ≤ x5 ∧ x5 ≤ 600) : x5 = 0 := by omega
theorem q_9fe1ab52f {x0 x1 : Int} (f0 : (-1) ≤ x0 ∧ x0 ≤ 605) (f1 : ¬ (x0 ≠ (-1))) (f2 : (x0 < (-1)) ∨ (x0 > (-1)) ∨ (x1 ≤ 149)) : x1 < 150 := by omega
theorem q_2e3028bfc {x0 x1 : Int} (f0 : (-1) ≤ x0 ∧ x0 ≤ 605) (f1 : ¬ (x0 ≠ (-1))) (f2 : (x0 < (-1)) ∨ (x0 > (-1)) ∨ (x1 ≤ 149)) : x1 + 1 ≤ 150 := by omega
theorem q_d93b4b86d {x0 : Int} (f0 : (x0 ≤ 6)) : x0 + 1 ≤ 7 := by omega
theorem q_868bc2241 {x0 x1 : Int} (f0 : 0 ≤ x0 ∧ x0 ≤ 605) (f1 : 1 ≤ x1 ∧ x1 ≤ 5) : 0 ≤ x1 + x0 := by omega
theorem q_767d1879c {x0 x1 : Int} (f0 : 1 ≤ x0 ∧ x0 ≤ 5) (f1 : (x1 ≤ 600)) : x0 + x1 ≤ 605 := by omega
theorem q_8b7d833aa {x0 x1 : Int} (f0 : 1 ≤ x0 ∧ x0 ≤ 5) : x1 ≤ x0 + x1 := by omega
theorem q_93abdb908 {x0 : Int} (f0 : x0 ≠ 6) (f1 : (x0 ≤ 6)) : x0 ≤ 5 := by omega
theorem qv_8e058f158 {a : Nat} {j : Int} (hm : ¬ ((a = 41 ∧ j = 4) ∨ (a = 41 ∧ j = 5) ∨ (a = 41 ∧ j = 6) ∨ (a = 41 ∧ j = 7))) : ¬ ((a = 41 ∧ j = 5) ∨ (a = 41 ∧ j = 6)) := (fun q => q.elim (fun h => hm (Or.inr (Or.inl h))) (fun h => hm (Or.inr (Or.inr (Or.inl h)))))
theorem q_5c057ca89 {x0 x1 x2 : Int} (f0 : ¬ (x0 ≠ 10290)) (f1 : (x0 = 0) ∨ (x1 < x2)) : x1 ≤ x2 := by omega
theorem q_203aa9da5 {x0 x1 x2 : Int} (f0 : ¬ (x0 ≠ 10290)) (f1 : (x0 = 0) ∨ (x1 < x2)) : x1 < x2 := by omega
theorem q_3042ac70b {x0 x1 : Int} (f0 : (x0 = 0) ∨ (x1 ≥ 97 ∧ x1 ≤ 122)) (f1 : ¬ (x0 ≠ 10290)) : 97 ≤ x1 := by omega
theorem q_6bdace0c3 {x0 x1 : Int} (f0 : (x0 = 0) ∨ (x1 ≥ 97 ∧ x1 ≤ 122)) (f1 : ¬ (x0 ≠ 10290)) : x1 ≤ 122 := by omega
theorem q_6f6ed5c48 {x0 x1 x2 : Int} (f0 : ¬ (x0 ≠ 4153)) (f1 : (x0 = 0) ∨ (x1 < x2)) : x1 ≤ x2 := by omega
theorem q_7524d8b1c {x0 x1 x2 : Int} (f0 : ¬ (x0 ≠ 4153)) (f1 : (x0 = 0) ∨ (x1 < x2)) : x1 < x2 := by omega
theorem q_fdcd0129e {x0 x1 : Int} (f0 : (x0 = 0) ∨ (x1 ≥ 97 ∧ x1 ≤ 122)) (f1 : ¬ (x0 ≠ 4153)) : 97 ≤ x1 := by omega
theorem q_2c5702d5a {x0 x1 : Int} (f0 : (x0 = 0) ∨ (x1 ≥ 97 ∧ x1 ≤ 122)) (f1 : ¬ (x0 ≠ 4153)) : x1 ≤ 122 := by omega
theorem q_91ec420c0 {x0 x1 x2 : Int} (f0 : ¬ (x0 ≠ 1253)) (f1 : (x0 = 0) ∨ (x1 < x2)) : x1 ≤ x2 := by omega
theorem q_c75f3e236 {x0 x1 x2 : Int} (f0 : ¬ (x0 ≠ 1253)) (f1 : (x0 = 0) ∨ (x1 < x2)) : x1 < x2 := by omega
theorem q_99a21464f {x0 x1 : Int} (f0 : (x0 = 0) ∨ (x1 ≥ 97 ∧ x1 ≤ 122)) (f1 : ¬ (x0 ≠ 1253)) : 97 ≤ x1 := by omega
theorem q_f59d7a0ad {x0 x1 : Int} (f0 : (x0 = 0) ∨ (x1 ≥ 97 ∧ x1 ≤ 122)) (f1 : ¬ (x0 ≠ 1253)) : x1 ≤ 122 := by omega
theorem q_fd33fc64e {x0 x1 x2 : Int} (f0 : ¬ (x0 ≠ 1420)) (f1 : (x0 = 0) ∨ (x1 < x2)) : x1 ≤ x2 := by omega
theorem q_b5c5a7aec {x0 x1 x2 : Int} (f0 : ¬ (x0 ≠ 1420)) (f1 : (x0 = 0) ∨ (x1 < x2)) : x1 < x2 := by omega
theorem q_4507e9cbf {x0 x1 : Int} (f0 : (x0 = 0) ∨ (x1 ≥ 97 ∧ x1 ≤ 122)) (f1 : ¬ (x0 ≠ 1420)) : 97 ≤ x1 := by omega
theorem q_b91fc2c33 {x0 x1 : Int} (f0 : (x0 = 0) ∨ (x1 ≥ 97 ∧ x1 ≤ 122)) (f1 : ¬ (x0 ≠ 1420)) : x1 ≤ 122 := by omega
theorem q_914186d62 {x0 x1 x2 : Int} (f0 : ¬ (x0 ≠ 284267)) (f1 : (x0 = 0) ∨ (x1 < x2)) : x1 ≤ x2 := by omega
theorem q_2aafd4642 {x0 x1 x2 : Int} (f0 : ¬ (x0 ≠ 284267)) (f1 : (x0 = 0) ∨ (x1 < x2)) : x1 < x2 := by omega
theorem q_16044769b {x0 x1 : Int} (f0 : (x0 = 0) ∨ (x1 ≥ 97 ∧ x1 ≤ 122)) (f1 : ¬ (x0 ≠ 284267)) : 97 ≤ x1 := by omega
theorem q_aeeaf479c {x0 x1 : Int} (f0 : (x0 = 0) ∨ (x1 ≥ 97 ∧ x1 ≤ 122)) (f1 : ¬ (x0 ≠ 284267)) : x1 ≤ 122 := by omega
theorem q_f38c05a73 {x0 x1 x2 : Int} (f0 : ¬ (x0 ≠ 116443749)) (f1 : (x0 = 0) ∨ (x1 < x2)) : x1 ≤ x2 := by omega
theorem q_fb6900f31 {x0 x1 x2 : Int} (f0 : ¬ (x0 ≠ 116443749)) (f1 : (x0 = 0) ∨ (x1 < x2)) : x1 < x2 := by omega
theorem q_1d1877f22 {x0 x1 : Int} (f0 : (x0 = 0) ∨ (x1 ≥ 97 ∧ x1 ≤ 122)) (f1 : ¬ (x0 ≠ 116443749)) : 97 ≤ x1 := by omega
theorem q_8a1d43d40 {x0 x1 : Int} (f0 : (x0 = 0) ∨ (x1 ≥ 97 ∧ x1 ≤ 122)) (f1 : ¬ (x0 ≠ 116443749)) : x1 ≤ 122 := by omega
theorem q_fa3e54dd0 {x0 x1 x2 : Int} (f0 : ¬ (x0 ≠ 13604)) (f1 : (x0 = 0) ∨ (x1 < x2)) : x1 ≤ x2 := by omega
theorem q_7ebac47cc {x0 x1 x2 : Int} (f0 : ¬ (x0 ≠ 13604)) (f1 : (x0 = 0) ∨ (x1 < x2)) : x1 < x2 := by omega
theorem q_9cb28aaa9 {x0 x1 : Int} (f0 : (x0 = 0) ∨ (x1 ≥ 97 ∧ x1 ≤ 122)) (f1 : ¬ (x0 ≠ 13604)) : 97 ≤ x1 := by omega
theorem q_1c6d0c785 {x0 x1 : Int} (f0 : (x0 = 0) ∨ (x1 ≥ 97 ∧ x1 ≤ 122)) (f1 : ¬ (x0 ≠ 13604)) : x1 ≤ 122 := by omega
theorem q_8717197ce {x0 x1 x2 : Int} (f0 : ¬ (x0 ≠ 206277)) (f1 : (x0 = 0) ∨ (x1 < x2)) : x1 ≤ x2 := by omega
theorem q_0a8257a80 {x0 x1 x2 : Int} (f0 : ¬ (x0 ≠ 206277)) (f1 : (x0 = 0) ∨ (x1 < x2)) : x1 < x2 := by omega
theorem q_a19c85173 {x0 x1 : Int} (f0 : (x0 = 0) ∨ (x1 ≥ 97 ∧ x1 ≤ 122)) (f1 : ¬ (x0 ≠ 206277)) : 97 ≤ x1 := by omega
theorem q_3876dfec8 {x0 x1 : Int} (f0 : (x0 = 0) ∨ (x1 ≥ 97 ∧ x1 ≤ 122)) (f1 : ¬ (x0 ≠ 206277)) : x1 ≤ 122 := by omega
theorem c_160_41 : mLk 160 41 = some (.aload_n 0, 1) := rfl
theorem c_160_42 : mLk 160 42 = some (.getfield 108, 3) := rfl
theorem c_160_45 : mLk 160 45 = some (.aload_n 0, 1) := rfl
theorem c_160_46 : mLk 160 46 = some (.getfield 111, 3) := rfl
theorem c_160_49 : mLk 160 49 = some (.if_icmp .ge 65, 3) := rfl
theorem c_160_114 : mLk 160 114 = some (.iload 5, 2) := rfl
theorem c_160_116 : mLk 160 116 = some (.iload_n 1, 1) := rfl
theorem c_160_117 : mLk 160 117 = some (.if_icmp .lt 9, 3) := rfl
theorem c_160_126 : mLk 160 126 = some (.aload_n 0, 1) := rfl
theorem c_160_127 : mLk 160 127 = some (.iconst 2, 1) := rfl
theorem c_160_128 : mLk 160 128 = some (.iload 4, 2) := rfl
theorem c_160_130 : mLk 160 130 = some (.invokevirtual 138, 3) := rfl
theorem c_160_133 : mLk 160 133 = some (.iconst 0, 1) := rfl
theorem c_160_134 : mLk 160 134 = some (.ireturn, 1) := rfl
theorem c_160_120 : mLk 160 120 = some (.iload 5, 2) := rfl
theorem c_160_122 : mLk 160 122 = some (.iload_n 2, 1) := rfl
theorem c_160_123 : mLk 160 123 = some (.if_icmp .le 12, 3) := rfl
theorem c_160_135 : mLk 160 135 = some (.iload 5, 2) := rfl
theorem c_160_137 : mLk 160 137 = some (.ireturn, 1) := rfl
theorem c_160_52 : mLk 160 52 = some (.aload_n 0, 1) := rfl
theorem c_160_53 : mLk 160 53 = some (.getfield 20, 3) := rfl
theorem c_160_56 : mLk 160 56 = some (.aload_n 0, 1) := rfl
theorem c_160_57 : mLk 160 57 = some (.getfield 108, 3) := rfl
theorem c_160_60 : mLk 160 60 = some (.iaload, 1) := rfl
theorem c_160_61 : mLk 160 61 = some (.invokestatic 135, 3) := rfl
theorem c_156_0 : mLk 156 0 = some (.iload_n 0, 1) := rfl
theorem c_156_1 : mLk 156 1 = some (.bipush 48, 2) := rfl
theorem c_156_3 : mLk 156 3 = some (.if_icmp .lt 13, 3) := rfl
theorem c_156_16 : mLk 156 16 = some (.iconst 0, 1) := rfl
theorem c_156_17 : mLk 156 17 = some (.ireturn, 1) := rfl
theorem c_160_64 : mLk 160 64 = some (.ifCond .eq 50, 3) := rfl
theorem c_156_6 : mLk 156 6 = some (.iload_n 0, 1) := rfl
theorem c_156_7 : mLk 156 7 = some (.bipush 57, 2) := rfl
theorem c_156_9 : mLk 156 9 = some (.if_icmp .gt 7, 3) := rfl
theorem c_156_12 : mLk 156 12 = some (.iconst 1, 1) := rfl
theorem c_156_13 : mLk 156 13 = some (.goto 4, 3) := rfl
theorem c_160_67 : mLk 160 67 = some (.iload 5, 2) := rfl
theorem c_160_69 : mLk 160 69 = some (.sipush 9999, 3) := rfl
theorem c_160_72 : mLk 160 72 = some (.if_icmp .le 9, 3) := rfl
theorem c_160_81 : mLk 160 81 = some (.bipush 10, 2) := rfl
theorem c_160_83 : mLk 160 83 = some (.iload 5, 2) := rfl
theorem c_160_85 : mLk 160 85 = some (.imul, 1) := rfl
theorem c_160_86 : mLk 160 86 = some (.aload_n 0, 1) := rfl
theorem c_160_87 : mLk 160 87 = some (.getfield 20, 3) := rfl
theorem c_160_90 : mLk 160 90 = some (.aload_n 0, 1) := rfl
theorem c_160_91 : mLk 160 91 = some (.getfield 108, 3) := rfl
theorem c_160_94 : mLk 160 94 = some (.iaload, 1) := rfl
theorem c_160_95 : mLk 160 95 = some (.iadd, 1) := rfl
theorem c_160_96 : mLk 160 96 = some (.bipush 48, 2) := rfl
theorem c_160_98 : mLk 160 98 = some (.isub, 1) := rfl
theorem c_160_99 : mLk 160 99 = some (.istore 5, 2) := rfl
theorem c_160_101 : mLk 160 101 = some (.aload_n 0, 1) := rfl
theorem c_160_102 : mLk 160 102 = some (.dup, 1) := rfl
theorem c_160_103 : mLk 160 103 = some (.getfield 108, 3) := rfl
theorem c_160_106 : mLk 160 106 = some (.iconst 1, 1) := rfl
theorem c_160_107 : mLk 160 107 = some (.iadd, 1) := rfl
theorem c_160_108 : mLk 160 108 = some (.putfield 108, 3) := rfl
theorem c_160_111 : mLk 160 111 = some (.goto (-70), 3) := rfl
theorem c_160_75 : mLk 160 75 = some (.sipush 10000, 3) := rfl
theorem c_160_78 : mLk 160 78 = some (.goto 21, 3) := rfl
theorem c_160_0 : mLk 160 0 = some (.aload_n 0, 1) := rfl
theorem c_160_1 : mLk 160 1 = some (.invokevirtual 131, 3) := rfl
theorem c_152_0 : mLk 152 0 = some (.aload_n 0, 1) := rfl
theorem c_152_1 : mLk 152 1 = some (.getfield 102, 3) := rfl
theorem c_152_4 : mLk 152 4 = some (.iconst (-1), 1) := rfl
theorem c_152_5 : mLk 152 5 = some (.if_icmp .ne 7, 3) := rfl
theorem c_152_12 : mLk 152 12 = some (.iconst 0, 1) := rfl
theorem c_152_13 : mLk 152 13 = some (.ireturn, 1) := rfl
theorem c_160_4 : mLk 160 4 = some (.ifCond .ne 5, 3) := rfl
theorem c_160_7 : mLk 160 7 = some (.iconst 0, 1) := rfl
theorem c_160_8 : mLk 160 8 = some (.ireturn, 1) := rfl
theorem c_152_8 : mLk 152 8 = some (.iconst 1, 1) := rfl
theorem c_152_9 : mLk 152 9 = some (.goto 4, 3) := rfl
theorem c_160_9 : mLk 160 9 = some (.aload_n 0, 1) := rfl
theorem c_160_10 : mLk 160 10 = some (.invokevirtual 114, 3) := rfl
theorem c_160_13 : mLk 160 13 = some (.istore_n 3, 1) := rfl
theorem c_160_14 : mLk 160 14 = some (.aload_n 0, 1) := rfl
theorem c_160_15 : mLk 160 15 = some (.getfield 108, 3) := rfl
theorem c_160_18 : mLk 160 18 = some (.istore 4, 2) := rfl
theorem c_160_20 : mLk 160 20 = some (.iconst 0, 1) := rfl
theorem c_160_21 : mLk 160 21 = some (.istore 5, 2) := rfl
theorem c_160_23 : mLk 160 23 = some (.iload_n 3, 1) := rfl
theorem c_160_24 : mLk 160 24 = some (.invokestatic 135, 3) := rfl
theorem c_160_27 : mLk 160 27 = some (.ifCond .ne 14, 3) := rfl
theorem c_160_30 : mLk 160 30 = some (.aload_n 0, 1) := rfl
theorem c_160_31 : mLk 160 31 = some (.iconst 1, 1) := rfl
theorem c_160_32 : mLk 160 32 = some (.aload_n 0, 1) := rfl
theorem c_160_33 : mLk 160 33 = some (.getfield 108, 3) := rfl
theorem c_160_36 : mLk 160 36 = some (.invokevirtual 138, 3) := rfl
theorem c_160_39 : mLk 160 39 = some (.iconst 0, 1) := rfl
theorem c_160_40 : mLk 160 40 = some (.ireturn, 1) := rfl
theorem c_161_0 : mLk 161 0 = some (.aload_n 0, 1) := rfl
theorem c_161_1 : mLk 161 1 = some (.invokevirtual 131, 3) := rfl
theorem c_161_4 : mLk 161 4 = some (.ifCond .eq 20, 3) := rfl
theorem c_161_24 : mLk 161 24 = some (.aload_n 0, 1) := rfl
theorem c_161_25 : mLk 161 25 = some (.invokevirtual 131, 3) := rfl
theorem c_161_28 : mLk 161 28 = some (.ifCond .eq 13, 3) := rfl
theorem c_161_7 : mLk 161 7 = some (.aload_n 0, 1) := rfl
theorem c_161_8 : mLk 161 8 = some (.invokevirtual 114, 3) := rfl
theorem c_161_11 : mLk 161 11 = some (.iload_n 1, 1) := rfl
theorem c_161_12 : mLk 161 12 = some (.if_icmp .eq 12, 3) := rfl
theorem c_161_31 : mLk 161 31 = some (.aload_n 0, 1) := rfl
theorem c_161_32 : mLk 161 32 = some (.dup, 1) := rfl
theorem c_161_33 : mLk 161 33 = some (.getfield 108, 3) := rfl
theorem c_161_36 : mLk 161 36 = some (.iconst 1, 1) := rfl
theorem c_161_37 : mLk 161 37 = some (.iadd, 1) := rfl
theorem c_161_38 : mLk 161 38 = some (.putfield 108, 3) := rfl
theorem c_161_15 : mLk 161 15 = some (.aload_n 0, 1) := rfl
theorem c_161_16 : mLk 161 16 = some (.iconst 1, 1) := rfl
theorem c_161_17 : mLk 161 17 = some (.aload_n 0, 1) := rfl
theorem c_161_18 : mLk 161 18 = some (.getfield 108, 3) := rfl
theorem c_161_21 : mLk 161 21 = some (.invokevirtual 138, 3) := rfl
theorem c_162_0 : mLk 162 0 = some (.aload_n 0, 1) := rfl
theorem c_162_1 : mLk 162 1 = some (.invokevirtual 114, 3) := rfl
theorem c_162_4 : mLk 162 4 = some (.pop, 1) := rfl
theorem c_162_5 : mLk 162 5 = some (.aload_n 0, 1) := rfl
theorem c_162_6 : mLk 162 6 = some (.getfield 108, 3) := rfl
theorem c_162_9 : mLk 162 9 = some (.aload_n 0, 1) := rfl
theorem c_162_10 : mLk 162 10 = some (.getfield 111, 3) := rfl
theorem c_162_13 : mLk 162 13 = some (.if_icmp .ge 7, 3) := rfl
theorem c_162_20 : mLk 162 20 = some (.iconst 0, 1) := rfl
theorem c_162_21 : mLk 162 21 = some (.ireturn, 1) := rfl
theorem c_162_16 : mLk 162 16 = some (.iconst 1, 1) := rfl
theorem c_162_17 : mLk 162 17 = some (.goto 4, 3) := rfl
theorem c_163_0 : mLk 163 0 = some (.aload_n 0, 1) := rfl
theorem c_163_1 : mLk 163 1 = some (.iconst 0, 1) := rfl
theorem c_163_2 : mLk 163 2 = some (.putfield 99, 3) := rfl
theorem c_163_5 : mLk 163 5 = some (.aload_n 0, 1) := rfl
theorem c_163_6 : mLk 163 6 = some (.iconst (-1), 1) := rfl
theorem c_163_7 : mLk 163 7 = some (.putfield 17, 3) := rfl
theorem c_163_10 : mLk 163 10 = some (.aload_n 0, 1) := rfl
theorem c_163_11 : mLk 163 11 = some (.iload_n 1, 1) := rfl
theorem c_163_12 : mLk 163 12 = some (.putfield 111, 3) := rfl
theorem c_163_15 : mLk 163 15 = some (.aload_n 0, 1) := rfl
theorem c_163_16 : mLk 163 16 = some (.iconst 0, 1) := rfl
theorem c_163_17 : mLk 163 17 = some (.putfield 108, 3) := rfl
theorem c_163_20 : mLk 163 20 = some (.aload_n 0, 1) := rfl
theorem c_163_21 : mLk 163 21 = some (.iconst (-1), 1) := rfl
theorem c_163_22 : mLk 163 22 = some (.putfield 102, 3) := rfl
theorem c_163_25 : mLk 163 25 = some (.aload_n 0, 1) := rfl
theorem c_163_26 : mLk 163 26 = some (.iconst 0, 1) := rfl
theorem c_163_27 : mLk 163 27 = some (.putfield 142, 3) := rfl
theorem c_164_0 : mLk 164 0 = some (.aload_n 0, 1) := rfl
theorem c_164_1 : mLk 164 1 = some (.aload_n 0, 1) := rfl
theorem c_164_2 : mLk 164 2 = some (.getfield 102, 3) := rfl
theorem c_164_5 : mLk 164 5 = some (.putfield 17, 3) := rfl
theorem c_164_8 : mLk 164 8 = some (.aload_n 0, 1) := rfl
theorem c_164_9 : mLk 164 9 = some (.invokevirtual 131, 3) := rfl
theorem c_164_12 : mLk 164 12 = some (.ifCond .eq 7, 3) := rfl
theorem c_164_19 : mLk 164 19 = some (.aload_n 0, 1) := rfl
theorem c_164_20 : mLk 164 20 = some (.getfield 105, 3) := rfl
theorem c_164_23 : mLk 164 23 = some (.bipush 10, 2) := rfl
theorem c_164_25 : mLk 164 25 = some (.isub, 1) := rfl
theorem c_164_26 : mLk 164 26 = some (.ireturn, 1) := rfl
theorem c_164_15 : mLk 164 15 = some (.iload_n 1, 1) := rfl
theorem c_164_16 : mLk 164 16 = some (.goto 10, 3) := rfl
theorem c_165_0 : mLk 165 0 = some (.aload_n 0, 1) := rfl
theorem c_165_1 : mLk 165 1 = some (.iconst 0, 1) := rfl
theorem c_165_2 : mLk 165 2 = some (.putfield 3, 3) := rfl
theorem c_165_5 : mLk 165 5 = some (.aload_n 0, 1) := rfl
theorem c_165_6 : mLk 165 6 = some (.getfield 17, 3) := rfl
theorem c_165_9 : mLk 165 9 = some (.ireturn, 1) := rfl
theorem c_166_0 : mLk 166 0 = some (.iload_n 0, 1) := rfl
theorem c_166_1 : mLk 166 1 = some (.ldc 191, 2) := rfl
theorem c_166_3 : mLk 166 3 = some (.invokestatic 192, 3) := rfl
theorem c_166_6 : mLk 166 6 = some (.if_icmp .eq 30, 3) := rfl
theorem c_166_36 : mLk 166 36 = some (.iconst 1, 1) := rfl
theorem c_166_37 : mLk 166 37 = some (.goto 4, 3) := rfl
theorem c_166_41 : mLk 166 41 = some (.ireturn, 1) := rfl
theorem c_166_9 : mLk 166 9 = some (.iload_n 0, 1) := rfl
theorem c_166_10 : mLk 166 10 = some (.ldc 196, 2) := rfl
theorem c_166_12 : mLk 166 12 = some (.invokestatic 192, 3) := rfl
theorem c_166_15 : mLk 166 15 = some (.if_icmp .eq 21, 3) := rfl
theorem c_166_18 : mLk 166 18 = some (.iload_n 0, 1) := rfl
theorem c_166_19 : mLk 166 19 = some (.ldc 197, 2) := rfl
theorem c_166_21 : mLk 166 21 = some (.invokestatic 192, 3) := rfl
theorem c_166_24 : mLk 166 24 = some (.if_icmp .eq 12, 3) := rfl
theorem c_166_27 : mLk 166 27 = some (.iload_n 0, 1) := rfl
theorem c_166_28 : mLk 166 28 = some (.ldc 198, 2) := rfl
theorem c_166_30 : mLk 166 30 = some (.invokestatic 192, 3) := rfl
theorem c_166_33 : mLk 166 33 = some (.if_icmp .ne 7, 3) := rfl
theorem c_166_40 : mLk 166 40 = some (.iconst 0, 1) := rfl
theorem c_168_11 : mLk 168 11 = some (.iload_n 2, 1) := rfl
theorem c_168_12 : mLk 168 12 = some (.iconst 4, 1) := rfl
theorem c_168_13 : mLk 168 13 = some (.if_icmp .ge 30, 3) := rfl
theorem c_168_43 : mLk 168 43 = some (.aload_n 0, 1) := rfl
theorem c_168_44 : mLk 168 44 = some (.dup, 1) := rfl
theorem c_168_45 : mLk 168 45 = some (.getfield 145, 3) := rfl
theorem c_168_48 : mLk 168 48 = some (.iconst 1, 1) := rfl
theorem c_168_49 : mLk 168 49 = some (.iadd, 1) := rfl
theorem c_168_50 : mLk 168 50 = some (.putfield 145, 3) := rfl
theorem c_168_53 : mLk 168 53 = some (.goto 106, 3) := rfl
theorem c_168_16 : mLk 168 16 = some (.aload_n 0, 1) := rfl
theorem c_168_17 : mLk 168 17 = some (.getfield 23, 3) := rfl
theorem c_168_20 : mLk 168 20 = some (.iconst 4, 1) := rfl
theorem c_168_21 : mLk 168 21 = some (.aload_n 0, 1) := rfl
theorem c_168_22 : mLk 168 22 = some (.getfield 145, 3) := rfl
theorem c_168_25 : mLk 168 25 = some (.imul, 1) := rfl
theorem c_168_26 : mLk 168 26 = some (.iload_n 2, 1) := rfl
theorem c_168_27 : mLk 168 27 = some (.iadd, 1) := rfl
theorem c_168_28 : mLk 168 28 = some (.aload_n 0, 1) := rfl
theorem c_168_29 : mLk 168 29 = some (.iconst 0, 1) := rfl
theorem c_168_30 : mLk 168 30 = some (.sipush 999, 3) := rfl
theorem c_168_33 : mLk 168 33 = some (.invokevirtual 199, 3) := rfl
theorem c_168_36 : mLk 168 36 = some (.iastore, 1) := rfl
theorem c_168_37 : mLk 168 37 = some (.iinc 2 1, 3) := rfl
theorem c_168_40 : mLk 168 40 = some (.goto (-29), 3) := rfl
theorem c_168_67 : mLk 168 67 = some (.iload_n 2, 1) := rfl
theorem c_168_68 : mLk 168 68 = some (.iconst 3, 1) := rfl
theorem c_168_69 : mLk 168 69 = some (.if_icmp .ge 29, 3) := rfl
theorem c_168_98 : mLk 168 98 = some (.aload_n 0, 1) := rfl
theorem c_168_99 : mLk 168 99 = some (.dup, 1) := rfl
theorem c_168_100 : mLk 168 100 = some (.getfield 148, 3) := rfl
theorem c_168_103 : mLk 168 103 = some (.iconst 1, 1) := rfl
theorem c_168_104 : mLk 168 104 = some (.iadd, 1) := rfl
theorem c_168_105 : mLk 168 105 = some (.putfield 148, 3) := rfl
theorem c_168_108 : mLk 168 108 = some (.goto 51, 3) := rfl
theorem c_168_72 : mLk 168 72 = some (.aload_n 0, 1) := rfl
theorem c_168_73 : mLk 168 73 = some (.getfield 26, 3) := rfl
theorem c_168_76 : mLk 168 76 = some (.iconst 3, 1) := rfl
theorem c_168_77 : mLk 168 77 = some (.aload_n 0, 1) := rfl
theorem c_168_78 : mLk 168 78 = some (.getfield 148, 3) := rfl
theorem c_168_81 : mLk 168 81 = some (.imul, 1) := rfl
theorem c_168_82 : mLk 168 82 = some (.iload_n 2, 1) := rfl
theorem c_168_83 : mLk 168 83 = some (.iadd, 1) := rfl
theorem c_168_84 : mLk 168 84 = some (.aload_n 0, 1) := rfl
theorem c_168_85 : mLk 168 85 = some (.iconst 0, 1) := rfl
theorem c_168_86 : mLk 168 86 = some (.bipush 10, 2) := rfl
theorem c_168_88 : mLk 168 88 = some (.invokevirtual 199, 3) := rfl
theorem c_168_91 : mLk 168 91 = some (.iastore, 1) := rfl
theorem c_168_92 : mLk 168 92 = some (.iinc 2 1, 3) := rfl
theorem c_168_95 : mLk 168 95 = some (.goto (-28), 3) := rfl
theorem c_168_0 : mLk 168 0 = some (.iload_n 1, 1) := rfl
theorem c_168_1 : mLk 168 1 = some (.ldc 191, 2) := rfl
theorem c_168_3 : mLk 168 3 = some (.invokestatic 192, 3) := rfl
theorem c_168_6 : mLk 168 6 = some (.if_icmp .ne 50, 3) := rfl
theorem c_168_56 : mLk 168 56 = some (.iload_n 1, 1) := rfl
theorem c_168_57 : mLk 168 57 = some (.ldc 196, 2) := rfl
theorem c_168_59 : mLk 168 59 = some (.invokestatic 192, 3) := rfl
theorem c_168_62 : mLk 168 62 = some (.if_icmp .ne 49, 3) := rfl
theorem c_168_111 : mLk 168 111 = some (.iload_n 1, 1) := rfl
theorem c_168_112 : mLk 168 112 = some (.ldc 197, 2) := rfl
theorem c_168_114 : mLk 168 114 = some (.invokestatic 192, 3) := rfl
theorem c_168_117 : mLk 168 117 = some (.if_icmp .ne 31, 3) := rfl
theorem c_168_148 : mLk 168 148 = some (.aload_n 0, 1) := rfl
theorem c_168_149 : mLk 168 149 = some (.aload_n 0, 1) := rfl
theorem c_168_150 : mLk 168 150 = some (.iconst 0, 1) := rfl
theorem c_168_151 : mLk 168 151 = some (.bipush 50, 2) := rfl
theorem c_168_153 : mLk 168 153 = some (.invokevirtual 199, 3) := rfl
theorem c_168_156 : mLk 168 156 = some (.putfield 154, 3) := rfl
theorem c_168_120 : mLk 168 120 = some (.aload_n 0, 1) := rfl
theorem c_168_121 : mLk 168 121 = some (.getfield 29, 3) := rfl
theorem c_168_124 : mLk 168 124 = some (.aload_n 0, 1) := rfl
theorem c_168_125 : mLk 168 125 = some (.getfield 151, 3) := rfl
theorem c_168_128 : mLk 168 128 = some (.aload_n 0, 1) := rfl
theorem c_168_129 : mLk 168 129 = some (.iconst 0, 1) := rfl
theorem c_168_130 : mLk 168 130 = some (.iconst 2, 1) := rfl
theorem c_168_131 : mLk 168 131 = some (.invokevirtual 199, 3) := rfl
theorem c_168_134 : mLk 168 134 = some (.iastore, 1) := rfl
theorem c_168_135 : mLk 168 135 = some (.aload_n 0, 1) := rfl
theorem c_168_136 : mLk 168 136 = some (.dup, 1) := rfl
theorem c_168_137 : mLk 168 137 = some (.getfield 151, 3) := rfl
theorem c_168_140 : mLk 168 140 = some (.iconst 1, 1) := rfl
theorem c_168_141 : mLk 168 141 = some (.iadd, 1) := rfl
theorem c_168_142 : mLk 168 142 = some (.putfield 151, 3) := rfl
theorem c_168_145 : mLk 168 145 = some (.goto 14, 3) := rfl
theorem c_168_65 : mLk 168 65 = some (.iconst 0, 1) := rfl
theorem c_168_66 : mLk 168 66 = some (.istore_n 2, 1) := rfl
theorem c_168_9 : mLk 168 9 = some (.iconst 0, 1) := rfl
theorem c_168_10 : mLk 168 10 = some (.istore_n 2, 1) := rfl
theorem c_169_44 : mLk 169 44 = some (.aload_n 0, 1) := rfl
theorem c_169_45 : mLk 169 45 = some (.invokevirtual 131, 3) := rfl
theorem c_169_48 : mLk 169 48 = some (.ifCond .eq 88, 3) := rfl
theorem c_169_136 : mLk 169 136 = some (.aload_n 0, 1) := rfl
theorem c_169_137 : mLk 169 137 = some (.aload_n 0, 1) := rfl
theorem c_169_138 : mLk 169 138 = some (.getfield 145, 3) := rfl
theorem c_169_141 : mLk 169 141 = some (.invokevirtual 232, 3) := rfl
theorem c_169_144 : mLk 169 144 = some (.istore_n 3, 1) := rfl
theorem c_169_145 : mLk 169 145 = some (.aload_n 0, 1) := rfl
theorem c_169_146 : mLk 169 146 = some (.getfield 102, 3) := rfl
theorem c_169_149 : mLk 169 149 = some (.iconst (-1), 1) := rfl
theorem c_169_150 : mLk 169 150 = some (.if_icmp .ne 7, 3) := rfl
theorem c_169_157 : mLk 169 157 = some (.iload_n 3, 1) := rfl
theorem c_169_158 : mLk 169 158 = some (.ireturn, 1) := rfl
theorem c_169_51 : mLk 169 51 = some (.aload_n 0, 1) := rfl
theorem c_169_52 : mLk 169 52 = some (.invokevirtual 211, 3) := rfl
theorem c_169_55 : mLk 169 55 = some (.ifCond .eq 81, 3) := rfl
theorem c_169_153 : mLk 169 153 = some (.aload_n 0, 1) := rfl
theorem c_169_154 : mLk 169 154 = some (.invokevirtual 96, 3) := rfl
theorem c_169_58 : mLk 169 58 = some (.aload_n 0, 1) := rfl
theorem c_169_59 : mLk 169 59 = some (.invokevirtual 214, 3) := rfl
theorem c_169_62 : mLk 169 62 = some (.istore_n 3, 1) := rfl
theorem c_169_63 : mLk 169 63 = some (.iload_n 3, 1) := rfl
theorem c_169_64 : mLk 169 64 = some (.invokestatic 217, 3) := rfl
theorem c_169_67 : mLk 169 67 = some (.ifCond .ne 15, 3) := rfl
theorem c_169_82 : mLk 169 82 = some (.iload_n 2, 1) := rfl
theorem c_169_83 : mLk 169 83 = some (.bipush 60, 2) := rfl
theorem c_169_85 : mLk 169 85 = some (.if_icmp .eq 11, 3) := rfl
theorem c_169_96 : mLk 169 96 = some (.aload_n 0, 1) := rfl
theorem c_169_97 : mLk 169 97 = some (.iconst 3, 1) := rfl
theorem c_169_98 : mLk 169 98 = some (.aload_n 0, 1) := rfl
theorem c_169_99 : mLk 169 99 = some (.getfield 108, 3) := rfl
theorem c_169_102 : mLk 169 102 = some (.invokevirtual 138, 3) := rfl
theorem c_169_105 : mLk 169 105 = some (.aload_n 0, 1) := rfl
theorem c_169_106 : mLk 169 106 = some (.invokevirtual 131, 3) := rfl
theorem c_169_109 : mLk 169 109 = some (.ifCond .ne 6, 3) := rfl
theorem c_169_112 : mLk 169 112 = some (.goto 24, 3) := rfl
theorem c_169_88 : mLk 169 88 = some (.aload_n 0, 1) := rfl
theorem c_169_89 : mLk 169 89 = some (.iload_n 3, 1) := rfl
theorem c_169_90 : mLk 169 90 = some (.invokevirtual 220, 3) := rfl
theorem c_167_0 : mLk 167 0 = some (.iload_n 1, 1) := rfl
theorem c_167_1 : mLk 167 1 = some (.ldc 191, 2) := rfl
theorem c_167_3 : mLk 167 3 = some (.invokestatic 192, 3) := rfl
theorem c_167_6 : mLk 167 6 = some (.if_icmp .ne 20, 3) := rfl
theorem c_167_26 : mLk 167 26 = some (.iload_n 1, 1) := rfl
theorem c_167_27 : mLk 167 27 = some (.ldc 196, 2) := rfl
theorem c_167_29 : mLk 167 29 = some (.invokestatic 192, 3) := rfl
theorem c_167_32 : mLk 167 32 = some (.if_icmp .ne 19, 3) := rfl
theorem c_167_51 : mLk 167 51 = some (.iload_n 1, 1) := rfl
theorem c_167_52 : mLk 167 52 = some (.ldc 197, 2) := rfl
theorem c_167_54 : mLk 167 54 = some (.invokestatic 192, 3) := rfl
theorem c_167_57 : mLk 167 57 = some (.if_icmp .ne 15, 3) := rfl
theorem c_167_72 : mLk 167 72 = some (.iconst 0, 1) := rfl
theorem c_167_73 : mLk 167 73 = some (.ireturn, 1) := rfl
theorem c_169_93 : mLk 169 93 = some (.ifCond .eq 12, 3) := rfl
theorem c_169_115 : mLk 169 115 = some (.aload_n 0, 1) := rfl
theorem c_169_116 : mLk 169 116 = some (.invokevirtual 223, 3) := rfl
theorem c_169_119 : mLk 169 119 = some (.aload_n 0, 1) := rfl
theorem c_169_120 : mLk 169 120 = some (.iload_n 3, 1) := rfl
theorem c_169_121 : mLk 169 121 = some (.invokevirtual 226, 3) := rfl
theorem c_169_124 : mLk 169 124 = some (.aload_n 0, 1) := rfl
theorem c_169_125 : mLk 169 125 = some (.bipush 59, 2) := rfl
theorem c_169_127 : mLk 169 127 = some (.invokevirtual 229, 3) := rfl
theorem c_169_130 : mLk 169 130 = some (.iinc 2 1, 3) := rfl
theorem c_169_133 : mLk 169 133 = some (.goto (-89), 3) := rfl
theorem c_167_60 : mLk 167 60 = some (.aload_n 0, 1) := rfl
theorem c_167_61 : mLk 167 61 = some (.getfield 151, 3) := rfl
theorem c_167_64 : mLk 167 64 = some (.iconst 4, 1) := rfl
theorem c_167_65 : mLk 167 65 = some (.if_icmp .ne 7, 3) := rfl
theorem c_167_68 : mLk 167 68 = some (.iconst 1, 1) := rfl
theorem c_167_69 : mLk 167 69 = some (.goto 4, 3) := rfl
theorem c_167_35 : mLk 167 35 = some (.aload_n 0, 1) := rfl
theorem c_167_36 : mLk 167 36 = some (.getfield 148, 3) := rfl
theorem c_167_39 : mLk 167 39 = some (.iconst 4, 1) := rfl
theorem c_167_40 : mLk 167 40 = some (.if_icmp .ne 7, 3) := rfl
theorem c_167_47 : mLk 167 47 = some (.iconst 0, 1) := rfl
theorem c_167_48 : mLk 167 48 = some (.goto 25, 3) := rfl
theorem c_167_43 : mLk 167 43 = some (.iconst 1, 1) := rfl
theorem c_167_44 : mLk 167 44 = some (.goto 29, 3) := rfl
theorem c_167_9 : mLk 167 9 = some (.aload_n 0, 1) := rfl
theorem c_167_10 : mLk 167 10 = some (.getfield 145, 3) := rfl
theorem c_167_13 : mLk 167 13 = some (.bipush 6, 2) := rfl
theorem c_167_15 : mLk 167 15 = some (.if_icmp .ne 7, 3) := rfl
theorem c_167_22 : mLk 167 22 = some (.iconst 0, 1) := rfl
theorem c_167_23 : mLk 167 23 = some (.goto 50, 3) := rfl
theorem c_167_18 : mLk 167 18 = some (.iconst 1, 1) := rfl
theorem c_167_19 : mLk 167 19 = some (.goto 54, 3) := rfl
theorem c_169_70 : mLk 169 70 = some (.aload_n 0, 1) := rfl
theorem c_169_71 : mLk 169 71 = some (.iconst 1, 1) := rfl
theorem c_169_72 : mLk 169 72 = some (.aload_n 0, 1) := rfl
theorem c_169_73 : mLk 169 73 = some (.getfield 108, 3) := rfl
theorem c_169_76 : mLk 169 76 = some (.invokevirtual 138, 3) := rfl
theorem c_169_79 : mLk 169 79 = some (.goto 26, 3) := rfl
theorem c_169_0 : mLk 169 0 = some (.aload_n 0, 1) := rfl
theorem c_169_1 : mLk 169 1 = some (.iconst 0, 1) := rfl
theorem c_169_2 : mLk 169 2 = some (.putfield 3, 3) := rfl
theorem c_169_5 : mLk 169 5 = some (.aload_n 0, 1) := rfl
theorem c_169_6 : mLk 169 6 = some (.iload_n 1, 1) := rfl
theorem c_169_7 : mLk 169 7 = some (.ifCond .lt 15, 3) := rfl
theorem c_169_22 : mLk 169 22 = some (.iconst 0, 1) := rfl
theorem c_169_23 : mLk 169 23 = some (.iconst 1, 1) := rfl
theorem c_169_24 : mLk 169 24 = some (.iconst 1, 1) := rfl
theorem c_169_25 : mLk 169 25 = some (.invokevirtual 203, 3) := rfl
theorem c_145_0 : mLk 145 0 = some (.iload_n 1, 1) := rfl
theorem c_145_1 : mLk 145 1 = some (.ifCond .ne 25, 3) := rfl
theorem c_145_4 : mLk 145 4 = some (.aload_n 0, 1) := rfl
theorem c_145_5 : mLk 145 5 = some (.getfield 3, 3) := rfl
theorem c_145_8 : mLk 145 8 = some (.ifCond .ne 18, 3) := rfl
theorem c_145_11 : mLk 145 11 = some (.aload_n 0, 1) := rfl
theorem c_145_12 : mLk 145 12 = some (.iload_n 2, 1) := rfl
theorem c_145_13 : mLk 145 13 = some (.putfield 3, 3) := rfl
theorem c_145_16 : mLk 145 16 = some (.aload_n 0, 1) := rfl
theorem c_145_17 : mLk 145 17 = some (.getfield 7, 3) := rfl
theorem c_145_20 : mLk 145 20 = some (.iload_n 3, 1) := rfl
theorem c_145_21 : mLk 145 21 = some (.dup2, 1) := rfl
theorem c_145_22 : mLk 145 22 = some (.iaload, 1) := rfl
theorem c_145_23 : mLk 145 23 = some (.iconst 1, 1) := rfl
theorem c_145_24 : mLk 145 24 = some (.iadd, 1) := rfl
theorem c_145_25 : mLk 145 25 = some (.iastore, 1) := rfl
theorem c_145_26 : mLk 145 26 = some (.aload_n 0, 1) := rfl
theorem c_145_27 : mLk 145 27 = some (.getfield 3, 3) := rfl
theorem c_145_30 : mLk 145 30 = some (.ifCond .ne 7, 3) := rfl
theorem c_145_37 : mLk 145 37 = some (.iconst 0, 1) := rfl
theorem c_145_38 : mLk 145 38 = some (.ireturn, 1) := rfl
theorem c_169_28 : mLk 169 28 = some (.ifCond .ne 5, 3) := rfl
theorem c_169_31 : mLk 169 31 = some (.iconst 0, 1) := rfl
theorem c_169_32 : mLk 169 32 = some (.ireturn, 1) := rfl
theorem c_169_10 : mLk 169 10 = some (.iload_n 1, 1) := rfl
theorem c_169_11 : mLk 169 11 = some (.aload_n 0, 1) := rfl
theorem c_169_12 : mLk 169 12 = some (.getfield 99, 3) := rfl
theorem c_169_15 : mLk 169 15 = some (.if_icmp .gt 7, 3) := rfl
theorem c_169_18 : mLk 169 18 = some (.iconst 1, 1) := rfl
theorem c_169_19 : mLk 169 19 = some (.goto 4, 3) := rfl
theorem c_145_33 : mLk 145 33 = some (.iconst 1, 1) := rfl
theorem c_145_34 : mLk 145 34 = some (.goto 4, 3) := rfl
theorem c_169_33 : mLk 169 33 = some (.aload_n 0, 1) := rfl
theorem c_169_34 : mLk 169 34 = some (.iload_n 1, 1) := rfl
theorem c_169_35 : mLk 169 35 = some (.invokevirtual 207, 3) := rfl
theorem c_169_38 : mLk 169 38 = some (.aload_n 0, 1) := rfl
theorem c_169_39 : mLk 169 39 = some (.invokevirtual 93, 3) := rfl
theorem c_169_42 : mLk 169 42 = some (.iconst 0, 1) := rfl
theorem c_169_43 : mLk 169 43 = some (.istore_n 2, 1) := rfl
theorem c_170_0 : mLk 170 0 = some (.aload_n 0, 1) := rfl
theorem c_170_1 : mLk 170 1 = some (.invokevirtual 131, 3) := rfl
theorem c_170_4 : mLk 170 4 = some (.ifCond .ne 4, 3) := rfl
theorem c_170_8 : mLk 170 8 = some (.aload_n 0, 1) := rfl
theorem c_170_9 : mLk 170 9 = some (.getfield 41, 3) := rfl
theorem c_170_12 : mLk 170 12 = some (.aload_n 0, 1) := rfl
theorem c_170_13 : mLk 170 13 = some (.getfield 236, 3) := rfl
theorem c_170_16 : mLk 170 16 = some (.iload_n 1, 1) := rfl
theorem c_170_17 : mLk 170 17 = some (.iastore, 1) := rfl
theorem c_170_18 : mLk 170 18 = some (.aload_n 0, 1) := rfl
theorem c_170_19 : mLk 170 19 = some (.getfield 44, 3) := rfl
theorem c_170_22 : mLk 170 22 = some (.aload_n 0, 1) := rfl
theorem c_170_23 : mLk 170 23 = some (.getfield 236, 3) := rfl
theorem c_170_26 : mLk 170 26 = some (.iload_n 2, 1) := rfl
theorem c_170_27 : mLk 170 27 = some (.iastore, 1) := rfl
theorem c_170_28 : mLk 170 28 = some (.aload_n 0, 1) := rfl
theorem c_170_29 : mLk 170 29 = some (.dup, 1) := rfl
theorem c_170_30 : mLk 170 30 = some (.getfield 236, 3) := rfl
theorem c_170_33 : mLk 170 33 = some (.iconst 1, 1) := rfl
theorem c_170_34 : mLk 170 34 = some (.iadd, 1) := rfl
theorem c_170_35 : mLk 170 35 = some (.putfield 236, 3) := rfl
theorem c_171_0 : mLk 171 0 = some (.aload_n 0, 1) := rfl
theorem c_171_1 : mLk 171 1 = some (.invokevirtual 131, 3) := rfl
theorem c_171_4 : mLk 171 4 = some (.ifCond .eq 21, 3) := rfl
theorem c_171_25 : mLk 171 25 = some (.aload_n 0, 1) := rfl
theorem c_171_26 : mLk 171 26 = some (.invokevirtual 131, 3) := rfl
theorem c_171_29 : mLk 171 29 = some (.ifCond .eq 13, 3) := rfl
theorem c_171_42 : mLk 171 42 = some (.aload_n 0, 1) := rfl
theorem c_171_43 : mLk 171 43 = some (.dup, 1) := rfl
theorem c_171_44 : mLk 171 44 = some (.getfield 142, 3) := rfl
theorem c_171_47 : mLk 171 47 = some (.iconst 1, 1) := rfl
theorem c_171_48 : mLk 171 48 = some (.iadd, 1) := rfl
theorem c_171_49 : mLk 171 49 = some (.putfield 142, 3) := rfl
theorem c_171_7 : mLk 171 7 = some (.aload_n 0, 1) := rfl
theorem c_171_8 : mLk 171 8 = some (.getfield 142, 3) := rfl
theorem c_171_11 : mLk 171 11 = some (.bipush 6, 2) := rfl
theorem c_171_13 : mLk 171 13 = some (.if_icmp .ne 12, 3) := rfl
theorem c_171_32 : mLk 171 32 = some (.aload_n 0, 1) := rfl
theorem c_171_33 : mLk 171 33 = some (.dup, 1) := rfl
theorem c_171_34 : mLk 171 34 = some (.getfield 108, 3) := rfl
theorem c_171_37 : mLk 171 37 = some (.iload_n 1, 1) := rfl
theorem c_171_38 : mLk 171 38 = some (.iadd, 1) := rfl
theorem c_171_39 : mLk 171 39 = some (.putfield 108, 3) := rfl
theorem c_171_16 : mLk 171 16 = some (.aload_n 0, 1) := rfl
theorem c_171_17 : mLk 171 17 = some (.iconst 3, 1) := rfl
theorem c_171_18 : mLk 171 18 = some (.aload_n 0, 1) := rfl
theorem c_171_19 : mLk 171 19 = some (.getfield 108, 3) := rfl
theorem c_171_22 : mLk 171 22 = some (.invokevirtual 138, 3) := rfl
theorem c_172_0 : mLk 172 0 = some (.aload_n 0, 1) := rfl
theorem c_172_1 : mLk 172 1 = some (.invokevirtual 214, 3) := rfl
theorem c_172_4 : mLk 172 4 = some (.istore_n 1, 1) := rfl
theorem c_172_5 : mLk 172 5 = some (.iload_n 1, 1) := rfl
theorem c_172_6 : mLk 172 6 = some (.ldc 254, 2) := rfl
theorem c_172_8 : mLk 172 8 = some (.invokestatic 192, 3) := rfl
theorem c_172_11 : mLk 172 11 = some (.if_icmp .ne 7, 3) := rfl
theorem c_172_18 : mLk 172 18 = some (.iload_n 1, 1) := rfl
theorem c_172_19 : mLk 172 19 = some (.ldc 255, 2) := rfl
theorem c_172_21 : mLk 172 21 = some (.invokestatic 192, 3) := rfl
theorem c_172_24 : mLk 172 24 = some (.if_icmp .ne 7, 3) := rfl
theorem c_172_31 : mLk 172 31 = some (.iload_n 1, 1) := rfl
theorem c_172_32 : mLk 172 32 = some (.ldc_w 257, 3) := rfl
theorem c_172_35 : mLk 172 35 = some (.invokestatic 192, 3) := rfl
theorem c_172_38 : mLk 172 38 = some (.if_icmp .ne 7, 3) := rfl
theorem c_172_45 : mLk 172 45 = some (.iload_n 1, 1) := rfl
theorem c_172_46 : mLk 172 46 = some (.ldc_w 259, 3) := rfl
theorem c_172_49 : mLk 172 49 = some (.invokestatic 192, 3) := rfl
theorem c_172_52 : mLk 172 52 = some (.if_icmp .ne 7, 3) := rfl
theorem c_172_59 : mLk 172 59 = some (.iload_n 1, 1) := rfl
theorem c_172_60 : mLk 172 60 = some (.ldc_w 261, 3) := rfl
theorem c_172_63 : mLk 172 63 = some (.invokestatic 192, 3) := rfl
theorem c_172_66 : mLk 172 66 = some (.if_icmp .ne 7, 3) := rfl
theorem c_172_73 : mLk 172 73 = some (.iload_n 1, 1) := rfl
theorem c_172_74 : mLk 172 74 = some (.ldc_w 263, 3) := rfl
theorem c_172_77 : mLk 172 77 = some (.invokestatic 192, 3) := rfl
theorem c_172_80 : mLk 172 80 = some (.if_icmp .ne 7, 3) := rfl
theorem c_172_87 : mLk 172 87 = some (.iload_n 1, 1) := rfl
theorem c_172_88 : mLk 172 88 = some (.ldc_w 265, 3) := rfl
theorem c_172_91 : mLk 172 91 = some (.invokestatic 192, 3) := rfl
theorem c_172_94 : mLk 172 94 = some (.if_icmp .ne 8, 3) := rfl
theorem c_172_102 : mLk 172 102 = some (.iload_n 1, 1) := rfl
theorem c_172_103 : mLk 172 103 = some (.ldc 191, 2) := rfl
theorem c_172_105 : mLk 172 105 = some (.invokestatic 192, 3) := rfl
theorem c_172_108 : mLk 172 108 = some (.if_icmp .ne 8, 3) := rfl
theorem c_172_116 : mLk 172 116 = some (.iconst (-1), 1) := rfl
theorem c_172_117 : mLk 172 117 = some (.ireturn, 1) := rfl
theorem c_172_111 : mLk 172 111 = some (.bipush 7, 2) := rfl
theorem c_172_113 : mLk 172 113 = some (.goto 4, 3) := rfl
theorem c_172_97 : mLk 172 97 = some (.bipush 6, 2) := rfl
theorem c_172_99 : mLk 172 99 = some (.goto 18, 3) := rfl
theorem c_172_83 : mLk 172 83 = some (.iconst 5, 1) := rfl
theorem c_172_84 : mLk 172 84 = some (.goto 33, 3) := rfl
theorem c_172_69 : mLk 172 69 = some (.iconst 4, 1) := rfl
theorem c_172_70 : mLk 172 70 = some (.goto 47, 3) := rfl
theorem c_172_55 : mLk 172 55 = some (.iconst 3, 1) := rfl
theorem c_172_56 : mLk 172 56 = some (.goto 61, 3) := rfl
theorem c_172_41 : mLk 172 41 = some (.iconst 2, 1) := rfl
theorem c_172_42 : mLk 172 42 = some (.goto 75, 3) := rfl
theorem c_172_27 : mLk 172 27 = some (.iconst 1, 1) := rfl
theorem c_172_28 : mLk 172 28 = some (.goto 89, 3) := rfl
theorem c_172_14 : mLk 172 14 = some (.iconst 0, 1) := rfl
theorem c_172_15 : mLk 172 15 = some (.goto 102, 3) := rfl
theorem kf_8_142 : a_lk (kF 8) 142 = some (8, 7) := rfl
theorem kf_8_17 : a_lk (kF 8) 17 = some (8, 8) := rfl
theorem kf_8_236 : a_lk (kF 8) 236 = some (8, 29) := rfl
theorem kf_8_41 : a_lk (kF 8) 41 = some (8, 24) := rfl
theorem kf_8_44 : a_lk (kF 8) 44 = some (8, 25) := rfl
theorem kf_8_7 : a_lk (kF 8) 7 = some (8, 1) := rfl
theorem km_8_131 : a_lk (kM 8) 131 = some (0, 152) := rfl
theorem km_8_138 : a_lk (kM 8) 138 = some (0, 153) := rfl
theorem km_8_199 : a_lk (kM 8) 199 = some (0, 160) := rfl
theorem km_8_203 : a_lk (kM 8) 203 = some (0, 145) := rfl
theorem km_8_207 : a_lk (kM 8) 207 = some (0, 163) := rfl
theorem km_8_211 : a_lk (kM 8) 211 = some (0, 162) := rfl
theorem km_8_214 : a_lk (kM 8) 214 = some (0, 157) := rfl
theorem km_8_220 : a_lk (kM 8) 220 = some (0, 167) := rfl
theorem km_8_223 : a_lk (kM 8) 223 = some (0, 159) := rfl
theorem km_8_226 : a_lk (kM 8) 226 = some (0, 168) := rfl
theorem km_8_229 : a_lk (kM 8) 229 = some (0, 161) := rfl
theorem km_8_232 : a_lk (kM 8) 232 = some (0, 164) := rfl
theorem km_8_93 : a_lk (kM 8) 93 = some (0, 147) := rfl
theorem km_8_96 : a_lk (kM 8) 96 = some (0, 149) := rfl
set_option maxRecDepth 100000 in
set_option maxHeartbeats 4000000 in
theorem s_160_l {sc : List Int32} {e : Int} {d u P Q : Nat} {c : ME} {a1 : Int} {a2 : Int} {Z : AR → Prop} (hI : Iv u e P Q c) (ha1 : 0 ≤ a1 ∧ a1 ≤ 1) (ha2 : (-1) ≤ a2 ∧ a2 ≤ 9999) (K : ∀ (c2 : ME) (y : Int), Iv u e P Q c2 → (∀ (a : Nat) (j : Int), ¬ ((a = 41 ∧ j = 4) ∨ (a = 41 ∧ j = 5) ∨ (a = 41 ∧ j = 6)) → c2 a j = c a j) → 0 ≤ y ∧ y ≤ 9999 → ((c2 41 4 ≥ c 41 4)) → ((c2 41 4 ≤ c 41 3) ∨ (c2 41 4 = c 41 4)) → ((y = 0) ∨ (y ≥ a1 ∧ y ≤ a2)) → ((c 41 5 = (-1)) ∨ (c2 41 5 = c 41 5)) → ((c2 41 5 < (-1)) ∨ (c2 41 5 > (-1)) ∨ (c2 41 4 > c 41 4 ∧ c2 41 4 ≤ c 41 3 ∧ c 41 5 = (-1))) → Z (.inl (some (vi y)), Wd P Q P P c2, 0, 0)) : ∀ n : Nat, (∀ (c2 : ME) (v3 : Int) (v4 : Int) (v5 : Int), Iv u e P Q c2 → (∀ (a : Nat) (j : Int), ¬ ((a = 41 ∧ j = 4) ∨ (a = 41 ∧ j = 5) ∨ (a = 41 ∧ j = 6)) → c2 a j = c a j) → (-2147483648) ≤ v3 ∧ v3 ≤ 2147483647 → 0 ≤ v4 ∧ v4 ≤ 605 → 0 ≤ v5 ∧ v5 ≤ 99999 → ((c2 41 4 ≥ c 41 4)) → ((c2 41 5 = (-1))) → ((c 41 5 = (-1))) → ((v4 ≥ c 41 4)) → ((c2 41 4 > v4 ∧ c2 41 4 ≤ c 41 3) ∨ (c2 41 4 = v4 ∧ c 43 (c2 41 4) ≥ 48 ∧ c 43 (c2 41 4) ≤ 57 ∧ c2 41 4 < c 41 3)) → 1211 - 2 * c2 41 4 < (n : Int) → Wp sc (d + 8) 160 41 [(0, .ref 41), (1, vi a1), (2, vi a2), (3, vi v3), (4, vi v4), (5, vi v5)] [] (Wd P Q P P c2) 0 0 Z) := by
  intro n
  induction n with
  | zero => exact (by intro c2 v3 v4 v5 hI2 hF hv3 hv4 hv5 hx0 hx1 hx2 hx3 hx4 hm9; have hP := iv_P hI; have hQ := iv_Q hI; have h_73 := ir_41_4 hI2; exfalso; omega)
  | succ n ih =>
    have hP := iv_P hI
    have hQ := iv_Q hI
    intro c2 v3 v4 v5 hI2 hF hv3 hv4 hv5 hx0 hx1 hx2 hx3 hx4 hm9
    have h_1 := ir_41_4 hI
    have h_2 := ir_41_4 hI2
    have h_3 := ir_41_5 hI2
    have h_4 := ir_41_5 hI
    have h_5 := ir_41_3 hI
    have h_6 := ir_43 hI (c2 41 4)
    refine q_aload_n c_160_41 rfl (v_gi (z := 4) (v := c2 41 4) c_160_42 kf_8_108 rfl (nb_ rfl) rfl rfl rfl (q_aload_n c_160_45 rfl ?_))
    have kn_7 : Hid (c2 41 3 = c 41 3) := hF 41 3 qn_97fd72088
    refine v_gi (z := 3) (v := c 41 3) c_160_46 kf_8_111 rfl (nb_ rfl) rfl rfl (hid kn_7) ?_
    by_cases h_8 : c2 41 4 ≥ c 41 3
    · refine v_ic_ge_t (t := 114) c_160_49 rfl ⟨(Int.le_trans (by decide) h_5.1), h_8, (Int.le_trans h_2.2 (by decide))⟩ (q_iload c_160_114 rfl (q_iload_n c_160_116 rfl ?_))
      by_cases h_9 : v5 < a1
      · refine v_ic_lt_t (t := 126) c_160_117 rfl ⟨(Int.le_trans (by decide) hv5.1), h_9, (Int.le_trans ha1.2 (by decide))⟩ (q_aload_n c_160_126 rfl (q_iconst c_160_127 (q_iload c_160_128 rfl (v_cv c_160_130 km_8_138 rfl rfl (nb_ rfl) ⟨⟨rfl, rfl⟩, nb_ rfl, rfl⟩ (nb_ rfl) (nb_ rfl) (s_153 (a1 := 2) (a2 := v4) hI2 (show 1 ≤ 2 ∧ 2 ≤ 3 from ⟨by decide, by decide⟩) (show 0 ≤ v4 ∧ v4 ≤ 605 from hv4) (fun c_10 hI_11 hF_12 h_13 => (bk_inl ?_)))))))
        have h_14 := ir_41_5 hI_11
        refine q_iconst c_160_133 (q_iret c_160_134 rfl ?_)
        have kn_15 : Hid (c_10 41 4 = c2 41 4) := hF_12 41 4 (fun q => q.elim (fun h => absurd h.2 (ni rfl)) (fun h => absurd h.2 (ni rfl)))
        have h_16 : c_10 41 4 = c2 41 4 := (hid kn_15)
        exact K c_10 0 hI_11 (fun a j hm => (hF_12 a j (qv_74575dfaf hm)).trans (hF a j hm)) ⟨by decide, by decide⟩ (by first | (clear ha1 ha2 hv3 hv4 hv5 hx1 hx2 hx3 h_1 h_2 h_3 h_4 h_5 h_6 h_8 h_9 h_14 hx4 h_13; omega) | omega) (Or.inl (by first | (clear ha1 ha2 hv3 hv4 hv5 hx0 hx1 hx2 hx3 h_1 h_2 h_3 h_4 h_5 h_6 h_8 h_9 h_14 h_13; omega) | omega)) (Or.inl (by first | assumption | omega)) (Or.inl (by first | (clear ha1 ha2 hv3 hv4 hv5 hx0 hx1 hx3 h_1 h_2 h_3 h_4 h_5 h_6 h_8 h_9 h_14 hx4 h_13; omega) | omega)) (Or.inr (Or.inl (by first | exact q_a3ee8eff6 h_13 h_14 | omega)))
      · refine v_ic_lt_f (t := 126) c_160_117 rfl ⟨(Int.le_trans (by decide) ha1.1), (Int.not_lt.mp h_9), (Int.le_trans hv5.2 (by decide))⟩ (q_iload c_160_120 rfl (q_iload_n c_160_122 rfl ?_))
        by_cases h_17 : v5 ≤ a2
        · refine v_ic_le_t (t := 135) c_160_123 rfl ⟨(Int.le_trans (by decide) hv5.1), h_17, (Int.le_trans ha2.2 (by decide))⟩ (q_iload c_160_135 rfl (q_iret c_160_137 rfl ?_))
          exact K c2 v5 hI2 (fun a j hm => hF a j hm) ⟨hv5.1, by first | exact q_3bbf258e8 h_17 ha2 | omega⟩ (by first | (clear ha1 ha2 hv3 hv4 hv5 hx1 hx2 hx3 h_1 h_2 h_3 h_4 h_5 h_6 h_8 h_9 h_17 hx4; omega) | omega) (Or.inl (by first | (clear ha1 ha2 hv3 hv4 hv5 hx0 hx1 hx2 hx3 h_1 h_2 h_3 h_4 h_5 h_6 h_8 h_9 h_17; omega) | omega)) (Or.inr ⟨by first | exact q_f9fcce0ec h_9 | omega, by first | exact q_514734711 h_17 | omega⟩) (Or.inl (by first | (clear ha1 ha2 hv3 hv4 hv5 hx0 hx1 hx3 h_1 h_2 h_3 h_4 h_5 h_6 h_8 h_9 h_17 hx4; omega) | omega)) (Or.inr (Or.inr ⟨by first | (clear ha1 ha2 hv3 hv4 hv5 hx0 hx1 hx2 h_1 h_2 h_3 h_4 h_5 h_6 h_9 h_17; omega) | omega, by first | (clear ha1 ha2 hv3 hv4 hv5 hx0 hx1 hx2 hx3 h_1 h_2 h_3 h_4 h_5 h_6 h_8 h_9 h_17; omega) | omega, by first | (clear ha1 ha2 hv3 hv4 hv5 hx0 hx1 hx3 h_1 h_2 h_3 h_4 h_5 h_6 h_8 h_9 h_17 hx4; omega) | omega⟩))
        · refine v_ic_le_f (t := 135) c_160_123 rfl ⟨(Int.le_trans (by decide) ha2.1), (Int.not_le.mp h_17), (Int.le_trans hv5.2 (by decide))⟩ (q_aload_n c_160_126 rfl (q_iconst c_160_127 (q_iload c_160_128 rfl (v_cv c_160_130 km_8_138 rfl rfl (nb_ rfl) ⟨⟨rfl, rfl⟩, nb_ rfl, rfl⟩ (nb_ rfl) (nb_ rfl) (s_153 (a1 := 2) (a2 := v4) hI2 (show 1 ≤ 2 ∧ 2 ≤ 3 from ⟨by decide, by decide⟩) (show 0 ≤ v4 ∧ v4 ≤ 605 from hv4) (fun c_18 hI_19 hF_20 h_21 => (bk_inl ?_)))))))
          have h_22 := ir_41_5 hI_19
          refine q_iconst c_160_133 (q_iret c_160_134 rfl ?_)
          have kn_23 : Hid (c_18 41 4 = c2 41 4) := hF_20 41 4 (fun q => q.elim (fun h => absurd h.2 (ni rfl)) (fun h => absurd h.2 (ni rfl)))
          have h_24 : c_18 41 4 = c2 41 4 := (hid kn_23)
          exact K c_18 0 hI_19 (fun a j hm => (hF_20 a j (qv_74575dfaf hm)).trans (hF a j hm)) ⟨by decide, by decide⟩ (by first | (clear ha1 ha2 hv3 hv4 hv5 hx1 hx2 hx3 h_1 h_2 h_3 h_4 h_5 h_6 h_8 h_9 h_17 h_22 hx4 h_21; omega) | omega) (Or.inl (by first | (clear ha1 ha2 hv3 hv4 hv5 hx0 hx1 hx2 hx3 h_1 h_2 h_3 h_4 h_5 h_6 h_8 h_9 h_17 h_22 h_21; omega) | omega)) (Or.inl (by first | assumption | omega)) (Or.inl (by first | (clear ha1 ha2 hv3 hv4 hv5 hx0 hx1 hx3 h_1 h_2 h_3 h_4 h_5 h_6 h_8 h_9 h_17 h_22 hx4 h_21; omega) | omega)) (Or.inr (Or.inl (by first | exact q_a3ee8eff6 h_21 h_22 | omega)))
    · refine v_ic_ge_f (t := 114) c_160_49 rfl ⟨(Int.le_trans (by decide) h_2.1), (Int.not_le.mp h_8), (Int.le_trans h_5.2 (by decide))⟩ (q_aload_n c_160_52 rfl (v_gr (t := 43) c_160_53 kf_8_20 rfl (nb_ rfl) rfl (q_aload_n c_160_56 rfl (v_gi (z := 4) (v := c2 41 4) c_160_57 kf_8_108 rfl (nb_ rfl) rfl rfl rfl ?_))))
      have kn_25 : Hid (c2 43 (c2 41 4) = c 43 (c2 41 4)) := hF 43 (c2 41 4) qn_0f2179ecb
      refine v_ia (v := c 43 (c2 41 4)) c_160_60 rfl (by decide) (by decide) ⟨h_2.1, by first | exact q_364416c3d h_5 h_8 | omega⟩ (hid kn_25) (q_call c_160_61 rfl rfl rfl (q_iload_n c_156_0 rfl (v_bip c_156_1 (by decide) ?_)))
      by_cases h_26 : c 43 (c2 41 4) < 48
      · refine v_ic_lt_t (t := 16) c_156_3 rfl ⟨h_6.1, h_26, by decide⟩ (q_iconst c_156_16 (v_zret c_156_17 rfl (by decide) (bk_inl (v_if_eq_t (t := 114) c_160_64 rfl (by decide) (q_iload c_160_114 rfl (q_iload_n c_160_116 rfl ?_))))))
        by_cases h_27 : v5 < a1
        · refine v_ic_lt_t (t := 126) c_160_117 rfl ⟨(Int.le_trans (by decide) hv5.1), h_27, (Int.le_trans ha1.2 (by decide))⟩ (q_aload_n c_160_126 rfl (q_iconst c_160_127 (q_iload c_160_128 rfl (v_cv c_160_130 km_8_138 rfl rfl (nb_ rfl) ⟨⟨rfl, rfl⟩, nb_ rfl, rfl⟩ (nb_ rfl) (nb_ rfl) (s_153 (a1 := 2) (a2 := v4) hI2 (show 1 ≤ 2 ∧ 2 ≤ 3 from ⟨by decide, by decide⟩) (show 0 ≤ v4 ∧ v4 ≤ 605 from hv4) (fun c_28 hI_29 hF_30 h_31 => (bk_inl ?_)))))))
          have h_32 := ir_41_5 hI_29
          refine q_iconst c_160_133 (q_iret c_160_134 rfl ?_)
          have kn_33 : Hid (c_28 41 4 = c2 41 4) := hF_30 41 4 (fun q => q.elim (fun h => absurd h.2 (ni rfl)) (fun h => absurd h.2 (ni rfl)))
          have h_34 : c_28 41 4 = c2 41 4 := (hid kn_33)
          exact K c_28 0 hI_29 (fun a j hm => (hF_30 a j (qv_74575dfaf hm)).trans (hF a j hm)) ⟨by decide, by decide⟩ (by first | (clear ha1 ha2 hv3 hv4 hv5 hx1 hx2 hx3 h_1 h_2 h_3 h_4 h_5 h_6 h_8 h_26 h_27 h_32 hx4 h_31; omega) | omega) (Or.inl (by first | exact q_5fcb01701 h_8 | omega)) (Or.inl (by first | assumption | omega)) (Or.inl (by first | (clear ha1 ha2 hv3 hv4 hv5 hx0 hx1 hx3 h_1 h_2 h_3 h_4 h_5 h_6 h_8 h_26 h_27 h_32 hx4 h_31; omega) | omega)) (Or.inr (Or.inl (by first | exact q_a3ee8eff6 h_31 h_32 | omega)))
        · refine v_ic_lt_f (t := 126) c_160_117 rfl ⟨(Int.le_trans (by decide) ha1.1), (Int.not_lt.mp h_27), (Int.le_trans hv5.2 (by decide))⟩ (q_iload c_160_120 rfl (q_iload_n c_160_122 rfl ?_))
          by_cases h_35 : v5 ≤ a2
          · refine v_ic_le_t (t := 135) c_160_123 rfl ⟨(Int.le_trans (by decide) hv5.1), h_35, (Int.le_trans ha2.2 (by decide))⟩ (q_iload c_160_135 rfl (q_iret c_160_137 rfl ?_))
            exact K c2 v5 hI2 (fun a j hm => hF a j hm) ⟨hv5.1, by first | exact q_3bbf258e8 h_35 ha2 | omega⟩ (by first | (clear ha1 ha2 hv3 hv4 hv5 hx1 hx2 hx3 h_1 h_2 h_3 h_4 h_5 h_6 h_8 h_26 h_27 h_35 hx4; omega) | omega) (Or.inl (by first | exact q_5fcb01701 h_8 | omega)) (Or.inr ⟨by first | exact q_f9fcce0ec h_27 | omega, by first | exact q_514734711 h_35 | omega⟩) (Or.inl (by first | (clear ha1 ha2 hv3 hv4 hv5 hx0 hx1 hx3 h_1 h_2 h_3 h_4 h_5 h_6 h_8 h_26 h_27 h_35 hx4; omega) | omega)) (Or.inr (Or.inr ⟨by first | (clear ha1 ha2 hv3 hv4 hv5 hx0 hx1 hx2 h_1 h_2 h_3 h_4 h_5 h_6 h_8 h_27 h_35; omega) | omega, by first | exact q_5fcb01701 h_8 | omega, by first | (clear ha1 ha2 hv3 hv4 hv5 hx0 hx1 hx3 h_1 h_2 h_3 h_4 h_5 h_6 h_8 h_26 h_27 h_35 hx4; omega) | omega⟩))
          · refine v_ic_le_f (t := 135) c_160_123 rfl ⟨(Int.le_trans (by decide) ha2.1), (Int.not_le.mp h_35), (Int.le_trans hv5.2 (by decide))⟩ (q_aload_n c_160_126 rfl (q_iconst c_160_127 (q_iload c_160_128 rfl (v_cv c_160_130 km_8_138 rfl rfl (nb_ rfl) ⟨⟨rfl, rfl⟩, nb_ rfl, rfl⟩ (nb_ rfl) (nb_ rfl) (s_153 (a1 := 2) (a2 := v4) hI2 (show 1 ≤ 2 ∧ 2 ≤ 3 from ⟨by decide, by decide⟩) (show 0 ≤ v4 ∧ v4 ≤ 605 from hv4) (fun c_36 hI_37 hF_38 h_39 => (bk_inl ?_)))))))
            have h_40 := ir_41_5 hI_37
            refine q_iconst c_160_133 (q_iret c_160_134 rfl ?_)
            have kn_41 : Hid (c_36 41 4 = c2 41 4) := hF_38 41 4 (fun q => q.elim (fun h => absurd h.2 (ni rfl)) (fun h => absurd h.2 (ni rfl)))
            have h_42 : c_36 41 4 = c2 41 4 := (hid kn_41)
            exact K c_36 0 hI_37 (fun a j hm => (hF_38 a j (qv_74575dfaf hm)).trans (hF a j hm)) ⟨by decide, by decide⟩ (by first | (clear ha1 ha2 hv3 hv4 hv5 hx1 hx2 hx3 h_1 h_2 h_3 h_4 h_5 h_6 h_8 h_26 h_27 h_35 h_40 hx4 h_39; omega) | omega) (Or.inl (by first | exact q_5fcb01701 h_8 | omega)) (Or.inl (by first | assumption | omega)) (Or.inl (by first | (clear ha1 ha2 hv3 hv4 hv5 hx0 hx1 hx3 h_1 h_2 h_3 h_4 h_5 h_6 h_8 h_26 h_27 h_35 h_40 hx4 h_39; omega) | omega)) (Or.inr (Or.inl (by first | exact q_a3ee8eff6 h_39 h_40 | omega)))
      · refine v_ic_lt_f (t := 16) c_156_3 rfl ⟨by decide, (Int.not_lt.mp h_26), h_6.2⟩ (q_iload_n c_156_6 rfl (v_bip c_156_7 (by decide) ?_))
        by_cases h_43 : c 43 (c2 41 4) > 57
        · refine v_ic_gt_t (t := 16) c_156_9 rfl ⟨by decide, h_43, h_6.2⟩ (q_iconst c_156_16 (v_zret c_156_17 rfl (by decide) (bk_inl (v_if_eq_t (t := 114) c_160_64 rfl (by decide) (q_iload c_160_114 rfl (q_iload_n c_160_116 rfl ?_))))))
          by_cases h_44 : v5 < a1
          · refine v_ic_lt_t (t := 126) c_160_117 rfl ⟨(Int.le_trans (by decide) hv5.1), h_44, (Int.le_trans ha1.2 (by decide))⟩ (q_aload_n c_160_126 rfl (q_iconst c_160_127 (q_iload c_160_128 rfl (v_cv c_160_130 km_8_138 rfl rfl (nb_ rfl) ⟨⟨rfl, rfl⟩, nb_ rfl, rfl⟩ (nb_ rfl) (nb_ rfl) (s_153 (a1 := 2) (a2 := v4) hI2 (show 1 ≤ 2 ∧ 2 ≤ 3 from ⟨by decide, by decide⟩) (show 0 ≤ v4 ∧ v4 ≤ 605 from hv4) (fun c_45 hI_46 hF_47 h_48 => (bk_inl ?_)))))))
            have h_49 := ir_41_5 hI_46
            refine q_iconst c_160_133 (q_iret c_160_134 rfl ?_)
            have kn_50 : Hid (c_45 41 4 = c2 41 4) := hF_47 41 4 (fun q => q.elim (fun h => absurd h.2 (ni rfl)) (fun h => absurd h.2 (ni rfl)))
            have h_51 : c_45 41 4 = c2 41 4 := (hid kn_50)
            exact K c_45 0 hI_46 (fun a j hm => (hF_47 a j (qv_74575dfaf hm)).trans (hF a j hm)) ⟨by decide, by decide⟩ (by first | (clear ha1 ha2 hv3 hv4 hv5 hx1 hx2 hx3 h_1 h_2 h_3 h_4 h_5 h_6 h_8 h_26 h_43 h_44 h_49 hx4 h_48; omega) | omega) (Or.inl (by first | exact q_5fcb01701 h_8 | omega)) (Or.inl (by first | assumption | omega)) (Or.inl (by first | (clear ha1 ha2 hv3 hv4 hv5 hx0 hx1 hx3 h_1 h_2 h_3 h_4 h_5 h_6 h_8 h_26 h_43 h_44 h_49 hx4 h_48; omega) | omega)) (Or.inr (Or.inl (by first | exact q_a3ee8eff6 h_48 h_49 | omega)))
          · refine v_ic_lt_f (t := 126) c_160_117 rfl ⟨(Int.le_trans (by decide) ha1.1), (Int.not_lt.mp h_44), (Int.le_trans hv5.2 (by decide))⟩ (q_iload c_160_120 rfl (q_iload_n c_160_122 rfl ?_))
            by_cases h_52 : v5 ≤ a2
            · refine v_ic_le_t (t := 135) c_160_123 rfl ⟨(Int.le_trans (by decide) hv5.1), h_52, (Int.le_trans ha2.2 (by decide))⟩ (q_iload c_160_135 rfl (q_iret c_160_137 rfl ?_))
              exact K c2 v5 hI2 (fun a j hm => hF a j hm) ⟨hv5.1, by first | exact q_3bbf258e8 h_52 ha2 | omega⟩ (by first | (clear ha1 ha2 hv3 hv4 hv5 hx1 hx2 hx3 h_1 h_2 h_3 h_4 h_5 h_6 h_8 h_26 h_43 h_44 h_52 hx4; omega) | omega) (Or.inl (by first | exact q_5fcb01701 h_8 | omega)) (Or.inr ⟨by first | exact q_f9fcce0ec h_44 | omega, by first | exact q_514734711 h_52 | omega⟩) (Or.inl (by first | (clear ha1 ha2 hv3 hv4 hv5 hx0 hx1 hx3 h_1 h_2 h_3 h_4 h_5 h_6 h_8 h_26 h_43 h_44 h_52 hx4; omega) | omega)) (Or.inr (Or.inr ⟨by first | (clear ha1 ha2 hv3 hv4 hv5 hx0 hx1 hx2 h_1 h_2 h_3 h_4 h_5 h_6 h_8 h_26 h_44 h_52; omega) | omega, by first | exact q_5fcb01701 h_8 | omega, by first | (clear ha1 ha2 hv3 hv4 hv5 hx0 hx1 hx3 h_1 h_2 h_3 h_4 h_5 h_6 h_8 h_26 h_43 h_44 h_52 hx4; omega) | omega⟩))
            · refine v_ic_le_f (t := 135) c_160_123 rfl ⟨(Int.le_trans (by decide) ha2.1), (Int.not_le.mp h_52), (Int.le_trans hv5.2 (by decide))⟩ (q_aload_n c_160_126 rfl (q_iconst c_160_127 (q_iload c_160_128 rfl (v_cv c_160_130 km_8_138 rfl rfl (nb_ rfl) ⟨⟨rfl, rfl⟩, nb_ rfl, rfl⟩ (nb_ rfl) (nb_ rfl) (s_153 (a1 := 2) (a2 := v4) hI2 (show 1 ≤ 2 ∧ 2 ≤ 3 from ⟨by decide, by decide⟩) (show 0 ≤ v4 ∧ v4 ≤ 605 from hv4) (fun c_53 hI_54 hF_55 h_56 => (bk_inl ?_)))))))
              have h_57 := ir_41_5 hI_54
              refine q_iconst c_160_133 (q_iret c_160_134 rfl ?_)
              have kn_58 : Hid (c_53 41 4 = c2 41 4) := hF_55 41 4 (fun q => q.elim (fun h => absurd h.2 (ni rfl)) (fun h => absurd h.2 (ni rfl)))
              have h_59 : c_53 41 4 = c2 41 4 := (hid kn_58)
              exact K c_53 0 hI_54 (fun a j hm => (hF_55 a j (qv_74575dfaf hm)).trans (hF a j hm)) ⟨by decide, by decide⟩ (by first | (clear ha1 ha2 hv3 hv4 hv5 hx1 hx2 hx3 h_1 h_2 h_3 h_4 h_5 h_6 h_8 h_26 h_43 h_44 h_52 h_57 hx4 h_56; omega) | omega) (Or.inl (by first | exact q_5fcb01701 h_8 | omega)) (Or.inl (by first | assumption | omega)) (Or.inl (by first | (clear ha1 ha2 hv3 hv4 hv5 hx0 hx1 hx3 h_1 h_2 h_3 h_4 h_5 h_6 h_8 h_26 h_43 h_44 h_52 h_57 hx4 h_56; omega) | omega)) (Or.inr (Or.inl (by first | exact q_a3ee8eff6 h_56 h_57 | omega)))
        · refine v_ic_gt_f (t := 16) c_156_9 rfl ⟨h_6.1, (Int.not_lt.mp h_43), by decide⟩ (q_iconst c_156_12 (q_goto (t := 17) c_156_13 rfl (v_zret c_156_17 rfl (by decide) (bk_inl (v_if_eq_f (t := 114) c_160_64 rfl (by decide) (q_iload c_160_67 rfl (v_sip c_160_69 (by decide) ?_)))))))
          by_cases h_60 : v5 ≤ 9999
          · refine v_ic_le_t (t := 81) c_160_72 rfl ⟨(Int.le_trans (by decide) hv5.1), h_60, by decide⟩ (v_bip c_160_81 (by decide) (q_iload c_160_83 rfl (v_imul (v := 10 * v5) c_160_85 rfl (q_aload_n c_160_86 rfl (v_gr (t := 43) c_160_87 kf_8_20 rfl (nb_ rfl) rfl (q_aload_n c_160_90 rfl (v_gi (z := 4) (v := c2 41 4) c_160_91 kf_8_108 rfl (nb_ rfl) rfl rfl rfl ?_)))))))
            refine v_ia (v := c 43 (c2 41 4)) c_160_94 rfl (by decide) (by decide) ⟨h_2.1, by first | exact q_364416c3d h_5 h_8 | omega⟩ (hid kn_25) (v_iadd (v := c 43 (c2 41 4) + 10 * v5) c_160_95 (by first | exact q_e1ab7a985 | omega) (v_bip c_160_96 (by decide) (v_isub (v := c 43 (c2 41 4) + 10 * v5 - 48) c_160_98 rfl (q_istore c_160_99 (nb_ rfl) (q_aload_n c_160_101 rfl (q_dup c_160_102 rfl (v_gi (z := 4) (v := c2 41 4) c_160_103 kf_8_108 rfl (nb_ rfl) rfl rfl rfl ?_)))))))
            refine q_iconst c_160_106 (v_iadd (v := c2 41 4 + 1) c_160_107 rfl (v_pi (z := 4) c_160_108 kf_8_108 rfl (nb_ rfl) rfl rfl rfl (by decide) (q_goto (t := 41) c_160_111 rfl ?_)))
            have hI_61 := iw_41_4 (v := c2 41 4 + 1) hI2 ⟨by first | exact rgp_l h_2.1 (by decide) | omega, by first | exact q_dadb204b8 h_5 h_8 | omega⟩
            refine Wp_ls [(0, .ref 41), (1, vi a1), (2, vi a2), (3, vi v3), (4, vi v4), (5, vi (c 43 (c2 41 4) + 10 * v5 - 48))] (lsub_cons rfl (lsub_cons rfl (lsub_cons rfl (lsub_cons rfl (lsub_cons rfl (lsub_cons rfl lsub_nil)))))) ?_
            have h_62 : (up c2 41 4 (c2 41 4 + 1)) 41 4 = c2 41 4 + 1 := (up_e rfl)
            have h_63 := ir_43 hI (c2 41 4 + 1)
            have h_64 : c 43 (((up c2 41 4 (c2 41 4 + 1)) 41 4)) = c 43 (c2 41 4 + 1) := congrArg (c 43) (by first | assumption | exact Int.le_antisymm (by omega) (by omega))
            have h_65 : (up c2 41 4 (c2 41 4 + 1)) 41 4 = c2 41 4 + 1 := (up_e rfl)
            have h_66 : (up c2 41 4 (c2 41 4 + 1)) 41 5 = c2 41 5 := (up_n (by decide))
            exact ih (up c2 41 4 (c2 41 4 + 1)) v3 v4 (c 43 (c2 41 4) + 10 * v5 - 48) hI_61 (fun a j hm => (up_b (Decidable.or_iff_not_imp_left.mpr (fun h1 h2 => hm (Or.inl ⟨Decidable.not_not.mp h1, h2⟩)))).trans (hF a j hm)) hv3 hv4 ⟨by first | exact q_f75a697ae h_26 hv5 | omega, by first | exact q_96daf8289 h_43 h_60 | omega⟩ (by first | (clear ha1 ha2 hv3 hv4 hv5 hx1 hx2 hx3 h_1 h_2 h_3 h_4 h_5 h_6 h_8 h_26 h_43 h_60 h_63 hx4; omega) | omega) (by first | (clear ha1 ha2 hv3 hv4 hv5 hx0 hx2 hx3 h_1 h_2 h_3 h_4 h_5 h_6 h_8 h_26 h_43 h_60 h_63 hx4; omega) | omega) (by first | (clear ha1 ha2 hv3 hv4 hv5 hx0 hx1 hx3 h_1 h_2 h_3 h_4 h_5 h_6 h_8 h_26 h_43 h_60 h_63 hx4; omega) | omega) (by first | (clear ha1 ha2 hv3 hv4 hv5 hx0 hx1 hx2 h_1 h_2 h_3 h_4 h_5 h_6 h_8 h_26 h_43 h_60 h_63 hx4; omega) | omega) (Or.inl ⟨by first | (clear ha1 ha2 hv3 hv4 hv5 hx0 hx1 hx2 hx3 h_1 h_2 h_3 h_4 h_5 h_6 h_8 h_26 h_43 h_60 h_63; omega) | omega, by first | exact q_d6c070bf6 h_8 | omega⟩) (by omega)
          · refine v_ic_le_f (t := 81) c_160_72 rfl ⟨by decide, (Int.not_le.mp h_60), (Int.le_trans hv5.2 (by decide))⟩ (v_sip c_160_75 (by decide) (q_goto (t := 99) c_160_78 rfl (q_istore c_160_99 (nb_ rfl) (q_aload_n c_160_101 rfl (q_dup c_160_102 rfl (v_gi (z := 4) (v := c2 41 4) c_160_103 kf_8_108 rfl (nb_ rfl) rfl rfl rfl (q_iconst c_160_106 ?_)))))))
            refine v_iadd (v := c2 41 4 + 1) c_160_107 rfl (v_pi (z := 4) c_160_108 kf_8_108 rfl (nb_ rfl) rfl rfl rfl (by decide) (q_goto (t := 41) c_160_111 rfl ?_))
            have hI_67 := iw_41_4 (v := c2 41 4 + 1) hI2 ⟨by first | exact rgp_l h_2.1 (by decide) | omega, by first | exact q_dadb204b8 h_5 h_8 | omega⟩
            refine Wp_ls [(0, .ref 41), (1, vi a1), (2, vi a2), (3, vi v3), (4, vi v4), (5, vi 10000)] (lsub_cons rfl (lsub_cons rfl (lsub_cons rfl (lsub_cons rfl (lsub_cons rfl (lsub_cons rfl lsub_nil)))))) ?_
            have h_68 : (up c2 41 4 (c2 41 4 + 1)) 41 4 = c2 41 4 + 1 := (up_e rfl)
            have h_69 := ir_43 hI (c2 41 4 + 1)
            have h_70 : c 43 (((up c2 41 4 (c2 41 4 + 1)) 41 4)) = c 43 (c2 41 4 + 1) := congrArg (c 43) (by first | assumption | exact Int.le_antisymm (by omega) (by omega))
            have h_71 : (up c2 41 4 (c2 41 4 + 1)) 41 4 = c2 41 4 + 1 := (up_e rfl)
            have h_72 : (up c2 41 4 (c2 41 4 + 1)) 41 5 = c2 41 5 := (up_n (by decide))
            exact ih (up c2 41 4 (c2 41 4 + 1)) v3 v4 10000 hI_67 (fun a j hm => (up_b (Decidable.or_iff_not_imp_left.mpr (fun h1 h2 => hm (Or.inl ⟨Decidable.not_not.mp h1, h2⟩)))).trans (hF a j hm)) hv3 hv4 ⟨by decide, by decide⟩ (by first | (clear ha1 ha2 hv3 hv4 hv5 hx1 hx2 hx3 h_1 h_2 h_3 h_4 h_5 h_6 h_8 h_26 h_43 h_60 h_69 hx4; omega) | omega) (by first | (clear ha1 ha2 hv3 hv4 hv5 hx0 hx2 hx3 h_1 h_2 h_3 h_4 h_5 h_6 h_8 h_26 h_43 h_60 h_69 hx4; omega) | omega) (by first | (clear ha1 ha2 hv3 hv4 hv5 hx0 hx1 hx3 h_1 h_2 h_3 h_4 h_5 h_6 h_8 h_26 h_43 h_60 h_69 hx4; omega) | omega) (by first | (clear ha1 ha2 hv3 hv4 hv5 hx0 hx1 hx2 h_1 h_2 h_3 h_4 h_5 h_6 h_8 h_26 h_43 h_60 h_69 hx4; omega) | omega) (Or.inl ⟨by first | (clear ha1 ha2 hv3 hv4 hv5 hx0 hx1 hx2 hx3 h_1 h_2 h_3 h_4 h_5 h_6 h_8 h_26 h_43 h_60 h_69; omega) | omega, by first | exact q_d6c070bf6 h_8 | omega⟩) (by omega)
set_option maxRecDepth 100000 in
set_option maxHeartbeats 4000000 in
theorem s_160 {sc : List Int32} {e : Int} {d u P Q : Nat} {c : ME} {a1 : Int} {a2 : Int} {Z : AR → Prop} (hI : Iv u e P Q c) (ha1 : 0 ≤ a1 ∧ a1 ≤ 1) (ha2 : (-1) ≤ a2 ∧ a2 ≤ 9999) (K : ∀ (c2 : ME) (y : Int), Iv u e P Q c2 → (∀ (a : Nat) (j : Int), ¬ ((a = 41 ∧ j = 4) ∨ (a = 41 ∧ j = 5) ∨ (a = 41 ∧ j = 6)) → c2 a j = c a j) → 0 ≤ y ∧ y ≤ 9999 → ((c2 41 4 ≥ c 41 4)) → ((c2 41 4 ≤ c 41 3) ∨ (c2 41 4 = c 41 4)) → ((y = 0) ∨ (y ≥ a1 ∧ y ≤ a2)) → ((c 41 5 = (-1)) ∨ (c2 41 5 = c 41 5)) → ((c2 41 5 < (-1)) ∨ (c2 41 5 > (-1)) ∨ (c2 41 4 > c 41 4 ∧ c2 41 4 ≤ c 41 3 ∧ c 41 5 = (-1))) → Z (.inl (some (vi y)), Wd P Q P P c2, 0, 0)) : Wp sc (d + 8) 160 0 [(0, .ref 41), (1, vi a1), (2, vi a2)] [] (Wd P Q P P c) 0 0 Z := by
  have hP := iv_P hI
  have hQ := iv_Q hI
  refine q_aload_n c_160_0 rfl (v_cv c_160_1 km_8_131 rfl rfl (nb_ rfl) ⟨⟨rfl, rfl⟩, nb_ rfl, rfl⟩ (nb_ rfl) (nb_ rfl) (q_aload_n c_152_0 rfl ?_))
  have h_74 := ir_41_5 hI
  refine v_gi (z := 5) (v := c 41 5) c_152_1 kf_8_102 rfl (nb_ rfl) rfl rfl rfl (q_iconst c_152_4 ?_)
  by_cases h_75 : c 41 5 ≠ (-1)
  · refine v_ic_ne_t (t := 12) c_152_5 rfl ⟨h_75, ⟨(Int.le_trans (by decide) h_74.1), (Int.le_trans h_74.2 (by decide))⟩, by decide, by decide⟩ (q_iconst c_152_12 (v_zret c_152_13 rfl (by decide) (bk_inl (v_if_ne_f (t := 9) c_160_4 rfl (by decide) (q_iconst c_160_7 (q_iret c_160_8 rfl ?_))))))
    have h_76 := ir_41_4 hI
    exact K c 0 hI (fun a j hm => rfl) ⟨by decide, by decide⟩ (by first | exact q_e074ea49a | omega) (Or.inr (by first | assumption | omega)) (Or.inl (by first | assumption | omega)) (Or.inr (by first | assumption | omega)) (Or.inr (Or.inl (by first | exact q_2c2c046ea h_74 h_75 | omega)))
  · refine v_ic_ne_f (t := 12) c_152_5 rfl (Decidable.not_not.mp h_75) (q_iconst c_152_8 (q_goto (t := 13) c_152_9 rfl (v_zret c_152_13 rfl (by decide) (bk_inl (v_if_ne_t (t := 9) c_160_4 rfl (by decide) (q_aload_n c_160_9 rfl ?_))))))
    have h_77 := ir_41_4 hI
    have h_78 := ir_41_3 hI
    refine v_cv c_160_10 km_8_114 rfl rfl (nb_ rfl) ⟨⟨rfl, rfl⟩, nb_ rfl, rfl⟩ (nb_ rfl) (nb_ rfl) (s_154 hI (fun c_79 y_82 hI_80 hF_81 hy_82 h_83 h_84 h_85 h_86 => (bk_inl ?_)))
    have h_87 := ir_41_4 hI_80
    have h_88 := ir_43 hI (c_79 41 4)
    refine q_istore_n c_160_13 (nb_ rfl) (q_aload_n c_160_14 rfl (v_gi (z := 4) (v := c_79 41 4) c_160_15 kf_8_108 rfl (nb_ rfl) rfl rfl rfl (q_istore c_160_18 (nb_ rfl) (q_iconst c_160_20 (q_istore c_160_21 (nb_ rfl) (q_iload_n c_160_23 rfl (q_call c_160_24 rfl rfl rfl ?_)))))))
    refine q_iload_n c_156_0 rfl (v_bip c_156_1 (by decide) ?_)
    by_cases h_89 : y_82 < 48
    · refine v_ic_lt_t (t := 16) c_156_3 rfl ⟨hy_82.1, h_89, by decide⟩ (q_iconst c_156_16 (v_zret c_156_17 rfl (by decide) (bk_inl (v_if_ne_f (t := 41) c_160_27 rfl (by decide) (q_aload_n c_160_30 rfl (q_iconst c_160_31 (q_aload_n c_160_32 rfl ?_)))))))
      refine v_gi (z := 4) (v := c_79 41 4) c_160_33 kf_8_108 rfl (nb_ rfl) rfl rfl rfl (v_cv c_160_36 km_8_138 rfl rfl (nb_ rfl) ⟨⟨rfl, rfl⟩, nb_ rfl, rfl⟩ (nb_ rfl) (nb_ rfl) (s_153 (a1 := 1) (a2 := c_79 41 4) hI_80 (show 1 ≤ 1 ∧ 1 ≤ 3 from ⟨by decide, by decide⟩) (show 0 ≤ c_79 41 4 ∧ c_79 41 4 ≤ 605 from h_87) (fun c_90 hI_91 hF_92 h_93 => (bk_inl ?_))))
      have h_94 := ir_41_5 hI_91
      refine q_iconst c_160_39 (q_iret c_160_40 rfl ?_)
      have kn_95 : Hid (c_90 41 4 = c_79 41 4) := hF_92 41 4 (fun q => q.elim (fun h => absurd h.2 (ni rfl)) (fun h => absurd h.2 (ni rfl)))
      have h_96 : c_90 41 4 = c_79 41 4 := (hid kn_95)
      exact K c_90 0 hI_91 (fun a j hm => (hF_92 a j (qv_74575dfaf hm)).trans (hF_81 a j (fun h => hm (Or.inl h)))) ⟨by decide, by decide⟩ (by first | exact q_a2ce855bf h_83 | omega) (by omega) (Or.inl (by first | assumption | omega)) (Or.inl (by first | exact q_65c5ff97d h_74 h_75 | omega)) (Or.inr (Or.inl (by first | exact q_a3ee8eff6 h_93 h_94 | omega)))
    · refine v_ic_lt_f (t := 16) c_156_3 rfl ⟨by decide, (Int.not_lt.mp h_89), hy_82.2⟩ (q_iload_n c_156_6 rfl (v_bip c_156_7 (by decide) ?_))
      by_cases h_97 : y_82 > 57
      · refine v_ic_gt_t (t := 16) c_156_9 rfl ⟨by decide, h_97, hy_82.2⟩ (q_iconst c_156_16 (v_zret c_156_17 rfl (by decide) (bk_inl (v_if_ne_f (t := 41) c_160_27 rfl (by decide) (q_aload_n c_160_30 rfl (q_iconst c_160_31 (q_aload_n c_160_32 rfl ?_)))))))
        refine v_gi (z := 4) (v := c_79 41 4) c_160_33 kf_8_108 rfl (nb_ rfl) rfl rfl rfl (v_cv c_160_36 km_8_138 rfl rfl (nb_ rfl) ⟨⟨rfl, rfl⟩, nb_ rfl, rfl⟩ (nb_ rfl) (nb_ rfl) (s_153 (a1 := 1) (a2 := c_79 41 4) hI_80 (show 1 ≤ 1 ∧ 1 ≤ 3 from ⟨by decide, by decide⟩) (show 0 ≤ c_79 41 4 ∧ c_79 41 4 ≤ 605 from h_87) (fun c_98 hI_99 hF_100 h_101 => (bk_inl ?_))))
        have h_102 := ir_41_5 hI_99
        refine q_iconst c_160_39 (q_iret c_160_40 rfl ?_)
        have kn_103 : Hid (c_98 41 4 = c_79 41 4) := hF_100 41 4 (fun q => q.elim (fun h => absurd h.2 (ni rfl)) (fun h => absurd h.2 (ni rfl)))
        have h_104 : c_98 41 4 = c_79 41 4 := (hid kn_103)
        exact K c_98 0 hI_99 (fun a j hm => (hF_100 a j (qv_74575dfaf hm)).trans (hF_81 a j (fun h => hm (Or.inl h)))) ⟨by decide, by decide⟩ (by first | exact q_a2ce855bf h_83 | omega) (Or.inl (by first | exact q_1f32b40e2 h_84 h_97 | omega)) (Or.inl (by first | assumption | omega)) (Or.inl (by first | exact q_65c5ff97d h_74 h_75 | omega)) (Or.inr (Or.inl (by first | exact q_a3ee8eff6 h_101 h_102 | omega)))
      · refine v_ic_gt_f (t := 16) c_156_9 rfl ⟨hy_82.1, (Int.not_lt.mp h_97), by decide⟩ (q_iconst c_156_12 (q_goto (t := 17) c_156_13 rfl (v_zret c_156_17 rfl (by decide) (bk_inl (v_if_ne_t (t := 41) c_160_27 rfl (by decide) (Wp_ls [(0, .ref 41), (1, vi a1), (2, vi a2), (3, vi y_82), (4, vi (c_79 41 4)), (5, vi 0)] (lsub_cons rfl (lsub_cons rfl (lsub_cons rfl (lsub_cons rfl (lsub_cons rfl (lsub_cons rfl lsub_nil)))))) ?_))))))
        have h_105 : c 43 ((c_79 41 4)) = c 43 (c_79 41 4) := congrArg (c 43) (by first | exact q_ef0f4cfe4 | assumption | exact Int.le_antisymm (by omega) (by omega))
        have kn_106 : Hid (c_79 41 5 = c 41 5) := hF_81 41 5 (fun h => absurd h.2 (ni rfl))
        have h_107 : c_79 41 5 = c 41 5 := (hid kn_106)
        exact (s_160_l (sc := sc) (d := d) hI ha1 ha2 K 1214) c_79 y_82 (c_79 41 4) 0 hI_80 (fun a j hm => hF_81 a j (fun h => hm (Or.inl h))) hy_82 h_87 ⟨by decide, by decide⟩ (by first | exact q_a2ce855bf h_83 | omega) (by first | exact q_65c5ff97d h_74 h_75 | omega) (by first | exact q_65c5ff97d h_74 h_75 | omega) (by first | exact q_a2ce855bf h_83 | omega) (Or.inr ⟨by first | assumption | omega, by first | exact q_1c9f89747 h_86 h_89 | omega, by first | exact q_9e52b01c0 h_86 h_89 h_97 | omega, by first | exact q_1b38521ea h_84 h_89 | omega⟩) (by omega)

set_option maxRecDepth 100000 in
set_option maxHeartbeats 4000000 in
theorem s_161 {sc : List Int32} {e : Int} {d u P Q : Nat} {c : ME} {a1 : Int} {Z : AR → Prop} (hI : Iv u e P Q c) (ha1 : 1 ≤ a1 ∧ a1 ≤ 255) (K : ∀ (c2 : ME), Iv u e P Q c2 → (∀ (a : Nat) (j : Int), ¬ ((a = 41 ∧ j = 4) ∨ (a = 41 ∧ j = 5) ∨ (a = 41 ∧ j = 6)) → c2 a j = c a j) → ((c2 41 4 ≥ c 41 4)) → ((c2 41 4 ≤ c 41 3) ∨ (c2 41 4 = c 41 4)) → ((c 41 5 = (-1)) ∨ (c2 41 5 = c 41 5)) → ((c2 41 5 < (-1)) ∨ (c2 41 5 > (-1)) ∨ (c2 41 4 > c 41 4 ∧ c2 41 4 ≤ c 41 3 ∧ c 41 5 = (-1))) → Z (.inl (none), Wd P Q P P c2, 0, 0)) : Wp sc (d + 8) 161 0 [(0, .ref 41), (1, vi a1)] [] (Wd P Q P P c) 0 0 Z := by
  have hP := iv_P hI
  have hQ := iv_Q hI
  refine q_aload_n c_161_0 rfl (v_cv c_161_1 km_8_131 rfl rfl (nb_ rfl) ⟨⟨rfl, rfl⟩, nb_ rfl, rfl⟩ (nb_ rfl) (nb_ rfl) (q_aload_n c_152_0 rfl ?_))
  have h_1 := ir_41_5 hI
  refine v_gi (z := 5) (v := c 41 5) c_152_1 kf_8_102 rfl (nb_ rfl) rfl rfl rfl (q_iconst c_152_4 ?_)
  by_cases h_2 : c 41 5 ≠ (-1)
  · refine v_ic_ne_t (t := 12) c_152_5 rfl ⟨h_2, ⟨(Int.le_trans (by decide) h_1.1), (Int.le_trans h_1.2 (by decide))⟩, by decide, by decide⟩ (q_iconst c_152_12 (v_zret c_152_13 rfl (by decide) (bk_inl (v_if_eq_t (t := 24) c_161_4 rfl (by decide) (q_aload_n c_161_24 rfl (v_cv c_161_25 km_8_131 rfl rfl (nb_ rfl) ⟨⟨rfl, rfl⟩, nb_ rfl, rfl⟩ (nb_ rfl) (nb_ rfl) (q_aload_n c_152_0 rfl ?_)))))))
    refine v_gi (z := 5) (v := c 41 5) c_152_1 kf_8_102 rfl (nb_ rfl) rfl rfl rfl (q_iconst c_152_4 (v_ic_ne_t (t := 12) c_152_5 rfl ⟨by first | exact q_bd023a79f h_1 h_2 | omega, ⟨(Int.le_trans (by decide) h_1.1), (Int.le_trans h_1.2 (by decide))⟩, by decide, by decide⟩ (q_iconst c_152_12 (v_zret c_152_13 rfl (by decide) (bk_inl (v_if_eq_t (t := 41) c_161_28 rfl (by decide) (q_vret rfl rfl ?_)))))))
    have h_3 := ir_41_4 hI
    exact K c hI (fun a j hm => rfl) (by first | exact q_e074ea49a | omega) (Or.inr (by first | assumption | omega)) (Or.inr (by first | assumption | omega)) (Or.inr (Or.inl (by first | exact q_2c2c046ea h_1 h_2 | omega)))
  · refine v_ic_ne_f (t := 12) c_152_5 rfl (Decidable.not_not.mp h_2) (q_iconst c_152_8 (q_goto (t := 13) c_152_9 rfl (v_zret c_152_13 rfl (by decide) (bk_inl (v_if_eq_f (t := 24) c_161_4 rfl (by decide) (q_aload_n c_161_7 rfl ?_))))))
    have h_4 := ir_41_4 hI
    have h_5 := ir_41_3 hI
    refine v_cv c_161_8 km_8_114 rfl rfl (nb_ rfl) ⟨⟨rfl, rfl⟩, nb_ rfl, rfl⟩ (nb_ rfl) (nb_ rfl) (s_154 hI (fun c_6 y_9 hI_7 hF_8 hy_9 h_10 h_11 h_12 h_13 => (bk_inl ?_)))
    have h_14 := ir_41_4 hI_7
    have h_15 := ir_43 hI (c_6 41 4)
    refine q_iload_n c_161_11 rfl ?_
    by_cases h_16 : y_9 = a1
    · refine v_ic_eq_t (t := 24) c_161_12 rfl h_16 (q_aload_n c_161_24 rfl (v_cv c_161_25 km_8_131 rfl rfl (nb_ rfl) ⟨⟨rfl, rfl⟩, nb_ rfl, rfl⟩ (nb_ rfl) (nb_ rfl) (q_aload_n c_152_0 rfl ?_)))
      have kn_17 : Hid (c_6 41 5 = c 41 5) := hF_8 41 5 (fun h => absurd h.2 (ni rfl))
      refine v_gi (z := 5) (v := c 41 5) c_152_1 kf_8_102 rfl (nb_ rfl) rfl rfl (hid kn_17) (q_iconst c_152_4 (v_ic_ne_f (t := 12) c_152_5 rfl (by first | exact q_65c5ff97d h_1 h_2 | omega) (q_iconst c_152_8 (q_goto (t := 13) c_152_9 rfl (v_zret c_152_13 rfl (by decide) (bk_inl (v_if_eq_f (t := 41) c_161_28 rfl (by decide) ?_)))))))
      refine q_aload_n c_161_31 rfl (q_dup c_161_32 rfl (v_gi (z := 4) (v := c_6 41 4) c_161_33 kf_8_108 rfl (nb_ rfl) rfl rfl rfl (q_iconst c_161_36 (v_iadd (v := c_6 41 4 + 1) c_161_37 rfl (v_pi (z := 4) c_161_38 kf_8_108 rfl (nb_ rfl) rfl rfl rfl (by decide) (q_vret rfl rfl ?_))))))
      have hI_18 := iw_41_4 (v := c_6 41 4 + 1) hI_7 ⟨by first | exact rgp_l h_14.1 (by decide) | omega, by first | exact q_9008534bf h_11 h_16 h_5 ha1 | omega⟩
      have h_19 : (up c_6 41 4 (c_6 41 4 + 1)) 41 4 = c_6 41 4 + 1 := (up_e rfl)
      have h_20 : (up c_6 41 4 (c_6 41 4 + 1)) 41 5 = c 41 5 := ((up_n (by decide)).trans (hid kn_17))
      exact K (up c_6 41 4 (c_6 41 4 + 1)) hI_18 (fun a j hm => (up_b (Decidable.or_iff_not_imp_left.mpr (fun h1 h2 => hm (Or.inl ⟨Decidable.not_not.mp h1, h2⟩)))).trans (hF_8 a j (fun h => hm (Or.inl h)))) (by first | exact q_baf20dc67 h_10 | omega) (Or.inl (by first | exact q_11b1af89a h_11 h_16 ha1 | omega)) (Or.inl (by first | exact q_65c5ff97d h_1 h_2 | omega)) (Or.inr (Or.inr ⟨by first | exact q_3d104540d h_10 | omega, by first | exact q_11b1af89a h_11 h_16 ha1 | omega, by first | exact q_65c5ff97d h_1 h_2 | omega⟩))
    · refine v_ic_eq_f (t := 24) c_161_12 rfl ⟨h_16, ⟨hy_9.1, hy_9.2⟩, (Int.le_trans (by decide) ha1.1), (Int.le_trans ha1.2 (by decide))⟩ (q_aload_n c_161_15 rfl (q_iconst c_161_16 (q_aload_n c_161_17 rfl (v_gi (z := 4) (v := c_6 41 4) c_161_18 kf_8_108 rfl (nb_ rfl) rfl rfl rfl (v_cv c_161_21 km_8_138 rfl rfl (nb_ rfl) ⟨⟨rfl, rfl⟩, nb_ rfl, rfl⟩ (nb_ rfl) (nb_ rfl) (s_153 (a1 := 1) (a2 := c_6 41 4) hI_7 (show 1 ≤ 1 ∧ 1 ≤ 3 from ⟨by decide, by decide⟩) (show 0 ≤ c_6 41 4 ∧ c_6 41 4 ≤ 605 from h_14) (fun c_21 hI_22 hF_23 h_24 => (bk_inl ?_))))))))
      have h_25 := ir_41_5 hI_22
      refine q_aload_n c_161_24 rfl (v_cv c_161_25 km_8_131 rfl rfl (nb_ rfl) ⟨⟨rfl, rfl⟩, nb_ rfl, rfl⟩ (nb_ rfl) (nb_ rfl) (q_aload_n c_152_0 rfl (v_gi (z := 5) (v := c_21 41 5) c_152_1 kf_8_102 rfl (nb_ rfl) rfl rfl rfl (q_iconst c_152_4 (v_ic_ne_t (t := 12) c_152_5 rfl ⟨by first | exact q_e869299d0 h_24 h_25 | omega, ⟨(Int.le_trans (by decide) h_25.1), (Int.le_trans h_25.2 (by decide))⟩, by decide, by decide⟩ (q_iconst c_152_12 (v_zret c_152_13 rfl (by decide) ?_)))))))
      refine bk_inl (v_if_eq_t (t := 41) c_161_28 rfl (by decide) (q_vret rfl rfl ?_))
      have kn_26 : Hid (c_21 41 4 = c_6 41 4) := hF_23 41 4 (fun q => q.elim (fun h => absurd h.2 (ni rfl)) (fun h => absurd h.2 (ni rfl)))
      have h_27 : c_21 41 4 = c_6 41 4 := (hid kn_26)
      exact K c_21 hI_22 (fun a j hm => (hF_23 a j (qv_74575dfaf hm)).trans (hF_8 a j (fun h => hm (Or.inl h)))) (by first | exact q_a2ce855bf h_10 | omega) (by omega) (Or.inl (by first | exact q_65c5ff97d h_1 h_2 | omega)) (Or.inr (Or.inl (by first | exact q_a3ee8eff6 h_24 h_25 | omega)))

set_option maxRecDepth 100000 in
set_option maxHeartbeats 4000000 in
theorem s_162 {sc : List Int32} {e : Int} {d u P Q : Nat} {c : ME} {Z : AR → Prop} (hI : Iv u e P Q c)  (K : ∀ (c2 : ME) (y : Int), Iv u e P Q c2 → (∀ (a : Nat) (j : Int), ¬ ((a = 41 ∧ j = 4)) → c2 a j = c a j) → 0 ≤ y ∧ y ≤ 1 → ((c2 41 4 ≥ c 41 4)) → ((c2 41 4 ≤ c 41 3) ∨ (c2 41 4 = c 41 4)) → ((y = 0) ∨ (c2 41 4 < c 41 3)) → Z (.inl (some (vi y)), Wd P Q P P c2, 0, 0)) : Wp sc (d + 8) 162 0 [(0, .ref 41)] [] (Wd P Q P P c) 0 0 Z := by
  have hP := iv_P hI
  have hQ := iv_Q hI
  refine q_aload_n c_162_0 rfl ?_
  have h_1 := ir_41_4 hI
  have h_2 := ir_41_3 hI
  refine v_cv c_162_1 km_8_114 rfl rfl (nb_ rfl) ⟨⟨rfl, rfl⟩, nb_ rfl, rfl⟩ (nb_ rfl) (nb_ rfl) (s_154 hI (fun c_3 y_6 hI_4 hF_5 hy_6 h_7 h_8 h_9 h_10 => (bk_inl ?_)))
  have h_11 := ir_41_4 hI_4
  have h_12 := ir_43 hI (c_3 41 4)
  refine q_pop c_162_4 rfl (q_aload_n c_162_5 rfl (v_gi (z := 4) (v := c_3 41 4) c_162_6 kf_8_108 rfl (nb_ rfl) rfl rfl rfl (q_aload_n c_162_9 rfl ?_)))
  have kn_13 : Hid (c_3 41 3 = c 41 3) := hF_5 41 3 (fun h => absurd h.2 (ni rfl))
  refine v_gi (z := 3) (v := c 41 3) c_162_10 kf_8_111 rfl (nb_ rfl) rfl rfl (hid kn_13) ?_
  by_cases h_14 : c_3 41 4 ≥ c 41 3
  · refine v_ic_ge_t (t := 20) c_162_13 rfl ⟨(Int.le_trans (by decide) h_2.1), h_14, (Int.le_trans h_11.2 (by decide))⟩ (q_iconst c_162_20 (v_zret c_162_21 rfl (by decide) ?_))
    exact K c_3 0 hI_4 (fun a j hm => hF_5 a j hm) ⟨by decide, by decide⟩ (by first | exact q_a2ce855bf h_7 | omega) (by omega) (Or.inl (by first | assumption | omega))
  · refine v_ic_ge_f (t := 20) c_162_13 rfl ⟨(Int.le_trans (by decide) h_11.1), (Int.not_le.mp h_14), (Int.le_trans h_2.2 (by decide))⟩ (q_iconst c_162_16 (q_goto (t := 21) c_162_17 rfl (v_zret c_162_21 rfl (by decide) ?_)))
    exact K c_3 1 hI_4 (fun a j hm => hF_5 a j hm) ⟨by decide, by decide⟩ (by first | exact q_a2ce855bf h_7 | omega) (Or.inl (by first | exact q_5fcb01701 h_14 | omega)) (Or.inr (by first | exact q_d17d18138 h_14 | omega))

set_option maxRecDepth 100000 in
set_option maxHeartbeats 4000000 in
theorem s_163 {sc : List Int32} {e : Int} {d u P Q : Nat} {c : ME} {a1 : Int} {Z : AR → Prop} (hI : Iv u e P Q c) (ha1 : 0 ≤ a1 ∧ a1 ≤ 600) (K : ∀ (c2 : ME), Iv u e P Q c2 → (∀ (a : Nat) (j : Int), ¬ ((a = 41 ∧ j = 2) ∨ (a = 41 ∧ j = 3) ∨ (a = 41 ∧ j = 4) ∨ (a = 41 ∧ j = 5) ∨ (a = 41 ∧ j = 7) ∨ (a = 41 ∧ j = 8)) → c2 a j = c a j) → ((c2 41 3 = a1 ∧ c2 41 4 = 0 ∧ c2 41 5 = (-1) ∧ c2 41 7 = 0 ∧ c2 41 2 = 0)) → Z (.inl (none), Wd P Q P P c2, 0, 0)) : Wp sc (d + 7) 163 0 [(0, .ref 41), (1, vi a1)] [] (Wd P Q P P c) 0 0 Z := by
  have hP := iv_P hI
  have hQ := iv_Q hI
  refine q_aload_n c_163_0 rfl (q_iconst c_163_1 (v_pi (z := 2) c_163_2 kf_8_99 rfl (nb_ rfl) rfl rfl rfl (by decide) (q_aload_n c_163_5 rfl (q_iconst c_163_6 (v_pi (z := 8) c_163_7 kf_8_17 rfl (nb_ rfl) rfl rfl rfl (by decide) (q_aload_n c_163_10 rfl (q_iload_n c_163_11 rfl ?_)))))))
  refine v_pi (z := 3) c_163_12 kf_8_111 rfl (nb_ rfl) rfl rfl rfl (by decide) (q_aload_n c_163_15 rfl (q_iconst c_163_16 (v_pi (z := 4) c_163_17 kf_8_108 rfl (nb_ rfl) rfl rfl rfl (by decide) (q_aload_n c_163_20 rfl (q_iconst c_163_21 (v_pi (z := 5) c_163_22 kf_8_102 rfl (nb_ rfl) rfl rfl rfl (by decide) (q_aload_n c_163_25 rfl ?_)))))))
  refine q_iconst c_163_26 (v_pi (z := 7) c_163_27 kf_8_142 rfl (nb_ rfl) rfl rfl rfl (by decide) (q_vret rfl rfl ?_))
  have hI_1 := iw_41_2 (v := 0) hI ⟨by decide, by decide⟩
  have hI_2 := iw_41_8 (v := (-1)) hI_1 ⟨by decide, by decide⟩
  have hI_3 := iw_41_3 (v := a1) hI_2 ⟨ha1.1, ha1.2⟩
  have hI_4 := iw_41_4 (v := 0) hI_3 ⟨by decide, by decide⟩
  have hI_5 := iw_41_5 (v := (-1)) hI_4 ⟨by decide, by decide⟩
  have hI_6 := iw_41_7 (v := 0) hI_5 ⟨by decide, by decide⟩
  have h_7 : (up (up (up (up (up (up c 41 2 0) 41 8 (-1)) 41 3 a1) 41 4 0) 41 5 (-1)) 41 7 0) 41 2 = 0 := ((up_n (by decide)).trans ((up_n (by decide)).trans ((up_n (by decide)).trans ((up_n (by decide)).trans ((up_n (by decide)).trans (up_e rfl))))))
  have h_8 : (up (up (up (up (up (up c 41 2 0) 41 8 (-1)) 41 3 a1) 41 4 0) 41 5 (-1)) 41 7 0) 41 3 = a1 := ((up_n (by decide)).trans ((up_n (by decide)).trans ((up_n (by decide)).trans (up_e rfl))))
  have h_9 : (up (up (up (up (up (up c 41 2 0) 41 8 (-1)) 41 3 a1) 41 4 0) 41 5 (-1)) 41 7 0) 41 4 = 0 := ((up_n (by decide)).trans ((up_n (by decide)).trans (up_e rfl)))
  have h_10 : (up (up (up (up (up (up c 41 2 0) 41 8 (-1)) 41 3 a1) 41 4 0) 41 5 (-1)) 41 7 0) 41 5 = (-1) := ((up_n (by decide)).trans (up_e rfl))
  have h_11 : (up (up (up (up (up (up c 41 2 0) 41 8 (-1)) 41 3 a1) 41 4 0) 41 5 (-1)) 41 7 0) 41 7 = 0 := (up_e rfl)
  exact K (up (up (up (up (up (up c 41 2 0) 41 8 (-1)) 41 3 a1) 41 4 0) 41 5 (-1)) 41 7 0) hI_6 (fun a j hm => (up_b (Decidable.or_iff_not_imp_left.mpr (fun h1 h2 => hm (Or.inr (Or.inr (Or.inr (Or.inr (Or.inl ⟨Decidable.not_not.mp h1, h2⟩)))))))).trans ((up_b (Decidable.or_iff_not_imp_left.mpr (fun h1 h2 => hm (Or.inr (Or.inr (Or.inr (Or.inl ⟨Decidable.not_not.mp h1, h2⟩))))))).trans ((up_b (Decidable.or_iff_not_imp_left.mpr (fun h1 h2 => hm (Or.inr (Or.inr (Or.inl ⟨Decidable.not_not.mp h1, h2⟩)))))).trans ((up_b (Decidable.or_iff_not_imp_left.mpr (fun h1 h2 => hm (Or.inr (Or.inl ⟨Decidable.not_not.mp h1, h2⟩))))).trans ((up_b (Decidable.or_iff_not_imp_left.mpr (fun h1 h2 => hm (Or.inr (Or.inr (Or.inr (Or.inr (Or.inr ⟨Decidable.not_not.mp h1, h2⟩)))))))).trans (up_b (Decidable.or_iff_not_imp_left.mpr (fun h1 h2 => hm (Or.inl ⟨Decidable.not_not.mp h1, h2⟩))))))))) ⟨by first | assumption | omega, by first | assumption | omega, by first | assumption | omega, by first | assumption | omega, by first | assumption | omega⟩

set_option maxRecDepth 100000 in
set_option maxHeartbeats 4000000 in
theorem s_164 {sc : List Int32} {e : Int} {d u P Q : Nat} {c : ME} {a1 : Int} {Z : AR → Prop} (hI : Iv u e P Q c) (ha1 : (-2147483648) ≤ a1 ∧ a1 ≤ 2147483647) (K : ∀ (c2 : ME) (y : Int), Iv u e P Q c2 → (∀ (a : Nat) (j : Int), ¬ ((a = 41 ∧ j = 8)) → c2 a j = c a j) → (-2147483648) ≤ y ∧ y ≤ 2147483647 → Z (.inl (some (vi y)), Wd P Q P P c2, 0, 0)) : Wp sc (d + 8) 164 0 [(0, .ref 41), (1, vi a1)] [] (Wd P Q P P c) 0 0 Z := by
  have hP := iv_P hI
  have hQ := iv_Q hI
  refine q_aload_n c_164_0 rfl (q_aload_n c_164_1 rfl ?_)
  have h_1 := ir_41_5 hI
  refine v_gi (z := 5) (v := c 41 5) c_164_2 kf_8_102 rfl (nb_ rfl) rfl rfl rfl (v_pi (z := 8) c_164_5 kf_8_17 rfl (nb_ rfl) rfl rfl rfl (by decide) (q_aload_n c_164_8 rfl (v_cv c_164_9 km_8_131 rfl rfl (nb_ rfl) ⟨⟨rfl, rfl⟩, nb_ rfl, rfl⟩ (nb_ rfl) (nb_ rfl) (q_aload_n c_152_0 rfl (v_gi (z := 5) (v := c 41 5) c_152_1 kf_8_102 rfl (nb_ rfl) rfl rfl (up_n (by decide)) (q_iconst c_152_4 ?_))))))
  by_cases h_2 : c 41 5 ≠ (-1)
  · refine v_ic_ne_t (t := 12) c_152_5 rfl ⟨h_2, ⟨(Int.le_trans (by decide) h_1.1), (Int.le_trans h_1.2 (by decide))⟩, by decide, by decide⟩ (q_iconst c_152_12 (v_zret c_152_13 rfl (by decide) (bk_inl (v_if_eq_t (t := 19) c_164_12 rfl (by decide) (q_aload_n c_164_19 rfl ?_)))))
    have h_3 := ir_41_6 hI
    refine v_gi (z := 6) (v := c 41 6) c_164_20 kf_8_105 rfl (nb_ rfl) rfl rfl (up_n (by decide)) (v_bip c_164_23 (by decide) (v_isub (v := c 41 6 - 10) c_164_25 rfl (q_iret c_164_26 rfl ?_)))
    have hI_4 := iw_41_8 (v := c 41 5) hI ⟨h_1.1, h_1.2⟩
    exact K (up c 41 8 (c 41 5)) (c 41 6 - 10) hI_4 (fun a j hm => up_b (Decidable.or_iff_not_imp_left.mpr (fun h1 h2 => hm ⟨Decidable.not_not.mp h1, h2⟩))) ⟨by first | exact rgm_l h_3.1 (by decide) | omega, by first | exact rgm_h h_3.2 (by decide) | omega⟩
  · refine v_ic_ne_f (t := 12) c_152_5 rfl (Decidable.not_not.mp h_2) (q_iconst c_152_8 (q_goto (t := 13) c_152_9 rfl (v_zret c_152_13 rfl (by decide) (bk_inl (v_if_eq_f (t := 19) c_164_12 rfl (by decide) (q_iload_n c_164_15 rfl (q_goto (t := 26) c_164_16 rfl ?_)))))))
    refine q_iret c_164_26 rfl ?_
    have hI_5 := iw_41_8 (v := c 41 5) hI ⟨h_1.1, h_1.2⟩
    exact K (up c 41 8 (c 41 5)) a1 hI_5 (fun a j hm => up_b (Decidable.or_iff_not_imp_left.mpr (fun h1 h2 => hm ⟨Decidable.not_not.mp h1, h2⟩))) ha1

set_option maxRecDepth 100000 in
set_option maxHeartbeats 4000000 in
theorem s_165 {sc : List Int32} {e : Int} {d u P Q : Nat} {c : ME} {Z : AR → Prop} (hI : Iv u e P Q c)  (K : ∀ (c2 : ME) (y : Int), Iv u e P Q c2 → (∀ (a : Nat) (j : Int), ¬ ((a = 41 ∧ j = 0)) → c2 a j = c a j) → (-1) ≤ y ∧ y ≤ 605 → Z (.inl (some (vi y)), Wd P Q P P c2, 0, 0)) : Wp sc (d + 7) 165 0 [(0, .ref 41)] [] (Wd P Q P P c) 0 0 Z := by
  have hP := iv_P hI
  have hQ := iv_Q hI
  refine q_aload_n c_165_0 rfl (q_iconst c_165_1 (v_pi (z := 0) c_165_2 kf_8_3 rfl (nb_ rfl) rfl rfl rfl (by decide) (q_aload_n c_165_5 rfl ?_)))
  have h_1 := ir_41_8 hI
  refine v_gi (z := 8) (v := c 41 8) c_165_6 kf_8_17 rfl (nb_ rfl) rfl rfl (up_n (by decide)) (q_iret c_165_9 rfl ?_)
  have hI_2 := iw_41_0 (v := 0) hI ⟨by decide, by decide⟩
  exact K (up c 41 0 0) (c 41 8) hI_2 (fun a j hm => up_b (Decidable.or_iff_not_imp_left.mpr (fun h1 h2 => hm ⟨Decidable.not_not.mp h1, h2⟩))) h_1

set_option maxRecDepth 100000 in
set_option maxHeartbeats 4000000 in
theorem s_166 {sc : List Int32} {e : Int} {d u P Q : Nat} {c : ME} {a0 : Int} {Z : AR → Prop} (hI : Iv u e P Q c) (ha0 : (-2147483648) ≤ a0 ∧ a0 ≤ 2147483647) (K : ∀ (y : Int), 0 ≤ y ∧ y ≤ 1 → ((y = 0) ∨ (a0 > 0)) → Z (.inl (some (vi y)), Wd P Q P P c, 0, 0)) : Wp sc (d + 8) 166 0 [(0, vi a0)] [] (Wd P Q P P c) 0 0 Z := by
  have hP := iv_P hI
  have hQ := iv_Q hI
  refine q_iload_n c_166_0 rfl (q_ldc_s c_166_1 rfl rfl (by decide) (q_call c_166_3 rfl rfl rfl (s_158_16 (bk_inl ?_))))
  by_cases h_1 : a0 = 10290
  · refine v_ic_eq_t (t := 36) c_166_6 rfl h_1 (q_iconst c_166_36 (q_goto (t := 41) c_166_37 rfl (v_zret c_166_41 rfl (by decide) ?_)))
    exact K 1 ⟨by decide, by decide⟩ (Or.inr (by first | exact q_0a1746f2d h_1 | omega))
  · refine v_ic_eq_f (t := 36) c_166_6 rfl ⟨h_1, ⟨ha0.1, ha0.2⟩, by decide, by decide⟩ (q_iload_n c_166_9 rfl (q_ldc_s c_166_10 rfl rfl (by decide) (q_call c_166_12 rfl rfl rfl (s_158_17 (bk_inl ?_)))))
    by_cases h_2 : a0 = 20594117
    · refine v_ic_eq_t (t := 36) c_166_15 rfl h_2 (q_iconst c_166_36 (q_goto (t := 41) c_166_37 rfl (v_zret c_166_41 rfl (by decide) ?_)))
      exact K 1 ⟨by decide, by decide⟩ (Or.inr (by first | exact q_5b5c1ed78 h_2 | omega))
    · refine v_ic_eq_f (t := 36) c_166_15 rfl ⟨h_2, ⟨ha0.1, ha0.2⟩, by decide, by decide⟩ (q_iload_n c_166_18 rfl (q_ldc_s c_166_19 rfl rfl (by decide) (q_call c_166_21 rfl rfl rfl (s_158_18 (bk_inl ?_)))))
      by_cases h_3 : a0 = 20223685
      · refine v_ic_eq_t (t := 36) c_166_24 rfl h_3 (q_iconst c_166_36 (q_goto (t := 41) c_166_37 rfl (v_zret c_166_41 rfl (by decide) ?_)))
        exact K 1 ⟨by decide, by decide⟩ (Or.inr (by first | exact q_02c639724 h_3 | omega))
      · refine v_ic_eq_f (t := 36) c_166_24 rfl ⟨h_3, ⟨ha0.1, ha0.2⟩, by decide, by decide⟩ (q_iload_n c_166_27 rfl (q_ldc_s c_166_28 rfl rfl (by decide) (q_call c_166_30 rfl rfl rfl (s_158_19 (bk_inl ?_)))))
        by_cases h_4 : a0 ≠ 153204
        · refine v_ic_ne_t (t := 40) c_166_33 rfl ⟨h_4, ⟨ha0.1, ha0.2⟩, by decide, by decide⟩ (q_iconst c_166_40 (v_zret c_166_41 rfl (by decide) ?_))
          exact K 0 ⟨by decide, by decide⟩ (Or.inl (by first | assumption | omega))
        · refine v_ic_ne_f (t := 40) c_166_33 rfl (Decidable.not_not.mp h_4) (q_iconst c_166_36 (q_goto (t := 41) c_166_37 rfl (v_zret c_166_41 rfl (by decide) ?_)))
          exact K 1 ⟨by decide, by decide⟩ (Or.inr (by first | exact q_c1447f94c h_4 | omega))

set_option maxRecDepth 100000 in
set_option maxHeartbeats 4000000 in
theorem s_168_l {sc : List Int32} {e : Int} {d u P Q : Nat} {c : ME} {a1 : Int} {Z : AR → Prop} (hI : Iv u e P Q c) (ha1 : (-2147483648) ≤ a1 ∧ a1 ≤ 2147483647) (hq0 : (a1 ≠ 10290) ∨ (c 41 16 ≤ 5)) (hq1 : (a1 ≠ 20594117) ∨ (c 41 17 ≤ 3)) (hq2 : (a1 ≠ 20223685) ∨ (c 41 18 ≤ 3)) (K : ∀ (c2 : ME), Iv u e P Q c2 → (∀ (a : Nat) (j : Int), ¬ ((a = 41 ∧ j = 4) ∨ (a = 41 ∧ j = 5) ∨ (a = 41 ∧ j = 6) ∨ (a = 41 ∧ j = 16) ∨ (a = 41 ∧ j = 17) ∨ (a = 41 ∧ j = 18) ∨ (a = 41 ∧ j = 19) ∨ a = 44 ∨ a = 45 ∨ a = 46) → c2 a j = c a j) → ((c2 41 4 ≥ c 41 4)) → Z (.inl (none), Wd P Q P P c2, 0, 0)) : ∀ n : Nat, (∀ (c2 : ME) (v2 : Int), Iv u e P Q c2 → (∀ (a : Nat) (j : Int), ¬ ((a = 41 ∧ j = 4) ∨ (a = 41 ∧ j = 5) ∨ (a = 41 ∧ j = 6) ∨ (a = 41 ∧ j = 16) ∨ (a = 41 ∧ j = 17) ∨ (a = 41 ∧ j = 18) ∨ (a = 41 ∧ j = 19) ∨ a = 44 ∨ a = 45 ∨ a = 46) → c2 a j = c a j) → 0 ≤ v2 ∧ v2 ≤ 4 → ((c2 41 16 ≤ 5)) → ((c2 41 4 ≥ c 41 4)) → 18 - 2 * v2 < (n : Int) → Wp sc (d + 9) 168 11 [(0, .ref 41), (1, vi a1), (2, vi v2)] [] (Wd P Q P P c2) 0 0 Z) ∧ (∀ (c2 : ME) (v2 : Int), Iv u e P Q c2 → (∀ (a : Nat) (j : Int), ¬ ((a = 41 ∧ j = 4) ∨ (a = 41 ∧ j = 5) ∨ (a = 41 ∧ j = 6) ∨ (a = 41 ∧ j = 16) ∨ (a = 41 ∧ j = 17) ∨ (a = 41 ∧ j = 18) ∨ (a = 41 ∧ j = 19) ∨ a = 44 ∨ a = 45 ∨ a = 46) → c2 a j = c a j) → 0 ≤ v2 ∧ v2 ≤ 3 → ((c2 41 17 ≤ 3)) → ((c2 41 4 ≥ c 41 4)) → 7 - 2 * v2 < (n : Int) → Wp sc (d + 9) 168 67 [(0, .ref 41), (1, vi a1), (2, vi v2)] [] (Wd P Q P P c2) 0 0 Z) := by
  intro n
  induction n with
  | zero => exact (by exact ⟨by (intro c2 v2 hI2 hF hv2 hx0 hx1 hm9; have hP := iv_P hI; have hQ := iv_Q hI; exfalso; omega), by (intro c2 v2 hI2 hF hv2 hx0 hx1 hm9; have hP := iv_P hI; have hQ := iv_Q hI; exfalso; omega)⟩)
  | succ n ih =>
    have hP := iv_P hI
    have hQ := iv_Q hI
    refine ⟨?_, ?_⟩
    · skip
      intro c2 v2 hI2 hF hv2 hx0 hx1 hm9
      have h_1 := ir_41_16 hI2
      have h_2 := ir_41_4 hI
      have h_3 := ir_41_4 hI2
      refine q_iload_n c_168_11 rfl (q_iconst c_168_12 ?_)
      by_cases h_4 : v2 ≥ 4
      · refine v_ic_ge_t (t := 43) c_168_13 rfl ⟨by decide, h_4, (Int.le_trans hv2.2 (by decide))⟩ (q_aload_n c_168_43 rfl (q_dup c_168_44 rfl (v_gi (z := 16) (v := c2 41 16) c_168_45 kf_8_145 rfl (nb_ rfl) rfl rfl rfl (q_iconst c_168_48 (v_iadd (v := c2 41 16 + 1) c_168_49 rfl (v_pi (z := 16) c_168_50 kf_8_145 rfl (nb_ rfl) rfl rfl rfl (by decide) (q_goto (t := 159) c_168_53 rfl ?_)))))))
        refine q_vret rfl rfl ?_
        have hI_5 := iw_41_16 (v := c2 41 16 + 1) hI2 ⟨by first | exact rgp_l h_1.1 (by decide) | omega, by first | (clear ha1 hv2 hx1 h_1 h_2 h_3 h_4 hq0 hq1 hq2; omega) | omega⟩
        have h_6 : (up c2 41 16 (c2 41 16 + 1)) 41 4 = c2 41 4 := (up_n (by decide))
        exact K (up c2 41 16 (c2 41 16 + 1)) hI_5 (fun a j hm => (up_b (Decidable.or_iff_not_imp_left.mpr (fun h1 h2 => hm (Or.inr (Or.inr (Or.inr (Or.inl ⟨Decidable.not_not.mp h1, h2⟩))))))).trans (hF a j hm)) (by first | (clear ha1 hv2 hx0 h_1 h_2 h_3 h_4 hq0 hq1 hq2; omega) | omega)
      · refine v_ic_ge_f (t := 43) c_168_13 rfl ⟨(Int.le_trans (by decide) hv2.1), (Int.not_le.mp h_4), by decide⟩ (q_aload_n c_168_16 rfl (v_gr (t := 44) c_168_17 kf_8_23 rfl (nb_ rfl) rfl (q_iconst c_168_20 (q_aload_n c_168_21 rfl (v_gi (z := 16) (v := c2 41 16) c_168_22 kf_8_145 rfl (nb_ rfl) rfl rfl rfl (v_imul (v := 4 * c2 41 16) c_168_25 (by first | exact q_4654d868a | omega) (q_iload_n c_168_26 rfl ?_)))))))
        refine v_iadd (v := 4 * c2 41 16 + v2) c_168_27 rfl (q_aload_n c_168_28 rfl (q_iconst c_168_29 (v_sip c_168_30 (by decide) ?_)))
        have h_7 := ir_41_3 hI
        have kn_8 : Hid (c2 41 3 = c 41 3) := hF 41 3 qn_b860ee9cc
        have h_9 : c2 41 3 = c 41 3 := (hid kn_8)
        have h_10 := ir_41_5 hI2
        refine v_cv c_168_33 km_8_199 rfl rfl (nb_ rfl) ⟨⟨rfl, rfl⟩, nb_ rfl, rfl⟩ (nb_ rfl) (nb_ rfl) (s_160 (a1 := 0) (a2 := 999) hI2 (show 0 ≤ 0 ∧ 0 ≤ 1 from ⟨by decide, by decide⟩) (show (-1) ≤ 999 ∧ 999 ≤ 9999 from ⟨by decide, by decide⟩) (fun c_11 y_14 hI_12 hF_13 hy_14 h_15 h_16 h_17 h_18 h_19 => (bk_inl ?_)))
        have h_20 := ir_41_4 hI_12
        have h_21 := ir_41_5 hI_12
        refine v_is c_168_36 rfl (by decide) (by decide) ⟨by first | exact q_e430e3a82 h_1 hv2 | omega, by first | (clear ha1 hv2 hx1 h_1 h_2 h_3 h_7 h_10 h_20 h_15 h_21 hq0 hq1 hq2 h_16 h_17 h_18 h_19; omega) | omega⟩ (v_iinc (v := v2 + 1) c_168_37 rfl (nb_ rfl) rfl (q_goto (t := 11) c_168_40 rfl ?_))
        have hI_22 := iw_44 (j := 4 * c2 41 16 + v2) (v := y_14) hI_12 ⟨hy_14.1, by first | exact q_402c5255b h_17 | omega⟩
        refine Wp_ls [(0, .ref 41), (1, vi a1), (2, vi (v2 + 1))] (lsub_cons rfl (lsub_cons rfl (lsub_cons rfl lsub_nil))) ?_
        have kn_23 : Hid (c_11 41 16 = c2 41 16) := hF_13 41 16 qn_e8809db5e
        have h_24 : (up c_11 44 (4 * c2 41 16 + v2) y_14) 41 16 = c2 41 16 := ((up_c (nn rfl)).trans (hid kn_23))
        have h_25 : (up c_11 44 (4 * c2 41 16 + v2) y_14) 41 4 = c_11 41 4 := (up_c (nn rfl))
        exact ih.1 (up c_11 44 (4 * c2 41 16 + v2) y_14) (v2 + 1) hI_22 (fun a j hm => (up_b (Decidable.or_iff_not_imp_left.mpr (fun h1 h2 => hm (Or.inr (Or.inr (Or.inr (Or.inr (Or.inr (Or.inr (Or.inr (Or.inl (Decidable.not_not.mp h1)))))))))))).trans ((hF_13 a j (qv_e105a9b19 hm)).trans (hF a j hm))) ⟨by first | exact rgp_l hv2.1 (by decide) | omega, by first | exact q_121241f94 h_4 | omega⟩ (by first | (clear ha1 hv2 hx1 h_1 h_2 h_3 h_4 h_7 h_10 h_20 h_15 h_21 hq0 hq1 hq2 h_16 h_17 h_18 h_19; omega) | omega) (by first | (clear ha1 hv2 hx0 h_1 h_2 h_3 h_4 h_7 h_10 h_20 h_21 hq0 hq1 hq2 h_16 h_17 h_18 h_19; omega) | omega) (by omega)
    · skip
      intro c2 v2 hI2 hF hv2 hx0 hx1 hm9
      have h_26 := ir_41_17 hI2
      have h_27 := ir_41_4 hI
      have h_28 := ir_41_4 hI2
      refine q_iload_n c_168_67 rfl (q_iconst c_168_68 ?_)
      by_cases h_29 : v2 ≥ 3
      · refine v_ic_ge_t (t := 98) c_168_69 rfl ⟨by decide, h_29, (Int.le_trans hv2.2 (by decide))⟩ (q_aload_n c_168_98 rfl (q_dup c_168_99 rfl (v_gi (z := 17) (v := c2 41 17) c_168_100 kf_8_148 rfl (nb_ rfl) rfl rfl rfl (q_iconst c_168_103 (v_iadd (v := c2 41 17 + 1) c_168_104 rfl (v_pi (z := 17) c_168_105 kf_8_148 rfl (nb_ rfl) rfl rfl rfl (by decide) (q_goto (t := 159) c_168_108 rfl ?_)))))))
        refine q_vret rfl rfl ?_
        have hI_30 := iw_41_17 (v := c2 41 17 + 1) hI2 ⟨by first | exact rgp_l h_26.1 (by decide) | omega, by first | (clear ha1 hv2 hx1 h_26 h_27 h_28 h_29 hq0 hq1 hq2; omega) | omega⟩
        have h_31 : (up c2 41 17 (c2 41 17 + 1)) 41 4 = c2 41 4 := (up_n (by decide))
        exact K (up c2 41 17 (c2 41 17 + 1)) hI_30 (fun a j hm => (up_b (Decidable.or_iff_not_imp_left.mpr (fun h1 h2 => hm (Or.inr (Or.inr (Or.inr (Or.inr (Or.inl ⟨Decidable.not_not.mp h1, h2⟩)))))))).trans (hF a j hm)) (by first | (clear ha1 hv2 hx0 h_26 h_27 h_28 h_29 hq0 hq1 hq2; omega) | omega)
      · refine v_ic_ge_f (t := 98) c_168_69 rfl ⟨(Int.le_trans (by decide) hv2.1), (Int.not_le.mp h_29), by decide⟩ (q_aload_n c_168_72 rfl (v_gr (t := 45) c_168_73 kf_8_26 rfl (nb_ rfl) rfl (q_iconst c_168_76 (q_aload_n c_168_77 rfl (v_gi (z := 17) (v := c2 41 17) c_168_78 kf_8_148 rfl (nb_ rfl) rfl rfl rfl (v_imul (v := 3 * c2 41 17) c_168_81 (by first | exact q_48b4e9a29 | omega) (q_iload_n c_168_82 rfl ?_)))))))
        refine v_iadd (v := 3 * c2 41 17 + v2) c_168_83 rfl (q_aload_n c_168_84 rfl (q_iconst c_168_85 (v_bip c_168_86 (by decide) ?_)))
        have h_32 := ir_41_3 hI
        have kn_33 : Hid (c2 41 3 = c 41 3) := hF 41 3 qn_b860ee9cc
        have h_34 : c2 41 3 = c 41 3 := (hid kn_33)
        have h_35 := ir_41_5 hI2
        refine v_cv c_168_88 km_8_199 rfl rfl (nb_ rfl) ⟨⟨rfl, rfl⟩, nb_ rfl, rfl⟩ (nb_ rfl) (nb_ rfl) (s_160 (a1 := 0) (a2 := 10) hI2 (show 0 ≤ 0 ∧ 0 ≤ 1 from ⟨by decide, by decide⟩) (show (-1) ≤ 10 ∧ 10 ≤ 9999 from ⟨by decide, by decide⟩) (fun c_36 y_39 hI_37 hF_38 hy_39 h_40 h_41 h_42 h_43 h_44 => (bk_inl ?_)))
        have h_45 := ir_41_4 hI_37
        have h_46 := ir_41_5 hI_37
        refine v_is c_168_91 rfl (by decide) (by decide) ⟨by first | exact q_1d3e4956f h_26 hv2 | omega, by first | (clear ha1 hv2 hx1 h_26 h_27 h_28 h_32 h_35 h_45 h_40 h_46 hq0 hq1 hq2 h_41 h_42 h_43 h_44; omega) | omega⟩ (v_iinc (v := v2 + 1) c_168_92 rfl (nb_ rfl) rfl (q_goto (t := 67) c_168_95 rfl ?_))
        have hI_47 := iw_45 (j := 3 * c2 41 17 + v2) (v := y_39) hI_37 ⟨hy_39.1, by first | exact q_280111ceb h_42 | omega⟩
        refine Wp_ls [(0, .ref 41), (1, vi a1), (2, vi (v2 + 1))] (lsub_cons rfl (lsub_cons rfl (lsub_cons rfl lsub_nil))) ?_
        have kn_48 : Hid (c_36 41 17 = c2 41 17) := hF_38 41 17 qn_a870196d2
        have h_49 : (up c_36 45 (3 * c2 41 17 + v2) y_39) 41 17 = c2 41 17 := ((up_c (nn rfl)).trans (hid kn_48))
        have h_50 : (up c_36 45 (3 * c2 41 17 + v2) y_39) 41 4 = c_36 41 4 := (up_c (nn rfl))
        exact ih.2 (up c_36 45 (3 * c2 41 17 + v2) y_39) (v2 + 1) hI_47 (fun a j hm => (up_b (Decidable.or_iff_not_imp_left.mpr (fun h1 h2 => hm (Or.inr (Or.inr (Or.inr (Or.inr (Or.inr (Or.inr (Or.inr (Or.inr (Or.inl (Decidable.not_not.mp h1))))))))))))).trans ((hF_38 a j (qv_e105a9b19 hm)).trans (hF a j hm))) ⟨by first | exact rgp_l hv2.1 (by decide) | omega, by first | exact q_d380ec9e8 h_29 | omega⟩ (by first | (clear ha1 hv2 hx1 h_26 h_27 h_28 h_29 h_32 h_35 h_45 h_40 h_46 hq0 hq1 hq2 h_41 h_42 h_43 h_44; omega) | omega) (by first | (clear ha1 hv2 hx0 h_26 h_27 h_28 h_29 h_32 h_35 h_45 h_46 hq0 hq1 hq2 h_41 h_42 h_43 h_44; omega) | omega) (by omega)
set_option maxRecDepth 100000 in
set_option maxHeartbeats 4000000 in
theorem s_168 {sc : List Int32} {e : Int} {d u P Q : Nat} {c : ME} {a1 : Int} {Z : AR → Prop} (hI : Iv u e P Q c) (ha1 : (-2147483648) ≤ a1 ∧ a1 ≤ 2147483647) (hq0 : (a1 ≠ 10290) ∨ (c 41 16 ≤ 5)) (hq1 : (a1 ≠ 20594117) ∨ (c 41 17 ≤ 3)) (hq2 : (a1 ≠ 20223685) ∨ (c 41 18 ≤ 3)) (K : ∀ (c2 : ME), Iv u e P Q c2 → (∀ (a : Nat) (j : Int), ¬ ((a = 41 ∧ j = 4) ∨ (a = 41 ∧ j = 5) ∨ (a = 41 ∧ j = 6) ∨ (a = 41 ∧ j = 16) ∨ (a = 41 ∧ j = 17) ∨ (a = 41 ∧ j = 18) ∨ (a = 41 ∧ j = 19) ∨ a = 44 ∨ a = 45 ∨ a = 46) → c2 a j = c a j) → ((c2 41 4 ≥ c 41 4)) → Z (.inl (none), Wd P Q P P c2, 0, 0)) : Wp sc (d + 9) 168 0 [(0, .ref 41), (1, vi a1)] [] (Wd P Q P P c) 0 0 Z := by
  have hP := iv_P hI
  have hQ := iv_Q hI
  have h_51 := ir_41_16 hI
  have h_52 := ir_41_17 hI
  have h_53 := ir_41_18 hI
  refine q_iload_n c_168_0 rfl (q_ldc_s c_168_1 rfl rfl (by decide) (q_call c_168_3 rfl rfl rfl (s_158_16 (bk_inl ?_))))
  by_cases h_54 : a1 ≠ 10290
  · refine v_ic_ne_t (t := 56) c_168_6 rfl ⟨h_54, ⟨ha1.1, ha1.2⟩, by decide, by decide⟩ (q_iload_n c_168_56 rfl (q_ldc_s c_168_57 rfl rfl (by decide) (q_call c_168_59 rfl rfl rfl (s_158_17 (bk_inl ?_)))))
    by_cases h_55 : a1 ≠ 20594117
    · refine v_ic_ne_t (t := 111) c_168_62 rfl ⟨h_55, ⟨ha1.1, ha1.2⟩, by decide, by decide⟩ (q_iload_n c_168_111 rfl (q_ldc_s c_168_112 rfl rfl (by decide) (q_call c_168_114 rfl rfl rfl (s_158_18 (bk_inl ?_)))))
      by_cases h_56 : a1 ≠ 20223685
      · refine v_ic_ne_t (t := 148) c_168_117 rfl ⟨h_56, ⟨ha1.1, ha1.2⟩, by decide, by decide⟩ (q_aload_n c_168_148 rfl (q_aload_n c_168_149 rfl (q_iconst c_168_150 (v_bip c_168_151 (by decide) ?_))))
        have h_57 := ir_41_4 hI
        have h_58 := ir_41_3 hI
        have h_59 := ir_41_5 hI
        refine v_cv c_168_153 km_8_199 rfl rfl (nb_ rfl) ⟨⟨rfl, rfl⟩, nb_ rfl, rfl⟩ (nb_ rfl) (nb_ rfl) (s_160 (a1 := 0) (a2 := 50) hI (show 0 ≤ 0 ∧ 0 ≤ 1 from ⟨by decide, by decide⟩) (show (-1) ≤ 50 ∧ 50 ≤ 9999 from ⟨by decide, by decide⟩) (fun c_60 y_63 hI_61 hF_62 hy_63 h_64 h_65 h_66 h_67 h_68 => (bk_inl ?_)))
        have h_69 := ir_41_4 hI_61
        have h_70 := ir_41_5 hI_61
        refine v_pi (z := 19) c_168_156 kf_8_154 rfl (nb_ rfl) rfl rfl rfl (by decide) (q_vret rfl rfl ?_)
        have hI_71 := iw_41_19 (v := y_63) hI_61 ⟨hy_63.1, by first | exact q_8f3103337 h_66 | omega⟩
        have h_72 : (up c_60 41 19 y_63) 41 4 = c_60 41 4 := (up_n (by decide))
        exact K (up c_60 41 19 y_63) hI_71 (fun a j hm => (up_b (Decidable.or_iff_not_imp_left.mpr (fun h1 h2 => hm (Or.inr (Or.inr (Or.inr (Or.inr (Or.inr (Or.inr (Or.inl ⟨Decidable.not_not.mp h1, h2⟩)))))))))).trans (hF_62 a j (qv_e105a9b19 hm))) (by first | exact q_a2ce855bf h_64 | omega)
      · refine v_ic_ne_f (t := 148) c_168_117 rfl (Decidable.not_not.mp h_56) (q_aload_n c_168_120 rfl (v_gr (t := 46) c_168_121 kf_8_29 rfl (nb_ rfl) rfl (q_aload_n c_168_124 rfl (v_gi (z := 18) (v := c 41 18) c_168_125 kf_8_151 rfl (nb_ rfl) rfl rfl rfl (q_aload_n c_168_128 rfl (q_iconst c_168_129 (q_iconst c_168_130 ?_)))))))
        have h_73 := ir_41_4 hI
        have h_74 := ir_41_3 hI
        have h_75 := ir_41_5 hI
        refine v_cv c_168_131 km_8_199 rfl rfl (nb_ rfl) ⟨⟨rfl, rfl⟩, nb_ rfl, rfl⟩ (nb_ rfl) (nb_ rfl) (s_160 (a1 := 0) (a2 := 2) hI (show 0 ≤ 0 ∧ 0 ≤ 1 from ⟨by decide, by decide⟩) (show (-1) ≤ 2 ∧ 2 ≤ 9999 from ⟨by decide, by decide⟩) (fun c_76 y_79 hI_77 hF_78 hy_79 h_80 h_81 h_82 h_83 h_84 => (bk_inl ?_)))
        have h_85 := ir_41_4 hI_77
        have h_86 := ir_41_5 hI_77
        refine v_is c_168_134 rfl (by decide) (by decide) ⟨h_53.1, by first | exact q_bfe2babd2 h_56 hq2 | omega⟩ (q_aload_n c_168_135 rfl (q_dup c_168_136 rfl ?_))
        have kn_87 : Hid (c_76 41 18 = c 41 18) := hF_78 41 18 qn_d8f940cfc
        refine v_gi (z := 18) (v := c 41 18) c_168_137 kf_8_151 rfl (nb_ rfl) rfl rfl ((up_c (nn rfl)).trans (hid kn_87)) (q_iconst c_168_140 (v_iadd (v := c 41 18 + 1) c_168_141 rfl (v_pi (z := 18) c_168_142 kf_8_151 rfl (nb_ rfl) rfl rfl rfl (by decide) (q_goto (t := 159) c_168_145 rfl (q_vret rfl rfl ?_)))))
        have hI_88 := iw_46 (j := c 41 18) (v := y_79) hI_77 ⟨hy_79.1, by first | exact q_e93795c0a h_82 | omega⟩
        have hI_89 := iw_41_18 (v := c 41 18 + 1) hI_88 ⟨by first | exact rgp_l h_53.1 (by decide) | omega, by first | exact q_26a4771c0 h_56 hq2 | omega⟩
        have h_90 : (up (up c_76 46 (c 41 18) y_79) 41 18 (c 41 18 + 1)) 41 4 = c_76 41 4 := ((up_n (by decide)).trans (up_c (nn rfl)))
        exact K (up (up c_76 46 (c 41 18) y_79) 41 18 (c 41 18 + 1)) hI_89 (fun a j hm => (up_b (Decidable.or_iff_not_imp_left.mpr (fun h1 h2 => hm (Or.inr (Or.inr (Or.inr (Or.inr (Or.inr (Or.inl ⟨Decidable.not_not.mp h1, h2⟩))))))))).trans ((up_b (Decidable.or_iff_not_imp_left.mpr (fun h1 h2 => hm (Or.inr (Or.inr (Or.inr (Or.inr (Or.inr (Or.inr (Or.inr (Or.inr (Or.inr (Decidable.not_not.mp h1))))))))))))).trans (hF_78 a j (qv_e105a9b19 hm)))) (by first | exact q_a2ce855bf h_80 | omega)
    · refine v_ic_ne_f (t := 111) c_168_62 rfl (Decidable.not_not.mp h_55) (q_iconst c_168_65 (q_istore_n c_168_66 (nb_ rfl) (Wp_ls [(0, .ref 41), (1, vi a1), (2, vi 0)] (lsub_cons rfl (lsub_cons rfl (lsub_cons rfl lsub_nil))) ?_)))
      have h_91 := ir_41_4 hI
      exact (s_168_l (sc := sc) (d := d) hI ha1 hq0 hq1 hq2 K 21).2 c 0 hI (fun a j hm => rfl) ⟨by decide, by decide⟩ (by first | exact q_3c292ed47 h_55 hq1 | omega) (by first | exact q_e074ea49a | omega) (by omega)
  · refine v_ic_ne_f (t := 56) c_168_6 rfl (Decidable.not_not.mp h_54) (q_iconst c_168_9 (q_istore_n c_168_10 (nb_ rfl) (Wp_ls [(0, .ref 41), (1, vi a1), (2, vi 0)] (lsub_cons rfl (lsub_cons rfl (lsub_cons rfl lsub_nil))) ?_)))
    have h_92 := ir_41_4 hI
    exact (s_168_l (sc := sc) (d := d) hI ha1 hq0 hq1 hq2 K 21).1 c 0 hI (fun a j hm => rfl) ⟨by decide, by decide⟩ (by first | exact q_be3b6650b h_54 hq0 | omega) (by first | exact q_e074ea49a | omega) (by omega)

set_option maxRecDepth 100000 in
set_option maxHeartbeats 4000000 in
theorem s_169_l {sc : List Int32} {d P Q : Nat} {c : ME} {a1 : Int} {Z : AR → Prop} (hI : Iv 0 (-1) P Q c) (ha1 : (-2147483648) ≤ a1 ∧ a1 ≤ 2147483647) (K : ∀ (c2 : ME) (y : Int), Iv 0 (-1) P Q c2 → (∀ (a : Nat) (j : Int), ¬ ((a = 41 ∧ j = 0) ∨ a = 42 ∨ (a = 41 ∧ j = 2) ∨ (a = 41 ∧ j = 3) ∨ (a = 41 ∧ j = 4) ∨ (a = 41 ∧ j = 5) ∨ (a = 41 ∧ j = 6) ∨ (a = 41 ∧ j = 7) ∨ (a = 41 ∧ j = 8) ∨ (a = 41 ∧ j = 16) ∨ (a = 41 ∧ j = 17) ∨ (a = 41 ∧ j = 18) ∨ (a = 41 ∧ j = 19) ∨ a = 44 ∨ a = 45 ∨ a = 46 ∨ (a = 41 ∧ j = 20) ∨ (a = 41 ∧ j = 21) ∨ (a = 41 ∧ j = 22) ∨ (a = 41 ∧ j = 23) ∨ (a = 41 ∧ j = 30) ∨ (a = 41 ∧ j = 35) ∨ (a = 41 ∧ j = 36) ∨ (a = 41 ∧ j = 47) ∨ (a = 41 ∧ j = 48) ∨ (a = 41 ∧ j = 52) ∨ a = 47 ∨ a = 48 ∨ a = 49 ∨ a = 58 ∨ a = 64) → c2 a j = c a j) → (-2147483648) ≤ y ∧ y ≤ 2147483647 → ((c2 41 2 = 0 ∧ a1 ≥ 0 ∧ a1 ≤ c 41 2 ∧ a1 ≤ 600) ∨ (c2 41 2 = c 41 2 ∧ a1 < 0) ∨ (c2 41 2 = c 41 2 ∧ a1 > c 41 2) ∨ (c2 41 2 = c 41 2 ∧ a1 > 600)) → Z (.inl (some (vi y)), Wd P Q P P c2, 0, 0)) : ∀ n : Nat, (∀ (c2 : ME) (v2 : Int), Iv 0 (-1) P Q c2 → (∀ (a : Nat) (j : Int), ¬ ((a = 41 ∧ j = 0) ∨ a = 42 ∨ (a = 41 ∧ j = 2) ∨ (a = 41 ∧ j = 3) ∨ (a = 41 ∧ j = 4) ∨ (a = 41 ∧ j = 5) ∨ (a = 41 ∧ j = 6) ∨ (a = 41 ∧ j = 7) ∨ (a = 41 ∧ j = 8) ∨ (a = 41 ∧ j = 16) ∨ (a = 41 ∧ j = 17) ∨ (a = 41 ∧ j = 18) ∨ (a = 41 ∧ j = 19) ∨ a = 44 ∨ a = 45 ∨ a = 46 ∨ (a = 41 ∧ j = 20) ∨ (a = 41 ∧ j = 21) ∨ (a = 41 ∧ j = 22) ∨ (a = 41 ∧ j = 23) ∨ (a = 41 ∧ j = 30) ∨ (a = 41 ∧ j = 35) ∨ (a = 41 ∧ j = 36) ∨ (a = 41 ∧ j = 47) ∨ (a = 41 ∧ j = 48) ∨ (a = 41 ∧ j = 52) ∨ a = 47 ∨ a = 48 ∨ a = 49 ∨ a = 58 ∨ a = 64) → c2 a j = c a j) → 0 ≤ v2 ∧ v2 ≤ 60 → ((c2 41 2 = 0 ∧ a1 ≥ 0 ∧ a1 ≤ c 41 2 ∧ a1 ≤ 600)) → 1211 - 2 * c2 41 4 < (n : Int) → Wp sc (d + 10) 169 44 [(0, .ref 41), (1, vi a1), (2, vi v2)] [] (Wd P Q P P c2) 0 0 Z) := by
  intro n
  induction n with
  | zero => exact (by intro c2 v2 hI2 hF hv2 hx0 hm9; have hP := iv_P hI; have hQ := iv_Q hI; have h_418 := ir_41_4 hI2; exfalso; omega)
  | succ n ih =>
    have hP := iv_P hI
    have hQ := iv_Q hI
    intro c2 v2 hI2 hF hv2 hx0 hm9
    have h_1 := ir_41_2 hI
    have h_2 := ir_41_2 hI2
    have h_3 := ir_41_4 hI2
    refine q_aload_n c_169_44 rfl (v_cv c_169_45 km_8_131 rfl rfl (nb_ rfl) ⟨⟨rfl, rfl⟩, nb_ rfl, rfl⟩ (nb_ rfl) (nb_ rfl) (q_aload_n c_152_0 rfl ?_))
    have h_4 := ir_41_5 hI2
    refine v_gi (z := 5) (v := c2 41 5) c_152_1 kf_8_102 rfl (nb_ rfl) rfl rfl rfl (q_iconst c_152_4 ?_)
    by_cases h_5 : c2 41 5 ≠ (-1)
    · refine v_ic_ne_t (t := 12) c_152_5 rfl ⟨h_5, ⟨(Int.le_trans (by decide) h_4.1), (Int.le_trans h_4.2 (by decide))⟩, by decide, by decide⟩ (q_iconst c_152_12 (v_zret c_152_13 rfl (by decide) (bk_inl (v_if_eq_t (t := 136) c_169_48 rfl (by decide) (q_aload_n c_169_136 rfl (q_aload_n c_169_137 rfl ?_))))))
      have h_6 := ir_41_16 hI2
      refine v_gi (z := 16) (v := c2 41 16) c_169_138 kf_8_145 rfl (nb_ rfl) rfl rfl rfl (v_cv c_169_141 km_8_232 rfl rfl (nb_ rfl) ⟨⟨rfl, rfl⟩, nb_ rfl, rfl⟩ (nb_ rfl) (nb_ rfl) (s_164 (a1 := c2 41 16) hI2 (show (-2147483648) ≤ c2 41 16 ∧ c2 41 16 ≤ 2147483647 from ⟨(Int.le_trans (by decide) h_6.1), (Int.le_trans h_6.2 (by decide))⟩) (fun c_7 y_10 hI_8 hF_9 hy_10 => (bk_inl (q_istore_n c_169_144 (nb_ rfl) (q_aload_n c_169_145 rfl ?_))))))
      have kn_11 : Hid (c_7 41 5 = c2 41 5) := hF_9 41 5 (fun h => absurd h.2 (ni rfl))
      refine v_gi (z := 5) (v := c2 41 5) c_169_146 kf_8_102 rfl (nb_ rfl) rfl rfl (hid kn_11) (q_iconst c_169_149 (v_ic_ne_t (t := 157) c_169_150 rfl ⟨by first | exact q_bd023a79f h_4 h_5 | omega, ⟨(Int.le_trans (by decide) h_4.1), (Int.le_trans h_4.2 (by decide))⟩, by decide, by decide⟩ (q_iload_n c_169_157 rfl (q_iret c_169_158 rfl ?_))))
      have kn_12 : Hid (c_7 41 2 = c2 41 2) := hF_9 41 2 (fun h => absurd h.2 (ni rfl))
      have h_13 : c_7 41 2 = c2 41 2 := (hid kn_12)
      exact K c_7 y_10 hI_8 (fun a j hm => (hF_9 a j (qv_6e732907b hm)).trans (hF a j hm)) hy_10 (Or.inl ⟨by first | (clear ha1 hv2 h_1 h_2 h_3 h_4 h_6 h_5; omega) | omega, by first | (clear ha1 hv2 h_1 h_2 h_3 h_4 h_6 h_5; omega) | omega, by first | (clear ha1 hv2 h_1 h_2 h_3 h_4 h_6 h_5; omega) | omega, by first | (clear ha1 hv2 h_1 h_2 h_3 h_4 h_6 h_5; omega) | omega⟩)
    · refine v_ic_ne_f (t := 12) c_152_5 rfl (Decidable.not_not.mp h_5) (q_iconst c_152_8 (q_goto (t := 13) c_152_9 rfl (v_zret c_152_13 rfl (by decide) (bk_inl (v_if_eq_f (t := 136) c_169_48 rfl (by decide) (q_aload_n c_169_51 rfl ?_))))))
      have h_14 := ir_41_3 hI2
      refine v_cv c_169_52 km_8_211 rfl rfl (nb_ rfl) ⟨⟨rfl, rfl⟩, nb_ rfl, rfl⟩ (nb_ rfl) (nb_ rfl) (s_162 hI2 (fun c_15 y_18 hI_16 hF_17 hy_18 h_19 h_20 h_21 => (bk_inl ?_)))
      have h_22 := ir_41_4 hI_16
      by_cases h_23 : y_18 = 0
      · refine v_if_eq_t (t := 136) c_169_55 rfl h_23 (q_aload_n c_169_136 rfl (q_aload_n c_169_137 rfl ?_))
        have h_24 := ir_41_16 hI2
        have kn_25 : Hid (c_15 41 16 = c2 41 16) := hF_17 41 16 (fun h => absurd h.2 (ni rfl))
        refine v_gi (z := 16) (v := c2 41 16) c_169_138 kf_8_145 rfl (nb_ rfl) rfl rfl (hid kn_25) (v_cv c_169_141 km_8_232 rfl rfl (nb_ rfl) ⟨⟨rfl, rfl⟩, nb_ rfl, rfl⟩ (nb_ rfl) (nb_ rfl) (s_164 (a1 := c2 41 16) hI_16 (show (-2147483648) ≤ c2 41 16 ∧ c2 41 16 ≤ 2147483647 from ⟨by first | exact q_730ab5169 h_24 | omega, by first | exact q_b289b7db2 h_24 | omega⟩) (fun c_26 y_29 hI_27 hF_28 hy_29 => (bk_inl (q_istore_n c_169_144 (nb_ rfl) (q_aload_n c_169_145 rfl ?_))))))
        have kn_30 : Hid (c_15 41 5 = c2 41 5) := hF_17 41 5 (fun h => absurd h.2 (ni rfl))
        have kn_31 : Hid (c_26 41 5 = c2 41 5) := (hF_28 41 5 (fun h => absurd h.2 (ni rfl))).trans (hid kn_30)
        refine v_gi (z := 5) (v := c2 41 5) c_169_146 kf_8_102 rfl (nb_ rfl) rfl rfl (hid kn_31) (q_iconst c_169_149 (v_ic_ne_f (t := 157) c_169_150 rfl (by first | exact q_65c5ff97d h_4 h_5 | omega) (q_aload_n c_169_153 rfl ?_)))
        have kn_32 : Hid (c_26 41 16 = c2 41 16) := (hF_28 41 16 (fun h => absurd h.2 (ni rfl))).trans (hid kn_25)
        have h_33 : c_26 41 16 = c2 41 16 := (hid kn_32)
        have h_34 := ir_41_17 hI2
        have kn_35 : Hid (c_15 41 17 = c2 41 17) := hF_17 41 17 (fun h => absurd h.2 (ni rfl))
        have kn_36 : Hid (c_26 41 17 = c2 41 17) := (hF_28 41 17 (fun h => absurd h.2 (ni rfl))).trans (hid kn_35)
        have h_37 : c_26 41 17 = c2 41 17 := (hid kn_36)
        have h_38 := ir_41_18 hI2
        have kn_39 : Hid (c_15 41 18 = c2 41 18) := hF_17 41 18 (fun h => absurd h.2 (ni rfl))
        have kn_40 : Hid (c_26 41 18 = c2 41 18) := (hF_28 41 18 (fun h => absurd h.2 (ni rfl))).trans (hid kn_39)
        have h_41 : c_26 41 18 = c2 41 18 := (hid kn_40)
        have h_42 := ir_41_19 hI2
        have kn_43 : Hid (c_15 41 19 = c2 41 19) := hF_17 41 19 (fun h => absurd h.2 (ni rfl))
        have kn_44 : Hid (c_26 41 19 = c2 41 19) := (hF_28 41 19 (fun h => absurd h.2 (ni rfl))).trans (hid kn_43)
        have h_45 : c_26 41 19 = c2 41 19 := (hid kn_44)
        refine v_cv c_169_154 km_8_96 rfl rfl (nb_ rfl) ⟨⟨rfl, rfl⟩, nb_ rfl, rfl⟩ (nb_ rfl) (nb_ rfl) (s_149 (iv_open hI_27) (fun c_46 hI_47 hF_48 h_49 => (bk_inl ?_)))
        have h_50 := ir_41_20 hI_47
        have h_51 := ir_41_21 hI_47
        have h_52 := ir_41_22 hI_47
        have h_53 := ir_41_23 hI_47
        have h_54 := ir_41_30 hI_47
        have h_55 := ir_41_35 hI_47
        have h_56 := ir_41_36 hI_47
        have h_57 := ir_41_47 hI_47
        have h_58 := ir_41_48 hI_47
        have h_59 := ir_41_52 hI_47
        refine q_iload_n c_169_157 rfl (q_iret c_169_158 rfl ?_)
        have kn_60 : Hid (c_15 41 2 = c2 41 2) := hF_17 41 2 (fun h => absurd h.2 (ni rfl))
        have kn_61 : Hid (c_26 41 2 = c2 41 2) := (hF_28 41 2 (fun h => absurd h.2 (ni rfl))).trans (hid kn_60)
        have kn_62 : Hid (c_46 41 2 = c2 41 2) := (hF_48 41 2 qn_040eefb90).trans (hid kn_61)
        have h_63 : c_46 41 2 = c2 41 2 := (hid kn_62)
        exact K c_46 y_29 hI_47 (fun a j hm => (hF_48 a j (qv_001693c50 hm)).trans ((hF_28 a j (qv_6e732907b hm)).trans ((hF_17 a j (fun h => hm (Or.inr (Or.inr (Or.inr (Or.inr (Or.inl h))))))).trans (hF a j hm)))) hy_29 (Or.inl ⟨by first | (clear ha1 hv2 h_1 h_2 h_3 h_4 h_5 h_14 h_22 h_19 h_23 h_24 h_34 h_38 h_42 h_50 h_51 h_52 h_53 h_54 h_55 h_56 h_57 h_58 h_59 h_49 h_20 h_21; omega) | omega, by first | (clear ha1 hv2 h_1 h_2 h_3 h_4 h_5 h_14 h_22 h_19 h_23 h_24 h_34 h_38 h_42 h_50 h_51 h_52 h_53 h_54 h_55 h_56 h_57 h_58 h_59 h_49 h_20 h_21; omega) | omega, by first | (clear ha1 hv2 h_1 h_2 h_3 h_4 h_5 h_14 h_22 h_19 h_23 h_24 h_34 h_38 h_42 h_50 h_51 h_52 h_53 h_54 h_55 h_56 h_57 h_58 h_59 h_49 h_20 h_21; omega) | omega, by first | (clear ha1 hv2 h_1 h_2 h_3 h_4 h_5 h_14 h_22 h_19 h_23 h_24 h_34 h_38 h_42 h_50 h_51 h_52 h_53 h_54 h_55 h_56 h_57 h_58 h_59 h_49 h_20 h_21; omega) | omega⟩)
      · refine v_if_eq_f (t := 136) c_169_55 rfl ⟨h_23, ⟨(Int.le_trans (by decide) hy_18.1), (Int.le_trans hy_18.2 (by decide))⟩, by decide, by decide⟩ (q_aload_n c_169_58 rfl ?_)
        have kn_64 : Hid (c_15 41 3 = c2 41 3) := hF_17 41 3 (fun h => absurd h.2 (ni rfl))
        have h_65 : c_15 41 3 = c2 41 3 := (hid kn_64)
        refine v_cv c_169_59 km_8_214 rfl rfl (nb_ rfl) ⟨⟨rfl, rfl⟩, nb_ rfl, rfl⟩ (nb_ rfl) (nb_ rfl) (s_157 hI_16 (fun c_66 y_69 hI_67 hF_68 hy_69 h_70 h_71 h_72 h_73 h_74 => (bk_inl ?_)))
        have h_75 := ir_41_4 hI_67
        have h_76 := ir_43 hI (c_66 41 4)
        have kn_77 : Hid (c2 43 (c_66 41 4) = c 43 (c_66 41 4)) := hF 43 (c_66 41 4) qn_b8e2be383
        have kn_78 : Hid (c_15 43 (c_66 41 4) = c 43 (c_66 41 4)) := (hF_17 43 (c_66 41 4) (fun h => absurd h.1 (nn rfl))).trans (hid kn_77)
        have h_79 : c_15 43 (c_66 41 4) = c 43 (c_66 41 4) := (hid kn_78)
        have h_80 := ir_43 hI (c_66 41 4 + 1)
        have kn_81 : Hid (c2 43 (c_66 41 4 + 1) = c 43 (c_66 41 4 + 1)) := hF 43 (c_66 41 4 + 1) qn_b8e2be383
        have kn_82 : Hid (c_15 43 (c_66 41 4 + 1) = c 43 (c_66 41 4 + 1)) := (hF_17 43 (c_66 41 4 + 1) (fun h => absurd h.1 (nn rfl))).trans (hid kn_81)
        have h_83 : c_15 43 (c_66 41 4 + 1) = c 43 (c_66 41 4 + 1) := (hid kn_82)
        have h_84 := ir_43 hI (c_66 41 4 + 2)
        have kn_85 : Hid (c2 43 (c_66 41 4 + 2) = c 43 (c_66 41 4 + 2)) := hF 43 (c_66 41 4 + 2) qn_b8e2be383
        have kn_86 : Hid (c_15 43 (c_66 41 4 + 2) = c 43 (c_66 41 4 + 2)) := (hF_17 43 (c_66 41 4 + 2) (fun h => absurd h.1 (nn rfl))).trans (hid kn_85)
        have h_87 : c_15 43 (c_66 41 4 + 2) = c 43 (c_66 41 4 + 2) := (hid kn_86)
        refine q_istore_n c_169_62 (nb_ rfl) (q_iload_n c_169_63 rfl (q_call c_169_64 rfl rfl rfl (s_166 (a0 := y_69) hI_67 (show (-2147483648) ≤ y_69 ∧ y_69 ≤ 2147483647 from hy_69) (fun y_88 hy_88 h_89 => (bk_inl ?_)))))
        by_cases h_90 : y_88 ≠ 0
        · refine v_if_ne_t (t := 82) c_169_67 rfl ⟨h_90, ⟨(Int.le_trans (by decide) hy_88.1), (Int.le_trans hy_88.2 (by decide))⟩, by decide, by decide⟩ (q_iload_n c_169_82 rfl (v_bip c_169_83 (by decide) ?_))
          by_cases h_91 : v2 = 60
          · refine v_ic_eq_t (t := 96) c_169_85 rfl h_91 (q_aload_n c_169_96 rfl (q_iconst c_169_97 (q_aload_n c_169_98 rfl (v_gi (z := 4) (v := c_66 41 4) c_169_99 kf_8_108 rfl (nb_ rfl) rfl rfl rfl (v_cv c_169_102 km_8_138 rfl rfl (nb_ rfl) ⟨⟨rfl, rfl⟩, nb_ rfl, rfl⟩ (nb_ rfl) (nb_ rfl) (s_153 (a1 := 3) (a2 := c_66 41 4) hI_67 (show 1 ≤ 3 ∧ 3 ≤ 3 from ⟨by decide, by decide⟩) (show 0 ≤ c_66 41 4 ∧ c_66 41 4 ≤ 605 from h_75) (fun c_92 hI_93 hF_94 h_95 => (bk_inl ?_))))))))
            have h_96 := ir_41_5 hI_93
            refine q_aload_n c_169_105 rfl (v_cv c_169_106 km_8_131 rfl rfl (nb_ rfl) ⟨⟨rfl, rfl⟩, nb_ rfl, rfl⟩ (nb_ rfl) (nb_ rfl) (q_aload_n c_152_0 rfl (v_gi (z := 5) (v := c_92 41 5) c_152_1 kf_8_102 rfl (nb_ rfl) rfl rfl rfl (q_iconst c_152_4 (v_ic_ne_t (t := 12) c_152_5 rfl ⟨by first | exact q_e869299d0 h_95 h_96 | omega, ⟨(Int.le_trans (by decide) h_96.1), (Int.le_trans h_96.2 (by decide))⟩, by decide, by decide⟩ (q_iconst c_152_12 (v_zret c_152_13 rfl (by decide) ?_)))))))
            refine bk_inl (v_if_ne_f (t := 115) c_169_109 rfl (by decide) (q_goto (t := 136) c_169_112 rfl (q_aload_n c_169_136 rfl (q_aload_n c_169_137 rfl ?_))))
            have h_97 := ir_41_16 hI2
            have kn_98 : Hid (c_15 41 16 = c2 41 16) := hF_17 41 16 (fun h => absurd h.2 (ni rfl))
            have kn_99 : Hid (c_66 41 16 = c2 41 16) := (hF_68 41 16 (fun h => absurd h.2 (ni rfl))).trans (hid kn_98)
            have kn_100 : Hid (c_92 41 16 = c2 41 16) := (hF_94 41 16 (fun q => q.elim (fun h => absurd h.2 (ni rfl)) (fun h => absurd h.2 (ni rfl)))).trans (hid kn_99)
            refine v_gi (z := 16) (v := c2 41 16) c_169_138 kf_8_145 rfl (nb_ rfl) rfl rfl (hid kn_100) (v_cv c_169_141 km_8_232 rfl rfl (nb_ rfl) ⟨⟨rfl, rfl⟩, nb_ rfl, rfl⟩ (nb_ rfl) (nb_ rfl) (s_164 (a1 := c2 41 16) hI_93 (show (-2147483648) ≤ c2 41 16 ∧ c2 41 16 ≤ 2147483647 from ⟨by first | exact q_730ab5169 h_97 | omega, by first | exact q_b289b7db2 h_97 | omega⟩) (fun c_101 y_104 hI_102 hF_103 hy_104 => (bk_inl (q_istore_n c_169_144 (nb_ rfl) (q_aload_n c_169_145 rfl ?_))))))
            have kn_105 : Hid (c_101 41 5 = c_92 41 5) := hF_103 41 5 (fun h => absurd h.2 (ni rfl))
            refine v_gi (z := 5) (v := c_92 41 5) c_169_146 kf_8_102 rfl (nb_ rfl) rfl rfl (hid kn_105) (q_iconst c_169_149 (v_ic_ne_t (t := 157) c_169_150 rfl ⟨by first | exact q_e869299d0 h_95 h_96 | omega, ⟨(Int.le_trans (by decide) h_96.1), (Int.le_trans h_96.2 (by decide))⟩, by decide, by decide⟩ (q_iload_n c_169_157 rfl (q_iret c_169_158 rfl ?_))))
            have kn_106 : Hid (c_15 41 2 = c2 41 2) := hF_17 41 2 (fun h => absurd h.2 (ni rfl))
            have kn_107 : Hid (c_66 41 2 = c2 41 2) := (hF_68 41 2 (fun h => absurd h.2 (ni rfl))).trans (hid kn_106)
            have kn_108 : Hid (c_92 41 2 = c2 41 2) := (hF_94 41 2 (fun q => q.elim (fun h => absurd h.2 (ni rfl)) (fun h => absurd h.2 (ni rfl)))).trans (hid kn_107)
            have kn_109 : Hid (c_101 41 2 = c2 41 2) := (hF_103 41 2 (fun h => absurd h.2 (ni rfl))).trans (hid kn_108)
            have h_110 : c_101 41 2 = c2 41 2 := (hid kn_109)
            exact K c_101 y_104 hI_102 (fun a j hm => (hF_103 a j (qv_6e732907b hm)).trans ((hF_94 a j (qv_063f5c1cf hm)).trans ((hF_68 a j (fun h => hm (Or.inr (Or.inr (Or.inr (Or.inr (Or.inl h))))))).trans ((hF_17 a j (fun h => hm (Or.inr (Or.inr (Or.inr (Or.inr (Or.inl h))))))).trans (hF a j hm))))) hy_104 (Or.inl ⟨by first | (clear ha1 hv2 h_1 h_2 h_3 h_4 h_5 h_14 h_22 h_19 h_75 h_70 h_76 h_80 h_84 h_91 h_96 h_97 h_20 h_21 h_23 h_71 h_72 h_73 h_74 h_89 h_90 h_95; omega) | omega, by first | (clear ha1 hv2 h_1 h_2 h_3 h_4 h_5 h_14 h_22 h_19 h_75 h_70 h_76 h_80 h_84 h_91 h_96 h_97 h_20 h_21 h_23 h_71 h_72 h_73 h_74 h_89 h_90 h_95; omega) | omega, by first | (clear ha1 hv2 h_1 h_2 h_3 h_4 h_5 h_14 h_22 h_19 h_75 h_70 h_76 h_80 h_84 h_91 h_96 h_97 h_20 h_21 h_23 h_71 h_72 h_73 h_74 h_89 h_90 h_95; omega) | omega, by first | (clear ha1 hv2 h_1 h_2 h_3 h_4 h_5 h_14 h_22 h_19 h_75 h_70 h_76 h_80 h_84 h_91 h_96 h_97 h_20 h_21 h_23 h_71 h_72 h_73 h_74 h_89 h_90 h_95; omega) | omega⟩)
          · refine v_ic_eq_f (t := 96) c_169_85 rfl ⟨h_91, ⟨(Int.le_trans (by decide) hv2.1), (Int.le_trans hv2.2 (by decide))⟩, by decide, by decide⟩ (q_aload_n c_169_88 rfl (q_iload_n c_169_89 rfl (v_cv c_169_90 km_8_220 rfl rfl (nb_ rfl) ⟨⟨rfl, rfl⟩, nb_ rfl, rfl⟩ (nb_ rfl) (nb_ rfl) (q_iload_n c_167_0 rfl (q_ldc_s c_167_1 rfl rfl (by decide) (q_call c_167_3 rfl rfl rfl (s_158_16 (bk_inl ?_))))))))
            by_cases h_111 : y_69 ≠ 10290
            · refine v_ic_ne_t (t := 26) c_167_6 rfl ⟨h_111, ⟨hy_69.1, hy_69.2⟩, by decide, by decide⟩ (q_iload_n c_167_26 rfl (q_ldc_s c_167_27 rfl rfl (by decide) (q_call c_167_29 rfl rfl rfl (s_158_17 (bk_inl ?_)))))
              by_cases h_112 : y_69 ≠ 20594117
              · refine v_ic_ne_t (t := 51) c_167_32 rfl ⟨h_112, ⟨hy_69.1, hy_69.2⟩, by decide, by decide⟩ (q_iload_n c_167_51 rfl (q_ldc_s c_167_52 rfl rfl (by decide) (q_call c_167_54 rfl rfl rfl (s_158_18 (bk_inl ?_)))))
                by_cases h_113 : y_69 ≠ 20223685
                · refine v_ic_ne_t (t := 72) c_167_57 rfl ⟨h_113, ⟨hy_69.1, hy_69.2⟩, by decide, by decide⟩ (q_iconst c_167_72 (v_zret c_167_73 rfl (by decide) (bk_inl (v_if_eq_t (t := 105) c_169_93 rfl (by decide) (q_aload_n c_169_105 rfl (v_cv c_169_106 km_8_131 rfl rfl (nb_ rfl) ⟨⟨rfl, rfl⟩, nb_ rfl, rfl⟩ (nb_ rfl) (nb_ rfl) (q_aload_n c_152_0 rfl ?_)))))))
                  have kn_114 : Hid (c_15 41 5 = c2 41 5) := hF_17 41 5 (fun h => absurd h.2 (ni rfl))
                  have kn_115 : Hid (c_66 41 5 = c2 41 5) := (hF_68 41 5 (fun h => absurd h.2 (ni rfl))).trans (hid kn_114)
                  refine v_gi (z := 5) (v := c2 41 5) c_152_1 kf_8_102 rfl (nb_ rfl) rfl rfl (hid kn_115) (q_iconst c_152_4 (v_ic_ne_f (t := 12) c_152_5 rfl (by first | exact q_65c5ff97d h_4 h_5 | omega) (q_iconst c_152_8 (q_goto (t := 13) c_152_9 rfl (v_zret c_152_13 rfl (by decide) (bk_inl (v_if_ne_t (t := 115) c_169_109 rfl (by decide) ?_)))))))
                  refine q_aload_n c_169_115 rfl ?_
                  have kn_116 : Hid (c_66 41 3 = c2 41 3) := (hF_68 41 3 (fun h => absurd h.2 (ni rfl))).trans (hid kn_64)
                  have h_117 : c_66 41 3 = c2 41 3 := (hid kn_116)
                  have kn_118 : Hid (c_66 43 (c_66 41 4) = c 43 (c_66 41 4)) := (hF_68 43 (c_66 41 4) (fun h => absurd h.1 (nn rfl))).trans (hid kn_78)
                  have h_119 : c_66 43 (c_66 41 4) = c 43 (c_66 41 4) := (hid kn_118)
                  have kn_120 : Hid (c_66 43 (c_66 41 4 + 1) = c 43 (c_66 41 4 + 1)) := (hF_68 43 (c_66 41 4 + 1) (fun h => absurd h.1 (nn rfl))).trans (hid kn_82)
                  have h_121 : c_66 43 (c_66 41 4 + 1) = c 43 (c_66 41 4 + 1) := (hid kn_120)
                  have kn_122 : Hid (c_66 43 (c_66 41 4 + 2) = c 43 (c_66 41 4 + 2)) := (hF_68 43 (c_66 41 4 + 2) (fun h => absurd h.1 (nn rfl))).trans (hid kn_86)
                  have h_123 : c_66 43 (c_66 41 4 + 2) = c 43 (c_66 41 4 + 2) := (hid kn_122)
                  refine v_cv c_169_116 km_8_223 rfl rfl (nb_ rfl) ⟨⟨rfl, rfl⟩, nb_ rfl, rfl⟩ (nb_ rfl) (nb_ rfl) (s_159 hI_67 (fun c_124 hI_125 hF_126 h_127 h_128 h_129 h_130 => (bk_inl ?_)))
                  have h_131 := ir_41_4 hI_125
                  refine q_aload_n c_169_119 rfl (q_iload_n c_169_120 rfl ?_)
                  have h_132 := ir_41_16 hI2
                  have kn_133 : Hid (c_15 41 16 = c2 41 16) := hF_17 41 16 (fun h => absurd h.2 (ni rfl))
                  have kn_134 : Hid (c_66 41 16 = c2 41 16) := (hF_68 41 16 (fun h => absurd h.2 (ni rfl))).trans (hid kn_133)
                  have kn_135 : Hid (c_124 41 16 = c2 41 16) := (hF_126 41 16 (fun h => absurd h.2 (ni rfl))).trans (hid kn_134)
                  have h_136 : c_124 41 16 = c2 41 16 := (hid kn_135)
                  have h_137 := ir_41_17 hI2
                  have kn_138 : Hid (c_15 41 17 = c2 41 17) := hF_17 41 17 (fun h => absurd h.2 (ni rfl))
                  have kn_139 : Hid (c_66 41 17 = c2 41 17) := (hF_68 41 17 (fun h => absurd h.2 (ni rfl))).trans (hid kn_138)
                  have kn_140 : Hid (c_124 41 17 = c2 41 17) := (hF_126 41 17 (fun h => absurd h.2 (ni rfl))).trans (hid kn_139)
                  have h_141 : c_124 41 17 = c2 41 17 := (hid kn_140)
                  have h_142 := ir_41_18 hI2
                  have kn_143 : Hid (c_15 41 18 = c2 41 18) := hF_17 41 18 (fun h => absurd h.2 (ni rfl))
                  have kn_144 : Hid (c_66 41 18 = c2 41 18) := (hF_68 41 18 (fun h => absurd h.2 (ni rfl))).trans (hid kn_143)
                  have kn_145 : Hid (c_124 41 18 = c2 41 18) := (hF_126 41 18 (fun h => absurd h.2 (ni rfl))).trans (hid kn_144)
                  have h_146 : c_124 41 18 = c2 41 18 := (hid kn_145)
                  refine v_cv c_169_121 km_8_226 rfl rfl (nb_ rfl) ⟨⟨rfl, rfl⟩, nb_ rfl, rfl⟩ (nb_ rfl) (nb_ rfl) (s_168 (a1 := y_69) hI_125 (show (-2147483648) ≤ y_69 ∧ y_69 ≤ 2147483647 from hy_69) (Or.inl (by first | exact q_05e4a3968 h_111 | omega)) (Or.inl (by first | exact q_58aa247fa h_112 | omega)) (Or.inl (by first | exact q_594b30c94 h_113 | omega)) (fun c_147 hI_148 hF_149 h_150 => (bk_inl ?_)))
                  have h_151 := ir_41_4 hI_148
                  refine q_aload_n c_169_124 rfl (v_bip c_169_125 (by decide) ?_)
                  have kn_152 : Hid (c_124 41 3 = c2 41 3) := (hF_126 41 3 (fun h => absurd h.2 (ni rfl))).trans (hid kn_116)
                  have kn_153 : Hid (c_147 41 3 = c2 41 3) := (hF_149 41 3 qn_b860ee9cc).trans (hid kn_152)
                  have h_154 : c_147 41 3 = c2 41 3 := (hid kn_153)
                  have h_155 := ir_41_5 hI_148
                  refine v_cv c_169_127 km_8_229 rfl rfl (nb_ rfl) ⟨⟨rfl, rfl⟩, nb_ rfl, rfl⟩ (nb_ rfl) (nb_ rfl) (s_161 (a1 := 59) hI_148 (show 1 ≤ 59 ∧ 59 ≤ 255 from ⟨by decide, by decide⟩) (fun c_156 hI_157 hF_158 h_159 h_160 h_161 h_162 => (bk_inl ?_)))
                  have h_163 := ir_41_4 hI_157
                  have h_164 := ir_41_5 hI_157
                  refine v_iinc (v := v2 + 1) c_169_130 rfl (nb_ rfl) rfl (q_goto (t := 44) c_169_133 rfl (Wp_ls [(0, .ref 41), (1, vi a1), (2, vi (v2 + 1))] (lsub_cons rfl (lsub_cons rfl (lsub_cons rfl lsub_nil))) ?_))
                  have kn_165 : Hid (c_15 41 2 = c2 41 2) := hF_17 41 2 (fun h => absurd h.2 (ni rfl))
                  have kn_166 : Hid (c_66 41 2 = c2 41 2) := (hF_68 41 2 (fun h => absurd h.2 (ni rfl))).trans (hid kn_165)
                  have kn_167 : Hid (c_124 41 2 = c2 41 2) := (hF_126 41 2 (fun h => absurd h.2 (ni rfl))).trans (hid kn_166)
                  have kn_168 : Hid (c_147 41 2 = c2 41 2) := (hF_149 41 2 qn_c33c5b2f3).trans (hid kn_167)
                  have kn_169 : Hid (c_156 41 2 = c2 41 2) := (hF_158 41 2 qn_6151d08e8).trans (hid kn_168)
                  have h_170 : c_156 41 2 = c2 41 2 := (hid kn_169)
                  exact ih c_156 (v2 + 1) hI_157 (fun a j hm => (hF_158 a j (qv_3242bd920 hm)).trans ((hF_149 a j (qv_3a3bba8ab hm)).trans ((hF_126 a j (fun h => hm (Or.inr (Or.inr (Or.inr (Or.inr (Or.inl h))))))).trans ((hF_68 a j (fun h => hm (Or.inr (Or.inr (Or.inr (Or.inr (Or.inl h))))))).trans ((hF_17 a j (fun h => hm (Or.inr (Or.inr (Or.inr (Or.inr (Or.inl h))))))).trans (hF a j hm)))))) ⟨by first | exact rgp_l hv2.1 (by decide) | omega, by first | exact q_a69d2ea54 h_91 hv2 | omega⟩ ⟨by first | (clear ha1 hv2 h_1 h_2 h_3 h_4 h_5 h_14 h_22 h_19 h_75 h_70 h_76 h_80 h_84 h_131 h_127 h_132 h_137 h_142 h_151 h_150 h_155 h_163 h_159 h_164 h_20 h_21 h_23 h_71 h_72 h_73 h_74 h_89 h_90 h_91 h_111 h_112 h_113 h_128 h_129 h_130 h_160 h_161 h_162; omega) | omega, by first | (clear ha1 hv2 h_1 h_2 h_3 h_4 h_5 h_14 h_22 h_19 h_75 h_70 h_76 h_80 h_84 h_131 h_127 h_132 h_137 h_142 h_151 h_150 h_155 h_163 h_159 h_164 h_20 h_21 h_23 h_71 h_72 h_73 h_74 h_89 h_90 h_91 h_111 h_112 h_113 h_128 h_129 h_130 h_160 h_161 h_162; omega) | omega, by first | (clear ha1 hv2 h_1 h_2 h_3 h_4 h_5 h_14 h_22 h_19 h_75 h_70 h_76 h_80 h_84 h_131 h_127 h_132 h_137 h_142 h_151 h_150 h_155 h_163 h_159 h_164 h_20 h_21 h_23 h_71 h_72 h_73 h_74 h_89 h_90 h_91 h_111 h_112 h_113 h_128 h_129 h_130 h_160 h_161 h_162; omega) | omega, by first | (clear ha1 hv2 h_1 h_2 h_3 h_4 h_5 h_14 h_22 h_19 h_75 h_70 h_76 h_80 h_84 h_131 h_127 h_132 h_137 h_142 h_151 h_150 h_155 h_163 h_159 h_164 h_20 h_21 h_23 h_71 h_72 h_73 h_74 h_89 h_90 h_91 h_111 h_112 h_113 h_128 h_129 h_130 h_160 h_161 h_162; omega) | omega⟩ (by omega)
                · refine v_ic_ne_f (t := 72) c_167_57 rfl (Decidable.not_not.mp h_113) (q_aload_n c_167_60 rfl ?_)
                  have h_171 := ir_41_18 hI2
                  have kn_172 : Hid (c_15 41 18 = c2 41 18) := hF_17 41 18 (fun h => absurd h.2 (ni rfl))
                  have kn_173 : Hid (c_66 41 18 = c2 41 18) := (hF_68 41 18 (fun h => absurd h.2 (ni rfl))).trans (hid kn_172)
                  refine v_gi (z := 18) (v := c2 41 18) c_167_61 kf_8_151 rfl (nb_ rfl) rfl rfl (hid kn_173) (q_iconst c_167_64 ?_)
                  by_cases h_174 : c2 41 18 ≠ 4
                  · refine v_ic_ne_t (t := 72) c_167_65 rfl ⟨h_174, ⟨by first | exact q_0bfe68f8e h_171 | omega, by first | exact q_82d4f69ff h_171 | omega⟩, by decide, by decide⟩ (q_iconst c_167_72 (v_zret c_167_73 rfl (by decide) (bk_inl (v_if_eq_t (t := 105) c_169_93 rfl (by decide) (q_aload_n c_169_105 rfl (v_cv c_169_106 km_8_131 rfl rfl (nb_ rfl) ⟨⟨rfl, rfl⟩, nb_ rfl, rfl⟩ (nb_ rfl) (nb_ rfl) (q_aload_n c_152_0 rfl ?_)))))))
                    have kn_175 : Hid (c_15 41 5 = c2 41 5) := hF_17 41 5 (fun h => absurd h.2 (ni rfl))
                    have kn_176 : Hid (c_66 41 5 = c2 41 5) := (hF_68 41 5 (fun h => absurd h.2 (ni rfl))).trans (hid kn_175)
                    refine v_gi (z := 5) (v := c2 41 5) c_152_1 kf_8_102 rfl (nb_ rfl) rfl rfl (hid kn_176) (q_iconst c_152_4 (v_ic_ne_f (t := 12) c_152_5 rfl (by first | exact q_65c5ff97d h_4 h_5 | omega) (q_iconst c_152_8 (q_goto (t := 13) c_152_9 rfl (v_zret c_152_13 rfl (by decide) (bk_inl (v_if_ne_t (t := 115) c_169_109 rfl (by decide) ?_)))))))
                    refine q_aload_n c_169_115 rfl ?_
                    have kn_177 : Hid (c_66 41 3 = c2 41 3) := (hF_68 41 3 (fun h => absurd h.2 (ni rfl))).trans (hid kn_64)
                    have h_178 : c_66 41 3 = c2 41 3 := (hid kn_177)
                    have kn_179 : Hid (c_66 43 (c_66 41 4) = c 43 (c_66 41 4)) := (hF_68 43 (c_66 41 4) (fun h => absurd h.1 (nn rfl))).trans (hid kn_78)
                    have h_180 : c_66 43 (c_66 41 4) = c 43 (c_66 41 4) := (hid kn_179)
                    have kn_181 : Hid (c_66 43 (c_66 41 4 + 1) = c 43 (c_66 41 4 + 1)) := (hF_68 43 (c_66 41 4 + 1) (fun h => absurd h.1 (nn rfl))).trans (hid kn_82)
                    have h_182 : c_66 43 (c_66 41 4 + 1) = c 43 (c_66 41 4 + 1) := (hid kn_181)
                    have kn_183 : Hid (c_66 43 (c_66 41 4 + 2) = c 43 (c_66 41 4 + 2)) := (hF_68 43 (c_66 41 4 + 2) (fun h => absurd h.1 (nn rfl))).trans (hid kn_86)
                    have h_184 : c_66 43 (c_66 41 4 + 2) = c 43 (c_66 41 4 + 2) := (hid kn_183)
                    refine v_cv c_169_116 km_8_223 rfl rfl (nb_ rfl) ⟨⟨rfl, rfl⟩, nb_ rfl, rfl⟩ (nb_ rfl) (nb_ rfl) (s_159 hI_67 (fun c_185 hI_186 hF_187 h_188 h_189 h_190 h_191 => (bk_inl ?_)))
                    have h_192 := ir_41_4 hI_186
                    refine q_aload_n c_169_119 rfl (q_iload_n c_169_120 rfl ?_)
                    have h_193 := ir_41_16 hI2
                    have kn_194 : Hid (c_15 41 16 = c2 41 16) := hF_17 41 16 (fun h => absurd h.2 (ni rfl))
                    have kn_195 : Hid (c_66 41 16 = c2 41 16) := (hF_68 41 16 (fun h => absurd h.2 (ni rfl))).trans (hid kn_194)
                    have kn_196 : Hid (c_185 41 16 = c2 41 16) := (hF_187 41 16 (fun h => absurd h.2 (ni rfl))).trans (hid kn_195)
                    have h_197 : c_185 41 16 = c2 41 16 := (hid kn_196)
                    have h_198 := ir_41_17 hI2
                    have kn_199 : Hid (c_15 41 17 = c2 41 17) := hF_17 41 17 (fun h => absurd h.2 (ni rfl))
                    have kn_200 : Hid (c_66 41 17 = c2 41 17) := (hF_68 41 17 (fun h => absurd h.2 (ni rfl))).trans (hid kn_199)
                    have kn_201 : Hid (c_185 41 17 = c2 41 17) := (hF_187 41 17 (fun h => absurd h.2 (ni rfl))).trans (hid kn_200)
                    have h_202 : c_185 41 17 = c2 41 17 := (hid kn_201)
                    have kn_203 : Hid (c_185 41 18 = c2 41 18) := (hF_187 41 18 (fun h => absurd h.2 (ni rfl))).trans (hid kn_173)
                    have h_204 : c_185 41 18 = c2 41 18 := (hid kn_203)
                    refine v_cv c_169_121 km_8_226 rfl rfl (nb_ rfl) ⟨⟨rfl, rfl⟩, nb_ rfl, rfl⟩ (nb_ rfl) (nb_ rfl) (s_168 (a1 := y_69) hI_186 (show (-2147483648) ≤ y_69 ∧ y_69 ≤ 2147483647 from hy_69) (Or.inl (by first | exact q_1208b9ebe h_113 | omega)) (Or.inl (by first | exact q_b173c0e21 h_113 | omega)) (Or.inr (by first | exact q_c4bb9308f h_171 h_174 | omega)) (fun c_205 hI_206 hF_207 h_208 => (bk_inl ?_)))
                    have h_209 := ir_41_4 hI_206
                    refine q_aload_n c_169_124 rfl (v_bip c_169_125 (by decide) ?_)
                    have kn_210 : Hid (c_185 41 3 = c2 41 3) := (hF_187 41 3 (fun h => absurd h.2 (ni rfl))).trans (hid kn_177)
                    have kn_211 : Hid (c_205 41 3 = c2 41 3) := (hF_207 41 3 qn_b860ee9cc).trans (hid kn_210)
                    have h_212 : c_205 41 3 = c2 41 3 := (hid kn_211)
                    have h_213 := ir_41_5 hI_206
                    refine v_cv c_169_127 km_8_229 rfl rfl (nb_ rfl) ⟨⟨rfl, rfl⟩, nb_ rfl, rfl⟩ (nb_ rfl) (nb_ rfl) (s_161 (a1 := 59) hI_206 (show 1 ≤ 59 ∧ 59 ≤ 255 from ⟨by decide, by decide⟩) (fun c_214 hI_215 hF_216 h_217 h_218 h_219 h_220 => (bk_inl ?_)))
                    have h_221 := ir_41_4 hI_215
                    have h_222 := ir_41_5 hI_215
                    refine v_iinc (v := v2 + 1) c_169_130 rfl (nb_ rfl) rfl (q_goto (t := 44) c_169_133 rfl (Wp_ls [(0, .ref 41), (1, vi a1), (2, vi (v2 + 1))] (lsub_cons rfl (lsub_cons rfl (lsub_cons rfl lsub_nil))) ?_))
                    have kn_223 : Hid (c_15 41 2 = c2 41 2) := hF_17 41 2 (fun h => absurd h.2 (ni rfl))
                    have kn_224 : Hid (c_66 41 2 = c2 41 2) := (hF_68 41 2 (fun h => absurd h.2 (ni rfl))).trans (hid kn_223)
                    have kn_225 : Hid (c_185 41 2 = c2 41 2) := (hF_187 41 2 (fun h => absurd h.2 (ni rfl))).trans (hid kn_224)
                    have kn_226 : Hid (c_205 41 2 = c2 41 2) := (hF_207 41 2 qn_c33c5b2f3).trans (hid kn_225)
                    have kn_227 : Hid (c_214 41 2 = c2 41 2) := (hF_216 41 2 qn_6151d08e8).trans (hid kn_226)
                    have h_228 : c_214 41 2 = c2 41 2 := (hid kn_227)
                    exact ih c_214 (v2 + 1) hI_215 (fun a j hm => (hF_216 a j (qv_3242bd920 hm)).trans ((hF_207 a j (qv_3a3bba8ab hm)).trans ((hF_187 a j (fun h => hm (Or.inr (Or.inr (Or.inr (Or.inr (Or.inl h))))))).trans ((hF_68 a j (fun h => hm (Or.inr (Or.inr (Or.inr (Or.inr (Or.inl h))))))).trans ((hF_17 a j (fun h => hm (Or.inr (Or.inr (Or.inr (Or.inr (Or.inl h))))))).trans (hF a j hm)))))) ⟨by first | exact rgp_l hv2.1 (by decide) | omega, by first | exact q_a69d2ea54 h_91 hv2 | omega⟩ ⟨by first | (clear ha1 hv2 h_1 h_2 h_3 h_4 h_5 h_14 h_22 h_19 h_75 h_70 h_76 h_80 h_84 h_113 h_171 h_192 h_188 h_193 h_198 h_209 h_208 h_213 h_221 h_217 h_222 h_20 h_21 h_23 h_71 h_72 h_73 h_74 h_89 h_90 h_91 h_111 h_112 h_174 h_189 h_190 h_191 h_218 h_219 h_220; omega) | omega, by first | (clear ha1 hv2 h_1 h_2 h_3 h_4 h_5 h_14 h_22 h_19 h_75 h_70 h_76 h_80 h_84 h_113 h_171 h_192 h_188 h_193 h_198 h_209 h_208 h_213 h_221 h_217 h_222 h_20 h_21 h_23 h_71 h_72 h_73 h_74 h_89 h_90 h_91 h_111 h_112 h_174 h_189 h_190 h_191 h_218 h_219 h_220; omega) | omega, by first | (clear ha1 hv2 h_1 h_2 h_3 h_4 h_5 h_14 h_22 h_19 h_75 h_70 h_76 h_80 h_84 h_113 h_171 h_192 h_188 h_193 h_198 h_209 h_208 h_213 h_221 h_217 h_222 h_20 h_21 h_23 h_71 h_72 h_73 h_74 h_89 h_90 h_91 h_111 h_112 h_174 h_189 h_190 h_191 h_218 h_219 h_220; omega) | omega, by first | (clear ha1 hv2 h_1 h_2 h_3 h_4 h_5 h_14 h_22 h_19 h_75 h_70 h_76 h_80 h_84 h_113 h_171 h_192 h_188 h_193 h_198 h_209 h_208 h_213 h_221 h_217 h_222 h_20 h_21 h_23 h_71 h_72 h_73 h_74 h_89 h_90 h_91 h_111 h_112 h_174 h_189 h_190 h_191 h_218 h_219 h_220; omega) | omega⟩ (by omega)
                  · refine v_ic_ne_f (t := 72) c_167_65 rfl (Decidable.not_not.mp h_174) (q_iconst c_167_68 (q_goto (t := 73) c_167_69 rfl (v_zret c_167_73 rfl (by decide) (bk_inl (v_if_eq_f (t := 105) c_169_93 rfl (by decide) (q_aload_n c_169_96 rfl (q_iconst c_169_97 ?_)))))))
                    refine q_aload_n c_169_98 rfl (v_gi (z := 4) (v := c_66 41 4) c_169_99 kf_8_108 rfl (nb_ rfl) rfl rfl rfl (v_cv c_169_102 km_8_138 rfl rfl (nb_ rfl) ⟨⟨rfl, rfl⟩, nb_ rfl, rfl⟩ (nb_ rfl) (nb_ rfl) (s_153 (a1 := 3) (a2 := c_66 41 4) hI_67 (show 1 ≤ 3 ∧ 3 ≤ 3 from ⟨by decide, by decide⟩) (show 0 ≤ c_66 41 4 ∧ c_66 41 4 ≤ 605 from h_75) (fun c_229 hI_230 hF_231 h_232 => (bk_inl ?_)))))
                    have h_233 := ir_41_5 hI_230
                    refine q_aload_n c_169_105 rfl (v_cv c_169_106 km_8_131 rfl rfl (nb_ rfl) ⟨⟨rfl, rfl⟩, nb_ rfl, rfl⟩ (nb_ rfl) (nb_ rfl) (q_aload_n c_152_0 rfl (v_gi (z := 5) (v := c_229 41 5) c_152_1 kf_8_102 rfl (nb_ rfl) rfl rfl rfl (q_iconst c_152_4 (v_ic_ne_t (t := 12) c_152_5 rfl ⟨by first | exact q_e869299d0 h_232 h_233 | omega, ⟨(Int.le_trans (by decide) h_233.1), (Int.le_trans h_233.2 (by decide))⟩, by decide, by decide⟩ (q_iconst c_152_12 (v_zret c_152_13 rfl (by decide) ?_)))))))
                    refine bk_inl (v_if_ne_f (t := 115) c_169_109 rfl (by decide) (q_goto (t := 136) c_169_112 rfl (q_aload_n c_169_136 rfl (q_aload_n c_169_137 rfl ?_))))
                    have h_234 := ir_41_16 hI2
                    have kn_235 : Hid (c_15 41 16 = c2 41 16) := hF_17 41 16 (fun h => absurd h.2 (ni rfl))
                    have kn_236 : Hid (c_66 41 16 = c2 41 16) := (hF_68 41 16 (fun h => absurd h.2 (ni rfl))).trans (hid kn_235)
                    have kn_237 : Hid (c_229 41 16 = c2 41 16) := (hF_231 41 16 (fun q => q.elim (fun h => absurd h.2 (ni rfl)) (fun h => absurd h.2 (ni rfl)))).trans (hid kn_236)
                    refine v_gi (z := 16) (v := c2 41 16) c_169_138 kf_8_145 rfl (nb_ rfl) rfl rfl (hid kn_237) (v_cv c_169_141 km_8_232 rfl rfl (nb_ rfl) ⟨⟨rfl, rfl⟩, nb_ rfl, rfl⟩ (nb_ rfl) (nb_ rfl) (s_164 (a1 := c2 41 16) hI_230 (show (-2147483648) ≤ c2 41 16 ∧ c2 41 16 ≤ 2147483647 from ⟨by first | exact q_730ab5169 h_234 | omega, by first | exact q_b289b7db2 h_234 | omega⟩) (fun c_238 y_241 hI_239 hF_240 hy_241 => (bk_inl (q_istore_n c_169_144 (nb_ rfl) (q_aload_n c_169_145 rfl ?_))))))
                    have kn_242 : Hid (c_238 41 5 = c_229 41 5) := hF_240 41 5 (fun h => absurd h.2 (ni rfl))
                    refine v_gi (z := 5) (v := c_229 41 5) c_169_146 kf_8_102 rfl (nb_ rfl) rfl rfl (hid kn_242) (q_iconst c_169_149 (v_ic_ne_t (t := 157) c_169_150 rfl ⟨by first | exact q_e869299d0 h_232 h_233 | omega, ⟨(Int.le_trans (by decide) h_233.1), (Int.le_trans h_233.2 (by decide))⟩, by decide, by decide⟩ (q_iload_n c_169_157 rfl (q_iret c_169_158 rfl ?_))))
                    have kn_243 : Hid (c_15 41 2 = c2 41 2) := hF_17 41 2 (fun h => absurd h.2 (ni rfl))
                    have kn_244 : Hid (c_66 41 2 = c2 41 2) := (hF_68 41 2 (fun h => absurd h.2 (ni rfl))).trans (hid kn_243)
                    have kn_245 : Hid (c_229 41 2 = c2 41 2) := (hF_231 41 2 (fun q => q.elim (fun h => absurd h.2 (ni rfl)) (fun h => absurd h.2 (ni rfl)))).trans (hid kn_244)
                    have kn_246 : Hid (c_238 41 2 = c2 41 2) := (hF_240 41 2 (fun h => absurd h.2 (ni rfl))).trans (hid kn_245)
                    have h_247 : c_238 41 2 = c2 41 2 := (hid kn_246)
                    exact K c_238 y_241 hI_239 (fun a j hm => (hF_240 a j (qv_6e732907b hm)).trans ((hF_231 a j (qv_063f5c1cf hm)).trans ((hF_68 a j (fun h => hm (Or.inr (Or.inr (Or.inr (Or.inr (Or.inl h))))))).trans ((hF_17 a j (fun h => hm (Or.inr (Or.inr (Or.inr (Or.inr (Or.inl h))))))).trans (hF a j hm))))) hy_241 (Or.inl ⟨by first | (clear ha1 hv2 h_1 h_2 h_3 h_4 h_5 h_14 h_22 h_19 h_75 h_70 h_76 h_80 h_84 h_113 h_171 h_174 h_233 h_234 h_20 h_21 h_23 h_71 h_72 h_73 h_74 h_89 h_90 h_91 h_111 h_112 h_232; omega) | omega, by first | (clear ha1 hv2 h_1 h_2 h_3 h_4 h_5 h_14 h_22 h_19 h_75 h_70 h_76 h_80 h_84 h_113 h_171 h_174 h_233 h_234 h_20 h_21 h_23 h_71 h_72 h_73 h_74 h_89 h_90 h_91 h_111 h_112 h_232; omega) | omega, by first | (clear ha1 hv2 h_1 h_2 h_3 h_4 h_5 h_14 h_22 h_19 h_75 h_70 h_76 h_80 h_84 h_113 h_171 h_174 h_233 h_234 h_20 h_21 h_23 h_71 h_72 h_73 h_74 h_89 h_90 h_91 h_111 h_112 h_232; omega) | omega, by first | (clear ha1 hv2 h_1 h_2 h_3 h_4 h_5 h_14 h_22 h_19 h_75 h_70 h_76 h_80 h_84 h_113 h_171 h_174 h_233 h_234 h_20 h_21 h_23 h_71 h_72 h_73 h_74 h_89 h_90 h_91 h_111 h_112 h_232; omega) | omega⟩)
              · refine v_ic_ne_f (t := 51) c_167_32 rfl (Decidable.not_not.mp h_112) (q_aload_n c_167_35 rfl ?_)
                have h_248 := ir_41_17 hI2
                have kn_249 : Hid (c_15 41 17 = c2 41 17) := hF_17 41 17 (fun h => absurd h.2 (ni rfl))
                have kn_250 : Hid (c_66 41 17 = c2 41 17) := (hF_68 41 17 (fun h => absurd h.2 (ni rfl))).trans (hid kn_249)
                refine v_gi (z := 17) (v := c2 41 17) c_167_36 kf_8_148 rfl (nb_ rfl) rfl rfl (hid kn_250) (q_iconst c_167_39 ?_)
                by_cases h_251 : c2 41 17 ≠ 4
                · refine v_ic_ne_t (t := 47) c_167_40 rfl ⟨h_251, ⟨by first | exact q_0bfe68f8e h_248 | omega, by first | exact q_82d4f69ff h_248 | omega⟩, by decide, by decide⟩ (q_iconst c_167_47 (q_goto (t := 73) c_167_48 rfl (v_zret c_167_73 rfl (by decide) (bk_inl (v_if_eq_t (t := 105) c_169_93 rfl (by decide) (q_aload_n c_169_105 rfl (v_cv c_169_106 km_8_131 rfl rfl (nb_ rfl) ⟨⟨rfl, rfl⟩, nb_ rfl, rfl⟩ (nb_ rfl) (nb_ rfl) ?_)))))))
                  refine q_aload_n c_152_0 rfl ?_
                  have kn_252 : Hid (c_15 41 5 = c2 41 5) := hF_17 41 5 (fun h => absurd h.2 (ni rfl))
                  have kn_253 : Hid (c_66 41 5 = c2 41 5) := (hF_68 41 5 (fun h => absurd h.2 (ni rfl))).trans (hid kn_252)
                  refine v_gi (z := 5) (v := c2 41 5) c_152_1 kf_8_102 rfl (nb_ rfl) rfl rfl (hid kn_253) (q_iconst c_152_4 (v_ic_ne_f (t := 12) c_152_5 rfl (by first | exact q_65c5ff97d h_4 h_5 | omega) (q_iconst c_152_8 (q_goto (t := 13) c_152_9 rfl (v_zret c_152_13 rfl (by decide) (bk_inl (v_if_ne_t (t := 115) c_169_109 rfl (by decide) ?_)))))))
                  refine q_aload_n c_169_115 rfl ?_
                  have kn_254 : Hid (c_66 41 3 = c2 41 3) := (hF_68 41 3 (fun h => absurd h.2 (ni rfl))).trans (hid kn_64)
                  have h_255 : c_66 41 3 = c2 41 3 := (hid kn_254)
                  have kn_256 : Hid (c_66 43 (c_66 41 4) = c 43 (c_66 41 4)) := (hF_68 43 (c_66 41 4) (fun h => absurd h.1 (nn rfl))).trans (hid kn_78)
                  have h_257 : c_66 43 (c_66 41 4) = c 43 (c_66 41 4) := (hid kn_256)
                  have kn_258 : Hid (c_66 43 (c_66 41 4 + 1) = c 43 (c_66 41 4 + 1)) := (hF_68 43 (c_66 41 4 + 1) (fun h => absurd h.1 (nn rfl))).trans (hid kn_82)
                  have h_259 : c_66 43 (c_66 41 4 + 1) = c 43 (c_66 41 4 + 1) := (hid kn_258)
                  have kn_260 : Hid (c_66 43 (c_66 41 4 + 2) = c 43 (c_66 41 4 + 2)) := (hF_68 43 (c_66 41 4 + 2) (fun h => absurd h.1 (nn rfl))).trans (hid kn_86)
                  have h_261 : c_66 43 (c_66 41 4 + 2) = c 43 (c_66 41 4 + 2) := (hid kn_260)
                  refine v_cv c_169_116 km_8_223 rfl rfl (nb_ rfl) ⟨⟨rfl, rfl⟩, nb_ rfl, rfl⟩ (nb_ rfl) (nb_ rfl) (s_159 hI_67 (fun c_262 hI_263 hF_264 h_265 h_266 h_267 h_268 => (bk_inl ?_)))
                  have h_269 := ir_41_4 hI_263
                  refine q_aload_n c_169_119 rfl (q_iload_n c_169_120 rfl ?_)
                  have h_270 := ir_41_16 hI2
                  have kn_271 : Hid (c_15 41 16 = c2 41 16) := hF_17 41 16 (fun h => absurd h.2 (ni rfl))
                  have kn_272 : Hid (c_66 41 16 = c2 41 16) := (hF_68 41 16 (fun h => absurd h.2 (ni rfl))).trans (hid kn_271)
                  have kn_273 : Hid (c_262 41 16 = c2 41 16) := (hF_264 41 16 (fun h => absurd h.2 (ni rfl))).trans (hid kn_272)
                  have h_274 : c_262 41 16 = c2 41 16 := (hid kn_273)
                  have kn_275 : Hid (c_262 41 17 = c2 41 17) := (hF_264 41 17 (fun h => absurd h.2 (ni rfl))).trans (hid kn_250)
                  have h_276 : c_262 41 17 = c2 41 17 := (hid kn_275)
                  have h_277 := ir_41_18 hI2
                  have kn_278 : Hid (c_15 41 18 = c2 41 18) := hF_17 41 18 (fun h => absurd h.2 (ni rfl))
                  have kn_279 : Hid (c_66 41 18 = c2 41 18) := (hF_68 41 18 (fun h => absurd h.2 (ni rfl))).trans (hid kn_278)
                  have kn_280 : Hid (c_262 41 18 = c2 41 18) := (hF_264 41 18 (fun h => absurd h.2 (ni rfl))).trans (hid kn_279)
                  have h_281 : c_262 41 18 = c2 41 18 := (hid kn_280)
                  refine v_cv c_169_121 km_8_226 rfl rfl (nb_ rfl) ⟨⟨rfl, rfl⟩, nb_ rfl, rfl⟩ (nb_ rfl) (nb_ rfl) (s_168 (a1 := y_69) hI_263 (show (-2147483648) ≤ y_69 ∧ y_69 ≤ 2147483647 from hy_69) (Or.inl (by first | exact q_ccbc1c495 h_112 | omega)) (Or.inr (by first | exact q_c4bb9308f h_248 h_251 | omega)) (Or.inl (by first | exact q_901e0d5fc h_112 | omega)) (fun c_282 hI_283 hF_284 h_285 => (bk_inl ?_)))
                  have h_286 := ir_41_4 hI_283
                  refine q_aload_n c_169_124 rfl (v_bip c_169_125 (by decide) ?_)
                  have kn_287 : Hid (c_262 41 3 = c2 41 3) := (hF_264 41 3 (fun h => absurd h.2 (ni rfl))).trans (hid kn_254)
                  have kn_288 : Hid (c_282 41 3 = c2 41 3) := (hF_284 41 3 qn_b860ee9cc).trans (hid kn_287)
                  have h_289 : c_282 41 3 = c2 41 3 := (hid kn_288)
                  have h_290 := ir_41_5 hI_283
                  refine v_cv c_169_127 km_8_229 rfl rfl (nb_ rfl) ⟨⟨rfl, rfl⟩, nb_ rfl, rfl⟩ (nb_ rfl) (nb_ rfl) (s_161 (a1 := 59) hI_283 (show 1 ≤ 59 ∧ 59 ≤ 255 from ⟨by decide, by decide⟩) (fun c_291 hI_292 hF_293 h_294 h_295 h_296 h_297 => (bk_inl ?_)))
                  have h_298 := ir_41_4 hI_292
                  have h_299 := ir_41_5 hI_292
                  refine v_iinc (v := v2 + 1) c_169_130 rfl (nb_ rfl) rfl (q_goto (t := 44) c_169_133 rfl (Wp_ls [(0, .ref 41), (1, vi a1), (2, vi (v2 + 1))] (lsub_cons rfl (lsub_cons rfl (lsub_cons rfl lsub_nil))) ?_))
                  have kn_300 : Hid (c_15 41 2 = c2 41 2) := hF_17 41 2 (fun h => absurd h.2 (ni rfl))
                  have kn_301 : Hid (c_66 41 2 = c2 41 2) := (hF_68 41 2 (fun h => absurd h.2 (ni rfl))).trans (hid kn_300)
                  have kn_302 : Hid (c_262 41 2 = c2 41 2) := (hF_264 41 2 (fun h => absurd h.2 (ni rfl))).trans (hid kn_301)
                  have kn_303 : Hid (c_282 41 2 = c2 41 2) := (hF_284 41 2 qn_c33c5b2f3).trans (hid kn_302)
                  have kn_304 : Hid (c_291 41 2 = c2 41 2) := (hF_293 41 2 qn_6151d08e8).trans (hid kn_303)
                  have h_305 : c_291 41 2 = c2 41 2 := (hid kn_304)
                  exact ih c_291 (v2 + 1) hI_292 (fun a j hm => (hF_293 a j (qv_3242bd920 hm)).trans ((hF_284 a j (qv_3a3bba8ab hm)).trans ((hF_264 a j (fun h => hm (Or.inr (Or.inr (Or.inr (Or.inr (Or.inl h))))))).trans ((hF_68 a j (fun h => hm (Or.inr (Or.inr (Or.inr (Or.inr (Or.inl h))))))).trans ((hF_17 a j (fun h => hm (Or.inr (Or.inr (Or.inr (Or.inr (Or.inl h))))))).trans (hF a j hm)))))) ⟨by first | exact rgp_l hv2.1 (by decide) | omega, by first | exact q_a69d2ea54 h_91 hv2 | omega⟩ ⟨by first | (clear ha1 hv2 h_1 h_2 h_3 h_4 h_5 h_14 h_22 h_19 h_75 h_70 h_76 h_80 h_84 h_112 h_248 h_269 h_265 h_270 h_277 h_286 h_285 h_290 h_298 h_294 h_299 h_20 h_21 h_23 h_71 h_72 h_73 h_74 h_89 h_90 h_91 h_111 h_251 h_266 h_267 h_268 h_295 h_296 h_297; omega) | omega, by first | (clear ha1 hv2 h_1 h_2 h_3 h_4 h_5 h_14 h_22 h_19 h_75 h_70 h_76 h_80 h_84 h_112 h_248 h_269 h_265 h_270 h_277 h_286 h_285 h_290 h_298 h_294 h_299 h_20 h_21 h_23 h_71 h_72 h_73 h_74 h_89 h_90 h_91 h_111 h_251 h_266 h_267 h_268 h_295 h_296 h_297; omega) | omega, by first | (clear ha1 hv2 h_1 h_2 h_3 h_4 h_5 h_14 h_22 h_19 h_75 h_70 h_76 h_80 h_84 h_112 h_248 h_269 h_265 h_270 h_277 h_286 h_285 h_290 h_298 h_294 h_299 h_20 h_21 h_23 h_71 h_72 h_73 h_74 h_89 h_90 h_91 h_111 h_251 h_266 h_267 h_268 h_295 h_296 h_297; omega) | omega, by first | (clear ha1 hv2 h_1 h_2 h_3 h_4 h_5 h_14 h_22 h_19 h_75 h_70 h_76 h_80 h_84 h_112 h_248 h_269 h_265 h_270 h_277 h_286 h_285 h_290 h_298 h_294 h_299 h_20 h_21 h_23 h_71 h_72 h_73 h_74 h_89 h_90 h_91 h_111 h_251 h_266 h_267 h_268 h_295 h_296 h_297; omega) | omega⟩ (by omega)
                · refine v_ic_ne_f (t := 47) c_167_40 rfl (Decidable.not_not.mp h_251) (q_iconst c_167_43 (q_goto (t := 73) c_167_44 rfl (v_zret c_167_73 rfl (by decide) (bk_inl (v_if_eq_f (t := 105) c_169_93 rfl (by decide) (q_aload_n c_169_96 rfl (q_iconst c_169_97 ?_)))))))
                  refine q_aload_n c_169_98 rfl (v_gi (z := 4) (v := c_66 41 4) c_169_99 kf_8_108 rfl (nb_ rfl) rfl rfl rfl (v_cv c_169_102 km_8_138 rfl rfl (nb_ rfl) ⟨⟨rfl, rfl⟩, nb_ rfl, rfl⟩ (nb_ rfl) (nb_ rfl) (s_153 (a1 := 3) (a2 := c_66 41 4) hI_67 (show 1 ≤ 3 ∧ 3 ≤ 3 from ⟨by decide, by decide⟩) (show 0 ≤ c_66 41 4 ∧ c_66 41 4 ≤ 605 from h_75) (fun c_306 hI_307 hF_308 h_309 => (bk_inl ?_)))))
                  have h_310 := ir_41_5 hI_307
                  refine q_aload_n c_169_105 rfl (v_cv c_169_106 km_8_131 rfl rfl (nb_ rfl) ⟨⟨rfl, rfl⟩, nb_ rfl, rfl⟩ (nb_ rfl) (nb_ rfl) (q_aload_n c_152_0 rfl (v_gi (z := 5) (v := c_306 41 5) c_152_1 kf_8_102 rfl (nb_ rfl) rfl rfl rfl (q_iconst c_152_4 (v_ic_ne_t (t := 12) c_152_5 rfl ⟨by first | exact q_e869299d0 h_309 h_310 | omega, ⟨(Int.le_trans (by decide) h_310.1), (Int.le_trans h_310.2 (by decide))⟩, by decide, by decide⟩ (q_iconst c_152_12 (v_zret c_152_13 rfl (by decide) ?_)))))))
                  refine bk_inl (v_if_ne_f (t := 115) c_169_109 rfl (by decide) (q_goto (t := 136) c_169_112 rfl (q_aload_n c_169_136 rfl (q_aload_n c_169_137 rfl ?_))))
                  have h_311 := ir_41_16 hI2
                  have kn_312 : Hid (c_15 41 16 = c2 41 16) := hF_17 41 16 (fun h => absurd h.2 (ni rfl))
                  have kn_313 : Hid (c_66 41 16 = c2 41 16) := (hF_68 41 16 (fun h => absurd h.2 (ni rfl))).trans (hid kn_312)
                  have kn_314 : Hid (c_306 41 16 = c2 41 16) := (hF_308 41 16 (fun q => q.elim (fun h => absurd h.2 (ni rfl)) (fun h => absurd h.2 (ni rfl)))).trans (hid kn_313)
                  refine v_gi (z := 16) (v := c2 41 16) c_169_138 kf_8_145 rfl (nb_ rfl) rfl rfl (hid kn_314) (v_cv c_169_141 km_8_232 rfl rfl (nb_ rfl) ⟨⟨rfl, rfl⟩, nb_ rfl, rfl⟩ (nb_ rfl) (nb_ rfl) (s_164 (a1 := c2 41 16) hI_307 (show (-2147483648) ≤ c2 41 16 ∧ c2 41 16 ≤ 2147483647 from ⟨by first | exact q_730ab5169 h_311 | omega, by first | exact q_b289b7db2 h_311 | omega⟩) (fun c_315 y_318 hI_316 hF_317 hy_318 => (bk_inl (q_istore_n c_169_144 (nb_ rfl) (q_aload_n c_169_145 rfl ?_))))))
                  have kn_319 : Hid (c_315 41 5 = c_306 41 5) := hF_317 41 5 (fun h => absurd h.2 (ni rfl))
                  refine v_gi (z := 5) (v := c_306 41 5) c_169_146 kf_8_102 rfl (nb_ rfl) rfl rfl (hid kn_319) (q_iconst c_169_149 (v_ic_ne_t (t := 157) c_169_150 rfl ⟨by first | exact q_e869299d0 h_309 h_310 | omega, ⟨(Int.le_trans (by decide) h_310.1), (Int.le_trans h_310.2 (by decide))⟩, by decide, by decide⟩ (q_iload_n c_169_157 rfl (q_iret c_169_158 rfl ?_))))
                  have kn_320 : Hid (c_15 41 2 = c2 41 2) := hF_17 41 2 (fun h => absurd h.2 (ni rfl))
                  have kn_321 : Hid (c_66 41 2 = c2 41 2) := (hF_68 41 2 (fun h => absurd h.2 (ni rfl))).trans (hid kn_320)
                  have kn_322 : Hid (c_306 41 2 = c2 41 2) := (hF_308 41 2 (fun q => q.elim (fun h => absurd h.2 (ni rfl)) (fun h => absurd h.2 (ni rfl)))).trans (hid kn_321)
                  have kn_323 : Hid (c_315 41 2 = c2 41 2) := (hF_317 41 2 (fun h => absurd h.2 (ni rfl))).trans (hid kn_322)
                  have h_324 : c_315 41 2 = c2 41 2 := (hid kn_323)
                  exact K c_315 y_318 hI_316 (fun a j hm => (hF_317 a j (qv_6e732907b hm)).trans ((hF_308 a j (qv_063f5c1cf hm)).trans ((hF_68 a j (fun h => hm (Or.inr (Or.inr (Or.inr (Or.inr (Or.inl h))))))).trans ((hF_17 a j (fun h => hm (Or.inr (Or.inr (Or.inr (Or.inr (Or.inl h))))))).trans (hF a j hm))))) hy_318 (Or.inl ⟨by first | (clear ha1 hv2 h_1 h_2 h_3 h_4 h_5 h_14 h_22 h_19 h_75 h_70 h_76 h_80 h_84 h_112 h_248 h_251 h_310 h_311 h_20 h_21 h_23 h_71 h_72 h_73 h_74 h_89 h_90 h_91 h_111 h_309; omega) | omega, by first | (clear ha1 hv2 h_1 h_2 h_3 h_4 h_5 h_14 h_22 h_19 h_75 h_70 h_76 h_80 h_84 h_112 h_248 h_251 h_310 h_311 h_20 h_21 h_23 h_71 h_72 h_73 h_74 h_89 h_90 h_91 h_111 h_309; omega) | omega, by first | (clear ha1 hv2 h_1 h_2 h_3 h_4 h_5 h_14 h_22 h_19 h_75 h_70 h_76 h_80 h_84 h_112 h_248 h_251 h_310 h_311 h_20 h_21 h_23 h_71 h_72 h_73 h_74 h_89 h_90 h_91 h_111 h_309; omega) | omega, by first | (clear ha1 hv2 h_1 h_2 h_3 h_4 h_5 h_14 h_22 h_19 h_75 h_70 h_76 h_80 h_84 h_112 h_248 h_251 h_310 h_311 h_20 h_21 h_23 h_71 h_72 h_73 h_74 h_89 h_90 h_91 h_111 h_309; omega) | omega⟩)
            · refine v_ic_ne_f (t := 26) c_167_6 rfl (Decidable.not_not.mp h_111) (q_aload_n c_167_9 rfl ?_)
              have h_325 := ir_41_16 hI2
              have kn_326 : Hid (c_15 41 16 = c2 41 16) := hF_17 41 16 (fun h => absurd h.2 (ni rfl))
              have kn_327 : Hid (c_66 41 16 = c2 41 16) := (hF_68 41 16 (fun h => absurd h.2 (ni rfl))).trans (hid kn_326)
              refine v_gi (z := 16) (v := c2 41 16) c_167_10 kf_8_145 rfl (nb_ rfl) rfl rfl (hid kn_327) (v_bip c_167_13 (by decide) ?_)
              by_cases h_328 : c2 41 16 ≠ 6
              · refine v_ic_ne_t (t := 22) c_167_15 rfl ⟨h_328, ⟨by first | exact q_730ab5169 h_325 | omega, by first | exact q_b289b7db2 h_325 | omega⟩, by decide, by decide⟩ (q_iconst c_167_22 (q_goto (t := 73) c_167_23 rfl (v_zret c_167_73 rfl (by decide) (bk_inl (v_if_eq_t (t := 105) c_169_93 rfl (by decide) (q_aload_n c_169_105 rfl (v_cv c_169_106 km_8_131 rfl rfl (nb_ rfl) ⟨⟨rfl, rfl⟩, nb_ rfl, rfl⟩ (nb_ rfl) (nb_ rfl) ?_)))))))
                refine q_aload_n c_152_0 rfl ?_
                have kn_329 : Hid (c_15 41 5 = c2 41 5) := hF_17 41 5 (fun h => absurd h.2 (ni rfl))
                have kn_330 : Hid (c_66 41 5 = c2 41 5) := (hF_68 41 5 (fun h => absurd h.2 (ni rfl))).trans (hid kn_329)
                refine v_gi (z := 5) (v := c2 41 5) c_152_1 kf_8_102 rfl (nb_ rfl) rfl rfl (hid kn_330) (q_iconst c_152_4 (v_ic_ne_f (t := 12) c_152_5 rfl (by first | exact q_65c5ff97d h_4 h_5 | omega) (q_iconst c_152_8 (q_goto (t := 13) c_152_9 rfl (v_zret c_152_13 rfl (by decide) (bk_inl (v_if_ne_t (t := 115) c_169_109 rfl (by decide) ?_)))))))
                refine q_aload_n c_169_115 rfl ?_
                have kn_331 : Hid (c_66 41 3 = c2 41 3) := (hF_68 41 3 (fun h => absurd h.2 (ni rfl))).trans (hid kn_64)
                have h_332 : c_66 41 3 = c2 41 3 := (hid kn_331)
                have kn_333 : Hid (c_66 43 (c_66 41 4) = c 43 (c_66 41 4)) := (hF_68 43 (c_66 41 4) (fun h => absurd h.1 (nn rfl))).trans (hid kn_78)
                have h_334 : c_66 43 (c_66 41 4) = c 43 (c_66 41 4) := (hid kn_333)
                have kn_335 : Hid (c_66 43 (c_66 41 4 + 1) = c 43 (c_66 41 4 + 1)) := (hF_68 43 (c_66 41 4 + 1) (fun h => absurd h.1 (nn rfl))).trans (hid kn_82)
                have h_336 : c_66 43 (c_66 41 4 + 1) = c 43 (c_66 41 4 + 1) := (hid kn_335)
                have kn_337 : Hid (c_66 43 (c_66 41 4 + 2) = c 43 (c_66 41 4 + 2)) := (hF_68 43 (c_66 41 4 + 2) (fun h => absurd h.1 (nn rfl))).trans (hid kn_86)
                have h_338 : c_66 43 (c_66 41 4 + 2) = c 43 (c_66 41 4 + 2) := (hid kn_337)
                refine v_cv c_169_116 km_8_223 rfl rfl (nb_ rfl) ⟨⟨rfl, rfl⟩, nb_ rfl, rfl⟩ (nb_ rfl) (nb_ rfl) (s_159 hI_67 (fun c_339 hI_340 hF_341 h_342 h_343 h_344 h_345 => (bk_inl ?_)))
                have h_346 := ir_41_4 hI_340
                refine q_aload_n c_169_119 rfl (q_iload_n c_169_120 rfl ?_)
                have kn_347 : Hid (c_339 41 16 = c2 41 16) := (hF_341 41 16 (fun h => absurd h.2 (ni rfl))).trans (hid kn_327)
                have h_348 : c_339 41 16 = c2 41 16 := (hid kn_347)
                have h_349 := ir_41_17 hI2
                have kn_350 : Hid (c_15 41 17 = c2 41 17) := hF_17 41 17 (fun h => absurd h.2 (ni rfl))
                have kn_351 : Hid (c_66 41 17 = c2 41 17) := (hF_68 41 17 (fun h => absurd h.2 (ni rfl))).trans (hid kn_350)
                have kn_352 : Hid (c_339 41 17 = c2 41 17) := (hF_341 41 17 (fun h => absurd h.2 (ni rfl))).trans (hid kn_351)
                have h_353 : c_339 41 17 = c2 41 17 := (hid kn_352)
                have h_354 := ir_41_18 hI2
                have kn_355 : Hid (c_15 41 18 = c2 41 18) := hF_17 41 18 (fun h => absurd h.2 (ni rfl))
                have kn_356 : Hid (c_66 41 18 = c2 41 18) := (hF_68 41 18 (fun h => absurd h.2 (ni rfl))).trans (hid kn_355)
                have kn_357 : Hid (c_339 41 18 = c2 41 18) := (hF_341 41 18 (fun h => absurd h.2 (ni rfl))).trans (hid kn_356)
                have h_358 : c_339 41 18 = c2 41 18 := (hid kn_357)
                refine v_cv c_169_121 km_8_226 rfl rfl (nb_ rfl) ⟨⟨rfl, rfl⟩, nb_ rfl, rfl⟩ (nb_ rfl) (nb_ rfl) (s_168 (a1 := y_69) hI_340 (show (-2147483648) ≤ y_69 ∧ y_69 ≤ 2147483647 from hy_69) (Or.inr (by first | exact q_750ebd296 h_325 h_328 | omega)) (Or.inl (by first | exact q_c62b11d31 h_111 | omega)) (Or.inl (by first | exact q_6e54144a2 h_111 | omega)) (fun c_359 hI_360 hF_361 h_362 => (bk_inl ?_)))
                have h_363 := ir_41_4 hI_360
                refine q_aload_n c_169_124 rfl (v_bip c_169_125 (by decide) ?_)
                have kn_364 : Hid (c_339 41 3 = c2 41 3) := (hF_341 41 3 (fun h => absurd h.2 (ni rfl))).trans (hid kn_331)
                have kn_365 : Hid (c_359 41 3 = c2 41 3) := (hF_361 41 3 qn_b860ee9cc).trans (hid kn_364)
                have h_366 : c_359 41 3 = c2 41 3 := (hid kn_365)
                have h_367 := ir_41_5 hI_360
                refine v_cv c_169_127 km_8_229 rfl rfl (nb_ rfl) ⟨⟨rfl, rfl⟩, nb_ rfl, rfl⟩ (nb_ rfl) (nb_ rfl) (s_161 (a1 := 59) hI_360 (show 1 ≤ 59 ∧ 59 ≤ 255 from ⟨by decide, by decide⟩) (fun c_368 hI_369 hF_370 h_371 h_372 h_373 h_374 => (bk_inl ?_)))
                have h_375 := ir_41_4 hI_369
                have h_376 := ir_41_5 hI_369
                refine v_iinc (v := v2 + 1) c_169_130 rfl (nb_ rfl) rfl (q_goto (t := 44) c_169_133 rfl (Wp_ls [(0, .ref 41), (1, vi a1), (2, vi (v2 + 1))] (lsub_cons rfl (lsub_cons rfl (lsub_cons rfl lsub_nil))) ?_))
                have kn_377 : Hid (c_15 41 2 = c2 41 2) := hF_17 41 2 (fun h => absurd h.2 (ni rfl))
                have kn_378 : Hid (c_66 41 2 = c2 41 2) := (hF_68 41 2 (fun h => absurd h.2 (ni rfl))).trans (hid kn_377)
                have kn_379 : Hid (c_339 41 2 = c2 41 2) := (hF_341 41 2 (fun h => absurd h.2 (ni rfl))).trans (hid kn_378)
                have kn_380 : Hid (c_359 41 2 = c2 41 2) := (hF_361 41 2 qn_c33c5b2f3).trans (hid kn_379)
                have kn_381 : Hid (c_368 41 2 = c2 41 2) := (hF_370 41 2 qn_6151d08e8).trans (hid kn_380)
                have h_382 : c_368 41 2 = c2 41 2 := (hid kn_381)
                exact ih c_368 (v2 + 1) hI_369 (fun a j hm => (hF_370 a j (qv_3242bd920 hm)).trans ((hF_361 a j (qv_3a3bba8ab hm)).trans ((hF_341 a j (fun h => hm (Or.inr (Or.inr (Or.inr (Or.inr (Or.inl h))))))).trans ((hF_68 a j (fun h => hm (Or.inr (Or.inr (Or.inr (Or.inr (Or.inl h))))))).trans ((hF_17 a j (fun h => hm (Or.inr (Or.inr (Or.inr (Or.inr (Or.inl h))))))).trans (hF a j hm)))))) ⟨by first | exact rgp_l hv2.1 (by decide) | omega, by first | exact q_a69d2ea54 h_91 hv2 | omega⟩ ⟨by first | (clear ha1 hv2 h_1 h_2 h_3 h_4 h_5 h_14 h_22 h_19 h_75 h_70 h_76 h_80 h_84 h_111 h_325 h_346 h_342 h_349 h_354 h_363 h_362 h_367 h_375 h_371 h_376 h_20 h_21 h_23 h_71 h_72 h_73 h_74 h_89 h_90 h_91 h_328 h_343 h_344 h_345 h_372 h_373 h_374; omega) | omega, by first | (clear ha1 hv2 h_1 h_2 h_3 h_4 h_5 h_14 h_22 h_19 h_75 h_70 h_76 h_80 h_84 h_111 h_325 h_346 h_342 h_349 h_354 h_363 h_362 h_367 h_375 h_371 h_376 h_20 h_21 h_23 h_71 h_72 h_73 h_74 h_89 h_90 h_91 h_328 h_343 h_344 h_345 h_372 h_373 h_374; omega) | omega, by first | (clear ha1 hv2 h_1 h_2 h_3 h_4 h_5 h_14 h_22 h_19 h_75 h_70 h_76 h_80 h_84 h_111 h_325 h_346 h_342 h_349 h_354 h_363 h_362 h_367 h_375 h_371 h_376 h_20 h_21 h_23 h_71 h_72 h_73 h_74 h_89 h_90 h_91 h_328 h_343 h_344 h_345 h_372 h_373 h_374; omega) | omega, by first | (clear ha1 hv2 h_1 h_2 h_3 h_4 h_5 h_14 h_22 h_19 h_75 h_70 h_76 h_80 h_84 h_111 h_325 h_346 h_342 h_349 h_354 h_363 h_362 h_367 h_375 h_371 h_376 h_20 h_21 h_23 h_71 h_72 h_73 h_74 h_89 h_90 h_91 h_328 h_343 h_344 h_345 h_372 h_373 h_374; omega) | omega⟩ (by omega)
              · refine v_ic_ne_f (t := 22) c_167_15 rfl (Decidable.not_not.mp h_328) (q_iconst c_167_18 (q_goto (t := 73) c_167_19 rfl (v_zret c_167_73 rfl (by decide) (bk_inl (v_if_eq_f (t := 105) c_169_93 rfl (by decide) (q_aload_n c_169_96 rfl (q_iconst c_169_97 ?_)))))))
                refine q_aload_n c_169_98 rfl (v_gi (z := 4) (v := c_66 41 4) c_169_99 kf_8_108 rfl (nb_ rfl) rfl rfl rfl (v_cv c_169_102 km_8_138 rfl rfl (nb_ rfl) ⟨⟨rfl, rfl⟩, nb_ rfl, rfl⟩ (nb_ rfl) (nb_ rfl) (s_153 (a1 := 3) (a2 := c_66 41 4) hI_67 (show 1 ≤ 3 ∧ 3 ≤ 3 from ⟨by decide, by decide⟩) (show 0 ≤ c_66 41 4 ∧ c_66 41 4 ≤ 605 from h_75) (fun c_383 hI_384 hF_385 h_386 => (bk_inl ?_)))))
                have h_387 := ir_41_5 hI_384
                refine q_aload_n c_169_105 rfl (v_cv c_169_106 km_8_131 rfl rfl (nb_ rfl) ⟨⟨rfl, rfl⟩, nb_ rfl, rfl⟩ (nb_ rfl) (nb_ rfl) (q_aload_n c_152_0 rfl (v_gi (z := 5) (v := c_383 41 5) c_152_1 kf_8_102 rfl (nb_ rfl) rfl rfl rfl (q_iconst c_152_4 (v_ic_ne_t (t := 12) c_152_5 rfl ⟨by first | exact q_e869299d0 h_386 h_387 | omega, ⟨(Int.le_trans (by decide) h_387.1), (Int.le_trans h_387.2 (by decide))⟩, by decide, by decide⟩ (q_iconst c_152_12 (v_zret c_152_13 rfl (by decide) ?_)))))))
                refine bk_inl (v_if_ne_f (t := 115) c_169_109 rfl (by decide) (q_goto (t := 136) c_169_112 rfl (q_aload_n c_169_136 rfl (q_aload_n c_169_137 rfl ?_))))
                have kn_388 : Hid (c_383 41 16 = c2 41 16) := (hF_385 41 16 (fun q => q.elim (fun h => absurd h.2 (ni rfl)) (fun h => absurd h.2 (ni rfl)))).trans (hid kn_327)
                refine v_gi (z := 16) (v := c2 41 16) c_169_138 kf_8_145 rfl (nb_ rfl) rfl rfl (hid kn_388) (v_cv c_169_141 km_8_232 rfl rfl (nb_ rfl) ⟨⟨rfl, rfl⟩, nb_ rfl, rfl⟩ (nb_ rfl) (nb_ rfl) (s_164 (a1 := c2 41 16) hI_384 (show (-2147483648) ≤ c2 41 16 ∧ c2 41 16 ≤ 2147483647 from ⟨by first | exact q_de8dff5f0 h_328 | omega, by first | exact q_b289b7db2 h_325 | omega⟩) (fun c_389 y_392 hI_390 hF_391 hy_392 => (bk_inl (q_istore_n c_169_144 (nb_ rfl) (q_aload_n c_169_145 rfl ?_))))))
                have kn_393 : Hid (c_389 41 5 = c_383 41 5) := hF_391 41 5 (fun h => absurd h.2 (ni rfl))
                refine v_gi (z := 5) (v := c_383 41 5) c_169_146 kf_8_102 rfl (nb_ rfl) rfl rfl (hid kn_393) (q_iconst c_169_149 (v_ic_ne_t (t := 157) c_169_150 rfl ⟨by first | exact q_e869299d0 h_386 h_387 | omega, ⟨(Int.le_trans (by decide) h_387.1), (Int.le_trans h_387.2 (by decide))⟩, by decide, by decide⟩ (q_iload_n c_169_157 rfl (q_iret c_169_158 rfl ?_))))
                have kn_394 : Hid (c_15 41 2 = c2 41 2) := hF_17 41 2 (fun h => absurd h.2 (ni rfl))
                have kn_395 : Hid (c_66 41 2 = c2 41 2) := (hF_68 41 2 (fun h => absurd h.2 (ni rfl))).trans (hid kn_394)
                have kn_396 : Hid (c_383 41 2 = c2 41 2) := (hF_385 41 2 (fun q => q.elim (fun h => absurd h.2 (ni rfl)) (fun h => absurd h.2 (ni rfl)))).trans (hid kn_395)
                have kn_397 : Hid (c_389 41 2 = c2 41 2) := (hF_391 41 2 (fun h => absurd h.2 (ni rfl))).trans (hid kn_396)
                have h_398 : c_389 41 2 = c2 41 2 := (hid kn_397)
                exact K c_389 y_392 hI_390 (fun a j hm => (hF_391 a j (qv_6e732907b hm)).trans ((hF_385 a j (qv_063f5c1cf hm)).trans ((hF_68 a j (fun h => hm (Or.inr (Or.inr (Or.inr (Or.inr (Or.inl h))))))).trans ((hF_17 a j (fun h => hm (Or.inr (Or.inr (Or.inr (Or.inr (Or.inl h))))))).trans (hF a j hm))))) hy_392 (Or.inl ⟨by first | (clear ha1 hv2 h_1 h_2 h_3 h_4 h_5 h_14 h_22 h_19 h_75 h_70 h_76 h_80 h_84 h_111 h_325 h_328 h_387 h_20 h_21 h_23 h_71 h_72 h_73 h_74 h_89 h_90 h_91 h_386; omega) | omega, by first | (clear ha1 hv2 h_1 h_2 h_3 h_4 h_5 h_14 h_22 h_19 h_75 h_70 h_76 h_80 h_84 h_111 h_325 h_328 h_387 h_20 h_21 h_23 h_71 h_72 h_73 h_74 h_89 h_90 h_91 h_386; omega) | omega, by first | (clear ha1 hv2 h_1 h_2 h_3 h_4 h_5 h_14 h_22 h_19 h_75 h_70 h_76 h_80 h_84 h_111 h_325 h_328 h_387 h_20 h_21 h_23 h_71 h_72 h_73 h_74 h_89 h_90 h_91 h_386; omega) | omega, by first | (clear ha1 hv2 h_1 h_2 h_3 h_4 h_5 h_14 h_22 h_19 h_75 h_70 h_76 h_80 h_84 h_111 h_325 h_328 h_387 h_20 h_21 h_23 h_71 h_72 h_73 h_74 h_89 h_90 h_91 h_386; omega) | omega⟩)
        · refine v_if_ne_f (t := 82) c_169_67 rfl (Decidable.not_not.mp h_90) (q_aload_n c_169_70 rfl (q_iconst c_169_71 (q_aload_n c_169_72 rfl (v_gi (z := 4) (v := c_66 41 4) c_169_73 kf_8_108 rfl (nb_ rfl) rfl rfl rfl (v_cv c_169_76 km_8_138 rfl rfl (nb_ rfl) ⟨⟨rfl, rfl⟩, nb_ rfl, rfl⟩ (nb_ rfl) (nb_ rfl) (s_153 (a1 := 1) (a2 := c_66 41 4) hI_67 (show 1 ≤ 1 ∧ 1 ≤ 3 from ⟨by decide, by decide⟩) (show 0 ≤ c_66 41 4 ∧ c_66 41 4 ≤ 605 from h_75) (fun c_399 hI_400 hF_401 h_402 => (bk_inl ?_))))))))
          have h_403 := ir_41_5 hI_400
          refine q_goto (t := 105) c_169_79 rfl (q_aload_n c_169_105 rfl (v_cv c_169_106 km_8_131 rfl rfl (nb_ rfl) ⟨⟨rfl, rfl⟩, nb_ rfl, rfl⟩ (nb_ rfl) (nb_ rfl) (q_aload_n c_152_0 rfl (v_gi (z := 5) (v := c_399 41 5) c_152_1 kf_8_102 rfl (nb_ rfl) rfl rfl rfl (q_iconst c_152_4 (v_ic_ne_t (t := 12) c_152_5 rfl ⟨by first | exact q_e869299d0 h_402 h_403 | omega, ⟨(Int.le_trans (by decide) h_403.1), (Int.le_trans h_403.2 (by decide))⟩, by decide, by decide⟩ (q_iconst c_152_12 ?_)))))))
          refine v_zret c_152_13 rfl (by decide) (bk_inl (v_if_ne_f (t := 115) c_169_109 rfl (by decide) (q_goto (t := 136) c_169_112 rfl (q_aload_n c_169_136 rfl (q_aload_n c_169_137 rfl ?_)))))
          have h_404 := ir_41_16 hI2
          have kn_405 : Hid (c_15 41 16 = c2 41 16) := hF_17 41 16 (fun h => absurd h.2 (ni rfl))
          have kn_406 : Hid (c_66 41 16 = c2 41 16) := (hF_68 41 16 (fun h => absurd h.2 (ni rfl))).trans (hid kn_405)
          have kn_407 : Hid (c_399 41 16 = c2 41 16) := (hF_401 41 16 (fun q => q.elim (fun h => absurd h.2 (ni rfl)) (fun h => absurd h.2 (ni rfl)))).trans (hid kn_406)
          refine v_gi (z := 16) (v := c2 41 16) c_169_138 kf_8_145 rfl (nb_ rfl) rfl rfl (hid kn_407) (v_cv c_169_141 km_8_232 rfl rfl (nb_ rfl) ⟨⟨rfl, rfl⟩, nb_ rfl, rfl⟩ (nb_ rfl) (nb_ rfl) (s_164 (a1 := c2 41 16) hI_400 (show (-2147483648) ≤ c2 41 16 ∧ c2 41 16 ≤ 2147483647 from ⟨by first | exact q_730ab5169 h_404 | omega, by first | exact q_b289b7db2 h_404 | omega⟩) (fun c_408 y_411 hI_409 hF_410 hy_411 => (bk_inl (q_istore_n c_169_144 (nb_ rfl) (q_aload_n c_169_145 rfl ?_))))))
          have kn_412 : Hid (c_408 41 5 = c_399 41 5) := hF_410 41 5 (fun h => absurd h.2 (ni rfl))
          refine v_gi (z := 5) (v := c_399 41 5) c_169_146 kf_8_102 rfl (nb_ rfl) rfl rfl (hid kn_412) (q_iconst c_169_149 (v_ic_ne_t (t := 157) c_169_150 rfl ⟨by first | exact q_e869299d0 h_402 h_403 | omega, ⟨(Int.le_trans (by decide) h_403.1), (Int.le_trans h_403.2 (by decide))⟩, by decide, by decide⟩ (q_iload_n c_169_157 rfl (q_iret c_169_158 rfl ?_))))
          have kn_413 : Hid (c_15 41 2 = c2 41 2) := hF_17 41 2 (fun h => absurd h.2 (ni rfl))
          have kn_414 : Hid (c_66 41 2 = c2 41 2) := (hF_68 41 2 (fun h => absurd h.2 (ni rfl))).trans (hid kn_413)
          have kn_415 : Hid (c_399 41 2 = c2 41 2) := (hF_401 41 2 (fun q => q.elim (fun h => absurd h.2 (ni rfl)) (fun h => absurd h.2 (ni rfl)))).trans (hid kn_414)
          have kn_416 : Hid (c_408 41 2 = c2 41 2) := (hF_410 41 2 (fun h => absurd h.2 (ni rfl))).trans (hid kn_415)
          have h_417 : c_408 41 2 = c2 41 2 := (hid kn_416)
          exact K c_408 y_411 hI_409 (fun a j hm => (hF_410 a j (qv_6e732907b hm)).trans ((hF_401 a j (qv_063f5c1cf hm)).trans ((hF_68 a j (fun h => hm (Or.inr (Or.inr (Or.inr (Or.inr (Or.inl h))))))).trans ((hF_17 a j (fun h => hm (Or.inr (Or.inr (Or.inr (Or.inr (Or.inl h))))))).trans (hF a j hm))))) hy_411 (Or.inl ⟨by first | (clear ha1 hv2 h_1 h_2 h_3 h_4 h_5 h_14 h_22 h_19 h_75 h_70 h_76 h_80 h_84 h_90 h_403 h_404 h_20 h_21 h_23 h_71 h_72 h_73 h_74 h_89 h_402; omega) | omega, by first | (clear ha1 hv2 h_1 h_2 h_3 h_4 h_5 h_14 h_22 h_19 h_75 h_70 h_76 h_80 h_84 h_90 h_403 h_404 h_20 h_21 h_23 h_71 h_72 h_73 h_74 h_89 h_402; omega) | omega, by first | (clear ha1 hv2 h_1 h_2 h_3 h_4 h_5 h_14 h_22 h_19 h_75 h_70 h_76 h_80 h_84 h_90 h_403 h_404 h_20 h_21 h_23 h_71 h_72 h_73 h_74 h_89 h_402; omega) | omega, by first | (clear ha1 hv2 h_1 h_2 h_3 h_4 h_5 h_14 h_22 h_19 h_75 h_70 h_76 h_80 h_84 h_90 h_403 h_404 h_20 h_21 h_23 h_71 h_72 h_73 h_74 h_89 h_402; omega) | omega⟩)
set_option maxRecDepth 100000 in
set_option maxHeartbeats 4000000 in
theorem s_169 {sc : List Int32} {d P Q : Nat} {c : ME} {a1 : Int} {Z : AR → Prop} (hI : Iv 0 (-1) P Q c) (ha1 : (-2147483648) ≤ a1 ∧ a1 ≤ 2147483647) (K : ∀ (c2 : ME) (y : Int), Iv 0 (-1) P Q c2 → (∀ (a : Nat) (j : Int), ¬ ((a = 41 ∧ j = 0) ∨ a = 42 ∨ (a = 41 ∧ j = 2) ∨ (a = 41 ∧ j = 3) ∨ (a = 41 ∧ j = 4) ∨ (a = 41 ∧ j = 5) ∨ (a = 41 ∧ j = 6) ∨ (a = 41 ∧ j = 7) ∨ (a = 41 ∧ j = 8) ∨ (a = 41 ∧ j = 16) ∨ (a = 41 ∧ j = 17) ∨ (a = 41 ∧ j = 18) ∨ (a = 41 ∧ j = 19) ∨ a = 44 ∨ a = 45 ∨ a = 46 ∨ (a = 41 ∧ j = 20) ∨ (a = 41 ∧ j = 21) ∨ (a = 41 ∧ j = 22) ∨ (a = 41 ∧ j = 23) ∨ (a = 41 ∧ j = 30) ∨ (a = 41 ∧ j = 35) ∨ (a = 41 ∧ j = 36) ∨ (a = 41 ∧ j = 47) ∨ (a = 41 ∧ j = 48) ∨ (a = 41 ∧ j = 52) ∨ a = 47 ∨ a = 48 ∨ a = 49 ∨ a = 58 ∨ a = 64) → c2 a j = c a j) → (-2147483648) ≤ y ∧ y ≤ 2147483647 → ((c2 41 2 = 0 ∧ a1 ≥ 0 ∧ a1 ≤ c 41 2 ∧ a1 ≤ 600) ∨ (c2 41 2 = c 41 2 ∧ a1 < 0) ∨ (c2 41 2 = c 41 2 ∧ a1 > c 41 2) ∨ (c2 41 2 = c 41 2 ∧ a1 > 600)) → Z (.inl (some (vi y)), Wd P Q P P c2, 0, 0)) : Wp sc (d + 10) 169 0 [(0, .ref 41), (1, vi a1)] [] (Wd P Q P P c) 0 0 Z := by
  have hP := iv_P hI
  have hQ := iv_Q hI
  refine q_aload_n c_169_0 rfl (q_iconst c_169_1 (v_pi (z := 0) c_169_2 kf_8_3 rfl (nb_ rfl) rfl rfl rfl (by decide) (q_aload_n c_169_5 rfl (q_iload_n c_169_6 rfl ?_))))
  by_cases h_419 : a1 < 0
  · refine v_if_lt_t (t := 22) c_169_7 rfl ⟨ha1.1, h_419, by decide⟩ (q_iconst c_169_22 (q_iconst c_169_23 (q_iconst c_169_24 (v_cv c_169_25 km_8_203 rfl rfl (nb_ rfl) ⟨⟨rfl, rfl⟩, nb_ rfl, rfl⟩ (nb_ rfl) (nb_ rfl) (q_iload_n c_145_0 rfl (v_if_ne_f (t := 26) c_145_1 rfl (by decide) (q_aload_n c_145_4 rfl ?_)))))))
    refine v_gi (z := 0) (v := 0) c_145_5 kf_8_3 rfl (nb_ rfl) rfl rfl (up_e rfl) (v_if_ne_f (t := 26) c_145_8 rfl (by decide) (q_aload_n c_145_11 rfl (q_iload_n c_145_12 rfl (v_pi (z := 0) c_145_13 kf_8_3 rfl (nb_ rfl) rfl rfl rfl (by decide) (q_aload_n c_145_16 rfl (v_gr (t := 42) c_145_17 kf_8_7 rfl (nb_ rfl) rfl (q_iload_n c_145_20 rfl ?_)))))))
    refine q_dup2 c_145_21 ⟨rfl, rfl⟩ ?_
    have h_420 := ir_42 hI 1
    refine v_ia (v := c 42 1) c_145_22 rfl (by decide) (by decide) (by decide) ((up_c (nn rfl)).trans (up_c (nn rfl))) (q_iconst c_145_23 (v_iadd (v := c 42 1 + 1) c_145_24 rfl (v_nrm (fun y_421 hy_421 => (v_is c_145_25 rfl (by decide) (by decide) (by decide) (q_aload_n c_145_26 rfl (v_gi (z := 0) (v := 1) c_145_27 kf_8_3 rfl (nb_ rfl) rfl rfl ((up_c (nn rfl)).trans (up_e rfl)) (v_if_ne_t (t := 37) c_145_30 rfl (by decide) ?_))))))))
    refine q_iconst c_145_37 (v_zret c_145_38 rfl (by decide) (bk_inl (v_if_ne_f (t := 33) c_169_28 rfl (by decide) (q_iconst c_169_31 (q_iret c_169_32 rfl ?_)))))
    have hI_422 := iw_41_0 (v := 0) hI ⟨by decide, by decide⟩
    have hI_423 := iw_41_0 (v := 1) hI_422 ⟨by decide, by decide⟩
    have hI_424 := iw_42 (j := 1) (v := y_421) hI_423 ⟨hy_421.1, hy_421.2⟩
    have h_425 := ir_41_2 hI
    have h_426 : (up (up (up c 41 0 0) 41 0 1) 42 1 y_421) 41 2 = c 41 2 := ((up_c (nn rfl)).trans ((up_n (by decide)).trans (up_n (by decide))))
    exact K (up (up (up c 41 0 0) 41 0 1) 42 1 y_421) 0 hI_424 (fun a j hm => (up_b (Decidable.or_iff_not_imp_left.mpr (fun h1 h2 => hm (Or.inr (Or.inl (Decidable.not_not.mp h1)))))).trans ((up_b (Decidable.or_iff_not_imp_left.mpr (fun h1 h2 => hm (Or.inl ⟨Decidable.not_not.mp h1, h2⟩)))).trans (up_b (Decidable.or_iff_not_imp_left.mpr (fun h1 h2 => hm (Or.inl ⟨Decidable.not_not.mp h1, h2⟩)))))) ⟨by decide, by decide⟩ (Or.inr (Or.inl ⟨by first | assumption | omega, by first | exact q_e97a17f6e h_419 | omega⟩))
  · refine v_if_lt_f (t := 22) c_169_7 rfl ⟨by decide, (Int.not_lt.mp h_419), ha1.2⟩ (q_iload_n c_169_10 rfl (q_aload_n c_169_11 rfl ?_))
    have h_427 := ir_41_2 hI
    refine v_gi (z := 2) (v := c 41 2) c_169_12 kf_8_99 rfl (nb_ rfl) rfl rfl (up_n (by decide)) ?_
    by_cases h_428 : a1 > c 41 2
    · refine v_ic_gt_t (t := 22) c_169_15 rfl ⟨(Int.le_trans (by decide) h_427.1), h_428, ha1.2⟩ (q_iconst c_169_22 (q_iconst c_169_23 (q_iconst c_169_24 (v_cv c_169_25 km_8_203 rfl rfl (nb_ rfl) ⟨⟨rfl, rfl⟩, nb_ rfl, rfl⟩ (nb_ rfl) (nb_ rfl) (q_iload_n c_145_0 rfl (v_if_ne_f (t := 26) c_145_1 rfl (by decide) (q_aload_n c_145_4 rfl ?_)))))))
      refine v_gi (z := 0) (v := 0) c_145_5 kf_8_3 rfl (nb_ rfl) rfl rfl (up_e rfl) (v_if_ne_f (t := 26) c_145_8 rfl (by decide) (q_aload_n c_145_11 rfl (q_iload_n c_145_12 rfl (v_pi (z := 0) c_145_13 kf_8_3 rfl (nb_ rfl) rfl rfl rfl (by decide) (q_aload_n c_145_16 rfl (v_gr (t := 42) c_145_17 kf_8_7 rfl (nb_ rfl) rfl (q_iload_n c_145_20 rfl ?_)))))))
      refine q_dup2 c_145_21 ⟨rfl, rfl⟩ ?_
      have h_429 := ir_42 hI 1
      refine v_ia (v := c 42 1) c_145_22 rfl (by decide) (by decide) (by decide) ((up_c (nn rfl)).trans (up_c (nn rfl))) (q_iconst c_145_23 (v_iadd (v := c 42 1 + 1) c_145_24 rfl (v_nrm (fun y_430 hy_430 => (v_is c_145_25 rfl (by decide) (by decide) (by decide) (q_aload_n c_145_26 rfl (v_gi (z := 0) (v := 1) c_145_27 kf_8_3 rfl (nb_ rfl) rfl rfl ((up_c (nn rfl)).trans (up_e rfl)) (v_if_ne_t (t := 37) c_145_30 rfl (by decide) ?_))))))))
      refine q_iconst c_145_37 (v_zret c_145_38 rfl (by decide) (bk_inl (v_if_ne_f (t := 33) c_169_28 rfl (by decide) (q_iconst c_169_31 (q_iret c_169_32 rfl ?_)))))
      have hI_431 := iw_41_0 (v := 0) hI ⟨by decide, by decide⟩
      have hI_432 := iw_41_0 (v := 1) hI_431 ⟨by decide, by decide⟩
      have hI_433 := iw_42 (j := 1) (v := y_430) hI_432 ⟨hy_430.1, hy_430.2⟩
      have h_434 : (up (up (up c 41 0 0) 41 0 1) 42 1 y_430) 41 2 = c 41 2 := ((up_c (nn rfl)).trans ((up_n (by decide)).trans (up_n (by decide))))
      exact K (up (up (up c 41 0 0) 41 0 1) 42 1 y_430) 0 hI_433 (fun a j hm => (up_b (Decidable.or_iff_not_imp_left.mpr (fun h1 h2 => hm (Or.inr (Or.inl (Decidable.not_not.mp h1)))))).trans ((up_b (Decidable.or_iff_not_imp_left.mpr (fun h1 h2 => hm (Or.inl ⟨Decidable.not_not.mp h1, h2⟩)))).trans (up_b (Decidable.or_iff_not_imp_left.mpr (fun h1 h2 => hm (Or.inl ⟨Decidable.not_not.mp h1, h2⟩)))))) ⟨by decide, by decide⟩ (Or.inr (Or.inr (Or.inl ⟨by first | assumption | omega, by first | exact q_0e7f65a30 h_428 | omega⟩)))
    · refine v_ic_gt_f (t := 22) c_169_15 rfl ⟨ha1.1, (Int.not_lt.mp h_428), (Int.le_trans h_427.2 (by decide))⟩ (q_iconst c_169_18 (q_goto (t := 23) c_169_19 rfl (q_iconst c_169_23 (q_iconst c_169_24 (v_cv c_169_25 km_8_203 rfl rfl (nb_ rfl) ⟨⟨rfl, rfl⟩, nb_ rfl, rfl⟩ (nb_ rfl) (nb_ rfl) (q_iload_n c_145_0 rfl (v_if_ne_t (t := 26) c_145_1 rfl (by decide) ?_)))))))
      refine q_aload_n c_145_26 rfl (v_gi (z := 0) (v := 0) c_145_27 kf_8_3 rfl (nb_ rfl) rfl rfl (up_e rfl) (v_if_ne_f (t := 37) c_145_30 rfl (by decide) (q_iconst c_145_33 (q_goto (t := 38) c_145_34 rfl (v_zret c_145_38 rfl (by decide) (bk_inl (v_if_ne_t (t := 33) c_169_28 rfl (by decide) ?_)))))))
      refine q_aload_n c_169_33 rfl (q_iload_n c_169_34 rfl ?_)
      have hI_435 := iw_41_0 (v := 0) hI ⟨by decide, by decide⟩
      refine v_cv c_169_35 km_8_207 rfl rfl (nb_ rfl) ⟨⟨rfl, rfl⟩, nb_ rfl, rfl⟩ (nb_ rfl) (nb_ rfl) (s_163 (a1 := a1) hI_435 (show 0 ≤ a1 ∧ a1 ≤ 600 from ⟨by first | exact q_720657ba9 h_419 | omega, by first | exact q_1f9ec8cac h_427 h_428 | omega⟩) (fun c_436 hI_437 hF_438 h_439 => (bk_inl ?_)))
      have h_440 := ir_41_2 hI_437
      have h_441 := ir_41_3 hI_437
      have h_442 := ir_41_4 hI_437
      have h_443 := ir_41_5 hI_437
      have h_444 := ir_41_7 hI_437
      refine q_aload_n c_169_38 rfl (v_cv c_169_39 km_8_93 rfl rfl (nb_ rfl) ⟨⟨rfl, rfl⟩, nb_ rfl, rfl⟩ (nb_ rfl) (nb_ rfl) (s_147 hI_437 (fun c_445 hI_446 hF_447 h_448 => (bk_inl ?_))))
      have h_449 := ir_41_16 hI_446
      have h_450 := ir_41_17 hI_446
      have h_451 := ir_41_18 hI_446
      have h_452 := ir_41_19 hI_446
      refine q_iconst c_169_42 (q_istore_n c_169_43 (nb_ rfl) (Wp_ls [(0, .ref 41), (1, vi a1), (2, vi 0)] (lsub_cons rfl (lsub_cons rfl (lsub_cons rfl lsub_nil))) ?_))
      have kn_453 : Hid (c_445 41 2 = c_436 41 2) := hF_447 41 2 qn_d1f210dd4
      have h_454 : c_445 41 2 = c_436 41 2 := (hid kn_453)
      have kn_455 : Hid (c_445 41 4 = c_436 41 4) := hF_447 41 4 qn_650f73a3f
      have h_456 : c_445 41 4 = c_436 41 4 := (hid kn_455)
      exact (s_169_l (sc := sc) (d := d) hI ha1 K 1214) c_445 0 hI_446 (fun a j hm => (hF_447 a j (qv_701798ed8 hm)).trans ((hF_438 a j (qv_efbc52a90 hm)).trans (up_b (Decidable.or_iff_not_imp_left.mpr (fun h1 h2 => hm (Or.inl ⟨Decidable.not_not.mp h1, h2⟩)))))) ⟨by decide, by decide⟩ ⟨by first | exact q_59baff7b3 h_439 h_440 | omega, by first | exact q_720657ba9 h_419 | omega, by first | exact q_0325d56da h_428 | omega, by first | exact q_1f9ec8cac h_427 h_428 | omega⟩ (by omega)

set_option maxRecDepth 100000 in
set_option maxHeartbeats 4000000 in
theorem s_170 {sc : List Int32} {e : Int} {d u P Q : Nat} {c : ME} {a1 : Int} {a2 : Int} {Z : AR → Prop} (hI : Iv u e P Q c) (ha1 : 0 ≤ a1 ∧ a1 ≤ 8) (ha2 : 0 ≤ a2 ∧ a2 ≤ 999) (hW : Nw c) (hq0 : (c 41 5 < (-1)) ∨ (c 41 5 > (-1)) ∨ (c 41 29 ≤ 149)) (hq1 : (c 41 5 < (-1)) ∨ (c 41 5 > (-1)) ∨ (a1 ≤ 1) ∨ (Nh c ≥ 2)) (hq2 : (c 41 5 < (-1)) ∨ (c 41 5 > (-1)) ∨ (a1 ≠ 1) ∨ (a2 ≤ 7)) (K : ∀ (c2 : ME), Iv u e P Q c2 → (∀ (a : Nat) (j : Int), ¬ ((a = 41 ∧ j = 29) ∨ a = 50 ∨ a = 51) → c2 a j = c a j) → Nw c2 → ((c 41 5 < (-1)) ∨ (c 41 5 > (-1)) ∨ (c2 41 29 = c 41 29 + 1)) → ((c 41 5 = (-1)) ∨ (c2 41 29 = c 41 29)) → ((c 41 5 < (-1)) ∨ (c 41 5 > (-1)) ∨ (a1 ≥ 2) ∨ (Nh c2 = Nh c + 1)) → ((c 41 5 < (-1)) ∨ (c 41 5 > (-1)) ∨ (a1 ≤ 1) ∨ (Nh c2 = Nh c - 1)) → Z (.inl (none), Wd P Q P P c2, 0, 0)) : Wp sc (d + 8) 170 0 [(0, .ref 41), (1, vi a1), (2, vi a2)] [] (Wd P Q P P c) 0 0 Z := by
  have hP := iv_P hI
  have hQ := iv_Q hI
  have h_1 := ir_41_29 hI
  have h_2 := ir_41_5 hI
  refine q_aload_n c_170_0 rfl (v_cv c_170_1 km_8_131 rfl rfl (nb_ rfl) ⟨⟨rfl, rfl⟩, nb_ rfl, rfl⟩ (nb_ rfl) (nb_ rfl) (q_aload_n c_152_0 rfl (v_gi (z := 5) (v := c 41 5) c_152_1 kf_8_102 rfl (nb_ rfl) rfl rfl rfl (q_iconst c_152_4 ?_))))
  by_cases h_3 : c 41 5 ≠ (-1)
  · refine v_ic_ne_t (t := 12) c_152_5 rfl ⟨h_3, ⟨(Int.le_trans (by decide) h_2.1), (Int.le_trans h_2.2 (by decide))⟩, by decide, by decide⟩ (q_iconst c_152_12 (v_zret c_152_13 rfl (by decide) (bk_inl (v_if_ne_f (t := 8) c_170_4 rfl (by decide) (q_vret rfl rfl ?_)))))
    exact K c hI (fun a j hm => rfl) hW (Or.inr (Or.inl (by first | exact q_2c2c046ea h_2 h_3 | omega))) (Or.inr (by first | assumption | omega)) (Or.inr (Or.inl (by first | exact q_2c2c046ea h_2 h_3 | omega))) (Or.inr (Or.inl (by first | exact q_2c2c046ea h_2 h_3 | omega)))
  · refine v_ic_ne_f (t := 12) c_152_5 rfl (Decidable.not_not.mp h_3) (q_iconst c_152_8 (q_goto (t := 13) c_152_9 rfl (v_zret c_152_13 rfl (by decide) (bk_inl (v_if_ne_t (t := 8) c_170_4 rfl (by decide) (q_aload_n c_170_8 rfl (v_gr (t := 50) c_170_9 kf_8_41 rfl (nb_ rfl) rfl ?_)))))))
    refine q_aload_n c_170_12 rfl (v_gi (z := 29) (v := c 41 29) c_170_13 kf_8_236 rfl (nb_ rfl) rfl rfl rfl (q_iload_n c_170_16 rfl (v_is c_170_17 rfl (by decide) (by decide) ⟨h_1.1, by first | exact q_9fe1ab52f h_2 h_3 hq0 | omega⟩ (q_aload_n c_170_18 rfl (v_gr (t := 51) c_170_19 kf_8_44 rfl (nb_ rfl) rfl (q_aload_n c_170_22 rfl (v_gi (z := 29) (v := c 41 29) c_170_23 kf_8_236 rfl (nb_ rfl) rfl rfl (up_c (nn rfl)) ?_)))))))
    refine q_iload_n c_170_26 rfl (v_is c_170_27 rfl (by decide) (by decide) ⟨h_1.1, by first | exact q_9fe1ab52f h_2 h_3 hq0 | omega⟩ (q_aload_n c_170_28 rfl (q_dup c_170_29 rfl (v_gi (z := 29) (v := c 41 29) c_170_30 kf_8_236 rfl (nb_ rfl) rfl rfl ((up_c (nn rfl)).trans (up_c (nn rfl))) (q_iconst c_170_33 (v_iadd (v := c 41 29 + 1) c_170_34 rfl (v_pi (z := 29) c_170_35 kf_8_236 rfl (nb_ rfl) rfl rfl rfl (by decide) ?_)))))))
    refine q_vret rfl rfl ?_
    have hI_4 := iw_50 (j := c 41 29) (v := a1) hI ⟨ha1.1, ha1.2⟩
    have hI_5 := iw_51 (j := c 41 29) (v := a2) hI_4 ⟨ha2.1, ha2.2⟩
    have hI_6 := iw_41_29 (v := c 41 29 + 1) hI_5 ⟨by first | exact rgp_l h_1.1 (by decide) | omega, by first | exact q_2e3028bfc h_2 h_3 hq0 | omega⟩
    obtain ⟨hW9, hN9⟩ := nh_emit (what := a1) (of := a2) hW rfl (by omega) (by omega) (by omega)
    have h_7 : (up (up (up c 50 (c 41 29) a1) 51 (c 41 29) a2) 41 29 (c 41 29 + 1)) 41 29 = c 41 29 + 1 := (up_e rfl)
    exact K (up (up (up c 50 (c 41 29) a1) 51 (c 41 29) a2) 41 29 (c 41 29 + 1)) hI_6 (fun a j hm => (up_b (Decidable.or_iff_not_imp_left.mpr (fun h1 h2 => hm (Or.inl ⟨Decidable.not_not.mp h1, h2⟩)))).trans ((up_b (Decidable.or_iff_not_imp_left.mpr (fun h1 h2 => hm (Or.inr (Or.inr (Decidable.not_not.mp h1)))))).trans (up_b (Decidable.or_iff_not_imp_left.mpr (fun h1 h2 => hm (Or.inr (Or.inl (Decidable.not_not.mp h1)))))))) hW9 (Or.inr (Or.inr (by first | assumption | omega))) (Or.inl (by first | exact q_65c5ff97d h_2 h_3 | omega)) (by omega) (by omega)

set_option maxRecDepth 100000 in
set_option maxHeartbeats 4000000 in
theorem s_171 {sc : List Int32} {e : Int} {d u P Q : Nat} {c : ME} {a1 : Int} {Z : AR → Prop} (hI : Iv u e P Q c) (ha1 : 1 ≤ a1 ∧ a1 ≤ 5) (hq0 : (c 41 7 ≤ 6)) (hq1 : (c 41 4 ≤ 600)) (K : ∀ (c2 : ME), Iv u e P Q c2 → (∀ (a : Nat) (j : Int), ¬ ((a = 41 ∧ j = 4) ∨ (a = 41 ∧ j = 5) ∨ (a = 41 ∧ j = 6) ∨ (a = 41 ∧ j = 7)) → c2 a j = c a j) → ((c2 41 4 ≥ c 41 4)) → ((c2 41 7 = c 41 7 + 1)) → ((c 41 5 = (-1)) ∨ (c2 41 5 = c 41 5)) → ((c2 41 5 < (-1)) ∨ (c2 41 5 > (-1)) ∨ (c2 41 4 = a1 + c 41 4 ∧ c 41 7 ≤ 5 ∧ c 41 5 = (-1))) → Z (.inl (none), Wd P Q P P c2, 0, 0)) : Wp sc (d + 8) 171 0 [(0, .ref 41), (1, vi a1)] [] (Wd P Q P P c) 0 0 Z := by
  have hP := iv_P hI
  have hQ := iv_Q hI
  have h_1 := ir_41_7 hI
  have h_2 := ir_41_4 hI
  refine q_aload_n c_171_0 rfl (v_cv c_171_1 km_8_131 rfl rfl (nb_ rfl) ⟨⟨rfl, rfl⟩, nb_ rfl, rfl⟩ (nb_ rfl) (nb_ rfl) (q_aload_n c_152_0 rfl ?_))
  have h_3 := ir_41_5 hI
  refine v_gi (z := 5) (v := c 41 5) c_152_1 kf_8_102 rfl (nb_ rfl) rfl rfl rfl (q_iconst c_152_4 ?_)
  by_cases h_4 : c 41 5 ≠ (-1)
  · refine v_ic_ne_t (t := 12) c_152_5 rfl ⟨h_4, ⟨(Int.le_trans (by decide) h_3.1), (Int.le_trans h_3.2 (by decide))⟩, by decide, by decide⟩ (q_iconst c_152_12 (v_zret c_152_13 rfl (by decide) (bk_inl (v_if_eq_t (t := 25) c_171_4 rfl (by decide) (q_aload_n c_171_25 rfl (v_cv c_171_26 km_8_131 rfl rfl (nb_ rfl) ⟨⟨rfl, rfl⟩, nb_ rfl, rfl⟩ (nb_ rfl) (nb_ rfl) (q_aload_n c_152_0 rfl ?_)))))))
    refine v_gi (z := 5) (v := c 41 5) c_152_1 kf_8_102 rfl (nb_ rfl) rfl rfl rfl (q_iconst c_152_4 (v_ic_ne_t (t := 12) c_152_5 rfl ⟨by first | exact q_bd023a79f h_3 h_4 | omega, ⟨(Int.le_trans (by decide) h_3.1), (Int.le_trans h_3.2 (by decide))⟩, by decide, by decide⟩ (q_iconst c_152_12 (v_zret c_152_13 rfl (by decide) (bk_inl (v_if_eq_t (t := 42) c_171_29 rfl (by decide) (q_aload_n c_171_42 rfl ?_)))))))
    refine q_dup c_171_43 rfl (v_gi (z := 7) (v := c 41 7) c_171_44 kf_8_142 rfl (nb_ rfl) rfl rfl rfl (q_iconst c_171_47 (v_iadd (v := c 41 7 + 1) c_171_48 rfl (v_pi (z := 7) c_171_49 kf_8_142 rfl (nb_ rfl) rfl rfl rfl (by decide) (q_vret rfl rfl ?_)))))
    have hI_5 := iw_41_7 (v := c 41 7 + 1) hI ⟨by first | exact rgp_l h_1.1 (by decide) | omega, by first | exact q_d93b4b86d hq0 | omega⟩
    have h_6 : (up c 41 7 (c 41 7 + 1)) 41 4 = c 41 4 := (up_n (by decide))
    have h_7 : (up c 41 7 (c 41 7 + 1)) 41 5 = c 41 5 := (up_n (by decide))
    have h_8 : (up c 41 7 (c 41 7 + 1)) 41 7 = c 41 7 + 1 := (up_e rfl)
    exact K (up c 41 7 (c 41 7 + 1)) hI_5 (fun a j hm => up_b (Decidable.or_iff_not_imp_left.mpr (fun h1 h2 => hm (Or.inr (Or.inr (Or.inr ⟨Decidable.not_not.mp h1, h2⟩)))))) (by first | exact q_e074ea49a | omega) (by first | assumption | omega) (Or.inr (by first | assumption | omega)) (Or.inr (Or.inl (by first | exact q_2c2c046ea h_3 h_4 | omega)))
  · refine v_ic_ne_f (t := 12) c_152_5 rfl (Decidable.not_not.mp h_4) (q_iconst c_152_8 (q_goto (t := 13) c_152_9 rfl (v_zret c_152_13 rfl (by decide) (bk_inl (v_if_eq_f (t := 25) c_171_4 rfl (by decide) (q_aload_n c_171_7 rfl (v_gi (z := 7) (v := c 41 7) c_171_8 kf_8_142 rfl (nb_ rfl) rfl rfl rfl ?_)))))))
    refine v_bip c_171_11 (by decide) ?_
    by_cases h_9 : c 41 7 ≠ 6
    · refine v_ic_ne_t (t := 25) c_171_13 rfl ⟨h_9, ⟨(Int.le_trans (by decide) h_1.1), (Int.le_trans h_1.2 (by decide))⟩, by decide, by decide⟩ (q_aload_n c_171_25 rfl (v_cv c_171_26 km_8_131 rfl rfl (nb_ rfl) ⟨⟨rfl, rfl⟩, nb_ rfl, rfl⟩ (nb_ rfl) (nb_ rfl) (q_aload_n c_152_0 rfl (v_gi (z := 5) (v := c 41 5) c_152_1 kf_8_102 rfl (nb_ rfl) rfl rfl rfl (q_iconst c_152_4 (v_ic_ne_f (t := 12) c_152_5 rfl (by first | exact q_65c5ff97d h_3 h_4 | omega) (q_iconst c_152_8 ?_)))))))
      refine q_goto (t := 13) c_152_9 rfl (v_zret c_152_13 rfl (by decide) (bk_inl (v_if_eq_f (t := 42) c_171_29 rfl (by decide) (q_aload_n c_171_32 rfl (q_dup c_171_33 rfl (v_gi (z := 4) (v := c 41 4) c_171_34 kf_8_108 rfl (nb_ rfl) rfl rfl rfl (q_iload_n c_171_37 rfl ?_)))))))
      refine v_iadd (v := a1 + c 41 4) c_171_38 (by first | exact q_893c89ded | omega) (v_pi (z := 4) c_171_39 kf_8_108 rfl (nb_ rfl) rfl rfl rfl (by decide) (q_aload_n c_171_42 rfl (q_dup c_171_43 rfl (v_gi (z := 7) (v := c 41 7) c_171_44 kf_8_142 rfl (nb_ rfl) rfl rfl (up_n (by decide)) (q_iconst c_171_47 (v_iadd (v := c 41 7 + 1) c_171_48 rfl (v_pi (z := 7) c_171_49 kf_8_142 rfl (nb_ rfl) rfl rfl rfl (by decide) ?_)))))))
      refine q_vret rfl rfl ?_
      have hI_10 := iw_41_4 (v := a1 + c 41 4) hI ⟨by first | exact q_868bc2241 h_2 ha1 | omega, by first | exact q_767d1879c ha1 hq1 | omega⟩
      have hI_11 := iw_41_7 (v := c 41 7 + 1) hI_10 ⟨by first | exact rgp_l h_1.1 (by decide) | omega, by first | exact q_d93b4b86d hq0 | omega⟩
      have h_12 : (up (up c 41 4 (a1 + c 41 4)) 41 7 (c 41 7 + 1)) 41 4 = a1 + c 41 4 := ((up_n (by decide)).trans (up_e rfl))
      have h_13 : (up (up c 41 4 (a1 + c 41 4)) 41 7 (c 41 7 + 1)) 41 5 = c 41 5 := ((up_n (by decide)).trans (up_n (by decide)))
      have h_14 : (up (up c 41 4 (a1 + c 41 4)) 41 7 (c 41 7 + 1)) 41 7 = c 41 7 + 1 := (up_e rfl)
      exact K (up (up c 41 4 (a1 + c 41 4)) 41 7 (c 41 7 + 1)) hI_11 (fun a j hm => (up_b (Decidable.or_iff_not_imp_left.mpr (fun h1 h2 => hm (Or.inr (Or.inr (Or.inr ⟨Decidable.not_not.mp h1, h2⟩)))))).trans (up_b (Decidable.or_iff_not_imp_left.mpr (fun h1 h2 => hm (Or.inl ⟨Decidable.not_not.mp h1, h2⟩))))) (by first | exact q_8b7d833aa ha1 | omega) (by first | assumption | omega) (Or.inl (by first | exact q_65c5ff97d h_3 h_4 | omega)) (Or.inr (Or.inr ⟨by first | assumption | omega, by first | exact q_93abdb908 h_9 hq0 | omega, by first | exact q_65c5ff97d h_3 h_4 | omega⟩))
    · refine v_ic_ne_f (t := 25) c_171_13 rfl (Decidable.not_not.mp h_9) (q_aload_n c_171_16 rfl (q_iconst c_171_17 (q_aload_n c_171_18 rfl (v_gi (z := 4) (v := c 41 4) c_171_19 kf_8_108 rfl (nb_ rfl) rfl rfl rfl (v_cv c_171_22 km_8_138 rfl rfl (nb_ rfl) ⟨⟨rfl, rfl⟩, nb_ rfl, rfl⟩ (nb_ rfl) (nb_ rfl) (s_153 (a1 := 3) (a2 := c 41 4) hI (show 1 ≤ 3 ∧ 3 ≤ 3 from ⟨by decide, by decide⟩) (show 0 ≤ c 41 4 ∧ c 41 4 ≤ 605 from h_2) (fun c_15 hI_16 hF_17 h_18 => (bk_inl ?_))))))))
      have h_19 := ir_41_5 hI_16
      refine q_aload_n c_171_25 rfl (v_cv c_171_26 km_8_131 rfl rfl (nb_ rfl) ⟨⟨rfl, rfl⟩, nb_ rfl, rfl⟩ (nb_ rfl) (nb_ rfl) (q_aload_n c_152_0 rfl (v_gi (z := 5) (v := c_15 41 5) c_152_1 kf_8_102 rfl (nb_ rfl) rfl rfl rfl (q_iconst c_152_4 (v_ic_ne_t (t := 12) c_152_5 rfl ⟨by first | exact q_e869299d0 h_18 h_19 | omega, ⟨(Int.le_trans (by decide) h_19.1), (Int.le_trans h_19.2 (by decide))⟩, by decide, by decide⟩ (q_iconst c_152_12 (v_zret c_152_13 rfl (by decide) ?_)))))))
      refine bk_inl (v_if_eq_t (t := 42) c_171_29 rfl (by decide) (q_aload_n c_171_42 rfl (q_dup c_171_43 rfl ?_)))
      have kn_20 : Hid (c_15 41 7 = c 41 7) := hF_17 41 7 (fun q => q.elim (fun h => absurd h.2 (ni rfl)) (fun h => absurd h.2 (ni rfl)))
      refine v_gi (z := 7) (v := c 41 7) c_171_44 kf_8_142 rfl (nb_ rfl) rfl rfl (hid kn_20) (q_iconst c_171_47 (v_iadd (v := c 41 7 + 1) c_171_48 rfl (v_pi (z := 7) c_171_49 kf_8_142 rfl (nb_ rfl) rfl rfl rfl (by decide) (q_vret rfl rfl ?_))))
      have hI_21 := iw_41_7 (v := c 41 7 + 1) hI_16 ⟨by first | exact rgp_l h_1.1 (by decide) | omega, by first | exact q_d93b4b86d hq0 | omega⟩
      have kn_22 : Hid (c_15 41 4 = c 41 4) := hF_17 41 4 (fun q => q.elim (fun h => absurd h.2 (ni rfl)) (fun h => absurd h.2 (ni rfl)))
      have h_23 : (up c_15 41 7 (c 41 7 + 1)) 41 4 = c 41 4 := ((up_n (by decide)).trans (hid kn_22))
      have h_24 : (up c_15 41 7 (c 41 7 + 1)) 41 5 = c_15 41 5 := (up_n (by decide))
      have h_25 : (up c_15 41 7 (c 41 7 + 1)) 41 7 = c 41 7 + 1 := (up_e rfl)
      exact K (up c_15 41 7 (c 41 7 + 1)) hI_21 (fun a j hm => (up_b (Decidable.or_iff_not_imp_left.mpr (fun h1 h2 => hm (Or.inr (Or.inr (Or.inr ⟨Decidable.not_not.mp h1, h2⟩)))))).trans (hF_17 a j (qv_8e058f158 hm))) (by first | exact q_e074ea49a | omega) (by first | assumption | omega) (Or.inl (by first | exact q_65c5ff97d h_3 h_4 | omega)) (Or.inr (Or.inl (by first | exact q_a3ee8eff6 h_18 h_19 | omega)))

set_option maxRecDepth 100000 in
set_option maxHeartbeats 4000000 in
theorem s_172 {sc : List Int32} {e : Int} {d u P Q : Nat} {c : ME} {Z : AR → Prop} (hI : Iv u e P Q c)  (K : ∀ (c2 : ME) (y : Int), Iv u e P Q c2 → (∀ (a : Nat) (j : Int), ¬ ((a = 41 ∧ j = 4)) → c2 a j = c a j) → (-1) ≤ y ∧ y ≤ 7 → ((c2 41 4 ≥ c 41 4)) → ((c2 41 4 ≤ c 41 3) ∨ (c2 41 4 = c 41 4)) → ((y < 0) ∨ (c2 41 4 < c 41 3)) → ((y < 0) ∨ (c 43 (c2 41 4) ≥ 97 ∧ c 43 (c2 41 4) ≤ 122)) → Z (.inl (some (vi y)), Wd P Q P P c2, 0, 0)) : Wp sc (d + 9) 172 0 [(0, .ref 41)] [] (Wd P Q P P c) 0 0 Z := by
  have hP := iv_P hI
  have hQ := iv_Q hI
  refine q_aload_n c_172_0 rfl ?_
  have h_1 := ir_41_4 hI
  have h_2 := ir_41_3 hI
  refine v_cv c_172_1 km_8_214 rfl rfl (nb_ rfl) ⟨⟨rfl, rfl⟩, nb_ rfl, rfl⟩ (nb_ rfl) (nb_ rfl) (s_157 hI (fun c_3 y_6 hI_4 hF_5 hy_6 h_7 h_8 h_9 h_10 h_11 => (bk_inl ?_)))
  have h_12 := ir_41_4 hI_4
  have h_13 := ir_43 hI (c_3 41 4)
  have h_14 := ir_43 hI (c_3 41 4 + 1)
  have h_15 := ir_43 hI (c_3 41 4 + 2)
  refine q_istore_n c_172_4 (nb_ rfl) (q_iload_n c_172_5 rfl (q_ldc_s c_172_6 rfl rfl (by decide) (q_call c_172_8 rfl rfl rfl (s_158_22 (bk_inl ?_)))))
  by_cases h_16 : y_6 ≠ 206277
  · refine v_ic_ne_t (t := 18) c_172_11 rfl ⟨h_16, ⟨hy_6.1, hy_6.2⟩, by decide, by decide⟩ (q_iload_n c_172_18 rfl (q_ldc_s c_172_19 rfl rfl (by decide) (q_call c_172_21 rfl rfl rfl (s_158_23 (bk_inl ?_)))))
    by_cases h_17 : y_6 ≠ 13604
    · refine v_ic_ne_t (t := 31) c_172_24 rfl ⟨h_17, ⟨hy_6.1, hy_6.2⟩, by decide, by decide⟩ (q_iload_n c_172_31 rfl (q_ldc_w_s c_172_32 rfl rfl (by decide) (q_call c_172_35 rfl rfl rfl (s_158_24 (bk_inl ?_)))))
      by_cases h_18 : y_6 ≠ 116443749
      · refine v_ic_ne_t (t := 45) c_172_38 rfl ⟨h_18, ⟨hy_6.1, hy_6.2⟩, by decide, by decide⟩ (q_iload_n c_172_45 rfl (q_ldc_w_s c_172_46 rfl rfl (by decide) (q_call c_172_49 rfl rfl rfl (s_158_25 (bk_inl ?_)))))
        by_cases h_19 : y_6 ≠ 284267
        · refine v_ic_ne_t (t := 59) c_172_52 rfl ⟨h_19, ⟨hy_6.1, hy_6.2⟩, by decide, by decide⟩ (q_iload_n c_172_59 rfl (q_ldc_w_s c_172_60 rfl rfl (by decide) (q_call c_172_63 rfl rfl rfl (s_158_26 (bk_inl ?_)))))
          by_cases h_20 : y_6 ≠ 1420
          · refine v_ic_ne_t (t := 73) c_172_66 rfl ⟨h_20, ⟨hy_6.1, hy_6.2⟩, by decide, by decide⟩ (q_iload_n c_172_73 rfl (q_ldc_w_s c_172_74 rfl rfl (by decide) (q_call c_172_77 rfl rfl rfl (s_158_27 (bk_inl ?_)))))
            by_cases h_21 : y_6 ≠ 1253
            · refine v_ic_ne_t (t := 87) c_172_80 rfl ⟨h_21, ⟨hy_6.1, hy_6.2⟩, by decide, by decide⟩ (q_iload_n c_172_87 rfl (q_ldc_w_s c_172_88 rfl rfl (by decide) (q_call c_172_91 rfl rfl rfl (s_158_28 (bk_inl ?_)))))
              by_cases h_22 : y_6 ≠ 4153
              · refine v_ic_ne_t (t := 102) c_172_94 rfl ⟨h_22, ⟨hy_6.1, hy_6.2⟩, by decide, by decide⟩ (q_iload_n c_172_102 rfl (q_ldc_s c_172_103 rfl rfl (by decide) (q_call c_172_105 rfl rfl rfl (s_158_16 (bk_inl ?_)))))
                by_cases h_23 : y_6 ≠ 10290
                · refine v_ic_ne_t (t := 116) c_172_108 rfl ⟨h_23, ⟨hy_6.1, hy_6.2⟩, by decide, by decide⟩ (q_iconst c_172_116 (q_iret c_172_117 rfl ?_))
                  have h_24 : c 43 ((c_3 41 4)) = c 43 (c_3 41 4) := congrArg (c 43) (by first | exact q_ef0f4cfe4 | assumption | exact Int.le_antisymm (by omega) (by omega))
                  exact K c_3 (-1) hI_4 (fun a j hm => hF_5 a j hm) ⟨by decide, by decide⟩ (by first | exact q_a2ce855bf h_7 | omega) (by omega) (Or.inl (by first | decide | omega)) (Or.inl (by first | decide | omega))
                · refine v_ic_ne_f (t := 116) c_172_108 rfl (Decidable.not_not.mp h_23) (v_bip c_172_111 (by decide) (q_goto (t := 117) c_172_113 rfl (q_iret c_172_117 rfl ?_)))
                  have h_25 : c 43 ((c_3 41 4)) = c 43 (c_3 41 4) := congrArg (c 43) (by first | exact q_ef0f4cfe4 | assumption | exact Int.le_antisymm (by omega) (by omega))
                  exact K c_3 7 hI_4 (fun a j hm => hF_5 a j hm) ⟨by decide, by decide⟩ (by first | exact q_a2ce855bf h_7 | omega) (Or.inl (by first | exact q_5c057ca89 h_23 h_9 | omega)) (Or.inr (by first | exact q_203aa9da5 h_23 h_9 | omega)) (Or.inr ⟨by first | exact q_3042ac70b h_10 h_23 | omega, by first | exact q_6bdace0c3 h_10 h_23 | omega⟩)
              · refine v_ic_ne_f (t := 102) c_172_94 rfl (Decidable.not_not.mp h_22) (v_bip c_172_97 (by decide) (q_goto (t := 117) c_172_99 rfl (q_iret c_172_117 rfl ?_)))
                have h_26 : c 43 ((c_3 41 4)) = c 43 (c_3 41 4) := congrArg (c 43) (by first | exact q_ef0f4cfe4 | assumption | exact Int.le_antisymm (by omega) (by omega))
                exact K c_3 6 hI_4 (fun a j hm => hF_5 a j hm) ⟨by decide, by decide⟩ (by first | exact q_a2ce855bf h_7 | omega) (Or.inl (by first | exact q_6f6ed5c48 h_22 h_9 | omega)) (Or.inr (by first | exact q_7524d8b1c h_22 h_9 | omega)) (Or.inr ⟨by first | exact q_fdcd0129e h_10 h_22 | omega, by first | exact q_2c5702d5a h_10 h_22 | omega⟩)
            · refine v_ic_ne_f (t := 87) c_172_80 rfl (Decidable.not_not.mp h_21) (q_iconst c_172_83 (q_goto (t := 117) c_172_84 rfl (q_iret c_172_117 rfl ?_)))
              have h_27 : c 43 ((c_3 41 4)) = c 43 (c_3 41 4) := congrArg (c 43) (by first | exact q_ef0f4cfe4 | assumption | exact Int.le_antisymm (by omega) (by omega))
              exact K c_3 5 hI_4 (fun a j hm => hF_5 a j hm) ⟨by decide, by decide⟩ (by first | exact q_a2ce855bf h_7 | omega) (Or.inl (by first | exact q_91ec420c0 h_21 h_9 | omega)) (Or.inr (by first | exact q_c75f3e236 h_21 h_9 | omega)) (Or.inr ⟨by first | exact q_99a21464f h_10 h_21 | omega, by first | exact q_f59d7a0ad h_10 h_21 | omega⟩)
          · refine v_ic_ne_f (t := 73) c_172_66 rfl (Decidable.not_not.mp h_20) (q_iconst c_172_69 (q_goto (t := 117) c_172_70 rfl (q_iret c_172_117 rfl ?_)))
            have h_28 : c 43 ((c_3 41 4)) = c 43 (c_3 41 4) := congrArg (c 43) (by first | exact q_ef0f4cfe4 | assumption | exact Int.le_antisymm (by omega) (by omega))
            exact K c_3 4 hI_4 (fun a j hm => hF_5 a j hm) ⟨by decide, by decide⟩ (by first | exact q_a2ce855bf h_7 | omega) (Or.inl (by first | exact q_fd33fc64e h_20 h_9 | omega)) (Or.inr (by first | exact q_b5c5a7aec h_20 h_9 | omega)) (Or.inr ⟨by first | exact q_4507e9cbf h_10 h_20 | omega, by first | exact q_b91fc2c33 h_10 h_20 | omega⟩)
        · refine v_ic_ne_f (t := 59) c_172_52 rfl (Decidable.not_not.mp h_19) (q_iconst c_172_55 (q_goto (t := 117) c_172_56 rfl (q_iret c_172_117 rfl ?_)))
          have h_29 : c 43 ((c_3 41 4)) = c 43 (c_3 41 4) := congrArg (c 43) (by first | exact q_ef0f4cfe4 | assumption | exact Int.le_antisymm (by omega) (by omega))
          exact K c_3 3 hI_4 (fun a j hm => hF_5 a j hm) ⟨by decide, by decide⟩ (by first | exact q_a2ce855bf h_7 | omega) (Or.inl (by first | exact q_914186d62 h_19 h_9 | omega)) (Or.inr (by first | exact q_2aafd4642 h_19 h_9 | omega)) (Or.inr ⟨by first | exact q_16044769b h_10 h_19 | omega, by first | exact q_aeeaf479c h_10 h_19 | omega⟩)
      · refine v_ic_ne_f (t := 45) c_172_38 rfl (Decidable.not_not.mp h_18) (q_iconst c_172_41 (q_goto (t := 117) c_172_42 rfl (q_iret c_172_117 rfl ?_)))
        have h_30 : c 43 ((c_3 41 4)) = c 43 (c_3 41 4) := congrArg (c 43) (by first | exact q_ef0f4cfe4 | assumption | exact Int.le_antisymm (by omega) (by omega))
        exact K c_3 2 hI_4 (fun a j hm => hF_5 a j hm) ⟨by decide, by decide⟩ (by first | exact q_a2ce855bf h_7 | omega) (Or.inl (by first | exact q_f38c05a73 h_18 h_9 | omega)) (Or.inr (by first | exact q_fb6900f31 h_18 h_9 | omega)) (Or.inr ⟨by first | exact q_1d1877f22 h_10 h_18 | omega, by first | exact q_8a1d43d40 h_10 h_18 | omega⟩)
    · refine v_ic_ne_f (t := 31) c_172_24 rfl (Decidable.not_not.mp h_17) (q_iconst c_172_27 (q_goto (t := 117) c_172_28 rfl (q_iret c_172_117 rfl ?_)))
      have h_31 : c 43 ((c_3 41 4)) = c 43 (c_3 41 4) := congrArg (c 43) (by first | exact q_ef0f4cfe4 | assumption | exact Int.le_antisymm (by omega) (by omega))
      exact K c_3 1 hI_4 (fun a j hm => hF_5 a j hm) ⟨by decide, by decide⟩ (by first | exact q_a2ce855bf h_7 | omega) (Or.inl (by first | exact q_fa3e54dd0 h_17 h_9 | omega)) (Or.inr (by first | exact q_7ebac47cc h_17 h_9 | omega)) (Or.inr ⟨by first | exact q_9cb28aaa9 h_10 h_17 | omega, by first | exact q_1c6d0c785 h_10 h_17 | omega⟩)
  · refine v_ic_ne_f (t := 18) c_172_11 rfl (Decidable.not_not.mp h_16) (q_iconst c_172_14 (q_goto (t := 117) c_172_15 rfl (q_iret c_172_117 rfl ?_)))
    have h_32 : c 43 ((c_3 41 4)) = c 43 (c_3 41 4) := congrArg (c 43) (by first | exact q_ef0f4cfe4 | assumption | exact Int.le_antisymm (by omega) (by omega))
    exact K c_3 0 hI_4 (fun a j hm => hF_5 a j hm) ⟨by decide, by decide⟩ (by first | exact q_a2ce855bf h_7 | omega) (Or.inl (by first | exact q_8717197ce h_16 h_9 | omega)) (Or.inr (by first | exact q_0a8257a80 h_16 h_9 | omega)) (Or.inr ⟨by first | exact q_a19c85173 h_10 h_16 | omega, by first | exact q_3876dfec8 h_10 h_16 | omega⟩)
end
section
/-! ===== contracts 13 ===== -/
theorem q_6d7d7611f {x0 : Int} (f0 : (-1) ≤ x0 ∧ x0 ≤ 605) (f1 : (x0 < (-1)) ∨ (x0 > (-1))) : ¬ x0 = (-1) := by omega
theorem q_669679922 {x0 x1 : Int} (f0 : 0 ≤ x0 ∧ x0 ≤ 6) (f1 : (x1 = x0)) : x1 ≤ 6 := by omega
theorem q_f3b097ab5 {x0 x1 : Int} (f0 : (x0 ≤ 150)) (f1 : (x1 ≤ x0 - 1)) : x1 ≤ 600 := by omega
theorem qn_e8a085a5c : ¬ (((41 : Nat) = 41 ∧ (3 : Int) = 4) ∨ ((41 : Nat) = 41 ∧ (3 : Int) = 5) ∨ ((41 : Nat) = 41 ∧ (3 : Int) = 6) ∨ ((41 : Nat) = 41 ∧ (3 : Int) = 7)) := (fun q => q.elim (fun h => absurd h.2 (ni rfl)) (fun q => q.elim (fun h => absurd h.2 (ni rfl)) (fun q => q.elim (fun h => absurd h.2 (ni rfl)) (fun h => absurd h.2 (ni rfl)))))
theorem qn_ae3f17736 : ¬ (((41 : Nat) = 41 ∧ (29 : Int) = 4) ∨ ((41 : Nat) = 41 ∧ (29 : Int) = 5) ∨ ((41 : Nat) = 41 ∧ (29 : Int) = 6) ∨ ((41 : Nat) = 41 ∧ (29 : Int) = 7)) := (fun q => q.elim (fun h => absurd h.2 (ni rfl)) (fun q => q.elim (fun h => absurd h.2 (ni rfl)) (fun q => q.elim (fun h => absurd h.2 (ni rfl)) (fun h => absurd h.2 (ni rfl)))))
theorem qn_56e241d1f : ¬ (((41 : Nat) = 41 ∧ (29 : Int) = 4) ∨ ((41 : Nat) = 41 ∧ (29 : Int) = 5) ∨ ((41 : Nat) = 41 ∧ (29 : Int) = 6)) := (fun q => q.elim (fun h => absurd h.2 (ni rfl)) (fun q => q.elim (fun h => absurd h.2 (ni rfl)) (fun h => absurd h.2 (ni rfl))))
theorem qn_fb1117a24 : ¬ (((41 : Nat) = 41 ∧ (7 : Int) = 4) ∨ ((41 : Nat) = 41 ∧ (7 : Int) = 5) ∨ ((41 : Nat) = 41 ∧ (7 : Int) = 6)) := (fun q => q.elim (fun h => absurd h.2 (ni rfl)) (fun q => q.elim (fun h => absurd h.2 (ni rfl)) (fun h => absurd h.2 (ni rfl))))
theorem qn_a830d9710 {j : Int} : ¬ (((50 : Nat) = 41 ∧ j = 4) ∨ ((50 : Nat) = 41 ∧ j = 5) ∨ ((50 : Nat) = 41 ∧ j = 6)) := (fun q => q.elim (fun h => absurd h.1 (nn rfl)) (fun q => q.elim (fun h => absurd h.1 (nn rfl)) (fun h => absurd h.1 (nn rfl))))
theorem qn_6ba3ccab5 {j : Int} : ¬ (((50 : Nat) = 41 ∧ j = 4) ∨ ((50 : Nat) = 41 ∧ j = 5) ∨ ((50 : Nat) = 41 ∧ j = 6) ∨ ((50 : Nat) = 41 ∧ j = 7)) := (fun q => q.elim (fun h => absurd h.1 (nn rfl)) (fun q => q.elim (fun h => absurd h.1 (nn rfl)) (fun q => q.elim (fun h => absurd h.1 (nn rfl)) (fun h => absurd h.1 (nn rfl)))))
theorem qn_b10baaf0c {j : Int} : ¬ (((51 : Nat) = 41 ∧ j = 4) ∨ ((51 : Nat) = 41 ∧ j = 5) ∨ ((51 : Nat) = 41 ∧ j = 6)) := (fun q => q.elim (fun h => absurd h.1 (nn rfl)) (fun q => q.elim (fun h => absurd h.1 (nn rfl)) (fun h => absurd h.1 (nn rfl))))
theorem qn_a6960f5c9 {j : Int} : ¬ (((51 : Nat) = 41 ∧ j = 4) ∨ ((51 : Nat) = 41 ∧ j = 5) ∨ ((51 : Nat) = 41 ∧ j = 6) ∨ ((51 : Nat) = 41 ∧ j = 7)) := (fun q => q.elim (fun h => absurd h.1 (nn rfl)) (fun q => q.elim (fun h => absurd h.1 (nn rfl)) (fun q => q.elim (fun h => absurd h.1 (nn rfl)) (fun h => absurd h.1 (nn rfl)))))
theorem q_7024b37ce {x0 : Int} (f0 : (x0 ≤ 150)) : x0 ≤ 150 := by omega
theorem q_74b75ddac {x0 x1 x2 x3 : Int} (f0 : (x0 ≥ x1)) (f1 : (x1 ≥ x2)) (f2 : (x3 ≤ x2)) : x3 ≤ x0 := by omega
theorem qn_d31ba9b5e : ¬ (((41 : Nat) = 41 ∧ (3 : Int) = 4) ∨ ((41 : Nat) = 41 ∧ (3 : Int) = 5) ∨ ((41 : Nat) = 41 ∧ (3 : Int) = 6) ∨ ((41 : Nat) = 41 ∧ (3 : Int) = 7) ∨ ((41 : Nat) = 41 ∧ (3 : Int) = 29) ∨ (41 : Nat) = 50 ∨ (41 : Nat) = 51) := (fun q => q.elim (fun h => absurd h.2 (ni rfl)) (fun q => q.elim (fun h => absurd h.2 (ni rfl)) (fun q => q.elim (fun h => absurd h.2 (ni rfl)) (fun q => q.elim (fun h => absurd h.2 (ni rfl)) (fun q => q.elim (fun h => absurd h.2 (ni rfl)) (fun q => q.elim (fun h => absurd h (nn rfl)) (fun h => absurd h (nn rfl))))))))
theorem q_1d7484626 {x0 x1 x2 x3 x4 x5 x6 x7 : Int} (f0 : (x0 ≥ x1)) (f1 : (x0 + x2 ≤ x3 + x4)) (f2 : (x5 ≥ x4)) (f3 : (x1 ≥ x6)) (f4 : (x7 ≤ x6)) (f5 : x3 = x7) : x2 ≤ x5 := by omega
theorem q_a488cbdaf {x0 x1 x2 x3 x4 x5 : Int} (f0 : (x0 = x1 + 1)) (f1 : (x2 = x3)) (f2 : 0 ≤ x1 ∧ x1 ≤ 7) (f3 : (x4 = x5)) (f4 : x3 = x0) (f5 : x5 = x2) : 0 ≤ x4 - 1 := by omega
theorem q_db5d28903 {x0 : Int} (f0 : 6 ≤ x0 ∧ x0 ≤ 7) : ¬ x0 = 1 := by omega
theorem qn_fcc0aaabe : ¬ (((41 : Nat) = 41 ∧ (4 : Int) = 29) ∨ (41 : Nat) = 50 ∨ (41 : Nat) = 51) := (fun q => q.elim (fun h => absurd h.2 (ni rfl)) (fun q => q.elim (fun h => absurd h (nn rfl)) (fun h => absurd h (nn rfl))))
theorem qn_c65a44569 : ¬ (((41 : Nat) = 41 ∧ (5 : Int) = 29) ∨ (41 : Nat) = 50 ∨ (41 : Nat) = 51) := (fun q => q.elim (fun h => absurd h.2 (ni rfl)) (fun q => q.elim (fun h => absurd h (nn rfl)) (fun h => absurd h (nn rfl))))
theorem qn_5700af53f : ¬ (((41 : Nat) = 41 ∧ (7 : Int) = 29) ∨ (41 : Nat) = 50 ∨ (41 : Nat) = 51) := (fun q => q.elim (fun h => absurd h.2 (ni rfl)) (fun q => q.elim (fun h => absurd h (nn rfl)) (fun h => absurd h (nn rfl))))
theorem qv_d7b4eb562 {a : Nat} {j : Int} (hm : ¬ ((a = 41 ∧ j = 4) ∨ (a = 41 ∧ j = 5) ∨ (a = 41 ∧ j = 6) ∨ (a = 41 ∧ j = 7) ∨ (a = 41 ∧ j = 29) ∨ a = 50 ∨ a = 51)) : ¬ ((a = 41 ∧ j = 29) ∨ a = 50 ∨ a = 51) := (fun q => q.elim (fun h => hm (Or.inr (Or.inr (Or.inr (Or.inr (Or.inl h)))))) (fun q => q.elim (fun h => hm (Or.inr (Or.inr (Or.inr (Or.inr (Or.inr (Or.inl h))))))) (fun h => hm (Or.inr (Or.inr (Or.inr (Or.inr (Or.inr (Or.inr h)))))))))
theorem qv_79b37c5f3 {a : Nat} {j : Int} (hm : ¬ ((a = 41 ∧ j = 4) ∨ (a = 41 ∧ j = 5) ∨ (a = 41 ∧ j = 6) ∨ (a = 41 ∧ j = 7) ∨ (a = 41 ∧ j = 29) ∨ a = 50 ∨ a = 51)) : ¬ ((a = 41 ∧ j = 4) ∨ (a = 41 ∧ j = 5) ∨ (a = 41 ∧ j = 6)) := (fun q => q.elim (fun h => hm (Or.inl h)) (fun q => q.elim (fun h => hm (Or.inr (Or.inl h))) (fun h => hm (Or.inr (Or.inr (Or.inl h))))))
theorem qv_d0add4e0b {a : Nat} {j : Int} (hm : ¬ ((a = 41 ∧ j = 4) ∨ (a = 41 ∧ j = 5) ∨ (a = 41 ∧ j = 6) ∨ (a = 41 ∧ j = 7) ∨ (a = 41 ∧ j = 29) ∨ a = 50 ∨ a = 51)) : ¬ ((a = 41 ∧ j = 4) ∨ (a = 41 ∧ j = 5) ∨ (a = 41 ∧ j = 6) ∨ (a = 41 ∧ j = 7)) := (fun q => q.elim (fun h => hm (Or.inl h)) (fun q => q.elim (fun h => hm (Or.inr (Or.inl h))) (fun q => q.elim (fun h => hm (Or.inr (Or.inr (Or.inl h)))) (fun h => hm (Or.inr (Or.inr (Or.inr (Or.inl h))))))))
theorem q_796198873 {x0 x1 x2 x3 x4 x5 x6 : Int} (f0 : (x0 ≥ x1)) (f1 : (x2 ≥ x0)) (f2 : (x3 ≥ x2)) (f3 : (x4 ≥ x3)) (f4 : (x5 ≥ x4)) (f5 : (x1 ≥ x6)) : x6 ≤ x5 := by omega
theorem q_0c164124e {x0 x1 x2 x3 x4 x5 : Int} (f0 : (x0 = x1 + 1)) (f1 : (x2 = x3)) (f2 : (x4 = x5)) (f3 : x3 = x0) (f4 : x5 = x2) : x4 - 1 = x1 := by omega
theorem q_15f2fbd29 {x0 x1 x2 x3 : Int} (f0 : (x0 = x1 + 1)) (f1 : (x2 = x3)) (f2 : 0 ≤ x1 ∧ x1 ≤ 7) (f3 : x3 = x0) : 0 ≤ x2 - 1 := by omega
theorem q_10c60cb60 {x0 x1 x2 x3 x4 x5 : Int} (f0 : (x0 ≥ x1)) (f1 : (x2 ≥ x3)) (f2 : (x4 ≥ x2)) (f3 : (x1 ≥ x4)) (f4 : (x3 ≥ x5)) : x5 ≤ x0 := by omega
theorem q_c30709b32 {x0 x1 x2 x3 : Int} (f0 : (x0 = x1 + 1)) (f1 : (x2 = x3)) (f2 : x3 = x0) : x2 - 1 = x1 := by omega
theorem q_3a97aaad7 {x0 x1 : Int} (f0 : (x0 = x1 + 1)) (f1 : 0 ≤ x1 ∧ x1 ≤ 7) : 0 ≤ x0 - 1 := by omega
theorem q_9bdbff860 {x0 x1 x2 x3 x4 : Int} (f0 : (x0 ≥ x1)) (f1 : (x2 ≥ x0)) (f2 : (x1 ≥ x3)) (f3 : (x3 ≥ x4)) : x4 ≤ x2 := by omega
theorem q_65aaae687 {x0 x1 : Int} (f0 : (x0 = x1 + 1)) : x0 - 1 = x1 := by omega
theorem c_176_0 : mLk 176 0 = some (.aload_n 0, 1) := rfl
theorem c_176_1 : mLk 176 1 = some (.invokevirtual 131, 3) := rfl
theorem c_176_4 : mLk 176 4 = some (.ifCond .ne 4, 3) := rfl
theorem c_173_0 : mLk 173 0 = some (.aload_n 0, 1) := rfl
theorem c_173_1 : mLk 173 1 = some (.invokevirtual 245, 3) := rfl
theorem c_173_4 : mLk 173 4 = some (.aload_n 0, 1) := rfl
theorem c_173_5 : mLk 173 5 = some (.invokevirtual 131, 3) := rfl
theorem c_173_8 : mLk 173 8 = some (.ifCond .eq 82, 3) := rfl
theorem c_174_0 : mLk 174 0 = some (.aload_n 0, 1) := rfl
theorem c_174_1 : mLk 174 1 = some (.invokevirtual 239, 3) := rfl
theorem c_174_4 : mLk 174 4 = some (.aload_n 0, 1) := rfl
theorem c_174_5 : mLk 174 5 = some (.invokevirtual 131, 3) := rfl
theorem c_174_8 : mLk 174 8 = some (.ifCond .eq 59, 3) := rfl
theorem c_175_0 : mLk 175 0 = some (.aload_n 0, 1) := rfl
theorem c_175_1 : mLk 175 1 = some (.iload_n 1, 1) := rfl
theorem c_175_2 : mLk 175 2 = some (.invokevirtual 248, 3) := rfl
theorem c_175_5 : mLk 175 5 = some (.aload_n 0, 1) := rfl
theorem c_175_6 : mLk 175 6 = some (.bipush 91, 2) := rfl
theorem c_175_8 : mLk 175 8 = some (.invokevirtual 229, 3) := rfl
theorem c_175_11 : mLk 175 11 = some (.aload_n 0, 1) := rfl
theorem c_175_12 : mLk 175 12 = some (.invokevirtual 251, 3) := rfl
theorem c_175_15 : mLk 175 15 = some (.aload_n 0, 1) := rfl
theorem c_175_16 : mLk 175 16 = some (.bipush 44, 2) := rfl
theorem c_175_18 : mLk 175 18 = some (.invokevirtual 229, 3) := rfl
theorem c_175_21 : mLk 175 21 = some (.aload_n 0, 1) := rfl
theorem c_175_22 : mLk 175 22 = some (.invokevirtual 251, 3) := rfl
theorem c_175_25 : mLk 175 25 = some (.aload_n 0, 1) := rfl
theorem c_175_26 : mLk 175 26 = some (.bipush 93, 2) := rfl
theorem c_175_28 : mLk 175 28 = some (.invokevirtual 229, 3) := rfl
theorem c_175_31 : mLk 175 31 = some (.aload_n 0, 1) := rfl
theorem c_175_32 : mLk 175 32 = some (.dup, 1) := rfl
theorem c_175_33 : mLk 175 33 = some (.getfield 142, 3) := rfl
theorem c_175_36 : mLk 175 36 = some (.iconst 1, 1) := rfl
theorem c_175_37 : mLk 175 37 = some (.isub, 1) := rfl
theorem c_175_38 : mLk 175 38 = some (.putfield 142, 3) := rfl
theorem c_175_41 : mLk 175 41 = some (.aload_n 0, 1) := rfl
theorem c_175_42 : mLk 175 42 = some (.iload_n 2, 1) := rfl
theorem c_175_43 : mLk 175 43 = some (.iconst 0, 1) := rfl
theorem c_175_44 : mLk 175 44 = some (.invokevirtual 242, 3) := rfl
theorem km_8_239 : a_lk (kM 8) 239 = some (0, 173) := rfl
theorem km_8_242 : a_lk (kM 8) 242 = some (0, 170) := rfl
theorem km_8_245 : a_lk (kM 8) 245 = some (0, 176) := rfl
theorem km_8_248 : a_lk (kM 8) 248 = some (0, 171) := rfl
theorem km_8_251 : a_lk (kM 8) 251 = some (0, 174) := rfl
theorem hgt_nn {f g : Int → Int} {n : Int} (h : Hw f g n) : ∀ m : Nat, (m : Int) ≤ n → 0 ≤ hgt f m
  | 0, _ => Int.le_refl 0
  | m + 1, hm => by
    have ih := hgt_nn h m (by omega)
    have h1 := (h m (by omega)).1
    show 0 ≤ (if f m ≤ 1 then hgt f m + 1 else hgt f m - 1)
    split
    · omega
    · have h2 := h1 (by omega)
      omega
theorem nw_nn {c : ME} (h : Nw c) (h0 : 0 ≤ c 41 29) : 0 ≤ Nh c := hgt_nn h _ (by omega)
set_option maxRecDepth 100000 in
set_option maxHeartbeats 4000000 in
theorem n_176 {sc : List Int32} {e : Int} {d u P Q : Nat} {c : ME} {Z : AR → Prop} (hI : Iv u e P Q c) (hq0 : (c 41 5 < (-1)) ∨ (c 41 5 > (-1))) (K : Z (.inl (none), Wd P Q P P c, 0, 0)) : Wp sc (d + 8) 176 0 [(0, .ref 41)] [] (Wd P Q P P c) 0 0 Z := by
  have hP := iv_P hI
  have hQ := iv_Q hI
  have h_1 := ir_41_5 hI
  refine q_aload_n c_176_0 rfl (v_cv c_176_1 km_8_131 rfl rfl (nb_ rfl) ⟨⟨rfl, rfl⟩, nb_ rfl, rfl⟩ (nb_ rfl) (nb_ rfl) (q_aload_n c_152_0 rfl (v_gi (z := 5) (v := c 41 5) c_152_1 kf_8_102 rfl (nb_ rfl) rfl rfl rfl (q_iconst c_152_4 (v_ic_ne_t (t := 12) c_152_5 rfl ⟨by first | exact q_6d7d7611f h_1 hq0 | omega, ⟨(Int.le_trans (by decide) h_1.1), (Int.le_trans h_1.2 (by decide))⟩, by decide, by decide⟩ (q_iconst c_152_12 (v_zret c_152_13 rfl (by decide) ?_)))))))
  refine bk_inl (v_if_ne_f (t := 8) c_176_4 rfl (by decide) (q_vret rfl rfl ?_))
  exact K
set_option maxRecDepth 100000 in
set_option maxHeartbeats 4000000 in
theorem n_173 {sc : List Int32} {e : Int} {d u P Q : Nat} {c : ME} {Z : AR → Prop} (hI : Iv u e P Q c) (hq0 : (c 41 5 < (-1)) ∨ (c 41 5 > (-1))) (K : Z (.inl (none), Wd P Q P P c, 0, 0)) : Wp sc (d + 10) 173 0 [(0, .ref 41)] [] (Wd P Q P P c) 0 0 Z := by
  have hP := iv_P hI
  have hQ := iv_Q hI
  have h_1 := ir_41_5 hI
  refine q_aload_n c_173_0 rfl ?_
  have h_2 : ¬ c 41 5 = -1 := by rw [show c 41 5 = c 41 5 from rfl]; omega
  refine v_cv c_173_1 km_8_245 rfl rfl (nb_ rfl) ⟨⟨rfl, rfl⟩, nb_ rfl, rfl⟩ (nb_ rfl) (nb_ rfl) (n_176 hI (by omega) (bk_inl (q_aload_n c_173_4 rfl (v_cv c_173_5 km_8_131 rfl rfl (nb_ rfl) ⟨⟨rfl, rfl⟩, nb_ rfl, rfl⟩ (nb_ rfl) (nb_ rfl) (q_aload_n c_152_0 rfl (v_gi (z := 5) (v := c 41 5) c_152_1 kf_8_102 rfl (nb_ rfl) rfl rfl rfl (q_iconst c_152_4 (v_ic_ne_t (t := 12) c_152_5 rfl ⟨by first | exact q_6d7d7611f h_1 hq0 | omega, ⟨(Int.le_trans (by decide) h_1.1), (Int.le_trans h_1.2 (by decide))⟩, by decide, by decide⟩ ?_))))))))
  refine q_iconst c_152_12 (v_zret c_152_13 rfl (by decide) (bk_inl (v_if_eq_t (t := 90) c_173_8 rfl (by decide) (q_vret rfl rfl ?_))))
  exact K
set_option maxRecDepth 100000 in
set_option maxHeartbeats 4000000 in
theorem n_174 {sc : List Int32} {e : Int} {d u P Q : Nat} {c : ME} {Z : AR → Prop} (hI : Iv u e P Q c) (hq0 : (c 41 5 < (-1)) ∨ (c 41 5 > (-1))) (K : Z (.inl (none), Wd P Q P P c, 0, 0)) : Wp sc (d + 12) 174 0 [(0, .ref 41)] [] (Wd P Q P P c) 0 0 Z := by
  have hP := iv_P hI
  have hQ := iv_Q hI
  have h_1 := ir_41_5 hI
  refine q_aload_n c_174_0 rfl ?_
  have h_2 : ¬ c 41 5 = -1 := by rw [show c 41 5 = c 41 5 from rfl]; omega
  refine v_cv c_174_1 km_8_239 rfl rfl (nb_ rfl) ⟨⟨rfl, rfl⟩, nb_ rfl, rfl⟩ (nb_ rfl) (nb_ rfl) (n_173 hI (by omega) (bk_inl (q_aload_n c_174_4 rfl (v_cv c_174_5 km_8_131 rfl rfl (nb_ rfl) ⟨⟨rfl, rfl⟩, nb_ rfl, rfl⟩ (nb_ rfl) (nb_ rfl) (q_aload_n c_152_0 rfl (v_gi (z := 5) (v := c 41 5) c_152_1 kf_8_102 rfl (nb_ rfl) rfl rfl rfl (q_iconst c_152_4 (v_ic_ne_t (t := 12) c_152_5 rfl ⟨by first | exact q_6d7d7611f h_1 hq0 | omega, ⟨(Int.le_trans (by decide) h_1.1), (Int.le_trans h_1.2 (by decide))⟩, by decide, by decide⟩ ?_))))))))
  refine q_iconst c_152_12 (v_zret c_152_13 rfl (by decide) (bk_inl (v_if_eq_t (t := 67) c_174_8 rfl (by decide) (q_vret rfl rfl ?_))))
  exact K
set_option maxRecDepth 100000 in
set_option maxHeartbeats 4000000 in
theorem s_175 {sc : List Int32} {e : Int} {d u P Q : Nat} {c : ME} {a1 : Int} {a2 : Int} {o : Int} {Z : AR → Prop} (hI : Iv u e P Q c) (ha1 : 4 ≤ a1 ∧ a1 ≤ 5) (ha2 : 6 ≤ a2 ∧ a2 ≤ 7) (ho : 0 ≤ o ∧ o ≤ 6) (hW : Nw c) (hq0 : (c 41 5 = (-1))) (hq1 : (c 41 4 ≤ c 41 3)) (hq2 : (c 41 3 ≤ 150)) (hq3 : (c 41 29 ≤ c 41 4)) (hq4 : (c 41 7 = o)) (hq5 : (c 41 4 ≤ c 41 3 - 1)) (H174 : ∀ (d9 : Nat) (c : ME) (Z : AR → Prop), d ≤ d9 → o + 1 ≤ 6 → Iv u e P Q c → Nw c → ((c 41 5 = (-1))) → ((c 41 4 ≤ c 41 3)) → ((c 41 3 ≤ 150)) → ((c 41 29 ≤ c 41 4)) → (c 41 7 = o + 1) → (∀ c2 : ME, Iv u e P Q c2 → (∀ (a : Nat) (j : Int), ¬ ((a = 41 ∧ j = 4) ∨ (a = 41 ∧ j = 5) ∨ (a = 41 ∧ j = 6) ∨ (a = 41 ∧ j = 7) ∨ (a = 41 ∧ j = 29) ∨ a = 50 ∨ a = 51) → c2 a j = c a j) → Nw c2 → ((c2 41 4 ≥ c 41 4)) → ((c2 41 7 = c 41 7)) → ((c 41 4 + c2 41 29 ≤ c 41 29 + c2 41 4)) → ((c2 41 5 < (-1)) ∨ (c2 41 5 > (-1)) ∨ (c2 41 4 ≤ c 41 3)) → ((c2 41 5 < (-1)) ∨ (c2 41 5 > (-1)) ∨ (Nh c2 = Nh c + 1)) → Z (.inl none, Wd P Q P P c2, 0, 0)) → Wp sc (d9 + 12) 174 0 [(0, .ref 41)] [] (Wd P Q P P c) 0 0 Z) (K : ∀ (c2 : ME), Iv u e P Q c2 → (∀ (a : Nat) (j : Int), ¬ ((a = 41 ∧ j = 4) ∨ (a = 41 ∧ j = 5) ∨ (a = 41 ∧ j = 6) ∨ (a = 41 ∧ j = 7) ∨ (a = 41 ∧ j = 29) ∨ a = 50 ∨ a = 51) → c2 a j = c a j) → Nw c2 → ((c2 41 4 ≥ c 41 4)) → ((c2 41 7 = c 41 7)) → ((c 41 4 + c2 41 29 ≤ c 41 29 + c2 41 4)) → ((c2 41 5 < (-1)) ∨ (c2 41 5 > (-1)) ∨ (c2 41 4 ≤ c 41 3)) → ((c2 41 5 < (-1)) ∨ (c2 41 5 > (-1)) ∨ (Nh c2 = Nh c + 1)) → Z (.inl (none), Wd P Q P P c2, 0, 0)) : Wp sc (d + 13) 175 0 [(0, .ref 41), (1, vi a1), (2, vi a2)] [] (Wd P Q P P c) 0 0 Z := by
  have hP := iv_P hI
  have hQ := iv_Q hI
  have h_1 := ir_41_5 hI
  have h_2 := ir_41_3 hI
  have h_3 := ir_41_4 hI
  have h_4 := ir_41_29 hI
  have h_5 := ir_41_7 hI
  have hnn := nw_nn hW (ir_41_29 hI).1
  refine q_aload_n c_175_0 rfl (q_iload_n c_175_1 rfl (v_cv c_175_2 km_8_248 rfl rfl (nb_ rfl) ⟨⟨rfl, rfl⟩, nb_ rfl, rfl⟩ (nb_ rfl) (nb_ rfl) (s_171 (a1 := a1) hI (show 1 ≤ a1 ∧ a1 ≤ 5 from ⟨(Int.le_trans (by decide) ha1.1), ha1.2⟩) (by first | exact q_669679922 ho hq4 | omega) (by first | exact q_f3b097ab5 hq2 hq5 | omega) (fun c_6 hI_7 hF_8 h_9 h_10 h_11 h_12 => (bk_inl ?_)))))
  have h_13 := ir_41_4 hI_7
  have h_14 := ir_41_7 hI_7
  have h_15 := ir_41_5 hI_7
  refine q_aload_n c_175_5 rfl (v_bip c_175_6 (by decide) ?_)
  have kn_16 : Hid (c_6 41 3 = c 41 3) := hF_8 41 3 qn_e8a085a5c
  have h_17 : c_6 41 3 = c 41 3 := (hid kn_16)
  refine v_cv c_175_8 km_8_229 rfl rfl (nb_ rfl) ⟨⟨rfl, rfl⟩, nb_ rfl, rfl⟩ (nb_ rfl) (nb_ rfl) (s_161 (a1 := 91) hI_7 (show 1 ≤ 91 ∧ 91 ≤ 255 from ⟨by decide, by decide⟩) (fun c_18 hI_19 hF_20 h_21 h_22 h_23 h_24 => (bk_inl ?_)))
  have h_25 := ir_41_4 hI_19
  have h_26 := ir_41_5 hI_19
  refine q_aload_n c_175_11 rfl ?_
  by_cases h_27 : c_18 41 5 = -1
  · skip
    have kn_28 : Hid (c_18 41 3 = c 41 3) := (hF_20 41 3 qn_97fd72088).trans (hid kn_16)
    have h_29 : c_18 41 3 = c 41 3 := (hid kn_28)
    have kn_30 : Hid (c_6 41 29 = c 41 29) := hF_8 41 29 qn_ae3f17736
    have kn_31 : Hid (c_18 41 29 = c 41 29) := (hF_20 41 29 qn_56e241d1f).trans (hid kn_30)
    have h_32 : c_18 41 29 = c 41 29 := (hid kn_31)
    have kn_33 : Hid (c_18 41 7 = c_6 41 7) := hF_20 41 7 qn_fb1117a24
    have h_34 : c_18 41 7 = c_6 41 7 := (hid kn_33)
    obtain ⟨hW_35, hN_36⟩ : Nw c_18 ∧ Nh c_18 = Nh c := nh_fr hW (fun j => (hF_20 50 j qn_a830d9710).trans (hF_8 50 j qn_6ba3ccab5)) (fun j => (hF_20 51 j qn_b10baaf0c).trans (hF_8 51 j qn_a6960f5c9)) ((hF_20 41 29 qn_56e241d1f).trans (hF_8 41 29 qn_ae3f17736))
    refine v_cv c_175_12 km_8_251 rfl rfl (nb_ rfl) ⟨⟨rfl, rfl⟩, nb_ rfl, rfl⟩ (nb_ rfl) (nb_ rfl) (H174 _ _ _ (by omega) (by omega) hI_19 hW_35 (by first | (clear ha1 ha2 ho hq0 hq1 hq2 hq3 hq4 hq5 h_1 h_2 h_3 h_4 h_5 hnn h_13 h_9 h_14 h_10 h_15 h_25 h_21 h_11 h_12 h_22 h_23 h_24; omega) | omega) (by first | (clear ha1 ha2 ho hq0 hq1 hq2 hq3 hq4 hq5 h_1 h_2 h_3 h_4 h_5 hnn h_13 h_9 h_14 h_10 h_15 h_25 h_21 h_11 h_12 h_22 h_23; omega) | omega) (by first | exact q_7024b37ce hq2 | omega) (by first | exact q_74b75ddac h_21 h_9 hq3 | omega) (by omega) (fun c_37 hI_38 hF_39 hW_40 h_41 h_42 h_43 h_44 h_45 => (bk_inl ?_)))
    have h_46 := ir_41_4 hI_38
    have h_47 := ir_41_7 hI_38
    have h_48 := ir_41_29 hI_38
    have h_49 := ir_41_5 hI_38
    refine q_aload_n c_175_15 rfl (v_bip c_175_16 (by decide) ?_)
    have kn_50 : Hid (c_37 41 3 = c 41 3) := (hF_39 41 3 qn_d31ba9b5e).trans (hid kn_28)
    have h_51 : c_37 41 3 = c 41 3 := (hid kn_50)
    refine v_cv c_175_18 km_8_229 rfl rfl (nb_ rfl) ⟨⟨rfl, rfl⟩, nb_ rfl, rfl⟩ (nb_ rfl) (nb_ rfl) (s_161 (a1 := 44) hI_38 (show 1 ≤ 44 ∧ 44 ≤ 255 from ⟨by decide, by decide⟩) (fun c_52 hI_53 hF_54 h_55 h_56 h_57 h_58 => (bk_inl ?_)))
    have h_59 := ir_41_4 hI_53
    have h_60 := ir_41_5 hI_53
    refine q_aload_n c_175_21 rfl ?_
    by_cases h_61 : c_52 41 5 = -1
    · skip
      have kn_62 : Hid (c_52 41 3 = c 41 3) := (hF_54 41 3 qn_97fd72088).trans (hid kn_50)
      have h_63 : c_52 41 3 = c 41 3 := (hid kn_62)
      have kn_64 : Hid (c_52 41 29 = c_37 41 29) := hF_54 41 29 qn_56e241d1f
      have h_65 : c_52 41 29 = c_37 41 29 := (hid kn_64)
      have kn_66 : Hid (c_52 41 7 = c_37 41 7) := hF_54 41 7 qn_fb1117a24
      have h_67 : c_52 41 7 = c_37 41 7 := (hid kn_66)
      obtain ⟨hW_68, hN_69⟩ : Nw c_52 ∧ Nh c_52 = Nh c_37 := nh_fr hW_40 (fun j => hF_54 50 j qn_a830d9710) (fun j => hF_54 51 j qn_b10baaf0c) (hF_54 41 29 qn_56e241d1f)
      refine v_cv c_175_22 km_8_251 rfl rfl (nb_ rfl) ⟨⟨rfl, rfl⟩, nb_ rfl, rfl⟩ (nb_ rfl) (nb_ rfl) (H174 _ _ _ (by omega) (by omega) hI_53 hW_68 (by first | (clear ha1 ha2 ho hq0 hq1 hq2 hq3 hq4 hq5 h_1 h_2 h_3 h_4 h_5 hnn h_13 h_9 h_14 h_10 h_15 h_25 h_21 h_26 h_27 h_46 h_41 h_47 h_42 h_48 h_43 h_49 h_59 h_55 h_11 h_12 h_22 h_23 h_24 h_44 h_45 h_56 h_57 h_58; omega) | omega) (by first | (clear ha1 ha2 ho hq0 hq1 hq2 hq3 hq4 hq5 h_1 h_2 h_3 h_4 h_5 hnn h_13 h_9 h_14 h_10 h_15 h_25 h_21 h_26 h_27 h_46 h_41 h_47 h_42 h_48 h_43 h_49 h_59 h_55 h_11 h_12 h_22 h_23 h_24 h_44 h_45 h_56 h_57; omega) | omega) (by first | exact q_7024b37ce hq2 | omega) (by first | exact q_1d7484626 h_21 h_43 h_55 h_9 hq3 h_32 | omega) (by omega) (fun c_70 hI_71 hF_72 hW_73 h_74 h_75 h_76 h_77 h_78 => (bk_inl ?_)))
      have h_79 := ir_41_4 hI_71
      have h_80 := ir_41_7 hI_71
      have h_81 := ir_41_29 hI_71
      have h_82 := ir_41_5 hI_71
      refine q_aload_n c_175_25 rfl (v_bip c_175_26 (by decide) ?_)
      have kn_83 : Hid (c_70 41 3 = c 41 3) := (hF_72 41 3 qn_d31ba9b5e).trans (hid kn_62)
      have h_84 : c_70 41 3 = c 41 3 := (hid kn_83)
      refine v_cv c_175_28 km_8_229 rfl rfl (nb_ rfl) ⟨⟨rfl, rfl⟩, nb_ rfl, rfl⟩ (nb_ rfl) (nb_ rfl) (s_161 (a1 := 93) hI_71 (show 1 ≤ 93 ∧ 93 ≤ 255 from ⟨by decide, by decide⟩) (fun c_85 hI_86 hF_87 h_88 h_89 h_90 h_91 => (bk_inl ?_)))
      have h_92 := ir_41_4 hI_86
      have h_93 := ir_41_5 hI_86
      refine q_aload_n c_175_31 rfl (q_dup c_175_32 rfl ?_)
      have kn_94 : Hid (c_85 41 7 = c_70 41 7) := hF_87 41 7 qn_fb1117a24
      refine v_gi (z := 7) (v := c_70 41 7) c_175_33 kf_8_142 rfl (nb_ rfl) rfl rfl (hid kn_94) (q_iconst c_175_36 (v_isub (v := c_70 41 7 - 1) c_175_37 rfl (v_pi (z := 7) c_175_38 kf_8_142 rfl (nb_ rfl) rfl rfl rfl (by decide) (q_aload_n c_175_41 rfl (q_iload_n c_175_42 rfl (q_iconst c_175_43 ?_))))))
      have hI_95 := iw_41_7 (v := c_70 41 7 - 1) hI_86 ⟨by first | exact q_a488cbdaf h_10 h_42 h_5 h_75 h_34 h_67 | omega, by first | exact rgm_h h_80.2 (by decide) | omega⟩
      have kn_96 : Hid (c_85 41 29 = c_70 41 29) := hF_87 41 29 qn_56e241d1f
      have h_97 : (up c_85 41 7 (c_70 41 7 - 1)) 41 29 = c_70 41 29 := ((up_n (by decide)).trans (hid kn_96))
      have h_98 : (up c_85 41 7 (c_70 41 7 - 1)) 41 5 = c_85 41 5 := (up_n (by decide))
      obtain ⟨hW_99, hN_100⟩ : Nw (up c_85 41 7 (c_70 41 7 - 1)) ∧ Nh (up c_85 41 7 (c_70 41 7 - 1)) = Nh c_70 := nh_fr hW_73 (fun j => (up_c (nn rfl)).trans (hF_87 50 j qn_a830d9710)) (fun j => (up_c (nn rfl)).trans (hF_87 51 j qn_b10baaf0c)) ((up_n (by decide)).trans (hF_87 41 29 qn_56e241d1f))
      refine v_cv c_175_44 km_8_242 rfl rfl (nb_ rfl) ⟨⟨rfl, rfl⟩, nb_ rfl, rfl⟩ (nb_ rfl) (nb_ rfl) (s_170 (a1 := a2) (a2 := 0) hI_95 (show 0 ≤ a2 ∧ a2 ≤ 8 from ⟨(Int.le_trans (by decide) ha2.1), (Int.le_trans ha2.2 (by decide))⟩) (show 0 ≤ 0 ∧ 0 ≤ 999 from ⟨by decide, by decide⟩) hW_99 (by omega) (by omega) (Or.inr (Or.inr (Or.inl (by first | exact q_db5d28903 ha2 | omega)))) (fun c_101 hI_102 hF_103 hW_104 h_105 h_106 h_107 h_108 => (bk_inl ?_)))
      have h_109 := ir_41_29 hI_102
      refine q_vret rfl rfl ?_
      have kn_110 : Hid (c_101 41 4 = c_85 41 4) := (hF_103 41 4 qn_fcc0aaabe).trans (up_n (by decide))
      have h_111 : c_101 41 4 = c_85 41 4 := (hid kn_110)
      have kn_112 : Hid (c_101 41 5 = c_85 41 5) := (hF_103 41 5 qn_c65a44569).trans (up_n (by decide))
      have h_113 : c_101 41 5 = c_85 41 5 := (hid kn_112)
      have kn_114 : Hid (c_101 41 7 = c_70 41 7 - 1) := (hF_103 41 7 qn_5700af53f).trans (up_e rfl)
      have h_115 : c_101 41 7 = c_70 41 7 - 1 := (hid kn_114)
      exact K c_101 hI_102 (fun a j hm => (hF_103 a j (qv_d7b4eb562 hm)).trans ((up_b (Decidable.or_iff_not_imp_left.mpr (fun h1 h2 => hm (Or.inr (Or.inr (Or.inr (Or.inl ⟨Decidable.not_not.mp h1, h2⟩))))))).trans ((hF_87 a j (qv_79b37c5f3 hm)).trans ((hF_72 a j hm).trans ((hF_54 a j (qv_79b37c5f3 hm)).trans ((hF_39 a j hm).trans ((hF_20 a j (qv_79b37c5f3 hm)).trans (hF_8 a j (qv_d0add4e0b hm))))))))) hW_104 (by first | exact q_796198873 h_21 h_41 h_55 h_74 h_88 h_9 | omega) (by first | exact q_0c164124e h_10 h_42 h_75 h_34 h_67 | omega) (by first | (clear ha1 ha2 ho hq0 hq1 hq2 hq3 hq4 hq5 h_1 h_2 h_3 h_4 h_5 hnn h_13 h_14 h_10 h_15 h_25 h_26 h_27 h_46 h_41 h_47 h_42 h_48 h_49 h_59 h_60 h_61 h_79 h_74 h_80 h_75 h_81 h_82 h_92 h_93 h_109 h_11 h_12 h_22 h_23 h_24 h_44 h_45 h_56 h_57 h_58 h_77 h_78 h_89 h_90 h_107 h_108; omega) | omega) (by omega) (by omega)
    · skip
      have h_116 : ¬ c_52 41 5 = -1 := by rw [show c_52 41 5 = c_52 41 5 from rfl]; omega
      refine v_cv c_175_22 km_8_251 rfl rfl (nb_ rfl) ⟨⟨rfl, rfl⟩, nb_ rfl, rfl⟩ (nb_ rfl) (nb_ rfl) (n_174 hI_53 (by omega) (bk_inl (q_aload_n c_175_25 rfl (v_bip c_175_26 (by decide) ?_))))
      have kn_117 : Hid (c_52 41 3 = c 41 3) := (hF_54 41 3 qn_97fd72088).trans (hid kn_50)
      have h_118 : c_52 41 3 = c 41 3 := (hid kn_117)
      refine v_cv c_175_28 km_8_229 rfl rfl (nb_ rfl) ⟨⟨rfl, rfl⟩, nb_ rfl, rfl⟩ (nb_ rfl) (nb_ rfl) (s_161 (a1 := 93) hI_53 (show 1 ≤ 93 ∧ 93 ≤ 255 from ⟨by decide, by decide⟩) (fun c_119 hI_120 hF_121 h_122 h_123 h_124 h_125 => (bk_inl ?_)))
      have h_126 := ir_41_4 hI_120
      have h_127 := ir_41_5 hI_120
      refine q_aload_n c_175_31 rfl (q_dup c_175_32 rfl ?_)
      have kn_128 : Hid (c_52 41 7 = c_37 41 7) := hF_54 41 7 qn_fb1117a24
      have kn_129 : Hid (c_119 41 7 = c_37 41 7) := (hF_121 41 7 qn_fb1117a24).trans (hid kn_128)
      refine v_gi (z := 7) (v := c_37 41 7) c_175_33 kf_8_142 rfl (nb_ rfl) rfl rfl (hid kn_129) (q_iconst c_175_36 (v_isub (v := c_37 41 7 - 1) c_175_37 rfl (v_pi (z := 7) c_175_38 kf_8_142 rfl (nb_ rfl) rfl rfl rfl (by decide) (q_aload_n c_175_41 rfl (q_iload_n c_175_42 rfl (q_iconst c_175_43 ?_))))))
      have hI_130 := iw_41_7 (v := c_37 41 7 - 1) hI_120 ⟨by first | exact q_15f2fbd29 h_10 h_42 h_5 h_34 | omega, by first | exact rgm_h h_47.2 (by decide) | omega⟩
      have kn_131 : Hid (c_52 41 29 = c_37 41 29) := hF_54 41 29 qn_56e241d1f
      have kn_132 : Hid (c_119 41 29 = c_37 41 29) := (hF_121 41 29 qn_56e241d1f).trans (hid kn_131)
      have h_133 : (up c_119 41 7 (c_37 41 7 - 1)) 41 29 = c_37 41 29 := ((up_n (by decide)).trans (hid kn_132))
      have h_134 : (up c_119 41 7 (c_37 41 7 - 1)) 41 5 = c_119 41 5 := (up_n (by decide))
      obtain ⟨hW_135, hN_136⟩ : Nw (up c_119 41 7 (c_37 41 7 - 1)) ∧ Nh (up c_119 41 7 (c_37 41 7 - 1)) = Nh c_37 := nh_fr hW_40 (fun j => (up_c (nn rfl)).trans ((hF_121 50 j qn_a830d9710).trans (hF_54 50 j qn_a830d9710))) (fun j => (up_c (nn rfl)).trans ((hF_121 51 j qn_b10baaf0c).trans (hF_54 51 j qn_b10baaf0c))) ((up_n (by decide)).trans ((hF_121 41 29 qn_56e241d1f).trans (hF_54 41 29 qn_56e241d1f)))
      refine v_cv c_175_44 km_8_242 rfl rfl (nb_ rfl) ⟨⟨rfl, rfl⟩, nb_ rfl, rfl⟩ (nb_ rfl) (nb_ rfl) (s_170 (a1 := a2) (a2 := 0) hI_130 (show 0 ≤ a2 ∧ a2 ≤ 8 from ⟨(Int.le_trans (by decide) ha2.1), (Int.le_trans ha2.2 (by decide))⟩) (show 0 ≤ 0 ∧ 0 ≤ 999 from ⟨by decide, by decide⟩) hW_135 (Or.inr (Or.inl (by first | (clear ha1 ha2 ho hq0 hq1 hq2 hq3 hq4 hq5 h_1 h_2 h_3 h_4 h_5 hnn h_13 h_9 h_14 h_10 h_15 h_25 h_21 h_26 h_27 h_46 h_41 h_47 h_42 h_48 h_43 h_49 h_59 h_55 h_60 h_126 h_122 h_11 h_12 h_22 h_23 h_24 h_44 h_45 h_56 h_57 h_58 h_123 h_125; omega) | omega))) (Or.inr (Or.inl (by first | (clear ha1 ha2 ho hq0 hq1 hq2 hq3 hq4 hq5 h_1 h_2 h_3 h_4 h_5 hnn h_13 h_9 h_14 h_10 h_15 h_25 h_21 h_26 h_27 h_46 h_41 h_47 h_42 h_48 h_43 h_49 h_59 h_55 h_60 h_126 h_122 h_11 h_12 h_22 h_23 h_24 h_44 h_45 h_56 h_57 h_58 h_123 h_125; omega) | omega))) (Or.inr (Or.inl (by first | (clear ha1 ha2 ho hq0 hq1 hq2 hq3 hq4 hq5 h_1 h_2 h_3 h_4 h_5 hnn h_13 h_9 h_14 h_10 h_15 h_25 h_21 h_26 h_27 h_46 h_41 h_47 h_42 h_48 h_43 h_49 h_59 h_55 h_60 h_126 h_122 h_11 h_12 h_22 h_23 h_24 h_44 h_45 h_56 h_57 h_58 h_123 h_125; omega) | omega))) (fun c_137 hI_138 hF_139 hW_140 h_141 h_142 h_143 h_144 => (bk_inl ?_)))
      have h_145 := ir_41_29 hI_138
      refine q_vret rfl rfl ?_
      have kn_146 : Hid (c_137 41 4 = c_119 41 4) := (hF_139 41 4 qn_fcc0aaabe).trans (up_n (by decide))
      have h_147 : c_137 41 4 = c_119 41 4 := (hid kn_146)
      have kn_148 : Hid (c_137 41 5 = c_119 41 5) := (hF_139 41 5 qn_c65a44569).trans (up_n (by decide))
      have h_149 : c_137 41 5 = c_119 41 5 := (hid kn_148)
      have kn_150 : Hid (c_137 41 7 = c_37 41 7 - 1) := (hF_139 41 7 qn_5700af53f).trans (up_e rfl)
      have h_151 : c_137 41 7 = c_37 41 7 - 1 := (hid kn_150)
      exact K c_137 hI_138 (fun a j hm => (hF_139 a j (qv_d7b4eb562 hm)).trans ((up_b (Decidable.or_iff_not_imp_left.mpr (fun h1 h2 => hm (Or.inr (Or.inr (Or.inr (Or.inl ⟨Decidable.not_not.mp h1, h2⟩))))))).trans ((hF_121 a j (qv_79b37c5f3 hm)).trans ((hF_54 a j (qv_79b37c5f3 hm)).trans ((hF_39 a j hm).trans ((hF_20 a j (qv_79b37c5f3 hm)).trans (hF_8 a j (qv_d0add4e0b hm)))))))) hW_140 (by first | exact q_10c60cb60 h_122 h_21 h_41 h_55 h_9 | omega) (by first | exact q_c30709b32 h_10 h_42 h_34 | omega) (by first | (clear ha1 ha2 ho hq0 hq1 hq2 hq3 hq4 hq5 h_1 h_2 h_3 h_4 h_5 hnn h_13 h_14 h_10 h_15 h_25 h_26 h_27 h_46 h_41 h_47 h_42 h_48 h_49 h_59 h_60 h_126 h_127 h_145 h_11 h_12 h_22 h_23 h_24 h_44 h_45 h_56 h_57 h_58 h_123 h_124 h_141 h_143 h_144; omega) | omega) (Or.inr (Or.inl (by first | (clear ha1 ha2 ho hq0 hq1 hq2 hq3 hq4 hq5 h_1 h_2 h_3 h_4 h_5 hnn h_13 h_9 h_14 h_10 h_15 h_25 h_21 h_26 h_27 h_46 h_41 h_47 h_42 h_48 h_43 h_49 h_59 h_55 h_60 h_126 h_122 h_145 h_11 h_12 h_22 h_23 h_24 h_44 h_45 h_56 h_57 h_58 h_123 h_125 h_141 h_142 h_143 h_144; omega) | omega))) (Or.inr (Or.inl (by first | (clear ha1 ha2 ho hq0 hq1 hq2 hq3 hq4 hq5 h_1 h_2 h_3 h_4 h_5 hnn h_13 h_9 h_14 h_10 h_15 h_25 h_21 h_26 h_27 h_46 h_41 h_47 h_42 h_48 h_43 h_49 h_59 h_55 h_60 h_126 h_122 h_145 h_11 h_12 h_22 h_23 h_24 h_44 h_45 h_56 h_57 h_58 h_123 h_125 h_141 h_142 h_143 h_144; omega) | omega)))
  · skip
    have h_152 : ¬ c_18 41 5 = -1 := by rw [show c_18 41 5 = c_18 41 5 from rfl]; omega
    refine v_cv c_175_12 km_8_251 rfl rfl (nb_ rfl) ⟨⟨rfl, rfl⟩, nb_ rfl, rfl⟩ (nb_ rfl) (nb_ rfl) (n_174 hI_19 (by omega) (bk_inl (q_aload_n c_175_15 rfl (v_bip c_175_16 (by decide) ?_))))
    have kn_153 : Hid (c_18 41 3 = c 41 3) := (hF_20 41 3 qn_97fd72088).trans (hid kn_16)
    have h_154 : c_18 41 3 = c 41 3 := (hid kn_153)
    refine v_cv c_175_18 km_8_229 rfl rfl (nb_ rfl) ⟨⟨rfl, rfl⟩, nb_ rfl, rfl⟩ (nb_ rfl) (nb_ rfl) (s_161 (a1 := 44) hI_19 (show 1 ≤ 44 ∧ 44 ≤ 255 from ⟨by decide, by decide⟩) (fun c_155 hI_156 hF_157 h_158 h_159 h_160 h_161 => (bk_inl ?_)))
    have h_162 := ir_41_4 hI_156
    have h_163 := ir_41_5 hI_156
    refine q_aload_n c_175_21 rfl ?_
    have h_164 : ¬ c_155 41 5 = -1 := by rw [show c_155 41 5 = c_155 41 5 from rfl]; omega
    refine v_cv c_175_22 km_8_251 rfl rfl (nb_ rfl) ⟨⟨rfl, rfl⟩, nb_ rfl, rfl⟩ (nb_ rfl) (nb_ rfl) (n_174 hI_156 (by omega) (bk_inl (q_aload_n c_175_25 rfl (v_bip c_175_26 (by decide) ?_))))
    have kn_165 : Hid (c_155 41 3 = c 41 3) := (hF_157 41 3 qn_97fd72088).trans (hid kn_153)
    have h_166 : c_155 41 3 = c 41 3 := (hid kn_165)
    refine v_cv c_175_28 km_8_229 rfl rfl (nb_ rfl) ⟨⟨rfl, rfl⟩, nb_ rfl, rfl⟩ (nb_ rfl) (nb_ rfl) (s_161 (a1 := 93) hI_156 (show 1 ≤ 93 ∧ 93 ≤ 255 from ⟨by decide, by decide⟩) (fun c_167 hI_168 hF_169 h_170 h_171 h_172 h_173 => (bk_inl ?_)))
    have h_174 := ir_41_4 hI_168
    have h_175 := ir_41_5 hI_168
    refine q_aload_n c_175_31 rfl (q_dup c_175_32 rfl ?_)
    have kn_176 : Hid (c_18 41 7 = c_6 41 7) := hF_20 41 7 qn_fb1117a24
    have kn_177 : Hid (c_155 41 7 = c_6 41 7) := (hF_157 41 7 qn_fb1117a24).trans (hid kn_176)
    have kn_178 : Hid (c_167 41 7 = c_6 41 7) := (hF_169 41 7 qn_fb1117a24).trans (hid kn_177)
    refine v_gi (z := 7) (v := c_6 41 7) c_175_33 kf_8_142 rfl (nb_ rfl) rfl rfl (hid kn_178) (q_iconst c_175_36 (v_isub (v := c_6 41 7 - 1) c_175_37 rfl (v_pi (z := 7) c_175_38 kf_8_142 rfl (nb_ rfl) rfl rfl rfl (by decide) (q_aload_n c_175_41 rfl (q_iload_n c_175_42 rfl (q_iconst c_175_43 ?_))))))
    have hI_179 := iw_41_7 (v := c_6 41 7 - 1) hI_168 ⟨by first | exact q_3a97aaad7 h_10 h_5 | omega, by first | exact rgm_h h_14.2 (by decide) | omega⟩
    have kn_180 : Hid (c_6 41 29 = c 41 29) := hF_8 41 29 qn_ae3f17736
    have kn_181 : Hid (c_18 41 29 = c 41 29) := (hF_20 41 29 qn_56e241d1f).trans (hid kn_180)
    have kn_182 : Hid (c_155 41 29 = c 41 29) := (hF_157 41 29 qn_56e241d1f).trans (hid kn_181)
    have kn_183 : Hid (c_167 41 29 = c 41 29) := (hF_169 41 29 qn_56e241d1f).trans (hid kn_182)
    have h_184 : (up c_167 41 7 (c_6 41 7 - 1)) 41 29 = c 41 29 := ((up_n (by decide)).trans (hid kn_183))
    have h_185 : (up c_167 41 7 (c_6 41 7 - 1)) 41 5 = c_167 41 5 := (up_n (by decide))
    obtain ⟨hW_186, hN_187⟩ : Nw (up c_167 41 7 (c_6 41 7 - 1)) ∧ Nh (up c_167 41 7 (c_6 41 7 - 1)) = Nh c := nh_fr hW (fun j => (up_c (nn rfl)).trans ((hF_169 50 j qn_a830d9710).trans ((hF_157 50 j qn_a830d9710).trans ((hF_20 50 j qn_a830d9710).trans (hF_8 50 j qn_6ba3ccab5))))) (fun j => (up_c (nn rfl)).trans ((hF_169 51 j qn_b10baaf0c).trans ((hF_157 51 j qn_b10baaf0c).trans ((hF_20 51 j qn_b10baaf0c).trans (hF_8 51 j qn_a6960f5c9))))) ((up_n (by decide)).trans ((hF_169 41 29 qn_56e241d1f).trans ((hF_157 41 29 qn_56e241d1f).trans ((hF_20 41 29 qn_56e241d1f).trans (hF_8 41 29 qn_ae3f17736)))))
    refine v_cv c_175_44 km_8_242 rfl rfl (nb_ rfl) ⟨⟨rfl, rfl⟩, nb_ rfl, rfl⟩ (nb_ rfl) (nb_ rfl) (s_170 (a1 := a2) (a2 := 0) hI_179 (show 0 ≤ a2 ∧ a2 ≤ 8 from ⟨(Int.le_trans (by decide) ha2.1), (Int.le_trans ha2.2 (by decide))⟩) (show 0 ≤ 0 ∧ 0 ≤ 999 from ⟨by decide, by decide⟩) hW_186 (Or.inr (Or.inl (by first | (clear ha1 ha2 ho hq0 hq1 hq2 hq3 hq4 hq5 h_1 h_2 h_3 h_4 h_5 hnn h_13 h_9 h_14 h_10 h_15 h_25 h_21 h_26 h_162 h_158 h_163 h_174 h_170 h_11 h_12 h_22 h_23 h_24 h_159 h_161 h_171 h_173; omega) | omega))) (Or.inr (Or.inl (by first | (clear ha1 ha2 ho hq0 hq1 hq2 hq3 hq4 hq5 h_1 h_2 h_3 h_4 h_5 hnn h_13 h_9 h_14 h_10 h_15 h_25 h_21 h_26 h_162 h_158 h_163 h_174 h_170 h_11 h_12 h_22 h_23 h_24 h_159 h_161 h_171 h_173; omega) | omega))) (Or.inr (Or.inl (by first | (clear ha1 ha2 ho hq0 hq1 hq2 hq3 hq4 hq5 h_1 h_2 h_3 h_4 h_5 hnn h_13 h_9 h_14 h_10 h_15 h_25 h_21 h_26 h_162 h_158 h_163 h_174 h_170 h_11 h_12 h_22 h_23 h_24 h_159 h_161 h_171 h_173; omega) | omega))) (fun c_188 hI_189 hF_190 hW_191 h_192 h_193 h_194 h_195 => (bk_inl ?_)))
    have h_196 := ir_41_29 hI_189
    refine q_vret rfl rfl ?_
    have kn_197 : Hid (c_188 41 4 = c_167 41 4) := (hF_190 41 4 qn_fcc0aaabe).trans (up_n (by decide))
    have h_198 : c_188 41 4 = c_167 41 4 := (hid kn_197)
    have kn_199 : Hid (c_188 41 5 = c_167 41 5) := (hF_190 41 5 qn_c65a44569).trans (up_n (by decide))
    have h_200 : c_188 41 5 = c_167 41 5 := (hid kn_199)
    have kn_201 : Hid (c_188 41 7 = c_6 41 7 - 1) := (hF_190 41 7 qn_5700af53f).trans (up_e rfl)
    have h_202 : c_188 41 7 = c_6 41 7 - 1 := (hid kn_201)
    exact K c_188 hI_189 (fun a j hm => (hF_190 a j (qv_d7b4eb562 hm)).trans ((up_b (Decidable.or_iff_not_imp_left.mpr (fun h1 h2 => hm (Or.inr (Or.inr (Or.inr (Or.inl ⟨Decidable.not_not.mp h1, h2⟩))))))).trans ((hF_169 a j (qv_79b37c5f3 hm)).trans ((hF_157 a j (qv_79b37c5f3 hm)).trans ((hF_20 a j (qv_79b37c5f3 hm)).trans (hF_8 a j (qv_d0add4e0b hm))))))) hW_191 (by first | exact q_9bdbff860 h_158 h_170 h_21 h_9 | omega) (by first | exact q_65aaae687 h_10 | omega) (by first | (clear ha1 ha2 ho hq0 hq1 hq2 hq3 hq4 hq5 h_1 h_2 h_3 h_4 h_5 hnn h_13 h_14 h_10 h_15 h_25 h_26 h_162 h_163 h_174 h_175 h_196 h_11 h_12 h_22 h_23 h_24 h_159 h_160 h_161 h_171 h_172 h_194 h_195; omega) | omega) (Or.inr (Or.inl (by first | (clear ha1 ha2 ho hq0 hq1 hq2 hq3 hq4 hq5 h_1 h_2 h_3 h_4 h_5 hnn h_13 h_9 h_14 h_10 h_15 h_25 h_21 h_26 h_162 h_158 h_163 h_174 h_170 h_196 h_11 h_12 h_22 h_23 h_24 h_159 h_161 h_171 h_173 h_192 h_193 h_194 h_195; omega) | omega))) (Or.inr (Or.inl (by first | (clear ha1 ha2 ho hq0 hq1 hq2 hq3 hq4 hq5 h_1 h_2 h_3 h_4 h_5 hnn h_13 h_9 h_14 h_10 h_15 h_25 h_21 h_26 h_162 h_158 h_163 h_174 h_170 h_196 h_11 h_12 h_22 h_23 h_24 h_159 h_161 h_171 h_173 h_192 h_193 h_194 h_195; omega) | omega)))
end
section
/-! ===== contracts 13 ===== -/
theorem q_ef26995af {x0 : Int} (f0 : (x0 = (-1))) : x0 = (-1) := by omega
theorem q_b2199921c {x0 x1 x2 x3 x4 x5 x6 : Int} (f0 : (x0 ≥ x1)) (f1 : (x2 ≥ x3)) (f2 : (x4 ≥ x0)) (f3 : (x5 ≥ x4)) (f4 : (x6 ≥ x5)) (f5 : (x3 ≥ x6)) : x1 ≤ x2 := by omega
theorem q_fc5232ffa {x0 x1 x2 x3 x4 x5 x6 x7 x8 x9 x10 x11 x12 : Int} (f0 : (x0 ≤ x1) ∨ (x0 = x2)) (f1 : (x3 ≤ x4) ∨ (x3 = x5)) (f2 : (x6 ≤ x7) ∨ (x6 = x0)) (f3 : (x8 ≤ x9) ∨ (x8 = x6)) (f4 : (x10 ≤ x11) ∨ (x10 = x8)) (f5 : (x5 ≤ x12) ∨ (x5 = x10)) (f6 : (x2 ≤ x1)) (f7 : x4 = x1) (f8 : x7 = x1) (f9 : x9 = x1) (f10 : x11 = x1) (f11 : x12 = x1) : x3 ≤ x1 := by omega
theorem qv_0c9f14c52 {a : Nat} {j : Int} (hm : ¬ ((a = 41 ∧ j = 4) ∨ (a = 41 ∧ j = 5) ∨ (a = 41 ∧ j = 6) ∨ (a = 41 ∧ j = 7) ∨ (a = 41 ∧ j = 29) ∨ a = 50 ∨ a = 51)) : ¬ ((a = 41 ∧ j = 5) ∨ (a = 41 ∧ j = 6)) := (fun q => q.elim (fun h => hm (Or.inr (Or.inl h))) (fun h => hm (Or.inr (Or.inr (Or.inl h)))))
theorem q_fdaccc704 {x0 x1 x2 x3 x4 x5 : Int} (f0 : (x0 ≥ x1)) (f1 : (x2 ≥ x0)) (f2 : (x3 ≥ x2)) (f3 : (x4 ≥ x3)) (f4 : (x5 ≥ x4)) : x1 ≤ x5 := by omega
theorem q_d4f8c5bee {x0 x1 x2 x3 x4 x5 x6 : Int} (f0 : (x0 ≥ x1)) (f1 : (x2 ≥ x0)) (f2 : (x3 ≥ x2)) (f3 : (x4 ≥ x3)) (f4 : (x5 ≥ x4)) : x6 + x1 ≤ x6 + x5 := by omega
theorem q_f38071e10 {x0 x1 x2 x3 : Int} (f0 : (x0 = 0) ∨ (x1 < x2)) (f1 : ¬ (x0 ≠ 441972)) (f2 : x2 = x3) : x1 ≤ x3 := by omega
theorem q_c26d8ce25 {x0 x1 x2 x3 x4 x5 : Int} (f0 : (x0 ≥ x1)) (f1 : (x2 ≥ x0)) (f2 : (x3 ≥ x2)) (f3 : (x4 ≥ x3)) (f4 : (x5 ≤ x1)) : x5 ≤ x4 := by omega
theorem q_b7af7f5c6 {x0 x1 x2 x3 : Int} (f0 : (x0 = 0) ∨ (x1 < x2)) (f1 : ¬ (x0 ≠ 441972)) (f2 : x2 = x3) : x1 ≤ x3 - 1 := by omega
theorem q_b251de6c9 {x0 x1 x2 x3 x4 x5 : Int} (f0 : (x0 ≥ x1)) (f1 : (x2 ≥ x3)) (f2 : (x4 ≥ x0)) (f3 : (x5 ≥ x4)) (f4 : (x3 ≥ x5)) : x1 ≤ x2 := by omega
theorem q_1bb533b1a {x0 x1 x2 : Int} (f0 : (x0 = x1)) (f1 : x1 = x2) : x0 = x2 := by omega
theorem q_f1b148d40 {x0 x1 x2 x3 x4 x5 x6 x7 x8 : Int} (f0 : (x0 ≥ x1)) (f1 : (x2 + x3 ≤ x4 + x5)) (f2 : (x6 ≥ x0)) (f3 : (x7 ≥ x6)) (f4 : (x3 ≥ x7)) (f5 : x5 = x8) : x1 + x2 ≤ x8 + x4 := by omega
theorem q_578fd8ea3 {x0 x1 x2 x3 : Int} (f0 : (x0 = 0) ∨ (x1 < x2)) (f1 : ¬ (x0 ≠ 12748404)) (f2 : x2 = x3) : x1 ≤ x3 := by omega
theorem q_e4cb9442e {x0 x1 x2 x3 x4 : Int} (f0 : (x0 ≥ x1)) (f1 : (x2 ≥ x0)) (f2 : (x3 ≥ x2)) (f3 : (x4 ≤ x1)) : x4 ≤ x3 := by omega
theorem q_79cb9195c {x0 x1 x2 x3 : Int} (f0 : (x0 = 0) ∨ (x1 < x2)) (f1 : ¬ (x0 ≠ 12748404)) (f2 : x2 = x3) : x1 ≤ x3 - 1 := by omega
theorem q_dc73f781e {x0 x1 x2 x3 x4 : Int} (f0 : (x0 ≥ x1)) (f1 : (x2 ≥ x0)) (f2 : (x3 ≥ x4)) (f3 : (x4 ≥ x2)) : x1 ≤ x3 := by omega
theorem q_f2b397259 {x0 x1 x2 x3 x4 x5 x6 x7 : Int} (f0 : (x0 ≥ x1)) (f1 : (x2 ≥ x0)) (f2 : (x3 + x4 ≤ x5 + x6)) (f3 : (x4 ≥ x2)) (f4 : x6 = x7) : x1 + x3 ≤ x7 + x5 := by omega
theorem q_f71f6b032 {x0 x1 x2 x3 x4 x5 x6 : Int} (f0 : (x0 ≥ x1)) (f1 : (x2 ≥ x0)) (f2 : (x3 = 0) ∨ (x2 < x4)) (f3 : x3 > 57) (f4 : (x5 ≤ 150)) (f5 : (x6 ≤ x1)) (f6 : x4 = x5) : x6 ≤ 149 := by omega
theorem q_bd4440b4a {x0 x1 x2 x3 x4 x5 x6 : Int} (f0 : (x0 ≥ x1)) (f1 : (x2 ≥ x0)) (f2 : (x3 ≥ x2)) (f3 : (x4 ≥ x3)) (f4 : (x5 ≥ x4)) (f5 : (x6 ≥ x5)) : x1 ≤ x6 := by omega
theorem q_720c7dc9e {x0 x1 x2 x3 x4 x5 x6 x7 x8 x9 x10 x11 : Int} (f0 : (x0 = 0) ∨ (x1 < x2)) (f1 : x0 > 57) (f2 : (x3 ≤ x4) ∨ (x3 = x1)) (f3 : (x5 ≤ x6) ∨ (x5 = x3)) (f4 : (x7 ≤ x8) ∨ (x7 = x5)) (f5 : (x9 ≤ x10) ∨ (x9 = x7)) (f6 : x2 = x11) (f7 : x4 = x11) (f8 : x6 = x11) (f9 : x8 = x11) (f10 : x10 = x11) : x9 ≤ x11 := by omega
theorem q_476aec965 {x0 x1 x2 x3 x4 x5 x6 x7 x8 : Int} (f0 : (x0 ≥ x1)) (f1 : (x2 ≥ x0)) (f2 : (x3 ≥ x2)) (f3 : (x4 ≥ x3)) (f4 : (x4 + x5 ≤ x6 + x7)) (f5 : x6 = x8) : x1 + x5 ≤ x8 + x7 := by omega
theorem q_da394354d {x0 x1 x2 x3 x4 : Int} (f0 : (x0 ≥ x1)) (f1 : (x2 ≥ x0)) (f2 : (x3 ≥ x2)) (f3 : (x4 ≥ x3)) : x1 ≤ x4 := by omega
theorem q_e592de870 {x0 x1 x2 x3 x4 x5 x6 x7 : Int} (f0 : (x0 ≥ x1)) (f1 : (x2 ≥ x0)) (f2 : (x3 ≥ x2)) (f3 : (x3 + x4 ≤ x5 + x6)) (f4 : x5 = x7) : x1 + x4 ≤ x7 + x6 := by omega
theorem q_fd85bb294 {x0 x1 x2 x3 x4 x5 x6 : Int} (f0 : (x0 ≥ x1)) (f1 : (x2 ≥ x0)) (f2 : (x3 = 0) ∨ (x2 < x4)) (f3 : ¬ (x3 < 48)) (f4 : (x5 ≤ 150)) (f5 : (x6 ≤ x1)) (f6 : x4 = x5) : x6 ≤ 149 := by omega
theorem q_3fb8a741c {x0 x1 x2 x3 : Int} (f0 : (x0 ≥ x1)) (f1 : (x2 ≥ x0)) (f2 : (x3 ≥ x2)) : x1 ≤ x3 := by omega
theorem q_c7d431fc0 {x0 x1 x2 x3 x4 x5 x6 x7 x8 x9 x10 x11 : Int} (f0 : (x0 ≥ x1)) (f1 : (x2 ≥ x0)) (f2 : (x3 ≥ x2)) (f3 : (x4 < (-1)) ∨ (x4 > (-1)) ∨ (x3 > x2 ∧ x3 ≤ x5 ∧ x6 = (-1))) (f4 : (x4 < (-1)) ∨ (x4 > (-1)) ∨ (x7 = x8 + 1)) (f5 : (x4 = (-1)) ∨ (x7 = x8)) (f6 : x5 = x9) (f7 : x6 = x10) (f8 : x8 = x11) : x1 + x7 ≤ x11 + x3 := by omega
theorem q_aaac5bbff {x0 x1 x2 x3 x4 x5 : Int} (f0 : (x0 = 0) ∨ (x1 < x2)) (f1 : ¬ (x0 < 48)) (f2 : (x3 ≤ x4) ∨ (x3 = x1)) (f3 : x2 = x5) (f4 : x4 = x5) : x3 ≤ x5 := by omega
theorem q_176d7b69d {x0 x1 x2 : Int} (f0 : (x0 = 0) ∨ (x1 < x2)) (f1 : ¬ (x0 ≠ 40)) (f2 : (x2 ≤ 150)) : x1 ≤ 600 := by omega
theorem q_2a284ad14 {x0 x1 x2 x3 : Int} (f0 : (x0 ≥ x1)) (f1 : (x2 ≥ x0)) (f2 : (x3 ≤ x1)) : x3 ≤ x2 := by omega
theorem q_ec8e75e0a {x0 x1 x2 x3 : Int} (f0 : 0 ≤ x0 ∧ x0 ≤ 7) (f1 : (x1 = x2 + 1)) (f2 : (x3 = x1)) (f3 : x2 = x0) : 0 ≤ x3 - 1 := by omega
theorem q_e6c1b6bd1 {x0 x1 x2 x3 : Int} (f0 : (x0 = x1 + 1)) (f1 : (x2 = x0)) (f2 : x1 = x3) : x2 - 1 = x3 := by omega
theorem q_fdeaade18 {x0 x1 x2 x3 x4 x5 x6 x7 : Int} (f0 : (x0 ≥ x1)) (f1 : (x2 ≥ x0)) (f2 : (x2 + x3 ≤ x4 + x5)) (f3 : (x6 ≥ x5)) (f4 : x4 = x7) : x1 + x3 ≤ x7 + x6 := by omega
theorem q_4700e233f {x0 x1 x2 : Int} (f0 : 0 ≤ x0 ∧ x0 ≤ 7) (f1 : (x1 = x2 + 1)) (f2 : x2 = x0) : 0 ≤ x1 - 1 := by omega
theorem q_b177a02cd {x0 x1 x2 : Int} (f0 : (x0 = x1 + 1)) (f1 : x1 = x2) : x0 - 1 = x2 := by omega
theorem q_7d20861f4 {x0 x1 x2 x3 x4 : Int} (f0 : (x0 ≥ x1)) (f1 : (x2 ≥ x0)) (f2 : (x3 ≥ x2)) : x4 + x1 ≤ x4 + x3 := by omega
theorem c_176_8 : mLk 176 8 = some (.aload_n 0, 1) := rfl
theorem c_176_9 : mLk 176 9 = some (.invokevirtual 114, 3) := rfl
theorem c_176_12 : mLk 176 12 = some (.bipush 40, 2) := rfl
theorem c_176_14 : mLk 176 14 = some (.if_icmp .ne 31, 3) := rfl
theorem c_176_45 : mLk 176 45 = some (.aload_n 0, 1) := rfl
theorem c_176_46 : mLk 176 46 = some (.invokevirtual 114, 3) := rfl
theorem c_176_49 : mLk 176 49 = some (.invokestatic 135, 3) := rfl
theorem c_176_52 : mLk 176 52 = some (.ifCond .eq 19, 3) := rfl
theorem c_176_71 : mLk 176 71 = some (.aload_n 0, 1) := rfl
theorem c_176_72 : mLk 176 72 = some (.invokevirtual 214, 3) := rfl
theorem c_176_75 : mLk 176 75 = some (.ldc_w 267, 3) := rfl
theorem c_176_78 : mLk 176 78 = some (.invokestatic 192, 3) := rfl
theorem c_176_81 : mLk 176 81 = some (.if_icmp .ne 13, 3) := rfl
theorem c_176_94 : mLk 176 94 = some (.aload_n 0, 1) := rfl
theorem c_176_95 : mLk 176 95 = some (.invokevirtual 214, 3) := rfl
theorem c_176_98 : mLk 176 98 = some (.ldc_w 272, 3) := rfl
theorem c_176_101 : mLk 176 101 = some (.invokestatic 192, 3) := rfl
theorem c_176_104 : mLk 176 104 = some (.if_icmp .ne 13, 3) := rfl
theorem c_176_117 : mLk 176 117 = some (.aload_n 0, 1) := rfl
theorem c_176_118 : mLk 176 118 = some (.invokevirtual 274, 3) := rfl
theorem c_176_121 : mLk 176 121 = some (.istore_n 1, 1) := rfl
theorem c_176_122 : mLk 176 122 = some (.iload_n 1, 1) := rfl
theorem c_176_123 : mLk 176 123 = some (.iconst (-1), 1) := rfl
theorem c_176_124 : mLk 176 124 = some (.if_icmp .ne 12, 3) := rfl
theorem c_176_136 : mLk 176 136 = some (.aload_n 0, 1) := rfl
theorem c_176_137 : mLk 176 137 = some (.invokevirtual 131, 3) := rfl
theorem c_176_140 : mLk 176 140 = some (.ifCond .ne 4, 3) := rfl
theorem c_176_144 : mLk 176 144 = some (.aload_n 0, 1) := rfl
theorem c_176_145 : mLk 176 145 = some (.invokevirtual 223, 3) := rfl
theorem c_176_148 : mLk 176 148 = some (.aload_n 0, 1) := rfl
theorem c_176_149 : mLk 176 149 = some (.iconst 1, 1) := rfl
theorem c_176_150 : mLk 176 150 = some (.iload_n 1, 1) := rfl
theorem c_176_151 : mLk 176 151 = some (.invokevirtual 242, 3) := rfl
theorem c_176_127 : mLk 176 127 = some (.aload_n 0, 1) := rfl
theorem c_176_128 : mLk 176 128 = some (.iconst 1, 1) := rfl
theorem c_176_129 : mLk 176 129 = some (.aload_n 0, 1) := rfl
theorem c_176_130 : mLk 176 130 = some (.getfield 108, 3) := rfl
theorem c_176_133 : mLk 176 133 = some (.invokevirtual 138, 3) := rfl
theorem c_176_107 : mLk 176 107 = some (.aload_n 0, 1) := rfl
theorem c_176_108 : mLk 176 108 = some (.iconst 4, 1) := rfl
theorem c_176_109 : mLk 176 109 = some (.bipush 7, 2) := rfl
theorem c_176_111 : mLk 176 111 = some (.invokevirtual 269, 3) := rfl
theorem c_176_114 : mLk 176 114 = some (.goto 40, 3) := rfl
theorem c_176_84 : mLk 176 84 = some (.aload_n 0, 1) := rfl
theorem c_176_85 : mLk 176 85 = some (.iconst 5, 1) := rfl
theorem c_176_86 : mLk 176 86 = some (.bipush 6, 2) := rfl
theorem c_176_88 : mLk 176 88 = some (.invokevirtual 269, 3) := rfl
theorem c_176_91 : mLk 176 91 = some (.goto 63, 3) := rfl
theorem c_176_55 : mLk 176 55 = some (.aload_n 0, 1) := rfl
theorem c_176_56 : mLk 176 56 = some (.iconst 0, 1) := rfl
theorem c_176_57 : mLk 176 57 = some (.aload_n 0, 1) := rfl
theorem c_176_58 : mLk 176 58 = some (.iconst 0, 1) := rfl
theorem c_176_59 : mLk 176 59 = some (.sipush 999, 3) := rfl
theorem c_176_62 : mLk 176 62 = some (.invokevirtual 199, 3) := rfl
theorem c_176_65 : mLk 176 65 = some (.invokevirtual 242, 3) := rfl
theorem c_176_68 : mLk 176 68 = some (.goto 86, 3) := rfl
theorem c_176_17 : mLk 176 17 = some (.aload_n 0, 1) := rfl
theorem c_176_18 : mLk 176 18 = some (.iconst 1, 1) := rfl
theorem c_176_19 : mLk 176 19 = some (.invokevirtual 248, 3) := rfl
theorem c_176_22 : mLk 176 22 = some (.aload_n 0, 1) := rfl
theorem c_176_23 : mLk 176 23 = some (.invokevirtual 251, 3) := rfl
theorem c_176_26 : mLk 176 26 = some (.aload_n 0, 1) := rfl
theorem c_176_27 : mLk 176 27 = some (.bipush 41, 2) := rfl
theorem c_176_29 : mLk 176 29 = some (.invokevirtual 229, 3) := rfl
theorem c_176_32 : mLk 176 32 = some (.aload_n 0, 1) := rfl
theorem c_176_33 : mLk 176 33 = some (.dup, 1) := rfl
theorem c_176_34 : mLk 176 34 = some (.getfield 142, 3) := rfl
theorem c_176_37 : mLk 176 37 = some (.iconst 1, 1) := rfl
theorem c_176_38 : mLk 176 38 = some (.isub, 1) := rfl
theorem c_176_39 : mLk 176 39 = some (.putfield 142, 3) := rfl
theorem c_176_42 : mLk 176 42 = some (.goto 112, 3) := rfl
theorem km_8_269 : a_lk (kM 8) 269 = some (0, 175) := rfl
theorem km_8_274 : a_lk (kM 8) 274 = some (0, 172) := rfl
set_option maxRecDepth 100000 in
set_option maxHeartbeats 4000000 in
theorem s_176 {sc : List Int32} {e : Int} {d u P Q : Nat} {c : ME} {o : Int} {Z : AR → Prop} (hI : Iv u e P Q c) (ho : 0 ≤ o ∧ o ≤ 6) (hW : Nw c) (hq0 : (c 41 5 = (-1))) (hq1 : (c 41 4 ≤ c 41 3)) (hq2 : (c 41 3 ≤ 150)) (hq3 : (c 41 29 ≤ c 41 4)) (hq4 : (c 41 7 = o)) (H174 : ∀ (d9 : Nat) (c : ME) (Z : AR → Prop), d ≤ d9 → o + 1 ≤ 6 → Iv u e P Q c → Nw c → ((c 41 5 = (-1))) → ((c 41 4 ≤ c 41 3)) → ((c 41 3 ≤ 150)) → ((c 41 29 ≤ c 41 4)) → (c 41 7 = o + 1) → (∀ c2 : ME, Iv u e P Q c2 → (∀ (a : Nat) (j : Int), ¬ ((a = 41 ∧ j = 4) ∨ (a = 41 ∧ j = 5) ∨ (a = 41 ∧ j = 6) ∨ (a = 41 ∧ j = 7) ∨ (a = 41 ∧ j = 29) ∨ a = 50 ∨ a = 51) → c2 a j = c a j) → Nw c2 → ((c2 41 4 ≥ c 41 4)) → ((c2 41 7 = c 41 7)) → ((c 41 4 + c2 41 29 ≤ c 41 29 + c2 41 4)) → ((c2 41 5 < (-1)) ∨ (c2 41 5 > (-1)) ∨ (c2 41 4 ≤ c 41 3)) → ((c2 41 5 < (-1)) ∨ (c2 41 5 > (-1)) ∨ (Nh c2 = Nh c + 1)) → Z (.inl none, Wd P Q P P c2, 0, 0)) → Wp sc (d9 + 12) 174 0 [(0, .ref 41)] [] (Wd P Q P P c) 0 0 Z) (K : ∀ (c2 : ME), Iv u e P Q c2 → (∀ (a : Nat) (j : Int), ¬ ((a = 41 ∧ j = 4) ∨ (a = 41 ∧ j = 5) ∨ (a = 41 ∧ j = 6) ∨ (a = 41 ∧ j = 7) ∨ (a = 41 ∧ j = 29) ∨ a = 50 ∨ a = 51) → c2 a j = c a j) → Nw c2 → ((c2 41 4 ≥ c 41 4)) → ((c2 41 7 = c 41 7)) → ((c 41 4 + c2 41 29 ≤ c 41 29 + c2 41 4)) → ((c2 41 5 < (-1)) ∨ (c2 41 5 > (-1)) ∨ (c2 41 4 ≤ c 41 3)) → ((c2 41 5 < (-1)) ∨ (c2 41 5 > (-1)) ∨ (Nh c2 = Nh c + 1)) → Z (.inl (none), Wd P Q P P c2, 0, 0)) : Wp sc (d + 14) 176 0 [(0, .ref 41)] [] (Wd P Q P P c) 0 0 Z := by
  have hP := iv_P hI
  have hQ := iv_Q hI
  have h_1 := ir_41_5 hI
  have h_2 := ir_41_3 hI
  have h_3 := ir_41_4 hI
  have h_4 := ir_41_29 hI
  have h_5 := ir_41_7 hI
  have hnn := nw_nn hW (ir_41_29 hI).1
  refine q_aload_n c_176_0 rfl (v_cv c_176_1 km_8_131 rfl rfl (nb_ rfl) ⟨⟨rfl, rfl⟩, nb_ rfl, rfl⟩ (nb_ rfl) (nb_ rfl) (q_aload_n c_152_0 rfl (v_gi (z := 5) (v := c 41 5) c_152_1 kf_8_102 rfl (nb_ rfl) rfl rfl rfl (q_iconst c_152_4 (v_ic_ne_f (t := 12) c_152_5 rfl (by first | exact q_ef26995af hq0 | omega) (q_iconst c_152_8 (q_goto (t := 13) c_152_9 rfl ?_)))))))
  refine v_zret c_152_13 rfl (by decide) (bk_inl (v_if_ne_t (t := 8) c_176_4 rfl (by decide) (q_aload_n c_176_8 rfl (v_cv c_176_9 km_8_114 rfl rfl (nb_ rfl) ⟨⟨rfl, rfl⟩, nb_ rfl, rfl⟩ (nb_ rfl) (nb_ rfl) (s_154 hI (fun c_6 y_9 hI_7 hF_8 hy_9 h_10 h_11 h_12 h_13 => (bk_inl ?_)))))))
  have h_14 := ir_41_4 hI_7
  have h_15 := ir_43 hI (c_6 41 4)
  refine v_bip c_176_12 (by decide) ?_
  by_cases h_16 : y_9 ≠ 40
  · refine v_ic_ne_t (t := 45) c_176_14 rfl ⟨h_16, ⟨hy_9.1, hy_9.2⟩, by decide, by decide⟩ (q_aload_n c_176_45 rfl ?_)
    have kn_17 : Hid (c_6 41 3 = c 41 3) := hF_8 41 3 (fun h => absurd h.2 (ni rfl))
    have h_18 : c_6 41 3 = c 41 3 := (hid kn_17)
    refine v_cv c_176_46 km_8_114 rfl rfl (nb_ rfl) ⟨⟨rfl, rfl⟩, nb_ rfl, rfl⟩ (nb_ rfl) (nb_ rfl) (s_154 hI_7 (fun c_19 y_22 hI_20 hF_21 hy_22 h_23 h_24 h_25 h_26 => (bk_inl ?_)))
    have h_27 := ir_41_4 hI_20
    have h_28 := ir_43 hI (c_19 41 4)
    have kn_29 : Hid (c_6 43 (c_19 41 4) = c 43 (c_19 41 4)) := hF_8 43 (c_19 41 4) (fun h => absurd h.1 (nn rfl))
    have h_30 : c_6 43 (c_19 41 4) = c 43 (c_19 41 4) := (hid kn_29)
    refine q_call c_176_49 rfl rfl rfl (q_iload_n c_156_0 rfl (v_bip c_156_1 (by decide) ?_))
    by_cases h_31 : y_22 < 48
    · refine v_ic_lt_t (t := 16) c_156_3 rfl ⟨hy_22.1, h_31, by decide⟩ (q_iconst c_156_16 (v_zret c_156_17 rfl (by decide) (bk_inl (v_if_eq_t (t := 71) c_176_52 rfl (by decide) (q_aload_n c_176_71 rfl ?_)))))
      have kn_32 : Hid (c_19 41 3 = c 41 3) := (hF_21 41 3 (fun h => absurd h.2 (ni rfl))).trans (hid kn_17)
      have h_33 : c_19 41 3 = c 41 3 := (hid kn_32)
      refine v_cv c_176_72 km_8_214 rfl rfl (nb_ rfl) ⟨⟨rfl, rfl⟩, nb_ rfl, rfl⟩ (nb_ rfl) (nb_ rfl) (s_157 hI_20 (fun c_34 y_37 hI_35 hF_36 hy_37 h_38 h_39 h_40 h_41 h_42 => (bk_inl ?_)))
      have h_43 := ir_41_4 hI_35
      have h_44 := ir_43 hI (c_34 41 4)
      have kn_45 : Hid (c_6 43 (c_34 41 4) = c 43 (c_34 41 4)) := hF_8 43 (c_34 41 4) (fun h => absurd h.1 (nn rfl))
      have kn_46 : Hid (c_19 43 (c_34 41 4) = c 43 (c_34 41 4)) := (hF_21 43 (c_34 41 4) (fun h => absurd h.1 (nn rfl))).trans (hid kn_45)
      have h_47 : c_19 43 (c_34 41 4) = c 43 (c_34 41 4) := (hid kn_46)
      have h_48 := ir_43 hI (c_34 41 4 + 1)
      have kn_49 : Hid (c_6 43 (c_34 41 4 + 1) = c 43 (c_34 41 4 + 1)) := hF_8 43 (c_34 41 4 + 1) (fun h => absurd h.1 (nn rfl))
      have kn_50 : Hid (c_19 43 (c_34 41 4 + 1) = c 43 (c_34 41 4 + 1)) := (hF_21 43 (c_34 41 4 + 1) (fun h => absurd h.1 (nn rfl))).trans (hid kn_49)
      have h_51 : c_19 43 (c_34 41 4 + 1) = c 43 (c_34 41 4 + 1) := (hid kn_50)
      have h_52 := ir_43 hI (c_34 41 4 + 2)
      have kn_53 : Hid (c_6 43 (c_34 41 4 + 2) = c 43 (c_34 41 4 + 2)) := hF_8 43 (c_34 41 4 + 2) (fun h => absurd h.1 (nn rfl))
      have kn_54 : Hid (c_19 43 (c_34 41 4 + 2) = c 43 (c_34 41 4 + 2)) := (hF_21 43 (c_34 41 4 + 2) (fun h => absurd h.1 (nn rfl))).trans (hid kn_53)
      have h_55 : c_19 43 (c_34 41 4 + 2) = c 43 (c_34 41 4 + 2) := (hid kn_54)
      refine q_ldc_w_s c_176_75 rfl rfl (by decide) (q_call c_176_78 rfl rfl rfl (s_158_20 (bk_inl ?_)))
      by_cases h_56 : y_37 ≠ 12748404
      · refine v_ic_ne_t (t := 94) c_176_81 rfl ⟨h_56, ⟨hy_37.1, hy_37.2⟩, by decide, by decide⟩ (q_aload_n c_176_94 rfl ?_)
        have kn_57 : Hid (c_34 41 3 = c 41 3) := (hF_36 41 3 (fun h => absurd h.2 (ni rfl))).trans (hid kn_32)
        have h_58 : c_34 41 3 = c 41 3 := (hid kn_57)
        refine v_cv c_176_95 km_8_214 rfl rfl (nb_ rfl) ⟨⟨rfl, rfl⟩, nb_ rfl, rfl⟩ (nb_ rfl) (nb_ rfl) (s_157 hI_35 (fun c_59 y_62 hI_60 hF_61 hy_62 h_63 h_64 h_65 h_66 h_67 => (bk_inl ?_)))
        have h_68 := ir_41_4 hI_60
        have h_69 := ir_43 hI (c_59 41 4)
        have kn_70 : Hid (c_6 43 (c_59 41 4) = c 43 (c_59 41 4)) := hF_8 43 (c_59 41 4) (fun h => absurd h.1 (nn rfl))
        have kn_71 : Hid (c_19 43 (c_59 41 4) = c 43 (c_59 41 4)) := (hF_21 43 (c_59 41 4) (fun h => absurd h.1 (nn rfl))).trans (hid kn_70)
        have kn_72 : Hid (c_34 43 (c_59 41 4) = c 43 (c_59 41 4)) := (hF_36 43 (c_59 41 4) (fun h => absurd h.1 (nn rfl))).trans (hid kn_71)
        have h_73 : c_34 43 (c_59 41 4) = c 43 (c_59 41 4) := (hid kn_72)
        have h_74 := ir_43 hI (c_59 41 4 + 1)
        have kn_75 : Hid (c_6 43 (c_59 41 4 + 1) = c 43 (c_59 41 4 + 1)) := hF_8 43 (c_59 41 4 + 1) (fun h => absurd h.1 (nn rfl))
        have kn_76 : Hid (c_19 43 (c_59 41 4 + 1) = c 43 (c_59 41 4 + 1)) := (hF_21 43 (c_59 41 4 + 1) (fun h => absurd h.1 (nn rfl))).trans (hid kn_75)
        have kn_77 : Hid (c_34 43 (c_59 41 4 + 1) = c 43 (c_59 41 4 + 1)) := (hF_36 43 (c_59 41 4 + 1) (fun h => absurd h.1 (nn rfl))).trans (hid kn_76)
        have h_78 : c_34 43 (c_59 41 4 + 1) = c 43 (c_59 41 4 + 1) := (hid kn_77)
        have h_79 := ir_43 hI (c_59 41 4 + 2)
        have kn_80 : Hid (c_6 43 (c_59 41 4 + 2) = c 43 (c_59 41 4 + 2)) := hF_8 43 (c_59 41 4 + 2) (fun h => absurd h.1 (nn rfl))
        have kn_81 : Hid (c_19 43 (c_59 41 4 + 2) = c 43 (c_59 41 4 + 2)) := (hF_21 43 (c_59 41 4 + 2) (fun h => absurd h.1 (nn rfl))).trans (hid kn_80)
        have kn_82 : Hid (c_34 43 (c_59 41 4 + 2) = c 43 (c_59 41 4 + 2)) := (hF_36 43 (c_59 41 4 + 2) (fun h => absurd h.1 (nn rfl))).trans (hid kn_81)
        have h_83 : c_34 43 (c_59 41 4 + 2) = c 43 (c_59 41 4 + 2) := (hid kn_82)
        refine q_ldc_w_s c_176_98 rfl rfl (by decide) (q_call c_176_101 rfl rfl rfl (s_158_21 (bk_inl ?_)))
        by_cases h_84 : y_62 ≠ 441972
        · refine v_ic_ne_t (t := 117) c_176_104 rfl ⟨h_84, ⟨hy_62.1, hy_62.2⟩, by decide, by decide⟩ (q_aload_n c_176_117 rfl ?_)
          have kn_85 : Hid (c_59 41 3 = c 41 3) := (hF_61 41 3 (fun h => absurd h.2 (ni rfl))).trans (hid kn_57)
          have h_86 : c_59 41 3 = c 41 3 := (hid kn_85)
          refine v_cv c_176_118 km_8_274 rfl rfl (nb_ rfl) ⟨⟨rfl, rfl⟩, nb_ rfl, rfl⟩ (nb_ rfl) (nb_ rfl) (s_172 hI_60 (fun c_87 y_90 hI_88 hF_89 hy_90 h_91 h_92 h_93 h_94 => (bk_inl ?_)))
          have h_95 := ir_41_4 hI_88
          have h_96 := ir_43 hI (c_87 41 4)
          have kn_97 : Hid (c_6 43 (c_87 41 4) = c 43 (c_87 41 4)) := hF_8 43 (c_87 41 4) (fun h => absurd h.1 (nn rfl))
          have kn_98 : Hid (c_19 43 (c_87 41 4) = c 43 (c_87 41 4)) := (hF_21 43 (c_87 41 4) (fun h => absurd h.1 (nn rfl))).trans (hid kn_97)
          have kn_99 : Hid (c_34 43 (c_87 41 4) = c 43 (c_87 41 4)) := (hF_36 43 (c_87 41 4) (fun h => absurd h.1 (nn rfl))).trans (hid kn_98)
          have kn_100 : Hid (c_59 43 (c_87 41 4) = c 43 (c_87 41 4)) := (hF_61 43 (c_87 41 4) (fun h => absurd h.1 (nn rfl))).trans (hid kn_99)
          have h_101 : c_59 43 (c_87 41 4) = c 43 (c_87 41 4) := (hid kn_100)
          refine q_istore_n c_176_121 (nb_ rfl) (q_iload_n c_176_122 rfl (q_iconst c_176_123 ?_))
          by_cases h_102 : y_90 ≠ (-1)
          · refine v_ic_ne_t (t := 136) c_176_124 rfl ⟨h_102, ⟨(Int.le_trans (by decide) hy_90.1), (Int.le_trans hy_90.2 (by decide))⟩, by decide, by decide⟩ (q_aload_n c_176_136 rfl (v_cv c_176_137 km_8_131 rfl rfl (nb_ rfl) ⟨⟨rfl, rfl⟩, nb_ rfl, rfl⟩ (nb_ rfl) (nb_ rfl) (q_aload_n c_152_0 rfl ?_)))
            have kn_103 : Hid (c_6 41 5 = c 41 5) := hF_8 41 5 (fun h => absurd h.2 (ni rfl))
            have kn_104 : Hid (c_19 41 5 = c 41 5) := (hF_21 41 5 (fun h => absurd h.2 (ni rfl))).trans (hid kn_103)
            have kn_105 : Hid (c_34 41 5 = c 41 5) := (hF_36 41 5 (fun h => absurd h.2 (ni rfl))).trans (hid kn_104)
            have kn_106 : Hid (c_59 41 5 = c 41 5) := (hF_61 41 5 (fun h => absurd h.2 (ni rfl))).trans (hid kn_105)
            have kn_107 : Hid (c_87 41 5 = c 41 5) := (hF_89 41 5 (fun h => absurd h.2 (ni rfl))).trans (hid kn_106)
            refine v_gi (z := 5) (v := c 41 5) c_152_1 kf_8_102 rfl (nb_ rfl) rfl rfl (hid kn_107) (q_iconst c_152_4 (v_ic_ne_f (t := 12) c_152_5 rfl (by first | exact q_ef26995af hq0 | omega) (q_iconst c_152_8 (q_goto (t := 13) c_152_9 rfl (v_zret c_152_13 rfl (by decide) (bk_inl (v_if_ne_t (t := 144) c_176_140 rfl (by decide) ?_)))))))
            refine q_aload_n c_176_144 rfl ?_
            have kn_108 : Hid (c_87 41 3 = c 41 3) := (hF_89 41 3 (fun h => absurd h.2 (ni rfl))).trans (hid kn_85)
            have h_109 : c_87 41 3 = c 41 3 := (hid kn_108)
            have kn_110 : Hid (c_87 43 (c_87 41 4) = c 43 (c_87 41 4)) := (hF_89 43 (c_87 41 4) (fun h => absurd h.1 (nn rfl))).trans (hid kn_100)
            have h_111 : c_87 43 (c_87 41 4) = c 43 (c_87 41 4) := (hid kn_110)
            have h_112 := ir_43 hI (c_87 41 4 + 1)
            have kn_113 : Hid (c_6 43 (c_87 41 4 + 1) = c 43 (c_87 41 4 + 1)) := hF_8 43 (c_87 41 4 + 1) (fun h => absurd h.1 (nn rfl))
            have kn_114 : Hid (c_19 43 (c_87 41 4 + 1) = c 43 (c_87 41 4 + 1)) := (hF_21 43 (c_87 41 4 + 1) (fun h => absurd h.1 (nn rfl))).trans (hid kn_113)
            have kn_115 : Hid (c_34 43 (c_87 41 4 + 1) = c 43 (c_87 41 4 + 1)) := (hF_36 43 (c_87 41 4 + 1) (fun h => absurd h.1 (nn rfl))).trans (hid kn_114)
            have kn_116 : Hid (c_59 43 (c_87 41 4 + 1) = c 43 (c_87 41 4 + 1)) := (hF_61 43 (c_87 41 4 + 1) (fun h => absurd h.1 (nn rfl))).trans (hid kn_115)
            have kn_117 : Hid (c_87 43 (c_87 41 4 + 1) = c 43 (c_87 41 4 + 1)) := (hF_89 43 (c_87 41 4 + 1) (fun h => absurd h.1 (nn rfl))).trans (hid kn_116)
            have h_118 : c_87 43 (c_87 41 4 + 1) = c 43 (c_87 41 4 + 1) := (hid kn_117)
            have h_119 := ir_43 hI (c_87 41 4 + 2)
            have kn_120 : Hid (c_6 43 (c_87 41 4 + 2) = c 43 (c_87 41 4 + 2)) := hF_8 43 (c_87 41 4 + 2) (fun h => absurd h.1 (nn rfl))
            have kn_121 : Hid (c_19 43 (c_87 41 4 + 2) = c 43 (c_87 41 4 + 2)) := (hF_21 43 (c_87 41 4 + 2) (fun h => absurd h.1 (nn rfl))).trans (hid kn_120)
            have kn_122 : Hid (c_34 43 (c_87 41 4 + 2) = c 43 (c_87 41 4 + 2)) := (hF_36 43 (c_87 41 4 + 2) (fun h => absurd h.1 (nn rfl))).trans (hid kn_121)
            have kn_123 : Hid (c_59 43 (c_87 41 4 + 2) = c 43 (c_87 41 4 + 2)) := (hF_61 43 (c_87 41 4 + 2) (fun h => absurd h.1 (nn rfl))).trans (hid kn_122)
            have kn_124 : Hid (c_87 43 (c_87 41 4 + 2) = c 43 (c_87 41 4 + 2)) := (hF_89 43 (c_87 41 4 + 2) (fun h => absurd h.1 (nn rfl))).trans (hid kn_123)
            have h_125 : c_87 43 (c_87 41 4 + 2) = c 43 (c_87 41 4 + 2) := (hid kn_124)
            refine v_cv c_176_145 km_8_223 rfl rfl (nb_ rfl) ⟨⟨rfl, rfl⟩, nb_ rfl, rfl⟩ (nb_ rfl) (nb_ rfl) (s_159 hI_88 (fun c_126 hI_127 hF_128 h_129 h_130 h_131 h_132 => (bk_inl ?_)))
            have h_133 := ir_41_4 hI_127
            refine q_aload_n c_176_148 rfl (q_iconst c_176_149 (q_iload_n c_176_150 rfl ?_))
            have kn_134 : Hid (c_6 41 29 = c 41 29) := hF_8 41 29 (fun h => absurd h.2 (ni rfl))
            have kn_135 : Hid (c_19 41 29 = c 41 29) := (hF_21 41 29 (fun h => absurd h.2 (ni rfl))).trans (hid kn_134)
            have kn_136 : Hid (c_34 41 29 = c 41 29) := (hF_36 41 29 (fun h => absurd h.2 (ni rfl))).trans (hid kn_135)
            have kn_137 : Hid (c_59 41 29 = c 41 29) := (hF_61 41 29 (fun h => absurd h.2 (ni rfl))).trans (hid kn_136)
            have kn_138 : Hid (c_87 41 29 = c 41 29) := (hF_89 41 29 (fun h => absurd h.2 (ni rfl))).trans (hid kn_137)
            have kn_139 : Hid (c_126 41 29 = c 41 29) := (hF_128 41 29 (fun h => absurd h.2 (ni rfl))).trans (hid kn_138)
            have h_140 : c_126 41 29 = c 41 29 := (hid kn_139)
            have kn_141 : Hid (c_126 41 5 = c 41 5) := (hF_128 41 5 (fun h => absurd h.2 (ni rfl))).trans (hid kn_107)
            have h_142 : c_126 41 5 = c 41 5 := (hid kn_141)
            obtain ⟨hW_143, hN_144⟩ : Nw c_126 ∧ Nh c_126 = Nh c := nh_fr hW (fun j => (hF_128 50 j (fun h => absurd h.1 (nn rfl))).trans ((hF_89 50 j (fun h => absurd h.1 (nn rfl))).trans ((hF_61 50 j (fun h => absurd h.1 (nn rfl))).trans ((hF_36 50 j (fun h => absurd h.1 (nn rfl))).trans ((hF_21 50 j (fun h => absurd h.1 (nn rfl))).trans (hF_8 50 j (fun h => absurd h.1 (nn rfl)))))))) (fun j => (hF_128 51 j (fun h => absurd h.1 (nn rfl))).trans ((hF_89 51 j (fun h => absurd h.1 (nn rfl))).trans ((hF_61 51 j (fun h => absurd h.1 (nn rfl))).trans ((hF_36 51 j (fun h => absurd h.1 (nn rfl))).trans ((hF_21 51 j (fun h => absurd h.1 (nn rfl))).trans (hF_8 51 j (fun h => absurd h.1 (nn rfl)))))))) ((hF_128 41 29 (fun h => absurd h.2 (ni rfl))).trans ((hF_89 41 29 (fun h => absurd h.2 (ni rfl))).trans ((hF_61 41 29 (fun h => absurd h.2 (ni rfl))).trans ((hF_36 41 29 (fun h => absurd h.2 (ni rfl))).trans ((hF_21 41 29 (fun h => absurd h.2 (ni rfl))).trans (hF_8 41 29 (fun h => absurd h.2 (ni rfl))))))))
            refine v_cv c_176_151 km_8_242 rfl rfl (nb_ rfl) ⟨⟨rfl, rfl⟩, nb_ rfl, rfl⟩ (nb_ rfl) (nb_ rfl) (s_170 (a1 := 1) (a2 := y_90) hI_127 (show 0 ≤ 1 ∧ 1 ≤ 8 from ⟨by decide, by decide⟩) (show 0 ≤ y_90 ∧ y_90 ≤ 999 from ⟨by first | (clear ho hq0 hq1 hq2 hq3 hq4 h_1 h_2 h_3 h_4 h_5 hnn h_14 h_10 h_15 h_27 h_23 h_28 h_31 h_43 h_38 h_44 h_48 h_52 h_68 h_63 h_69 h_74 h_79 h_95 h_91 h_96 h_112 h_119 h_133 h_129 h_11 h_12 h_13 h_16 h_24 h_25 h_26 h_39 h_40 h_41 h_42 h_56 h_64 h_65 h_66 h_67 h_84 h_92 h_93 h_94 h_130 h_131 h_132; omega) | omega, (Int.le_trans hy_90.2 (by decide))⟩) hW_143 (Or.inr (Or.inr (by first | (clear ho hq0 hq1 hq4 h_1 h_2 h_3 h_4 h_5 hnn h_14 h_15 h_27 h_28 h_31 h_43 h_44 h_48 h_52 h_68 h_69 h_74 h_79 h_95 h_96 h_112 h_119 h_133 h_129 h_11 h_12 h_13 h_16 h_24 h_25 h_26 h_39 h_40 h_41 h_42 h_56 h_64 h_65 h_66 h_67 h_84 h_92 h_94 h_130 h_131 h_132; omega) | omega))) (Or.inr (Or.inr (Or.inl (by first | decide | omega)))) (Or.inr (Or.inr (Or.inr (by first | (clear ho hq0 hq1 hq2 hq3 hq4 h_1 h_2 h_3 h_4 h_5 hnn h_14 h_10 h_15 h_27 h_23 h_28 h_31 h_43 h_38 h_44 h_48 h_52 h_68 h_63 h_69 h_74 h_79 h_95 h_91 h_96 h_112 h_119 h_133 h_129 h_11 h_12 h_13 h_16 h_24 h_25 h_26 h_39 h_40 h_41 h_42 h_56 h_64 h_65 h_66 h_67 h_84 h_92 h_93 h_94 h_102 h_130 h_131 h_132; omega) | omega)))) (fun c_145 hI_146 hF_147 hW_148 h_149 h_150 h_151 h_152 => (bk_inl ?_)))
            have h_153 := ir_41_29 hI_146
            refine q_vret rfl rfl ?_
            have kn_154 : Hid (c_145 41 4 = c_126 41 4) := hF_147 41 4 qn_fcc0aaabe
            have h_155 : c_145 41 4 = c_126 41 4 := (hid kn_154)
            have kn_156 : Hid (c_145 41 5 = c 41 5) := (hF_147 41 5 qn_c65a44569).trans (hid kn_141)
            have h_157 : c_145 41 5 = c 41 5 := (hid kn_156)
            have kn_158 : Hid (c_6 41 7 = c 41 7) := hF_8 41 7 (fun h => absurd h.2 (ni rfl))
            have kn_159 : Hid (c_19 41 7 = c 41 7) := (hF_21 41 7 (fun h => absurd h.2 (ni rfl))).trans (hid kn_158)
            have kn_160 : Hid (c_34 41 7 = c 41 7) := (hF_36 41 7 (fun h => absurd h.2 (ni rfl))).trans (hid kn_159)
            have kn_161 : Hid (c_59 41 7 = c 41 7) := (hF_61 41 7 (fun h => absurd h.2 (ni rfl))).trans (hid kn_160)
            have kn_162 : Hid (c_87 41 7 = c 41 7) := (hF_89 41 7 (fun h => absurd h.2 (ni rfl))).trans (hid kn_161)
            have kn_163 : Hid (c_126 41 7 = c 41 7) := (hF_128 41 7 (fun h => absurd h.2 (ni rfl))).trans (hid kn_162)
            have kn_164 : Hid (c_145 41 7 = c 41 7) := (hF_147 41 7 qn_5700af53f).trans (hid kn_163)
            have h_165 : c_145 41 7 = c 41 7 := (hid kn_164)
            exact K c_145 hI_146 (fun a j hm => (hF_147 a j (qv_d7b4eb562 hm)).trans ((hF_128 a j (fun h => hm (Or.inl h))).trans ((hF_89 a j (fun h => hm (Or.inl h))).trans ((hF_61 a j (fun h => hm (Or.inl h))).trans ((hF_36 a j (fun h => hm (Or.inl h))).trans ((hF_21 a j (fun h => hm (Or.inl h))).trans (hF_8 a j (fun h => hm (Or.inl h))))))))) hW_148 (by first | exact q_b2199921c h_10 h_129 h_23 h_38 h_63 h_91 | omega) (by first | assumption | omega) (by first | (clear ho hq1 hq2 hq3 hq4 h_1 h_2 h_3 h_4 h_5 hnn h_14 h_15 h_27 h_28 h_31 h_43 h_44 h_48 h_52 h_68 h_69 h_74 h_79 h_95 h_96 h_112 h_119 h_133 h_129 h_153 h_11 h_12 h_13 h_16 h_24 h_25 h_26 h_39 h_40 h_41 h_42 h_56 h_64 h_65 h_66 h_67 h_84 h_92 h_130 h_132 h_150 h_151 h_152; omega) | omega) (Or.inr (Or.inr (by first | exact q_fc5232ffa h_12 h_130 h_25 h_39 h_64 h_92 hq1 h_109 h_18 h_33 h_58 h_86 | omega))) (Or.inr (Or.inr (by first | (clear ho hq1 hq2 hq3 hq4 h_1 h_2 h_3 h_4 h_5 hnn h_14 h_10 h_15 h_27 h_23 h_28 h_31 h_43 h_38 h_44 h_48 h_52 h_68 h_63 h_69 h_74 h_79 h_95 h_91 h_96 h_112 h_119 h_133 h_129 h_153 h_11 h_12 h_13 h_16 h_24 h_25 h_26 h_39 h_40 h_41 h_42 h_56 h_64 h_65 h_66 h_67 h_84 h_92 h_93 h_94 h_102 h_130 h_131 h_132 h_149 h_150 h_152; omega) | omega)))
          · refine v_ic_ne_f (t := 136) c_176_124 rfl (Decidable.not_not.mp h_102) (q_aload_n c_176_127 rfl (q_iconst c_176_128 (q_aload_n c_176_129 rfl (v_gi (z := 4) (v := c_87 41 4) c_176_130 kf_8_108 rfl (nb_ rfl) rfl rfl rfl (v_cv c_176_133 km_8_138 rfl rfl (nb_ rfl) ⟨⟨rfl, rfl⟩, nb_ rfl, rfl⟩ (nb_ rfl) (nb_ rfl) (s_153 (a1 := 1) (a2 := c_87 41 4) hI_88 (show 1 ≤ 1 ∧ 1 ≤ 3 from ⟨by decide, by decide⟩) (show 0 ≤ c_87 41 4 ∧ c_87 41 4 ≤ 605 from h_95) (fun c_166 hI_167 hF_168 h_169 => (bk_inl ?_))))))))
            have h_170 := ir_41_5 hI_167
            refine q_aload_n c_176_136 rfl (v_cv c_176_137 km_8_131 rfl rfl (nb_ rfl) ⟨⟨rfl, rfl⟩, nb_ rfl, rfl⟩ (nb_ rfl) (nb_ rfl) (q_aload_n c_152_0 rfl (v_gi (z := 5) (v := c_166 41 5) c_152_1 kf_8_102 rfl (nb_ rfl) rfl rfl rfl (q_iconst c_152_4 (v_ic_ne_t (t := 12) c_152_5 rfl ⟨by first | exact q_e869299d0 h_169 h_170 | omega, ⟨(Int.le_trans (by decide) h_170.1), (Int.le_trans h_170.2 (by decide))⟩, by decide, by decide⟩ (q_iconst c_152_12 (v_zret c_152_13 rfl (by decide) ?_)))))))
            refine bk_inl (v_if_ne_f (t := 144) c_176_140 rfl (by decide) (q_vret rfl rfl ?_))
            obtain ⟨hW_171, hN_172⟩ : Nw c_166 ∧ Nh c_166 = Nh c := nh_fr hW (fun j => (hF_168 50 j (fun q => q.elim (fun h => absurd h.1 (nn rfl)) (fun h => absurd h.1 (nn rfl)))).trans ((hF_89 50 j (fun h => absurd h.1 (nn rfl))).trans ((hF_61 50 j (fun h => absurd h.1 (nn rfl))).trans ((hF_36 50 j (fun h => absurd h.1 (nn rfl))).trans ((hF_21 50 j (fun h => absurd h.1 (nn rfl))).trans (hF_8 50 j (fun h => absurd h.1 (nn rfl)))))))) (fun j => (hF_168 51 j (fun q => q.elim (fun h => absurd h.1 (nn rfl)) (fun h => absurd h.1 (nn rfl)))).trans ((hF_89 51 j (fun h => absurd h.1 (nn rfl))).trans ((hF_61 51 j (fun h => absurd h.1 (nn rfl))).trans ((hF_36 51 j (fun h => absurd h.1 (nn rfl))).trans ((hF_21 51 j (fun h => absurd h.1 (nn rfl))).trans (hF_8 51 j (fun h => absurd h.1 (nn rfl)))))))) ((hF_168 41 29 (fun q => q.elim (fun h => absurd h.2 (ni rfl)) (fun h => absurd h.2 (ni rfl)))).trans ((hF_89 41 29 (fun h => absurd h.2 (ni rfl))).trans ((hF_61 41 29 (fun h => absurd h.2 (ni rfl))).trans ((hF_36 41 29 (fun h => absurd h.2 (ni rfl))).trans ((hF_21 41 29 (fun h => absurd h.2 (ni rfl))).trans (hF_8 41 29 (fun h => absurd h.2 (ni rfl))))))))
            have kn_173 : Hid (c_6 41 29 = c 41 29) := hF_8 41 29 (fun h => absurd h.2 (ni rfl))
            have kn_174 : Hid (c_19 41 29 = c 41 29) := (hF_21 41 29 (fun h => absurd h.2 (ni rfl))).trans (hid kn_173)
            have kn_175 : Hid (c_34 41 29 = c 41 29) := (hF_36 41 29 (fun h => absurd h.2 (ni rfl))).trans (hid kn_174)
            have kn_176 : Hid (c_59 41 29 = c 41 29) := (hF_61 41 29 (fun h => absurd h.2 (ni rfl))).trans (hid kn_175)
            have kn_177 : Hid (c_87 41 29 = c 41 29) := (hF_89 41 29 (fun h => absurd h.2 (ni rfl))).trans (hid kn_176)
            have kn_178 : Hid (c_166 41 29 = c 41 29) := (hF_168 41 29 (fun q => q.elim (fun h => absurd h.2 (ni rfl)) (fun h => absurd h.2 (ni rfl)))).trans (hid kn_177)
            have h_179 : c_166 41 29 = c 41 29 := (hid kn_178)
            have kn_180 : Hid (c_166 41 4 = c_87 41 4) := hF_168 41 4 (fun q => q.elim (fun h => absurd h.2 (ni rfl)) (fun h => absurd h.2 (ni rfl)))
            have h_181 : c_166 41 4 = c_87 41 4 := (hid kn_180)
            have kn_182 : Hid (c_6 41 7 = c 41 7) := hF_8 41 7 (fun h => absurd h.2 (ni rfl))
            have kn_183 : Hid (c_19 41 7 = c 41 7) := (hF_21 41 7 (fun h => absurd h.2 (ni rfl))).trans (hid kn_182)
            have kn_184 : Hid (c_34 41 7 = c 41 7) := (hF_36 41 7 (fun h => absurd h.2 (ni rfl))).trans (hid kn_183)
            have kn_185 : Hid (c_59 41 7 = c 41 7) := (hF_61 41 7 (fun h => absurd h.2 (ni rfl))).trans (hid kn_184)
            have kn_186 : Hid (c_87 41 7 = c 41 7) := (hF_89 41 7 (fun h => absurd h.2 (ni rfl))).trans (hid kn_185)
            have kn_187 : Hid (c_166 41 7 = c 41 7) := (hF_168 41 7 (fun q => q.elim (fun h => absurd h.2 (ni rfl)) (fun h => absurd h.2 (ni rfl)))).trans (hid kn_186)
            have h_188 : c_166 41 7 = c 41 7 := (hid kn_187)
            exact K c_166 hI_167 (fun a j hm => (hF_168 a j (qv_0c9f14c52 hm)).trans ((hF_89 a j (fun h => hm (Or.inl h))).trans ((hF_61 a j (fun h => hm (Or.inl h))).trans ((hF_36 a j (fun h => hm (Or.inl h))).trans ((hF_21 a j (fun h => hm (Or.inl h))).trans (hF_8 a j (fun h => hm (Or.inl h)))))))) hW_171 (by first | exact q_fdaccc704 h_10 h_23 h_38 h_63 h_91 | omega) (by first | assumption | omega) (by first | exact q_d4f8c5bee h_10 h_23 h_38 h_63 h_91 | omega) (Or.inr (Or.inl (by first | exact q_a3ee8eff6 h_169 h_170 | omega))) (Or.inr (Or.inl (by first | exact q_a3ee8eff6 h_169 h_170 | omega)))
        · refine v_ic_ne_f (t := 117) c_176_104 rfl (Decidable.not_not.mp h_84) (q_aload_n c_176_107 rfl (q_iconst c_176_108 (v_bip c_176_109 (by decide) ?_)))
          have kn_189 : Hid (c_6 41 5 = c 41 5) := hF_8 41 5 (fun h => absurd h.2 (ni rfl))
          have kn_190 : Hid (c_19 41 5 = c 41 5) := (hF_21 41 5 (fun h => absurd h.2 (ni rfl))).trans (hid kn_189)
          have kn_191 : Hid (c_34 41 5 = c 41 5) := (hF_36 41 5 (fun h => absurd h.2 (ni rfl))).trans (hid kn_190)
          have kn_192 : Hid (c_59 41 5 = c 41 5) := (hF_61 41 5 (fun h => absurd h.2 (ni rfl))).trans (hid kn_191)
          have h_193 : c_59 41 5 = c 41 5 := (hid kn_192)
          have kn_194 : Hid (c_59 41 3 = c 41 3) := (hF_61 41 3 (fun h => absurd h.2 (ni rfl))).trans (hid kn_57)
          have h_195 : c_59 41 3 = c 41 3 := (hid kn_194)
          have kn_196 : Hid (c_6 41 29 = c 41 29) := hF_8 41 29 (fun h => absurd h.2 (ni rfl))
          have kn_197 : Hid (c_19 41 29 = c 41 29) := (hF_21 41 29 (fun h => absurd h.2 (ni rfl))).trans (hid kn_196)
          have kn_198 : Hid (c_34 41 29 = c 41 29) := (hF_36 41 29 (fun h => absurd h.2 (ni rfl))).trans (hid kn_197)
          have kn_199 : Hid (c_59 41 29 = c 41 29) := (hF_61 41 29 (fun h => absurd h.2 (ni rfl))).trans (hid kn_198)
          have h_200 : c_59 41 29 = c 41 29 := (hid kn_199)
          have kn_201 : Hid (c_6 41 7 = c 41 7) := hF_8 41 7 (fun h => absurd h.2 (ni rfl))
          have kn_202 : Hid (c_19 41 7 = c 41 7) := (hF_21 41 7 (fun h => absurd h.2 (ni rfl))).trans (hid kn_201)
          have kn_203 : Hid (c_34 41 7 = c 41 7) := (hF_36 41 7 (fun h => absurd h.2 (ni rfl))).trans (hid kn_202)
          have kn_204 : Hid (c_59 41 7 = c 41 7) := (hF_61 41 7 (fun h => absurd h.2 (ni rfl))).trans (hid kn_203)
          have h_205 : c_59 41 7 = c 41 7 := (hid kn_204)
          obtain ⟨hW_206, hN_207⟩ : Nw c_59 ∧ Nh c_59 = Nh c := nh_fr hW (fun j => (hF_61 50 j (fun h => absurd h.1 (nn rfl))).trans ((hF_36 50 j (fun h => absurd h.1 (nn rfl))).trans ((hF_21 50 j (fun h => absurd h.1 (nn rfl))).trans (hF_8 50 j (fun h => absurd h.1 (nn rfl)))))) (fun j => (hF_61 51 j (fun h => absurd h.1 (nn rfl))).trans ((hF_36 51 j (fun h => absurd h.1 (nn rfl))).trans ((hF_21 51 j (fun h => absurd h.1 (nn rfl))).trans (hF_8 51 j (fun h => absurd h.1 (nn rfl)))))) ((hF_61 41 29 (fun h => absurd h.2 (ni rfl))).trans ((hF_36 41 29 (fun h => absurd h.2 (ni rfl))).trans ((hF_21 41 29 (fun h => absurd h.2 (ni rfl))).trans (hF_8 41 29 (fun h => absurd h.2 (ni rfl))))))
          refine v_cv c_176_111 km_8_269 rfl rfl (nb_ rfl) ⟨⟨rfl, rfl⟩, nb_ rfl, rfl⟩ (nb_ rfl) (nb_ rfl) (s_175 (o := o) (a1 := 4) (a2 := 7) hI_60 (show 4 ≤ 4 ∧ 4 ≤ 5 from ⟨by decide, by decide⟩) (show 6 ≤ 7 ∧ 7 ≤ 7 from ⟨by decide, by decide⟩) (show 0 ≤ o ∧ o ≤ 6 from by omega) hW_206 (by first | exact q_ef26995af hq0 | omega) (by first | exact q_f38071e10 h_65 h_84 h_58 | omega) (by first | exact q_7024b37ce hq2 | omega) (by first | exact q_c26d8ce25 h_10 h_23 h_38 h_63 hq3 | omega) (by first | exact q_cea541e22 hq4 | omega) (by first | exact q_b7af7f5c6 h_65 h_84 h_58 | omega) H174 (fun c_208 hI_209 hF_210 hW_211 h_212 h_213 h_214 h_215 h_216 => (bk_inl ?_)))
          have h_217 := ir_41_4 hI_209
          have h_218 := ir_41_7 hI_209
          have h_219 := ir_41_29 hI_209
          have h_220 := ir_41_5 hI_209
          refine q_goto (t := 154) c_176_114 rfl (q_vret rfl rfl ?_)
          exact K c_208 hI_209 (fun a j hm => (hF_210 a j hm).trans ((hF_61 a j (fun h => hm (Or.inl h))).trans ((hF_36 a j (fun h => hm (Or.inl h))).trans ((hF_21 a j (fun h => hm (Or.inl h))).trans (hF_8 a j (fun h => hm (Or.inl h))))))) hW_211 (by first | exact q_b251de6c9 h_10 h_212 h_23 h_38 h_63 | omega) (by first | exact q_1bb533b1a h_213 h_205 | omega) (by first | exact q_f1b148d40 h_10 h_214 h_23 h_38 h_63 h_200 | omega) (by omega) (by omega)
      · refine v_ic_ne_f (t := 94) c_176_81 rfl (Decidable.not_not.mp h_56) (q_aload_n c_176_84 rfl (q_iconst c_176_85 (v_bip c_176_86 (by decide) ?_)))
        have kn_221 : Hid (c_6 41 5 = c 41 5) := hF_8 41 5 (fun h => absurd h.2 (ni rfl))
        have kn_222 : Hid (c_19 41 5 = c 41 5) := (hF_21 41 5 (fun h => absurd h.2 (ni rfl))).trans (hid kn_221)
        have kn_223 : Hid (c_34 41 5 = c 41 5) := (hF_36 41 5 (fun h => absurd h.2 (ni rfl))).trans (hid kn_222)
        have h_224 : c_34 41 5 = c 41 5 := (hid kn_223)
        have kn_225 : Hid (c_34 41 3 = c 41 3) := (hF_36 41 3 (fun h => absurd h.2 (ni rfl))).trans (hid kn_32)
        have h_226 : c_34 41 3 = c 41 3 := (hid kn_225)
        have kn_227 : Hid (c_6 41 29 = c 41 29) := hF_8 41 29 (fun h => absurd h.2 (ni rfl))
        have kn_228 : Hid (c_19 41 29 = c 41 29) := (hF_21 41 29 (fun h => absurd h.2 (ni rfl))).trans (hid kn_227)
        have kn_229 : Hid (c_34 41 29 = c 41 29) := (hF_36 41 29 (fun h => absurd h.2 (ni rfl))).trans (hid kn_228)
        have h_230 : c_34 41 29 = c 41 29 := (hid kn_229)
        have kn_231 : Hid (c_6 41 7 = c 41 7) := hF_8 41 7 (fun h => absurd h.2 (ni rfl))
        have kn_232 : Hid (c_19 41 7 = c 41 7) := (hF_21 41 7 (fun h => absurd h.2 (ni rfl))).trans (hid kn_231)
        have kn_233 : Hid (c_34 41 7 = c 41 7) := (hF_36 41 7 (fun h => absurd h.2 (ni rfl))).trans (hid kn_232)
        have h_234 : c_34 41 7 = c 41 7 := (hid kn_233)
        obtain ⟨hW_235, hN_236⟩ : Nw c_34 ∧ Nh c_34 = Nh c := nh_fr hW (fun j => (hF_36 50 j (fun h => absurd h.1 (nn rfl))).trans ((hF_21 50 j (fun h => absurd h.1 (nn rfl))).trans (hF_8 50 j (fun h => absurd h.1 (nn rfl))))) (fun j => (hF_36 51 j (fun h => absurd h.1 (nn rfl))).trans ((hF_21 51 j (fun h => absurd h.1 (nn rfl))).trans (hF_8 51 j (fun h => absurd h.1 (nn rfl))))) ((hF_36 41 29 (fun h => absurd h.2 (ni rfl))).trans ((hF_21 41 29 (fun h => absurd h.2 (ni rfl))).trans (hF_8 41 29 (fun h => absurd h.2 (ni rfl)))))
        refine v_cv c_176_88 km_8_269 rfl rfl (nb_ rfl) ⟨⟨rfl, rfl⟩, nb_ rfl, rfl⟩ (nb_ rfl) (nb_ rfl) (s_175 (o := o) (a1 := 5) (a2 := 6) hI_35 (show 4 ≤ 5 ∧ 5 ≤ 5 from ⟨by decide, by decide⟩) (show 6 ≤ 6 ∧ 6 ≤ 7 from ⟨by decide, by decide⟩) (show 0 ≤ o ∧ o ≤ 6 from by omega) hW_235 (by first | exact q_ef26995af hq0 | omega) (by first | exact q_578fd8ea3 h_40 h_56 h_33 | omega) (by first | exact q_7024b37ce hq2 | omega) (by first | exact q_e4cb9442e h_10 h_23 h_38 hq3 | omega) (by first | exact q_cea541e22 hq4 | omega) (by first | exact q_79cb9195c h_40 h_56 h_33 | omega) H174 (fun c_237 hI_238 hF_239 hW_240 h_241 h_242 h_243 h_244 h_245 => (bk_inl ?_)))
        have h_246 := ir_41_4 hI_238
        have h_247 := ir_41_7 hI_238
        have h_248 := ir_41_29 hI_238
        have h_249 := ir_41_5 hI_238
        refine q_goto (t := 154) c_176_91 rfl (q_vret rfl rfl ?_)
        exact K c_237 hI_238 (fun a j hm => (hF_239 a j hm).trans ((hF_36 a j (fun h => hm (Or.inl h))).trans ((hF_21 a j (fun h => hm (Or.inl h))).trans (hF_8 a j (fun h => hm (Or.inl h)))))) hW_240 (by first | exact q_dc73f781e h_10 h_23 h_241 h_38 | omega) (by first | exact q_1bb533b1a h_242 h_234 | omega) (by first | exact q_f2b397259 h_10 h_23 h_243 h_38 h_230 | omega) (by omega) (by omega)
    · refine v_ic_lt_f (t := 16) c_156_3 rfl ⟨by decide, (Int.not_lt.mp h_31), hy_22.2⟩ (q_iload_n c_156_6 rfl (v_bip c_156_7 (by decide) ?_))
      by_cases h_250 : y_22 > 57
      · refine v_ic_gt_t (t := 16) c_156_9 rfl ⟨by decide, h_250, hy_22.2⟩ (q_iconst c_156_16 (v_zret c_156_17 rfl (by decide) (bk_inl (v_if_eq_t (t := 71) c_176_52 rfl (by decide) (q_aload_n c_176_71 rfl ?_)))))
        have kn_251 : Hid (c_19 41 3 = c 41 3) := (hF_21 41 3 (fun h => absurd h.2 (ni rfl))).trans (hid kn_17)
        have h_252 : c_19 41 3 = c 41 3 := (hid kn_251)
        refine v_cv c_176_72 km_8_214 rfl rfl (nb_ rfl) ⟨⟨rfl, rfl⟩, nb_ rfl, rfl⟩ (nb_ rfl) (nb_ rfl) (s_157 hI_20 (fun c_253 y_256 hI_254 hF_255 hy_256 h_257 h_258 h_259 h_260 h_261 => (bk_inl ?_)))
        have h_262 := ir_41_4 hI_254
        have h_263 := ir_43 hI (c_253 41 4)
        have kn_264 : Hid (c_6 43 (c_253 41 4) = c 43 (c_253 41 4)) := hF_8 43 (c_253 41 4) (fun h => absurd h.1 (nn rfl))
        have kn_265 : Hid (c_19 43 (c_253 41 4) = c 43 (c_253 41 4)) := (hF_21 43 (c_253 41 4) (fun h => absurd h.1 (nn rfl))).trans (hid kn_264)
        have h_266 : c_19 43 (c_253 41 4) = c 43 (c_253 41 4) := (hid kn_265)
        have h_267 := ir_43 hI (c_253 41 4 + 1)
        have kn_268 : Hid (c_6 43 (c_253 41 4 + 1) = c 43 (c_253 41 4 + 1)) := hF_8 43 (c_253 41 4 + 1) (fun h => absurd h.1 (nn rfl))
        have kn_269 : Hid (c_19 43 (c_253 41 4 + 1) = c 43 (c_253 41 4 + 1)) := (hF_21 43 (c_253 41 4 + 1) (fun h => absurd h.1 (nn rfl))).trans (hid kn_268)
        have h_270 : c_19 43 (c_253 41 4 + 1) = c 43 (c_253 41 4 + 1) := (hid kn_269)
        have h_271 := ir_43 hI (c_253 41 4 + 2)
        have kn_272 : Hid (c_6 43 (c_253 41 4 + 2) = c 43 (c_253 41 4 + 2)) := hF_8 43 (c_253 41 4 + 2) (fun h => absurd h.1 (nn rfl))
        have kn_273 : Hid (c_19 43 (c_253 41 4 + 2) = c 43 (c_253 41 4 + 2)) := (hF_21 43 (c_253 41 4 + 2) (fun h => absurd h.1 (nn rfl))).trans (hid kn_272)
        have h_274 : c_19 43 (c_253 41 4 + 2) = c 43 (c_253 41 4 + 2) := (hid kn_273)
        refine q_ldc_w_s c_176_75 rfl rfl (by decide) (q_call c_176_78 rfl rfl rfl (s_158_20 (bk_inl ?_)))
        by_cases h_275 : y_256 ≠ 12748404
        · refine v_ic_ne_t (t := 94) c_176_81 rfl ⟨h_275, ⟨hy_256.1, hy_256.2⟩, by decide, by decide⟩ (q_aload_n c_176_94 rfl ?_)
          have kn_276 : Hid (c_253 41 3 = c 41 3) := (hF_255 41 3 (fun h => absurd h.2 (ni rfl))).trans (hid kn_251)
          have h_277 : c_253 41 3 = c 41 3 := (hid kn_276)
          refine v_cv c_176_95 km_8_214 rfl rfl (nb_ rfl) ⟨⟨rfl, rfl⟩, nb_ rfl, rfl⟩ (nb_ rfl) (nb_ rfl) (s_157 hI_254 (fun c_278 y_281 hI_279 hF_280 hy_281 h_282 h_283 h_284 h_285 h_286 => (bk_inl ?_)))
          have h_287 := ir_41_4 hI_279
          have h_288 := ir_43 hI (c_278 41 4)
          have kn_289 : Hid (c_6 43 (c_278 41 4) = c 43 (c_278 41 4)) := hF_8 43 (c_278 41 4) (fun h => absurd h.1 (nn rfl))
          have kn_290 : Hid (c_19 43 (c_278 41 4) = c 43 (c_278 41 4)) := (hF_21 43 (c_278 41 4) (fun h => absurd h.1 (nn rfl))).trans (hid kn_289)
          have kn_291 : Hid (c_253 43 (c_278 41 4) = c 43 (c_278 41 4)) := (hF_255 43 (c_278 41 4) (fun h => absurd h.1 (nn rfl))).trans (hid kn_290)
          have h_292 : c_253 43 (c_278 41 4) = c 43 (c_278 41 4) := (hid kn_291)
          have h_293 := ir_43 hI (c_278 41 4 + 1)
          have kn_294 : Hid (c_6 43 (c_278 41 4 + 1) = c 43 (c_278 41 4 + 1)) := hF_8 43 (c_278 41 4 + 1) (fun h => absurd h.1 (nn rfl))
          have kn_295 : Hid (c_19 43 (c_278 41 4 + 1) = c 43 (c_278 41 4 + 1)) := (hF_21 43 (c_278 41 4 + 1) (fun h => absurd h.1 (nn rfl))).trans (hid kn_294)
          have kn_296 : Hid (c_253 43 (c_278 41 4 + 1) = c 43 (c_278 41 4 + 1)) := (hF_255 43 (c_278 41 4 + 1) (fun h => absurd h.1 (nn rfl))).trans (hid kn_295)
          have h_297 : c_253 43 (c_278 41 4 + 1) = c 43 (c_278 41 4 + 1) := (hid kn_296)
          have h_298 := ir_43 hI (c_278 41 4 + 2)
          have kn_299 : Hid (c_6 43 (c_278 41 4 + 2) = c 43 (c_278 41 4 + 2)) := hF_8 43 (c_278 41 4 + 2) (fun h => absurd h.1 (nn rfl))
          have kn_300 : Hid (c_19 43 (c_278 41 4 + 2) = c 43 (c_278 41 4 + 2)) := (hF_21 43 (c_278 41 4 + 2) (fun h => absurd h.1 (nn rfl))).trans (hid kn_299)
          have kn_301 : Hid (c_253 43 (c_278 41 4 + 2) = c 43 (c_278 41 4 + 2)) := (hF_255 43 (c_278 41 4 + 2) (fun h => absurd h.1 (nn rfl))).trans (hid kn_300)
          have h_302 : c_253 43 (c_278 41 4 + 2) = c 43 (c_278 41 4 + 2) := (hid kn_301)
          refine q_ldc_w_s c_176_98 rfl rfl (by decide) (q_call c_176_101 rfl rfl rfl (s_158_21 (bk_inl ?_)))
          by_cases h_303 : y_281 ≠ 441972
          · refine v_ic_ne_t (t := 117) c_176_104 rfl ⟨h_303, ⟨hy_281.1, hy_281.2⟩, by decide, by decide⟩ (q_aload_n c_176_117 rfl ?_)
            have kn_304 : Hid (c_278 41 3 = c 41 3) := (hF_280 41 3 (fun h => absurd h.2 (ni rfl))).trans (hid kn_276)
            have h_305 : c_278 41 3 = c 41 3 := (hid kn_304)
            refine v_cv c_176_118 km_8_274 rfl rfl (nb_ rfl) ⟨⟨rfl, rfl⟩, nb_ rfl, rfl⟩ (nb_ rfl) (nb_ rfl) (s_172 hI_279 (fun c_306 y_309 hI_307 hF_308 hy_309 h_310 h_311 h_312 h_313 => (bk_inl ?_)))
            have h_314 := ir_41_4 hI_307
            have h_315 := ir_43 hI (c_306 41 4)
            have kn_316 : Hid (c_6 43 (c_306 41 4) = c 43 (c_306 41 4)) := hF_8 43 (c_306 41 4) (fun h => absurd h.1 (nn rfl))
            have kn_317 : Hid (c_19 43 (c_306 41 4) = c 43 (c_306 41 4)) := (hF_21 43 (c_306 41 4) (fun h => absurd h.1 (nn rfl))).trans (hid kn_316)
            have kn_318 : Hid (c_253 43 (c_306 41 4) = c 43 (c_306 41 4)) := (hF_255 43 (c_306 41 4) (fun h => absurd h.1 (nn rfl))).trans (hid kn_317)
            have kn_319 : Hid (c_278 43 (c_306 41 4) = c 43 (c_306 41 4)) := (hF_280 43 (c_306 41 4) (fun h => absurd h.1 (nn rfl))).trans (hid kn_318)
            have h_320 : c_278 43 (c_306 41 4) = c 43 (c_306 41 4) := (hid kn_319)
            refine q_istore_n c_176_121 (nb_ rfl) (q_iload_n c_176_122 rfl (q_iconst c_176_123 ?_))
            by_cases h_321 : y_309 ≠ (-1)
            · refine v_ic_ne_t (t := 136) c_176_124 rfl ⟨h_321, ⟨(Int.le_trans (by decide) hy_309.1), (Int.le_trans hy_309.2 (by decide))⟩, by decide, by decide⟩ (q_aload_n c_176_136 rfl (v_cv c_176_137 km_8_131 rfl rfl (nb_ rfl) ⟨⟨rfl, rfl⟩, nb_ rfl, rfl⟩ (nb_ rfl) (nb_ rfl) (q_aload_n c_152_0 rfl ?_)))
              have kn_322 : Hid (c_6 41 5 = c 41 5) := hF_8 41 5 (fun h => absurd h.2 (ni rfl))
              have kn_323 : Hid (c_19 41 5 = c 41 5) := (hF_21 41 5 (fun h => absurd h.2 (ni rfl))).trans (hid kn_322)
              have kn_324 : Hid (c_253 41 5 = c 41 5) := (hF_255 41 5 (fun h => absurd h.2 (ni rfl))).trans (hid kn_323)
              have kn_325 : Hid (c_278 41 5 = c 41 5) := (hF_280 41 5 (fun h => absurd h.2 (ni rfl))).trans (hid kn_324)
              have kn_326 : Hid (c_306 41 5 = c 41 5) := (hF_308 41 5 (fun h => absurd h.2 (ni rfl))).trans (hid kn_325)
              refine v_gi (z := 5) (v := c 41 5) c_152_1 kf_8_102 rfl (nb_ rfl) rfl rfl (hid kn_326) (q_iconst c_152_4 (v_ic_ne_f (t := 12) c_152_5 rfl (by first | exact q_ef26995af hq0 | omega) (q_iconst c_152_8 (q_goto (t := 13) c_152_9 rfl (v_zret c_152_13 rfl (by decide) (bk_inl (v_if_ne_t (t := 144) c_176_140 rfl (by decide) ?_)))))))
              refine q_aload_n c_176_144 rfl ?_
              have kn_327 : Hid (c_306 41 3 = c 41 3) := (hF_308 41 3 (fun h => absurd h.2 (ni rfl))).trans (hid kn_304)
              have h_328 : c_306 41 3 = c 41 3 := (hid kn_327)
              have kn_329 : Hid (c_306 43 (c_306 41 4) = c 43 (c_306 41 4)) := (hF_308 43 (c_306 41 4) (fun h => absurd h.1 (nn rfl))).trans (hid kn_319)
              have h_330 : c_306 43 (c_306 41 4) = c 43 (c_306 41 4) := (hid kn_329)
              have h_331 := ir_43 hI (c_306 41 4 + 1)
              have kn_332 : Hid (c_6 43 (c_306 41 4 + 1) = c 43 (c_306 41 4 + 1)) := hF_8 43 (c_306 41 4 + 1) (fun h => absurd h.1 (nn rfl))
              have kn_333 : Hid (c_19 43 (c_306 41 4 + 1) = c 43 (c_306 41 4 + 1)) := (hF_21 43 (c_306 41 4 + 1) (fun h => absurd h.1 (nn rfl))).trans (hid kn_332)
              have kn_334 : Hid (c_253 43 (c_306 41 4 + 1) = c 43 (c_306 41 4 + 1)) := (hF_255 43 (c_306 41 4 + 1) (fun h => absurd h.1 (nn rfl))).trans (hid kn_333)
              have kn_335 : Hid (c_278 43 (c_306 41 4 + 1) = c 43 (c_306 41 4 + 1)) := (hF_280 43 (c_306 41 4 + 1) (fun h => absurd h.1 (nn rfl))).trans (hid kn_334)
              have kn_336 : Hid (c_306 43 (c_306 41 4 + 1) = c 43 (c_306 41 4 + 1)) := (hF_308 43 (c_306 41 4 + 1) (fun h => absurd h.1 (nn rfl))).trans (hid kn_335)
              have h_337 : c_306 43 (c_306 41 4 + 1) = c 43 (c_306 41 4 + 1) := (hid kn_336)
              have h_338 := ir_43 hI (c_306 41 4 + 2)
              have kn_339 : Hid (c_6 43 (c_306 41 4 + 2) = c 43 (c_306 41 4 + 2)) := hF_8 43 (c_306 41 4 + 2) (fun h => absurd h.1 (nn rfl))
              have kn_340 : Hid (c_19 43 (c_306 41 4 + 2) = c 43 (c_306 41 4 + 2)) := (hF_21 43 (c_306 41 4 + 2) (fun h => absurd h.1 (nn rfl))).trans (hid kn_339)
              have kn_341 : Hid (c_253 43 (c_306 41 4 + 2) = c 43 (c_306 41 4 + 2)) := (hF_255 43 (c_306 41 4 + 2) (fun h => absurd h.1 (nn rfl))).trans (hid kn_340)
              have kn_342 : Hid (c_278 43 (c_306 41 4 + 2) = c 43 (c_306 41 4 + 2)) := (hF_280 43 (c_306 41 4 + 2) (fun h => absurd h.1 (nn rfl))).trans (hid kn_341)
              have kn_343 : Hid (c_306 43 (c_306 41 4 + 2) = c 43 (c_306 41 4 + 2)) := (hF_308 43 (c_306 41 4 + 2) (fun h => absurd h.1 (nn rfl))).trans (hid kn_342)
              have h_344 : c_306 43 (c_306 41 4 + 2) = c 43 (c_306 41 4 + 2) := (hid kn_343)
              refine v_cv c_176_145 km_8_223 rfl rfl (nb_ rfl) ⟨⟨rfl, rfl⟩, nb_ rfl, rfl⟩ (nb_ rfl) (nb_ rfl) (s_159 hI_307 (fun c_345 hI_346 hF_347 h_348 h_349 h_350 h_351 => (bk_inl ?_)))
              have h_352 := ir_41_4 hI_346
              refine q_aload_n c_176_148 rfl (q_iconst c_176_149 (q_iload_n c_176_150 rfl ?_))
              have kn_353 : Hid (c_6 41 29 = c 41 29) := hF_8 41 29 (fun h => absurd h.2 (ni rfl))
              have kn_354 : Hid (c_19 41 29 = c 41 29) := (hF_21 41 29 (fun h => absurd h.2 (ni rfl))).trans (hid kn_353)
              have kn_355 : Hid (c_253 41 29 = c 41 29) := (hF_255 41 29 (fun h => absurd h.2 (ni rfl))).trans (hid kn_354)
              have kn_356 : Hid (c_278 41 29 = c 41 29) := (hF_280 41 29 (fun h => absurd h.2 (ni rfl))).trans (hid kn_355)
              have kn_357 : Hid (c_306 41 29 = c 41 29) := (hF_308 41 29 (fun h => absurd h.2 (ni rfl))).trans (hid kn_356)
              have kn_358 : Hid (c_345 41 29 = c 41 29) := (hF_347 41 29 (fun h => absurd h.2 (ni rfl))).trans (hid kn_357)
              have h_359 : c_345 41 29 = c 41 29 := (hid kn_358)
              have kn_360 : Hid (c_345 41 5 = c 41 5) := (hF_347 41 5 (fun h => absurd h.2 (ni rfl))).trans (hid kn_326)
              have h_361 : c_345 41 5 = c 41 5 := (hid kn_360)
              obtain ⟨hW_362, hN_363⟩ : Nw c_345 ∧ Nh c_345 = Nh c := nh_fr hW (fun j => (hF_347 50 j (fun h => absurd h.1 (nn rfl))).trans ((hF_308 50 j (fun h => absurd h.1 (nn rfl))).trans ((hF_280 50 j (fun h => absurd h.1 (nn rfl))).trans ((hF_255 50 j (fun h => absurd h.1 (nn rfl))).trans ((hF_21 50 j (fun h => absurd h.1 (nn rfl))).trans (hF_8 50 j (fun h => absurd h.1 (nn rfl)))))))) (fun j => (hF_347 51 j (fun h => absurd h.1 (nn rfl))).trans ((hF_308 51 j (fun h => absurd h.1 (nn rfl))).trans ((hF_280 51 j (fun h => absurd h.1 (nn rfl))).trans ((hF_255 51 j (fun h => absurd h.1 (nn rfl))).trans ((hF_21 51 j (fun h => absurd h.1 (nn rfl))).trans (hF_8 51 j (fun h => absurd h.1 (nn rfl)))))))) ((hF_347 41 29 (fun h => absurd h.2 (ni rfl))).trans ((hF_308 41 29 (fun h => absurd h.2 (ni rfl))).trans ((hF_280 41 29 (fun h => absurd h.2 (ni rfl))).trans ((hF_255 41 29 (fun h => absurd h.2 (ni rfl))).trans ((hF_21 41 29 (fun h => absurd h.2 (ni rfl))).trans (hF_8 41 29 (fun h => absurd h.2 (ni rfl))))))))
              refine v_cv c_176_151 km_8_242 rfl rfl (nb_ rfl) ⟨⟨rfl, rfl⟩, nb_ rfl, rfl⟩ (nb_ rfl) (nb_ rfl) (s_170 (a1 := 1) (a2 := y_309) hI_346 (show 0 ≤ 1 ∧ 1 ≤ 8 from ⟨by decide, by decide⟩) (show 0 ≤ y_309 ∧ y_309 ≤ 999 from ⟨by first | (clear ho hq0 hq1 hq2 hq3 hq4 h_1 h_2 h_3 h_4 h_5 hnn h_14 h_10 h_15 h_27 h_23 h_28 h_31 h_250 h_262 h_257 h_263 h_267 h_271 h_287 h_282 h_288 h_293 h_298 h_314 h_310 h_315 h_331 h_338 h_352 h_348 h_11 h_12 h_13 h_16 h_24 h_25 h_26 h_258 h_259 h_260 h_261 h_275 h_283 h_284 h_285 h_286 h_303 h_311 h_312 h_313 h_349 h_350 h_351; omega) | omega, (Int.le_trans hy_309.2 (by decide))⟩) hW_362 (Or.inr (Or.inr (by first | exact q_f71f6b032 h_10 h_23 h_24 h_250 hq2 hq3 h_18 | omega))) (Or.inr (Or.inr (Or.inl (by first | decide | omega)))) (Or.inr (Or.inr (Or.inr (by first | (clear ho hq0 hq1 hq2 hq3 hq4 h_1 h_2 h_3 h_4 h_5 hnn h_14 h_10 h_15 h_27 h_23 h_28 h_31 h_250 h_262 h_257 h_263 h_267 h_271 h_287 h_282 h_288 h_293 h_298 h_314 h_310 h_315 h_331 h_338 h_352 h_348 h_11 h_12 h_13 h_16 h_24 h_25 h_26 h_258 h_259 h_260 h_261 h_275 h_283 h_284 h_285 h_286 h_303 h_311 h_312 h_313 h_321 h_349 h_350 h_351; omega) | omega)))) (fun c_364 hI_365 hF_366 hW_367 h_368 h_369 h_370 h_371 => (bk_inl ?_)))
              have h_372 := ir_41_29 hI_365
              refine q_vret rfl rfl ?_
              have kn_373 : Hid (c_364 41 4 = c_345 41 4) := hF_366 41 4 qn_fcc0aaabe
              have h_374 : c_364 41 4 = c_345 41 4 := (hid kn_373)
              have kn_375 : Hid (c_364 41 5 = c 41 5) := (hF_366 41 5 qn_c65a44569).trans (hid kn_360)
              have h_376 : c_364 41 5 = c 41 5 := (hid kn_375)
              have kn_377 : Hid (c_6 41 7 = c 41 7) := hF_8 41 7 (fun h => absurd h.2 (ni rfl))
              have kn_378 : Hid (c_19 41 7 = c 41 7) := (hF_21 41 7 (fun h => absurd h.2 (ni rfl))).trans (hid kn_377)
              have kn_379 : Hid (c_253 41 7 = c 41 7) := (hF_255 41 7 (fun h => absurd h.2 (ni rfl))).trans (hid kn_378)
              have kn_380 : Hid (c_278 41 7 = c 41 7) := (hF_280 41 7 (fun h => absurd h.2 (ni rfl))).trans (hid kn_379)
              have kn_381 : Hid (c_306 41 7 = c 41 7) := (hF_308 41 7 (fun h => absurd h.2 (ni rfl))).trans (hid kn_380)
              have kn_382 : Hid (c_345 41 7 = c 41 7) := (hF_347 41 7 (fun h => absurd h.2 (ni rfl))).trans (hid kn_381)
              have kn_383 : Hid (c_364 41 7 = c 41 7) := (hF_366 41 7 qn_5700af53f).trans (hid kn_382)
              have h_384 : c_364 41 7 = c 41 7 := (hid kn_383)
              exact K c_364 hI_365 (fun a j hm => (hF_366 a j (qv_d7b4eb562 hm)).trans ((hF_347 a j (fun h => hm (Or.inl h))).trans ((hF_308 a j (fun h => hm (Or.inl h))).trans ((hF_280 a j (fun h => hm (Or.inl h))).trans ((hF_255 a j (fun h => hm (Or.inl h))).trans ((hF_21 a j (fun h => hm (Or.inl h))).trans (hF_8 a j (fun h => hm (Or.inl h))))))))) hW_367 (by first | exact q_bd4440b4a h_10 h_23 h_257 h_282 h_310 h_348 | omega) (by first | assumption | omega) (by first | (clear ho hq1 hq2 hq3 hq4 h_1 h_2 h_3 h_4 h_5 hnn h_14 h_15 h_27 h_28 h_31 h_262 h_263 h_267 h_271 h_287 h_288 h_293 h_298 h_314 h_315 h_331 h_338 h_352 h_372 h_11 h_12 h_13 h_16 h_25 h_26 h_258 h_259 h_260 h_261 h_275 h_283 h_284 h_285 h_286 h_303 h_311 h_312 h_349 h_351 h_369 h_370 h_371; omega) | omega) (Or.inr (Or.inr (by first | exact q_720c7dc9e h_24 h_250 h_258 h_283 h_311 h_349 h_18 h_252 h_277 h_305 h_328 | omega))) (Or.inr (Or.inr (by first | (clear ho hq1 hq2 hq3 hq4 h_1 h_2 h_3 h_4 h_5 hnn h_14 h_10 h_15 h_27 h_23 h_28 h_31 h_250 h_262 h_257 h_263 h_267 h_271 h_287 h_282 h_288 h_293 h_298 h_314 h_310 h_315 h_331 h_338 h_352 h_348 h_372 h_11 h_12 h_13 h_16 h_24 h_25 h_26 h_258 h_259 h_260 h_261 h_275 h_283 h_284 h_285 h_286 h_303 h_311 h_312 h_313 h_321 h_349 h_350 h_351 h_368 h_369 h_371; omega) | omega)))
            · refine v_ic_ne_f (t := 136) c_176_124 rfl (Decidable.not_not.mp h_321) (q_aload_n c_176_127 rfl (q_iconst c_176_128 (q_aload_n c_176_129 rfl (v_gi (z := 4) (v := c_306 41 4) c_176_130 kf_8_108 rfl (nb_ rfl) rfl rfl rfl (v_cv c_176_133 km_8_138 rfl rfl (nb_ rfl) ⟨⟨rfl, rfl⟩, nb_ rfl, rfl⟩ (nb_ rfl) (nb_ rfl) (s_153 (a1 := 1) (a2 := c_306 41 4) hI_307 (show 1 ≤ 1 ∧ 1 ≤ 3 from ⟨by decide, by decide⟩) (show 0 ≤ c_306 41 4 ∧ c_306 41 4 ≤ 605 from h_314) (fun c_385 hI_386 hF_387 h_388 => (bk_inl ?_))))))))
              have h_389 := ir_41_5 hI_386
              refine q_aload_n c_176_136 rfl (v_cv c_176_137 km_8_131 rfl rfl (nb_ rfl) ⟨⟨rfl, rfl⟩, nb_ rfl, rfl⟩ (nb_ rfl) (nb_ rfl) (q_aload_n c_152_0 rfl (v_gi (z := 5) (v := c_385 41 5) c_152_1 kf_8_102 rfl (nb_ rfl) rfl rfl rfl (q_iconst c_152_4 (v_ic_ne_t (t := 12) c_152_5 rfl ⟨by first | exact q_e869299d0 h_388 h_389 | omega, ⟨(Int.le_trans (by decide) h_389.1), (Int.le_trans h_389.2 (by decide))⟩, by decide, by decide⟩ (q_iconst c_152_12 (v_zret c_152_13 rfl (by decide) ?_)))))))
              refine bk_inl (v_if_ne_f (t := 144) c_176_140 rfl (by decide) (q_vret rfl rfl ?_))
              obtain ⟨hW_390, hN_391⟩ : Nw c_385 ∧ Nh c_385 = Nh c := nh_fr hW (fun j => (hF_387 50 j (fun q => q.elim (fun h => absurd h.1 (nn rfl)) (fun h => absurd h.1 (nn rfl)))).trans ((hF_308 50 j (fun h => absurd h.1 (nn rfl))).trans ((hF_280 50 j (fun h => absurd h.1 (nn rfl))).trans ((hF_255 50 j (fun h => absurd h.1 (nn rfl))).trans ((hF_21 50 j (fun h => absurd h.1 (nn rfl))).trans (hF_8 50 j (fun h => absurd h.1 (nn rfl)))))))) (fun j => (hF_387 51 j (fun q => q.elim (fun h => absurd h.1 (nn rfl)) (fun h => absurd h.1 (nn rfl)))).trans ((hF_308 51 j (fun h => absurd h.1 (nn rfl))).trans ((hF_280 51 j (fun h => absurd h.1 (nn rfl))).trans ((hF_255 51 j (fun h => absurd h.1 (nn rfl))).trans ((hF_21 51 j (fun h => absurd h.1 (nn rfl))).trans (hF_8 51 j (fun h => absurd h.1 (nn rfl)))))))) ((hF_387 41 29 (fun q => q.elim (fun h => absurd h.2 (ni rfl)) (fun h => absurd h.2 (ni rfl)))).trans ((hF_308 41 29 (fun h => absurd h.2 (ni rfl))).trans ((hF_280 41 29 (fun h => absurd h.2 (ni rfl))).trans ((hF_255 41 29 (fun h => absurd h.2 (ni rfl))).trans ((hF_21 41 29 (fun h => absurd h.2 (ni rfl))).trans (hF_8 41 29 (fun h => absurd h.2 (ni rfl))))))))
              have kn_392 : Hid (c_6 41 29 = c 41 29) := hF_8 41 29 (fun h => absurd h.2 (ni rfl))
              have kn_393 : Hid (c_19 41 29 = c 41 29) := (hF_21 41 29 (fun h => absurd h.2 (ni rfl))).trans (hid kn_392)
              have kn_394 : Hid (c_253 41 29 = c 41 29) := (hF_255 41 29 (fun h => absurd h.2 (ni rfl))).trans (hid kn_393)
              have kn_395 : Hid (c_278 41 29 = c 41 29) := (hF_280 41 29 (fun h => absurd h.2 (ni rfl))).trans (hid kn_394)
              have kn_396 : Hid (c_306 41 29 = c 41 29) := (hF_308 41 29 (fun h => absurd h.2 (ni rfl))).trans (hid kn_395)
              have kn_397 : Hid (c_385 41 29 = c 41 29) := (hF_387 41 29 (fun q => q.elim (fun h => absurd h.2 (ni rfl)) (fun h => absurd h.2 (ni rfl)))).trans (hid kn_396)
              have h_398 : c_385 41 29 = c 41 29 := (hid kn_397)
              have kn_399 : Hid (c_385 41 4 = c_306 41 4) := hF_387 41 4 (fun q => q.elim (fun h => absurd h.2 (ni rfl)) (fun h => absurd h.2 (ni rfl)))
              have h_400 : c_385 41 4 = c_306 41 4 := (hid kn_399)
              have kn_401 : Hid (c_6 41 7 = c 41 7) := hF_8 41 7 (fun h => absurd h.2 (ni rfl))
              have kn_402 : Hid (c_19 41 7 = c 41 7) := (hF_21 41 7 (fun h => absurd h.2 (ni rfl))).trans (hid kn_401)
              have kn_403 : Hid (c_253 41 7 = c 41 7) := (hF_255 41 7 (fun h => absurd h.2 (ni rfl))).trans (hid kn_402)
              have kn_404 : Hid (c_278 41 7 = c 41 7) := (hF_280 41 7 (fun h => absurd h.2 (ni rfl))).trans (hid kn_403)
              have kn_405 : Hid (c_306 41 7 = c 41 7) := (hF_308 41 7 (fun h => absurd h.2 (ni rfl))).trans (hid kn_404)
              have kn_406 : Hid (c_385 41 7 = c 41 7) := (hF_387 41 7 (fun q => q.elim (fun h => absurd h.2 (ni rfl)) (fun h => absurd h.2 (ni rfl)))).trans (hid kn_405)
              have h_407 : c_385 41 7 = c 41 7 := (hid kn_406)
              exact K c_385 hI_386 (fun a j hm => (hF_387 a j (qv_0c9f14c52 hm)).trans ((hF_308 a j (fun h => hm (Or.inl h))).trans ((hF_280 a j (fun h => hm (Or.inl h))).trans ((hF_255 a j (fun h => hm (Or.inl h))).trans ((hF_21 a j (fun h => hm (Or.inl h))).trans (hF_8 a j (fun h => hm (Or.inl h)))))))) hW_390 (by first | exact q_fdaccc704 h_10 h_23 h_257 h_282 h_310 | omega) (by first | assumption | omega) (by first | exact q_d4f8c5bee h_10 h_23 h_257 h_282 h_310 | omega) (Or.inr (Or.inl (by first | exact q_a3ee8eff6 h_388 h_389 | omega))) (Or.inr (Or.inl (by first | exact q_a3ee8eff6 h_388 h_389 | omega)))
          · refine v_ic_ne_f (t := 117) c_176_104 rfl (Decidable.not_not.mp h_303) (q_aload_n c_176_107 rfl (q_iconst c_176_108 (v_bip c_176_109 (by decide) ?_)))
            have kn_408 : Hid (c_6 41 5 = c 41 5) := hF_8 41 5 (fun h => absurd h.2 (ni rfl))
            have kn_409 : Hid (c_19 41 5 = c 41 5) := (hF_21 41 5 (fun h => absurd h.2 (ni rfl))).trans (hid kn_408)
            have kn_410 : Hid (c_253 41 5 = c 41 5) := (hF_255 41 5 (fun h => absurd h.2 (ni rfl))).trans (hid kn_409)
            have kn_411 : Hid (c_278 41 5 = c 41 5) := (hF_280 41 5 (fun h => absurd h.2 (ni rfl))).trans (hid kn_410)
            have h_412 : c_278 41 5 = c 41 5 := (hid kn_411)
            have kn_413 : Hid (c_278 41 3 = c 41 3) := (hF_280 41 3 (fun h => absurd h.2 (ni rfl))).trans (hid kn_276)
            have h_414 : c_278 41 3 = c 41 3 := (hid kn_413)
            have kn_415 : Hid (c_6 41 29 = c 41 29) := hF_8 41 29 (fun h => absurd h.2 (ni rfl))
            have kn_416 : Hid (c_19 41 29 = c 41 29) := (hF_21 41 29 (fun h => absurd h.2 (ni rfl))).trans (hid kn_415)
            have kn_417 : Hid (c_253 41 29 = c 41 29) := (hF_255 41 29 (fun h => absurd h.2 (ni rfl))).trans (hid kn_416)
            have kn_418 : Hid (c_278 41 29 = c 41 29) := (hF_280 41 29 (fun h => absurd h.2 (ni rfl))).trans (hid kn_417)
            have h_419 : c_278 41 29 = c 41 29 := (hid kn_418)
            have kn_420 : Hid (c_6 41 7 = c 41 7) := hF_8 41 7 (fun h => absurd h.2 (ni rfl))
            have kn_421 : Hid (c_19 41 7 = c 41 7) := (hF_21 41 7 (fun h => absurd h.2 (ni rfl))).trans (hid kn_420)
            have kn_422 : Hid (c_253 41 7 = c 41 7) := (hF_255 41 7 (fun h => absurd h.2 (ni rfl))).trans (hid kn_421)
            have kn_423 : Hid (c_278 41 7 = c 41 7) := (hF_280 41 7 (fun h => absurd h.2 (ni rfl))).trans (hid kn_422)
            have h_424 : c_278 41 7 = c 41 7 := (hid kn_423)
            obtain ⟨hW_425, hN_426⟩ : Nw c_278 ∧ Nh c_278 = Nh c := nh_fr hW (fun j => (hF_280 50 j (fun h => absurd h.1 (nn rfl))).trans ((hF_255 50 j (fun h => absurd h.1 (nn rfl))).trans ((hF_21 50 j (fun h => absurd h.1 (nn rfl))).trans (hF_8 50 j (fun h => absurd h.1 (nn rfl)))))) (fun j => (hF_280 51 j (fun h => absurd h.1 (nn rfl))).trans ((hF_255 51 j (fun h => absurd h.1 (nn rfl))).trans ((hF_21 51 j (fun h => absurd h.1 (nn rfl))).trans (hF_8 51 j (fun h => absurd h.1 (nn rfl)))))) ((hF_280 41 29 (fun h => absurd h.2 (ni rfl))).trans ((hF_255 41 29 (fun h => absurd h.2 (ni rfl))).trans ((hF_21 41 29 (fun h => absurd h.2 (ni rfl))).trans (hF_8 41 29 (fun h => absurd h.2 (ni rfl))))))
            refine v_cv c_176_111 km_8_269 rfl rfl (nb_ rfl) ⟨⟨rfl, rfl⟩, nb_ rfl, rfl⟩ (nb_ rfl) (nb_ rfl) (s_175 (o := o) (a1 := 4) (a2 := 7) hI_279 (show 4 ≤ 4 ∧ 4 ≤ 5 from ⟨by decide, by decide⟩) (show 6 ≤ 7 ∧ 7 ≤ 7 from ⟨by decide, by decide⟩) (show 0 ≤ o ∧ o ≤ 6 from by omega) hW_425 (by first | exact q_ef26995af hq0 | omega) (by first | exact q_f38071e10 h_284 h_303 h_277 | omega) (by first | exact q_7024b37ce hq2 | omega) (by first | exact q_c26d8ce25 h_10 h_23 h_257 h_282 hq3 | omega) (by first | exact q_cea541e22 hq4 | omega) (by first | exact q_b7af7f5c6 h_284 h_303 h_277 | omega) H174 (fun c_427 hI_428 hF_429 hW_430 h_431 h_432 h_433 h_434 h_435 => (bk_inl ?_)))
            have h_436 := ir_41_4 hI_428
            have h_437 := ir_41_7 hI_428
            have h_438 := ir_41_29 hI_428
            have h_439 := ir_41_5 hI_428
            refine q_goto (t := 154) c_176_114 rfl (q_vret rfl rfl ?_)
            exact K c_427 hI_428 (fun a j hm => (hF_429 a j hm).trans ((hF_280 a j (fun h => hm (Or.inl h))).trans ((hF_255 a j (fun h => hm (Or.inl h))).trans ((hF_21 a j (fun h => hm (Or.inl h))).trans (hF_8 a j (fun h => hm (Or.inl h))))))) hW_430 (by first | exact q_fdaccc704 h_10 h_23 h_257 h_282 h_431 | omega) (by first | exact q_1bb533b1a h_432 h_424 | omega) (by first | exact q_476aec965 h_10 h_23 h_257 h_282 h_433 h_419 | omega) (by omega) (by omega)
        · refine v_ic_ne_f (t := 94) c_176_81 rfl (Decidable.not_not.mp h_275) (q_aload_n c_176_84 rfl (q_iconst c_176_85 (v_bip c_176_86 (by decide) ?_)))
          have kn_440 : Hid (c_6 41 5 = c 41 5) := hF_8 41 5 (fun h => absurd h.2 (ni rfl))
          have kn_441 : Hid (c_19 41 5 = c 41 5) := (hF_21 41 5 (fun h => absurd h.2 (ni rfl))).trans (hid kn_440)
          have kn_442 : Hid (c_253 41 5 = c 41 5) := (hF_255 41 5 (fun h => absurd h.2 (ni rfl))).trans (hid kn_441)
          have h_443 : c_253 41 5 = c 41 5 := (hid kn_442)
          have kn_444 : Hid (c_253 41 3 = c 41 3) := (hF_255 41 3 (fun h => absurd h.2 (ni rfl))).trans (hid kn_251)
          have h_445 : c_253 41 3 = c 41 3 := (hid kn_444)
          have kn_446 : Hid (c_6 41 29 = c 41 29) := hF_8 41 29 (fun h => absurd h.2 (ni rfl))
          have kn_447 : Hid (c_19 41 29 = c 41 29) := (hF_21 41 29 (fun h => absurd h.2 (ni rfl))).trans (hid kn_446)
          have kn_448 : Hid (c_253 41 29 = c 41 29) := (hF_255 41 29 (fun h => absurd h.2 (ni rfl))).trans (hid kn_447)
          have h_449 : c_253 41 29 = c 41 29 := (hid kn_448)
          have kn_450 : Hid (c_6 41 7 = c 41 7) := hF_8 41 7 (fun h => absurd h.2 (ni rfl))
          have kn_451 : Hid (c_19 41 7 = c 41 7) := (hF_21 41 7 (fun h => absurd h.2 (ni rfl))).trans (hid kn_450)
          have kn_452 : Hid (c_253 41 7 = c 41 7) := (hF_255 41 7 (fun h => absurd h.2 (ni rfl))).trans (hid kn_451)
          have h_453 : c_253 41 7 = c 41 7 := (hid kn_452)
          obtain ⟨hW_454, hN_455⟩ : Nw c_253 ∧ Nh c_253 = Nh c := nh_fr hW (fun j => (hF_255 50 j (fun h => absurd h.1 (nn rfl))).trans ((hF_21 50 j (fun h => absurd h.1 (nn rfl))).trans (hF_8 50 j (fun h => absurd h.1 (nn rfl))))) (fun j => (hF_255 51 j (fun h => absurd h.1 (nn rfl))).trans ((hF_21 51 j (fun h => absurd h.1 (nn rfl))).trans (hF_8 51 j (fun h => absurd h.1 (nn rfl))))) ((hF_255 41 29 (fun h => absurd h.2 (ni rfl))).trans ((hF_21 41 29 (fun h => absurd h.2 (ni rfl))).trans (hF_8 41 29 (fun h => absurd h.2 (ni rfl)))))
          refine v_cv c_176_88 km_8_269 rfl rfl (nb_ rfl) ⟨⟨rfl, rfl⟩, nb_ rfl, rfl⟩ (nb_ rfl) (nb_ rfl) (s_175 (o := o) (a1 := 5) (a2 := 6) hI_254 (show 4 ≤ 5 ∧ 5 ≤ 5 from ⟨by decide, by decide⟩) (show 6 ≤ 6 ∧ 6 ≤ 7 from ⟨by decide, by decide⟩) (show 0 ≤ o ∧ o ≤ 6 from by omega) hW_454 (by first | exact q_ef26995af hq0 | omega) (by first | exact q_578fd8ea3 h_259 h_275 h_252 | omega) (by first | exact q_7024b37ce hq2 | omega) (by first | exact q_e4cb9442e h_10 h_23 h_257 hq3 | omega) (by first | exact q_cea541e22 hq4 | omega) (by first | exact q_79cb9195c h_259 h_275 h_252 | omega) H174 (fun c_456 hI_457 hF_458 hW_459 h_460 h_461 h_462 h_463 h_464 => (bk_inl ?_)))
          have h_465 := ir_41_4 hI_457
          have h_466 := ir_41_7 hI_457
          have h_467 := ir_41_29 hI_457
          have h_468 := ir_41_5 hI_457
          refine q_goto (t := 154) c_176_91 rfl (q_vret rfl rfl ?_)
          exact K c_456 hI_457 (fun a j hm => (hF_458 a j hm).trans ((hF_255 a j (fun h => hm (Or.inl h))).trans ((hF_21 a j (fun h => hm (Or.inl h))).trans (hF_8 a j (fun h => hm (Or.inl h)))))) hW_459 (by first | exact q_da394354d h_10 h_23 h_257 h_460 | omega) (by first | exact q_1bb533b1a h_461 h_453 | omega) (by first | exact q_e592de870 h_10 h_23 h_257 h_462 h_449 | omega) (by omega) (by omega)
      · refine v_ic_gt_f (t := 16) c_156_9 rfl ⟨hy_22.1, (Int.not_lt.mp h_250), by decide⟩ (q_iconst c_156_12 (q_goto (t := 17) c_156_13 rfl (v_zret c_156_17 rfl (by decide) (bk_inl (v_if_eq_f (t := 71) c_176_52 rfl (by decide) (q_aload_n c_176_55 rfl (q_iconst c_176_56 ?_)))))))
        refine q_aload_n c_176_57 rfl (q_iconst c_176_58 (v_sip c_176_59 (by decide) ?_))
        have kn_469 : Hid (c_19 41 3 = c 41 3) := (hF_21 41 3 (fun h => absurd h.2 (ni rfl))).trans (hid kn_17)
        have h_470 : c_19 41 3 = c 41 3 := (hid kn_469)
        have kn_471 : Hid (c_6 41 5 = c 41 5) := hF_8 41 5 (fun h => absurd h.2 (ni rfl))
        have kn_472 : Hid (c_19 41 5 = c 41 5) := (hF_21 41 5 (fun h => absurd h.2 (ni rfl))).trans (hid kn_471)
        have h_473 : c_19 41 5 = c 41 5 := (hid kn_472)
        refine v_cv c_176_62 km_8_199 rfl rfl (nb_ rfl) ⟨⟨rfl, rfl⟩, nb_ rfl, rfl⟩ (nb_ rfl) (nb_ rfl) (s_160 (a1 := 0) (a2 := 999) hI_20 (show 0 ≤ 0 ∧ 0 ≤ 1 from ⟨by decide, by decide⟩) (show (-1) ≤ 999 ∧ 999 ≤ 9999 from ⟨by decide, by decide⟩) (fun c_474 y_477 hI_475 hF_476 hy_477 h_478 h_479 h_480 h_481 h_482 => (bk_inl ?_)))
        have h_483 := ir_41_4 hI_475
        have h_484 := ir_41_5 hI_475
        have kn_485 : Hid (c_6 41 29 = c 41 29) := hF_8 41 29 (fun h => absurd h.2 (ni rfl))
        have kn_486 : Hid (c_19 41 29 = c 41 29) := (hF_21 41 29 (fun h => absurd h.2 (ni rfl))).trans (hid kn_485)
        have kn_487 : Hid (c_474 41 29 = c 41 29) := (hF_476 41 29 qn_56e241d1f).trans (hid kn_486)
        have h_488 : c_474 41 29 = c 41 29 := (hid kn_487)
        obtain ⟨hW_489, hN_490⟩ : Nw c_474 ∧ Nh c_474 = Nh c := nh_fr hW (fun j => (hF_476 50 j qn_a830d9710).trans ((hF_21 50 j (fun h => absurd h.1 (nn rfl))).trans (hF_8 50 j (fun h => absurd h.1 (nn rfl))))) (fun j => (hF_476 51 j qn_b10baaf0c).trans ((hF_21 51 j (fun h => absurd h.1 (nn rfl))).trans (hF_8 51 j (fun h => absurd h.1 (nn rfl))))) ((hF_476 41 29 qn_56e241d1f).trans ((hF_21 41 29 (fun h => absurd h.2 (ni rfl))).trans (hF_8 41 29 (fun h => absurd h.2 (ni rfl)))))
        refine v_cv c_176_65 km_8_242 rfl rfl (nb_ rfl) ⟨⟨rfl, rfl⟩, nb_ rfl, rfl⟩ (nb_ rfl) (nb_ rfl) (s_170 (a1 := 0) (a2 := y_477) hI_475 (show 0 ≤ 0 ∧ 0 ≤ 8 from ⟨by decide, by decide⟩) (show 0 ≤ y_477 ∧ y_477 ≤ 999 from ⟨hy_477.1, by first | exact q_402c5255b h_480 | omega⟩) hW_489 (Or.inr (Or.inr (by first | exact q_fd85bb294 h_10 h_23 h_24 h_31 hq2 hq3 h_18 | omega))) (Or.inr (Or.inr (Or.inl (by first | decide | omega)))) (Or.inr (Or.inr (Or.inl (by first | decide | omega)))) (fun c_491 hI_492 hF_493 hW_494 h_495 h_496 h_497 h_498 => (bk_inl ?_)))
        have h_499 := ir_41_29 hI_492
        refine q_goto (t := 154) c_176_68 rfl (q_vret rfl rfl ?_)
        have kn_500 : Hid (c_491 41 4 = c_474 41 4) := hF_493 41 4 qn_fcc0aaabe
        have h_501 : c_491 41 4 = c_474 41 4 := (hid kn_500)
        have kn_502 : Hid (c_491 41 5 = c_474 41 5) := hF_493 41 5 qn_c65a44569
        have h_503 : c_491 41 5 = c_474 41 5 := (hid kn_502)
        have kn_504 : Hid (c_6 41 7 = c 41 7) := hF_8 41 7 (fun h => absurd h.2 (ni rfl))
        have kn_505 : Hid (c_19 41 7 = c 41 7) := (hF_21 41 7 (fun h => absurd h.2 (ni rfl))).trans (hid kn_504)
        have kn_506 : Hid (c_474 41 7 = c 41 7) := (hF_476 41 7 qn_fb1117a24).trans (hid kn_505)
        have kn_507 : Hid (c_491 41 7 = c 41 7) := (hF_493 41 7 qn_5700af53f).trans (hid kn_506)
        have h_508 : c_491 41 7 = c 41 7 := (hid kn_507)
        exact K c_491 hI_492 (fun a j hm => (hF_493 a j (qv_d7b4eb562 hm)).trans ((hF_476 a j (qv_79b37c5f3 hm)).trans ((hF_21 a j (fun h => hm (Or.inl h))).trans (hF_8 a j (fun h => hm (Or.inl h)))))) hW_494 (by first | exact q_3fb8a741c h_10 h_23 h_478 | omega) (by first | assumption | omega) (by first | exact q_c7d431fc0 h_10 h_23 h_478 h_482 h_495 h_496 h_470 h_473 h_488 | omega) (Or.inr (Or.inr (by first | exact q_aaac5bbff h_24 h_31 h_479 h_18 h_470 | omega))) (by omega)
  · refine v_ic_ne_f (t := 45) c_176_14 rfl (Decidable.not_not.mp h_16) (q_aload_n c_176_17 rfl (q_iconst c_176_18 ?_))
    have kn_509 : Hid (c_6 41 7 = c 41 7) := hF_8 41 7 (fun h => absurd h.2 (ni rfl))
    have h_510 : c_6 41 7 = c 41 7 := (hid kn_509)
    have kn_511 : Hid (c_6 41 5 = c 41 5) := hF_8 41 5 (fun h => absurd h.2 (ni rfl))
    have h_512 : c_6 41 5 = c 41 5 := (hid kn_511)
    refine v_cv c_176_19 km_8_248 rfl rfl (nb_ rfl) ⟨⟨rfl, rfl⟩, nb_ rfl, rfl⟩ (nb_ rfl) (nb_ rfl) (s_171 (a1 := 1) hI_7 (show 1 ≤ 1 ∧ 1 ≤ 5 from ⟨by decide, by decide⟩) (by first | exact q_669679922 ho hq4 | omega) (by first | exact q_176d7b69d h_11 h_16 hq2 | omega) (fun c_513 hI_514 hF_515 h_516 h_517 h_518 h_519 => (bk_inl ?_)))
    have h_520 := ir_41_4 hI_514
    have h_521 := ir_41_7 hI_514
    have h_522 := ir_41_5 hI_514
    refine q_aload_n c_176_22 rfl ?_
    by_cases h_523 : c_513 41 5 = -1
    · skip
      have kn_524 : Hid (c_6 41 3 = c 41 3) := hF_8 41 3 (fun h => absurd h.2 (ni rfl))
      have kn_525 : Hid (c_513 41 3 = c 41 3) := (hF_515 41 3 qn_e8a085a5c).trans (hid kn_524)
      have h_526 : c_513 41 3 = c 41 3 := (hid kn_525)
      have kn_527 : Hid (c_6 41 29 = c 41 29) := hF_8 41 29 (fun h => absurd h.2 (ni rfl))
      have kn_528 : Hid (c_513 41 29 = c 41 29) := (hF_515 41 29 qn_ae3f17736).trans (hid kn_527)
      have h_529 : c_513 41 29 = c 41 29 := (hid kn_528)
      obtain ⟨hW_530, hN_531⟩ : Nw c_513 ∧ Nh c_513 = Nh c := nh_fr hW (fun j => (hF_515 50 j qn_6ba3ccab5).trans (hF_8 50 j (fun h => absurd h.1 (nn rfl)))) (fun j => (hF_515 51 j qn_a6960f5c9).trans (hF_8 51 j (fun h => absurd h.1 (nn rfl)))) ((hF_515 41 29 qn_ae3f17736).trans (hF_8 41 29 (fun h => absurd h.2 (ni rfl))))
      refine v_cv c_176_23 km_8_251 rfl rfl (nb_ rfl) ⟨⟨rfl, rfl⟩, nb_ rfl, rfl⟩ (nb_ rfl) (nb_ rfl) (H174 _ _ _ (by omega) (by omega) hI_514 hW_530 (by first | (clear ho hq0 hq1 hq2 hq3 hq4 h_1 h_2 h_3 h_4 h_5 hnn h_14 h_10 h_15 h_16 h_520 h_516 h_521 h_517 h_11 h_12 h_13 h_518 h_519; omega) | omega) (by first | (clear ho hq0 hq1 hq2 hq3 hq4 h_1 h_2 h_3 h_4 h_5 hnn h_14 h_10 h_15 h_520 h_516 h_521 h_517 h_522 h_12 h_13 h_518; omega) | omega) (by first | exact q_7024b37ce hq2 | omega) (by first | exact q_2a284ad14 h_10 h_516 hq3 | omega) (by omega) (fun c_532 hI_533 hF_534 hW_535 h_536 h_537 h_538 h_539 h_540 => (bk_inl ?_)))
      have h_541 := ir_41_4 hI_533
      have h_542 := ir_41_7 hI_533
      have h_543 := ir_41_29 hI_533
      have h_544 := ir_41_5 hI_533
      refine q_aload_n c_176_26 rfl (v_bip c_176_27 (by decide) ?_)
      have kn_545 : Hid (c_532 41 3 = c 41 3) := (hF_534 41 3 qn_d31ba9b5e).trans (hid kn_525)
      have h_546 : c_532 41 3 = c 41 3 := (hid kn_545)
      refine v_cv c_176_29 km_8_229 rfl rfl (nb_ rfl) ⟨⟨rfl, rfl⟩, nb_ rfl, rfl⟩ (nb_ rfl) (nb_ rfl) (s_161 (a1 := 41) hI_533 (show 1 ≤ 41 ∧ 41 ≤ 255 from ⟨by decide, by decide⟩) (fun c_547 hI_548 hF_549 h_550 h_551 h_552 h_553 => (bk_inl ?_)))
      have h_554 := ir_41_4 hI_548
      have h_555 := ir_41_5 hI_548
      refine q_aload_n c_176_32 rfl (q_dup c_176_33 rfl ?_)
      have kn_556 : Hid (c_547 41 7 = c_532 41 7) := hF_549 41 7 qn_fb1117a24
      refine v_gi (z := 7) (v := c_532 41 7) c_176_34 kf_8_142 rfl (nb_ rfl) rfl rfl (hid kn_556) (q_iconst c_176_37 (v_isub (v := c_532 41 7 - 1) c_176_38 rfl (v_pi (z := 7) c_176_39 kf_8_142 rfl (nb_ rfl) rfl rfl rfl (by decide) (q_goto (t := 154) c_176_42 rfl (q_vret rfl rfl ?_)))))
      have hI_557 := iw_41_7 (v := c_532 41 7 - 1) hI_548 ⟨by first | exact q_ec8e75e0a h_5 h_517 h_537 h_510 | omega, by first | exact rgm_h h_542.2 (by decide) | omega⟩
      obtain ⟨hW_558, hN_559⟩ : Nw (up c_547 41 7 (c_532 41 7 - 1)) ∧ Nh (up c_547 41 7 (c_532 41 7 - 1)) = Nh c_532 := nh_fr hW_535 (fun j => (up_c (nn rfl)).trans (hF_549 50 j qn_a830d9710)) (fun j => (up_c (nn rfl)).trans (hF_549 51 j qn_b10baaf0c)) ((up_n (by decide)).trans (hF_549 41 29 qn_56e241d1f))
      have kn_560 : Hid (c_547 41 29 = c_532 41 29) := hF_549 41 29 qn_56e241d1f
      have h_561 : (up c_547 41 7 (c_532 41 7 - 1)) 41 29 = c_532 41 29 := ((up_n (by decide)).trans (hid kn_560))
      have h_562 : (up c_547 41 7 (c_532 41 7 - 1)) 41 4 = c_547 41 4 := (up_n (by decide))
      have h_563 : (up c_547 41 7 (c_532 41 7 - 1)) 41 5 = c_547 41 5 := (up_n (by decide))
      have h_564 : (up c_547 41 7 (c_532 41 7 - 1)) 41 7 = c_532 41 7 - 1 := (up_e rfl)
      exact K (up c_547 41 7 (c_532 41 7 - 1)) hI_557 (fun a j hm => (up_b (Decidable.or_iff_not_imp_left.mpr (fun h1 h2 => hm (Or.inr (Or.inr (Or.inr (Or.inl ⟨Decidable.not_not.mp h1, h2⟩))))))).trans ((hF_549 a j (qv_79b37c5f3 hm)).trans ((hF_534 a j hm).trans ((hF_515 a j (qv_d0add4e0b hm)).trans (hF_8 a j (fun h => hm (Or.inl h))))))) hW_558 (by first | exact q_da394354d h_10 h_516 h_536 h_550 | omega) (by first | exact q_e6c1b6bd1 h_517 h_537 h_510 | omega) (by first | exact q_fdeaade18 h_10 h_516 h_538 h_550 h_529 | omega) (by omega) (by omega)
    · skip
      have h_565 : ¬ c_513 41 5 = -1 := by rw [show c_513 41 5 = c_513 41 5 from rfl]; omega
      refine v_cv c_176_23 km_8_251 rfl rfl (nb_ rfl) ⟨⟨rfl, rfl⟩, nb_ rfl, rfl⟩ (nb_ rfl) (nb_ rfl) (n_174 hI_514 (by omega) (bk_inl (q_aload_n c_176_26 rfl (v_bip c_176_27 (by decide) ?_))))
      have kn_566 : Hid (c_6 41 3 = c 41 3) := hF_8 41 3 (fun h => absurd h.2 (ni rfl))
      have kn_567 : Hid (c_513 41 3 = c 41 3) := (hF_515 41 3 qn_e8a085a5c).trans (hid kn_566)
      have h_568 : c_513 41 3 = c 41 3 := (hid kn_567)
      refine v_cv c_176_29 km_8_229 rfl rfl (nb_ rfl) ⟨⟨rfl, rfl⟩, nb_ rfl, rfl⟩ (nb_ rfl) (nb_ rfl) (s_161 (a1 := 41) hI_514 (show 1 ≤ 41 ∧ 41 ≤ 255 from ⟨by decide, by decide⟩) (fun c_569 hI_570 hF_571 h_572 h_573 h_574 h_575 => (bk_inl ?_)))
      have h_576 := ir_41_4 hI_570
      have h_577 := ir_41_5 hI_570
      refine q_aload_n c_176_32 rfl (q_dup c_176_33 rfl ?_)
      have kn_578 : Hid (c_569 41 7 = c_513 41 7) := hF_571 41 7 qn_fb1117a24
      refine v_gi (z := 7) (v := c_513 41 7) c_176_34 kf_8_142 rfl (nb_ rfl) rfl rfl (hid kn_578) (q_iconst c_176_37 (v_isub (v := c_513 41 7 - 1) c_176_38 rfl (v_pi (z := 7) c_176_39 kf_8_142 rfl (nb_ rfl) rfl rfl rfl (by decide) (q_goto (t := 154) c_176_42 rfl (q_vret rfl rfl ?_)))))
      have hI_579 := iw_41_7 (v := c_513 41 7 - 1) hI_570 ⟨by first | exact q_4700e233f h_5 h_517 h_510 | omega, by first | exact rgm_h h_521.2 (by decide) | omega⟩
      obtain ⟨hW_580, hN_581⟩ : Nw (up c_569 41 7 (c_513 41 7 - 1)) ∧ Nh (up c_569 41 7 (c_513 41 7 - 1)) = Nh c := nh_fr hW (fun j => (up_c (nn rfl)).trans ((hF_571 50 j qn_a830d9710).trans ((hF_515 50 j qn_6ba3ccab5).trans (hF_8 50 j (fun h => absurd h.1 (nn rfl)))))) (fun j => (up_c (nn rfl)).trans ((hF_571 51 j qn_b10baaf0c).trans ((hF_515 51 j qn_a6960f5c9).trans (hF_8 51 j (fun h => absurd h.1 (nn rfl)))))) ((up_n (by decide)).trans ((hF_571 41 29 qn_56e241d1f).trans ((hF_515 41 29 qn_ae3f17736).trans (hF_8 41 29 (fun h => absurd h.2 (ni rfl))))))
      have kn_582 : Hid (c_6 41 29 = c 41 29) := hF_8 41 29 (fun h => absurd h.2 (ni rfl))
      have kn_583 : Hid (c_513 41 29 = c 41 29) := (hF_515 41 29 qn_ae3f17736).trans (hid kn_582)
      have kn_584 : Hid (c_569 41 29 = c 41 29) := (hF_571 41 29 qn_56e241d1f).trans (hid kn_583)
      have h_585 : (up c_569 41 7 (c_513 41 7 - 1)) 41 29 = c 41 29 := ((up_n (by decide)).trans (hid kn_584))
      have h_586 : (up c_569 41 7 (c_513 41 7 - 1)) 41 4 = c_569 41 4 := (up_n (by decide))
      have h_587 : (up c_569 41 7 (c_513 41 7 - 1)) 41 5 = c_569 41 5 := (up_n (by decide))
      have h_588 : (up c_569 41 7 (c_513 41 7 - 1)) 41 7 = c_513 41 7 - 1 := (up_e rfl)
      exact K (up c_569 41 7 (c_513 41 7 - 1)) hI_579 (fun a j hm => (up_b (Decidable.or_iff_not_imp_left.mpr (fun h1 h2 => hm (Or.inr (Or.inr (Or.inr (Or.inl ⟨Decidable.not_not.mp h1, h2⟩))))))).trans ((hF_571 a j (qv_79b37c5f3 hm)).trans ((hF_515 a j (qv_d0add4e0b hm)).trans (hF_8 a j (fun h => hm (Or.inl h)))))) hW_580 (by first | exact q_3fb8a741c h_10 h_516 h_572 | omega) (by first | exact q_b177a02cd h_517 h_510 | omega) (by first | exact q_7d20861f4 h_10 h_516 h_572 | omega) (Or.inr (Or.inl (by first | (clear ho hq0 hq1 hq2 hq3 hq4 h_1 h_2 h_3 h_4 h_5 hnn h_14 h_10 h_15 h_16 h_520 h_516 h_521 h_517 h_522 h_576 h_572 h_11 h_12 h_13 h_518 h_519 h_573 h_575; omega) | omega))) (Or.inr (Or.inl (by first | (clear ho hq0 hq1 hq2 hq3 hq4 h_1 h_2 h_3 h_4 h_5 hnn h_14 h_10 h_15 h_16 h_520 h_516 h_521 h_517 h_522 h_576 h_572 h_11 h_12 h_13 h_518 h_519 h_573 h_575; omega) | omega)))
end
