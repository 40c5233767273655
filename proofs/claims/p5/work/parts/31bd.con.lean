/-! ===== contracts 17 ===== -/
theorem q_ed83c297d {x0 x1 : Int} (f0 : ¬ (x0 = x1)) : ¬ 4 * x1 = 4 * x0 := by omega
theorem q_11c6f4f0a {x0 x1 : Int} (f0 : ¬ (x0 = x1)) : ¬ 4 * x1 + 1 = 4 * x0 + 1 := by omega
theorem q_93f4687d0 {x0 x1 : Int} (f0 : ¬ (x0 = x1)) : ¬ 4 * x1 + 2 = 4 * x0 + 2 := by omega
theorem q_69b4a572f {x0 x1 : Int} (f0 : ¬ (x0 = x1)) : ¬ 4 * x1 + 3 = 4 * x0 + 3 := by omega
theorem c_194_0 : mLk 194 0 = some (.iload_n 3, 1) := rfl
theorem c_194_1 : mLk 194 1 = some (.ifCond .eq 30, 3) := rfl
theorem c_194_31 : mLk 194 31 = some (.iconst 0, 1) := rfl
theorem c_194_32 : mLk 194 32 = some (.ireturn, 1) := rfl
theorem c_194_4 : mLk 194 4 = some (.aload_n 0, 1) := rfl
theorem c_194_5 : mLk 194 5 = some (.iload_n 1, 1) := rfl
theorem c_194_6 : mLk 194 6 = some (.invokevirtual 343, 3) := rfl
theorem c_194_9 : mLk 194 9 = some (.iload_n 3, 1) := rfl
theorem c_194_10 : mLk 194 10 = some (.if_icmp .lt 21, 3) := rfl
theorem c_194_13 : mLk 194 13 = some (.iload_n 1, 1) := rfl
theorem c_194_14 : mLk 194 14 = some (.iload_n 2, 1) := rfl
theorem c_194_15 : mLk 194 15 = some (.if_icmp .eq 16, 3) := rfl
theorem c_194_18 : mLk 194 18 = some (.aload_n 0, 1) := rfl
theorem c_194_19 : mLk 194 19 = some (.iload_n 2, 1) := rfl
theorem c_194_20 : mLk 194 20 = some (.invokevirtual 343, 3) := rfl
theorem c_194_23 : mLk 194 23 = some (.iload_n 3, 1) := rfl
theorem c_194_24 : mLk 194 24 = some (.iadd, 1) := rfl
theorem c_194_25 : mLk 194 25 = some (.sipush 9999, 3) := rfl
theorem c_194_28 : mLk 194 28 = some (.if_icmp .le 5, 3) := rfl
theorem c_194_33 : mLk 194 33 = some (.iload_n 3, 1) := rfl
theorem c_194_34 : mLk 194 34 = some (.istore 4, 2) := rfl
theorem c_194_36 : mLk 194 36 = some (.iconst 0, 1) := rfl
theorem c_194_37 : mLk 194 37 = some (.istore 5, 2) := rfl
theorem c_194_39 : mLk 194 39 = some (.iload 5, 2) := rfl
theorem c_194_41 : mLk 194 41 = some (.iconst 4, 1) := rfl
theorem c_194_42 : mLk 194 42 = some (.if_icmp .ge 82, 3) := rfl
theorem c_194_45 : mLk 194 45 = some (.aload_n 0, 1) := rfl
theorem c_194_46 : mLk 194 46 = some (.getfield 68, 3) := rfl
theorem c_194_49 : mLk 194 49 = some (.iconst 4, 1) := rfl
theorem c_194_50 : mLk 194 50 = some (.iload_n 1, 1) := rfl
theorem c_194_51 : mLk 194 51 = some (.imul, 1) := rfl
theorem c_194_52 : mLk 194 52 = some (.iload 5, 2) := rfl
theorem c_194_54 : mLk 194 54 = some (.iadd, 1) := rfl
theorem c_194_55 : mLk 194 55 = some (.iaload, 1) := rfl
theorem c_194_56 : mLk 194 56 = some (.iload 4, 2) := rfl
theorem c_194_79 : mLk 194 79 = some (.aload_n 0, 1) := rfl
theorem c_194_80 : mLk 194 80 = some (.getfield 68, 3) := rfl
theorem c_194_83 : mLk 194 83 = some (.iconst 4, 1) := rfl
theorem c_194_84 : mLk 194 84 = some (.iload_n 1, 1) := rfl
theorem c_194_85 : mLk 194 85 = some (.imul, 1) := rfl
theorem c_194_86 : mLk 194 86 = some (.iload 5, 2) := rfl
theorem c_194_88 : mLk 194 88 = some (.iadd, 1) := rfl
theorem c_194_89 : mLk 194 89 = some (.dup2, 1) := rfl
theorem c_194_90 : mLk 194 90 = some (.iaload, 1) := rfl
theorem c_194_91 : mLk 194 91 = some (.iload 6, 2) := rfl
theorem c_194_93 : mLk 194 93 = some (.isub, 1) := rfl
theorem c_194_94 : mLk 194 94 = some (.iastore, 1) := rfl
theorem c_194_95 : mLk 194 95 = some (.aload_n 0, 1) := rfl
theorem c_194_96 : mLk 194 96 = some (.getfield 68, 3) := rfl
theorem c_194_99 : mLk 194 99 = some (.iconst 4, 1) := rfl
theorem c_194_100 : mLk 194 100 = some (.iload_n 2, 1) := rfl
theorem c_194_101 : mLk 194 101 = some (.imul, 1) := rfl
theorem c_194_102 : mLk 194 102 = some (.iload 5, 2) := rfl
theorem c_194_104 : mLk 194 104 = some (.iadd, 1) := rfl
theorem c_194_105 : mLk 194 105 = some (.dup2, 1) := rfl
theorem c_194_106 : mLk 194 106 = some (.iaload, 1) := rfl
theorem c_194_107 : mLk 194 107 = some (.iload 6, 2) := rfl
theorem c_194_109 : mLk 194 109 = some (.iadd, 1) := rfl
theorem c_194_110 : mLk 194 110 = some (.iastore, 1) := rfl
theorem c_194_111 : mLk 194 111 = some (.iload 4, 2) := rfl
theorem c_194_113 : mLk 194 113 = some (.iload 6, 2) := rfl
theorem c_194_115 : mLk 194 115 = some (.isub, 1) := rfl
theorem c_194_116 : mLk 194 116 = some (.istore 4, 2) := rfl
theorem c_194_118 : mLk 194 118 = some (.iinc 5 1, 3) := rfl
theorem c_194_121 : mLk 194 121 = some (.goto (-82), 3) := rfl
theorem c_194_124 : mLk 194 124 = some (.aload_n 0, 1) := rfl
theorem c_194_125 : mLk 194 125 = some (.iload_n 2, 1) := rfl
theorem c_194_126 : mLk 194 126 = some (.aload_n 0, 1) := rfl
theorem c_194_127 : mLk 194 127 = some (.getfield 68, 3) := rfl
theorem c_194_130 : mLk 194 130 = some (.bipush 24, 2) := rfl
theorem c_194_132 : mLk 194 132 = some (.iload_n 1, 1) := rfl
theorem c_194_133 : mLk 194 133 = some (.iadd, 1) := rfl
theorem c_194_134 : mLk 194 134 = some (.iaload, 1) := rfl
theorem c_194_135 : mLk 194 135 = some (.invokevirtual 369, 3) := rfl
theorem c_194_138 : mLk 194 138 = some (.aload_n 0, 1) := rfl
theorem c_194_139 : mLk 194 139 = some (.iload_n 1, 1) := rfl
theorem c_194_140 : mLk 194 140 = some (.invokevirtual 343, 3) := rfl
theorem c_194_143 : mLk 194 143 = some (.ifCond .ne 8, 3) := rfl
theorem c_194_151 : mLk 194 151 = some (.iconst 1, 1) := rfl
theorem c_194_152 : mLk 194 152 = some (.ireturn, 1) := rfl
theorem c_194_146 : mLk 194 146 = some (.aload_n 0, 1) := rfl
theorem c_194_147 : mLk 194 147 = some (.iload_n 1, 1) := rfl
theorem c_194_148 : mLk 194 148 = some (.invokevirtual 372, 3) := rfl
theorem c_194_58 : mLk 194 58 = some (.if_icmp .ge 17, 3) := rfl
theorem c_194_75 : mLk 194 75 = some (.iload 4, 2) := rfl
theorem c_194_77 : mLk 194 77 = some (.istore 6, 2) := rfl
theorem c_194_61 : mLk 194 61 = some (.aload_n 0, 1) := rfl
theorem c_194_62 : mLk 194 62 = some (.getfield 68, 3) := rfl
theorem c_194_65 : mLk 194 65 = some (.iconst 4, 1) := rfl
theorem c_194_66 : mLk 194 66 = some (.iload_n 1, 1) := rfl
theorem c_194_67 : mLk 194 67 = some (.imul, 1) := rfl
theorem c_194_68 : mLk 194 68 = some (.iload 5, 2) := rfl
theorem c_194_70 : mLk 194 70 = some (.iadd, 1) := rfl
theorem c_194_71 : mLk 194 71 = some (.iaload, 1) := rfl
theorem c_194_72 : mLk 194 72 = some (.goto 5, 3) := rfl
set_option maxRecDepth 100000 in
set_option maxHeartbeats 4000000 in
theorem s_194 {sc : List Int32} {d P Q : Nat} {c : ME} {a1 : Int} {a2 : Int} {a3 : Int} {Z : AR → Prop} (hI : Iv 0 (-1) P Q c) (ha1 : 0 ≤ a1 ∧ a1 ≤ 5) (ha2 : 0 ≤ a2 ∧ a2 ≤ 5) (ha3 : 0 ≤ a3 ∧ a3 ≤ 99999) (K : ∀ (c2 : ME) (y : Int), Iv 0 (-1) P Q c2 → (∀ (a : Nat) (j : Int), ¬ (a = 59) → c2 a j = c a j) → 0 ≤ y ∧ y ≤ 1 → Z (.inl (some (vi y)), Wd P Q P P c2, 0, 0)) : Wp sc (d + 8) 194 0 [(0, .ref 41), (1, vi a1), (2, vi a2), (3, vi a3)] [] (Wd P Q P P c) 0 0 Z := by
  have hP := iv_P hI
  have hQ := iv_Q hI
  have hIo : Iv 59 (-1) P Q c := iv_open hI
  have hsum_1 := ir_59_r hI (of_decide_eq_true rfl) (j := a1) (by omega)
  have h_2 := ir_59_g hI (j := 4 * a1) ((q_9f1d5ffdc ha1))
  have h_3 := ir_59_g hI (j := 4 * a1 + 1) ((q_0a2ee6f8f ha1))
  have h_4 := ir_59_g hI (j := 4 * a1 + 2) ((q_e07a293a2 ha1))
  have h_5 := ir_59_g hI (j := 4 * a1 + 3) ((q_d09cb0b73 ha1))
  have hsum_6 := ir_59_r hI (of_decide_eq_true rfl) (j := a2) (by omega)
  have h_7 := ir_59_g hI (j := 4 * a2) ((q_9f1d5ffdc ha2))
  have h_8 := ir_59_g hI (j := 4 * a2 + 1) ((q_0a2ee6f8f ha2))
  have h_9 := ir_59_g hI (j := 4 * a2 + 2) ((q_e07a293a2 ha2))
  have h_10 := ir_59_g hI (j := 4 * a2 + 3) ((q_d09cb0b73 ha2))
  refine q_iload_n c_194_0 rfl ?_
  by_cases h_11 : a3 = 0
  · refine v_if_eq_t (t := 31) c_194_1 rfl h_11 (q_iconst c_194_31 (v_zret c_194_32 rfl (of_decide_eq_true rfl) ?_))
    have hr_12 : ∀ j : Int, rs 59 j → c 59 j + c 59 (j + 1) + c 59 (j + 2) + c 59 (j + 3) ≤ 9999 := by
      intro j9 hj9
      obtain ⟨k9, rfl, hk9⟩ := rs_59 hj9
      by_cases e_13 : k9 = a1
      · skip
        have h_14 : c 59 (4 * k9) = c 59 (4 * a1) := (congrArg (c 59) (show 4 * k9 = 4 * a1 from by omega))
        have h_15 : c 59 (4 * k9 + 1) = c 59 (4 * a1 + 1) := (congrArg (c 59) (show 4 * k9 + 1 = 4 * a1 + 1 from by omega))
        have h_16 : c 59 (4 * k9 + 2) = c 59 (4 * a1 + 2) := (congrArg (c 59) (show 4 * k9 + 2 = 4 * a1 + 2 from by omega))
        have h_17 : c 59 (4 * k9 + 3) = c 59 (4 * a1 + 3) := (congrArg (c 59) (show 4 * k9 + 3 = 4 * a1 + 3 from by omega))
        omega
      by_cases e_18 : k9 = a2
      · skip
        have h_19 : c 59 (4 * k9) = c 59 (4 * a2) := (congrArg (c 59) (show 4 * k9 = 4 * a2 from by omega))
        have h_20 : c 59 (4 * k9 + 1) = c 59 (4 * a2 + 1) := (congrArg (c 59) (show 4 * k9 + 1 = 4 * a2 + 1 from by omega))
        have h_21 : c 59 (4 * k9 + 2) = c 59 (4 * a2 + 2) := (congrArg (c 59) (show 4 * k9 + 2 = 4 * a2 + 2 from by omega))
        have h_22 : c 59 (4 * k9 + 3) = c 59 (4 * a2 + 3) := (congrArg (c 59) (show 4 * k9 + 3 = 4 * a2 + 3 from by omega))
        omega
      have h_23 := iv_r hI 59 (4 * k9) hj9 (by omega)
      have h_24 := ir_59_g hI (j := 4 * k9) ((q_9f1d5ffdc hk9))
      have h_25 : c 59 (4 * k9) = c 59 (4 * k9) := rfl
      have h_26 := ir_59_g hI (j := 4 * k9 + 1) ((q_0a2ee6f8f hk9))
      have h_27 : c 59 (4 * k9 + 1) = c 59 (4 * k9 + 1) := rfl
      have h_28 := ir_59_g hI (j := 4 * k9 + 2) ((q_e07a293a2 hk9))
      have h_29 : c 59 (4 * k9 + 2) = c 59 (4 * k9 + 2) := rfl
      have h_30 := ir_59_g hI (j := 4 * k9 + 3) ((q_d09cb0b73 hk9))
      have h_31 : c 59 (4 * k9 + 3) = c 59 (4 * k9 + 3) := rfl
      omega
    have hI_32 := iv_close hIo hr_12
    exact K c 0 hI_32 (fun a j hm => rfl) ⟨of_decide_eq_true rfl, of_decide_eq_true rfl⟩
  · refine v_if_eq_f (t := 31) c_194_1 rfl ⟨h_11, ⟨(lel ha3.1 rfl), (ler ha3.2 rfl)⟩, of_decide_eq_true rfl, of_decide_eq_true rfl⟩ (q_aload_n c_194_4 rfl (q_iload_n c_194_5 rfl (v_cv c_194_6 km_8_343 rfl rfl (Nat.le_of_ble_eq_true rfl) ⟨⟨rfl, rfl⟩, Nat.le_of_ble_eq_true rfl, rfl⟩ (Nat.le_of_ble_eq_true rfl) (Nat.le_of_ble_eq_true rfl) (s_187 (v1 := c 59 (4 * a1)) (v2 := c 59 (4 * a1 + 1)) (v3 := c 59 (4 * a1 + 2)) (v4 := c 59 (4 * a1 + 3)) (r := c 59 (4 * a1 + 1) + c 59 (4 * a1 + 2) + c 59 (4 * a1 + 3) + c 59 (4 * a1)) (a1 := a1) hIo (show 0 ≤ a1 ∧ a1 ≤ 5 from ha1) (rfl) (rfl) (rfl) (rfl) (by omega) (bk_inl (q_iload_n c_194_9 rfl ?_))))))
    by_cases h_33 : c 59 (4 * a1 + 1) + c 59 (4 * a1 + 2) + c 59 (4 * a1 + 3) + c 59 (4 * a1) < a3
    · refine v_ic_lt_t (t := 31) c_194_10 rfl ⟨(q_e052ef40e h_2 h_3 h_4 h_5), h_33, (ler ha3.2 rfl)⟩ (q_iconst c_194_31 (v_zret c_194_32 rfl (of_decide_eq_true rfl) ?_))
      have hr_34 : ∀ j : Int, rs 59 j → c 59 j + c 59 (j + 1) + c 59 (j + 2) + c 59 (j + 3) ≤ 9999 := by
        intro j9 hj9
        obtain ⟨k9, rfl, hk9⟩ := rs_59 hj9
        by_cases e_35 : k9 = a1
        · skip
          have h_36 : c 59 (4 * k9) = c 59 (4 * a1) := (congrArg (c 59) (show 4 * k9 = 4 * a1 from by first | assumption | exact Int.le_antisymm (by omega) (by omega)))
          have h_37 : c 59 (4 * k9 + 1) = c 59 (4 * a1 + 1) := (congrArg (c 59) (show 4 * k9 + 1 = 4 * a1 + 1 from by first | assumption | exact Int.le_antisymm (by omega) (by omega)))
          have h_38 : c 59 (4 * k9 + 2) = c 59 (4 * a1 + 2) := (congrArg (c 59) (show 4 * k9 + 2 = 4 * a1 + 2 from by first | assumption | exact Int.le_antisymm (by omega) (by omega)))
          have h_39 : c 59 (4 * k9 + 3) = c 59 (4 * a1 + 3) := (congrArg (c 59) (show 4 * k9 + 3 = 4 * a1 + 3 from by first | assumption | exact Int.le_antisymm (by omega) (by omega)))
          omega
        by_cases e_40 : k9 = a2
        · skip
          have h_41 : c 59 (4 * k9) = c 59 (4 * a2) := (congrArg (c 59) (show 4 * k9 = 4 * a2 from by first | assumption | exact Int.le_antisymm (by omega) (by omega)))
          have h_42 : c 59 (4 * k9 + 1) = c 59 (4 * a2 + 1) := (congrArg (c 59) (show 4 * k9 + 1 = 4 * a2 + 1 from by first | assumption | exact Int.le_antisymm (by omega) (by omega)))
          have h_43 : c 59 (4 * k9 + 2) = c 59 (4 * a2 + 2) := (congrArg (c 59) (show 4 * k9 + 2 = 4 * a2 + 2 from by first | assumption | exact Int.le_antisymm (by omega) (by omega)))
          have h_44 : c 59 (4 * k9 + 3) = c 59 (4 * a2 + 3) := (congrArg (c 59) (show 4 * k9 + 3 = 4 * a2 + 3 from by first | assumption | exact Int.le_antisymm (by omega) (by omega)))
          omega
        have h_45 := iv_r hI 59 (4 * k9) hj9 (by omega)
        have h_46 := ir_59_g hI (j := 4 * k9) ((q_9f1d5ffdc hk9))
        have h_47 : c 59 (4 * k9) = c 59 (4 * k9) := rfl
        have h_48 := ir_59_g hI (j := 4 * k9 + 1) ((q_0a2ee6f8f hk9))
        have h_49 : c 59 (4 * k9 + 1) = c 59 (4 * k9 + 1) := rfl
        have h_50 := ir_59_g hI (j := 4 * k9 + 2) ((q_e07a293a2 hk9))
        have h_51 : c 59 (4 * k9 + 2) = c 59 (4 * k9 + 2) := rfl
        have h_52 := ir_59_g hI (j := 4 * k9 + 3) ((q_d09cb0b73 hk9))
        have h_53 : c 59 (4 * k9 + 3) = c 59 (4 * k9 + 3) := rfl
        omega
      have hI_54 := iv_close hIo hr_34
      exact K c 0 hI_54 (fun a j hm => rfl) ⟨of_decide_eq_true rfl, of_decide_eq_true rfl⟩
    · refine v_ic_lt_f (t := 31) c_194_10 rfl ⟨(lel ha3.1 rfl), (Int.not_lt.mp h_33), (q_6719c4bfd hsum_1)⟩ (q_iload_n c_194_13 rfl (q_iload_n c_194_14 rfl ?_))
      by_cases h_55 : a1 = a2
      · refine v_ic_eq_t (t := 31) c_194_15 rfl h_55 (q_iconst c_194_31 (v_zret c_194_32 rfl (of_decide_eq_true rfl) ?_))
        have hr_56 : ∀ j : Int, rs 59 j → c 59 j + c 59 (j + 1) + c 59 (j + 2) + c 59 (j + 3) ≤ 9999 := by
          intro j9 hj9
          obtain ⟨k9, rfl, hk9⟩ := rs_59 hj9
          by_cases e_57 : k9 = a1
          · skip
            have h_58 : c 59 (4 * k9) = c 59 (4 * a1) := (congrArg (c 59) (show 4 * k9 = 4 * a1 from by first | assumption | exact Int.le_antisymm (by omega) (by omega)))
            have h_59 : c 59 (4 * k9 + 1) = c 59 (4 * a1 + 1) := (congrArg (c 59) (show 4 * k9 + 1 = 4 * a1 + 1 from by first | assumption | exact Int.le_antisymm (by omega) (by omega)))
            have h_60 : c 59 (4 * k9 + 2) = c 59 (4 * a1 + 2) := (congrArg (c 59) (show 4 * k9 + 2 = 4 * a1 + 2 from by first | assumption | exact Int.le_antisymm (by omega) (by omega)))
            have h_61 : c 59 (4 * k9 + 3) = c 59 (4 * a1 + 3) := (congrArg (c 59) (show 4 * k9 + 3 = 4 * a1 + 3 from by first | assumption | exact Int.le_antisymm (by omega) (by omega)))
            omega
          by_cases e_62 : k9 = a2
          · skip
            have h_63 : c 59 (4 * k9) = c 59 (4 * a2) := (congrArg (c 59) (show 4 * k9 = 4 * a2 from by first | assumption | exact Int.le_antisymm (by omega) (by omega)))
            have h_64 : c 59 (4 * k9 + 1) = c 59 (4 * a2 + 1) := (congrArg (c 59) (show 4 * k9 + 1 = 4 * a2 + 1 from by first | assumption | exact Int.le_antisymm (by omega) (by omega)))
            have h_65 : c 59 (4 * k9 + 2) = c 59 (4 * a2 + 2) := (congrArg (c 59) (show 4 * k9 + 2 = 4 * a2 + 2 from by first | assumption | exact Int.le_antisymm (by omega) (by omega)))
            have h_66 : c 59 (4 * k9 + 3) = c 59 (4 * a2 + 3) := (congrArg (c 59) (show 4 * k9 + 3 = 4 * a2 + 3 from by first | assumption | exact Int.le_antisymm (by omega) (by omega)))
            omega
          have h_67 := iv_r hI 59 (4 * k9) hj9 (by omega)
          have h_68 := ir_59_g hI (j := 4 * k9) ((q_9f1d5ffdc hk9))
          have h_69 : c 59 (4 * k9) = c 59 (4 * k9) := rfl
          have h_70 := ir_59_g hI (j := 4 * k9 + 1) ((q_0a2ee6f8f hk9))
          have h_71 : c 59 (4 * k9 + 1) = c 59 (4 * k9 + 1) := rfl
          have h_72 := ir_59_g hI (j := 4 * k9 + 2) ((q_e07a293a2 hk9))
          have h_73 : c 59 (4 * k9 + 2) = c 59 (4 * k9 + 2) := rfl
          have h_74 := ir_59_g hI (j := 4 * k9 + 3) ((q_d09cb0b73 hk9))
          have h_75 : c 59 (4 * k9 + 3) = c 59 (4 * k9 + 3) := rfl
          omega
        have hI_76 := iv_close hIo hr_56
        exact K c 0 hI_76 (fun a j hm => rfl) ⟨of_decide_eq_true rfl, of_decide_eq_true rfl⟩
      · refine v_ic_eq_f (t := 31) c_194_15 rfl ⟨h_55, ⟨(lel ha1.1 rfl), (ler ha1.2 rfl)⟩, (lel ha2.1 rfl), (ler ha2.2 rfl)⟩ (q_aload_n c_194_18 rfl (q_iload_n c_194_19 rfl (v_cv c_194_20 km_8_343 rfl rfl (Nat.le_of_ble_eq_true rfl) ⟨⟨rfl, rfl⟩, Nat.le_of_ble_eq_true rfl, rfl⟩ (Nat.le_of_ble_eq_true rfl) (Nat.le_of_ble_eq_true rfl) (s_187 (v1 := c 59 (4 * a2)) (v2 := c 59 (4 * a2 + 1)) (v3 := c 59 (4 * a2 + 2)) (v4 := c 59 (4 * a2 + 3)) (r := c 59 (4 * a2 + 1) + c 59 (4 * a2 + 2) + c 59 (4 * a2 + 3) + c 59 (4 * a2)) (a1 := a2) hIo (show 0 ≤ a2 ∧ a2 ≤ 5 from ha2) (rfl) (rfl) (rfl) (rfl) (by omega) (bk_inl (q_iload_n c_194_23 rfl (v_iadd (v := a3 + c 59 (4 * a2 + 1) + c 59 (4 * a2 + 2) + c 59 (4 * a2 + 3) + c 59 (4 * a2)) c_194_24 (by first | (clear ha1 ha2 ha3 h_2 h_3 h_4 h_5 hsum_1 h_7 h_8 h_9 h_10 hsum_6 h_33 h_11 h_55; omega) | omega) (v_sip c_194_25 (of_decide_eq_true rfl) ?_))))))))
        by_cases h_77 : a3 + c 59 (4 * a2 + 1) + c 59 (4 * a2 + 2) + c 59 (4 * a2 + 3) + c 59 (4 * a2) ≤ 9999
        · refine v_ic_le_t (t := 33) c_194_28 rfl ⟨(q_62ebcb2f9 h_10 h_7 h_8 h_9 ha3), h_77, of_decide_eq_true rfl⟩ (q_iload_n c_194_33 rfl (q_istore c_194_34 (Nat.le_of_ble_eq_true rfl) (q_iconst c_194_36 (q_istore c_194_37 (Nat.le_of_ble_eq_true rfl) (q_iload c_194_39 rfl (q_iconst c_194_41 (v_ic_ge_f (t := 124) c_194_42 rfl (of_decide_eq_true rfl) ?_)))))))
          refine q_aload_n c_194_45 rfl (v_gr (t := 59) c_194_46 kf_8_68 rfl (Nat.le_of_ble_eq_true rfl) rfl (q_iconst c_194_49 (q_iload_n c_194_50 rfl (v_imul (v := 4 * a1) c_194_51 rfl (q_iload c_194_52 rfl (v_iadd (v := 4 * a1) c_194_54 (by first | (clear ha1 ha2 ha3 h_2 h_3 h_4 h_5 hsum_1 h_7 h_8 h_9 h_10 hsum_6 h_33 h_77 h_11 h_55; omega) | omega) (v_ia (v := c 59 (4 * a1)) c_194_55 rfl (of_decide_eq_true rfl) (of_decide_eq_true rfl) ⟨(q_c065257af ha1), (q_a49915bbb ha1)⟩ rfl ?_)))))))
          refine q_iload c_194_56 rfl ?_
          have KJ_78 : ∀ y_79 : Int, (y_79 ≤ c 59 (4 * a1) ∧ y_79 ≤ a3) ∧ 0 ≤ y_79 → Wp sc (d + 8) 194 79 [(0, .ref 41), (1, vi a1), (2, vi a2), (3, vi a3), (4, vi a3), (5, vi 0), (6, vi y_79)] [] (Wd P Q P P c) 0 0 Z := by
            intro y_79 hy_79
            refine q_aload_n c_194_79 rfl (v_gr (t := 59) c_194_80 kf_8_68 rfl (Nat.le_of_ble_eq_true rfl) rfl (q_iconst c_194_83 (q_iload_n c_194_84 rfl (v_imul (v := 4 * a1) c_194_85 rfl (q_iload c_194_86 rfl (v_iadd (v := 4 * a1) c_194_88 (by first | (clear ha1 ha2 ha3 h_2 h_3 h_4 h_5 hsum_1 h_7 h_8 h_9 h_10 hsum_6 h_33 h_77 h_11 h_55; omega) | omega) (q_dup2 c_194_89 ⟨rfl, rfl⟩ ?_)))))))
            refine v_ia (v := c 59 (4 * a1)) c_194_90 rfl (of_decide_eq_true rfl) (of_decide_eq_true rfl) ⟨(q_c065257af ha1), (q_a49915bbb ha1)⟩ rfl (q_iload c_194_91 rfl (v_isub (v := c 59 (4 * a1) - y_79) c_194_93 rfl (v_is c_194_94 rfl (of_decide_eq_true rfl) (of_decide_eq_true rfl) ⟨(q_c065257af ha1), (q_a49915bbb ha1)⟩ (q_aload_n c_194_95 rfl (v_gr (t := 59) c_194_96 kf_8_68 rfl (Nat.le_of_ble_eq_true rfl) rfl (q_iconst c_194_99 (q_iload_n c_194_100 rfl ?_)))))))
            refine v_imul (v := 4 * a2) c_194_101 rfl (q_iload c_194_102 rfl (v_iadd (v := 4 * a2) c_194_104 (by first | (clear ha1 ha2 ha3 h_2 h_3 h_4 h_5 hsum_1 h_7 h_8 h_9 h_10 hsum_6 h_33 h_77 h_11 h_55; omega) | omega) (q_dup2 c_194_105 ⟨rfl, rfl⟩ (v_ia (v := c 59 (4 * a2)) c_194_106 rfl (of_decide_eq_true rfl) (of_decide_eq_true rfl) ⟨(q_c065257af ha2), (q_a49915bbb ha2)⟩ (up_n ((q_ed83c297d h_55))) (q_iload c_194_107 rfl (v_iadd (v := c 59 (4 * a2) + y_79) c_194_109 rfl (v_is c_194_110 rfl (of_decide_eq_true rfl) (of_decide_eq_true rfl) ⟨(q_c065257af ha2), (q_a49915bbb ha2)⟩ ?_)))))))
            refine q_iload c_194_111 rfl (q_iload c_194_113 rfl (v_isub (v := a3 - y_79) c_194_115 rfl (q_istore c_194_116 (Nat.le_of_ble_eq_true rfl) (v_iinc (v := 1) c_194_118 rfl (Nat.le_of_ble_eq_true rfl) (of_decide_eq_true rfl) (q_goto (t := 39) c_194_121 rfl (q_iload c_194_39 rfl (q_iconst c_194_41 ?_)))))))
            refine v_ic_ge_f (t := 124) c_194_42 rfl (of_decide_eq_true rfl) (q_aload_n c_194_45 rfl (v_gr (t := 59) c_194_46 kf_8_68 rfl (Nat.le_of_ble_eq_true rfl) rfl (q_iconst c_194_49 (q_iload_n c_194_50 rfl (v_imul (v := 4 * a1) c_194_51 rfl (q_iload c_194_52 rfl (v_iadd (v := 4 * a1 + 1) c_194_54 rfl ?_)))))))
            refine v_ia (v := c 59 (4 * a1 + 1)) c_194_55 rfl (of_decide_eq_true rfl) (of_decide_eq_true rfl) ⟨(q_83fdbd35d ha1), (q_7a0c0a739 ha1)⟩ ((up_n ((q_e5bcc673e))).trans (up_n ((ne_a0 (ni rfl))))) (q_iload c_194_56 rfl ?_)
            have KJ_80 : ∀ y_81 : Int, (y_81 ≤ c 59 (4 * a1 + 1) ∧ y_81 ≤ a3 - y_79) ∧ 0 ≤ y_81 → Wp sc (d + 8) 194 79 [(0, .ref 41), (1, vi a1), (2, vi a2), (3, vi a3), (4, vi (a3 - y_79)), (5, vi 1), (6, vi y_81)] [] (Wd P Q P P (up (up c 59 (4 * a1) (c 59 (4 * a1) - y_79)) 59 (4 * a2) (c 59 (4 * a2) + y_79))) 0 0 Z := by
              intro y_81 hy_81
              refine q_aload_n c_194_79 rfl (v_gr (t := 59) c_194_80 kf_8_68 rfl (Nat.le_of_ble_eq_true rfl) rfl (q_iconst c_194_83 (q_iload_n c_194_84 rfl (v_imul (v := 4 * a1) c_194_85 rfl (q_iload c_194_86 rfl (v_iadd (v := 4 * a1 + 1) c_194_88 rfl (q_dup2 c_194_89 ⟨rfl, rfl⟩ ?_)))))))
              refine v_ia (v := c 59 (4 * a1 + 1)) c_194_90 rfl (of_decide_eq_true rfl) (of_decide_eq_true rfl) ⟨(q_83fdbd35d ha1), (q_7a0c0a739 ha1)⟩ ((up_n ((q_e5bcc673e))).trans (up_n ((ne_a0 (ni rfl))))) (q_iload c_194_91 rfl (v_isub (v := c 59 (4 * a1 + 1) - y_81) c_194_93 rfl (v_is c_194_94 rfl (of_decide_eq_true rfl) (of_decide_eq_true rfl) ⟨(q_83fdbd35d ha1), (q_7a0c0a739 ha1)⟩ (q_aload_n c_194_95 rfl (v_gr (t := 59) c_194_96 kf_8_68 rfl (Nat.le_of_ble_eq_true rfl) rfl (q_iconst c_194_99 (q_iload_n c_194_100 rfl ?_)))))))
              refine v_imul (v := 4 * a2) c_194_101 rfl (q_iload c_194_102 rfl (v_iadd (v := 4 * a2 + 1) c_194_104 rfl (q_dup2 c_194_105 ⟨rfl, rfl⟩ (v_ia (v := c 59 (4 * a2 + 1)) c_194_106 rfl (of_decide_eq_true rfl) (of_decide_eq_true rfl) ⟨(q_83fdbd35d ha2), (q_7a0c0a739 ha2)⟩ ((up_n ((q_11c6f4f0a h_55))).trans ((up_n ((ne_a0 (ni rfl)))).trans (up_n ((q_e5bcc673e))))) (q_iload c_194_107 rfl (v_iadd (v := c 59 (4 * a2 + 1) + y_81) c_194_109 rfl (v_is c_194_110 rfl (of_decide_eq_true rfl) (of_decide_eq_true rfl) ⟨(q_83fdbd35d ha2), (q_7a0c0a739 ha2)⟩ ?_)))))))
              refine q_iload c_194_111 rfl (q_iload c_194_113 rfl (v_isub (v := a3 - y_79 - y_81) c_194_115 rfl (q_istore c_194_116 (Nat.le_of_ble_eq_true rfl) (v_iinc (v := 2) c_194_118 rfl (Nat.le_of_ble_eq_true rfl) (of_decide_eq_true rfl) (q_goto (t := 39) c_194_121 rfl (q_iload c_194_39 rfl (q_iconst c_194_41 ?_)))))))
              refine v_ic_ge_f (t := 124) c_194_42 rfl (of_decide_eq_true rfl) (q_aload_n c_194_45 rfl (v_gr (t := 59) c_194_46 kf_8_68 rfl (Nat.le_of_ble_eq_true rfl) rfl (q_iconst c_194_49 (q_iload_n c_194_50 rfl (v_imul (v := 4 * a1) c_194_51 rfl (q_iload c_194_52 rfl (v_iadd (v := 4 * a1 + 2) c_194_54 rfl ?_)))))))
              refine v_ia (v := c 59 (4 * a1 + 2)) c_194_55 rfl (of_decide_eq_true rfl) (of_decide_eq_true rfl) ⟨(q_0f37a0c6e ha1), (q_36e1404d4 ha1)⟩ ((up_n ((q_08c3d7060))).trans ((up_n ((ne_aa (ni rfl)))).trans ((up_n ((q_ae83e86ba))).trans (up_n ((ne_a0 (ni rfl))))))) (q_iload c_194_56 rfl ?_)
              have KJ_82 : ∀ y_83 : Int, (y_83 ≤ c 59 (4 * a1 + 2) ∧ y_83 ≤ a3 - y_79 - y_81) ∧ 0 ≤ y_83 → Wp sc (d + 8) 194 79 [(0, .ref 41), (1, vi a1), (2, vi a2), (3, vi a3), (4, vi (a3 - y_79 - y_81)), (5, vi 2), (6, vi y_83)] [] (Wd P Q P P (up (up (up (up c 59 (4 * a1) (c 59 (4 * a1) - y_79)) 59 (4 * a2) (c 59 (4 * a2) + y_79)) 59 (4 * a1 + 1) (c 59 (4 * a1 + 1) - y_81)) 59 (4 * a2 + 1) (c 59 (4 * a2 + 1) + y_81))) 0 0 Z := by
                intro y_83 hy_83
                refine q_aload_n c_194_79 rfl (v_gr (t := 59) c_194_80 kf_8_68 rfl (Nat.le_of_ble_eq_true rfl) rfl (q_iconst c_194_83 (q_iload_n c_194_84 rfl (v_imul (v := 4 * a1) c_194_85 rfl (q_iload c_194_86 rfl (v_iadd (v := 4 * a1 + 2) c_194_88 rfl (q_dup2 c_194_89 ⟨rfl, rfl⟩ ?_)))))))
                refine v_ia (v := c 59 (4 * a1 + 2)) c_194_90 rfl (of_decide_eq_true rfl) (of_decide_eq_true rfl) ⟨(q_0f37a0c6e ha1), (q_36e1404d4 ha1)⟩ ((up_n ((q_08c3d7060))).trans ((up_n ((ne_aa (ni rfl)))).trans ((up_n ((q_ae83e86ba))).trans (up_n ((ne_a0 (ni rfl))))))) (q_iload c_194_91 rfl (v_isub (v := c 59 (4 * a1 + 2) - y_83) c_194_93 rfl (v_is c_194_94 rfl (of_decide_eq_true rfl) (of_decide_eq_true rfl) ⟨(q_0f37a0c6e ha1), (q_36e1404d4 ha1)⟩ (q_aload_n c_194_95 rfl (v_gr (t := 59) c_194_96 kf_8_68 rfl (Nat.le_of_ble_eq_true rfl) rfl (q_iconst c_194_99 (q_iload_n c_194_100 rfl ?_)))))))
                refine v_imul (v := 4 * a2) c_194_101 rfl (q_iload c_194_102 rfl (v_iadd (v := 4 * a2 + 2) c_194_104 rfl (q_dup2 c_194_105 ⟨rfl, rfl⟩ (v_ia (v := c 59 (4 * a2 + 2)) c_194_106 rfl (of_decide_eq_true rfl) (of_decide_eq_true rfl) ⟨(q_0f37a0c6e ha2), (q_36e1404d4 ha2)⟩ ((up_n ((q_93f4687d0 h_55))).trans ((up_n ((ne_aa (ni rfl)))).trans ((up_n ((q_08c3d7060))).trans ((up_n ((ne_a0 (ni rfl)))).trans (up_n ((q_ae83e86ba))))))) (q_iload c_194_107 rfl (v_iadd (v := c 59 (4 * a2 + 2) + y_83) c_194_109 rfl (v_is c_194_110 rfl (of_decide_eq_true rfl) (of_decide_eq_true rfl) ⟨(q_0f37a0c6e ha2), (q_36e1404d4 ha2)⟩ ?_)))))))
                refine q_iload c_194_111 rfl (q_iload c_194_113 rfl (v_isub (v := a3 - y_79 - y_81 - y_83) c_194_115 rfl (q_istore c_194_116 (Nat.le_of_ble_eq_true rfl) (v_iinc (v := 3) c_194_118 rfl (Nat.le_of_ble_eq_true rfl) (of_decide_eq_true rfl) (q_goto (t := 39) c_194_121 rfl (q_iload c_194_39 rfl (q_iconst c_194_41 ?_)))))))
                refine v_ic_ge_f (t := 124) c_194_42 rfl (of_decide_eq_true rfl) (q_aload_n c_194_45 rfl (v_gr (t := 59) c_194_46 kf_8_68 rfl (Nat.le_of_ble_eq_true rfl) rfl (q_iconst c_194_49 (q_iload_n c_194_50 rfl (v_imul (v := 4 * a1) c_194_51 rfl (q_iload c_194_52 rfl (v_iadd (v := 4 * a1 + 3) c_194_54 rfl ?_)))))))
                refine v_ia (v := c 59 (4 * a1 + 3)) c_194_55 rfl (of_decide_eq_true rfl) (of_decide_eq_true rfl) ⟨(q_f6be69137 ha1), (q_6b2d832d4 ha1)⟩ ((up_n ((q_28d70e8e5))).trans ((up_n ((ne_aa (ni rfl)))).trans ((up_n ((q_6d5c6886e))).trans ((up_n ((ne_aa (ni rfl)))).trans ((up_n ((q_b6789388a))).trans (up_n ((ne_a0 (ni rfl))))))))) (q_iload c_194_56 rfl ?_)
                have KJ_84 : ∀ y_85 : Int, (y_85 ≤ c 59 (4 * a1 + 3) ∧ y_85 ≤ a3 - y_79 - y_81 - y_83) ∧ 0 ≤ y_85 → Wp sc (d + 8) 194 79 [(0, .ref 41), (1, vi a1), (2, vi a2), (3, vi a3), (4, vi (a3 - y_79 - y_81 - y_83)), (5, vi 3), (6, vi y_85)] [] (Wd P Q P P (up (up (up (up (up (up c 59 (4 * a1) (c 59 (4 * a1) - y_79)) 59 (4 * a2) (c 59 (4 * a2) + y_79)) 59 (4 * a1 + 1) (c 59 (4 * a1 + 1) - y_81)) 59 (4 * a2 + 1) (c 59 (4 * a2 + 1) + y_81)) 59 (4 * a1 + 2) (c 59 (4 * a1 + 2) - y_83)) 59 (4 * a2 + 2) (c 59 (4 * a2 + 2) + y_83))) 0 0 Z := by
                  intro y_85 hy_85
                  refine q_aload_n c_194_79 rfl (v_gr (t := 59) c_194_80 kf_8_68 rfl (Nat.le_of_ble_eq_true rfl) rfl (q_iconst c_194_83 (q_iload_n c_194_84 rfl (v_imul (v := 4 * a1) c_194_85 rfl (q_iload c_194_86 rfl (v_iadd (v := 4 * a1 + 3) c_194_88 rfl (q_dup2 c_194_89 ⟨rfl, rfl⟩ ?_)))))))
                  refine v_ia (v := c 59 (4 * a1 + 3)) c_194_90 rfl (of_decide_eq_true rfl) (of_decide_eq_true rfl) ⟨(q_f6be69137 ha1), (q_6b2d832d4 ha1)⟩ ((up_n ((q_28d70e8e5))).trans ((up_n ((ne_aa (ni rfl)))).trans ((up_n ((q_6d5c6886e))).trans ((up_n ((ne_aa (ni rfl)))).trans ((up_n ((q_b6789388a))).trans (up_n ((ne_a0 (ni rfl))))))))) (q_iload c_194_91 rfl (v_isub (v := c 59 (4 * a1 + 3) - y_85) c_194_93 rfl (v_is c_194_94 rfl (of_decide_eq_true rfl) (of_decide_eq_true rfl) ⟨(q_f6be69137 ha1), (q_6b2d832d4 ha1)⟩ (q_aload_n c_194_95 rfl (v_gr (t := 59) c_194_96 kf_8_68 rfl (Nat.le_of_ble_eq_true rfl) rfl (q_iconst c_194_99 (q_iload_n c_194_100 rfl ?_)))))))
                  refine v_imul (v := 4 * a2) c_194_101 rfl (q_iload c_194_102 rfl (v_iadd (v := 4 * a2 + 3) c_194_104 rfl (q_dup2 c_194_105 ⟨rfl, rfl⟩ (v_ia (v := c 59 (4 * a2 + 3)) c_194_106 rfl (of_decide_eq_true rfl) (of_decide_eq_true rfl) ⟨(q_f6be69137 ha2), (q_6b2d832d4 ha2)⟩ ((up_n ((q_69b4a572f h_55))).trans ((up_n ((ne_aa (ni rfl)))).trans ((up_n ((q_28d70e8e5))).trans ((up_n ((ne_aa (ni rfl)))).trans ((up_n ((q_6d5c6886e))).trans ((up_n ((ne_a0 (ni rfl)))).trans (up_n ((q_b6789388a))))))))) (q_iload c_194_107 rfl (v_iadd (v := c 59 (4 * a2 + 3) + y_85) c_194_109 rfl (v_is c_194_110 rfl (of_decide_eq_true rfl) (of_decide_eq_true rfl) ⟨(q_f6be69137 ha2), (q_6b2d832d4 ha2)⟩ ?_)))))))
                  refine q_iload c_194_111 rfl (q_iload c_194_113 rfl (v_isub (v := a3 - y_79 - y_81 - y_83 - y_85) c_194_115 rfl (q_istore c_194_116 (Nat.le_of_ble_eq_true rfl) (v_iinc (v := 4) c_194_118 rfl (Nat.le_of_ble_eq_true rfl) (of_decide_eq_true rfl) (q_goto (t := 39) c_194_121 rfl (q_iload c_194_39 rfl (q_iconst c_194_41 ?_)))))))
                  refine v_ic_ge_t (t := 124) c_194_42 rfl (of_decide_eq_true rfl) (q_aload_n c_194_124 rfl (q_iload_n c_194_125 rfl (q_aload_n c_194_126 rfl (v_gr (t := 59) c_194_127 kf_8_68 rfl (Nat.le_of_ble_eq_true rfl) rfl (v_bip c_194_130 (of_decide_eq_true rfl) (q_iload_n c_194_132 rfl (v_iadd (v := a1 + 24) c_194_133 (by first | (clear ha1 ha2 ha3 h_2 h_3 h_4 h_5 hsum_1 h_7 h_8 h_9 h_10 hsum_6 h_33 h_77 h_11 h_55; omega) | omega) ?_)))))))
                  have h_86 := ir_59 hI (a1 + 24)
                  refine v_ia (v := c 59 (a1 + 24)) c_194_134 rfl (of_decide_eq_true rfl) (of_decide_eq_true rfl) ⟨(rgp_l ha1.1 (of_decide_eq_true rfl)), (q_57f615a18 ha1)⟩ ((up_n (ne_g ((q_e782b8c3c ha1 ha2)))).trans ((up_n (ne_g ((q_fd9aac8f8 ha1)))).trans ((up_n (ne_g ((q_04ab4010a ha1 ha2)))).trans ((up_n (ne_g ((q_27ec1b4d7 ha1)))).trans ((up_n (ne_g ((q_8f2481ba6 ha1 ha2)))).trans ((up_n (ne_g ((q_60c9feeee ha1)))).trans ((up_n (ne_g ((q_4128697c9 ha1 ha2)))).trans (up_n (ne_g ((q_788f4b81f ha1))))))))))) ?_
                  have hI_87 := iw_row (a := 59) (j := 4 * a1) (v := c 59 (4 * a1) - y_79) hIo (by omega) (Or.inl rfl) ⟨by omega, by omega, by omega⟩
                  have hI_88 := iw_row (a := 59) (j := 4 * a2) (v := c 59 (4 * a2) + y_79) hI_87 (by omega) (Or.inl rfl) ⟨by omega, by omega, by omega⟩
                  have hI_89 := iw_row (a := 59) (j := 4 * a1 + 1) (v := c 59 (4 * a1 + 1) - y_81) hI_88 (by omega) (Or.inl rfl) ⟨by omega, by omega, by omega⟩
                  have hI_90 := iw_row (a := 59) (j := 4 * a2 + 1) (v := c 59 (4 * a2 + 1) + y_81) hI_89 (by omega) (Or.inl rfl) ⟨by omega, by omega, by omega⟩
                  have hI_91 := iw_row (a := 59) (j := 4 * a1 + 2) (v := c 59 (4 * a1 + 2) - y_83) hI_90 (by omega) (Or.inl rfl) ⟨by omega, by omega, by omega⟩
                  have hI_92 := iw_row (a := 59) (j := 4 * a2 + 2) (v := c 59 (4 * a2 + 2) + y_83) hI_91 (by omega) (Or.inl rfl) ⟨by omega, by omega, by omega⟩
                  have hI_93 := iw_row (a := 59) (j := 4 * a1 + 3) (v := c 59 (4 * a1 + 3) - y_85) hI_92 (by omega) (Or.inl rfl) ⟨by omega, by omega, by omega⟩
                  have hI_94 := iw_row (a := 59) (j := 4 * a2 + 3) (v := c 59 (4 * a2 + 3) + y_85) hI_93 (by omega) (Or.inl rfl) ⟨by omega, by omega, by omega⟩
                  refine v_cv c_194_135 km_8_369 rfl rfl (Nat.le_of_ble_eq_true rfl) ⟨⟨rfl, rfl⟩, Nat.le_of_ble_eq_true rfl, rfl⟩ (Nat.le_of_ble_eq_true rfl) (Nat.le_of_ble_eq_true rfl) (s_191 (a1 := a2) (a2 := c 59 (a1 + 24)) hI_94 (show 0 ≤ a2 ∧ a2 ≤ 5 from ha2) (show (-2147483648) ≤ c 59 (a1 + 24) ∧ c 59 (a1 + 24) ≤ 2147483647 from h_86) (fun c_95 hI_96 hF_97 => (bk_inl (q_aload_n c_194_138 rfl (q_iload_n c_194_139 rfl ?_)))))
                  have kn_98 : Hid (c_95 59 (4 * a1) = c 59 (4 * a1) - y_79) := (hF_97 59 (4 * a1) (fun h => absurd h.2 (ne_l ((q_2b13428e8 ha1 ha2))))).trans ((up_n ((q_8ac71c5f3))).trans ((up_n ((ne_0a (ni rfl)))).trans ((up_n ((q_c037f51da))).trans ((up_n ((ne_0a (ni rfl)))).trans ((up_n ((q_b2cb8bf87))).trans ((up_n ((ne_0a (ni rfl)))).trans ((up_n ((q_336fb6678 h_55))).trans (up_e rfl))))))))
                  have kn_99 : Hid (c_95 59 (4 * a1 + 1) = c 59 (4 * a1 + 1) - y_81) := (hF_97 59 (4 * a1 + 1) (fun h => absurd h.2 (ne_l ((q_3178328df ha1 ha2))))).trans ((up_n ((q_7c6b1b09a))).trans ((up_n ((ne_aa (ni rfl)))).trans ((up_n ((q_3650b790c))).trans ((up_n ((ne_aa (ni rfl)))).trans ((up_n ((q_52b51d728 h_55))).trans (up_e rfl))))))
                  have kn_100 : Hid (c_95 59 (4 * a1 + 2) = c 59 (4 * a1 + 2) - y_83) := (hF_97 59 (4 * a1 + 2) (fun h => absurd h.2 (ne_l ((q_428481d46 ha1 ha2))))).trans ((up_n ((q_91c5bd343))).trans ((up_n ((ne_aa (ni rfl)))).trans ((up_n ((q_27892e29e h_55))).trans (up_e rfl))))
                  have kn_101 : Hid (c_95 59 (4 * a1 + 3) = c 59 (4 * a1 + 3) - y_85) := (hF_97 59 (4 * a1 + 3) (fun h => absurd h.2 (ne_l ((q_2771393a8 ha1 ha2))))).trans ((up_n ((q_2db9f474b h_55))).trans (up_e rfl))
                  refine v_cv c_194_140 km_8_343 rfl rfl (Nat.le_of_ble_eq_true rfl) ⟨⟨rfl, rfl⟩, Nat.le_of_ble_eq_true rfl, rfl⟩ (Nat.le_of_ble_eq_true rfl) (Nat.le_of_ble_eq_true rfl) (s_187 (v1 := c 59 (4 * a1) - y_79) (v2 := c 59 (4 * a1 + 1) - y_81) (v3 := c 59 (4 * a1 + 2) - y_83) (v4 := c 59 (4 * a1 + 3) - y_85) (r := c 59 (4 * a1 + 1) + c 59 (4 * a1 + 2) + c 59 (4 * a1 + 3) + c 59 (4 * a1) - y_79 - y_81 - y_83 - y_85) (a1 := a1) hI_96 (show 0 ≤ a1 ∧ a1 ≤ 5 from ha1) ((hid kn_98)) ((hid kn_99)) ((hid kn_100)) ((hid kn_101)) (by omega) (bk_inl ?_))
                  by_cases h_102 : c 59 (4 * a1 + 1) + c 59 (4 * a1 + 2) + c 59 (4 * a1 + 3) + c 59 (4 * a1) - y_79 - y_81 - y_83 - y_85 ≠ 0
                  · refine v_if_ne_t (t := 151) c_194_143 rfl ⟨h_102, ⟨by first | (clear ha1 ha2 ha3 h_2 h_3 h_4 h_5 hsum_1 h_7 h_8 h_9 h_10 hsum_6 h_77 h_86 h_11 h_55; omega) | omega, by first | (clear ha1 ha2 ha3 h_2 h_3 h_4 h_5 h_7 h_8 h_9 h_10 hsum_6 h_33 h_77 h_86 h_11 h_55; omega) | omega⟩, of_decide_eq_true rfl, of_decide_eq_true rfl⟩ (q_iconst c_194_151 (v_zret c_194_152 rfl (of_decide_eq_true rfl) ?_))
                    have hr_103 : ∀ j : Int, rs 59 j → c_95 59 j + c_95 59 (j + 1) + c_95 59 (j + 2) + c_95 59 (j + 3) ≤ 9999 := by
                      intro j9 hj9
                      obtain ⟨k9, rfl, hk9⟩ := rs_59 hj9
                      by_cases e_104 : k9 = a1
                      · skip
                        have h_105 : c_95 59 (4 * k9) = c 59 (4 * a1) - y_79 := (congrArg (c_95 59) (show 4 * k9 = 4 * a1 from by first | assumption | exact Int.le_antisymm (by omega) (by omega))).trans (hid kn_98)
                        have h_106 : c_95 59 (4 * k9 + 1) = c 59 (4 * a1 + 1) - y_81 := (congrArg (c_95 59) (show 4 * k9 + 1 = 4 * a1 + 1 from by first | assumption | exact Int.le_antisymm (by omega) (by omega))).trans (hid kn_99)
                        have h_107 : c_95 59 (4 * k9 + 2) = c 59 (4 * a1 + 2) - y_83 := (congrArg (c_95 59) (show 4 * k9 + 2 = 4 * a1 + 2 from by first | assumption | exact Int.le_antisymm (by omega) (by omega))).trans (hid kn_100)
                        have h_108 : c_95 59 (4 * k9 + 3) = c 59 (4 * a1 + 3) - y_85 := (congrArg (c_95 59) (show 4 * k9 + 3 = 4 * a1 + 3 from by first | assumption | exact Int.le_antisymm (by omega) (by omega))).trans (hid kn_101)
                        omega
                      by_cases e_109 : k9 = a2
                      · skip
                        have kn_110 : Hid (c_95 59 (4 * a2) = c 59 (4 * a2) + y_79) := (hF_97 59 (4 * a2) (fun h => absurd h.2 (ne_l ((q_788f4b81f ha2))))).trans ((up_n ((ne_0a (ni rfl)))).trans ((up_n ((q_8ac71c5f3))).trans ((up_n ((ne_0a (ni rfl)))).trans ((up_n ((q_c037f51da))).trans ((up_n ((ne_0a (ni rfl)))).trans ((up_n ((q_b2cb8bf87))).trans (up_e rfl)))))))
                        have h_111 : c_95 59 (4 * k9) = c 59 (4 * a2) + y_79 := (congrArg (c_95 59) (show 4 * k9 = 4 * a2 from by first | assumption | exact Int.le_antisymm (by omega) (by omega))).trans (hid kn_110)
                        have kn_112 : Hid (c_95 59 (4 * a2 + 1) = c 59 (4 * a2 + 1) + y_81) := (hF_97 59 (4 * a2 + 1) (fun h => absurd h.2 (ne_l ((q_60c9feeee ha2))))).trans ((up_n ((ne_aa (ni rfl)))).trans ((up_n ((q_7c6b1b09a))).trans ((up_n ((ne_aa (ni rfl)))).trans ((up_n ((q_3650b790c))).trans (up_e rfl)))))
                        have h_113 : c_95 59 (4 * k9 + 1) = c 59 (4 * a2 + 1) + y_81 := (congrArg (c_95 59) (show 4 * k9 + 1 = 4 * a2 + 1 from by first | assumption | exact Int.le_antisymm (by omega) (by omega))).trans (hid kn_112)
                        have kn_114 : Hid (c_95 59 (4 * a2 + 2) = c 59 (4 * a2 + 2) + y_83) := (hF_97 59 (4 * a2 + 2) (fun h => absurd h.2 (ne_l ((q_27ec1b4d7 ha2))))).trans ((up_n ((ne_aa (ni rfl)))).trans ((up_n ((q_91c5bd343))).trans (up_e rfl)))
                        have h_115 : c_95 59 (4 * k9 + 2) = c 59 (4 * a2 + 2) + y_83 := (congrArg (c_95 59) (show 4 * k9 + 2 = 4 * a2 + 2 from by first | assumption | exact Int.le_antisymm (by omega) (by omega))).trans (hid kn_114)
                        have kn_116 : Hid (c_95 59 (4 * a2 + 3) = c 59 (4 * a2 + 3) + y_85) := (hF_97 59 (4 * a2 + 3) (fun h => absurd h.2 (ne_l ((q_fd9aac8f8 ha2))))).trans (up_e rfl)
                        have h_117 : c_95 59 (4 * k9 + 3) = c 59 (4 * a2 + 3) + y_85 := (congrArg (c_95 59) (show 4 * k9 + 3 = 4 * a2 + 3 from by first | assumption | exact Int.le_antisymm (by omega) (by omega))).trans (hid kn_116)
                        omega
                      have h_118 := iv_r hI 59 (4 * k9) hj9 (by omega)
                      have h_119 := ir_59_g hI (j := 4 * k9) ((q_9f1d5ffdc hk9))
                      have kn_120 : Hid (c_95 59 (4 * k9) = c 59 (4 * k9)) := (hF_97 59 (4 * k9) (fun h => absurd h.2 (ne_l ((q_4128697c9 ha2 hk9))))).trans ((up_n ((q_8ac71c5f3))).trans ((up_n ((q_8ac71c5f3))).trans ((up_n ((q_c037f51da))).trans ((up_n ((q_c037f51da))).trans ((up_n ((q_b2cb8bf87))).trans ((up_n ((q_b2cb8bf87))).trans ((up_n ((q_336fb6678 e_109))).trans (up_n ((q_336fb6678 e_104))))))))))
                      have h_121 : c_95 59 (4 * k9) = c 59 (4 * k9) := (hid kn_120)
                      have h_122 := ir_59_g hI (j := 4 * k9 + 1) ((q_0a2ee6f8f hk9))
                      have kn_123 : Hid (c_95 59 (4 * k9 + 1) = c 59 (4 * k9 + 1)) := (hF_97 59 (4 * k9 + 1) (fun h => absurd h.2 (ne_l ((q_8f2481ba6 ha2 hk9))))).trans ((up_n ((q_7c6b1b09a))).trans ((up_n ((q_7c6b1b09a))).trans ((up_n ((q_3650b790c))).trans ((up_n ((q_3650b790c))).trans ((up_n ((q_52b51d728 e_109))).trans ((up_n ((q_52b51d728 e_104))).trans ((up_n ((q_e5bcc673e))).trans (up_n ((q_e5bcc673e))))))))))
                      have h_124 : c_95 59 (4 * k9 + 1) = c 59 (4 * k9 + 1) := (hid kn_123)
                      have h_125 := ir_59_g hI (j := 4 * k9 + 2) ((q_e07a293a2 hk9))
                      have kn_126 : Hid (c_95 59 (4 * k9 + 2) = c 59 (4 * k9 + 2)) := (hF_97 59 (4 * k9 + 2) (fun h => absurd h.2 (ne_l ((q_04ab4010a ha2 hk9))))).trans ((up_n ((q_91c5bd343))).trans ((up_n ((q_91c5bd343))).trans ((up_n ((q_27892e29e e_109))).trans ((up_n ((q_27892e29e e_104))).trans ((up_n ((q_08c3d7060))).trans ((up_n ((q_08c3d7060))).trans ((up_n ((q_ae83e86ba))).trans (up_n ((q_ae83e86ba))))))))))
                      have h_127 : c_95 59 (4 * k9 + 2) = c 59 (4 * k9 + 2) := (hid kn_126)
                      have h_128 := ir_59_g hI (j := 4 * k9 + 3) ((q_d09cb0b73 hk9))
                      have kn_129 : Hid (c_95 59 (4 * k9 + 3) = c 59 (4 * k9 + 3)) := (hF_97 59 (4 * k9 + 3) (fun h => absurd h.2 (ne_l ((q_e782b8c3c ha2 hk9))))).trans ((up_n ((q_2db9f474b e_109))).trans ((up_n ((q_2db9f474b e_104))).trans ((up_n ((q_28d70e8e5))).trans ((up_n ((q_28d70e8e5))).trans ((up_n ((q_6d5c6886e))).trans ((up_n ((q_6d5c6886e))).trans ((up_n ((q_b6789388a))).trans (up_n ((q_b6789388a))))))))))
                      have h_130 : c_95 59 (4 * k9 + 3) = c 59 (4 * k9 + 3) := (hid kn_129)
                      omega
                    have hI_131 := iv_close hI_96 hr_103
                    exact K c_95 1 hI_131 (fun a j hm => (hF_97 a j (fun h => hm h.1)).trans ((up_b (Decidable.or_iff_not_imp_left.mpr (fun h1 h2 => hm (Decidable.not_not.mp h1)))).trans ((up_b (Decidable.or_iff_not_imp_left.mpr (fun h1 h2 => hm (Decidable.not_not.mp h1)))).trans ((up_b (Decidable.or_iff_not_imp_left.mpr (fun h1 h2 => hm (Decidable.not_not.mp h1)))).trans ((up_b (Decidable.or_iff_not_imp_left.mpr (fun h1 h2 => hm (Decidable.not_not.mp h1)))).trans ((up_b (Decidable.or_iff_not_imp_left.mpr (fun h1 h2 => hm (Decidable.not_not.mp h1)))).trans ((up_b (Decidable.or_iff_not_imp_left.mpr (fun h1 h2 => hm (Decidable.not_not.mp h1)))).trans ((up_b (Decidable.or_iff_not_imp_left.mpr (fun h1 h2 => hm (Decidable.not_not.mp h1)))).trans (up_b (Decidable.or_iff_not_imp_left.mpr (fun h1 h2 => hm (Decidable.not_not.mp h1)))))))))))) ⟨of_decide_eq_true rfl, of_decide_eq_true rfl⟩
                  · refine v_if_ne_f (t := 151) c_194_143 rfl (Decidable.not_not.mp h_102) (q_aload_n c_194_146 rfl (q_iload_n c_194_147 rfl (v_cv c_194_148 km_8_372 rfl rfl (Nat.le_of_ble_eq_true rfl) ⟨⟨rfl, rfl⟩, Nat.le_of_ble_eq_true rfl, rfl⟩ (Nat.le_of_ble_eq_true rfl) (Nat.le_of_ble_eq_true rfl) (s_192 (a1 := a1) hI_96 (show 0 ≤ a1 ∧ a1 ≤ 5 from ha1) (fun c_132 hI_133 hF_134 h_135 => (bk_inl ?_))))))
                    have h_136 := ir_59_g hI_133 (j := 4 * a1 + 1) ((q_0a2ee6f8f ha1))
                    have h_137 := ir_59_g hI_133 (j := 4 * a1 + 2) ((q_e07a293a2 ha1))
                    have h_138 := ir_59_g hI_133 (j := 4 * a1 + 3) ((q_d09cb0b73 ha1))
                    have h_139 := ir_59_g hI_133 (j := 4 * a1) ((q_9f1d5ffdc ha1))
                    refine q_iconst c_194_151 (v_zret c_194_152 rfl (of_decide_eq_true rfl) ?_)
                    have hr_140 : ∀ j : Int, rs 59 j → c_132 59 j + c_132 59 (j + 1) + c_132 59 (j + 2) + c_132 59 (j + 3) ≤ 9999 := by
                      intro j9 hj9
                      obtain ⟨k9, rfl, hk9⟩ := rs_59 hj9
                      by_cases e_141 : k9 = a1
                      · skip
                        have h_142 : c_132 59 (4 * k9) = c_132 59 (4 * a1) := (congrArg (c_132 59) (show 4 * k9 = 4 * a1 from by first | assumption | exact Int.le_antisymm (by omega) (by omega)))
                        have h_143 : c_132 59 (4 * k9 + 1) = c_132 59 (4 * a1 + 1) := (congrArg (c_132 59) (show 4 * k9 + 1 = 4 * a1 + 1 from by first | assumption | exact Int.le_antisymm (by omega) (by omega)))
                        have h_144 : c_132 59 (4 * k9 + 2) = c_132 59 (4 * a1 + 2) := (congrArg (c_132 59) (show 4 * k9 + 2 = 4 * a1 + 2 from by first | assumption | exact Int.le_antisymm (by omega) (by omega)))
                        have h_145 : c_132 59 (4 * k9 + 3) = c_132 59 (4 * a1 + 3) := (congrArg (c_132 59) (show 4 * k9 + 3 = 4 * a1 + 3 from by first | assumption | exact Int.le_antisymm (by omega) (by omega)))
                        omega
                      by_cases e_146 : k9 = a2
                      · skip
                        have kn_147 : Hid (c_95 59 (4 * a2) = c 59 (4 * a2) + y_79) := (hF_97 59 (4 * a2) (fun h => absurd h.2 (ne_l ((q_788f4b81f ha2))))).trans ((up_n ((ne_0a (ni rfl)))).trans ((up_n ((q_8ac71c5f3))).trans ((up_n ((ne_0a (ni rfl)))).trans ((up_n ((q_c037f51da))).trans ((up_n ((ne_0a (ni rfl)))).trans ((up_n ((q_b2cb8bf87))).trans (up_e rfl)))))))
                        have kn_148 : Hid (c_132 59 (4 * a2) = c 59 (4 * a2) + y_79) := (hF_134 59 (4 * a2) (fun q => q.elim (fun h => absurd h.2 ((q_ed83c297d h_55))) (fun q => q.elim (fun h => absurd h.2 ((q_b2cb8bf87))) (fun q => q.elim (fun h => absurd h.2 ((q_c037f51da))) (fun q => q.elim (fun h => absurd h.2 ((q_8ac71c5f3))) (fun h => absurd h.2 (ne_l ((q_4128697c9 ha1 ha2))))))))).trans (hid kn_147)
                        have h_149 : c_132 59 (4 * k9) = c 59 (4 * a2) + y_79 := (congrArg (c_132 59) (show 4 * k9 = 4 * a2 from by first | assumption | exact Int.le_antisymm (by omega) (by omega))).trans (hid kn_148)
                        have kn_150 : Hid (c_95 59 (4 * a2 + 1) = c 59 (4 * a2 + 1) + y_81) := (hF_97 59 (4 * a2 + 1) (fun h => absurd h.2 (ne_l ((q_60c9feeee ha2))))).trans ((up_n ((ne_aa (ni rfl)))).trans ((up_n ((q_7c6b1b09a))).trans ((up_n ((ne_aa (ni rfl)))).trans ((up_n ((q_3650b790c))).trans (up_e rfl)))))
                        have kn_151 : Hid (c_132 59 (4 * a2 + 1) = c 59 (4 * a2 + 1) + y_81) := (hF_134 59 (4 * a2 + 1) (fun q => q.elim (fun h => absurd h.2 ((q_e5bcc673e))) (fun q => q.elim (fun h => absurd h.2 ((q_11c6f4f0a h_55))) (fun q => q.elim (fun h => absurd h.2 ((q_3650b790c))) (fun q => q.elim (fun h => absurd h.2 ((q_7c6b1b09a))) (fun h => absurd h.2 (ne_l ((q_8f2481ba6 ha1 ha2))))))))).trans (hid kn_150)
                        have h_152 : c_132 59 (4 * k9 + 1) = c 59 (4 * a2 + 1) + y_81 := (congrArg (c_132 59) (show 4 * k9 + 1 = 4 * a2 + 1 from by first | assumption | exact Int.le_antisymm (by omega) (by omega))).trans (hid kn_151)
                        have kn_153 : Hid (c_95 59 (4 * a2 + 2) = c 59 (4 * a2 + 2) + y_83) := (hF_97 59 (4 * a2 + 2) (fun h => absurd h.2 (ne_l ((q_27ec1b4d7 ha2))))).trans ((up_n ((ne_aa (ni rfl)))).trans ((up_n ((q_91c5bd343))).trans (up_e rfl)))
                        have kn_154 : Hid (c_132 59 (4 * a2 + 2) = c 59 (4 * a2 + 2) + y_83) := (hF_134 59 (4 * a2 + 2) (fun q => q.elim (fun h => absurd h.2 ((q_ae83e86ba))) (fun q => q.elim (fun h => absurd h.2 ((q_08c3d7060))) (fun q => q.elim (fun h => absurd h.2 ((q_93f4687d0 h_55))) (fun q => q.elim (fun h => absurd h.2 ((q_91c5bd343))) (fun h => absurd h.2 (ne_l ((q_04ab4010a ha1 ha2))))))))).trans (hid kn_153)
                        have h_155 : c_132 59 (4 * k9 + 2) = c 59 (4 * a2 + 2) + y_83 := (congrArg (c_132 59) (show 4 * k9 + 2 = 4 * a2 + 2 from by first | assumption | exact Int.le_antisymm (by omega) (by omega))).trans (hid kn_154)
                        have kn_156 : Hid (c_95 59 (4 * a2 + 3) = c 59 (4 * a2 + 3) + y_85) := (hF_97 59 (4 * a2 + 3) (fun h => absurd h.2 (ne_l ((q_fd9aac8f8 ha2))))).trans (up_e rfl)
                        have kn_157 : Hid (c_132 59 (4 * a2 + 3) = c 59 (4 * a2 + 3) + y_85) := (hF_134 59 (4 * a2 + 3) (fun q => q.elim (fun h => absurd h.2 ((q_b6789388a))) (fun q => q.elim (fun h => absurd h.2 ((q_6d5c6886e))) (fun q => q.elim (fun h => absurd h.2 ((q_28d70e8e5))) (fun q => q.elim (fun h => absurd h.2 ((q_69b4a572f h_55))) (fun h => absurd h.2 (ne_l ((q_e782b8c3c ha1 ha2))))))))).trans (hid kn_156)
                        have h_158 : c_132 59 (4 * k9 + 3) = c 59 (4 * a2 + 3) + y_85 := (congrArg (c_132 59) (show 4 * k9 + 3 = 4 * a2 + 3 from by first | assumption | exact Int.le_antisymm (by omega) (by omega))).trans (hid kn_157)
                        omega
                      have h_159 := iv_r hI 59 (4 * k9) hj9 (by omega)
                      have h_160 := ir_59_g hI (j := 4 * k9) ((q_9f1d5ffdc hk9))
                      have kn_161 : Hid (c_95 59 (4 * k9) = c 59 (4 * k9)) := (hF_97 59 (4 * k9) (fun h => absurd h.2 (ne_l ((q_4128697c9 ha2 hk9))))).trans ((up_n ((q_8ac71c5f3))).trans ((up_n ((q_8ac71c5f3))).trans ((up_n ((q_c037f51da))).trans ((up_n ((q_c037f51da))).trans ((up_n ((q_b2cb8bf87))).trans ((up_n ((q_b2cb8bf87))).trans ((up_n ((q_336fb6678 e_146))).trans (up_n ((q_336fb6678 e_141))))))))))
                      have kn_162 : Hid (c_132 59 (4 * k9) = c 59 (4 * k9)) := (hF_134 59 (4 * k9) (fun q => q.elim (fun h => absurd h.2 ((q_336fb6678 e_141))) (fun q => q.elim (fun h => absurd h.2 ((q_b2cb8bf87))) (fun q => q.elim (fun h => absurd h.2 ((q_c037f51da))) (fun q => q.elim (fun h => absurd h.2 ((q_8ac71c5f3))) (fun h => absurd h.2 (ne_l ((q_4128697c9 ha1 hk9))))))))).trans (hid kn_161)
                      have h_163 : c_132 59 (4 * k9) = c 59 (4 * k9) := (hid kn_162)
                      have h_164 := ir_59_g hI (j := 4 * k9 + 1) ((q_0a2ee6f8f hk9))
                      have kn_165 : Hid (c_95 59 (4 * k9 + 1) = c 59 (4 * k9 + 1)) := (hF_97 59 (4 * k9 + 1) (fun h => absurd h.2 (ne_l ((q_8f2481ba6 ha2 hk9))))).trans ((up_n ((q_7c6b1b09a))).trans ((up_n ((q_7c6b1b09a))).trans ((up_n ((q_3650b790c))).trans ((up_n ((q_3650b790c))).trans ((up_n ((q_52b51d728 e_146))).trans ((up_n ((q_52b51d728 e_141))).trans ((up_n ((q_e5bcc673e))).trans (up_n ((q_e5bcc673e))))))))))
                      have kn_166 : Hid (c_132 59 (4 * k9 + 1) = c 59 (4 * k9 + 1)) := (hF_134 59 (4 * k9 + 1) (fun q => q.elim (fun h => absurd h.2 ((q_e5bcc673e))) (fun q => q.elim (fun h => absurd h.2 ((q_52b51d728 e_141))) (fun q => q.elim (fun h => absurd h.2 ((q_3650b790c))) (fun q => q.elim (fun h => absurd h.2 ((q_7c6b1b09a))) (fun h => absurd h.2 (ne_l ((q_8f2481ba6 ha1 hk9))))))))).trans (hid kn_165)
                      have h_167 : c_132 59 (4 * k9 + 1) = c 59 (4 * k9 + 1) := (hid kn_166)
                      have h_168 := ir_59_g hI (j := 4 * k9 + 2) ((q_e07a293a2 hk9))
                      have kn_169 : Hid (c_95 59 (4 * k9 + 2) = c 59 (4 * k9 + 2)) := (hF_97 59 (4 * k9 + 2) (fun h => absurd h.2 (ne_l ((q_04ab4010a ha2 hk9))))).trans ((up_n ((q_91c5bd343))).trans ((up_n ((q_91c5bd343))).trans ((up_n ((q_27892e29e e_146))).trans ((up_n ((q_27892e29e e_141))).trans ((up_n ((q_08c3d7060))).trans ((up_n ((q_08c3d7060))).trans ((up_n ((q_ae83e86ba))).trans (up_n ((q_ae83e86ba))))))))))
                      have kn_170 : Hid (c_132 59 (4 * k9 + 2) = c 59 (4 * k9 + 2)) := (hF_134 59 (4 * k9 + 2) (fun q => q.elim (fun h => absurd h.2 ((q_ae83e86ba))) (fun q => q.elim (fun h => absurd h.2 ((q_08c3d7060))) (fun q => q.elim (fun h => absurd h.2 ((q_27892e29e e_141))) (fun q => q.elim (fun h => absurd h.2 ((q_91c5bd343))) (fun h => absurd h.2 (ne_l ((q_04ab4010a ha1 hk9))))))))).trans (hid kn_169)
                      have h_171 : c_132 59 (4 * k9 + 2) = c 59 (4 * k9 + 2) := (hid kn_170)
                      have h_172 := ir_59_g hI (j := 4 * k9 + 3) ((q_d09cb0b73 hk9))
                      have kn_173 : Hid (c_95 59 (4 * k9 + 3) = c 59 (4 * k9 + 3)) := (hF_97 59 (4 * k9 + 3) (fun h => absurd h.2 (ne_l ((q_e782b8c3c ha2 hk9))))).trans ((up_n ((q_2db9f474b e_146))).trans ((up_n ((q_2db9f474b e_141))).trans ((up_n ((q_28d70e8e5))).trans ((up_n ((q_28d70e8e5))).trans ((up_n ((q_6d5c6886e))).trans ((up_n ((q_6d5c6886e))).trans ((up_n ((q_b6789388a))).trans (up_n ((q_b6789388a))))))))))
                      have kn_174 : Hid (c_132 59 (4 * k9 + 3) = c 59 (4 * k9 + 3)) := (hF_134 59 (4 * k9 + 3) (fun q => q.elim (fun h => absurd h.2 ((q_b6789388a))) (fun q => q.elim (fun h => absurd h.2 ((q_6d5c6886e))) (fun q => q.elim (fun h => absurd h.2 ((q_28d70e8e5))) (fun q => q.elim (fun h => absurd h.2 ((q_2db9f474b e_141))) (fun h => absurd h.2 (ne_l ((q_e782b8c3c ha1 hk9))))))))).trans (hid kn_173)
                      have h_175 : c_132 59 (4 * k9 + 3) = c 59 (4 * k9 + 3) := (hid kn_174)
                      omega
                    have hI_176 := iv_close hI_133 hr_140
                    exact K c_132 1 hI_176 (fun a j hm => (hF_134 a j (fun q => q.elim (fun h => hm h.1) (fun q => q.elim (fun h => hm h.1) (fun q => q.elim (fun h => hm h.1) (fun q => q.elim (fun h => hm h.1) (fun h => hm h.1)))))).trans ((hF_97 a j (fun h => hm h.1)).trans ((up_b (Decidable.or_iff_not_imp_left.mpr (fun h1 h2 => hm (Decidable.not_not.mp h1)))).trans ((up_b (Decidable.or_iff_not_imp_left.mpr (fun h1 h2 => hm (Decidable.not_not.mp h1)))).trans ((up_b (Decidable.or_iff_not_imp_left.mpr (fun h1 h2 => hm (Decidable.not_not.mp h1)))).trans ((up_b (Decidable.or_iff_not_imp_left.mpr (fun h1 h2 => hm (Decidable.not_not.mp h1)))).trans ((up_b (Decidable.or_iff_not_imp_left.mpr (fun h1 h2 => hm (Decidable.not_not.mp h1)))).trans ((up_b (Decidable.or_iff_not_imp_left.mpr (fun h1 h2 => hm (Decidable.not_not.mp h1)))).trans ((up_b (Decidable.or_iff_not_imp_left.mpr (fun h1 h2 => hm (Decidable.not_not.mp h1)))).trans (up_b (Decidable.or_iff_not_imp_left.mpr (fun h1 h2 => hm (Decidable.not_not.mp h1))))))))))))) ⟨of_decide_eq_true rfl, of_decide_eq_true rfl⟩
                by_cases h_177 : c 59 (4 * a1 + 3) ≥ a3 - y_79 - y_81 - y_83
                · refine v_ic_ge_t (t := 75) c_194_58 rfl ⟨by first | (clear ha1 ha2 ha3 h_2 h_3 h_4 h_5 hsum_1 h_7 h_8 h_9 h_10 hsum_6 h_33 h_77 h_11 h_55; omega) | omega, h_177, (ler h_5.2 rfl)⟩ (q_iload c_194_75 rfl (q_istore c_194_77 (Nat.le_of_ble_eq_true rfl) (Wp_ls [(0, .ref 41), (1, vi a1), (2, vi a2), (3, vi a3), (4, vi (a3 - y_79 - y_81 - y_83)), (5, vi 3), (6, vi (a3 - y_79 - y_81 - y_83))] (lsub_cons rfl (lsub_cons rfl (lsub_cons rfl (lsub_cons rfl (lsub_cons rfl (lsub_cons rfl (lsub_cons rfl lsub_nil))))))) ?_)))
                  exact KJ_84 (a3 - y_79 - y_81 - y_83) ⟨⟨by omega, by omega⟩, by omega⟩
                · refine v_ic_ge_f (t := 75) c_194_58 rfl ⟨(lel h_5.1 rfl), (Int.not_le.mp h_177), by first | (clear ha1 ha2 h_2 h_3 h_4 h_5 hsum_1 h_7 h_8 h_9 h_10 hsum_6 h_33 h_77 h_11 h_55; omega) | omega⟩ (q_aload_n c_194_61 rfl (v_gr (t := 59) c_194_62 kf_8_68 rfl (Nat.le_of_ble_eq_true rfl) rfl (q_iconst c_194_65 (q_iload_n c_194_66 rfl (v_imul (v := 4 * a1) c_194_67 rfl (q_iload c_194_68 rfl (v_iadd (v := 4 * a1 + 3) c_194_70 rfl ?_)))))))
                  refine v_ia (v := c 59 (4 * a1 + 3)) c_194_71 rfl (of_decide_eq_true rfl) (of_decide_eq_true rfl) ⟨(q_f6be69137 ha1), (q_6b2d832d4 ha1)⟩ ((up_n ((q_28d70e8e5))).trans ((up_n ((ne_aa (ni rfl)))).trans ((up_n ((q_6d5c6886e))).trans ((up_n ((ne_aa (ni rfl)))).trans ((up_n ((q_b6789388a))).trans (up_n ((ne_a0 (ni rfl))))))))) (q_goto (t := 77) c_194_72 rfl (q_istore c_194_77 (Nat.le_of_ble_eq_true rfl) (Wp_ls [(0, .ref 41), (1, vi a1), (2, vi a2), (3, vi a3), (4, vi (a3 - y_79 - y_81 - y_83)), (5, vi 3), (6, vi (c 59 (4 * a1 + 3)))] (lsub_cons rfl (lsub_cons rfl (lsub_cons rfl (lsub_cons rfl (lsub_cons rfl (lsub_cons rfl (lsub_cons rfl lsub_nil))))))) ?_)))
                  exact KJ_84 (c 59 (4 * a1 + 3)) ⟨⟨by omega, by omega⟩, by omega⟩
              by_cases h_178 : c 59 (4 * a1 + 2) ≥ a3 - y_79 - y_81
              · refine v_ic_ge_t (t := 75) c_194_58 rfl ⟨by first | (clear ha1 ha2 ha3 h_2 h_3 h_4 h_5 hsum_1 h_7 h_8 h_9 h_10 hsum_6 h_33 h_77 h_11 h_55; omega) | omega, h_178, (ler h_4.2 rfl)⟩ (q_iload c_194_75 rfl (q_istore c_194_77 (Nat.le_of_ble_eq_true rfl) (Wp_ls [(0, .ref 41), (1, vi a1), (2, vi a2), (3, vi a3), (4, vi (a3 - y_79 - y_81)), (5, vi 2), (6, vi (a3 - y_79 - y_81))] (lsub_cons rfl (lsub_cons rfl (lsub_cons rfl (lsub_cons rfl (lsub_cons rfl (lsub_cons rfl (lsub_cons rfl lsub_nil))))))) ?_)))
                exact KJ_82 (a3 - y_79 - y_81) ⟨⟨by omega, by omega⟩, by omega⟩
              · refine v_ic_ge_f (t := 75) c_194_58 rfl ⟨(lel h_4.1 rfl), (Int.not_le.mp h_178), by first | (clear ha1 ha2 h_2 h_3 h_4 h_5 hsum_1 h_7 h_8 h_9 h_10 hsum_6 h_33 h_77 h_11 h_55; omega) | omega⟩ (q_aload_n c_194_61 rfl (v_gr (t := 59) c_194_62 kf_8_68 rfl (Nat.le_of_ble_eq_true rfl) rfl (q_iconst c_194_65 (q_iload_n c_194_66 rfl (v_imul (v := 4 * a1) c_194_67 rfl (q_iload c_194_68 rfl (v_iadd (v := 4 * a1 + 2) c_194_70 rfl ?_)))))))
                refine v_ia (v := c 59 (4 * a1 + 2)) c_194_71 rfl (of_decide_eq_true rfl) (of_decide_eq_true rfl) ⟨(q_0f37a0c6e ha1), (q_36e1404d4 ha1)⟩ ((up_n ((q_08c3d7060))).trans ((up_n ((ne_aa (ni rfl)))).trans ((up_n ((q_ae83e86ba))).trans (up_n ((ne_a0 (ni rfl))))))) (q_goto (t := 77) c_194_72 rfl (q_istore c_194_77 (Nat.le_of_ble_eq_true rfl) (Wp_ls [(0, .ref 41), (1, vi a1), (2, vi a2), (3, vi a3), (4, vi (a3 - y_79 - y_81)), (5, vi 2), (6, vi (c 59 (4 * a1 + 2)))] (lsub_cons rfl (lsub_cons rfl (lsub_cons rfl (lsub_cons rfl (lsub_cons rfl (lsub_cons rfl (lsub_cons rfl lsub_nil))))))) ?_)))
                exact KJ_82 (c 59 (4 * a1 + 2)) ⟨⟨by omega, by omega⟩, by omega⟩
            by_cases h_179 : c 59 (4 * a1 + 1) ≥ a3 - y_79
            · refine v_ic_ge_t (t := 75) c_194_58 rfl ⟨by first | (clear ha1 ha2 ha3 h_2 h_3 h_4 h_5 hsum_1 h_7 h_8 h_9 h_10 hsum_6 h_33 h_77 h_11 h_55; omega) | omega, h_179, (ler h_3.2 rfl)⟩ (q_iload c_194_75 rfl (q_istore c_194_77 (Nat.le_of_ble_eq_true rfl) (Wp_ls [(0, .ref 41), (1, vi a1), (2, vi a2), (3, vi a3), (4, vi (a3 - y_79)), (5, vi 1), (6, vi (a3 - y_79))] (lsub_cons rfl (lsub_cons rfl (lsub_cons rfl (lsub_cons rfl (lsub_cons rfl (lsub_cons rfl (lsub_cons rfl lsub_nil))))))) ?_)))
              exact KJ_80 (a3 - y_79) ⟨⟨by omega, by omega⟩, by omega⟩
            · refine v_ic_ge_f (t := 75) c_194_58 rfl ⟨(lel h_3.1 rfl), (Int.not_le.mp h_179), by first | (clear ha1 ha2 h_2 h_3 h_4 h_5 hsum_1 h_7 h_8 h_9 h_10 hsum_6 h_33 h_77 h_11 h_55; omega) | omega⟩ (q_aload_n c_194_61 rfl (v_gr (t := 59) c_194_62 kf_8_68 rfl (Nat.le_of_ble_eq_true rfl) rfl (q_iconst c_194_65 (q_iload_n c_194_66 rfl (v_imul (v := 4 * a1) c_194_67 rfl (q_iload c_194_68 rfl (v_iadd (v := 4 * a1 + 1) c_194_70 rfl ?_)))))))
              refine v_ia (v := c 59 (4 * a1 + 1)) c_194_71 rfl (of_decide_eq_true rfl) (of_decide_eq_true rfl) ⟨(q_83fdbd35d ha1), (q_7a0c0a739 ha1)⟩ ((up_n ((q_e5bcc673e))).trans (up_n ((ne_a0 (ni rfl))))) (q_goto (t := 77) c_194_72 rfl (q_istore c_194_77 (Nat.le_of_ble_eq_true rfl) (Wp_ls [(0, .ref 41), (1, vi a1), (2, vi a2), (3, vi a3), (4, vi (a3 - y_79)), (5, vi 1), (6, vi (c 59 (4 * a1 + 1)))] (lsub_cons rfl (lsub_cons rfl (lsub_cons rfl (lsub_cons rfl (lsub_cons rfl (lsub_cons rfl (lsub_cons rfl lsub_nil))))))) ?_)))
              exact KJ_80 (c 59 (4 * a1 + 1)) ⟨⟨by omega, by omega⟩, by omega⟩
          by_cases h_180 : c 59 (4 * a1) ≥ a3
          · refine v_ic_ge_t (t := 75) c_194_58 rfl ⟨(lel ha3.1 rfl), h_180, (ler h_2.2 rfl)⟩ (q_iload c_194_75 rfl (q_istore c_194_77 (Nat.le_of_ble_eq_true rfl) (Wp_ls [(0, .ref 41), (1, vi a1), (2, vi a2), (3, vi a3), (4, vi a3), (5, vi 0), (6, vi a3)] (lsub_cons rfl (lsub_cons rfl (lsub_cons rfl (lsub_cons rfl (lsub_cons rfl (lsub_cons rfl (lsub_cons rfl lsub_nil))))))) ?_)))
            exact KJ_78 a3 ⟨⟨by omega, by omega⟩, by omega⟩
          · refine v_ic_ge_f (t := 75) c_194_58 rfl ⟨(lel h_2.1 rfl), (Int.not_le.mp h_180), (ler ha3.2 rfl)⟩ (q_aload_n c_194_61 rfl (v_gr (t := 59) c_194_62 kf_8_68 rfl (Nat.le_of_ble_eq_true rfl) rfl (q_iconst c_194_65 (q_iload_n c_194_66 rfl (v_imul (v := 4 * a1) c_194_67 rfl (q_iload c_194_68 rfl (v_iadd (v := 4 * a1) c_194_70 (by first | (clear ha1 ha2 ha3 h_2 h_3 h_4 h_5 hsum_1 h_7 h_8 h_9 h_10 hsum_6 h_33 h_77 h_180 h_11 h_55; omega) | omega) ?_)))))))
            refine v_ia (v := c 59 (4 * a1)) c_194_71 rfl (of_decide_eq_true rfl) (of_decide_eq_true rfl) ⟨(q_c065257af ha1), (q_a49915bbb ha1)⟩ rfl (q_goto (t := 77) c_194_72 rfl (q_istore c_194_77 (Nat.le_of_ble_eq_true rfl) (Wp_ls [(0, .ref 41), (1, vi a1), (2, vi a2), (3, vi a3), (4, vi a3), (5, vi 0), (6, vi (c 59 (4 * a1)))] (lsub_cons rfl (lsub_cons rfl (lsub_cons rfl (lsub_cons rfl (lsub_cons rfl (lsub_cons rfl (lsub_cons rfl lsub_nil))))))) ?_)))
            exact KJ_78 (c 59 (4 * a1)) ⟨⟨by omega, by omega⟩, by omega⟩
        · refine v_ic_le_f (t := 33) c_194_28 rfl ⟨of_decide_eq_true rfl, (Int.not_le.mp h_77), (q_5f45bd9da ha3 hsum_6)⟩ (q_iconst c_194_31 (v_zret c_194_32 rfl (of_decide_eq_true rfl) ?_))
          have hr_181 : ∀ j : Int, rs 59 j → c 59 j + c 59 (j + 1) + c 59 (j + 2) + c 59 (j + 3) ≤ 9999 := by
            intro j9 hj9
            obtain ⟨k9, rfl, hk9⟩ := rs_59 hj9
            by_cases e_182 : k9 = a1
            · skip
              have h_183 : c 59 (4 * k9) = c 59 (4 * a1) := (congrArg (c 59) (show 4 * k9 = 4 * a1 from by first | assumption | exact Int.le_antisymm (by omega) (by omega)))
              have h_184 : c 59 (4 * k9 + 1) = c 59 (4 * a1 + 1) := (congrArg (c 59) (show 4 * k9 + 1 = 4 * a1 + 1 from by first | assumption | exact Int.le_antisymm (by omega) (by omega)))
              have h_185 : c 59 (4 * k9 + 2) = c 59 (4 * a1 + 2) := (congrArg (c 59) (show 4 * k9 + 2 = 4 * a1 + 2 from by first | assumption | exact Int.le_antisymm (by omega) (by omega)))
              have h_186 : c 59 (4 * k9 + 3) = c 59 (4 * a1 + 3) := (congrArg (c 59) (show 4 * k9 + 3 = 4 * a1 + 3 from by first | assumption | exact Int.le_antisymm (by omega) (by omega)))
              omega
            by_cases e_187 : k9 = a2
            · skip
              have h_188 : c 59 (4 * k9) = c 59 (4 * a2) := (congrArg (c 59) (show 4 * k9 = 4 * a2 from by first | assumption | exact Int.le_antisymm (by omega) (by omega)))
              have h_189 : c 59 (4 * k9 + 1) = c 59 (4 * a2 + 1) := (congrArg (c 59) (show 4 * k9 + 1 = 4 * a2 + 1 from by first | assumption | exact Int.le_antisymm (by omega) (by omega)))
              have h_190 : c 59 (4 * k9 + 2) = c 59 (4 * a2 + 2) := (congrArg (c 59) (show 4 * k9 + 2 = 4 * a2 + 2 from by first | assumption | exact Int.le_antisymm (by omega) (by omega)))
              have h_191 : c 59 (4 * k9 + 3) = c 59 (4 * a2 + 3) := (congrArg (c 59) (show 4 * k9 + 3 = 4 * a2 + 3 from by first | assumption | exact Int.le_antisymm (by omega) (by omega)))
              omega
            have h_192 := iv_r hI 59 (4 * k9) hj9 (by omega)
            have h_193 := ir_59_g hI (j := 4 * k9) ((q_9f1d5ffdc hk9))
            have h_194 : c 59 (4 * k9) = c 59 (4 * k9) := rfl
            have h_195 := ir_59_g hI (j := 4 * k9 + 1) ((q_0a2ee6f8f hk9))
            have h_196 : c 59 (4 * k9 + 1) = c 59 (4 * k9 + 1) := rfl
            have h_197 := ir_59_g hI (j := 4 * k9 + 2) ((q_e07a293a2 hk9))
            have h_198 : c 59 (4 * k9 + 2) = c 59 (4 * k9 + 2) := rfl
            have h_199 := ir_59_g hI (j := 4 * k9 + 3) ((q_d09cb0b73 hk9))
            have h_200 : c 59 (4 * k9 + 3) = c 59 (4 * k9 + 3) := rfl
            omega
          have hI_201 := iv_close hIo hr_181
          exact K c 0 hI_201 (fun a j hm => rfl) ⟨of_decide_eq_true rfl, of_decide_eq_true rfl⟩

