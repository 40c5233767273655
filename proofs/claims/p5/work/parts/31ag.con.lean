/-! ===== contracts 6 ===== -/
theorem q_dca0492e8 {x0 : Int} (f0 : 0 ≤ x0 ∧ x0 ≤ 5) : 4 * x0 < 33 := by omega
theorem q_04a38f0fc {x0 : Int} (f0 : 0 ≤ x0 ∧ x0 ≤ 5) : 4 * x0 + 1 < 33 := by omega
theorem q_a4486dabd {x0 : Int} (f0 : 0 ≤ x0 ∧ x0 ≤ 5) : 4 * x0 + 2 < 33 := by omega
theorem q_d1b72c2c7 {x0 : Int} (f0 : 0 ≤ x0 ∧ x0 ≤ 5) : 4 * x0 + 3 < 33 := by omega
theorem qv_0914b99ad {P : Nat} {s : Nat} {a : Nat} (hm : ¬ (a = s ∨ a = (P + 10) ∨ a = (P + 11))) : ¬ (a = (P + 10) ∨ a = (P + 11)) := (fun q => q.elim (fun h => hm (Or.inr (Or.inl h))) (fun h => hm (Or.inr (Or.inr h))))
theorem q_aa51b186e {x0 x1 : Int} (f0 : 0 ≤ x0 ∧ x0 ≤ 6) (f1 : ¬ (x1 ≥ x0)) : 4 * x1 < 24 := by omega
theorem q_57851f9de {x0 x1 : Int} (f0 : 0 ≤ x0 ∧ x0 ≤ 6) (f1 : ¬ (x1 ≥ x0)) : 4 * x1 + 1 < 24 := by omega
theorem q_7296e74e6 {x0 x1 : Int} (f0 : 0 ≤ x0 ∧ x0 ≤ 6) (f1 : ¬ (x1 ≥ x0)) : 4 * x1 + 2 < 24 := by omega
theorem q_b15525c4c {x0 x1 : Int} (f0 : 0 ≤ x0 ∧ x0 ≤ 6) (f1 : ¬ (x1 ≥ x0)) : 4 * x1 + 3 < 24 := by omega
theorem q_d63a8538e {x0 x1 : Int} (f0 : 0 ≤ x0 ∧ x0 ≤ 6) (f1 : ¬ (x1 ≥ x0)) : x1 ≤ 5 := by omega
theorem q_94559468f {x0 x1 x2 x3 : Int} (f0 : 0 ≤ x0 ∧ x0 ≤ 9999) (f1 : 0 ≤ x1 ∧ x1 ≤ 9999) (f2 : 0 ≤ x2 ∧ x2 ≤ 9999) (f3 : 0 ≤ x3 ∧ x3 ≤ 9999) : (-2147483648) ≤ x2 + x3 + x0 + x1 := by omega
theorem q_4a76cd9c7 {x0 x1 : Int} (f0 : 0 ≤ x0 ∧ x0 ≤ 6) (f1 : ¬ (x1 ≥ x0)) : x1 + 1 ≤ 6 := by omega
theorem q_f81653045 {x0 x1 x2 x3 : Int} (f0 : 0 ≤ x0 ∧ x0 ≤ 9999) (f1 : 0 ≤ x1 ∧ x1 ≤ 9999) (f2 : 0 ≤ x2 ∧ x2 ≤ 9999) (f3 : 0 ≤ x3 ∧ x3 ≤ 9999) : x2 + x3 + x0 + x1 ≤ 2147483647 := by omega
theorem q_fbbb1c60d {x0 : Int} (f0 : 0 ≤ x0 ∧ x0 ≤ 6) : x0 + 24 < 34 := by omega
theorem c_58_0 : mLk 58 0 = some (.aload_n 0, 1) := rfl
theorem c_58_1 : mLk 58 1 = some (.iload_n 1, 1) := rfl
theorem c_58_2 : mLk 58 2 = some (.invokevirtual 98, 3) := rfl
theorem c_58_5 : mLk 58 5 = some (.ifCond .ne 5, 3) := rfl
theorem c_58_10 : mLk 58 10 = some (.aload_n 0, 1) := rfl
theorem c_58_11 : mLk 58 11 = some (.getfield 11, 3) := rfl
theorem c_58_14 : mLk 58 14 = some (.bipush 33, 2) := rfl
theorem c_58_16 : mLk 58 16 = some (.dup2, 1) := rfl
theorem c_58_17 : mLk 58 17 = some (.iaload, 1) := rfl
theorem c_58_18 : mLk 58 18 = some (.aload_n 0, 1) := rfl
theorem c_58_19 : mLk 58 19 = some (.iload_n 1, 1) := rfl
theorem c_58_20 : mLk 58 20 = some (.invokevirtual 38, 3) := rfl
theorem c_58_23 : mLk 58 23 = some (.bipush 10, 2) := rfl
theorem c_58_27 : mLk 58 27 = some (.iastore, 1) := rfl
theorem c_58_28 : mLk 58 28 = some (.iconst 0, 1) := rfl
theorem c_58_29 : mLk 58 29 = some (.istore_n 2, 1) := rfl
theorem c_58_30 : mLk 58 30 = some (.iload_n 2, 1) := rfl
theorem c_58_31 : mLk 58 31 = some (.iconst 4, 1) := rfl
theorem c_58_32 : mLk 58 32 = some (.if_icmp .ge 20, 3) := rfl
theorem c_58_35 : mLk 58 35 = some (.aload_n 0, 1) := rfl
theorem c_58_36 : mLk 58 36 = some (.getfield 11, 3) := rfl
theorem c_58_39 : mLk 58 39 = some (.iload_n 1, 1) := rfl
theorem c_58_40 : mLk 58 40 = some (.iconst 4, 1) := rfl
theorem c_58_41 : mLk 58 41 = some (.imul, 1) := rfl
theorem c_58_42 : mLk 58 42 = some (.iload_n 2, 1) := rfl
theorem c_58_43 : mLk 58 43 = some (.iadd, 1) := rfl
theorem c_58_44 : mLk 58 44 = some (.iconst 0, 1) := rfl
theorem c_58_45 : mLk 58 45 = some (.iastore, 1) := rfl
theorem c_58_46 : mLk 58 46 = some (.iinc 2 1, 3) := rfl
theorem c_58_49 : mLk 58 49 = some (.goto (-19), 3) := rfl
theorem c_58_52 : mLk 58 52 = some (.aload_n 0, 1) := rfl
theorem c_58_53 : mLk 58 53 = some (.getfield 11, 3) := rfl
theorem c_58_56 : mLk 58 56 = some (.bipush 24, 2) := rfl
theorem c_58_58 : mLk 58 58 = some (.iload_n 1, 1) := rfl
theorem c_58_59 : mLk 58 59 = some (.iadd, 1) := rfl
theorem c_58_60 : mLk 58 60 = some (.iconst 0, 1) := rfl
theorem c_58_61 : mLk 58 61 = some (.iastore, 1) := rfl
theorem c_58_62 : mLk 58 62 = some (.iconst 1, 1) := rfl
theorem c_58_63 : mLk 58 63 = some (.ireturn, 1) := rfl
theorem c_58_8 : mLk 58 8 = some (.iconst 0, 1) := rfl
theorem c_58_9 : mLk 58 9 = some (.ireturn, 1) := rfl
theorem c_59_2 : mLk 59 2 = some (.iload_n 1, 1) := rfl
theorem c_59_3 : mLk 59 3 = some (.aload_n 0, 1) := rfl
theorem c_59_4 : mLk 59 4 = some (.getfield 15, 3) := rfl
theorem c_59_7 : mLk 59 7 = some (.getfield 19, 3) := rfl
theorem c_59_10 : mLk 59 10 = some (.if_icmp .ge 30, 3) := rfl
theorem c_59_40 : mLk 59 40 = some (.aload_n 0, 1) := rfl
theorem c_59_41 : mLk 59 41 = some (.getfield 11, 3) := rfl
theorem c_59_44 : mLk 59 44 = some (.bipush 31, 2) := rfl
theorem c_59_46 : mLk 59 46 = some (.dup2, 1) := rfl
theorem c_59_47 : mLk 59 47 = some (.iaload, 1) := rfl
theorem c_59_48 : mLk 59 48 = some (.iconst 1, 1) := rfl
theorem c_59_49 : mLk 59 49 = some (.iadd, 1) := rfl
theorem c_59_50 : mLk 59 50 = some (.iastore, 1) := rfl
theorem c_59_13 : mLk 59 13 = some (.aload_n 0, 1) := rfl
theorem c_59_14 : mLk 59 14 = some (.iload_n 1, 1) := rfl
theorem c_59_15 : mLk 59 15 = some (.invokevirtual 38, 3) := rfl
theorem c_59_18 : mLk 59 18 = some (.ifCond .le 16, 3) := rfl
theorem c_59_34 : mLk 59 34 = some (.iinc 1 1, 3) := rfl
theorem c_59_37 : mLk 59 37 = some (.goto (-35), 3) := rfl
theorem c_59_21 : mLk 59 21 = some (.aload_n 0, 1) := rfl
theorem c_59_22 : mLk 59 22 = some (.getfield 11, 3) := rfl
theorem c_59_25 : mLk 59 25 = some (.bipush 24, 2) := rfl
theorem c_59_27 : mLk 59 27 = some (.iload_n 1, 1) := rfl
theorem c_59_28 : mLk 59 28 = some (.iadd, 1) := rfl
theorem c_59_29 : mLk 59 29 = some (.dup2, 1) := rfl
theorem c_59_30 : mLk 59 30 = some (.iaload, 1) := rfl
theorem c_59_31 : mLk 59 31 = some (.iconst 1, 1) := rfl
theorem c_59_32 : mLk 59 32 = some (.iadd, 1) := rfl
theorem c_59_33 : mLk 59 33 = some (.iastore, 1) := rfl
theorem c_59_0 : mLk 59 0 = some (.iconst 0, 1) := rfl
theorem c_59_1 : mLk 59 1 = some (.istore_n 1, 1) := rfl
theorem c_60_0 : mLk 60 0 = some (.aload_n 0, 1) := rfl
theorem c_60_1 : mLk 60 1 = some (.getfield 11, 3) := rfl
theorem c_60_4 : mLk 60 4 = some (.bipush 31, 2) := rfl
theorem c_60_6 : mLk 60 6 = some (.iaload, 1) := rfl
theorem c_60_7 : mLk 60 7 = some (.sipush 400, 3) := rfl
theorem c_60_10 : mLk 60 10 = some (.if_icmp .lt 5, 3) := rfl
theorem c_60_15 : mLk 60 15 = some (.aload_n 0, 1) := rfl
theorem c_60_16 : mLk 60 16 = some (.invokevirtual 101, 3) := rfl
theorem c_60_19 : mLk 60 19 = some (.iconst 1, 1) := rfl
theorem c_60_20 : mLk 60 20 = some (.ireturn, 1) := rfl
theorem c_60_13 : mLk 60 13 = some (.iconst 0, 1) := rfl
theorem c_60_14 : mLk 60 14 = some (.ireturn, 1) := rfl
theorem c_61_0 : mLk 61 0 = some (.aload_n 0, 1) := rfl
theorem c_61_1 : mLk 61 1 = some (.getfield 11, 3) := rfl
theorem c_61_4 : mLk 61 4 = some (.bipush 30, 2) := rfl
theorem c_61_6 : mLk 61 6 = some (.dup2, 1) := rfl
theorem c_61_7 : mLk 61 7 = some (.iaload, 1) := rfl
theorem c_61_8 : mLk 61 8 = some (.iconst 1, 1) := rfl
theorem c_61_9 : mLk 61 9 = some (.iload_n 1, 1) := rfl
theorem c_61_10 : mLk 61 10 = some (.ishl, 1) := rfl
theorem c_61_11 : mLk 61 11 = some (.ixor, 1) := rfl
theorem c_61_12 : mLk 61 12 = some (.iastore, 1) := rfl
theorem c_62_0 : mLk 62 0 = some (.aload_n 0, 1) := rfl
theorem c_62_1 : mLk 62 1 = some (.getfield 11, 3) := rfl
theorem c_62_4 : mLk 62 4 = some (.iload_n 2, 1) := rfl
theorem c_62_5 : mLk 62 5 = some (.iconst 1, 1) := rfl
theorem c_62_6 : mLk 62 6 = some (.iadd, 1) := rfl
theorem c_62_7 : mLk 62 7 = some (.iaload, 1) := rfl
theorem c_62_8 : mLk 62 8 = some (.istore_n 3, 1) := rfl
theorem c_62_9 : mLk 62 9 = some (.aload_n 0, 1) := rfl
theorem c_62_10 : mLk 62 10 = some (.getfield 11, 3) := rfl
theorem c_62_13 : mLk 62 13 = some (.iload_n 2, 1) := rfl
theorem c_62_14 : mLk 62 14 = some (.iconst 2, 1) := rfl
theorem c_62_15 : mLk 62 15 = some (.iadd, 1) := rfl
theorem c_62_16 : mLk 62 16 = some (.iaload, 1) := rfl
theorem c_62_17 : mLk 62 17 = some (.istore 4, 2) := rfl
theorem c_62_19 : mLk 62 19 = some (.aload_n 0, 1) := rfl
theorem c_62_20 : mLk 62 20 = some (.getfield 11, 3) := rfl
theorem c_62_23 : mLk 62 23 = some (.iload_n 2, 1) := rfl
theorem c_62_24 : mLk 62 24 = some (.iconst 3, 1) := rfl
theorem c_62_25 : mLk 62 25 = some (.iadd, 1) := rfl
theorem c_62_26 : mLk 62 26 = some (.iaload, 1) := rfl
theorem c_62_27 : mLk 62 27 = some (.istore 5, 2) := rfl
theorem c_62_29 : mLk 62 29 = some (.aload_n 0, 1) := rfl
theorem c_62_30 : mLk 62 30 = some (.getfield 11, 3) := rfl
theorem c_62_33 : mLk 62 33 = some (.iload_n 2, 1) := rfl
theorem c_62_34 : mLk 62 34 = some (.iaload, 1) := rfl
theorem c_62_35 : mLk 62 35 = some (.tableswitch 96 0 6 #[41, 49, 67, 75, 96, 85, 91], 41) := rfl
theorem c_62_76 : mLk 62 76 = some (.aload_n 1, 1) := rfl
theorem c_62_77 : mLk 62 77 = some (.iload_n 3, 1) := rfl
theorem c_62_78 : mLk 62 78 = some (.iload 4, 2) := rfl
theorem c_62_80 : mLk 62 80 = some (.invokevirtual 105, 3) := rfl
theorem c_62_83 : mLk 62 83 = some (.ireturn, 1) := rfl
theorem c_62_84 : mLk 62 84 = some (.aload_n 1, 1) := rfl
theorem c_62_85 : mLk 62 85 = some (.iload_n 3, 1) := rfl
theorem c_62_86 : mLk 62 86 = some (.iload 4, 2) := rfl
theorem c_62_88 : mLk 62 88 = some (.iload 5, 2) := rfl
theorem c_62_90 : mLk 62 90 = some (.aload_n 0, 1) := rfl
theorem c_62_91 : mLk 62 91 = some (.getfield 11, 3) := rfl
theorem c_62_94 : mLk 62 94 = some (.iload_n 2, 1) := rfl
theorem c_62_95 : mLk 62 95 = some (.iconst 4, 1) := rfl
theorem c_62_96 : mLk 62 96 = some (.iadd, 1) := rfl
theorem c_62_97 : mLk 62 97 = some (.iaload, 1) := rfl
theorem c_62_98 : mLk 62 98 = some (.invokevirtual 111, 3) := rfl
theorem c_62_101 : mLk 62 101 = some (.ireturn, 1) := rfl
theorem c_62_102 : mLk 62 102 = some (.aload_n 1, 1) := rfl
theorem c_62_103 : mLk 62 103 = some (.iload_n 3, 1) := rfl
theorem c_62_104 : mLk 62 104 = some (.iload 4, 2) := rfl
theorem c_62_106 : mLk 62 106 = some (.invokevirtual 115, 3) := rfl
theorem c_62_109 : mLk 62 109 = some (.ireturn, 1) := rfl
theorem c_62_110 : mLk 62 110 = some (.aload_n 1, 1) := rfl
theorem c_62_111 : mLk 62 111 = some (.iload_n 3, 1) := rfl
theorem c_62_112 : mLk 62 112 = some (.iload 4, 2) := rfl
theorem c_62_114 : mLk 62 114 = some (.iload 5, 2) := rfl
theorem c_62_116 : mLk 62 116 = some (.invokevirtual 118, 3) := rfl
theorem c_62_119 : mLk 62 119 = some (.ireturn, 1) := rfl
theorem c_62_131 : mLk 62 131 = some (.aload_n 1, 1) := rfl
theorem c_62_132 : mLk 62 132 = some (.iload_n 3, 1) := rfl
theorem c_62_133 : mLk 62 133 = some (.invokevirtual 129, 3) := rfl
theorem c_62_136 : mLk 62 136 = some (.iconst 1, 1) := rfl
theorem c_62_137 : mLk 62 137 = some (.ireturn, 1) := rfl
theorem c_62_120 : mLk 62 120 = some (.aload_n 1, 1) := rfl
theorem c_62_121 : mLk 62 121 = some (.iload_n 3, 1) := rfl
theorem c_62_122 : mLk 62 122 = some (.invokevirtual 122, 3) := rfl
theorem c_62_125 : mLk 62 125 = some (.ireturn, 1) := rfl
theorem c_62_126 : mLk 62 126 = some (.aload_n 1, 1) := rfl
theorem c_62_127 : mLk 62 127 = some (.invokevirtual 126, 3) := rfl
theorem c_62_130 : mLk 62 130 = some (.ireturn, 1) := rfl
theorem kf_4_19 : a_lk (kF 4) 19 = some (2, 0) := rfl
theorem km_3_105 : a_lk (kM 3) 105 = some (0, 44) := rfl
theorem km_3_111 : a_lk (kM 3) 111 = some (0, 53) := rfl
theorem km_3_115 : a_lk (kM 3) 115 = some (0, 55) := rfl
theorem km_3_118 : a_lk (kM 3) 118 = some (0, 54) := rfl
theorem km_3_122 : a_lk (kM 3) 122 = some (0, 58) := rfl
theorem km_3_126 : a_lk (kM 3) 126 = some (0, 60) := rfl
theorem km_3_129 : a_lk (kM 3) 129 = some (0, 61) := rfl
theorem km_4_101 : a_lk (kM 4) 101 = some (0, 59) := rfl
theorem km_4_98 : a_lk (kM 4) 98 = some (0, 57) := rfl
set_option maxRecDepth 100000 in
set_option maxHeartbeats 4000000 in
theorem s_58 {sc : List Int32} {d P Q sh s : Nat} {c : ME} {a1 : Int} {Z : AR → Prop} (hI : Iv 0 (-1) P Q c) (hs : (sh = 37 ∧ s = 38) ∨ (sh = 39 ∧ s = 40)) (ha1 : 0 ≤ a1 ∧ a1 ≤ 5) (K : ∀ (c2 : ME) (y : Int), Iv 0 (-1) P Q c2 → (∀ (a : Nat) (j : Int), ¬ (a = s ∨ a = (P + 10) ∨ a = (P + 11)) → c2 a j = c a j) → 0 ≤ y ∧ y ≤ 1 → Z (.inl (some (vi y)), Wd P Q P P c2, 0, 0)) : Wp sc (d + 11) 58 0 [(0, .ref sh), (1, vi a1)] [] (Wd P Q P P c) 0 0 Z := by
  have hP := iv_P hI
  have hQ := iv_Q hI
  have hIo : Iv s (-1) P Q c := iv_open hI
  have hsum_1 := ir_s_r hI hs (by omega) (j := a1) (by omega)
  have h_2 := ir_s_g hI hs (j := 4 * a1) ((q_9f1d5ffdc ha1))
  have h_3 := ir_s_g hI hs (j := 4 * a1 + 1) ((q_0a2ee6f8f ha1))
  have h_4 := ir_s_g hI hs (j := 4 * a1 + 2) ((q_e07a293a2 ha1))
  have h_5 := ir_s_g hI hs (j := 4 * a1 + 3) ((q_d09cb0b73 ha1))
  refine q_aload_n c_58_0 rfl (q_iload_n c_58_1 rfl (v_cv c_58_2 km_4_98 rfl (ck_sh hs) (by omega) ⟨⟨rfl, rfl⟩, of_decide_eq_true rfl, rfl⟩ (Nat.le_of_ble_eq_true rfl) (Nat.le_of_ble_eq_true rfl) (s_57 (a1 := a1) hIo hs (show 0 ≤ a1 ∧ a1 ≤ 5 from ha1) (fun c_6 y_9 hI_7 hF_8 hy_9 => (bk_inl ?_)))))
  by_cases h_10 : y_9 ≠ 0
  · refine v_if_ne_t (t := 10) c_58_5 rfl ⟨h_10, ⟨(lel hy_9.1 rfl), (ler hy_9.2 rfl)⟩, of_decide_eq_true rfl, of_decide_eq_true rfl⟩ (q_aload_n c_58_10 rfl (v_gr (t := s) c_58_11 kf_4_11 (ck_sh hs) (by omega) rfl (v_bip c_58_14 (of_decide_eq_true rfl) (q_dup2 c_58_16 ⟨rfl, rfl⟩ ?_))))
    have h_11 := ir_s hI hs 33
    have kn_12 : Hid (c_6 s 33 = c s 33) := hF_8 s 33 (by omega)
    refine v_ia (v := c s 33) c_58_17 (ck_s hs) (by omega) (of_decide_eq_true rfl) (of_decide_eq_true rfl) (hid kn_12) (q_aload_n c_58_18 rfl (q_iload_n c_58_19 rfl ?_))
    have kn_13 : Hid (c_6 s (4 * a1) = c s (4 * a1)) := hF_8 s (4 * a1) (by omega)
    have kn_14 : Hid (c_6 s (4 * a1 + 1) = c s (4 * a1 + 1)) := hF_8 s (4 * a1 + 1) (by omega)
    have kn_15 : Hid (c_6 s (4 * a1 + 2) = c s (4 * a1 + 2)) := hF_8 s (4 * a1 + 2) (by omega)
    have kn_16 : Hid (c_6 s (4 * a1 + 3) = c s (4 * a1 + 3)) := hF_8 s (4 * a1 + 3) (by omega)
    refine v_cv c_58_20 km_4_38 rfl (ck_sh hs) (by omega) ⟨⟨rfl, rfl⟩, of_decide_eq_true rfl, rfl⟩ (Nat.le_of_ble_eq_true rfl) (Nat.le_of_ble_eq_true rfl) (s_43 (v1 := c s (4 * a1)) (v2 := c s (4 * a1 + 1)) (v3 := c s (4 * a1 + 2)) (v4 := c s (4 * a1 + 3)) (r := c s (4 * a1 + 1) + c s (4 * a1 + 2) + c s (4 * a1 + 3) + c s (4 * a1)) (a1 := a1) hI_7 hs (show 0 ≤ a1 ∧ a1 ≤ 5 from ha1) ((hid kn_13)) ((hid kn_14)) ((hid kn_15)) ((hid kn_16)) (by omega) (bk_inl (v_bip c_58_23 (of_decide_eq_true rfl) (v_idiv (v := ((c s (4 * a1 + 1) + c s (4 * a1 + 2) + c s (4 * a1 + 3) + c s (4 * a1)) / 10)) rfl (by omega) rfl (v_iadd (v := ((c s (4 * a1 + 1) + c s (4 * a1 + 2) + c s (4 * a1 + 3) + c s (4 * a1)) / 10) + c s 33) rfl (by first | (clear ha1 h_2 h_3 h_4 h_5 hsum_1 h_11 h_10; omega) | omega) (v_nrm (fun y_17 hy_17 => (v_is c_58_27 (ck_s hs) (by omega) (of_decide_eq_true rfl) (of_decide_eq_true rfl) (q_iconst c_58_28 ?_)))))))))
    refine q_istore_n c_58_29 (Nat.le_of_ble_eq_true rfl) (q_iload_n c_58_30 rfl (q_iconst c_58_31 (v_ic_ge_f (t := 52) c_58_32 rfl (of_decide_eq_true rfl) (q_aload_n c_58_35 rfl (v_gr (t := s) c_58_36 kf_4_11 (ck_sh hs) (by omega) rfl (q_iload_n c_58_39 rfl (q_iconst c_58_40 ?_)))))))
    refine v_imul (v := 4 * a1) c_58_41 (by first | (clear ha1 h_2 h_3 h_4 h_5 hsum_1 h_11 h_10; omega) | omega) (q_iload_n c_58_42 rfl (v_iadd (v := 4 * a1) c_58_43 (by first | (clear ha1 h_2 h_3 h_4 h_5 hsum_1 h_11 h_10; omega) | omega) (q_iconst c_58_44 (v_is c_58_45 (ck_s hs) (by omega) (of_decide_eq_true rfl) ⟨(q_c065257af ha1), (q_b7e642788 ha1)⟩ (v_iinc (v := 1) c_58_46 rfl (Nat.le_of_ble_eq_true rfl) (of_decide_eq_true rfl) (q_goto (t := 30) c_58_49 rfl (q_iload_n c_58_30 rfl ?_)))))))
    refine q_iconst c_58_31 (v_ic_ge_f (t := 52) c_58_32 rfl (of_decide_eq_true rfl) (q_aload_n c_58_35 rfl (v_gr (t := s) c_58_36 kf_4_11 (ck_sh hs) (by omega) rfl (q_iload_n c_58_39 rfl (q_iconst c_58_40 (v_imul (v := 4 * a1) c_58_41 (by first | (clear ha1 h_2 h_3 h_4 h_5 hsum_1 h_11 h_10; omega) | omega) (q_iload_n c_58_42 rfl ?_)))))))
    refine v_iadd (v := 4 * a1 + 1) c_58_43 rfl (q_iconst c_58_44 (v_is c_58_45 (ck_s hs) (by omega) (of_decide_eq_true rfl) ⟨(q_83fdbd35d ha1), (q_ee7209ea0 ha1)⟩ (v_iinc (v := 2) c_58_46 rfl (Nat.le_of_ble_eq_true rfl) (of_decide_eq_true rfl) (q_goto (t := 30) c_58_49 rfl (q_iload_n c_58_30 rfl (q_iconst c_58_31 (v_ic_ge_f (t := 52) c_58_32 rfl (of_decide_eq_true rfl) ?_)))))))
    refine q_aload_n c_58_35 rfl (v_gr (t := s) c_58_36 kf_4_11 (ck_sh hs) (by omega) rfl (q_iload_n c_58_39 rfl (q_iconst c_58_40 (v_imul (v := 4 * a1) c_58_41 (by first | (clear ha1 h_2 h_3 h_4 h_5 hsum_1 h_11 h_10; omega) | omega) (q_iload_n c_58_42 rfl (v_iadd (v := 4 * a1 + 2) c_58_43 rfl (q_iconst c_58_44 ?_)))))))
    refine v_is c_58_45 (ck_s hs) (by omega) (of_decide_eq_true rfl) ⟨(q_0f37a0c6e ha1), (q_d136047ff ha1)⟩ (v_iinc (v := 3) c_58_46 rfl (Nat.le_of_ble_eq_true rfl) (of_decide_eq_true rfl) (q_goto (t := 30) c_58_49 rfl (q_iload_n c_58_30 rfl (q_iconst c_58_31 (v_ic_ge_f (t := 52) c_58_32 rfl (of_decide_eq_true rfl) (q_aload_n c_58_35 rfl (v_gr (t := s) c_58_36 kf_4_11 (ck_sh hs) (by omega) rfl ?_)))))))
    refine q_iload_n c_58_39 rfl (q_iconst c_58_40 (v_imul (v := 4 * a1) c_58_41 (by first | (clear ha1 h_2 h_3 h_4 h_5 hsum_1 h_11 h_10; omega) | omega) (q_iload_n c_58_42 rfl (v_iadd (v := 4 * a1 + 3) c_58_43 rfl (q_iconst c_58_44 (v_is c_58_45 (ck_s hs) (by omega) (of_decide_eq_true rfl) ⟨(q_f6be69137 ha1), (q_c79de31f2 ha1)⟩ (v_iinc (v := 4) c_58_46 rfl (Nat.le_of_ble_eq_true rfl) (of_decide_eq_true rfl) ?_)))))))
    refine Wp_ls [(2, vi 4), (0, .ref sh), (1, vi a1)] (lsub_cons rfl (lsub_cons rfl (lsub_cons rfl lsub_nil))) (q_goto (t := 30) c_58_49 rfl (q_iload_n c_58_30 rfl (q_iconst c_58_31 (v_ic_ge_t (t := 52) c_58_32 rfl (of_decide_eq_true rfl) (q_aload_n c_58_52 rfl (v_gr (t := s) c_58_53 kf_4_11 (ck_sh hs) (by omega) rfl (v_bip c_58_56 (of_decide_eq_true rfl) ?_)))))))
    refine q_iload_n c_58_58 rfl (v_iadd (v := a1 + 24) c_58_59 (by first | (clear ha1 h_2 h_3 h_4 h_5 hsum_1 h_11 h_10; omega) | omega) (q_iconst c_58_60 (v_is c_58_61 (ck_s hs) (by omega) (of_decide_eq_true rfl) ⟨(rgp_l ha1.1 (of_decide_eq_true rfl)), (q_99d6360e7 ha1)⟩ (q_iconst c_58_62 (v_zret c_58_63 rfl (of_decide_eq_true rfl) ?_)))))
    have hI_18 := iw_row (a := s) (j := 33) (v := y_17) hI_7 (by omega) (Or.inr (by omega)) ⟨by omega, by omega, by omega⟩
    have hI_19 := iw_row (a := s) (j := 4 * a1) (v := 0) hI_18 (by omega) (Or.inl rfl) ⟨by omega, by omega, by omega⟩
    have hI_20 := iw_row (a := s) (j := 4 * a1 + 1) (v := 0) hI_19 (by omega) (Or.inl rfl) ⟨by omega, by omega, by omega⟩
    have hI_21 := iw_row (a := s) (j := 4 * a1 + 2) (v := 0) hI_20 (by omega) (Or.inl rfl) ⟨by omega, by omega, by omega⟩
    have hI_22 := iw_row (a := s) (j := 4 * a1 + 3) (v := 0) hI_21 (by omega) (Or.inl rfl) ⟨by omega, by omega, by omega⟩
    have hI_23 := iw_row (a := s) (j := a1 + 24) (v := 0) hI_22 (by omega) (Or.inl rfl) ⟨by omega, by omega, by omega⟩
    have hr_24 : ∀ j : Int, rs s j → (up (up (up (up (up (up c_6 s 33 y_17) s (4 * a1) 0) s (4 * a1 + 1) 0) s (4 * a1 + 2) 0) s (4 * a1 + 3) 0) s (a1 + 24) 0) s j + (up (up (up (up (up (up c_6 s 33 y_17) s (4 * a1) 0) s (4 * a1 + 1) 0) s (4 * a1 + 2) 0) s (4 * a1 + 3) 0) s (a1 + 24) 0) s (j + 1) + (up (up (up (up (up (up c_6 s 33 y_17) s (4 * a1) 0) s (4 * a1 + 1) 0) s (4 * a1 + 2) 0) s (4 * a1 + 3) 0) s (a1 + 24) 0) s (j + 2) + (up (up (up (up (up (up c_6 s 33 y_17) s (4 * a1) 0) s (4 * a1 + 1) 0) s (4 * a1 + 2) 0) s (4 * a1 + 3) 0) s (a1 + 24) 0) s (j + 3) ≤ 9999 := by
      intro j9 hj9
      obtain ⟨k9, rfl, hk9⟩ := rs_s hs hj9
      by_cases e_25 : k9 = a1
      · skip
        have h_26 : (up (up (up (up (up (up c_6 s 33 y_17) s (4 * a1) 0) s (4 * a1 + 1) 0) s (4 * a1 + 2) 0) s (4 * a1 + 3) 0) s (a1 + 24) 0) s (4 * k9) = 0 := (congrArg ((up (up (up (up (up (up c_6 s 33 y_17) s (4 * a1) 0) s (4 * a1 + 1) 0) s (4 * a1 + 2) 0) s (4 * a1 + 3) 0) s (a1 + 24) 0) s) (show 4 * k9 = 4 * a1 from by first | assumption | exact Int.le_antisymm (by omega) (by omega))).trans ((up_n (ne_l ((q_788f4b81f ha1)))).trans ((up_n ((ne_0a (ni rfl)))).trans ((up_n ((ne_0a (ni rfl)))).trans ((up_n ((ne_0a (ni rfl)))).trans (up_e rfl)))))
        have h_27 : (up (up (up (up (up (up c_6 s 33 y_17) s (4 * a1) 0) s (4 * a1 + 1) 0) s (4 * a1 + 2) 0) s (4 * a1 + 3) 0) s (a1 + 24) 0) s (4 * k9 + 1) = 0 := (congrArg ((up (up (up (up (up (up c_6 s 33 y_17) s (4 * a1) 0) s (4 * a1 + 1) 0) s (4 * a1 + 2) 0) s (4 * a1 + 3) 0) s (a1 + 24) 0) s) (show 4 * k9 + 1 = 4 * a1 + 1 from by first | assumption | exact Int.le_antisymm (by omega) (by omega))).trans ((up_n (ne_l ((q_60c9feeee ha1)))).trans ((up_n ((ne_aa (ni rfl)))).trans ((up_n ((ne_aa (ni rfl)))).trans (up_e rfl))))
        have h_28 : (up (up (up (up (up (up c_6 s 33 y_17) s (4 * a1) 0) s (4 * a1 + 1) 0) s (4 * a1 + 2) 0) s (4 * a1 + 3) 0) s (a1 + 24) 0) s (4 * k9 + 2) = 0 := (congrArg ((up (up (up (up (up (up c_6 s 33 y_17) s (4 * a1) 0) s (4 * a1 + 1) 0) s (4 * a1 + 2) 0) s (4 * a1 + 3) 0) s (a1 + 24) 0) s) (show 4 * k9 + 2 = 4 * a1 + 2 from by first | assumption | exact Int.le_antisymm (by omega) (by omega))).trans ((up_n (ne_l ((q_27ec1b4d7 ha1)))).trans ((up_n ((ne_aa (ni rfl)))).trans (up_e rfl)))
        have h_29 : (up (up (up (up (up (up c_6 s 33 y_17) s (4 * a1) 0) s (4 * a1 + 1) 0) s (4 * a1 + 2) 0) s (4 * a1 + 3) 0) s (a1 + 24) 0) s (4 * k9 + 3) = 0 := (congrArg ((up (up (up (up (up (up c_6 s 33 y_17) s (4 * a1) 0) s (4 * a1 + 1) 0) s (4 * a1 + 2) 0) s (4 * a1 + 3) 0) s (a1 + 24) 0) s) (show 4 * k9 + 3 = 4 * a1 + 3 from by first | assumption | exact Int.le_antisymm (by omega) (by omega))).trans ((up_n (ne_l ((q_fd9aac8f8 ha1)))).trans (up_e rfl))
        omega
      have h_30 := iv_r hI s (4 * k9) hj9 (by omega)
      have h_31 := ir_s_g hI hs (j := 4 * k9) ((q_9f1d5ffdc hk9))
      have kn_32 : Hid (c_6 s (4 * k9) = c s (4 * k9)) := hF_8 s (4 * k9) (by omega)
      have h_33 : (up (up (up (up (up (up c_6 s 33 y_17) s (4 * a1) 0) s (4 * a1 + 1) 0) s (4 * a1 + 2) 0) s (4 * a1 + 3) 0) s (a1 + 24) 0) s (4 * k9) = c s (4 * k9) := ((up_n (ne_l ((q_4128697c9 ha1 hk9)))).trans ((up_n ((q_8ac71c5f3))).trans ((up_n ((q_c037f51da))).trans ((up_n ((q_b2cb8bf87))).trans ((up_n ((q_336fb6678 e_25))).trans ((up_n (ne_l ((q_dca0492e8 hk9)))).trans (hid kn_32)))))))
      have h_34 := ir_s_g hI hs (j := 4 * k9 + 1) ((q_0a2ee6f8f hk9))
      have kn_35 : Hid (c_6 s (4 * k9 + 1) = c s (4 * k9 + 1)) := hF_8 s (4 * k9 + 1) (by omega)
      have h_36 : (up (up (up (up (up (up c_6 s 33 y_17) s (4 * a1) 0) s (4 * a1 + 1) 0) s (4 * a1 + 2) 0) s (4 * a1 + 3) 0) s (a1 + 24) 0) s (4 * k9 + 1) = c s (4 * k9 + 1) := ((up_n (ne_l ((q_8f2481ba6 ha1 hk9)))).trans ((up_n ((q_7c6b1b09a))).trans ((up_n ((q_3650b790c))).trans ((up_n ((q_52b51d728 e_25))).trans ((up_n ((q_e5bcc673e))).trans ((up_n (ne_l ((q_04a38f0fc hk9)))).trans (hid kn_35)))))))
      have h_37 := ir_s_g hI hs (j := 4 * k9 + 2) ((q_e07a293a2 hk9))
      have kn_38 : Hid (c_6 s (4 * k9 + 2) = c s (4 * k9 + 2)) := hF_8 s (4 * k9 + 2) (by omega)
      have h_39 : (up (up (up (up (up (up c_6 s 33 y_17) s (4 * a1) 0) s (4 * a1 + 1) 0) s (4 * a1 + 2) 0) s (4 * a1 + 3) 0) s (a1 + 24) 0) s (4 * k9 + 2) = c s (4 * k9 + 2) := ((up_n (ne_l ((q_04ab4010a ha1 hk9)))).trans ((up_n ((q_91c5bd343))).trans ((up_n ((q_27892e29e e_25))).trans ((up_n ((q_08c3d7060))).trans ((up_n ((q_ae83e86ba))).trans ((up_n (ne_l ((q_a4486dabd hk9)))).trans (hid kn_38)))))))
      have h_40 := ir_s_g hI hs (j := 4 * k9 + 3) ((q_d09cb0b73 hk9))
      have kn_41 : Hid (c_6 s (4 * k9 + 3) = c s (4 * k9 + 3)) := hF_8 s (4 * k9 + 3) (by omega)
      have h_42 : (up (up (up (up (up (up c_6 s 33 y_17) s (4 * a1) 0) s (4 * a1 + 1) 0) s (4 * a1 + 2) 0) s (4 * a1 + 3) 0) s (a1 + 24) 0) s (4 * k9 + 3) = c s (4 * k9 + 3) := ((up_n (ne_l ((q_e782b8c3c ha1 hk9)))).trans ((up_n ((q_2db9f474b e_25))).trans ((up_n ((q_28d70e8e5))).trans ((up_n ((q_6d5c6886e))).trans ((up_n ((q_b6789388a))).trans ((up_n (ne_l ((q_d1b72c2c7 hk9)))).trans (hid kn_41)))))))
      omega
    have hI_43 := iv_close hI_23 hr_24
    exact K (up (up (up (up (up (up c_6 s 33 y_17) s (4 * a1) 0) s (4 * a1 + 1) 0) s (4 * a1 + 2) 0) s (4 * a1 + 3) 0) s (a1 + 24) 0) 1 hI_43 (fun a j hm => (up_b (Decidable.or_iff_not_imp_left.mpr (fun h1 h2 => hm (Or.inl (Decidable.not_not.mp h1))))).trans ((up_b (Decidable.or_iff_not_imp_left.mpr (fun h1 h2 => hm (Or.inl (Decidable.not_not.mp h1))))).trans ((up_b (Decidable.or_iff_not_imp_left.mpr (fun h1 h2 => hm (Or.inl (Decidable.not_not.mp h1))))).trans ((up_b (Decidable.or_iff_not_imp_left.mpr (fun h1 h2 => hm (Or.inl (Decidable.not_not.mp h1))))).trans ((up_b (Decidable.or_iff_not_imp_left.mpr (fun h1 h2 => hm (Or.inl (Decidable.not_not.mp h1))))).trans ((up_b (Decidable.or_iff_not_imp_left.mpr (fun h1 h2 => hm (Or.inl (Decidable.not_not.mp h1))))).trans (hF_8 a j (qv_0914b99ad hm)))))))) ⟨of_decide_eq_true rfl, of_decide_eq_true rfl⟩
  · refine v_if_ne_f (t := 10) c_58_5 rfl (Decidable.not_not.mp h_10) (q_iconst c_58_8 (v_zret c_58_9 rfl (of_decide_eq_true rfl) ?_))
    have hr_44 : ∀ j : Int, rs s j → c_6 s j + c_6 s (j + 1) + c_6 s (j + 2) + c_6 s (j + 3) ≤ 9999 := by
      intro j9 hj9
      obtain ⟨k9, rfl, hk9⟩ := rs_s hs hj9
      by_cases e_45 : k9 = a1
      · skip
        have kn_46 : Hid (c_6 s (4 * a1) = c s (4 * a1)) := hF_8 s (4 * a1) (by omega)
        have h_47 : c_6 s (4 * k9) = c s (4 * a1) := (congrArg (c_6 s) (show 4 * k9 = 4 * a1 from by omega)).trans (hid kn_46)
        have kn_48 : Hid (c_6 s (4 * a1 + 1) = c s (4 * a1 + 1)) := hF_8 s (4 * a1 + 1) (by omega)
        have h_49 : c_6 s (4 * k9 + 1) = c s (4 * a1 + 1) := (congrArg (c_6 s) (show 4 * k9 + 1 = 4 * a1 + 1 from by omega)).trans (hid kn_48)
        have kn_50 : Hid (c_6 s (4 * a1 + 2) = c s (4 * a1 + 2)) := hF_8 s (4 * a1 + 2) (by omega)
        have h_51 : c_6 s (4 * k9 + 2) = c s (4 * a1 + 2) := (congrArg (c_6 s) (show 4 * k9 + 2 = 4 * a1 + 2 from by omega)).trans (hid kn_50)
        have kn_52 : Hid (c_6 s (4 * a1 + 3) = c s (4 * a1 + 3)) := hF_8 s (4 * a1 + 3) (by omega)
        have h_53 : c_6 s (4 * k9 + 3) = c s (4 * a1 + 3) := (congrArg (c_6 s) (show 4 * k9 + 3 = 4 * a1 + 3 from by omega)).trans (hid kn_52)
        omega
      have h_54 := iv_r hI s (4 * k9) hj9 (by omega)
      have h_55 := ir_s_g hI hs (j := 4 * k9) ((q_9f1d5ffdc hk9))
      have kn_56 : Hid (c_6 s (4 * k9) = c s (4 * k9)) := hF_8 s (4 * k9) (by omega)
      have h_57 : c_6 s (4 * k9) = c s (4 * k9) := (hid kn_56)
      have h_58 := ir_s_g hI hs (j := 4 * k9 + 1) ((q_0a2ee6f8f hk9))
      have kn_59 : Hid (c_6 s (4 * k9 + 1) = c s (4 * k9 + 1)) := hF_8 s (4 * k9 + 1) (by omega)
      have h_60 : c_6 s (4 * k9 + 1) = c s (4 * k9 + 1) := (hid kn_59)
      have h_61 := ir_s_g hI hs (j := 4 * k9 + 2) ((q_e07a293a2 hk9))
      have kn_62 : Hid (c_6 s (4 * k9 + 2) = c s (4 * k9 + 2)) := hF_8 s (4 * k9 + 2) (by omega)
      have h_63 : c_6 s (4 * k9 + 2) = c s (4 * k9 + 2) := (hid kn_62)
      have h_64 := ir_s_g hI hs (j := 4 * k9 + 3) ((q_d09cb0b73 hk9))
      have kn_65 : Hid (c_6 s (4 * k9 + 3) = c s (4 * k9 + 3)) := hF_8 s (4 * k9 + 3) (by omega)
      have h_66 : c_6 s (4 * k9 + 3) = c s (4 * k9 + 3) := (hid kn_65)
      omega
    have hI_67 := iv_close hI_7 hr_44
    exact K c_6 0 hI_67 (fun a j hm => hF_8 a j (qv_0914b99ad hm)) ⟨of_decide_eq_true rfl, of_decide_eq_true rfl⟩

set_option maxRecDepth 100000 in
set_option maxHeartbeats 4000000 in
theorem s_59_l {sc : List Int32} {e : Int} {d u P Q sh s : Nat} {c : ME} {Z : AR → Prop} (hI : Iv u e P Q c) (hs : (sh = 37 ∧ s = 38) ∨ (sh = 39 ∧ s = 40)) (K : ∀ (c2 : ME), Iv u e P Q c2 → (∀ (a : Nat) (j : Int), ¬ (a = s) → c2 a j = c a j) → Z (.inl (none), Wd P Q P P c2, 0, 0)) : ∀ n : Nat, (∀ (c2 : ME) (v1 : Int), Iv u e P Q c2 → (∀ (a : Nat) (j : Int), ¬ (a = s) → c2 a j = c a j) → 0 ≤ v1 ∧ v1 ≤ 6 → 13 - 2 * v1 < (n : Int) → Wp sc (d + 8) 59 2 [(0, .ref sh), (1, vi v1)] [] (Wd P Q P P c2) 0 0 Z) := by
  intro n
  induction n with
  | zero => exact (by intro c2 v1 hI2 hF hv1 hm9; have hP := iv_P hI; have hQ := iv_Q hI; exfalso; omega)
  | succ n ih =>
    have hP := iv_P hI
    have hQ := iv_Q hI
    intro c2 v1 hI2 hF hv1 hm9
    refine q_iload_n c_59_2 rfl (q_aload_n c_59_3 rfl (v_gr (t := P) c_59_4 kf_4_15 (ck_sh hs) (by omega) rfl ?_))
    have h_1 := ir_p0_0 hI hP
    have kn_2 : Hid (c2 P 0 = c P 0) := hF P 0 (by omega)
    refine v_gi (z := 0) (v := c P 0) c_59_7 kf_4_19 (ck_p0 hP) (a68z hP) rfl rfl (hid kn_2) ?_
    by_cases h_3 : v1 ≥ c P 0
    · refine v_ic_ge_t (t := 40) c_59_10 rfl ⟨(q_730ab5169 h_1), h_3, (ler hv1.2 rfl)⟩ (q_aload_n c_59_40 rfl (v_gr (t := s) c_59_41 kf_4_11 (ck_sh hs) (by omega) rfl (v_bip c_59_44 (of_decide_eq_true rfl) (q_dup2 c_59_46 ⟨rfl, rfl⟩ ?_))))
      have h_4 := ir_s hI2 hs 31
      refine v_ia (v := c2 s 31) c_59_47 (ck_s hs) (by omega) (of_decide_eq_true rfl) (of_decide_eq_true rfl) rfl (q_iconst c_59_48 (v_iadd (v := c2 s 31 + 1) c_59_49 rfl (v_nrm (fun y_5 hy_5 => (v_is c_59_50 (ck_s hs) (by omega) (of_decide_eq_true rfl) (of_decide_eq_true rfl) (q_vret rfl rfl ?_))))))
      have hI_6 := iw_row (a := s) (j := 31) (v := y_5) hI2 (by omega) (Or.inr (by omega)) ⟨by omega, by omega, by omega⟩
      exact K (up c2 s 31 y_5) hI_6 (fun a j hm => (up_b (Decidable.or_iff_not_imp_left.mpr (fun h1 h2 => hm (Decidable.not_not.mp h1)))).trans (hF a j hm))
    · refine v_ic_ge_f (t := 40) c_59_10 rfl ⟨(lel hv1.1 rfl), (Int.not_le.mp h_3), (q_b289b7db2 h_1)⟩ (q_aload_n c_59_13 rfl (q_iload_n c_59_14 rfl ?_))
      have h_7 := ir_s_g hI2 hs (j := 4 * v1) ((q_aa51b186e h_1 h_3))
      have h_8 := ir_s_g hI2 hs (j := 4 * v1 + 1) ((q_57851f9de h_1 h_3))
      have h_9 := ir_s_g hI2 hs (j := 4 * v1 + 2) ((q_7296e74e6 h_1 h_3))
      have h_10 := ir_s_g hI2 hs (j := 4 * v1 + 3) ((q_b15525c4c h_1 h_3))
      refine v_cv c_59_15 km_4_38 rfl (ck_sh hs) (by omega) ⟨⟨rfl, rfl⟩, of_decide_eq_true rfl, rfl⟩ (Nat.le_of_ble_eq_true rfl) (Nat.le_of_ble_eq_true rfl) (s_43 (v1 := c2 s (4 * v1)) (v2 := c2 s (4 * v1 + 1)) (v3 := c2 s (4 * v1 + 2)) (v4 := c2 s (4 * v1 + 3)) (r := c2 s (4 * v1 + 1) + c2 s (4 * v1 + 2) + c2 s (4 * v1 + 3) + c2 s (4 * v1)) (a1 := v1) hI2 hs (show 0 ≤ v1 ∧ v1 ≤ 5 from ⟨hv1.1, (q_d63a8538e h_1 h_3)⟩) (rfl) (rfl) (rfl) (rfl) (by omega) (bk_inl ?_))
      by_cases h_11 : c2 s (4 * v1 + 1) + c2 s (4 * v1 + 2) + c2 s (4 * v1 + 3) + c2 s (4 * v1) ≤ 0
      · refine v_if_le_t (t := 34) c_59_18 rfl ⟨(q_94559468f h_10 h_7 h_8 h_9), h_11, of_decide_eq_true rfl⟩ (v_iinc (v := v1 + 1) c_59_34 rfl (Nat.le_of_ble_eq_true rfl) rfl (q_goto (t := 2) c_59_37 rfl (Wp_ls [(0, .ref sh), (1, vi (v1 + 1))] (lsub_cons rfl (lsub_cons rfl lsub_nil)) ?_)))
        exact ih c2 (v1 + 1) hI2 (fun a j hm => hF a j hm) ⟨(rgp_l hv1.1 (of_decide_eq_true rfl)), (q_4a76cd9c7 h_1 h_3)⟩ (by omega)
      · refine v_if_le_f (t := 34) c_59_18 rfl ⟨of_decide_eq_true rfl, (Int.not_le.mp h_11), (q_f81653045 h_10 h_7 h_8 h_9)⟩ (q_aload_n c_59_21 rfl (v_gr (t := s) c_59_22 kf_4_11 (ck_sh hs) (by omega) rfl (v_bip c_59_25 (of_decide_eq_true rfl) (q_iload_n c_59_27 rfl (v_iadd (v := v1 + 24) c_59_28 (by omega) (q_dup2 c_59_29 ⟨rfl, rfl⟩ ?_))))))
        have h_12 := ir_s hI2 hs (v1 + 24)
        refine v_ia (v := c2 s (v1 + 24)) c_59_30 (ck_s hs) (by omega) (of_decide_eq_true rfl) ⟨(rgp_l hv1.1 (of_decide_eq_true rfl)), (q_fbbb1c60d hv1)⟩ rfl (q_iconst c_59_31 (v_iadd (v := c2 s (v1 + 24) + 1) c_59_32 rfl (v_nrm (fun y_13 hy_13 => (v_is c_59_33 (ck_s hs) (by omega) (of_decide_eq_true rfl) ⟨(rgp_l hv1.1 (of_decide_eq_true rfl)), (q_fbbb1c60d hv1)⟩ (v_iinc (v := v1 + 1) c_59_34 rfl (Nat.le_of_ble_eq_true rfl) rfl (q_goto (t := 2) c_59_37 rfl ?_)))))))
        have hI_14 := iw_row (a := s) (j := v1 + 24) (v := y_13) hI2 (by omega) (Or.inr (by omega)) ⟨by omega, by omega, by omega⟩
        refine Wp_ls [(0, .ref sh), (1, vi (v1 + 1))] (lsub_cons rfl (lsub_cons rfl lsub_nil)) ?_
        exact ih (up c2 s (v1 + 24) y_13) (v1 + 1) hI_14 (fun a j hm => (up_b (Decidable.or_iff_not_imp_left.mpr (fun h1 h2 => hm (Decidable.not_not.mp h1)))).trans (hF a j hm)) ⟨(rgp_l hv1.1 (of_decide_eq_true rfl)), (q_4a76cd9c7 h_1 h_3)⟩ (by omega)
set_option maxRecDepth 100000 in
set_option maxHeartbeats 4000000 in
theorem s_59 {sc : List Int32} {e : Int} {d u P Q sh s : Nat} {c : ME} {Z : AR → Prop} (hI : Iv u e P Q c) (hs : (sh = 37 ∧ s = 38) ∨ (sh = 39 ∧ s = 40)) (K : ∀ (c2 : ME), Iv u e P Q c2 → (∀ (a : Nat) (j : Int), ¬ (a = s) → c2 a j = c a j) → Z (.inl (none), Wd P Q P P c2, 0, 0)) : Wp sc (d + 8) 59 0 [(0, .ref sh)] [] (Wd P Q P P c) 0 0 Z := by
  have hP := iv_P hI
  have hQ := iv_Q hI
  refine q_iconst c_59_0 (q_istore_n c_59_1 (Nat.le_of_ble_eq_true rfl) (Wp_ls [(0, .ref sh), (1, vi 0)] (lsub_cons rfl (lsub_cons rfl lsub_nil)) ?_))
  exact (s_59_l (sc := sc) (d := d) hI hs K 16) c 0 hI (fun a j hm => rfl) ⟨of_decide_eq_true rfl, of_decide_eq_true rfl⟩ (by omega)

set_option maxRecDepth 100000 in
set_option maxHeartbeats 4000000 in
theorem s_60 {sc : List Int32} {e : Int} {d u P Q sh s : Nat} {c : ME} {Z : AR → Prop} (hI : Iv u e P Q c) (hs : (sh = 37 ∧ s = 38) ∨ (sh = 39 ∧ s = 40)) (K : ∀ (c2 : ME) (y : Int), Iv u e P Q c2 → (∀ (a : Nat) (j : Int), ¬ (a = s) → c2 a j = c a j) → 0 ≤ y ∧ y ≤ 1 → Z (.inl (some (vi y)), Wd P Q P P c2, 0, 0)) : Wp sc (d + 9) 60 0 [(0, .ref sh)] [] (Wd P Q P P c) 0 0 Z := by
  have hP := iv_P hI
  have hQ := iv_Q hI
  refine q_aload_n c_60_0 rfl (v_gr (t := s) c_60_1 kf_4_11 (ck_sh hs) (by omega) rfl (v_bip c_60_4 (of_decide_eq_true rfl) ?_))
  have h_1 := ir_s hI hs 31
  refine v_ia (v := c s 31) c_60_6 (ck_s hs) (by omega) (of_decide_eq_true rfl) (of_decide_eq_true rfl) rfl (v_sip c_60_7 (of_decide_eq_true rfl) ?_)
  by_cases h_2 : c s 31 < 400
  · refine v_ic_lt_t (t := 15) c_60_10 rfl ⟨h_1.1, h_2, of_decide_eq_true rfl⟩ (q_aload_n c_60_15 rfl (v_cv c_60_16 km_4_101 rfl (ck_sh hs) (by omega) ⟨⟨rfl, rfl⟩, of_decide_eq_true rfl, rfl⟩ (Nat.le_of_ble_eq_true rfl) (Nat.le_of_ble_eq_true rfl) (s_59 hI hs (fun c_3 hI_4 hF_5 => (bk_inl (q_iconst c_60_19 (v_zret c_60_20 rfl (of_decide_eq_true rfl) ?_)))))))
    exact K c_3 1 hI_4 (fun a j hm => hF_5 a j hm) ⟨of_decide_eq_true rfl, of_decide_eq_true rfl⟩
  · refine v_ic_lt_f (t := 15) c_60_10 rfl ⟨of_decide_eq_true rfl, (Int.not_lt.mp h_2), h_1.2⟩ (q_iconst c_60_13 (v_zret c_60_14 rfl (of_decide_eq_true rfl) ?_))
    exact K c 0 hI (fun a j hm => rfl) ⟨of_decide_eq_true rfl, of_decide_eq_true rfl⟩

set_option maxRecDepth 100000 in
set_option maxHeartbeats 4000000 in
theorem s_61 {sc : List Int32} {e : Int} {d u P Q sh s : Nat} {c : ME} {a1 : Int} {Z : AR → Prop} (hI : Iv u e P Q c) (hs : (sh = 37 ∧ s = 38) ∨ (sh = 39 ∧ s = 40)) (ha1 : (-2147483648) ≤ a1 ∧ a1 ≤ 2147483647) (K : ∀ (c2 : ME), Iv u e P Q c2 → (∀ (a : Nat) (j : Int), ¬ (a = s) → c2 a j = c a j) → Z (.inl (none), Wd P Q P P c2, 0, 0)) : Wp sc (d + 7) 61 0 [(0, .ref sh), (1, vi a1)] [] (Wd P Q P P c) 0 0 Z := by
  have hP := iv_P hI
  have hQ := iv_Q hI
  refine q_aload_n c_61_0 rfl (v_gr (t := s) c_61_1 kf_4_11 (ck_sh hs) (by omega) rfl (v_bip c_61_4 (of_decide_eq_true rfl) (q_dup2 c_61_6 ⟨rfl, rfl⟩ ?_)))
  have h_1 := ir_s hI hs 30
  refine v_ia (v := c s 30) c_61_7 (ck_s hs) (by omega) (of_decide_eq_true rfl) (of_decide_eq_true rfl) rfl (q_iconst c_61_8 (q_iload_n c_61_9 rfl (v_ishlx c_61_10 (fun y_2 hy_2 => (v_ixorx c_61_11 (fun y_3 hy_3 => (v_is c_61_12 (ck_s hs) (by omega) (of_decide_eq_true rfl) (of_decide_eq_true rfl) (q_vret rfl rfl ?_))))))))
  have hI_4 := iw_row (a := s) (j := 30) (v := y_3) hI (by omega) (Or.inr (by omega)) ⟨by omega, by omega, by omega⟩
  exact K (up c s 30 y_3) hI_4 (fun a j hm => up_b (Decidable.or_iff_not_imp_left.mpr (fun h1 h2 => hm (Decidable.not_not.mp h1))))

set_option maxRecDepth 100000 in
set_option maxHeartbeats 4000000 in
theorem s_62 {sc : List Int32} {d P Q : Nat} {c : ME} {t : Int} {Z : AR → Prop} (hI : Iv 0 (-1) P Q c) (ht : 0 ≤ t ∧ t ≤ 37) (K : ∀ (c2 : ME) (y : Int), Iv 0 (-1) P Q c2 → (∀ (a : Nat) (j : Int), ¬ (a = 38 ∨ a = (P + 10) ∨ a = (P + 11)) → c2 a j = c a j) → 0 ≤ y ∧ y ≤ 1 → Z (.inl (some (vi y)), Wd P Q P P c2, 0, 0)) : Wp sc (d + 12) 62 0 [(0, .ref 7), (1, .ref 37), (2, vi (5 * t))] [] (Wd P Q P P c) 0 0 Z := by
  have hP := iv_P hI
  have hQ := iv_Q hI
  have h_1 := ir_8 hI (5 * t)
  have h_2 := ir_8 hI (5 * t + 1)
  have h_3 := ir_8 hI (5 * t + 2)
  have h_4 := ir_8_2 hI (j := 5 * t + 2) (by first | (clear ht h_1 h_2 h_3; omega) | omega)
  have h_5 := ir_8 hI (5 * t + 3)
  have h_6 := ir_8 hI (5 * t + 4)
  have hso := ir_so (a := 8) hI (by unfold Sg; omega) (t := t) (by omega) (by omega)
  refine q_aload_n c_62_0 rfl (v_gr (t := 8) c_62_1 kf_3_11 rfl (Nat.le_of_ble_eq_true rfl) rfl (q_iload_n c_62_4 rfl (q_iconst c_62_5 (v_iadd (v := 5 * t + 1) c_62_6 rfl (v_ia (v := c 8 (5 * t + 1)) c_62_7 rfl (of_decide_eq_true rfl) (of_decide_eq_true rfl) ⟨(q_1416f500c ht), (q_6719517c6 ht)⟩ rfl (q_istore_n c_62_8 (Nat.le_of_ble_eq_true rfl) (q_aload_n c_62_9 rfl ?_)))))))
  refine v_gr (t := 8) c_62_10 kf_3_11 rfl (Nat.le_of_ble_eq_true rfl) rfl (q_iload_n c_62_13 rfl (q_iconst c_62_14 (v_iadd (v := 5 * t + 2) c_62_15 rfl (v_ia (v := c 8 (5 * t + 2)) c_62_16 rfl (of_decide_eq_true rfl) (of_decide_eq_true rfl) ⟨(q_ffaf02070 ht), (q_311969902 ht)⟩ rfl (q_istore c_62_17 (Nat.le_of_ble_eq_true rfl) (q_aload_n c_62_19 rfl (v_gr (t := 8) c_62_20 kf_3_11 rfl (Nat.le_of_ble_eq_true rfl) rfl ?_)))))))
  refine q_iload_n c_62_23 rfl (q_iconst c_62_24 (v_iadd (v := 5 * t + 3) c_62_25 rfl (v_ia (v := c 8 (5 * t + 3)) c_62_26 rfl (of_decide_eq_true rfl) (of_decide_eq_true rfl) ⟨(q_a57922852 ht), (q_be1adda5a ht)⟩ rfl (q_istore c_62_27 (Nat.le_of_ble_eq_true rfl) (q_aload_n c_62_29 rfl (v_gr (t := 8) c_62_30 kf_3_11 rfl (Nat.le_of_ble_eq_true rfl) rfl (q_iload_n c_62_33 rfl ?_)))))))
  refine v_ia (v := c 8 (5 * t)) c_62_34 rfl (of_decide_eq_true rfl) (of_decide_eq_true rfl) ⟨(q_455052922 ht), (q_7c821fbfb ht)⟩ rfl ?_
  by_cases h_7 : c 8 (5 * t) = 0
  · skip
    refine v_tsw_i (t := 76) 0 c_62_35 (by omega) (of_decide_eq_true rfl) rfl (of_decide_eq_true rfl) (q_aload_n c_62_76 rfl (q_iload_n c_62_77 rfl (q_iload c_62_78 rfl (v_cv c_62_80 km_3_105 rfl rfl (Nat.le_of_ble_eq_true rfl) ⟨⟨rfl, rfl⟩, Nat.le_of_ble_eq_true rfl, rfl⟩ (Nat.le_of_ble_eq_true rfl) (Nat.le_of_ble_eq_true rfl) (s_44 (a1 := c 8 (5 * t + 1)) (a2 := c 8 (5 * t + 2)) hI (.inl ⟨rfl, rfl⟩) (show 0 ≤ c 8 (5 * t + 1) ∧ c 8 (5 * t + 1) ≤ 3 from ⟨h_2.1, by omega⟩) (show 0 ≤ c 8 (5 * t + 2) ∧ c 8 (5 * t + 2) ≤ 5 from ⟨h_3.1, by omega⟩) (fun c_8 y_11 hI_9 hF_10 hy_11 => (bk_inl (v_zret c_62_83 rfl (by omega) ?_))))))))
    exact K c_8 y_11 hI_9 (fun a j hm => hF_10 a j (fun h => hm (Or.inl h))) hy_11
  by_cases h_12 : c 8 (5 * t) = 1
  · skip
    refine v_tsw_i (t := 84) 1 rfl (by omega) (of_decide_eq_true rfl) rfl (of_decide_eq_true rfl) (q_aload_n c_62_84 rfl (q_iload_n c_62_85 rfl (q_iload c_62_86 rfl (q_iload c_62_88 rfl (q_aload_n c_62_90 rfl (v_gr (t := 8) c_62_91 kf_3_11 rfl (Nat.le_of_ble_eq_true rfl) rfl (q_iload_n c_62_94 rfl ?_)))))))
    refine q_iconst c_62_95 (v_iadd (v := 5 * t + 4) c_62_96 rfl (v_ia (v := c 8 (5 * t + 4)) c_62_97 rfl (of_decide_eq_true rfl) (of_decide_eq_true rfl) ⟨(q_30157bdbc ht), (q_481aa6703 ht)⟩ rfl (v_cv c_62_98 km_3_111 rfl rfl (Nat.le_of_ble_eq_true rfl) ⟨⟨rfl, rfl⟩, Nat.le_of_ble_eq_true rfl, rfl⟩ (Nat.le_of_ble_eq_true rfl) (Nat.le_of_ble_eq_true rfl) (s_53 (a1 := c 8 (5 * t + 1)) (a2 := c 8 (5 * t + 2)) (a3 := c 8 (5 * t + 3)) (a4 := c 8 (5 * t + 4)) hI (.inl ⟨rfl, rfl⟩) (show 0 ≤ c 8 (5 * t + 1) ∧ c 8 (5 * t + 1) ≤ 3 from ⟨h_2.1, by first | (clear ht h_1 h_2 h_3 h_4 h_5 h_6 h_7; omega) | omega⟩) (show 0 ≤ c 8 (5 * t + 2) ∧ c 8 (5 * t + 2) ≤ 5 from ⟨h_3.1, by first | (clear ht h_1 h_2 h_3 h_4 h_5 h_6 h_7; omega) | omega⟩) (show 0 ≤ c 8 (5 * t + 3) ∧ c 8 (5 * t + 3) ≤ 5 from ⟨h_5.1, by first | (clear ht h_1 h_2 h_3 h_4 h_5 h_6 h_7; omega) | omega⟩) (show 0 ≤ c 8 (5 * t + 4) ∧ c 8 (5 * t + 4) ≤ 5 from ⟨h_6.1, by first | (clear ht h_1 h_2 h_3 h_4 h_5 h_6 h_7; omega) | omega⟩) (fun c_13 y_16 hI_14 hF_15 hy_16 => (bk_inl (v_zret c_62_101 rfl (by omega) ?_)))))))
    exact K c_13 y_16 hI_14 (fun a j hm => hF_15 a j (fun h => hm (Or.inl h))) hy_16
  by_cases h_17 : c 8 (5 * t) = 2
  · skip
    refine v_tsw_i (t := 102) 2 rfl (by omega) (of_decide_eq_true rfl) rfl (of_decide_eq_true rfl) (q_aload_n c_62_102 rfl (q_iload_n c_62_103 rfl (q_iload c_62_104 rfl (v_cv c_62_106 km_3_115 rfl rfl (Nat.le_of_ble_eq_true rfl) ⟨⟨rfl, rfl⟩, Nat.le_of_ble_eq_true rfl, rfl⟩ (Nat.le_of_ble_eq_true rfl) (Nat.le_of_ble_eq_true rfl) (s_55 (a1 := c 8 (5 * t + 1)) (a2 := c 8 (5 * t + 2)) hI (.inl ⟨rfl, rfl⟩) (show 0 ≤ c 8 (5 * t + 1) ∧ c 8 (5 * t + 1) ≤ 5 from ⟨h_2.1, by first | (clear ht h_1 h_2 h_3 h_4 h_5 h_6 h_7 h_12; omega) | omega⟩) (show 0 ≤ c 8 (5 * t + 2) ∧ c 8 (5 * t + 2) ≤ 5 from ⟨h_3.1, by first | (clear ht h_1 h_2 h_3 h_4 h_5 h_6 h_7 h_12; omega) | omega⟩) (fun c_18 y_21 hI_19 hF_20 hy_21 => (bk_inl (v_zret c_62_109 rfl (by omega) ?_))))))))
    exact K c_18 y_21 hI_19 (fun a j hm => hF_20 a j (fun h => hm (Or.inl h))) hy_21
  by_cases h_22 : c 8 (5 * t) = 3
  · skip
    refine v_tsw_i (t := 110) 3 rfl (by omega) (of_decide_eq_true rfl) rfl (of_decide_eq_true rfl) (q_aload_n c_62_110 rfl (q_iload_n c_62_111 rfl (q_iload c_62_112 rfl (q_iload c_62_114 rfl (v_cv c_62_116 km_3_118 rfl rfl (Nat.le_of_ble_eq_true rfl) ⟨⟨rfl, rfl⟩, Nat.le_of_ble_eq_true rfl, rfl⟩ (Nat.le_of_ble_eq_true rfl) (Nat.le_of_ble_eq_true rfl) (s_54 (a1 := c 8 (5 * t + 1)) (a2 := c 8 (5 * t + 2)) (a3 := c 8 (5 * t + 3)) hI (.inl ⟨rfl, rfl⟩) (show 0 ≤ c 8 (5 * t + 1) ∧ c 8 (5 * t + 1) ≤ 5 from ⟨h_2.1, by first | (clear ht h_1 h_2 h_3 h_4 h_5 h_6 h_7 h_12 h_17; omega) | omega⟩) (show 0 ≤ c 8 (5 * t + 2) ∧ c 8 (5 * t + 2) ≤ 5 from ⟨h_3.1, by first | (clear ht h_1 h_2 h_3 h_4 h_5 h_6 h_7 h_12 h_17; omega) | omega⟩) (show 0 ≤ c 8 (5 * t + 3) ∧ c 8 (5 * t + 3) ≤ 99999 from h_5) (fun c_23 y_26 hI_24 hF_25 hy_26 => (bk_inl (v_zret c_62_119 rfl (by omega) ?_)))))))))
    exact K c_23 y_26 hI_24 (fun a j hm => hF_25 a j (fun h => hm (Or.inl h))) hy_26
  by_cases h_27 : c 8 (5 * t) = 4
  · skip
    refine v_tsw_i (t := 131) 4 rfl (by omega) (of_decide_eq_true rfl) rfl (of_decide_eq_true rfl) (q_aload_n c_62_131 rfl (q_iload_n c_62_132 rfl (v_cv c_62_133 km_3_129 rfl rfl (Nat.le_of_ble_eq_true rfl) ⟨⟨rfl, rfl⟩, Nat.le_of_ble_eq_true rfl, rfl⟩ (Nat.le_of_ble_eq_true rfl) (Nat.le_of_ble_eq_true rfl) (s_61 (a1 := c 8 (5 * t + 1)) hI (.inl ⟨rfl, rfl⟩) (show (-2147483648) ≤ c 8 (5 * t + 1) ∧ c 8 (5 * t + 1) ≤ 2147483647 from ⟨(lel h_2.1 rfl), (ler h_2.2 rfl)⟩) (fun c_28 hI_29 hF_30 => (bk_inl (q_iconst c_62_136 (v_zret c_62_137 rfl (of_decide_eq_true rfl) ?_))))))))
    exact K c_28 1 hI_29 (fun a j hm => hF_30 a j (fun h => hm (Or.inl h))) ⟨of_decide_eq_true rfl, of_decide_eq_true rfl⟩
  by_cases h_31 : c 8 (5 * t) = 5
  · skip
    refine v_tsw_i (t := 120) 5 rfl (by omega) (of_decide_eq_true rfl) rfl (of_decide_eq_true rfl) (q_aload_n c_62_120 rfl (q_iload_n c_62_121 rfl (v_cv c_62_122 km_3_122 rfl rfl (Nat.le_of_ble_eq_true rfl) ⟨⟨rfl, rfl⟩, Nat.le_of_ble_eq_true rfl, rfl⟩ (Nat.le_of_ble_eq_true rfl) (Nat.le_of_ble_eq_true rfl) (s_58 (a1 := c 8 (5 * t + 1)) hI (.inl ⟨rfl, rfl⟩) (show 0 ≤ c 8 (5 * t + 1) ∧ c 8 (5 * t + 1) ≤ 5 from ⟨h_2.1, by first | (clear ht h_1 h_2 h_3 h_4 h_5 h_6 h_7 h_12 h_17 h_22 h_27; omega) | omega⟩) (fun c_32 y_35 hI_33 hF_34 hy_35 => (bk_inl (v_zret c_62_125 rfl (by omega) ?_)))))))
    exact K c_32 y_35 hI_33 (fun a j hm => hF_34 a j hm) hy_35
  by_cases h_36 : c 8 (5 * t) = 6
  · skip
    refine v_tsw_i (t := 126) 6 rfl (by omega) (of_decide_eq_true rfl) rfl (of_decide_eq_true rfl) (q_aload_n c_62_126 rfl (v_cv c_62_127 km_3_126 rfl rfl (Nat.le_of_ble_eq_true rfl) ⟨⟨rfl, rfl⟩, Nat.le_of_ble_eq_true rfl, rfl⟩ (Nat.le_of_ble_eq_true rfl) (Nat.le_of_ble_eq_true rfl) (s_60 hI (.inl ⟨rfl, rfl⟩) (fun c_37 y_40 hI_38 hF_39 hy_40 => (bk_inl (v_zret c_62_130 rfl (by omega) ?_))))))
    exact K c_37 y_40 hI_38 (fun a j hm => hF_39 a j (fun h => hm (Or.inl h))) hy_40
  refine v_tsw_o (t := 131) rfl (by omega) (of_decide_eq_true rfl) (q_aload_n c_62_131 rfl (q_iload_n c_62_132 rfl (v_cv c_62_133 km_3_129 rfl rfl (Nat.le_of_ble_eq_true rfl) ⟨⟨rfl, rfl⟩, Nat.le_of_ble_eq_true rfl, rfl⟩ (Nat.le_of_ble_eq_true rfl) (Nat.le_of_ble_eq_true rfl) (s_61 (a1 := c 8 (5 * t + 1)) hI (.inl ⟨rfl, rfl⟩) (show (-2147483648) ≤ c 8 (5 * t + 1) ∧ c 8 (5 * t + 1) ≤ 2147483647 from ⟨(lel h_2.1 rfl), (ler h_2.2 rfl)⟩) (fun c_41 hI_42 hF_43 => (bk_inl (q_iconst c_62_136 (v_zret c_62_137 rfl (of_decide_eq_true rfl) ?_))))))))
  exact K c_41 1 hI_42 (fun a j hm => hF_43 a j (fun h => hm (Or.inl h))) ⟨of_decide_eq_true rfl, of_decide_eq_true rfl⟩
