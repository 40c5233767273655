/-! ===== contracts 16 ===== -/
theorem q_a964d3f86 {x0 x1 x2 x3 : Int} (f0 : (x0 + x1 + x2 + x3 ≤ 9999)) : x0 + x1 + x2 + x3 ≤ 2147483647 := by omega
theorem q_beed56cbb {x0 x1 : Int} (f0 : (x0 < x1) ∨ (x0 > x1)) : ¬ x0 + 24 = x1 + 24 := by omega
theorem q_25cce9136 {x0 x1 : Int} (f0 : 0 ≤ x0 ∧ x0 ≤ 3) (f1 : 0 ≤ x1 ∧ x1 ≤ 5) : 4 * x1 + 2 < x0 + 30 := by omega
theorem q_12e2b7340 {x0 x1 : Int} (f0 : 0 ≤ x0 ∧ x0 ≤ 3) (f1 : 0 ≤ x1 ∧ x1 ≤ 5) : 4 * x1 + 1 < x0 + 30 := by omega
theorem q_fa2c90da8 {x0 x1 : Int} (f0 : 0 ≤ x0 ∧ x0 ≤ 3) (f1 : 0 ≤ x1 ∧ x1 ≤ 5) : 4 * x1 < x0 + 30 := by omega
theorem q_8738771ec {x0 x1 x2 x3 x4 x5 x6 x7 x8 x9 x10 x11 : Int} (f0 : 0 ≤ x0 ∧ x0 ≤ 9999) (f1 : 0 ≤ x1 ∧ x1 ≤ x2) (f2 : 0 ≤ x3 ∧ x3 ≤ x4) (f3 : 0 ≤ x5 ∧ x5 ≤ x6) (f4 : 0 ≤ x7 ∧ x7 ≤ x8) (f5 : 0 ≤ x9 ∧ x9 ≤ 9999) (f6 : 0 ≤ x10 ∧ x10 ≤ 9999) (f7 : 0 ≤ x11 ∧ x11 ≤ 9999) : (-2147483648) ≤ x1 + x3 + x5 + x7 + x10 + x11 + x0 + x9 := by omega
theorem q_f1f5545e9 {x0 x1 x2 x3 x4 x5 x6 x7 x8 x9 x10 x11 : Int} (f0 : 0 ≤ x0 ∧ x0 ≤ x1) (f1 : 0 ≤ x2 ∧ x2 ≤ x3) (f2 : 0 ≤ x4 ∧ x4 ≤ x5) (f3 : 0 ≤ x6 ∧ x6 ≤ x7) (f4 : 0 ≤ x8 ∧ x8 ≤ 9999) (f5 : 0 ≤ x9 ∧ x9 ≤ 9999) (f6 : 0 ≤ x10 ∧ x10 ≤ 9999) (f7 : 0 ≤ x11 ∧ x11 ≤ 9999) : (-2147483648) ≤ x3 + x5 + x7 + x1 + x9 + x10 + x11 + x8 - x0 - x2 - x4 - x6 := by omega
theorem c_193_75 : mLk 193 75 = some (.iload 6, 2) := rfl
theorem c_193_77 : mLk 193 77 = some (.iconst 4, 1) := rfl
theorem c_193_78 : mLk 193 78 = some (.if_icmp .ge 64, 3) := rfl
theorem c_193_81 : mLk 193 81 = some (.aload_n 0, 1) := rfl
theorem c_193_82 : mLk 193 82 = some (.iload_n 1, 1) := rfl
theorem c_193_83 : mLk 193 83 = some (.iload_n 2, 1) := rfl
theorem c_193_84 : mLk 193 84 = some (.iload 6, 2) := rfl
theorem c_193_86 : mLk 193 86 = some (.invokevirtual 363, 3) := rfl
theorem c_193_89 : mLk 193 89 = some (.istore 7, 2) := rfl
theorem c_193_91 : mLk 193 91 = some (.aload_n 0, 1) := rfl
theorem c_193_92 : mLk 193 92 = some (.getfield 68, 3) := rfl
theorem c_193_95 : mLk 193 95 = some (.iconst 4, 1) := rfl
theorem c_193_96 : mLk 193 96 = some (.iload_n 3, 1) := rfl
theorem c_193_97 : mLk 193 97 = some (.imul, 1) := rfl
theorem c_193_98 : mLk 193 98 = some (.iload 6, 2) := rfl
theorem c_193_100 : mLk 193 100 = some (.iadd, 1) := rfl
theorem c_193_101 : mLk 193 101 = some (.dup2, 1) := rfl
theorem c_193_102 : mLk 193 102 = some (.iaload, 1) := rfl
theorem c_193_103 : mLk 193 103 = some (.iload 7, 2) := rfl
theorem c_193_105 : mLk 193 105 = some (.iadd, 1) := rfl
theorem c_193_106 : mLk 193 106 = some (.iastore, 1) := rfl
theorem c_193_107 : mLk 193 107 = some (.aload_n 0, 1) := rfl
theorem c_193_108 : mLk 193 108 = some (.getfield 68, 3) := rfl
theorem c_193_111 : mLk 193 111 = some (.iconst 4, 1) := rfl
theorem c_193_112 : mLk 193 112 = some (.iload 4, 2) := rfl
theorem c_193_114 : mLk 193 114 = some (.imul, 1) := rfl
theorem c_193_115 : mLk 193 115 = some (.iload 6, 2) := rfl
theorem c_193_117 : mLk 193 117 = some (.iadd, 1) := rfl
theorem c_193_118 : mLk 193 118 = some (.dup2, 1) := rfl
theorem c_193_119 : mLk 193 119 = some (.iaload, 1) := rfl
theorem c_193_120 : mLk 193 120 = some (.aload_n 0, 1) := rfl
theorem c_193_121 : mLk 193 121 = some (.getfield 68, 3) := rfl
theorem c_193_124 : mLk 193 124 = some (.iconst 4, 1) := rfl
theorem c_193_125 : mLk 193 125 = some (.iload_n 2, 1) := rfl
theorem c_193_126 : mLk 193 126 = some (.imul, 1) := rfl
theorem c_193_127 : mLk 193 127 = some (.iload 6, 2) := rfl
theorem c_193_129 : mLk 193 129 = some (.iadd, 1) := rfl
theorem c_193_130 : mLk 193 130 = some (.iaload, 1) := rfl
theorem c_193_131 : mLk 193 131 = some (.iload 7, 2) := rfl
theorem c_193_133 : mLk 193 133 = some (.isub, 1) := rfl
theorem c_193_134 : mLk 193 134 = some (.iadd, 1) := rfl
theorem c_193_135 : mLk 193 135 = some (.iastore, 1) := rfl
theorem c_193_136 : mLk 193 136 = some (.iinc 6 1, 3) := rfl
theorem c_193_139 : mLk 193 139 = some (.goto (-64), 3) := rfl
theorem c_193_142 : mLk 193 142 = some (.iload 5, 2) := rfl
theorem c_193_144 : mLk 193 144 = some (.ifCond .le 17, 3) := rfl
theorem c_193_161 : mLk 193 161 = some (.iload 5, 2) := rfl
theorem c_193_163 : mLk 193 163 = some (.aload_n 0, 1) := rfl
theorem c_193_164 : mLk 193 164 = some (.iload_n 2, 1) := rfl
theorem c_193_165 : mLk 193 165 = some (.invokevirtual 343, 3) := rfl
theorem c_193_168 : mLk 193 168 = some (.if_icmp .ge 18, 3) := rfl
theorem c_193_186 : mLk 193 186 = some (.aload_n 0, 1) := rfl
theorem c_193_187 : mLk 193 187 = some (.iload_n 2, 1) := rfl
theorem c_193_188 : mLk 193 188 = some (.invokevirtual 372, 3) := rfl
theorem c_193_191 : mLk 193 191 = some (.iconst 1, 1) := rfl
theorem c_193_192 : mLk 193 192 = some (.ireturn, 1) := rfl
theorem c_193_171 : mLk 193 171 = some (.aload_n 0, 1) := rfl
theorem c_193_172 : mLk 193 172 = some (.iload 4, 2) := rfl
theorem c_193_174 : mLk 193 174 = some (.aload_n 0, 1) := rfl
theorem c_193_175 : mLk 193 175 = some (.getfield 68, 3) := rfl
theorem c_193_178 : mLk 193 178 = some (.bipush 24, 2) := rfl
theorem c_193_180 : mLk 193 180 = some (.iload_n 2, 1) := rfl
theorem c_193_181 : mLk 193 181 = some (.iadd, 1) := rfl
theorem c_193_182 : mLk 193 182 = some (.iaload, 1) := rfl
theorem c_193_183 : mLk 193 183 = some (.invokevirtual 369, 3) := rfl
theorem c_193_147 : mLk 193 147 = some (.aload_n 0, 1) := rfl
theorem c_193_148 : mLk 193 148 = some (.iload_n 3, 1) := rfl
theorem c_193_149 : mLk 193 149 = some (.aload_n 0, 1) := rfl
theorem c_193_150 : mLk 193 150 = some (.getfield 68, 3) := rfl
theorem c_193_153 : mLk 193 153 = some (.bipush 24, 2) := rfl
theorem c_193_155 : mLk 193 155 = some (.iload_n 2, 1) := rfl
theorem c_193_156 : mLk 193 156 = some (.iadd, 1) := rfl
theorem c_193_157 : mLk 193 157 = some (.iaload, 1) := rfl
theorem c_193_158 : mLk 193 158 = some (.invokevirtual 369, 3) := rfl
theorem c_193_0 : mLk 193 0 = some (.aload_n 0, 1) := rfl
theorem c_193_1 : mLk 193 1 = some (.iload_n 2, 1) := rfl
theorem c_193_2 : mLk 193 2 = some (.invokevirtual 343, 3) := rfl
theorem c_193_5 : mLk 193 5 = some (.ifCond .eq 20, 3) := rfl
theorem c_193_25 : mLk 193 25 = some (.iconst 0, 1) := rfl
theorem c_193_26 : mLk 193 26 = some (.ireturn, 1) := rfl
theorem c_193_8 : mLk 193 8 = some (.iload_n 2, 1) := rfl
theorem c_193_9 : mLk 193 9 = some (.iload_n 3, 1) := rfl
theorem c_193_10 : mLk 193 10 = some (.if_icmp .eq 15, 3) := rfl
theorem c_193_13 : mLk 193 13 = some (.iload_n 2, 1) := rfl
theorem c_193_14 : mLk 193 14 = some (.iload 4, 2) := rfl
theorem c_193_16 : mLk 193 16 = some (.if_icmp .eq 9, 3) := rfl
theorem c_193_19 : mLk 193 19 = some (.iload_n 3, 1) := rfl
theorem c_193_20 : mLk 193 20 = some (.iload 4, 2) := rfl
theorem c_193_22 : mLk 193 22 = some (.if_icmp .ne 5, 3) := rfl
theorem c_193_27 : mLk 193 27 = some (.aload_n 0, 1) := rfl
theorem c_193_28 : mLk 193 28 = some (.iload_n 1, 1) := rfl
theorem c_193_29 : mLk 193 29 = some (.iload_n 2, 1) := rfl
theorem c_193_30 : mLk 193 30 = some (.invokevirtual 366, 3) := rfl
theorem c_193_33 : mLk 193 33 = some (.istore 5, 2) := rfl
theorem c_193_35 : mLk 193 35 = some (.aload_n 0, 1) := rfl
theorem c_193_36 : mLk 193 36 = some (.iload_n 3, 1) := rfl
theorem c_193_37 : mLk 193 37 = some (.invokevirtual 343, 3) := rfl
theorem c_193_40 : mLk 193 40 = some (.iload 5, 2) := rfl
theorem c_193_43 : mLk 193 43 = some (.sipush 9999, 3) := rfl
theorem c_193_46 : mLk 193 46 = some (.if_icmp .gt 24, 3) := rfl
theorem c_193_70 : mLk 193 70 = some (.iconst 0, 1) := rfl
theorem c_193_71 : mLk 193 71 = some (.ireturn, 1) := rfl
theorem c_193_49 : mLk 193 49 = some (.aload_n 0, 1) := rfl
theorem c_193_50 : mLk 193 50 = some (.iload 4, 2) := rfl
theorem c_193_52 : mLk 193 52 = some (.invokevirtual 343, 3) := rfl
theorem c_193_55 : mLk 193 55 = some (.aload_n 0, 1) := rfl
theorem c_193_56 : mLk 193 56 = some (.iload_n 2, 1) := rfl
theorem c_193_57 : mLk 193 57 = some (.invokevirtual 343, 3) := rfl
theorem c_193_60 : mLk 193 60 = some (.iadd, 1) := rfl
theorem c_193_61 : mLk 193 61 = some (.iload 5, 2) := rfl
theorem c_193_64 : mLk 193 64 = some (.sipush 9999, 3) := rfl
theorem c_193_67 : mLk 193 67 = some (.if_icmp .le 5, 3) := rfl
theorem c_193_72 : mLk 193 72 = some (.iconst 0, 1) := rfl
theorem c_193_73 : mLk 193 73 = some (.istore 6, 2) := rfl
theorem km_8_366 : a_lk (kM 8) 366 = some (0, 190) := rfl
theorem km_8_369 : a_lk (kM 8) 369 = some (0, 191) := rfl
theorem km_8_372 : a_lk (kM 8) 372 = some (0, 192) := rfl
set_option maxRecDepth 100000 in
set_option maxHeartbeats 4000000 in
theorem s_193_3 {sc : List Int32} {d P Q : Nat} {c : ME} {v1 v2 x0 x1 x2 x3 u0 u1 u2 u3 w0 w1 w2 w3 : Int} {a1 : Int} {a2 : Int} {a3 : Int} {a4 : Int} {a5 : Int} {Z : AR → Prop} (hI : Iv 59 (-1) P Q c) (ha1 : 0 ≤ a1 ∧ a1 ≤ 3) (ha2 : 0 ≤ a2 ∧ a2 ≤ 5) (ha3 : 0 ≤ a3 ∧ a3 ≤ 5) (ha4 : 0 ≤ a4 ∧ a4 ≤ 5) (ha5 : (-2147483648) ≤ a5 ∧ a5 ≤ 2147483647) (hq0 : (a2 < a3) ∨ (a2 > a3)) (hq1 : (a2 < a4) ∨ (a2 > a4)) (hq2 : (a3 < a4) ∨ (a3 > a4)) (hq3 : ((fal v1 (v2) 3 x3) + u0 + u1 + u2 + u3 ≤ 9999)) (hq4 : (w0 + w1 + w2 + w3 + x3 - (fal v1 (v2) 3 x3) ≤ 9999)) (hq5 : (x0 + x1 + x2 + x3 ≤ 9999)) (hq6 : ∀ j : Int, rs 59 j → ¬ j = 4 * a2 → ¬ j = 4 * a3 → ¬ j = 4 * a4 → c 59 j + c 59 (j + 1) + c 59 (j + 2) + c 59 (j + 3) ≤ 9999) (hv0 : c 49 a1 = v1) (hv1 : c 59 (a1 + 30) = v2) (hv2 : c 59 (4 * a2) = x0) (hv3 : c 59 (4 * a2 + 1) = x1) (hv4 : c 59 (4 * a2 + 2) = x2) (hv5 : c 59 (4 * a2 + 3) = x3) (hv6 : c 59 (4 * a3) = u0) (hv7 : c 59 (4 * a3 + 1) = u1) (hv8 : c 59 (4 * a3 + 2) = u2) (hv9 : c 59 (4 * a3 + 3) = u3) (hv10 : c 59 (4 * a4) = w0) (hv11 : c 59 (4 * a4 + 1) = w1) (hv12 : c 59 (4 * a4 + 2) = w2) (hv13 : c 59 (4 * a4 + 3) = w3) (K : ∀ (c2 : ME) (y : Int), Iv 0 (-1) P Q c2 → (∀ (a : Nat) (j : Int), ¬ (a = 59) → c2 a j = c a j) → 0 ≤ y ∧ y ≤ 1 → Z (.inl (some (vi y)), Wd P Q P P c2, 0, 0)) : Wp sc (d + 9) 193 75 [(0, .ref 41), (1, vi a1), (2, vi a2), (3, vi a3), (4, vi a4), (5, vi a5), (6, vi 3)] [] (Wd P Q P P c) 0 0 Z := by
  have hP := iv_P hI
  have hQ := iv_Q hI
  have h_1 := ir_49 hI a1
  have h_2 := ir_59 hI (a1 + 30)
  have h_3 := ir_59_g hI (j := 4 * a2) ((q_9f1d5ffdc ha2))
  have h_4 := ir_59_g hI (j := 4 * a2 + 1) ((q_0a2ee6f8f ha2))
  have h_5 := ir_59_g hI (j := 4 * a2 + 2) ((q_e07a293a2 ha2))
  have h_6 := ir_59_g hI (j := 4 * a2 + 3) ((q_d09cb0b73 ha2))
  have h_7 := ir_59_g hI (j := 4 * a3) ((q_9f1d5ffdc ha3))
  have h_8 := ir_59_g hI (j := 4 * a3 + 1) ((q_0a2ee6f8f ha3))
  have h_9 := ir_59_g hI (j := 4 * a3 + 2) ((q_e07a293a2 ha3))
  have h_10 := ir_59_g hI (j := 4 * a3 + 3) ((q_d09cb0b73 ha3))
  have h_11 := ir_59_g hI (j := 4 * a4) ((q_9f1d5ffdc ha4))
  have h_12 := ir_59_g hI (j := 4 * a4 + 1) ((q_0a2ee6f8f ha4))
  have h_13 := ir_59_g hI (j := 4 * a4 + 2) ((q_e07a293a2 ha4))
  have h_14 := ir_59_g hI (j := 4 * a4 + 3) ((q_d09cb0b73 ha4))
  have hqo := hq6
  have h_15 := fal_rng (m := v1) (t := v2) (g := 3) (x := x3) (by omega)
  refine q_iload c_193_75 rfl (q_iconst c_193_77 (v_ic_ge_f (t := 142) c_193_78 rfl (of_decide_eq_true rfl) (q_aload_n c_193_81 rfl (q_iload_n c_193_82 rfl (q_iload_n c_193_83 rfl (q_iload c_193_84 rfl (v_cv c_193_86 km_8_363 rfl rfl (Nat.le_of_ble_eq_true rfl) ⟨⟨rfl, rfl⟩, Nat.le_of_ble_eq_true rfl, rfl⟩ (Nat.le_of_ble_eq_true rfl) (Nat.le_of_ble_eq_true rfl) (s_189 (v1 := v1) (v2 := v2) (v3 := x3) (r := (fal v1 (v2) 3 x3)) (a1 := a1) (a2 := a2) (a3 := 3) hI (show 0 ≤ a1 ∧ a1 ≤ 3 from ha1) (show 0 ≤ a2 ∧ a2 ≤ 5 from ha2) (show 0 ≤ 3 ∧ 3 ≤ 3 from ⟨of_decide_eq_true rfl, of_decide_eq_true rfl⟩) ((hv0)) ((hv1)) ((hv5)) rfl ?_))))))))
  refine bk_inl (q_istore c_193_89 (Nat.le_of_ble_eq_true rfl) (q_aload_n c_193_91 rfl (v_gr (t := 59) c_193_92 kf_8_68 rfl (Nat.le_of_ble_eq_true rfl) rfl (q_iconst c_193_95 (q_iload_n c_193_96 rfl (v_imul (v := 4 * a3) c_193_97 rfl (q_iload c_193_98 rfl ?_)))))))
  refine v_iadd (v := 4 * a3 + 3) c_193_100 rfl (q_dup2 c_193_101 ⟨rfl, rfl⟩ (v_ia (v := u3) c_193_102 rfl (of_decide_eq_true rfl) (of_decide_eq_true rfl) ⟨(q_f6be69137 ha3), (q_6b2d832d4 ha3)⟩ (hv9) (q_iload c_193_103 rfl (v_iadd (v := (fal v1 (v2) 3 x3) + u3) c_193_105 (by first | (clear ha1 ha2 ha3 ha4 ha5 hq3 hq4 hq5 h_1 hv0 h_2 hv1 h_3 hv2 h_4 hv3 h_5 hv4 h_6 hv5 h_7 hv6 h_8 hv7 h_9 hv8 h_10 hv9 h_11 hv10 h_12 hv11 h_13 hv12 h_14 hv13 h_15 hq0 hq1 hq2; omega) | omega) (v_is c_193_106 rfl (of_decide_eq_true rfl) (of_decide_eq_true rfl) ⟨(q_f6be69137 ha3), (q_6b2d832d4 ha3)⟩ (q_aload_n c_193_107 rfl (v_gr (t := 59) c_193_108 kf_8_68 rfl (Nat.le_of_ble_eq_true rfl) rfl ?_)))))))
  refine q_iconst c_193_111 (q_iload c_193_112 rfl (v_imul (v := 4 * a4) c_193_114 rfl (q_iload c_193_115 rfl (v_iadd (v := 4 * a4 + 3) c_193_117 rfl (q_dup2 c_193_118 ⟨rfl, rfl⟩ (v_ia (v := w3) c_193_119 rfl (of_decide_eq_true rfl) (of_decide_eq_true rfl) ⟨(q_f6be69137 ha4), (q_6b2d832d4 ha4)⟩ ((up_n ((q_ca906b5de hq2))).trans (hv13)) (q_aload_n c_193_120 rfl ?_)))))))
  refine v_gr (t := 59) c_193_121 kf_8_68 rfl (Nat.le_of_ble_eq_true rfl) rfl (q_iconst c_193_124 (q_iload_n c_193_125 rfl (v_imul (v := 4 * a2) c_193_126 rfl (q_iload c_193_127 rfl (v_iadd (v := 4 * a2 + 3) c_193_129 rfl (v_ia (v := x3) c_193_130 rfl (of_decide_eq_true rfl) (of_decide_eq_true rfl) ⟨(q_f6be69137 ha2), (q_6b2d832d4 ha2)⟩ ((up_n ((q_a8d3e8094 hq0))).trans (hv5)) (q_iload c_193_131 rfl ?_)))))))
  refine v_isub (v := x3 - (fal v1 (v2) 3 x3)) c_193_133 rfl (v_iadd (v := w3 + x3 - (fal v1 (v2) 3 x3)) c_193_134 (by first | (clear ha1 ha2 ha3 ha4 ha5 hq3 hq4 hq5 h_1 hv0 h_2 hv1 h_3 hv2 h_4 hv3 h_5 hv4 h_6 hv5 h_7 hv6 h_8 hv7 h_9 hv8 h_10 hv9 h_11 hv10 h_12 hv11 h_13 hv12 h_14 hv13 h_15 hq0 hq1 hq2; omega) | omega) (v_is c_193_135 rfl (of_decide_eq_true rfl) (of_decide_eq_true rfl) ⟨(q_f6be69137 ha4), (q_6b2d832d4 ha4)⟩ (v_iinc (v := 4) c_193_136 rfl (Nat.le_of_ble_eq_true rfl) (of_decide_eq_true rfl) (q_goto (t := 75) c_193_139 rfl (q_iload c_193_75 rfl (q_iconst c_193_77 (v_ic_ge_t (t := 142) c_193_78 rfl (of_decide_eq_true rfl) ?_)))))))
  refine q_iload c_193_142 rfl ?_
  by_cases h_16 : a5 ≤ 0
  · refine v_if_le_t (t := 161) c_193_144 rfl ⟨ha5.1, h_16, of_decide_eq_true rfl⟩ (q_iload c_193_161 rfl (q_aload_n c_193_163 rfl (q_iload_n c_193_164 rfl ?_)))
    have hI_17 := iw_row (a := 59) (j := 4 * a3 + 3) (v := (fal v1 (v2) 3 x3) + u3) hI (by omega) (Or.inl rfl) ⟨by omega, by omega, by omega⟩
    have hI_18 := iw_row (a := 59) (j := 4 * a4 + 3) (v := w3 + x3 - (fal v1 (v2) 3 x3)) hI_17 (by omega) (Or.inl rfl) ⟨by omega, by omega, by omega⟩
    refine v_cv c_193_165 km_8_343 rfl rfl (Nat.le_of_ble_eq_true rfl) ⟨⟨rfl, rfl⟩, Nat.le_of_ble_eq_true rfl, rfl⟩ (Nat.le_of_ble_eq_true rfl) (Nat.le_of_ble_eq_true rfl) (s_187 (v1 := x0) (v2 := x1) (v3 := x2) (v4 := x3) (r := x0 + x1 + x2 + x3) (a1 := a2) hI_18 (show 0 ≤ a2 ∧ a2 ≤ 5 from ha2) (((up_n ((q_8ac71c5f3))).trans ((up_n ((q_8ac71c5f3))).trans (hv2)))) (((up_n ((q_7c6b1b09a))).trans ((up_n ((q_7c6b1b09a))).trans (hv3)))) (((up_n ((q_91c5bd343))).trans ((up_n ((q_91c5bd343))).trans (hv4)))) (((up_n ((q_a8d3e8094 hq1))).trans ((up_n ((q_a8d3e8094 hq0))).trans (hv5)))) (by omega) (bk_inl ?_))
    by_cases h_19 : a5 ≥ x0 + x1 + x2 + x3
    · refine v_ic_ge_t (t := 186) c_193_168 rfl ⟨by first | (clear ha1 ha2 ha3 ha4 ha5 hq3 hq4 hq5 h_1 hv0 h_2 hv1 h_7 hv6 h_8 hv7 h_9 hv8 h_10 hv9 h_11 hv10 h_12 hv11 h_13 hv12 h_14 hv13 h_15 h_16 hq0 hq1 hq2; omega) | omega, h_19, ha5.2⟩ (q_aload_n c_193_186 rfl (q_iload_n c_193_187 rfl (v_cv c_193_188 km_8_372 rfl rfl (Nat.le_of_ble_eq_true rfl) ⟨⟨rfl, rfl⟩, Nat.le_of_ble_eq_true rfl, rfl⟩ (Nat.le_of_ble_eq_true rfl) (Nat.le_of_ble_eq_true rfl) (s_192 (a1 := a2) hI_18 (show 0 ≤ a2 ∧ a2 ≤ 5 from ha2) (fun c_20 hI_21 hF_22 h_23 => (bk_inl ?_))))))
      have h_24 := ir_59_g hI_21 (j := 4 * a2 + 1) ((q_0a2ee6f8f ha2))
      have h_25 := ir_59_g hI_21 (j := 4 * a2 + 2) ((q_e07a293a2 ha2))
      have h_26 := ir_59_g hI_21 (j := 4 * a2 + 3) ((q_d09cb0b73 ha2))
      have h_27 := ir_59_g hI_21 (j := 4 * a2) ((q_9f1d5ffdc ha2))
      refine q_iconst c_193_191 (v_zret c_193_192 rfl (of_decide_eq_true rfl) ?_)
      have hr_28 : ∀ j : Int, rs 59 j → c_20 59 j + c_20 59 (j + 1) + c_20 59 (j + 2) + c_20 59 (j + 3) ≤ 9999 := by
        intro j9 hj9
        obtain ⟨k9, rfl, hk9⟩ := rs_59 hj9
        by_cases e_29 : k9 = a2
        · skip
          have h_30 : c_20 59 (4 * k9) = c_20 59 (4 * a2) := (congrArg (c_20 59) (show 4 * k9 = 4 * a2 from by first | assumption | exact Int.le_antisymm (by omega) (by omega)))
          have h_31 : c_20 59 (4 * k9 + 1) = c_20 59 (4 * a2 + 1) := (congrArg (c_20 59) (show 4 * k9 + 1 = 4 * a2 + 1 from by first | assumption | exact Int.le_antisymm (by omega) (by omega)))
          have h_32 : c_20 59 (4 * k9 + 2) = c_20 59 (4 * a2 + 2) := (congrArg (c_20 59) (show 4 * k9 + 2 = 4 * a2 + 2 from by first | assumption | exact Int.le_antisymm (by omega) (by omega)))
          have h_33 : c_20 59 (4 * k9 + 3) = c_20 59 (4 * a2 + 3) := (congrArg (c_20 59) (show 4 * k9 + 3 = 4 * a2 + 3 from by first | assumption | exact Int.le_antisymm (by omega) (by omega)))
          omega
        by_cases e_34 : k9 = a3
        · skip
          have kn_35 : Hid (c_20 59 (4 * a3) = u0) := (hF_22 59 (4 * a3) (fun q => q.elim (fun h => absurd h.2 ((q_b46fb41fd hq0))) (fun q => q.elim (fun h => absurd h.2 ((q_b2cb8bf87))) (fun q => q.elim (fun h => absurd h.2 ((q_c037f51da))) (fun q => q.elim (fun h => absurd h.2 ((q_8ac71c5f3))) (fun h => absurd h.2 (ne_l ((q_4128697c9 ha2 ha3))))))))).trans ((up_n ((q_8ac71c5f3))).trans ((up_n ((ne_0a (ni rfl)))).trans (hv6)))
          have h_36 : c_20 59 (4 * k9) = u0 := (congrArg (c_20 59) (show 4 * k9 = 4 * a3 from by first | assumption | exact Int.le_antisymm (by omega) (by omega))).trans (hid kn_35)
          have kn_37 : Hid (c_20 59 (4 * a3 + 1) = u1) := (hF_22 59 (4 * a3 + 1) (fun q => q.elim (fun h => absurd h.2 ((q_e5bcc673e))) (fun q => q.elim (fun h => absurd h.2 ((q_0f4cbf258 hq0))) (fun q => q.elim (fun h => absurd h.2 ((q_3650b790c))) (fun q => q.elim (fun h => absurd h.2 ((q_7c6b1b09a))) (fun h => absurd h.2 (ne_l ((q_8f2481ba6 ha2 ha3))))))))).trans ((up_n ((q_7c6b1b09a))).trans ((up_n ((ne_aa (ni rfl)))).trans (hv7)))
          have h_38 : c_20 59 (4 * k9 + 1) = u1 := (congrArg (c_20 59) (show 4 * k9 + 1 = 4 * a3 + 1 from by first | assumption | exact Int.le_antisymm (by omega) (by omega))).trans (hid kn_37)
          have kn_39 : Hid (c_20 59 (4 * a3 + 2) = u2) := (hF_22 59 (4 * a3 + 2) (fun q => q.elim (fun h => absurd h.2 ((q_ae83e86ba))) (fun q => q.elim (fun h => absurd h.2 ((q_08c3d7060))) (fun q => q.elim (fun h => absurd h.2 ((q_28bc460e3 hq0))) (fun q => q.elim (fun h => absurd h.2 ((q_91c5bd343))) (fun h => absurd h.2 (ne_l ((q_04ab4010a ha2 ha3))))))))).trans ((up_n ((q_91c5bd343))).trans ((up_n ((ne_aa (ni rfl)))).trans (hv8)))
          have h_40 : c_20 59 (4 * k9 + 2) = u2 := (congrArg (c_20 59) (show 4 * k9 + 2 = 4 * a3 + 2 from by first | assumption | exact Int.le_antisymm (by omega) (by omega))).trans (hid kn_39)
          have kn_41 : Hid (c_20 59 (4 * a3 + 3) = (fal v1 (v2) 3 x3) + u3) := (hF_22 59 (4 * a3 + 3) (fun q => q.elim (fun h => absurd h.2 ((q_b6789388a))) (fun q => q.elim (fun h => absurd h.2 ((q_6d5c6886e))) (fun q => q.elim (fun h => absurd h.2 ((q_28d70e8e5))) (fun q => q.elim (fun h => absurd h.2 ((q_ca906b5de hq0))) (fun h => absurd h.2 (ne_l ((q_e782b8c3c ha2 ha3))))))))).trans ((up_n ((q_a8d3e8094 hq2))).trans (up_e rfl))
          have h_42 : c_20 59 (4 * k9 + 3) = (fal v1 (v2) 3 x3) + u3 := (congrArg (c_20 59) (show 4 * k9 + 3 = 4 * a3 + 3 from by first | assumption | exact Int.le_antisymm (by omega) (by omega))).trans (hid kn_41)
          omega
        by_cases e_43 : k9 = a4
        · skip
          have kn_44 : Hid (c_20 59 (4 * a4) = w0) := (hF_22 59 (4 * a4) (fun q => q.elim (fun h => absurd h.2 ((q_b46fb41fd hq1))) (fun q => q.elim (fun h => absurd h.2 ((q_b2cb8bf87))) (fun q => q.elim (fun h => absurd h.2 ((q_c037f51da))) (fun q => q.elim (fun h => absurd h.2 ((q_8ac71c5f3))) (fun h => absurd h.2 (ne_l ((q_4128697c9 ha2 ha4))))))))).trans ((up_n ((ne_0a (ni rfl)))).trans ((up_n ((q_8ac71c5f3))).trans (hv10)))
          have h_45 : c_20 59 (4 * k9) = w0 := (congrArg (c_20 59) (show 4 * k9 = 4 * a4 from by first | assumption | exact Int.le_antisymm (by omega) (by omega))).trans (hid kn_44)
          have kn_46 : Hid (c_20 59 (4 * a4 + 1) = w1) := (hF_22 59 (4 * a4 + 1) (fun q => q.elim (fun h => absurd h.2 ((q_e5bcc673e))) (fun q => q.elim (fun h => absurd h.2 ((q_0f4cbf258 hq1))) (fun q => q.elim (fun h => absurd h.2 ((q_3650b790c))) (fun q => q.elim (fun h => absurd h.2 ((q_7c6b1b09a))) (fun h => absurd h.2 (ne_l ((q_8f2481ba6 ha2 ha4))))))))).trans ((up_n ((ne_aa (ni rfl)))).trans ((up_n ((q_7c6b1b09a))).trans (hv11)))
          have h_47 : c_20 59 (4 * k9 + 1) = w1 := (congrArg (c_20 59) (show 4 * k9 + 1 = 4 * a4 + 1 from by first | assumption | exact Int.le_antisymm (by omega) (by omega))).trans (hid kn_46)
          have kn_48 : Hid (c_20 59 (4 * a4 + 2) = w2) := (hF_22 59 (4 * a4 + 2) (fun q => q.elim (fun h => absurd h.2 ((q_ae83e86ba))) (fun q => q.elim (fun h => absurd h.2 ((q_08c3d7060))) (fun q => q.elim (fun h => absurd h.2 ((q_28bc460e3 hq1))) (fun q => q.elim (fun h => absurd h.2 ((q_91c5bd343))) (fun h => absurd h.2 (ne_l ((q_04ab4010a ha2 ha4))))))))).trans ((up_n ((ne_aa (ni rfl)))).trans ((up_n ((q_91c5bd343))).trans (hv12)))
          have h_49 : c_20 59 (4 * k9 + 2) = w2 := (congrArg (c_20 59) (show 4 * k9 + 2 = 4 * a4 + 2 from by first | assumption | exact Int.le_antisymm (by omega) (by omega))).trans (hid kn_48)
          have kn_50 : Hid (c_20 59 (4 * a4 + 3) = w3 + x3 - (fal v1 (v2) 3 x3)) := (hF_22 59 (4 * a4 + 3) (fun q => q.elim (fun h => absurd h.2 ((q_b6789388a))) (fun q => q.elim (fun h => absurd h.2 ((q_6d5c6886e))) (fun q => q.elim (fun h => absurd h.2 ((q_28d70e8e5))) (fun q => q.elim (fun h => absurd h.2 ((q_ca906b5de hq1))) (fun h => absurd h.2 (ne_l ((q_e782b8c3c ha2 ha4))))))))).trans (up_e rfl)
          have h_51 : c_20 59 (4 * k9 + 3) = w3 + x3 - (fal v1 (v2) 3 x3) := (congrArg (c_20 59) (show 4 * k9 + 3 = 4 * a4 + 3 from by first | assumption | exact Int.le_antisymm (by omega) (by omega))).trans (hid kn_50)
          omega
        have h_52 := hqo (4 * k9) hj9 (by omega) (by omega) (by omega)
        have h_53 := ir_59_g hI (j := 4 * k9) ((q_9f1d5ffdc hk9))
        have kn_54 : Hid (c_20 59 (4 * k9) = c 59 (4 * k9)) := (hF_22 59 (4 * k9) (fun q => q.elim (fun h => absurd h.2 ((q_336fb6678 e_29))) (fun q => q.elim (fun h => absurd h.2 ((q_b2cb8bf87))) (fun q => q.elim (fun h => absurd h.2 ((q_c037f51da))) (fun q => q.elim (fun h => absurd h.2 ((q_8ac71c5f3))) (fun h => absurd h.2 (ne_l ((q_4128697c9 ha2 hk9))))))))).trans ((up_n ((q_8ac71c5f3))).trans (up_n ((q_8ac71c5f3))))
        have h_55 : c_20 59 (4 * k9) = c 59 (4 * k9) := (hid kn_54)
        have h_56 := ir_59_g hI (j := 4 * k9 + 1) ((q_0a2ee6f8f hk9))
        have kn_57 : Hid (c_20 59 (4 * k9 + 1) = c 59 (4 * k9 + 1)) := (hF_22 59 (4 * k9 + 1) (fun q => q.elim (fun h => absurd h.2 ((q_e5bcc673e))) (fun q => q.elim (fun h => absurd h.2 ((q_52b51d728 e_29))) (fun q => q.elim (fun h => absurd h.2 ((q_3650b790c))) (fun q => q.elim (fun h => absurd h.2 ((q_7c6b1b09a))) (fun h => absurd h.2 (ne_l ((q_8f2481ba6 ha2 hk9))))))))).trans ((up_n ((q_7c6b1b09a))).trans (up_n ((q_7c6b1b09a))))
        have h_58 : c_20 59 (4 * k9 + 1) = c 59 (4 * k9 + 1) := (hid kn_57)
        have h_59 := ir_59_g hI (j := 4 * k9 + 2) ((q_e07a293a2 hk9))
        have kn_60 : Hid (c_20 59 (4 * k9 + 2) = c 59 (4 * k9 + 2)) := (hF_22 59 (4 * k9 + 2) (fun q => q.elim (fun h => absurd h.2 ((q_ae83e86ba))) (fun q => q.elim (fun h => absurd h.2 ((q_08c3d7060))) (fun q => q.elim (fun h => absurd h.2 ((q_27892e29e e_29))) (fun q => q.elim (fun h => absurd h.2 ((q_91c5bd343))) (fun h => absurd h.2 (ne_l ((q_04ab4010a ha2 hk9))))))))).trans ((up_n ((q_91c5bd343))).trans (up_n ((q_91c5bd343))))
        have h_61 : c_20 59 (4 * k9 + 2) = c 59 (4 * k9 + 2) := (hid kn_60)
        have h_62 := ir_59_g hI (j := 4 * k9 + 3) ((q_d09cb0b73 hk9))
        have kn_63 : Hid (c_20 59 (4 * k9 + 3) = c 59 (4 * k9 + 3)) := (hF_22 59 (4 * k9 + 3) (fun q => q.elim (fun h => absurd h.2 ((q_b6789388a))) (fun q => q.elim (fun h => absurd h.2 ((q_6d5c6886e))) (fun q => q.elim (fun h => absurd h.2 ((q_28d70e8e5))) (fun q => q.elim (fun h => absurd h.2 ((q_2db9f474b e_29))) (fun h => absurd h.2 (ne_l ((q_e782b8c3c ha2 hk9))))))))).trans ((up_n ((q_2db9f474b e_43))).trans (up_n ((q_2db9f474b e_34))))
        have h_64 : c_20 59 (4 * k9 + 3) = c 59 (4 * k9 + 3) := (hid kn_63)
        omega
      have hI_65 := iv_close hI_21 hr_28
      exact K c_20 1 hI_65 (fun a j hm => (hF_22 a j (fun q => q.elim (fun h => hm h.1) (fun q => q.elim (fun h => hm h.1) (fun q => q.elim (fun h => hm h.1) (fun q => q.elim (fun h => hm h.1) (fun h => hm h.1)))))).trans ((up_b (Decidable.or_iff_not_imp_left.mpr (fun h1 h2 => hm (Decidable.not_not.mp h1)))).trans (up_b (Decidable.or_iff_not_imp_left.mpr (fun h1 h2 => hm (Decidable.not_not.mp h1)))))) ⟨of_decide_eq_true rfl, of_decide_eq_true rfl⟩
    · refine v_ic_ge_f (t := 186) c_193_168 rfl ⟨ha5.1, (Int.not_le.mp h_19), (q_a964d3f86 hq5)⟩ (q_aload_n c_193_171 rfl (q_iload c_193_172 rfl (q_aload_n c_193_174 rfl (v_gr (t := 59) c_193_175 kf_8_68 rfl (Nat.le_of_ble_eq_true rfl) rfl (v_bip c_193_178 (of_decide_eq_true rfl) (q_iload_n c_193_180 rfl (v_iadd (v := a2 + 24) c_193_181 (by first | (clear ha1 ha2 ha3 ha4 ha5 hq3 hq4 hq5 h_1 hv0 h_2 hv1 h_3 hv2 h_4 hv3 h_5 hv4 h_6 hv5 h_7 hv6 h_8 hv7 h_9 hv8 h_10 hv9 h_11 hv10 h_12 hv11 h_13 hv12 h_14 hv13 h_15 h_16 h_19 hq0 hq1 hq2; omega) | omega) ?_)))))))
      have h_66 := ir_59 hI (a2 + 24)
      refine v_ia (v := c 59 (a2 + 24)) c_193_182 rfl (of_decide_eq_true rfl) (of_decide_eq_true rfl) ⟨(rgp_l ha2.1 (of_decide_eq_true rfl)), (q_57f615a18 ha2)⟩ ((up_n (ne_g ((q_e782b8c3c ha2 ha4)))).trans (up_n (ne_g ((q_e782b8c3c ha2 ha3))))) (v_cv c_193_183 km_8_369 rfl rfl (Nat.le_of_ble_eq_true rfl) ⟨⟨rfl, rfl⟩, Nat.le_of_ble_eq_true rfl, rfl⟩ (Nat.le_of_ble_eq_true rfl) (Nat.le_of_ble_eq_true rfl) (s_191 (a1 := a4) (a2 := c 59 (a2 + 24)) hI_18 (show 0 ≤ a4 ∧ a4 ≤ 5 from ha4) (show (-2147483648) ≤ c 59 (a2 + 24) ∧ c 59 (a2 + 24) ≤ 2147483647 from h_66) (fun c_67 hI_68 hF_69 => (bk_inl (q_aload_n c_193_186 rfl (q_iload_n c_193_187 rfl (v_cv c_193_188 km_8_372 rfl rfl (Nat.le_of_ble_eq_true rfl) ⟨⟨rfl, rfl⟩, Nat.le_of_ble_eq_true rfl, rfl⟩ (Nat.le_of_ble_eq_true rfl) (Nat.le_of_ble_eq_true rfl) (s_192 (a1 := a2) hI_68 (show 0 ≤ a2 ∧ a2 ≤ 5 from ha2) (fun c_70 hI_71 hF_72 h_73 => (bk_inl ?_))))))))))
      have h_74 := ir_59_g hI_71 (j := 4 * a2 + 1) ((q_0a2ee6f8f ha2))
      have h_75 := ir_59_g hI_71 (j := 4 * a2 + 2) ((q_e07a293a2 ha2))
      have h_76 := ir_59_g hI_71 (j := 4 * a2 + 3) ((q_d09cb0b73 ha2))
      have h_77 := ir_59_g hI_71 (j := 4 * a2) ((q_9f1d5ffdc ha2))
      refine q_iconst c_193_191 (v_zret c_193_192 rfl (of_decide_eq_true rfl) ?_)
      have hr_78 : ∀ j : Int, rs 59 j → c_70 59 j + c_70 59 (j + 1) + c_70 59 (j + 2) + c_70 59 (j + 3) ≤ 9999 := by
        intro j9 hj9
        obtain ⟨k9, rfl, hk9⟩ := rs_59 hj9
        by_cases e_79 : k9 = a2
        · skip
          have h_80 : c_70 59 (4 * k9) = c_70 59 (4 * a2) := (congrArg (c_70 59) (show 4 * k9 = 4 * a2 from by first | assumption | exact Int.le_antisymm (by omega) (by omega)))
          have h_81 : c_70 59 (4 * k9 + 1) = c_70 59 (4 * a2 + 1) := (congrArg (c_70 59) (show 4 * k9 + 1 = 4 * a2 + 1 from by first | assumption | exact Int.le_antisymm (by omega) (by omega)))
          have h_82 : c_70 59 (4 * k9 + 2) = c_70 59 (4 * a2 + 2) := (congrArg (c_70 59) (show 4 * k9 + 2 = 4 * a2 + 2 from by first | assumption | exact Int.le_antisymm (by omega) (by omega)))
          have h_83 : c_70 59 (4 * k9 + 3) = c_70 59 (4 * a2 + 3) := (congrArg (c_70 59) (show 4 * k9 + 3 = 4 * a2 + 3 from by first | assumption | exact Int.le_antisymm (by omega) (by omega)))
          omega
        by_cases e_84 : k9 = a3
        · skip
          have kn_85 : Hid (c_67 59 (4 * a3) = u0) := (hF_69 59 (4 * a3) (fun h => absurd h.2 (ne_l ((q_2b13428e8 ha3 ha4))))).trans ((up_n ((q_8ac71c5f3))).trans ((up_n ((ne_0a (ni rfl)))).trans (hv6)))
          have kn_86 : Hid (c_70 59 (4 * a3) = u0) := (hF_72 59 (4 * a3) (fun q => q.elim (fun h => absurd h.2 ((q_b46fb41fd hq0))) (fun q => q.elim (fun h => absurd h.2 ((q_b2cb8bf87))) (fun q => q.elim (fun h => absurd h.2 ((q_c037f51da))) (fun q => q.elim (fun h => absurd h.2 ((q_8ac71c5f3))) (fun h => absurd h.2 (ne_l ((q_4128697c9 ha2 ha3))))))))).trans (hid kn_85)
          have h_87 : c_70 59 (4 * k9) = u0 := (congrArg (c_70 59) (show 4 * k9 = 4 * a3 from by first | assumption | exact Int.le_antisymm (by omega) (by omega))).trans (hid kn_86)
          have kn_88 : Hid (c_67 59 (4 * a3 + 1) = u1) := (hF_69 59 (4 * a3 + 1) (fun h => absurd h.2 (ne_l ((q_3178328df ha3 ha4))))).trans ((up_n ((q_7c6b1b09a))).trans ((up_n ((ne_aa (ni rfl)))).trans (hv7)))
          have kn_89 : Hid (c_70 59 (4 * a3 + 1) = u1) := (hF_72 59 (4 * a3 + 1) (fun q => q.elim (fun h => absurd h.2 ((q_e5bcc673e))) (fun q => q.elim (fun h => absurd h.2 ((q_0f4cbf258 hq0))) (fun q => q.elim (fun h => absurd h.2 ((q_3650b790c))) (fun q => q.elim (fun h => absurd h.2 ((q_7c6b1b09a))) (fun h => absurd h.2 (ne_l ((q_8f2481ba6 ha2 ha3))))))))).trans (hid kn_88)
          have h_90 : c_70 59 (4 * k9 + 1) = u1 := (congrArg (c_70 59) (show 4 * k9 + 1 = 4 * a3 + 1 from by first | assumption | exact Int.le_antisymm (by omega) (by omega))).trans (hid kn_89)
          have kn_91 : Hid (c_67 59 (4 * a3 + 2) = u2) := (hF_69 59 (4 * a3 + 2) (fun h => absurd h.2 (ne_l ((q_428481d46 ha3 ha4))))).trans ((up_n ((q_91c5bd343))).trans ((up_n ((ne_aa (ni rfl)))).trans (hv8)))
          have kn_92 : Hid (c_70 59 (4 * a3 + 2) = u2) := (hF_72 59 (4 * a3 + 2) (fun q => q.elim (fun h => absurd h.2 ((q_ae83e86ba))) (fun q => q.elim (fun h => absurd h.2 ((q_08c3d7060))) (fun q => q.elim (fun h => absurd h.2 ((q_28bc460e3 hq0))) (fun q => q.elim (fun h => absurd h.2 ((q_91c5bd343))) (fun h => absurd h.2 (ne_l ((q_04ab4010a ha2 ha3))))))))).trans (hid kn_91)
          have h_93 : c_70 59 (4 * k9 + 2) = u2 := (congrArg (c_70 59) (show 4 * k9 + 2 = 4 * a3 + 2 from by first | assumption | exact Int.le_antisymm (by omega) (by omega))).trans (hid kn_92)
          have kn_94 : Hid (c_67 59 (4 * a3 + 3) = (fal v1 (v2) 3 x3) + u3) := (hF_69 59 (4 * a3 + 3) (fun h => absurd h.2 (ne_l ((q_2771393a8 ha3 ha4))))).trans ((up_n ((q_a8d3e8094 hq2))).trans (up_e rfl))
          have kn_95 : Hid (c_70 59 (4 * a3 + 3) = (fal v1 (v2) 3 x3) + u3) := (hF_72 59 (4 * a3 + 3) (fun q => q.elim (fun h => absurd h.2 ((q_b6789388a))) (fun q => q.elim (fun h => absurd h.2 ((q_6d5c6886e))) (fun q => q.elim (fun h => absurd h.2 ((q_28d70e8e5))) (fun q => q.elim (fun h => absurd h.2 ((q_ca906b5de hq0))) (fun h => absurd h.2 (ne_l ((q_e782b8c3c ha2 ha3))))))))).trans (hid kn_94)
          have h_96 : c_70 59 (4 * k9 + 3) = (fal v1 (v2) 3 x3) + u3 := (congrArg (c_70 59) (show 4 * k9 + 3 = 4 * a3 + 3 from by first | assumption | exact Int.le_antisymm (by omega) (by omega))).trans (hid kn_95)
          omega
        by_cases e_97 : k9 = a4
        · skip
          have kn_98 : Hid (c_67 59 (4 * a4) = w0) := (hF_69 59 (4 * a4) (fun h => absurd h.2 (ne_l ((q_788f4b81f ha4))))).trans ((up_n ((ne_0a (ni rfl)))).trans ((up_n ((q_8ac71c5f3))).trans (hv10)))
          have kn_99 : Hid (c_70 59 (4 * a4) = w0) := (hF_72 59 (4 * a4) (fun q => q.elim (fun h => absurd h.2 ((q_b46fb41fd hq1))) (fun q => q.elim (fun h => absurd h.2 ((q_b2cb8bf87))) (fun q => q.elim (fun h => absurd h.2 ((q_c037f51da))) (fun q => q.elim (fun h => absurd h.2 ((q_8ac71c5f3))) (fun h => absurd h.2 (ne_l ((q_4128697c9 ha2 ha4))))))))).trans (hid kn_98)
          have h_100 : c_70 59 (4 * k9) = w0 := (congrArg (c_70 59) (show 4 * k9 = 4 * a4 from by first | assumption | exact Int.le_antisymm (by omega) (by omega))).trans (hid kn_99)
          have kn_101 : Hid (c_67 59 (4 * a4 + 1) = w1) := (hF_69 59 (4 * a4 + 1) (fun h => absurd h.2 (ne_l ((q_60c9feeee ha4))))).trans ((up_n ((ne_aa (ni rfl)))).trans ((up_n ((q_7c6b1b09a))).trans (hv11)))
          have kn_102 : Hid (c_70 59 (4 * a4 + 1) = w1) := (hF_72 59 (4 * a4 + 1) (fun q => q.elim (fun h => absurd h.2 ((q_e5bcc673e))) (fun q => q.elim (fun h => absurd h.2 ((q_0f4cbf258 hq1))) (fun q => q.elim (fun h => absurd h.2 ((q_3650b790c))) (fun q => q.elim (fun h => absurd h.2 ((q_7c6b1b09a))) (fun h => absurd h.2 (ne_l ((q_8f2481ba6 ha2 ha4))))))))).trans (hid kn_101)
          have h_103 : c_70 59 (4 * k9 + 1) = w1 := (congrArg (c_70 59) (show 4 * k9 + 1 = 4 * a4 + 1 from by first | assumption | exact Int.le_antisymm (by omega) (by omega))).trans (hid kn_102)
          have kn_104 : Hid (c_67 59 (4 * a4 + 2) = w2) := (hF_69 59 (4 * a4 + 2) (fun h => absurd h.2 (ne_l ((q_27ec1b4d7 ha4))))).trans ((up_n ((ne_aa (ni rfl)))).trans ((up_n ((q_91c5bd343))).trans (hv12)))
          have kn_105 : Hid (c_70 59 (4 * a4 + 2) = w2) := (hF_72 59 (4 * a4 + 2) (fun q => q.elim (fun h => absurd h.2 ((q_ae83e86ba))) (fun q => q.elim (fun h => absurd h.2 ((q_08c3d7060))) (fun q => q.elim (fun h => absurd h.2 ((q_28bc460e3 hq1))) (fun q => q.elim (fun h => absurd h.2 ((q_91c5bd343))) (fun h => absurd h.2 (ne_l ((q_04ab4010a ha2 ha4))))))))).trans (hid kn_104)
          have h_106 : c_70 59 (4 * k9 + 2) = w2 := (congrArg (c_70 59) (show 4 * k9 + 2 = 4 * a4 + 2 from by first | assumption | exact Int.le_antisymm (by omega) (by omega))).trans (hid kn_105)
          have kn_107 : Hid (c_67 59 (4 * a4 + 3) = w3 + x3 - (fal v1 (v2) 3 x3)) := (hF_69 59 (4 * a4 + 3) (fun h => absurd h.2 (ne_l ((q_fd9aac8f8 ha4))))).trans (up_e rfl)
          have kn_108 : Hid (c_70 59 (4 * a4 + 3) = w3 + x3 - (fal v1 (v2) 3 x3)) := (hF_72 59 (4 * a4 + 3) (fun q => q.elim (fun h => absurd h.2 ((q_b6789388a))) (fun q => q.elim (fun h => absurd h.2 ((q_6d5c6886e))) (fun q => q.elim (fun h => absurd h.2 ((q_28d70e8e5))) (fun q => q.elim (fun h => absurd h.2 ((q_ca906b5de hq1))) (fun h => absurd h.2 (ne_l ((q_e782b8c3c ha2 ha4))))))))).trans (hid kn_107)
          have h_109 : c_70 59 (4 * k9 + 3) = w3 + x3 - (fal v1 (v2) 3 x3) := (congrArg (c_70 59) (show 4 * k9 + 3 = 4 * a4 + 3 from by first | assumption | exact Int.le_antisymm (by omega) (by omega))).trans (hid kn_108)
          omega
        have h_110 := hqo (4 * k9) hj9 (by omega) (by omega) (by omega)
        have h_111 := ir_59_g hI (j := 4 * k9) ((q_9f1d5ffdc hk9))
        have kn_112 : Hid (c_67 59 (4 * k9) = c 59 (4 * k9)) := (hF_69 59 (4 * k9) (fun h => absurd h.2 (ne_l ((q_4128697c9 ha4 hk9))))).trans ((up_n ((q_8ac71c5f3))).trans (up_n ((q_8ac71c5f3))))
        have kn_113 : Hid (c_70 59 (4 * k9) = c 59 (4 * k9)) := (hF_72 59 (4 * k9) (fun q => q.elim (fun h => absurd h.2 ((q_336fb6678 e_79))) (fun q => q.elim (fun h => absurd h.2 ((q_b2cb8bf87))) (fun q => q.elim (fun h => absurd h.2 ((q_c037f51da))) (fun q => q.elim (fun h => absurd h.2 ((q_8ac71c5f3))) (fun h => absurd h.2 (ne_l ((q_4128697c9 ha2 hk9))))))))).trans (hid kn_112)
        have h_114 : c_70 59 (4 * k9) = c 59 (4 * k9) := (hid kn_113)
        have h_115 := ir_59_g hI (j := 4 * k9 + 1) ((q_0a2ee6f8f hk9))
        have kn_116 : Hid (c_67 59 (4 * k9 + 1) = c 59 (4 * k9 + 1)) := (hF_69 59 (4 * k9 + 1) (fun h => absurd h.2 (ne_l ((q_8f2481ba6 ha4 hk9))))).trans ((up_n ((q_7c6b1b09a))).trans (up_n ((q_7c6b1b09a))))
        have kn_117 : Hid (c_70 59 (4 * k9 + 1) = c 59 (4 * k9 + 1)) := (hF_72 59 (4 * k9 + 1) (fun q => q.elim (fun h => absurd h.2 ((q_e5bcc673e))) (fun q => q.elim (fun h => absurd h.2 ((q_52b51d728 e_79))) (fun q => q.elim (fun h => absurd h.2 ((q_3650b790c))) (fun q => q.elim (fun h => absurd h.2 ((q_7c6b1b09a))) (fun h => absurd h.2 (ne_l ((q_8f2481ba6 ha2 hk9))))))))).trans (hid kn_116)
        have h_118 : c_70 59 (4 * k9 + 1) = c 59 (4 * k9 + 1) := (hid kn_117)
        have h_119 := ir_59_g hI (j := 4 * k9 + 2) ((q_e07a293a2 hk9))
        have kn_120 : Hid (c_67 59 (4 * k9 + 2) = c 59 (4 * k9 + 2)) := (hF_69 59 (4 * k9 + 2) (fun h => absurd h.2 (ne_l ((q_04ab4010a ha4 hk9))))).trans ((up_n ((q_91c5bd343))).trans (up_n ((q_91c5bd343))))
        have kn_121 : Hid (c_70 59 (4 * k9 + 2) = c 59 (4 * k9 + 2)) := (hF_72 59 (4 * k9 + 2) (fun q => q.elim (fun h => absurd h.2 ((q_ae83e86ba))) (fun q => q.elim (fun h => absurd h.2 ((q_08c3d7060))) (fun q => q.elim (fun h => absurd h.2 ((q_27892e29e e_79))) (fun q => q.elim (fun h => absurd h.2 ((q_91c5bd343))) (fun h => absurd h.2 (ne_l ((q_04ab4010a ha2 hk9))))))))).trans (hid kn_120)
        have h_122 : c_70 59 (4 * k9 + 2) = c 59 (4 * k9 + 2) := (hid kn_121)
        have h_123 := ir_59_g hI (j := 4 * k9 + 3) ((q_d09cb0b73 hk9))
        have kn_124 : Hid (c_67 59 (4 * k9 + 3) = c 59 (4 * k9 + 3)) := (hF_69 59 (4 * k9 + 3) (fun h => absurd h.2 (ne_l ((q_e782b8c3c ha4 hk9))))).trans ((up_n ((q_2db9f474b e_97))).trans (up_n ((q_2db9f474b e_84))))
        have kn_125 : Hid (c_70 59 (4 * k9 + 3) = c 59 (4 * k9 + 3)) := (hF_72 59 (4 * k9 + 3) (fun q => q.elim (fun h => absurd h.2 ((q_b6789388a))) (fun q => q.elim (fun h => absurd h.2 ((q_6d5c6886e))) (fun q => q.elim (fun h => absurd h.2 ((q_28d70e8e5))) (fun q => q.elim (fun h => absurd h.2 ((q_2db9f474b e_79))) (fun h => absurd h.2 (ne_l ((q_e782b8c3c ha2 hk9))))))))).trans (hid kn_124)
        have h_126 : c_70 59 (4 * k9 + 3) = c 59 (4 * k9 + 3) := (hid kn_125)
        omega
      have hI_127 := iv_close hI_71 hr_78
      exact K c_70 1 hI_127 (fun a j hm => (hF_72 a j (fun q => q.elim (fun h => hm h.1) (fun q => q.elim (fun h => hm h.1) (fun q => q.elim (fun h => hm h.1) (fun q => q.elim (fun h => hm h.1) (fun h => hm h.1)))))).trans ((hF_69 a j (fun h => hm h.1)).trans ((up_b (Decidable.or_iff_not_imp_left.mpr (fun h1 h2 => hm (Decidable.not_not.mp h1)))).trans (up_b (Decidable.or_iff_not_imp_left.mpr (fun h1 h2 => hm (Decidable.not_not.mp h1))))))) ⟨of_decide_eq_true rfl, of_decide_eq_true rfl⟩
  · refine v_if_le_f (t := 161) c_193_144 rfl ⟨of_decide_eq_true rfl, (Int.not_le.mp h_16), ha5.2⟩ (q_aload_n c_193_147 rfl (q_iload_n c_193_148 rfl (q_aload_n c_193_149 rfl (v_gr (t := 59) c_193_150 kf_8_68 rfl (Nat.le_of_ble_eq_true rfl) rfl (v_bip c_193_153 (of_decide_eq_true rfl) (q_iload_n c_193_155 rfl (v_iadd (v := a2 + 24) c_193_156 (by first | (clear ha1 ha2 ha3 ha4 ha5 hq3 hq4 hq5 h_1 hv0 h_2 hv1 h_3 hv2 h_4 hv3 h_5 hv4 h_6 hv5 h_7 hv6 h_8 hv7 h_9 hv8 h_10 hv9 h_11 hv10 h_12 hv11 h_13 hv12 h_14 hv13 h_15 h_16 hq0 hq1 hq2; omega) | omega) ?_)))))))
    have h_128 := ir_59 hI (a2 + 24)
    refine v_ia (v := c 59 (a2 + 24)) c_193_157 rfl (of_decide_eq_true rfl) (of_decide_eq_true rfl) ⟨(rgp_l ha2.1 (of_decide_eq_true rfl)), (q_57f615a18 ha2)⟩ ((up_n (ne_g ((q_e782b8c3c ha2 ha4)))).trans (up_n (ne_g ((q_e782b8c3c ha2 ha3))))) ?_
    have hI_129 := iw_row (a := 59) (j := 4 * a3 + 3) (v := (fal v1 (v2) 3 x3) + u3) hI (by omega) (Or.inl rfl) ⟨by omega, by omega, by omega⟩
    have hI_130 := iw_row (a := 59) (j := 4 * a4 + 3) (v := w3 + x3 - (fal v1 (v2) 3 x3)) hI_129 (by omega) (Or.inl rfl) ⟨by omega, by omega, by omega⟩
    refine v_cv c_193_158 km_8_369 rfl rfl (Nat.le_of_ble_eq_true rfl) ⟨⟨rfl, rfl⟩, Nat.le_of_ble_eq_true rfl, rfl⟩ (Nat.le_of_ble_eq_true rfl) (Nat.le_of_ble_eq_true rfl) (s_191 (a1 := a3) (a2 := c 59 (a2 + 24)) hI_130 (show 0 ≤ a3 ∧ a3 ≤ 5 from ha3) (show (-2147483648) ≤ c 59 (a2 + 24) ∧ c 59 (a2 + 24) ≤ 2147483647 from h_128) (fun c_131 hI_132 hF_133 => (bk_inl (q_iload c_193_161 rfl (q_aload_n c_193_163 rfl (q_iload_n c_193_164 rfl ?_))))))
    have kn_134 : Hid (c_131 59 (4 * a2) = x0) := (hF_133 59 (4 * a2) (fun h => absurd h.2 (ne_l ((q_2b13428e8 ha2 ha3))))).trans ((up_n ((q_8ac71c5f3))).trans ((up_n ((q_8ac71c5f3))).trans (hv2)))
    have kn_135 : Hid (c_131 59 (4 * a2 + 1) = x1) := (hF_133 59 (4 * a2 + 1) (fun h => absurd h.2 (ne_l ((q_3178328df ha2 ha3))))).trans ((up_n ((q_7c6b1b09a))).trans ((up_n ((q_7c6b1b09a))).trans (hv3)))
    have kn_136 : Hid (c_131 59 (4 * a2 + 2) = x2) := (hF_133 59 (4 * a2 + 2) (fun h => absurd h.2 (ne_l ((q_428481d46 ha2 ha3))))).trans ((up_n ((q_91c5bd343))).trans ((up_n ((q_91c5bd343))).trans (hv4)))
    have kn_137 : Hid (c_131 59 (4 * a2 + 3) = x3) := (hF_133 59 (4 * a2 + 3) (fun h => absurd h.2 (ne_l ((q_2771393a8 ha2 ha3))))).trans ((up_n ((q_a8d3e8094 hq1))).trans ((up_n ((q_a8d3e8094 hq0))).trans (hv5)))
    refine v_cv c_193_165 km_8_343 rfl rfl (Nat.le_of_ble_eq_true rfl) ⟨⟨rfl, rfl⟩, Nat.le_of_ble_eq_true rfl, rfl⟩ (Nat.le_of_ble_eq_true rfl) (Nat.le_of_ble_eq_true rfl) (s_187 (v1 := x0) (v2 := x1) (v3 := x2) (v4 := x3) (r := x0 + x1 + x2 + x3) (a1 := a2) hI_132 (show 0 ≤ a2 ∧ a2 ≤ 5 from ha2) ((hid kn_134)) ((hid kn_135)) ((hid kn_136)) ((hid kn_137)) (by omega) (bk_inl ?_))
    by_cases h_138 : a5 ≥ x0 + x1 + x2 + x3
    · refine v_ic_ge_t (t := 186) c_193_168 rfl ⟨by first | (clear ha1 ha2 ha3 ha4 ha5 hq3 hq4 hq5 h_1 hv0 h_2 hv1 h_7 hv6 h_8 hv7 h_9 hv8 h_10 hv9 h_11 hv10 h_12 hv11 h_13 hv12 h_14 hv13 h_15 h_16 h_128 hq0 hq1 hq2; omega) | omega, h_138, ha5.2⟩ (q_aload_n c_193_186 rfl (q_iload_n c_193_187 rfl (v_cv c_193_188 km_8_372 rfl rfl (Nat.le_of_ble_eq_true rfl) ⟨⟨rfl, rfl⟩, Nat.le_of_ble_eq_true rfl, rfl⟩ (Nat.le_of_ble_eq_true rfl) (Nat.le_of_ble_eq_true rfl) (s_192 (a1 := a2) hI_132 (show 0 ≤ a2 ∧ a2 ≤ 5 from ha2) (fun c_139 hI_140 hF_141 h_142 => (bk_inl ?_))))))
      have h_143 := ir_59_g hI_140 (j := 4 * a2 + 1) ((q_0a2ee6f8f ha2))
      have h_144 := ir_59_g hI_140 (j := 4 * a2 + 2) ((q_e07a293a2 ha2))
      have h_145 := ir_59_g hI_140 (j := 4 * a2 + 3) ((q_d09cb0b73 ha2))
      have h_146 := ir_59_g hI_140 (j := 4 * a2) ((q_9f1d5ffdc ha2))
      refine q_iconst c_193_191 (v_zret c_193_192 rfl (of_decide_eq_true rfl) ?_)
      have hr_147 : ∀ j : Int, rs 59 j → c_139 59 j + c_139 59 (j + 1) + c_139 59 (j + 2) + c_139 59 (j + 3) ≤ 9999 := by
        intro j9 hj9
        obtain ⟨k9, rfl, hk9⟩ := rs_59 hj9
        by_cases e_148 : k9 = a2
        · skip
          have h_149 : c_139 59 (4 * k9) = c_139 59 (4 * a2) := (congrArg (c_139 59) (show 4 * k9 = 4 * a2 from by first | assumption | exact Int.le_antisymm (by omega) (by omega)))
          have h_150 : c_139 59 (4 * k9 + 1) = c_139 59 (4 * a2 + 1) := (congrArg (c_139 59) (show 4 * k9 + 1 = 4 * a2 + 1 from by first | assumption | exact Int.le_antisymm (by omega) (by omega)))
          have h_151 : c_139 59 (4 * k9 + 2) = c_139 59 (4 * a2 + 2) := (congrArg (c_139 59) (show 4 * k9 + 2 = 4 * a2 + 2 from by first | assumption | exact Int.le_antisymm (by omega) (by omega)))
          have h_152 : c_139 59 (4 * k9 + 3) = c_139 59 (4 * a2 + 3) := (congrArg (c_139 59) (show 4 * k9 + 3 = 4 * a2 + 3 from by first | assumption | exact Int.le_antisymm (by omega) (by omega)))
          omega
        by_cases e_153 : k9 = a3
        · skip
          have kn_154 : Hid (c_131 59 (4 * a3) = u0) := (hF_133 59 (4 * a3) (fun h => absurd h.2 (ne_l ((q_788f4b81f ha3))))).trans ((up_n ((q_8ac71c5f3))).trans ((up_n ((ne_0a (ni rfl)))).trans (hv6)))
          have kn_155 : Hid (c_139 59 (4 * a3) = u0) := (hF_141 59 (4 * a3) (fun q => q.elim (fun h => absurd h.2 ((q_b46fb41fd hq0))) (fun q => q.elim (fun h => absurd h.2 ((q_b2cb8bf87))) (fun q => q.elim (fun h => absurd h.2 ((q_c037f51da))) (fun q => q.elim (fun h => absurd h.2 ((q_8ac71c5f3))) (fun h => absurd h.2 (ne_l ((q_4128697c9 ha2 ha3))))))))).trans (hid kn_154)
          have h_156 : c_139 59 (4 * k9) = u0 := (congrArg (c_139 59) (show 4 * k9 = 4 * a3 from by first | assumption | exact Int.le_antisymm (by omega) (by omega))).trans (hid kn_155)
          have kn_157 : Hid (c_131 59 (4 * a3 + 1) = u1) := (hF_133 59 (4 * a3 + 1) (fun h => absurd h.2 (ne_l ((q_60c9feeee ha3))))).trans ((up_n ((q_7c6b1b09a))).trans ((up_n ((ne_aa (ni rfl)))).trans (hv7)))
          have kn_158 : Hid (c_139 59 (4 * a3 + 1) = u1) := (hF_141 59 (4 * a3 + 1) (fun q => q.elim (fun h => absurd h.2 ((q_e5bcc673e))) (fun q => q.elim (fun h => absurd h.2 ((q_0f4cbf258 hq0))) (fun q => q.elim (fun h => absurd h.2 ((q_3650b790c))) (fun q => q.elim (fun h => absurd h.2 ((q_7c6b1b09a))) (fun h => absurd h.2 (ne_l ((q_8f2481ba6 ha2 ha3))))))))).trans (hid kn_157)
          have h_159 : c_139 59 (4 * k9 + 1) = u1 := (congrArg (c_139 59) (show 4 * k9 + 1 = 4 * a3 + 1 from by first | assumption | exact Int.le_antisymm (by omega) (by omega))).trans (hid kn_158)
          have kn_160 : Hid (c_131 59 (4 * a3 + 2) = u2) := (hF_133 59 (4 * a3 + 2) (fun h => absurd h.2 (ne_l ((q_27ec1b4d7 ha3))))).trans ((up_n ((q_91c5bd343))).trans ((up_n ((ne_aa (ni rfl)))).trans (hv8)))
          have kn_161 : Hid (c_139 59 (4 * a3 + 2) = u2) := (hF_141 59 (4 * a3 + 2) (fun q => q.elim (fun h => absurd h.2 ((q_ae83e86ba))) (fun q => q.elim (fun h => absurd h.2 ((q_08c3d7060))) (fun q => q.elim (fun h => absurd h.2 ((q_28bc460e3 hq0))) (fun q => q.elim (fun h => absurd h.2 ((q_91c5bd343))) (fun h => absurd h.2 (ne_l ((q_04ab4010a ha2 ha3))))))))).trans (hid kn_160)
          have h_162 : c_139 59 (4 * k9 + 2) = u2 := (congrArg (c_139 59) (show 4 * k9 + 2 = 4 * a3 + 2 from by first | assumption | exact Int.le_antisymm (by omega) (by omega))).trans (hid kn_161)
          have kn_163 : Hid (c_131 59 (4 * a3 + 3) = (fal v1 (v2) 3 x3) + u3) := (hF_133 59 (4 * a3 + 3) (fun h => absurd h.2 (ne_l ((q_fd9aac8f8 ha3))))).trans ((up_n ((q_a8d3e8094 hq2))).trans (up_e rfl))
          have kn_164 : Hid (c_139 59 (4 * a3 + 3) = (fal v1 (v2) 3 x3) + u3) := (hF_141 59 (4 * a3 + 3) (fun q => q.elim (fun h => absurd h.2 ((q_b6789388a))) (fun q => q.elim (fun h => absurd h.2 ((q_6d5c6886e))) (fun q => q.elim (fun h => absurd h.2 ((q_28d70e8e5))) (fun q => q.elim (fun h => absurd h.2 ((q_ca906b5de hq0))) (fun h => absurd h.2 (ne_l ((q_e782b8c3c ha2 ha3))))))))).trans (hid kn_163)
          have h_165 : c_139 59 (4 * k9 + 3) = (fal v1 (v2) 3 x3) + u3 := (congrArg (c_139 59) (show 4 * k9 + 3 = 4 * a3 + 3 from by first | assumption | exact Int.le_antisymm (by omega) (by omega))).trans (hid kn_164)
          omega
        by_cases e_166 : k9 = a4
        · skip
          have kn_167 : Hid (c_131 59 (4 * a4) = w0) := (hF_133 59 (4 * a4) (fun h => absurd h.2 (ne_l ((q_4128697c9 ha3 ha4))))).trans ((up_n ((ne_0a (ni rfl)))).trans ((up_n ((q_8ac71c5f3))).trans (hv10)))
          have kn_168 : Hid (c_139 59 (4 * a4) = w0) := (hF_141 59 (4 * a4) (fun q => q.elim (fun h => absurd h.2 ((q_b46fb41fd hq1))) (fun q => q.elim (fun h => absurd h.2 ((q_b2cb8bf87))) (fun q => q.elim (fun h => absurd h.2 ((q_c037f51da))) (fun q => q.elim (fun h => absurd h.2 ((q_8ac71c5f3))) (fun h => absurd h.2 (ne_l ((q_4128697c9 ha2 ha4))))))))).trans (hid kn_167)
          have h_169 : c_139 59 (4 * k9) = w0 := (congrArg (c_139 59) (show 4 * k9 = 4 * a4 from by first | assumption | exact Int.le_antisymm (by omega) (by omega))).trans (hid kn_168)
          have kn_170 : Hid (c_131 59 (4 * a4 + 1) = w1) := (hF_133 59 (4 * a4 + 1) (fun h => absurd h.2 (ne_l ((q_8f2481ba6 ha3 ha4))))).trans ((up_n ((ne_aa (ni rfl)))).trans ((up_n ((q_7c6b1b09a))).trans (hv11)))
          have kn_171 : Hid (c_139 59 (4 * a4 + 1) = w1) := (hF_141 59 (4 * a4 + 1) (fun q => q.elim (fun h => absurd h.2 ((q_e5bcc673e))) (fun q => q.elim (fun h => absurd h.2 ((q_0f4cbf258 hq1))) (fun q => q.elim (fun h => absurd h.2 ((q_3650b790c))) (fun q => q.elim (fun h => absurd h.2 ((q_7c6b1b09a))) (fun h => absurd h.2 (ne_l ((q_8f2481ba6 ha2 ha4))))))))).trans (hid kn_170)
          have h_172 : c_139 59 (4 * k9 + 1) = w1 := (congrArg (c_139 59) (show 4 * k9 + 1 = 4 * a4 + 1 from by first | assumption | exact Int.le_antisymm (by omega) (by omega))).trans (hid kn_171)
          have kn_173 : Hid (c_131 59 (4 * a4 + 2) = w2) := (hF_133 59 (4 * a4 + 2) (fun h => absurd h.2 (ne_l ((q_04ab4010a ha3 ha4))))).trans ((up_n ((ne_aa (ni rfl)))).trans ((up_n ((q_91c5bd343))).trans (hv12)))
          have kn_174 : Hid (c_139 59 (4 * a4 + 2) = w2) := (hF_141 59 (4 * a4 + 2) (fun q => q.elim (fun h => absurd h.2 ((q_ae83e86ba))) (fun q => q.elim (fun h => absurd h.2 ((q_08c3d7060))) (fun q => q.elim (fun h => absurd h.2 ((q_28bc460e3 hq1))) (fun q => q.elim (fun h => absurd h.2 ((q_91c5bd343))) (fun h => absurd h.2 (ne_l ((q_04ab4010a ha2 ha4))))))))).trans (hid kn_173)
          have h_175 : c_139 59 (4 * k9 + 2) = w2 := (congrArg (c_139 59) (show 4 * k9 + 2 = 4 * a4 + 2 from by first | assumption | exact Int.le_antisymm (by omega) (by omega))).trans (hid kn_174)
          have kn_176 : Hid (c_131 59 (4 * a4 + 3) = w3 + x3 - (fal v1 (v2) 3 x3)) := (hF_133 59 (4 * a4 + 3) (fun h => absurd h.2 (ne_l ((q_e782b8c3c ha3 ha4))))).trans (up_e rfl)
          have kn_177 : Hid (c_139 59 (4 * a4 + 3) = w3 + x3 - (fal v1 (v2) 3 x3)) := (hF_141 59 (4 * a4 + 3) (fun q => q.elim (fun h => absurd h.2 ((q_b6789388a))) (fun q => q.elim (fun h => absurd h.2 ((q_6d5c6886e))) (fun q => q.elim (fun h => absurd h.2 ((q_28d70e8e5))) (fun q => q.elim (fun h => absurd h.2 ((q_ca906b5de hq1))) (fun h => absurd h.2 (ne_l ((q_e782b8c3c ha2 ha4))))))))).trans (hid kn_176)
          have h_178 : c_139 59 (4 * k9 + 3) = w3 + x3 - (fal v1 (v2) 3 x3) := (congrArg (c_139 59) (show 4 * k9 + 3 = 4 * a4 + 3 from by first | assumption | exact Int.le_antisymm (by omega) (by omega))).trans (hid kn_177)
          omega
        have h_179 := hqo (4 * k9) hj9 (by omega) (by omega) (by omega)
        have h_180 := ir_59_g hI (j := 4 * k9) ((q_9f1d5ffdc hk9))
        have kn_181 : Hid (c_131 59 (4 * k9) = c 59 (4 * k9)) := (hF_133 59 (4 * k9) (fun h => absurd h.2 (ne_l ((q_4128697c9 ha3 hk9))))).trans ((up_n ((q_8ac71c5f3))).trans (up_n ((q_8ac71c5f3))))
        have kn_182 : Hid (c_139 59 (4 * k9) = c 59 (4 * k9)) := (hF_141 59 (4 * k9) (fun q => q.elim (fun h => absurd h.2 ((q_336fb6678 e_148))) (fun q => q.elim (fun h => absurd h.2 ((q_b2cb8bf87))) (fun q => q.elim (fun h => absurd h.2 ((q_c037f51da))) (fun q => q.elim (fun h => absurd h.2 ((q_8ac71c5f3))) (fun h => absurd h.2 (ne_l ((q_4128697c9 ha2 hk9))))))))).trans (hid kn_181)
        have h_183 : c_139 59 (4 * k9) = c 59 (4 * k9) := (hid kn_182)
        have h_184 := ir_59_g hI (j := 4 * k9 + 1) ((q_0a2ee6f8f hk9))
        have kn_185 : Hid (c_131 59 (4 * k9 + 1) = c 59 (4 * k9 + 1)) := (hF_133 59 (4 * k9 + 1) (fun h => absurd h.2 (ne_l ((q_8f2481ba6 ha3 hk9))))).trans ((up_n ((q_7c6b1b09a))).trans (up_n ((q_7c6b1b09a))))
        have kn_186 : Hid (c_139 59 (4 * k9 + 1) = c 59 (4 * k9 + 1)) := (hF_141 59 (4 * k9 + 1) (fun q => q.elim (fun h => absurd h.2 ((q_e5bcc673e))) (fun q => q.elim (fun h => absurd h.2 ((q_52b51d728 e_148))) (fun q => q.elim (fun h => absurd h.2 ((q_3650b790c))) (fun q => q.elim (fun h => absurd h.2 ((q_7c6b1b09a))) (fun h => absurd h.2 (ne_l ((q_8f2481ba6 ha2 hk9))))))))).trans (hid kn_185)
        have h_187 : c_139 59 (4 * k9 + 1) = c 59 (4 * k9 + 1) := (hid kn_186)
        have h_188 := ir_59_g hI (j := 4 * k9 + 2) ((q_e07a293a2 hk9))
        have kn_189 : Hid (c_131 59 (4 * k9 + 2) = c 59 (4 * k9 + 2)) := (hF_133 59 (4 * k9 + 2) (fun h => absurd h.2 (ne_l ((q_04ab4010a ha3 hk9))))).trans ((up_n ((q_91c5bd343))).trans (up_n ((q_91c5bd343))))
        have kn_190 : Hid (c_139 59 (4 * k9 + 2) = c 59 (4 * k9 + 2)) := (hF_141 59 (4 * k9 + 2) (fun q => q.elim (fun h => absurd h.2 ((q_ae83e86ba))) (fun q => q.elim (fun h => absurd h.2 ((q_08c3d7060))) (fun q => q.elim (fun h => absurd h.2 ((q_27892e29e e_148))) (fun q => q.elim (fun h => absurd h.2 ((q_91c5bd343))) (fun h => absurd h.2 (ne_l ((q_04ab4010a ha2 hk9))))))))).trans (hid kn_189)
        have h_191 : c_139 59 (4 * k9 + 2) = c 59 (4 * k9 + 2) := (hid kn_190)
        have h_192 := ir_59_g hI (j := 4 * k9 + 3) ((q_d09cb0b73 hk9))
        have kn_193 : Hid (c_131 59 (4 * k9 + 3) = c 59 (4 * k9 + 3)) := (hF_133 59 (4 * k9 + 3) (fun h => absurd h.2 (ne_l ((q_e782b8c3c ha3 hk9))))).trans ((up_n ((q_2db9f474b e_166))).trans (up_n ((q_2db9f474b e_153))))
        have kn_194 : Hid (c_139 59 (4 * k9 + 3) = c 59 (4 * k9 + 3)) := (hF_141 59 (4 * k9 + 3) (fun q => q.elim (fun h => absurd h.2 ((q_b6789388a))) (fun q => q.elim (fun h => absurd h.2 ((q_6d5c6886e))) (fun q => q.elim (fun h => absurd h.2 ((q_28d70e8e5))) (fun q => q.elim (fun h => absurd h.2 ((q_2db9f474b e_148))) (fun h => absurd h.2 (ne_l ((q_e782b8c3c ha2 hk9))))))))).trans (hid kn_193)
        have h_195 : c_139 59 (4 * k9 + 3) = c 59 (4 * k9 + 3) := (hid kn_194)
        omega
      have hI_196 := iv_close hI_140 hr_147
      exact K c_139 1 hI_196 (fun a j hm => (hF_141 a j (fun q => q.elim (fun h => hm h.1) (fun q => q.elim (fun h => hm h.1) (fun q => q.elim (fun h => hm h.1) (fun q => q.elim (fun h => hm h.1) (fun h => hm h.1)))))).trans ((hF_133 a j (fun h => hm h.1)).trans ((up_b (Decidable.or_iff_not_imp_left.mpr (fun h1 h2 => hm (Decidable.not_not.mp h1)))).trans (up_b (Decidable.or_iff_not_imp_left.mpr (fun h1 h2 => hm (Decidable.not_not.mp h1))))))) ⟨of_decide_eq_true rfl, of_decide_eq_true rfl⟩
    · refine v_ic_ge_f (t := 186) c_193_168 rfl ⟨ha5.1, (Int.not_le.mp h_138), (q_a964d3f86 hq5)⟩ (q_aload_n c_193_171 rfl (q_iload c_193_172 rfl (q_aload_n c_193_174 rfl (v_gr (t := 59) c_193_175 kf_8_68 rfl (Nat.le_of_ble_eq_true rfl) rfl (v_bip c_193_178 (of_decide_eq_true rfl) (q_iload_n c_193_180 rfl (v_iadd (v := a2 + 24) c_193_181 (by first | (clear ha1 ha2 ha3 ha4 ha5 hq3 hq4 hq5 h_1 hv0 h_2 hv1 h_3 hv2 h_4 hv3 h_5 hv4 h_6 hv5 h_7 hv6 h_8 hv7 h_9 hv8 h_10 hv9 h_11 hv10 h_12 hv11 h_13 hv12 h_14 hv13 h_15 h_16 h_128 h_138 hq0 hq1 hq2; omega) | omega) ?_)))))))
      have kn_197 : Hid (c_131 59 (a2 + 24) = c 59 (a2 + 24)) := (hF_133 59 (a2 + 24) (fun h => absurd h.2 ((q_beed56cbb hq0)))).trans ((up_n (ne_g ((q_e782b8c3c ha2 ha4)))).trans (up_n (ne_g ((q_e782b8c3c ha2 ha3)))))
      refine v_ia (v := c 59 (a2 + 24)) c_193_182 rfl (of_decide_eq_true rfl) (of_decide_eq_true rfl) ⟨(rgp_l ha2.1 (of_decide_eq_true rfl)), (q_57f615a18 ha2)⟩ (hid kn_197) (v_cv c_193_183 km_8_369 rfl rfl (Nat.le_of_ble_eq_true rfl) ⟨⟨rfl, rfl⟩, Nat.le_of_ble_eq_true rfl, rfl⟩ (Nat.le_of_ble_eq_true rfl) (Nat.le_of_ble_eq_true rfl) (s_191 (a1 := a4) (a2 := c 59 (a2 + 24)) hI_132 (show 0 ≤ a4 ∧ a4 ≤ 5 from ha4) (show (-2147483648) ≤ c 59 (a2 + 24) ∧ c 59 (a2 + 24) ≤ 2147483647 from h_128) (fun c_198 hI_199 hF_200 => (bk_inl (q_aload_n c_193_186 rfl (q_iload_n c_193_187 rfl (v_cv c_193_188 km_8_372 rfl rfl (Nat.le_of_ble_eq_true rfl) ⟨⟨rfl, rfl⟩, Nat.le_of_ble_eq_true rfl, rfl⟩ (Nat.le_of_ble_eq_true rfl) (Nat.le_of_ble_eq_true rfl) (s_192 (a1 := a2) hI_199 (show 0 ≤ a2 ∧ a2 ≤ 5 from ha2) (fun c_201 hI_202 hF_203 h_204 => (bk_inl ?_))))))))))
      have h_205 := ir_59_g hI_202 (j := 4 * a2 + 1) ((q_0a2ee6f8f ha2))
      have h_206 := ir_59_g hI_202 (j := 4 * a2 + 2) ((q_e07a293a2 ha2))
      have h_207 := ir_59_g hI_202 (j := 4 * a2 + 3) ((q_d09cb0b73 ha2))
      have h_208 := ir_59_g hI_202 (j := 4 * a2) ((q_9f1d5ffdc ha2))
      refine q_iconst c_193_191 (v_zret c_193_192 rfl (of_decide_eq_true rfl) ?_)
      have hr_209 : ∀ j : Int, rs 59 j → c_201 59 j + c_201 59 (j + 1) + c_201 59 (j + 2) + c_201 59 (j + 3) ≤ 9999 := by
        intro j9 hj9
        obtain ⟨k9, rfl, hk9⟩ := rs_59 hj9
        by_cases e_210 : k9 = a2
        · skip
          have h_211 : c_201 59 (4 * k9) = c_201 59 (4 * a2) := (congrArg (c_201 59) (show 4 * k9 = 4 * a2 from by first | assumption | exact Int.le_antisymm (by omega) (by omega)))
          have h_212 : c_201 59 (4 * k9 + 1) = c_201 59 (4 * a2 + 1) := (congrArg (c_201 59) (show 4 * k9 + 1 = 4 * a2 + 1 from by first | assumption | exact Int.le_antisymm (by omega) (by omega)))
          have h_213 : c_201 59 (4 * k9 + 2) = c_201 59 (4 * a2 + 2) := (congrArg (c_201 59) (show 4 * k9 + 2 = 4 * a2 + 2 from by first | assumption | exact Int.le_antisymm (by omega) (by omega)))
          have h_214 : c_201 59 (4 * k9 + 3) = c_201 59 (4 * a2 + 3) := (congrArg (c_201 59) (show 4 * k9 + 3 = 4 * a2 + 3 from by first | assumption | exact Int.le_antisymm (by omega) (by omega)))
          omega
        by_cases e_215 : k9 = a3
        · skip
          have kn_216 : Hid (c_131 59 (4 * a3) = u0) := (hF_133 59 (4 * a3) (fun h => absurd h.2 (ne_l ((q_788f4b81f ha3))))).trans ((up_n ((q_8ac71c5f3))).trans ((up_n ((ne_0a (ni rfl)))).trans (hv6)))
          have kn_217 : Hid (c_198 59 (4 * a3) = u0) := (hF_200 59 (4 * a3) (fun h => absurd h.2 (ne_l ((q_2b13428e8 ha3 ha4))))).trans (hid kn_216)
          have kn_218 : Hid (c_201 59 (4 * a3) = u0) := (hF_203 59 (4 * a3) (fun q => q.elim (fun h => absurd h.2 ((q_b46fb41fd hq0))) (fun q => q.elim (fun h => absurd h.2 ((q_b2cb8bf87))) (fun q => q.elim (fun h => absurd h.2 ((q_c037f51da))) (fun q => q.elim (fun h => absurd h.2 ((q_8ac71c5f3))) (fun h => absurd h.2 (ne_l ((q_4128697c9 ha2 ha3))))))))).trans (hid kn_217)
          have h_219 : c_201 59 (4 * k9) = u0 := (congrArg (c_201 59) (show 4 * k9 = 4 * a3 from by first | assumption | exact Int.le_antisymm (by omega) (by omega))).trans (hid kn_218)
          have kn_220 : Hid (c_131 59 (4 * a3 + 1) = u1) := (hF_133 59 (4 * a3 + 1) (fun h => absurd h.2 (ne_l ((q_60c9feeee ha3))))).trans ((up_n ((q_7c6b1b09a))).trans ((up_n ((ne_aa (ni rfl)))).trans (hv7)))
          have kn_221 : Hid (c_198 59 (4 * a3 + 1) = u1) := (hF_200 59 (4 * a3 + 1) (fun h => absurd h.2 (ne_l ((q_3178328df ha3 ha4))))).trans (hid kn_220)
          have kn_222 : Hid (c_201 59 (4 * a3 + 1) = u1) := (hF_203 59 (4 * a3 + 1) (fun q => q.elim (fun h => absurd h.2 ((q_e5bcc673e))) (fun q => q.elim (fun h => absurd h.2 ((q_0f4cbf258 hq0))) (fun q => q.elim (fun h => absurd h.2 ((q_3650b790c))) (fun q => q.elim (fun h => absurd h.2 ((q_7c6b1b09a))) (fun h => absurd h.2 (ne_l ((q_8f2481ba6 ha2 ha3))))))))).trans (hid kn_221)
          have h_223 : c_201 59 (4 * k9 + 1) = u1 := (congrArg (c_201 59) (show 4 * k9 + 1 = 4 * a3 + 1 from by first | assumption | exact Int.le_antisymm (by omega) (by omega))).trans (hid kn_222)
          have kn_224 : Hid (c_131 59 (4 * a3 + 2) = u2) := (hF_133 59 (4 * a3 + 2) (fun h => absurd h.2 (ne_l ((q_27ec1b4d7 ha3))))).trans ((up_n ((q_91c5bd343))).trans ((up_n ((ne_aa (ni rfl)))).trans (hv8)))
          have kn_225 : Hid (c_198 59 (4 * a3 + 2) = u2) := (hF_200 59 (4 * a3 + 2) (fun h => absurd h.2 (ne_l ((q_428481d46 ha3 ha4))))).trans (hid kn_224)
          have kn_226 : Hid (c_201 59 (4 * a3 + 2) = u2) := (hF_203 59 (4 * a3 + 2) (fun q => q.elim (fun h => absurd h.2 ((q_ae83e86ba))) (fun q => q.elim (fun h => absurd h.2 ((q_08c3d7060))) (fun q => q.elim (fun h => absurd h.2 ((q_28bc460e3 hq0))) (fun q => q.elim (fun h => absurd h.2 ((q_91c5bd343))) (fun h => absurd h.2 (ne_l ((q_04ab4010a ha2 ha3))))))))).trans (hid kn_225)
          have h_227 : c_201 59 (4 * k9 + 2) = u2 := (congrArg (c_201 59) (show 4 * k9 + 2 = 4 * a3 + 2 from by first | assumption | exact Int.le_antisymm (by omega) (by omega))).trans (hid kn_226)
          have kn_228 : Hid (c_131 59 (4 * a3 + 3) = (fal v1 (v2) 3 x3) + u3) := (hF_133 59 (4 * a3 + 3) (fun h => absurd h.2 (ne_l ((q_fd9aac8f8 ha3))))).trans ((up_n ((q_a8d3e8094 hq2))).trans (up_e rfl))
          have kn_229 : Hid (c_198 59 (4 * a3 + 3) = (fal v1 (v2) 3 x3) + u3) := (hF_200 59 (4 * a3 + 3) (fun h => absurd h.2 (ne_l ((q_2771393a8 ha3 ha4))))).trans (hid kn_228)
          have kn_230 : Hid (c_201 59 (4 * a3 + 3) = (fal v1 (v2) 3 x3) + u3) := (hF_203 59 (4 * a3 + 3) (fun q => q.elim (fun h => absurd h.2 ((q_b6789388a))) (fun q => q.elim (fun h => absurd h.2 ((q_6d5c6886e))) (fun q => q.elim (fun h => absurd h.2 ((q_28d70e8e5))) (fun q => q.elim (fun h => absurd h.2 ((q_ca906b5de hq0))) (fun h => absurd h.2 (ne_l ((q_e782b8c3c ha2 ha3))))))))).trans (hid kn_229)
          have h_231 : c_201 59 (4 * k9 + 3) = (fal v1 (v2) 3 x3) + u3 := (congrArg (c_201 59) (show 4 * k9 + 3 = 4 * a3 + 3 from by first | assumption | exact Int.le_antisymm (by omega) (by omega))).trans (hid kn_230)
          omega
        by_cases e_232 : k9 = a4
        · skip
          have kn_233 : Hid (c_131 59 (4 * a4) = w0) := (hF_133 59 (4 * a4) (fun h => absurd h.2 (ne_l ((q_4128697c9 ha3 ha4))))).trans ((up_n ((ne_0a (ni rfl)))).trans ((up_n ((q_8ac71c5f3))).trans (hv10)))
          have kn_234 : Hid (c_198 59 (4 * a4) = w0) := (hF_200 59 (4 * a4) (fun h => absurd h.2 (ne_l ((q_788f4b81f ha4))))).trans (hid kn_233)
          have kn_235 : Hid (c_201 59 (4 * a4) = w0) := (hF_203 59 (4 * a4) (fun q => q.elim (fun h => absurd h.2 ((q_b46fb41fd hq1))) (fun q => q.elim (fun h => absurd h.2 ((q_b2cb8bf87))) (fun q => q.elim (fun h => absurd h.2 ((q_c037f51da))) (fun q => q.elim (fun h => absurd h.2 ((q_8ac71c5f3))) (fun h => absurd h.2 (ne_l ((q_4128697c9 ha2 ha4))))))))).trans (hid kn_234)
          have h_236 : c_201 59 (4 * k9) = w0 := (congrArg (c_201 59) (show 4 * k9 = 4 * a4 from by first | assumption | exact Int.le_antisymm (by omega) (by omega))).trans (hid kn_235)
          have kn_237 : Hid (c_131 59 (4 * a4 + 1) = w1) := (hF_133 59 (4 * a4 + 1) (fun h => absurd h.2 (ne_l ((q_8f2481ba6 ha3 ha4))))).trans ((up_n ((ne_aa (ni rfl)))).trans ((up_n ((q_7c6b1b09a))).trans (hv11)))
          have kn_238 : Hid (c_198 59 (4 * a4 + 1) = w1) := (hF_200 59 (4 * a4 + 1) (fun h => absurd h.2 (ne_l ((q_60c9feeee ha4))))).trans (hid kn_237)
          have kn_239 : Hid (c_201 59 (4 * a4 + 1) = w1) := (hF_203 59 (4 * a4 + 1) (fun q => q.elim (fun h => absurd h.2 ((q_e5bcc673e))) (fun q => q.elim (fun h => absurd h.2 ((q_0f4cbf258 hq1))) (fun q => q.elim (fun h => absurd h.2 ((q_3650b790c))) (fun q => q.elim (fun h => absurd h.2 ((q_7c6b1b09a))) (fun h => absurd h.2 (ne_l ((q_8f2481ba6 ha2 ha4))))))))).trans (hid kn_238)
          have h_240 : c_201 59 (4 * k9 + 1) = w1 := (congrArg (c_201 59) (show 4 * k9 + 1 = 4 * a4 + 1 from by first | assumption | exact Int.le_antisymm (by omega) (by omega))).trans (hid kn_239)
          have kn_241 : Hid (c_131 59 (4 * a4 + 2) = w2) := (hF_133 59 (4 * a4 + 2) (fun h => absurd h.2 (ne_l ((q_04ab4010a ha3 ha4))))).trans ((up_n ((ne_aa (ni rfl)))).trans ((up_n ((q_91c5bd343))).trans (hv12)))
          have kn_242 : Hid (c_198 59 (4 * a4 + 2) = w2) := (hF_200 59 (4 * a4 + 2) (fun h => absurd h.2 (ne_l ((q_27ec1b4d7 ha4))))).trans (hid kn_241)
          have kn_243 : Hid (c_201 59 (4 * a4 + 2) = w2) := (hF_203 59 (4 * a4 + 2) (fun q => q.elim (fun h => absurd h.2 ((q_ae83e86ba))) (fun q => q.elim (fun h => absurd h.2 ((q_08c3d7060))) (fun q => q.elim (fun h => absurd h.2 ((q_28bc460e3 hq1))) (fun q => q.elim (fun h => absurd h.2 ((q_91c5bd343))) (fun h => absurd h.2 (ne_l ((q_04ab4010a ha2 ha4))))))))).trans (hid kn_242)
          have h_244 : c_201 59 (4 * k9 + 2) = w2 := (congrArg (c_201 59) (show 4 * k9 + 2 = 4 * a4 + 2 from by first | assumption | exact Int.le_antisymm (by omega) (by omega))).trans (hid kn_243)
          have kn_245 : Hid (c_131 59 (4 * a4 + 3) = w3 + x3 - (fal v1 (v2) 3 x3)) := (hF_133 59 (4 * a4 + 3) (fun h => absurd h.2 (ne_l ((q_e782b8c3c ha3 ha4))))).trans (up_e rfl)
          have kn_246 : Hid (c_198 59 (4 * a4 + 3) = w3 + x3 - (fal v1 (v2) 3 x3)) := (hF_200 59 (4 * a4 + 3) (fun h => absurd h.2 (ne_l ((q_fd9aac8f8 ha4))))).trans (hid kn_245)
          have kn_247 : Hid (c_201 59 (4 * a4 + 3) = w3 + x3 - (fal v1 (v2) 3 x3)) := (hF_203 59 (4 * a4 + 3) (fun q => q.elim (fun h => absurd h.2 ((q_b6789388a))) (fun q => q.elim (fun h => absurd h.2 ((q_6d5c6886e))) (fun q => q.elim (fun h => absurd h.2 ((q_28d70e8e5))) (fun q => q.elim (fun h => absurd h.2 ((q_ca906b5de hq1))) (fun h => absurd h.2 (ne_l ((q_e782b8c3c ha2 ha4))))))))).trans (hid kn_246)
          have h_248 : c_201 59 (4 * k9 + 3) = w3 + x3 - (fal v1 (v2) 3 x3) := (congrArg (c_201 59) (show 4 * k9 + 3 = 4 * a4 + 3 from by first | assumption | exact Int.le_antisymm (by omega) (by omega))).trans (hid kn_247)
          omega
        have h_249 := hqo (4 * k9) hj9 (by omega) (by omega) (by omega)
        have h_250 := ir_59_g hI (j := 4 * k9) ((q_9f1d5ffdc hk9))
        have kn_251 : Hid (c_131 59 (4 * k9) = c 59 (4 * k9)) := (hF_133 59 (4 * k9) (fun h => absurd h.2 (ne_l ((q_4128697c9 ha3 hk9))))).trans ((up_n ((q_8ac71c5f3))).trans (up_n ((q_8ac71c5f3))))
        have kn_252 : Hid (c_198 59 (4 * k9) = c 59 (4 * k9)) := (hF_200 59 (4 * k9) (fun h => absurd h.2 (ne_l ((q_4128697c9 ha4 hk9))))).trans (hid kn_251)
        have kn_253 : Hid (c_201 59 (4 * k9) = c 59 (4 * k9)) := (hF_203 59 (4 * k9) (fun q => q.elim (fun h => absurd h.2 ((q_336fb6678 e_210))) (fun q => q.elim (fun h => absurd h.2 ((q_b2cb8bf87))) (fun q => q.elim (fun h => absurd h.2 ((q_c037f51da))) (fun q => q.elim (fun h => absurd h.2 ((q_8ac71c5f3))) (fun h => absurd h.2 (ne_l ((q_4128697c9 ha2 hk9))))))))).trans (hid kn_252)
        have h_254 : c_201 59 (4 * k9) = c 59 (4 * k9) := (hid kn_253)
        have h_255 := ir_59_g hI (j := 4 * k9 + 1) ((q_0a2ee6f8f hk9))
        have kn_256 : Hid (c_131 59 (4 * k9 + 1) = c 59 (4 * k9 + 1)) := (hF_133 59 (4 * k9 + 1) (fun h => absurd h.2 (ne_l ((q_8f2481ba6 ha3 hk9))))).trans ((up_n ((q_7c6b1b09a))).trans (up_n ((q_7c6b1b09a))))
        have kn_257 : Hid (c_198 59 (4 * k9 + 1) = c 59 (4 * k9 + 1)) := (hF_200 59 (4 * k9 + 1) (fun h => absurd h.2 (ne_l ((q_8f2481ba6 ha4 hk9))))).trans (hid kn_256)
        have kn_258 : Hid (c_201 59 (4 * k9 + 1) = c 59 (4 * k9 + 1)) := (hF_203 59 (4 * k9 + 1) (fun q => q.elim (fun h => absurd h.2 ((q_e5bcc673e))) (fun q => q.elim (fun h => absurd h.2 ((q_52b51d728 e_210))) (fun q => q.elim (fun h => absurd h.2 ((q_3650b790c))) (fun q => q.elim (fun h => absurd h.2 ((q_7c6b1b09a))) (fun h => absurd h.2 (ne_l ((q_8f2481ba6 ha2 hk9))))))))).trans (hid kn_257)
        have h_259 : c_201 59 (4 * k9 + 1) = c 59 (4 * k9 + 1) := (hid kn_258)
        have h_260 := ir_59_g hI (j := 4 * k9 + 2) ((q_e07a293a2 hk9))
        have kn_261 : Hid (c_131 59 (4 * k9 + 2) = c 59 (4 * k9 + 2)) := (hF_133 59 (4 * k9 + 2) (fun h => absurd h.2 (ne_l ((q_04ab4010a ha3 hk9))))).trans ((up_n ((q_91c5bd343))).trans (up_n ((q_91c5bd343))))
        have kn_262 : Hid (c_198 59 (4 * k9 + 2) = c 59 (4 * k9 + 2)) := (hF_200 59 (4 * k9 + 2) (fun h => absurd h.2 (ne_l ((q_04ab4010a ha4 hk9))))).trans (hid kn_261)
        have kn_263 : Hid (c_201 59 (4 * k9 + 2) = c 59 (4 * k9 + 2)) := (hF_203 59 (4 * k9 + 2) (fun q => q.elim (fun h => absurd h.2 ((q_ae83e86ba))) (fun q => q.elim (fun h => absurd h.2 ((q_08c3d7060))) (fun q => q.elim (fun h => absurd h.2 ((q_27892e29e e_210))) (fun q => q.elim (fun h => absurd h.2 ((q_91c5bd343))) (fun h => absurd h.2 (ne_l ((q_04ab4010a ha2 hk9))))))))).trans (hid kn_262)
        have h_264 : c_201 59 (4 * k9 + 2) = c 59 (4 * k9 + 2) := (hid kn_263)
        have h_265 := ir_59_g hI (j := 4 * k9 + 3) ((q_d09cb0b73 hk9))
        have kn_266 : Hid (c_131 59 (4 * k9 + 3) = c 59 (4 * k9 + 3)) := (hF_133 59 (4 * k9 + 3) (fun h => absurd h.2 (ne_l ((q_e782b8c3c ha3 hk9))))).trans ((up_n ((q_2db9f474b e_232))).trans (up_n ((q_2db9f474b e_215))))
        have kn_267 : Hid (c_198 59 (4 * k9 + 3) = c 59 (4 * k9 + 3)) := (hF_200 59 (4 * k9 + 3) (fun h => absurd h.2 (ne_l ((q_e782b8c3c ha4 hk9))))).trans (hid kn_266)
        have kn_268 : Hid (c_201 59 (4 * k9 + 3) = c 59 (4 * k9 + 3)) := (hF_203 59 (4 * k9 + 3) (fun q => q.elim (fun h => absurd h.2 ((q_b6789388a))) (fun q => q.elim (fun h => absurd h.2 ((q_6d5c6886e))) (fun q => q.elim (fun h => absurd h.2 ((q_28d70e8e5))) (fun q => q.elim (fun h => absurd h.2 ((q_2db9f474b e_210))) (fun h => absurd h.2 (ne_l ((q_e782b8c3c ha2 hk9))))))))).trans (hid kn_267)
        have h_269 : c_201 59 (4 * k9 + 3) = c 59 (4 * k9 + 3) := (hid kn_268)
        omega
      have hI_270 := iv_close hI_202 hr_209
      exact K c_201 1 hI_270 (fun a j hm => (hF_203 a j (fun q => q.elim (fun h => hm h.1) (fun q => q.elim (fun h => hm h.1) (fun q => q.elim (fun h => hm h.1) (fun q => q.elim (fun h => hm h.1) (fun h => hm h.1)))))).trans ((hF_200 a j (fun h => hm h.1)).trans ((hF_133 a j (fun h => hm h.1)).trans ((up_b (Decidable.or_iff_not_imp_left.mpr (fun h1 h2 => hm (Decidable.not_not.mp h1)))).trans (up_b (Decidable.or_iff_not_imp_left.mpr (fun h1 h2 => hm (Decidable.not_not.mp h1)))))))) ⟨of_decide_eq_true rfl, of_decide_eq_true rfl⟩
set_option maxRecDepth 100000 in
set_option maxHeartbeats 4000000 in
theorem s_193_2 {sc : List Int32} {d P Q : Nat} {c : ME} {v1 v2 x0 x1 x2 x3 u0 u1 u2 u3 w0 w1 w2 w3 : Int} {a1 : Int} {a2 : Int} {a3 : Int} {a4 : Int} {a5 : Int} {Z : AR → Prop} (hI : Iv 59 (-1) P Q c) (ha1 : 0 ≤ a1 ∧ a1 ≤ 3) (ha2 : 0 ≤ a2 ∧ a2 ≤ 5) (ha3 : 0 ≤ a3 ∧ a3 ≤ 5) (ha4 : 0 ≤ a4 ∧ a4 ≤ 5) (ha5 : (-2147483648) ≤ a5 ∧ a5 ≤ 2147483647) (hq0 : (a2 < a3) ∨ (a2 > a3)) (hq1 : (a2 < a4) ∨ (a2 > a4)) (hq2 : (a3 < a4) ∨ (a3 > a4)) (hq3 : ((fal v1 (v2) 2 x2) + (fal v1 (v2) 3 x3) + u0 + u1 + u2 + u3 ≤ 9999)) (hq4 : (w0 + w1 + w2 + w3 + x2 + x3 - (fal v1 (v2) 2 x2) - (fal v1 (v2) 3 x3) ≤ 9999)) (hq5 : (x0 + x1 + x2 + x3 ≤ 9999)) (hq6 : ∀ j : Int, rs 59 j → ¬ j = 4 * a2 → ¬ j = 4 * a3 → ¬ j = 4 * a4 → c 59 j + c 59 (j + 1) + c 59 (j + 2) + c 59 (j + 3) ≤ 9999) (hv0 : c 49 a1 = v1) (hv1 : c 59 (a1 + 30) = v2) (hv2 : c 59 (4 * a2) = x0) (hv3 : c 59 (4 * a2 + 1) = x1) (hv4 : c 59 (4 * a2 + 2) = x2) (hv5 : c 59 (4 * a2 + 3) = x3) (hv6 : c 59 (4 * a3) = u0) (hv7 : c 59 (4 * a3 + 1) = u1) (hv8 : c 59 (4 * a3 + 2) = u2) (hv9 : c 59 (4 * a3 + 3) = u3) (hv10 : c 59 (4 * a4) = w0) (hv11 : c 59 (4 * a4 + 1) = w1) (hv12 : c 59 (4 * a4 + 2) = w2) (hv13 : c 59 (4 * a4 + 3) = w3) (K : ∀ (c2 : ME) (y : Int), Iv 0 (-1) P Q c2 → (∀ (a : Nat) (j : Int), ¬ (a = 59) → c2 a j = c a j) → 0 ≤ y ∧ y ≤ 1 → Z (.inl (some (vi y)), Wd P Q P P c2, 0, 0)) : Wp sc (d + 9) 193 75 [(0, .ref 41), (1, vi a1), (2, vi a2), (3, vi a3), (4, vi a4), (5, vi a5), (6, vi 2)] [] (Wd P Q P P c) 0 0 Z := by
  have hP := iv_P hI
  have hQ := iv_Q hI
  have h_1 := ir_49 hI a1
  have h_2 := ir_59 hI (a1 + 30)
  have h_3 := ir_59_g hI (j := 4 * a2) ((q_9f1d5ffdc ha2))
  have h_4 := ir_59_g hI (j := 4 * a2 + 1) ((q_0a2ee6f8f ha2))
  have h_5 := ir_59_g hI (j := 4 * a2 + 2) ((q_e07a293a2 ha2))
  have h_6 := ir_59_g hI (j := 4 * a2 + 3) ((q_d09cb0b73 ha2))
  have h_7 := ir_59_g hI (j := 4 * a3) ((q_9f1d5ffdc ha3))
  have h_8 := ir_59_g hI (j := 4 * a3 + 1) ((q_0a2ee6f8f ha3))
  have h_9 := ir_59_g hI (j := 4 * a3 + 2) ((q_e07a293a2 ha3))
  have h_10 := ir_59_g hI (j := 4 * a3 + 3) ((q_d09cb0b73 ha3))
  have h_11 := ir_59_g hI (j := 4 * a4) ((q_9f1d5ffdc ha4))
  have h_12 := ir_59_g hI (j := 4 * a4 + 1) ((q_0a2ee6f8f ha4))
  have h_13 := ir_59_g hI (j := 4 * a4 + 2) ((q_e07a293a2 ha4))
  have h_14 := ir_59_g hI (j := 4 * a4 + 3) ((q_d09cb0b73 ha4))
  have hqo := hq6
  have h_15 := fal_rng (m := v1) (t := v2) (g := 2) (x := x2) (by omega)
  have h_16 := fal_rng (m := v1) (t := v2) (g := 3) (x := x3) (by omega)
  refine q_iload c_193_75 rfl (q_iconst c_193_77 (v_ic_ge_f (t := 142) c_193_78 rfl (of_decide_eq_true rfl) (q_aload_n c_193_81 rfl (q_iload_n c_193_82 rfl (q_iload_n c_193_83 rfl (q_iload c_193_84 rfl (v_cv c_193_86 km_8_363 rfl rfl (Nat.le_of_ble_eq_true rfl) ⟨⟨rfl, rfl⟩, Nat.le_of_ble_eq_true rfl, rfl⟩ (Nat.le_of_ble_eq_true rfl) (Nat.le_of_ble_eq_true rfl) (s_189 (v1 := v1) (v2 := v2) (v3 := x2) (r := (fal v1 (v2) 2 x2)) (a1 := a1) (a2 := a2) (a3 := 2) hI (show 0 ≤ a1 ∧ a1 ≤ 3 from ha1) (show 0 ≤ a2 ∧ a2 ≤ 5 from ha2) (show 0 ≤ 2 ∧ 2 ≤ 3 from ⟨of_decide_eq_true rfl, of_decide_eq_true rfl⟩) ((hv0)) ((hv1)) ((hv4)) rfl ?_))))))))
  refine bk_inl (q_istore c_193_89 (Nat.le_of_ble_eq_true rfl) (q_aload_n c_193_91 rfl (v_gr (t := 59) c_193_92 kf_8_68 rfl (Nat.le_of_ble_eq_true rfl) rfl (q_iconst c_193_95 (q_iload_n c_193_96 rfl (v_imul (v := 4 * a3) c_193_97 rfl (q_iload c_193_98 rfl ?_)))))))
  refine v_iadd (v := 4 * a3 + 2) c_193_100 rfl (q_dup2 c_193_101 ⟨rfl, rfl⟩ (v_ia (v := u2) c_193_102 rfl (of_decide_eq_true rfl) (of_decide_eq_true rfl) ⟨(q_0f37a0c6e ha3), (q_36e1404d4 ha3)⟩ (hv8) (q_iload c_193_103 rfl (v_iadd (v := (fal v1 (v2) 2 x2) + u2) c_193_105 (by first | (clear ha1 ha2 ha3 ha4 ha5 hq3 hq4 hq5 h_1 hv0 h_2 hv1 h_3 hv2 h_4 hv3 h_5 hv4 h_6 hv5 h_7 hv6 h_8 hv7 h_9 hv8 h_10 hv9 h_11 hv10 h_12 hv11 h_13 hv12 h_14 hv13 h_15 h_16 hq0 hq1 hq2; omega) | omega) (v_is c_193_106 rfl (of_decide_eq_true rfl) (of_decide_eq_true rfl) ⟨(q_0f37a0c6e ha3), (q_36e1404d4 ha3)⟩ (q_aload_n c_193_107 rfl (v_gr (t := 59) c_193_108 kf_8_68 rfl (Nat.le_of_ble_eq_true rfl) rfl ?_)))))))
  refine q_iconst c_193_111 (q_iload c_193_112 rfl (v_imul (v := 4 * a4) c_193_114 rfl (q_iload c_193_115 rfl (v_iadd (v := 4 * a4 + 2) c_193_117 rfl (q_dup2 c_193_118 ⟨rfl, rfl⟩ (v_ia (v := w2) c_193_119 rfl (of_decide_eq_true rfl) (of_decide_eq_true rfl) ⟨(q_0f37a0c6e ha4), (q_36e1404d4 ha4)⟩ ((up_n ((q_28bc460e3 hq2))).trans (hv12)) (q_aload_n c_193_120 rfl ?_)))))))
  refine v_gr (t := 59) c_193_121 kf_8_68 rfl (Nat.le_of_ble_eq_true rfl) rfl (q_iconst c_193_124 (q_iload_n c_193_125 rfl (v_imul (v := 4 * a2) c_193_126 rfl (q_iload c_193_127 rfl (v_iadd (v := 4 * a2 + 2) c_193_129 rfl (v_ia (v := x2) c_193_130 rfl (of_decide_eq_true rfl) (of_decide_eq_true rfl) ⟨(q_0f37a0c6e ha2), (q_36e1404d4 ha2)⟩ ((up_n ((q_fa7eff6f3 hq0))).trans (hv4)) (q_iload c_193_131 rfl ?_)))))))
  refine v_isub (v := x2 - (fal v1 (v2) 2 x2)) c_193_133 rfl (v_iadd (v := w2 + x2 - (fal v1 (v2) 2 x2)) c_193_134 (by first | (clear ha1 ha2 ha3 ha4 ha5 hq3 hq4 hq5 h_1 hv0 h_2 hv1 h_3 hv2 h_4 hv3 h_5 hv4 h_6 hv5 h_7 hv6 h_8 hv7 h_9 hv8 h_10 hv9 h_11 hv10 h_12 hv11 h_13 hv12 h_14 hv13 h_15 h_16 hq0 hq1 hq2; omega) | omega) (v_is c_193_135 rfl (of_decide_eq_true rfl) (of_decide_eq_true rfl) ⟨(q_0f37a0c6e ha4), (q_36e1404d4 ha4)⟩ (v_iinc (v := 3) c_193_136 rfl (Nat.le_of_ble_eq_true rfl) (of_decide_eq_true rfl) (q_goto (t := 75) c_193_139 rfl ?_))))
  have hI_17 := iw_row (a := 59) (j := 4 * a3 + 2) (v := (fal v1 (v2) 2 x2) + u2) hI (by omega) (Or.inl rfl) ⟨by omega, by omega, by omega⟩
  have hI_18 := iw_row (a := 59) (j := 4 * a4 + 2) (v := w2 + x2 - (fal v1 (v2) 2 x2)) hI_17 (by omega) (Or.inl rfl) ⟨by omega, by omega, by omega⟩
  have hqo_19 : ∀ j : Int, rs 59 j → ¬ j = 4 * a2 → ¬ j = 4 * a3 → ¬ j = 4 * a4 → (up (up c 59 (4 * a3 + 2) ((fal v1 (v2) 2 x2) + u2)) 59 (4 * a4 + 2) (w2 + x2 - (fal v1 (v2) 2 x2))) 59 j + (up (up c 59 (4 * a3 + 2) ((fal v1 (v2) 2 x2) + u2)) 59 (4 * a4 + 2) (w2 + x2 - (fal v1 (v2) 2 x2))) 59 (j + 1) + (up (up c 59 (4 * a3 + 2) ((fal v1 (v2) 2 x2) + u2)) 59 (4 * a4 + 2) (w2 + x2 - (fal v1 (v2) 2 x2))) 59 (j + 2) + (up (up c 59 (4 * a3 + 2) ((fal v1 (v2) 2 x2) + u2)) 59 (4 * a4 + 2) (w2 + x2 - (fal v1 (v2) 2 x2))) 59 (j + 3) ≤ 9999 := by
    intro j9 hj9 hz0 hz1 hz2
    obtain ⟨k9, rfl, hk9⟩ := rs_59 hj9
    have h_20 := hqo (4 * k9) hj9 (by omega) (by omega) (by omega)
    have h_21 := ir_59_g hI (j := 4 * k9) ((q_9f1d5ffdc hk9))
    have h_22 : (up (up c 59 (4 * a3 + 2) ((fal v1 (v2) 2 x2) + u2)) 59 (4 * a4 + 2) (w2 + x2 - (fal v1 (v2) 2 x2))) 59 (4 * k9) = c 59 (4 * k9) := ((up_n ((q_c037f51da))).trans (up_n ((q_c037f51da))))
    have h_23 := ir_59_g hI (j := 4 * k9 + 1) ((q_0a2ee6f8f hk9))
    have h_24 : (up (up c 59 (4 * a3 + 2) ((fal v1 (v2) 2 x2) + u2)) 59 (4 * a4 + 2) (w2 + x2 - (fal v1 (v2) 2 x2))) 59 (4 * k9 + 1) = c 59 (4 * k9 + 1) := ((up_n ((q_3650b790c))).trans (up_n ((q_3650b790c))))
    have h_25 := ir_59_g hI (j := 4 * k9 + 2) ((q_e07a293a2 hk9))
    have h_26 : (up (up c 59 (4 * a3 + 2) ((fal v1 (v2) 2 x2) + u2)) 59 (4 * a4 + 2) (w2 + x2 - (fal v1 (v2) 2 x2))) 59 (4 * k9 + 2) = c 59 (4 * k9 + 2) := ((up_n (by first | (clear ha1 ha2 ha3 ha4 ha5 hq3 hq4 hq5 h_1 hv0 h_2 hv1 h_3 hv2 h_4 hv3 h_5 hv4 h_6 hv5 h_7 hv6 h_8 hv7 h_9 hv8 h_10 hv9 h_11 hv10 h_12 hv11 h_13 hv12 h_14 hv13 h_15 h_16 hk9 h_21 h_23 hq0 hq1 hq2; omega) | omega)).trans (up_n (by first | (clear ha1 ha2 ha3 ha4 ha5 hq3 hq4 hq5 h_1 hv0 h_2 hv1 h_3 hv2 h_4 hv3 h_5 hv4 h_6 hv5 h_7 hv6 h_8 hv7 h_9 hv8 h_10 hv9 h_11 hv10 h_12 hv11 h_13 hv12 h_14 hv13 h_15 h_16 hk9 h_21 h_23 hq0 hq1 hq2; omega) | omega)))
    have h_27 := ir_59_g hI (j := 4 * k9 + 3) ((q_d09cb0b73 hk9))
    have h_28 : (up (up c 59 (4 * a3 + 2) ((fal v1 (v2) 2 x2) + u2)) 59 (4 * a4 + 2) (w2 + x2 - (fal v1 (v2) 2 x2))) 59 (4 * k9 + 3) = c 59 (4 * k9 + 3) := ((up_n ((q_28d70e8e5))).trans (up_n ((q_28d70e8e5))))
    omega
  refine Wp_ls [(0, .ref 41), (1, vi a1), (2, vi a2), (3, vi a3), (4, vi a4), (5, vi a5), (6, vi 3)] (lsub_cons rfl (lsub_cons rfl (lsub_cons rfl (lsub_cons rfl (lsub_cons rfl (lsub_cons rfl (lsub_cons rfl lsub_nil))))))) ?_
  exact s_193_3 (v1 := v1) (v2 := v2) (x0 := x0) (x1 := x1) (x2 := x2) (x3 := x3) (u0 := u0) (u1 := u1) (u2 := (fal v1 (v2) 2 x2) + u2) (u3 := u3) (w0 := w0) (w1 := w1) (w2 := w2 + x2 - (fal v1 (v2) 2 x2)) (w3 := w3) (a5 := a5) hI_18 (by omega) (by omega) (by omega) (by omega) (by omega) (by omega) (by omega) (by omega) (by omega) (by omega) (by omega) hqo_19 (((up_c (nn rfl)).trans ((up_c (nn rfl)).trans (hv0)))) (((up_n (ne_g ((q_25cce9136 ha1 ha4)))).trans ((up_n (ne_g ((q_25cce9136 ha1 ha3)))).trans (hv1)))) (((up_n ((q_c037f51da))).trans ((up_n ((q_c037f51da))).trans (hv2)))) (((up_n ((q_3650b790c))).trans ((up_n ((q_3650b790c))).trans (hv3)))) (((up_n ((q_fa7eff6f3 hq1))).trans ((up_n ((q_fa7eff6f3 hq0))).trans (hv4)))) (((up_n ((q_28d70e8e5))).trans ((up_n ((q_28d70e8e5))).trans (hv5)))) (((up_n ((q_c037f51da))).trans ((up_n ((ne_0a (ni rfl)))).trans (hv6)))) (((up_n ((q_3650b790c))).trans ((up_n ((ne_aa (ni rfl)))).trans (hv7)))) (((up_n ((q_fa7eff6f3 hq2))).trans (up_e rfl))) (((up_n ((q_28d70e8e5))).trans ((up_n ((ne_aa (ni rfl)))).trans (hv9)))) (((up_n ((ne_0a (ni rfl)))).trans ((up_n ((q_c037f51da))).trans (hv10)))) (((up_n ((ne_aa (ni rfl)))).trans ((up_n ((q_3650b790c))).trans (hv11)))) ((up_e rfl)) (((up_n ((ne_aa (ni rfl)))).trans ((up_n ((q_28d70e8e5))).trans (hv13)))) (fun c9 y9 hI9 hF9 hy9 => K c9 y9 hI9 (fun a j hm => (hF9 a j (by omega)).trans ((up_b (by omega)).trans (up_b (by omega)))) hy9)
set_option maxRecDepth 100000 in
set_option maxHeartbeats 4000000 in
theorem s_193_1 {sc : List Int32} {d P Q : Nat} {c : ME} {v1 v2 x0 x1 x2 x3 u0 u1 u2 u3 w0 w1 w2 w3 : Int} {a1 : Int} {a2 : Int} {a3 : Int} {a4 : Int} {a5 : Int} {Z : AR → Prop} (hI : Iv 59 (-1) P Q c) (ha1 : 0 ≤ a1 ∧ a1 ≤ 3) (ha2 : 0 ≤ a2 ∧ a2 ≤ 5) (ha3 : 0 ≤ a3 ∧ a3 ≤ 5) (ha4 : 0 ≤ a4 ∧ a4 ≤ 5) (ha5 : (-2147483648) ≤ a5 ∧ a5 ≤ 2147483647) (hq0 : (a2 < a3) ∨ (a2 > a3)) (hq1 : (a2 < a4) ∨ (a2 > a4)) (hq2 : (a3 < a4) ∨ (a3 > a4)) (hq3 : ((fal v1 (v2) 1 x1) + (fal v1 (v2) 2 x2) + (fal v1 (v2) 3 x3) + u0 + u1 + u2 + u3 ≤ 9999)) (hq4 : (w0 + w1 + w2 + w3 + x1 + x2 + x3 - (fal v1 (v2) 1 x1) - (fal v1 (v2) 2 x2) - (fal v1 (v2) 3 x3) ≤ 9999)) (hq5 : (x0 + x1 + x2 + x3 ≤ 9999)) (hq6 : ∀ j : Int, rs 59 j → ¬ j = 4 * a2 → ¬ j = 4 * a3 → ¬ j = 4 * a4 → c 59 j + c 59 (j + 1) + c 59 (j + 2) + c 59 (j + 3) ≤ 9999) (hv0 : c 49 a1 = v1) (hv1 : c 59 (a1 + 30) = v2) (hv2 : c 59 (4 * a2) = x0) (hv3 : c 59 (4 * a2 + 1) = x1) (hv4 : c 59 (4 * a2 + 2) = x2) (hv5 : c 59 (4 * a2 + 3) = x3) (hv6 : c 59 (4 * a3) = u0) (hv7 : c 59 (4 * a3 + 1) = u1) (hv8 : c 59 (4 * a3 + 2) = u2) (hv9 : c 59 (4 * a3 + 3) = u3) (hv10 : c 59 (4 * a4) = w0) (hv11 : c 59 (4 * a4 + 1) = w1) (hv12 : c 59 (4 * a4 + 2) = w2) (hv13 : c 59 (4 * a4 + 3) = w3) (K : ∀ (c2 : ME) (y : Int), Iv 0 (-1) P Q c2 → (∀ (a : Nat) (j : Int), ¬ (a = 59) → c2 a j = c a j) → 0 ≤ y ∧ y ≤ 1 → Z (.inl (some (vi y)), Wd P Q P P c2, 0, 0)) : Wp sc (d + 9) 193 75 [(0, .ref 41), (1, vi a1), (2, vi a2), (3, vi a3), (4, vi a4), (5, vi a5), (6, vi 1)] [] (Wd P Q P P c) 0 0 Z := by
  have hP := iv_P hI
  have hQ := iv_Q hI
  have h_1 := ir_49 hI a1
  have h_2 := ir_59 hI (a1 + 30)
  have h_3 := ir_59_g hI (j := 4 * a2) ((q_9f1d5ffdc ha2))
  have h_4 := ir_59_g hI (j := 4 * a2 + 1) ((q_0a2ee6f8f ha2))
  have h_5 := ir_59_g hI (j := 4 * a2 + 2) ((q_e07a293a2 ha2))
  have h_6 := ir_59_g hI (j := 4 * a2 + 3) ((q_d09cb0b73 ha2))
  have h_7 := ir_59_g hI (j := 4 * a3) ((q_9f1d5ffdc ha3))
  have h_8 := ir_59_g hI (j := 4 * a3 + 1) ((q_0a2ee6f8f ha3))
  have h_9 := ir_59_g hI (j := 4 * a3 + 2) ((q_e07a293a2 ha3))
  have h_10 := ir_59_g hI (j := 4 * a3 + 3) ((q_d09cb0b73 ha3))
  have h_11 := ir_59_g hI (j := 4 * a4) ((q_9f1d5ffdc ha4))
  have h_12 := ir_59_g hI (j := 4 * a4 + 1) ((q_0a2ee6f8f ha4))
  have h_13 := ir_59_g hI (j := 4 * a4 + 2) ((q_e07a293a2 ha4))
  have h_14 := ir_59_g hI (j := 4 * a4 + 3) ((q_d09cb0b73 ha4))
  have hqo := hq6
  have h_15 := fal_rng (m := v1) (t := v2) (g := 1) (x := x1) (by omega)
  have h_16 := fal_rng (m := v1) (t := v2) (g := 2) (x := x2) (by omega)
  have h_17 := fal_rng (m := v1) (t := v2) (g := 3) (x := x3) (by omega)
  refine q_iload c_193_75 rfl (q_iconst c_193_77 (v_ic_ge_f (t := 142) c_193_78 rfl (of_decide_eq_true rfl) (q_aload_n c_193_81 rfl (q_iload_n c_193_82 rfl (q_iload_n c_193_83 rfl (q_iload c_193_84 rfl (v_cv c_193_86 km_8_363 rfl rfl (Nat.le_of_ble_eq_true rfl) ⟨⟨rfl, rfl⟩, Nat.le_of_ble_eq_true rfl, rfl⟩ (Nat.le_of_ble_eq_true rfl) (Nat.le_of_ble_eq_true rfl) (s_189 (v1 := v1) (v2 := v2) (v3 := x1) (r := (fal v1 (v2) 1 x1)) (a1 := a1) (a2 := a2) (a3 := 1) hI (show 0 ≤ a1 ∧ a1 ≤ 3 from ha1) (show 0 ≤ a2 ∧ a2 ≤ 5 from ha2) (show 0 ≤ 1 ∧ 1 ≤ 3 from ⟨of_decide_eq_true rfl, of_decide_eq_true rfl⟩) ((hv0)) ((hv1)) ((hv3)) rfl ?_))))))))
  refine bk_inl (q_istore c_193_89 (Nat.le_of_ble_eq_true rfl) (q_aload_n c_193_91 rfl (v_gr (t := 59) c_193_92 kf_8_68 rfl (Nat.le_of_ble_eq_true rfl) rfl (q_iconst c_193_95 (q_iload_n c_193_96 rfl (v_imul (v := 4 * a3) c_193_97 rfl (q_iload c_193_98 rfl ?_)))))))
  refine v_iadd (v := 4 * a3 + 1) c_193_100 rfl (q_dup2 c_193_101 ⟨rfl, rfl⟩ (v_ia (v := u1) c_193_102 rfl (of_decide_eq_true rfl) (of_decide_eq_true rfl) ⟨(q_83fdbd35d ha3), (q_7a0c0a739 ha3)⟩ (hv7) (q_iload c_193_103 rfl (v_iadd (v := (fal v1 (v2) 1 x1) + u1) c_193_105 (by first | (clear ha1 ha2 ha3 ha4 ha5 hq3 hq4 hq5 h_1 hv0 h_2 hv1 h_3 hv2 h_4 hv3 h_5 hv4 h_6 hv5 h_7 hv6 h_8 hv7 h_9 hv8 h_10 hv9 h_11 hv10 h_12 hv11 h_13 hv12 h_14 hv13 h_15 h_16 h_17 hq0 hq1 hq2; omega) | omega) (v_is c_193_106 rfl (of_decide_eq_true rfl) (of_decide_eq_true rfl) ⟨(q_83fdbd35d ha3), (q_7a0c0a739 ha3)⟩ (q_aload_n c_193_107 rfl (v_gr (t := 59) c_193_108 kf_8_68 rfl (Nat.le_of_ble_eq_true rfl) rfl ?_)))))))
  refine q_iconst c_193_111 (q_iload c_193_112 rfl (v_imul (v := 4 * a4) c_193_114 rfl (q_iload c_193_115 rfl (v_iadd (v := 4 * a4 + 1) c_193_117 rfl (q_dup2 c_193_118 ⟨rfl, rfl⟩ (v_ia (v := w1) c_193_119 rfl (of_decide_eq_true rfl) (of_decide_eq_true rfl) ⟨(q_83fdbd35d ha4), (q_7a0c0a739 ha4)⟩ ((up_n ((q_0f4cbf258 hq2))).trans (hv11)) (q_aload_n c_193_120 rfl ?_)))))))
  refine v_gr (t := 59) c_193_121 kf_8_68 rfl (Nat.le_of_ble_eq_true rfl) rfl (q_iconst c_193_124 (q_iload_n c_193_125 rfl (v_imul (v := 4 * a2) c_193_126 rfl (q_iload c_193_127 rfl (v_iadd (v := 4 * a2 + 1) c_193_129 rfl (v_ia (v := x1) c_193_130 rfl (of_decide_eq_true rfl) (of_decide_eq_true rfl) ⟨(q_83fdbd35d ha2), (q_7a0c0a739 ha2)⟩ ((up_n ((q_fd7998cba hq0))).trans (hv3)) (q_iload c_193_131 rfl ?_)))))))
  refine v_isub (v := x1 - (fal v1 (v2) 1 x1)) c_193_133 rfl (v_iadd (v := w1 + x1 - (fal v1 (v2) 1 x1)) c_193_134 (by first | (clear ha1 ha2 ha3 ha4 ha5 hq3 hq4 hq5 h_1 hv0 h_2 hv1 h_3 hv2 h_4 hv3 h_5 hv4 h_6 hv5 h_7 hv6 h_8 hv7 h_9 hv8 h_10 hv9 h_11 hv10 h_12 hv11 h_13 hv12 h_14 hv13 h_15 h_16 h_17 hq0 hq1 hq2; omega) | omega) (v_is c_193_135 rfl (of_decide_eq_true rfl) (of_decide_eq_true rfl) ⟨(q_83fdbd35d ha4), (q_7a0c0a739 ha4)⟩ (v_iinc (v := 2) c_193_136 rfl (Nat.le_of_ble_eq_true rfl) (of_decide_eq_true rfl) (q_goto (t := 75) c_193_139 rfl ?_))))
  have hI_18 := iw_row (a := 59) (j := 4 * a3 + 1) (v := (fal v1 (v2) 1 x1) + u1) hI (by omega) (Or.inl rfl) ⟨by omega, by omega, by omega⟩
  have hI_19 := iw_row (a := 59) (j := 4 * a4 + 1) (v := w1 + x1 - (fal v1 (v2) 1 x1)) hI_18 (by omega) (Or.inl rfl) ⟨by omega, by omega, by omega⟩
  have hqo_20 : ∀ j : Int, rs 59 j → ¬ j = 4 * a2 → ¬ j = 4 * a3 → ¬ j = 4 * a4 → (up (up c 59 (4 * a3 + 1) ((fal v1 (v2) 1 x1) + u1)) 59 (4 * a4 + 1) (w1 + x1 - (fal v1 (v2) 1 x1))) 59 j + (up (up c 59 (4 * a3 + 1) ((fal v1 (v2) 1 x1) + u1)) 59 (4 * a4 + 1) (w1 + x1 - (fal v1 (v2) 1 x1))) 59 (j + 1) + (up (up c 59 (4 * a3 + 1) ((fal v1 (v2) 1 x1) + u1)) 59 (4 * a4 + 1) (w1 + x1 - (fal v1 (v2) 1 x1))) 59 (j + 2) + (up (up c 59 (4 * a3 + 1) ((fal v1 (v2) 1 x1) + u1)) 59 (4 * a4 + 1) (w1 + x1 - (fal v1 (v2) 1 x1))) 59 (j + 3) ≤ 9999 := by
    intro j9 hj9 hz0 hz1 hz2
    obtain ⟨k9, rfl, hk9⟩ := rs_59 hj9
    have h_21 := hqo (4 * k9) hj9 (by omega) (by omega) (by omega)
    have h_22 := ir_59_g hI (j := 4 * k9) ((q_9f1d5ffdc hk9))
    have h_23 : (up (up c 59 (4 * a3 + 1) ((fal v1 (v2) 1 x1) + u1)) 59 (4 * a4 + 1) (w1 + x1 - (fal v1 (v2) 1 x1))) 59 (4 * k9) = c 59 (4 * k9) := ((up_n ((q_b2cb8bf87))).trans (up_n ((q_b2cb8bf87))))
    have h_24 := ir_59_g hI (j := 4 * k9 + 1) ((q_0a2ee6f8f hk9))
    have h_25 : (up (up c 59 (4 * a3 + 1) ((fal v1 (v2) 1 x1) + u1)) 59 (4 * a4 + 1) (w1 + x1 - (fal v1 (v2) 1 x1))) 59 (4 * k9 + 1) = c 59 (4 * k9 + 1) := ((up_n (by first | (clear ha1 ha2 ha3 ha4 ha5 hq3 hq4 hq5 h_1 hv0 h_2 hv1 h_3 hv2 h_4 hv3 h_5 hv4 h_6 hv5 h_7 hv6 h_8 hv7 h_9 hv8 h_10 hv9 h_11 hv10 h_12 hv11 h_13 hv12 h_14 hv13 h_15 h_16 h_17 hk9 h_22 hq0 hq1 hq2; omega) | omega)).trans (up_n (by first | (clear ha1 ha2 ha3 ha4 ha5 hq3 hq4 hq5 h_1 hv0 h_2 hv1 h_3 hv2 h_4 hv3 h_5 hv4 h_6 hv5 h_7 hv6 h_8 hv7 h_9 hv8 h_10 hv9 h_11 hv10 h_12 hv11 h_13 hv12 h_14 hv13 h_15 h_16 h_17 hk9 h_22 hq0 hq1 hq2; omega) | omega)))
    have h_26 := ir_59_g hI (j := 4 * k9 + 2) ((q_e07a293a2 hk9))
    have h_27 : (up (up c 59 (4 * a3 + 1) ((fal v1 (v2) 1 x1) + u1)) 59 (4 * a4 + 1) (w1 + x1 - (fal v1 (v2) 1 x1))) 59 (4 * k9 + 2) = c 59 (4 * k9 + 2) := ((up_n ((q_08c3d7060))).trans (up_n ((q_08c3d7060))))
    have h_28 := ir_59_g hI (j := 4 * k9 + 3) ((q_d09cb0b73 hk9))
    have h_29 : (up (up c 59 (4 * a3 + 1) ((fal v1 (v2) 1 x1) + u1)) 59 (4 * a4 + 1) (w1 + x1 - (fal v1 (v2) 1 x1))) 59 (4 * k9 + 3) = c 59 (4 * k9 + 3) := ((up_n ((q_6d5c6886e))).trans (up_n ((q_6d5c6886e))))
    omega
  refine Wp_ls [(0, .ref 41), (1, vi a1), (2, vi a2), (3, vi a3), (4, vi a4), (5, vi a5), (6, vi 2)] (lsub_cons rfl (lsub_cons rfl (lsub_cons rfl (lsub_cons rfl (lsub_cons rfl (lsub_cons rfl (lsub_cons rfl lsub_nil))))))) ?_
  exact s_193_2 (v1 := v1) (v2 := v2) (x0 := x0) (x1 := x1) (x2 := x2) (x3 := x3) (u0 := u0) (u1 := (fal v1 (v2) 1 x1) + u1) (u2 := u2) (u3 := u3) (w0 := w0) (w1 := w1 + x1 - (fal v1 (v2) 1 x1)) (w2 := w2) (w3 := w3) (a5 := a5) hI_19 (by omega) (by omega) (by omega) (by omega) (by omega) (by omega) (by omega) (by omega) (by omega) (by omega) (by omega) hqo_20 (((up_c (nn rfl)).trans ((up_c (nn rfl)).trans (hv0)))) (((up_n (ne_g ((q_12e2b7340 ha1 ha4)))).trans ((up_n (ne_g ((q_12e2b7340 ha1 ha3)))).trans (hv1)))) (((up_n ((q_b2cb8bf87))).trans ((up_n ((q_b2cb8bf87))).trans (hv2)))) (((up_n ((q_fd7998cba hq1))).trans ((up_n ((q_fd7998cba hq0))).trans (hv3)))) (((up_n ((q_08c3d7060))).trans ((up_n ((q_08c3d7060))).trans (hv4)))) (((up_n ((q_6d5c6886e))).trans ((up_n ((q_6d5c6886e))).trans (hv5)))) (((up_n ((q_b2cb8bf87))).trans ((up_n ((ne_0a (ni rfl)))).trans (hv6)))) (((up_n ((q_fd7998cba hq2))).trans (up_e rfl))) (((up_n ((q_08c3d7060))).trans ((up_n ((ne_aa (ni rfl)))).trans (hv8)))) (((up_n ((q_6d5c6886e))).trans ((up_n ((ne_aa (ni rfl)))).trans (hv9)))) (((up_n ((ne_0a (ni rfl)))).trans ((up_n ((q_b2cb8bf87))).trans (hv10)))) ((up_e rfl)) (((up_n ((ne_aa (ni rfl)))).trans ((up_n ((q_08c3d7060))).trans (hv12)))) (((up_n ((ne_aa (ni rfl)))).trans ((up_n ((q_6d5c6886e))).trans (hv13)))) (fun c9 y9 hI9 hF9 hy9 => K c9 y9 hI9 (fun a j hm => (hF9 a j (by omega)).trans ((up_b (by omega)).trans (up_b (by omega)))) hy9)
set_option maxRecDepth 100000 in
set_option maxHeartbeats 4000000 in
theorem s_193_0 {sc : List Int32} {d P Q : Nat} {c : ME} {v1 v2 x0 x1 x2 x3 u0 u1 u2 u3 w0 w1 w2 w3 : Int} {a1 : Int} {a2 : Int} {a3 : Int} {a4 : Int} {a5 : Int} {Z : AR → Prop} (hI : Iv 59 (-1) P Q c) (ha1 : 0 ≤ a1 ∧ a1 ≤ 3) (ha2 : 0 ≤ a2 ∧ a2 ≤ 5) (ha3 : 0 ≤ a3 ∧ a3 ≤ 5) (ha4 : 0 ≤ a4 ∧ a4 ≤ 5) (ha5 : (-2147483648) ≤ a5 ∧ a5 ≤ 2147483647) (hq0 : (a2 < a3) ∨ (a2 > a3)) (hq1 : (a2 < a4) ∨ (a2 > a4)) (hq2 : (a3 < a4) ∨ (a3 > a4)) (hq3 : ((fal v1 (v2) 0 x0) + (fal v1 (v2) 1 x1) + (fal v1 (v2) 2 x2) + (fal v1 (v2) 3 x3) + u0 + u1 + u2 + u3 ≤ 9999)) (hq4 : (w0 + w1 + w2 + w3 + x0 + x1 + x2 + x3 - (fal v1 (v2) 0 x0) - (fal v1 (v2) 1 x1) - (fal v1 (v2) 2 x2) - (fal v1 (v2) 3 x3) ≤ 9999)) (hq5 : (x0 + x1 + x2 + x3 ≤ 9999)) (hq6 : ∀ j : Int, rs 59 j → ¬ j = 4 * a2 → ¬ j = 4 * a3 → ¬ j = 4 * a4 → c 59 j + c 59 (j + 1) + c 59 (j + 2) + c 59 (j + 3) ≤ 9999) (hv0 : c 49 a1 = v1) (hv1 : c 59 (a1 + 30) = v2) (hv2 : c 59 (4 * a2) = x0) (hv3 : c 59 (4 * a2 + 1) = x1) (hv4 : c 59 (4 * a2 + 2) = x2) (hv5 : c 59 (4 * a2 + 3) = x3) (hv6 : c 59 (4 * a3) = u0) (hv7 : c 59 (4 * a3 + 1) = u1) (hv8 : c 59 (4 * a3 + 2) = u2) (hv9 : c 59 (4 * a3 + 3) = u3) (hv10 : c 59 (4 * a4) = w0) (hv11 : c 59 (4 * a4 + 1) = w1) (hv12 : c 59 (4 * a4 + 2) = w2) (hv13 : c 59 (4 * a4 + 3) = w3) (K : ∀ (c2 : ME) (y : Int), Iv 0 (-1) P Q c2 → (∀ (a : Nat) (j : Int), ¬ (a = 59) → c2 a j = c a j) → 0 ≤ y ∧ y ≤ 1 → Z (.inl (some (vi y)), Wd P Q P P c2, 0, 0)) : Wp sc (d + 9) 193 75 [(0, .ref 41), (1, vi a1), (2, vi a2), (3, vi a3), (4, vi a4), (5, vi a5), (6, vi 0)] [] (Wd P Q P P c) 0 0 Z := by
  have hP := iv_P hI
  have hQ := iv_Q hI
  have h_1 := ir_49 hI a1
  have h_2 := ir_59 hI (a1 + 30)
  have h_3 := ir_59_g hI (j := 4 * a2) ((q_9f1d5ffdc ha2))
  have h_4 := ir_59_g hI (j := 4 * a2 + 1) ((q_0a2ee6f8f ha2))
  have h_5 := ir_59_g hI (j := 4 * a2 + 2) ((q_e07a293a2 ha2))
  have h_6 := ir_59_g hI (j := 4 * a2 + 3) ((q_d09cb0b73 ha2))
  have h_7 := ir_59_g hI (j := 4 * a3) ((q_9f1d5ffdc ha3))
  have h_8 := ir_59_g hI (j := 4 * a3 + 1) ((q_0a2ee6f8f ha3))
  have h_9 := ir_59_g hI (j := 4 * a3 + 2) ((q_e07a293a2 ha3))
  have h_10 := ir_59_g hI (j := 4 * a3 + 3) ((q_d09cb0b73 ha3))
  have h_11 := ir_59_g hI (j := 4 * a4) ((q_9f1d5ffdc ha4))
  have h_12 := ir_59_g hI (j := 4 * a4 + 1) ((q_0a2ee6f8f ha4))
  have h_13 := ir_59_g hI (j := 4 * a4 + 2) ((q_e07a293a2 ha4))
  have h_14 := ir_59_g hI (j := 4 * a4 + 3) ((q_d09cb0b73 ha4))
  have hqo := hq6
  have h_15 := fal_rng (m := v1) (t := v2) (g := 0) (x := x0) (by omega)
  have h_16 := fal_rng (m := v1) (t := v2) (g := 1) (x := x1) (by omega)
  have h_17 := fal_rng (m := v1) (t := v2) (g := 2) (x := x2) (by omega)
  have h_18 := fal_rng (m := v1) (t := v2) (g := 3) (x := x3) (by omega)
  refine q_iload c_193_75 rfl (q_iconst c_193_77 (v_ic_ge_f (t := 142) c_193_78 rfl (of_decide_eq_true rfl) (q_aload_n c_193_81 rfl (q_iload_n c_193_82 rfl (q_iload_n c_193_83 rfl (q_iload c_193_84 rfl (v_cv c_193_86 km_8_363 rfl rfl (Nat.le_of_ble_eq_true rfl) ⟨⟨rfl, rfl⟩, Nat.le_of_ble_eq_true rfl, rfl⟩ (Nat.le_of_ble_eq_true rfl) (Nat.le_of_ble_eq_true rfl) (s_189 (v1 := v1) (v2 := v2) (v3 := x0) (r := (fal v1 (v2) 0 x0)) (a1 := a1) (a2 := a2) (a3 := 0) hI (show 0 ≤ a1 ∧ a1 ≤ 3 from ha1) (show 0 ≤ a2 ∧ a2 ≤ 5 from ha2) (show 0 ≤ 0 ∧ 0 ≤ 3 from ⟨of_decide_eq_true rfl, of_decide_eq_true rfl⟩) ((hv0)) ((hv1)) ((congrArg (c 59) (show 4 * a2 + 0 = 4 * a2 from by first | exact q_8baad3eb5 | assumption | exact Int.le_antisymm (by omega) (by omega))).trans (hv2)) rfl ?_))))))))
  refine bk_inl (q_istore c_193_89 (Nat.le_of_ble_eq_true rfl) (q_aload_n c_193_91 rfl (v_gr (t := 59) c_193_92 kf_8_68 rfl (Nat.le_of_ble_eq_true rfl) rfl (q_iconst c_193_95 (q_iload_n c_193_96 rfl (v_imul (v := 4 * a3) c_193_97 rfl (q_iload c_193_98 rfl ?_)))))))
  refine v_iadd (v := 4 * a3) c_193_100 (by first | (clear ha1 ha2 ha3 ha4 ha5 hq3 hq4 hq5 h_1 hv0 h_2 hv1 h_3 hv2 h_4 hv3 h_5 hv4 h_6 hv5 h_7 hv6 h_8 hv7 h_9 hv8 h_10 hv9 h_11 hv10 h_12 hv11 h_13 hv12 h_14 hv13 h_15 h_16 h_17 h_18 hq0 hq1 hq2; omega) | omega) (q_dup2 c_193_101 ⟨rfl, rfl⟩ (v_ia (v := u0) c_193_102 rfl (of_decide_eq_true rfl) (of_decide_eq_true rfl) ⟨(q_c065257af ha3), (q_a49915bbb ha3)⟩ (hv6) (q_iload c_193_103 rfl (v_iadd (v := (fal v1 (v2) 0 x0) + u0) c_193_105 (by first | (clear ha1 ha2 ha3 ha4 ha5 hq3 hq4 hq5 h_1 hv0 h_2 hv1 h_3 hv2 h_4 hv3 h_5 hv4 h_6 hv5 h_7 hv6 h_8 hv7 h_9 hv8 h_10 hv9 h_11 hv10 h_12 hv11 h_13 hv12 h_14 hv13 h_15 h_16 h_17 h_18 hq0 hq1 hq2; omega) | omega) (v_is c_193_106 rfl (of_decide_eq_true rfl) (of_decide_eq_true rfl) ⟨(q_c065257af ha3), (q_a49915bbb ha3)⟩ (q_aload_n c_193_107 rfl (v_gr (t := 59) c_193_108 kf_8_68 rfl (Nat.le_of_ble_eq_true rfl) rfl ?_)))))))
  refine q_iconst c_193_111 (q_iload c_193_112 rfl (v_imul (v := 4 * a4) c_193_114 rfl (q_iload c_193_115 rfl (v_iadd (v := 4 * a4) c_193_117 (by first | (clear ha1 ha2 ha3 ha4 ha5 hq3 hq4 hq5 h_1 hv0 h_2 hv1 h_3 hv2 h_4 hv3 h_5 hv4 h_6 hv5 h_7 hv6 h_8 hv7 h_9 hv8 h_10 hv9 h_11 hv10 h_12 hv11 h_13 hv12 h_14 hv13 h_15 h_16 h_17 h_18 hq0 hq1 hq2; omega) | omega) (q_dup2 c_193_118 ⟨rfl, rfl⟩ (v_ia (v := w0) c_193_119 rfl (of_decide_eq_true rfl) (of_decide_eq_true rfl) ⟨(q_c065257af ha4), (q_a49915bbb ha4)⟩ ((up_n ((q_b46fb41fd hq2))).trans (hv10)) (q_aload_n c_193_120 rfl ?_)))))))
  refine v_gr (t := 59) c_193_121 kf_8_68 rfl (Nat.le_of_ble_eq_true rfl) rfl (q_iconst c_193_124 (q_iload_n c_193_125 rfl (v_imul (v := 4 * a2) c_193_126 rfl (q_iload c_193_127 rfl (v_iadd (v := 4 * a2) c_193_129 (by first | (clear ha1 ha2 ha3 ha4 ha5 hq3 hq4 hq5 h_1 hv0 h_2 hv1 h_3 hv2 h_4 hv3 h_5 hv4 h_6 hv5 h_7 hv6 h_8 hv7 h_9 hv8 h_10 hv9 h_11 hv10 h_12 hv11 h_13 hv12 h_14 hv13 h_15 h_16 h_17 h_18 hq0 hq1 hq2; omega) | omega) (v_ia (v := x0) c_193_130 rfl (of_decide_eq_true rfl) (of_decide_eq_true rfl) ⟨(q_c065257af ha2), (q_a49915bbb ha2)⟩ ((up_n ((q_02cacb151 hq0))).trans (hv2)) (q_iload c_193_131 rfl ?_)))))))
  refine v_isub (v := x0 - (fal v1 (v2) 0 x0)) c_193_133 rfl (v_iadd (v := w0 + x0 - (fal v1 (v2) 0 x0)) c_193_134 (by first | (clear ha1 ha2 ha3 ha4 ha5 hq3 hq4 hq5 h_1 hv0 h_2 hv1 h_3 hv2 h_4 hv3 h_5 hv4 h_6 hv5 h_7 hv6 h_8 hv7 h_9 hv8 h_10 hv9 h_11 hv10 h_12 hv11 h_13 hv12 h_14 hv13 h_15 h_16 h_17 h_18 hq0 hq1 hq2; omega) | omega) (v_is c_193_135 rfl (of_decide_eq_true rfl) (of_decide_eq_true rfl) ⟨(q_c065257af ha4), (q_a49915bbb ha4)⟩ (v_iinc (v := 1) c_193_136 rfl (Nat.le_of_ble_eq_true rfl) (of_decide_eq_true rfl) (q_goto (t := 75) c_193_139 rfl ?_))))
  have hI_19 := iw_row (a := 59) (j := 4 * a3) (v := (fal v1 (v2) 0 x0) + u0) hI (by omega) (Or.inl rfl) ⟨by omega, by omega, by omega⟩
  have hI_20 := iw_row (a := 59) (j := 4 * a4) (v := w0 + x0 - (fal v1 (v2) 0 x0)) hI_19 (by omega) (Or.inl rfl) ⟨by omega, by omega, by omega⟩
  have hqo_21 : ∀ j : Int, rs 59 j → ¬ j = 4 * a2 → ¬ j = 4 * a3 → ¬ j = 4 * a4 → (up (up c 59 (4 * a3) ((fal v1 (v2) 0 x0) + u0)) 59 (4 * a4) (w0 + x0 - (fal v1 (v2) 0 x0))) 59 j + (up (up c 59 (4 * a3) ((fal v1 (v2) 0 x0) + u0)) 59 (4 * a4) (w0 + x0 - (fal v1 (v2) 0 x0))) 59 (j + 1) + (up (up c 59 (4 * a3) ((fal v1 (v2) 0 x0) + u0)) 59 (4 * a4) (w0 + x0 - (fal v1 (v2) 0 x0))) 59 (j + 2) + (up (up c 59 (4 * a3) ((fal v1 (v2) 0 x0) + u0)) 59 (4 * a4) (w0 + x0 - (fal v1 (v2) 0 x0))) 59 (j + 3) ≤ 9999 := by
    intro j9 hj9 hz0 hz1 hz2
    obtain ⟨k9, rfl, hk9⟩ := rs_59 hj9
    have h_22 := hqo (4 * k9) hj9 (by omega) (by omega) (by omega)
    have h_23 := ir_59_g hI (j := 4 * k9) ((q_9f1d5ffdc hk9))
    have h_24 : (up (up c 59 (4 * a3) ((fal v1 (v2) 0 x0) + u0)) 59 (4 * a4) (w0 + x0 - (fal v1 (v2) 0 x0))) 59 (4 * k9) = c 59 (4 * k9) := ((up_n (by first | (clear ha1 ha2 ha3 ha4 ha5 hq3 hq4 hq5 h_1 hv0 h_2 hv1 h_3 hv2 h_4 hv3 h_5 hv4 h_6 hv5 h_7 hv6 h_8 hv7 h_9 hv8 h_10 hv9 h_11 hv10 h_12 hv11 h_13 hv12 h_14 hv13 h_15 h_16 h_17 h_18 hk9 hq0 hq1 hq2; omega) | omega)).trans (up_n (by first | (clear ha1 ha2 ha3 ha4 ha5 hq3 hq4 hq5 h_1 hv0 h_2 hv1 h_3 hv2 h_4 hv3 h_5 hv4 h_6 hv5 h_7 hv6 h_8 hv7 h_9 hv8 h_10 hv9 h_11 hv10 h_12 hv11 h_13 hv12 h_14 hv13 h_15 h_16 h_17 h_18 hk9 hq0 hq1 hq2; omega) | omega)))
    have h_25 := ir_59_g hI (j := 4 * k9 + 1) ((q_0a2ee6f8f hk9))
    have h_26 : (up (up c 59 (4 * a3) ((fal v1 (v2) 0 x0) + u0)) 59 (4 * a4) (w0 + x0 - (fal v1 (v2) 0 x0))) 59 (4 * k9 + 1) = c 59 (4 * k9 + 1) := ((up_n ((q_e5bcc673e))).trans (up_n ((q_e5bcc673e))))
    have h_27 := ir_59_g hI (j := 4 * k9 + 2) ((q_e07a293a2 hk9))
    have h_28 : (up (up c 59 (4 * a3) ((fal v1 (v2) 0 x0) + u0)) 59 (4 * a4) (w0 + x0 - (fal v1 (v2) 0 x0))) 59 (4 * k9 + 2) = c 59 (4 * k9 + 2) := ((up_n ((q_ae83e86ba))).trans (up_n ((q_ae83e86ba))))
    have h_29 := ir_59_g hI (j := 4 * k9 + 3) ((q_d09cb0b73 hk9))
    have h_30 : (up (up c 59 (4 * a3) ((fal v1 (v2) 0 x0) + u0)) 59 (4 * a4) (w0 + x0 - (fal v1 (v2) 0 x0))) 59 (4 * k9 + 3) = c 59 (4 * k9 + 3) := ((up_n ((q_b6789388a))).trans (up_n ((q_b6789388a))))
    omega
  refine Wp_ls [(0, .ref 41), (1, vi a1), (2, vi a2), (3, vi a3), (4, vi a4), (5, vi a5), (6, vi 1)] (lsub_cons rfl (lsub_cons rfl (lsub_cons rfl (lsub_cons rfl (lsub_cons rfl (lsub_cons rfl (lsub_cons rfl lsub_nil))))))) ?_
  exact s_193_1 (v1 := v1) (v2 := v2) (x0 := x0) (x1 := x1) (x2 := x2) (x3 := x3) (u0 := (fal v1 (v2) 0 x0) + u0) (u1 := u1) (u2 := u2) (u3 := u3) (w0 := w0 + x0 - (fal v1 (v2) 0 x0)) (w1 := w1) (w2 := w2) (w3 := w3) (a5 := a5) hI_20 (by omega) (by omega) (by omega) (by omega) (by omega) (by omega) (by omega) (by omega) (by omega) (by omega) (by omega) hqo_21 (((up_c (nn rfl)).trans ((up_c (nn rfl)).trans (hv0)))) (((up_n (ne_g ((q_fa2c90da8 ha1 ha4)))).trans ((up_n (ne_g ((q_fa2c90da8 ha1 ha3)))).trans (hv1)))) (((up_n ((q_02cacb151 hq1))).trans ((up_n ((q_02cacb151 hq0))).trans (hv2)))) (((up_n ((q_e5bcc673e))).trans ((up_n ((q_e5bcc673e))).trans (hv3)))) (((up_n ((q_ae83e86ba))).trans ((up_n ((q_ae83e86ba))).trans (hv4)))) (((up_n ((q_b6789388a))).trans ((up_n ((q_b6789388a))).trans (hv5)))) (((up_n ((q_02cacb151 hq2))).trans (up_e rfl))) (((up_n ((q_e5bcc673e))).trans ((up_n ((ne_a0 (ni rfl)))).trans (hv7)))) (((up_n ((q_ae83e86ba))).trans ((up_n ((ne_a0 (ni rfl)))).trans (hv8)))) (((up_n ((q_b6789388a))).trans ((up_n ((ne_a0 (ni rfl)))).trans (hv9)))) ((up_e rfl)) (((up_n ((ne_a0 (ni rfl)))).trans ((up_n ((q_e5bcc673e))).trans (hv11)))) (((up_n ((ne_a0 (ni rfl)))).trans ((up_n ((q_ae83e86ba))).trans (hv12)))) (((up_n ((ne_a0 (ni rfl)))).trans ((up_n ((q_b6789388a))).trans (hv13)))) (fun c9 y9 hI9 hF9 hy9 => K c9 y9 hI9 (fun a j hm => (hF9 a j (by omega)).trans ((up_b (by omega)).trans (up_b (by omega)))) hy9)
set_option maxRecDepth 100000 in
set_option maxHeartbeats 4000000 in
theorem s_193 {sc : List Int32} {d P Q : Nat} {c : ME} {a1 : Int} {a2 : Int} {a3 : Int} {a4 : Int} {Z : AR → Prop} (hI : Iv 0 (-1) P Q c) (ha1 : 0 ≤ a1 ∧ a1 ≤ 3) (ha2 : 0 ≤ a2 ∧ a2 ≤ 5) (ha3 : 0 ≤ a3 ∧ a3 ≤ 5) (ha4 : 0 ≤ a4 ∧ a4 ≤ 5) (K : ∀ (c2 : ME) (y : Int), Iv 0 (-1) P Q c2 → (∀ (a : Nat) (j : Int), ¬ (a = 59) → c2 a j = c a j) → 0 ≤ y ∧ y ≤ 1 → Z (.inl (some (vi y)), Wd P Q P P c2, 0, 0)) : Wp sc (d + 9) 193 0 [(0, .ref 41), (1, vi a1), (2, vi a2), (3, vi a3), (4, vi a4)] [] (Wd P Q P P c) 0 0 Z := by
  have hP := iv_P hI
  have hQ := iv_Q hI
  have hIo : Iv 59 (-1) P Q c := iv_open hI
  have hsum_1 := ir_59_r hI (of_decide_eq_true rfl) (j := a2) (by omega)
  have h_2 := ir_59_g hI (j := 4 * a2) ((q_9f1d5ffdc ha2))
  have h_3 := ir_59_g hI (j := 4 * a2 + 1) ((q_0a2ee6f8f ha2))
  have h_4 := ir_59_g hI (j := 4 * a2 + 2) ((q_e07a293a2 ha2))
  have h_5 := ir_59_g hI (j := 4 * a2 + 3) ((q_d09cb0b73 ha2))
  have hsum_6 := ir_59_r hI (of_decide_eq_true rfl) (j := a3) (by omega)
  have h_7 := ir_59_g hI (j := 4 * a3) ((q_9f1d5ffdc ha3))
  have h_8 := ir_59_g hI (j := 4 * a3 + 1) ((q_0a2ee6f8f ha3))
  have h_9 := ir_59_g hI (j := 4 * a3 + 2) ((q_e07a293a2 ha3))
  have h_10 := ir_59_g hI (j := 4 * a3 + 3) ((q_d09cb0b73 ha3))
  have hsum_11 := ir_59_r hI (of_decide_eq_true rfl) (j := a4) (by omega)
  have h_12 := ir_59_g hI (j := 4 * a4) ((q_9f1d5ffdc ha4))
  have h_13 := ir_59_g hI (j := 4 * a4 + 1) ((q_0a2ee6f8f ha4))
  have h_14 := ir_59_g hI (j := 4 * a4 + 2) ((q_e07a293a2 ha4))
  have h_15 := ir_59_g hI (j := 4 * a4 + 3) ((q_d09cb0b73 ha4))
  refine q_aload_n c_193_0 rfl (q_iload_n c_193_1 rfl (v_cv c_193_2 km_8_343 rfl rfl (Nat.le_of_ble_eq_true rfl) ⟨⟨rfl, rfl⟩, Nat.le_of_ble_eq_true rfl, rfl⟩ (Nat.le_of_ble_eq_true rfl) (Nat.le_of_ble_eq_true rfl) (s_187 (v1 := c 59 (4 * a2)) (v2 := c 59 (4 * a2 + 1)) (v3 := c 59 (4 * a2 + 2)) (v4 := c 59 (4 * a2 + 3)) (r := c 59 (4 * a2 + 1) + c 59 (4 * a2 + 2) + c 59 (4 * a2 + 3) + c 59 (4 * a2)) (a1 := a2) hIo (show 0 ≤ a2 ∧ a2 ≤ 5 from ha2) (rfl) (rfl) (rfl) (rfl) (by omega) (bk_inl ?_))))
  by_cases h_16 : c 59 (4 * a2 + 1) + c 59 (4 * a2 + 2) + c 59 (4 * a2 + 3) + c 59 (4 * a2) = 0
  · refine v_if_eq_t (t := 25) c_193_5 rfl h_16 (q_iconst c_193_25 (v_zret c_193_26 rfl (of_decide_eq_true rfl) ?_))
    have hr_17 : ∀ j : Int, rs 59 j → c 59 j + c 59 (j + 1) + c 59 (j + 2) + c 59 (j + 3) ≤ 9999 := by
      intro j9 hj9
      obtain ⟨k9, rfl, hk9⟩ := rs_59 hj9
      by_cases e_18 : k9 = a2
      · skip
        have h_19 : c 59 (4 * k9) = c 59 (4 * a2) := (congrArg (c 59) (show 4 * k9 = 4 * a2 from by omega))
        have h_20 : c 59 (4 * k9 + 1) = c 59 (4 * a2 + 1) := (congrArg (c 59) (show 4 * k9 + 1 = 4 * a2 + 1 from by omega))
        have h_21 : c 59 (4 * k9 + 2) = c 59 (4 * a2 + 2) := (congrArg (c 59) (show 4 * k9 + 2 = 4 * a2 + 2 from by omega))
        have h_22 : c 59 (4 * k9 + 3) = c 59 (4 * a2 + 3) := (congrArg (c 59) (show 4 * k9 + 3 = 4 * a2 + 3 from by omega))
        omega
      by_cases e_23 : k9 = a3
      · skip
        have h_24 : c 59 (4 * k9) = c 59 (4 * a3) := (congrArg (c 59) (show 4 * k9 = 4 * a3 from by omega))
        have h_25 : c 59 (4 * k9 + 1) = c 59 (4 * a3 + 1) := (congrArg (c 59) (show 4 * k9 + 1 = 4 * a3 + 1 from by omega))
        have h_26 : c 59 (4 * k9 + 2) = c 59 (4 * a3 + 2) := (congrArg (c 59) (show 4 * k9 + 2 = 4 * a3 + 2 from by omega))
        have h_27 : c 59 (4 * k9 + 3) = c 59 (4 * a3 + 3) := (congrArg (c 59) (show 4 * k9 + 3 = 4 * a3 + 3 from by omega))
        omega
      by_cases e_28 : k9 = a4
      · skip
        have h_29 : c 59 (4 * k9) = c 59 (4 * a4) := (congrArg (c 59) (show 4 * k9 = 4 * a4 from by omega))
        have h_30 : c 59 (4 * k9 + 1) = c 59 (4 * a4 + 1) := (congrArg (c 59) (show 4 * k9 + 1 = 4 * a4 + 1 from by omega))
        have h_31 : c 59 (4 * k9 + 2) = c 59 (4 * a4 + 2) := (congrArg (c 59) (show 4 * k9 + 2 = 4 * a4 + 2 from by omega))
        have h_32 : c 59 (4 * k9 + 3) = c 59 (4 * a4 + 3) := (congrArg (c 59) (show 4 * k9 + 3 = 4 * a4 + 3 from by omega))
        omega
      have h_33 := iv_r hI 59 (4 * k9) hj9 (by omega)
      have h_34 := ir_59_g hI (j := 4 * k9) ((q_9f1d5ffdc hk9))
      have h_35 : c 59 (4 * k9) = c 59 (4 * k9) := rfl
      have h_36 := ir_59_g hI (j := 4 * k9 + 1) ((q_0a2ee6f8f hk9))
      have h_37 : c 59 (4 * k9 + 1) = c 59 (4 * k9 + 1) := rfl
      have h_38 := ir_59_g hI (j := 4 * k9 + 2) ((q_e07a293a2 hk9))
      have h_39 : c 59 (4 * k9 + 2) = c 59 (4 * k9 + 2) := rfl
      have h_40 := ir_59_g hI (j := 4 * k9 + 3) ((q_d09cb0b73 hk9))
      have h_41 : c 59 (4 * k9 + 3) = c 59 (4 * k9 + 3) := rfl
      omega
    have hI_42 := iv_close hIo hr_17
    exact K c 0 hI_42 (fun a j hm => rfl) ⟨of_decide_eq_true rfl, of_decide_eq_true rfl⟩
  · refine v_if_eq_f (t := 25) c_193_5 rfl ⟨h_16, ⟨(q_e052ef40e h_2 h_3 h_4 h_5), (q_6719c4bfd hsum_1)⟩, of_decide_eq_true rfl, of_decide_eq_true rfl⟩ (q_iload_n c_193_8 rfl (q_iload_n c_193_9 rfl ?_))
    by_cases h_43 : a2 = a3
    · refine v_ic_eq_t (t := 25) c_193_10 rfl h_43 (q_iconst c_193_25 (v_zret c_193_26 rfl (of_decide_eq_true rfl) ?_))
      have hr_44 : ∀ j : Int, rs 59 j → c 59 j + c 59 (j + 1) + c 59 (j + 2) + c 59 (j + 3) ≤ 9999 := by
        intro j9 hj9
        obtain ⟨k9, rfl, hk9⟩ := rs_59 hj9
        by_cases e_45 : k9 = a2
        · skip
          have h_46 : c 59 (4 * k9) = c 59 (4 * a2) := (congrArg (c 59) (show 4 * k9 = 4 * a2 from by first | assumption | exact Int.le_antisymm (by omega) (by omega)))
          have h_47 : c 59 (4 * k9 + 1) = c 59 (4 * a2 + 1) := (congrArg (c 59) (show 4 * k9 + 1 = 4 * a2 + 1 from by first | assumption | exact Int.le_antisymm (by omega) (by omega)))
          have h_48 : c 59 (4 * k9 + 2) = c 59 (4 * a2 + 2) := (congrArg (c 59) (show 4 * k9 + 2 = 4 * a2 + 2 from by first | assumption | exact Int.le_antisymm (by omega) (by omega)))
          have h_49 : c 59 (4 * k9 + 3) = c 59 (4 * a2 + 3) := (congrArg (c 59) (show 4 * k9 + 3 = 4 * a2 + 3 from by first | assumption | exact Int.le_antisymm (by omega) (by omega)))
          omega
        by_cases e_50 : k9 = a3
        · skip
          have h_51 : c 59 (4 * k9) = c 59 (4 * a3) := (congrArg (c 59) (show 4 * k9 = 4 * a3 from by first | assumption | exact Int.le_antisymm (by omega) (by omega)))
          have h_52 : c 59 (4 * k9 + 1) = c 59 (4 * a3 + 1) := (congrArg (c 59) (show 4 * k9 + 1 = 4 * a3 + 1 from by first | assumption | exact Int.le_antisymm (by omega) (by omega)))
          have h_53 : c 59 (4 * k9 + 2) = c 59 (4 * a3 + 2) := (congrArg (c 59) (show 4 * k9 + 2 = 4 * a3 + 2 from by first | assumption | exact Int.le_antisymm (by omega) (by omega)))
          have h_54 : c 59 (4 * k9 + 3) = c 59 (4 * a3 + 3) := (congrArg (c 59) (show 4 * k9 + 3 = 4 * a3 + 3 from by first | assumption | exact Int.le_antisymm (by omega) (by omega)))
          omega
        by_cases e_55 : k9 = a4
        · skip
          have h_56 : c 59 (4 * k9) = c 59 (4 * a4) := (congrArg (c 59) (show 4 * k9 = 4 * a4 from by first | assumption | exact Int.le_antisymm (by omega) (by omega)))
          have h_57 : c 59 (4 * k9 + 1) = c 59 (4 * a4 + 1) := (congrArg (c 59) (show 4 * k9 + 1 = 4 * a4 + 1 from by first | assumption | exact Int.le_antisymm (by omega) (by omega)))
          have h_58 : c 59 (4 * k9 + 2) = c 59 (4 * a4 + 2) := (congrArg (c 59) (show 4 * k9 + 2 = 4 * a4 + 2 from by first | assumption | exact Int.le_antisymm (by omega) (by omega)))
          have h_59 : c 59 (4 * k9 + 3) = c 59 (4 * a4 + 3) := (congrArg (c 59) (show 4 * k9 + 3 = 4 * a4 + 3 from by first | assumption | exact Int.le_antisymm (by omega) (by omega)))
          omega
        have h_60 := iv_r hI 59 (4 * k9) hj9 (by omega)
        have h_61 := ir_59_g hI (j := 4 * k9) ((q_9f1d5ffdc hk9))
        have h_62 : c 59 (4 * k9) = c 59 (4 * k9) := rfl
        have h_63 := ir_59_g hI (j := 4 * k9 + 1) ((q_0a2ee6f8f hk9))
        have h_64 : c 59 (4 * k9 + 1) = c 59 (4 * k9 + 1) := rfl
        have h_65 := ir_59_g hI (j := 4 * k9 + 2) ((q_e07a293a2 hk9))
        have h_66 : c 59 (4 * k9 + 2) = c 59 (4 * k9 + 2) := rfl
        have h_67 := ir_59_g hI (j := 4 * k9 + 3) ((q_d09cb0b73 hk9))
        have h_68 : c 59 (4 * k9 + 3) = c 59 (4 * k9 + 3) := rfl
        omega
      have hI_69 := iv_close hIo hr_44
      exact K c 0 hI_69 (fun a j hm => rfl) ⟨of_decide_eq_true rfl, of_decide_eq_true rfl⟩
    · refine v_ic_eq_f (t := 25) c_193_10 rfl ⟨h_43, ⟨(lel ha2.1 rfl), (ler ha2.2 rfl)⟩, (lel ha3.1 rfl), (ler ha3.2 rfl)⟩ (q_iload_n c_193_13 rfl (q_iload c_193_14 rfl ?_))
      by_cases h_70 : a2 = a4
      · refine v_ic_eq_t (t := 25) c_193_16 rfl h_70 (q_iconst c_193_25 (v_zret c_193_26 rfl (of_decide_eq_true rfl) ?_))
        have hr_71 : ∀ j : Int, rs 59 j → c 59 j + c 59 (j + 1) + c 59 (j + 2) + c 59 (j + 3) ≤ 9999 := by
          intro j9 hj9
          obtain ⟨k9, rfl, hk9⟩ := rs_59 hj9
          by_cases e_72 : k9 = a2
          · skip
            have h_73 : c 59 (4 * k9) = c 59 (4 * a2) := (congrArg (c 59) (show 4 * k9 = 4 * a2 from by first | assumption | exact Int.le_antisymm (by omega) (by omega)))
            have h_74 : c 59 (4 * k9 + 1) = c 59 (4 * a2 + 1) := (congrArg (c 59) (show 4 * k9 + 1 = 4 * a2 + 1 from by first | assumption | exact Int.le_antisymm (by omega) (by omega)))
            have h_75 : c 59 (4 * k9 + 2) = c 59 (4 * a2 + 2) := (congrArg (c 59) (show 4 * k9 + 2 = 4 * a2 + 2 from by first | assumption | exact Int.le_antisymm (by omega) (by omega)))
            have h_76 : c 59 (4 * k9 + 3) = c 59 (4 * a2 + 3) := (congrArg (c 59) (show 4 * k9 + 3 = 4 * a2 + 3 from by first | assumption | exact Int.le_antisymm (by omega) (by omega)))
            omega
          by_cases e_77 : k9 = a3
          · skip
            have h_78 : c 59 (4 * k9) = c 59 (4 * a3) := (congrArg (c 59) (show 4 * k9 = 4 * a3 from by first | assumption | exact Int.le_antisymm (by omega) (by omega)))
            have h_79 : c 59 (4 * k9 + 1) = c 59 (4 * a3 + 1) := (congrArg (c 59) (show 4 * k9 + 1 = 4 * a3 + 1 from by first | assumption | exact Int.le_antisymm (by omega) (by omega)))
            have h_80 : c 59 (4 * k9 + 2) = c 59 (4 * a3 + 2) := (congrArg (c 59) (show 4 * k9 + 2 = 4 * a3 + 2 from by first | assumption | exact Int.le_antisymm (by omega) (by omega)))
            have h_81 : c 59 (4 * k9 + 3) = c 59 (4 * a3 + 3) := (congrArg (c 59) (show 4 * k9 + 3 = 4 * a3 + 3 from by first | assumption | exact Int.le_antisymm (by omega) (by omega)))
            omega
          by_cases e_82 : k9 = a4
          · skip
            have h_83 : c 59 (4 * k9) = c 59 (4 * a4) := (congrArg (c 59) (show 4 * k9 = 4 * a4 from by first | assumption | exact Int.le_antisymm (by omega) (by omega)))
            have h_84 : c 59 (4 * k9 + 1) = c 59 (4 * a4 + 1) := (congrArg (c 59) (show 4 * k9 + 1 = 4 * a4 + 1 from by first | assumption | exact Int.le_antisymm (by omega) (by omega)))
            have h_85 : c 59 (4 * k9 + 2) = c 59 (4 * a4 + 2) := (congrArg (c 59) (show 4 * k9 + 2 = 4 * a4 + 2 from by first | assumption | exact Int.le_antisymm (by omega) (by omega)))
            have h_86 : c 59 (4 * k9 + 3) = c 59 (4 * a4 + 3) := (congrArg (c 59) (show 4 * k9 + 3 = 4 * a4 + 3 from by first | assumption | exact Int.le_antisymm (by omega) (by omega)))
            omega
          have h_87 := iv_r hI 59 (4 * k9) hj9 (by omega)
          have h_88 := ir_59_g hI (j := 4 * k9) ((q_9f1d5ffdc hk9))
          have h_89 : c 59 (4 * k9) = c 59 (4 * k9) := rfl
          have h_90 := ir_59_g hI (j := 4 * k9 + 1) ((q_0a2ee6f8f hk9))
          have h_91 : c 59 (4 * k9 + 1) = c 59 (4 * k9 + 1) := rfl
          have h_92 := ir_59_g hI (j := 4 * k9 + 2) ((q_e07a293a2 hk9))
          have h_93 : c 59 (4 * k9 + 2) = c 59 (4 * k9 + 2) := rfl
          have h_94 := ir_59_g hI (j := 4 * k9 + 3) ((q_d09cb0b73 hk9))
          have h_95 : c 59 (4 * k9 + 3) = c 59 (4 * k9 + 3) := rfl
          omega
        have hI_96 := iv_close hIo hr_71
        exact K c 0 hI_96 (fun a j hm => rfl) ⟨of_decide_eq_true rfl, of_decide_eq_true rfl⟩
      · refine v_ic_eq_f (t := 25) c_193_16 rfl ⟨h_70, ⟨(lel ha2.1 rfl), (ler ha2.2 rfl)⟩, (lel ha4.1 rfl), (ler ha4.2 rfl)⟩ (q_iload_n c_193_19 rfl (q_iload c_193_20 rfl ?_))
        by_cases h_97 : a3 ≠ a4
        · refine v_ic_ne_t (t := 27) c_193_22 rfl ⟨h_97, ⟨(lel ha3.1 rfl), (ler ha3.2 rfl)⟩, (lel ha4.1 rfl), (ler ha4.2 rfl)⟩ (q_aload_n c_193_27 rfl (q_iload_n c_193_28 rfl (q_iload_n c_193_29 rfl ?_)))
          have h_98 := ir_49 hI a1
          have h_99 := ir_59 hI (a1 + 30)
          have h_100 := fal_rng (m := c 49 a1) (t := c 59 (a1 + 30)) (g := 0) (x := c 59 (4 * a2)) ((q_c6ed8760d h_2))
          have h_101 := fal_rng (m := c 49 a1) (t := c 59 (a1 + 30)) (g := 1) (x := c 59 (4 * a2 + 1)) ((q_c6ed8760d h_3))
          have h_102 := fal_rng (m := c 49 a1) (t := c 59 (a1 + 30)) (g := 2) (x := c 59 (4 * a2 + 2)) ((q_c6ed8760d h_4))
          have h_103 := fal_rng (m := c 49 a1) (t := c 59 (a1 + 30)) (g := 3) (x := c 59 (4 * a2 + 3)) ((q_c6ed8760d h_5))
          refine v_cv c_193_30 km_8_366 rfl rfl (Nat.le_of_ble_eq_true rfl) ⟨⟨rfl, rfl⟩, Nat.le_of_ble_eq_true rfl, rfl⟩ (Nat.le_of_ble_eq_true rfl) (Nat.le_of_ble_eq_true rfl) (s_190 (v1 := c 49 a1) (v2 := c 59 (a1 + 30)) (v3 := c 59 (4 * a2)) (v4 := c 59 (4 * a2 + 1)) (v5 := c 59 (4 * a2 + 2)) (v6 := c 59 (4 * a2 + 3)) (r := (fal (c 49 a1) (c 59 (a1 + 30)) 0 (c 59 (4 * a2))) + (fal (c 49 a1) (c 59 (a1 + 30)) 1 (c 59 (4 * a2 + 1))) + (fal (c 49 a1) (c 59 (a1 + 30)) 2 (c 59 (4 * a2 + 2))) + (fal (c 49 a1) (c 59 (a1 + 30)) 3 (c 59 (4 * a2 + 3)))) (a1 := a1) (a2 := a2) hIo (show 0 ≤ a1 ∧ a1 ≤ 3 from ha1) (show 0 ≤ a2 ∧ a2 ≤ 5 from ha2) (rfl) (rfl) (rfl) (rfl) (rfl) (rfl) rfl (bk_inl (q_istore c_193_33 (Nat.le_of_ble_eq_true rfl) (q_aload_n c_193_35 rfl (q_iload_n c_193_36 rfl (v_cv c_193_37 km_8_343 rfl rfl (Nat.le_of_ble_eq_true rfl) ⟨⟨rfl, rfl⟩, Nat.le_of_ble_eq_true rfl, rfl⟩ (Nat.le_of_ble_eq_true rfl) (Nat.le_of_ble_eq_true rfl) (s_187 (v1 := c 59 (4 * a3)) (v2 := c 59 (4 * a3 + 1)) (v3 := c 59 (4 * a3 + 2)) (v4 := c 59 (4 * a3 + 3)) (r := c 59 (4 * a3 + 1) + c 59 (4 * a3 + 2) + c 59 (4 * a3 + 3) + c 59 (4 * a3)) (a1 := a3) hIo (show 0 ≤ a3 ∧ a3 ≤ 5 from ha3) (rfl) (rfl) (rfl) (rfl) (by omega) (bk_inl (q_iload c_193_40 rfl ?_)))))))))
          refine v_iadd (v := (fal (c 49 a1) (c 59 (a1 + 30)) 0 (c 59 (4 * a2))) + (fal (c 49 a1) (c 59 (a1 + 30)) 1 (c 59 (4 * a2 + 1))) + (fal (c 49 a1) (c 59 (a1 + 30)) 2 (c 59 (4 * a2 + 2))) + (fal (c 49 a1) (c 59 (a1 + 30)) 3 (c 59 (4 * a2 + 3))) + c 59 (4 * a3 + 1) + c 59 (4 * a3 + 2) + c 59 (4 * a3 + 3) + c 59 (4 * a3)) rfl (by first | (clear ha1 ha2 ha3 ha4 h_2 h_3 h_4 h_5 hsum_1 h_7 h_8 h_9 h_10 hsum_6 h_12 h_13 h_14 h_15 hsum_11 h_98 h_99 h_100 h_101 h_102 h_103 h_16 h_43 h_70 h_97; omega) | omega) (v_sip c_193_43 (of_decide_eq_true rfl) ?_)
          by_cases h_104 : (fal (c 49 a1) (c 59 (a1 + 30)) 0 (c 59 (4 * a2))) + (fal (c 49 a1) (c 59 (a1 + 30)) 1 (c 59 (4 * a2 + 1))) + (fal (c 49 a1) (c 59 (a1 + 30)) 2 (c 59 (4 * a2 + 2))) + (fal (c 49 a1) (c 59 (a1 + 30)) 3 (c 59 (4 * a2 + 3))) + c 59 (4 * a3 + 1) + c 59 (4 * a3 + 2) + c 59 (4 * a3 + 3) + c 59 (4 * a3) > 9999
          · refine v_ic_gt_t (t := 70) c_193_46 rfl ⟨of_decide_eq_true rfl, h_104, (q_aef5b7b01 h_100 h_101 h_102 h_103 hsum_1 hsum_6)⟩ (q_iconst c_193_70 (v_zret c_193_71 rfl (of_decide_eq_true rfl) ?_))
            have hr_105 : ∀ j : Int, rs 59 j → c 59 j + c 59 (j + 1) + c 59 (j + 2) + c 59 (j + 3) ≤ 9999 := by
              intro j9 hj9
              obtain ⟨k9, rfl, hk9⟩ := rs_59 hj9
              by_cases e_106 : k9 = a2
              · skip
                have h_107 : c 59 (4 * k9) = c 59 (4 * a2) := (congrArg (c 59) (show 4 * k9 = 4 * a2 from by first | assumption | exact Int.le_antisymm (by omega) (by omega)))
                have h_108 : c 59 (4 * k9 + 1) = c 59 (4 * a2 + 1) := (congrArg (c 59) (show 4 * k9 + 1 = 4 * a2 + 1 from by first | assumption | exact Int.le_antisymm (by omega) (by omega)))
                have h_109 : c 59 (4 * k9 + 2) = c 59 (4 * a2 + 2) := (congrArg (c 59) (show 4 * k9 + 2 = 4 * a2 + 2 from by first | assumption | exact Int.le_antisymm (by omega) (by omega)))
                have h_110 : c 59 (4 * k9 + 3) = c 59 (4 * a2 + 3) := (congrArg (c 59) (show 4 * k9 + 3 = 4 * a2 + 3 from by first | assumption | exact Int.le_antisymm (by omega) (by omega)))
                omega
              by_cases e_111 : k9 = a3
              · skip
                have h_112 : c 59 (4 * k9) = c 59 (4 * a3) := (congrArg (c 59) (show 4 * k9 = 4 * a3 from by first | assumption | exact Int.le_antisymm (by omega) (by omega)))
                have h_113 : c 59 (4 * k9 + 1) = c 59 (4 * a3 + 1) := (congrArg (c 59) (show 4 * k9 + 1 = 4 * a3 + 1 from by first | assumption | exact Int.le_antisymm (by omega) (by omega)))
                have h_114 : c 59 (4 * k9 + 2) = c 59 (4 * a3 + 2) := (congrArg (c 59) (show 4 * k9 + 2 = 4 * a3 + 2 from by first | assumption | exact Int.le_antisymm (by omega) (by omega)))
                have h_115 : c 59 (4 * k9 + 3) = c 59 (4 * a3 + 3) := (congrArg (c 59) (show 4 * k9 + 3 = 4 * a3 + 3 from by first | assumption | exact Int.le_antisymm (by omega) (by omega)))
                omega
              by_cases e_116 : k9 = a4
              · skip
                have h_117 : c 59 (4 * k9) = c 59 (4 * a4) := (congrArg (c 59) (show 4 * k9 = 4 * a4 from by first | assumption | exact Int.le_antisymm (by omega) (by omega)))
                have h_118 : c 59 (4 * k9 + 1) = c 59 (4 * a4 + 1) := (congrArg (c 59) (show 4 * k9 + 1 = 4 * a4 + 1 from by first | assumption | exact Int.le_antisymm (by omega) (by omega)))
                have h_119 : c 59 (4 * k9 + 2) = c 59 (4 * a4 + 2) := (congrArg (c 59) (show 4 * k9 + 2 = 4 * a4 + 2 from by first | assumption | exact Int.le_antisymm (by omega) (by omega)))
                have h_120 : c 59 (4 * k9 + 3) = c 59 (4 * a4 + 3) := (congrArg (c 59) (show 4 * k9 + 3 = 4 * a4 + 3 from by first | assumption | exact Int.le_antisymm (by omega) (by omega)))
                omega
              have h_121 := iv_r hI 59 (4 * k9) hj9 (by omega)
              have h_122 := ir_59_g hI (j := 4 * k9) ((q_9f1d5ffdc hk9))
              have h_123 : c 59 (4 * k9) = c 59 (4 * k9) := rfl
              have h_124 := ir_59_g hI (j := 4 * k9 + 1) ((q_0a2ee6f8f hk9))
              have h_125 : c 59 (4 * k9 + 1) = c 59 (4 * k9 + 1) := rfl
              have h_126 := ir_59_g hI (j := 4 * k9 + 2) ((q_e07a293a2 hk9))
              have h_127 : c 59 (4 * k9 + 2) = c 59 (4 * k9 + 2) := rfl
              have h_128 := ir_59_g hI (j := 4 * k9 + 3) ((q_d09cb0b73 hk9))
              have h_129 : c 59 (4 * k9 + 3) = c 59 (4 * k9 + 3) := rfl
              omega
            have hI_130 := iv_close hIo hr_105
            exact K c 0 hI_130 (fun a j hm => rfl) ⟨of_decide_eq_true rfl, of_decide_eq_true rfl⟩
          · refine v_ic_gt_f (t := 70) c_193_46 rfl ⟨(q_8738771ec h_10 h_100 h_101 h_102 h_103 h_7 h_8 h_9), (Int.not_lt.mp h_104), of_decide_eq_true rfl⟩ (q_aload_n c_193_49 rfl (q_iload c_193_50 rfl (v_cv c_193_52 km_8_343 rfl rfl (Nat.le_of_ble_eq_true rfl) ⟨⟨rfl, rfl⟩, Nat.le_of_ble_eq_true rfl, rfl⟩ (Nat.le_of_ble_eq_true rfl) (Nat.le_of_ble_eq_true rfl) (s_187 (v1 := c 59 (4 * a4)) (v2 := c 59 (4 * a4 + 1)) (v3 := c 59 (4 * a4 + 2)) (v4 := c 59 (4 * a4 + 3)) (r := c 59 (4 * a4 + 1) + c 59 (4 * a4 + 2) + c 59 (4 * a4 + 3) + c 59 (4 * a4)) (a1 := a4) hIo (show 0 ≤ a4 ∧ a4 ≤ 5 from ha4) (rfl) (rfl) (rfl) (rfl) (by omega) (bk_inl (q_aload_n c_193_55 rfl (q_iload_n c_193_56 rfl (v_cv c_193_57 km_8_343 rfl rfl (Nat.le_of_ble_eq_true rfl) ⟨⟨rfl, rfl⟩, Nat.le_of_ble_eq_true rfl, rfl⟩ (Nat.le_of_ble_eq_true rfl) (Nat.le_of_ble_eq_true rfl) (s_187 (v1 := c 59 (4 * a2)) (v2 := c 59 (4 * a2 + 1)) (v3 := c 59 (4 * a2 + 2)) (v4 := c 59 (4 * a2 + 3)) (r := c 59 (4 * a2 + 1) + c 59 (4 * a2 + 2) + c 59 (4 * a2 + 3) + c 59 (4 * a2)) (a1 := a2) hIo (show 0 ≤ a2 ∧ a2 ≤ 5 from ha2) (rfl) (rfl) (rfl) (rfl) (by omega) ?_)))))))))
            refine bk_inl (v_iadd (v := c 59 (4 * a2 + 1) + c 59 (4 * a2 + 2) + c 59 (4 * a2 + 3) + c 59 (4 * a2) + c 59 (4 * a4 + 1) + c 59 (4 * a4 + 2) + c 59 (4 * a4 + 3) + c 59 (4 * a4)) c_193_60 (by first | (clear ha1 ha2 ha3 ha4 h_2 h_3 h_4 h_5 hsum_1 h_7 h_8 h_9 h_10 hsum_6 h_12 h_13 h_14 h_15 hsum_11 h_98 h_99 h_100 h_101 h_102 h_103 h_104 h_16 h_43 h_70 h_97; omega) | omega) (q_iload c_193_61 rfl (v_isub (v := c 59 (4 * a2 + 1) + c 59 (4 * a2 + 2) + c 59 (4 * a2 + 3) + c 59 (4 * a2) + c 59 (4 * a4 + 1) + c 59 (4 * a4 + 2) + c 59 (4 * a4 + 3) + c 59 (4 * a4) - (fal (c 49 a1) (c 59 (a1 + 30)) 0 (c 59 (4 * a2))) - (fal (c 49 a1) (c 59 (a1 + 30)) 1 (c 59 (4 * a2 + 1))) - (fal (c 49 a1) (c 59 (a1 + 30)) 2 (c 59 (4 * a2 + 2))) - (fal (c 49 a1) (c 59 (a1 + 30)) 3 (c 59 (4 * a2 + 3)))) rfl (by first | (clear ha1 ha2 ha3 ha4 h_2 h_3 h_4 h_5 hsum_1 h_7 h_8 h_9 h_10 hsum_6 h_12 h_13 h_14 h_15 hsum_11 h_98 h_99 h_100 h_101 h_102 h_103 h_104 h_16 h_43 h_70 h_97; omega) | omega) (v_sip c_193_64 (of_decide_eq_true rfl) ?_))))
            by_cases h_131 : c 59 (4 * a2 + 1) + c 59 (4 * a2 + 2) + c 59 (4 * a2 + 3) + c 59 (4 * a2) + c 59 (4 * a4 + 1) + c 59 (4 * a4 + 2) + c 59 (4 * a4 + 3) + c 59 (4 * a4) - (fal (c 49 a1) (c 59 (a1 + 30)) 0 (c 59 (4 * a2))) - (fal (c 49 a1) (c 59 (a1 + 30)) 1 (c 59 (4 * a2 + 1))) - (fal (c 49 a1) (c 59 (a1 + 30)) 2 (c 59 (4 * a2 + 2))) - (fal (c 49 a1) (c 59 (a1 + 30)) 3 (c 59 (4 * a2 + 3))) ≤ 9999
            · refine v_ic_le_t (t := 72) c_193_67 rfl ⟨(q_f1f5545e9 h_100 h_101 h_102 h_103 h_12 h_13 h_14 h_15), h_131, of_decide_eq_true rfl⟩ (q_iconst c_193_72 (q_istore c_193_73 (Nat.le_of_ble_eq_true rfl) ?_))
              have hqo_132 : ∀ j : Int, rs 59 j → ¬ j = 4 * a2 → ¬ j = 4 * a3 → ¬ j = 4 * a4 → c 59 j + c 59 (j + 1) + c 59 (j + 2) + c 59 (j + 3) ≤ 9999 := by
                intro j9 hj9 hz0 hz1 hz2
                obtain ⟨k9, rfl, hk9⟩ := rs_59 hj9
                have h_133 := iv_r hI 59 (4 * k9) hj9 (by omega)
                have h_134 := ir_59_g hI (j := 4 * k9) ((q_9f1d5ffdc hk9))
                have h_135 : c 59 (4 * k9) = c 59 (4 * k9) := rfl
                have h_136 := ir_59_g hI (j := 4 * k9 + 1) ((q_0a2ee6f8f hk9))
                have h_137 : c 59 (4 * k9 + 1) = c 59 (4 * k9 + 1) := rfl
                have h_138 := ir_59_g hI (j := 4 * k9 + 2) ((q_e07a293a2 hk9))
                have h_139 : c 59 (4 * k9 + 2) = c 59 (4 * k9 + 2) := rfl
                have h_140 := ir_59_g hI (j := 4 * k9 + 3) ((q_d09cb0b73 hk9))
                have h_141 : c 59 (4 * k9 + 3) = c 59 (4 * k9 + 3) := rfl
                omega
              refine Wp_ls [(0, .ref 41), (1, vi a1), (2, vi a2), (3, vi a3), (4, vi a4), (5, vi ((fal (c 49 a1) (c 59 (a1 + 30)) 0 (c 59 (4 * a2))) + (fal (c 49 a1) (c 59 (a1 + 30)) 1 (c 59 (4 * a2 + 1))) + (fal (c 49 a1) (c 59 (a1 + 30)) 2 (c 59 (4 * a2 + 2))) + (fal (c 49 a1) (c 59 (a1 + 30)) 3 (c 59 (4 * a2 + 3))))), (6, vi 0)] (lsub_cons rfl (lsub_cons rfl (lsub_cons rfl (lsub_cons rfl (lsub_cons rfl (lsub_cons rfl (lsub_cons rfl lsub_nil))))))) ?_
              exact s_193_0 (v1 := c 49 a1) (v2 := c 59 (a1 + 30)) (x0 := c 59 (4 * a2)) (x1 := c 59 (4 * a2 + 1)) (x2 := c 59 (4 * a2 + 2)) (x3 := c 59 (4 * a2 + 3)) (u0 := c 59 (4 * a3)) (u1 := c 59 (4 * a3 + 1)) (u2 := c 59 (4 * a3 + 2)) (u3 := c 59 (4 * a3 + 3)) (w0 := c 59 (4 * a4)) (w1 := c 59 (4 * a4 + 1)) (w2 := c 59 (4 * a4 + 2)) (w3 := c 59 (4 * a4 + 3)) (a5 := (fal (c 49 a1) (c 59 (a1 + 30)) 0 (c 59 (4 * a2))) + (fal (c 49 a1) (c 59 (a1 + 30)) 1 (c 59 (4 * a2 + 1))) + (fal (c 49 a1) (c 59 (a1 + 30)) 2 (c 59 (4 * a2 + 2))) + (fal (c 49 a1) (c 59 (a1 + 30)) 3 (c 59 (4 * a2 + 3)))) hIo (by omega) (by omega) (by omega) (by omega) (by omega) (by omega) (by omega) (by omega) (by omega) (by omega) (by omega) hqo_132 rfl rfl rfl rfl rfl rfl rfl rfl rfl rfl rfl rfl rfl rfl (fun c9 y9 hI9 hF9 hy9 => K c9 y9 hI9 (fun a j hm => (hF9 a j (by omega)).trans (rfl)) hy9)
            · refine v_ic_le_f (t := 72) c_193_67 rfl ⟨of_decide_eq_true rfl, (Int.not_le.mp h_131), (q_ff5a6990a h_100 h_101 h_102 h_103 hsum_1 hsum_11)⟩ (q_iconst c_193_70 (v_zret c_193_71 rfl (of_decide_eq_true rfl) ?_))
              have hr_142 : ∀ j : Int, rs 59 j → c 59 j + c 59 (j + 1) + c 59 (j + 2) + c 59 (j + 3) ≤ 9999 := by
                intro j9 hj9
                obtain ⟨k9, rfl, hk9⟩ := rs_59 hj9
                by_cases e_143 : k9 = a2
                · skip
                  have h_144 : c 59 (4 * k9) = c 59 (4 * a2) := (congrArg (c 59) (show 4 * k9 = 4 * a2 from by first | assumption | exact Int.le_antisymm (by omega) (by omega)))
                  have h_145 : c 59 (4 * k9 + 1) = c 59 (4 * a2 + 1) := (congrArg (c 59) (show 4 * k9 + 1 = 4 * a2 + 1 from by first | assumption | exact Int.le_antisymm (by omega) (by omega)))
                  have h_146 : c 59 (4 * k9 + 2) = c 59 (4 * a2 + 2) := (congrArg (c 59) (show 4 * k9 + 2 = 4 * a2 + 2 from by first | assumption | exact Int.le_antisymm (by omega) (by omega)))
                  have h_147 : c 59 (4 * k9 + 3) = c 59 (4 * a2 + 3) := (congrArg (c 59) (show 4 * k9 + 3 = 4 * a2 + 3 from by first | assumption | exact Int.le_antisymm (by omega) (by omega)))
                  omega
                by_cases e_148 : k9 = a3
                · skip
                  have h_149 : c 59 (4 * k9) = c 59 (4 * a3) := (congrArg (c 59) (show 4 * k9 = 4 * a3 from by first | assumption | exact Int.le_antisymm (by omega) (by omega)))
                  have h_150 : c 59 (4 * k9 + 1) = c 59 (4 * a3 + 1) := (congrArg (c 59) (show 4 * k9 + 1 = 4 * a3 + 1 from by first | assumption | exact Int.le_antisymm (by omega) (by omega)))
                  have h_151 : c 59 (4 * k9 + 2) = c 59 (4 * a3 + 2) := (congrArg (c 59) (show 4 * k9 + 2 = 4 * a3 + 2 from by first | assumption | exact Int.le_antisymm (by omega) (by omega)))
                  have h_152 : c 59 (4 * k9 + 3) = c 59 (4 * a3 + 3) := (congrArg (c 59) (show 4 * k9 + 3 = 4 * a3 + 3 from by first | assumption | exact Int.le_antisymm (by omega) (by omega)))
                  omega
                by_cases e_153 : k9 = a4
                · skip
                  have h_154 : c 59 (4 * k9) = c 59 (4 * a4) := (congrArg (c 59) (show 4 * k9 = 4 * a4 from by first | assumption | exact Int.le_antisymm (by omega) (by omega)))
                  have h_155 : c 59 (4 * k9 + 1) = c 59 (4 * a4 + 1) := (congrArg (c 59) (show 4 * k9 + 1 = 4 * a4 + 1 from by first | assumption | exact Int.le_antisymm (by omega) (by omega)))
                  have h_156 : c 59 (4 * k9 + 2) = c 59 (4 * a4 + 2) := (congrArg (c 59) (show 4 * k9 + 2 = 4 * a4 + 2 from by first | assumption | exact Int.le_antisymm (by omega) (by omega)))
                  have h_157 : c 59 (4 * k9 + 3) = c 59 (4 * a4 + 3) := (congrArg (c 59) (show 4 * k9 + 3 = 4 * a4 + 3 from by first | assumption | exact Int.le_antisymm (by omega) (by omega)))
                  omega
                have h_158 := iv_r hI 59 (4 * k9) hj9 (by omega)
                have h_159 := ir_59_g hI (j := 4 * k9) ((q_9f1d5ffdc hk9))
                have h_160 : c 59 (4 * k9) = c 59 (4 * k9) := rfl
                have h_161 := ir_59_g hI (j := 4 * k9 + 1) ((q_0a2ee6f8f hk9))
                have h_162 : c 59 (4 * k9 + 1) = c 59 (4 * k9 + 1) := rfl
                have h_163 := ir_59_g hI (j := 4 * k9 + 2) ((q_e07a293a2 hk9))
                have h_164 : c 59 (4 * k9 + 2) = c 59 (4 * k9 + 2) := rfl
                have h_165 := ir_59_g hI (j := 4 * k9 + 3) ((q_d09cb0b73 hk9))
                have h_166 : c 59 (4 * k9 + 3) = c 59 (4 * k9 + 3) := rfl
                omega
              have hI_167 := iv_close hIo hr_142
              exact K c 0 hI_167 (fun a j hm => rfl) ⟨of_decide_eq_true rfl, of_decide_eq_true rfl⟩
        · refine v_ic_ne_f (t := 27) c_193_22 rfl (Decidable.not_not.mp h_97) (q_iconst c_193_25 (v_zret c_193_26 rfl (of_decide_eq_true rfl) ?_))
          have hr_168 : ∀ j : Int, rs 59 j → c 59 j + c 59 (j + 1) + c 59 (j + 2) + c 59 (j + 3) ≤ 9999 := by
            intro j9 hj9
            obtain ⟨k9, rfl, hk9⟩ := rs_59 hj9
            by_cases e_169 : k9 = a2
            · skip
              have h_170 : c 59 (4 * k9) = c 59 (4 * a2) := (congrArg (c 59) (show 4 * k9 = 4 * a2 from by first | assumption | exact Int.le_antisymm (by omega) (by omega)))
              have h_171 : c 59 (4 * k9 + 1) = c 59 (4 * a2 + 1) := (congrArg (c 59) (show 4 * k9 + 1 = 4 * a2 + 1 from by first | assumption | exact Int.le_antisymm (by omega) (by omega)))
              have h_172 : c 59 (4 * k9 + 2) = c 59 (4 * a2 + 2) := (congrArg (c 59) (show 4 * k9 + 2 = 4 * a2 + 2 from by first | assumption | exact Int.le_antisymm (by omega) (by omega)))
              have h_173 : c 59 (4 * k9 + 3) = c 59 (4 * a2 + 3) := (congrArg (c 59) (show 4 * k9 + 3 = 4 * a2 + 3 from by first | assumption | exact Int.le_antisymm (by omega) (by omega)))
              omega
            by_cases e_174 : k9 = a3
            · skip
              have h_175 : c 59 (4 * k9) = c 59 (4 * a3) := (congrArg (c 59) (show 4 * k9 = 4 * a3 from by first | assumption | exact Int.le_antisymm (by omega) (by omega)))
              have h_176 : c 59 (4 * k9 + 1) = c 59 (4 * a3 + 1) := (congrArg (c 59) (show 4 * k9 + 1 = 4 * a3 + 1 from by first | assumption | exact Int.le_antisymm (by omega) (by omega)))
              have h_177 : c 59 (4 * k9 + 2) = c 59 (4 * a3 + 2) := (congrArg (c 59) (show 4 * k9 + 2 = 4 * a3 + 2 from by first | assumption | exact Int.le_antisymm (by omega) (by omega)))
              have h_178 : c 59 (4 * k9 + 3) = c 59 (4 * a3 + 3) := (congrArg (c 59) (show 4 * k9 + 3 = 4 * a3 + 3 from by first | assumption | exact Int.le_antisymm (by omega) (by omega)))
              omega
            by_cases e_179 : k9 = a4
            · skip
              have h_180 : c 59 (4 * k9) = c 59 (4 * a4) := (congrArg (c 59) (show 4 * k9 = 4 * a4 from by first | assumption | exact Int.le_antisymm (by omega) (by omega)))
              have h_181 : c 59 (4 * k9 + 1) = c 59 (4 * a4 + 1) := (congrArg (c 59) (show 4 * k9 + 1 = 4 * a4 + 1 from by first | assumption | exact Int.le_antisymm (by omega) (by omega)))
              have h_182 : c 59 (4 * k9 + 2) = c 59 (4 * a4 + 2) := (congrArg (c 59) (show 4 * k9 + 2 = 4 * a4 + 2 from by first | assumption | exact Int.le_antisymm (by omega) (by omega)))
              have h_183 : c 59 (4 * k9 + 3) = c 59 (4 * a4 + 3) := (congrArg (c 59) (show 4 * k9 + 3 = 4 * a4 + 3 from by first | assumption | exact Int.le_antisymm (by omega) (by omega)))
              omega
            have h_184 := iv_r hI 59 (4 * k9) hj9 (by omega)
            have h_185 := ir_59_g hI (j := 4 * k9) ((q_9f1d5ffdc hk9))
            have h_186 : c 59 (4 * k9) = c 59 (4 * k9) := rfl
            have h_187 := ir_59_g hI (j := 4 * k9 + 1) ((q_0a2ee6f8f hk9))
            have h_188 : c 59 (4 * k9 + 1) = c 59 (4 * k9 + 1) := rfl
            have h_189 := ir_59_g hI (j := 4 * k9 + 2) ((q_e07a293a2 hk9))
            have h_190 : c 59 (4 * k9 + 2) = c 59 (4 * k9 + 2) := rfl
            have h_191 := ir_59_g hI (j := 4 * k9 + 3) ((q_d09cb0b73 hk9))
            have h_192 : c 59 (4 * k9 + 3) = c 59 (4 * k9 + 3) := rfl
            omega
          have hI_193 := iv_close hIo hr_168
          exact K c 0 hI_193 (fun a j hm => rfl) ⟨of_decide_eq_true rfl, of_decide_eq_true rfl⟩

