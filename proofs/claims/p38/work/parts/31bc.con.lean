section
/-! ===== contracts 16 ===== -/
theorem q_7612369dc {x0 x1 x2 : Int} : x0 + (x1 - x2) = x0 + x1 - x2 := by omega
theorem q_71ae66e09 {x0 x1 x2 x3 : Int} (f0 : (x0 = 0 ∧ x1 = 0 ∧ x2 = 0 ∧ x3 = 0)) : x0 + (x1) + (x2) + (x3) ≤ 9999 := by omega
theorem q_030f50e77 {x0 x1 x2 x3 x4 : Int} (f0 : (x0 + x1 + x2 + x3 + x4 ≤ 9999)) : x1 + x2 + x3 + (x0 + x4) ≤ 9999 := by omega
theorem q_77b2d579a {x0 x1 x2 x3 x4 x5 : Int} (f0 : (x0 + x1 + x2 + x3 + x4 - x5 ≤ 9999)) : x0 + x1 + x2 + (x3 + x4 - x5) ≤ 9999 := by omega
theorem q_a964d3f86 {x0 x1 x2 x3 : Int} (f0 : (x0 + x1 + x2 + x3 ≤ 9999)) : x0 + x1 + x2 + x3 ≤ 2147483647 := by omega
theorem q_beed56cbb {x0 x1 : Int} (f0 : (x0 < x1) ∨ (x0 > x1)) : ¬ x0 + 24 = x1 + 24 := by omega
theorem q_25cce9136 {x0 x1 : Int} (f0 : 0 ≤ x0 ∧ x0 ≤ 3) (f1 : 0 ≤ x1 ∧ x1 ≤ 5) : 4 * x1 + 2 < x0 + 30 := by omega
theorem q_12e2b7340 {x0 x1 : Int} (f0 : 0 ≤ x0 ∧ x0 ≤ 3) (f1 : 0 ≤ x1 ∧ x1 ≤ 5) : 4 * x1 + 1 < x0 + 30 := by omega
theorem q_fa2c90da8 {x0 x1 : Int} (f0 : 0 ≤ x0 ∧ x0 ≤ 3) (f1 : 0 ≤ x1 ∧ x1 ≤ 5) : 4 * x1 < x0 + 30 := by omega
theorem q_e0be0ad53 {x0 x1 x2 x3 x4 x5 x6 x7 x8 x9 x10 x11 : Int} : x0 + x1 + x2 + x3 + x4 + x5 + x6 + x7 - (x8 + x9 + x10 + x11) = x0 + x1 + x2 + x3 + x4 + x5 + x6 + x7 - x8 - x9 - x10 - x11 := by omega
theorem c_193_75 : mLk 193 75 = some (.iload 6, 2) := rfl
theorem c_193_77 : mLk 193 77 = some (.iconst 4, 1) := rfl
theorem c_193_78 : mLk 193 78 = some (.if_icmp .ge 64, 3) := rfl
theorem c_193_81 : mLk 193 81 = some (.aload_n 0, 1) := rfl
theorem c_193_82 : mLk 193 82 = some (.iload_n 1, 1) := rfl
theorem c_193_83 : mLk 193 83 = some (.iload_n 2, 1) := rfl
theorem c_193_84 : mLk 193 84 = some (.iload 6, 2) := rfl
theorem c_193_86 : mLk 193 86 = some (.invokevirtual 363, 3) := rfl
theorem c_193_89 : mLk 193 89 = some (.istore 7, 2) := rfl
theorem c_193_91 : mLk 193 91 = some (.aload_n 0, 1) := rfl
theorem c_193_92 : mLk 193 92 = some (.getfield 68, 3) := rfl
theorem c_193_95 : mLk 193 95 = some (.iconst 4, 1) := rfl
theorem c_193_96 : mLk 193 96 = some (.iload_n 3, 1) := rfl
theorem c_193_97 : mLk 193 97 = some (.imul, 1) := rfl
theorem c_193_98 : mLk 193 98 = some (.iload 6, 2) := rfl
theorem c_193_100 : mLk 193 100 = some (.iadd, 1) := rfl
theorem c_193_101 : mLk 193 101 = some (.dup2, 1) := rfl
theorem c_193_102 : mLk 193 102 = some (.iaload, 1) := rfl
theorem c_193_103 : mLk 193 103 = some (.iload 7, 2) := rfl
theorem c_193_105 : mLk 193 105 = some (.iadd, 1) := rfl
theorem c_193_106 : mLk 193 106 = some (.iastore, 1) := rfl
theorem c_193_107 : mLk 193 107 = some (.aload_n 0, 1) := rfl
theorem c_193_108 : mLk 193 108 = some (.getfield 68, 3) := rfl
theorem c_193_111 : mLk 193 111 = some (.iconst 4, 1) := rfl
theorem c_193_112 : mLk 193 112 = some (.iload 4, 2) := rfl
theorem c_193_114 : mLk 193 114 = some (.imul, 1) := rfl
theorem c_193_115 : mLk 193 115 = some (.iload 6, 2) := rfl
theorem c_193_117 : mLk 193 117 = some (.iadd, 1) := rfl
theorem c_193_118 : mLk 193 118 = some (.dup2, 1) := rfl
theorem c_193_119 : mLk 193 119 = some (.iaload, 1) := rfl
theorem c_193_120 : mLk 193 120 = some (.aload_n 0, 1) := rfl
theorem c_193_121 : mLk 193 121 = some (.getfield 68, 3) := rfl
theorem c_193_124 : mLk 193 124 = some (.iconst 4, 1) := rfl
theorem c_193_125 : mLk 193 125 = some (.iload_n 2, 1) := rfl
theorem c_193_126 : mLk 193 126 = some (.imul, 1) := rfl
theorem c_193_127 : mLk 193 127 = some (.iload 6, 2) := rfl
theorem c_193_129 : mLk 193 129 = some (.iadd, 1) := rfl
theorem c_193_130 : mLk 193 130 = some (.iaload, 1) := rfl
theorem c_193_131 : mLk 193 131 = some (.iload 7, 2) := rfl
theorem c_193_133 : mLk 193 133 = some (.isub, 1) := rfl
theorem c_193_134 : mLk 193 134 = some (.iadd, 1) := rfl
theorem c_193_135 : mLk 193 135 = some (.iastore, 1) := rfl
theorem c_193_136 : mLk 193 136 = some (.iinc 6 1, 3) := rfl
theorem c_193_139 : mLk 193 139 = some (.goto (-64), 3) := rfl
theorem c_193_142 : mLk 193 142 = some (.iload 5, 2) := rfl
theorem c_193_144 : mLk 193 144 = some (.ifCond .le 17, 3) := rfl
theorem c_193_161 : mLk 193 161 = some (.iload 5, 2) := rfl
theorem c_193_163 : mLk 193 163 = some (.aload_n 0, 1) := rfl
theorem c_193_164 : mLk 193 164 = some (.iload_n 2, 1) := rfl
theorem c_193_165 : mLk 193 165 = some (.invokevirtual 343, 3) := rfl
theorem c_193_168 : mLk 193 168 = some (.if_icmp .ge 18, 3) := rfl
theorem c_193_186 : mLk 193 186 = some (.aload_n 0, 1) := rfl
theorem c_193_187 : mLk 193 187 = some (.iload_n 2, 1) := rfl
theorem c_193_188 : mLk 193 188 = some (.invokevirtual 372, 3) := rfl
theorem c_193_191 : mLk 193 191 = some (.iconst 1, 1) := rfl
theorem c_193_192 : mLk 193 192 = some (.ireturn, 1) := rfl
theorem c_193_171 : mLk 193 171 = some (.aload_n 0, 1) := rfl
theorem c_193_172 : mLk 193 172 = some (.iload 4, 2) := rfl
theorem c_193_174 : mLk 193 174 = some (.aload_n 0, 1) := rfl
theorem c_193_175 : mLk 193 175 = some (.getfield 68, 3) := rfl
theorem c_193_178 : mLk 193 178 = some (.bipush 24, 2) := rfl
theorem c_193_180 : mLk 193 180 = some (.iload_n 2, 1) := rfl
theorem c_193_181 : mLk 193 181 = some (.iadd, 1) := rfl
theorem c_193_182 : mLk 193 182 = some (.iaload, 1) := rfl
theorem c_193_183 : mLk 193 183 = some (.invokevirtual 369, 3) := rfl
theorem c_193_147 : mLk 193 147 = some (.aload_n 0, 1) := rfl
theorem c_193_148 : mLk 193 148 = some (.iload_n 3, 1) := rfl
theorem c_193_149 : mLk 193 149 = some (.aload_n 0, 1) := rfl
theorem c_193_150 : mLk 193 150 = some (.getfield 68, 3) := rfl
theorem c_193_153 : mLk 193 153 = some (.bipush 24, 2) := rfl
theorem c_193_155 : mLk 193 155 = some (.iload_n 2, 1) := rfl
theorem c_193_156 : mLk 193 156 = some (.iadd, 1) := rfl
theorem c_193_157 : mLk 193 157 = some (.iaload, 1) := rfl
theorem c_193_158 : mLk 193 158 = some (.invokevirtual 369, 3) := rfl
theorem c_193_0 : mLk 193 0 = some (.aload_n 0, 1) := rfl
theorem c_193_1 : mLk 193 1 = some (.iload_n 2, 1) := rfl
theorem c_193_2 : mLk 193 2 = some (.invokevirtual 343, 3) := rfl
theorem c_193_5 : mLk 193 5 = some (.ifCond .eq 20, 3) := rfl
theorem c_193_25 : mLk 193 25 = some (.iconst 0, 1) := rfl
theorem c_193_26 : mLk 193 26 = some (.ireturn, 1) := rfl
theorem c_193_8 : mLk 193 8 = some (.iload_n 2, 1) := rfl
theorem c_193_9 : mLk 193 9 = some (.iload_n 3, 1) := rfl
theorem c_193_10 : mLk 193 10 = some (.if_icmp .eq 15, 3) := rfl
theorem c_193_13 : mLk 193 13 = some (.iload_n 2, 1) := rfl
theorem c_193_14 : mLk 193 14 = some (.iload 4, 2) := rfl
theorem c_193_16 : mLk 193 16 = some (.if_icmp .eq 9, 3) := rfl
theorem c_193_19 : mLk 193 19 = some (.iload_n 3, 1) := rfl
theorem c_193_20 : mLk 193 20 = some (.iload 4, 2) := rfl
theorem c_193_22 : mLk 193 22 = some (.if_icmp .ne 5, 3) := rfl
theorem c_193_27 : mLk 193 27 = some (.aload_n 0, 1) := rfl
theorem c_193_28 : mLk 193 28 = some (.iload_n 1, 1) := rfl
theorem c_193_29 : mLk 193 29 = some (.iload_n 2, 1) := rfl
theorem c_193_30 : mLk 193 30 = some (.invokevirtual 366, 3) := rfl
theorem c_193_33 : mLk 193 33 = some (.istore 5, 2) := rfl
theorem c_193_35 : mLk 193 35 = some (.aload_n 0, 1) := rfl
theorem c_193_36 : mLk 193 36 = some (.iload_n 3, 1) := rfl
theorem c_193_37 : mLk 193 37 = some (.invokevirtual 343, 3) := rfl
theorem c_193_40 : mLk 193 40 = some (.iload 5, 2) := rfl
theorem c_193_43 : mLk 193 43 = some (.sipush 9999, 3) := rfl
theorem c_193_46 : mLk 193 46 = some (.if_icmp .gt 24, 3) := rfl
theorem c_193_70 : mLk 193 70 = some (.iconst 0, 1) := rfl
theorem c_193_71 : mLk 193 71 = some (.ireturn, 1) := rfl
theorem c_193_49 : mLk 193 49 = some (.aload_n 0, 1) := rfl
theorem c_193_50 : mLk 193 50 = some (.iload 4, 2) := rfl
theorem c_193_52 : mLk 193 52 = some (.invokevirtual 343, 3) := rfl
theorem c_193_55 : mLk 193 55 = some (.aload_n 0, 1) := rfl
theorem c_193_56 : mLk 193 56 = some (.iload_n 2, 1) := rfl
theorem c_193_57 : mLk 193 57 = some (.invokevirtual 343, 3) := rfl
theorem c_193_60 : mLk 193 60 = some (.iadd, 1) := rfl
theorem c_193_61 : mLk 193 61 = some (.iload 5, 2) := rfl
theorem c_193_64 : mLk 193 64 = some (.sipush 9999, 3) := rfl
theorem c_193_67 : mLk 193 67 = some (.if_icmp .le 5, 3) := rfl
theorem c_193_72 : mLk 193 72 = some (.iconst 0, 1) := rfl
theorem c_193_73 : mLk 193 73 = some (.istore 6, 2) := rfl
theorem km_8_366 : a_lk (kM 8) 366 = some (0, 190) := rfl
theorem km_8_369 : a_lk (kM 8) 369 = some (0, 191) := rfl
theorem km_8_372 : a_lk (kM 8) 372 = some (0, 192) := rfl
set_option maxRecDepth 100000 in
set_option maxHeartbeats 4000000 in
theorem s_193_3 {sc : List Int32} {d P Q : Nat} {c : ME} {v1 v2 x0 x1 x2 x3 u0 u1 u2 u3 w0 w1 w2 w3 : Int} {a1 : Int} {a2 : Int} {a3 : Int} {a4 : Int} {a5 : Int} {Z : AR → Prop} (hI : Iv 59 (-1) P Q c) (ha1 : 0 ≤ a1 ∧ a1 ≤ 3) (ha2 : 0 ≤ a2 ∧ a2 ≤ 5) (ha3 : 0 ≤ a3 ∧ a3 ≤ 5) (ha4 : 0 ≤ a4 ∧ a4 ≤ 5) (ha5 : (-2147483648) ≤ a5 ∧ a5 ≤ 2147483647) (hq0 : (a2 < a3) ∨ (a2 > a3)) (hq1 : (a2 < a4) ∨ (a2 > a4)) (hq2 : (a3 < a4) ∨ (a3 > a4)) (hq3 : ((fal v1 (v2) 3 x3) + u0 + u1 + u2 + u3 ≤ 9999)) (hq4 : (w0 + w1 + w2 + w3 + x3 - (fal v1 (v2) 3 x3) ≤ 9999)) (hq5 : (x0 + x1 + x2 + x3 ≤ 9999)) (hq6 : ∀ j : Int, rs 59 j → ¬ j = 4 * a2 → ¬ j = 4 * a3 → ¬ j = 4 * a4 → c 59 j + c 59 (j + 1) + c 59 (j + 2) + c 59 (j + 3) ≤ 9999) (hv0 : c 49 a1 = v1) (hv1 : c 59 (a1 + 30) = v2) (hv2 : c 59 (4 * a2) = x0) (hv3 : c 59 (4 * a2 + 1) = x1) (hv4 : c 59 (4 * a2 + 2) = x2) (hv5 : c 59 (4 * a2 + 3) = x3) (hv6 : c 59 (4 * a3) = u0) (hv7 : c 59 (4 * a3 + 1) = u1) (hv8 : c 59 (4 * a3 + 2) = u2) (hv9 : c 59 (4 * a3 + 3) = u3) (hv10 : c 59 (4 * a4) = w0) (hv11 : c 59 (4 * a4 + 1) = w1) (hv12 : c 59 (4 * a4 + 2) = w2) (hv13 : c 59 (4 * a4 + 3) = w3) (K : ∀ (c2 : ME) (y : Int), Iv 0 (-1) P Q c2 → (∀ (a : Nat) (j : Int), ¬ (a = 59) → c2 a j = c a j) → 0 ≤ y ∧ y ≤ 1 → Z (.inl (some (vi y)), Wd P Q P P c2, 0, 0)) : Wp sc (d + 9) 193 75 [(0, .ref 41), (1, vi a1), (2, vi a2), (3, vi a3), (4, vi a4), (5, vi a5), (6, vi 3)] [] (Wd P Q P P c) 0 0 Z := by
  have hP := iv_P hI
  have hQ := iv_Q hI
  have h_1 := ir_49 hI a1
  have h_2 := ir_59 hI (a1 + 30)
  have h_3 := ir_59_g hI (j := 4 * a2) (by first | exact q_9f1d5ffdc ha2 | omega)
  have h_4 := ir_59_g hI (j := 4 * a2 + 1) (by first | exact q_0a2ee6f8f ha2 | omega)
  have h_5 := ir_59_g hI (j := 4 * a2 + 2) (by first | exact q_e07a293a2 ha2 | omega)
  have h_6 := ir_59_g hI (j := 4 * a2 + 3) (by first | exact q_d09cb0b73 ha2 | omega)
  have h_7 := ir_59_g hI (j := 4 * a3) (by first | exact q_9f1d5ffdc ha3 | omega)
  have h_8 := ir_59_g hI (j := 4 * a3 + 1) (by first | exact q_0a2ee6f8f ha3 | omega)
  have h_9 := ir_59_g hI (j := 4 * a3 + 2) (by first | exact q_e07a293a2 ha3 | omega)
  have h_10 := ir_59_g hI (j := 4 * a3 + 3) (by first | exact q_d09cb0b73 ha3 | omega)
  have h_11 := ir_59_g hI (j := 4 * a4) (by first | exact q_9f1d5ffdc ha4 | omega)
  have h_12 := ir_59_g hI (j := 4 * a4 + 1) (by first | exact q_0a2ee6f8f ha4 | omega)
  have h_13 := ir_59_g hI (j := 4 * a4 + 2) (by first | exact q_e07a293a2 ha4 | omega)
  have h_14 := ir_59_g hI (j := 4 * a4 + 3) (by first | exact q_d09cb0b73 ha4 | omega)
  have hqo := hq6
  have h_15 := fal_rng (m := v1) (t := v2) (g := 3) (x := x3) (by omega)
  refine q_iload c_193_75 rfl (q_iconst c_193_77 (v_ic_ge_f (t := 142) c_193_78 rfl (by decide) (q_aload_n c_193_81 rfl (q_iload_n c_193_82 rfl (q_iload_n c_193_83 rfl (q_iload c_193_84 rfl (v_cv c_193_86 km_8_363 rfl rfl (nb_ rfl) ⟨⟨rfl, rfl⟩, nb_ rfl, rfl⟩ (nb_ rfl) (nb_ rfl) (s_189 (v1 := v1) (v2 := v2) (v3 := x3) (r := (fal v1 (v2) 3 x3)) (a1 := a1) (a2 := a2) (a3 := 3) hI (show 0 ≤ a1 ∧ a1 ≤ 3 from ha1) (show 0 ≤ a2 ∧ a2 ≤ 5 from ha2) (show 0 ≤ 3 ∧ 3 ≤ 3 from ⟨by decide, by decide⟩) ((hv0)) ((hv1)) ((hv5)) rfl ?_))))))))
  refine bk_inl (q_istore c_193_89 (nb_ rfl) (q_aload_n c_193_91 rfl (v_gr (t := 59) c_193_92 kf_8_68 rfl (nb_ rfl) rfl (q_iconst c_193_95 (q_iload_n c_193_96 rfl (v_imul (v := 4 * a3) c_193_97 rfl (q_iload c_193_98 rfl ?_)))))))
  refine v_iadd (v := 4 * a3 + 3) c_193_100 rfl (q_dup2 c_193_101 ⟨rfl, rfl⟩ (v_ia (v := u3) c_193_102 rfl (by decide) (by decide) ⟨by first | exact q_f6be69137 ha3 | omega, by first | exact q_6b2d832d4 ha3 | omega⟩ (hv9) (q_iload c_193_103 rfl (v_iadd (v := (fal v1 (v2) 3 x3) + u3) c_193_105 (by first | exact q_893c89ded | omega) (v_is c_193_106 rfl (by decide) (by decide) ⟨by first | exact q_f6be69137 ha3 | omega, by first | exact q_6b2d832d4 ha3 | omega⟩ (q_aload_n c_193_107 rfl (v_gr (t := 59) c_193_108 kf_8_68 rfl (nb_ rfl) rfl ?_)))))))
  refine q_iconst c_193_111 (q_iload c_193_112 rfl (v_imul (v := 4 * a4) c_193_114 rfl (q_iload c_193_115 rfl (v_iadd (v := 4 * a4 + 3) c_193_117 rfl (q_dup2 c_193_118 ⟨rfl, rfl⟩ (v_ia (v := w3) c_193_119 rfl (by decide) (by decide) ⟨by first | exact q_f6be69137 ha4 | omega, by first | exact q_6b2d832d4 ha4 | omega⟩ ((up_n (by first | exact q_ca906b5de hq2 | omega)).trans (hv13)) (q_aload_n c_193_120 rfl ?_)))))))
  refine v_gr (t := 59) c_193_121 kf_8_68 rfl (nb_ rfl) rfl (q_iconst c_193_124 (q_iload_n c_193_125 rfl (v_imul (v := 4 * a2) c_193_126 rfl (q_iload c_193_127 rfl (v_iadd (v := 4 * a2 + 3) c_193_129 rfl (v_ia (v := x3) c_193_130 rfl (by decide) (by decide) ⟨by first | exact q_f6be69137 ha2 | omega, by first | exact q_6b2d832d4 ha2 | omega⟩ ((up_n (by first | exact q_a8d3e8094 hq0 | omega)).trans (hv5)) (q_iload c_193_131 rfl ?_)))))))
  refine v_isub (v := x3 - (fal v1 (v2) 3 x3)) c_193_133 rfl (v_iadd (v := w3 + x3 - (fal v1 (v2) 3 x3)) c_193_134 (by first | exact q_7612369dc | omega) (v_is c_193_135 rfl (by decide) (by decide) ⟨by first | exact q_f6be69137 ha4 | omega, by first | exact q_6b2d832d4 ha4 | omega⟩ (v_iinc (v := 4) c_193_136 rfl (nb_ rfl) (by decide) (q_goto (t := 75) c_193_139 rfl (q_iload c_193_75 rfl (q_iconst c_193_77 (v_ic_ge_t (t := 142) c_193_78 rfl (by decide) ?_)))))))
  refine q_iload c_193_142 rfl ?_
  by_cases h_16 : a5 ≤ 0
  · refine v_if_le_t (t := 161) c_193_144 rfl ⟨ha5.1, h_16, by decide⟩ (q_iload c_193_161 rfl (q_aload_n c_193_163 rfl (q_iload_n c_193_164 rfl ?_)))
    have hI_17 := iwr0 (a := 59) (j := 4 * a3 + 3) (v := (fal v1 (v2) 3 x3) + u3) hI (by decide) ⟨by first | (clear ha1 ha2 ha3 ha4 ha5 hq3 hq4 hq5 h_1 hv0 h_2 hv1 h_3 hv2 h_4 hv3 h_5 hv4 h_6 hv5 h_7 hv6 h_8 hv7 h_9 hv8 h_11 hv10 h_12 hv11 h_13 hv12 h_14 hv13 h_16 hq0 hq1 hq2; omega) | omega, by first | (clear ha1 ha2 ha3 ha4 ha5 hq4 hq5 h_1 hv0 h_2 hv1 h_3 hv2 h_4 hv3 h_5 hv4 h_6 hv5 h_10 hv9 h_11 hv10 h_12 hv11 h_13 hv12 h_14 hv13 h_15 h_16 hq0 hq1 hq2; omega) | omega⟩
    have hI_18 := iwr0 (a := 59) (j := 4 * a4 + 3) (v := w3 + x3 - (fal v1 (v2) 3 x3)) hI_17 (by decide) ⟨by first | (clear ha1 ha2 ha3 ha4 ha5 hq3 hq4 hq5 h_1 hv0 h_2 hv1 h_3 hv2 h_4 hv3 h_5 hv4 h_6 hv5 h_7 hv6 h_8 hv7 h_9 hv8 h_10 hv9 h_11 hv10 h_12 hv11 h_13 hv12 h_16 hq0 hq1 hq2; omega) | omega, by first | (clear ha1 ha2 ha3 ha4 ha5 hq3 hq5 h_1 hv0 h_2 hv1 h_3 hv2 h_4 hv3 h_5 hv4 h_6 hv5 h_7 hv6 h_8 hv7 h_9 hv8 h_10 hv9 h_14 hv13 h_15 h_16 hq0 hq1 hq2; omega) | omega⟩
    refine v_cv c_193_165 km_8_343 rfl rfl (nb_ rfl) ⟨⟨rfl, rfl⟩, nb_ rfl, rfl⟩ (nb_ rfl) (nb_ rfl) (s_187 (v1 := x0) (v2 := x1) (v3 := x2) (v4 := x3) (r := x0 + x1 + x2 + x3) (a1 := a2) hI_18 (show 0 ≤ a2 ∧ a2 ≤ 5 from ha2) (((up_n (by first | exact q_8ac71c5f3 | omega)).trans ((up_n (by first | exact q_8ac71c5f3 | omega)).trans (hv2)))) (((up_n (by first | exact q_7c6b1b09a | omega)).trans ((up_n (by first | exact q_7c6b1b09a | omega)).trans (hv3)))) (((up_n (by first | exact q_91c5bd343 | omega)).trans ((up_n (by first | exact q_91c5bd343 | omega)).trans (hv4)))) (((up_n (by first | exact q_a8d3e8094 hq1 | omega)).trans ((up_n (by first | exact q_a8d3e8094 hq0 | omega)).trans (hv5)))) (by omega) (bk_inl ?_))
    by_cases h_19 : a5 ≥ x0 + x1 + x2 + x3
    · refine v_ic_ge_t (t := 186) c_193_168 rfl ⟨by first | (clear ha1 ha2 ha3 ha4 ha5 hq3 hq4 hq5 h_1 hv0 h_2 hv1 h_7 hv6 h_8 hv7 h_9 hv8 h_10 hv9 h_11 hv10 h_12 hv11 h_13 hv12 h_14 hv13 h_15 h_16 hq0 hq1 hq2; omega) | omega, h_19, ha5.2⟩ (q_aload_n c_193_186 rfl (q_iload_n c_193_187 rfl (v_cv c_193_188 km_8_372 rfl rfl (nb_ rfl) ⟨⟨rfl, rfl⟩, nb_ rfl, rfl⟩ (nb_ rfl) (nb_ rfl) (s_192 (a1 := a2) hI_18 (show 0 ≤ a2 ∧ a2 ≤ 5 from ha2) (fun c_20 hI_21 hF_22 h_23 => (bk_inl ?_))))))
      have h_24 := ir_59_g hI_21 (j := 4 * a2 + 1) (by first | exact q_0a2ee6f8f ha2 | omega)
      have h_25 := ir_59_g hI_21 (j := 4 * a2 + 2) (by first | exact q_e07a293a2 ha2 | omega)
      have h_26 := ir_59_g hI_21 (j := 4 * a2 + 3) (by first | exact q_d09cb0b73 ha2 | omega)
      have h_27 := ir_59_g hI_21 (j := 4 * a2) (by first | exact q_9f1d5ffdc ha2 | omega)
      refine q_iconst c_193_191 (v_zret c_193_192 rfl (by decide) ?_)
      have hr_28 : ∀ j : Int, rs 59 j → c_20 59 j + c_20 59 (j + 1) + c_20 59 (j + 2) + c_20 59 (j + 3) ≤ 9999 := by
        intro j9 hj9
        obtain ⟨k9, rfl, hk9⟩ := rs_59 hj9
        by_cases e_29 : k9 = a2
        · skip
          have h_30 : c_20 59 (4 * k9) = c_20 59 (4 * a2) := (congrArg (c_20 59) (show 4 * k9 = 4 * a2 from congrArg (fun z : Int => 4 * z) e_29))
          have h_31 : c_20 59 (4 * k9 + 1) = c_20 59 (4 * a2 + 1) := (congrArg (c_20 59) (show 4 * k9 + 1 = 4 * a2 + 1 from congrArg (fun z : Int => 4 * z + 1) e_29))
          have h_32 : c_20 59 (4 * k9 + 2) = c_20 59 (4 * a2 + 2) := (congrArg (c_20 59) (show 4 * k9 + 2 = 4 * a2 + 2 from congrArg (fun z : Int => 4 * z + 2) e_29))
          have h_33 : c_20 59 (4 * k9 + 3) = c_20 59 (4 * a2 + 3) := (congrArg (c_20 59) (show 4 * k9 + 3 = 4 * a2 + 3 from congrArg (fun z : Int => 4 * z + 3) e_29))
          exact sm4 h_30 h_31 h_32 h_33 (by first | exact q_71ae66e09 h_23 | omega)
        by_cases e_34 : k9 = a3
        · skip
          have kn_35 : Hid (c_20 59 (4 * a3) = u0) := (hF_22 59 (4 * a3) (fun q => q.elim (fun h => absurd h.2 (by first | exact q_b46fb41fd hq0 | omega)) (fun q => q.elim (fun h => absurd h.2 (by first | exact q_b2cb8bf87 | omega)) (fun q => q.elim (fun h => absurd h.2 (by first | exact q_c037f51da | omega)) (fun q => q.elim (fun h => absurd h.2 (by first | exact q_8ac71c5f3 | omega)) (fun h => absurd h.2 (ne_l (by first | exact q_4128697c9 ha2 ha3 | omega)))))))).trans ((up_n (by first | exact q_8ac71c5f3 | omega)).trans ((up_n (by first | exact ne_0a (by decide) | omega)).trans (hv6)))
          have h_36 : c_20 59 (4 * k9) = u0 := (congrArg (c_20 59) (show 4 * k9 = 4 * a3 from congrArg (fun z : Int => 4 * z) e_34)).trans (hid kn_35)
          have kn_37 : Hid (c_20 59 (4 * a3 + 1) = u1) := (hF_22 59 (4 * a3 + 1) (fun q => q.elim (fun h => absurd h.2 (by first | exact q_e5bcc673e | omega)) (fun q => q.elim (fun h => absurd h.2 (by first | exact q_0f4cbf258 hq0 | omega)) (fun q => q.elim (fun h => absurd h.2 (by first | exact q_3650b790c | omega)) (fun q => q.elim (fun h => absurd h.2 (by first | exact q_7c6b1b09a | omega)) (fun h => absurd h.2 (ne_l (by first | exact q_8f2481ba6 ha2 ha3 | omega)))))))).trans ((up_n (by first | exact q_7c6b1b09a | omega)).trans ((up_n (by first | exact ne_aa (by decide) | omega)).trans (hv7)))
          have h_38 : c_20 59 (4 * k9 + 1) = u1 := (congrArg (c_20 59) (show 4 * k9 + 1 = 4 * a3 + 1 from congrArg (fun z : Int => 4 * z + 1) e_34)).trans (hid kn_37)
          have kn_39 : Hid (c_20 59 (4 * a3 + 2) = u2) := (hF_22 59 (4 * a3 + 2) (fun q => q.elim (fun h => absurd h.2 (by first | exact q_ae83e86ba | omega)) (fun q => q.elim (fun h => absurd h.2 (by first | exact q_08c3d7060 | omega)) (fun q => q.elim (fun h => absurd h.2 (by first | exact q_28bc460e3 hq0 | omega)) (fun q => q.elim (fun h => absurd h.2 (by first | exact q_91c5bd343 | omega)) (fun h => absurd h.2 (ne_l (by first | exact q_04ab4010a ha2 ha3 | omega)))))))).trans ((up_n (by first | exact q_91c5bd343 | omega)).trans ((up_n (by first | exact ne_aa (by decide) | omega)).trans (hv8)))
          have h_40 : c_20 59 (4 * k9 + 2) = u2 := (congrArg (c_20 59) (show 4 * k9 + 2 = 4 * a3 + 2 from congrArg (fun z : Int => 4 * z + 2) e_34)).trans (hid kn_39)
          have kn_41 : Hid (c_20 59 (4 * a3 + 3) = (fal v1 (v2) 3 x3) + u3) := (hF_22 59 (4 * a3 + 3) (fun q => q.elim (fun h => absurd h.2 (by first | exact q_b6789388a | omega)) (fun q => q.elim (fun h => absurd h.2 (by first | exact q_6d5c6886e | omega)) (fun q => q.elim (fun h => absurd h.2 (by first | exact q_28d70e8e5 | omega)) (fun q => q.elim (fun h => absurd h.2 (by first | exact q_ca906b5de hq0 | omega)) (fun h => absurd h.2 (ne_l (by first | exact q_e782b8c3c ha2 ha3 | omega)))))))).trans ((up_n (by first | exact q_a8d3e8094 hq2 | omega)).trans (up_e rfl))
          have h_42 : c_20 59 (4 * k9 + 3) = (fal v1 (v2) 3 x3) + u3 := (congrArg (c_20 59) (show 4 * k9 + 3 = 4 * a3 + 3 from congrArg (fun z : Int => 4 * z + 3) e_34)).trans (hid kn_41)
          exact sm4 h_36 h_38 h_40 h_42 (by first | exact q_030f50e77 hq3 | omega)
        by_cases e_43 : k9 = a4
        · skip
          have kn_44 : Hid (c_20 59 (4 * a4) = w0) := (hF_22 59 (4 * a4) (fun q => q.elim (fun h => absurd h.2 (by first | exact q_b46fb41fd hq1 | omega)) (fun q => q.elim (fun h => absurd h.2 (by first | exact q_b2cb8bf87 | omega)) (fun q => q.elim (fun h => absurd h.2 (by first | exact q_c037f51da | omega)) (fun q => q.elim (fun h => absurd h.2 (by first | exact q_8ac71c5f3 | omega)) (fun h => absurd h.2 (ne_l (by first | exact q_4128697c9 ha2 ha4 | omega)))))))).trans ((up_n (by first | exact ne_0a (by decide) | omega)).trans ((up_n (by first | exact q_8ac71c5f3 | omega)).trans (hv10)))
          have h_45 : c_20 59 (4 * k9) = w0 := (congrArg (c_20 59) (show 4 * k9 = 4 * a4 from congrArg (fun z : Int => 4 * z) e_43)).trans (hid kn_44)
          have kn_46 : Hid (c_20 59 (4 * a4 + 1) = w1) := (hF_22 59 (4 * a4 + 1) (fun q => q.elim (fun h => absurd h.2 (by first | exact q_e5bcc673e | omega)) (fun q => q.elim (fun h => absurd h.2 (by first | exact q_0f4cbf258 hq1 | omega)) (fun q => q.elim (fun h => absurd h.2 (by first | exact q_3650b790c | omega)) (fun q => q.elim (fun h => absurd h.2 (by first | exact q_7c6b1b09a | omega)) (fun h => absurd h.2 (ne_l (by first | exact q_8f2481ba6 ha2 ha4 | omega)))))))).trans ((up_n (by first | exact ne_aa (by decide) | omega)).trans ((up_n (by first | exact q_7c6b1b09a | omega)).trans (hv11)))
          have h_47 : c_20 59 (4 * k9 + 1) = w1 := (congrArg (c_20 59) (show 4 * k9 + 1 = 4 * a4 + 1 from congrArg (fun z : Int => 4 * z + 1) e_43)).trans (hid kn_46)
          have kn_48 : Hid (c_20 59 (4 * a4 + 2) = w2) := (hF_22 59 (4 * a4 + 2) (fun q => q.elim (fun h => absurd h.2 (by first | exact q_ae83e86ba | omega)) (fun q => q.elim (fun h => absurd h.2 (by first | exact q_08c3d7060 | omega)) (fun q => q.elim (fun h => absurd h.2 (by first | exact q_28bc460e3 hq1 | omega)) (fun q => q.elim (fun h => absurd h.2 (by first | exact q_91c5bd343 | omega)) (fun h => absurd h.2 (ne_l (by first | exact q_04ab4010a ha2 ha4 | omega)))))))).trans ((up_n (by first | exact ne_aa (by decide) | omega)).trans ((up_n (by first | exact q_91c5bd343 | omega)).trans (hv12)))
          have h_49 : c_20 59 (4 * k9 + 2) = w2 := (congrArg (c_20 59) (show 4 * k9 + 2 = 4 * a4 + 2 from congrArg (fun z : Int => 4 * z + 2) e_43)).trans (hid kn_48)
          have kn_50 : Hid (c_20 59 (4 * a4 + 3) = w3 + x3 - (fal v1 (v2) 3 x3)) := (hF_22 59 (4 * a4 + 3) (fun q => q.elim (fun h => absurd h.2 (by first | exact q_b6789388a | omega)) (fun q => q.elim (fun h => absurd h.2 (by first | exact q_6d5c6886e | omega)) (fun q => q.elim (fun h => absurd h.2 (by first | exact q_28d70e8e5 | omega)) (fun q => q.elim (fun h => absurd h.2 (by first | exact q_ca906b5de hq1 | omega)) (fun h => absurd h.2 (ne_l (by first | exact q_e782b8c3c ha2 ha4 | omega)))))))).trans (up_e rfl)
          have h_51 : c_20 59 (4 * k9 + 3) = w3 + x3 - (fal v1 (v2) 3 x3) := (congrArg (c_20 59) (show 4 * k9 + 3 = 4 * a4 + 3 from congrArg (fun z : Int => 4 * z + 3) e_43)).trans (hid kn_50)
          exact sm4 h_45 h_47 h_49 h_51 (by first | exact q_77b2d579a hq4 | omega)
        have h_52 := hqo (4 * k9) hj9 (by omega) (by omega) (by omega)
        have h_53 := ir_59_g hI (j := 4 * k9) (by first | exact q_9f1d5ffdc hk9 | omega)
        have kn_54 : Hid (c_20 59 (4 * k9) = c 59 (4 * k9)) := (hF_22 59 (4 * k9) (fun q => q.elim (fun h => absurd h.2 (by first | exact q_336fb6678 e_29 | omega)) (fun q => q.elim (fun h => absurd h.2 (by first | exact q_b2cb8bf87 | omega)) (fun q => q.elim (fun h => absurd h.2 (by first | exact q_c037f51da | omega)) (fun q => q.elim (fun h => absurd h.2 (by first | exact q_8ac71c5f3 | omega)) (fun h => absurd h.2 (ne_l (by first | exact q_4128697c9 ha2 hk9 | omega)))))))).trans ((up_n (by first | exact q_8ac71c5f3 | omega)).trans (up_n (by first | exact q_8ac71c5f3 | omega)))
        have h_55 : c_20 59 (4 * k9) = c 59 (4 * k9) := (hid kn_54)
        have h_56 := ir_59_g hI (j := 4 * k9 + 1) (by first | exact q_0a2ee6f8f hk9 | omega)
        have kn_57 : Hid (c_20 59 (4 * k9 + 1) = c 59 (4 * k9 + 1)) := (hF_22 59 (4 * k9 + 1) (fun q => q.elim (fun h => absurd h.2 (by first | exact q_e5bcc673e | omega)) (fun q => q.elim (fun h => absurd h.2 (by first | exact q_52b51d728 e_29 | omega)) (fun q => q.elim (fun h => absurd h.2 (by first | exact q_3650b790c | omega)) (fun q => q.elim (fun h => absurd h.2 (by first | exact q_7c6b1b09a | omega)) (fun h => absurd h.2 (ne_l (by first | exact q_8f2481ba6 ha2 hk9 | omega)))))))).trans ((up_n (by first | exact q_7c6b1b09a | omega)).trans (up_n (by first | exact q_7c6b1b09a | omega)))
        have h_58 : c_20 59 (4 * k9 + 1) = c 59 (4 * k9 + 1) := (hid kn_57)
        have h_59 := ir_59_g hI (j := 4 * k9 + 2) (by first | exact q_e07a293a2 hk9 | omega)
        have kn_60 : Hid (c_20 59 (4 * k9 + 2) = c 59 (4 * k9 + 2)) := (hF_22 59 (4 * k9 + 2) (fun q => q.elim (fun h => absurd h.2 (by first | exact q_ae83e86ba | omega)) (fun q => q.elim (fun h => absurd h.2 (by first | exact q_08c3d7060 | omega)) (fun q => q.elim (fun h => absurd h.2 (by first | exact q_27892e29e e_29 | omega)) (fun q => q.elim (fun h => absurd h.2 (by first | exact q_91c5bd343 | omega)) (fun h => absurd h.2 (ne_l (by first | exact q_04ab4010a ha2 hk9 | omega)))))))).trans ((up_n (by first | exact q_91c5bd343 | omega)).trans (up_n (by first | exact q_91c5bd343 | omega)))
        have h_61 : c_20 59 (4 * k9 + 2) = c 59 (4 * k9 + 2) := (hid kn_60)
        have h_62 := ir_59_g hI (j := 4 * k9 + 3) (by first | exact q_d09cb0b73 hk9 | omega)
        have kn_63 : Hid (c_20 59 (4 * k9 + 3) = c 59 (4 * k9 + 3)) := (hF_22 59 (4 * k9 + 3) (fun q => q.elim (fun h => absurd h.2 (by first | exact q_b6789388a | omega)) (fun q => q.elim (fun h => absurd h.2 (by first | exact q_6d5c6886e | omega)) (fun q => q.elim (fun h => absurd h.2 (by first | exact q_28d70e8e5 | omega)) (fun q => q.elim (fun h => absurd h.2 (by first | exact q_2db9f474b e_29 | omega)) (fun h => absurd h.2 (ne_l (by first | exact q_e782b8c3c ha2 hk9 | omega)))))))).trans ((up_n (by first | exact q_2db9f474b e_43 | omega)).trans (up_n (by first | exact q_2db9f474b e_34 | omega)))
        have h_64 : c_20 59 (4 * k9 + 3) = c 59 (4 * k9 + 3) := (hid kn_63)
        omega
      have hI_65 := iv_close hI_21 hr_28
      exact K c_20 1 hI_65 (fun a j hm => (hF_22 a j (fun q => q.elim (fun h => hm h.1) (fun q => q.elim (fun h => hm h.1) (fun q => q.elim (fun h => hm h.1) (fun q => q.elim (fun h => hm h.1) (fun h => hm h.1)))))).trans ((up_b (Decidable.or_iff_not_imp_left.mpr (fun h1 h2 => hm (Decidable.not_not.mp h1)))).trans (up_b (Decidable.or_iff_not_imp_left.mpr (fun h1 h2 => hm (Decidable.not_not.mp h1)))))) ⟨by decide, by decide⟩
    · refine v_ic_ge_f (t := 186) c_193_168 rfl ⟨ha5.1, (Int.not_le.mp h_19), by first | exact q_a964d3f86 hq5 | omega⟩ (q_aload_n c_193_171 rfl (q_iload c_193_172 rfl (q_aload_n c_193_174 rfl (v_gr (t := 59) c_193_175 kf_8_68 rfl (nb_ rfl) rfl (v_bip c_193_178 (by decide) (q_iload_n c_193_180 rfl (v_iadd (v := a2 + 24) c_193_181 (by first | exact q_1b47056ce | omega) ?_)))))))
      have h_66 := ir_59 hI (a2 + 24)
      refine v_ia (v := c 59 (a2 + 24)) c_193_182 rfl (by decide) (by decide) ⟨by first | exact rgp_l ha2.1 (by decide) | omega, by first | exact q_57f615a18 ha2 | omega⟩ ((up_n (ne_g (by first | exact q_e782b8c3c ha2 ha4 | omega))).trans (up_n (ne_g (by first | exact q_e782b8c3c ha2 ha3 | omega)))) (v_cv c_193_183 km_8_369 rfl rfl (nb_ rfl) ⟨⟨rfl, rfl⟩, nb_ rfl, rfl⟩ (nb_ rfl) (nb_ rfl) (s_191 (a1 := a4) (a2 := c 59 (a2 + 24)) hI_18 (show 0 ≤ a4 ∧ a4 ≤ 5 from ha4) (show (-2147483648) ≤ c 59 (a2 + 24) ∧ c 59 (a2 + 24) ≤ 2147483647 from h_66) (fun c_67 hI_68 hF_69 => (bk_inl (q_aload_n c_193_186 rfl (q_iload_n c_193_187 rfl (v_cv c_193_188 km_8_372 rfl rfl (nb_ rfl) ⟨⟨rfl, rfl⟩, nb_ rfl, rfl⟩ (nb_ rfl) (nb_ rfl) (s_192 (a1 := a2) hI_68 (show 0 ≤ a2 ∧ a2 ≤ 5 from ha2) (fun c_70 hI_71 hF_72 h_73 => (bk_inl ?_))))))))))
      have h_74 := ir_59_g hI_71 (j := 4 * a2 + 1) (by first | exact q_0a2ee6f8f ha2 | omega)
      have h_75 := ir_59_g hI_71 (j := 4 * a2 + 2) (by first | exact q_e07a293a2 ha2 | omega)
      have h_76 := ir_59_g hI_71 (j := 4 * a2 + 3) (by first | exact q_d09cb0b73 ha2 | omega)
      have h_77 := ir_59_g hI_71 (j := 4 * a2) (by first | exact q_9f1d5ffdc ha2 | omega)
      refine q_iconst c_193_191 (v_zret c_193_192 rfl (by decide) ?_)
      have hr_78 : ∀ j : Int, rs 59 j → c_70 59 j + c_70 59 (j + 1) + c_70 59 (j + 2) + c_70 59 (j + 3) ≤ 9999 := by
        intro j9 hj9
        obtain ⟨k9, rfl, hk9⟩ := rs_59 hj9
        by_cases e_79 : k9 = a2
        · skip
          have h_80 : c_70 59 (4 * k9) = c_70 59 (4 * a2) := (congrArg (c_70 59) (show 4 * k9 = 4 * a2 from congrArg (fun z : Int => 4 * z) e_79))
          have h_81 : c_70 59 (4 * k9 + 1) = c_70 59 (4 * a2 + 1) := (congrArg (c_70 59) (show 4 * k9 + 1 = 4 * a2 + 1 from congrArg (fun z : Int => 4 * z + 1) e_79))
          have h_82 : c_70 59 (4 * k9 + 2) = c_70 59 (4 * a2 + 2) := (congrArg (c_70 59) (show 4 * k9 + 2 = 4 * a2 + 2 from congrArg (fun z : Int => 4 * z + 2) e_79))
          have h_83 : c_70 59 (4 * k9 + 3) = c_70 59 (4 * a2 + 3) := (congrArg (c_70 59) (show 4 * k9 + 3 = 4 * a2 + 3 from congrArg (fun z : Int => 4 * z + 3) e_79))
          exact sm4 h_80 h_81 h_82 h_83 (by first | exact q_71ae66e09 h_73 | omega)
        by_cases e_84 : k9 = a3
        · skip
          have kn_85 : Hid (c_67 59 (4 * a3) = u0) := (hF_69 59 (4 * a3) (fun h => absurd h.2 (ne_l (by first | exact q_2b13428e8 ha3 ha4 | omega)))).trans ((up_n (by first | exact q_8ac71c5f3 | omega)).trans ((up_n (by first | exact ne_0a (by decide) | omega)).trans (hv6)))
          have kn_86 : Hid (c_70 59 (4 * a3) = u0) := (hF_72 59 (4 * a3) (fun q => q.elim (fun h => absurd h.2 (by first | exact q_b46fb41fd hq0 | omega)) (fun q => q.elim (fun h => absurd h.2 (by first | exact q_b2cb8bf87 | omega)) (fun q => q.elim (fun h => absurd h.2 (by first | exact q_c037f51da | omega)) (fun q => q.elim (fun h => absurd h.2 (by first | exact q_8ac71c5f3 | omega)) (fun h => absurd h.2 (ne_l (by first | exact q_4128697c9 ha2 ha3 | omega)))))))).trans (hid kn_85)
          have h_87 : c_70 59 (4 * k9) = u0 := (congrArg (c_70 59) (show 4 * k9 = 4 * a3 from congrArg (fun z : Int => 4 * z) e_84)).trans (hid kn_86)
          have kn_88 : Hid (c_67 59 (4 * a3 + 1) = u1) := (hF_69 59 (4 * a3 + 1) (fun h => absurd h.2 (ne_l (by first | exact q_3178328df ha3 ha4 | omega)))).trans ((up_n (by first | exact q_7c6b1b09a | omega)).trans ((up_n (by first | exact ne_aa (by decide) | omega)).trans (hv7)))
          have kn_89 : Hid (c_70 59 (4 * a3 + 1) = u1) := (hF_72 59 (4 * a3 + 1) (fun q => q.elim (fun h => absurd h.2 (by first | exact q_e5bcc673e | omega)) (fun q => q.elim (fun h => absurd h.2 (by first | exact q_0f4cbf258 hq0 | omega)) (fun q => q.elim (fun h => absurd h.2 (by first | exact q_3650b790c | omega)) (fun q => q.elim (fun h => absurd h.2 (by first | exact q_7c6b1b09a | omega)) (fun h => absurd h.2 (ne_l (by first | exact q_8f2481ba6 ha2 ha3 | omega)))))))).trans (hid kn_88)
          have h_90 : c_70 59 (4 * k9 + 1) = u1 := (congrArg (c_70 59) (show 4 * k9 + 1 = 4 * a3 + 1 from congrArg (fun z : Int => 4 * z + 1) e_84)).trans (hid kn_89)
          have kn_91 : Hid (c_67 59 (4 * a3 + 2) = u2) := (hF_69 59 (4 * a3 + 2) (fun h => absurd h.2 (ne_l (by first | exact q_428481d46 ha3 ha4 | omega)))).trans ((up_n (by first | exact q_91c5bd343 | omega)).trans ((up_n (by first | exact ne_aa (by decide) | omega)).trans (hv8)))
          have kn_92 : Hid (c_70 59 (4 * a3 + 2) = u2) := (hF_72 59 (4 * a3 + 2) (fun q => q.elim (fun h => absurd h.2 (by first | exact q_ae83e86ba | omega)) (fun q => q.elim (fun h => absurd h.2 (by first | exact q_08c3d7060 | omega)) (fun q => q.elim (fun h => absurd h.2 (by first | exact q_28bc460e3 hq0 | omega)) (fun q => q.elim (fun h => absurd h.2 (by first | exact q_91c5bd343 | omega)) (fun h => absurd h.2 (ne_l (by first | exact q_04ab4010a ha2 ha3 | omega)))))))).trans (hid kn_91)
          have h_93 : c_70 59 (4 * k9 + 2) = u2 := (congrArg (c_70 59) (show 4 * k9 + 2 = 4 * a3 + 2 from congrArg (fun z : Int => 4 * z + 2) e_84)).trans (hid kn_92)
          have kn_94 : Hid (c_67 59 (4 * a3 + 3) = (fal v1 (v2) 3 x3) + u3) := (hF_69 59 (4 * a3 + 3) (fun h => absurd h.2 (ne_l (by first | exact q_2771393a8 ha3 ha4 | omega)))).trans ((up_n (by first | exact q_a8d3e8094 hq2 | omega)).trans (up_e rfl))
          have kn_95 : Hid (c_70 59 (4 * a3 + 3) = (fal v1 (v2) 3 x3) + u3) := (hF_72 59 (4 * a3 + 3) (fun q => q.elim (fun h => absurd h.2 (by first | exact q_b6789388a | omega)) (fun q => q.elim (fun h => absurd h.2 (by first | exact q_6d5c6886e | omega)) (fun q => q.elim (fun h => absurd h.2 (by first | exact q_28d70e8e5 | omega)) (fun q => q.elim (fun h => absurd h.2 (by first | exact q_ca906b5de hq0 | omega)) (fun h => absurd h.2 (ne_l (by first | exact q_e782b8c3c ha2 ha3 | omega)))))))).trans (hid kn_94)
          have h_96 : c_70 59 (4 * k9 + 3) = (fal v1 (v2) 3 x3) + u3 := (congrArg (c_70 59) (show 4 * k9 + 3 = 4 * a3 + 3 from congrArg (fun z : Int => 4 * z + 3) e_84)).trans (hid kn_95)
          exact sm4 h_87 h_90 h_93 h_96 (by first | exact q_030f50e77 hq3 | omega)
        by_cases e_97 : k9 = a4
        · skip
          have kn_98 : Hid (c_67 59 (4 * a4) = w0) := (hF_69 59 (4 * a4) (fun h => absurd h.2 (ne_l (by first | exact q_788f4b81f ha4 | omega)))).trans ((up_n (by first | exact ne_0a (by decide) | omega)).trans ((up_n (by first | exact q_8ac71c5f3 | omega)).trans (hv10)))
          have kn_99 : Hid (c_70 59 (4 * a4) = w0) := (hF_72 59 (4 * a4) (fun q => q.elim (fun h => absurd h.2 (by first | exact q_b46fb41fd hq1 | omega)) (fun q => q.elim (fun h => absurd h.2 (by first | exact q_b2cb8bf87 | omega)) (fun q => q.elim (fun h => absurd h.2 (by first | exact q_c037f51da | omega)) (fun q => q.elim (fun h => absurd h.2 (by first | exact q_8ac71c5f3 | omega)) (fun h => absurd h.2 (ne_l (by first | exact q_4128697c9 ha2 ha4 | omega)))))))).trans (hid kn_98)
          have h_100 : c_70 59 (4 * k9) = w0 := (congrArg (c_70 59) (show 4 * k9 = 4 * a4 from congrArg (fun z : Int => 4 * z) e_97)).trans (hid kn_99)
          have kn_101 : Hid (c_67 59 (4 * a4 + 1) = w1) := (hF_69 59 (4 * a4 + 1) (fun h => absurd h.2 (ne_l (by first | exact q_60c9feeee ha4 | omega)))).trans ((up_n (by first | exact ne_aa (by decide) | omega)).trans ((up_n (by first | exact q_7c6b1b09a | omega)).trans (hv11)))
          have kn_102 : Hid (c_70 59 (4 * a4 + 1) = w1) := (hF_72 59 (4 * a4 + 1) (fun q => q.elim (fun h => absurd h.2 (by first | exact q_e5bcc673e | omega)) (fun q => q.elim (fun h => absurd h.2 (by first | exact q_0f4cbf258 hq1 | omega)) (fun q => q.elim (fun h => absurd h.2 (by first | exact q_3650b790c | omega)) (fun q => q.elim (fun h => absurd h.2 (by first | exact q_7c6b1b09a | omega)) (fun h => absurd h.2 (ne_l (by first | exact q_8f2481ba6 ha2 ha4 | omega)))))))).trans (hid kn_101)
          have h_103 : c_70 59 (4 * k9 + 1) = w1 := (congrArg (c_70 59) (show 4 * k9 + 1 = 4 * a4 + 1 from congrArg (fun z : Int => 4 * z + 1) e_97)).trans (hid kn_102)
          have kn_104 : Hid (c_67 59 (4 * a4 + 2) = w2) := (hF_69 59 (4 * a4 + 2) (fun h => absurd h.2 (ne_l (by first | exact q_27ec1b4d7 ha4 | omega)))).trans ((up_n (by first | exact ne_aa (by decide) | omega)).trans ((up_n (by first | exact q_91c5bd343 | omega)).trans (hv12)))
          have kn_105 : Hid (c_70 59 (4 * a4 + 2) = w2) := (hF_72 59 (4 * a4 + 2) (fun q => q.elim (fun h => absurd h.2 (by first | exact q_ae83e86ba | omega)) (fun q => q.elim (fun h => absurd h.2 (by first | exact q_08c3d7060 | omega)) (fun q => q.elim (fun h => absurd h.2 (by first | exact q_28bc460e3 hq1 | omega)) (fun q => q.elim (fun h => absurd h.2 (by first | exact q_91c5bd343 | omega)) (fun h => absurd h.2 (ne_l (by first | exact q_04ab4010a ha2 ha4 | omega)))))))).trans (hid kn_104)
          have h_106 : c_70 59 (4 * k9 + 2) = w2 := (congrArg (c_70 59) (show 4 * k9 + 2 = 4 * a4 + 2 from congrArg (fun z : Int => 4 * z + 2) e_97)).trans (hid kn_105)
          have kn_107 : Hid (c_67 59 (4 * a4 + 3) = w3 + x3 - (fal v1 (v2) 3 x3)) := (hF_69 59 (4 * a4 + 3) (fun h => absurd h.2 (ne_l (by first | exact q_fd9aac8f8 ha4 | omega)))).trans (up_e rfl)
          have kn_108 : Hid (c_70 59 (4 * a4 + 3) = w3 + x3 - (fal v1 (v2) 3 x3)) := (hF_72 59 (4 * a4 + 3) (fun q => q.elim (fun h => absurd h.2 (by first | exact q_b6789388a | omega)) (fun q => q.elim (fun h => absurd h.2 (by first | exact q_6d5c6886e | omega)) (fun q => q.elim (fun h => absurd h.2 (by first | exact q_28d70e8e5 | omega)) (fun q => q.elim (fun h => absurd h.2 (by first | exact q_ca906b5de hq1 | omega)) (fun h => absurd h.2 (ne_l (by first | exact q_e782b8c3c ha2 ha4 | omega)))))))).trans (hid kn_107)
          have h_109 : c_70 59 (4 * k9 + 3) = w3 + x3 - (fal v1 (v2) 3 x3) := (congrArg (c_70 59) (show 4 * k9 + 3 = 4 * a4 + 3 from congrArg (fun z : Int => 4 * z + 3) e_97)).trans (hid kn_108)
          exact sm4 h_100 h_103 h_106 h_109 (by first | exact q_77b2d579a hq4 | omega)
        have h_110 := hqo (4 * k9) hj9 (by omega) (by omega) (by omega)
        have h_111 := ir_59_g hI (j := 4 * k9) (by first | exact q_9f1d5ffdc hk9 | omega)
        have kn_112 : Hid (c_67 59 (4 * k9) = c 59 (4 * k9)) := (hF_69 59 (4 * k9) (fun h => absurd h.2 (ne_l (by first | exact q_4128697c9 ha4 hk9 | omega)))).trans ((up_n (by first | exact q_8ac71c5f3 | omega)).trans (up_n (by first | exact q_8ac71c5f3 | omega)))
        have kn_113 : Hid (c_70 59 (4 * k9) = c 59 (4 * k9)) := (hF_72 59 (4 * k9) (fun q => q.elim (fun h => absurd h.2 (by first | exact q_336fb6678 e_79 | omega)) (fun q => q.elim (fun h => absurd h.2 (by first | exact q_b2cb8bf87 | omega)) (fun q => q.elim (fun h => absurd h.2 (by first | exact q_c037f51da | omega)) (fun q => q.elim (fun h => absurd h.2 (by first | exact q_8ac71c5f3 | omega)) (fun h => absurd h.2 (ne_l (by first | exact q_4128697c9 ha2 hk9 | omega)))))))).trans (hid kn_112)
        have h_114 : c_70 59 (4 * k9) = c 59 (4 * k9) := (hid kn_113)
        have h_115 := ir_59_g hI (j := 4 * k9 + 1) (by first | exact q_0a2ee6f8f hk9 | omega)
        have kn_116 : Hid (c_67 59 (4 * k9 + 1) = c 59 (4 * k9 + 1)) := (hF_69 59 (4 * k9 + 1) (fun h => absurd h.2 (ne_l (by first | exact q_8f2481ba6 ha4 hk9 | omega)))).trans ((up_n (by first | exact q_7c6b1b09a | omega)).trans (up_n (by first | exact q_7c6b1b09a | omega)))
        have kn_117 : Hid (c_70 59 (4 * k9 + 1) = c 59 (4 * k9 + 1)) := (hF_72 59 (4 * k9 + 1) (fun q => q.elim (fun h => absurd h.2 (by first | exact q_e5bcc673e | omega)) (fun q => q.elim (fun h => absurd h.2 (by first | exact q_52b51d728 e_79 | omega)) (fun q => q.elim (fun h => absurd h.2 (by first | exact q_3650b790c | omega)) (fun q => q.elim (fun h => absurd h.2 (by first | exact q_7c6b1b09a | omega)) (fun h => absurd h.2 (ne_l (by first | exact q_8f2481ba6 ha2 hk9 | omega)))))))).trans (hid kn_116)
        have h_118 : c_70 59 (4 * k9 + 1) = c 59 (4 * k9 + 1) := (hid kn_117)
        have h_119 := ir_59_g hI (j := 4 * k9 + 2) (by first | exact q_e07a293a2 hk9 | omega)
        have kn_120 : Hid (c_67 59 (4 * k9 + 2) = c 59 (4 * k9 + 2)) := (hF_69 59 (4 * k9 + 2) (fun h => absurd h.2 (ne_l (by first | exact q_04ab4010a ha4 hk9 | omega)))).trans ((up_n (by first | exact q_91c5bd343 | omega)).trans (up_n (by first | exact q_91c5bd343 | omega)))
        have kn_121 : Hid (c_70 59 (4 * k9 + 2) = c 59 (4 * k9 + 2)) := (hF_72 59 (4 * k9 + 2) (fun q => q.elim (fun h => absurd h.2 (by first | exact q_ae83e86ba | omega)) (fun q => q.elim (fun h => absurd h.2 (by first | exact q_08c3d7060 | omega)) (fun q => q.elim (fun h => absurd h.2 (by first | exact q_27892e29e e_79 | omega)) (fun q => q.elim (fun h => absurd h.2 (by first | exact q_91c5bd343 | omega)) (fun h => absurd h.2 (ne_l (by first | exact q_04ab4010a ha2 hk9 | omega)))))))).trans (hid kn_120)
        have h_122 : c_70 59 (4 * k9 + 2) = c 59 (4 * k9 + 2) := (hid kn_121)
        have h_123 := ir_59_g hI (j := 4 * k9 + 3) (by first | exact q_d09cb0b73 hk9 | omega)
        have kn_124 : Hid (c_67 59 (4 * k9 + 3) = c 59 (4 * k9 + 3)) := (hF_69 59 (4 * k9 + 3) (fun h => absurd h.2 (ne_l (by first | exact q_e782b8c3c ha4 hk9 | omega)))).trans ((up_n (by first | exact q_2db9f474b e_97 | omega)).trans (up_n (by first | exact q_2db9f474b e_84 | omega)))
        have kn_125 : Hid (c_70 59 (4 * k9 + 3) = c 59 (4 * k9 + 3)) := (hF_72 59 (4 * k9 + 3) (fun q => q.elim (fun h => absurd h.2 (by first | exact q_b6789388a | omega)) (fun q => q.elim (fun h => absurd h.2 (by first | exact q_6d5c6886e | omega)) (fun q => q.elim (fun h => absurd h.2 (by first | exact q_28d70e8e5 | omega)) (fun q => q.elim (fun h => absurd h.2 (by first | exact q_2db9f474b e_79 | omega)) (fun h => absurd h.2 (ne_l (by first | exact q_e782b8c3c ha2 hk9 | omega)))))))).trans (hid kn_124)
        have h_126 : c_70 59 (4 * k9 + 3) = c 59 (4 * k9 + 3) := (hid kn_125)
        omega
      have hI_127 := iv_close hI_71 hr_78
      exact K c_70 1 hI_127 (fun a j hm => (hF_72 a j (fun q => q.elim (fun h => hm h.1) (fun q => q.elim (fun h => hm h.1) (fun q => q.elim (fun h => hm h.1) (fun q => q.elim (fun h => hm h.1) (fun h => hm h.1)))))).trans ((hF_69 a j (fun h => hm h.1)).trans ((up_b (Decidable.or_iff_not_imp_left.mpr (fun h1 h2 => hm (Decidable.not_not.mp h1)))).trans (up_b (Decidable.or_iff_not_imp_left.mpr (fun h1 h2 => hm (Decidable.not_not.mp h1))))))) ⟨by decide, by decide⟩
  · refine v_if_le_f (t := 161) c_193_144 rfl ⟨by decide, (Int.not_le.mp h_16), ha5.2⟩ (q_aload_n c_193_147 rfl (q_iload_n c_193_148 rfl (q_aload_n c_193_149 rfl (v_gr (t := 59) c_193_150 kf_8_68 rfl (nb_ rfl) rfl (v_bip c_193_153 (by decide) (q_iload_n c_193_155 rfl (v_iadd (v := a2 + 24) c_193_156 (by first | exact q_1b47056ce | omega) ?_)))))))
    have h_128 := ir_59 hI (a2 + 24)
    refine v_ia (v := c 59 (a2 + 24)) c_193_157 rfl (by decide) (by decide) ⟨by first | exact rgp_l ha2.1 (by decide) | omega, by first | exact q_57f615a18 ha2 | omega⟩ ((up_n (ne_g (by first | exact q_e782b8c3c ha2 ha4 | omega))).trans (up_n (ne_g (by first | exact q_e782b8c3c ha2 ha3 | omega)))) ?_
    have hI_129 := iwr0 (a := 59) (j := 4 * a3 + 3) (v := (fal v1 (v2) 3 x3) + u3) hI (by decide) ⟨by first | (clear ha1 ha2 ha3 ha4 ha5 hq3 hq4 hq5 h_1 hv0 h_2 hv1 h_3 hv2 h_4 hv3 h_5 hv4 h_6 hv5 h_7 hv6 h_8 hv7 h_9 hv8 h_11 hv10 h_12 hv11 h_13 hv12 h_14 hv13 h_16 h_128 hq0 hq1 hq2; omega) | omega, by first | (clear ha1 ha2 ha3 ha4 ha5 hq4 hq5 h_1 hv0 h_2 hv1 h_3 hv2 h_4 hv3 h_5 hv4 h_6 hv5 h_10 hv9 h_11 hv10 h_12 hv11 h_13 hv12 h_14 hv13 h_15 h_16 h_128 hq0 hq1 hq2; omega) | omega⟩
    have hI_130 := iwr0 (a := 59) (j := 4 * a4 + 3) (v := w3 + x3 - (fal v1 (v2) 3 x3)) hI_129 (by decide) ⟨by first | (clear ha1 ha2 ha3 ha4 ha5 hq3 hq4 hq5 h_1 hv0 h_2 hv1 h_3 hv2 h_4 hv3 h_5 hv4 h_6 hv5 h_7 hv6 h_8 hv7 h_9 hv8 h_10 hv9 h_11 hv10 h_12 hv11 h_13 hv12 h_16 h_128 hq0 hq1 hq2; omega) | omega, by first | (clear ha1 ha2 ha3 ha4 ha5 hq3 hq5 h_1 hv0 h_2 hv1 h_3 hv2 h_4 hv3 h_5 hv4 h_6 hv5 h_7 hv6 h_8 hv7 h_9 hv8 h_10 hv9 h_14 hv13 h_15 h_16 h_128 hq0 hq1 hq2; omega) | omega⟩
    refine v_cv c_193_158 km_8_369 rfl rfl (nb_ rfl) ⟨⟨rfl, rfl⟩, nb_ rfl, rfl⟩ (nb_ rfl) (nb_ rfl) (s_191 (a1 := a3) (a2 := c 59 (a2 + 24)) hI_130 (show 0 ≤ a3 ∧ a3 ≤ 5 from ha3) (show (-2147483648) ≤ c 59 (a2 + 24) ∧ c 59 (a2 + 24) ≤ 2147483647 from h_128) (fun c_131 hI_132 hF_133 => (bk_inl (q_iload c_193_161 rfl (q_aload_n c_193_163 rfl (q_iload_n c_193_164 rfl ?_))))))
    have kn_134 : Hid (c_131 59 (4 * a2) = x0) := (hF_133 59 (4 * a2) (fun h => absurd h.2 (ne_l (by first | exact q_2b13428e8 ha2 ha3 | omega)))).trans ((up_n (by first | exact q_8ac71c5f3 | omega)).trans ((up_n (by first | exact q_8ac71c5f3 | omega)).trans (hv2)))
    have kn_135 : Hid (c_131 59 (4 * a2 + 1) = x1) := (hF_133 59 (4 * a2 + 1) (fun h => absurd h.2 (ne_l (by first | exact q_3178328df ha2 ha3 | omega)))).trans ((up_n (by first | exact q_7c6b1b09a | omega)).trans ((up_n (by first | exact q_7c6b1b09a | omega)).trans (hv3)))
    have kn_136 : Hid (c_131 59 (4 * a2 + 2) = x2) := (hF_133 59 (4 * a2 + 2) (fun h => absurd h.2 (ne_l (by first | exact q_428481d46 ha2 ha3 | omega)))).trans ((up_n (by first | exact q_91c5bd343 | omega)).trans ((up_n (by first | exact q_91c5bd343 | omega)).trans (hv4)))
    have kn_137 : Hid (c_131 59 (4 * a2 + 3) = x3) := (hF_133 59 (4 * a2 + 3) (fun h => absurd h.2 (ne_l (by first | exact q_2771393a8 ha2 ha3 | omega)))).trans ((up_n (by first | exact q_a8d3e8094 hq1 | omega)).trans ((up_n (by first | exact q_a8d3e8094 hq0 | omega)).trans (hv5)))
    refine v_cv c_193_165 km_8_343 rfl rfl (nb_ rfl) ⟨⟨rfl, rfl⟩, nb_ rfl, rfl⟩ (nb_ rfl) (nb_ rfl) (s_187 (v1 := x0) (v2 := x1) (v3 := x2) (v4 := x3) (r := x0 + x1 + x2 + x3) (a1 := a2) hI_132 (show 0 ≤ a2 ∧ a2 ≤ 5 from ha2) ((hid kn_134)) ((hid kn_135)) ((hid kn_136)) ((hid kn_137)) (by omega) (bk_inl ?_))
    by_cases h_138 : a5 ≥ x0 + x1 + x2 + x3
    · refine v_ic_ge_t (t := 186) c_193_168 rfl ⟨by first | (clear ha1 ha2 ha3 ha4 ha5 hq3 hq4 hq5 h_1 hv0 h_2 hv1 h_7 hv6 h_8 hv7 h_9 hv8 h_10 hv9 h_11 hv10 h_12 hv11 h_13 hv12 h_14 hv13 h_15 h_16 h_128 hq0 hq1 hq2; omega) | omega, h_138, ha5.2⟩ (q_aload_n c_193_186 rfl (q_iload_n c_193_187 rfl (v_cv c_193_188 km_8_372 rfl rfl (nb_ rfl) ⟨⟨rfl, rfl⟩, nb_ rfl, rfl⟩ (nb_ rfl) (nb_ rfl) (s_192 (a1 := a2) hI_132 (show 0 ≤ a2 ∧ a2 ≤ 5 from ha2) (fun c_139 hI_140 hF_141 h_142 => (bk_inl ?_))))))
      have h_143 := ir_59_g hI_140 (j := 4 * a2 + 1) (by first | exact q_0a2ee6f8f ha2 | omega)
      have h_144 := ir_59_g hI_140 (j := 4 * a2 + 2) (by first | exact q_e07a293a2 ha2 | omega)
      have h_145 := ir_59_g hI_140 (j := 4 * a2 + 3) (by first | exact q_d09cb0b73 ha2 | omega)
      have h_146 := ir_59_g hI_140 (j := 4 * a2) (by first | exact q_9f1d5ffdc ha2 | omega)
      refine q_iconst c_193_191 (v_zret c_193_192 rfl (by decide) ?_)
      have hr_147 : ∀ j : Int, rs 59 j → c_139 59 j + c_139 59 (j + 1) + c_139 59 (j + 2) + c_139 59 (j + 3) ≤ 9999 := by
        intro j9 hj9
        obtain ⟨k9, rfl, hk9⟩ := rs_59 hj9
        by_cases e_148 : k9 = a2
        · skip
          have h_149 : c_139 59 (4 * k9) = c_139 59 (4 * a2) := (congrArg (c_139 59) (show 4 * k9 = 4 * a2 from congrArg (fun z : Int => 4 * z) e_148))
          have h_150 : c_139 59 (4 * k9 + 1) = c_139 59 (4 * a2 + 1) := (congrArg (c_139 59) (show 4 * k9 + 1 = 4 * a2 + 1 from congrArg (fun z : Int => 4 * z + 1) e_148))
          have h_151 : c_139 59 (4 * k9 + 2) = c_139 59 (4 * a2 + 2) := (congrArg (c_139 59) (show 4 * k9 + 2 = 4 * a2 + 2 from congrArg (fun z : Int => 4 * z + 2) e_148))
          have h_152 : c_139 59 (4 * k9 + 3) = c_139 59 (4 * a2 + 3) := (congrArg (c_139 59) (show 4 * k9 + 3 = 4 * a2 + 3 from congrArg (fun z : Int => 4 * z + 3) e_148))
          exact sm4 h_149 h_150 h_151 h_152 (by first | exact q_71ae66e09 h_142 | omega)
        by_cases e_153 : k9 = a3
        · skip
          have kn_154 : Hid (c_131 59 (4 * a3) = u0) := (hF_133 59 (4 * a3) (fun h => absurd h.2 (ne_l (by first | exact q_788f4b81f ha3 | omega)))).trans ((up_n (by first | exact q_8ac71c5f3 | omega)).trans ((up_n (by first | exact ne_0a (by decide) | omega)).trans (hv6)))
          have kn_155 : Hid (c_139 59 (4 * a3) = u0) := (hF_141 59 (4 * a3) (fun q => q.elim (fun h => absurd h.2 (by first | exact q_b46fb41fd hq0 | omega)) (fun q => q.elim (fun h => absurd h.2 (by first | exact q_b2cb8bf87 | omega)) (fun q => q.elim (fun h => absurd h.2 (by first | exact q_c037f51da | omega)) (fun q => q.elim (fun h => absurd h.2 (by first | exact q_8ac71c5f3 | omega)) (fun h => absurd h.2 (ne_l (by first | exact q_4128697c9 ha2 ha3 | omega)))))))).trans (hid kn_154)
          have h_156 : c_139 59 (4 * k9) = u0 := (congrArg (c_139 59) (show 4 * k9 = 4 * a3 from congrArg (fun z : Int => 4 * z) e_153)).trans (hid kn_155)
          have kn_157 : Hid (c_131 59 (4 * a3 + 1) = u1) := (hF_133 59 (4 * a3 + 1) (fun h => absurd h.2 (ne_l (by first | exact q_60c9feeee ha3 | omega)))).trans ((up_n (by first | exact q_7c6b1b09a | omega)).trans ((up_n (by first | exact ne_aa (by decide) | omega)).trans (hv7)))
          have kn_158 : Hid (c_139 59 (4 * a3 + 1) = u1) := (hF_141 59 (4 * a3 + 1) (fun q => q.elim (fun h => absurd h.2 (by first | exact q_e5bcc673e | omega)) (fun q => q.elim (fun h => absurd h.2 (by first | exact q_0f4cbf258 hq0 | omega)) (fun q => q.elim (fun h => absurd h.2 (by first | exact q_3650b790c | omega)) (fun q => q.elim (fun h => absurd h.2 (by first | exact q_7c6b1b09a | omega)) (fun h => absurd h.2 (ne_l (by first | exact q_8f2481ba6 ha2 ha3 | omega)))))))).trans (hid kn_157)
          have h_159 : c_139 59 (4 * k9 + 1) = u1 := (congrArg (c_139 59) (show 4 * k9 + 1 = 4 * a3 + 1 from congrArg (fun z : Int => 4 * z + 1) e_153)).trans (hid kn_158)
          have kn_160 : Hid (c_131 59 (4 * a3 + 2) = u2) := (hF_133 59 (4 * a3 + 2) (fun h => absurd h.2 (ne_l (by first | exact q_27ec1b4d7 ha3 | omega)))).trans ((up_n (by first | exact q_91c5bd343 | omega)).trans ((up_n (by first | exact ne_aa (by decide) | omega)).trans (hv8)))
          have kn_161 : Hid (c_139 59 (4 * a3 + 2) = u2) := (hF_141 59 (4 * a3 + 2) (fun q => q.elim (fun h => absurd h.2 (by first | exact q_ae83e86ba | omega)) (fun q => q.elim (fun h => absurd h.2 (by first | exact q_08c3d7060 | omega)) (fun q => q.elim (fun h => absurd h.2 (by first | exact q_28bc460e3 hq0 | omega)) (fun q => q.elim (fun h => absurd h.2 (by first | exact q_91c5bd343 | omega)) (fun h => absurd h.2 (ne_l (by first | exact q_04ab4010a ha2 ha3 | omega)))))))).trans (hid kn_160)
          have h_162 : c_139 59 (4 * k9 + 2) = u2 := (congrArg (c_139 59) (show 4 * k9 + 2 = 4 * a3 + 2 from congrArg (fun z : Int => 4 * z + 2) e_153)).trans (hid kn_161)
          have kn_163 : Hid (c_131 59 (4 * a3 + 3) = (fal v1 (v2) 3 x3) + u3) := (hF_133 59 (4 * a3 + 3) (fun h => absurd h.2 (ne_l (by first | exact q_fd9aac8f8 ha3 | omega)))).trans ((up_n (by first | exact q_a8d3e8094 hq2 | omega)).trans (up_e rfl))
          have kn_164 : Hid (c_139 59 (4 * a3 + 3) = (fal v1 (v2) 3 x3) + u3) := (hF_141 59 (4 * a3 + 3) (fun q => q.elim (fun h => absurd h.2 (by first | exact q_b6789388a | omega)) (fun q => q.elim (fun h => absurd h.2 (by first | exact q_6d5c6886e | omega)) (fun q => q.elim (fun h => absurd h.2 (by first | exact q_28d70e8e5 | omega)) (fun q => q.elim (fun h => absurd h.2 (by first | exact q_ca906b5de hq0 | omega)) (fun h => absurd h.2 (ne_l (by first | exact q_e782b8c3c ha2 ha3 | omega)))))))).trans (hid kn_163)
          have h_165 : c_139 59 (4 * k9 + 3) = (fal v1 (v2) 3 x3) + u3 := (congrArg (c_139 59) (show 4 * k9 + 3 = 4 * a3 + 3 from congrArg (fun z : Int => 4 * z + 3) e_153)).trans (hid kn_164)
          exact sm4 h_156 h_159 h_162 h_165 (by first | exact q_030f50e77 hq3 | omega)
        by_cases e_166 : k9 = a4
        · skip
          have kn_167 : Hid (c_131 59 (4 * a4) = w0) := (hF_133 59 (4 * a4) (fun h => absurd h.2 (ne_l (by first | exact q_4128697c9 ha3 ha4 | omega)))).trans ((up_n (by first | exact ne_0a (by decide) | omega)).trans ((up_n (by first | exact q_8ac71c5f3 | omega)).trans (hv10)))
          have kn_168 : Hid (c_139 59 (4 * a4) = w0) := (hF_141 59 (4 * a4) (fun q => q.elim (fun h => absurd h.2 (by first | exact q_b46fb41fd hq1 | omega)) (fun q => q.elim (fun h => absurd h.2 (by first | exact q_b2cb8bf87 | omega)) (fun q => q.elim (fun h => absurd h.2 (by first | exact q_c037f51da | omega)) (fun q => q.elim (fun h => absurd h.2 (by first | exact q_8ac71c5f3 | omega)) (fun h => absurd h.2 (ne_l (by first | exact q_4128697c9 ha2 ha4 | omega)))))))).trans (hid kn_167)
          have h_169 : c_139 59 (4 * k9) = w0 := (congrArg (c_139 59) (show 4 * k9 = 4 * a4 from congrArg (fun z : Int => 4 * z) e_166)).trans (hid kn_168)
          have kn_170 : Hid (c_131 59 (4 * a4 + 1) = w1) := (hF_133 59 (4 * a4 + 1) (fun h => absurd h.2 (ne_l (by first | exact q_8f2481ba6 ha3 ha4 | omega)))).trans ((up_n (by first | exact ne_aa (by decide) | omega)).trans ((up_n (by first | exact q_7c6b1b09a | omega)).trans (hv11)))
          have kn_171 : Hid (c_139 59 (4 * a4 + 1) = w1) := (hF_141 59 (4 * a4 + 1) (fun q => q.elim (fun h => absurd h.2 (by first | exact q_e5bcc673e | omega)) (fun q => q.elim (fun h => absurd h.2 (by first | exact q_0f4cbf258 hq1 | omega)) (fun q => q.elim (fun h => absurd h.2 (by first | exact q_3650b790c | omega)) (fun q => q.elim (fun h => absurd h.2 (by first | exact q_7c6b1b09a | omega)) (fun h => absurd h.2 (ne_l (by first | exact q_8f2481ba6 ha2 ha4 | omega)))))))).trans (hid kn_170)
          have h_172 : c_139 59 (4 * k9 + 1) = w1 := (congrArg (c_139 59) (show 4 * k9 + 1 = 4 * a4 + 1 from congrArg (fun z : Int => 4 * z + 1) e_166)).trans (hid kn_171)
          have kn_173 : Hid (c_131 59 (4 * a4 + 2) = w2) := (hF_133 59 (4 * a4 + 2) (fun h => absurd h.2 (ne_l (by first | exact q_04ab4010a ha3 ha4 | omega)))).trans ((up_n (by first | exact ne_aa (by decide) | omega)).trans ((up_n (by first | exact q_91c5bd343 | omega)).trans (hv12)))
          have kn_174 : Hid (c_139 59 (4 * a4 + 2) = w2) := (hF_141 59 (4 * a4 + 2) (fun q => q.elim (fun h => absurd h.2 (by first | exact q_ae83e86ba | omega)) (fun q => q.elim (fun h => absurd h.2 (by first | exact q_08c3d7060 | omega)) (fun q => q.elim (fun h => absurd h.2 (by first | exact q_28bc460e3 hq1 | omega)) (fun q => q.elim (fun h => absurd h.2 (by first | exact q_91c5bd343 | omega)) (fun h => absurd h.2 (ne_l (by first | exact q_04ab4010a ha2 ha4 | omega)))))))).trans (hid kn_173)
          have h_175 : c_139 59 (4 * k9 + 2) = w2 := (congrArg (c_139 59) (show 4 * k9 + 2 = 4 * a4 + 2 from congrArg (fun z : Int => 4 * z + 2) e_166)).trans (hid kn_174)
          have kn_176 : Hid (c_131 59 (4 * a4 + 3) = w3 + x3 - (fal v1 (v2) 3 x3)) := (hF_133 59 (4 * a4 + 3) (fun h => absurd h.2 (ne_l (by first | exact q_e782b8c3c ha3 ha4 | omega)))).trans (up_e rfl)
          have kn_177 : Hid (c_139 59 (4 * a4 + 3) = w3 + x3 - (fal v1 (v2) 3 x3)) := (hF_141 59 (4 * a4 + 3) (fun q => q.elim (fun h => absurd h.2 (by first | exact q_b6789388a | omega)) (fun q => q.elim (fun h => absurd h.2 (by first | exact q_6d5c6886e | omega)) (fun q => q.elim (fun h => absurd h.2 (by first | exact q_28d70e8e5 | omega)) (fun q => q.elim (fun h => absurd h.2 (by first | exact q_ca906b5de hq1 | omega)) (fun h => absurd h.2 (ne_l (by first | exact q_e782b8c3c ha2 ha4 | omega)))))))).trans (hid kn_176)
          have h_178 : c_139 59 (4 * k9 + 3) = w3 + x3 - (fal v1 (v2) 3 x3) := (congrArg (c_139 59) (show 4 * k9 + 3 = 4 * a4 + 3 from congrArg (fun z : Int => 4 * z + 3) e_166)).trans (hid kn_177)
          exact sm4 h_169 h_172 h_175 h_178 (by first | exact q_77b2d579a hq4 | omega)
        have h_179 := hqo (4 * k9) hj9 (by omega) (by omega) (by omega)
        have h_180 := ir_59_g hI (j := 4 * k9) (by first | exact q_9f1d5ffdc hk9 | omega)
        have kn_181 : Hid (c_131 59 (4 * k9) = c 59 (4 * k9)) := (hF_133 59 (4 * k9) (fun h => absurd h.2 (ne_l (by first | exact q_4128697c9 ha3 hk9 | omega)))).trans ((up_n (by first | exact q_8ac71c5f3 | omega)).trans (up_n (by first | exact q_8ac71c5f3 | omega)))
        have kn_182 : Hid (c_139 59 (4 * k9) = c 59 (4 * k9)) := (hF_141 59 (4 * k9) (fun q => q.elim (fun h => absurd h.2 (by first | exact q_336fb6678 e_148 | omega)) (fun q => q.elim (fun h => absurd h.2 (by first | exact q_b2cb8bf87 | omega)) (fun q => q.elim (fun h => absurd h.2 (by first | exact q_c037f51da | omega)) (fun q => q.elim (fun h => absurd h.2 (by first | exact q_8ac71c5f3 | omega)) (fun h => absurd h.2 (ne_l (by first | exact q_4128697c9 ha2 hk9 | omega)))))))).trans (hid kn_181)
        have h_183 : c_139 59 (4 * k9) = c 59 (4 * k9) := (hid kn_182)
        have h_184 := ir_59_g hI (j := 4 * k9 + 1) (by first | exact q_0a2ee6f8f hk9 | omega)
        have kn_185 : Hid (c_131 59 (4 * k9 + 1) = c 59 (4 * k9 + 1)) := (hF_133 59 (4 * k9 + 1) (fun h => absurd h.2 (ne_l (by first | exact q_8f2481ba6 ha3 hk9 | omega)))).trans ((up_n (by first | exact q_7c6b1b09a | omega)).trans (up_n (by first | exact q_7c6b1b09a | omega)))
        have kn_186 : Hid (c_139 59 (4 * k9 + 1) = c 59 (4 * k9 + 1)) := (hF_141 59 (4 * k9 + 1) (fun q => q.elim (fun h => absurd h.2 (by first | exact q_e5bcc673e | omega)) (fun q => q.elim (fun h => absurd h.2 (by first | exact q_52b51d728 e_148 | omega)) (fun q => q.elim (fun h => absurd h.2 (by first | exact q_3650b790c | omega)) (fun q => q.elim (fun h => absurd h.2 (by first | exact q_7c6b1b09a | omega)) (fun h => absurd h.2 (ne_l (by first | exact q_8f2481ba6 ha2 hk9 | omega)))))))).trans (hid kn_185)
        have h_187 : c_139 59 (4 * k9 + 1) = c 59 (4 * k9 + 1) := (hid kn_186)
        have h_188 := ir_59_g hI (j := 4 * k9 + 2) (by first | exact q_e07a293a2 hk9 | omega)
        have kn_189 : Hid (c_131 59 (4 * k9 + 2) = c 59 (4 * k9 + 2)) := (hF_133 59 (4 * k9 + 2) (fun h => absurd h.2 (ne_l (by first | exact q_04ab4010a ha3 hk9 | omega)))).trans ((up_n (by first | exact q_91c5bd343 | omega)).trans (up_n (by first | exact q_91c5bd343 | omega)))
        have kn_190 : Hid (c_139 59 (4 * k9 + 2) = c 59 (4 * k9 + 2)) := (hF_141 59 (4 * k9 + 2) (fun q => q.elim (fun h => absurd h.2 (by first | exact q_ae83e86ba | omega)) (fun q => q.elim (fun h => absurd h.2 (by first | exact q_08c3d7060 | omega)) (fun q => q.elim (fun h => absurd h.2 (by first | exact q_27892e29e e_148 | omega)) (fun q => q.elim (fun h => absurd h.2 (by first | exact q_91c5bd343 | omega)) (fun h => absurd h.2 (ne_l (by first | exact q_04ab4010a ha2 hk9 | omega)))))))).trans (hid kn_189)
        have h_191 : c_139 59 (4 * k9 + 2) = c 59 (4 * k9 + 2) := (hid kn_190)
        have h_192 := ir_59_g hI (j := 4 * k9 + 3) (by first | exact q_d09cb0b73 hk9 | omega)
        have kn_193 : Hid (c_131 59 (4 * k9 + 3) = c 59 (4 * k9 + 3)) := (hF_133 59 (4 * k9 + 3) (fun h => absurd h.2 (ne_l (by first | exact q_e782b8c3c ha3 hk9 | omega)))).trans ((up_n (by first | exact q_2db9f474b e_166 | omega)).trans (up_n (by first | exact q_2db9f474b e_153 | omega)))
        have kn_194 : Hid (c_139 59 (4 * k9 + 3) = c 59 (4 * k9 + 3)) := (hF_141 59 (4 * k9 + 3) (fun q => q.elim (fun h => absurd h.2 (by first | exact q_b6789388a | omega)) (fun q => q.elim (fun h => absurd h.2 (by first | exact q_6d5c6886e | omega)) (fun q => q.elim (fun h => absurd h.2 (by first | exact q_28d70e8e5 | omega)) (fun q => q.elim (fun h => absurd h.2 (by first | exact q_2db9f474b e_148 | omega)) (fun h => absurd h.2 (ne_l (by first | exact q_e782b8c3c ha2 hk9 | omega)))))))).trans (hid kn_193)
        have h_195 : c_139 59 (4 * k9 + 3) = c 59 (4 * k9 + 3) := (hid kn_194)
        omega
      have hI_196 := iv_close hI_140 hr_147
      exact K c_139 1 hI_196 (fun a j hm => (hF_141 a j (fun q => q.elim (fun h => hm h.1) (fun q => q.elim (fun h => hm h.1) (fun q => q.elim (fun h => hm h.1) (fun q => q.elim (fun h => hm h.1) (fun h => hm h.1)))))).trans ((hF_133 a j (fun h => hm h.1)).trans ((up_b (Decidable.or_iff_not_imp_left.mpr (fun h1 h2 => hm (Decidable.not_not.mp h1)))).trans (up_b (Decidable.or_iff_not_imp_left.mpr (fun h1 h2 => hm (Decidable.not_not.mp h1))))))) ⟨by decide, by decide⟩
    · refine v_ic_ge_f (t := 186) c_193_168 rfl ⟨ha5.1, (Int.not_le.mp h_138), by first | exact q_a964d3f86 hq5 | omega⟩ (q_aload_n c_193_171 rfl (q_iload c_193_172 rfl (q_aload_n c_193_174 rfl (v_gr (t := 59) c_193_175 kf_8_68 rfl (nb_ rfl) rfl (v_bip c_193_178 (by decide) (q_iload_n c_193_180 rfl (v_iadd (v := a2 + 24) c_193_181 (by first | exact q_1b47056ce | omega) ?_)))))))
      have kn_197 : Hid (c_131 59 (a2 + 24) = c 59 (a2 + 24)) := (hF_133 59 (a2 + 24) (fun h => absurd h.2 (by first | exact q_beed56cbb hq0 | omega))).trans ((up_n (ne_g (by first | exact q_e782b8c3c ha2 ha4 | omega))).trans (up_n (ne_g (by first | exact q_e782b8c3c ha2 ha3 | omega))))
      refine v_ia (v := c 59 (a2 + 24)) c_193_182 rfl (by decide) (by decide) ⟨by first | exact rgp_l ha2.1 (by decide) | omega, by first | exact q_57f615a18 ha2 | omega⟩ (hid kn_197) (v_cv c_193_183 km_8_369 rfl rfl (nb_ rfl) ⟨⟨rfl, rfl⟩, nb_ rfl, rfl⟩ (nb_ rfl) (nb_ rfl) (s_191 (a1 := a4) (a2 := c 59 (a2 + 24)) hI_132 (show 0 ≤ a4 ∧ a4 ≤ 5 from ha4) (show (-2147483648) ≤ c 59 (a2 + 24) ∧ c 59 (a2 + 24) ≤ 2147483647 from h_128) (fun c_198 hI_199 hF_200 => (bk_inl (q_aload_n c_193_186 rfl (q_iload_n c_193_187 rfl (v_cv c_193_188 km_8_372 rfl rfl (nb_ rfl) ⟨⟨rfl, rfl⟩, nb_ rfl, rfl⟩ (nb_ rfl) (nb_ rfl) (s_192 (a1 := a2) hI_199 (show 0 ≤ a2 ∧ a2 ≤ 5 from ha2) (fun c_201 hI_202 hF_203 h_204 => (bk_inl ?_))))))))))
      have h_205 := ir_59_g hI_202 (j := 4 * a2 + 1) (by first | exact q_0a2ee6f8f ha2 | omega)
      have h_206 := ir_59_g hI_202 (j := 4 * a2 + 2) (by first | exact q_e07a293a2 ha2 | omega)
      have h_207 := ir_59_g hI_202 (j := 4 * a2 + 3) (by first | exact q_d09cb0b73 ha2 | omega)
      have h_208 := ir_59_g hI_202 (j := 4 * a2) (by first | exact q_9f1d5ffdc ha2 | omega)
      refine q_iconst c_193_191 (v_zret c_193_192 rfl (by decide) ?_)
      have hr_209 : ∀ j : Int, rs 59 j → c_201 59 j + c_201 59 (j + 1) + c_201 59 (j + 2) + c_201 59 (j + 3) ≤ 9999 := by
        intro j9 hj9
        obtain ⟨k9, rfl, hk9⟩ := rs_59 hj9
        by_cases e_210 : k9 = a2
        · skip
          have h_211 : c_201 59 (4 * k9) = c_201 59 (4 * a2) := (congrArg (c_201 59) (show 4 * k9 = 4 * a2 from congrArg (fun z : Int => 4 * z) e_210))
          have h_212 : c_201 59 (4 * k9 + 1) = c_201 59 (4 * a2 + 1) := (congrArg (c_201 59) (show 4 * k9 + 1 = 4 * a2 + 1 from congrArg (fun z : Int => 4 * z + 1) e_210))
          have h_213 : c_201 59 (4 * k9 + 2) = c_201 59 (4 * a2 + 2) := (congrArg (c_201 59) (show 4 * k9 + 2 = 4 * a2 + 2 from congrArg (fun z : Int => 4 * z + 2) e_210))
          have h_214 : c_201 59 (4 * k9 + 3) = c_201 59 (4 * a2 + 3) := (congrArg (c_201 59) (show 4 * k9 + 3 = 4 * a2 + 3 from congrArg (fun z : Int => 4 * z + 3) e_210))
          exact sm4 h_211 h_212 h_213 h_214 (by first | exact q_71ae66e09 h_204 | omega)
        by_cases e_215 : k9 = a3
        · skip
          have kn_216 : Hid (c_131 59 (4 * a3) = u0) := (hF_133 59 (4 * a3) (fun h => absurd h.2 (ne_l (by first | exact q_788f4b81f ha3 | omega)))).trans ((up_n (by first | exact q_8ac71c5f3 | omega)).trans ((up_n (by first | exact ne_0a (by decide) | omega)).trans (hv6)))
          have kn_217 : Hid (c_198 59 (4 * a3) = u0) := (hF_200 59 (4 * a3) (fun h => absurd h.2 (ne_l (by first | exact q_2b13428e8 ha3 ha4 | omega)))).trans (hid kn_216)
          have kn_218 : Hid (c_201 59 (4 * a3) = u0) := (hF_203 59 (4 * a3) (fun q => q.elim (fun h => absurd h.2 (by first | exact q_b46fb41fd hq0 | omega)) (fun q => q.elim (fun h => absurd h.2 (by first | exact q_b2cb8bf87 | omega)) (fun q => q.elim (fun h => absurd h.2 (by first | exact q_c037f51da | omega)) (fun q => q.elim (fun h => absurd h.2 (by first | exact q_8ac71c5f3 | omega)) (fun h => absurd h.2 (ne_l (by first | exact q_4128697c9 ha2 ha3 | omega)))))))).trans (hid kn_217)
          have h_219 : c_201 59 (4 * k9) = u0 := (congrArg (c_201 59) (show 4 * k9 = 4 * a3 from congrArg (fun z : Int => 4 * z) e_215)).trans (hid kn_218)
          have kn_220 : Hid (c_131 59 (4 * a3 + 1) = u1) := (hF_133 59 (4 * a3 + 1) (fun h => absurd h.2 (ne_l (by first | exact q_60c9feeee ha3 | omega)))).trans ((up_n (by first | exact q_7c6b1b09a | omega)).trans ((up_n (by first | exact ne_aa (by decide) | omega)).trans (hv7)))
          have kn_221 : Hid (c_198 59 (4 * a3 + 1) = u1) := (hF_200 59 (4 * a3 + 1) (fun h => absurd h.2 (ne_l (by first | exact q_3178328df ha3 ha4 | omega)))).trans (hid kn_220)
          have kn_222 : Hid (c_201 59 (4 * a3 + 1) = u1) := (hF_203 59 (4 * a3 + 1) (fun q => q.elim (fun h => absurd h.2 (by first | exact q_e5bcc673e | omega)) (fun q => q.elim (fun h => absurd h.2 (by first | exact q_0f4cbf258 hq0 | omega)) (fun q => q.elim (fun h => absurd h.2 (by first | exact q_3650b790c | omega)) (fun q => q.elim (fun h => absurd h.2 (by first | exact q_7c6b1b09a | omega)) (fun h => absurd h.2 (ne_l (by first | exact q_8f2481ba6 ha2 ha3 | omega)))))))).trans (hid kn_221)
          have h_223 : c_201 59 (4 * k9 + 1) = u1 := (congrArg (c_201 59) (show 4 * k9 + 1 = 4 * a3 + 1 from congrArg (fun z : Int => 4 * z + 1) e_215)).trans (hid kn_222)
          have kn_224 : Hid (c_131 59 (4 * a3 + 2) = u2) := (hF_133 59 (4 * a3 + 2) (fun h => absurd h.2 (ne_l (by first | exact q_27ec1b4d7 ha3 | omega)))).trans ((up_n (by first | exact q_91c5bd343 | omega)).trans ((up_n (by first | exact ne_aa (by decide) | omega)).trans (hv8)))
          have kn_225 : Hid (c_198 59 (4 * a3 + 2) = u2) := (hF_200 59 (4 * a3 + 2) (fun h => absurd h.2 (ne_l (by first | exact q_428481d46 ha3 ha4 | omega)))).trans (hid kn_224)
          have kn_226 : Hid (c_201 59 (4 * a3 + 2) = u2) := (hF_203 59 (4 * a3 + 2) (fun q => q.elim (fun h => absurd h.2 (by first | exact q_ae83e86ba | omega)) (fun q => q.elim (fun h => absurd h.2 (by first | exact q_08c3d7060 | omega)) (fun q => q.elim (fun h => absurd h.2 (by first | exact q_28bc460e3 hq0 | omega)) (fun q => q.elim (fun h => absurd h.2 (by first | exact q_91c5bd343 | omega)) (fun h => absurd h.2 (ne_l (by first | exact q_04ab4010a ha2 ha3 | omega)))))))).trans (hid kn_225)
          have h_227 : c_201 59 (4 * k9 + 2) = u2 := (congrArg (c_201 59) (show 4 * k9 + 2 = 4 * a3 + 2 from congrArg (fun z : Int => 4 * z + 2) e_215)).trans (hid kn_226)
          have kn_228 : Hid (c_131 59 (4 * a3 + 3) = (fal v1 (v2) 3 x3) + u3) := (hF_133 59 (4 * a3 + 3) (fun h => absurd h.2 (ne_l (by first | exact q_fd9aac8f8 ha3 | omega)))).trans ((up_n (by first | exact q_a8d3e8094 hq2 | omega)).trans (up_e rfl))
          have kn_229 : Hid (c_198 59 (4 * a3 + 3) = (fal v1 (v2) 3 x3) + u3) := (hF_200 59 (4 * a3 + 3) (fun h => absurd h.2 (ne_l (by first | exact q_2771393a8 ha3 ha4 | omega)))).trans (hid kn_228)
          have kn_230 : Hid (c_201 59 (4 * a3 + 3) = (fal v1 (v2) 3 x3) + u3) := (hF_203 59 (4 * a3 + 3) (fun q => q.elim (fun h => absurd h.2 (by first | exact q_b6789388a | omega)) (fun q => q.elim (fun h => absurd h.2 (by first | exact q_6d5c6886e | omega)) (fun q => q.elim (fun h => absurd h.2 (by first | exact q_28d70e8e5 | omega)) (fun q => q.elim (fun h => absurd h.2 (by first | exact q_ca906b5de hq0 | omega)) (fun h => absurd h.2 (ne_l (by first | exact q_e782b8c3c ha2 ha3 | omega)))))))).trans (hid kn_229)
          have h_231 : c_201 59 (4 * k9 + 3) = (fal v1 (v2) 3 x3) + u3 := (congrArg (c_201 59) (show 4 * k9 + 3 = 4 * a3 + 3 from congrArg (fun z : Int => 4 * z + 3) e_215)).trans (hid kn_230)
          exact sm4 h_219 h_223 h_227 h_231 (by first | exact q_030f50e77 hq3 | omega)
        by_cases e_232 : k9 = a4
        · skip
          have kn_233 : Hid (c_131 59 (4 * a4) = w0) := (hF_133 59 (4 * a4) (fun h => absurd h.2 (ne_l (by first | exact q_4128697c9 ha3 ha4 | omega)))).trans ((up_n (by first | exact ne_0a (by decide) | omega)).trans ((up_n (by first | exact q_8ac71c5f3 | omega)).trans (hv10)))
          have kn_234 : Hid (c_198 59 (4 * a4) = w0) := (hF_200 59 (4 * a4) (fun h => absurd h.2 (ne_l (by first | exact q_788f4b81f ha4 | omega)))).trans (hid kn_233)
          have kn_235 : Hid (c_201 59 (4 * a4) = w0) := (hF_203 59 (4 * a4) (fun q => q.elim (fun h => absurd h.2 (by first | exact q_b46fb41fd hq1 | omega)) (fun q => q.elim (fun h => absurd h.2 (by first | exact q_b2cb8bf87 | omega)) (fun q => q.elim (fun h => absurd h.2 (by first | exact q_c037f51da | omega)) (fun q => q.elim (fun h => absurd h.2 (by first | exact q_8ac71c5f3 | omega)) (fun h => absurd h.2 (ne_l (by first | exact q_4128697c9 ha2 ha4 | omega)))))))).trans (hid kn_234)
          have h_236 : c_201 59 (4 * k9) = w0 := (congrArg (c_201 59) (show 4 * k9 = 4 * a4 from congrArg (fun z : Int => 4 * z) e_232)).trans (hid kn_235)
          have kn_237 : Hid (c_131 59 (4 * a4 + 1) = w1) := (hF_133 59 (4 * a4 + 1) (fun h => absurd h.2 (ne_l (by first | exact q_8f2481ba6 ha3 ha4 | omega)))).trans ((up_n (by first | exact ne_aa (by decide) | omega)).trans ((up_n (by first | exact q_7c6b1b09a | omega)).trans (hv11)))
          have kn_238 : Hid (c_198 59 (4 * a4 + 1) = w1) := (hF_200 59 (4 * a4 + 1) (fun h => absurd h.2 (ne_l (by first | exact q_60c9feeee ha4 | omega)))).trans (hid kn_237)
          have kn_239 : Hid (c_201 59 (4 * a4 + 1) = w1) := (hF_203 59 (4 * a4 + 1) (fun q => q.elim (fun h => absurd h.2 (by first | exact q_e5bcc673e | omega)) (fun q => q.elim (fun h => absurd h.2 (by first | exact q_0f4cbf258 hq1 | omega)) (fun q => q.elim (fun h => absurd h.2 (by first | exact q_3650b790c | omega)) (fun q => q.elim (fun h => absurd h.2 (by first | exact q_7c6b1b09a | omega)) (fun h => absurd h.2 (ne_l (by first | exact q_8f2481ba6 ha2 ha4 | omega)))))))).trans (hid kn_238)
          have h_240 : c_201 59 (4 * k9 + 1) = w1 := (congrArg (c_201 59) (show 4 * k9 + 1 = 4 * a4 + 1 from congrArg (fun z : Int => 4 * z + 1) e_232)).trans (hid kn_239)
          have kn_241 : Hid (c_131 59 (4 * a4 + 2) = w2) := (hF_133 59 (4 * a4 + 2) (fun h => absurd h.2 (ne_l (by first | exact q_04ab4010a ha3 ha4 | omega)))).trans ((up_n (by first | exact ne_aa (by decide) | omega)).trans ((up_n (by first | exact q_91c5bd343 | omega)).trans (hv12)))
          have kn_242 : Hid (c_198 59 (4 * a4 + 2) = w2) := (hF_200 59 (4 * a4 + 2) (fun h => absurd h.2 (ne_l (by first | exact q_27ec1b4d7 ha4 | omega)))).trans (hid kn_241)
          have kn_243 : Hid (c_201 59 (4 * a4 + 2) = w2) := (hF_203 59 (4 * a4 + 2) (fun q => q.elim (fun h => absurd h.2 (by first | exact q_ae83e86ba | omega)) (fun q => q.elim (fun h => absurd h.2 (by first | exact q_08c3d7060 | omega)) (fun q => q.elim (fun h => absurd h.2 (by first | exact q_28bc460e3 hq1 | omega)) (fun q => q.elim (fun h => absurd h.2 (by first | exact q_91c5bd343 | omega)) (fun h => absurd h.2 (ne_l (by first | exact q_04ab4010a ha2 ha4 | omega)))))))).trans (hid kn_242)
          have h_244 : c_201 59 (4 * k9 + 2) = w2 := (congrArg (c_201 59) (show 4 * k9 + 2 = 4 * a4 + 2 from congrArg (fun z : Int => 4 * z + 2) e_232)).trans (hid kn_243)
          have kn_245 : Hid (c_131 59 (4 * a4 + 3) = w3 + x3 - (fal v1 (v2) 3 x3)) := (hF_133 59 (4 * a4 + 3) (fun h => absurd h.2 (ne_l (by first | exact q_e782b8c3c ha3 ha4 | omega)))).trans (up_e rfl)
          have kn_246 : Hid (c_198 59 (4 * a4 + 3) = w3 + x3 - (fal v1 (v2) 3 x3)) := (hF_200 59 (4 * a4 + 3) (fun h => absurd h.2 (ne_l (by first | exact q_fd9aac8f8 ha4 | omega)))).trans (hid kn_245)
          have kn_247 : Hid (c_201 59 (4 * a4 + 3) = w3 + x3 - (fal v1 (v2) 3 x3)) := (hF_203 59 (4 * a4 + 3) (fun q => q.elim (fun h => absurd h.2 (by first | exact q_b6789388a | omega)) (fun q => q.elim (fun h => absurd h.2 (by first | exact q_6d5c6886e | omega)) (fun q => q.elim (fun h => absurd h.2 (by first | exact q_28d70e8e5 | omega)) (fun q => q.elim (fun h => absurd h.2 (by first | exact q_ca906b5de hq1 | omega)) (fun h => absurd h.2 (ne_l (by first | exact q_e782b8c3c ha2 ha4 | omega)))))))).trans (hid kn_246)
          have h_248 : c_201 59 (4 * k9 + 3) = w3 + x3 - (fal v1 (v2) 3 x3) := (congrArg (c_201 59) (show 4 * k9 + 3 = 4 * a4 + 3 from congrArg (fun z : Int => 4 * z + 3) e_232)).trans (hid kn_247)
          exact sm4 h_236 h_240 h_244 h_248 (by first | exact q_77b2d579a hq4 | omega)
        have h_249 := hqo (4 * k9) hj9 (by omega) (by omega) (by omega)
        have h_250 := ir_59_g hI (j := 4 * k9) (by first | exact q_9f1d5ffdc hk9 | omega)
        have kn_251 : Hid (c_131 59 (4 * k9) = c 59 (4 * k9)) := (hF_133 59 (4 * k9) (fun h => absurd h.2 (ne_l (by first | exact q_4128697c9 ha3 hk9 | omega)))).trans ((up_n (by first | exact q_8ac71c5f3 | omega)).trans (up_n (by first | exact q_8ac71c5f3 | omega)))
        have kn_252 : Hid (c_198 59 (4 * k9) = c 59 (4 * k9)) := (hF_200 59 (4 * k9) (fun h => absurd h.2 (ne_l (by first | exact q_4128697c9 ha4 hk9 | omega)))).trans (hid kn_251)
        have kn_253 : Hid (c_201 59 (4 * k9) = c 59 (4 * k9)) := (hF_203 59 (4 * k9) (fun q => q.elim (fun h => absurd h.2 (by first | exact q_336fb6678 e_210 | omega)) (fun q => q.elim (fun h => absurd h.2 (by first | exact q_b2cb8bf87 | omega)) (fun q => q.elim (fun h => absurd h.2 (by first | exact q_c037f51da | omega)) (fun q => q.elim (fun h => absurd h.2 (by first | exact q_8ac71c5f3 | omega)) (fun h => absurd h.2 (ne_l (by first | exact q_4128697c9 ha2 hk9 | omega)))))))).trans (hid kn_252)
        have h_254 : c_201 59 (4 * k9) = c 59 (4 * k9) := (hid kn_253)
        have h_255 := ir_59_g hI (j := 4 * k9 + 1) (by first | exact q_0a2ee6f8f hk9 | omega)
        have kn_256 : Hid (c_131 59 (4 * k9 + 1) = c 59 (4 * k9 + 1)) := (hF_133 59 (4 * k9 + 1) (fun h => absurd h.2 (ne_l (by first | exact q_8f2481ba6 ha3 hk9 | omega)))).trans ((up_n (by first | exact q_7c6b1b09a | omega)).trans (up_n (by first | exact q_7c6b1b09a | omega)))
        have kn_257 : Hid (c_198 59 (4 * k9 + 1) = c 59 (4 * k9 + 1)) := (hF_200 59 (4 * k9 + 1) (fun h => absurd h.2 (ne_l (by first | exact q_8f2481ba6 ha4 hk9 | omega)))).trans (hid kn_256)
        have kn_258 : Hid (c_201 59 (4 * k9 + 1) = c 59 (4 * k9 + 1)) := (hF_203 59 (4 * k9 + 1) (fun q => q.elim (fun h => absurd h.2 (by first | exact q_e5bcc673e | omega)) (fun q => q.elim (fun h => absurd h.2 (by first | exact q_52b51d728 e_210 | omega)) (fun q => q.elim (fun h => absurd h.2 (by first | exact q_3650b790c | omega)) (fun q => q.elim (fun h => absurd h.2 (by first | exact q_7c6b1b09a | omega)) (fun h => absurd h.2 (ne_l (by first | exact q_8f2481ba6 ha2 hk9 | omega)))))))).trans (hid kn_257)
        have h_259 : c_201 59 (4 * k9 + 1) = c 59 (4 * k9 + 1) := (hid kn_258)
        have h_260 := ir_59_g hI (j := 4 * k9 + 2) (by first | exact q_e07a293a2 hk9 | omega)
        have kn_261 : Hid (c_131 59 (4 * k9 + 2) = c 59 (4 * k9 + 2)) := (hF_133 59 (4 * k9 + 2) (fun h => absurd h.2 (ne_l (by first | exact q_04ab4010a ha3 hk9 | omega)))).trans ((up_n (by first | exact q_91c5bd343 | omega)).trans (up_n (by first | exact q_91c5bd343 | omega)))
        have kn_262 : Hid (c_198 59 (4 * k9 + 2) = c 59 (4 * k9 + 2)) := (hF_200 59 (4 * k9 + 2) (fun h => absurd h.2 (ne_l (by first | exact q_04ab4010a ha4 hk9 | omega)))).trans (hid kn_261)
        have kn_263 : Hid (c_201 59 (4 * k9 + 2) = c 59 (4 * k9 + 2)) := (hF_203 59 (4 * k9 + 2) (fun q => q.elim (fun h => absurd h.2 (by first | exact q_ae83e86ba | omega)) (fun q => q.elim (fun h => absurd h.2 (by first | exact q_08c3d7060 | omega)) (fun q => q.elim (fun h => absurd h.2 (by first | exact q_27892e29e e_210 | omega)) (fun q => q.elim (fun h => absurd h.2 (by first | exact q_91c5bd343 | omega)) (fun h => absurd h.2 (ne_l (by first | exact q_04ab4010a ha2 hk9 | omega)))))))).trans (hid kn_262)
        have h_264 : c_201 59 (4 * k9 + 2) = c 59 (4 * k9 + 2) := (hid kn_263)
        have h_265 := ir_59_g hI (j := 4 * k9 + 3) (by first | exact q_d09cb0b73 hk9 | omega)
        have kn_266 : Hid (c_131 59 (4 * k9 + 3) = c 59 (4 * k9 + 3)) := (hF_133 59 (4 * k9 + 3) (fun h => absurd h.2 (ne_l (by first | exact q_e782b8c3c ha3 hk9 | omega)))).trans ((up_n (by first | exact q_2db9f474b e_232 | omega)).trans (up_n (by first | exact q_2db9f474b e_215 | omega)))
        have kn_267 : Hid (c_198 59 (4 * k9 + 3) = c 59 (4 * k9 + 3)) := (hF_200 59 (4 * k9 + 3) (fun h => absurd h.2 (ne_l (by first | exact q_e782b8c3c ha4 hk9 | omega)))).trans (hid kn_266)
        have kn_268 : Hid (c_201 59 (4 * k9 + 3) = c 59 (4 * k9 + 3)) := (hF_203 59 (4 * k9 + 3) (fun q => q.elim (fun h => absurd h.2 (by first | exact q_b6789388a | omega)) (fun q => q.elim (fun h => absurd h.2 (by first | exact q_6d5c6886e | omega)) (fun q => q.elim (fun h => absurd h.2 (by first | exact q_28d70e8e5 | omega)) (fun q => q.elim (fun h => absurd h.2 (by first | exact q_2db9f474b e_210 | omega)) (fun h => absurd h.2 (ne_l (by first | exact q_e782b8c3c ha2 hk9 | omega)))))))).trans (hid kn_267)
        have h_269 : c_201 59 (4 * k9 + 3) = c 59 (4 * k9 + 3) := (hid kn_268)
        omega
      have hI_270 := iv_close hI_202 hr_209
      exact K c_201 1 hI_270 (fun a j hm => (hF_203 a j (fun q => q.elim (fun h => hm h.1) (fun q => q.elim (fun h => hm h.1) (fun q => q.elim (fun h => hm h.1) (fun q => q.elim (fun h => hm h.1) (fun h => hm h.1)))))).trans ((hF_200 a j (fun h => hm h.1)).trans ((hF_133 a j (fun h => hm h.1)).trans ((up_b (Decidable.or_iff_not_imp_left.mpr (fun h1 h2 => hm (Decidable.not_not.mp h1)))).trans (up_b (Decidable.or_iff_not_imp_left.mpr (fun h1 h2 => hm (Decidable.not_not.mp h1)))))))) ⟨by decide, by decide⟩
set_option maxRecDepth 100000 in
set_option maxHeartbeats 4000000 in
theorem s_193_2 {sc : List Int32} {d P Q : Nat} {c : ME} {v1 v2 x0 x1 x2 x3 u0 u1 u2 u3 w0 w1 w2 w3 : Int} {a1 : Int} {a2 : Int} {a3 : Int} {a4 : Int} {a5 : Int} {Z : AR → Prop} (hI : Iv 59 (-1) P Q c) (ha1 : 0 ≤ a1 ∧ a1 ≤ 3) (ha2 : 0 ≤ a2 ∧ a2 ≤ 5) (ha3 : 0 ≤ a3 ∧ a3 ≤ 5) (ha4 : 0 ≤ a4 ∧ a4 ≤ 5) (ha5 : (-2147483648) ≤ a5 ∧ a5 ≤ 2147483647) (hq0 : (a2 < a3) ∨ (a2 > a3)) (hq1 : (a2 < a4) ∨ (a2 > a4)) (hq2 : (a3 < a4) ∨ (a3 > a4)) (hq3 : ((fal v1 (v2) 2 x2) + (fal v1 (v2) 3 x3) + u0 + u1 + u2 + u3 ≤ 9999)) (hq4 : (w0 + w1 + w2 + w3 + x2 + x3 - (fal v1 (v2) 2 x2) - (fal v1 (v2) 3 x3) ≤ 9999)) (hq5 : (x0 + x1 + x2 + x3 ≤ 9999)) (hq6 : ∀ j : Int, rs 59 j → ¬ j = 4 * a2 → ¬ j = 4 * a3 → ¬ j = 4 * a4 → c 59 j + c 59 (j + 1) + c 59 (j + 2) + c 59 (j + 3) ≤ 9999) (hv0 : c 49 a1 = v1) (hv1 : c 59 (a1 + 30) = v2) (hv2 : c 59 (4 * a2) = x0) (hv3 : c 59 (4 * a2 + 1) = x1) (hv4 : c 59 (4 * a2 + 2) = x2) (hv5 : c 59 (4 * a2 + 3) = x3) (hv6 : c 59 (4 * a3) = u0) (hv7 : c 59 (4 * a3 + 1) = u1) (hv8 : c 59 (4 * a3 + 2) = u2) (hv9 : c 59 (4 * a3 + 3) = u3) (hv10 : c 59 (4 * a4) = w0) (hv11 : c 59 (4 * a4 + 1) = w1) (hv12 : c 59 (4 * a4 + 2) = w2) (hv13 : c 59 (4 * a4 + 3) = w3) (K : ∀ (c2 : ME) (y : Int), Iv 0 (-1) P Q c2 → (∀ (a : Nat) (j : Int), ¬ (a = 59) → c2 a j = c a j) → 0 ≤ y ∧ y ≤ 1 → Z (.inl (some (vi y)), Wd P Q P P c2, 0, 0)) : Wp sc (d + 9) 193 75 [(0, .ref 41), (1, vi a1), (2, vi a2), (3, vi a3), (4, vi a4), (5, vi a5), (6, vi 2)] [] (Wd P Q P P c) 0 0 Z := by
  have hP := iv_P hI
  have hQ := iv_Q hI
  have h_1 := ir_49 hI a1
  have h_2 := ir_59 hI (a1 + 30)
  have h_3 := ir_59_g hI (j := 4 * a2) (by first | exact q_9f1d5ffdc ha2 | omega)
  have h_4 := ir_59_g hI (j := 4 * a2 + 1) (by first | exact q_0a2ee6f8f ha2 | omega)
  have h_5 := ir_59_g hI (j := 4 * a2 + 2) (by first | exact q_e07a293a2 ha2 | omega)
  have h_6 := ir_59_g hI (j := 4 * a2 + 3) (by first | exact q_d09cb0b73 ha2 | omega)
  have h_7 := ir_59_g hI (j := 4 * a3) (by first | exact q_9f1d5ffdc ha3 | omega)
  have h_8 := ir_59_g hI (j := 4 * a3 + 1) (by first | exact q_0a2ee6f8f ha3 | omega)
  have h_9 := ir_59_g hI (j := 4 * a3 + 2) (by first | exact q_e07a293a2 ha3 | omega)
  have h_10 := ir_59_g hI (j := 4 * a3 + 3) (by first | exact q_d09cb0b73 ha3 | omega)
  have h_11 := ir_59_g hI (j := 4 * a4) (by first | exact q_9f1d5ffdc ha4 | omega)
  have h_12 := ir_59_g hI (j := 4 * a4 + 1) (by first | exact q_0a2ee6f8f ha4 | omega)
  have h_13 := ir_59_g hI (j := 4 * a4 + 2) (by first | exact q_e07a293a2 ha4 | omega)
  have h_14 := ir_59_g hI (j := 4 * a4 + 3) (by first | exact q_d09cb0b73 ha4 | omega)
  have hqo := hq6
  have h_15 := fal_rng (m := v1) (t := v2) (g := 2) (x := x2) (by omega)
  have h_16 := fal_rng (m := v1) (t := v2) (g := 3) (x := x3) (by omega)
  refine q_iload c_193_75 rfl (q_iconst c_193_77 (v_ic_ge_f (t := 142) c_193_78 rfl (by decide) (q_aload_n c_193_81 rfl (q_iload_n c_193_82 rfl (q_iload_n c_193_83 rfl (q_iload c_193_84 rfl (v_cv c_193_86 km_8_363 rfl rfl (nb_ rfl) ⟨⟨rfl, rfl⟩, nb_ rfl, rfl⟩ (nb_ rfl) (nb_ rfl) (s_189 (v1 := v1) (v2 := v2) (v3 := x2) (r := (fal v1 (v2) 2 x2)) (a1 := a1) (a2 := a2) (a3 := 2) hI (show 0 ≤ a1 ∧ a1 ≤ 3 from ha1) (show 0 ≤ a2 ∧ a2 ≤ 5 from ha2) (show 0 ≤ 2 ∧ 2 ≤ 3 from ⟨by decide, by decide⟩) ((hv0)) ((hv1)) ((hv4)) rfl ?_))))))))
  refine bk_inl (q_istore c_193_89 (nb_ rfl) (q_aload_n c_193_91 rfl (v_gr (t := 59) c_193_92 kf_8_68 rfl (nb_ rfl) rfl (q_iconst c_193_95 (q_iload_n c_193_96 rfl (v_imul (v := 4 * a3) c_193_97 rfl (q_iload c_193_98 rfl ?_)))))))
  refine v_iadd (v := 4 * a3 + 2) c_193_100 rfl (q_dup2 c_193_101 ⟨rfl, rfl⟩ (v_ia (v := u2) c_193_102 rfl (by decide) (by decide) ⟨by first | exact q_0f37a0c6e ha3 | omega, by first | exact q_36e1404d4 ha3 | omega⟩ (hv8) (q_iload c_193_103 rfl (v_iadd (v := (fal v1 (v2) 2 x2) + u2) c_193_105 (by first | exact q_893c89ded | omega) (v_is c_193_106 rfl (by decide) (by decide) ⟨by first | exact q_0f37a0c6e ha3 | omega, by first | exact q_36e1404d4 ha3 | omega⟩ (q_aload_n c_193_107 rfl (v_gr (t := 59) c_193_108 kf_8_68 rfl (nb_ rfl) rfl ?_)))))))
  refine q_iconst c_193_111 (q_iload c_193_112 rfl (v_imul (v := 4 * a4) c_193_114 rfl (q_iload c_193_115 rfl (v_iadd (v := 4 * a4 + 2) c_193_117 rfl (q_dup2 c_193_118 ⟨rfl, rfl⟩ (v_ia (v := w2) c_193_119 rfl (by decide) (by decide) ⟨by first | exact q_0f37a0c6e ha4 | omega, by first | exact q_36e1404d4 ha4 | omega⟩ ((up_n (by first | exact q_28bc460e3 hq2 | omega)).trans (hv12)) (q_aload_n c_193_120 rfl ?_)))))))
  refine v_gr (t := 59) c_193_121 kf_8_68 rfl (nb_ rfl) rfl (q_iconst c_193_124 (q_iload_n c_193_125 rfl (v_imul (v := 4 * a2) c_193_126 rfl (q_iload c_193_127 rfl (v_iadd (v := 4 * a2 + 2) c_193_129 rfl (v_ia (v := x2) c_193_130 rfl (by decide) (by decide) ⟨by first | exact q_0f37a0c6e ha2 | omega, by first | exact q_36e1404d4 ha2 | omega⟩ ((up_n (by first | exact q_fa7eff6f3 hq0 | omega)).trans (hv4)) (q_iload c_193_131 rfl ?_)))))))
  refine v_isub (v := x2 - (fal v1 (v2) 2 x2)) c_193_133 rfl (v_iadd (v := w2 + x2 - (fal v1 (v2) 2 x2)) c_193_134 (by first | exact q_7612369dc | omega) (v_is c_193_135 rfl (by decide) (by decide) ⟨by first | exact q_0f37a0c6e ha4 | omega, by first | exact q_36e1404d4 ha4 | omega⟩ (v_iinc (v := 3) c_193_136 rfl (nb_ rfl) (by decide) (q_goto (t := 75) c_193_139 rfl ?_))))
  have hI_17 := iwr0 (a := 59) (j := 4 * a3 + 2) (v := (fal v1 (v2) 2 x2) + u2) hI (by decide) ⟨by first | (clear ha1 ha2 ha3 ha4 ha5 hq3 hq4 hq5 h_1 hv0 h_2 hv1 h_3 hv2 h_4 hv3 h_5 hv4 h_6 hv5 h_7 hv6 h_8 hv7 h_10 hv9 h_11 hv10 h_12 hv11 h_13 hv12 h_14 hv13 h_16 hq0 hq1 hq2; omega) | omega, by first | (clear ha1 ha2 ha3 ha4 ha5 hq4 hq5 h_1 hv0 h_2 hv1 h_3 hv2 h_4 hv3 h_5 hv4 h_6 hv5 h_9 hv8 h_11 hv10 h_12 hv11 h_13 hv12 h_14 hv13 h_15 hq0 hq1 hq2; omega) | omega⟩
  have hI_18 := iwr0 (a := 59) (j := 4 * a4 + 2) (v := w2 + x2 - (fal v1 (v2) 2 x2)) hI_17 (by decide) ⟨by first | (clear ha1 ha2 ha3 ha4 ha5 hq3 hq4 hq5 h_1 hv0 h_2 hv1 h_3 hv2 h_4 hv3 h_5 hv4 h_6 hv5 h_7 hv6 h_8 hv7 h_9 hv8 h_10 hv9 h_11 hv10 h_12 hv11 h_14 hv13 h_16 hq0 hq1 hq2; omega) | omega, by first | (clear ha1 ha2 ha3 ha4 ha5 hq3 hq5 h_1 hv0 h_2 hv1 h_3 hv2 h_4 hv3 h_5 hv4 h_6 hv5 h_7 hv6 h_8 hv7 h_9 hv8 h_10 hv9 h_13 hv12 h_15 hq0 hq1 hq2; omega) | omega⟩
  have hqo_19 : ∀ j : Int, rs 59 j → ¬ j = 4 * a2 → ¬ j = 4 * a3 → ¬ j = 4 * a4 → (up (up c 59 (4 * a3 + 2) ((fal v1 (v2) 2 x2) + u2)) 59 (4 * a4 + 2) (w2 + x2 - (fal v1 (v2) 2 x2))) 59 j + (up (up c 59 (4 * a3 + 2) ((fal v1 (v2) 2 x2) + u2)) 59 (4 * a4 + 2) (w2 + x2 - (fal v1 (v2) 2 x2))) 59 (j + 1) + (up (up c 59 (4 * a3 + 2) ((fal v1 (v2) 2 x2) + u2)) 59 (4 * a4 + 2) (w2 + x2 - (fal v1 (v2) 2 x2))) 59 (j + 2) + (up (up c 59 (4 * a3 + 2) ((fal v1 (v2) 2 x2) + u2)) 59 (4 * a4 + 2) (w2 + x2 - (fal v1 (v2) 2 x2))) 59 (j + 3) ≤ 9999 := by
    intro j9 hj9 hz0 hz1 hz2
    obtain ⟨k9, rfl, hk9⟩ := rs_59 hj9
    have h_20 := hqo (4 * k9) hj9 (by omega) (by omega) (by omega)
    have h_21 := ir_59_g hI (j := 4 * k9) (by first | exact q_9f1d5ffdc hk9 | omega)
    have h_22 : (up (up c 59 (4 * a3 + 2) ((fal v1 (v2) 2 x2) + u2)) 59 (4 * a4 + 2) (w2 + x2 - (fal v1 (v2) 2 x2))) 59 (4 * k9) = c 59 (4 * k9) := ((up_n (by first | exact q_c037f51da | omega)).trans (up_n (by first | exact q_c037f51da | omega)))
    have h_23 := ir_59_g hI (j := 4 * k9 + 1) (by first | exact q_0a2ee6f8f hk9 | omega)
    have h_24 : (up (up c 59 (4 * a3 + 2) ((fal v1 (v2) 2 x2) + u2)) 59 (4 * a4 + 2) (w2 + x2 - (fal v1 (v2) 2 x2))) 59 (4 * k9 + 1) = c 59 (4 * k9 + 1) := ((up_n (by first | exact q_3650b790c | omega)).trans (up_n (by first | exact q_3650b790c | omega)))
    have h_25 := ir_59_g hI (j := 4 * k9 + 2) (by first | exact q_e07a293a2 hk9 | omega)
    have h_26 : (up (up c 59 (4 * a3 + 2) ((fal v1 (v2) 2 x2) + u2)) 59 (4 * a4 + 2) (w2 + x2 - (fal v1 (v2) 2 x2))) 59 (4 * k9 + 2) = c 59 (4 * k9 + 2) := ((up_n (by first | (clear ha1 ha2 ha3 ha4 ha5 hq3 hq4 hq5 h_1 hv0 h_2 hv1 h_3 hv2 h_4 hv3 h_5 hv4 h_6 hv5 h_7 hv6 h_8 hv7 h_9 hv8 h_10 hv9 h_11 hv10 h_12 hv11 h_13 hv12 h_14 hv13 h_15 h_16 hk9 h_21 h_23 hq0 hq1 hq2; omega) | omega)).trans (up_n (by first | (clear ha1 ha2 ha3 ha4 ha5 hq3 hq4 hq5 h_1 hv0 h_2 hv1 h_3 hv2 h_4 hv3 h_5 hv4 h_6 hv5 h_7 hv6 h_8 hv7 h_9 hv8 h_10 hv9 h_11 hv10 h_12 hv11 h_13 hv12 h_14 hv13 h_15 h_16 hk9 h_21 h_23 hq0 hq1 hq2; omega) | omega)))
    have h_27 := ir_59_g hI (j := 4 * k9 + 3) (by first | exact q_d09cb0b73 hk9 | omega)
    have h_28 : (up (up c 59 (4 * a3 + 2) ((fal v1 (v2) 2 x2) + u2)) 59 (4 * a4 + 2) (w2 + x2 - (fal v1 (v2) 2 x2))) 59 (4 * k9 + 3) = c 59 (4 * k9 + 3) := ((up_n (by first | exact q_28d70e8e5 | omega)).trans (up_n (by first | exact q_28d70e8e5 | omega)))
    omega
  refine Wp_ls [(0, .ref 41), (1, vi a1), (2, vi a2), (3, vi a3), (4, vi a4), (5, vi a5), (6, vi 3)] (lsub_cons rfl (lsub_cons rfl (lsub_cons rfl (lsub_cons rfl (lsub_cons rfl (lsub_cons rfl (lsub_cons rfl lsub_nil))))))) ?_
  exact s_193_3 (v1 := v1) (v2 := v2) (x0 := x0) (x1 := x1) (x2 := x2) (x3 := x3) (u0 := u0) (u1 := u1) (u2 := (fal v1 (v2) 2 x2) + u2) (u3 := u3) (w0 := w0) (w1 := w1) (w2 := w2 + x2 - (fal v1 (v2) 2 x2)) (w3 := w3) (a5 := a5) hI_18 (by omega) (by omega) (by omega) (by omega) (by omega) (by omega) (by omega) (by omega) (by omega) (by omega) (by omega) hqo_19 (((up_c (nn rfl)).trans ((up_c (nn rfl)).trans (hv0)))) (((up_n (ne_g (by first | exact q_25cce9136 ha1 ha4 | omega))).trans ((up_n (ne_g (by first | exact q_25cce9136 ha1 ha3 | omega))).trans (hv1)))) (((up_n (by first | exact q_c037f51da | omega)).trans ((up_n (by first | exact q_c037f51da | omega)).trans (hv2)))) (((up_n (by first | exact q_3650b790c | omega)).trans ((up_n (by first | exact q_3650b790c | omega)).trans (hv3)))) (((up_n (by first | exact q_fa7eff6f3 hq1 | omega)).trans ((up_n (by first | exact q_fa7eff6f3 hq0 | omega)).trans (hv4)))) (((up_n (by first | exact q_28d70e8e5 | omega)).trans ((up_n (by first | exact q_28d70e8e5 | omega)).trans (hv5)))) (((up_n (by first | exact q_c037f51da | omega)).trans ((up_n (by first | exact ne_0a (by decide) | omega)).trans (hv6)))) (((up_n (by first | exact q_3650b790c | omega)).trans ((up_n (by first | exact ne_aa (by decide) | omega)).trans (hv7)))) (((up_n (by first | exact q_fa7eff6f3 hq2 | omega)).trans (up_e rfl))) (((up_n (by first | exact q_28d70e8e5 | omega)).trans ((up_n (by first | exact ne_aa (by decide) | omega)).trans (hv9)))) (((up_n (by first | exact ne_0a (by decide) | omega)).trans ((up_n (by first | exact q_c037f51da | omega)).trans (hv10)))) (((up_n (by first | exact ne_aa (by decide) | omega)).trans ((up_n (by first | exact q_3650b790c | omega)).trans (hv11)))) ((up_e rfl)) (((up_n (by first | exact ne_aa (by decide) | omega)).trans ((up_n (by first | exact q_28d70e8e5 | omega)).trans (hv13)))) (fun c9 y9 hI9 hF9 hy9 => K c9 y9 hI9 (fun a j hm => (hF9 a j (by omega)).trans ((up_b (by omega)).trans (up_b (by omega)))) hy9)
set_option maxRecDepth 100000 in
set_option maxHeartbeats 4000000 in
theorem s_193_1 {sc : List Int32} {d P Q : Nat} {c : ME} {v1 v2 x0 x1 x2 x3 u0 u1 u2 u3 w0 w1 w2 w3 : Int} {a1 : Int} {a2 : Int} {a3 : Int} {a4 : Int} {a5 : Int} {Z : AR → Prop} (hI : Iv 59 (-1) P Q c) (ha1 : 0 ≤ a1 ∧ a1 ≤ 3) (ha2 : 0 ≤ a2 ∧ a2 ≤ 5) (ha3 : 0 ≤ a3 ∧ a3 ≤ 5) (ha4 : 0 ≤ a4 ∧ a4 ≤ 5) (ha5 : (-2147483648) ≤ a5 ∧ a5 ≤ 2147483647) (hq0 : (a2 < a3) ∨ (a2 > a3)) (hq1 : (a2 < a4) ∨ (a2 > a4)) (hq2 : (a3 < a4) ∨ (a3 > a4)) (hq3 : ((fal v1 (v2) 1 x1) + (fal v1 (v2) 2 x2) + (fal v1 (v2) 3 x3) + u0 + u1 + u2 + u3 ≤ 9999)) (hq4 : (w0 + w1 + w2 + w3 + x1 + x2 + x3 - (fal v1 (v2) 1 x1) - (fal v1 (v2) 2 x2) - (fal v1 (v2) 3 x3) ≤ 9999)) (hq5 : (x0 + x1 + x2 + x3 ≤ 9999)) (hq6 : ∀ j : Int, rs 59 j → ¬ j = 4 * a2 → ¬ j = 4 * a3 → ¬ j = 4 * a4 → c 59 j + c 59 (j + 1) + c 59 (j + 2) + c 59 (j + 3) ≤ 9999) (hv0 : c 49 a1 = v1) (hv1 : c 59 (a1 + 30) = v2) (hv2 : c 59 (4 * a2) = x0) (hv3 : c 59 (4 * a2 + 1) = x1) (hv4 : c 59 (4 * a2 + 2) = x2) (hv5 : c 59 (4 * a2 + 3) = x3) (hv6 : c 59 (4 * a3) = u0) (hv7 : c 59 (4 * a3 + 1) = u1) (hv8 : c 59 (4 * a3 + 2) = u2) (hv9 : c 59 (4 * a3 + 3) = u3) (hv10 : c 59 (4 * a4) = w0) (hv11 : c 59 (4 * a4 + 1) = w1) (hv12 : c 59 (4 * a4 + 2) = w2) (hv13 : c 59 (4 * a4 + 3) = w3) (K : ∀ (c2 : ME) (y : Int), Iv 0 (-1) P Q c2 → (∀ (a : Nat) (j : Int), ¬ (a = 59) → c2 a j = c a j) → 0 ≤ y ∧ y ≤ 1 → Z (.inl (some (vi y)), Wd P Q P P c2, 0, 0)) : Wp sc (d + 9) 193 75 [(0, .ref 41), (1, vi a1), (2, vi a2), (3, vi a3), (4, vi a4), (5, vi a5), (6, vi 1)] [] (Wd P Q P P c) 0 0 Z := by
  have hP := iv_P hI
  have hQ := iv_Q hI
  have h_1 := ir_49 hI a1
  have h_2 := ir_59 hI (a1 + 30)
  have h_3 := ir_59_g hI (j := 4 * a2) (by first | exact q_9f1d5ffdc ha2 | omega)
  have h_4 := ir_59_g hI (j := 4 * a2 + 1) (by first | exact q_0a2ee6f8f ha2 | omega)
  have h_5 := ir_59_g hI (j := 4 * a2 + 2) (by first | exact q_e07a293a2 ha2 | omega)
  have h_6 := ir_59_g hI (j := 4 * a2 + 3) (by first | exact q_d09cb0b73 ha2 | omega)
  have h_7 := ir_59_g hI (j := 4 * a3) (by first | exact q_9f1d5ffdc ha3 | omega)
  have h_8 := ir_59_g hI (j := 4 * a3 + 1) (by first | exact q_0a2ee6f8f ha3 | omega)
  have h_9 := ir_59_g hI (j := 4 * a3 + 2) (by first | exact q_e07a293a2 ha3 | omega)
  have h_10 := ir_59_g hI (j := 4 * a3 + 3) (by first | exact q_d09cb0b73 ha3 | omega)
  have h_11 := ir_59_g hI (j := 4 * a4) (by first | exact q_9f1d5ffdc ha4 | omega)
  have h_12 := ir_59_g hI (j := 4 * a4 + 1) (by first | exact q_0a2ee6f8f ha4 | omega)
  have h_13 := ir_59_g hI (j := 4 * a4 + 2) (by first | exact q_e07a293a2 ha4 | omega)
  have h_14 := ir_59_g hI (j := 4 * a4 + 3) (by first | exact q_d09cb0b73 ha4 | omega)
  have hqo := hq6
  have h_15 := fal_rng (m := v1) (t := v2) (g := 1) (x := x1) (by omega)
  have h_16 := fal_rng (m := v1) (t := v2) (g := 2) (x := x2) (by omega)
  have h_17 := fal_rng (m := v1) (t := v2) (g := 3) (x := x3) (by omega)
  refine q_iload c_193_75 rfl (q_iconst c_193_77 (v_ic_ge_f (t := 142) c_193_78 rfl (by decide) (q_aload_n c_193_81 rfl (q_iload_n c_193_82 rfl (q_iload_n c_193_83 rfl (q_iload c_193_84 rfl (v_cv c_193_86 km_8_363 rfl rfl (nb_ rfl) ⟨⟨rfl, rfl⟩, nb_ rfl, rfl⟩ (nb_ rfl) (nb_ rfl) (s_189 (v1 := v1) (v2 := v2) (v3 := x1) (r := (fal v1 (v2) 1 x1)) (a1 := a1) (a2 := a2) (a3 := 1) hI (show 0 ≤ a1 ∧ a1 ≤ 3 from ha1) (show 0 ≤ a2 ∧ a2 ≤ 5 from ha2) (show 0 ≤ 1 ∧ 1 ≤ 3 from ⟨by decide, by decide⟩) ((hv0)) ((hv1)) ((hv3)) rfl ?_))))))))
  refine bk_inl (q_istore c_193_89 (nb_ rfl) (q_aload_n c_193_91 rfl (v_gr (t := 59) c_193_92 kf_8_68 rfl (nb_ rfl) rfl (q_iconst c_193_95 (q_iload_n c_193_96 rfl (v_imul (v := 4 * a3) c_193_97 rfl (q_iload c_193_98 rfl ?_)))))))
  refine v_iadd (v := 4 * a3 + 1) c_193_100 rfl (q_dup2 c_193_101 ⟨rfl, rfl⟩ (v_ia (v := u1) c_193_102 rfl (by decide) (by decide) ⟨by first | exact q_83fdbd35d ha3 | omega, by first | exact q_7a0c0a739 ha3 | omega⟩ (hv7) (q_iload c_193_103 rfl (v_iadd (v := (fal v1 (v2) 1 x1) + u1) c_193_105 (by first | exact q_893c89ded | omega) (v_is c_193_106 rfl (by decide) (by decide) ⟨by first | exact q_83fdbd35d ha3 | omega, by first | exact q_7a0c0a739 ha3 | omega⟩ (q_aload_n c_193_107 rfl (v_gr (t := 59) c_193_108 kf_8_68 rfl (nb_ rfl) rfl ?_)))))))
  refine q_iconst c_193_111 (q_iload c_193_112 rfl (v_imul (v := 4 * a4) c_193_114 rfl (q_iload c_193_115 rfl (v_iadd (v := 4 * a4 + 1) c_193_117 rfl (q_dup2 c_193_118 ⟨rfl, rfl⟩ (v_ia (v := w1) c_193_119 rfl (by decide) (by decide) ⟨by first | exact q_83fdbd35d ha4 | omega, by first | exact q_7a0c0a739 ha4 | omega⟩ ((up_n (by first | exact q_0f4cbf258 hq2 | omega)).trans (hv11)) (q_aload_n c_193_120 rfl ?_)))))))
  refine v_gr (t := 59) c_193_121 kf_8_68 rfl (nb_ rfl) rfl (q_iconst c_193_124 (q_iload_n c_193_125 rfl (v_imul (v := 4 * a2) c_193_126 rfl (q_iload c_193_127 rfl (v_iadd (v := 4 * a2 + 1) c_193_129 rfl (v_ia (v := x1) c_193_130 rfl (by decide) (by decide) ⟨by first | exact q_83fdbd35d ha2 | omega, by first | exact q_7a0c0a739 ha2 | omega⟩ ((up_n (by first | exact q_fd7998cba hq0 | omega)).trans (hv3)) (q_iload c_193_131 rfl ?_)))))))
  refine v_isub (v := x1 - (fal v1 (v2) 1 x1)) c_193_133 rfl (v_iadd (v := w1 + x1 - (fal v1 (v2) 1 x1)) c_193_134 (by first | exact q_7612369dc | omega) (v_is c_193_135 rfl (by decide) (by decide) ⟨by first | exact q_83fdbd35d ha4 | omega, by first | exact q_7a0c0a739 ha4 | omega⟩ (v_iinc (v := 2) c_193_136 rfl (nb_ rfl) (by decide) (q_goto (t := 75) c_193_139 rfl ?_))))
  have hI_18 := iwr0 (a := 59) (j := 4 * a3 + 1) (v := (fal v1 (v2) 1 x1) + u1) hI (by decide) ⟨by first | (clear ha1 ha2 ha3 ha4 ha5 hq3 hq4 hq5 h_1 hv0 h_2 hv1 h_3 hv2 h_4 hv3 h_5 hv4 h_6 hv5 h_7 hv6 h_9 hv8 h_10 hv9 h_11 hv10 h_12 hv11 h_13 hv12 h_14 hv13 h_16 h_17 hq0 hq1 hq2; omega) | omega, by first | (clear ha1 ha2 ha3 ha4 ha5 hq4 hq5 h_1 hv0 h_2 hv1 h_3 hv2 h_4 hv3 h_5 hv4 h_6 hv5 h_8 hv7 h_11 hv10 h_12 hv11 h_13 hv12 h_14 hv13 h_15 hq0 hq1 hq2; omega) | omega⟩
  have hI_19 := iwr0 (a := 59) (j := 4 * a4 + 1) (v := w1 + x1 - (fal v1 (v2) 1 x1)) hI_18 (by decide) ⟨by first | (clear ha1 ha2 ha3 ha4 ha5 hq3 hq4 hq5 h_1 hv0 h_2 hv1 h_3 hv2 h_4 hv3 h_5 hv4 h_6 hv5 h_7 hv6 h_8 hv7 h_9 hv8 h_10 hv9 h_11 hv10 h_13 hv12 h_14 hv13 h_16 h_17 hq0 hq1 hq2; omega) | omega, by first | (clear ha1 ha2 ha3 ha4 ha5 hq3 hq5 h_1 hv0 h_2 hv1 h_3 hv2 h_4 hv3 h_5 hv4 h_6 hv5 h_7 hv6 h_8 hv7 h_9 hv8 h_10 hv9 h_12 hv11 h_15 hq0 hq1 hq2; omega) | omega⟩
  have hqo_20 : ∀ j : Int, rs 59 j → ¬ j = 4 * a2 → ¬ j = 4 * a3 → ¬ j = 4 * a4 → (up (up c 59 (4 * a3 + 1) ((fal v1 (v2) 1 x1) + u1)) 59 (4 * a4 + 1) (w1 + x1 - (fal v1 (v2) 1 x1))) 59 j + (up (up c 59 (4 * a3 + 1) ((fal v1 (v2) 1 x1) + u1)) 59 (4 * a4 + 1) (w1 + x1 - (fal v1 (v2) 1 x1))) 59 (j + 1) + (up (up c 59 (4 * a3 + 1) ((fal v1 (v2) 1 x1) + u1)) 59 (4 * a4 + 1) (w1 + x1 - (fal v1 (v2) 1 x1))) 59 (j + 2) + (up (up c 59 (4 * a3 + 1) ((fal v1 (v2) 1 x1) + u1)) 59 (4 * a4 + 1) (w1 + x1 - (fal v1 (v2) 1 x1))) 59 (j + 3) ≤ 9999 := by
    intro j9 hj9 hz0 hz1 hz2
    obtain ⟨k9, rfl, hk9⟩ := rs_59 hj9
    have h_21 := hqo (4 * k9) hj9 (by omega) (by omega) (by omega)
    have h_22 := ir_59_g hI (j := 4 * k9) (by first | exact q_9f1d5ffdc hk9 | omega)
    have h_23 : (up (up c 59 (4 * a3 + 1) ((fal v1 (v2) 1 x1) + u1)) 59 (4 * a4 + 1) (w1 + x1 - (fal v1 (v2) 1 x1))) 59 (4 * k9) = c 59 (4 * k9) := ((up_n (by first | exact q_b2cb8bf87 | omega)).trans (up_n (by first | exact q_b2cb8bf87 | omega)))
    have h_24 := ir_59_g hI (j := 4 * k9 + 1) (by first | exact q_0a2ee6f8f hk9 | omega)
    have h_25 : (up (up c 59 (4 * a3 + 1) ((fal v1 (v2) 1 x1) + u1)) 59 (4 * a4 + 1) (w1 + x1 - (fal v1 (v2) 1 x1))) 59 (4 * k9 + 1) = c 59 (4 * k9 + 1) := ((up_n (by first | (clear ha1 ha2 ha3 ha4 ha5 hq3 hq4 hq5 h_1 hv0 h_2 hv1 h_3 hv2 h_4 hv3 h_5 hv4 h_6 hv5 h_7 hv6 h_8 hv7 h_9 hv8 h_10 hv9 h_11 hv10 h_12 hv11 h_13 hv12 h_14 hv13 h_15 h_16 h_17 hk9 h_22 hq0 hq1 hq2; omega) | omega)).trans (up_n (by first | (clear ha1 ha2 ha3 ha4 ha5 hq3 hq4 hq5 h_1 hv0 h_2 hv1 h_3 hv2 h_4 hv3 h_5 hv4 h_6 hv5 h_7 hv6 h_8 hv7 h_9 hv8 h_10 hv9 h_11 hv10 h_12 hv11 h_13 hv12 h_14 hv13 h_15 h_16 h_17 hk9 h_22 hq0 hq1 hq2; omega) | omega)))
    have h_26 := ir_59_g hI (j := 4 * k9 + 2) (by first | exact q_e07a293a2 hk9 | omega)
    have h_27 : (up (up c 59 (4 * a3 + 1) ((fal v1 (v2) 1 x1) + u1)) 59 (4 * a4 + 1) (w1 + x1 - (fal v1 (v2) 1 x1))) 59 (4 * k9 + 2) = c 59 (4 * k9 + 2) := ((up_n (by first | exact q_08c3d7060 | omega)).trans (up_n (by first | exact q_08c3d7060 | omega)))
    have h_28 := ir_59_g hI (j := 4 * k9 + 3) (by first | exact q_d09cb0b73 hk9 | omega)
    have h_29 : (up (up c 59 (4 * a3 + 1) ((fal v1 (v2) 1 x1) + u1)) 59 (4 * a4 + 1) (w1 + x1 - (fal v1 (v2) 1 x1))) 59 (4 * k9 + 3) = c 59 (4 * k9 + 3) := ((up_n (by first | exact q_6d5c6886e | omega)).trans (up_n (by first | exact q_6d5c6886e | omega)))
    omega
  refine Wp_ls [(0, .ref 41), (1, vi a1), (2, vi a2), (3, vi a3), (4, vi a4), (5, vi a5), (6, vi 2)] (lsub_cons rfl (lsub_cons rfl (lsub_cons rfl (lsub_cons rfl (lsub_cons rfl (lsub_cons rfl (lsub_cons rfl lsub_nil))))))) ?_
  exact s_193_2 (v1 := v1) (v2 := v2) (x0 := x0) (x1 := x1) (x2 := x2) (x3 := x3) (u0 := u0) (u1 := (fal v1 (v2) 1 x1) + u1) (u2 := u2) (u3 := u3) (w0 := w0) (w1 := w1 + x1 - (fal v1 (v2) 1 x1)) (w2 := w2) (w3 := w3) (a5 := a5) hI_19 (by omega) (by omega) (by omega) (by omega) (by omega) (by omega) (by omega) (by omega) (by omega) (by omega) (by omega) hqo_20 (((up_c (nn rfl)).trans ((up_c (nn rfl)).trans (hv0)))) (((up_n (ne_g (by first | exact q_12e2b7340 ha1 ha4 | omega))).trans ((up_n (ne_g (by first | exact q_12e2b7340 ha1 ha3 | omega))).trans (hv1)))) (((up_n (by first | exact q_b2cb8bf87 | omega)).trans ((up_n (by first | exact q_b2cb8bf87 | omega)).trans (hv2)))) (((up_n (by first | exact q_fd7998cba hq1 | omega)).trans ((up_n (by first | exact q_fd7998cba hq0 | omega)).trans (hv3)))) (((up_n (by first | exact q_08c3d7060 | omega)).trans ((up_n (by first | exact q_08c3d7060 | omega)).trans (hv4)))) (((up_n (by first | exact q_6d5c6886e | omega)).trans ((up_n (by first | exact q_6d5c6886e | omega)).trans (hv5)))) (((up_n (by first | exact q_b2cb8bf87 | omega)).trans ((up_n (by first | exact ne_0a (by decide) | omega)).trans (hv6)))) (((up_n (by first | exact q_fd7998cba hq2 | omega)).trans (up_e rfl))) (((up_n (by first | exact q_08c3d7060 | omega)).trans ((up_n (by first | exact ne_aa (by decide) | omega)).trans (hv8)))) (((up_n (by first | exact q_6d5c6886e | omega)).trans ((up_n (by first | exact ne_aa (by decide) | omega)).trans (hv9)))) (((up_n (by first | exact ne_0a (by decide) | omega)).trans ((up_n (by first | exact q_b2cb8bf87 | omega)).trans (hv10)))) ((up_e rfl)) (((up_n (by first | exact ne_aa (by decide) | omega)).trans ((up_n (by first | exact q_08c3d7060 | omega)).trans (hv12)))) (((up_n (by first | exact ne_aa (by decide) | omega)).trans ((up_n (by first | exact q_6d5c6886e | omega)).trans (hv13)))) (fun c9 y9 hI9 hF9 hy9 => K c9 y9 hI9 (fun a j hm => (hF9 a j (by omega)).trans ((up_b (by omega)).trans (up_b (by omega)))) hy9)
set_option maxRecDepth 100000 in
set_option maxHeartbeats 4000000 in
theorem s_193_0 {sc : List Int32} {d P Q : Nat} {c : ME} {v1 v2 x0 x1 x2 x3 u0 u1 u2 u3 w0 w1 w2 w3 : Int} {a1 : Int} {a2 : Int} {a3 : Int} {a4 : Int} {a5 : Int} {Z : AR → Prop} (hI : Iv 59 (-1) P Q c) (ha1 : 0 ≤ a1 ∧ a1 ≤ 3) (ha2 : 0 ≤ a2 ∧ a2 ≤ 5) (ha3 : 0 ≤ a3 ∧ a3 ≤ 5) (ha4 : 0 ≤ a4 ∧ a4 ≤ 5) (ha5 : (-2147483648) ≤ a5 ∧ a5 ≤ 2147483647) (hq0 : (a2 < a3) ∨ (a2 > a3)) (hq1 : (a2 < a4) ∨ (a2 > a4)) (hq2 : (a3 < a4) ∨ (a3 > a4)) (hq3 : ((fal v1 (v2) 0 x0) + (fal v1 (v2) 1 x1) + (fal v1 (v2) 2 x2) + (fal v1 (v2) 3 x3) + u0 + u1 + u2 + u3 ≤ 9999)) (hq4 : (w0 + w1 + w2 + w3 + x0 + x1 + x2 + x3 - (fal v1 (v2) 0 x0) - (fal v1 (v2) 1 x1) - (fal v1 (v2) 2 x2) - (fal v1 (v2) 3 x3) ≤ 9999)) (hq5 : (x0 + x1 + x2 + x3 ≤ 9999)) (hq6 : ∀ j : Int, rs 59 j → ¬ j = 4 * a2 → ¬ j = 4 * a3 → ¬ j = 4 * a4 → c 59 j + c 59 (j + 1) + c 59 (j + 2) + c 59 (j + 3) ≤ 9999) (hv0 : c 49 a1 = v1) (hv1 : c 59 (a1 + 30) = v2) (hv2 : c 59 (4 * a2) = x0) (hv3 : c 59 (4 * a2 + 1) = x1) (hv4 : c 59 (4 * a2 + 2) = x2) (hv5 : c 59 (4 * a2 + 3) = x3) (hv6 : c 59 (4 * a3) = u0) (hv7 : c 59 (4 * a3 + 1) = u1) (hv8 : c 59 (4 * a3 + 2) = u2) (hv9 : c 59 (4 * a3 + 3) = u3) (hv10 : c 59 (4 * a4) = w0) (hv11 : c 59 (4 * a4 + 1) = w1) (hv12 : c 59 (4 * a4 + 2) = w2) (hv13 : c 59 (4 * a4 + 3) = w3) (K : ∀ (c2 : ME) (y : Int), Iv 0 (-1) P Q c2 → (∀ (a : Nat) (j : Int), ¬ (a = 59) → c2 a j = c a j) → 0 ≤ y ∧ y ≤ 1 → Z (.inl (some (vi y)), Wd P Q P P c2, 0, 0)) : Wp sc (d + 9) 193 75 [(0, .ref 41), (1, vi a1), (2, vi a2), (3, vi a3), (4, vi a4), (5, vi a5), (6, vi 0)] [] (Wd P Q P P c) 0 0 Z := by
  have hP := iv_P hI
  have hQ := iv_Q hI
  have h_1 := ir_49 hI a1
  have h_2 := ir_59 hI (a1 + 30)
  have h_3 := ir_59_g hI (j := 4 * a2) (by first | exact q_9f1d5ffdc ha2 | omega)
  have h_4 := ir_59_g hI (j := 4 * a2 + 1) (by first | exact q_0a2ee6f8f ha2 | omega)
  have h_5 := ir_59_g hI (j := 4 * a2 + 2) (by first | exact q_e07a293a2 ha2 | omega)
  have h_6 := ir_59_g hI (j := 4 * a2 + 3) (by first | exact q_d09cb0b73 ha2 | omega)
  have h_7 := ir_59_g hI (j := 4 * a3) (by first | exact q_9f1d5ffdc ha3 | omega)
  have h_8 := ir_59_g hI (j := 4 * a3 + 1) (by first | exact q_0a2ee6f8f ha3 | omega)
  have h_9 := ir_59_g hI (j := 4 * a3 + 2) (by first | exact q_e07a293a2 ha3 | omega)
  have h_10 := ir_59_g hI (j := 4 * a3 + 3) (by first | exact q_d09cb0b73 ha3 | omega)
  have h_11 := ir_59_g hI (j := 4 * a4) (by first | exact q_9f1d5ffdc ha4 | omega)
  have h_12 := ir_59_g hI (j := 4 * a4 + 1) (by first | exact q_0a2ee6f8f ha4 | omega)
  have h_13 := ir_59_g hI (j := 4 * a4 + 2) (by first | exact q_e07a293a2 ha4 | omega)
  have h_14 := ir_59_g hI (j := 4 * a4 + 3) (by first | exact q_d09cb0b73 ha4 | omega)
  have hqo := hq6
  have h_15 := fal_rng (m := v1) (t := v2) (g := 0) (x := x0) (by omega)
  have h_16 := fal_rng (m := v1) (t := v2) (g := 1) (x := x1) (by omega)
  have h_17 := fal_rng (m := v1) (t := v2) (g := 2) (x := x2) (by omega)
  have h_18 := fal_rng (m := v1) (t := v2) (g := 3) (x := x3) (by omega)
  refine q_iload c_193_75 rfl (q_iconst c_193_77 (v_ic_ge_f (t := 142) c_193_78 rfl (by decide) (q_aload_n c_193_81 rfl (q_iload_n c_193_82 rfl (q_iload_n c_193_83 rfl (q_iload c_193_84 rfl (v_cv c_193_86 km_8_363 rfl rfl (nb_ rfl) ⟨⟨rfl, rfl⟩, nb_ rfl, rfl⟩ (nb_ rfl) (nb_ rfl) (s_189 (v1 := v1) (v2 := v2) (v3 := x0) (r := (fal v1 (v2) 0 x0)) (a1 := a1) (a2 := a2) (a3 := 0) hI (show 0 ≤ a1 ∧ a1 ≤ 3 from ha1) (show 0 ≤ a2 ∧ a2 ≤ 5 from ha2) (show 0 ≤ 0 ∧ 0 ≤ 3 from ⟨by decide, by decide⟩) ((hv0)) ((hv1)) ((congrArg (c 59) (show 4 * a2 + 0 = 4 * a2 from by first | exact q_8baad3eb5 | assumption | exact Int.le_antisymm (by omega) (by omega))).trans (hv2)) rfl ?_))))))))
  refine bk_inl (q_istore c_193_89 (nb_ rfl) (q_aload_n c_193_91 rfl (v_gr (t := 59) c_193_92 kf_8_68 rfl (nb_ rfl) rfl (q_iconst c_193_95 (q_iload_n c_193_96 rfl (v_imul (v := 4 * a3) c_193_97 rfl (q_iload c_193_98 rfl ?_)))))))
  refine v_iadd (v := 4 * a3) c_193_100 (by first | exact q_8baad3eb5 | omega) (q_dup2 c_193_101 ⟨rfl, rfl⟩ (v_ia (v := u0) c_193_102 rfl (by decide) (by decide) ⟨by first | exact q_c065257af ha3 | omega, by first | exact q_a49915bbb ha3 | omega⟩ (hv6) (q_iload c_193_103 rfl (v_iadd (v := (fal v1 (v2) 0 x0) + u0) c_193_105 (by first | exact q_893c89ded | omega) (v_is c_193_106 rfl (by decide) (by decide) ⟨by first | exact q_c065257af ha3 | omega, by first | exact q_a49915bbb ha3 | omega⟩ (q_aload_n c_193_107 rfl (v_gr (t := 59) c_193_108 kf_8_68 rfl (nb_ rfl) rfl ?_)))))))
  refine q_iconst c_193_111 (q_iload c_193_112 rfl (v_imul (v := 4 * a4) c_193_114 rfl (q_iload c_193_115 rfl (v_iadd (v := 4 * a4) c_193_117 (by first | exact q_8baad3eb5 | omega) (q_dup2 c_193_118 ⟨rfl, rfl⟩ (v_ia (v := w0) c_193_119 rfl (by decide) (by decide) ⟨by first | exact q_c065257af ha4 | omega, by first | exact q_a49915bbb ha4 | omega⟩ ((up_n (by first | exact q_b46fb41fd hq2 | omega)).trans (hv10)) (q_aload_n c_193_120 rfl ?_)))))))
  refine v_gr (t := 59) c_193_121 kf_8_68 rfl (nb_ rfl) rfl (q_iconst c_193_124 (q_iload_n c_193_125 rfl (v_imul (v := 4 * a2) c_193_126 rfl (q_iload c_193_127 rfl (v_iadd (v := 4 * a2) c_193_129 (by first | exact q_8baad3eb5 | omega) (v_ia (v := x0) c_193_130 rfl (by decide) (by decide) ⟨by first | exact q_c065257af ha2 | omega, by first | exact q_a49915bbb ha2 | omega⟩ ((up_n (by first | exact q_02cacb151 hq0 | omega)).trans (hv2)) (q_iload c_193_131 rfl ?_)))))))
  refine v_isub (v := x0 - (fal v1 (v2) 0 x0)) c_193_133 rfl (v_iadd (v := w0 + x0 - (fal v1 (v2) 0 x0)) c_193_134 (by first | exact q_7612369dc | omega) (v_is c_193_135 rfl (by decide) (by decide) ⟨by first | exact q_c065257af ha4 | omega, by first | exact q_a49915bbb ha4 | omega⟩ (v_iinc (v := 1) c_193_136 rfl (nb_ rfl) (by decide) (q_goto (t := 75) c_193_139 rfl ?_))))
  have hI_19 := iwr0 (a := 59) (j := 4 * a3) (v := (fal v1 (v2) 0 x0) + u0) hI (by decide) ⟨by first | (clear ha1 ha2 ha3 ha4 ha5 hq3 hq4 hq5 h_1 hv0 h_2 hv1 h_3 hv2 h_4 hv3 h_5 hv4 h_6 hv5 h_8 hv7 h_9 hv8 h_10 hv9 h_11 hv10 h_12 hv11 h_13 hv12 h_14 hv13 h_16 h_17 h_18 hq0 hq1 hq2; omega) | omega, by first | (clear ha1 ha2 ha3 ha4 ha5 hq4 hq5 h_1 hv0 h_2 hv1 h_3 hv2 h_4 hv3 h_5 hv4 h_6 hv5 h_7 hv6 h_11 hv10 h_12 hv11 h_13 hv12 h_14 hv13 h_15 hq0 hq1 hq2; omega) | omega⟩
  have hI_20 := iwr0 (a := 59) (j := 4 * a4) (v := w0 + x0 - (fal v1 (v2) 0 x0)) hI_19 (by decide) ⟨by first | (clear ha1 ha2 ha3 ha4 ha5 hq3 hq4 hq5 h_1 hv0 h_2 hv1 h_3 hv2 h_4 hv3 h_5 hv4 h_6 hv5 h_7 hv6 h_8 hv7 h_9 hv8 h_10 hv9 h_12 hv11 h_13 hv12 h_14 hv13 h_16 h_17 h_18 hq0 hq1 hq2; omega) | omega, by first | (clear ha1 ha2 ha3 ha4 ha5 hq3 hq5 h_1 hv0 h_2 hv1 h_3 hv2 h_4 hv3 h_5 hv4 h_6 hv5 h_7 hv6 h_8 hv7 h_9 hv8 h_10 hv9 h_11 hv10 h_15 hq0 hq1 hq2; omega) | omega⟩
  have hqo_21 : ∀ j : Int, rs 59 j → ¬ j = 4 * a2 → ¬ j = 4 * a3 → ¬ j = 4 * a4 → (up (up c 59 (4 * a3) ((fal v1 (v2) 0 x0) + u0)) 59 (4 * a4) (w0 + x0 - (fal v1 (v2) 0 x0))) 59 j + (up (up c 59 (4 * a3) ((fal v1 (v2) 0 x0) + u0)) 59 (4 * a4) (w0 + x0 - (fal v1 (v2) 0 x0))) 59 (j + 1) + (up (up c 59 (4 * a3) ((fal v1 (v2) 0 x0) + u0)) 59 (4 * a4) (w0 + x0 - (fal v1 (v2) 0 x0))) 59 (j + 2) + (up (up c 59 (4 * a3) ((fal v1 (v2) 0 x0) + u0)) 59 (4 * a4) (w0 + x0 - (fal v1 (v2) 0 x0))) 59 (j + 3) ≤ 9999 := by
    intro j9 hj9 hz0 hz1 hz2
    obtain ⟨k9, rfl, hk9⟩ := rs_59 hj9
    have h_22 := hqo (4 * k9) hj9 (by omega) (by omega) (by omega)
    have h_23 := ir_59_g hI (j := 4 * k9) (by first | exact q_9f1d5ffdc hk9 | omega)
    have h_24 : (up (up c 59 (4 * a3) ((fal v1 (v2) 0 x0) + u0)) 59 (4 * a4) (w0 + x0 - (fal v1 (v2) 0 x0))) 59 (4 * k9) = c 59 (4 * k9) := ((up_n (by first | (clear ha1 ha2 ha3 ha4 ha5 hq3 hq4 hq5 h_1 hv0 h_2 hv1 h_3 hv2 h_4 hv3 h_5 hv4 h_6 hv5 h_7 hv6 h_8 hv7 h_9 hv8 h_10 hv9 h_11 hv10 h_12 hv11 h_13 hv12 h_14 hv13 h_15 h_16 h_17 h_18 hk9 hq0 hq1 hq2; omega) | omega)).trans (up_n (by first | (clear ha1 ha2 ha3 ha4 ha5 hq3 hq4 hq5 h_1 hv0 h_2 hv1 h_3 hv2 h_4 hv3 h_5 hv4 h_6 hv5 h_7 hv6 h_8 hv7 h_9 hv8 h_10 hv9 h_11 hv10 h_12 hv11 h_13 hv12 h_14 hv13 h_15 h_16 h_17 h_18 hk9 hq0 hq1 hq2; omega) | omega)))
    have h_25 := ir_59_g hI (j := 4 * k9 + 1) (by first | exact q_0a2ee6f8f hk9 | omega)
    have h_26 : (up (up c 59 (4 * a3) ((fal v1 (v2) 0 x0) + u0)) 59 (4 * a4) (w0 + x0 - (fal v1 (v2) 0 x0))) 59 (4 * k9 + 1) = c 59 (4 * k9 + 1) := ((up_n (by first | exact q_e5bcc673e | omega)).trans (up_n (by first | exact q_e5bcc673e | omega)))
    have h_27 := ir_59_g hI (j := 4 * k9 + 2) (by first | exact q_e07a293a2 hk9 | omega)
    have h_28 : (up (up c 59 (4 * a3) ((fal v1 (v2) 0 x0) + u0)) 59 (4 * a4) (w0 + x0 - (fal v1 (v2) 0 x0))) 59 (4 * k9 + 2) = c 59 (4 * k9 + 2) := ((up_n (by first | exact q_ae83e86ba | omega)).trans (up_n (by first | exact q_ae83e86ba | omega)))
    have h_29 := ir_59_g hI (j := 4 * k9 + 3) (by first | exact q_d09cb0b73 hk9 | omega)
    have h_30 : (up (up c 59 (4 * a3) ((fal v1 (v2) 0 x0) + u0)) 59 (4 * a4) (w0 + x0 - (fal v1 (v2) 0 x0))) 59 (4 * k9 + 3) = c 59 (4 * k9 + 3) := ((up_n (by first | exact q_b6789388a | omega)).trans (up_n (by first | exact q_b6789388a | omega)))
    omega
  refine Wp_ls [(0, .ref 41), (1, vi a1), (2, vi a2), (3, vi a3), (4, vi a4), (5, vi a5), (6, vi 1)] (lsub_cons rfl (lsub_cons rfl (lsub_cons rfl (lsub_cons rfl (lsub_cons rfl (lsub_cons rfl (lsub_cons rfl lsub_nil))))))) ?_
  exact s_193_1 (v1 := v1) (v2 := v2) (x0 := x0) (x1 := x1) (x2 := x2) (x3 := x3) (u0 := (fal v1 (v2) 0 x0) + u0) (u1 := u1) (u2 := u2) (u3 := u3) (w0 := w0 + x0 - (fal v1 (v2) 0 x0)) (w1 := w1) (w2 := w2) (w3 := w3) (a5 := a5) hI_20 (by omega) (by omega) (by omega) (by omega) (by omega) (by omega) (by omega) (by omega) (by omega) (by omega) (by omega) hqo_21 (((up_c (nn rfl)).trans ((up_c (nn rfl)).trans (hv0)))) (((up_n (ne_g (by first | exact q_fa2c90da8 ha1 ha4 | omega))).trans ((up_n (ne_g (by first | exact q_fa2c90da8 ha1 ha3 | omega))).trans (hv1)))) (((up_n (by first | exact q_02cacb151 hq1 | omega)).trans ((up_n (by first | exact q_02cacb151 hq0 | omega)).trans (hv2)))) (((up_n (by first | exact q_e5bcc673e | omega)).trans ((up_n (by first | exact q_e5bcc673e | omega)).trans (hv3)))) (((up_n (by first | exact q_ae83e86ba | omega)).trans ((up_n (by first | exact q_ae83e86ba | omega)).trans (hv4)))) (((up_n (by first | exact q_b6789388a | omega)).trans ((up_n (by first | exact q_b6789388a | omega)).trans (hv5)))) (((up_n (by first | exact q_02cacb151 hq2 | omega)).trans (up_e rfl))) (((up_n (by first | exact q_e5bcc673e | omega)).trans ((up_n (by first | exact ne_a0 (by decide) | omega)).trans (hv7)))) (((up_n (by first | exact q_ae83e86ba | omega)).trans ((up_n (by first | exact ne_a0 (by decide) | omega)).trans (hv8)))) (((up_n (by first | exact q_b6789388a | omega)).trans ((up_n (by first | exact ne_a0 (by decide) | omega)).trans (hv9)))) ((up_e rfl)) (((up_n (by first | exact ne_a0 (by decide) | omega)).trans ((up_n (by first | exact q_e5bcc673e | omega)).trans (hv11)))) (((up_n (by first | exact ne_a0 (by decide) | omega)).trans ((up_n (by first | exact q_ae83e86ba | omega)).trans (hv12)))) (((up_n (by first | exact ne_a0 (by decide) | omega)).trans ((up_n (by first | exact q_b6789388a | omega)).trans (hv13)))) (fun c9 y9 hI9 hF9 hy9 => K c9 y9 hI9 (fun a j hm => (hF9 a j (by omega)).trans ((up_b (by omega)).trans (up_b (by omega)))) hy9)
set_option maxRecDepth 100000 in
set_option maxHeartbeats 4000000 in
theorem s_193 {sc : List Int32} {d P Q : Nat} {c : ME} {a1 : Int} {a2 : Int} {a3 : Int} {a4 : Int} {Z : AR → Prop} (hI : Iv 0 (-1) P Q c) (ha1 : 0 ≤ a1 ∧ a1 ≤ 3) (ha2 : 0 ≤ a2 ∧ a2 ≤ 5) (ha3 : 0 ≤ a3 ∧ a3 ≤ 5) (ha4 : 0 ≤ a4 ∧ a4 ≤ 5) (K : ∀ (c2 : ME) (y : Int), Iv 0 (-1) P Q c2 → (∀ (a : Nat) (j : Int), ¬ (a = 59) → c2 a j = c a j) → 0 ≤ y ∧ y ≤ 1 → Z (.inl (some (vi y)), Wd P Q P P c2, 0, 0)) : Wp sc (d + 9) 193 0 [(0, .ref 41), (1, vi a1), (2, vi a2), (3, vi a3), (4, vi a4)] [] (Wd P Q P P c) 0 0 Z := by
  have hP := iv_P hI
  have hQ := iv_Q hI
  have hIo : Iv 59 (-1) P Q c := iv_open hI
  have hsum_1 := ir_59_r hI (by decide) (j := a2) (by omega)
  have h_2 := ir_59_g hI (j := 4 * a2) (by first | exact q_9f1d5ffdc ha2 | omega)
  have h_3 := ir_59_g hI (j := 4 * a2 + 1) (by first | exact q_0a2ee6f8f ha2 | omega)
  have h_4 := ir_59_g hI (j := 4 * a2 + 2) (by first | exact q_e07a293a2 ha2 | omega)
  have h_5 := ir_59_g hI (j := 4 * a2 + 3) (by first | exact q_d09cb0b73 ha2 | omega)
  have hsum_6 := ir_59_r hI (by decide) (j := a3) (by omega)
  have h_7 := ir_59_g hI (j := 4 * a3) (by first | exact q_9f1d5ffdc ha3 | omega)
  have h_8 := ir_59_g hI (j := 4 * a3 + 1) (by first | exact q_0a2ee6f8f ha3 | omega)
  have h_9 := ir_59_g hI (j := 4 * a3 + 2) (by first | exact q_e07a293a2 ha3 | omega)
  have h_10 := ir_59_g hI (j := 4 * a3 + 3) (by first | exact q_d09cb0b73 ha3 | omega)
  have hsum_11 := ir_59_r hI (by decide) (j := a4) (by omega)
  have h_12 := ir_59_g hI (j := 4 * a4) (by first | exact q_9f1d5ffdc ha4 | omega)
  have h_13 := ir_59_g hI (j := 4 * a4 + 1) (by first | exact q_0a2ee6f8f ha4 | omega)
  have h_14 := ir_59_g hI (j := 4 * a4 + 2) (by first | exact q_e07a293a2 ha4 | omega)
  have h_15 := ir_59_g hI (j := 4 * a4 + 3) (by first | exact q_d09cb0b73 ha4 | omega)
  refine q_aload_n c_193_0 rfl (q_iload_n c_193_1 rfl (v_cv c_193_2 km_8_343 rfl rfl (nb_ rfl) ⟨⟨rfl, rfl⟩, nb_ rfl, rfl⟩ (nb_ rfl) (nb_ rfl) (s_187 (v1 := c 59 (4 * a2)) (v2 := c 59 (4 * a2 + 1)) (v3 := c 59 (4 * a2 + 2)) (v4 := c 59 (4 * a2 + 3)) (r := c 59 (4 * a2 + 1) + c 59 (4 * a2 + 2) + c 59 (4 * a2 + 3) + c 59 (4 * a2)) (a1 := a2) hIo (show 0 ≤ a2 ∧ a2 ≤ 5 from ha2) (rfl) (rfl) (rfl) (rfl) (by omega) (bk_inl ?_))))
  by_cases h_16 : c 59 (4 * a2 + 1) + c 59 (4 * a2 + 2) + c 59 (4 * a2 + 3) + c 59 (4 * a2) = 0
  · refine v_if_eq_t (t := 25) c_193_5 rfl h_16 (q_iconst c_193_25 (v_zret c_193_26 rfl (by decide) ?_))
    exact K c 0 hI (fun a j hm => rfl) ⟨by decide, by decide⟩
  · refine v_if_eq_f (t := 25) c_193_5 rfl ⟨h_16, ⟨by first | exact q_e052ef40e h_2 h_3 h_4 h_5 | omega, by first | exact q_6719c4bfd hsum_1 | omega⟩, by decide, by decide⟩ (q_iload_n c_193_8 rfl (q_iload_n c_193_9 rfl ?_))
    by_cases h_17 : a2 = a3
    · refine v_ic_eq_t (t := 25) c_193_10 rfl h_17 (q_iconst c_193_25 (v_zret c_193_26 rfl (by decide) ?_))
      exact K c 0 hI (fun a j hm => rfl) ⟨by decide, by decide⟩
    · refine v_ic_eq_f (t := 25) c_193_10 rfl ⟨h_17, ⟨(Int.le_trans (by decide) ha2.1), (Int.le_trans ha2.2 (by decide))⟩, (Int.le_trans (by decide) ha3.1), (Int.le_trans ha3.2 (by decide))⟩ (q_iload_n c_193_13 rfl (q_iload c_193_14 rfl ?_))
      by_cases h_18 : a2 = a4
      · refine v_ic_eq_t (t := 25) c_193_16 rfl h_18 (q_iconst c_193_25 (v_zret c_193_26 rfl (by decide) ?_))
        exact K c 0 hI (fun a j hm => rfl) ⟨by decide, by decide⟩
      · refine v_ic_eq_f (t := 25) c_193_16 rfl ⟨h_18, ⟨(Int.le_trans (by decide) ha2.1), (Int.le_trans ha2.2 (by decide))⟩, (Int.le_trans (by decide) ha4.1), (Int.le_trans ha4.2 (by decide))⟩ (q_iload_n c_193_19 rfl (q_iload c_193_20 rfl ?_))
        by_cases h_19 : a3 ≠ a4
        · refine v_ic_ne_t (t := 27) c_193_22 rfl ⟨h_19, ⟨(Int.le_trans (by decide) ha3.1), (Int.le_trans ha3.2 (by decide))⟩, (Int.le_trans (by decide) ha4.1), (Int.le_trans ha4.2 (by decide))⟩ (q_aload_n c_193_27 rfl (q_iload_n c_193_28 rfl (q_iload_n c_193_29 rfl ?_)))
          have h_20 := ir_49 hI a1
          have h_21 := ir_59 hI (a1 + 30)
          have h_22 := fal_rng (m := c 49 a1) (t := c 59 (a1 + 30)) (g := 0) (x := c 59 (4 * a2)) (by first | exact q_c6ed8760d h_2 | omega)
          have h_23 := fal_rng (m := c 49 a1) (t := c 59 (a1 + 30)) (g := 1) (x := c 59 (4 * a2 + 1)) (by first | exact q_c6ed8760d h_3 | omega)
          have h_24 := fal_rng (m := c 49 a1) (t := c 59 (a1 + 30)) (g := 2) (x := c 59 (4 * a2 + 2)) (by first | exact q_c6ed8760d h_4 | omega)
          have h_25 := fal_rng (m := c 49 a1) (t := c 59 (a1 + 30)) (g := 3) (x := c 59 (4 * a2 + 3)) (by first | exact q_c6ed8760d h_5 | omega)
          refine v_cv c_193_30 km_8_366 rfl rfl (nb_ rfl) ⟨⟨rfl, rfl⟩, nb_ rfl, rfl⟩ (nb_ rfl) (nb_ rfl) (s_190 (v1 := c 49 a1) (v2 := c 59 (a1 + 30)) (v3 := c 59 (4 * a2)) (v4 := c 59 (4 * a2 + 1)) (v5 := c 59 (4 * a2 + 2)) (v6 := c 59 (4 * a2 + 3)) (r := (fal (c 49 a1) (c 59 (a1 + 30)) 0 (c 59 (4 * a2))) + (fal (c 49 a1) (c 59 (a1 + 30)) 1 (c 59 (4 * a2 + 1))) + (fal (c 49 a1) (c 59 (a1 + 30)) 2 (c 59 (4 * a2 + 2))) + (fal (c 49 a1) (c 59 (a1 + 30)) 3 (c 59 (4 * a2 + 3)))) (a1 := a1) (a2 := a2) hIo (show 0 ≤ a1 ∧ a1 ≤ 3 from ha1) (show 0 ≤ a2 ∧ a2 ≤ 5 from ha2) (rfl) (rfl) (rfl) (rfl) (rfl) (rfl) rfl (bk_inl (q_istore c_193_33 (nb_ rfl) (q_aload_n c_193_35 rfl (q_iload_n c_193_36 rfl (v_cv c_193_37 km_8_343 rfl rfl (nb_ rfl) ⟨⟨rfl, rfl⟩, nb_ rfl, rfl⟩ (nb_ rfl) (nb_ rfl) (s_187 (v1 := c 59 (4 * a3)) (v2 := c 59 (4 * a3 + 1)) (v3 := c 59 (4 * a3 + 2)) (v4 := c 59 (4 * a3 + 3)) (r := c 59 (4 * a3 + 1) + c 59 (4 * a3 + 2) + c 59 (4 * a3 + 3) + c 59 (4 * a3)) (a1 := a3) hIo (show 0 ≤ a3 ∧ a3 ≤ 5 from ha3) (rfl) (rfl) (rfl) (rfl) (by omega) (bk_inl (q_iload c_193_40 rfl ?_)))))))))
          refine v_iadd (v := (fal (c 49 a1) (c 59 (a1 + 30)) 0 (c 59 (4 * a2))) + (fal (c 49 a1) (c 59 (a1 + 30)) 1 (c 59 (4 * a2 + 1))) + (fal (c 49 a1) (c 59 (a1 + 30)) 2 (c 59 (4 * a2 + 2))) + (fal (c 49 a1) (c 59 (a1 + 30)) 3 (c 59 (4 * a2 + 3))) + c 59 (4 * a3 + 1) + c 59 (4 * a3 + 2) + c 59 (4 * a3 + 3) + c 59 (4 * a3)) rfl (by first | exact q_830354608 | omega) (v_sip c_193_43 (by decide) ?_)
          by_cases h_26 : (fal (c 49 a1) (c 59 (a1 + 30)) 0 (c 59 (4 * a2))) + (fal (c 49 a1) (c 59 (a1 + 30)) 1 (c 59 (4 * a2 + 1))) + (fal (c 49 a1) (c 59 (a1 + 30)) 2 (c 59 (4 * a2 + 2))) + (fal (c 49 a1) (c 59 (a1 + 30)) 3 (c 59 (4 * a2 + 3))) + c 59 (4 * a3 + 1) + c 59 (4 * a3 + 2) + c 59 (4 * a3 + 3) + c 59 (4 * a3) > 9999
          · refine v_ic_gt_t (t := 70) c_193_46 rfl ⟨by decide, h_26, by first | exact q_aef5b7b01 h_22 h_23 h_24 h_25 hsum_1 hsum_6 | omega⟩ (q_iconst c_193_70 (v_zret c_193_71 rfl (by decide) ?_))
            exact K c 0 hI (fun a j hm => rfl) ⟨by decide, by decide⟩
          · refine v_ic_gt_f (t := 70) c_193_46 rfl ⟨by first | exact q_8738771ec h_10 h_22 h_23 h_24 h_25 h_7 h_8 h_9 | omega, (Int.not_lt.mp h_26), by decide⟩ (q_aload_n c_193_49 rfl (q_iload c_193_50 rfl (v_cv c_193_52 km_8_343 rfl rfl (nb_ rfl) ⟨⟨rfl, rfl⟩, nb_ rfl, rfl⟩ (nb_ rfl) (nb_ rfl) (s_187 (v1 := c 59 (4 * a4)) (v2 := c 59 (4 * a4 + 1)) (v3 := c 59 (4 * a4 + 2)) (v4 := c 59 (4 * a4 + 3)) (r := c 59 (4 * a4 + 1) + c 59 (4 * a4 + 2) + c 59 (4 * a4 + 3) + c 59 (4 * a4)) (a1 := a4) hIo (show 0 ≤ a4 ∧ a4 ≤ 5 from ha4) (rfl) (rfl) (rfl) (rfl) (by omega) (bk_inl (q_aload_n c_193_55 rfl (q_iload_n c_193_56 rfl (v_cv c_193_57 km_8_343 rfl rfl (nb_ rfl) ⟨⟨rfl, rfl⟩, nb_ rfl, rfl⟩ (nb_ rfl) (nb_ rfl) (s_187 (v1 := c 59 (4 * a2)) (v2 := c 59 (4 * a2 + 1)) (v3 := c 59 (4 * a2 + 2)) (v4 := c 59 (4 * a2 + 3)) (r := c 59 (4 * a2 + 1) + c 59 (4 * a2 + 2) + c 59 (4 * a2 + 3) + c 59 (4 * a2)) (a1 := a2) hIo (show 0 ≤ a2 ∧ a2 ≤ 5 from ha2) (rfl) (rfl) (rfl) (rfl) (by omega) ?_)))))))))
            refine bk_inl (v_iadd (v := c 59 (4 * a2 + 1) + c 59 (4 * a2 + 2) + c 59 (4 * a2 + 3) + c 59 (4 * a2) + c 59 (4 * a4 + 1) + c 59 (4 * a4 + 2) + c 59 (4 * a4 + 3) + c 59 (4 * a4)) c_193_60 (by first | exact q_830354608 | omega) (q_iload c_193_61 rfl (v_isub (v := c 59 (4 * a2 + 1) + c 59 (4 * a2 + 2) + c 59 (4 * a2 + 3) + c 59 (4 * a2) + c 59 (4 * a4 + 1) + c 59 (4 * a4 + 2) + c 59 (4 * a4 + 3) + c 59 (4 * a4) - (fal (c 49 a1) (c 59 (a1 + 30)) 0 (c 59 (4 * a2))) - (fal (c 49 a1) (c 59 (a1 + 30)) 1 (c 59 (4 * a2 + 1))) - (fal (c 49 a1) (c 59 (a1 + 30)) 2 (c 59 (4 * a2 + 2))) - (fal (c 49 a1) (c 59 (a1 + 30)) 3 (c 59 (4 * a2 + 3)))) rfl (by first | exact q_e0be0ad53 | omega) (v_sip c_193_64 (by decide) ?_))))
            by_cases h_27 : c 59 (4 * a2 + 1) + c 59 (4 * a2 + 2) + c 59 (4 * a2 + 3) + c 59 (4 * a2) + c 59 (4 * a4 + 1) + c 59 (4 * a4 + 2) + c 59 (4 * a4 + 3) + c 59 (4 * a4) - (fal (c 49 a1) (c 59 (a1 + 30)) 0 (c 59 (4 * a2))) - (fal (c 49 a1) (c 59 (a1 + 30)) 1 (c 59 (4 * a2 + 1))) - (fal (c 49 a1) (c 59 (a1 + 30)) 2 (c 59 (4 * a2 + 2))) - (fal (c 49 a1) (c 59 (a1 + 30)) 3 (c 59 (4 * a2 + 3))) ≤ 9999
            · refine v_ic_le_t (t := 72) c_193_67 rfl ⟨by first | exact q_79ff189ef h_12 h_13 h_14 h_15 h_22 h_23 h_24 h_25 | omega, h_27, by decide⟩ (q_iconst c_193_72 (q_istore c_193_73 (nb_ rfl) ?_))
              have hqo_28 : ∀ j : Int, rs 59 j → ¬ j = 4 * a2 → ¬ j = 4 * a3 → ¬ j = 4 * a4 → c 59 j + c 59 (j + 1) + c 59 (j + 2) + c 59 (j + 3) ≤ 9999 := by
                intro j9 hj9 hz0 hz1 hz2
                obtain ⟨k9, rfl, hk9⟩ := rs_59 hj9
                have h_29 := iv_r hI 59 (4 * k9) hj9 (by omega)
                have h_30 := ir_59_g hI (j := 4 * k9) (by first | exact q_9f1d5ffdc hk9 | omega)
                have h_31 : c 59 (4 * k9) = c 59 (4 * k9) := rfl
                have h_32 := ir_59_g hI (j := 4 * k9 + 1) (by first | exact q_0a2ee6f8f hk9 | omega)
                have h_33 : c 59 (4 * k9 + 1) = c 59 (4 * k9 + 1) := rfl
                have h_34 := ir_59_g hI (j := 4 * k9 + 2) (by first | exact q_e07a293a2 hk9 | omega)
                have h_35 : c 59 (4 * k9 + 2) = c 59 (4 * k9 + 2) := rfl
                have h_36 := ir_59_g hI (j := 4 * k9 + 3) (by first | exact q_d09cb0b73 hk9 | omega)
                have h_37 : c 59 (4 * k9 + 3) = c 59 (4 * k9 + 3) := rfl
                omega
              refine Wp_ls [(0, .ref 41), (1, vi a1), (2, vi a2), (3, vi a3), (4, vi a4), (5, vi ((fal (c 49 a1) (c 59 (a1 + 30)) 0 (c 59 (4 * a2))) + (fal (c 49 a1) (c 59 (a1 + 30)) 1 (c 59 (4 * a2 + 1))) + (fal (c 49 a1) (c 59 (a1 + 30)) 2 (c 59 (4 * a2 + 2))) + (fal (c 49 a1) (c 59 (a1 + 30)) 3 (c 59 (4 * a2 + 3))))), (6, vi 0)] (lsub_cons rfl (lsub_cons rfl (lsub_cons rfl (lsub_cons rfl (lsub_cons rfl (lsub_cons rfl (lsub_cons rfl lsub_nil))))))) ?_
              exact s_193_0 (v1 := c 49 a1) (v2 := c 59 (a1 + 30)) (x0 := c 59 (4 * a2)) (x1 := c 59 (4 * a2 + 1)) (x2 := c 59 (4 * a2 + 2)) (x3 := c 59 (4 * a2 + 3)) (u0 := c 59 (4 * a3)) (u1 := c 59 (4 * a3 + 1)) (u2 := c 59 (4 * a3 + 2)) (u3 := c 59 (4 * a3 + 3)) (w0 := c 59 (4 * a4)) (w1 := c 59 (4 * a4 + 1)) (w2 := c 59 (4 * a4 + 2)) (w3 := c 59 (4 * a4 + 3)) (a5 := (fal (c 49 a1) (c 59 (a1 + 30)) 0 (c 59 (4 * a2))) + (fal (c 49 a1) (c 59 (a1 + 30)) 1 (c 59 (4 * a2 + 1))) + (fal (c 49 a1) (c 59 (a1 + 30)) 2 (c 59 (4 * a2 + 2))) + (fal (c 49 a1) (c 59 (a1 + 30)) 3 (c 59 (4 * a2 + 3)))) hIo (by omega) (by omega) (by omega) (by omega) (by omega) (by omega) (by omega) (by omega) (by omega) (by omega) (by omega) hqo_28 rfl rfl rfl rfl rfl rfl rfl rfl rfl rfl rfl rfl rfl rfl (fun c9 y9 hI9 hF9 hy9 => K c9 y9 hI9 (fun a j hm => (hF9 a j (by omega)).trans (rfl)) hy9)
            · refine v_ic_le_f (t := 72) c_193_67 rfl ⟨by decide, (Int.not_le.mp h_27), by first | exact q_ff5a6990a h_22 h_23 h_24 h_25 hsum_1 hsum_11 | omega⟩ (q_iconst c_193_70 (v_zret c_193_71 rfl (by decide) ?_))
              exact K c 0 hI (fun a j hm => rfl) ⟨by decide, by decide⟩
        · refine v_ic_ne_f (t := 27) c_193_22 rfl (Decidable.not_not.mp h_19) (q_iconst c_193_25 (v_zret c_193_26 rfl (by decide) ?_))
          exact K c 0 hI (fun a j hm => rfl) ⟨by decide, by decide⟩
end
section
/-! ===== contracts 17 ===== -/
theorem q_ed83c297d {x0 x1 : Int} (f0 : ¬ (x0 = x1)) : ¬ 4 * x1 = 4 * x0 := by omega
theorem q_11c6f4f0a {x0 x1 : Int} (f0 : ¬ (x0 = x1)) : ¬ 4 * x1 + 1 = 4 * x0 + 1 := by omega
theorem q_93f4687d0 {x0 x1 : Int} (f0 : ¬ (x0 = x1)) : ¬ 4 * x1 + 2 = 4 * x0 + 2 := by omega
theorem q_69b4a572f {x0 x1 : Int} (f0 : ¬ (x0 = x1)) : ¬ 4 * x1 + 3 = 4 * x0 + 3 := by omega
theorem c_194_0 : mLk 194 0 = some (.iload_n 3, 1) := rfl
theorem c_194_1 : mLk 194 1 = some (.ifCond .eq 30, 3) := rfl
theorem c_194_31 : mLk 194 31 = some (.iconst 0, 1) := rfl
theorem c_194_32 : mLk 194 32 = some (.ireturn, 1) := rfl
theorem c_194_4 : mLk 194 4 = some (.aload_n 0, 1) := rfl
theorem c_194_5 : mLk 194 5 = some (.iload_n 1, 1) := rfl
theorem c_194_6 : mLk 194 6 = some (.invokevirtual 343, 3) := rfl
theorem c_194_9 : mLk 194 9 = some (.iload_n 3, 1) := rfl
theorem c_194_10 : mLk 194 10 = some (.if_icmp .lt 21, 3) := rfl
theorem c_194_13 : mLk 194 13 = some (.iload_n 1, 1) := rfl
theorem c_194_14 : mLk 194 14 = some (.iload_n 2, 1) := rfl
theorem c_194_15 : mLk 194 15 = some (.if_icmp .eq 16, 3) := rfl
theorem c_194_18 : mLk 194 18 = some (.aload_n 0, 1) := rfl
theorem c_194_19 : mLk 194 19 = some (.iload_n 2, 1) := rfl
theorem c_194_20 : mLk 194 20 = some (.invokevirtual 343, 3) := rfl
theorem c_194_23 : mLk 194 23 = some (.iload_n 3, 1) := rfl
theorem c_194_24 : mLk 194 24 = some (.iadd, 1) := rfl
theorem c_194_25 : mLk 194 25 = some (.sipush 9999, 3) := rfl
theorem c_194_28 : mLk 194 28 = some (.if_icmp .le 5, 3) := rfl
theorem c_194_33 : mLk 194 33 = some (.iload_n 3, 1) := rfl
theorem c_194_34 : mLk 194 34 = some (.istore 4, 2) := rfl
theorem c_194_36 : mLk 194 36 = some (.iconst 0, 1) := rfl
theorem c_194_37 : mLk 194 37 = some (.istore 5, 2) := rfl
theorem c_194_39 : mLk 194 39 = some (.iload 5, 2) := rfl
theorem c_194_41 : mLk 194 41 = some (.iconst 4, 1) := rfl
theorem c_194_42 : mLk 194 42 = some (.if_icmp .ge 82, 3) := rfl
theorem c_194_45 : mLk 194 45 = some (.aload_n 0, 1) := rfl
theorem c_194_46 : mLk 194 46 = some (.getfield 68, 3) := rfl
theorem c_194_49 : mLk 194 49 = some (.iconst 4, 1) := rfl
theorem c_194_50 : mLk 194 50 = some (.iload_n 1, 1) := rfl
theorem c_194_51 : mLk 194 51 = some (.imul, 1) := rfl
theorem c_194_52 : mLk 194 52 = some (.iload 5, 2) := rfl
theorem c_194_54 : mLk 194 54 = some (.iadd, 1) := rfl
theorem c_194_55 : mLk 194 55 = some (.iaload, 1) := rfl
theorem c_194_56 : mLk 194 56 = some (.iload 4, 2) := rfl
theorem c_194_79 : mLk 194 79 = some (.aload_n 0, 1) := rfl
theorem c_194_80 : mLk 194 80 = some (.getfield 68, 3) := rfl
theorem c_194_83 : mLk 194 83 = some (.iconst 4, 1) := rfl
theorem c_194_84 : mLk 194 84 = some (.iload_n 1, 1) := rfl
theorem c_194_85 : mLk 194 85 = some (.imul, 1) := rfl
theorem c_194_86 : mLk 194 86 = some (.iload 5, 2) := rfl
theorem c_194_88 : mLk 194 88 = some (.iadd, 1) := rfl
theorem c_194_89 : mLk 194 89 = some (.dup2, 1) := rfl
theorem c_194_90 : mLk 194 90 = some (.iaload, 1) := rfl
theorem c_194_91 : mLk 194 91 = some (.iload 6, 2) := rfl
theorem c_194_93 : mLk 194 93 = some (.isub, 1) := rfl
theorem c_194_94 : mLk 194 94 = some (.iastore, 1) := rfl
theorem c_194_95 : mLk 194 95 = some (.aload_n 0, 1) := rfl
theorem c_194_96 : mLk 194 96 = some (.getfield 68, 3) := rfl
theorem c_194_99 : mLk 194 99 = some (.iconst 4, 1) := rfl
theorem c_194_100 : mLk 194 100 = some (.iload_n 2, 1) := rfl
theorem c_194_101 : mLk 194 101 = some (.imul, 1) := rfl
theorem c_194_102 : mLk 194 102 = some (.iload 5, 2) := rfl
theorem c_194_104 : mLk 194 104 = some (.iadd, 1) := rfl
theorem c_194_105 : mLk 194 105 = some (.dup2, 1) := rfl
theorem c_194_106 : mLk 194 106 = some (.iaload, 1) := rfl
theorem c_194_107 : mLk 194 107 = some (.iload 6, 2) := rfl
theorem c_194_109 : mLk 194 109 = some (.iadd, 1) := rfl
theorem c_194_110 : mLk 194 110 = some (.iastore, 1) := rfl
theorem c_194_111 : mLk 194 111 = some (.iload 4, 2) := rfl
theorem c_194_113 : mLk 194 113 = some (.iload 6, 2) := rfl
theorem c_194_115 : mLk 194 115 = some (.isub, 1) := rfl
theorem c_194_116 : mLk 194 116 = some (.istore 4, 2) := rfl
theorem c_194_118 : mLk 194 118 = some (.iinc 5 1, 3) := rfl
theorem c_194_121 : mLk 194 121 = some (.goto (-82), 3) := rfl
theorem c_194_124 : mLk 194 124 = some (.aload_n 0, 1) := rfl
theorem c_194_125 : mLk 194 125 = some (.iload_n 2, 1) := rfl
theorem c_194_126 : mLk 194 126 = some (.aload_n 0, 1) := rfl
theorem c_194_127 : mLk 194 127 = some (.getfield 68, 3) := rfl
theorem c_194_130 : mLk 194 130 = some (.bipush 24, 2) := rfl
theorem c_194_132 : mLk 194 132 = some (.iload_n 1, 1) := rfl
theorem c_194_133 : mLk 194 133 = some (.iadd, 1) := rfl
theorem c_194_134 : mLk 194 134 = some (.iaload, 1) := rfl
theorem c_194_135 : mLk 194 135 = some (.invokevirtual 369, 3) := rfl
theorem c_194_138 : mLk 194 138 = some (.aload_n 0, 1) := rfl
theorem c_194_139 : mLk 194 139 = some (.iload_n 1, 1) := rfl
theorem c_194_140 : mLk 194 140 = some (.invokevirtual 343, 3) := rfl
theorem c_194_143 : mLk 194 143 = some (.ifCond .ne 8, 3) := rfl
theorem c_194_151 : mLk 194 151 = some (.iconst 1, 1) := rfl
theorem c_194_152 : mLk 194 152 = some (.ireturn, 1) := rfl
theorem c_194_146 : mLk 194 146 = some (.aload_n 0, 1) := rfl
theorem c_194_147 : mLk 194 147 = some (.iload_n 1, 1) := rfl
theorem c_194_148 : mLk 194 148 = some (.invokevirtual 372, 3) := rfl
theorem c_194_58 : mLk 194 58 = some (.if_icmp .ge 17, 3) := rfl
theorem c_194_75 : mLk 194 75 = some (.iload 4, 2) := rfl
theorem c_194_77 : mLk 194 77 = some (.istore 6, 2) := rfl
theorem c_194_61 : mLk 194 61 = some (.aload_n 0, 1) := rfl
theorem c_194_62 : mLk 194 62 = some (.getfield 68, 3) := rfl
theorem c_194_65 : mLk 194 65 = some (.iconst 4, 1) := rfl
theorem c_194_66 : mLk 194 66 = some (.iload_n 1, 1) := rfl
theorem c_194_67 : mLk 194 67 = some (.imul, 1) := rfl
theorem c_194_68 : mLk 194 68 = some (.iload 5, 2) := rfl
theorem c_194_70 : mLk 194 70 = some (.iadd, 1) := rfl
theorem c_194_71 : mLk 194 71 = some (.iaload, 1) := rfl
theorem c_194_72 : mLk 194 72 = some (.goto 5, 3) := rfl
set_option maxRecDepth 100000 in
set_option maxHeartbeats 4000000 in
theorem s_194 {sc : List Int32} {d P Q : Nat} {c : ME} {a1 : Int} {a2 : Int} {a3 : Int} {Z : AR → Prop} (hI : Iv 0 (-1) P Q c) (ha1 : 0 ≤ a1 ∧ a1 ≤ 5) (ha2 : 0 ≤ a2 ∧ a2 ≤ 5) (ha3 : 0 ≤ a3 ∧ a3 ≤ 99999) (K : ∀ (c2 : ME) (y : Int), Iv 0 (-1) P Q c2 → (∀ (a : Nat) (j : Int), ¬ (a = 59) → c2 a j = c a j) → 0 ≤ y ∧ y ≤ 1 → Z (.inl (some (vi y)), Wd P Q P P c2, 0, 0)) : Wp sc (d + 8) 194 0 [(0, .ref 41), (1, vi a1), (2, vi a2), (3, vi a3)] [] (Wd P Q P P c) 0 0 Z := by
  have hP := iv_P hI
  have hQ := iv_Q hI
  have hIo : Iv 59 (-1) P Q c := iv_open hI
  have hsum_1 := ir_59_r hI (by decide) (j := a1) (by omega)
  have h_2 := ir_59_g hI (j := 4 * a1) (by first | exact q_9f1d5ffdc ha1 | omega)
  have h_3 := ir_59_g hI (j := 4 * a1 + 1) (by first | exact q_0a2ee6f8f ha1 | omega)
  have h_4 := ir_59_g hI (j := 4 * a1 + 2) (by first | exact q_e07a293a2 ha1 | omega)
  have h_5 := ir_59_g hI (j := 4 * a1 + 3) (by first | exact q_d09cb0b73 ha1 | omega)
  have hsum_6 := ir_59_r hI (by decide) (j := a2) (by omega)
  have h_7 := ir_59_g hI (j := 4 * a2) (by first | exact q_9f1d5ffdc ha2 | omega)
  have h_8 := ir_59_g hI (j := 4 * a2 + 1) (by first | exact q_0a2ee6f8f ha2 | omega)
  have h_9 := ir_59_g hI (j := 4 * a2 + 2) (by first | exact q_e07a293a2 ha2 | omega)
  have h_10 := ir_59_g hI (j := 4 * a2 + 3) (by first | exact q_d09cb0b73 ha2 | omega)
  refine q_iload_n c_194_0 rfl ?_
  by_cases h_11 : a3 = 0
  · refine v_if_eq_t (t := 31) c_194_1 rfl h_11 (q_iconst c_194_31 (v_zret c_194_32 rfl (by decide) ?_))
    exact K c 0 hI (fun a j hm => rfl) ⟨by decide, by decide⟩
  · refine v_if_eq_f (t := 31) c_194_1 rfl ⟨h_11, ⟨(Int.le_trans (by decide) ha3.1), (Int.le_trans ha3.2 (by decide))⟩, by decide, by decide⟩ (q_aload_n c_194_4 rfl (q_iload_n c_194_5 rfl (v_cv c_194_6 km_8_343 rfl rfl (nb_ rfl) ⟨⟨rfl, rfl⟩, nb_ rfl, rfl⟩ (nb_ rfl) (nb_ rfl) (s_187 (v1 := c 59 (4 * a1)) (v2 := c 59 (4 * a1 + 1)) (v3 := c 59 (4 * a1 + 2)) (v4 := c 59 (4 * a1 + 3)) (r := c 59 (4 * a1 + 1) + c 59 (4 * a1 + 2) + c 59 (4 * a1 + 3) + c 59 (4 * a1)) (a1 := a1) hIo (show 0 ≤ a1 ∧ a1 ≤ 5 from ha1) (rfl) (rfl) (rfl) (rfl) (by omega) (bk_inl (q_iload_n c_194_9 rfl ?_))))))
    by_cases h_12 : c 59 (4 * a1 + 1) + c 59 (4 * a1 + 2) + c 59 (4 * a1 + 3) + c 59 (4 * a1) < a3
    · refine v_ic_lt_t (t := 31) c_194_10 rfl ⟨by first | exact q_e052ef40e h_2 h_3 h_4 h_5 | omega, h_12, (Int.le_trans ha3.2 (by decide))⟩ (q_iconst c_194_31 (v_zret c_194_32 rfl (by decide) ?_))
      exact K c 0 hI (fun a j hm => rfl) ⟨by decide, by decide⟩
    · refine v_ic_lt_f (t := 31) c_194_10 rfl ⟨(Int.le_trans (by decide) ha3.1), (Int.not_lt.mp h_12), by first | exact q_6719c4bfd hsum_1 | omega⟩ (q_iload_n c_194_13 rfl (q_iload_n c_194_14 rfl ?_))
      by_cases h_13 : a1 = a2
      · refine v_ic_eq_t (t := 31) c_194_15 rfl h_13 (q_iconst c_194_31 (v_zret c_194_32 rfl (by decide) ?_))
        exact K c 0 hI (fun a j hm => rfl) ⟨by decide, by decide⟩
      · refine v_ic_eq_f (t := 31) c_194_15 rfl ⟨h_13, ⟨(Int.le_trans (by decide) ha1.1), (Int.le_trans ha1.2 (by decide))⟩, (Int.le_trans (by decide) ha2.1), (Int.le_trans ha2.2 (by decide))⟩ (q_aload_n c_194_18 rfl (q_iload_n c_194_19 rfl (v_cv c_194_20 km_8_343 rfl rfl (nb_ rfl) ⟨⟨rfl, rfl⟩, nb_ rfl, rfl⟩ (nb_ rfl) (nb_ rfl) (s_187 (v1 := c 59 (4 * a2)) (v2 := c 59 (4 * a2 + 1)) (v3 := c 59 (4 * a2 + 2)) (v4 := c 59 (4 * a2 + 3)) (r := c 59 (4 * a2 + 1) + c 59 (4 * a2 + 2) + c 59 (4 * a2 + 3) + c 59 (4 * a2)) (a1 := a2) hIo (show 0 ≤ a2 ∧ a2 ≤ 5 from ha2) (rfl) (rfl) (rfl) (rfl) (by omega) (bk_inl (q_iload_n c_194_23 rfl (v_iadd (v := a3 + c 59 (4 * a2 + 1) + c 59 (4 * a2 + 2) + c 59 (4 * a2 + 3) + c 59 (4 * a2)) c_194_24 (by first | exact q_4ce869430 | omega) (v_sip c_194_25 (by decide) ?_))))))))
        by_cases h_14 : a3 + c 59 (4 * a2 + 1) + c 59 (4 * a2 + 2) + c 59 (4 * a2 + 3) + c 59 (4 * a2) ≤ 9999
        · refine v_ic_le_t (t := 33) c_194_28 rfl ⟨by first | exact q_62ebcb2f9 h_10 h_7 h_8 h_9 ha3 | omega, h_14, by decide⟩ (q_iload_n c_194_33 rfl (q_istore c_194_34 (nb_ rfl) (q_iconst c_194_36 (q_istore c_194_37 (nb_ rfl) (q_iload c_194_39 rfl (q_iconst c_194_41 (v_ic_ge_f (t := 124) c_194_42 rfl (by decide) ?_)))))))
          refine q_aload_n c_194_45 rfl (v_gr (t := 59) c_194_46 kf_8_68 rfl (nb_ rfl) rfl (q_iconst c_194_49 (q_iload_n c_194_50 rfl (v_imul (v := 4 * a1) c_194_51 rfl (q_iload c_194_52 rfl (v_iadd (v := 4 * a1) c_194_54 (by first | exact q_8baad3eb5 | omega) (v_ia (v := c 59 (4 * a1)) c_194_55 rfl (by decide) (by decide) ⟨by first | exact q_c065257af ha1 | omega, by first | exact q_a49915bbb ha1 | omega⟩ rfl ?_)))))))
          refine q_iload c_194_56 rfl ?_
          have KJ_15 : ∀ y_16 : Int, (y_16 ≤ c 59 (4 * a1) ∧ y_16 ≤ a3) ∧ 0 ≤ y_16 → Wp sc (d + 8) 194 79 [(0, .ref 41), (1, vi a1), (2, vi a2), (3, vi a3), (4, vi a3), (5, vi 0), (6, vi y_16)] [] (Wd P Q P P c) 0 0 Z := by
            intro y_16 hy_16
            refine q_aload_n c_194_79 rfl (v_gr (t := 59) c_194_80 kf_8_68 rfl (nb_ rfl) rfl (q_iconst c_194_83 (q_iload_n c_194_84 rfl (v_imul (v := 4 * a1) c_194_85 rfl (q_iload c_194_86 rfl (v_iadd (v := 4 * a1) c_194_88 (by first | exact q_8baad3eb5 | omega) (q_dup2 c_194_89 ⟨rfl, rfl⟩ ?_)))))))
            refine v_ia (v := c 59 (4 * a1)) c_194_90 rfl (by decide) (by decide) ⟨by first | exact q_c065257af ha1 | omega, by first | exact q_a49915bbb ha1 | omega⟩ rfl (q_iload c_194_91 rfl (v_isub (v := c 59 (4 * a1) - y_16) c_194_93 rfl (v_is c_194_94 rfl (by decide) (by decide) ⟨by first | exact q_c065257af ha1 | omega, by first | exact q_a49915bbb ha1 | omega⟩ (q_aload_n c_194_95 rfl (v_gr (t := 59) c_194_96 kf_8_68 rfl (nb_ rfl) rfl (q_iconst c_194_99 (q_iload_n c_194_100 rfl ?_)))))))
            refine v_imul (v := 4 * a2) c_194_101 rfl (q_iload c_194_102 rfl (v_iadd (v := 4 * a2) c_194_104 (by first | exact q_8baad3eb5 | omega) (q_dup2 c_194_105 ⟨rfl, rfl⟩ (v_ia (v := c 59 (4 * a2)) c_194_106 rfl (by decide) (by decide) ⟨by first | exact q_c065257af ha2 | omega, by first | exact q_a49915bbb ha2 | omega⟩ (up_n (by first | exact q_ed83c297d h_13 | omega)) (q_iload c_194_107 rfl (v_iadd (v := c 59 (4 * a2) + y_16) c_194_109 rfl (v_is c_194_110 rfl (by decide) (by decide) ⟨by first | exact q_c065257af ha2 | omega, by first | exact q_a49915bbb ha2 | omega⟩ ?_)))))))
            refine q_iload c_194_111 rfl (q_iload c_194_113 rfl (v_isub (v := a3 - y_16) c_194_115 rfl (q_istore c_194_116 (nb_ rfl) (v_iinc (v := 1) c_194_118 rfl (nb_ rfl) (by decide) (q_goto (t := 39) c_194_121 rfl (q_iload c_194_39 rfl (q_iconst c_194_41 ?_)))))))
            refine v_ic_ge_f (t := 124) c_194_42 rfl (by decide) (q_aload_n c_194_45 rfl (v_gr (t := 59) c_194_46 kf_8_68 rfl (nb_ rfl) rfl (q_iconst c_194_49 (q_iload_n c_194_50 rfl (v_imul (v := 4 * a1) c_194_51 rfl (q_iload c_194_52 rfl (v_iadd (v := 4 * a1 + 1) c_194_54 rfl ?_)))))))
            refine v_ia (v := c 59 (4 * a1 + 1)) c_194_55 rfl (by decide) (by decide) ⟨by first | exact q_83fdbd35d ha1 | omega, by first | exact q_7a0c0a739 ha1 | omega⟩ ((up_n (by first | exact q_e5bcc673e | omega)).trans (up_n (by first | exact ne_a0 (by decide) | omega))) (q_iload c_194_56 rfl ?_)
            have KJ_17 : ∀ y_18 : Int, (y_18 ≤ c 59 (4 * a1 + 1) ∧ y_18 ≤ a3 - y_16) ∧ 0 ≤ y_18 → Wp sc (d + 8) 194 79 [(0, .ref 41), (1, vi a1), (2, vi a2), (3, vi a3), (4, vi (a3 - y_16)), (5, vi 1), (6, vi y_18)] [] (Wd P Q P P (up (up c 59 (4 * a1) (c 59 (4 * a1) - y_16)) 59 (4 * a2) (c 59 (4 * a2) + y_16))) 0 0 Z := by
              intro y_18 hy_18
              refine q_aload_n c_194_79 rfl (v_gr (t := 59) c_194_80 kf_8_68 rfl (nb_ rfl) rfl (q_iconst c_194_83 (q_iload_n c_194_84 rfl (v_imul (v := 4 * a1) c_194_85 rfl (q_iload c_194_86 rfl (v_iadd (v := 4 * a1 + 1) c_194_88 rfl (q_dup2 c_194_89 ⟨rfl, rfl⟩ ?_)))))))
              refine v_ia (v := c 59 (4 * a1 + 1)) c_194_90 rfl (by decide) (by decide) ⟨by first | exact q_83fdbd35d ha1 | omega, by first | exact q_7a0c0a739 ha1 | omega⟩ ((up_n (by first | exact q_e5bcc673e | omega)).trans (up_n (by first | exact ne_a0 (by decide) | omega))) (q_iload c_194_91 rfl (v_isub (v := c 59 (4 * a1 + 1) - y_18) c_194_93 rfl (v_is c_194_94 rfl (by decide) (by decide) ⟨by first | exact q_83fdbd35d ha1 | omega, by first | exact q_7a0c0a739 ha1 | omega⟩ (q_aload_n c_194_95 rfl (v_gr (t := 59) c_194_96 kf_8_68 rfl (nb_ rfl) rfl (q_iconst c_194_99 (q_iload_n c_194_100 rfl ?_)))))))
              refine v_imul (v := 4 * a2) c_194_101 rfl (q_iload c_194_102 rfl (v_iadd (v := 4 * a2 + 1) c_194_104 rfl (q_dup2 c_194_105 ⟨rfl, rfl⟩ (v_ia (v := c 59 (4 * a2 + 1)) c_194_106 rfl (by decide) (by decide) ⟨by first | exact q_83fdbd35d ha2 | omega, by first | exact q_7a0c0a739 ha2 | omega⟩ ((up_n (by first | exact q_11c6f4f0a h_13 | omega)).trans ((up_n (by first | exact ne_a0 (by decide) | omega)).trans (up_n (by first | exact q_e5bcc673e | omega)))) (q_iload c_194_107 rfl (v_iadd (v := c 59 (4 * a2 + 1) + y_18) c_194_109 rfl (v_is c_194_110 rfl (by decide) (by decide) ⟨by first | exact q_83fdbd35d ha2 | omega, by first | exact q_7a0c0a739 ha2 | omega⟩ ?_)))))))
              refine q_iload c_194_111 rfl (q_iload c_194_113 rfl (v_isub (v := a3 - y_16 - y_18) c_194_115 rfl (q_istore c_194_116 (nb_ rfl) (v_iinc (v := 2) c_194_118 rfl (nb_ rfl) (by decide) (q_goto (t := 39) c_194_121 rfl (q_iload c_194_39 rfl (q_iconst c_194_41 ?_)))))))
              refine v_ic_ge_f (t := 124) c_194_42 rfl (by decide) (q_aload_n c_194_45 rfl (v_gr (t := 59) c_194_46 kf_8_68 rfl (nb_ rfl) rfl (q_iconst c_194_49 (q_iload_n c_194_50 rfl (v_imul (v := 4 * a1) c_194_51 rfl (q_iload c_194_52 rfl (v_iadd (v := 4 * a1 + 2) c_194_54 rfl ?_)))))))
              refine v_ia (v := c 59 (4 * a1 + 2)) c_194_55 rfl (by decide) (by decide) ⟨by first | exact q_0f37a0c6e ha1 | omega, by first | exact q_36e1404d4 ha1 | omega⟩ ((up_n (by first | exact q_08c3d7060 | omega)).trans ((up_n (by first | exact ne_aa (by decide) | omega)).trans ((up_n (by first | exact q_ae83e86ba | omega)).trans (up_n (by first | exact ne_a0 (by decide) | omega))))) (q_iload c_194_56 rfl ?_)
              have KJ_19 : ∀ y_20 : Int, (y_20 ≤ c 59 (4 * a1 + 2) ∧ y_20 ≤ a3 - y_16 - y_18) ∧ 0 ≤ y_20 → Wp sc (d + 8) 194 79 [(0, .ref 41), (1, vi a1), (2, vi a2), (3, vi a3), (4, vi (a3 - y_16 - y_18)), (5, vi 2), (6, vi y_20)] [] (Wd P Q P P (up (up (up (up c 59 (4 * a1) (c 59 (4 * a1) - y_16)) 59 (4 * a2) (c 59 (4 * a2) + y_16)) 59 (4 * a1 + 1) (c 59 (4 * a1 + 1) - y_18)) 59 (4 * a2 + 1) (c 59 (4 * a2 + 1) + y_18))) 0 0 Z := by
                intro y_20 hy_20
                refine q_aload_n c_194_79 rfl (v_gr (t := 59) c_194_80 kf_8_68 rfl (nb_ rfl) rfl (q_iconst c_194_83 (q_iload_n c_194_84 rfl (v_imul (v := 4 * a1) c_194_85 rfl (q_iload c_194_86 rfl (v_iadd (v := 4 * a1 + 2) c_194_88 rfl (q_dup2 c_194_89 ⟨rfl, rfl⟩ ?_)))))))
                refine v_ia (v := c 59 (4 * a1 + 2)) c_194_90 rfl (by decide) (by decide) ⟨by first | exact q_0f37a0c6e ha1 | omega, by first | exact q_36e1404d4 ha1 | omega⟩ ((up_n (by first | exact q_08c3d7060 | omega)).trans ((up_n (by first | exact ne_aa (by decide) | omega)).trans ((up_n (by first | exact q_ae83e86ba | omega)).trans (up_n (by first | exact ne_a0 (by decide) | omega))))) (q_iload c_194_91 rfl (v_isub (v := c 59 (4 * a1 + 2) - y_20) c_194_93 rfl (v_is c_194_94 rfl (by decide) (by decide) ⟨by first | exact q_0f37a0c6e ha1 | omega, by first | exact q_36e1404d4 ha1 | omega⟩ (q_aload_n c_194_95 rfl (v_gr (t := 59) c_194_96 kf_8_68 rfl (nb_ rfl) rfl (q_iconst c_194_99 (q_iload_n c_194_100 rfl ?_)))))))
                refine v_imul (v := 4 * a2) c_194_101 rfl (q_iload c_194_102 rfl (v_iadd (v := 4 * a2 + 2) c_194_104 rfl (q_dup2 c_194_105 ⟨rfl, rfl⟩ (v_ia (v := c 59 (4 * a2 + 2)) c_194_106 rfl (by decide) (by decide) ⟨by first | exact q_0f37a0c6e ha2 | omega, by first | exact q_36e1404d4 ha2 | omega⟩ ((up_n (by first | exact q_93f4687d0 h_13 | omega)).trans ((up_n (by first | exact ne_aa (by decide) | omega)).trans ((up_n (by first | exact q_08c3d7060 | omega)).trans ((up_n (by first | exact ne_a0 (by decide) | omega)).trans (up_n (by first | exact q_ae83e86ba | omega)))))) (q_iload c_194_107 rfl (v_iadd (v := c 59 (4 * a2 + 2) + y_20) c_194_109 rfl (v_is c_194_110 rfl (by decide) (by decide) ⟨by first | exact q_0f37a0c6e ha2 | omega, by first | exact q_36e1404d4 ha2 | omega⟩ ?_)))))))
                refine q_iload c_194_111 rfl (q_iload c_194_113 rfl (v_isub (v := a3 - y_16 - y_18 - y_20) c_194_115 rfl (q_istore c_194_116 (nb_ rfl) (v_iinc (v := 3) c_194_118 rfl (nb_ rfl) (by decide) (q_goto (t := 39) c_194_121 rfl (q_iload c_194_39 rfl (q_iconst c_194_41 ?_)))))))
                refine v_ic_ge_f (t := 124) c_194_42 rfl (by decide) (q_aload_n c_194_45 rfl (v_gr (t := 59) c_194_46 kf_8_68 rfl (nb_ rfl) rfl (q_iconst c_194_49 (q_iload_n c_194_50 rfl (v_imul (v := 4 * a1) c_194_51 rfl (q_iload c_194_52 rfl (v_iadd (v := 4 * a1 + 3) c_194_54 rfl ?_)))))))
                refine v_ia (v := c 59 (4 * a1 + 3)) c_194_55 rfl (by decide) (by decide) ⟨by first | exact q_f6be69137 ha1 | omega, by first | exact q_6b2d832d4 ha1 | omega⟩ ((up_n (by first | exact q_28d70e8e5 | omega)).trans ((up_n (by first | exact ne_aa (by decide) | omega)).trans ((up_n (by first | exact q_6d5c6886e | omega)).trans ((up_n (by first | exact ne_aa (by decide) | omega)).trans ((up_n (by first | exact q_b6789388a | omega)).trans (up_n (by first | exact ne_a0 (by decide) | omega))))))) (q_iload c_194_56 rfl ?_)
                have KJ_21 : ∀ y_22 : Int, (y_22 ≤ c 59 (4 * a1 + 3) ∧ y_22 ≤ a3 - y_16 - y_18 - y_20) ∧ 0 ≤ y_22 → Wp sc (d + 8) 194 79 [(0, .ref 41), (1, vi a1), (2, vi a2), (3, vi a3), (4, vi (a3 - y_16 - y_18 - y_20)), (5, vi 3), (6, vi y_22)] [] (Wd P Q P P (up (up (up (up (up (up c 59 (4 * a1) (c 59 (4 * a1) - y_16)) 59 (4 * a2) (c 59 (4 * a2) + y_16)) 59 (4 * a1 + 1) (c 59 (4 * a1 + 1) - y_18)) 59 (4 * a2 + 1) (c 59 (4 * a2 + 1) + y_18)) 59 (4 * a1 + 2) (c 59 (4 * a1 + 2) - y_20)) 59 (4 * a2 + 2) (c 59 (4 * a2 + 2) + y_20))) 0 0 Z := by
                  intro y_22 hy_22
                  refine q_aload_n c_194_79 rfl (v_gr (t := 59) c_194_80 kf_8_68 rfl (nb_ rfl) rfl (q_iconst c_194_83 (q_iload_n c_194_84 rfl (v_imul (v := 4 * a1) c_194_85 rfl (q_iload c_194_86 rfl (v_iadd (v := 4 * a1 + 3) c_194_88 rfl (q_dup2 c_194_89 ⟨rfl, rfl⟩ ?_)))))))
                  refine v_ia (v := c 59 (4 * a1 + 3)) c_194_90 rfl (by decide) (by decide) ⟨by first | exact q_f6be69137 ha1 | omega, by first | exact q_6b2d832d4 ha1 | omega⟩ ((up_n (by first | exact q_28d70e8e5 | omega)).trans ((up_n (by first | exact ne_aa (by decide) | omega)).trans ((up_n (by first | exact q_6d5c6886e | omega)).trans ((up_n (by first | exact ne_aa (by decide) | omega)).trans ((up_n (by first | exact q_b6789388a | omega)).trans (up_n (by first | exact ne_a0 (by decide) | omega))))))) (q_iload c_194_91 rfl (v_isub (v := c 59 (4 * a1 + 3) - y_22) c_194_93 rfl (v_is c_194_94 rfl (by decide) (by decide) ⟨by first | exact q_f6be69137 ha1 | omega, by first | exact q_6b2d832d4 ha1 | omega⟩ (q_aload_n c_194_95 rfl (v_gr (t := 59) c_194_96 kf_8_68 rfl (nb_ rfl) rfl (q_iconst c_194_99 (q_iload_n c_194_100 rfl ?_)))))))
                  refine v_imul (v := 4 * a2) c_194_101 rfl (q_iload c_194_102 rfl (v_iadd (v := 4 * a2 + 3) c_194_104 rfl (q_dup2 c_194_105 ⟨rfl, rfl⟩ (v_ia (v := c 59 (4 * a2 + 3)) c_194_106 rfl (by decide) (by decide) ⟨by first | exact q_f6be69137 ha2 | omega, by first | exact q_6b2d832d4 ha2 | omega⟩ ((up_n (by first | exact q_69b4a572f h_13 | omega)).trans ((up_n (by first | exact ne_aa (by decide) | omega)).trans ((up_n (by first | exact q_28d70e8e5 | omega)).trans ((up_n (by first | exact ne_aa (by decide) | omega)).trans ((up_n (by first | exact q_6d5c6886e | omega)).trans ((up_n (by first | exact ne_a0 (by decide) | omega)).trans (up_n (by first | exact q_b6789388a | omega)))))))) (q_iload c_194_107 rfl (v_iadd (v := c 59 (4 * a2 + 3) + y_22) c_194_109 rfl (v_is c_194_110 rfl (by decide) (by decide) ⟨by first | exact q_f6be69137 ha2 | omega, by first | exact q_6b2d832d4 ha2 | omega⟩ ?_)))))))
                  refine q_iload c_194_111 rfl (q_iload c_194_113 rfl (v_isub (v := a3 - y_16 - y_18 - y_20 - y_22) c_194_115 rfl (q_istore c_194_116 (nb_ rfl) (v_iinc (v := 4) c_194_118 rfl (nb_ rfl) (by decide) (q_goto (t := 39) c_194_121 rfl (q_iload c_194_39 rfl (q_iconst c_194_41 ?_)))))))
                  refine v_ic_ge_t (t := 124) c_194_42 rfl (by decide) (q_aload_n c_194_124 rfl (q_iload_n c_194_125 rfl (q_aload_n c_194_126 rfl (v_gr (t := 59) c_194_127 kf_8_68 rfl (nb_ rfl) rfl (v_bip c_194_130 (by decide) (q_iload_n c_194_132 rfl (v_iadd (v := a1 + 24) c_194_133 (by first | exact q_1b47056ce | omega) ?_)))))))
                  have h_23 := ir_59 hI (a1 + 24)
                  refine v_ia (v := c 59 (a1 + 24)) c_194_134 rfl (by decide) (by decide) ⟨by first | exact rgp_l ha1.1 (by decide) | omega, by first | exact q_57f615a18 ha1 | omega⟩ ((up_n (ne_g (by first | exact q_e782b8c3c ha1 ha2 | omega))).trans ((up_n (ne_g (by first | exact q_fd9aac8f8 ha1 | omega))).trans ((up_n (ne_g (by first | exact q_04ab4010a ha1 ha2 | omega))).trans ((up_n (ne_g (by first | exact q_27ec1b4d7 ha1 | omega))).trans ((up_n (ne_g (by first | exact q_8f2481ba6 ha1 ha2 | omega))).trans ((up_n (ne_g (by first | exact q_60c9feeee ha1 | omega))).trans ((up_n (ne_g (by first | exact q_4128697c9 ha1 ha2 | omega))).trans (up_n (ne_g (by first | exact q_788f4b81f ha1 | omega)))))))))) ?_
                  have hI_24 := iwr0 (a := 59) (j := 4 * a1) (v := c 59 (4 * a1) - y_16) hIo (by decide) ⟨by first | (clear ha1 ha2 ha3 h_2 h_3 h_4 h_5 hsum_1 h_7 h_8 h_9 h_10 hsum_6 h_12 h_14 h_23 h_11 h_13; omega) | omega, by first | (clear ha1 ha2 ha3 h_3 h_4 h_5 hsum_1 h_7 h_8 h_9 h_10 hsum_6 h_12 h_14 h_23 h_11 h_13; omega) | omega⟩
                  have hI_25 := iwr0 (a := 59) (j := 4 * a2) (v := c 59 (4 * a2) + y_16) hI_24 (by decide) ⟨by first | (clear ha1 ha2 ha3 h_2 h_3 h_4 h_5 hsum_1 h_8 h_9 h_10 hsum_6 h_12 h_14 h_23 h_11 h_13; omega) | omega, by first | (clear ha1 ha2 ha3 h_2 h_3 h_4 h_5 hsum_1 h_7 hsum_6 h_12 h_23 h_11 h_13; omega) | omega⟩
                  have hI_26 := iwr0 (a := 59) (j := 4 * a1 + 1) (v := c 59 (4 * a1 + 1) - y_18) hI_25 (by decide) ⟨by first | (clear ha1 ha2 ha3 h_2 h_3 h_4 h_5 hsum_1 h_7 h_8 h_9 h_10 hsum_6 h_12 h_14 h_23 h_11 h_13; omega) | omega, by first | (clear ha1 ha2 ha3 h_2 h_4 h_5 hsum_1 h_7 h_8 h_9 h_10 hsum_6 h_12 h_14 h_23 h_11 h_13; omega) | omega⟩
                  have hI_27 := iwr0 (a := 59) (j := 4 * a2 + 1) (v := c 59 (4 * a2 + 1) + y_18) hI_26 (by decide) ⟨by first | (clear ha1 ha2 ha3 h_2 h_3 h_4 h_5 hsum_1 h_7 h_9 h_10 hsum_6 h_12 h_14 h_23 h_11 h_13; omega) | omega, by first | (clear ha1 ha2 ha3 h_2 h_3 h_4 h_5 hsum_1 h_8 hsum_6 h_12 h_23 h_11 h_13; omega) | omega⟩
                  have hI_28 := iwr0 (a := 59) (j := 4 * a1 + 2) (v := c 59 (4 * a1 + 2) - y_20) hI_27 (by decide) ⟨by first | (clear ha1 ha2 ha3 h_2 h_3 h_4 h_5 hsum_1 h_7 h_8 h_9 h_10 hsum_6 h_12 h_14 h_23 h_11 h_13; omega) | omega, by first | (clear ha1 ha2 ha3 h_2 h_3 h_5 hsum_1 h_7 h_8 h_9 h_10 hsum_6 h_12 h_14 h_23 h_11 h_13; omega) | omega⟩
                  have hI_29 := iwr0 (a := 59) (j := 4 * a2 + 2) (v := c 59 (4 * a2 + 2) + y_20) hI_28 (by decide) ⟨by first | (clear ha1 ha2 ha3 h_2 h_3 h_4 h_5 hsum_1 h_7 h_8 h_10 hsum_6 h_12 h_14 h_23 h_11 h_13; omega) | omega, by first | (clear ha1 ha2 ha3 h_2 h_3 h_4 h_5 hsum_1 h_9 hsum_6 h_12 h_23 h_11 h_13; omega) | omega⟩
                  have hI_30 := iwr0 (a := 59) (j := 4 * a1 + 3) (v := c 59 (4 * a1 + 3) - y_22) hI_29 (by decide) ⟨by first | (clear ha1 ha2 ha3 h_2 h_3 h_4 h_5 hsum_1 h_7 h_8 h_9 h_10 hsum_6 h_12 h_14 h_23 h_11 h_13; omega) | omega, by first | (clear ha1 ha2 ha3 h_2 h_3 h_4 hsum_1 h_7 h_8 h_9 h_10 hsum_6 h_12 h_14 h_23 h_11 h_13; omega) | omega⟩
                  have hI_31 := iwr0 (a := 59) (j := 4 * a2 + 3) (v := c 59 (4 * a2 + 3) + y_22) hI_30 (by decide) ⟨by first | (clear ha1 ha2 ha3 h_2 h_3 h_4 h_5 hsum_1 h_7 h_8 h_9 hsum_6 h_12 h_14 h_23 h_11 h_13; omega) | omega, by first | (clear ha1 ha2 ha3 h_2 h_3 h_4 h_5 hsum_1 h_10 hsum_6 h_12 h_23 h_11 h_13; omega) | omega⟩
                  refine v_cv c_194_135 km_8_369 rfl rfl (nb_ rfl) ⟨⟨rfl, rfl⟩, nb_ rfl, rfl⟩ (nb_ rfl) (nb_ rfl) (s_191 (a1 := a2) (a2 := c 59 (a1 + 24)) hI_31 (show 0 ≤ a2 ∧ a2 ≤ 5 from ha2) (show (-2147483648) ≤ c 59 (a1 + 24) ∧ c 59 (a1 + 24) ≤ 2147483647 from h_23) (fun c_32 hI_33 hF_34 => (bk_inl (q_aload_n c_194_138 rfl (q_iload_n c_194_139 rfl ?_)))))
                  have kn_35 : Hid (c_32 59 (4 * a1) = c 59 (4 * a1) - y_16) := (hF_34 59 (4 * a1) (fun h => absurd h.2 (ne_l (by first | exact q_2b13428e8 ha1 ha2 | omega)))).trans ((up_n (by first | exact q_8ac71c5f3 | omega)).trans ((up_n (by first | exact ne_0a (by decide) | omega)).trans ((up_n (by first | exact q_c037f51da | omega)).trans ((up_n (by first | exact ne_0a (by decide) | omega)).trans ((up_n (by first | exact q_b2cb8bf87 | omega)).trans ((up_n (by first | exact ne_0a (by decide) | omega)).trans ((up_n (by first | exact q_336fb6678 h_13 | omega)).trans (up_e rfl))))))))
                  have kn_36 : Hid (c_32 59 (4 * a1 + 1) = c 59 (4 * a1 + 1) - y_18) := (hF_34 59 (4 * a1 + 1) (fun h => absurd h.2 (ne_l (by first | exact q_3178328df ha1 ha2 | omega)))).trans ((up_n (by first | exact q_7c6b1b09a | omega)).trans ((up_n (by first | exact ne_aa (by decide) | omega)).trans ((up_n (by first | exact q_3650b790c | omega)).trans ((up_n (by first | exact ne_aa (by decide) | omega)).trans ((up_n (by first | exact q_52b51d728 h_13 | omega)).trans (up_e rfl))))))
                  have kn_37 : Hid (c_32 59 (4 * a1 + 2) = c 59 (4 * a1 + 2) - y_20) := (hF_34 59 (4 * a1 + 2) (fun h => absurd h.2 (ne_l (by first | exact q_428481d46 ha1 ha2 | omega)))).trans ((up_n (by first | exact q_91c5bd343 | omega)).trans ((up_n (by first | exact ne_aa (by decide) | omega)).trans ((up_n (by first | exact q_27892e29e h_13 | omega)).trans (up_e rfl))))
                  have kn_38 : Hid (c_32 59 (4 * a1 + 3) = c 59 (4 * a1 + 3) - y_22) := (hF_34 59 (4 * a1 + 3) (fun h => absurd h.2 (ne_l (by first | exact q_2771393a8 ha1 ha2 | omega)))).trans ((up_n (by first | exact q_2db9f474b h_13 | omega)).trans (up_e rfl))
                  refine v_cv c_194_140 km_8_343 rfl rfl (nb_ rfl) ⟨⟨rfl, rfl⟩, nb_ rfl, rfl⟩ (nb_ rfl) (nb_ rfl) (s_187 (v1 := c 59 (4 * a1) - y_16) (v2 := c 59 (4 * a1 + 1) - y_18) (v3 := c 59 (4 * a1 + 2) - y_20) (v4 := c 59 (4 * a1 + 3) - y_22) (r := c 59 (4 * a1 + 1) + c 59 (4 * a1 + 2) + c 59 (4 * a1 + 3) + c 59 (4 * a1) - y_16 - y_18 - y_20 - y_22) (a1 := a1) hI_33 (show 0 ≤ a1 ∧ a1 ≤ 5 from ha1) ((hid kn_35)) ((hid kn_36)) ((hid kn_37)) ((hid kn_38)) (by omega) (bk_inl ?_))
                  by_cases h_39 : c 59 (4 * a1 + 1) + c 59 (4 * a1 + 2) + c 59 (4 * a1 + 3) + c 59 (4 * a1) - y_16 - y_18 - y_20 - y_22 ≠ 0
                  · refine v_if_ne_t (t := 151) c_194_143 rfl ⟨h_39, ⟨by first | (clear ha1 ha2 ha3 h_2 h_3 h_4 h_5 hsum_1 h_7 h_8 h_9 h_10 hsum_6 h_14 h_23 h_11 h_13; omega) | omega, by first | (clear ha1 ha2 ha3 h_2 h_3 h_4 h_5 h_7 h_8 h_9 h_10 hsum_6 h_12 h_14 h_23 h_11 h_13; omega) | omega⟩, by decide, by decide⟩ (q_iconst c_194_151 (v_zret c_194_152 rfl (by decide) ?_))
                    have hr_40 : ∀ j : Int, rs 59 j → c_32 59 j + c_32 59 (j + 1) + c_32 59 (j + 2) + c_32 59 (j + 3) ≤ 9999 := by
                      intro j9 hj9
                      obtain ⟨k9, rfl, hk9⟩ := rs_59 hj9
                      by_cases e_41 : k9 = a1
                      · skip
                        have h_42 : c_32 59 (4 * k9) = c 59 (4 * a1) - y_16 := (congrArg (c_32 59) (show 4 * k9 = 4 * a1 from congrArg (fun z : Int => 4 * z) e_41)).trans (hid kn_35)
                        have h_43 : c_32 59 (4 * k9 + 1) = c 59 (4 * a1 + 1) - y_18 := (congrArg (c_32 59) (show 4 * k9 + 1 = 4 * a1 + 1 from congrArg (fun z : Int => 4 * z + 1) e_41)).trans (hid kn_36)
                        have h_44 : c_32 59 (4 * k9 + 2) = c 59 (4 * a1 + 2) - y_20 := (congrArg (c_32 59) (show 4 * k9 + 2 = 4 * a1 + 2 from congrArg (fun z : Int => 4 * z + 2) e_41)).trans (hid kn_37)
                        have h_45 : c_32 59 (4 * k9 + 3) = c 59 (4 * a1 + 3) - y_22 := (congrArg (c_32 59) (show 4 * k9 + 3 = 4 * a1 + 3 from congrArg (fun z : Int => 4 * z + 3) e_41)).trans (hid kn_38)
                        exact sm4 h_42 h_43 h_44 h_45 (by first | (clear ha1 ha2 ha3 h_2 h_3 h_4 h_5 h_7 h_8 h_9 h_10 hsum_6 h_12 h_14 h_23 hk9 e_41 h_11 h_13 h_39; omega) | omega)
                      by_cases e_46 : k9 = a2
                      · skip
                        have kn_47 : Hid (c_32 59 (4 * a2) = c 59 (4 * a2) + y_16) := (hF_34 59 (4 * a2) (fun h => absurd h.2 (ne_l (by first | exact q_788f4b81f ha2 | omega)))).trans ((up_n (by first | exact ne_0a (by decide) | omega)).trans ((up_n (by first | exact q_8ac71c5f3 | omega)).trans ((up_n (by first | exact ne_0a (by decide) | omega)).trans ((up_n (by first | exact q_c037f51da | omega)).trans ((up_n (by first | exact ne_0a (by decide) | omega)).trans ((up_n (by first | exact q_b2cb8bf87 | omega)).trans (up_e rfl)))))))
                        have h_48 : c_32 59 (4 * k9) = c 59 (4 * a2) + y_16 := (congrArg (c_32 59) (show 4 * k9 = 4 * a2 from congrArg (fun z : Int => 4 * z) e_46)).trans (hid kn_47)
                        have kn_49 : Hid (c_32 59 (4 * a2 + 1) = c 59 (4 * a2 + 1) + y_18) := (hF_34 59 (4 * a2 + 1) (fun h => absurd h.2 (ne_l (by first | exact q_60c9feeee ha2 | omega)))).trans ((up_n (by first | exact ne_aa (by decide) | omega)).trans ((up_n (by first | exact q_7c6b1b09a | omega)).trans ((up_n (by first | exact ne_aa (by decide) | omega)).trans ((up_n (by first | exact q_3650b790c | omega)).trans (up_e rfl)))))
                        have h_50 : c_32 59 (4 * k9 + 1) = c 59 (4 * a2 + 1) + y_18 := (congrArg (c_32 59) (show 4 * k9 + 1 = 4 * a2 + 1 from congrArg (fun z : Int => 4 * z + 1) e_46)).trans (hid kn_49)
                        have kn_51 : Hid (c_32 59 (4 * a2 + 2) = c 59 (4 * a2 + 2) + y_20) := (hF_34 59 (4 * a2 + 2) (fun h => absurd h.2 (ne_l (by first | exact q_27ec1b4d7 ha2 | omega)))).trans ((up_n (by first | exact ne_aa (by decide) | omega)).trans ((up_n (by first | exact q_91c5bd343 | omega)).trans (up_e rfl)))
                        have h_52 : c_32 59 (4 * k9 + 2) = c 59 (4 * a2 + 2) + y_20 := (congrArg (c_32 59) (show 4 * k9 + 2 = 4 * a2 + 2 from congrArg (fun z : Int => 4 * z + 2) e_46)).trans (hid kn_51)
                        have kn_53 : Hid (c_32 59 (4 * a2 + 3) = c 59 (4 * a2 + 3) + y_22) := (hF_34 59 (4 * a2 + 3) (fun h => absurd h.2 (ne_l (by first | exact q_fd9aac8f8 ha2 | omega)))).trans (up_e rfl)
                        have h_54 : c_32 59 (4 * k9 + 3) = c 59 (4 * a2 + 3) + y_22 := (congrArg (c_32 59) (show 4 * k9 + 3 = 4 * a2 + 3 from congrArg (fun z : Int => 4 * z + 3) e_46)).trans (hid kn_53)
                        exact sm4 h_48 h_50 h_52 h_54 (by first | (clear ha1 ha2 ha3 h_2 h_3 h_4 h_5 hsum_1 h_7 h_8 h_9 h_10 hsum_6 h_12 h_23 hk9 e_46 h_11 h_13 h_39 e_41; omega) | omega)
                      have h_55 := iv_r hI 59 (4 * k9) hj9 (by omega)
                      have h_56 := ir_59_g hI (j := 4 * k9) (by first | exact q_9f1d5ffdc hk9 | omega)
                      have kn_57 : Hid (c_32 59 (4 * k9) = c 59 (4 * k9)) := (hF_34 59 (4 * k9) (fun h => absurd h.2 (ne_l (by first | exact q_4128697c9 ha2 hk9 | omega)))).trans ((up_n (by first | exact q_8ac71c5f3 | omega)).trans ((up_n (by first | exact q_8ac71c5f3 | omega)).trans ((up_n (by first | exact q_c037f51da | omega)).trans ((up_n (by first | exact q_c037f51da | omega)).trans ((up_n (by first | exact q_b2cb8bf87 | omega)).trans ((up_n (by first | exact q_b2cb8bf87 | omega)).trans ((up_n (by first | exact q_336fb6678 e_46 | omega)).trans (up_n (by first | exact q_336fb6678 e_41 | omega)))))))))
                      have h_58 : c_32 59 (4 * k9) = c 59 (4 * k9) := (hid kn_57)
                      have h_59 := ir_59_g hI (j := 4 * k9 + 1) (by first | exact q_0a2ee6f8f hk9 | omega)
                      have kn_60 : Hid (c_32 59 (4 * k9 + 1) = c 59 (4 * k9 + 1)) := (hF_34 59 (4 * k9 + 1) (fun h => absurd h.2 (ne_l (by first | exact q_8f2481ba6 ha2 hk9 | omega)))).trans ((up_n (by first | exact q_7c6b1b09a | omega)).trans ((up_n (by first | exact q_7c6b1b09a | omega)).trans ((up_n (by first | exact q_3650b790c | omega)).trans ((up_n (by first | exact q_3650b790c | omega)).trans ((up_n (by first | exact q_52b51d728 e_46 | omega)).trans ((up_n (by first | exact q_52b51d728 e_41 | omega)).trans ((up_n (by first | exact q_e5bcc673e | omega)).trans (up_n (by first | exact q_e5bcc673e | omega)))))))))
                      have h_61 : c_32 59 (4 * k9 + 1) = c 59 (4 * k9 + 1) := (hid kn_60)
                      have h_62 := ir_59_g hI (j := 4 * k9 + 2) (by first | exact q_e07a293a2 hk9 | omega)
                      have kn_63 : Hid (c_32 59 (4 * k9 + 2) = c 59 (4 * k9 + 2)) := (hF_34 59 (4 * k9 + 2) (fun h => absurd h.2 (ne_l (by first | exact q_04ab4010a ha2 hk9 | omega)))).trans ((up_n (by first | exact q_91c5bd343 | omega)).trans ((up_n (by first | exact q_91c5bd343 | omega)).trans ((up_n (by first | exact q_27892e29e e_46 | omega)).trans ((up_n (by first | exact q_27892e29e e_41 | omega)).trans ((up_n (by first | exact q_08c3d7060 | omega)).trans ((up_n (by first | exact q_08c3d7060 | omega)).trans ((up_n (by first | exact q_ae83e86ba | omega)).trans (up_n (by first | exact q_ae83e86ba | omega)))))))))
                      have h_64 : c_32 59 (4 * k9 + 2) = c 59 (4 * k9 + 2) := (hid kn_63)
                      have h_65 := ir_59_g hI (j := 4 * k9 + 3) (by first | exact q_d09cb0b73 hk9 | omega)
                      have kn_66 : Hid (c_32 59 (4 * k9 + 3) = c 59 (4 * k9 + 3)) := (hF_34 59 (4 * k9 + 3) (fun h => absurd h.2 (ne_l (by first | exact q_e782b8c3c ha2 hk9 | omega)))).trans ((up_n (by first | exact q_2db9f474b e_46 | omega)).trans ((up_n (by first | exact q_2db9f474b e_41 | omega)).trans ((up_n (by first | exact q_28d70e8e5 | omega)).trans ((up_n (by first | exact q_28d70e8e5 | omega)).trans ((up_n (by first | exact q_6d5c6886e | omega)).trans ((up_n (by first | exact q_6d5c6886e | omega)).trans ((up_n (by first | exact q_b6789388a | omega)).trans (up_n (by first | exact q_b6789388a | omega)))))))))
                      have h_67 : c_32 59 (4 * k9 + 3) = c 59 (4 * k9 + 3) := (hid kn_66)
                      exact sm4 h_58 h_61 h_64 h_67 h_55
                    have hI_68 := iv_close hI_33 hr_40
                    exact K c_32 1 hI_68 (fun a j hm => (hF_34 a j (fun h => hm h.1)).trans ((up_b (Decidable.or_iff_not_imp_left.mpr (fun h1 h2 => hm (Decidable.not_not.mp h1)))).trans ((up_b (Decidable.or_iff_not_imp_left.mpr (fun h1 h2 => hm (Decidable.not_not.mp h1)))).trans ((up_b (Decidable.or_iff_not_imp_left.mpr (fun h1 h2 => hm (Decidable.not_not.mp h1)))).trans ((up_b (Decidable.or_iff_not_imp_left.mpr (fun h1 h2 => hm (Decidable.not_not.mp h1)))).trans ((up_b (Decidable.or_iff_not_imp_left.mpr (fun h1 h2 => hm (Decidable.not_not.mp h1)))).trans ((up_b (Decidable.or_iff_not_imp_left.mpr (fun h1 h2 => hm (Decidable.not_not.mp h1)))).trans ((up_b (Decidable.or_iff_not_imp_left.mpr (fun h1 h2 => hm (Decidable.not_not.mp h1)))).trans (up_b (Decidable.or_iff_not_imp_left.mpr (fun h1 h2 => hm (Decidable.not_not.mp h1)))))))))))) ⟨by decide, by decide⟩
                  · refine v_if_ne_f (t := 151) c_194_143 rfl (Decidable.not_not.mp h_39) (q_aload_n c_194_146 rfl (q_iload_n c_194_147 rfl (v_cv c_194_148 km_8_372 rfl rfl (nb_ rfl) ⟨⟨rfl, rfl⟩, nb_ rfl, rfl⟩ (nb_ rfl) (nb_ rfl) (s_192 (a1 := a1) hI_33 (show 0 ≤ a1 ∧ a1 ≤ 5 from ha1) (fun c_69 hI_70 hF_71 h_72 => (bk_inl ?_))))))
                    have h_73 := ir_59_g hI_70 (j := 4 * a1 + 1) (by first | exact q_0a2ee6f8f ha1 | omega)
                    have h_74 := ir_59_g hI_70 (j := 4 * a1 + 2) (by first | exact q_e07a293a2 ha1 | omega)
                    have h_75 := ir_59_g hI_70 (j := 4 * a1 + 3) (by first | exact q_d09cb0b73 ha1 | omega)
                    have h_76 := ir_59_g hI_70 (j := 4 * a1) (by first | exact q_9f1d5ffdc ha1 | omega)
                    refine q_iconst c_194_151 (v_zret c_194_152 rfl (by decide) ?_)
                    have hr_77 : ∀ j : Int, rs 59 j → c_69 59 j + c_69 59 (j + 1) + c_69 59 (j + 2) + c_69 59 (j + 3) ≤ 9999 := by
                      intro j9 hj9
                      obtain ⟨k9, rfl, hk9⟩ := rs_59 hj9
                      by_cases e_78 : k9 = a1
                      · skip
                        have h_79 : c_69 59 (4 * k9) = c_69 59 (4 * a1) := (congrArg (c_69 59) (show 4 * k9 = 4 * a1 from congrArg (fun z : Int => 4 * z) e_78))
                        have h_80 : c_69 59 (4 * k9 + 1) = c_69 59 (4 * a1 + 1) := (congrArg (c_69 59) (show 4 * k9 + 1 = 4 * a1 + 1 from congrArg (fun z : Int => 4 * z + 1) e_78))
                        have h_81 : c_69 59 (4 * k9 + 2) = c_69 59 (4 * a1 + 2) := (congrArg (c_69 59) (show 4 * k9 + 2 = 4 * a1 + 2 from congrArg (fun z : Int => 4 * z + 2) e_78))
                        have h_82 : c_69 59 (4 * k9 + 3) = c_69 59 (4 * a1 + 3) := (congrArg (c_69 59) (show 4 * k9 + 3 = 4 * a1 + 3 from congrArg (fun z : Int => 4 * z + 3) e_78))
                        exact sm4 h_79 h_80 h_81 h_82 (by first | exact q_71ae66e09 h_72 | omega)
                      by_cases e_83 : k9 = a2
                      · skip
                        have kn_84 : Hid (c_32 59 (4 * a2) = c 59 (4 * a2) + y_16) := (hF_34 59 (4 * a2) (fun h => absurd h.2 (ne_l (by first | exact q_788f4b81f ha2 | omega)))).trans ((up_n (by first | exact ne_0a (by decide) | omega)).trans ((up_n (by first | exact q_8ac71c5f3 | omega)).trans ((up_n (by first | exact ne_0a (by decide) | omega)).trans ((up_n (by first | exact q_c037f51da | omega)).trans ((up_n (by first | exact ne_0a (by decide) | omega)).trans ((up_n (by first | exact q_b2cb8bf87 | omega)).trans (up_e rfl)))))))
                        have kn_85 : Hid (c_69 59 (4 * a2) = c 59 (4 * a2) + y_16) := (hF_71 59 (4 * a2) (fun q => q.elim (fun h => absurd h.2 (by first | exact q_ed83c297d h_13 | omega)) (fun q => q.elim (fun h => absurd h.2 (by first | exact q_b2cb8bf87 | omega)) (fun q => q.elim (fun h => absurd h.2 (by first | exact q_c037f51da | omega)) (fun q => q.elim (fun h => absurd h.2 (by first | exact q_8ac71c5f3 | omega)) (fun h => absurd h.2 (ne_l (by first | exact q_4128697c9 ha1 ha2 | omega)))))))).trans (hid kn_84)
                        have h_86 : c_69 59 (4 * k9) = c 59 (4 * a2) + y_16 := (congrArg (c_69 59) (show 4 * k9 = 4 * a2 from congrArg (fun z : Int => 4 * z) e_83)).trans (hid kn_85)
                        have kn_87 : Hid (c_32 59 (4 * a2 + 1) = c 59 (4 * a2 + 1) + y_18) := (hF_34 59 (4 * a2 + 1) (fun h => absurd h.2 (ne_l (by first | exact q_60c9feeee ha2 | omega)))).trans ((up_n (by first | exact ne_aa (by decide) | omega)).trans ((up_n (by first | exact q_7c6b1b09a | omega)).trans ((up_n (by first | exact ne_aa (by decide) | omega)).trans ((up_n (by first | exact q_3650b790c | omega)).trans (up_e rfl)))))
                        have kn_88 : Hid (c_69 59 (4 * a2 + 1) = c 59 (4 * a2 + 1) + y_18) := (hF_71 59 (4 * a2 + 1) (fun q => q.elim (fun h => absurd h.2 (by first | exact q_e5bcc673e | omega)) (fun q => q.elim (fun h => absurd h.2 (by first | exact q_11c6f4f0a h_13 | omega)) (fun q => q.elim (fun h => absurd h.2 (by first | exact q_3650b790c | omega)) (fun q => q.elim (fun h => absurd h.2 (by first | exact q_7c6b1b09a | omega)) (fun h => absurd h.2 (ne_l (by first | exact q_8f2481ba6 ha1 ha2 | omega)))))))).trans (hid kn_87)
                        have h_89 : c_69 59 (4 * k9 + 1) = c 59 (4 * a2 + 1) + y_18 := (congrArg (c_69 59) (show 4 * k9 + 1 = 4 * a2 + 1 from congrArg (fun z : Int => 4 * z + 1) e_83)).trans (hid kn_88)
                        have kn_90 : Hid (c_32 59 (4 * a2 + 2) = c 59 (4 * a2 + 2) + y_20) := (hF_34 59 (4 * a2 + 2) (fun h => absurd h.2 (ne_l (by first | exact q_27ec1b4d7 ha2 | omega)))).trans ((up_n (by first | exact ne_aa (by decide) | omega)).trans ((up_n (by first | exact q_91c5bd343 | omega)).trans (up_e rfl)))
                        have kn_91 : Hid (c_69 59 (4 * a2 + 2) = c 59 (4 * a2 + 2) + y_20) := (hF_71 59 (4 * a2 + 2) (fun q => q.elim (fun h => absurd h.2 (by first | exact q_ae83e86ba | omega)) (fun q => q.elim (fun h => absurd h.2 (by first | exact q_08c3d7060 | omega)) (fun q => q.elim (fun h => absurd h.2 (by first | exact q_93f4687d0 h_13 | omega)) (fun q => q.elim (fun h => absurd h.2 (by first | exact q_91c5bd343 | omega)) (fun h => absurd h.2 (ne_l (by first | exact q_04ab4010a ha1 ha2 | omega)))))))).trans (hid kn_90)
                        have h_92 : c_69 59 (4 * k9 + 2) = c 59 (4 * a2 + 2) + y_20 := (congrArg (c_69 59) (show 4 * k9 + 2 = 4 * a2 + 2 from congrArg (fun z : Int => 4 * z + 2) e_83)).trans (hid kn_91)
                        have kn_93 : Hid (c_32 59 (4 * a2 + 3) = c 59 (4 * a2 + 3) + y_22) := (hF_34 59 (4 * a2 + 3) (fun h => absurd h.2 (ne_l (by first | exact q_fd9aac8f8 ha2 | omega)))).trans (up_e rfl)
                        have kn_94 : Hid (c_69 59 (4 * a2 + 3) = c 59 (4 * a2 + 3) + y_22) := (hF_71 59 (4 * a2 + 3) (fun q => q.elim (fun h => absurd h.2 (by first | exact q_b6789388a | omega)) (fun q => q.elim (fun h => absurd h.2 (by first | exact q_6d5c6886e | omega)) (fun q => q.elim (fun h => absurd h.2 (by first | exact q_28d70e8e5 | omega)) (fun q => q.elim (fun h => absurd h.2 (by first | exact q_69b4a572f h_13 | omega)) (fun h => absurd h.2 (ne_l (by first | exact q_e782b8c3c ha1 ha2 | omega)))))))).trans (hid kn_93)
                        have h_95 : c_69 59 (4 * k9 + 3) = c 59 (4 * a2 + 3) + y_22 := (congrArg (c_69 59) (show 4 * k9 + 3 = 4 * a2 + 3 from congrArg (fun z : Int => 4 * z + 3) e_83)).trans (hid kn_94)
                        exact sm4 h_86 h_89 h_92 h_95 (by first | (clear ha1 ha2 ha3 h_2 h_3 h_4 h_5 hsum_1 h_7 h_8 h_9 h_10 hsum_6 h_12 h_23 h_39 h_73 h_74 h_75 h_76 h_72 hk9 e_83 h_11 h_13 e_78; omega) | omega)
                      have h_96 := iv_r hI 59 (4 * k9) hj9 (by omega)
                      have h_97 := ir_59_g hI (j := 4 * k9) (by first | exact q_9f1d5ffdc hk9 | omega)
                      have kn_98 : Hid (c_32 59 (4 * k9) = c 59 (4 * k9)) := (hF_34 59 (4 * k9) (fun h => absurd h.2 (ne_l (by first | exact q_4128697c9 ha2 hk9 | omega)))).trans ((up_n (by first | exact q_8ac71c5f3 | omega)).trans ((up_n (by first | exact q_8ac71c5f3 | omega)).trans ((up_n (by first | exact q_c037f51da | omega)).trans ((up_n (by first | exact q_c037f51da | omega)).trans ((up_n (by first | exact q_b2cb8bf87 | omega)).trans ((up_n (by first | exact q_b2cb8bf87 | omega)).trans ((up_n (by first | exact q_336fb6678 e_83 | omega)).trans (up_n (by first | exact q_336fb6678 e_78 | omega)))))))))
                      have kn_99 : Hid (c_69 59 (4 * k9) = c 59 (4 * k9)) := (hF_71 59 (4 * k9) (fun q => q.elim (fun h => absurd h.2 (by first | exact q_336fb6678 e_78 | omega)) (fun q => q.elim (fun h => absurd h.2 (by first | exact q_b2cb8bf87 | omega)) (fun q => q.elim (fun h => absurd h.2 (by first | exact q_c037f51da | omega)) (fun q => q.elim (fun h => absurd h.2 (by first | exact q_8ac71c5f3 | omega)) (fun h => absurd h.2 (ne_l (by first | exact q_4128697c9 ha1 hk9 | omega)))))))).trans (hid kn_98)
                      have h_100 : c_69 59 (4 * k9) = c 59 (4 * k9) := (hid kn_99)
                      have h_101 := ir_59_g hI (j := 4 * k9 + 1) (by first | exact q_0a2ee6f8f hk9 | omega)
                      have kn_102 : Hid (c_32 59 (4 * k9 + 1) = c 59 (4 * k9 + 1)) := (hF_34 59 (4 * k9 + 1) (fun h => absurd h.2 (ne_l (by first | exact q_8f2481ba6 ha2 hk9 | omega)))).trans ((up_n (by first | exact q_7c6b1b09a | omega)).trans ((up_n (by first | exact q_7c6b1b09a | omega)).trans ((up_n (by first | exact q_3650b790c | omega)).trans ((up_n (by first | exact q_3650b790c | omega)).trans ((up_n (by first | exact q_52b51d728 e_83 | omega)).trans ((up_n (by first | exact q_52b51d728 e_78 | omega)).trans ((up_n (by first | exact q_e5bcc673e | omega)).trans (up_n (by first | exact q_e5bcc673e | omega)))))))))
                      have kn_103 : Hid (c_69 59 (4 * k9 + 1) = c 59 (4 * k9 + 1)) := (hF_71 59 (4 * k9 + 1) (fun q => q.elim (fun h => absurd h.2 (by first | exact q_e5bcc673e | omega)) (fun q => q.elim (fun h => absurd h.2 (by first | exact q_52b51d728 e_78 | omega)) (fun q => q.elim (fun h => absurd h.2 (by first | exact q_3650b790c | omega)) (fun q => q.elim (fun h => absurd h.2 (by first | exact q_7c6b1b09a | omega)) (fun h => absurd h.2 (ne_l (by first | exact q_8f2481ba6 ha1 hk9 | omega)))))))).trans (hid kn_102)
                      have h_104 : c_69 59 (4 * k9 + 1) = c 59 (4 * k9 + 1) := (hid kn_103)
                      have h_105 := ir_59_g hI (j := 4 * k9 + 2) (by first | exact q_e07a293a2 hk9 | omega)
                      have kn_106 : Hid (c_32 59 (4 * k9 + 2) = c 59 (4 * k9 + 2)) := (hF_34 59 (4 * k9 + 2) (fun h => absurd h.2 (ne_l (by first | exact q_04ab4010a ha2 hk9 | omega)))).trans ((up_n (by first | exact q_91c5bd343 | omega)).trans ((up_n (by first | exact q_91c5bd343 | omega)).trans ((up_n (by first | exact q_27892e29e e_83 | omega)).trans ((up_n (by first | exact q_27892e29e e_78 | omega)).trans ((up_n (by first | exact q_08c3d7060 | omega)).trans ((up_n (by first | exact q_08c3d7060 | omega)).trans ((up_n (by first | exact q_ae83e86ba | omega)).trans (up_n (by first | exact q_ae83e86ba | omega)))))))))
                      have kn_107 : Hid (c_69 59 (4 * k9 + 2) = c 59 (4 * k9 + 2)) := (hF_71 59 (4 * k9 + 2) (fun q => q.elim (fun h => absurd h.2 (by first | exact q_ae83e86ba | omega)) (fun q => q.elim (fun h => absurd h.2 (by first | exact q_08c3d7060 | omega)) (fun q => q.elim (fun h => absurd h.2 (by first | exact q_27892e29e e_78 | omega)) (fun q => q.elim (fun h => absurd h.2 (by first | exact q_91c5bd343 | omega)) (fun h => absurd h.2 (ne_l (by first | exact q_04ab4010a ha1 hk9 | omega)))))))).trans (hid kn_106)
                      have h_108 : c_69 59 (4 * k9 + 2) = c 59 (4 * k9 + 2) := (hid kn_107)
                      have h_109 := ir_59_g hI (j := 4 * k9 + 3) (by first | exact q_d09cb0b73 hk9 | omega)
                      have kn_110 : Hid (c_32 59 (4 * k9 + 3) = c 59 (4 * k9 + 3)) := (hF_34 59 (4 * k9 + 3) (fun h => absurd h.2 (ne_l (by first | exact q_e782b8c3c ha2 hk9 | omega)))).trans ((up_n (by first | exact q_2db9f474b e_83 | omega)).trans ((up_n (by first | exact q_2db9f474b e_78 | omega)).trans ((up_n (by first | exact q_28d70e8e5 | omega)).trans ((up_n (by first | exact q_28d70e8e5 | omega)).trans ((up_n (by first | exact q_6d5c6886e | omega)).trans ((up_n (by first | exact q_6d5c6886e | omega)).trans ((up_n (by first | exact q_b6789388a | omega)).trans (up_n (by first | exact q_b6789388a | omega)))))))))
                      have kn_111 : Hid (c_69 59 (4 * k9 + 3) = c 59 (4 * k9 + 3)) := (hF_71 59 (4 * k9 + 3) (fun q => q.elim (fun h => absurd h.2 (by first | exact q_b6789388a | omega)) (fun q => q.elim (fun h => absurd h.2 (by first | exact q_6d5c6886e | omega)) (fun q => q.elim (fun h => absurd h.2 (by first | exact q_28d70e8e5 | omega)) (fun q => q.elim (fun h => absurd h.2 (by first | exact q_2db9f474b e_78 | omega)) (fun h => absurd h.2 (ne_l (by first | exact q_e782b8c3c ha1 hk9 | omega)))))))).trans (hid kn_110)
                      have h_112 : c_69 59 (4 * k9 + 3) = c 59 (4 * k9 + 3) := (hid kn_111)
                      exact sm4 h_100 h_104 h_108 h_112 h_96
                    have hI_113 := iv_close hI_70 hr_77
                    exact K c_69 1 hI_113 (fun a j hm => (hF_71 a j (fun q => q.elim (fun h => hm h.1) (fun q => q.elim (fun h => hm h.1) (fun q => q.elim (fun h => hm h.1) (fun q => q.elim (fun h => hm h.1) (fun h => hm h.1)))))).trans ((hF_34 a j (fun h => hm h.1)).trans ((up_b (Decidable.or_iff_not_imp_left.mpr (fun h1 h2 => hm (Decidable.not_not.mp h1)))).trans ((up_b (Decidable.or_iff_not_imp_left.mpr (fun h1 h2 => hm (Decidable.not_not.mp h1)))).trans ((up_b (Decidable.or_iff_not_imp_left.mpr (fun h1 h2 => hm (Decidable.not_not.mp h1)))).trans ((up_b (Decidable.or_iff_not_imp_left.mpr (fun h1 h2 => hm (Decidable.not_not.mp h1)))).trans ((up_b (Decidable.or_iff_not_imp_left.mpr (fun h1 h2 => hm (Decidable.not_not.mp h1)))).trans ((up_b (Decidable.or_iff_not_imp_left.mpr (fun h1 h2 => hm (Decidable.not_not.mp h1)))).trans ((up_b (Decidable.or_iff_not_imp_left.mpr (fun h1 h2 => hm (Decidable.not_not.mp h1)))).trans (up_b (Decidable.or_iff_not_imp_left.mpr (fun h1 h2 => hm (Decidable.not_not.mp h1))))))))))))) ⟨by decide, by decide⟩
                by_cases h_114 : c 59 (4 * a1 + 3) ≥ a3 - y_16 - y_18 - y_20
                · refine v_ic_ge_t (t := 75) c_194_58 rfl ⟨by first | (clear ha1 ha2 ha3 h_2 h_3 h_4 h_5 hsum_1 h_7 h_8 h_9 h_10 hsum_6 h_12 h_14 h_11 h_13; omega) | omega, h_114, (Int.le_trans h_5.2 (by decide))⟩ (q_iload c_194_75 rfl (q_istore c_194_77 (nb_ rfl) (Wp_ls [(0, .ref 41), (1, vi a1), (2, vi a2), (3, vi a3), (4, vi (a3 - y_16 - y_18 - y_20)), (5, vi 3), (6, vi (a3 - y_16 - y_18 - y_20))] (lsub_cons rfl (lsub_cons rfl (lsub_cons rfl (lsub_cons rfl (lsub_cons rfl (lsub_cons rfl (lsub_cons rfl lsub_nil))))))) ?_)))
                  exact KJ_21 (a3 - y_16 - y_18 - y_20) ⟨⟨by omega, by omega⟩, by omega⟩
                · refine v_ic_ge_f (t := 75) c_194_58 rfl ⟨(Int.le_trans (by decide) h_5.1), (Int.not_le.mp h_114), by first | (clear ha1 ha2 h_2 h_3 h_4 h_5 hsum_1 h_7 h_8 h_9 h_10 hsum_6 h_12 h_14 h_11 h_13; omega) | omega⟩ (q_aload_n c_194_61 rfl (v_gr (t := 59) c_194_62 kf_8_68 rfl (nb_ rfl) rfl (q_iconst c_194_65 (q_iload_n c_194_66 rfl (v_imul (v := 4 * a1) c_194_67 rfl (q_iload c_194_68 rfl (v_iadd (v := 4 * a1 + 3) c_194_70 rfl ?_)))))))
                  refine v_ia (v := c 59 (4 * a1 + 3)) c_194_71 rfl (by decide) (by decide) ⟨by first | exact q_f6be69137 ha1 | omega, by first | exact q_6b2d832d4 ha1 | omega⟩ ((up_n (by first | exact q_28d70e8e5 | omega)).trans ((up_n (by first | exact ne_aa (by decide) | omega)).trans ((up_n (by first | exact q_6d5c6886e | omega)).trans ((up_n (by first | exact ne_aa (by decide) | omega)).trans ((up_n (by first | exact q_b6789388a | omega)).trans (up_n (by first | exact ne_a0 (by decide) | omega))))))) (q_goto (t := 77) c_194_72 rfl (q_istore c_194_77 (nb_ rfl) (Wp_ls [(0, .ref 41), (1, vi a1), (2, vi a2), (3, vi a3), (4, vi (a3 - y_16 - y_18 - y_20)), (5, vi 3), (6, vi (c 59 (4 * a1 + 3)))] (lsub_cons rfl (lsub_cons rfl (lsub_cons rfl (lsub_cons rfl (lsub_cons rfl (lsub_cons rfl (lsub_cons rfl lsub_nil))))))) ?_)))
                  exact KJ_21 (c 59 (4 * a1 + 3)) ⟨⟨by omega, by omega⟩, by omega⟩
              by_cases h_115 : c 59 (4 * a1 + 2) ≥ a3 - y_16 - y_18
              · refine v_ic_ge_t (t := 75) c_194_58 rfl ⟨by first | (clear ha1 ha2 ha3 h_2 h_3 h_4 h_5 hsum_1 h_7 h_8 h_9 h_10 hsum_6 h_12 h_14 h_11 h_13; omega) | omega, h_115, (Int.le_trans h_4.2 (by decide))⟩ (q_iload c_194_75 rfl (q_istore c_194_77 (nb_ rfl) (Wp_ls [(0, .ref 41), (1, vi a1), (2, vi a2), (3, vi a3), (4, vi (a3 - y_16 - y_18)), (5, vi 2), (6, vi (a3 - y_16 - y_18))] (lsub_cons rfl (lsub_cons rfl (lsub_cons rfl (lsub_cons rfl (lsub_cons rfl (lsub_cons rfl (lsub_cons rfl lsub_nil))))))) ?_)))
                exact KJ_19 (a3 - y_16 - y_18) ⟨⟨by omega, by omega⟩, by omega⟩
              · refine v_ic_ge_f (t := 75) c_194_58 rfl ⟨(Int.le_trans (by decide) h_4.1), (Int.not_le.mp h_115), by first | (clear ha1 ha2 h_2 h_3 h_4 h_5 hsum_1 h_7 h_8 h_9 h_10 hsum_6 h_12 h_14 h_11 h_13; omega) | omega⟩ (q_aload_n c_194_61 rfl (v_gr (t := 59) c_194_62 kf_8_68 rfl (nb_ rfl) rfl (q_iconst c_194_65 (q_iload_n c_194_66 rfl (v_imul (v := 4 * a1) c_194_67 rfl (q_iload c_194_68 rfl (v_iadd (v := 4 * a1 + 2) c_194_70 rfl ?_)))))))
                refine v_ia (v := c 59 (4 * a1 + 2)) c_194_71 rfl (by decide) (by decide) ⟨by first | exact q_0f37a0c6e ha1 | omega, by first | exact q_36e1404d4 ha1 | omega⟩ ((up_n (by first | exact q_08c3d7060 | omega)).trans ((up_n (by first | exact ne_aa (by decide) | omega)).trans ((up_n (by first | exact q_ae83e86ba | omega)).trans (up_n (by first | exact ne_a0 (by decide) | omega))))) (q_goto (t := 77) c_194_72 rfl (q_istore c_194_77 (nb_ rfl) (Wp_ls [(0, .ref 41), (1, vi a1), (2, vi a2), (3, vi a3), (4, vi (a3 - y_16 - y_18)), (5, vi 2), (6, vi (c 59 (4 * a1 + 2)))] (lsub_cons rfl (lsub_cons rfl (lsub_cons rfl (lsub_cons rfl (lsub_cons rfl (lsub_cons rfl (lsub_cons rfl lsub_nil))))))) ?_)))
                exact KJ_19 (c 59 (4 * a1 + 2)) ⟨⟨by omega, by omega⟩, by omega⟩
            by_cases h_116 : c 59 (4 * a1 + 1) ≥ a3 - y_16
            · refine v_ic_ge_t (t := 75) c_194_58 rfl ⟨by first | (clear ha1 ha2 ha3 h_2 h_3 h_4 h_5 hsum_1 h_7 h_8 h_9 h_10 hsum_6 h_12 h_14 h_11 h_13; omega) | omega, h_116, (Int.le_trans h_3.2 (by decide))⟩ (q_iload c_194_75 rfl (q_istore c_194_77 (nb_ rfl) (Wp_ls [(0, .ref 41), (1, vi a1), (2, vi a2), (3, vi a3), (4, vi (a3 - y_16)), (5, vi 1), (6, vi (a3 - y_16))] (lsub_cons rfl (lsub_cons rfl (lsub_cons rfl (lsub_cons rfl (lsub_cons rfl (lsub_cons rfl (lsub_cons rfl lsub_nil))))))) ?_)))
              exact KJ_17 (a3 - y_16) ⟨⟨by omega, by omega⟩, by omega⟩
            · refine v_ic_ge_f (t := 75) c_194_58 rfl ⟨(Int.le_trans (by decide) h_3.1), (Int.not_le.mp h_116), by first | (clear ha1 ha2 h_2 h_3 h_4 h_5 hsum_1 h_7 h_8 h_9 h_10 hsum_6 h_12 h_14 h_11 h_13; omega) | omega⟩ (q_aload_n c_194_61 rfl (v_gr (t := 59) c_194_62 kf_8_68 rfl (nb_ rfl) rfl (q_iconst c_194_65 (q_iload_n c_194_66 rfl (v_imul (v := 4 * a1) c_194_67 rfl (q_iload c_194_68 rfl (v_iadd (v := 4 * a1 + 1) c_194_70 rfl ?_)))))))
              refine v_ia (v := c 59 (4 * a1 + 1)) c_194_71 rfl (by decide) (by decide) ⟨by first | exact q_83fdbd35d ha1 | omega, by first | exact q_7a0c0a739 ha1 | omega⟩ ((up_n (by first | exact q_e5bcc673e | omega)).trans (up_n (by first | exact ne_a0 (by decide) | omega))) (q_goto (t := 77) c_194_72 rfl (q_istore c_194_77 (nb_ rfl) (Wp_ls [(0, .ref 41), (1, vi a1), (2, vi a2), (3, vi a3), (4, vi (a3 - y_16)), (5, vi 1), (6, vi (c 59 (4 * a1 + 1)))] (lsub_cons rfl (lsub_cons rfl (lsub_cons rfl (lsub_cons rfl (lsub_cons rfl (lsub_cons rfl (lsub_cons rfl lsub_nil))))))) ?_)))
              exact KJ_17 (c 59 (4 * a1 + 1)) ⟨⟨by omega, by omega⟩, by omega⟩
          by_cases h_117 : c 59 (4 * a1) ≥ a3
          · refine v_ic_ge_t (t := 75) c_194_58 rfl ⟨(Int.le_trans (by decide) ha3.1), h_117, (Int.le_trans h_2.2 (by decide))⟩ (q_iload c_194_75 rfl (q_istore c_194_77 (nb_ rfl) (Wp_ls [(0, .ref 41), (1, vi a1), (2, vi a2), (3, vi a3), (4, vi a3), (5, vi 0), (6, vi a3)] (lsub_cons rfl (lsub_cons rfl (lsub_cons rfl (lsub_cons rfl (lsub_cons rfl (lsub_cons rfl (lsub_cons rfl lsub_nil))))))) ?_)))
            exact KJ_15 a3 ⟨⟨by omega, by omega⟩, by omega⟩
          · refine v_ic_ge_f (t := 75) c_194_58 rfl ⟨(Int.le_trans (by decide) h_2.1), (Int.not_le.mp h_117), (Int.le_trans ha3.2 (by decide))⟩ (q_aload_n c_194_61 rfl (v_gr (t := 59) c_194_62 kf_8_68 rfl (nb_ rfl) rfl (q_iconst c_194_65 (q_iload_n c_194_66 rfl (v_imul (v := 4 * a1) c_194_67 rfl (q_iload c_194_68 rfl (v_iadd (v := 4 * a1) c_194_70 (by first | exact q_8baad3eb5 | omega) ?_)))))))
            refine v_ia (v := c 59 (4 * a1)) c_194_71 rfl (by decide) (by decide) ⟨by first | exact q_c065257af ha1 | omega, by first | exact q_a49915bbb ha1 | omega⟩ rfl (q_goto (t := 77) c_194_72 rfl (q_istore c_194_77 (nb_ rfl) (Wp_ls [(0, .ref 41), (1, vi a1), (2, vi a2), (3, vi a3), (4, vi a3), (5, vi 0), (6, vi (c 59 (4 * a1)))] (lsub_cons rfl (lsub_cons rfl (lsub_cons rfl (lsub_cons rfl (lsub_cons rfl (lsub_cons rfl (lsub_cons rfl lsub_nil))))))) ?_)))
            exact KJ_15 (c 59 (4 * a1)) ⟨⟨by omega, by omega⟩, by omega⟩
        · refine v_ic_le_f (t := 33) c_194_28 rfl ⟨by decide, (Int.not_le.mp h_14), by first | exact q_5f45bd9da ha3 hsum_6 | omega⟩ (q_iconst c_194_31 (v_zret c_194_32 rfl (by decide) ?_))
          exact K c 0 hI (fun a j hm => rfl) ⟨by decide, by decide⟩
end
section
/-! ===== contracts 18 ===== -/
theorem q_f884e162b {x0 : Int} (f0 : 0 ≤ x0 ∧ x0 ≤ 5) : 4 * x0 < 36 := by omega
theorem q_7c3069b03 {x0 : Int} (f0 : 0 ≤ x0 ∧ x0 ≤ 5) : 4 * x0 + 1 < 36 := by omega
theorem q_cab7ad043 {x0 : Int} (f0 : 0 ≤ x0 ∧ x0 ≤ 5) : 4 * x0 + 2 < 36 := by omega
theorem q_8cd5bc852 {x0 : Int} (f0 : 0 ≤ x0 ∧ x0 ≤ 5) : 4 * x0 + 3 < 36 := by omega
theorem qv_46f80e128 {a : Nat} (hm : ¬ (a = 59 ∨ a = 54 ∨ a = 55)) : ¬ (a = 54 ∨ a = 55) := (fun q => q.elim (fun h => hm (Or.inr (Or.inl h))) (fun h => hm (Or.inr (Or.inr h))))
theorem q_51955fde5 {x0 : Int} (f0 : 0 ≤ x0 ∧ x0 ≤ 6) : x0 + 24 < 37 := by omega
theorem q_252bfad9e {x0 : Int} (f0 : 0 ≤ x0 ∧ x0 ≤ 49) : 0 ≤ 5 * x0 := by omega
theorem q_d21114de8 {x0 : Int} (f0 : 0 ≤ x0 ∧ x0 ≤ 49) : 5 * x0 < 250 := by omega
theorem q_d20ef1097 {x0 : Int} (f0 : 0 ≤ x0 ∧ x0 ≤ 49) : 0 ≤ 5 * x0 + 1 := by omega
theorem q_f1fca8fe8 {x0 : Int} (f0 : 0 ≤ x0 ∧ x0 ≤ 49) : 5 * x0 + 1 < 250 := by omega
theorem q_72e61b4ee {x0 : Int} (f0 : 0 ≤ x0 ∧ x0 ≤ 49) : 0 ≤ 5 * x0 + 2 := by omega
theorem q_0d39d56e6 {x0 : Int} (f0 : 0 ≤ x0 ∧ x0 ≤ 49) : 5 * x0 + 2 < 250 := by omega
theorem q_1a3991cd6 {x0 : Int} (f0 : 0 ≤ x0 ∧ x0 ≤ 49) : 0 ≤ 5 * x0 + 3 := by omega
theorem q_b6fa79662 {x0 : Int} (f0 : 0 ≤ x0 ∧ x0 ≤ 49) : 5 * x0 + 3 < 250 := by omega
theorem q_4b95dda05 {x0 : Int} : 30 + (x0) = x0 + 30 := by omega
theorem q_b82db2e35 {x0 : Int} : 1 - (x0) = 1 - x0 := by omega
theorem q_a290d2e1a {x0 : Int} (f0 : 0 ≤ x0 ∧ x0 ≤ 999) : 24 ≤ x0 + 30 := by omega
theorem q_2052a6d5e {x0 : Int} : 4 * (x0) + 1 = 4 * x0 + 1 := by omega
theorem q_92c47a6ea {x0 : Int} : 4 * (x0) + 2 = 4 * x0 + 2 := by omega
theorem q_1a023eec4 {x0 : Int} : 4 * (x0) + 3 = 4 * x0 + 3 := by omega
theorem q_039f89af9 {x0 x1 x2 x3 : Int} (f0 : 0 ≤ x0 ∧ x0 ≤ 9999) (f1 : 0 ≤ x1 ∧ x1 ≤ 9999) (f2 : 0 ≤ x2 ∧ x2 ≤ 9999) (f3 : 0 ≤ x3 ∧ x3 ≤ 9999) : 0 ≤ x1 + x2 + x3 + x0 := by omega
theorem q_23dd42f95 {x0 : Int} (f0 : 0 ≤ x0 ∧ x0 ≤ 49) : 0 ≤ 5 * x0 + 4 := by omega
theorem q_50bb9b2d7 {x0 : Int} (f0 : 0 ≤ x0 ∧ x0 ≤ 49) : 5 * x0 + 4 < 250 := by omega
theorem q_4eed03022 {x0 : Int} (f0 : 0 ≤ x0 ∧ x0 ≤ 50) : 5 * x0 ≤ 2147483647 := by omega
theorem q_f276f79c5 {x0 : Int} (f0 : 0 ≤ x0 ∧ x0 ≤ 50) : (-2147483648) ≤ 5 * x0 := by omega
theorem qn_d2085ee3f {j : Int} : ¬ (((57 : Nat) = 41 ∧ j = 37) ∨ ((57 : Nat) = 41 ∧ j = 38) ∨ ((57 : Nat) = 41 ∧ j = 39) ∨ (57 : Nat) = 59 ∨ (57 : Nat) = 54 ∨ (57 : Nat) = 55) := (fun q => q.elim (fun h => absurd h.1 (nn rfl)) (fun q => q.elim (fun h => absurd h.1 (nn rfl)) (fun q => q.elim (fun h => absurd h.1 (nn rfl)) (fun q => q.elim (fun h => absurd h (nn rfl)) (fun q => q.elim (fun h => absurd h (nn rfl)) (fun h => absurd h (nn rfl)))))))
theorem q_31473b65c {x0 : Int} (f0 : 0 ≤ x0 ∧ x0 ≤ 50) : 0 ≤ 5 * x0 := by omega
theorem q_ef94ce899 {x0 x1 : Int} (f0 : ¬ (5 * x0 ≥ x1)) (f1 : 0 ≤ x1 ∧ x1 ≤ 250) : 5 * x0 < 250 := by omega
theorem q_03affaadb {x0 : Int} (f0 : 0 ≤ x0 ∧ x0 ≤ 999) : (-2147483648) ≤ x0 := by omega
theorem q_cbd2526de {x0 : Int} (f0 : 0 ≤ x0 ∧ x0 ≤ 999) : x0 ≤ 2147483647 := by omega
theorem qn_3259694f0 : ¬ ((41 : Nat) = 59 ∨ (41 : Nat) = 54 ∨ (41 : Nat) = 55) := (fun q => q.elim (fun h => absurd h (nn rfl)) (fun q => q.elim (fun h => absurd h (nn rfl)) (fun h => absurd h (nn rfl))))
theorem qv_ba7f77c60 {a : Nat} {j : Int} (hm : ¬ ((a = 41 ∧ j = 37) ∨ (a = 41 ∧ j = 38) ∨ (a = 41 ∧ j = 39) ∨ a = 59 ∨ a = 54 ∨ a = 55)) : ¬ (a = 59 ∨ a = 54 ∨ a = 55) := (fun q => q.elim (fun h => hm (Or.inr (Or.inr (Or.inr (Or.inl h))))) (fun q => q.elim (fun h => hm (Or.inr (Or.inr (Or.inr (Or.inr (Or.inl h)))))) (fun h => hm (Or.inr (Or.inr (Or.inr (Or.inr (Or.inr h))))))))
theorem q_934b18d73 {x0 x1 : Int} (f0 : ¬ (5 * x0 ≥ x1)) (f1 : 0 ≤ x1 ∧ x1 ≤ 250) : x0 + 1 ≤ 50 := by omega
theorem q_63dfe5ad8 {x0 : Int} (f0 : 0 ≤ x0 ∧ x0 ≤ 50) : 0 ≤ 5 * x0 + 2 := by omega
theorem q_42fde05c4 {x0 x1 : Int} (f0 : ¬ (5 * x0 ≥ x1)) (f1 : 0 ≤ x1 ∧ x1 ≤ 250) : 5 * x0 + 2 < 250 := by omega
theorem q_76860e3de {x0 x1 : Int} (f0 : ¬ (5 * x0 ≥ x1)) (f1 : 0 ≤ x1 ∧ x1 ≤ 250) : x0 ≤ 49 := by omega
theorem q_2558f8dc6 {x0 x1 : Int} (f0 : 0 ≤ x0 ∧ x0 ≤ 999) (f1 : ¬ (x1 ≥ x0)) : x1 + 1 ≤ 999 := by omega
theorem q_f67065af8 {x0 : Int} (f0 : (x0 ≤ 15)) : x0 + 1 ≤ 16 := by omega
theorem qv_c2f2b1db7 {a : Nat} {j : Int} (hm : ¬ ((a = 41 ∧ j = 35) ∨ (a = 41 ∧ j = 36) ∨ (a = 41 ∧ j = 37) ∨ (a = 41 ∧ j = 38) ∨ (a = 41 ∧ j = 39) ∨ a = 58 ∨ a = 59 ∨ a = 54 ∨ a = 55)) : ¬ ((a = 41 ∧ j = 37) ∨ (a = 41 ∧ j = 38) ∨ (a = 41 ∧ j = 39) ∨ a = 59 ∨ a = 54 ∨ a = 55) := (fun q => q.elim (fun h => hm (Or.inr (Or.inr (Or.inl h)))) (fun q => q.elim (fun h => hm (Or.inr (Or.inr (Or.inr (Or.inl h))))) (fun q => q.elim (fun h => hm (Or.inr (Or.inr (Or.inr (Or.inr (Or.inl h)))))) (fun q => q.elim (fun h => hm (Or.inr (Or.inr (Or.inr (Or.inr (Or.inr (Or.inr (Or.inl h)))))))) (fun q => q.elim (fun h => hm (Or.inr (Or.inr (Or.inr (Or.inr (Or.inr (Or.inr (Or.inr (Or.inl h))))))))) (fun h => hm (Or.inr (Or.inr (Or.inr (Or.inr (Or.inr (Or.inr (Or.inr (Or.inr h))))))))))))))
theorem q_17d83ab33 {x0 : Int} : 37 * (x0) = 37 * x0 := by omega
theorem q_6c1724e14 {x0 x1 : Int} (f0 : 0 ≤ x0 ∧ x0 ≤ 16) (f1 : 0 ≤ x1 ∧ x1 ≤ 37) : 0 ≤ 37 * x0 + x1 := by omega
theorem q_d8bb91acd {x0 x1 : Int} (f0 : ¬ (x0 ≥ 37)) (f1 : (x1 ≤ 15)) : 37 * x1 + x0 < 592 := by omega
theorem qv_c507ff00a {a : Nat} {j : Int} (hm : ¬ ((a = 41 ∧ j = 0) ∨ a = 42 ∨ (a = 41 ∧ j = 2) ∨ (a = 41 ∧ j = 3) ∨ (a = 41 ∧ j = 4) ∨ (a = 41 ∧ j = 5) ∨ (a = 41 ∧ j = 6) ∨ (a = 41 ∧ j = 7) ∨ (a = 41 ∧ j = 8) ∨ (a = 41 ∧ j = 34) ∨ a = 56 ∨ a = 57 ∨ a = 60 ∨ (a = 41 ∧ j = 35) ∨ (a = 41 ∧ j = 36) ∨ (a = 41 ∧ j = 37) ∨ (a = 41 ∧ j = 38) ∨ (a = 41 ∧ j = 39) ∨ a = 58 ∨ a = 59 ∨ a = 54 ∨ a = 55)) : ¬ ((a = 41 ∧ j = 35) ∨ (a = 41 ∧ j = 36) ∨ (a = 41 ∧ j = 37) ∨ (a = 41 ∧ j = 38) ∨ (a = 41 ∧ j = 39) ∨ a = 58 ∨ a = 59 ∨ a = 54 ∨ a = 55 ∨ a = 60) := (fun q => q.elim (fun h => hm (Or.inr (Or.inr (Or.inr (Or.inr (Or.inr (Or.inr (Or.inr (Or.inr (Or.inr (Or.inr (Or.inr (Or.inr (Or.inr (Or.inl h))))))))))))))) (fun q => q.elim (fun h => hm (Or.inr (Or.inr (Or.inr (Or.inr (Or.inr (Or.inr (Or.inr (Or.inr (Or.inr (Or.inr (Or.inr (Or.inr (Or.inr (Or.inr (Or.inl h)))))))))))))))) (fun q => q.elim (fun h => hm (Or.inr (Or.inr (Or.inr (Or.inr (Or.inr (Or.inr (Or.inr (Or.inr (Or.inr (Or.inr (Or.inr (Or.inr (Or.inr (Or.inr (Or.inr (Or.inl h))))))))))))))))) (fun q => q.elim (fun h => hm (Or.inr (Or.inr (Or.inr (Or.inr (Or.inr (Or.inr (Or.inr (Or.inr (Or.inr (Or.inr (Or.inr (Or.inr (Or.inr (Or.inr (Or.inr (Or.inr (Or.inl h)))))))))))))))))) (fun q => q.elim (fun h => hm (Or.inr (Or.inr (Or.inr (Or.inr (Or.inr (Or.inr (Or.inr (Or.inr (Or.inr (Or.inr (Or.inr (Or.inr (Or.inr (Or.inr (Or.inr (Or.inr (Or.inr (Or.inl h))))))))))))))))))) (fun q => q.elim (fun h => hm (Or.inr (Or.inr (Or.inr (Or.inr (Or.inr (Or.inr (Or.inr (Or.inr (Or.inr (Or.inr (Or.inr (Or.inr (Or.inr (Or.inr (Or.inr (Or.inr (Or.inr (Or.inr (Or.inl h)))))))))))))))))))) (fun q => q.elim (fun h => hm (Or.inr (Or.inr (Or.inr (Or.inr (Or.inr (Or.inr (Or.inr (Or.inr (Or.inr (Or.inr (Or.inr (Or.inr (Or.inr (Or.inr (Or.inr (Or.inr (Or.inr (Or.inr (Or.inr (Or.inl h))))))))))))))))))))) (fun q => q.elim (fun h => hm (Or.inr (Or.inr (Or.inr (Or.inr (Or.inr (Or.inr (Or.inr (Or.inr (Or.inr (Or.inr (Or.inr (Or.inr (Or.inr (Or.inr (Or.inr (Or.inr (Or.inr (Or.inr (Or.inr (Or.inr (Or.inl h)))))))))))))))))))))) (fun q => q.elim (fun h => hm (Or.inr (Or.inr (Or.inr (Or.inr (Or.inr (Or.inr (Or.inr (Or.inr (Or.inr (Or.inr (Or.inr (Or.inr (Or.inr (Or.inr (Or.inr (Or.inr (Or.inr (Or.inr (Or.inr (Or.inr (Or.inr h)))))))))))))))))))))) (fun h => hm (Or.inr (Or.inr (Or.inr (Or.inr (Or.inr (Or.inr (Or.inr (Or.inr (Or.inr (Or.inr (Or.inr (Or.inr (Or.inl h)))))))))))))))))))))))
theorem qv_c40515afb {a : Nat} {j : Int} (hm : ¬ ((a = 41 ∧ j = 0) ∨ a = 42 ∨ (a = 41 ∧ j = 2) ∨ (a = 41 ∧ j = 3) ∨ (a = 41 ∧ j = 4) ∨ (a = 41 ∧ j = 5) ∨ (a = 41 ∧ j = 6) ∨ (a = 41 ∧ j = 7) ∨ (a = 41 ∧ j = 8) ∨ (a = 41 ∧ j = 34) ∨ a = 56 ∨ a = 57 ∨ a = 60 ∨ (a = 41 ∧ j = 35) ∨ (a = 41 ∧ j = 36) ∨ (a = 41 ∧ j = 37) ∨ (a = 41 ∧ j = 38) ∨ (a = 41 ∧ j = 39) ∨ a = 58 ∨ a = 59 ∨ a = 54 ∨ a = 55)) : ¬ ((a = 41 ∧ j = 8)) := (fun h => hm (Or.inr (Or.inr (Or.inr (Or.inr (Or.inr (Or.inr (Or.inr (Or.inr (Or.inl h))))))))))
theorem qv_573d069e6 {a : Nat} {j : Int} {t0 : Int} (hm : ¬ ((a = 41 ∧ j = 0) ∨ a = 42 ∨ (a = 41 ∧ j = 2) ∨ (a = 41 ∧ j = 3) ∨ (a = 41 ∧ j = 4) ∨ (a = 41 ∧ j = 5) ∨ (a = 41 ∧ j = 6) ∨ (a = 41 ∧ j = 7) ∨ (a = 41 ∧ j = 8) ∨ (a = 41 ∧ j = 34) ∨ a = 56 ∨ a = 57 ∨ a = 60 ∨ (a = 41 ∧ j = 35) ∨ (a = 41 ∧ j = 36) ∨ (a = 41 ∧ j = 37) ∨ (a = 41 ∧ j = 38) ∨ (a = 41 ∧ j = 39) ∨ a = 58 ∨ a = 59 ∨ a = 54 ∨ a = 55)) : ¬ ((a = 41 ∧ j = 4) ∨ (a = 41 ∧ j = 5) ∨ (a = 41 ∧ j = 6) ∨ (a = 41 ∧ j = 7) ∨ (a = 41 ∧ j = 34) ∨ (a = 56 ∧ j ≥ t0)) := (fun q => q.elim (fun h => hm (Or.inr (Or.inr (Or.inr (Or.inr (Or.inl h)))))) (fun q => q.elim (fun h => hm (Or.inr (Or.inr (Or.inr (Or.inr (Or.inr (Or.inl h))))))) (fun q => q.elim (fun h => hm (Or.inr (Or.inr (Or.inr (Or.inr (Or.inr (Or.inr (Or.inl h)))))))) (fun q => q.elim (fun h => hm (Or.inr (Or.inr (Or.inr (Or.inr (Or.inr (Or.inr (Or.inr (Or.inl h))))))))) (fun q => q.elim (fun h => hm (Or.inr (Or.inr (Or.inr (Or.inr (Or.inr (Or.inr (Or.inr (Or.inr (Or.inr (Or.inl h))))))))))) (fun h => hm (Or.inr (Or.inr (Or.inr (Or.inr (Or.inr (Or.inr (Or.inr (Or.inr (Or.inr (Or.inr (Or.inl h.1)))))))))))))))))
theorem q_0802a0138 {x0 : Int} (f0 : 0 ≤ x0 ∧ x0 ≤ 250) : 0 ≤ x0 := by omega
theorem q_1bdda21ac {x0 : Int} (f0 : 0 ≤ x0 ∧ x0 ≤ 250) : x0 ≤ 250 := by omega
theorem qn_010af1ec6 : ¬ (((41 : Nat) = 41 ∧ (35 : Int) = 2) ∨ ((41 : Nat) = 41 ∧ (35 : Int) = 3) ∨ ((41 : Nat) = 41 ∧ (35 : Int) = 4) ∨ ((41 : Nat) = 41 ∧ (35 : Int) = 5) ∨ ((41 : Nat) = 41 ∧ (35 : Int) = 7) ∨ ((41 : Nat) = 41 ∧ (35 : Int) = 8)) := (fun q => q.elim (fun h => absurd h.2 (ni rfl)) (fun q => q.elim (fun h => absurd h.2 (ni rfl)) (fun q => q.elim (fun h => absurd h.2 (ni rfl)) (fun q => q.elim (fun h => absurd h.2 (ni rfl)) (fun q => q.elim (fun h => absurd h.2 (ni rfl)) (fun h => absurd h.2 (ni rfl)))))))
theorem qv_5d0a24d61 {a : Nat} {j : Int} (hm : ¬ ((a = 41 ∧ j = 0) ∨ a = 42 ∨ (a = 41 ∧ j = 2) ∨ (a = 41 ∧ j = 3) ∨ (a = 41 ∧ j = 4) ∨ (a = 41 ∧ j = 5) ∨ (a = 41 ∧ j = 6) ∨ (a = 41 ∧ j = 7) ∨ (a = 41 ∧ j = 8) ∨ (a = 41 ∧ j = 34) ∨ a = 56 ∨ a = 57 ∨ a = 60 ∨ (a = 41 ∧ j = 35) ∨ (a = 41 ∧ j = 36) ∨ (a = 41 ∧ j = 37) ∨ (a = 41 ∧ j = 38) ∨ (a = 41 ∧ j = 39) ∨ a = 58 ∨ a = 59 ∨ a = 54 ∨ a = 55)) : ¬ ((a = 41 ∧ j = 2) ∨ (a = 41 ∧ j = 3) ∨ (a = 41 ∧ j = 4) ∨ (a = 41 ∧ j = 5) ∨ (a = 41 ∧ j = 7) ∨ (a = 41 ∧ j = 8)) := (fun q => q.elim (fun h => hm (Or.inr (Or.inr (Or.inl h)))) (fun q => q.elim (fun h => hm (Or.inr (Or.inr (Or.inr (Or.inl h))))) (fun q => q.elim (fun h => hm (Or.inr (Or.inr (Or.inr (Or.inr (Or.inl h)))))) (fun q => q.elim (fun h => hm (Or.inr (Or.inr (Or.inr (Or.inr (Or.inr (Or.inl h))))))) (fun q => q.elim (fun h => hm (Or.inr (Or.inr (Or.inr (Or.inr (Or.inr (Or.inr (Or.inr (Or.inl h))))))))) (fun h => hm (Or.inr (Or.inr (Or.inr (Or.inr (Or.inr (Or.inr (Or.inr (Or.inr (Or.inl h)))))))))))))))
theorem q_177fc0d22 {x0 x1 x2 x3 x4 x5 : Int} (f0 : (x0 = x1 ∧ x2 = 0 ∧ x3 = (-1) ∧ x4 = 0 ∧ x5 = 0)) (f1 : ¬ (x1 > 150)) : x0 ≤ 150 := by omega
theorem q_95d63d183 {x0 : Int} (f0 : 0 ≤ x0 ∧ x0 ≤ 605) : 0 ≤ 5 * x0 := by omega
theorem q_df9bc0968 {x0 : Int} (f0 : 0 ≤ x0 ∧ x0 ≤ 16) (f1 : x0 ≠ 16) : x0 ≤ 15 := by omega
theorem qv_021be712d {a : Nat} {j : Int} (hm : ¬ ((a = 41 ∧ j = 0) ∨ a = 42 ∨ (a = 41 ∧ j = 2) ∨ (a = 41 ∧ j = 3) ∨ (a = 41 ∧ j = 4) ∨ (a = 41 ∧ j = 5) ∨ (a = 41 ∧ j = 6) ∨ (a = 41 ∧ j = 7) ∨ (a = 41 ∧ j = 8) ∨ (a = 41 ∧ j = 47) ∨ a = 61 ∨ a = 62)) : ¬ ((a = 41 ∧ j = 8)) := (fun h => hm (Or.inr (Or.inr (Or.inr (Or.inr (Or.inr (Or.inr (Or.inr (Or.inr (Or.inl h))))))))))
theorem qn_702a72872 : ¬ (((41 : Nat) = 41 ∧ (22 : Int) = 0) ∨ (41 : Nat) = 42 ∨ ((41 : Nat) = 41 ∧ (22 : Int) = 2) ∨ ((41 : Nat) = 41 ∧ (22 : Int) = 3) ∨ ((41 : Nat) = 41 ∧ (22 : Int) = 4) ∨ ((41 : Nat) = 41 ∧ (22 : Int) = 5) ∨ ((41 : Nat) = 41 ∧ (22 : Int) = 6) ∨ ((41 : Nat) = 41 ∧ (22 : Int) = 7) ∨ ((41 : Nat) = 41 ∧ (22 : Int) = 8) ∨ ((41 : Nat) = 41 ∧ (22 : Int) = 47) ∨ (41 : Nat) = 61 ∨ (41 : Nat) = 62) := (fun q => q.elim (fun h => absurd h.2 (ni rfl)) (fun q => q.elim (fun h => absurd h (nn rfl)) (fun q => q.elim (fun h => absurd h.2 (ni rfl)) (fun q => q.elim (fun h => absurd h.2 (ni rfl)) (fun q => q.elim (fun h => absurd h.2 (ni rfl)) (fun q => q.elim (fun h => absurd h.2 (ni rfl)) (fun q => q.elim (fun h => absurd h.2 (ni rfl)) (fun q => q.elim (fun h => absurd h.2 (ni rfl)) (fun q => q.elim (fun h => absurd h.2 (ni rfl)) (fun q => q.elim (fun h => absurd h.2 (ni rfl)) (fun q => q.elim (fun h => absurd h (nn rfl)) (fun h => absurd h (nn rfl)))))))))))))
theorem qv_0817adc36 {a : Nat} {j : Int} (hm : ¬ ((a = 41 ∧ j = 0) ∨ a = 42 ∨ (a = 41 ∧ j = 2) ∨ (a = 41 ∧ j = 3) ∨ (a = 41 ∧ j = 4) ∨ (a = 41 ∧ j = 5) ∨ (a = 41 ∧ j = 6) ∨ (a = 41 ∧ j = 7) ∨ (a = 41 ∧ j = 8) ∨ (a = 41 ∧ j = 47) ∨ a = 61 ∨ a = 62)) : ¬ ((a = 41 ∧ j = 4) ∨ (a = 41 ∧ j = 5) ∨ (a = 41 ∧ j = 6)) := (fun q => q.elim (fun h => hm (Or.inr (Or.inr (Or.inr (Or.inr (Or.inl h)))))) (fun q => q.elim (fun h => hm (Or.inr (Or.inr (Or.inr (Or.inr (Or.inr (Or.inl h))))))) (fun h => hm (Or.inr (Or.inr (Or.inr (Or.inr (Or.inr (Or.inr (Or.inl h))))))))))
theorem q_dcc5894f5 {x0 : Int} (f0 : x0 ≠ 8) (f1 : 0 ≤ x0 ∧ x0 ≤ 8) : x0 < 8 := by omega
theorem q_6dd620985 {x0 : Int} (f0 : x0 ≠ 8) (f1 : 0 ≤ x0 ∧ x0 ≤ 8) : x0 + 1 ≤ 8 := by omega
theorem q_306c376e8 {x0 x1 : Int} (f0 : (x0 ≠ (-1))) (f1 : (x0 = (-1)) ∨ (x1 = x0)) : ¬ x1 = (-1) := by omega
theorem qv_f86f83f63 {a : Nat} {j : Int} (hm : ¬ ((a = 41 ∧ j = 0) ∨ a = 42 ∨ (a = 41 ∧ j = 2) ∨ (a = 41 ∧ j = 3) ∨ (a = 41 ∧ j = 4) ∨ (a = 41 ∧ j = 5) ∨ (a = 41 ∧ j = 6) ∨ (a = 41 ∧ j = 7) ∨ (a = 41 ∧ j = 8) ∨ (a = 41 ∧ j = 47) ∨ a = 61 ∨ a = 62)) : ¬ ((a = 41 ∧ j = 5) ∨ (a = 41 ∧ j = 6)) := (fun q => q.elim (fun h => hm (Or.inr (Or.inr (Or.inr (Or.inr (Or.inr (Or.inl h))))))) (fun h => hm (Or.inr (Or.inr (Or.inr (Or.inr (Or.inr (Or.inr (Or.inl h)))))))))
theorem q_9336c0ad2 {x0 : Int} (f0 : x0 > 60) : 60 < x0 := by omega
theorem q_6d55548be {x0 : Int} (f0 : ¬ (x0 > 60)) : x0 ≤ 600 := by omega
theorem qv_bce25eb69 {a : Nat} {j : Int} (hm : ¬ ((a = 41 ∧ j = 0) ∨ a = 42 ∨ (a = 41 ∧ j = 2) ∨ (a = 41 ∧ j = 3) ∨ (a = 41 ∧ j = 4) ∨ (a = 41 ∧ j = 5) ∨ (a = 41 ∧ j = 6) ∨ (a = 41 ∧ j = 7) ∨ (a = 41 ∧ j = 8) ∨ (a = 41 ∧ j = 47) ∨ a = 61 ∨ a = 62)) : ¬ ((a = 41 ∧ j = 2) ∨ (a = 41 ∧ j = 3) ∨ (a = 41 ∧ j = 4) ∨ (a = 41 ∧ j = 5) ∨ (a = 41 ∧ j = 7) ∨ (a = 41 ∧ j = 8)) := (fun q => q.elim (fun h => hm (Or.inr (Or.inr (Or.inl h)))) (fun q => q.elim (fun h => hm (Or.inr (Or.inr (Or.inr (Or.inl h))))) (fun q => q.elim (fun h => hm (Or.inr (Or.inr (Or.inr (Or.inr (Or.inl h)))))) (fun q => q.elim (fun h => hm (Or.inr (Or.inr (Or.inr (Or.inr (Or.inr (Or.inl h))))))) (fun q => q.elim (fun h => hm (Or.inr (Or.inr (Or.inr (Or.inr (Or.inr (Or.inr (Or.inr (Or.inl h))))))))) (fun h => hm (Or.inr (Or.inr (Or.inr (Or.inr (Or.inr (Or.inr (Or.inr (Or.inr (Or.inl h)))))))))))))))
theorem q_8be6814e3 {x0 : Int} (f0 : ¬ (x0 > 60)) : x0 ≤ 60 := by omega
theorem c_195_0 : mLk 195 0 = some (.aload_n 0, 1) := rfl
theorem c_195_1 : mLk 195 1 = some (.getfield 56, 3) := rfl
theorem c_195_4 : mLk 195 4 = some (.iconst 0, 1) := rfl
theorem c_195_5 : mLk 195 5 = some (.iload_n 1, 1) := rfl
theorem c_195_6 : mLk 195 6 = some (.iastore, 1) := rfl
theorem c_195_7 : mLk 195 7 = some (.aload_n 0, 1) := rfl
theorem c_195_8 : mLk 195 8 = some (.getfield 56, 3) := rfl
theorem c_195_11 : mLk 195 11 = some (.iconst 1, 1) := rfl
theorem c_195_12 : mLk 195 12 = some (.iload_n 2, 1) := rfl
theorem c_195_13 : mLk 195 13 = some (.iastore, 1) := rfl
theorem c_195_14 : mLk 195 14 = some (.aload_n 0, 1) := rfl
theorem c_195_15 : mLk 195 15 = some (.getfield 56, 3) := rfl
theorem c_195_18 : mLk 195 18 = some (.iconst 2, 1) := rfl
theorem c_195_19 : mLk 195 19 = some (.iload_n 3, 1) := rfl
theorem c_195_20 : mLk 195 20 = some (.iastore, 1) := rfl
theorem c_195_21 : mLk 195 21 = some (.aload_n 0, 1) := rfl
theorem c_195_22 : mLk 195 22 = some (.getfield 56, 3) := rfl
theorem c_195_25 : mLk 195 25 = some (.iconst 3, 1) := rfl
theorem c_195_26 : mLk 195 26 = some (.iload 4, 2) := rfl
theorem c_195_28 : mLk 195 28 = some (.iastore, 1) := rfl
theorem c_195_29 : mLk 195 29 = some (.aload_n 0, 1) := rfl
theorem c_195_30 : mLk 195 30 = some (.getfield 56, 3) := rfl
theorem c_195_33 : mLk 195 33 = some (.iconst 4, 1) := rfl
theorem c_195_34 : mLk 195 34 = some (.iload_n 1, 1) := rfl
theorem c_195_35 : mLk 195 35 = some (.iload_n 2, 1) := rfl
theorem c_195_36 : mLk 195 36 = some (.iadd, 1) := rfl
theorem c_195_37 : mLk 195 37 = some (.iload_n 3, 1) := rfl
theorem c_195_38 : mLk 195 38 = some (.iadd, 1) := rfl
theorem c_195_39 : mLk 195 39 = some (.iload 4, 2) := rfl
theorem c_195_41 : mLk 195 41 = some (.iadd, 1) := rfl
theorem c_195_42 : mLk 195 42 = some (.iastore, 1) := rfl
theorem c_195_43 : mLk 195 43 = some (.aload_n 0, 1) := rfl
theorem c_195_44 : mLk 195 44 = some (.getfield 56, 3) := rfl
theorem c_195_47 : mLk 195 47 = some (.iconst 5, 1) := rfl
theorem c_195_48 : mLk 195 48 = some (.iload 5, 2) := rfl
theorem c_195_50 : mLk 195 50 = some (.iastore, 1) := rfl
theorem c_195_51 : mLk 195 51 = some (.aload_n 0, 1) := rfl
theorem c_195_52 : mLk 195 52 = some (.getfield 56, 3) := rfl
theorem c_195_55 : mLk 195 55 = some (.bipush 6, 2) := rfl
theorem c_195_57 : mLk 195 57 = some (.iload 6, 2) := rfl
theorem c_195_59 : mLk 195 59 = some (.iastore, 1) := rfl
theorem c_195_60 : mLk 195 60 = some (.aload_n 0, 1) := rfl
theorem c_195_61 : mLk 195 61 = some (.getfield 56, 3) := rfl
theorem c_195_64 : mLk 195 64 = some (.bipush 7, 2) := rfl
theorem c_195_66 : mLk 195 66 = some (.iload 7, 2) := rfl
theorem c_195_68 : mLk 195 68 = some (.iastore, 1) := rfl
theorem c_195_69 : mLk 195 69 = some (.aload_n 0, 1) := rfl
theorem c_195_70 : mLk 195 70 = some (.invokevirtual 356, 3) := rfl
theorem c_195_73 : mLk 195 73 = some (.ireturn, 1) := rfl
theorem c_196_0 : mLk 196 0 = some (.aload_n 0, 1) := rfl
theorem c_196_1 : mLk 196 1 = some (.aload_n 0, 1) := rfl
theorem c_196_2 : mLk 196 2 = some (.getfield 68, 3) := rfl
theorem c_196_5 : mLk 196 5 = some (.iconst 4, 1) := rfl
theorem c_196_6 : mLk 196 6 = some (.iload_n 1, 1) := rfl
theorem c_196_7 : mLk 196 7 = some (.imul, 1) := rfl
theorem c_196_8 : mLk 196 8 = some (.iaload, 1) := rfl
theorem c_196_9 : mLk 196 9 = some (.aload_n 0, 1) := rfl
theorem c_196_10 : mLk 196 10 = some (.getfield 68, 3) := rfl
theorem c_196_13 : mLk 196 13 = some (.iconst 4, 1) := rfl
theorem c_196_14 : mLk 196 14 = some (.iload_n 1, 1) := rfl
theorem c_196_15 : mLk 196 15 = some (.imul, 1) := rfl
theorem c_196_16 : mLk 196 16 = some (.iconst 1, 1) := rfl
theorem c_196_17 : mLk 196 17 = some (.iadd, 1) := rfl
theorem c_196_18 : mLk 196 18 = some (.iaload, 1) := rfl
theorem c_196_19 : mLk 196 19 = some (.aload_n 0, 1) := rfl
theorem c_196_20 : mLk 196 20 = some (.getfield 68, 3) := rfl
theorem c_196_23 : mLk 196 23 = some (.iconst 4, 1) := rfl
theorem c_196_24 : mLk 196 24 = some (.iload_n 1, 1) := rfl
theorem c_196_25 : mLk 196 25 = some (.imul, 1) := rfl
theorem c_196_26 : mLk 196 26 = some (.iconst 2, 1) := rfl
theorem c_196_27 : mLk 196 27 = some (.iadd, 1) := rfl
theorem c_196_28 : mLk 196 28 = some (.iaload, 1) := rfl
theorem c_196_29 : mLk 196 29 = some (.aload_n 0, 1) := rfl
theorem c_196_30 : mLk 196 30 = some (.getfield 68, 3) := rfl
theorem c_196_33 : mLk 196 33 = some (.iconst 4, 1) := rfl
theorem c_196_34 : mLk 196 34 = some (.iload_n 1, 1) := rfl
theorem c_196_35 : mLk 196 35 = some (.imul, 1) := rfl
theorem c_196_36 : mLk 196 36 = some (.iconst 3, 1) := rfl
theorem c_196_37 : mLk 196 37 = some (.iadd, 1) := rfl
theorem c_196_38 : mLk 196 38 = some (.iaload, 1) := rfl
theorem c_196_39 : mLk 196 39 = some (.aload_n 0, 1) := rfl
theorem c_196_40 : mLk 196 40 = some (.getfield 68, 3) := rfl
theorem c_196_43 : mLk 196 43 = some (.bipush 24, 2) := rfl
theorem c_196_45 : mLk 196 45 = some (.iload_n 1, 1) := rfl
theorem c_196_46 : mLk 196 46 = some (.iadd, 1) := rfl
theorem c_196_47 : mLk 196 47 = some (.iaload, 1) := rfl
theorem c_196_48 : mLk 196 48 = some (.aload_n 0, 1) := rfl
theorem c_196_49 : mLk 196 49 = some (.getfield 68, 3) := rfl
theorem c_196_52 : mLk 196 52 = some (.bipush 34, 2) := rfl
theorem c_196_54 : mLk 196 54 = some (.iaload, 1) := rfl
theorem c_196_55 : mLk 196 55 = some (.iload_n 1, 1) := rfl
theorem c_196_56 : mLk 196 56 = some (.invokevirtual 359, 3) := rfl
theorem c_196_59 : mLk 196 59 = some (.ireturn, 1) := rfl
theorem c_197_0 : mLk 197 0 = some (.aload_n 0, 1) := rfl
theorem c_197_1 : mLk 197 1 = some (.iload_n 1, 1) := rfl
theorem c_197_2 : mLk 197 2 = some (.invokevirtual 343, 3) := rfl
theorem c_197_5 : mLk 197 5 = some (.ifCond .le 17, 3) := rfl
theorem c_197_22 : mLk 197 22 = some (.iconst 0, 1) := rfl
theorem c_197_23 : mLk 197 23 = some (.ireturn, 1) := rfl
theorem c_197_8 : mLk 197 8 = some (.aload_n 0, 1) := rfl
theorem c_197_9 : mLk 197 9 = some (.iload_n 1, 1) := rfl
theorem c_197_10 : mLk 197 10 = some (.invokevirtual 375, 3) := rfl
theorem c_197_13 : mLk 197 13 = some (.bipush 50, 2) := rfl
theorem c_197_15 : mLk 197 15 = some (.if_icmp .lt 7, 3) := rfl
theorem c_197_18 : mLk 197 18 = some (.iconst 1, 1) := rfl
theorem c_197_19 : mLk 197 19 = some (.goto 4, 3) := rfl
theorem c_198_0 : mLk 198 0 = some (.aload_n 0, 1) := rfl
theorem c_198_1 : mLk 198 1 = some (.iload_n 1, 1) := rfl
theorem c_198_2 : mLk 198 2 = some (.invokevirtual 378, 3) := rfl
theorem c_198_5 : mLk 198 5 = some (.ifCond .ne 5, 3) := rfl
theorem c_198_10 : mLk 198 10 = some (.aload_n 0, 1) := rfl
theorem c_198_11 : mLk 198 11 = some (.getfield 68, 3) := rfl
theorem c_198_14 : mLk 198 14 = some (.bipush 36, 2) := rfl
theorem c_198_16 : mLk 198 16 = some (.dup2, 1) := rfl
theorem c_198_17 : mLk 198 17 = some (.iaload, 1) := rfl
theorem c_198_18 : mLk 198 18 = some (.aload_n 0, 1) := rfl
theorem c_198_19 : mLk 198 19 = some (.iload_n 1, 1) := rfl
theorem c_198_20 : mLk 198 20 = some (.invokevirtual 343, 3) := rfl
theorem c_198_23 : mLk 198 23 = some (.bipush 10, 2) := rfl
theorem c_198_27 : mLk 198 27 = some (.iastore, 1) := rfl
theorem c_198_28 : mLk 198 28 = some (.aload_n 0, 1) := rfl
theorem c_198_29 : mLk 198 29 = some (.iload_n 1, 1) := rfl
theorem c_198_30 : mLk 198 30 = some (.invokevirtual 372, 3) := rfl
theorem c_198_33 : mLk 198 33 = some (.iconst 1, 1) := rfl
theorem c_198_34 : mLk 198 34 = some (.ireturn, 1) := rfl
theorem c_198_8 : mLk 198 8 = some (.iconst 0, 1) := rfl
theorem c_198_9 : mLk 198 9 = some (.ireturn, 1) := rfl
theorem c_199_2 : mLk 199 2 = some (.iload_n 1, 1) := rfl
theorem c_199_3 : mLk 199 3 = some (.aload_n 0, 1) := rfl
theorem c_199_4 : mLk 199 4 = some (.getfield 157, 3) := rfl
theorem c_199_7 : mLk 199 7 = some (.if_icmp .ge 34, 3) := rfl
theorem c_199_41 : mLk 199 41 = some (.aload_n 0, 1) := rfl
theorem c_199_42 : mLk 199 42 = some (.getfield 68, 3) := rfl
theorem c_199_45 : mLk 199 45 = some (.bipush 34, 2) := rfl
theorem c_199_47 : mLk 199 47 = some (.dup2, 1) := rfl
theorem c_199_48 : mLk 199 48 = some (.iaload, 1) := rfl
theorem c_199_49 : mLk 199 49 = some (.iconst 1, 1) := rfl
theorem c_199_50 : mLk 199 50 = some (.iadd, 1) := rfl
theorem c_199_51 : mLk 199 51 = some (.iastore, 1) := rfl
theorem c_199_10 : mLk 199 10 = some (.aload_n 0, 1) := rfl
theorem c_199_11 : mLk 199 11 = some (.getfield 68, 3) := rfl
theorem c_199_14 : mLk 199 14 = some (.bipush 24, 2) := rfl
theorem c_199_16 : mLk 199 16 = some (.iload_n 1, 1) := rfl
theorem c_199_17 : mLk 199 17 = some (.iadd, 1) := rfl
theorem c_199_18 : mLk 199 18 = some (.dup2, 1) := rfl
theorem c_199_19 : mLk 199 19 = some (.iaload, 1) := rfl
theorem c_199_20 : mLk 199 20 = some (.aload_n 0, 1) := rfl
theorem c_199_21 : mLk 199 21 = some (.iload_n 1, 1) := rfl
theorem c_199_22 : mLk 199 22 = some (.invokevirtual 343, 3) := rfl
theorem c_199_25 : mLk 199 25 = some (.ifCond .le 7, 3) := rfl
theorem c_199_32 : mLk 199 32 = some (.iconst 0, 1) := rfl
theorem c_199_33 : mLk 199 33 = some (.iadd, 1) := rfl
theorem c_199_34 : mLk 199 34 = some (.iastore, 1) := rfl
theorem c_199_35 : mLk 199 35 = some (.iinc 1 1, 3) := rfl
theorem c_199_38 : mLk 199 38 = some (.goto (-36), 3) := rfl
theorem c_199_28 : mLk 199 28 = some (.iconst 1, 1) := rfl
theorem c_199_29 : mLk 199 29 = some (.goto 4, 3) := rfl
theorem c_199_0 : mLk 199 0 = some (.iconst 0, 1) := rfl
theorem c_199_1 : mLk 199 1 = some (.istore_n 1, 1) := rfl
theorem c_200_0 : mLk 200 0 = some (.aload_n 0, 1) := rfl
theorem c_200_1 : mLk 200 1 = some (.getfield 62, 3) := rfl
theorem c_200_4 : mLk 200 4 = some (.iload_n 1, 1) := rfl
theorem c_200_5 : mLk 200 5 = some (.iaload, 1) := rfl
theorem c_200_6 : mLk 200 6 = some (.istore_n 2, 1) := rfl
theorem c_200_7 : mLk 200 7 = some (.aload_n 0, 1) := rfl
theorem c_200_8 : mLk 200 8 = some (.getfield 62, 3) := rfl
theorem c_200_11 : mLk 200 11 = some (.iload_n 1, 1) := rfl
theorem c_200_12 : mLk 200 12 = some (.iconst 1, 1) := rfl
theorem c_200_13 : mLk 200 13 = some (.iadd, 1) := rfl
theorem c_200_14 : mLk 200 14 = some (.iaload, 1) := rfl
theorem c_200_15 : mLk 200 15 = some (.istore_n 3, 1) := rfl
theorem c_200_16 : mLk 200 16 = some (.aload_n 0, 1) := rfl
theorem c_200_17 : mLk 200 17 = some (.getfield 62, 3) := rfl
theorem c_200_20 : mLk 200 20 = some (.iload_n 1, 1) := rfl
theorem c_200_21 : mLk 200 21 = some (.iconst 2, 1) := rfl
theorem c_200_22 : mLk 200 22 = some (.iadd, 1) := rfl
theorem c_200_23 : mLk 200 23 = some (.iaload, 1) := rfl
theorem c_200_24 : mLk 200 24 = some (.istore 4, 2) := rfl
theorem c_200_26 : mLk 200 26 = some (.aload_n 0, 1) := rfl
theorem c_200_27 : mLk 200 27 = some (.getfield 62, 3) := rfl
theorem c_200_30 : mLk 200 30 = some (.iload_n 1, 1) := rfl
theorem c_200_31 : mLk 200 31 = some (.iconst 3, 1) := rfl
theorem c_200_32 : mLk 200 32 = some (.iadd, 1) := rfl
theorem c_200_33 : mLk 200 33 = some (.iaload, 1) := rfl
theorem c_200_34 : mLk 200 34 = some (.istore 5, 2) := rfl
theorem c_200_36 : mLk 200 36 = some (.iload_n 2, 1) := rfl
theorem c_200_37 : mLk 200 37 = some (.ifCond .ne 11, 3) := rfl
theorem c_200_48 : mLk 200 48 = some (.iload_n 2, 1) := rfl
theorem c_200_49 : mLk 200 49 = some (.iconst 1, 1) := rfl
theorem c_200_50 : mLk 200 50 = some (.if_icmp .ne 21, 3) := rfl
theorem c_200_71 : mLk 200 71 = some (.iload_n 2, 1) := rfl
theorem c_200_72 : mLk 200 72 = some (.iconst 2, 1) := rfl
theorem c_200_73 : mLk 200 73 = some (.if_icmp .ne 16, 3) := rfl
theorem c_200_89 : mLk 200 89 = some (.iload_n 2, 1) := rfl
theorem c_200_90 : mLk 200 90 = some (.iconst 3, 1) := rfl
theorem c_200_91 : mLk 200 91 = some (.if_icmp .ne 13, 3) := rfl
theorem c_200_104 : mLk 200 104 = some (.iload_n 2, 1) := rfl
theorem c_200_105 : mLk 200 105 = some (.iconst 5, 1) := rfl
theorem c_200_106 : mLk 200 106 = some (.if_icmp .ne 9, 3) := rfl
theorem c_200_115 : mLk 200 115 = some (.iload_n 2, 1) := rfl
theorem c_200_116 : mLk 200 116 = some (.bipush 6, 2) := rfl
theorem c_200_118 : mLk 200 118 = some (.if_icmp .ne 18, 3) := rfl
theorem c_200_136 : mLk 200 136 = some (.iload_n 2, 1) := rfl
theorem c_200_137 : mLk 200 137 = some (.iconst 4, 1) := rfl
theorem c_200_138 : mLk 200 138 = some (.if_icmp .ne 26, 3) := rfl
theorem c_200_164 : mLk 200 164 = some (.aload_n 0, 1) := rfl
theorem c_200_165 : mLk 200 165 = some (.invokevirtual 353, 3) := rfl
theorem c_200_168 : mLk 200 168 = some (.iconst 1, 1) := rfl
theorem c_200_169 : mLk 200 169 = some (.ireturn, 1) := rfl
theorem c_200_141 : mLk 200 141 = some (.aload_n 0, 1) := rfl
theorem c_200_142 : mLk 200 142 = some (.getfield 68, 3) := rfl
theorem c_200_145 : mLk 200 145 = some (.bipush 30, 2) := rfl
theorem c_200_147 : mLk 200 147 = some (.iload_n 3, 1) := rfl
theorem c_200_148 : mLk 200 148 = some (.iadd, 1) := rfl
theorem c_200_149 : mLk 200 149 = some (.iconst 1, 1) := rfl
theorem c_200_150 : mLk 200 150 = some (.aload_n 0, 1) := rfl
theorem c_200_151 : mLk 200 151 = some (.getfield 68, 3) := rfl
theorem c_200_154 : mLk 200 154 = some (.bipush 30, 2) := rfl
theorem c_200_156 : mLk 200 156 = some (.iload_n 3, 1) := rfl
theorem c_200_157 : mLk 200 157 = some (.iadd, 1) := rfl
theorem c_200_158 : mLk 200 158 = some (.iaload, 1) := rfl
theorem c_200_159 : mLk 200 159 = some (.isub, 1) := rfl
theorem c_200_160 : mLk 200 160 = some (.iastore, 1) := rfl
theorem c_200_161 : mLk 200 161 = some (.goto 7, 3) := rfl
theorem c_200_121 : mLk 200 121 = some (.aload_n 0, 1) := rfl
theorem c_200_122 : mLk 200 122 = some (.getfield 68, 3) := rfl
theorem c_200_125 : mLk 200 125 = some (.bipush 34, 2) := rfl
theorem c_200_127 : mLk 200 127 = some (.iaload, 1) := rfl
theorem c_200_128 : mLk 200 128 = some (.sipush 400, 3) := rfl
theorem c_200_131 : mLk 200 131 = some (.if_icmp .lt 5, 3) := rfl
theorem c_200_134 : mLk 200 134 = some (.iconst 0, 1) := rfl
theorem c_200_135 : mLk 200 135 = some (.ireturn, 1) := rfl
theorem c_200_109 : mLk 200 109 = some (.aload_n 0, 1) := rfl
theorem c_200_110 : mLk 200 110 = some (.iload_n 3, 1) := rfl
theorem c_200_111 : mLk 200 111 = some (.invokevirtual 350, 3) := rfl
theorem c_200_114 : mLk 200 114 = some (.ireturn, 1) := rfl
theorem c_200_94 : mLk 200 94 = some (.aload_n 0, 1) := rfl
theorem c_200_95 : mLk 200 95 = some (.iload_n 3, 1) := rfl
theorem c_200_96 : mLk 200 96 = some (.iload 4, 2) := rfl
theorem c_200_98 : mLk 200 98 = some (.iload 5, 2) := rfl
theorem c_200_100 : mLk 200 100 = some (.invokevirtual 346, 3) := rfl
theorem c_200_103 : mLk 200 103 = some (.ireturn, 1) := rfl
theorem c_200_76 : mLk 200 76 = some (.aload_n 0, 1) := rfl
theorem c_200_77 : mLk 200 77 = some (.iload_n 3, 1) := rfl
theorem c_200_78 : mLk 200 78 = some (.iload 4, 2) := rfl
theorem c_200_80 : mLk 200 80 = some (.aload_n 0, 1) := rfl
theorem c_200_81 : mLk 200 81 = some (.iload_n 3, 1) := rfl
theorem c_200_82 : mLk 200 82 = some (.invokevirtual 343, 3) := rfl
theorem c_200_85 : mLk 200 85 = some (.invokevirtual 346, 3) := rfl
theorem c_200_88 : mLk 200 88 = some (.ireturn, 1) := rfl
theorem c_200_53 : mLk 200 53 = some (.aload_n 0, 1) := rfl
theorem c_200_54 : mLk 200 54 = some (.iload_n 3, 1) := rfl
theorem c_200_55 : mLk 200 55 = some (.iload 4, 2) := rfl
theorem c_200_57 : mLk 200 57 = some (.iload 5, 2) := rfl
theorem c_200_59 : mLk 200 59 = some (.aload_n 0, 1) := rfl
theorem c_200_60 : mLk 200 60 = some (.getfield 62, 3) := rfl
theorem c_200_63 : mLk 200 63 = some (.iload_n 1, 1) := rfl
theorem c_200_64 : mLk 200 64 = some (.iconst 4, 1) := rfl
theorem c_200_65 : mLk 200 65 = some (.iadd, 1) := rfl
theorem c_200_66 : mLk 200 66 = some (.iaload, 1) := rfl
theorem c_200_67 : mLk 200 67 = some (.invokevirtual 339, 3) := rfl
theorem c_200_70 : mLk 200 70 = some (.ireturn, 1) := rfl
theorem c_200_40 : mLk 200 40 = some (.aload_n 0, 1) := rfl
theorem c_200_41 : mLk 200 41 = some (.iload_n 3, 1) := rfl
theorem c_200_42 : mLk 200 42 = some (.iload 4, 2) := rfl
theorem c_200_44 : mLk 200 44 = some (.invokevirtual 335, 3) := rfl
theorem c_200_47 : mLk 200 47 = some (.ireturn, 1) := rfl
theorem c_201_2 : mLk 201 2 = some (.iload_n 3, 1) := rfl
theorem c_201_3 : mLk 201 3 = some (.iload_n 2, 1) := rfl
theorem c_201_4 : mLk 201 4 = some (.if_icmp .ge 128, 3) := rfl
theorem c_201_7 : mLk 201 7 = some (.aload_n 0, 1) := rfl
theorem c_201_8 : mLk 201 8 = some (.getfield 320, 3) := rfl
theorem c_201_11 : mLk 201 11 = some (.sipush 200, 3) := rfl
theorem c_201_14 : mLk 201 14 = some (.if_icmp .ge 118, 3) := rfl
theorem c_201_17 : mLk 201 17 = some (.aload_n 0, 1) := rfl
theorem c_201_18 : mLk 201 18 = some (.dup, 1) := rfl
theorem c_201_19 : mLk 201 19 = some (.getfield 320, 3) := rfl
theorem c_201_22 : mLk 201 22 = some (.iconst 1, 1) := rfl
theorem c_201_23 : mLk 201 23 = some (.iadd, 1) := rfl
theorem c_201_24 : mLk 201 24 = some (.putfield 320, 3) := rfl
theorem c_201_27 : mLk 201 27 = some (.aload_n 0, 1) := rfl
theorem c_201_28 : mLk 201 28 = some (.getfield 62, 3) := rfl
theorem c_201_31 : mLk 201 31 = some (.iload_n 3, 1) := rfl
theorem c_201_32 : mLk 201 32 = some (.iaload, 1) := rfl
theorem c_201_33 : mLk 201 33 = some (.bipush 7, 2) := rfl
theorem c_201_35 : mLk 201 35 = some (.if_icmp .ne 60, 3) := rfl
theorem c_201_95 : mLk 201 95 = some (.aload_n 0, 1) := rfl
theorem c_201_96 : mLk 201 96 = some (.iload_n 3, 1) := rfl
theorem c_201_97 : mLk 201 97 = some (.invokevirtual 332, 3) := rfl
theorem c_201_100 : mLk 201 100 = some (.ifCond .eq 16, 3) := rfl
theorem c_201_116 : mLk 201 116 = some (.aload_n 0, 1) := rfl
theorem c_201_117 : mLk 201 117 = some (.dup, 1) := rfl
theorem c_201_118 : mLk 201 118 = some (.getfield 326, 3) := rfl
theorem c_201_121 : mLk 201 121 = some (.iconst 1, 1) := rfl
theorem c_201_122 : mLk 201 122 = some (.iadd, 1) := rfl
theorem c_201_123 : mLk 201 123 = some (.putfield 326, 3) := rfl
theorem c_201_126 : mLk 201 126 = some (.iinc 3 5, 3) := rfl
theorem c_201_129 : mLk 201 129 = some (.goto (-127), 3) := rfl
theorem c_201_103 : mLk 201 103 = some (.aload_n 0, 1) := rfl
theorem c_201_104 : mLk 201 104 = some (.dup, 1) := rfl
theorem c_201_105 : mLk 201 105 = some (.getfield 323, 3) := rfl
theorem c_201_108 : mLk 201 108 = some (.iconst 1, 1) := rfl
theorem c_201_109 : mLk 201 109 = some (.iadd, 1) := rfl
theorem c_201_110 : mLk 201 110 = some (.putfield 323, 3) := rfl
theorem c_201_113 : mLk 201 113 = some (.goto 13, 3) := rfl
theorem c_201_38 : mLk 201 38 = some (.aload_n 0, 1) := rfl
theorem c_201_39 : mLk 201 39 = some (.getfield 62, 3) := rfl
theorem c_201_42 : mLk 201 42 = some (.iload_n 3, 1) := rfl
theorem c_201_43 : mLk 201 43 = some (.iconst 2, 1) := rfl
theorem c_201_44 : mLk 201 44 = some (.iadd, 1) := rfl
theorem c_201_45 : mLk 201 45 = some (.iaload, 1) := rfl
theorem c_201_46 : mLk 201 46 = some (.istore 4, 2) := rfl
theorem c_201_48 : mLk 201 48 = some (.iconst 0, 1) := rfl
theorem c_201_49 : mLk 201 49 = some (.istore 5, 2) := rfl
theorem c_201_51 : mLk 201 51 = some (.iload 5, 2) := rfl
theorem c_201_53 : mLk 201 53 = some (.aload_n 0, 1) := rfl
theorem c_201_54 : mLk 201 54 = some (.getfield 62, 3) := rfl
theorem c_201_57 : mLk 201 57 = some (.iload_n 3, 1) := rfl
theorem c_201_58 : mLk 201 58 = some (.iconst 1, 1) := rfl
theorem c_201_59 : mLk 201 59 = some (.iadd, 1) := rfl
theorem c_201_60 : mLk 201 60 = some (.iaload, 1) := rfl
theorem c_201_61 : mLk 201 61 = some (.if_icmp .ge 28, 3) := rfl
theorem c_201_89 : mLk 201 89 = some (.iload 4, 2) := rfl
theorem c_201_91 : mLk 201 91 = some (.istore_n 3, 1) := rfl
theorem c_201_92 : mLk 201 92 = some (.goto (-90), 3) := rfl
theorem c_201_64 : mLk 201 64 = some (.aload_n 0, 1) := rfl
theorem c_201_65 : mLk 201 65 = some (.getfield 320, 3) := rfl
theorem c_201_68 : mLk 201 68 = some (.sipush 200, 3) := rfl
theorem c_201_71 : mLk 201 71 = some (.if_icmp .ge 18, 3) := rfl
theorem c_201_74 : mLk 201 74 = some (.aload_n 0, 1) := rfl
theorem c_201_75 : mLk 201 75 = some (.iload_n 3, 1) := rfl
theorem c_201_76 : mLk 201 76 = some (.iconst 5, 1) := rfl
theorem c_201_77 : mLk 201 77 = some (.iadd, 1) := rfl
theorem c_201_78 : mLk 201 78 = some (.iload 4, 2) := rfl
theorem c_201_80 : mLk 201 80 = some (.invokevirtual 329, 3) := rfl
theorem c_201_83 : mLk 201 83 = some (.iinc 5 1, 3) := rfl
theorem c_201_86 : mLk 201 86 = some (.goto (-35), 3) := rfl
theorem c_201_0 : mLk 201 0 = some (.iload_n 1, 1) := rfl
theorem c_201_1 : mLk 201 1 = some (.istore_n 3, 1) := rfl
theorem c_202_155 : mLk 202 155 = some (.aload_n 0, 1) := rfl
theorem c_202_156 : mLk 202 156 = some (.dup, 1) := rfl
theorem c_202_157 : mLk 202 157 = some (.getfield 182, 3) := rfl
theorem c_202_160 : mLk 202 160 = some (.iconst 1, 1) := rfl
theorem c_202_161 : mLk 202 161 = some (.iadd, 1) := rfl
theorem c_202_162 : mLk 202 162 = some (.putfield 182, 3) := rfl
theorem c_202_165 : mLk 202 165 = some (.aload_n 0, 1) := rfl
theorem c_202_166 : mLk 202 166 = some (.invokevirtual 317, 3) := rfl
theorem c_202_169 : mLk 202 169 = some (.aload_n 0, 1) := rfl
theorem c_202_170 : mLk 202 170 = some (.iconst 0, 1) := rfl
theorem c_202_171 : mLk 202 171 = some (.putfield 320, 3) := rfl
theorem c_202_174 : mLk 202 174 = some (.aload_n 0, 1) := rfl
theorem c_202_175 : mLk 202 175 = some (.iconst 0, 1) := rfl
theorem c_202_176 : mLk 202 176 = some (.putfield 323, 3) := rfl
theorem c_202_179 : mLk 202 179 = some (.aload_n 0, 1) := rfl
theorem c_202_180 : mLk 202 180 = some (.iconst 0, 1) := rfl
theorem c_202_181 : mLk 202 181 = some (.putfield 326, 3) := rfl
theorem c_202_184 : mLk 202 184 = some (.aload_n 0, 1) := rfl
theorem c_202_185 : mLk 202 185 = some (.iconst 0, 1) := rfl
theorem c_202_186 : mLk 202 186 = some (.aload_n 0, 1) := rfl
theorem c_202_187 : mLk 202 187 = some (.getfield 284, 3) := rfl
theorem c_202_190 : mLk 202 190 = some (.invokevirtual 329, 3) := rfl
theorem c_202_193 : mLk 202 193 = some (.aload_n 0, 1) := rfl
theorem c_202_194 : mLk 202 194 = some (.aload_n 0, 1) := rfl
theorem c_202_195 : mLk 202 195 = some (.getfield 68, 3) := rfl
theorem c_202_198 : mLk 202 198 = some (.aload_n 0, 1) := rfl
theorem c_202_199 : mLk 202 199 = some (.getfield 65, 3) := rfl
theorem c_202_202 : mLk 202 202 = some (.bipush 37, 2) := rfl
theorem c_202_204 : mLk 202 204 = some (.invokevirtual 169, 3) := rfl
theorem c_202_207 : mLk 202 207 = some (.aload_n 0, 1) := rfl
theorem c_202_208 : mLk 202 208 = some (.aload_n 0, 1) := rfl
theorem c_202_209 : mLk 202 209 = some (.getfield 326, 3) := rfl
theorem c_202_212 : mLk 202 212 = some (.putfield 188, 3) := rfl
theorem c_202_215 : mLk 202 215 = some (.aload_n 0, 1) := rfl
theorem c_202_216 : mLk 202 216 = some (.getfield 323, 3) := rfl
theorem c_202_219 : mLk 202 219 = some (.ireturn, 1) := rfl
theorem c_202_123 : mLk 202 123 = some (.iload_n 3, 1) := rfl
theorem c_202_124 : mLk 202 124 = some (.bipush 37, 2) := rfl
theorem c_202_126 : mLk 202 126 = some (.if_icmp .ge 29, 3) := rfl
theorem c_202_129 : mLk 202 129 = some (.aload_n 0, 1) := rfl
theorem c_202_130 : mLk 202 130 = some (.getfield 71, 3) := rfl
theorem c_202_133 : mLk 202 133 = some (.bipush 37, 2) := rfl
theorem c_202_135 : mLk 202 135 = some (.aload_n 0, 1) := rfl
theorem c_202_136 : mLk 202 136 = some (.getfield 182, 3) := rfl
theorem c_202_139 : mLk 202 139 = some (.imul, 1) := rfl
theorem c_202_140 : mLk 202 140 = some (.iload_n 3, 1) := rfl
theorem c_202_141 : mLk 202 141 = some (.iadd, 1) := rfl
theorem c_202_142 : mLk 202 142 = some (.aload_n 0, 1) := rfl
theorem c_202_143 : mLk 202 143 = some (.getfield 65, 3) := rfl
theorem c_202_146 : mLk 202 146 = some (.iload_n 3, 1) := rfl
theorem c_202_147 : mLk 202 147 = some (.iaload, 1) := rfl
theorem c_202_148 : mLk 202 148 = some (.iastore, 1) := rfl
theorem c_202_149 : mLk 202 149 = some (.iinc 3 1, 3) := rfl
theorem c_202_152 : mLk 202 152 = some (.goto (-29), 3) := rfl
theorem c_202_121 : mLk 202 121 = some (.iconst 0, 1) := rfl
theorem c_202_122 : mLk 202 122 = some (.istore_n 3, 1) := rfl
theorem c_202_75 : mLk 202 75 = some (.aload_n 0, 1) := rfl
theorem c_202_76 : mLk 202 76 = some (.invokevirtual 211, 3) := rfl
theorem c_202_79 : mLk 202 79 = some (.ifCond .eq 10, 3) := rfl
theorem c_202_89 : mLk 202 89 = some (.aload_n 0, 1) := rfl
theorem c_202_90 : mLk 202 90 = some (.iconst 0, 1) := rfl
theorem c_202_91 : mLk 202 91 = some (.invokevirtual 232, 3) := rfl
theorem c_202_94 : mLk 202 94 = some (.istore_n 2, 1) := rfl
theorem c_202_95 : mLk 202 95 = some (.aload_n 0, 1) := rfl
theorem c_202_96 : mLk 202 96 = some (.getfield 102, 3) := rfl
theorem c_202_99 : mLk 202 99 = some (.iconst (-1), 1) := rfl
theorem c_202_100 : mLk 202 100 = some (.if_icmp .eq 5, 3) := rfl
theorem c_202_105 : mLk 202 105 = some (.aload_n 0, 1) := rfl
theorem c_202_106 : mLk 202 106 = some (.aload_n 0, 1) := rfl
theorem c_202_107 : mLk 202 107 = some (.getfield 59, 3) := rfl
theorem c_202_110 : mLk 202 110 = some (.aload_n 0, 1) := rfl
theorem c_202_111 : mLk 202 111 = some (.getfield 62, 3) := rfl
theorem c_202_114 : mLk 202 114 = some (.aload_n 0, 1) := rfl
theorem c_202_115 : mLk 202 115 = some (.getfield 284, 3) := rfl
theorem c_202_118 : mLk 202 118 = some (.invokevirtual 169, 3) := rfl
theorem c_202_82 : mLk 202 82 = some (.aload_n 0, 1) := rfl
theorem c_202_83 : mLk 202 83 = some (.invokevirtual 305, 3) := rfl
theorem c_202_86 : mLk 202 86 = some (.goto (-18), 3) := rfl
theorem c_202_68 : mLk 202 68 = some (.aload_n 0, 1) := rfl
theorem c_202_69 : mLk 202 69 = some (.invokevirtual 131, 3) := rfl
theorem c_202_72 : mLk 202 72 = some (.ifCond .eq 17, 3) := rfl
theorem c_202_103 : mLk 202 103 = some (.iload_n 2, 1) := rfl
theorem c_202_104 : mLk 202 104 = some (.ireturn, 1) := rfl
theorem c_202_0 : mLk 202 0 = some (.aload_n 0, 1) := rfl
theorem c_202_1 : mLk 202 1 = some (.iconst 0, 1) := rfl
theorem c_202_2 : mLk 202 2 = some (.putfield 3, 3) := rfl
theorem c_202_5 : mLk 202 5 = some (.aload_n 0, 1) := rfl
theorem c_202_6 : mLk 202 6 = some (.iload_n 1, 1) := rfl
theorem c_202_7 : mLk 202 7 = some (.ifCond .lt 22, 3) := rfl
theorem c_202_29 : mLk 202 29 = some (.iconst 0, 1) := rfl
theorem c_202_30 : mLk 202 30 = some (.iconst 1, 1) := rfl
theorem c_202_31 : mLk 202 31 = some (.iconst 1, 1) := rfl
theorem c_202_32 : mLk 202 32 = some (.invokevirtual 203, 3) := rfl
theorem c_202_35 : mLk 202 35 = some (.ifCond .ne 5, 3) := rfl
theorem c_202_38 : mLk 202 38 = some (.iconst 0, 1) := rfl
theorem c_202_39 : mLk 202 39 = some (.ireturn, 1) := rfl
theorem c_202_10 : mLk 202 10 = some (.iload_n 1, 1) := rfl
theorem c_202_11 : mLk 202 11 = some (.aload_n 0, 1) := rfl
theorem c_202_12 : mLk 202 12 = some (.getfield 99, 3) := rfl
theorem c_202_15 : mLk 202 15 = some (.if_icmp .gt 14, 3) := rfl
theorem c_202_18 : mLk 202 18 = some (.iload_n 1, 1) := rfl
theorem c_202_19 : mLk 202 19 = some (.sipush 150, 3) := rfl
theorem c_202_22 : mLk 202 22 = some (.if_icmp .gt 7, 3) := rfl
theorem c_202_25 : mLk 202 25 = some (.iconst 1, 1) := rfl
theorem c_202_26 : mLk 202 26 = some (.goto 4, 3) := rfl
theorem c_202_40 : mLk 202 40 = some (.aload_n 0, 1) := rfl
theorem c_202_41 : mLk 202 41 = some (.iload_n 1, 1) := rfl
theorem c_202_42 : mLk 202 42 = some (.invokevirtual 207, 3) := rfl
theorem c_202_45 : mLk 202 45 = some (.aload_n 0, 1) := rfl
theorem c_202_46 : mLk 202 46 = some (.getfield 182, 3) := rfl
theorem c_202_49 : mLk 202 49 = some (.bipush 16, 2) := rfl
theorem c_202_51 : mLk 202 51 = some (.if_icmp .ne 12, 3) := rfl
theorem c_202_63 : mLk 202 63 = some (.aload_n 0, 1) := rfl
theorem c_202_64 : mLk 202 64 = some (.iconst 0, 1) := rfl
theorem c_202_65 : mLk 202 65 = some (.putfield 284, 3) := rfl
theorem c_202_54 : mLk 202 54 = some (.aload_n 0, 1) := rfl
theorem c_202_55 : mLk 202 55 = some (.iconst 0, 1) := rfl
theorem c_202_56 : mLk 202 56 = some (.invokevirtual 232, 3) := rfl
theorem c_202_59 : mLk 202 59 = some (.pop, 1) := rfl
theorem c_202_60 : mLk 202 60 = some (.bipush (-20), 2) := rfl
theorem c_202_62 : mLk 202 62 = some (.ireturn, 1) := rfl
theorem c_203_4 : mLk 203 4 = some (.iload_n 2, 1) := rfl
theorem c_203_5 : mLk 203 5 = some (.aload_n 0, 1) := rfl
theorem c_203_6 : mLk 203 6 = some (.getfield 157, 3) := rfl
theorem c_203_9 : mLk 203 9 = some (.if_icmp .ge 17, 3) := rfl
theorem c_203_26 : mLk 203 26 = some (.iload_n 1, 1) := rfl
theorem c_203_27 : mLk 203 27 = some (.ireturn, 1) := rfl
theorem c_203_12 : mLk 203 12 = some (.iload_n 1, 1) := rfl
theorem c_203_13 : mLk 203 13 = some (.aload_n 0, 1) := rfl
theorem c_203_14 : mLk 203 14 = some (.iload_n 2, 1) := rfl
theorem c_203_15 : mLk 203 15 = some (.invokevirtual 343, 3) := rfl
theorem c_203_18 : mLk 203 18 = some (.iadd, 1) := rfl
theorem c_203_19 : mLk 203 19 = some (.istore_n 1, 1) := rfl
theorem c_203_20 : mLk 203 20 = some (.iinc 2 1, 3) := rfl
theorem c_203_23 : mLk 203 23 = some (.goto (-19), 3) := rfl
theorem c_203_0 : mLk 203 0 = some (.iconst 0, 1) := rfl
theorem c_203_1 : mLk 203 1 = some (.istore_n 1, 1) := rfl
theorem c_203_2 : mLk 203 2 = some (.iconst 0, 1) := rfl
theorem c_203_3 : mLk 203 3 = some (.istore_n 2, 1) := rfl
theorem c_204_0 : mLk 204 0 = some (.aload_n 0, 1) := rfl
theorem c_204_1 : mLk 204 1 = some (.iload_n 1, 1) := rfl
theorem c_204_2 : mLk 204 2 = some (.invokevirtual 343, 3) := rfl
theorem c_204_5 : mLk 204 5 = some (.ifCond .ne 7, 3) := rfl
theorem c_204_12 : mLk 204 12 = some (.sipush 1000, 3) := rfl
theorem c_204_15 : mLk 204 15 = some (.aload_n 0, 1) := rfl
theorem c_204_16 : mLk 204 16 = some (.getfield 68, 3) := rfl
theorem c_204_19 : mLk 204 19 = some (.iconst 4, 1) := rfl
theorem c_204_20 : mLk 204 20 = some (.iload_n 1, 1) := rfl
theorem c_204_21 : mLk 204 21 = some (.imul, 1) := rfl
theorem c_204_22 : mLk 204 22 = some (.iaload, 1) := rfl
theorem c_204_23 : mLk 204 23 = some (.imul, 1) := rfl
theorem c_204_24 : mLk 204 24 = some (.aload_n 0, 1) := rfl
theorem c_204_25 : mLk 204 25 = some (.iload_n 1, 1) := rfl
theorem c_204_26 : mLk 204 26 = some (.invokevirtual 343, 3) := rfl
theorem c_204_29 : mLk 204 29 = some (.idiv, 1) := rfl
theorem c_204_30 : mLk 204 30 = some (.ireturn, 1) := rfl
theorem c_204_8 : mLk 204 8 = some (.iconst 0, 1) := rfl
theorem c_204_9 : mLk 204 9 = some (.goto 21, 3) := rfl
theorem c_206_22 : mLk 206 22 = some (.aload_n 0, 1) := rfl
theorem c_206_23 : mLk 206 23 = some (.invokevirtual 131, 3) := rfl
theorem c_206_26 : mLk 206 26 = some (.ifCond .eq 77, 3) := rfl
theorem c_206_103 : mLk 206 103 = some (.aload_n 0, 1) := rfl
theorem c_206_104 : mLk 206 104 = some (.iload_n 2, 1) := rfl
theorem c_206_105 : mLk 206 105 = some (.invokevirtual 232, 3) := rfl
theorem c_206_108 : mLk 206 108 = some (.istore_n 3, 1) := rfl
theorem c_206_109 : mLk 206 109 = some (.aload_n 0, 1) := rfl
theorem c_206_110 : mLk 206 110 = some (.getfield 102, 3) := rfl
theorem c_206_113 : mLk 206 113 = some (.iconst (-1), 1) := rfl
theorem c_206_114 : mLk 206 114 = some (.if_icmp .eq 5, 3) := rfl
theorem c_206_117 : mLk 206 117 = some (.iload_n 3, 1) := rfl
theorem c_206_118 : mLk 206 118 = some (.ireturn, 1) := rfl
theorem c_206_29 : mLk 206 29 = some (.aload_n 0, 1) := rfl
theorem c_206_30 : mLk 206 30 = some (.invokevirtual 211, 3) := rfl
theorem c_206_33 : mLk 206 33 = some (.ifCond .eq 70, 3) := rfl
theorem c_206_119 : mLk 206 119 = some (.aload_n 0, 1) := rfl
theorem c_206_120 : mLk 206 120 = some (.iload_n 2, 1) := rfl
theorem c_206_121 : mLk 206 121 = some (.putfield 176, 3) := rfl
theorem c_206_124 : mLk 206 124 = some (.aload_n 0, 1) := rfl
theorem c_206_125 : mLk 206 125 = some (.aload_n 0, 1) := rfl
theorem c_206_126 : mLk 206 126 = some (.getfield 74, 3) := rfl
theorem c_206_129 : mLk 206 129 = some (.aload_n 0, 1) := rfl
theorem c_206_130 : mLk 206 130 = some (.getfield 77, 3) := rfl
theorem c_206_133 : mLk 206 133 = some (.bipush 8, 2) := rfl
theorem c_206_135 : mLk 206 135 = some (.invokevirtual 169, 3) := rfl
theorem c_206_138 : mLk 206 138 = some (.iload_n 3, 1) := rfl
theorem c_206_139 : mLk 206 139 = some (.ireturn, 1) := rfl
theorem c_206_36 : mLk 206 36 = some (.aload_n 0, 1) := rfl
theorem c_206_37 : mLk 206 37 = some (.getfield 108, 3) := rfl
theorem c_206_40 : mLk 206 40 = some (.istore_n 3, 1) := rfl
theorem c_206_41 : mLk 206 41 = some (.aload_n 0, 1) := rfl
theorem c_206_42 : mLk 206 42 = some (.iconst 0, 1) := rfl
theorem c_206_43 : mLk 206 43 = some (.aload_n 0, 1) := rfl
theorem c_206_44 : mLk 206 44 = some (.getfield 163, 3) := rfl
theorem c_206_47 : mLk 206 47 = some (.iconst 1, 1) := rfl
theorem c_206_48 : mLk 206 48 = some (.isub, 1) := rfl
theorem c_206_49 : mLk 206 49 = some (.invokevirtual 199, 3) := rfl
theorem c_206_52 : mLk 206 52 = some (.istore 4, 2) := rfl
theorem c_206_54 : mLk 206 54 = some (.aload_n 0, 1) := rfl
theorem c_206_55 : mLk 206 55 = some (.invokevirtual 131, 3) := rfl
theorem c_206_58 : mLk 206 58 = some (.ifCond .eq 15, 3) := rfl
theorem c_206_73 : mLk 206 73 = some (.aload_n 0, 1) := rfl
theorem c_206_74 : mLk 206 74 = some (.bipush 59, 2) := rfl
theorem c_206_76 : mLk 206 76 = some (.invokevirtual 229, 3) := rfl
theorem c_206_79 : mLk 206 79 = some (.aload_n 0, 1) := rfl
theorem c_206_80 : mLk 206 80 = some (.invokevirtual 131, 3) := rfl
theorem c_206_83 : mLk 206 83 = some (.ifCond .ne 6, 3) := rfl
theorem c_206_86 : mLk 206 86 = some (.goto 17, 3) := rfl
theorem c_206_61 : mLk 206 61 = some (.iload_n 2, 1) := rfl
theorem c_206_62 : mLk 206 62 = some (.bipush 8, 2) := rfl
theorem c_206_64 : mLk 206 64 = some (.if_icmp .ne 9, 3) := rfl
theorem c_206_89 : mLk 206 89 = some (.aload_n 0, 1) := rfl
theorem c_206_90 : mLk 206 90 = some (.getfield 74, 3) := rfl
theorem c_206_93 : mLk 206 93 = some (.iload_n 2, 1) := rfl
theorem c_206_94 : mLk 206 94 = some (.iload 4, 2) := rfl
theorem c_206_96 : mLk 206 96 = some (.iastore, 1) := rfl
theorem c_206_97 : mLk 206 97 = some (.iinc 2 1, 3) := rfl
theorem c_206_100 : mLk 206 100 = some (.goto (-78), 3) := rfl
theorem c_206_67 : mLk 206 67 = some (.aload_n 0, 1) := rfl
theorem c_206_68 : mLk 206 68 = some (.iconst 3, 1) := rfl
theorem c_206_69 : mLk 206 69 = some (.iload_n 3, 1) := rfl
theorem c_206_70 : mLk 206 70 = some (.invokevirtual 138, 3) := rfl
theorem c_206_0 : mLk 206 0 = some (.aload_n 0, 1) := rfl
theorem c_206_1 : mLk 206 1 = some (.iconst 0, 1) := rfl
theorem c_206_2 : mLk 206 2 = some (.putfield 3, 3) := rfl
theorem c_206_5 : mLk 206 5 = some (.aload_n 0, 1) := rfl
theorem c_206_6 : mLk 206 6 = some (.iload_n 1, 1) := rfl
theorem c_206_7 : mLk 206 7 = some (.invokevirtual 381, 3) := rfl
theorem c_205_0 : mLk 205 0 = some (.aload_n 0, 1) := rfl
theorem c_205_1 : mLk 205 1 = some (.iload_n 1, 1) := rfl
theorem c_205_2 : mLk 205 2 = some (.ifCond .lt 21, 3) := rfl
theorem c_205_23 : mLk 205 23 = some (.iconst 0, 1) := rfl
theorem c_205_24 : mLk 205 24 = some (.iconst 1, 1) := rfl
theorem c_205_25 : mLk 205 25 = some (.iconst 1, 1) := rfl
theorem c_205_26 : mLk 205 26 = some (.invokevirtual 203, 3) := rfl
theorem c_205_29 : mLk 205 29 = some (.ireturn, 1) := rfl
theorem c_206_10 : mLk 206 10 = some (.ifCond .ne 5, 3) := rfl
theorem c_206_13 : mLk 206 13 = some (.iconst 0, 1) := rfl
theorem c_206_14 : mLk 206 14 = some (.ireturn, 1) := rfl
theorem c_205_5 : mLk 205 5 = some (.iload_n 1, 1) := rfl
theorem c_205_6 : mLk 205 6 = some (.aload_n 0, 1) := rfl
theorem c_205_7 : mLk 205 7 = some (.getfield 99, 3) := rfl
theorem c_205_10 : mLk 205 10 = some (.if_icmp .gt 13, 3) := rfl
theorem c_205_13 : mLk 205 13 = some (.iload_n 1, 1) := rfl
theorem c_205_14 : mLk 205 14 = some (.bipush 60, 2) := rfl
theorem c_205_16 : mLk 205 16 = some (.if_icmp .gt 7, 3) := rfl
theorem c_205_19 : mLk 205 19 = some (.iconst 1, 1) := rfl
theorem c_205_20 : mLk 205 20 = some (.goto 4, 3) := rfl
theorem c_206_15 : mLk 206 15 = some (.aload_n 0, 1) := rfl
theorem c_206_16 : mLk 206 16 = some (.iload_n 1, 1) := rfl
theorem c_206_17 : mLk 206 17 = some (.invokevirtual 207, 3) := rfl
theorem c_206_20 : mLk 206 20 = some (.iconst 0, 1) := rfl
theorem c_206_21 : mLk 206 21 = some (.istore_n 2, 1) := rfl
theorem kf_8_320 : a_lk (kF 8) 320 = some (8, 37) := rfl
theorem kf_8_323 : a_lk (kF 8) 323 = some (8, 38) := rfl
theorem kf_8_326 : a_lk (kF 8) 326 = some (8, 39) := rfl
theorem kf_8_62 : a_lk (kF 8) 62 = some (8, 33) := rfl
theorem kf_8_71 : a_lk (kF 8) 71 = some (8, 42) := rfl
theorem kf_8_74 : a_lk (kF 8) 74 = some (8, 43) := rfl
theorem kf_8_77 : a_lk (kF 8) 77 = some (8, 44) := rfl
theorem km_8_317 : a_lk (kM 8) 317 = some (0, 186) := rfl
theorem km_8_329 : a_lk (kM 8) 329 = some (0, 201) := rfl
theorem km_8_332 : a_lk (kM 8) 332 = some (0, 200) := rfl
theorem km_8_335 : a_lk (kM 8) 335 = some (0, 188) := rfl
theorem km_8_339 : a_lk (kM 8) 339 = some (0, 193) := rfl
theorem km_8_346 : a_lk (kM 8) 346 = some (0, 194) := rfl
theorem km_8_350 : a_lk (kM 8) 350 = some (0, 198) := rfl
theorem km_8_353 : a_lk (kM 8) 353 = some (0, 199) := rfl
theorem km_8_356 : a_lk (kM 8) 356 = some (0, 180) := rfl
theorem km_8_359 : a_lk (kM 8) 359 = some (0, 195) := rfl
theorem km_8_375 : a_lk (kM 8) 375 = some (0, 196) := rfl
theorem km_8_378 : a_lk (kM 8) 378 = some (0, 197) := rfl
theorem km_8_381 : a_lk (kM 8) 381 = some (0, 205) := rfl
set_option maxRecDepth 100000 in
set_option maxHeartbeats 4000000 in
theorem s_195 {sc : List Int32} {e : Int} {d u P Q : Nat} {c : ME} {a1 : Int} {a2 : Int} {a3 : Int} {a4 : Int} {a5 : Int} {a6 : Int} {a7 : Int} {Z : AR → Prop} (hI : Iv u e P Q c) (ha1 : 0 ≤ a1 ∧ a1 ≤ 9999) (ha2 : 0 ≤ a2 ∧ a2 ≤ 9999) (ha3 : 0 ≤ a3 ∧ a3 ≤ 9999) (ha4 : 0 ≤ a4 ∧ a4 ≤ 9999) (ha5 : (-2147483648) ≤ a5 ∧ a5 ≤ 2147483647) (ha6 : (-2147483648) ≤ a6 ∧ a6 ≤ 2147483647) (ha7 : (-2147483648) ≤ a7 ∧ a7 ≤ 2147483647) (K : ∀ (c2 : ME) (y : Int), Iv u e P Q c2 → (∀ (a : Nat) (j : Int), ¬ (a = 54 ∨ a = 55) → c2 a j = c a j) → 0 ≤ y ∧ y ≤ 99 → Z (.inl (some (vi y)), Wd P Q P P c2, 0, 0)) : Wp sc (d + 10) 195 0 [(0, .ref 41), (1, vi a1), (2, vi a2), (3, vi a3), (4, vi a4), (5, vi a5), (6, vi a6), (7, vi a7)] [] (Wd P Q P P c) 0 0 Z := by
  have hP := iv_P hI
  have hQ := iv_Q hI
  refine q_aload_n c_195_0 rfl (v_gr (t := 55) c_195_1 kf_8_56 rfl (nb_ rfl) rfl (q_iconst c_195_4 (q_iload_n c_195_5 rfl (v_is c_195_6 rfl (by decide) (by decide) (by decide) (q_aload_n c_195_7 rfl (v_gr (t := 55) c_195_8 kf_8_56 rfl (nb_ rfl) rfl (q_iconst c_195_11 ?_)))))))
  refine q_iload_n c_195_12 rfl (v_is c_195_13 rfl (by decide) (by decide) (by decide) (q_aload_n c_195_14 rfl (v_gr (t := 55) c_195_15 kf_8_56 rfl (nb_ rfl) rfl (q_iconst c_195_18 (q_iload_n c_195_19 rfl (v_is c_195_20 rfl (by decide) (by decide) (by decide) (q_aload_n c_195_21 rfl ?_)))))))
  refine v_gr (t := 55) c_195_22 kf_8_56 rfl (nb_ rfl) rfl (q_iconst c_195_25 (q_iload c_195_26 rfl (v_is c_195_28 rfl (by decide) (by decide) (by decide) (q_aload_n c_195_29 rfl (v_gr (t := 55) c_195_30 kf_8_56 rfl (nb_ rfl) rfl (q_iconst c_195_33 (q_iload_n c_195_34 rfl ?_)))))))
  refine q_iload_n c_195_35 rfl (v_iadd (v := a1 + a2) c_195_36 rfl (q_iload_n c_195_37 rfl (v_iadd (v := a1 + a2 + a3) c_195_38 rfl (q_iload c_195_39 rfl (v_iadd (v := a1 + a2 + a3 + a4) c_195_41 rfl (v_is c_195_42 rfl (by decide) (by decide) (by decide) (q_aload_n c_195_43 rfl ?_)))))))
  refine v_gr (t := 55) c_195_44 kf_8_56 rfl (nb_ rfl) rfl (q_iconst c_195_47 (q_iload c_195_48 rfl (v_is c_195_50 rfl (by decide) (by decide) (by decide) (q_aload_n c_195_51 rfl (v_gr (t := 55) c_195_52 kf_8_56 rfl (nb_ rfl) rfl (v_bip c_195_55 (by decide) (q_iload c_195_57 rfl ?_)))))))
  refine v_is c_195_59 rfl (by decide) (by decide) (by decide) (q_aload_n c_195_60 rfl (v_gr (t := 55) c_195_61 kf_8_56 rfl (nb_ rfl) rfl (v_bip c_195_64 (by decide) (q_iload c_195_66 rfl (v_is c_195_68 rfl (by decide) (by decide) (by decide) (q_aload_n c_195_69 rfl ?_))))))
  have hI_1 := iw_55 (j := 0) (v := a1) hI ⟨(Int.le_trans (by decide) ha1.1), (Int.le_trans ha1.2 (by decide))⟩
  have hI_2 := iw_55 (j := 1) (v := a2) hI_1 ⟨(Int.le_trans (by decide) ha2.1), (Int.le_trans ha2.2 (by decide))⟩
  have hI_3 := iw_55 (j := 2) (v := a3) hI_2 ⟨(Int.le_trans (by decide) ha3.1), (Int.le_trans ha3.2 (by decide))⟩
  have hI_4 := iw_55 (j := 3) (v := a4) hI_3 ⟨(Int.le_trans (by decide) ha4.1), (Int.le_trans ha4.2 (by decide))⟩
  have hI_5 := iw_55 (j := 4) (v := a1 + a2 + a3 + a4) hI_4 ⟨by first | exact q_8c4697e7c ha1 ha2 ha3 ha4 | omega, by first | exact q_46d991406 ha1 ha2 ha3 ha4 | omega⟩
  have hI_6 := iw_55 (j := 5) (v := a5) hI_5 ⟨ha5.1, ha5.2⟩
  have hI_7 := iw_55 (j := 6) (v := a6) hI_6 ⟨ha6.1, ha6.2⟩
  have hI_8 := iw_55 (j := 7) (v := a7) hI_7 ⟨ha7.1, ha7.2⟩
  have h_9 : (up (up (up (up (up (up (up (up c 55 0 a1) 55 1 a2) 55 2 a3) 55 3 a4) 55 4 (a1 + a2 + a3 + a4)) 55 5 a5) 55 6 a6) 55 7 a7) 55 4 = a1 + a2 + a3 + a4 := ((up_n (by decide)).trans ((up_n (by decide)).trans ((up_n (by decide)).trans (up_e rfl))))
  have h_10 : (up (up (up (up (up (up (up (up c 55 0 a1) 55 1 a2) 55 2 a3) 55 3 a4) 55 4 (a1 + a2 + a3 + a4)) 55 5 a5) 55 6 a6) 55 7 a7) 55 0 = a1 := ((up_n (by decide)).trans ((up_n (by decide)).trans ((up_n (by decide)).trans ((up_n (by decide)).trans ((up_n (by decide)).trans ((up_n (by decide)).trans ((up_n (by decide)).trans (up_e rfl))))))))
  refine v_cv c_195_70 km_8_356 rfl rfl (nb_ rfl) ⟨⟨rfl, rfl⟩, nb_ rfl, rfl⟩ (nb_ rfl) (nb_ rfl) (s_180 hI_8 ⟨by first | exact q_3a12ae26c ha1 ha2 ha3 ha4 | omega, by first | exact q_1bb4088f7 ha1 ha2 ha3 ha4 | omega⟩ ⟨by first | exact q_c6ed8760d ha1 | omega, by first | exact q_f52da7857 ha1 | omega⟩ (fun c_11 y_14 hI_12 hF_13 hy_14 => (bk_inl (q_iret c_195_73 rfl ?_))))
  exact K c_11 y_14 hI_12 (fun a j hm => (hF_13 a j (fun h => hm (Or.inl h))).trans ((up_b (Decidable.or_iff_not_imp_left.mpr (fun h1 h2 => hm (Or.inr (Decidable.not_not.mp h1))))).trans ((up_b (Decidable.or_iff_not_imp_left.mpr (fun h1 h2 => hm (Or.inr (Decidable.not_not.mp h1))))).trans ((up_b (Decidable.or_iff_not_imp_left.mpr (fun h1 h2 => hm (Or.inr (Decidable.not_not.mp h1))))).trans ((up_b (Decidable.or_iff_not_imp_left.mpr (fun h1 h2 => hm (Or.inr (Decidable.not_not.mp h1))))).trans ((up_b (Decidable.or_iff_not_imp_left.mpr (fun h1 h2 => hm (Or.inr (Decidable.not_not.mp h1))))).trans ((up_b (Decidable.or_iff_not_imp_left.mpr (fun h1 h2 => hm (Or.inr (Decidable.not_not.mp h1))))).trans ((up_b (Decidable.or_iff_not_imp_left.mpr (fun h1 h2 => hm (Or.inr (Decidable.not_not.mp h1))))).trans (up_b (Decidable.or_iff_not_imp_left.mpr (fun h1 h2 => hm (Or.inr (Decidable.not_not.mp h1))))))))))))) hy_14

set_option maxRecDepth 100000 in
set_option maxHeartbeats 4000000 in
theorem s_196 {sc : List Int32} {e : Int} {d u P Q : Nat} {c : ME} {a1 : Int} {Z : AR → Prop} (hI : Iv u e P Q c) (ha1 : 0 ≤ a1 ∧ a1 ≤ 5) (K : ∀ (c2 : ME) (y : Int), Iv u e P Q c2 → (∀ (a : Nat) (j : Int), ¬ (a = 54 ∨ a = 55) → c2 a j = c a j) → 0 ≤ y ∧ y ≤ 99 → Z (.inl (some (vi y)), Wd P Q P P c2, 0, 0)) : Wp sc (d + 11) 196 0 [(0, .ref 41), (1, vi a1)] [] (Wd P Q P P c) 0 0 Z := by
  have hP := iv_P hI
  have hQ := iv_Q hI
  refine q_aload_n c_196_0 rfl (q_aload_n c_196_1 rfl (v_gr (t := 59) c_196_2 kf_8_68 rfl (nb_ rfl) rfl (q_iconst c_196_5 (q_iload_n c_196_6 rfl (v_imul (v := 4 * a1) c_196_7 rfl ?_)))))
  have h_1 := ir_59_g hI (j := 4 * a1) (by first | exact q_9f1d5ffdc ha1 | omega)
  refine v_ia (v := c 59 (4 * a1)) c_196_8 rfl (by decide) (by decide) ⟨by first | exact q_c065257af ha1 | omega, by first | exact q_a49915bbb ha1 | omega⟩ rfl (q_aload_n c_196_9 rfl (v_gr (t := 59) c_196_10 kf_8_68 rfl (nb_ rfl) rfl (q_iconst c_196_13 (q_iload_n c_196_14 rfl (v_imul (v := 4 * a1) c_196_15 rfl (q_iconst c_196_16 (v_iadd (v := 4 * a1 + 1) c_196_17 rfl ?_)))))))
  have h_2 := ir_59_g hI (j := 4 * a1 + 1) (by first | exact q_0a2ee6f8f ha1 | omega)
  refine v_ia (v := c 59 (4 * a1 + 1)) c_196_18 rfl (by decide) (by decide) ⟨by first | exact q_83fdbd35d ha1 | omega, by first | exact q_7a0c0a739 ha1 | omega⟩ rfl (q_aload_n c_196_19 rfl (v_gr (t := 59) c_196_20 kf_8_68 rfl (nb_ rfl) rfl (q_iconst c_196_23 (q_iload_n c_196_24 rfl (v_imul (v := 4 * a1) c_196_25 rfl (q_iconst c_196_26 (v_iadd (v := 4 * a1 + 2) c_196_27 rfl ?_)))))))
  have h_3 := ir_59_g hI (j := 4 * a1 + 2) (by first | exact q_e07a293a2 ha1 | omega)
  refine v_ia (v := c 59 (4 * a1 + 2)) c_196_28 rfl (by decide) (by decide) ⟨by first | exact q_0f37a0c6e ha1 | omega, by first | exact q_36e1404d4 ha1 | omega⟩ rfl (q_aload_n c_196_29 rfl (v_gr (t := 59) c_196_30 kf_8_68 rfl (nb_ rfl) rfl (q_iconst c_196_33 (q_iload_n c_196_34 rfl (v_imul (v := 4 * a1) c_196_35 rfl (q_iconst c_196_36 (v_iadd (v := 4 * a1 + 3) c_196_37 rfl ?_)))))))
  have h_4 := ir_59_g hI (j := 4 * a1 + 3) (by first | exact q_d09cb0b73 ha1 | omega)
  refine v_ia (v := c 59 (4 * a1 + 3)) c_196_38 rfl (by decide) (by decide) ⟨by first | exact q_f6be69137 ha1 | omega, by first | exact q_6b2d832d4 ha1 | omega⟩ rfl (q_aload_n c_196_39 rfl (v_gr (t := 59) c_196_40 kf_8_68 rfl (nb_ rfl) rfl (v_bip c_196_43 (by decide) (q_iload_n c_196_45 rfl (v_iadd (v := a1 + 24) c_196_46 (by first | exact q_1b47056ce | omega) ?_)))))
  have h_5 := ir_59 hI (a1 + 24)
  refine v_ia (v := c 59 (a1 + 24)) c_196_47 rfl (by decide) (by decide) ⟨by first | exact rgp_l ha1.1 (by decide) | omega, by first | exact q_57f615a18 ha1 | omega⟩ rfl (q_aload_n c_196_48 rfl (v_gr (t := 59) c_196_49 kf_8_68 rfl (nb_ rfl) rfl (v_bip c_196_52 (by decide) ?_)))
  have h_6 := ir_59 hI 34
  refine v_ia (v := c 59 34) c_196_54 rfl (by decide) (by decide) (by decide) rfl (q_iload_n c_196_55 rfl (v_cv c_196_56 km_8_359 rfl rfl (nb_ rfl) ⟨⟨rfl, rfl⟩, nb_ rfl, rfl⟩ (nb_ rfl) (nb_ rfl) (s_195 (a1 := c 59 (4 * a1)) (a2 := c 59 (4 * a1 + 1)) (a3 := c 59 (4 * a1 + 2)) (a4 := c 59 (4 * a1 + 3)) (a5 := c 59 (a1 + 24)) (a6 := c 59 34) (a7 := a1) hI (show 0 ≤ c 59 (4 * a1) ∧ c 59 (4 * a1) ≤ 9999 from h_1) (show 0 ≤ c 59 (4 * a1 + 1) ∧ c 59 (4 * a1 + 1) ≤ 9999 from h_2) (show 0 ≤ c 59 (4 * a1 + 2) ∧ c 59 (4 * a1 + 2) ≤ 9999 from h_3) (show 0 ≤ c 59 (4 * a1 + 3) ∧ c 59 (4 * a1 + 3) ≤ 9999 from h_4) (show (-2147483648) ≤ c 59 (a1 + 24) ∧ c 59 (a1 + 24) ≤ 2147483647 from h_5) (show (-2147483648) ≤ c 59 34 ∧ c 59 34 ≤ 2147483647 from h_6) (show (-2147483648) ≤ a1 ∧ a1 ≤ 2147483647 from ⟨(Int.le_trans (by decide) ha1.1), (Int.le_trans ha1.2 (by decide))⟩) (fun c_7 y_10 hI_8 hF_9 hy_10 => (bk_inl (q_iret c_196_59 rfl ?_))))))
  exact K c_7 y_10 hI_8 (fun a j hm => hF_9 a j hm) hy_10

set_option maxRecDepth 100000 in
set_option maxHeartbeats 4000000 in
theorem s_197 {sc : List Int32} {e : Int} {d u P Q : Nat} {c : ME} {a1 : Int} {Z : AR → Prop} (hI : Iv u e P Q c) (ha1 : 0 ≤ a1 ∧ a1 ≤ 5) (K : ∀ (c2 : ME) (y : Int), Iv u e P Q c2 → (∀ (a : Nat) (j : Int), ¬ (a = 54 ∨ a = 55) → c2 a j = c a j) → 0 ≤ y ∧ y ≤ 1 → Z (.inl (some (vi y)), Wd P Q P P c2, 0, 0)) : Wp sc (d + 12) 197 0 [(0, .ref 41), (1, vi a1)] [] (Wd P Q P P c) 0 0 Z := by
  have hP := iv_P hI
  have hQ := iv_Q hI
  refine q_aload_n c_197_0 rfl (q_iload_n c_197_1 rfl ?_)
  have h_1 := ir_59_g hI (j := 4 * a1) (by first | exact q_9f1d5ffdc ha1 | omega)
  have h_2 := ir_59_g hI (j := 4 * a1 + 1) (by first | exact q_0a2ee6f8f ha1 | omega)
  have h_3 := ir_59_g hI (j := 4 * a1 + 2) (by first | exact q_e07a293a2 ha1 | omega)
  have h_4 := ir_59_g hI (j := 4 * a1 + 3) (by first | exact q_d09cb0b73 ha1 | omega)
  refine v_cv c_197_2 km_8_343 rfl rfl (nb_ rfl) ⟨⟨rfl, rfl⟩, nb_ rfl, rfl⟩ (nb_ rfl) (nb_ rfl) (s_187 (v1 := c 59 (4 * a1)) (v2 := c 59 (4 * a1 + 1)) (v3 := c 59 (4 * a1 + 2)) (v4 := c 59 (4 * a1 + 3)) (r := c 59 (4 * a1 + 1) + c 59 (4 * a1 + 2) + c 59 (4 * a1 + 3) + c 59 (4 * a1)) (a1 := a1) hI (show 0 ≤ a1 ∧ a1 ≤ 5 from ha1) (rfl) (rfl) (rfl) (rfl) (by omega) (bk_inl ?_))
  by_cases h_5 : c 59 (4 * a1 + 1) + c 59 (4 * a1 + 2) + c 59 (4 * a1 + 3) + c 59 (4 * a1) ≤ 0
  · refine v_if_le_t (t := 22) c_197_5 rfl ⟨by first | exact q_e052ef40e h_1 h_2 h_3 h_4 | omega, h_5, by decide⟩ (q_iconst c_197_22 (v_zret c_197_23 rfl (by decide) ?_))
    exact K c 0 hI (fun a j hm => rfl) ⟨by decide, by decide⟩
  · refine v_if_le_f (t := 22) c_197_5 rfl ⟨by decide, (Int.not_le.mp h_5), by first | exact q_db9ef1f4a h_1 h_2 h_3 h_4 | omega⟩ (q_aload_n c_197_8 rfl (q_iload_n c_197_9 rfl (v_cv c_197_10 km_8_375 rfl rfl (nb_ rfl) ⟨⟨rfl, rfl⟩, nb_ rfl, rfl⟩ (nb_ rfl) (nb_ rfl) (s_196 (a1 := a1) hI (show 0 ≤ a1 ∧ a1 ≤ 5 from ha1) (fun c_6 y_9 hI_7 hF_8 hy_9 => (bk_inl (v_bip c_197_13 (by decide) ?_)))))))
    by_cases h_10 : y_9 < 50
    · refine v_ic_lt_t (t := 22) c_197_15 rfl ⟨(Int.le_trans (by decide) hy_9.1), h_10, by decide⟩ (q_iconst c_197_22 (v_zret c_197_23 rfl (by decide) ?_))
      exact K c_6 0 hI_7 (fun a j hm => hF_8 a j hm) ⟨by decide, by decide⟩
    · refine v_ic_lt_f (t := 22) c_197_15 rfl ⟨by decide, (Int.not_lt.mp h_10), (Int.le_trans hy_9.2 (by decide))⟩ (q_iconst c_197_18 (q_goto (t := 23) c_197_19 rfl (v_zret c_197_23 rfl (by decide) ?_)))
      exact K c_6 1 hI_7 (fun a j hm => hF_8 a j hm) ⟨by decide, by decide⟩

set_option maxRecDepth 100000 in
set_option maxHeartbeats 4000000 in
theorem s_198 {sc : List Int32} {d P Q : Nat} {c : ME} {a1 : Int} {Z : AR → Prop} (hI : Iv 0 (-1) P Q c) (ha1 : 0 ≤ a1 ∧ a1 ≤ 5) (K : ∀ (c2 : ME) (y : Int), Iv 0 (-1) P Q c2 → (∀ (a : Nat) (j : Int), ¬ (a = 59 ∨ a = 54 ∨ a = 55) → c2 a j = c a j) → 0 ≤ y ∧ y ≤ 1 → Z (.inl (some (vi y)), Wd P Q P P c2, 0, 0)) : Wp sc (d + 13) 198 0 [(0, .ref 41), (1, vi a1)] [] (Wd P Q P P c) 0 0 Z := by
  have hP := iv_P hI
  have hQ := iv_Q hI
  have hIo : Iv 59 (-1) P Q c := iv_open hI
  have hsum_1 := ir_59_r hI (by decide) (j := a1) (by omega)
  have h_2 := ir_59_g hI (j := 4 * a1) (by first | exact q_9f1d5ffdc ha1 | omega)
  have h_3 := ir_59_g hI (j := 4 * a1 + 1) (by first | exact q_0a2ee6f8f ha1 | omega)
  have h_4 := ir_59_g hI (j := 4 * a1 + 2) (by first | exact q_e07a293a2 ha1 | omega)
  have h_5 := ir_59_g hI (j := 4 * a1 + 3) (by first | exact q_d09cb0b73 ha1 | omega)
  refine q_aload_n c_198_0 rfl (q_iload_n c_198_1 rfl (v_cv c_198_2 km_8_378 rfl rfl (nb_ rfl) ⟨⟨rfl, rfl⟩, nb_ rfl, rfl⟩ (nb_ rfl) (nb_ rfl) (s_197 (a1 := a1) hIo (show 0 ≤ a1 ∧ a1 ≤ 5 from ha1) (fun c_6 y_9 hI_7 hF_8 hy_9 => (bk_inl ?_)))))
  by_cases h_10 : y_9 ≠ 0
  · refine v_if_ne_t (t := 10) c_198_5 rfl ⟨h_10, ⟨(Int.le_trans (by decide) hy_9.1), (Int.le_trans hy_9.2 (by decide))⟩, by decide, by decide⟩ (q_aload_n c_198_10 rfl (v_gr (t := 59) c_198_11 kf_8_68 rfl (nb_ rfl) rfl (v_bip c_198_14 (by decide) (q_dup2 c_198_16 ⟨rfl, rfl⟩ ?_))))
    have h_11 := ir_59 hI 36
    have kn_12 : Hid (c_6 59 36 = c 59 36) := hF_8 59 36 (fun q => q.elim (fun h => absurd h (nn rfl)) (fun h => absurd h (nn rfl)))
    refine v_ia (v := c 59 36) c_198_17 rfl (by decide) (by decide) (by decide) (hid kn_12) (q_aload_n c_198_18 rfl (q_iload_n c_198_19 rfl ?_))
    have kn_13 : Hid (c_6 59 (4 * a1) = c 59 (4 * a1)) := hF_8 59 (4 * a1) (fun q => q.elim (fun h => absurd h (nn rfl)) (fun h => absurd h (nn rfl)))
    have kn_14 : Hid (c_6 59 (4 * a1 + 1) = c 59 (4 * a1 + 1)) := hF_8 59 (4 * a1 + 1) (fun q => q.elim (fun h => absurd h (nn rfl)) (fun h => absurd h (nn rfl)))
    have kn_15 : Hid (c_6 59 (4 * a1 + 2) = c 59 (4 * a1 + 2)) := hF_8 59 (4 * a1 + 2) (fun q => q.elim (fun h => absurd h (nn rfl)) (fun h => absurd h (nn rfl)))
    have kn_16 : Hid (c_6 59 (4 * a1 + 3) = c 59 (4 * a1 + 3)) := hF_8 59 (4 * a1 + 3) (fun q => q.elim (fun h => absurd h (nn rfl)) (fun h => absurd h (nn rfl)))
    refine v_cv c_198_20 km_8_343 rfl rfl (nb_ rfl) ⟨⟨rfl, rfl⟩, nb_ rfl, rfl⟩ (nb_ rfl) (nb_ rfl) (s_187 (v1 := c 59 (4 * a1)) (v2 := c 59 (4 * a1 + 1)) (v3 := c 59 (4 * a1 + 2)) (v4 := c 59 (4 * a1 + 3)) (r := c 59 (4 * a1 + 1) + c 59 (4 * a1 + 2) + c 59 (4 * a1 + 3) + c 59 (4 * a1)) (a1 := a1) hI_7 (show 0 ≤ a1 ∧ a1 ≤ 5 from ha1) ((hid kn_13)) ((hid kn_14)) ((hid kn_15)) ((hid kn_16)) (by omega) (bk_inl (v_bip c_198_23 (by decide) (v_idiv (v := ((c 59 (4 * a1 + 1) + c 59 (4 * a1 + 2) + c 59 (4 * a1 + 3) + c 59 (4 * a1)) / 10)) rfl (by omega) rfl (v_iadd (v := ((c 59 (4 * a1 + 1) + c 59 (4 * a1 + 2) + c 59 (4 * a1 + 3) + c 59 (4 * a1)) / 10) + c 59 36) rfl (by first | exact q_893c89ded | omega) (v_nrm (fun y_17 hy_17 => (v_is c_198_27 rfl (by decide) (by decide) (by decide) (q_aload_n c_198_28 rfl ?_)))))))))
    refine q_iload_n c_198_29 rfl ?_
    have hI_18 := iwr1 (a := 59) (j := 36) (v := y_17) hI_7 (by decide) (by decide) ⟨hy_17.1, hy_17.2⟩
    refine v_cv c_198_30 km_8_372 rfl rfl (nb_ rfl) ⟨⟨rfl, rfl⟩, nb_ rfl, rfl⟩ (nb_ rfl) (nb_ rfl) (s_192 (a1 := a1) hI_18 (show 0 ≤ a1 ∧ a1 ≤ 5 from ha1) (fun c_19 hI_20 hF_21 h_22 => (bk_inl ?_)))
    have h_23 := ir_59_g hI_20 (j := 4 * a1 + 1) (by first | exact q_0a2ee6f8f ha1 | omega)
    have h_24 := ir_59_g hI_20 (j := 4 * a1 + 2) (by first | exact q_e07a293a2 ha1 | omega)
    have h_25 := ir_59_g hI_20 (j := 4 * a1 + 3) (by first | exact q_d09cb0b73 ha1 | omega)
    have h_26 := ir_59_g hI_20 (j := 4 * a1) (by first | exact q_9f1d5ffdc ha1 | omega)
    refine q_iconst c_198_33 (v_zret c_198_34 rfl (by decide) ?_)
    have hr_27 : ∀ j : Int, rs 59 j → c_19 59 j + c_19 59 (j + 1) + c_19 59 (j + 2) + c_19 59 (j + 3) ≤ 9999 := by
      intro j9 hj9
      obtain ⟨k9, rfl, hk9⟩ := rs_59 hj9
      by_cases e_28 : k9 = a1
      · skip
        have h_29 : c_19 59 (4 * k9) = c_19 59 (4 * a1) := (congrArg (c_19 59) (show 4 * k9 = 4 * a1 from congrArg (fun z : Int => 4 * z) e_28))
        have h_30 : c_19 59 (4 * k9 + 1) = c_19 59 (4 * a1 + 1) := (congrArg (c_19 59) (show 4 * k9 + 1 = 4 * a1 + 1 from congrArg (fun z : Int => 4 * z + 1) e_28))
        have h_31 : c_19 59 (4 * k9 + 2) = c_19 59 (4 * a1 + 2) := (congrArg (c_19 59) (show 4 * k9 + 2 = 4 * a1 + 2 from congrArg (fun z : Int => 4 * z + 2) e_28))
        have h_32 : c_19 59 (4 * k9 + 3) = c_19 59 (4 * a1 + 3) := (congrArg (c_19 59) (show 4 * k9 + 3 = 4 * a1 + 3 from congrArg (fun z : Int => 4 * z + 3) e_28))
        exact sm4 h_29 h_30 h_31 h_32 (by first | exact q_71ae66e09 h_22 | omega)
      have h_33 := iv_r hI 59 (4 * k9) hj9 (by omega)
      have h_34 := ir_59_g hI (j := 4 * k9) (by first | exact q_9f1d5ffdc hk9 | omega)
      have kn_35 : Hid (c_6 59 (4 * k9) = c 59 (4 * k9)) := hF_8 59 (4 * k9) (fun q => q.elim (fun h => absurd h (nn rfl)) (fun h => absurd h (nn rfl)))
      have kn_36 : Hid (c_19 59 (4 * k9) = c 59 (4 * k9)) := (hF_21 59 (4 * k9) (fun q => q.elim (fun h => absurd h.2 (by first | exact q_336fb6678 e_28 | omega)) (fun q => q.elim (fun h => absurd h.2 (by first | exact q_b2cb8bf87 | omega)) (fun q => q.elim (fun h => absurd h.2 (by first | exact q_c037f51da | omega)) (fun q => q.elim (fun h => absurd h.2 (by first | exact q_8ac71c5f3 | omega)) (fun h => absurd h.2 (ne_l (by first | exact q_4128697c9 ha1 hk9 | omega)))))))).trans ((up_n (ne_l (by first | exact q_f884e162b hk9 | omega))).trans (hid kn_35))
      have h_37 : c_19 59 (4 * k9) = c 59 (4 * k9) := (hid kn_36)
      have h_38 := ir_59_g hI (j := 4 * k9 + 1) (by first | exact q_0a2ee6f8f hk9 | omega)
      have kn_39 : Hid (c_6 59 (4 * k9 + 1) = c 59 (4 * k9 + 1)) := hF_8 59 (4 * k9 + 1) (fun q => q.elim (fun h => absurd h (nn rfl)) (fun h => absurd h (nn rfl)))
      have kn_40 : Hid (c_19 59 (4 * k9 + 1) = c 59 (4 * k9 + 1)) := (hF_21 59 (4 * k9 + 1) (fun q => q.elim (fun h => absurd h.2 (by first | exact q_e5bcc673e | omega)) (fun q => q.elim (fun h => absurd h.2 (by first | exact q_52b51d728 e_28 | omega)) (fun q => q.elim (fun h => absurd h.2 (by first | exact q_3650b790c | omega)) (fun q => q.elim (fun h => absurd h.2 (by first | exact q_7c6b1b09a | omega)) (fun h => absurd h.2 (ne_l (by first | exact q_8f2481ba6 ha1 hk9 | omega)))))))).trans ((up_n (ne_l (by first | exact q_7c3069b03 hk9 | omega))).trans (hid kn_39))
      have h_41 : c_19 59 (4 * k9 + 1) = c 59 (4 * k9 + 1) := (hid kn_40)
      have h_42 := ir_59_g hI (j := 4 * k9 + 2) (by first | exact q_e07a293a2 hk9 | omega)
      have kn_43 : Hid (c_6 59 (4 * k9 + 2) = c 59 (4 * k9 + 2)) := hF_8 59 (4 * k9 + 2) (fun q => q.elim (fun h => absurd h (nn rfl)) (fun h => absurd h (nn rfl)))
      have kn_44 : Hid (c_19 59 (4 * k9 + 2) = c 59 (4 * k9 + 2)) := (hF_21 59 (4 * k9 + 2) (fun q => q.elim (fun h => absurd h.2 (by first | exact q_ae83e86ba | omega)) (fun q => q.elim (fun h => absurd h.2 (by first | exact q_08c3d7060 | omega)) (fun q => q.elim (fun h => absurd h.2 (by first | exact q_27892e29e e_28 | omega)) (fun q => q.elim (fun h => absurd h.2 (by first | exact q_91c5bd343 | omega)) (fun h => absurd h.2 (ne_l (by first | exact q_04ab4010a ha1 hk9 | omega)))))))).trans ((up_n (ne_l (by first | exact q_cab7ad043 hk9 | omega))).trans (hid kn_43))
      have h_45 : c_19 59 (4 * k9 + 2) = c 59 (4 * k9 + 2) := (hid kn_44)
      have h_46 := ir_59_g hI (j := 4 * k9 + 3) (by first | exact q_d09cb0b73 hk9 | omega)
      have kn_47 : Hid (c_6 59 (4 * k9 + 3) = c 59 (4 * k9 + 3)) := hF_8 59 (4 * k9 + 3) (fun q => q.elim (fun h => absurd h (nn rfl)) (fun h => absurd h (nn rfl)))
      have kn_48 : Hid (c_19 59 (4 * k9 + 3) = c 59 (4 * k9 + 3)) := (hF_21 59 (4 * k9 + 3) (fun q => q.elim (fun h => absurd h.2 (by first | exact q_b6789388a | omega)) (fun q => q.elim (fun h => absurd h.2 (by first | exact q_6d5c6886e | omega)) (fun q => q.elim (fun h => absurd h.2 (by first | exact q_28d70e8e5 | omega)) (fun q => q.elim (fun h => absurd h.2 (by first | exact q_2db9f474b e_28 | omega)) (fun h => absurd h.2 (ne_l (by first | exact q_e782b8c3c ha1 hk9 | omega)))))))).trans ((up_n (ne_l (by first | exact q_8cd5bc852 hk9 | omega))).trans (hid kn_47))
      have h_49 : c_19 59 (4 * k9 + 3) = c 59 (4 * k9 + 3) := (hid kn_48)
      exact sm4 h_37 h_41 h_45 h_49 h_33
    have hI_50 := iv_close hI_20 hr_27
    exact K c_19 1 hI_50 (fun a j hm => (hF_21 a j (fun q => q.elim (fun h => hm (Or.inl h.1)) (fun q => q.elim (fun h => hm (Or.inl h.1)) (fun q => q.elim (fun h => hm (Or.inl h.1)) (fun q => q.elim (fun h => hm (Or.inl h.1)) (fun h => hm (Or.inl h.1))))))).trans ((up_b (Decidable.or_iff_not_imp_left.mpr (fun h1 h2 => hm (Or.inl (Decidable.not_not.mp h1))))).trans (hF_8 a j (qv_46f80e128 hm)))) ⟨by decide, by decide⟩
  · refine v_if_ne_f (t := 10) c_198_5 rfl (Decidable.not_not.mp h_10) (q_iconst c_198_8 (v_zret c_198_9 rfl (by decide) ?_))
    have hr_51 : ∀ j : Int, rs 59 j → c_6 59 j + c_6 59 (j + 1) + c_6 59 (j + 2) + c_6 59 (j + 3) ≤ 9999 := by
      intro j9 hj9
      obtain ⟨k9, rfl, hk9⟩ := rs_59 hj9
      by_cases e_52 : k9 = a1
      · skip
        have kn_53 : Hid (c_6 59 (4 * a1) = c 59 (4 * a1)) := hF_8 59 (4 * a1) (fun q => q.elim (fun h => absurd h (nn rfl)) (fun h => absurd h (nn rfl)))
        have h_54 : c_6 59 (4 * k9) = c 59 (4 * a1) := (congrArg (c_6 59) (show 4 * k9 = 4 * a1 from congrArg (fun z : Int => 4 * z) e_52)).trans (hid kn_53)
        have kn_55 : Hid (c_6 59 (4 * a1 + 1) = c 59 (4 * a1 + 1)) := hF_8 59 (4 * a1 + 1) (fun q => q.elim (fun h => absurd h (nn rfl)) (fun h => absurd h (nn rfl)))
        have h_56 : c_6 59 (4 * k9 + 1) = c 59 (4 * a1 + 1) := (congrArg (c_6 59) (show 4 * k9 + 1 = 4 * a1 + 1 from congrArg (fun z : Int => 4 * z + 1) e_52)).trans (hid kn_55)
        have kn_57 : Hid (c_6 59 (4 * a1 + 2) = c 59 (4 * a1 + 2)) := hF_8 59 (4 * a1 + 2) (fun q => q.elim (fun h => absurd h (nn rfl)) (fun h => absurd h (nn rfl)))
        have h_58 : c_6 59 (4 * k9 + 2) = c 59 (4 * a1 + 2) := (congrArg (c_6 59) (show 4 * k9 + 2 = 4 * a1 + 2 from congrArg (fun z : Int => 4 * z + 2) e_52)).trans (hid kn_57)
        have kn_59 : Hid (c_6 59 (4 * a1 + 3) = c 59 (4 * a1 + 3)) := hF_8 59 (4 * a1 + 3) (fun q => q.elim (fun h => absurd h (nn rfl)) (fun h => absurd h (nn rfl)))
        have h_60 : c_6 59 (4 * k9 + 3) = c 59 (4 * a1 + 3) := (congrArg (c_6 59) (show 4 * k9 + 3 = 4 * a1 + 3 from congrArg (fun z : Int => 4 * z + 3) e_52)).trans (hid kn_59)
        exact sm4 h_54 h_56 h_58 h_60 (by first | exact q_a5cb01eba hsum_1 | omega)
      have h_61 := iv_r hI 59 (4 * k9) hj9 (by omega)
      have h_62 := ir_59_g hI (j := 4 * k9) (by first | exact q_9f1d5ffdc hk9 | omega)
      have kn_63 : Hid (c_6 59 (4 * k9) = c 59 (4 * k9)) := hF_8 59 (4 * k9) (fun q => q.elim (fun h => absurd h (nn rfl)) (fun h => absurd h (nn rfl)))
      have h_64 : c_6 59 (4 * k9) = c 59 (4 * k9) := (hid kn_63)
      have h_65 := ir_59_g hI (j := 4 * k9 + 1) (by first | exact q_0a2ee6f8f hk9 | omega)
      have kn_66 : Hid (c_6 59 (4 * k9 + 1) = c 59 (4 * k9 + 1)) := hF_8 59 (4 * k9 + 1) (fun q => q.elim (fun h => absurd h (nn rfl)) (fun h => absurd h (nn rfl)))
      have h_67 : c_6 59 (4 * k9 + 1) = c 59 (4 * k9 + 1) := (hid kn_66)
      have h_68 := ir_59_g hI (j := 4 * k9 + 2) (by first | exact q_e07a293a2 hk9 | omega)
      have kn_69 : Hid (c_6 59 (4 * k9 + 2) = c 59 (4 * k9 + 2)) := hF_8 59 (4 * k9 + 2) (fun q => q.elim (fun h => absurd h (nn rfl)) (fun h => absurd h (nn rfl)))
      have h_70 : c_6 59 (4 * k9 + 2) = c 59 (4 * k9 + 2) := (hid kn_69)
      have h_71 := ir_59_g hI (j := 4 * k9 + 3) (by first | exact q_d09cb0b73 hk9 | omega)
      have kn_72 : Hid (c_6 59 (4 * k9 + 3) = c 59 (4 * k9 + 3)) := hF_8 59 (4 * k9 + 3) (fun q => q.elim (fun h => absurd h (nn rfl)) (fun h => absurd h (nn rfl)))
      have h_73 : c_6 59 (4 * k9 + 3) = c 59 (4 * k9 + 3) := (hid kn_72)
      exact sm4 h_64 h_67 h_70 h_73 h_61
    have hI_74 := iv_close hI_7 hr_51
    exact K c_6 0 hI_74 (fun a j hm => hF_8 a j (qv_46f80e128 hm)) ⟨by decide, by decide⟩

set_option maxRecDepth 100000 in
set_option maxHeartbeats 4000000 in
theorem s_199_l {sc : List Int32} {e : Int} {d u P Q : Nat} {c : ME} {Z : AR → Prop} (hI : Iv u e P Q c)  (K : ∀ (c2 : ME), Iv u e P Q c2 → (∀ (a : Nat) (j : Int), ¬ (a = 59) → c2 a j = c a j) → Z (.inl (none), Wd P Q P P c2, 0, 0)) : ∀ n : Nat, (∀ (c2 : ME) (v1 : Int), Iv u e P Q c2 → (∀ (a : Nat) (j : Int), ¬ (a = 59) → c2 a j = c a j) → 0 ≤ v1 ∧ v1 ≤ 6 → 13 - 2 * v1 < (n : Int) → Wp sc (d + 8) 199 2 [(0, .ref 41), (1, vi v1)] [] (Wd P Q P P c2) 0 0 Z) := by
  intro n
  induction n with
  | zero => exact (by intro c2 v1 hI2 hF hv1 hm9; have hP := iv_P hI; have hQ := iv_Q hI; exfalso; omega)
  | succ n ih =>
    have hP := iv_P hI
    have hQ := iv_Q hI
    intro c2 v1 hI2 hF hv1 hm9
    refine q_iload_n c_199_2 rfl (q_aload_n c_199_3 rfl ?_)
    have h_1 := ir_41_20 hI
    have kn_2 : Hid (c2 41 20 = c 41 20) := hF 41 20 (fun h => absurd h (nn rfl))
    refine v_gi (z := 20) (v := c 41 20) c_199_4 kf_8_157 rfl (nb_ rfl) rfl rfl (hid kn_2) ?_
    by_cases h_3 : v1 ≥ c 41 20
    · refine v_ic_ge_t (t := 41) c_199_7 rfl ⟨by first | exact q_730ab5169 h_1 | omega, h_3, (Int.le_trans hv1.2 (by decide))⟩ (q_aload_n c_199_41 rfl (v_gr (t := 59) c_199_42 kf_8_68 rfl (nb_ rfl) rfl (v_bip c_199_45 (by decide) (q_dup2 c_199_47 ⟨rfl, rfl⟩ ?_))))
      have h_4 := ir_59 hI2 34
      refine v_ia (v := c2 59 34) c_199_48 rfl (by decide) (by decide) (by decide) rfl (q_iconst c_199_49 (v_iadd (v := c2 59 34 + 1) c_199_50 rfl (v_nrm (fun y_5 hy_5 => (v_is c_199_51 rfl (by decide) (by decide) (by decide) (q_vret rfl rfl ?_))))))
      have hI_6 := iwr1 (a := 59) (j := 34) (v := y_5) hI2 (by decide) (by decide) ⟨hy_5.1, hy_5.2⟩
      exact K (up c2 59 34 y_5) hI_6 (fun a j hm => (up_b (Decidable.or_iff_not_imp_left.mpr (fun h1 h2 => hm (Decidable.not_not.mp h1)))).trans (hF a j hm))
    · refine v_ic_ge_f (t := 41) c_199_7 rfl ⟨(Int.le_trans (by decide) hv1.1), (Int.not_le.mp h_3), by first | exact q_b289b7db2 h_1 | omega⟩ (q_aload_n c_199_10 rfl (v_gr (t := 59) c_199_11 kf_8_68 rfl (nb_ rfl) rfl (v_bip c_199_14 (by decide) (q_iload_n c_199_16 rfl (v_iadd (v := v1 + 24) c_199_17 (by first | exact q_1b47056ce | omega) (q_dup2 c_199_18 ⟨rfl, rfl⟩ ?_))))))
      have h_7 := ir_59 hI2 (v1 + 24)
      refine v_ia (v := c2 59 (v1 + 24)) c_199_19 rfl (by decide) (by decide) ⟨by first | exact rgp_l hv1.1 (by decide) | omega, by first | exact q_51955fde5 hv1 | omega⟩ rfl (q_aload_n c_199_20 rfl (q_iload_n c_199_21 rfl ?_))
      have h_8 := ir_59_g hI2 (j := 4 * v1) (by first | exact q_aa51b186e h_1 h_3 | omega)
      have h_9 := ir_59_g hI2 (j := 4 * v1 + 1) (by first | exact q_57851f9de h_1 h_3 | omega)
      have h_10 := ir_59_g hI2 (j := 4 * v1 + 2) (by first | exact q_7296e74e6 h_1 h_3 | omega)
      have h_11 := ir_59_g hI2 (j := 4 * v1 + 3) (by first | exact q_b15525c4c h_1 h_3 | omega)
      refine v_cv c_199_22 km_8_343 rfl rfl (nb_ rfl) ⟨⟨rfl, rfl⟩, nb_ rfl, rfl⟩ (nb_ rfl) (nb_ rfl) (s_187 (v1 := c2 59 (4 * v1)) (v2 := c2 59 (4 * v1 + 1)) (v3 := c2 59 (4 * v1 + 2)) (v4 := c2 59 (4 * v1 + 3)) (r := c2 59 (4 * v1 + 1) + c2 59 (4 * v1 + 2) + c2 59 (4 * v1 + 3) + c2 59 (4 * v1)) (a1 := v1) hI2 (show 0 ≤ v1 ∧ v1 ≤ 5 from ⟨hv1.1, by first | exact q_d63a8538e h_1 h_3 | omega⟩) (rfl) (rfl) (rfl) (rfl) (by omega) (bk_inl ?_))
      by_cases h_12 : c2 59 (4 * v1 + 1) + c2 59 (4 * v1 + 2) + c2 59 (4 * v1 + 3) + c2 59 (4 * v1) ≤ 0
      · refine v_if_le_t (t := 32) c_199_25 rfl ⟨by first | exact q_df6958c12 h_10 h_11 h_8 h_9 | omega, h_12, by decide⟩ (q_iconst c_199_32 (v_iadd (v := c2 59 (v1 + 24)) c_199_33 (by first | exact q_7038fede5 | omega) (v_is c_199_34 rfl (by decide) (by decide) ⟨by first | exact rgp_l hv1.1 (by decide) | omega, by first | exact q_51955fde5 hv1 | omega⟩ (v_iinc (v := v1 + 1) c_199_35 rfl (nb_ rfl) rfl (q_goto (t := 2) c_199_38 rfl ?_)))))
        have hI_13 := iwr1 (a := 59) (j := v1 + 24) (v := c2 59 (v1 + 24)) hI2 (by decide) (by first | exact q_569400884 hv1 | omega) ⟨h_7.1, h_7.2⟩
        refine Wp_ls [(0, .ref 41), (1, vi (v1 + 1))] (lsub_cons rfl (lsub_cons rfl lsub_nil)) ?_
        exact ih (up c2 59 (v1 + 24) (c2 59 (v1 + 24))) (v1 + 1) hI_13 (fun a j hm => (up_b (Decidable.or_iff_not_imp_left.mpr (fun h1 h2 => hm (Decidable.not_not.mp h1)))).trans (hF a j hm)) ⟨by first | exact rgp_l hv1.1 (by decide) | omega, by first | exact q_4a76cd9c7 h_1 h_3 | omega⟩ (by omega)
      · refine v_if_le_f (t := 32) c_199_25 rfl ⟨by decide, (Int.not_le.mp h_12), by first | exact q_e2451768c h_10 h_11 h_8 h_9 | omega⟩ (q_iconst c_199_28 (q_goto (t := 33) c_199_29 rfl (v_iadd (v := c2 59 (v1 + 24) + 1) c_199_33 rfl (v_nrm (fun y_14 hy_14 => (v_is c_199_34 rfl (by decide) (by decide) ⟨by first | exact rgp_l hv1.1 (by decide) | omega, by first | exact q_51955fde5 hv1 | omega⟩ (v_iinc (v := v1 + 1) c_199_35 rfl (nb_ rfl) rfl (q_goto (t := 2) c_199_38 rfl ?_))))))))
        have hI_15 := iwr1 (a := 59) (j := v1 + 24) (v := y_14) hI2 (by decide) (by first | exact q_569400884 hv1 | omega) ⟨hy_14.1, hy_14.2⟩
        refine Wp_ls [(0, .ref 41), (1, vi (v1 + 1))] (lsub_cons rfl (lsub_cons rfl lsub_nil)) ?_
        exact ih (up c2 59 (v1 + 24) y_14) (v1 + 1) hI_15 (fun a j hm => (up_b (Decidable.or_iff_not_imp_left.mpr (fun h1 h2 => hm (Decidable.not_not.mp h1)))).trans (hF a j hm)) ⟨by first | exact rgp_l hv1.1 (by decide) | omega, by first | exact q_4a76cd9c7 h_1 h_3 | omega⟩ (by omega)
set_option maxRecDepth 100000 in
set_option maxHeartbeats 4000000 in
theorem s_199 {sc : List Int32} {e : Int} {d u P Q : Nat} {c : ME} {Z : AR → Prop} (hI : Iv u e P Q c)  (K : ∀ (c2 : ME), Iv u e P Q c2 → (∀ (a : Nat) (j : Int), ¬ (a = 59) → c2 a j = c a j) → Z (.inl (none), Wd P Q P P c2, 0, 0)) : Wp sc (d + 8) 199 0 [(0, .ref 41)] [] (Wd P Q P P c) 0 0 Z := by
  have hP := iv_P hI
  have hQ := iv_Q hI
  refine q_iconst c_199_0 (q_istore_n c_199_1 (nb_ rfl) (Wp_ls [(0, .ref 41), (1, vi 0)] (lsub_cons rfl (lsub_cons rfl lsub_nil)) ?_))
  exact (s_199_l (sc := sc) (d := d) hI K 16) c 0 hI (fun a j hm => rfl) ⟨by decide, by decide⟩ (by omega)

set_option maxRecDepth 100000 in
set_option maxHeartbeats 4000000 in
theorem s_200 {sc : List Int32} {d P Q : Nat} {c : ME} {t : Int} {Z : AR → Prop} (hI : Iv 0 (-1) P Q c) (ht : 0 ≤ t ∧ t ≤ 49) (K : ∀ (c2 : ME) (y : Int), Iv 0 (-1) P Q c2 → (∀ (a : Nat) (j : Int), ¬ (a = 59 ∨ a = 54 ∨ a = 55) → c2 a j = c a j) → 0 ≤ y ∧ y ≤ 1 → Z (.inl (some (vi y)), Wd P Q P P c2, 0, 0)) : Wp sc (d + 14) 200 0 [(0, .ref 41), (1, vi (5 * t))] [] (Wd P Q P P c) 0 0 Z := by
  have hP := iv_P hI
  have hQ := iv_Q hI
  have h_1 := ir_57 hI (5 * t)
  have h_2 := ir_57 hI (5 * t + 1)
  have h_3 := ir_57 hI (5 * t + 2)
  have h_4 := ir_ag hI (a := 57) (by omega) (t := t) (by omega) (by omega)
  have h_5 := ir_57 hI (5 * t + 3)
  have h_6 := ir_57 hI (5 * t + 4)
  have hso := ir_so (a := 57) hI (by unfold Sg; omega) (t := t) (by omega) (by omega)
  refine q_aload_n c_200_0 rfl (v_gr (t := 57) c_200_1 kf_8_62 rfl (nb_ rfl) rfl (q_iload_n c_200_4 rfl (v_ia (v := c 57 (5 * t)) c_200_5 rfl (by decide) (by decide) ⟨by first | exact q_252bfad9e ht | omega, by first | exact q_d21114de8 ht | omega⟩ rfl (q_istore_n c_200_6 (nb_ rfl) (q_aload_n c_200_7 rfl (v_gr (t := 57) c_200_8 kf_8_62 rfl (nb_ rfl) rfl (q_iload_n c_200_11 rfl ?_)))))))
  refine q_iconst c_200_12 (v_iadd (v := 5 * t + 1) c_200_13 rfl (v_ia (v := c 57 (5 * t + 1)) c_200_14 rfl (by decide) (by decide) ⟨by first | exact q_d20ef1097 ht | omega, by first | exact q_f1fca8fe8 ht | omega⟩ rfl (q_istore_n c_200_15 (nb_ rfl) (q_aload_n c_200_16 rfl (v_gr (t := 57) c_200_17 kf_8_62 rfl (nb_ rfl) rfl (q_iload_n c_200_20 rfl (q_iconst c_200_21 ?_)))))))
  refine v_iadd (v := 5 * t + 2) c_200_22 rfl (v_ia (v := c 57 (5 * t + 2)) c_200_23 rfl (by decide) (by decide) ⟨by first | exact q_72e61b4ee ht | omega, by first | exact q_0d39d56e6 ht | omega⟩ rfl (q_istore c_200_24 (nb_ rfl) (q_aload_n c_200_26 rfl (v_gr (t := 57) c_200_27 kf_8_62 rfl (nb_ rfl) rfl (q_iload_n c_200_30 rfl (q_iconst c_200_31 (v_iadd (v := 5 * t + 3) c_200_32 rfl ?_)))))))
  refine v_ia (v := c 57 (5 * t + 3)) c_200_33 rfl (by decide) (by decide) ⟨by first | exact q_1a3991cd6 ht | omega, by first | exact q_b6fa79662 ht | omega⟩ rfl (q_istore c_200_34 (nb_ rfl) (q_iload_n c_200_36 rfl ?_))
  by_cases h_7 : c 57 (5 * t) ≠ 0
  · refine v_if_ne_t (t := 48) c_200_37 rfl ⟨h_7, ⟨(Int.le_trans (by decide) h_1.1), (Int.le_trans h_1.2 (by decide))⟩, by decide, by decide⟩ (q_iload_n c_200_48 rfl (q_iconst c_200_49 ?_))
    by_cases h_8 : c 57 (5 * t) ≠ 1
    · refine v_ic_ne_t (t := 71) c_200_50 rfl ⟨h_8, ⟨(Int.le_trans (by decide) h_1.1), (Int.le_trans h_1.2 (by decide))⟩, by decide, by decide⟩ (q_iload_n c_200_71 rfl (q_iconst c_200_72 ?_))
      by_cases h_9 : c 57 (5 * t) ≠ 2
      · refine v_ic_ne_t (t := 89) c_200_73 rfl ⟨h_9, ⟨(Int.le_trans (by decide) h_1.1), (Int.le_trans h_1.2 (by decide))⟩, by decide, by decide⟩ (q_iload_n c_200_89 rfl (q_iconst c_200_90 ?_))
        by_cases h_10 : c 57 (5 * t) ≠ 3
        · refine v_ic_ne_t (t := 104) c_200_91 rfl ⟨h_10, ⟨(Int.le_trans (by decide) h_1.1), (Int.le_trans h_1.2 (by decide))⟩, by decide, by decide⟩ (q_iload_n c_200_104 rfl (q_iconst c_200_105 ?_))
          by_cases h_11 : c 57 (5 * t) ≠ 5
          · refine v_ic_ne_t (t := 115) c_200_106 rfl ⟨h_11, ⟨(Int.le_trans (by decide) h_1.1), (Int.le_trans h_1.2 (by decide))⟩, by decide, by decide⟩ (q_iload_n c_200_115 rfl (v_bip c_200_116 (by decide) ?_))
            by_cases h_12 : c 57 (5 * t) ≠ 6
            · refine v_ic_ne_t (t := 136) c_200_118 rfl ⟨h_12, ⟨(Int.le_trans (by decide) h_1.1), (Int.le_trans h_1.2 (by decide))⟩, by decide, by decide⟩ (q_iload_n c_200_136 rfl (q_iconst c_200_137 ?_))
              by_cases h_13 : c 57 (5 * t) ≠ 4
              · refine v_ic_ne_t (t := 164) c_200_138 rfl ⟨h_13, ⟨(Int.le_trans (by decide) h_1.1), (Int.le_trans h_1.2 (by decide))⟩, by decide, by decide⟩ (q_aload_n c_200_164 rfl (v_cv c_200_165 km_8_353 rfl rfl (nb_ rfl) ⟨⟨rfl, rfl⟩, nb_ rfl, rfl⟩ (nb_ rfl) (nb_ rfl) (s_199 hI (fun c_14 hI_15 hF_16 => (bk_inl (q_iconst c_200_168 (v_zret c_200_169 rfl (by decide) ?_)))))))
                exact K c_14 1 hI_15 (fun a j hm => hF_16 a j (fun h => hm (Or.inl h))) ⟨by decide, by decide⟩
              · refine v_ic_ne_f (t := 164) c_200_138 rfl (Decidable.not_not.mp h_13) (q_aload_n c_200_141 rfl (v_gr (t := 59) c_200_142 kf_8_68 rfl (nb_ rfl) rfl (v_bip c_200_145 (by decide) (q_iload_n c_200_147 rfl (v_iadd (v := c 57 (5 * t + 1) + 30) c_200_148 (by first | exact q_4b95dda05 | omega) (q_iconst c_200_149 (q_aload_n c_200_150 rfl ?_)))))))
                refine v_gr (t := 59) c_200_151 kf_8_68 rfl (nb_ rfl) rfl (v_bip c_200_154 (by decide) (q_iload_n c_200_156 rfl (v_iadd (v := c 57 (5 * t + 1) + 30) c_200_157 (by first | exact q_4b95dda05 | omega) ?_)))
                have h_17 := ir_59 hI (c 57 (5 * t + 1) + 30)
                refine v_ia (v := c 59 (c 57 (5 * t + 1) + 30)) c_200_158 rfl (by decide) (by decide) ⟨by first | exact rgp_l h_2.1 (by decide) | omega, by first | (clear ht h_1 h_2 h_3 h_5 h_6 h_17 h_4 h_7 h_8 h_9 h_10 h_11 h_12; omega) | omega⟩ rfl (v_isub (v := 1 - c 59 (c 57 (5 * t + 1) + 30)) c_200_159 (by first | exact q_b82db2e35 | omega) (v_nrm (fun y_18 hy_18 => (v_is c_200_160 rfl (by decide) (by decide) ⟨by first | exact rgp_l h_2.1 (by decide) | omega, by first | (clear ht h_1 h_2 h_3 h_5 h_6 h_17 h_4 h_7 h_8 h_9 h_10 h_11 h_12; omega) | omega⟩ (q_goto (t := 168) c_200_161 rfl (q_iconst c_200_168 (v_zret c_200_169 rfl (by decide) ?_)))))))
                have hI_19 := iwr1 (a := 59) (j := c 57 (5 * t + 1) + 30) (v := y_18) hI (by decide) (by first | exact q_a290d2e1a h_2 | omega) ⟨hy_18.1, hy_18.2⟩
                exact K (up c 59 (c 57 (5 * t + 1) + 30) y_18) 1 hI_19 (fun a j hm => up_b (Decidable.or_iff_not_imp_left.mpr (fun h1 h2 => hm (Or.inl (Decidable.not_not.mp h1))))) ⟨by decide, by decide⟩
            · refine v_ic_ne_f (t := 136) c_200_118 rfl (Decidable.not_not.mp h_12) (q_aload_n c_200_121 rfl (v_gr (t := 59) c_200_122 kf_8_68 rfl (nb_ rfl) rfl (v_bip c_200_125 (by decide) ?_)))
              have h_20 := ir_59 hI 34
              refine v_ia (v := c 59 34) c_200_127 rfl (by decide) (by decide) (by decide) rfl (v_sip c_200_128 (by decide) ?_)
              by_cases h_21 : c 59 34 < 400
              · refine v_ic_lt_t (t := 136) c_200_131 rfl ⟨h_20.1, h_21, by decide⟩ (q_iload_n c_200_136 rfl (q_iconst c_200_137 (v_ic_ne_t (t := 164) c_200_138 rfl ⟨by first | exact q_9ce06fa3c h_12 | omega, ⟨(Int.le_trans (by decide) h_1.1), (Int.le_trans h_1.2 (by decide))⟩, by decide, by decide⟩ (q_aload_n c_200_164 rfl (v_cv c_200_165 km_8_353 rfl rfl (nb_ rfl) ⟨⟨rfl, rfl⟩, nb_ rfl, rfl⟩ (nb_ rfl) (nb_ rfl) (s_199 hI (fun c_22 hI_23 hF_24 => (bk_inl (q_iconst c_200_168 ?_)))))))))
                refine v_zret c_200_169 rfl (by decide) ?_
                exact K c_22 1 hI_23 (fun a j hm => hF_24 a j (fun h => hm (Or.inl h))) ⟨by decide, by decide⟩
              · refine v_ic_lt_f (t := 136) c_200_131 rfl ⟨by decide, (Int.not_lt.mp h_21), h_20.2⟩ (q_iconst c_200_134 (v_zret c_200_135 rfl (by decide) ?_))
                exact K c 0 hI (fun a j hm => rfl) ⟨by decide, by decide⟩
          · refine v_ic_ne_f (t := 115) c_200_106 rfl (Decidable.not_not.mp h_11) (q_aload_n c_200_109 rfl (q_iload_n c_200_110 rfl (v_cv c_200_111 km_8_350 rfl rfl (nb_ rfl) ⟨⟨rfl, rfl⟩, nb_ rfl, rfl⟩ (nb_ rfl) (nb_ rfl) (s_198 (a1 := c 57 (5 * t + 1)) hI (show 0 ≤ c 57 (5 * t + 1) ∧ c 57 (5 * t + 1) ≤ 5 from ⟨h_2.1, by first | (clear ht h_1 h_2 h_3 h_5 h_6 h_4 h_7 h_8 h_9 h_10; omega) | omega⟩) (fun c_25 y_28 hI_26 hF_27 hy_28 => (bk_inl (v_zret c_200_114 rfl (by omega) ?_)))))))
            exact K c_25 y_28 hI_26 (fun a j hm => hF_27 a j hm) hy_28
        · refine v_ic_ne_f (t := 104) c_200_91 rfl (Decidable.not_not.mp h_10) (q_aload_n c_200_94 rfl (q_iload_n c_200_95 rfl (q_iload c_200_96 rfl (q_iload c_200_98 rfl (v_cv c_200_100 km_8_346 rfl rfl (nb_ rfl) ⟨⟨rfl, rfl⟩, nb_ rfl, rfl⟩ (nb_ rfl) (nb_ rfl) (s_194 (a1 := c 57 (5 * t + 1)) (a2 := c 57 (5 * t + 2)) (a3 := c 57 (5 * t + 3)) hI (show 0 ≤ c 57 (5 * t + 1) ∧ c 57 (5 * t + 1) ≤ 5 from ⟨h_2.1, by first | (clear ht h_1 h_2 h_3 h_5 h_6 h_4 h_7 h_8 h_9; omega) | omega⟩) (show 0 ≤ c 57 (5 * t + 2) ∧ c 57 (5 * t + 2) ≤ 5 from ⟨h_3.1, by first | (clear ht h_1 h_2 h_3 h_5 h_6 h_4 h_7 h_8 h_9; omega) | omega⟩) (show 0 ≤ c 57 (5 * t + 3) ∧ c 57 (5 * t + 3) ≤ 99999 from ⟨h_5.1, (Int.le_trans h_5.2 (by decide))⟩) (fun c_29 y_32 hI_30 hF_31 hy_32 => (bk_inl (v_zret c_200_103 rfl (by omega) ?_)))))))))
          exact K c_29 y_32 hI_30 (fun a j hm => hF_31 a j (fun h => hm (Or.inl h))) hy_32
      · refine v_ic_ne_f (t := 89) c_200_73 rfl (Decidable.not_not.mp h_9) (q_aload_n c_200_76 rfl (q_iload_n c_200_77 rfl (q_iload c_200_78 rfl (q_aload_n c_200_80 rfl (q_iload_n c_200_81 rfl ?_)))))
        have h_33 := ir_59_g hI (j := 4 * c 57 (5 * t + 1)) (by first | (clear ht h_1 h_2 h_3 h_5 h_6 h_4 h_7 h_8; omega) | omega)
        have h_34 := ir_59_g hI (j := 4 * c 57 (5 * t + 1) + 1) (by first | (clear ht h_1 h_2 h_3 h_5 h_6 h_33 h_4 h_7 h_8; omega) | omega)
        have h_35 := ir_59_g hI (j := 4 * c 57 (5 * t + 1) + 2) (by first | (clear ht h_1 h_2 h_3 h_5 h_6 h_33 h_34 h_4 h_7 h_8; omega) | omega)
        have h_36 := ir_59_g hI (j := 4 * c 57 (5 * t + 1) + 3) (by first | (clear ht h_1 h_2 h_3 h_5 h_6 h_33 h_34 h_35 h_4 h_7 h_8; omega) | omega)
        refine v_cv c_200_82 km_8_343 rfl rfl (nb_ rfl) ⟨⟨rfl, rfl⟩, nb_ rfl, rfl⟩ (nb_ rfl) (nb_ rfl) (s_187 (v1 := c 59 (4 * c 57 (5 * t + 1))) (v2 := c 59 (4 * c 57 (5 * t + 1) + 1)) (v3 := c 59 (4 * c 57 (5 * t + 1) + 2)) (v4 := c 59 (4 * c 57 (5 * t + 1) + 3)) (r := c 59 (4 * c 57 (5 * t + 1) + 1) + c 59 (4 * c 57 (5 * t + 1) + 2) + c 59 (4 * c 57 (5 * t + 1) + 3) + c 59 (4 * c 57 (5 * t + 1))) (a1 := c 57 (5 * t + 1)) hI (show 0 ≤ c 57 (5 * t + 1) ∧ c 57 (5 * t + 1) ≤ 5 from ⟨h_2.1, by first | (clear ht h_1 h_2 h_3 h_5 h_6 h_4 h_7 h_8; omega) | omega⟩) ((congrArg (c 59) (show 4 * (c 57 (5 * t + 1)) = 4 * c 57 (5 * t + 1) from by first | exact q_4654d868a | assumption | exact Int.le_antisymm (by omega) (by omega)))) ((congrArg (c 59) (show 4 * (c 57 (5 * t + 1)) + 1 = 4 * c 57 (5 * t + 1) + 1 from by first | exact q_2052a6d5e | assumption | exact Int.le_antisymm (by omega) (by omega)))) ((congrArg (c 59) (show 4 * (c 57 (5 * t + 1)) + 2 = 4 * c 57 (5 * t + 1) + 2 from by first | exact q_92c47a6ea | assumption | exact Int.le_antisymm (by omega) (by omega)))) ((congrArg (c 59) (show 4 * (c 57 (5 * t + 1)) + 3 = 4 * c 57 (5 * t + 1) + 3 from by first | exact q_1a023eec4 | assumption | exact Int.le_antisymm (by omega) (by omega)))) (by omega) (bk_inl ?_))
        refine v_cv c_200_85 km_8_346 rfl rfl (nb_ rfl) ⟨⟨rfl, rfl⟩, nb_ rfl, rfl⟩ (nb_ rfl) (nb_ rfl) (s_194 (a1 := c 57 (5 * t + 1)) (a2 := c 57 (5 * t + 2)) (a3 := c 59 (4 * c 57 (5 * t + 1) + 1) + c 59 (4 * c 57 (5 * t + 1) + 2) + c 59 (4 * c 57 (5 * t + 1) + 3) + c 59 (4 * c 57 (5 * t + 1))) hI (show 0 ≤ c 57 (5 * t + 1) ∧ c 57 (5 * t + 1) ≤ 5 from ⟨h_2.1, by first | (clear ht h_1 h_2 h_3 h_5 h_6 h_33 h_34 h_35 h_36 h_4 h_7 h_8; omega) | omega⟩) (show 0 ≤ c 57 (5 * t + 2) ∧ c 57 (5 * t + 2) ≤ 5 from ⟨h_3.1, by first | (clear ht h_1 h_2 h_3 h_5 h_6 h_33 h_34 h_35 h_36 h_4 h_7 h_8; omega) | omega⟩) (show 0 ≤ c 59 (4 * c 57 (5 * t + 1) + 1) + c 59 (4 * c 57 (5 * t + 1) + 2) + c 59 (4 * c 57 (5 * t + 1) + 3) + c 59 (4 * c 57 (5 * t + 1)) ∧ c 59 (4 * c 57 (5 * t + 1) + 1) + c 59 (4 * c 57 (5 * t + 1) + 2) + c 59 (4 * c 57 (5 * t + 1) + 3) + c 59 (4 * c 57 (5 * t + 1)) ≤ 99999 from ⟨by first | exact q_039f89af9 h_33 h_34 h_35 h_36 | omega, by first | exact q_386a854c4 h_33 h_34 h_35 h_36 | omega⟩) (fun c_37 y_40 hI_38 hF_39 hy_40 => (bk_inl (v_zret c_200_88 rfl (by omega) ?_))))
        exact K c_37 y_40 hI_38 (fun a j hm => hF_39 a j (fun h => hm (Or.inl h))) hy_40
    · refine v_ic_ne_f (t := 71) c_200_50 rfl (Decidable.not_not.mp h_8) (q_aload_n c_200_53 rfl (q_iload_n c_200_54 rfl (q_iload c_200_55 rfl (q_iload c_200_57 rfl (q_aload_n c_200_59 rfl (v_gr (t := 57) c_200_60 kf_8_62 rfl (nb_ rfl) rfl (q_iload_n c_200_63 rfl ?_)))))))
      refine q_iconst c_200_64 (v_iadd (v := 5 * t + 4) c_200_65 rfl (v_ia (v := c 57 (5 * t + 4)) c_200_66 rfl (by decide) (by decide) ⟨by first | exact q_23dd42f95 ht | omega, by first | exact q_50bb9b2d7 ht | omega⟩ rfl (v_cv c_200_67 km_8_339 rfl rfl (nb_ rfl) ⟨⟨rfl, rfl⟩, nb_ rfl, rfl⟩ (nb_ rfl) (nb_ rfl) (s_193 (a1 := c 57 (5 * t + 1)) (a2 := c 57 (5 * t + 2)) (a3 := c 57 (5 * t + 3)) (a4 := c 57 (5 * t + 4)) hI (show 0 ≤ c 57 (5 * t + 1) ∧ c 57 (5 * t + 1) ≤ 3 from ⟨h_2.1, by first | (clear ht h_1 h_2 h_3 h_5 h_6 h_4 h_7; omega) | omega⟩) (show 0 ≤ c 57 (5 * t + 2) ∧ c 57 (5 * t + 2) ≤ 5 from ⟨h_3.1, by first | (clear ht h_1 h_2 h_3 h_5 h_6 h_4 h_7; omega) | omega⟩) (show 0 ≤ c 57 (5 * t + 3) ∧ c 57 (5 * t + 3) ≤ 5 from ⟨h_5.1, by first | (clear ht h_1 h_2 h_3 h_5 h_6 h_4 h_7; omega) | omega⟩) (show 0 ≤ c 57 (5 * t + 4) ∧ c 57 (5 * t + 4) ≤ 5 from ⟨h_6.1, by first | (clear ht h_1 h_2 h_3 h_5 h_6 h_4 h_7; omega) | omega⟩) (fun c_41 y_44 hI_42 hF_43 hy_44 => (bk_inl (v_zret c_200_70 rfl (by omega) ?_)))))))
      exact K c_41 y_44 hI_42 (fun a j hm => hF_43 a j (fun h => hm (Or.inl h))) hy_44
  · refine v_if_ne_f (t := 48) c_200_37 rfl (Decidable.not_not.mp h_7) (q_aload_n c_200_40 rfl (q_iload_n c_200_41 rfl (q_iload c_200_42 rfl (v_cv c_200_44 km_8_335 rfl rfl (nb_ rfl) ⟨⟨rfl, rfl⟩, nb_ rfl, rfl⟩ (nb_ rfl) (nb_ rfl) (s_188 (a1 := c 57 (5 * t + 1)) (a2 := c 57 (5 * t + 2)) hI (show 0 ≤ c 57 (5 * t + 1) ∧ c 57 (5 * t + 1) ≤ 3 from ⟨h_2.1, by first | (clear ht h_1 h_2 h_3 h_5 h_6 h_4; omega) | omega⟩) (show 0 ≤ c 57 (5 * t + 2) ∧ c 57 (5 * t + 2) ≤ 5 from ⟨h_3.1, by first | (clear ht h_1 h_2 h_3 h_5 h_6 h_4; omega) | omega⟩) (fun c_45 y_48 hI_46 hF_47 hy_48 => (bk_inl (v_zret c_200_47 rfl (by omega) ?_))))))))
    exact K c_45 y_48 hI_46 (fun a j hm => hF_47 a j (fun h => hm (Or.inl h))) hy_48

set_option maxRecDepth 100000 in
set_option maxHeartbeats 4000000 in
theorem s_201_l {sc : List Int32} {d P Q : Nat} {c : ME} {t : Int} {a2 : Int} {Z : AR → Prop} (hI : Iv 0 (-1) P Q c) (ht : 0 ≤ t ∧ t ≤ 50) (ha2 : 0 ≤ a2 ∧ a2 ≤ 250) (H201 : ∀ (c : ME) (t2 : Int) (a2 : Int) (z : Int) (Z : AR → Prop), (t + 1 ≤ t2 ∧ t2 ≤ 50) ∧ z = 5 * t2 → Iv 0 (-1) P Q c → 0 ≤ a2 ∧ a2 ≤ 250 → (∀ c2 : ME, Iv 0 (-1) P Q c2 → (∀ (a : Nat) (j : Int), ¬ ((a = 41 ∧ j = 37) ∨ (a = 41 ∧ j = 38) ∨ (a = 41 ∧ j = 39) ∨ a = 59 ∨ a = 54 ∨ a = 55) → c2 a j = c a j) → (c2 41 37 ≥ c 41 37) → Z (.inl none, Wd P Q P P c2, 0, 0)) → Wp sc (d + 15) 201 0 [(0, .ref 41), (1, vi z), (2, vi a2)] [] (Wd P Q P P c) 0 0 Z) (K : ∀ (c2 : ME), Iv 0 (-1) P Q c2 → (∀ (a : Nat) (j : Int), ¬ ((a = 41 ∧ j = 37) ∨ (a = 41 ∧ j = 38) ∨ (a = 41 ∧ j = 39) ∨ a = 59 ∨ a = 54 ∨ a = 55) → c2 a j = c a j) → ((c2 41 37 ≥ c 41 37)) → Z (.inl (none), Wd P Q P P c2, 0, 0)) : ∀ n : Nat, (∀ (c2 : ME) (v3 : Int), Iv 0 (-1) P Q c2 → (∀ (a : Nat) (j : Int), ¬ ((a = 41 ∧ j = 37) ∨ (a = 41 ∧ j = 38) ∨ (a = 41 ∧ j = 39) ∨ a = 59 ∨ a = 54 ∨ a = 55) → c2 a j = c a j) → 0 ≤ v3 ∧ v3 ≤ 50 → ((c2 41 37 ≥ c 41 37)) → ((v3 ≥ t)) → 40002000 - 200010 * c2 41 37 < (n : Int) → Wp sc (d + 16) 201 2 [(0, .ref 41), (1, vi (5 * t)), (2, vi a2), (3, vi (5 * v3))] [] (Wd P Q P P c2) 0 0 Z) ∧ (∀ (c2 : ME) (v3 : Int) (v4 : Int) (v5 : Int), Iv 0 (-1) P Q c2 → (∀ (a : Nat) (j : Int), ¬ ((a = 41 ∧ j = 37) ∨ (a = 41 ∧ j = 38) ∨ (a = 41 ∧ j = 39) ∨ a = 59 ∨ a = 54 ∨ a = 55) → c2 a j = c a j) → 0 ≤ v3 ∧ v3 ≤ 49 → 0 ≤ v4 ∧ v4 ≤ 50 → 0 ≤ v5 ∧ v5 ≤ 999 → ((c2 41 37 ≥ c 41 37)) → ((v3 ≥ t)) → ((v4 ≥ v3 + 1)) → 40202003 - 200010 * c2 41 37 - 2 * v5 < (n : Int) → Wp sc (d + 16) 201 51 [(0, .ref 41), (1, vi (5 * t)), (2, vi a2), (3, vi (5 * v3)), (4, vi (5 * v4)), (5, vi v5)] [] (Wd P Q P P c2) 0 0 Z) := by
  intro n
  induction n with
  | zero => exact (by exact ⟨by (intro c2 v3 hI2 hF hv3 hx0 hx1 hm9; have hP := iv_P hI; have hQ := iv_Q hI; have h_46 := ir_41_37 hI2; exfalso; omega), by (intro c2 v3 v4 v5 hI2 hF hv3 hv4 hv5 hx0 hx1 hx2 hm9; have hP := iv_P hI; have hQ := iv_Q hI; have h_47 := ir_41_37 hI2; exfalso; omega)⟩)
  | succ n ih =>
    have hP := iv_P hI
    have hQ := iv_Q hI
    refine ⟨?_, ?_⟩
    · skip
      intro c2 v3 hI2 hF hv3 hx0 hx1 hm9
      have h_1 := ir_41_37 hI
      have h_2 := ir_41_37 hI2
      refine q_iload_n c_201_2 rfl (q_iload_n c_201_3 rfl ?_)
      by_cases h_3 : 5 * v3 ≥ a2
      · refine v_ic_ge_t (t := 132) c_201_4 rfl ⟨(Int.le_trans (by decide) ha2.1), h_3, by first | exact q_4eed03022 hv3 | omega⟩ (q_vret rfl rfl ?_)
        exact K c2 hI2 (fun a j hm => hF a j hm) (by omega)
      · refine v_ic_ge_f (t := 132) c_201_4 rfl ⟨by first | exact q_f276f79c5 hv3 | omega, (Int.not_le.mp h_3), (Int.le_trans ha2.2 (by decide))⟩ (q_aload_n c_201_7 rfl (v_gi (z := 37) (v := c2 41 37) c_201_8 kf_8_320 rfl (nb_ rfl) rfl rfl rfl (v_sip c_201_11 (by decide) ?_)))
        by_cases h_4 : c2 41 37 ≥ 200
        · refine v_ic_ge_t (t := 132) c_201_14 rfl ⟨by decide, h_4, (Int.le_trans h_2.2 (by decide))⟩ (q_vret rfl rfl ?_)
          exact K c2 hI2 (fun a j hm => hF a j hm) (by omega)
        · refine v_ic_ge_f (t := 132) c_201_14 rfl ⟨(Int.le_trans (by decide) h_2.1), (Int.not_le.mp h_4), by decide⟩ (q_aload_n c_201_17 rfl (q_dup c_201_18 rfl (v_gi (z := 37) (v := c2 41 37) c_201_19 kf_8_320 rfl (nb_ rfl) rfl rfl rfl (q_iconst c_201_22 (v_iadd (v := c2 41 37 + 1) c_201_23 rfl (v_pi (z := 37) c_201_24 kf_8_320 rfl (nb_ rfl) rfl rfl rfl (by decide) (q_aload_n c_201_27 rfl ?_)))))))
          refine v_gr (t := 57) c_201_28 kf_8_62 rfl (nb_ rfl) rfl (q_iload_n c_201_31 rfl ?_)
          have h_5 := ir_57 hI (5 * v3)
          have kn_6 : Hid (c2 57 (5 * v3) = c 57 (5 * v3)) := hF 57 (5 * v3) qn_d2085ee3f
          refine v_ia (v := c 57 (5 * v3)) c_201_32 rfl (by decide) (by decide) ⟨by first | exact q_31473b65c hv3 | omega, by first | exact q_ef94ce899 h_3 ha2 | omega⟩ ((up_c (nn rfl)).trans (hid kn_6)) (v_bip c_201_33 (by decide) ?_)
          by_cases h_7 : c 57 (5 * v3) ≠ 7
          · refine v_ic_ne_t (t := 95) c_201_35 rfl ⟨h_7, ⟨by first | exact q_03affaadb h_5 | omega, by first | exact q_cbd2526de h_5 | omega⟩, by decide, by decide⟩ (q_aload_n c_201_95 rfl (q_iload_n c_201_96 rfl ?_))
            have hI_8 := iw_41_37 (v := c2 41 37 + 1) hI2 ⟨by first | exact rgp_l h_2.1 (by decide) | omega, by first | exact q_6a4e5184f h_4 | omega⟩
            refine v_cv c_201_97 km_8_332 rfl rfl (nb_ rfl) ⟨⟨rfl, rfl⟩, nb_ rfl, rfl⟩ (nb_ rfl) (nb_ rfl) (s_200 (t := v3) hI_8 (show 0 ≤ v3 ∧ v3 ≤ 49 from by omega) (fun c_9 y_12 hI_10 hF_11 hy_12 => (bk_inl ?_)))
            by_cases h_13 : y_12 = 0
            · refine v_if_eq_t (t := 116) c_201_100 rfl h_13 (q_aload_n c_201_116 rfl (q_dup c_201_117 rfl ?_))
              have h_14 := ir_41_39 hI2
              have kn_15 : Hid (c_9 41 39 = c2 41 39) := (hF_11 41 39 qn_3259694f0).trans (up_n (by decide))
              refine v_gi (z := 39) (v := c2 41 39) c_201_118 kf_8_326 rfl (nb_ rfl) rfl rfl (hid kn_15) (q_iconst c_201_121 (v_iadd (v := c2 41 39 + 1) c_201_122 rfl (v_nrm (fun y_16 hy_16 => (v_pi (z := 39) c_201_123 kf_8_326 rfl (nb_ rfl) rfl rfl rfl (by decide) (v_iinc (v := 5 * v3 + 5) c_201_126 rfl (nb_ rfl) rfl (q_goto (t := 2) c_201_129 rfl ?_)))))))
              have e_17 : 5 * v3 + 5 = 5 * (v3 + 1) := by omega
              have hI_18 := iw_41_39 (v := y_16) hI_10 ⟨hy_16.1, hy_16.2⟩
              refine Wp_ls [(0, .ref 41), (1, vi (5 * t)), (2, vi a2), (3, vi (5 * (v3 + 1)))] (lsub_cons rfl (lsub_cons rfl (lsub_cons rfl (lsub_cons (congrArg (fun w9 => some (vi w9)) e_17) lsub_nil)))) ?_
              have kn_19 : Hid (c_9 41 37 = c2 41 37 + 1) := (hF_11 41 37 qn_3259694f0).trans (up_e rfl)
              have h_20 : (up c_9 41 39 y_16) 41 37 = c2 41 37 + 1 := ((up_n (by decide)).trans (hid kn_19))
              exact ih.1 (up c_9 41 39 y_16) (v3 + 1) hI_18 (fun a j hm => (up_b (Decidable.or_iff_not_imp_left.mpr (fun h1 h2 => hm (Or.inr (Or.inr (Or.inl ⟨Decidable.not_not.mp h1, h2⟩)))))).trans ((hF_11 a j (qv_ba7f77c60 hm)).trans ((up_b (Decidable.or_iff_not_imp_left.mpr (fun h1 h2 => hm (Or.inl ⟨Decidable.not_not.mp h1, h2⟩)))).trans (hF a j hm)))) ⟨by first | exact rgp_l hv3.1 (by decide) | omega, by first | exact q_934b18d73 h_3 ha2 | omega⟩ (by first | (clear ht ha2 hv3 hx1 h_1 h_2 h_3 h_4 h_5 h_13 h_14 h_7; omega) | omega) (by first | (clear ht ha2 hv3 hx0 h_1 h_2 h_3 h_4 h_5 h_13 h_14 h_7; omega) | omega) (by omega)
            · refine v_if_eq_f (t := 116) c_201_100 rfl ⟨h_13, ⟨(Int.le_trans (by decide) hy_12.1), (Int.le_trans hy_12.2 (by decide))⟩, by decide, by decide⟩ (q_aload_n c_201_103 rfl (q_dup c_201_104 rfl ?_))
              have h_21 := ir_41_38 hI2
              have kn_22 : Hid (c_9 41 38 = c2 41 38) := (hF_11 41 38 qn_3259694f0).trans (up_n (by decide))
              refine v_gi (z := 38) (v := c2 41 38) c_201_105 kf_8_323 rfl (nb_ rfl) rfl rfl (hid kn_22) (q_iconst c_201_108 (v_iadd (v := c2 41 38 + 1) c_201_109 rfl (v_nrm (fun y_23 hy_23 => (v_pi (z := 38) c_201_110 kf_8_323 rfl (nb_ rfl) rfl rfl rfl (by decide) (q_goto (t := 126) c_201_113 rfl (v_iinc (v := 5 * v3 + 5) c_201_126 rfl (nb_ rfl) rfl (q_goto (t := 2) c_201_129 rfl ?_))))))))
              have e_24 : 5 * v3 + 5 = 5 * (v3 + 1) := by omega
              have hI_25 := iw_41_38 (v := y_23) hI_10 ⟨hy_23.1, hy_23.2⟩
              refine Wp_ls [(0, .ref 41), (1, vi (5 * t)), (2, vi a2), (3, vi (5 * (v3 + 1)))] (lsub_cons rfl (lsub_cons rfl (lsub_cons rfl (lsub_cons (congrArg (fun w9 => some (vi w9)) e_24) lsub_nil)))) ?_
              have kn_26 : Hid (c_9 41 37 = c2 41 37 + 1) := (hF_11 41 37 qn_3259694f0).trans (up_e rfl)
              have h_27 : (up c_9 41 38 y_23) 41 37 = c2 41 37 + 1 := ((up_n (by decide)).trans (hid kn_26))
              exact ih.1 (up c_9 41 38 y_23) (v3 + 1) hI_25 (fun a j hm => (up_b (Decidable.or_iff_not_imp_left.mpr (fun h1 h2 => hm (Or.inr (Or.inl ⟨Decidable.not_not.mp h1, h2⟩))))).trans ((hF_11 a j (qv_ba7f77c60 hm)).trans ((up_b (Decidable.or_iff_not_imp_left.mpr (fun h1 h2 => hm (Or.inl ⟨Decidable.not_not.mp h1, h2⟩)))).trans (hF a j hm)))) ⟨by first | exact rgp_l hv3.1 (by decide) | omega, by first | exact q_934b18d73 h_3 ha2 | omega⟩ (by first | (clear ht ha2 hv3 hx1 h_1 h_2 h_3 h_4 h_5 h_21 h_7 h_13; omega) | omega) (by first | (clear ht ha2 hv3 hx0 h_1 h_2 h_3 h_4 h_5 h_21 h_7 h_13; omega) | omega) (by omega)
          · refine v_ic_ne_f (t := 95) c_201_35 rfl (Decidable.not_not.mp h_7) (q_aload_n c_201_38 rfl (v_gr (t := 57) c_201_39 kf_8_62 rfl (nb_ rfl) rfl (q_iload_n c_201_42 rfl (q_iconst c_201_43 (v_iadd (v := 5 * v3 + 2) c_201_44 rfl ?_)))))
            have h_28 := ir_57 hI (5 * v3 + 2)
            have h_29 := ir_ag hI (a := 57) (by omega) (t := v3) (by omega) (by omega)
            have kn_30 : Hid (c2 57 (5 * v3 + 2) = c 57 (5 * v3 + 2)) := hF 57 (5 * v3 + 2) qn_d2085ee3f
            refine v_ia (v := c 57 (5 * v3 + 2)) c_201_45 rfl (by decide) (by decide) ⟨by first | exact q_63dfe5ad8 hv3 | omega, by first | exact q_42fde05c4 h_3 ha2 | omega⟩ ((up_c (nn rfl)).trans (hid kn_30)) (q_istore c_201_46 (nb_ rfl) (q_iconst c_201_48 (q_istore c_201_49 (nb_ rfl) ?_)))
            obtain ⟨z_31, e_32⟩ : ∃ z : Int, c 57 (5 * v3 + 2) = 5 * z := ⟨(c 57 (5 * v3 + 2)) / 5, by omega⟩
            have hI_33 := iw_41_37 (v := c2 41 37 + 1) hI2 ⟨by first | exact rgp_l h_2.1 (by decide) | omega, by first | exact q_6a4e5184f h_4 | omega⟩
            refine Wp_ls [(0, .ref 41), (1, vi (5 * t)), (2, vi a2), (3, vi (5 * v3)), (4, vi (5 * z_31)), (5, vi 0)] (lsub_cons rfl (lsub_cons rfl (lsub_cons rfl (lsub_cons rfl (lsub_cons (congrArg (fun w9 => some (vi w9)) e_32) (lsub_cons rfl lsub_nil)))))) ?_
            have h_34 : (up c2 41 37 (c2 41 37 + 1)) 41 37 = c2 41 37 + 1 := (up_e rfl)
            exact ih.2 (up c2 41 37 (c2 41 37 + 1)) v3 z_31 0 hI_33 (fun a j hm => (up_b (Decidable.or_iff_not_imp_left.mpr (fun h1 h2 => hm (Or.inl ⟨Decidable.not_not.mp h1, h2⟩)))).trans (hF a j hm)) ⟨hv3.1, by first | exact q_76860e3de h_3 ha2 | omega⟩ ⟨by first | (clear ht ha2 hv3 hx0 hx1 h_1 h_2 h_3 h_4 h_5 h_7 h_29; omega) | omega, by first | (clear ht ha2 hv3 hx0 hx1 h_1 h_2 h_3 h_4 h_5 h_28; omega) | omega⟩ ⟨by decide, by decide⟩ (by first | (clear ht ha2 hv3 hx1 h_1 h_2 h_3 h_4 h_5 h_7 h_28 h_29; omega) | omega) (by first | (clear ht ha2 hv3 hx0 h_1 h_2 h_3 h_4 h_5 h_7 h_28 h_29; omega) | omega) (by first | (clear ht ha2 hv3 hx0 hx1 h_1 h_2 h_3 h_4 h_5 h_28; omega) | omega) (by omega)
    · skip
      intro c2 v3 v4 v5 hI2 hF hv3 hv4 hv5 hx0 hx1 hx2 hm9
      have h_35 := ir_41_37 hI
      have h_36 := ir_41_37 hI2
      refine q_iload c_201_51 rfl (q_aload_n c_201_53 rfl (v_gr (t := 57) c_201_54 kf_8_62 rfl (nb_ rfl) rfl (q_iload_n c_201_57 rfl (q_iconst c_201_58 (v_iadd (v := 5 * v3 + 1) c_201_59 rfl ?_)))))
      have h_37 := ir_57 hI (5 * v3 + 1)
      have kn_38 : Hid (c2 57 (5 * v3 + 1) = c 57 (5 * v3 + 1)) := hF 57 (5 * v3 + 1) qn_d2085ee3f
      refine v_ia (v := c 57 (5 * v3 + 1)) c_201_60 rfl (by decide) (by decide) ⟨by first | exact q_d20ef1097 hv3 | omega, by first | exact q_f1fca8fe8 hv3 | omega⟩ (hid kn_38) ?_
      by_cases h_39 : v5 ≥ c 57 (5 * v3 + 1)
      · refine v_ic_ge_t (t := 89) c_201_61 rfl ⟨by first | exact q_03affaadb h_37 | omega, h_39, (Int.le_trans hv5.2 (by decide))⟩ (q_iload c_201_89 rfl (q_istore_n c_201_91 (nb_ rfl) (q_goto (t := 2) c_201_92 rfl (Wp_ls [(0, .ref 41), (1, vi (5 * t)), (2, vi a2), (3, vi (5 * v4))] (lsub_cons rfl (lsub_cons rfl (lsub_cons rfl (lsub_cons rfl lsub_nil)))) ?_))))
        exact ih.1 c2 v4 hI2 (fun a j hm => hF a j hm) hv4 (by omega) (by omega) (by omega)
      · refine v_ic_ge_f (t := 89) c_201_61 rfl ⟨(Int.le_trans (by decide) hv5.1), (Int.not_le.mp h_39), by first | exact q_cbd2526de h_37 | omega⟩ (q_aload_n c_201_64 rfl (v_gi (z := 37) (v := c2 41 37) c_201_65 kf_8_320 rfl (nb_ rfl) rfl rfl rfl (v_sip c_201_68 (by decide) ?_)))
        by_cases h_40 : c2 41 37 ≥ 200
        · refine v_ic_ge_t (t := 89) c_201_71 rfl ⟨by decide, h_40, (Int.le_trans h_36.2 (by decide))⟩ (q_iload c_201_89 rfl (q_istore_n c_201_91 (nb_ rfl) (q_goto (t := 2) c_201_92 rfl (Wp_ls [(0, .ref 41), (1, vi (5 * t)), (2, vi a2), (3, vi (5 * v4))] (lsub_cons rfl (lsub_cons rfl (lsub_cons rfl (lsub_cons rfl lsub_nil)))) ?_))))
          exact ih.1 c2 v4 hI2 (fun a j hm => hF a j hm) hv4 (by omega) (by omega) (by omega)
        · refine v_ic_ge_f (t := 89) c_201_71 rfl ⟨(Int.le_trans (by decide) h_36.1), (Int.not_le.mp h_40), by decide⟩ (q_aload_n c_201_74 rfl (q_iload_n c_201_75 rfl (q_iconst c_201_76 (v_iadd (v := 5 * v3 + 5) c_201_77 rfl (q_iload c_201_78 rfl (v_cv c_201_80 km_8_329 rfl rfl (nb_ rfl) ⟨⟨rfl, rfl⟩, nb_ rfl, rfl⟩ (nb_ rfl) (nb_ rfl) (H201 _ (v3 + 1) (5 * v4) _ _ (by omega) hI2 (by omega) (fun c_41 hI_42 hF_43 h_44 => (bk_inl ?_)))))))))
          have h_45 := ir_41_37 hI_42
          refine v_iinc (v := v5 + 1) c_201_83 rfl (nb_ rfl) rfl (q_goto (t := 51) c_201_86 rfl (Wp_ls [(0, .ref 41), (1, vi (5 * t)), (2, vi a2), (3, vi (5 * v3)), (4, vi (5 * v4)), (5, vi (v5 + 1))] (lsub_cons rfl (lsub_cons rfl (lsub_cons rfl (lsub_cons rfl (lsub_cons rfl (lsub_cons rfl lsub_nil)))))) ?_))
          exact ih.2 c_41 v3 v4 (v5 + 1) hI_42 (fun a j hm => (hF_43 a j hm).trans (hF a j hm)) hv3 hv4 ⟨by first | exact rgp_l hv5.1 (by decide) | omega, by first | exact q_2558f8dc6 h_37 h_39 | omega⟩ (by first | (clear ht ha2 hv3 hv4 hv5 hx1 hx2 h_35 h_36 h_37 h_39 h_40 h_45; omega) | omega) (by first | (clear ht ha2 hv3 hv4 hv5 hx0 hx2 h_35 h_36 h_37 h_39 h_40 h_45 h_44; omega) | omega) (by first | (clear ht ha2 hv3 hv4 hv5 hx0 hx1 h_35 h_36 h_37 h_39 h_40 h_45 h_44; omega) | omega) (by omega)
set_option maxRecDepth 100000 in
set_option maxHeartbeats 4000000 in
theorem s_201 {sc : List Int32} {d P Q : Nat} {c : ME} {t : Int} {a2 : Int} {Z : AR → Prop} (hI : Iv 0 (-1) P Q c) (ht : 0 ≤ t ∧ t ≤ 50) (ha2 : 0 ≤ a2 ∧ a2 ≤ 250) (H201 : ∀ (c : ME) (t2 : Int) (a2 : Int) (z : Int) (Z : AR → Prop), (t + 1 ≤ t2 ∧ t2 ≤ 50) ∧ z = 5 * t2 → Iv 0 (-1) P Q c → 0 ≤ a2 ∧ a2 ≤ 250 → (∀ c2 : ME, Iv 0 (-1) P Q c2 → (∀ (a : Nat) (j : Int), ¬ ((a = 41 ∧ j = 37) ∨ (a = 41 ∧ j = 38) ∨ (a = 41 ∧ j = 39) ∨ a = 59 ∨ a = 54 ∨ a = 55) → c2 a j = c a j) → (c2 41 37 ≥ c 41 37) → Z (.inl none, Wd P Q P P c2, 0, 0)) → Wp sc (d + 15) 201 0 [(0, .ref 41), (1, vi z), (2, vi a2)] [] (Wd P Q P P c) 0 0 Z) (K : ∀ (c2 : ME), Iv 0 (-1) P Q c2 → (∀ (a : Nat) (j : Int), ¬ ((a = 41 ∧ j = 37) ∨ (a = 41 ∧ j = 38) ∨ (a = 41 ∧ j = 39) ∨ a = 59 ∨ a = 54 ∨ a = 55) → c2 a j = c a j) → ((c2 41 37 ≥ c 41 37)) → Z (.inl (none), Wd P Q P P c2, 0, 0)) : Wp sc (d + 16) 201 0 [(0, .ref 41), (1, vi (5 * t)), (2, vi a2)] [] (Wd P Q P P c) 0 0 Z := by
  have hP := iv_P hI
  have hQ := iv_Q hI
  refine q_iload_n c_201_0 rfl (q_istore_n c_201_1 (nb_ rfl) (Wp_ls [(0, .ref 41), (1, vi (5 * t)), (2, vi a2), (3, vi (5 * t))] (lsub_cons rfl (lsub_cons rfl (lsub_cons rfl (lsub_cons rfl lsub_nil)))) ?_))
  have h_48 := ir_41_37 hI
  exact (s_201_l (sc := sc) (d := d) hI ht ha2 H201 K 40300000).1 c t hI (fun a j hm => rfl) ht (by first | exact q_e074ea49a | omega) (by first | exact q_e074ea49a | omega) (by omega)
set_option maxRecDepth 100000 in
set_option maxHeartbeats 4000000 in
theorem r_201_n {sc : List Int32} {d P Q : Nat} : ∀ (m : Nat) (c : ME) (t a2 : Int) (Z : AR → Prop), 50 - t ≤ (m : Int) → 0 ≤ t ∧ t ≤ 50 → Iv 0 (-1) P Q c → 0 ≤ a2 ∧ a2 ≤ 250 → (∀ c2 : ME, Iv 0 (-1) P Q c2 → (∀ (a : Nat) (j : Int), ¬ ((a = 41 ∧ j = 37) ∨ (a = 41 ∧ j = 38) ∨ (a = 41 ∧ j = 39) ∨ a = 59 ∨ a = 54 ∨ a = 55) → c2 a j = c a j) → (c2 41 37 ≥ c 41 37) → Z (.inl none, Wd P Q P P c2, 0, 0)) → Wp sc (d + m + 16) 201 0 [(0, .ref 41), (1, vi (5 * t)), (2, vi a2)] [] (Wd P Q P P c) 0 0 Z
  | 0, c, t, a2, Z, hm, h0, hI, ha, K => s_201 (d := d) (t := t) (a2 := a2) hI h0 ha (fun c9 t2 a9 z9 Z9 hc => absurd hc (by omega)) K
  | m + 1, c, t, a2, Z, hm, h0, hI, ha, K => s_201 (d := d + (m + 1)) (t := t) (a2 := a2) hI h0 ha (fun c9 t2 a9 z9 Z9 hc hI9 ha9 K9 => by
    have r := r_201_n (sc := sc) (d := d) m c9 t2 a9 Z9 (by omega) (by omega) hI9 ha9 K9
    rw [show d + m + 16 = d + (m + 1) + 15 by omega] at r
    rw [hc.2]
    exact r) K
set_option maxRecDepth 100000 in
set_option maxHeartbeats 4000000 in
theorem r_201 {sc : List Int32} {d P Q : Nat} {c : ME} {t a2 : Int} {Z : AR → Prop} (hI : Iv 0 (-1) P Q c) (ht : 0 ≤ t ∧ t ≤ 50) (ha2 : 0 ≤ a2 ∧ a2 ≤ 250) (K : (∀ c2 : ME, Iv 0 (-1) P Q c2 → (∀ (a : Nat) (j : Int), ¬ ((a = 41 ∧ j = 37) ∨ (a = 41 ∧ j = 38) ∨ (a = 41 ∧ j = 39) ∨ a = 59 ∨ a = 54 ∨ a = 55) → c2 a j = c a j) → (c2 41 37 ≥ c 41 37) → Z (.inl none, Wd P Q P P c2, 0, 0))) : Wp sc (d + 66) 201 0 [(0, .ref 41), (1, vi (5 * t)), (2, vi a2)] [] (Wd P Q P P c) 0 0 Z :=
  r_201_n (d := d) 50 c t a2 Z (by omega) ht hI ha2 K

set_option maxRecDepth 100000 in
set_option maxHeartbeats 4000000 in
theorem s_202c {sc : List Int32} {d P Q : Nat} {c : ME} {Z : AR → Prop} (hI : Iv 0 (-1) P Q c) (hq0 : (c 41 35 ≤ 15)) (hq1 : (((c 41 34) % 5) = 0)) (hq2 : (c 41 34 ≤ 250)) (K : ∀ (c2 : ME) (y : Int), Iv 0 (-1) P Q c2 → (∀ (a : Nat) (j : Int), ¬ ((a = 41 ∧ j = 35) ∨ (a = 41 ∧ j = 36) ∨ (a = 41 ∧ j = 37) ∨ (a = 41 ∧ j = 38) ∨ (a = 41 ∧ j = 39) ∨ a = 58 ∨ a = 59 ∨ a = 54 ∨ a = 55) → c2 a j = c a j) → (-2147483648) ≤ y ∧ y ≤ 2147483647 → Z (.inl (some (vi y)), Wd P Q P P c2, 0, 0)) : Wp sc (d + 67) 202 155 [(0, .ref 41)] [] (Wd P Q P P c) 0 0 Z := by
  have hP := iv_P hI
  have hQ := iv_Q hI
  have h_1 := ir_41_35 hI
  have h_2 := ir_41_34 hI
  refine q_aload_n c_202_155 rfl (q_dup c_202_156 rfl (v_gi (z := 35) (v := c 41 35) c_202_157 kf_8_182 rfl (nb_ rfl) rfl rfl rfl (q_iconst c_202_160 (v_iadd (v := c 41 35 + 1) c_202_161 rfl (v_pi (z := 35) c_202_162 kf_8_182 rfl (nb_ rfl) rfl rfl rfl (by decide) (q_aload_n c_202_165 rfl ?_))))))
  have hI_3 := iw_41_35 (v := c 41 35 + 1) hI ⟨by first | exact rgp_l h_1.1 (by decide) | omega, by first | exact q_f67065af8 hq0 | omega⟩
  refine v_cv c_202_166 km_8_317 rfl rfl (nb_ rfl) ⟨⟨rfl, rfl⟩, nb_ rfl, rfl⟩ (nb_ rfl) (nb_ rfl) (s_186 hI_3 (fun c_4 hI_5 hF_6 => (bk_inl (q_aload_n c_202_169 rfl (q_iconst c_202_170 (v_pi (z := 37) c_202_171 kf_8_320 rfl (nb_ rfl) rfl rfl rfl (by decide) (q_aload_n c_202_174 rfl (q_iconst c_202_175 (v_pi (z := 38) c_202_176 kf_8_323 rfl (nb_ rfl) rfl rfl rfl (by decide) ?_)))))))))
  refine q_aload_n c_202_179 rfl (q_iconst c_202_180 (v_pi (z := 39) c_202_181 kf_8_326 rfl (nb_ rfl) rfl rfl rfl (by decide) (q_aload_n c_202_184 rfl (q_iconst c_202_185 (q_aload_n c_202_186 rfl ?_)))))
  have kn_7 : Hid (c_4 41 34 = c 41 34) := (hF_6 41 34 (fun h => absurd h (nn rfl))).trans (up_n (by decide))
  refine v_gi (z := 34) (v := c 41 34) c_202_187 kf_8_284 rfl (nb_ rfl) rfl rfl ((up_n (by decide)).trans ((up_n (by decide)).trans ((up_n (by decide)).trans (hid kn_7)))) ?_
  have hI_8 := iw_41_37 (v := 0) hI_5 ⟨by decide, by decide⟩
  have hI_9 := iw_41_38 (v := 0) hI_8 ⟨by decide, by decide⟩
  have hI_10 := iw_41_39 (v := 0) hI_9 ⟨by decide, by decide⟩
  have h_11 : (up (up (up c_4 41 37 0) 41 38 0) 41 39 0) 41 37 = 0 := ((up_n (by decide)).trans ((up_n (by decide)).trans (up_e rfl)))
  refine v_cv c_202_190 km_8_329 rfl rfl (nb_ rfl) ⟨⟨rfl, rfl⟩, nb_ rfl, rfl⟩ (nb_ rfl) (nb_ rfl) (r_201 (t := 0) (a2 := c 41 34) hI_10 (show 0 ≤ 0 ∧ 0 ≤ 50 from by omega) (show 0 ≤ c 41 34 ∧ c 41 34 ≤ 250 from h_2) (fun c_12 hI_13 hF_14 h_15 => (bk_inl ?_)))
  have h_16 := ir_41_37 hI_13
  refine q_aload_n c_202_193 rfl (q_aload_n c_202_194 rfl (v_gr (t := 59) c_202_195 kf_8_68 rfl (nb_ rfl) rfl (q_aload_n c_202_198 rfl (v_gr (t := 58) c_202_199 kf_8_65 rfl (nb_ rfl) rfl (v_bip c_202_202 (by decide) (v_cv c_202_204 km_8_169 rfl rfl (nb_ rfl) ⟨⟨rfl, rfl⟩, nb_ rfl, rfl⟩ (nb_ rfl) (nb_ rfl) (s_148 (f := 59) (t := 58) (nf := 37) (nt := 37) (n := 37) rfl rfl (by decide) (by decide) (by decide) (by decide) (by decide) (by omega) (bk_inl ?_))))))))
  refine q_aload_n c_202_207 rfl (q_aload_n c_202_208 rfl ?_)
  have h_17 := ir_41_39 hI_13
  refine v_gi (z := 39) (v := c_12 41 39) c_202_209 kf_8_326 rfl (nb_ rfl) rfl rfl (upc_c (by omega)) (v_pi (z := 36) c_202_212 kf_8_188 rfl (nb_ rfl) rfl rfl rfl (by decide) (q_aload_n c_202_215 rfl ?_))
  have h_18 := ir_41_38 hI_13
  refine v_gi (z := 38) (v := c_12 41 38) c_202_216 kf_8_323 rfl (nb_ rfl) rfl rfl ((up_n (by decide)).trans (upc_c (by omega))) (q_iret c_202_219 rfl ?_)
  have hI_19 := cp_59_58 hI_13
  have hI_20 := iw_41_36 (v := c_12 41 39) hI_19 ⟨h_17.1, h_17.2⟩
  exact K (up (upc c_12 59 0 58 0 37) 41 36 (c_12 41 39)) (c_12 41 38) hI_20 (fun a j hm => (up_b (Decidable.or_iff_not_imp_left.mpr (fun h1 h2 => hm (Or.inr (Or.inl ⟨Decidable.not_not.mp h1, h2⟩))))).trans ((upc_c (fun h => hm (Or.inr (Or.inr (Or.inr (Or.inr (Or.inr (Or.inl h)))))))).trans ((hF_14 a j (qv_c2f2b1db7 hm)).trans ((up_b (Decidable.or_iff_not_imp_left.mpr (fun h1 h2 => hm (Or.inr (Or.inr (Or.inr (Or.inr (Or.inl ⟨Decidable.not_not.mp h1, h2⟩)))))))).trans ((up_b (Decidable.or_iff_not_imp_left.mpr (fun h1 h2 => hm (Or.inr (Or.inr (Or.inr (Or.inl ⟨Decidable.not_not.mp h1, h2⟩))))))).trans ((up_b (Decidable.or_iff_not_imp_left.mpr (fun h1 h2 => hm (Or.inr (Or.inr (Or.inl ⟨Decidable.not_not.mp h1, h2⟩)))))).trans ((hF_6 a j (fun h => hm (Or.inr (Or.inr (Or.inr (Or.inr (Or.inr (Or.inr (Or.inl h))))))))).trans (up_b (Decidable.or_iff_not_imp_left.mpr (fun h1 h2 => hm (Or.inl ⟨Decidable.not_not.mp h1, h2⟩))))))))))) h_18
set_option maxRecDepth 100000 in
set_option maxHeartbeats 4000000 in
theorem s_202b_l {sc : List Int32} {d P Q : Nat} {c : ME} {Z : AR → Prop} (hI : Iv 60 (-1) P Q c) (hq0 : (c 41 35 ≤ 15)) (hq1 : (((c 41 34) % 5) = 0)) (hq2 : (c 41 34 ≤ 250)) (hq3 : ∀ j : Int, rs 60 j → c 60 j + c 60 (j + 1) + c 60 (j + 2) + c 60 (j + 3) ≤ 9999) (K : ∀ (c2 : ME) (y : Int), Iv 0 (-1) P Q c2 → (∀ (a : Nat) (j : Int), ¬ ((a = 41 ∧ j = 35) ∨ (a = 41 ∧ j = 36) ∨ (a = 41 ∧ j = 37) ∨ (a = 41 ∧ j = 38) ∨ (a = 41 ∧ j = 39) ∨ a = 58 ∨ a = 59 ∨ a = 54 ∨ a = 55 ∨ a = 60) → c2 a j = c a j) → (-2147483648) ≤ y ∧ y ≤ 2147483647 → Z (.inl (some (vi y)), Wd P Q P P c2, 0, 0)) : ∀ n : Nat, (∀ (c2 : ME) (v3 : Int), Iv 60 (-1) P Q c2 → (∀ (a : Nat) (j : Int), ¬ (a = 60) → c2 a j = c a j) → 0 ≤ v3 ∧ v3 ≤ 37 → (∀ j : Int, 0 ≤ j → j < v3 → c2 60 (37 * c 41 35 + j) = c 58 j) → (∀ j : Int, ¬ (37 * c 41 35 ≤ j ∧ j < 37 * c 41 35 + 37) → c2 60 j = c 60 j) → 75 - 2 * v3 < (n : Int) → Wp sc (d + 67) 202 123 [(0, .ref 41), (3, vi v3)] [] (Wd P Q P P c2) 0 0 Z) := by
  intro n
  induction n with
  | zero => exact (by intro c2 v3 hI2 hF hv3 hx0 hx1 hm9; have hP := iv_P hI; have hQ := iv_Q hI; exfalso; omega)
  | succ n ih =>
    have hP := iv_P hI
    have hQ := iv_Q hI
    intro c2 v3 hI2 hF hv3 hx0 hx1 hm9
    have h_1 := ir_41_35 hI
    have h_2 := ir_41_34 hI
    refine q_iload_n c_202_123 rfl (v_bip c_202_124 (by decide) ?_)
    by_cases h_3 : v3 ≥ 37
    · refine v_ic_ge_t (t := 155) c_202_126 rfl ⟨by decide, h_3, (Int.le_trans hv3.2 (by decide))⟩ (Wp_ls [(0, .ref 41)] (lsub_cons rfl lsub_nil) ?_)
      have hc9 : Iv 0 (-1) P Q c2 := iv_close hI2 (fun j hj => by
        by_cases q9 : 37 * c 41 35 ≤ j ∧ j < 37 * c 41 35 + 37
        · rw [ri_60] at hj
          have h8 : j / 37 = c 41 35 := by omega
          obtain ⟨i9, hi9⟩ : ∃ i : Int, j = 37 * c 41 35 + i := ⟨j - 37 * c 41 35, by omega⟩
          subst hi9
          rw [show 37 * c 41 35 + i9 + 1 = 37 * c 41 35 + (i9 + 1) by omega, show 37 * c 41 35 + i9 + 2 = 37 * c 41 35 + (i9 + 2) by omega, show 37 * c 41 35 + i9 + 3 = 37 * c 41 35 + (i9 + 3) by omega, hx0 i9 (by omega) (by omega), hx0 (i9 + 1) (by omega) (by omega), hx0 (i9 + 2) (by omega) (by omega), hx0 (i9 + 3) (by omega) (by omega)]
          exact iv_r hI 58 i9 (by rw [ri_58]; omega) (by omega)
        · have hj9 := hj
          rw [ri_60] at hj9
          have h7 : ¬ j / 37 = c 41 35 := by omega
          rw [hx1 j q9, hx1 (j + 1) (by omega), hx1 (j + 2) (by omega), hx1 (j + 3) (by omega)]
          exact hq3 j hj)
      exact s_202c hc9 (by rw [hF 41 35 (by omega)]; omega) (by rw [hF 41 34 (by omega)]; omega) (by rw [hF 41 34 (by omega)]; omega) (fun c9 y9 hI9 hF9 hy9 => K c9 y9 hI9 (fun a j hm => (hF9 a j (by omega)).trans (hF a j (by omega))) hy9)
    · refine v_ic_ge_f (t := 155) c_202_126 rfl ⟨(Int.le_trans (by decide) hv3.1), (Int.not_le.mp h_3), by decide⟩ (q_aload_n c_202_129 rfl (v_gr (t := 60) c_202_130 kf_8_71 rfl (nb_ rfl) rfl (v_bip c_202_133 (by decide) (q_aload_n c_202_135 rfl ?_))))
      have kn_4 : Hid (c2 41 35 = c 41 35) := hF 41 35 (fun h => absurd h (nn rfl))
      refine v_gi (z := 35) (v := c 41 35) c_202_136 kf_8_182 rfl (nb_ rfl) rfl rfl (hid kn_4) (v_imul (v := 37 * c 41 35) c_202_139 (by first | exact q_17d83ab33 | omega) (q_iload_n c_202_140 rfl (v_iadd (v := 37 * c 41 35 + v3) c_202_141 rfl (q_aload_n c_202_142 rfl (v_gr (t := 58) c_202_143 kf_8_65 rfl (nb_ rfl) rfl (q_iload_n c_202_146 rfl ?_))))))
      have h_5 := ir_58 hI v3
      have kn_6 : Hid (c2 58 v3 = c 58 v3) := hF 58 v3 (fun h => absurd h (nn rfl))
      refine v_ia (v := c 58 v3) c_202_147 rfl (by decide) (by decide) ⟨hv3.1, by first | exact q_3cc4a238e h_3 | omega⟩ (hid kn_6) (v_is c_202_148 rfl (by decide) (by decide) ⟨by first | exact q_6c1724e14 h_1 hv3 | omega, by first | exact q_d8bb91acd h_3 hq0 | omega⟩ (v_iinc (v := v3 + 1) c_202_149 rfl (nb_ rfl) rfl (q_goto (t := 123) c_202_152 rfl ?_)))
      have hI_7 := iw_60 (j := 37 * c 41 35 + v3) (v := c 58 v3) hI2 (fun h9 => ir_58_g hI (by omega)) ⟨by omega, by omega⟩
      refine Wp_ls [(0, .ref 41), (3, vi (v3 + 1))] (lsub_cons rfl (lsub_cons rfl lsub_nil)) ?_
      have hr_8 : ∀ j : Int, 0 ≤ j → j < v3 + 1 → (up c2 60 (37 * c 41 35 + v3) (c 58 v3)) 60 (37 * c 41 35 + j) = c 58 j := by
        intro j hj1 hj2
        by_cases e9 : j = v3
        · rw [show (up c2 60 (37 * c 41 35 + v3) (c 58 v3)) 60 (37 * c 41 35 + j) = c 58 v3 from up_e (by omega), e9]
        · rw [show (up c2 60 (37 * c 41 35 + v3) (c 58 v3)) 60 (37 * c 41 35 + j) = c2 60 (37 * c 41 35 + j) from up_n (by omega)]; exact hx0 j hj1 (by omega)
      have hr_9 : ∀ j : Int, ¬ (37 * c 41 35 ≤ j ∧ j < 37 * c 41 35 + 37) → (up c2 60 (37 * c 41 35 + v3) (c 58 v3)) 60 j = c 60 j := by
        intro j hj1
        rw [show (up c2 60 (37 * c 41 35 + v3) (c 58 v3)) 60 j = c2 60 j from up_n (by omega)]; exact hx1 j hj1
      exact ih (up c2 60 (37 * c 41 35 + v3) (c 58 v3)) (v3 + 1) hI_7 (fun a j hm => (up_b (Decidable.or_iff_not_imp_left.mpr (fun h1 h2 => hm (Decidable.not_not.mp h1)))).trans (hF a j hm)) ⟨by first | exact rgp_l hv3.1 (by decide) | omega, by first | exact q_6a0ddf4b6 h_3 | omega⟩ hr_8 hr_9 (by omega)
set_option maxRecDepth 100000 in
set_option maxHeartbeats 4000000 in
theorem s_202b {sc : List Int32} {d P Q : Nat} {c : ME} {Z : AR → Prop} (hI : Iv 60 (-1) P Q c) (hq0 : (c 41 35 ≤ 15)) (hq1 : (((c 41 34) % 5) = 0)) (hq2 : (c 41 34 ≤ 250)) (hq3 : ∀ j : Int, rs 60 j → c 60 j + c 60 (j + 1) + c 60 (j + 2) + c 60 (j + 3) ≤ 9999) (K : ∀ (c2 : ME) (y : Int), Iv 0 (-1) P Q c2 → (∀ (a : Nat) (j : Int), ¬ ((a = 41 ∧ j = 35) ∨ (a = 41 ∧ j = 36) ∨ (a = 41 ∧ j = 37) ∨ (a = 41 ∧ j = 38) ∨ (a = 41 ∧ j = 39) ∨ a = 58 ∨ a = 59 ∨ a = 54 ∨ a = 55 ∨ a = 60) → c2 a j = c a j) → (-2147483648) ≤ y ∧ y ≤ 2147483647 → Z (.inl (some (vi y)), Wd P Q P P c2, 0, 0)) : Wp sc (d + 67) 202 121 [(0, .ref 41)] [] (Wd P Q P P c) 0 0 Z := by
  have hP := iv_P hI
  have hQ := iv_Q hI
  have h_10 := ir_41_35 hI
  have h_11 := ir_41_34 hI
  refine q_iconst c_202_121 (q_istore_n c_202_122 (nb_ rfl) (Wp_ls [(0, .ref 41), (3, vi 0)] (lsub_cons rfl (lsub_cons rfl lsub_nil)) ?_))
  have hr_12 : ∀ j : Int, 0 ≤ j → j < 0 → c 60 (37 * c 41 35 + j) = c 58 j := by
    intro j hj1 hj2
    omega
  have hr_13 : ∀ j : Int, ¬ (37 * c 41 35 ≤ j ∧ j < 37 * c 41 35 + 37) → c 60 j = c 60 j := by
    intro j hj1
    rfl
  exact (s_202b_l (sc := sc) (d := d) hI hq0 hq1 hq2 hq3 K 78) c 0 hI (fun a j hm => rfl) ⟨by decide, by decide⟩ hr_12 hr_13 (by omega)
set_option maxRecDepth 100000 in
set_option maxHeartbeats 4000000 in
theorem s_202_l {sc : List Int32} {d P Q : Nat} {c : ME} {a1 : Int} {Z : AR → Prop} (hI : Iv 0 (-1) P Q c) (ha1 : (-2147483648) ≤ a1 ∧ a1 ≤ 2147483647) (K : ∀ (c2 : ME) (y : Int), Iv 0 (-1) P Q c2 → (∀ (a : Nat) (j : Int), ¬ ((a = 41 ∧ j = 0) ∨ a = 42 ∨ (a = 41 ∧ j = 2) ∨ (a = 41 ∧ j = 3) ∨ (a = 41 ∧ j = 4) ∨ (a = 41 ∧ j = 5) ∨ (a = 41 ∧ j = 6) ∨ (a = 41 ∧ j = 7) ∨ (a = 41 ∧ j = 8) ∨ (a = 41 ∧ j = 34) ∨ a = 56 ∨ a = 57 ∨ a = 60 ∨ (a = 41 ∧ j = 35) ∨ (a = 41 ∧ j = 36) ∨ (a = 41 ∧ j = 37) ∨ (a = 41 ∧ j = 38) ∨ (a = 41 ∧ j = 39) ∨ a = 58 ∨ a = 59 ∨ a = 54 ∨ a = 55) → c2 a j = c a j) → (-2147483648) ≤ y ∧ y ≤ 2147483647 → ((c2 41 2 = 0 ∧ a1 ≥ 0 ∧ a1 ≤ c 41 2 ∧ a1 ≤ 150) ∨ (c2 41 2 = c 41 2 ∧ a1 < 0) ∨ (c2 41 2 = c 41 2 ∧ a1 > c 41 2) ∨ (c2 41 2 = c 41 2 ∧ a1 > 150)) → Z (.inl (some (vi y)), Wd P Q P P c2, 0, 0)) : ∀ n : Nat, (∀ (c2 : ME), Iv 0 (-1) P Q c2 → (∀ (a : Nat) (j : Int), ¬ ((a = 41 ∧ j = 0) ∨ a = 42 ∨ (a = 41 ∧ j = 2) ∨ (a = 41 ∧ j = 3) ∨ (a = 41 ∧ j = 4) ∨ (a = 41 ∧ j = 5) ∨ (a = 41 ∧ j = 6) ∨ (a = 41 ∧ j = 7) ∨ (a = 41 ∧ j = 8) ∨ (a = 41 ∧ j = 34) ∨ a = 56 ∨ a = 57 ∨ a = 60 ∨ (a = 41 ∧ j = 35) ∨ (a = 41 ∧ j = 36) ∨ (a = 41 ∧ j = 37) ∨ (a = 41 ∧ j = 38) ∨ (a = 41 ∧ j = 39) ∨ a = 58 ∨ a = 59 ∨ a = 54 ∨ a = 55) → c2 a j = c a j) → ((c2 41 5 = (-1))) → ((c2 41 4 ≤ c2 41 3)) → ((c2 41 3 ≤ 150)) → ((3 * c2 41 34 ≤ 5 * c2 41 4)) → ((((c2 41 34) % 5) = 0)) → ((c2 41 7 = 0)) → ((c2 41 35 ≤ 15)) → ((c2 41 4 ≥ 0)) → ((c2 41 34 ≥ 0)) → ((c2 41 34 ≤ 250)) → (Ap c2 56 0 (c2 41 34)) → ((c2 41 2 = 0 ∧ a1 ≥ 0 ∧ a1 ≤ c 41 2 ∧ a1 ≤ 150)) → 1211 - 2 * c2 41 4 < (n : Int) → Wp sc (d + 67) 202 75 [(0, .ref 41), (1, vi a1)] [] (Wd P Q P P c2) 0 0 Z) := by
  intro n
  induction n with
  | zero => exact (by intro c2 hI2 hF hx0 hx1 hx2 hx3 hx4 hx5 hx6 hx7 hx8 hx9 hx10 hx11 hm9; have hP := iv_P hI; have hQ := iv_Q hI; have h_74 := ir_41_4 hI2; exfalso; omega)
  | succ n ih =>
    have hP := iv_P hI
    have hQ := iv_Q hI
    intro c2 hI2 hF hx0 hx1 hx2 hx3 hx4 hx5 hx6 hx7 hx8 hx9 hx10 hx11 hm9
    have h_1 := ir_41_5 hI2
    have h_2 := ir_41_3 hI2
    have h_3 := ir_41_4 hI2
    have h_4 := ir_41_34 hI2
    have h_5 := ir_41_7 hI2
    have h_6 := ir_41_35 hI2
    have h_7 := ir_41_2 hI
    have h_8 := ir_41_2 hI2
    refine q_aload_n c_202_75 rfl (v_cv c_202_76 km_8_211 rfl rfl (nb_ rfl) ⟨⟨rfl, rfl⟩, nb_ rfl, rfl⟩ (nb_ rfl) (nb_ rfl) (s_162 hI2 (fun c_9 y_12 hI_10 hF_11 hy_12 h_13 h_14 h_15 => (bk_inl ?_))))
    have h_16 := ir_41_4 hI_10
    by_cases h_17 : y_12 = 0
    · refine v_if_eq_t (t := 89) c_202_79 rfl h_17 (q_aload_n c_202_89 rfl (q_iconst c_202_90 (v_cv c_202_91 km_8_232 rfl rfl (nb_ rfl) ⟨⟨rfl, rfl⟩, nb_ rfl, rfl⟩ (nb_ rfl) (nb_ rfl) (s_164 (a1 := 0) hI_10 (show (-2147483648) ≤ 0 ∧ 0 ≤ 2147483647 from ⟨by decide, by decide⟩) (fun c_18 y_21 hI_19 hF_20 hy_21 => (bk_inl (q_istore_n c_202_94 (nb_ rfl) (q_aload_n c_202_95 rfl ?_))))))))
      have kn_22 : Hid (c_9 41 5 = c2 41 5) := hF_11 41 5 (fun h => absurd h.2 (ni rfl))
      have kn_23 : Hid (c_18 41 5 = c2 41 5) := (hF_20 41 5 (fun h => absurd h.2 (ni rfl))).trans (hid kn_22)
      refine v_gi (z := 5) (v := c2 41 5) c_202_96 kf_8_102 rfl (nb_ rfl) rfl rfl (hid kn_23) (q_iconst c_202_99 (v_ic_eq_t (t := 105) c_202_100 rfl (by first | (clear ha1 hx1 hx2 hx3 hx4 hx5 hx6 hx7 hx8 hx9 hx11 h_1 h_2 h_3 h_4 h_5 h_6 h_7 h_8 h_16 h_13 h_17 h_14 h_15; omega) | omega) (q_aload_n c_202_105 rfl (q_aload_n c_202_106 rfl (v_gr (t := 56) c_202_107 kf_8_59 rfl (nb_ rfl) rfl (q_aload_n c_202_110 rfl (v_gr (t := 57) c_202_111 kf_8_62 rfl (nb_ rfl) rfl ?_)))))))
      refine q_aload_n c_202_114 rfl ?_
      have kn_24 : Hid (c_9 41 34 = c2 41 34) := hF_11 41 34 (fun h => absurd h.2 (ni rfl))
      have kn_25 : Hid (c_18 41 34 = c2 41 34) := (hF_20 41 34 (fun h => absurd h.2 (ni rfl))).trans (hid kn_24)
      refine v_gi (z := 34) (v := c2 41 34) c_202_115 kf_8_284 rfl (nb_ rfl) rfl rfl (hid kn_25) (v_cv c_202_118 km_8_169 rfl rfl (nb_ rfl) ⟨⟨rfl, rfl⟩, nb_ rfl, rfl⟩ (nb_ rfl) (nb_ rfl) (s_148 (f := 56) (t := 57) (nf := 250) (nt := 250) (n := c2 41 34) rfl rfl (by decide) (by decide) (by decide) (by decide) (by decide) (by omega) (bk_inl ?_)))
      have hI_26 := cp_56_57 (n := c2 41 34) hI_19 (by omega) (ap_fr (c := c2) (hi := c2 41 34) hx10 (by omega) rfl (by omega) (fun j h1 h2 => (hF_20 56 j (fun h => absurd h.1 (nn rfl))).trans (hF_11 56 j (fun h => absurd h.1 (nn rfl)))))
      have kn_27 : Hid (c_9 41 35 = c2 41 35) := hF_11 41 35 (fun h => absurd h.2 (ni rfl))
      have kn_28 : Hid (c_18 41 35 = c2 41 35) := (hF_20 41 35 (fun h => absurd h.2 (ni rfl))).trans (hid kn_27)
      have hw35 : (upc c_18 56 0 57 0 (c2 41 34)) 41 35 = c2 41 35 := ((upc_c (by omega)).trans (hid kn_28))
      have hw34 : (upc c_18 56 0 57 0 (c2 41 34)) 41 34 = c2 41 34 := ((upc_c (by omega)).trans (hid kn_25))
      have kn_29 : Hid (c_9 41 2 = c2 41 2) := hF_11 41 2 (fun h => absurd h.2 (ni rfl))
      have kn_30 : Hid (c_18 41 2 = c2 41 2) := (hF_20 41 2 (fun h => absurd h.2 (ni rfl))).trans (hid kn_29)
      have hz9 : (upc c_18 56 0 57 0 (c2 41 34)) 41 2 = 0 := (((upc_c (by omega)).trans (hid kn_30))).trans (by omega)
      refine Wp_ls [(0, .ref 41)] (lsub_cons rfl lsub_nil) ?_
      exact s_202b (iv_open hI_26) (by omega) (by omega) (by omega) (fun j hj => iv_r hI_26 60 j hj (by omega)) (fun c9 y9 hI9 hF9 hy9 => K c9 y9 hI9 (fun a j hm => (hF9 a j (qv_c507ff00a hm)).trans ((upc_c (fun h => hm (Or.inr (Or.inr (Or.inr (Or.inr (Or.inr (Or.inr (Or.inr (Or.inr (Or.inr (Or.inr (Or.inr (Or.inl h)))))))))))))).trans ((hF_20 a j (qv_c40515afb hm)).trans ((hF_11 a j (fun h => hm (Or.inr (Or.inr (Or.inr (Or.inr (Or.inl h))))))).trans (hF a j hm))))) hy9 (Or.inl ⟨(hF9 41 2 (by omega)).trans hz9, by omega, by omega, by omega⟩))
    · refine v_if_eq_f (t := 89) c_202_79 rfl ⟨h_17, ⟨(Int.le_trans (by decide) hy_12.1), (Int.le_trans hy_12.2 (by decide))⟩, by decide, by decide⟩ (q_aload_n c_202_82 rfl ?_)
      have kn_31 : Hid (c_9 41 5 = c2 41 5) := hF_11 41 5 (fun h => absurd h.2 (ni rfl))
      have h_32 : c_9 41 5 = c2 41 5 := (hid kn_31)
      have kn_33 : Hid (c_9 41 3 = c2 41 3) := hF_11 41 3 (fun h => absurd h.2 (ni rfl))
      have h_34 : c_9 41 3 = c2 41 3 := (hid kn_33)
      have kn_35 : Hid (c_9 41 34 = c2 41 34) := hF_11 41 34 (fun h => absurd h.2 (ni rfl))
      have h_36 : c_9 41 34 = c2 41 34 := (hid kn_35)
      have kn_37 : Hid (c_9 41 7 = c2 41 7) := hF_11 41 7 (fun h => absurd h.2 (ni rfl))
      have h_38 : c_9 41 7 = c2 41 7 := (hid kn_37)
      have h_39 : c_9 41 34 = c2 41 34 := (hid kn_35)
      refine v_cv c_202_83 km_8_305 rfl rfl (nb_ rfl) ⟨⟨rfl, rfl⟩, nb_ rfl, rfl⟩ (nb_ rfl) (nb_ rfl) (r_185 (o := 0) hI_10 (show 0 ≤ 0 ∧ 0 ≤ 6 from by omega) (by first | (clear ha1 hx1 hx2 hx3 hx4 hx5 hx6 hx7 hx8 hx9 hx11 h_1 h_2 h_3 h_4 h_5 h_6 h_7 h_8 h_16 h_13 h_14 h_15 h_17; omega) | omega) (by first | (clear ha1 hx0 hx2 hx3 hx4 hx5 hx6 hx7 hx8 hx9 hx11 h_1 h_2 h_3 h_4 h_5 h_6 h_7 h_8 h_16 h_13 h_15 h_17; omega) | omega) (by first | (clear ha1 hx0 hx1 hx3 hx4 hx5 hx6 hx7 hx8 hx9 hx11 h_1 h_2 h_3 h_4 h_5 h_6 h_7 h_8 h_16 h_13 h_14 h_15 h_17; omega) | omega) (by first | (clear ha1 hx0 hx1 hx2 hx4 hx5 hx6 hx7 hx8 hx9 hx11 h_1 h_2 h_3 h_4 h_5 h_6 h_7 h_8 h_16 h_14 h_15 h_17; omega) | omega) (by first | (clear ha1 hx0 hx1 hx2 hx3 hx5 hx6 hx7 hx8 hx9 hx11 h_1 h_2 h_3 h_4 h_5 h_6 h_7 h_8 h_16 h_13 h_14 h_15 h_17; omega) | omega) (by first | (clear ha1 hx0 hx1 hx2 hx3 hx4 hx6 hx7 hx8 hx9 hx11 h_1 h_2 h_3 h_4 h_5 h_6 h_7 h_8 h_16 h_13 h_14 h_15 h_17; omega) | omega) (fun c_40 hI_41 hF_42 h_43 h_44 h_45 h_46 h_47 h_48 hA_49 => (bk_inl ?_)))
      have h_50 := ir_41_4 hI_41
      have h_51 := ir_41_7 hI_41
      have h_52 := ir_41_34 hI_41
      have h_53 := ir_41_5 hI_41
      refine q_goto (t := 68) c_202_86 rfl (q_aload_n c_202_68 rfl (v_cv c_202_69 km_8_131 rfl rfl (nb_ rfl) ⟨⟨rfl, rfl⟩, nb_ rfl, rfl⟩ (nb_ rfl) (nb_ rfl) (q_aload_n c_152_0 rfl (v_gi (z := 5) (v := c_40 41 5) c_152_1 kf_8_102 rfl (nb_ rfl) rfl rfl rfl (q_iconst c_152_4 ?_)))))
      by_cases h_54 : c_40 41 5 ≠ (-1)
      · refine v_ic_ne_t (t := 12) c_152_5 rfl ⟨h_54, ⟨(Int.le_trans (by decide) h_53.1), (Int.le_trans h_53.2 (by decide))⟩, by decide, by decide⟩ (q_iconst c_152_12 (v_zret c_152_13 rfl (by decide) (bk_inl (v_if_eq_t (t := 89) c_202_72 rfl (by decide) (q_aload_n c_202_89 rfl (q_iconst c_202_90 (v_cv c_202_91 km_8_232 rfl rfl (nb_ rfl) ⟨⟨rfl, rfl⟩, nb_ rfl, rfl⟩ (nb_ rfl) (nb_ rfl) (s_164 (a1 := 0) hI_41 (show (-2147483648) ≤ 0 ∧ 0 ≤ 2147483647 from ⟨by decide, by decide⟩) (fun c_55 y_58 hI_56 hF_57 hy_58 => ?_)))))))))
        refine bk_inl (q_istore_n c_202_94 (nb_ rfl) (q_aload_n c_202_95 rfl ?_))
        have kn_59 : Hid (c_55 41 5 = c_40 41 5) := hF_57 41 5 (fun h => absurd h.2 (ni rfl))
        refine v_gi (z := 5) (v := c_40 41 5) c_202_96 kf_8_102 rfl (nb_ rfl) rfl rfl (hid kn_59) (q_iconst c_202_99 (v_ic_eq_f (t := 105) c_202_100 rfl ⟨by first | exact q_bd023a79f h_53 h_54 | omega, ⟨(Int.le_trans (by decide) h_53.1), (Int.le_trans h_53.2 (by decide))⟩, by decide, by decide⟩ (q_iload_n c_202_103 rfl (q_iret c_202_104 rfl ?_))))
        have kn_60 : Hid (c_9 41 2 = c2 41 2) := hF_11 41 2 (fun h => absurd h.2 (ni rfl))
        have kn_61 : Hid (c_40 41 2 = c2 41 2) := (hF_42 41 2 (fun q => q.elim (fun h => absurd h.2 (ni rfl)) (fun q => q.elim (fun h => absurd h.2 (ni rfl)) (fun q => q.elim (fun h => absurd h.2 (ni rfl)) (fun q => q.elim (fun h => absurd h.2 (ni rfl)) (fun q => q.elim (fun h => absurd h.2 (ni rfl)) (fun h => absurd h.1 (nn rfl)))))))).trans (hid kn_60)
        have kn_62 : Hid (c_55 41 2 = c2 41 2) := (hF_57 41 2 (fun h => absurd h.2 (ni rfl))).trans (hid kn_61)
        have h_63 : c_55 41 2 = c2 41 2 := (hid kn_62)
        exact K c_55 y_58 hI_56 (fun a j hm => (hF_57 a j (qv_c40515afb hm)).trans ((hF_42 a j (qv_573d069e6 hm)).trans ((hF_11 a j (fun h => hm (Or.inr (Or.inr (Or.inr (Or.inr (Or.inl h))))))).trans (hF a j hm)))) hy_58 (Or.inl ⟨by first | (clear ha1 hx0 hx1 hx2 hx3 hx4 hx5 hx6 hx7 hx8 hx9 h_1 h_2 h_3 h_4 h_5 h_6 h_7 h_8 h_16 h_13 h_50 h_43 h_51 h_44 h_52 h_45 h_53 h_47 h_48 h_14 h_15 h_17 h_46 h_54; omega) | omega, by first | (clear ha1 hx0 hx1 hx2 hx3 hx4 hx5 hx6 hx7 hx8 hx9 h_1 h_2 h_3 h_4 h_5 h_6 h_7 h_8 h_16 h_13 h_50 h_43 h_51 h_44 h_52 h_45 h_53 h_47 h_48 h_14 h_15 h_17 h_46 h_54; omega) | omega, by first | (clear ha1 hx0 hx1 hx2 hx3 hx4 hx5 hx6 hx7 hx8 hx9 h_1 h_2 h_3 h_4 h_5 h_6 h_7 h_8 h_16 h_13 h_50 h_43 h_51 h_44 h_52 h_45 h_53 h_47 h_48 h_14 h_15 h_17 h_46 h_54; omega) | omega, by first | (clear ha1 hx0 hx1 hx2 hx3 hx4 hx5 hx6 hx7 hx8 hx9 h_1 h_2 h_3 h_4 h_5 h_6 h_7 h_8 h_16 h_13 h_50 h_43 h_51 h_44 h_52 h_45 h_53 h_47 h_48 h_14 h_15 h_17 h_46 h_54; omega) | omega⟩)
      · refine v_ic_ne_f (t := 12) c_152_5 rfl (Decidable.not_not.mp h_54) (q_iconst c_152_8 (q_goto (t := 13) c_152_9 rfl (v_zret c_152_13 rfl (by decide) (bk_inl (v_if_eq_f (t := 89) c_202_72 rfl (by decide) (Wp_ls [(0, .ref 41), (1, vi a1)] (lsub_cons rfl (lsub_cons rfl lsub_nil)) ?_))))))
        have kn_64 : Hid (c_9 41 2 = c2 41 2) := hF_11 41 2 (fun h => absurd h.2 (ni rfl))
        have kn_65 : Hid (c_40 41 2 = c2 41 2) := (hF_42 41 2 (fun q => q.elim (fun h => absurd h.2 (ni rfl)) (fun q => q.elim (fun h => absurd h.2 (ni rfl)) (fun q => q.elim (fun h => absurd h.2 (ni rfl)) (fun q => q.elim (fun h => absurd h.2 (ni rfl)) (fun q => q.elim (fun h => absurd h.2 (ni rfl)) (fun h => absurd h.1 (nn rfl)))))))).trans (hid kn_64)
        have h_66 : c_40 41 2 = c2 41 2 := (hid kn_65)
        have kn_67 : Hid (c_40 41 3 = c2 41 3) := (hF_42 41 3 (fun q => q.elim (fun h => absurd h.2 (ni rfl)) (fun q => q.elim (fun h => absurd h.2 (ni rfl)) (fun q => q.elim (fun h => absurd h.2 (ni rfl)) (fun q => q.elim (fun h => absurd h.2 (ni rfl)) (fun q => q.elim (fun h => absurd h.2 (ni rfl)) (fun h => absurd h.1 (nn rfl)))))))).trans (hid kn_33)
        have h_68 : c_40 41 3 = c2 41 3 := (hid kn_67)
        have kn_69 : Hid (c_9 41 35 = c2 41 35) := hF_11 41 35 (fun h => absurd h.2 (ni rfl))
        have kn_70 : Hid (c_40 41 35 = c2 41 35) := (hF_42 41 35 (fun q => q.elim (fun h => absurd h.2 (ni rfl)) (fun q => q.elim (fun h => absurd h.2 (ni rfl)) (fun q => q.elim (fun h => absurd h.2 (ni rfl)) (fun q => q.elim (fun h => absurd h.2 (ni rfl)) (fun q => q.elim (fun h => absurd h.2 (ni rfl)) (fun h => absurd h.1 (nn rfl)))))))).trans (hid kn_69)
        have h_71 : c_40 41 35 = c2 41 35 := (hid kn_70)
        have h_72 : c_40 41 34 = c_40 41 34 := rfl
        have h_73 : c_9 41 34 = c2 41 34 := (hid kn_35)
        exact ih c_40 hI_41 (fun a j hm => (hF_42 a j (qv_573d069e6 hm)).trans ((hF_11 a j (fun h => hm (Or.inr (Or.inr (Or.inr (Or.inr (Or.inl h))))))).trans (hF a j hm))) (by first | exact q_65c5ff97d h_53 h_54 | omega) (by first | exact q_76b49cfc4 h_46 h_53 h_54 h_34 | omega) (by first | (clear ha1 hx0 hx1 hx3 hx4 hx5 hx6 hx7 hx8 hx9 hx11 h_1 h_2 h_3 h_4 h_5 h_6 h_7 h_8 h_16 h_13 h_50 h_43 h_51 h_44 h_52 h_45 h_53 h_47 h_48 h_54 h_14 h_15 h_17 h_46; omega) | omega) (by first | (clear ha1 hx0 hx1 hx2 hx4 hx5 hx6 hx7 hx8 hx9 hx11 h_1 h_2 h_3 h_4 h_5 h_6 h_7 h_8 h_16 h_50 h_43 h_51 h_44 h_52 h_53 h_47 h_48 h_54 h_14 h_15 h_17 h_46; omega) | omega) (by first | exact q_f9c88a064 h_47 | omega) (by first | (clear ha1 hx0 hx1 hx2 hx3 hx4 hx6 hx7 hx8 hx9 hx11 h_1 h_2 h_3 h_4 h_5 h_6 h_7 h_8 h_16 h_13 h_50 h_43 h_52 h_45 h_53 h_47 h_48 h_54 h_14 h_15 h_17 h_46; omega) | omega) (by first | (clear ha1 hx0 hx1 hx2 hx3 hx4 hx5 hx7 hx8 hx9 hx11 h_1 h_2 h_3 h_4 h_5 h_6 h_7 h_8 h_16 h_13 h_50 h_43 h_51 h_44 h_52 h_45 h_53 h_47 h_48 h_54 h_14 h_15 h_17 h_46; omega) | omega) (by first | exact q_1dc94a4e9 h_50 | omega) (by first | exact q_0802a0138 h_52 | omega) (by first | exact q_1bdda21ac h_52 | omega) (ap_join (ap_fr (c2 := c_40) hx10 (by omega) rfl rfl (fun j h1 h2 => (hF_42 56 j (by omega)).trans (hF_11 56 j (fun h => absurd h.1 (nn rfl))))) (show c_9 41 34 = c2 41 34 from by omega) (hA_49 (by omega))) ⟨by first | (clear ha1 hx0 hx1 hx2 hx3 hx4 hx5 hx6 hx7 hx8 hx9 h_1 h_2 h_3 h_4 h_5 h_6 h_7 h_8 h_16 h_13 h_50 h_43 h_51 h_44 h_52 h_45 h_53 h_47 h_48 h_54 h_14 h_15 h_17 h_46; omega) | omega, by first | (clear ha1 hx0 hx1 hx2 hx3 hx4 hx5 hx6 hx7 hx8 hx9 h_1 h_2 h_3 h_4 h_5 h_6 h_7 h_8 h_16 h_13 h_50 h_43 h_51 h_44 h_52 h_45 h_53 h_47 h_48 h_54 h_14 h_15 h_17 h_46; omega) | omega, by first | (clear ha1 hx0 hx1 hx2 hx3 hx4 hx5 hx6 hx7 hx8 hx9 h_1 h_2 h_3 h_4 h_5 h_6 h_7 h_8 h_16 h_13 h_50 h_43 h_51 h_44 h_52 h_45 h_53 h_47 h_48 h_54 h_14 h_15 h_17 h_46; omega) | omega, by first | (clear ha1 hx0 hx1 hx2 hx3 hx4 hx5 hx6 hx7 hx8 hx9 h_1 h_2 h_3 h_4 h_5 h_6 h_7 h_8 h_16 h_13 h_50 h_43 h_51 h_44 h_52 h_45 h_53 h_47 h_48 h_54 h_14 h_15 h_17 h_46; omega) | omega⟩ (by omega)
set_option maxRecDepth 100000 in
set_option maxHeartbeats 4000000 in
theorem s_202 {sc : List Int32} {d P Q : Nat} {c : ME} {a1 : Int} {Z : AR → Prop} (hI : Iv 0 (-1) P Q c) (ha1 : (-2147483648) ≤ a1 ∧ a1 ≤ 2147483647) (K : ∀ (c2 : ME) (y : Int), Iv 0 (-1) P Q c2 → (∀ (a : Nat) (j : Int), ¬ ((a = 41 ∧ j = 0) ∨ a = 42 ∨ (a = 41 ∧ j = 2) ∨ (a = 41 ∧ j = 3) ∨ (a = 41 ∧ j = 4) ∨ (a = 41 ∧ j = 5) ∨ (a = 41 ∧ j = 6) ∨ (a = 41 ∧ j = 7) ∨ (a = 41 ∧ j = 8) ∨ (a = 41 ∧ j = 34) ∨ a = 56 ∨ a = 57 ∨ a = 60 ∨ (a = 41 ∧ j = 35) ∨ (a = 41 ∧ j = 36) ∨ (a = 41 ∧ j = 37) ∨ (a = 41 ∧ j = 38) ∨ (a = 41 ∧ j = 39) ∨ a = 58 ∨ a = 59 ∨ a = 54 ∨ a = 55) → c2 a j = c a j) → (-2147483648) ≤ y ∧ y ≤ 2147483647 → ((c2 41 2 = 0 ∧ a1 ≥ 0 ∧ a1 ≤ c 41 2 ∧ a1 ≤ 150) ∨ (c2 41 2 = c 41 2 ∧ a1 < 0) ∨ (c2 41 2 = c 41 2 ∧ a1 > c 41 2) ∨ (c2 41 2 = c 41 2 ∧ a1 > 150)) → Z (.inl (some (vi y)), Wd P Q P P c2, 0, 0)) : Wp sc (d + 67) 202 0 [(0, .ref 41), (1, vi a1)] [] (Wd P Q P P c) 0 0 Z := by
  have hP := iv_P hI
  have hQ := iv_Q hI
  refine q_aload_n c_202_0 rfl (q_iconst c_202_1 (v_pi (z := 0) c_202_2 kf_8_3 rfl (nb_ rfl) rfl rfl rfl (by decide) (q_aload_n c_202_5 rfl (q_iload_n c_202_6 rfl ?_))))
  by_cases h_75 : a1 < 0
  · refine v_if_lt_t (t := 29) c_202_7 rfl ⟨ha1.1, h_75, by decide⟩ (q_iconst c_202_29 (q_iconst c_202_30 (q_iconst c_202_31 (v_cv c_202_32 km_8_203 rfl rfl (nb_ rfl) ⟨⟨rfl, rfl⟩, nb_ rfl, rfl⟩ (nb_ rfl) (nb_ rfl) (q_iload_n c_145_0 rfl (v_if_ne_f (t := 26) c_145_1 rfl (by decide) (q_aload_n c_145_4 rfl ?_)))))))
    refine v_gi (z := 0) (v := 0) c_145_5 kf_8_3 rfl (nb_ rfl) rfl rfl (up_e rfl) (v_if_ne_f (t := 26) c_145_8 rfl (by decide) (q_aload_n c_145_11 rfl (q_iload_n c_145_12 rfl (v_pi (z := 0) c_145_13 kf_8_3 rfl (nb_ rfl) rfl rfl rfl (by decide) (q_aload_n c_145_16 rfl (v_gr (t := 42) c_145_17 kf_8_7 rfl (nb_ rfl) rfl (q_iload_n c_145_20 rfl ?_)))))))
    refine q_dup2 c_145_21 ⟨rfl, rfl⟩ ?_
    have h_76 := ir_42 hI 1
    refine v_ia (v := c 42 1) c_145_22 rfl (by decide) (by decide) (by decide) ((up_c (nn rfl)).trans (up_c (nn rfl))) (q_iconst c_145_23 (v_iadd (v := c 42 1 + 1) c_145_24 rfl (v_nrm (fun y_77 hy_77 => (v_is c_145_25 rfl (by decide) (by decide) (by decide) (q_aload_n c_145_26 rfl (v_gi (z := 0) (v := 1) c_145_27 kf_8_3 rfl (nb_ rfl) rfl rfl ((up_c (nn rfl)).trans (up_e rfl)) (v_if_ne_t (t := 37) c_145_30 rfl (by decide) ?_))))))))
    refine q_iconst c_145_37 (v_zret c_145_38 rfl (by decide) (bk_inl (v_if_ne_f (t := 40) c_202_35 rfl (by decide) (q_iconst c_202_38 (q_iret c_202_39 rfl ?_)))))
    have hI_78 := iw_41_0 (v := 0) hI ⟨by decide, by decide⟩
    have hI_79 := iw_41_0 (v := 1) hI_78 ⟨by decide, by decide⟩
    have hI_80 := iw_42 (j := 1) (v := y_77) hI_79 ⟨hy_77.1, hy_77.2⟩
    have h_81 := ir_41_2 hI
    have h_82 : (up (up (up c 41 0 0) 41 0 1) 42 1 y_77) 41 2 = c 41 2 := ((up_c (nn rfl)).trans ((up_n (by decide)).trans (up_n (by decide))))
    exact K (up (up (up c 41 0 0) 41 0 1) 42 1 y_77) 0 hI_80 (fun a j hm => (up_b (Decidable.or_iff_not_imp_left.mpr (fun h1 h2 => hm (Or.inr (Or.inl (Decidable.not_not.mp h1)))))).trans ((up_b (Decidable.or_iff_not_imp_left.mpr (fun h1 h2 => hm (Or.inl ⟨Decidable.not_not.mp h1, h2⟩)))).trans (up_b (Decidable.or_iff_not_imp_left.mpr (fun h1 h2 => hm (Or.inl ⟨Decidable.not_not.mp h1, h2⟩)))))) ⟨by decide, by decide⟩ (Or.inr (Or.inl ⟨by first | assumption | omega, by first | exact q_e97a17f6e h_75 | omega⟩))
  · refine v_if_lt_f (t := 29) c_202_7 rfl ⟨by decide, (Int.not_lt.mp h_75), ha1.2⟩ (q_iload_n c_202_10 rfl (q_aload_n c_202_11 rfl ?_))
    have h_83 := ir_41_2 hI
    refine v_gi (z := 2) (v := c 41 2) c_202_12 kf_8_99 rfl (nb_ rfl) rfl rfl (up_n (by decide)) ?_
    by_cases h_84 : a1 > c 41 2
    · refine v_ic_gt_t (t := 29) c_202_15 rfl ⟨(Int.le_trans (by decide) h_83.1), h_84, ha1.2⟩ (q_iconst c_202_29 (q_iconst c_202_30 (q_iconst c_202_31 (v_cv c_202_32 km_8_203 rfl rfl (nb_ rfl) ⟨⟨rfl, rfl⟩, nb_ rfl, rfl⟩ (nb_ rfl) (nb_ rfl) (q_iload_n c_145_0 rfl (v_if_ne_f (t := 26) c_145_1 rfl (by decide) (q_aload_n c_145_4 rfl ?_)))))))
      refine v_gi (z := 0) (v := 0) c_145_5 kf_8_3 rfl (nb_ rfl) rfl rfl (up_e rfl) (v_if_ne_f (t := 26) c_145_8 rfl (by decide) (q_aload_n c_145_11 rfl (q_iload_n c_145_12 rfl (v_pi (z := 0) c_145_13 kf_8_3 rfl (nb_ rfl) rfl rfl rfl (by decide) (q_aload_n c_145_16 rfl (v_gr (t := 42) c_145_17 kf_8_7 rfl (nb_ rfl) rfl (q_iload_n c_145_20 rfl ?_)))))))
      refine q_dup2 c_145_21 ⟨rfl, rfl⟩ ?_
      have h_85 := ir_42 hI 1
      refine v_ia (v := c 42 1) c_145_22 rfl (by decide) (by decide) (by decide) ((up_c (nn rfl)).trans (up_c (nn rfl))) (q_iconst c_145_23 (v_iadd (v := c 42 1 + 1) c_145_24 rfl (v_nrm (fun y_86 hy_86 => (v_is c_145_25 rfl (by decide) (by decide) (by decide) (q_aload_n c_145_26 rfl (v_gi (z := 0) (v := 1) c_145_27 kf_8_3 rfl (nb_ rfl) rfl rfl ((up_c (nn rfl)).trans (up_e rfl)) (v_if_ne_t (t := 37) c_145_30 rfl (by decide) ?_))))))))
      refine q_iconst c_145_37 (v_zret c_145_38 rfl (by decide) (bk_inl (v_if_ne_f (t := 40) c_202_35 rfl (by decide) (q_iconst c_202_38 (q_iret c_202_39 rfl ?_)))))
      have hI_87 := iw_41_0 (v := 0) hI ⟨by decide, by decide⟩
      have hI_88 := iw_41_0 (v := 1) hI_87 ⟨by decide, by decide⟩
      have hI_89 := iw_42 (j := 1) (v := y_86) hI_88 ⟨hy_86.1, hy_86.2⟩
      have h_90 : (up (up (up c 41 0 0) 41 0 1) 42 1 y_86) 41 2 = c 41 2 := ((up_c (nn rfl)).trans ((up_n (by decide)).trans (up_n (by decide))))
      exact K (up (up (up c 41 0 0) 41 0 1) 42 1 y_86) 0 hI_89 (fun a j hm => (up_b (Decidable.or_iff_not_imp_left.mpr (fun h1 h2 => hm (Or.inr (Or.inl (Decidable.not_not.mp h1)))))).trans ((up_b (Decidable.or_iff_not_imp_left.mpr (fun h1 h2 => hm (Or.inl ⟨Decidable.not_not.mp h1, h2⟩)))).trans (up_b (Decidable.or_iff_not_imp_left.mpr (fun h1 h2 => hm (Or.inl ⟨Decidable.not_not.mp h1, h2⟩)))))) ⟨by decide, by decide⟩ (Or.inr (Or.inr (Or.inl ⟨by first | assumption | omega, by first | exact q_0e7f65a30 h_84 | omega⟩)))
    · refine v_ic_gt_f (t := 29) c_202_15 rfl ⟨ha1.1, (Int.not_lt.mp h_84), (Int.le_trans h_83.2 (by decide))⟩ (q_iload_n c_202_18 rfl (v_sip c_202_19 (by decide) ?_))
      by_cases h_91 : a1 > 150
      · refine v_ic_gt_t (t := 29) c_202_22 rfl ⟨by decide, h_91, ha1.2⟩ (q_iconst c_202_29 (q_iconst c_202_30 (q_iconst c_202_31 (v_cv c_202_32 km_8_203 rfl rfl (nb_ rfl) ⟨⟨rfl, rfl⟩, nb_ rfl, rfl⟩ (nb_ rfl) (nb_ rfl) (q_iload_n c_145_0 rfl (v_if_ne_f (t := 26) c_145_1 rfl (by decide) (q_aload_n c_145_4 rfl ?_)))))))
        refine v_gi (z := 0) (v := 0) c_145_5 kf_8_3 rfl (nb_ rfl) rfl rfl (up_e rfl) (v_if_ne_f (t := 26) c_145_8 rfl (by decide) (q_aload_n c_145_11 rfl (q_iload_n c_145_12 rfl (v_pi (z := 0) c_145_13 kf_8_3 rfl (nb_ rfl) rfl rfl rfl (by decide) (q_aload_n c_145_16 rfl (v_gr (t := 42) c_145_17 kf_8_7 rfl (nb_ rfl) rfl (q_iload_n c_145_20 rfl ?_)))))))
        refine q_dup2 c_145_21 ⟨rfl, rfl⟩ ?_
        have h_92 := ir_42 hI 1
        refine v_ia (v := c 42 1) c_145_22 rfl (by decide) (by decide) (by decide) ((up_c (nn rfl)).trans (up_c (nn rfl))) (q_iconst c_145_23 (v_iadd (v := c 42 1 + 1) c_145_24 rfl (v_nrm (fun y_93 hy_93 => (v_is c_145_25 rfl (by decide) (by decide) (by decide) (q_aload_n c_145_26 rfl (v_gi (z := 0) (v := 1) c_145_27 kf_8_3 rfl (nb_ rfl) rfl rfl ((up_c (nn rfl)).trans (up_e rfl)) (v_if_ne_t (t := 37) c_145_30 rfl (by decide) ?_))))))))
        refine q_iconst c_145_37 (v_zret c_145_38 rfl (by decide) (bk_inl (v_if_ne_f (t := 40) c_202_35 rfl (by decide) (q_iconst c_202_38 (q_iret c_202_39 rfl ?_)))))
        have hI_94 := iw_41_0 (v := 0) hI ⟨by decide, by decide⟩
        have hI_95 := iw_41_0 (v := 1) hI_94 ⟨by decide, by decide⟩
        have hI_96 := iw_42 (j := 1) (v := y_93) hI_95 ⟨hy_93.1, hy_93.2⟩
        have h_97 : (up (up (up c 41 0 0) 41 0 1) 42 1 y_93) 41 2 = c 41 2 := ((up_c (nn rfl)).trans ((up_n (by decide)).trans (up_n (by decide))))
        exact K (up (up (up c 41 0 0) 41 0 1) 42 1 y_93) 0 hI_96 (fun a j hm => (up_b (Decidable.or_iff_not_imp_left.mpr (fun h1 h2 => hm (Or.inr (Or.inl (Decidable.not_not.mp h1)))))).trans ((up_b (Decidable.or_iff_not_imp_left.mpr (fun h1 h2 => hm (Or.inl ⟨Decidable.not_not.mp h1, h2⟩)))).trans (up_b (Decidable.or_iff_not_imp_left.mpr (fun h1 h2 => hm (Or.inl ⟨Decidable.not_not.mp h1, h2⟩)))))) ⟨by decide, by decide⟩ (Or.inr (Or.inr (Or.inr ⟨by first | assumption | omega, by first | exact q_8db41993e h_91 | omega⟩)))
      · refine v_ic_gt_f (t := 29) c_202_22 rfl ⟨ha1.1, (Int.not_lt.mp h_91), by decide⟩ (q_iconst c_202_25 (q_goto (t := 30) c_202_26 rfl (q_iconst c_202_30 (q_iconst c_202_31 (v_cv c_202_32 km_8_203 rfl rfl (nb_ rfl) ⟨⟨rfl, rfl⟩, nb_ rfl, rfl⟩ (nb_ rfl) (nb_ rfl) (q_iload_n c_145_0 rfl (v_if_ne_t (t := 26) c_145_1 rfl (by decide) ?_)))))))
        refine q_aload_n c_145_26 rfl (v_gi (z := 0) (v := 0) c_145_27 kf_8_3 rfl (nb_ rfl) rfl rfl (up_e rfl) (v_if_ne_f (t := 37) c_145_30 rfl (by decide) (q_iconst c_145_33 (q_goto (t := 38) c_145_34 rfl (v_zret c_145_38 rfl (by decide) (bk_inl (v_if_ne_t (t := 40) c_202_35 rfl (by decide) ?_)))))))
        refine q_aload_n c_202_40 rfl (q_iload_n c_202_41 rfl ?_)
        have hI_98 := iw_41_0 (v := 0) hI ⟨by decide, by decide⟩
        refine v_cv c_202_42 km_8_207 rfl rfl (nb_ rfl) ⟨⟨rfl, rfl⟩, nb_ rfl, rfl⟩ (nb_ rfl) (nb_ rfl) (s_163 (a1 := a1) hI_98 (show 0 ≤ a1 ∧ a1 ≤ 600 from ⟨by first | exact q_720657ba9 h_75 | omega, by first | exact q_f4271b4e1 h_91 | omega⟩) (fun c_99 hI_100 hF_101 h_102 => (bk_inl ?_)))
        have h_103 := ir_41_2 hI_100
        have h_104 := ir_41_3 hI_100
        have h_105 := ir_41_4 hI_100
        have h_106 := ir_41_5 hI_100
        have h_107 := ir_41_7 hI_100
        refine q_aload_n c_202_45 rfl ?_
        have h_108 := ir_41_35 hI
        have kn_109 : Hid (c_99 41 35 = c 41 35) := (hF_101 41 35 qn_010af1ec6).trans (up_n (by decide))
        refine v_gi (z := 35) (v := c 41 35) c_202_46 kf_8_182 rfl (nb_ rfl) rfl rfl (hid kn_109) (v_bip c_202_49 (by decide) ?_)
        by_cases h_110 : c 41 35 ≠ 16
        · refine v_ic_ne_t (t := 63) c_202_51 rfl ⟨h_110, ⟨by first | exact q_75c67c730 h_108 | omega, by first | exact q_8258630c3 h_108 | omega⟩, by decide, by decide⟩ (q_aload_n c_202_63 rfl (q_iconst c_202_64 (v_pi (z := 34) c_202_65 kf_8_284 rfl (nb_ rfl) rfl rfl rfl (by decide) (q_aload_n c_202_68 rfl (v_cv c_202_69 km_8_131 rfl rfl (nb_ rfl) ⟨⟨rfl, rfl⟩, nb_ rfl, rfl⟩ (nb_ rfl) (nb_ rfl) (q_aload_n c_152_0 rfl (v_gi (z := 5) (v := c_99 41 5) c_152_1 kf_8_102 rfl (nb_ rfl) rfl rfl (up_n (by decide)) ?_)))))))
          refine q_iconst c_152_4 (v_ic_ne_f (t := 12) c_152_5 rfl (by first | exact q_6d0a553af h_102 h_106 | omega) (q_iconst c_152_8 (q_goto (t := 13) c_152_9 rfl (v_zret c_152_13 rfl (by decide) (bk_inl (v_if_eq_f (t := 89) c_202_72 rfl (by decide) ?_))))))
          have hI_111 := iw_41_34 (v := 0) hI_100 ⟨by decide, by decide⟩
          refine Wp_ls [(0, .ref 41), (1, vi a1)] (lsub_cons rfl (lsub_cons rfl lsub_nil)) ?_
          have h_112 : (up c_99 41 34 0) 41 34 = 0 := (up_e rfl)
          have h_113 : (up c_99 41 34 0) 41 2 = c_99 41 2 := (up_n (by decide))
          have h_114 : (up c_99 41 34 0) 41 3 = c_99 41 3 := (up_n (by decide))
          have h_115 : (up c_99 41 34 0) 41 34 = 0 := (up_e rfl)
          have h_116 : (up c_99 41 34 0) 41 35 = c 41 35 := ((up_n (by decide)).trans (hid kn_109))
          have h_117 : (up c_99 41 34 0) 41 4 = c_99 41 4 := (up_n (by decide))
          have h_118 : (up c_99 41 34 0) 41 5 = c_99 41 5 := (up_n (by decide))
          have h_119 : (up c_99 41 34 0) 41 7 = c_99 41 7 := (up_n (by decide))
          have h_120 : (up c_99 41 34 0) 41 34 = 0 := (up_e rfl)
          exact (s_202_l (sc := sc) (d := d) hI ha1 K 1214) (up c_99 41 34 0) hI_111 (fun a j hm => (up_b (Decidable.or_iff_not_imp_left.mpr (fun h1 h2 => hm (Or.inr (Or.inr (Or.inr (Or.inr (Or.inr (Or.inr (Or.inr (Or.inr (Or.inr (Or.inl ⟨Decidable.not_not.mp h1, h2⟩))))))))))))).trans ((hF_101 a j (qv_5d0a24d61 hm)).trans (up_b (Decidable.or_iff_not_imp_left.mpr (fun h1 h2 => hm (Or.inl ⟨Decidable.not_not.mp h1, h2⟩)))))) (by first | exact q_6d0a553af h_102 h_106 | omega) (by first | exact q_aa9195485 h_102 h_104 | omega) (by first | exact q_177fc0d22 h_102 h_91 | omega) (by first | exact q_95d63d183 h_105 | omega) (by first | assumption | omega) (by first | exact q_c5aecebbc h_102 h_107 | omega) (by first | exact q_df9bc0968 h_108 h_110 | omega) (by first | exact q_1dc94a4e9 h_105 | omega) (by first | decide | omega) (by first | decide | omega) (ap_nil (by omega)) ⟨by first | exact q_59baff7b3 h_102 h_103 | omega, by first | exact q_720657ba9 h_75 | omega, by first | exact q_0325d56da h_84 | omega, by first | exact q_803e7bd5f h_91 | omega⟩ (by omega)
        · refine v_ic_ne_f (t := 63) c_202_51 rfl (Decidable.not_not.mp h_110) (q_aload_n c_202_54 rfl (q_iconst c_202_55 (v_cv c_202_56 km_8_232 rfl rfl (nb_ rfl) ⟨⟨rfl, rfl⟩, nb_ rfl, rfl⟩ (nb_ rfl) (nb_ rfl) (s_164 (a1 := 0) hI_100 (show (-2147483648) ≤ 0 ∧ 0 ≤ 2147483647 from ⟨by decide, by decide⟩) (fun c_121 y_124 hI_122 hF_123 hy_124 => (bk_inl (q_pop c_202_59 rfl (v_bip c_202_60 (by decide) (q_iret c_202_62 rfl ?_)))))))))
          have kn_125 : Hid (c_121 41 2 = c_99 41 2) := hF_123 41 2 (fun h => absurd h.2 (ni rfl))
          have h_126 : c_121 41 2 = c_99 41 2 := (hid kn_125)
          exact K c_121 (-20) hI_122 (fun a j hm => (hF_123 a j (qv_c40515afb hm)).trans ((hF_101 a j (qv_5d0a24d61 hm)).trans (up_b (Decidable.or_iff_not_imp_left.mpr (fun h1 h2 => hm (Or.inl ⟨Decidable.not_not.mp h1, h2⟩)))))) ⟨by decide, by decide⟩ (Or.inl ⟨by first | exact q_59baff7b3 h_102 h_103 | omega, by first | exact q_720657ba9 h_75 | omega, by first | exact q_0325d56da h_84 | omega, by first | exact q_803e7bd5f h_91 | omega⟩)

set_option maxRecDepth 100000 in
set_option maxHeartbeats 4000000 in
theorem s_203_l {sc : List Int32} {e : Int} {d u P Q : Nat} {c : ME} {Z : AR → Prop} (hI : Iv u e P Q c)  (K : ∀ (y : Int), (-2147483648) ≤ y ∧ y ≤ 2147483647 → Z (.inl (some (vi y)), Wd P Q P P c, 0, 0)) : ∀ n : Nat, (∀ (v1 : Int) (v2 : Int), (-2147483648) ≤ v1 ∧ v1 ≤ 2147483647 → 0 ≤ v2 ∧ v2 ≤ 6 → 13 - 2 * v2 < (n : Int) → Wp sc (d + 8) 203 4 [(0, .ref 41), (1, vi v1), (2, vi v2)] [] (Wd P Q P P c) 0 0 Z) := by
  intro n
  induction n with
  | zero => exact (by intro v1 v2 hv1 hv2 hm9; have hP := iv_P hI; have hQ := iv_Q hI; exfalso; omega)
  | succ n ih =>
    have hP := iv_P hI
    have hQ := iv_Q hI
    intro v1 v2 hv1 hv2 hm9
    refine q_iload_n c_203_4 rfl (q_aload_n c_203_5 rfl ?_)
    have h_1 := ir_41_20 hI
    refine v_gi (z := 20) (v := c 41 20) c_203_6 kf_8_157 rfl (nb_ rfl) rfl rfl rfl ?_
    by_cases h_2 : v2 ≥ c 41 20
    · refine v_ic_ge_t (t := 26) c_203_9 rfl ⟨(Int.le_trans (by decide) h_1.1), h_2, (Int.le_trans hv2.2 (by decide))⟩ (q_iload_n c_203_26 rfl (q_iret c_203_27 rfl ?_))
      exact K v1 hv1
    · refine v_ic_ge_f (t := 26) c_203_9 rfl ⟨(Int.le_trans (by decide) hv2.1), (Int.not_le.mp h_2), (Int.le_trans h_1.2 (by decide))⟩ (q_iload_n c_203_12 rfl (q_aload_n c_203_13 rfl (q_iload_n c_203_14 rfl ?_)))
      have h_3 := ir_59_g hI (j := 4 * v2) (by first | exact q_aa51b186e h_1 h_2 | omega)
      have h_4 := ir_59_g hI (j := 4 * v2 + 1) (by first | exact q_57851f9de h_1 h_2 | omega)
      have h_5 := ir_59_g hI (j := 4 * v2 + 2) (by first | exact q_7296e74e6 h_1 h_2 | omega)
      have h_6 := ir_59_g hI (j := 4 * v2 + 3) (by first | exact q_b15525c4c h_1 h_2 | omega)
      refine v_cv c_203_15 km_8_343 rfl rfl (nb_ rfl) ⟨⟨rfl, rfl⟩, nb_ rfl, rfl⟩ (nb_ rfl) (nb_ rfl) (s_187 (v1 := c 59 (4 * v2)) (v2 := c 59 (4 * v2 + 1)) (v3 := c 59 (4 * v2 + 2)) (v4 := c 59 (4 * v2 + 3)) (r := c 59 (4 * v2 + 1) + c 59 (4 * v2 + 2) + c 59 (4 * v2 + 3) + c 59 (4 * v2)) (a1 := v2) hI (show 0 ≤ v2 ∧ v2 ≤ 5 from ⟨hv2.1, by first | exact q_d63a8538e h_1 h_2 | omega⟩) (rfl) (rfl) (rfl) (rfl) (by omega) (bk_inl (v_iadd (v := c 59 (4 * v2 + 1) + c 59 (4 * v2 + 2) + c 59 (4 * v2 + 3) + c 59 (4 * v2) + v1) c_203_18 (by first | exact q_8299135d3 | omega) (v_nrm (fun y_7 hy_7 => (q_istore_n c_203_19 (nb_ rfl) (v_iinc (v := v2 + 1) c_203_20 rfl (nb_ rfl) rfl (q_goto (t := 4) c_203_23 rfl (Wp_ls [(0, .ref 41), (1, vi y_7), (2, vi (v2 + 1))] (lsub_cons rfl (lsub_cons rfl (lsub_cons rfl lsub_nil))) ?_)))))))))
      exact ih y_7 (v2 + 1) hy_7 ⟨by first | exact rgp_l hv2.1 (by decide) | omega, by first | exact q_4a76cd9c7 h_1 h_2 | omega⟩ (by omega)
set_option maxRecDepth 100000 in
set_option maxHeartbeats 4000000 in
theorem s_203 {sc : List Int32} {e : Int} {d u P Q : Nat} {c : ME} {Z : AR → Prop} (hI : Iv u e P Q c)  (K : ∀ (y : Int), (-2147483648) ≤ y ∧ y ≤ 2147483647 → Z (.inl (some (vi y)), Wd P Q P P c, 0, 0)) : Wp sc (d + 8) 203 0 [(0, .ref 41)] [] (Wd P Q P P c) 0 0 Z := by
  have hP := iv_P hI
  have hQ := iv_Q hI
  refine q_iconst c_203_0 (q_istore_n c_203_1 (nb_ rfl) (q_iconst c_203_2 (q_istore_n c_203_3 (nb_ rfl) (Wp_ls [(0, .ref 41), (1, vi 0), (2, vi 0)] (lsub_cons rfl (lsub_cons rfl (lsub_cons rfl lsub_nil))) ?_))))
  exact (s_203_l (sc := sc) (d := d) hI K 16) 0 0 ⟨by decide, by decide⟩ ⟨by decide, by decide⟩ (by omega)

set_option maxRecDepth 100000 in
set_option maxHeartbeats 4000000 in
theorem s_204 {sc : List Int32} {e : Int} {d u P Q : Nat} {c : ME} {a1 : Int} {Z : AR → Prop} (hI : Iv u e P Q c) (ha1 : 0 ≤ a1 ∧ a1 ≤ 5) (K : ∀ (y : Int), (-2147483648) ≤ y ∧ y ≤ 2147483647 → Z (.inl (some (vi y)), Wd P Q P P c, 0, 0)) : Wp sc (d + 8) 204 0 [(0, .ref 41), (1, vi a1)] [] (Wd P Q P P c) 0 0 Z := by
  have hP := iv_P hI
  have hQ := iv_Q hI
  refine q_aload_n c_204_0 rfl (q_iload_n c_204_1 rfl ?_)
  have h_1 := ir_59_g hI (j := 4 * a1) (by first | exact q_9f1d5ffdc ha1 | omega)
  have h_2 := ir_59_g hI (j := 4 * a1 + 1) (by first | exact q_0a2ee6f8f ha1 | omega)
  have h_3 := ir_59_g hI (j := 4 * a1 + 2) (by first | exact q_e07a293a2 ha1 | omega)
  have h_4 := ir_59_g hI (j := 4 * a1 + 3) (by first | exact q_d09cb0b73 ha1 | omega)
  refine v_cv c_204_2 km_8_343 rfl rfl (nb_ rfl) ⟨⟨rfl, rfl⟩, nb_ rfl, rfl⟩ (nb_ rfl) (nb_ rfl) (s_187 (v1 := c 59 (4 * a1)) (v2 := c 59 (4 * a1 + 1)) (v3 := c 59 (4 * a1 + 2)) (v4 := c 59 (4 * a1 + 3)) (r := c 59 (4 * a1 + 1) + c 59 (4 * a1 + 2) + c 59 (4 * a1 + 3) + c 59 (4 * a1)) (a1 := a1) hI (show 0 ≤ a1 ∧ a1 ≤ 5 from ha1) (rfl) (rfl) (rfl) (rfl) (by omega) (bk_inl ?_))
  by_cases h_5 : c 59 (4 * a1 + 1) + c 59 (4 * a1 + 2) + c 59 (4 * a1 + 3) + c 59 (4 * a1) ≠ 0
  · refine v_if_ne_t (t := 12) c_204_5 rfl ⟨h_5, ⟨by first | exact q_e052ef40e h_1 h_2 h_3 h_4 | omega, by first | exact q_db9ef1f4a h_1 h_2 h_3 h_4 | omega⟩, by decide, by decide⟩ (v_sip c_204_12 (by decide) (q_aload_n c_204_15 rfl (v_gr (t := 59) c_204_16 kf_8_68 rfl (nb_ rfl) rfl (q_iconst c_204_19 (q_iload_n c_204_20 rfl (v_imul (v := 4 * a1) c_204_21 rfl (v_ia (v := c 59 (4 * a1)) c_204_22 rfl (by decide) (by decide) ⟨by first | exact q_c065257af ha1 | omega, by first | exact q_a49915bbb ha1 | omega⟩ rfl ?_)))))))
    refine v_imul (v := 1000 * c 59 (4 * a1)) c_204_23 (by first | exact q_c64efdab1 | omega) (q_aload_n c_204_24 rfl (q_iload_n c_204_25 rfl (v_cv c_204_26 km_8_343 rfl rfl (nb_ rfl) ⟨⟨rfl, rfl⟩, nb_ rfl, rfl⟩ (nb_ rfl) (nb_ rfl) (s_187 (v1 := c 59 (4 * a1)) (v2 := c 59 (4 * a1 + 1)) (v3 := c 59 (4 * a1 + 2)) (v4 := c 59 (4 * a1 + 3)) (r := c 59 (4 * a1 + 1) + c 59 (4 * a1 + 2) + c 59 (4 * a1 + 3) + c 59 (4 * a1)) (a1 := a1) hI (show 0 ≤ a1 ∧ a1 ≤ 5 from ha1) (rfl) (rfl) (rfl) (rfl) (by omega) (bk_inl (v_idivx c_204_29 ⟨by omega, by omega, by omega⟩ (fun y_6 hy_6 => (q_iret c_204_30 rfl ?_))))))))
    exact K y_6 hy_6
  · refine v_if_ne_f (t := 12) c_204_5 rfl (Decidable.not_not.mp h_5) (q_iconst c_204_8 (q_goto (t := 30) c_204_9 rfl (q_iret c_204_30 rfl ?_)))
    exact K 0 ⟨by decide, by decide⟩

set_option maxRecDepth 100000 in
set_option maxHeartbeats 4000000 in
theorem s_206_l {sc : List Int32} {e : Int} {d u P Q : Nat} {c : ME} {a1 : Int} {Z : AR → Prop} (hI : Iv u e P Q c) (ha1 : (-2147483648) ≤ a1 ∧ a1 ≤ 2147483647) (K : ∀ (c2 : ME) (y : Int), Iv u e P Q c2 → (∀ (a : Nat) (j : Int), ¬ ((a = 41 ∧ j = 0) ∨ a = 42 ∨ (a = 41 ∧ j = 2) ∨ (a = 41 ∧ j = 3) ∨ (a = 41 ∧ j = 4) ∨ (a = 41 ∧ j = 5) ∨ (a = 41 ∧ j = 6) ∨ (a = 41 ∧ j = 7) ∨ (a = 41 ∧ j = 8) ∨ (a = 41 ∧ j = 47) ∨ a = 61 ∨ a = 62) → c2 a j = c a j) → (-2147483648) ≤ y ∧ y ≤ 2147483647 → ((c2 41 2 = 0 ∧ a1 ≥ 0 ∧ a1 ≤ c 41 2 ∧ a1 ≤ 60) ∨ (c2 41 2 = c 41 2 ∧ a1 < 0) ∨ (c2 41 2 = c 41 2 ∧ a1 > c 41 2) ∨ (c2 41 2 = c 41 2 ∧ a1 > 60)) → Z (.inl (some (vi y)), Wd P Q P P c2, 0, 0)) : ∀ n : Nat, (∀ (c2 : ME) (v2 : Int), Iv u e P Q c2 → (∀ (a : Nat) (j : Int), ¬ ((a = 41 ∧ j = 0) ∨ a = 42 ∨ (a = 41 ∧ j = 2) ∨ (a = 41 ∧ j = 3) ∨ (a = 41 ∧ j = 4) ∨ (a = 41 ∧ j = 5) ∨ (a = 41 ∧ j = 6) ∨ (a = 41 ∧ j = 7) ∨ (a = 41 ∧ j = 8) ∨ (a = 41 ∧ j = 47) ∨ a = 61 ∨ a = 62) → c2 a j = c a j) → 0 ≤ v2 ∧ v2 ≤ 8 → ((c2 41 2 = 0 ∧ a1 ≥ 0 ∧ a1 ≤ c 41 2 ∧ a1 ≤ 60)) → 1211 - 2 * c2 41 4 < (n : Int) → Wp sc (d + 9) 206 22 [(0, .ref 41), (1, vi a1), (2, vi v2)] [] (Wd P Q P P c2) 0 0 Z) := by
  intro n
  induction n with
  | zero => exact (by intro c2 v2 hI2 hF hv2 hx0 hm9; have hP := iv_P hI; have hQ := iv_Q hI; have h_133 := ir_41_4 hI2; exfalso; omega)
  | succ n ih =>
    have hP := iv_P hI
    have hQ := iv_Q hI
    intro c2 v2 hI2 hF hv2 hx0 hm9
    have h_1 := ir_41_2 hI
    have h_2 := ir_41_2 hI2
    have h_3 := ir_41_4 hI2
    refine q_aload_n c_206_22 rfl (v_cv c_206_23 km_8_131 rfl rfl (nb_ rfl) ⟨⟨rfl, rfl⟩, nb_ rfl, rfl⟩ (nb_ rfl) (nb_ rfl) (q_aload_n c_152_0 rfl ?_))
    have h_4 := ir_41_5 hI2
    refine v_gi (z := 5) (v := c2 41 5) c_152_1 kf_8_102 rfl (nb_ rfl) rfl rfl rfl (q_iconst c_152_4 ?_)
    by_cases h_5 : c2 41 5 ≠ (-1)
    · refine v_ic_ne_t (t := 12) c_152_5 rfl ⟨h_5, ⟨(Int.le_trans (by decide) h_4.1), (Int.le_trans h_4.2 (by decide))⟩, by decide, by decide⟩ (q_iconst c_152_12 (v_zret c_152_13 rfl (by decide) (bk_inl (v_if_eq_t (t := 103) c_206_26 rfl (by decide) (q_aload_n c_206_103 rfl (q_iload_n c_206_104 rfl (v_cv c_206_105 km_8_232 rfl rfl (nb_ rfl) ⟨⟨rfl, rfl⟩, nb_ rfl, rfl⟩ (nb_ rfl) (nb_ rfl) (s_164 (a1 := v2) hI2 (show (-2147483648) ≤ v2 ∧ v2 ≤ 2147483647 from ⟨(Int.le_trans (by decide) hv2.1), (Int.le_trans hv2.2 (by decide))⟩) (fun c_6 y_9 hI_7 hF_8 hy_9 => ?_)))))))))
      refine bk_inl (q_istore_n c_206_108 (nb_ rfl) (q_aload_n c_206_109 rfl ?_))
      have kn_10 : Hid (c_6 41 5 = c2 41 5) := hF_8 41 5 (fun h => absurd h.2 (ni rfl))
      refine v_gi (z := 5) (v := c2 41 5) c_206_110 kf_8_102 rfl (nb_ rfl) rfl rfl (hid kn_10) (q_iconst c_206_113 (v_ic_eq_f (t := 119) c_206_114 rfl ⟨by first | exact q_bd023a79f h_4 h_5 | omega, ⟨(Int.le_trans (by decide) h_4.1), (Int.le_trans h_4.2 (by decide))⟩, by decide, by decide⟩ (q_iload_n c_206_117 rfl (q_iret c_206_118 rfl ?_))))
      have kn_11 : Hid (c_6 41 2 = c2 41 2) := hF_8 41 2 (fun h => absurd h.2 (ni rfl))
      have h_12 : c_6 41 2 = c2 41 2 := (hid kn_11)
      exact K c_6 y_9 hI_7 (fun a j hm => (hF_8 a j (qv_021be712d hm)).trans (hF a j hm)) hy_9 (Or.inl ⟨by first | (clear ha1 hv2 h_1 h_2 h_3 h_4 h_5; omega) | omega, by first | (clear ha1 hv2 h_1 h_2 h_3 h_4 h_5; omega) | omega, by first | (clear ha1 hv2 h_1 h_2 h_3 h_4 h_5; omega) | omega, by first | (clear ha1 hv2 h_1 h_2 h_3 h_4 h_5; omega) | omega⟩)
    · refine v_ic_ne_f (t := 12) c_152_5 rfl (Decidable.not_not.mp h_5) (q_iconst c_152_8 (q_goto (t := 13) c_152_9 rfl (v_zret c_152_13 rfl (by decide) (bk_inl (v_if_eq_f (t := 103) c_206_26 rfl (by decide) (q_aload_n c_206_29 rfl ?_))))))
      have h_13 := ir_41_3 hI2
      refine v_cv c_206_30 km_8_211 rfl rfl (nb_ rfl) ⟨⟨rfl, rfl⟩, nb_ rfl, rfl⟩ (nb_ rfl) (nb_ rfl) (s_162 hI2 (fun c_14 y_17 hI_15 hF_16 hy_17 h_18 h_19 h_20 => (bk_inl ?_)))
      have h_21 := ir_41_4 hI_15
      by_cases h_22 : y_17 = 0
      · refine v_if_eq_t (t := 103) c_206_33 rfl h_22 (q_aload_n c_206_103 rfl (q_iload_n c_206_104 rfl (v_cv c_206_105 km_8_232 rfl rfl (nb_ rfl) ⟨⟨rfl, rfl⟩, nb_ rfl, rfl⟩ (nb_ rfl) (nb_ rfl) (s_164 (a1 := v2) hI_15 (show (-2147483648) ≤ v2 ∧ v2 ≤ 2147483647 from ⟨(Int.le_trans (by decide) hv2.1), (Int.le_trans hv2.2 (by decide))⟩) (fun c_23 y_26 hI_24 hF_25 hy_26 => (bk_inl (q_istore_n c_206_108 (nb_ rfl) (q_aload_n c_206_109 rfl ?_))))))))
        have kn_27 : Hid (c_14 41 5 = c2 41 5) := hF_16 41 5 (fun h => absurd h.2 (ni rfl))
        have kn_28 : Hid (c_23 41 5 = c2 41 5) := (hF_25 41 5 (fun h => absurd h.2 (ni rfl))).trans (hid kn_27)
        refine v_gi (z := 5) (v := c2 41 5) c_206_110 kf_8_102 rfl (nb_ rfl) rfl rfl (hid kn_28) (q_iconst c_206_113 (v_ic_eq_t (t := 119) c_206_114 rfl (by first | exact q_65c5ff97d h_4 h_5 | omega) (q_aload_n c_206_119 rfl (q_iload_n c_206_120 rfl (v_pi (z := 47) c_206_121 kf_8_176 rfl (nb_ rfl) rfl rfl rfl (by decide) (q_aload_n c_206_124 rfl (q_aload_n c_206_125 rfl ?_)))))))
        refine v_gr (t := 61) c_206_126 kf_8_74 rfl (nb_ rfl) rfl (q_aload_n c_206_129 rfl (v_gr (t := 62) c_206_130 kf_8_77 rfl (nb_ rfl) rfl (v_bip c_206_133 (by decide) (v_cv c_206_135 km_8_169 rfl rfl (nb_ rfl) ⟨⟨rfl, rfl⟩, nb_ rfl, rfl⟩ (nb_ rfl) (nb_ rfl) (s_148 (f := 61) (t := 62) (nf := 8) (nt := 8) (n := 8) rfl rfl (by decide) (by decide) (by decide) (by decide) (by decide) (by omega) (bk_inl (q_iload_n c_206_138 rfl (q_iret c_206_139 rfl ?_))))))))
        have hI_29 := iw_41_47 (v := v2) hI_24 ⟨hv2.1, hv2.2⟩
        have hI_30 := cp_61_62 hI_29
        have kn_31 : Hid (c_14 41 2 = c2 41 2) := hF_16 41 2 (fun h => absurd h.2 (ni rfl))
        have kn_32 : Hid (c_23 41 2 = c2 41 2) := (hF_25 41 2 (fun h => absurd h.2 (ni rfl))).trans (hid kn_31)
        have h_33 : (upc (up c_23 41 47 v2) 61 0 62 0 8) 41 2 = c2 41 2 := ((upc_c (by omega)).trans ((up_n (by decide)).trans (hid kn_32)))
        exact K (upc (up c_23 41 47 v2) 61 0 62 0 8) y_26 hI_30 (fun a j hm => (upc_c (fun h => hm (Or.inr (Or.inr (Or.inr (Or.inr (Or.inr (Or.inr (Or.inr (Or.inr (Or.inr (Or.inr (Or.inr h))))))))))))).trans ((up_b (Decidable.or_iff_not_imp_left.mpr (fun h1 h2 => hm (Or.inr (Or.inr (Or.inr (Or.inr (Or.inr (Or.inr (Or.inr (Or.inr (Or.inr (Or.inl ⟨Decidable.not_not.mp h1, h2⟩))))))))))))).trans ((hF_25 a j (qv_021be712d hm)).trans ((hF_16 a j (fun h => hm (Or.inr (Or.inr (Or.inr (Or.inr (Or.inl h))))))).trans (hF a j hm))))) hy_26 (Or.inl ⟨by first | (clear ha1 hv2 h_1 h_2 h_3 h_4 h_5 h_13 h_21 h_18 h_22 h_19 h_20; omega) | omega, by first | (clear ha1 hv2 h_1 h_2 h_3 h_4 h_5 h_13 h_21 h_18 h_22 h_19 h_20; omega) | omega, by first | (clear ha1 hv2 h_1 h_2 h_3 h_4 h_5 h_13 h_21 h_18 h_22 h_19 h_20; omega) | omega, by first | (clear ha1 hv2 h_1 h_2 h_3 h_4 h_5 h_13 h_21 h_18 h_22 h_19 h_20; omega) | omega⟩)
      · refine v_if_eq_f (t := 103) c_206_33 rfl ⟨h_22, ⟨(Int.le_trans (by decide) hy_17.1), (Int.le_trans hy_17.2 (by decide))⟩, by decide, by decide⟩ (q_aload_n c_206_36 rfl (v_gi (z := 4) (v := c_14 41 4) c_206_37 kf_8_108 rfl (nb_ rfl) rfl rfl rfl (q_istore_n c_206_40 (nb_ rfl) (q_aload_n c_206_41 rfl (q_iconst c_206_42 (q_aload_n c_206_43 rfl ?_))))))
        have h_34 := ir_41_22 hI
        have kn_35 : Hid (c2 41 22 = c 41 22) := hF 41 22 qn_702a72872
        have kn_36 : Hid (c_14 41 22 = c 41 22) := (hF_16 41 22 (fun h => absurd h.2 (ni rfl))).trans (hid kn_35)
        refine v_gi (z := 22) (v := c 41 22) c_206_44 kf_8_163 rfl (nb_ rfl) rfl rfl (hid kn_36) (q_iconst c_206_47 (v_isub (v := c 41 22 - 1) c_206_48 rfl ?_))
        have kn_37 : Hid (c_14 41 3 = c2 41 3) := hF_16 41 3 (fun h => absurd h.2 (ni rfl))
        have h_38 : c_14 41 3 = c2 41 3 := (hid kn_37)
        have kn_39 : Hid (c_14 41 5 = c2 41 5) := hF_16 41 5 (fun h => absurd h.2 (ni rfl))
        have h_40 : c_14 41 5 = c2 41 5 := (hid kn_39)
        refine v_cv c_206_49 km_8_199 rfl rfl (nb_ rfl) ⟨⟨rfl, rfl⟩, nb_ rfl, rfl⟩ (nb_ rfl) (nb_ rfl) (s_160 (a1 := 0) (a2 := c 41 22 - 1) hI_15 (show 0 ≤ 0 ∧ 0 ≤ 1 from ⟨by decide, by decide⟩) (show (-1) ≤ c 41 22 - 1 ∧ c 41 22 - 1 ≤ 9999 from ⟨by first | exact q_452b39485 h_34 | omega, by first | exact q_6915b49e7 h_34 | omega⟩) (fun c_41 y_44 hI_42 hF_43 hy_44 h_45 h_46 h_47 h_48 h_49 => (bk_inl ?_)))
        have h_50 := ir_41_4 hI_42
        have h_51 := ir_41_5 hI_42
        refine q_istore c_206_52 (nb_ rfl) (q_aload_n c_206_54 rfl (v_cv c_206_55 km_8_131 rfl rfl (nb_ rfl) ⟨⟨rfl, rfl⟩, nb_ rfl, rfl⟩ (nb_ rfl) (nb_ rfl) (q_aload_n c_152_0 rfl (v_gi (z := 5) (v := c_41 41 5) c_152_1 kf_8_102 rfl (nb_ rfl) rfl rfl rfl (q_iconst c_152_4 ?_)))))
        by_cases h_52 : c_41 41 5 ≠ (-1)
        · refine v_ic_ne_t (t := 12) c_152_5 rfl ⟨h_52, ⟨(Int.le_trans (by decide) h_51.1), (Int.le_trans h_51.2 (by decide))⟩, by decide, by decide⟩ (q_iconst c_152_12 (v_zret c_152_13 rfl (by decide) (bk_inl (v_if_eq_t (t := 73) c_206_58 rfl (by decide) (q_aload_n c_206_73 rfl (v_bip c_206_74 (by decide) ?_))))))
          have kn_53 : Hid (c_41 41 3 = c2 41 3) := (hF_43 41 3 qn_97fd72088).trans (hid kn_37)
          have h_54 : c_41 41 3 = c2 41 3 := (hid kn_53)
          refine v_cv c_206_76 km_8_229 rfl rfl (nb_ rfl) ⟨⟨rfl, rfl⟩, nb_ rfl, rfl⟩ (nb_ rfl) (nb_ rfl) (s_161 (a1 := 59) hI_42 (show 1 ≤ 59 ∧ 59 ≤ 255 from ⟨by decide, by decide⟩) (fun c_55 hI_56 hF_57 h_58 h_59 h_60 h_61 => (bk_inl ?_)))
          have h_62 := ir_41_4 hI_56
          have h_63 := ir_41_5 hI_56
          refine q_aload_n c_206_79 rfl (v_cv c_206_80 km_8_131 rfl rfl (nb_ rfl) ⟨⟨rfl, rfl⟩, nb_ rfl, rfl⟩ (nb_ rfl) (nb_ rfl) (q_aload_n c_152_0 rfl (v_gi (z := 5) (v := c_55 41 5) c_152_1 kf_8_102 rfl (nb_ rfl) rfl rfl rfl (q_iconst c_152_4 (v_ic_ne_t (t := 12) c_152_5 rfl ⟨by first | exact q_9ee567b18 h_52 h_60 | omega, ⟨(Int.le_trans (by decide) h_63.1), (Int.le_trans h_63.2 (by decide))⟩, by decide, by decide⟩ (q_iconst c_152_12 (v_zret c_152_13 rfl (by decide) ?_)))))))
          refine bk_inl (v_if_ne_f (t := 89) c_206_83 rfl (by decide) (q_goto (t := 103) c_206_86 rfl (q_aload_n c_206_103 rfl (q_iload_n c_206_104 rfl (v_cv c_206_105 km_8_232 rfl rfl (nb_ rfl) ⟨⟨rfl, rfl⟩, nb_ rfl, rfl⟩ (nb_ rfl) (nb_ rfl) (s_164 (a1 := v2) hI_56 (show (-2147483648) ≤ v2 ∧ v2 ≤ 2147483647 from ⟨(Int.le_trans (by decide) hv2.1), (Int.le_trans hv2.2 (by decide))⟩) (fun c_64 y_67 hI_65 hF_66 hy_67 => (bk_inl (q_istore_n c_206_108 (nb_ rfl) ?_)))))))))
          refine q_aload_n c_206_109 rfl ?_
          have kn_68 : Hid (c_64 41 5 = c_55 41 5) := hF_66 41 5 (fun h => absurd h.2 (ni rfl))
          refine v_gi (z := 5) (v := c_55 41 5) c_206_110 kf_8_102 rfl (nb_ rfl) rfl rfl (hid kn_68) (q_iconst c_206_113 (v_ic_eq_f (t := 119) c_206_114 rfl ⟨by first | exact q_9ee567b18 h_52 h_60 | omega, ⟨(Int.le_trans (by decide) h_63.1), (Int.le_trans h_63.2 (by decide))⟩, by decide, by decide⟩ (q_iload_n c_206_117 rfl (q_iret c_206_118 rfl ?_))))
          have kn_69 : Hid (c_14 41 2 = c2 41 2) := hF_16 41 2 (fun h => absurd h.2 (ni rfl))
          have kn_70 : Hid (c_41 41 2 = c2 41 2) := (hF_43 41 2 qn_6151d08e8).trans (hid kn_69)
          have kn_71 : Hid (c_55 41 2 = c2 41 2) := (hF_57 41 2 qn_6151d08e8).trans (hid kn_70)
          have kn_72 : Hid (c_64 41 2 = c2 41 2) := (hF_66 41 2 (fun h => absurd h.2 (ni rfl))).trans (hid kn_71)
          have h_73 : c_64 41 2 = c2 41 2 := (hid kn_72)
          exact K c_64 y_67 hI_65 (fun a j hm => (hF_66 a j (qv_021be712d hm)).trans ((hF_57 a j (qv_0817adc36 hm)).trans ((hF_43 a j (qv_0817adc36 hm)).trans ((hF_16 a j (fun h => hm (Or.inr (Or.inr (Or.inr (Or.inr (Or.inl h))))))).trans (hF a j hm))))) hy_67 (Or.inl ⟨by first | (clear ha1 hv2 h_1 h_2 h_3 h_4 h_5 h_13 h_21 h_18 h_34 h_50 h_45 h_51 h_62 h_58 h_63 h_19 h_20 h_22 h_46 h_47 h_48 h_49 h_52 h_59 h_60 h_61; omega) | omega, by first | (clear ha1 hv2 h_1 h_2 h_3 h_4 h_5 h_13 h_21 h_18 h_34 h_50 h_45 h_51 h_62 h_58 h_63 h_19 h_20 h_22 h_46 h_47 h_48 h_49 h_52 h_59 h_60 h_61; omega) | omega, by first | (clear ha1 hv2 h_1 h_2 h_3 h_4 h_5 h_13 h_21 h_18 h_34 h_50 h_45 h_51 h_62 h_58 h_63 h_19 h_20 h_22 h_46 h_47 h_48 h_49 h_52 h_59 h_60 h_61; omega) | omega, by first | (clear ha1 hv2 h_1 h_2 h_3 h_4 h_5 h_13 h_21 h_18 h_34 h_50 h_45 h_51 h_62 h_58 h_63 h_19 h_20 h_22 h_46 h_47 h_48 h_49 h_52 h_59 h_60 h_61; omega) | omega⟩)
        · refine v_ic_ne_f (t := 12) c_152_5 rfl (Decidable.not_not.mp h_52) (q_iconst c_152_8 (q_goto (t := 13) c_152_9 rfl (v_zret c_152_13 rfl (by decide) (bk_inl (v_if_eq_f (t := 73) c_206_58 rfl (by decide) (q_iload_n c_206_61 rfl (v_bip c_206_62 (by decide) ?_)))))))
          by_cases h_74 : v2 ≠ 8
          · refine v_ic_ne_t (t := 73) c_206_64 rfl ⟨h_74, ⟨(Int.le_trans (by decide) hv2.1), (Int.le_trans hv2.2 (by decide))⟩, by decide, by decide⟩ (q_aload_n c_206_73 rfl (v_bip c_206_74 (by decide) ?_))
            have kn_75 : Hid (c_41 41 3 = c2 41 3) := (hF_43 41 3 qn_97fd72088).trans (hid kn_37)
            have h_76 : c_41 41 3 = c2 41 3 := (hid kn_75)
            refine v_cv c_206_76 km_8_229 rfl rfl (nb_ rfl) ⟨⟨rfl, rfl⟩, nb_ rfl, rfl⟩ (nb_ rfl) (nb_ rfl) (s_161 (a1 := 59) hI_42 (show 1 ≤ 59 ∧ 59 ≤ 255 from ⟨by decide, by decide⟩) (fun c_77 hI_78 hF_79 h_80 h_81 h_82 h_83 => (bk_inl ?_)))
            have h_84 := ir_41_4 hI_78
            have h_85 := ir_41_5 hI_78
            refine q_aload_n c_206_79 rfl (v_cv c_206_80 km_8_131 rfl rfl (nb_ rfl) ⟨⟨rfl, rfl⟩, nb_ rfl, rfl⟩ (nb_ rfl) (nb_ rfl) (q_aload_n c_152_0 rfl (v_gi (z := 5) (v := c_77 41 5) c_152_1 kf_8_102 rfl (nb_ rfl) rfl rfl rfl (q_iconst c_152_4 ?_))))
            by_cases h_86 : c_77 41 5 ≠ (-1)
            · refine v_ic_ne_t (t := 12) c_152_5 rfl ⟨h_86, ⟨(Int.le_trans (by decide) h_85.1), (Int.le_trans h_85.2 (by decide))⟩, by decide, by decide⟩ (q_iconst c_152_12 (v_zret c_152_13 rfl (by decide) (bk_inl (v_if_ne_f (t := 89) c_206_83 rfl (by decide) (q_goto (t := 103) c_206_86 rfl (q_aload_n c_206_103 rfl (q_iload_n c_206_104 rfl ?_)))))))
              refine v_cv c_206_105 km_8_232 rfl rfl (nb_ rfl) ⟨⟨rfl, rfl⟩, nb_ rfl, rfl⟩ (nb_ rfl) (nb_ rfl) (s_164 (a1 := v2) hI_78 (show (-2147483648) ≤ v2 ∧ v2 ≤ 2147483647 from ⟨(Int.le_trans (by decide) hv2.1), (Int.le_trans hv2.2 (by decide))⟩) (fun c_87 y_90 hI_88 hF_89 hy_90 => (bk_inl (q_istore_n c_206_108 (nb_ rfl) (q_aload_n c_206_109 rfl ?_)))))
              have kn_91 : Hid (c_87 41 5 = c_77 41 5) := hF_89 41 5 (fun h => absurd h.2 (ni rfl))
              refine v_gi (z := 5) (v := c_77 41 5) c_206_110 kf_8_102 rfl (nb_ rfl) rfl rfl (hid kn_91) (q_iconst c_206_113 (v_ic_eq_f (t := 119) c_206_114 rfl ⟨by first | exact q_bd023a79f h_85 h_86 | omega, ⟨(Int.le_trans (by decide) h_85.1), (Int.le_trans h_85.2 (by decide))⟩, by decide, by decide⟩ (q_iload_n c_206_117 rfl (q_iret c_206_118 rfl ?_))))
              have kn_92 : Hid (c_14 41 2 = c2 41 2) := hF_16 41 2 (fun h => absurd h.2 (ni rfl))
              have kn_93 : Hid (c_41 41 2 = c2 41 2) := (hF_43 41 2 qn_6151d08e8).trans (hid kn_92)
              have kn_94 : Hid (c_77 41 2 = c2 41 2) := (hF_79 41 2 qn_6151d08e8).trans (hid kn_93)
              have kn_95 : Hid (c_87 41 2 = c2 41 2) := (hF_89 41 2 (fun h => absurd h.2 (ni rfl))).trans (hid kn_94)
              have h_96 : c_87 41 2 = c2 41 2 := (hid kn_95)
              exact K c_87 y_90 hI_88 (fun a j hm => (hF_89 a j (qv_021be712d hm)).trans ((hF_79 a j (qv_0817adc36 hm)).trans ((hF_43 a j (qv_0817adc36 hm)).trans ((hF_16 a j (fun h => hm (Or.inr (Or.inr (Or.inr (Or.inr (Or.inl h))))))).trans (hF a j hm))))) hy_90 (Or.inl ⟨by first | (clear ha1 hv2 h_1 h_2 h_3 h_4 h_5 h_13 h_21 h_18 h_34 h_50 h_45 h_51 h_52 h_84 h_80 h_85 h_19 h_20 h_22 h_46 h_47 h_48 h_49 h_74 h_81 h_82 h_83 h_86; omega) | omega, by first | (clear ha1 hv2 h_1 h_2 h_3 h_4 h_5 h_13 h_21 h_18 h_34 h_50 h_45 h_51 h_52 h_84 h_80 h_85 h_19 h_20 h_22 h_46 h_47 h_48 h_49 h_74 h_81 h_82 h_83 h_86; omega) | omega, by first | (clear ha1 hv2 h_1 h_2 h_3 h_4 h_5 h_13 h_21 h_18 h_34 h_50 h_45 h_51 h_52 h_84 h_80 h_85 h_19 h_20 h_22 h_46 h_47 h_48 h_49 h_74 h_81 h_82 h_83 h_86; omega) | omega, by first | (clear ha1 hv2 h_1 h_2 h_3 h_4 h_5 h_13 h_21 h_18 h_34 h_50 h_45 h_51 h_52 h_84 h_80 h_85 h_19 h_20 h_22 h_46 h_47 h_48 h_49 h_74 h_81 h_82 h_83 h_86; omega) | omega⟩)
            · refine v_ic_ne_f (t := 12) c_152_5 rfl (Decidable.not_not.mp h_86) (q_iconst c_152_8 (q_goto (t := 13) c_152_9 rfl (v_zret c_152_13 rfl (by decide) (bk_inl (v_if_ne_t (t := 89) c_206_83 rfl (by decide) (q_aload_n c_206_89 rfl (v_gr (t := 61) c_206_90 kf_8_74 rfl (nb_ rfl) rfl ?_)))))))
              refine q_iload_n c_206_93 rfl (q_iload c_206_94 rfl (v_is c_206_96 rfl (by decide) (by decide) ⟨hv2.1, by first | exact q_dcc5894f5 h_74 hv2 | omega⟩ (v_iinc (v := v2 + 1) c_206_97 rfl (nb_ rfl) rfl (q_goto (t := 22) c_206_100 rfl ?_))))
              have hI_97 := iw_61 (j := v2) (v := y_44) hI_78 ⟨hy_44.1, by first | exact q_b3cc29c66 h_34 h_47 | omega⟩
              refine Wp_ls [(0, .ref 41), (1, vi a1), (2, vi (v2 + 1))] (lsub_cons rfl (lsub_cons rfl (lsub_cons rfl lsub_nil))) ?_
              have kn_98 : Hid (c_14 41 2 = c2 41 2) := hF_16 41 2 (fun h => absurd h.2 (ni rfl))
              have kn_99 : Hid (c_41 41 2 = c2 41 2) := (hF_43 41 2 qn_6151d08e8).trans (hid kn_98)
              have kn_100 : Hid (c_77 41 2 = c2 41 2) := (hF_79 41 2 qn_6151d08e8).trans (hid kn_99)
              have h_101 : (up c_77 61 v2 y_44) 41 2 = c2 41 2 := ((up_c (nn rfl)).trans (hid kn_100))
              have h_102 : (up c_77 61 v2 y_44) 41 4 = c_77 41 4 := (up_c (nn rfl))
              exact ih (up c_77 61 v2 y_44) (v2 + 1) hI_97 (fun a j hm => (up_b (Decidable.or_iff_not_imp_left.mpr (fun h1 h2 => hm (Or.inr (Or.inr (Or.inr (Or.inr (Or.inr (Or.inr (Or.inr (Or.inr (Or.inr (Or.inr (Or.inl (Decidable.not_not.mp h1))))))))))))))).trans ((hF_79 a j (qv_0817adc36 hm)).trans ((hF_43 a j (qv_0817adc36 hm)).trans ((hF_16 a j (fun h => hm (Or.inr (Or.inr (Or.inr (Or.inr (Or.inl h))))))).trans (hF a j hm))))) ⟨by first | exact rgp_l hv2.1 (by decide) | omega, by first | exact q_6dd620985 h_74 hv2 | omega⟩ ⟨by first | (clear ha1 hv2 h_1 h_2 h_3 h_4 h_5 h_13 h_21 h_18 h_34 h_50 h_45 h_51 h_52 h_84 h_80 h_85 h_86 h_19 h_20 h_22 h_46 h_47 h_48 h_49 h_74 h_81 h_82 h_83; omega) | omega, by first | (clear ha1 hv2 h_1 h_2 h_3 h_4 h_5 h_13 h_21 h_18 h_34 h_50 h_45 h_51 h_52 h_84 h_80 h_85 h_86 h_19 h_20 h_22 h_46 h_47 h_48 h_49 h_74 h_81 h_82 h_83; omega) | omega, by first | (clear ha1 hv2 h_1 h_2 h_3 h_4 h_5 h_13 h_21 h_18 h_34 h_50 h_45 h_51 h_52 h_84 h_80 h_85 h_86 h_19 h_20 h_22 h_46 h_47 h_48 h_49 h_74 h_81 h_82 h_83; omega) | omega, by first | (clear ha1 hv2 h_1 h_2 h_3 h_4 h_5 h_13 h_21 h_18 h_34 h_50 h_45 h_51 h_52 h_84 h_80 h_85 h_86 h_19 h_20 h_22 h_46 h_47 h_48 h_49 h_74 h_81 h_82 h_83; omega) | omega⟩ (by omega)
          · refine v_ic_ne_f (t := 73) c_206_64 rfl (Decidable.not_not.mp h_74) (q_aload_n c_206_67 rfl (q_iconst c_206_68 (q_iload_n c_206_69 rfl (v_cv c_206_70 km_8_138 rfl rfl (nb_ rfl) ⟨⟨rfl, rfl⟩, nb_ rfl, rfl⟩ (nb_ rfl) (nb_ rfl) (s_153 (a1 := 3) (a2 := c_14 41 4) hI_42 (show 1 ≤ 3 ∧ 3 ≤ 3 from ⟨by decide, by decide⟩) (show 0 ≤ c_14 41 4 ∧ c_14 41 4 ≤ 605 from h_21) (fun c_103 hI_104 hF_105 h_106 => (bk_inl ?_)))))))
            have h_107 := ir_41_5 hI_104
            refine q_aload_n c_206_73 rfl (v_bip c_206_74 (by decide) ?_)
            have kn_108 : Hid (c_103 41 4 = c_41 41 4) := hF_105 41 4 (fun q => q.elim (fun h => absurd h.2 (ni rfl)) (fun h => absurd h.2 (ni rfl)))
            have h_109 : c_103 41 4 = c_41 41 4 := (hid kn_108)
            have kn_110 : Hid (c_41 41 3 = c2 41 3) := (hF_43 41 3 qn_97fd72088).trans (hid kn_37)
            have kn_111 : Hid (c_103 41 3 = c2 41 3) := (hF_105 41 3 (fun q => q.elim (fun h => absurd h.2 (ni rfl)) (fun h => absurd h.2 (ni rfl)))).trans (hid kn_110)
            have h_112 : c_103 41 3 = c2 41 3 := (hid kn_111)
            refine v_cv c_206_76 km_8_229 rfl rfl (nb_ rfl) ⟨⟨rfl, rfl⟩, nb_ rfl, rfl⟩ (nb_ rfl) (nb_ rfl) (s_161 (a1 := 59) hI_104 (show 1 ≤ 59 ∧ 59 ≤ 255 from ⟨by decide, by decide⟩) (fun c_113 hI_114 hF_115 h_116 h_117 h_118 h_119 => (bk_inl ?_)))
            have h_120 := ir_41_4 hI_114
            have h_121 := ir_41_5 hI_114
            refine q_aload_n c_206_79 rfl (v_cv c_206_80 km_8_131 rfl rfl (nb_ rfl) ⟨⟨rfl, rfl⟩, nb_ rfl, rfl⟩ (nb_ rfl) (nb_ rfl) (q_aload_n c_152_0 rfl (v_gi (z := 5) (v := c_113 41 5) c_152_1 kf_8_102 rfl (nb_ rfl) rfl rfl rfl (q_iconst c_152_4 (v_ic_ne_t (t := 12) c_152_5 rfl ⟨by first | exact q_306c376e8 h_106 h_118 | omega, ⟨(Int.le_trans (by decide) h_121.1), (Int.le_trans h_121.2 (by decide))⟩, by decide, by decide⟩ (q_iconst c_152_12 (v_zret c_152_13 rfl (by decide) ?_)))))))
            refine bk_inl (v_if_ne_f (t := 89) c_206_83 rfl (by decide) (q_goto (t := 103) c_206_86 rfl (q_aload_n c_206_103 rfl (q_iload_n c_206_104 rfl (v_cv c_206_105 km_8_232 rfl rfl (nb_ rfl) ⟨⟨rfl, rfl⟩, nb_ rfl, rfl⟩ (nb_ rfl) (nb_ rfl) (s_164 (a1 := v2) hI_114 (show (-2147483648) ≤ v2 ∧ v2 ≤ 2147483647 from ⟨(Int.le_trans (by decide) hv2.1), (Int.le_trans hv2.2 (by decide))⟩) (fun c_122 y_125 hI_123 hF_124 hy_125 => (bk_inl (q_istore_n c_206_108 (nb_ rfl) ?_)))))))))
            refine q_aload_n c_206_109 rfl ?_
            have kn_126 : Hid (c_122 41 5 = c_113 41 5) := hF_124 41 5 (fun h => absurd h.2 (ni rfl))
            refine v_gi (z := 5) (v := c_113 41 5) c_206_110 kf_8_102 rfl (nb_ rfl) rfl rfl (hid kn_126) (q_iconst c_206_113 (v_ic_eq_f (t := 119) c_206_114 rfl ⟨by first | exact q_306c376e8 h_106 h_118 | omega, ⟨(Int.le_trans (by decide) h_121.1), (Int.le_trans h_121.2 (by decide))⟩, by decide, by decide⟩ (q_iload_n c_206_117 rfl (q_iret c_206_118 rfl ?_))))
            have kn_127 : Hid (c_14 41 2 = c2 41 2) := hF_16 41 2 (fun h => absurd h.2 (ni rfl))
            have kn_128 : Hid (c_41 41 2 = c2 41 2) := (hF_43 41 2 qn_6151d08e8).trans (hid kn_127)
            have kn_129 : Hid (c_103 41 2 = c2 41 2) := (hF_105 41 2 (fun q => q.elim (fun h => absurd h.2 (ni rfl)) (fun h => absurd h.2 (ni rfl)))).trans (hid kn_128)
            have kn_130 : Hid (c_113 41 2 = c2 41 2) := (hF_115 41 2 qn_6151d08e8).trans (hid kn_129)
            have kn_131 : Hid (c_122 41 2 = c2 41 2) := (hF_124 41 2 (fun h => absurd h.2 (ni rfl))).trans (hid kn_130)
            have h_132 : c_122 41 2 = c2 41 2 := (hid kn_131)
            exact K c_122 y_125 hI_123 (fun a j hm => (hF_124 a j (qv_021be712d hm)).trans ((hF_115 a j (qv_0817adc36 hm)).trans ((hF_105 a j (qv_f86f83f63 hm)).trans ((hF_43 a j (qv_0817adc36 hm)).trans ((hF_16 a j (fun h => hm (Or.inr (Or.inr (Or.inr (Or.inr (Or.inl h))))))).trans (hF a j hm)))))) hy_125 (Or.inl ⟨by first | (clear ha1 hv2 h_1 h_2 h_3 h_4 h_5 h_13 h_21 h_18 h_34 h_50 h_45 h_51 h_52 h_74 h_107 h_120 h_116 h_121 h_19 h_20 h_22 h_46 h_47 h_48 h_49 h_106 h_117 h_118 h_119; omega) | omega, by first | (clear ha1 hv2 h_1 h_2 h_3 h_4 h_5 h_13 h_21 h_18 h_34 h_50 h_45 h_51 h_52 h_74 h_107 h_120 h_116 h_121 h_19 h_20 h_22 h_46 h_47 h_48 h_49 h_106 h_117 h_118 h_119; omega) | omega, by first | (clear ha1 hv2 h_1 h_2 h_3 h_4 h_5 h_13 h_21 h_18 h_34 h_50 h_45 h_51 h_52 h_74 h_107 h_120 h_116 h_121 h_19 h_20 h_22 h_46 h_47 h_48 h_49 h_106 h_117 h_118 h_119; omega) | omega, by first | (clear ha1 hv2 h_1 h_2 h_3 h_4 h_5 h_13 h_21 h_18 h_34 h_50 h_45 h_51 h_52 h_74 h_107 h_120 h_116 h_121 h_19 h_20 h_22 h_46 h_47 h_48 h_49 h_106 h_117 h_118 h_119; omega) | omega⟩)
set_option maxRecDepth 100000 in
set_option maxHeartbeats 4000000 in
theorem s_206 {sc : List Int32} {e : Int} {d u P Q : Nat} {c : ME} {a1 : Int} {Z : AR → Prop} (hI : Iv u e P Q c) (ha1 : (-2147483648) ≤ a1 ∧ a1 ≤ 2147483647) (K : ∀ (c2 : ME) (y : Int), Iv u e P Q c2 → (∀ (a : Nat) (j : Int), ¬ ((a = 41 ∧ j = 0) ∨ a = 42 ∨ (a = 41 ∧ j = 2) ∨ (a = 41 ∧ j = 3) ∨ (a = 41 ∧ j = 4) ∨ (a = 41 ∧ j = 5) ∨ (a = 41 ∧ j = 6) ∨ (a = 41 ∧ j = 7) ∨ (a = 41 ∧ j = 8) ∨ (a = 41 ∧ j = 47) ∨ a = 61 ∨ a = 62) → c2 a j = c a j) → (-2147483648) ≤ y ∧ y ≤ 2147483647 → ((c2 41 2 = 0 ∧ a1 ≥ 0 ∧ a1 ≤ c 41 2 ∧ a1 ≤ 60) ∨ (c2 41 2 = c 41 2 ∧ a1 < 0) ∨ (c2 41 2 = c 41 2 ∧ a1 > c 41 2) ∨ (c2 41 2 = c 41 2 ∧ a1 > 60)) → Z (.inl (some (vi y)), Wd P Q P P c2, 0, 0)) : Wp sc (d + 9) 206 0 [(0, .ref 41), (1, vi a1)] [] (Wd P Q P P c) 0 0 Z := by
  have hP := iv_P hI
  have hQ := iv_Q hI
  refine q_aload_n c_206_0 rfl (q_iconst c_206_1 (v_pi (z := 0) c_206_2 kf_8_3 rfl (nb_ rfl) rfl rfl rfl (by decide) (q_aload_n c_206_5 rfl (q_iload_n c_206_6 rfl (v_cv c_206_7 km_8_381 rfl rfl (nb_ rfl) ⟨⟨rfl, rfl⟩, nb_ rfl, rfl⟩ (nb_ rfl) (nb_ rfl) (q_aload_n c_205_0 rfl (q_iload_n c_205_1 rfl ?_)))))))
  by_cases h_134 : a1 < 0
  · refine v_if_lt_t (t := 23) c_205_2 rfl ⟨ha1.1, h_134, by decide⟩ (q_iconst c_205_23 (q_iconst c_205_24 (q_iconst c_205_25 (v_cv c_205_26 km_8_203 rfl rfl (nb_ rfl) ⟨⟨rfl, rfl⟩, nb_ rfl, rfl⟩ (nb_ rfl) (nb_ rfl) (q_iload_n c_145_0 rfl (v_if_ne_f (t := 26) c_145_1 rfl (by decide) (q_aload_n c_145_4 rfl ?_)))))))
    refine v_gi (z := 0) (v := 0) c_145_5 kf_8_3 rfl (nb_ rfl) rfl rfl (up_e rfl) (v_if_ne_f (t := 26) c_145_8 rfl (by decide) (q_aload_n c_145_11 rfl (q_iload_n c_145_12 rfl (v_pi (z := 0) c_145_13 kf_8_3 rfl (nb_ rfl) rfl rfl rfl (by decide) (q_aload_n c_145_16 rfl (v_gr (t := 42) c_145_17 kf_8_7 rfl (nb_ rfl) rfl (q_iload_n c_145_20 rfl ?_)))))))
    refine q_dup2 c_145_21 ⟨rfl, rfl⟩ ?_
    have h_135 := ir_42 hI 1
    refine v_ia (v := c 42 1) c_145_22 rfl (by decide) (by decide) (by decide) ((up_c (nn rfl)).trans (up_c (nn rfl))) (q_iconst c_145_23 (v_iadd (v := c 42 1 + 1) c_145_24 rfl (v_nrm (fun y_136 hy_136 => (v_is c_145_25 rfl (by decide) (by decide) (by decide) (q_aload_n c_145_26 rfl (v_gi (z := 0) (v := 1) c_145_27 kf_8_3 rfl (nb_ rfl) rfl rfl ((up_c (nn rfl)).trans (up_e rfl)) (v_if_ne_t (t := 37) c_145_30 rfl (by decide) ?_))))))))
    refine q_iconst c_145_37 (v_zret c_145_38 rfl (by decide) (bk_inl (v_zret c_205_29 rfl (by decide) (bk_inl (v_if_ne_f (t := 15) c_206_10 rfl (by decide) (q_iconst c_206_13 (q_iret c_206_14 rfl ?_)))))))
    have hI_137 := iw_41_0 (v := 0) hI ⟨by decide, by decide⟩
    have hI_138 := iw_41_0 (v := 1) hI_137 ⟨by decide, by decide⟩
    have hI_139 := iw_42 (j := 1) (v := y_136) hI_138 ⟨hy_136.1, hy_136.2⟩
    have h_140 := ir_41_2 hI
    have h_141 : (up (up (up c 41 0 0) 41 0 1) 42 1 y_136) 41 2 = c 41 2 := ((up_c (nn rfl)).trans ((up_n (by decide)).trans (up_n (by decide))))
    exact K (up (up (up c 41 0 0) 41 0 1) 42 1 y_136) 0 hI_139 (fun a j hm => (up_b (Decidable.or_iff_not_imp_left.mpr (fun h1 h2 => hm (Or.inr (Or.inl (Decidable.not_not.mp h1)))))).trans ((up_b (Decidable.or_iff_not_imp_left.mpr (fun h1 h2 => hm (Or.inl ⟨Decidable.not_not.mp h1, h2⟩)))).trans (up_b (Decidable.or_iff_not_imp_left.mpr (fun h1 h2 => hm (Or.inl ⟨Decidable.not_not.mp h1, h2⟩)))))) ⟨by decide, by decide⟩ (Or.inr (Or.inl ⟨by first | assumption | omega, by first | exact q_e97a17f6e h_134 | omega⟩))
  · refine v_if_lt_f (t := 23) c_205_2 rfl ⟨by decide, (Int.not_lt.mp h_134), ha1.2⟩ (q_iload_n c_205_5 rfl (q_aload_n c_205_6 rfl ?_))
    have h_142 := ir_41_2 hI
    refine v_gi (z := 2) (v := c 41 2) c_205_7 kf_8_99 rfl (nb_ rfl) rfl rfl (up_n (by decide)) ?_
    by_cases h_143 : a1 > c 41 2
    · refine v_ic_gt_t (t := 23) c_205_10 rfl ⟨(Int.le_trans (by decide) h_142.1), h_143, ha1.2⟩ (q_iconst c_205_23 (q_iconst c_205_24 (q_iconst c_205_25 (v_cv c_205_26 km_8_203 rfl rfl (nb_ rfl) ⟨⟨rfl, rfl⟩, nb_ rfl, rfl⟩ (nb_ rfl) (nb_ rfl) (q_iload_n c_145_0 rfl (v_if_ne_f (t := 26) c_145_1 rfl (by decide) (q_aload_n c_145_4 rfl ?_)))))))
      refine v_gi (z := 0) (v := 0) c_145_5 kf_8_3 rfl (nb_ rfl) rfl rfl (up_e rfl) (v_if_ne_f (t := 26) c_145_8 rfl (by decide) (q_aload_n c_145_11 rfl (q_iload_n c_145_12 rfl (v_pi (z := 0) c_145_13 kf_8_3 rfl (nb_ rfl) rfl rfl rfl (by decide) (q_aload_n c_145_16 rfl (v_gr (t := 42) c_145_17 kf_8_7 rfl (nb_ rfl) rfl (q_iload_n c_145_20 rfl ?_)))))))
      refine q_dup2 c_145_21 ⟨rfl, rfl⟩ ?_
      have h_144 := ir_42 hI 1
      refine v_ia (v := c 42 1) c_145_22 rfl (by decide) (by decide) (by decide) ((up_c (nn rfl)).trans (up_c (nn rfl))) (q_iconst c_145_23 (v_iadd (v := c 42 1 + 1) c_145_24 rfl (v_nrm (fun y_145 hy_145 => (v_is c_145_25 rfl (by decide) (by decide) (by decide) (q_aload_n c_145_26 rfl (v_gi (z := 0) (v := 1) c_145_27 kf_8_3 rfl (nb_ rfl) rfl rfl ((up_c (nn rfl)).trans (up_e rfl)) (v_if_ne_t (t := 37) c_145_30 rfl (by decide) ?_))))))))
      refine q_iconst c_145_37 (v_zret c_145_38 rfl (by decide) (bk_inl (v_zret c_205_29 rfl (by decide) (bk_inl (v_if_ne_f (t := 15) c_206_10 rfl (by decide) (q_iconst c_206_13 (q_iret c_206_14 rfl ?_)))))))
      have hI_146 := iw_41_0 (v := 0) hI ⟨by decide, by decide⟩
      have hI_147 := iw_41_0 (v := 1) hI_146 ⟨by decide, by decide⟩
      have hI_148 := iw_42 (j := 1) (v := y_145) hI_147 ⟨hy_145.1, hy_145.2⟩
      have h_149 : (up (up (up c 41 0 0) 41 0 1) 42 1 y_145) 41 2 = c 41 2 := ((up_c (nn rfl)).trans ((up_n (by decide)).trans (up_n (by decide))))
      exact K (up (up (up c 41 0 0) 41 0 1) 42 1 y_145) 0 hI_148 (fun a j hm => (up_b (Decidable.or_iff_not_imp_left.mpr (fun h1 h2 => hm (Or.inr (Or.inl (Decidable.not_not.mp h1)))))).trans ((up_b (Decidable.or_iff_not_imp_left.mpr (fun h1 h2 => hm (Or.inl ⟨Decidable.not_not.mp h1, h2⟩)))).trans (up_b (Decidable.or_iff_not_imp_left.mpr (fun h1 h2 => hm (Or.inl ⟨Decidable.not_not.mp h1, h2⟩)))))) ⟨by decide, by decide⟩ (Or.inr (Or.inr (Or.inl ⟨by first | assumption | omega, by first | exact q_0e7f65a30 h_143 | omega⟩)))
    · refine v_ic_gt_f (t := 23) c_205_10 rfl ⟨ha1.1, (Int.not_lt.mp h_143), (Int.le_trans h_142.2 (by decide))⟩ (q_iload_n c_205_13 rfl (v_bip c_205_14 (by decide) ?_))
      by_cases h_150 : a1 > 60
      · refine v_ic_gt_t (t := 23) c_205_16 rfl ⟨by decide, h_150, ha1.2⟩ (q_iconst c_205_23 (q_iconst c_205_24 (q_iconst c_205_25 (v_cv c_205_26 km_8_203 rfl rfl (nb_ rfl) ⟨⟨rfl, rfl⟩, nb_ rfl, rfl⟩ (nb_ rfl) (nb_ rfl) (q_iload_n c_145_0 rfl (v_if_ne_f (t := 26) c_145_1 rfl (by decide) (q_aload_n c_145_4 rfl ?_)))))))
        refine v_gi (z := 0) (v := 0) c_145_5 kf_8_3 rfl (nb_ rfl) rfl rfl (up_e rfl) (v_if_ne_f (t := 26) c_145_8 rfl (by decide) (q_aload_n c_145_11 rfl (q_iload_n c_145_12 rfl (v_pi (z := 0) c_145_13 kf_8_3 rfl (nb_ rfl) rfl rfl rfl (by decide) (q_aload_n c_145_16 rfl (v_gr (t := 42) c_145_17 kf_8_7 rfl (nb_ rfl) rfl (q_iload_n c_145_20 rfl ?_)))))))
        refine q_dup2 c_145_21 ⟨rfl, rfl⟩ ?_
        have h_151 := ir_42 hI 1
        refine v_ia (v := c 42 1) c_145_22 rfl (by decide) (by decide) (by decide) ((up_c (nn rfl)).trans (up_c (nn rfl))) (q_iconst c_145_23 (v_iadd (v := c 42 1 + 1) c_145_24 rfl (v_nrm (fun y_152 hy_152 => (v_is c_145_25 rfl (by decide) (by decide) (by decide) (q_aload_n c_145_26 rfl (v_gi (z := 0) (v := 1) c_145_27 kf_8_3 rfl (nb_ rfl) rfl rfl ((up_c (nn rfl)).trans (up_e rfl)) (v_if_ne_t (t := 37) c_145_30 rfl (by decide) ?_))))))))
        refine q_iconst c_145_37 (v_zret c_145_38 rfl (by decide) (bk_inl (v_zret c_205_29 rfl (by decide) (bk_inl (v_if_ne_f (t := 15) c_206_10 rfl (by decide) (q_iconst c_206_13 (q_iret c_206_14 rfl ?_)))))))
        have hI_153 := iw_41_0 (v := 0) hI ⟨by decide, by decide⟩
        have hI_154 := iw_41_0 (v := 1) hI_153 ⟨by decide, by decide⟩
        have hI_155 := iw_42 (j := 1) (v := y_152) hI_154 ⟨hy_152.1, hy_152.2⟩
        have h_156 : (up (up (up c 41 0 0) 41 0 1) 42 1 y_152) 41 2 = c 41 2 := ((up_c (nn rfl)).trans ((up_n (by decide)).trans (up_n (by decide))))
        exact K (up (up (up c 41 0 0) 41 0 1) 42 1 y_152) 0 hI_155 (fun a j hm => (up_b (Decidable.or_iff_not_imp_left.mpr (fun h1 h2 => hm (Or.inr (Or.inl (Decidable.not_not.mp h1)))))).trans ((up_b (Decidable.or_iff_not_imp_left.mpr (fun h1 h2 => hm (Or.inl ⟨Decidable.not_not.mp h1, h2⟩)))).trans (up_b (Decidable.or_iff_not_imp_left.mpr (fun h1 h2 => hm (Or.inl ⟨Decidable.not_not.mp h1, h2⟩)))))) ⟨by decide, by decide⟩ (Or.inr (Or.inr (Or.inr ⟨by first | assumption | omega, by first | exact q_9336c0ad2 h_150 | omega⟩)))
      · refine v_ic_gt_f (t := 23) c_205_16 rfl ⟨ha1.1, (Int.not_lt.mp h_150), by decide⟩ (q_iconst c_205_19 (q_goto (t := 24) c_205_20 rfl (q_iconst c_205_24 (q_iconst c_205_25 (v_cv c_205_26 km_8_203 rfl rfl (nb_ rfl) ⟨⟨rfl, rfl⟩, nb_ rfl, rfl⟩ (nb_ rfl) (nb_ rfl) (q_iload_n c_145_0 rfl (v_if_ne_t (t := 26) c_145_1 rfl (by decide) ?_)))))))
        refine q_aload_n c_145_26 rfl (v_gi (z := 0) (v := 0) c_145_27 kf_8_3 rfl (nb_ rfl) rfl rfl (up_e rfl) (v_if_ne_f (t := 37) c_145_30 rfl (by decide) (q_iconst c_145_33 (q_goto (t := 38) c_145_34 rfl (v_zret c_145_38 rfl (by decide) (bk_inl (v_zret c_205_29 rfl (by decide) ?_)))))))
        refine bk_inl (v_if_ne_t (t := 15) c_206_10 rfl (by decide) (q_aload_n c_206_15 rfl (q_iload_n c_206_16 rfl ?_)))
        have hI_157 := iw_41_0 (v := 0) hI ⟨by decide, by decide⟩
        refine v_cv c_206_17 km_8_207 rfl rfl (nb_ rfl) ⟨⟨rfl, rfl⟩, nb_ rfl, rfl⟩ (nb_ rfl) (nb_ rfl) (s_163 (a1 := a1) hI_157 (show 0 ≤ a1 ∧ a1 ≤ 600 from ⟨by first | exact q_720657ba9 h_134 | omega, by first | exact q_6d55548be h_150 | omega⟩) (fun c_158 hI_159 hF_160 h_161 => (bk_inl ?_)))
        have h_162 := ir_41_2 hI_159
        have h_163 := ir_41_3 hI_159
        have h_164 := ir_41_4 hI_159
        have h_165 := ir_41_5 hI_159
        have h_166 := ir_41_7 hI_159
        refine q_iconst c_206_20 (q_istore_n c_206_21 (nb_ rfl) (Wp_ls [(0, .ref 41), (1, vi a1), (2, vi 0)] (lsub_cons rfl (lsub_cons rfl (lsub_cons rfl lsub_nil))) ?_))
        exact (s_206_l (sc := sc) (d := d) hI ha1 K 1214) c_158 0 hI_159 (fun a j hm => (hF_160 a j (qv_bce25eb69 hm)).trans (up_b (Decidable.or_iff_not_imp_left.mpr (fun h1 h2 => hm (Or.inl ⟨Decidable.not_not.mp h1, h2⟩))))) ⟨by decide, by decide⟩ ⟨by first | exact q_59baff7b3 h_161 h_162 | omega, by first | exact q_720657ba9 h_134 | omega, by first | exact q_0325d56da h_143 | omega, by first | exact q_8be6814e3 h_150 | omega⟩ (by omega)
end
