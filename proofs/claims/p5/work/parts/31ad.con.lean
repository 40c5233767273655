/-! ===== contracts 4 ===== -/
theorem q_47ff97009 {x0 x1 : Int} (f0 : 0 ≤ x0 ∧ x0 ≤ x1) : 0 ≤ x0 := by omega
theorem q_b76125d36 {x0 x1 : Int} (f0 : 0 ≤ x0 ∧ x0 ≤ x1) : x0 ≤ x1 := by omega
theorem q_ca906b5de {x0 x1 : Int} (f0 : (x0 < x1) ∨ (x0 > x1)) : ¬ 4 * x1 + 3 = 4 * x0 + 3 := by omega
theorem q_e782b8c3c {x0 x1 : Int} (f0 : 0 ≤ x0 ∧ x0 ≤ 5) (f1 : 0 ≤ x1 ∧ x1 ≤ 5) : 4 * x1 + 3 < x0 + 24 := by omega
theorem q_fb9abb0e1 {x0 : Int}  : 4 * x0 < 4 * x0 + 3 := by omega
theorem q_2b13428e8 {x0 x1 : Int} (f0 : 0 ≤ x0 ∧ x0 ≤ 5) (f1 : 0 ≤ x1 ∧ x1 ≤ 5) : 4 * x0 < x1 + 24 := by omega
theorem q_788f4b81f {x0 : Int} (f0 : 0 ≤ x0 ∧ x0 ≤ 5) : 4 * x0 < x0 + 24 := by omega
theorem q_4e2243c37 {x0 : Int}  : 4 * x0 + 1 < 4 * x0 + 3 := by omega
theorem q_3178328df {x0 x1 : Int} (f0 : 0 ≤ x0 ∧ x0 ≤ 5) (f1 : 0 ≤ x1 ∧ x1 ≤ 5) : 4 * x0 + 1 < x1 + 24 := by omega
theorem q_60c9feeee {x0 : Int} (f0 : 0 ≤ x0 ∧ x0 ≤ 5) : 4 * x0 + 1 < x0 + 24 := by omega
theorem q_693f489f1 {x0 : Int}  : 4 * x0 + 2 < 4 * x0 + 3 := by omega
theorem q_428481d46 {x0 x1 : Int} (f0 : 0 ≤ x0 ∧ x0 ≤ 5) (f1 : 0 ≤ x1 ∧ x1 ≤ 5) : 4 * x0 + 2 < x1 + 24 := by omega
theorem q_27ec1b4d7 {x0 : Int} (f0 : 0 ≤ x0 ∧ x0 ≤ 5) : 4 * x0 + 2 < x0 + 24 := by omega
theorem q_fd9aac8f8 {x0 : Int} (f0 : 0 ≤ x0 ∧ x0 ≤ 5) : 4 * x0 + 3 < x0 + 24 := by omega
theorem q_4128697c9 {x0 x1 : Int} (f0 : 0 ≤ x0 ∧ x0 ≤ 5) (f1 : 0 ≤ x1 ∧ x1 ≤ 5) : 4 * x1 < x0 + 24 := by omega
theorem q_8f2481ba6 {x0 x1 : Int} (f0 : 0 ≤ x0 ∧ x0 ≤ 5) (f1 : 0 ≤ x1 ∧ x1 ≤ 5) : 4 * x1 + 1 < x0 + 24 := by omega
theorem q_04ab4010a {x0 x1 : Int} (f0 : 0 ≤ x0 ∧ x0 ≤ 5) (f1 : 0 ≤ x1 ∧ x1 ≤ 5) : 4 * x1 + 2 < x0 + 24 := by omega
theorem q_a8d3e8094 {x0 x1 : Int} (f0 : (x0 < x1) ∨ (x0 > x1)) : ¬ 4 * x0 + 3 = 4 * x1 + 3 := by omega
theorem q_2771393a8 {x0 x1 : Int} (f0 : 0 ≤ x0 ∧ x0 ≤ 5) (f1 : 0 ≤ x1 ∧ x1 ≤ 5) : 4 * x0 + 3 < x1 + 24 := by omega
theorem q_28bc460e3 {x0 x1 : Int} (f0 : (x0 < x1) ∨ (x0 > x1)) : ¬ 4 * x1 + 2 = 4 * x0 + 2 := by omega
theorem q_a2b745983 {x0 : Int} (f0 : 0 ≤ x0 ∧ x0 ≤ 5) : 4 * x0 + 2 < 30 := by omega
theorem q_3b49164d8 {x0 : Int} (f0 : 0 ≤ x0 ∧ x0 ≤ 5) : x0 + 24 < 30 := by omega
theorem q_1cdd15b2c {x0 : Int}  : 4 * x0 < 4 * x0 + 2 := by omega
theorem q_af9ea9c7d {x0 : Int}  : 4 * x0 + 1 < 4 * x0 + 2 := by omega
theorem q_fa7eff6f3 {x0 x1 : Int} (f0 : (x0 < x1) ∨ (x0 > x1)) : ¬ 4 * x0 + 2 = 4 * x1 + 2 := by omega
theorem q_0f4cbf258 {x0 x1 : Int} (f0 : (x0 < x1) ∨ (x0 > x1)) : ¬ 4 * x1 + 1 = 4 * x0 + 1 := by omega
theorem q_22d8600d4 {x0 : Int} (f0 : 0 ≤ x0 ∧ x0 ≤ 5) : 4 * x0 + 1 < 30 := by omega
theorem q_4994d6793 {x0 : Int}  : 4 * x0 < 4 * x0 + 1 := by omega
theorem q_fd7998cba {x0 x1 : Int} (f0 : (x0 < x1) ∨ (x0 > x1)) : ¬ 4 * x0 + 1 = 4 * x1 + 1 := by omega
theorem q_79744aec6 {x0 : Int}  : 4 * x0 ≤ 4 * x0 := by omega
theorem q_b46fb41fd {x0 x1 : Int} (f0 : (x0 < x1) ∨ (x0 > x1)) : ¬ 4 * x1 = 4 * x0 := by omega
theorem q_745b05ed0 {x0 : Int} (f0 : 0 ≤ x0 ∧ x0 ≤ 5) : 4 * x0 < 30 := by omega
theorem q_02cacb151 {x0 x1 : Int} (f0 : (x0 < x1) ∨ (x0 > x1)) : ¬ 4 * x0 = 4 * x1 := by omega
theorem q_c6ed8760d {x0 : Int} (f0 : 0 ≤ x0 ∧ x0 ≤ 9999) : 0 ≤ x0 := by omega
theorem q_aef5b7b01 {x0 x1 x2 x3 x4 x5 x6 x7 x8 x9 x10 x11 : Int} (f0 : 0 ≤ x0 ∧ x0 ≤ x1) (f1 : 0 ≤ x2 ∧ x2 ≤ x3) (f2 : 0 ≤ x4 ∧ x4 ≤ x5) (f3 : 0 ≤ x6 ∧ x6 ≤ x7) (f4 : x1 + x3 + x5 + x7 ≤ 9999) (f5 : x8 + x9 + x10 + x11 ≤ 9999) : x0 + x2 + x4 + x6 + x9 + x10 + x11 + x8 ≤ 2147483647 := by omega
theorem q_f541d2cca {x0 x1 x2 x3 x4 x5 x6 x7 x8 x9 x10 x11 : Int} (f0 : 0 ≤ x0 ∧ x0 ≤ 9999) (f1 : 0 ≤ x1 ∧ x1 ≤ 9999) (f2 : 0 ≤ x2 ∧ x2 ≤ x3) (f3 : 0 ≤ x4 ∧ x4 ≤ x5) (f4 : 0 ≤ x6 ∧ x6 ≤ x7) (f5 : 0 ≤ x8 ∧ x8 ≤ x9) (f6 : 0 ≤ x10 ∧ x10 ≤ 9999) (f7 : 0 ≤ x11 ∧ x11 ≤ 9999) : (-2147483648) ≤ x2 + x4 + x6 + x8 + x10 + x11 + x0 + x1 := by omega
theorem q_ff5a6990a {x0 x1 x2 x3 x4 x5 x6 x7 x8 x9 x10 x11 : Int} (f0 : 0 ≤ x0 ∧ x0 ≤ x1) (f1 : 0 ≤ x2 ∧ x2 ≤ x3) (f2 : 0 ≤ x4 ∧ x4 ≤ x5) (f3 : 0 ≤ x6 ∧ x6 ≤ x7) (f4 : x1 + x3 + x5 + x7 ≤ 9999) (f5 : x8 + x9 + x10 + x11 ≤ 9999) : x3 + x5 + x7 + x1 + x9 + x10 + x11 + x8 - x0 - x2 - x4 - x6 ≤ 2147483647 := by omega
theorem q_79ff189ef {x0 x1 x2 x3 x4 x5 x6 x7 x8 x9 x10 x11 : Int} (f0 : 0 ≤ x0 ∧ x0 ≤ 9999) (f1 : 0 ≤ x1 ∧ x1 ≤ 9999) (f2 : 0 ≤ x2 ∧ x2 ≤ 9999) (f3 : 0 ≤ x3 ∧ x3 ≤ 9999) (f4 : 0 ≤ x4 ∧ x4 ≤ x5) (f5 : 0 ≤ x6 ∧ x6 ≤ x7) (f6 : 0 ≤ x8 ∧ x8 ≤ x9) (f7 : 0 ≤ x10 ∧ x10 ≤ x11) : (-2147483648) ≤ x7 + x9 + x11 + x5 + x1 + x2 + x3 + x0 - x4 - x6 - x8 - x10 := by omega
theorem c_53_68 : mLk 53 68 = some (.iload 7, 2) := rfl
theorem c_53_70 : mLk 53 70 = some (.iconst 4, 1) := rfl
theorem c_53_71 : mLk 53 71 = some (.if_icmp .ge 45, 3) := rfl
theorem c_53_74 : mLk 53 74 = some (.aload_n 0, 1) := rfl
theorem c_53_75 : mLk 53 75 = some (.iload_n 1, 1) := rfl
theorem c_53_76 : mLk 53 76 = some (.iload_n 2, 1) := rfl
theorem c_53_77 : mLk 53 77 = some (.iload 7, 2) := rfl
theorem c_53_79 : mLk 53 79 = some (.invokevirtual 69, 3) := rfl
theorem c_53_82 : mLk 53 82 = some (.istore 8, 2) := rfl
theorem c_53_84 : mLk 53 84 = some (.aload_n 0, 1) := rfl
theorem c_53_85 : mLk 53 85 = some (.iload_n 2, 1) := rfl
theorem c_53_86 : mLk 53 86 = some (.iload_n 3, 1) := rfl
theorem c_53_87 : mLk 53 87 = some (.iload 7, 2) := rfl
theorem c_53_89 : mLk 53 89 = some (.iload 8, 2) := rfl
theorem c_53_91 : mLk 53 91 = some (.invokevirtual 85, 3) := rfl
theorem c_53_94 : mLk 53 94 = some (.aload_n 0, 1) := rfl
theorem c_53_95 : mLk 53 95 = some (.iload_n 2, 1) := rfl
theorem c_53_96 : mLk 53 96 = some (.iload 4, 2) := rfl
theorem c_53_98 : mLk 53 98 = some (.iload 7, 2) := rfl
theorem c_53_100 : mLk 53 100 = some (.aload_n 0, 1) := rfl
theorem c_53_101 : mLk 53 101 = some (.iload_n 2, 1) := rfl
theorem c_53_102 : mLk 53 102 = some (.iload 7, 2) := rfl
theorem c_53_104 : mLk 53 104 = some (.invokevirtual 34, 3) := rfl
theorem c_53_107 : mLk 53 107 = some (.invokevirtual 85, 3) := rfl
theorem c_53_110 : mLk 53 110 = some (.iinc 7 1, 3) := rfl
theorem c_53_113 : mLk 53 113 = some (.goto (-45), 3) := rfl
theorem c_53_116 : mLk 53 116 = some (.aload_n 0, 1) := rfl
theorem c_53_117 : mLk 53 117 = some (.getfield 11, 3) := rfl
theorem c_53_120 : mLk 53 120 = some (.bipush 24, 2) := rfl
theorem c_53_122 : mLk 53 122 = some (.iload_n 2, 1) := rfl
theorem c_53_123 : mLk 53 123 = some (.iadd, 1) := rfl
theorem c_53_124 : mLk 53 124 = some (.iconst 0, 1) := rfl
theorem c_53_125 : mLk 53 125 = some (.iastore, 1) := rfl
theorem c_53_126 : mLk 53 126 = some (.iconst 1, 1) := rfl
theorem c_53_127 : mLk 53 127 = some (.ireturn, 1) := rfl
theorem c_53_0 : mLk 53 0 = some (.iload_n 2, 1) := rfl
theorem c_53_1 : mLk 53 1 = some (.iload_n 3, 1) := rfl
theorem c_53_2 : mLk 53 2 = some (.if_icmp .eq 15, 3) := rfl
theorem c_53_17 : mLk 53 17 = some (.iconst 0, 1) := rfl
theorem c_53_18 : mLk 53 18 = some (.ireturn, 1) := rfl
theorem c_53_5 : mLk 53 5 = some (.iload_n 2, 1) := rfl
theorem c_53_6 : mLk 53 6 = some (.iload 4, 2) := rfl
theorem c_53_8 : mLk 53 8 = some (.if_icmp .eq 9, 3) := rfl
theorem c_53_11 : mLk 53 11 = some (.iload_n 3, 1) := rfl
theorem c_53_12 : mLk 53 12 = some (.iload 4, 2) := rfl
theorem c_53_14 : mLk 53 14 = some (.if_icmp .ne 5, 3) := rfl
theorem c_53_19 : mLk 53 19 = some (.aload_n 0, 1) := rfl
theorem c_53_20 : mLk 53 20 = some (.iload_n 2, 1) := rfl
theorem c_53_21 : mLk 53 21 = some (.invokevirtual 38, 3) := rfl
theorem c_53_24 : mLk 53 24 = some (.istore 5, 2) := rfl
theorem c_53_26 : mLk 53 26 = some (.aload_n 0, 1) := rfl
theorem c_53_27 : mLk 53 27 = some (.iload_n 1, 1) := rfl
theorem c_53_28 : mLk 53 28 = some (.iload_n 2, 1) := rfl
theorem c_53_29 : mLk 53 29 = some (.invokevirtual 78, 3) := rfl
theorem c_53_32 : mLk 53 32 = some (.istore 6, 2) := rfl
theorem c_53_34 : mLk 53 34 = some (.iload 5, 2) := rfl
theorem c_53_36 : mLk 53 36 = some (.ifCond .eq 27, 3) := rfl
theorem c_53_63 : mLk 53 63 = some (.iconst 0, 1) := rfl
theorem c_53_64 : mLk 53 64 = some (.ireturn, 1) := rfl
theorem c_53_39 : mLk 53 39 = some (.aload_n 0, 1) := rfl
theorem c_53_40 : mLk 53 40 = some (.iload_n 3, 1) := rfl
theorem c_53_41 : mLk 53 41 = some (.iload 6, 2) := rfl
theorem c_53_43 : mLk 53 43 = some (.invokevirtual 81, 3) := rfl
theorem c_50_0 : mLk 50 0 = some (.aload_n 0, 1) := rfl
theorem c_50_1 : mLk 50 1 = some (.iload_n 1, 1) := rfl
theorem c_50_2 : mLk 50 2 = some (.invokevirtual 38, 3) := rfl
theorem c_50_5 : mLk 50 5 = some (.iload_n 2, 1) := rfl
theorem c_50_7 : mLk 50 7 = some (.sipush 9999, 3) := rfl
theorem c_50_10 : mLk 50 10 = some (.if_icmp .gt 7, 3) := rfl
theorem c_50_17 : mLk 50 17 = some (.iconst 0, 1) := rfl
theorem c_50_18 : mLk 50 18 = some (.ireturn, 1) := rfl
theorem c_53_46 : mLk 53 46 = some (.ifCond .eq 17, 3) := rfl
theorem c_50_13 : mLk 50 13 = some (.iconst 1, 1) := rfl
theorem c_50_14 : mLk 50 14 = some (.goto 4, 3) := rfl
theorem c_53_49 : mLk 53 49 = some (.aload_n 0, 1) := rfl
theorem c_53_50 : mLk 53 50 = some (.iload 4, 2) := rfl
theorem c_53_52 : mLk 53 52 = some (.iload 5, 2) := rfl
theorem c_53_54 : mLk 53 54 = some (.iload 6, 2) := rfl
theorem c_53_57 : mLk 53 57 = some (.invokevirtual 81, 3) := rfl
theorem c_53_60 : mLk 53 60 = some (.ifCond .ne 5, 3) := rfl
theorem c_53_65 : mLk 53 65 = some (.iconst 0, 1) := rfl
theorem c_53_66 : mLk 53 66 = some (.istore 7, 2) := rfl
theorem km_4_78 : a_lk (kM 4) 78 = some (0, 49) := rfl
theorem km_4_81 : a_lk (kM 4) 81 = some (0, 50) := rfl
theorem km_4_85 : a_lk (kM 4) 85 = some (0, 52) := rfl
set_option maxRecDepth 100000 in
set_option maxHeartbeats 4000000 in
theorem s_53_3 {sc : List Int32} {d P Q sh s : Nat} {c : ME} {v1 v2 x0 x1 x2 x3 u0 u1 u2 u3 w0 w1 w2 w3 : Int} {a1 : Int} {a2 : Int} {a3 : Int} {a4 : Int} {Z : AR → Prop} (hI : Iv s (-1) P Q c) (hs : (sh = 37 ∧ s = 38) ∨ (sh = 39 ∧ s = 40)) (ha1 : 0 ≤ a1 ∧ a1 ≤ 3) (ha2 : 0 ≤ a2 ∧ a2 ≤ 5) (ha3 : 0 ≤ a3 ∧ a3 ≤ 5) (ha4 : 0 ≤ a4 ∧ a4 ≤ 5) (hq0 : (a2 < a3) ∨ (a2 > a3)) (hq1 : (a2 < a4) ∨ (a2 > a4)) (hq2 : (a3 < a4) ∨ (a3 > a4)) (hq3 : ((fal v1 (tb v2 a1) 3 x3) + u0 + u1 + u2 + u3 ≤ 9999)) (hq4 : (w0 + w1 + w2 + w3 + x3 - (fal v1 (tb v2 a1) 3 x3) ≤ 9999)) (hq5 : (x0 = 0)) (hq6 : (x1 = 0)) (hq7 : (x2 = 0)) (hq8 : ∀ j : Int, rs s j → ¬ j = 4 * a2 → ¬ j = 4 * a3 → ¬ j = 4 * a4 → c s j + c s (j + 1) + c s (j + 2) + c s (j + 3) ≤ 9999) (hv0 : c (P + 3) a1 = v1) (hv1 : c s 30 = v2) (hv2 : c s (4 * a2) = x0) (hv3 : c s (4 * a2 + 1) = x1) (hv4 : c s (4 * a2 + 2) = x2) (hv5 : c s (4 * a2 + 3) = x3) (hv6 : c s (4 * a3) = u0) (hv7 : c s (4 * a3 + 1) = u1) (hv8 : c s (4 * a3 + 2) = u2) (hv9 : c s (4 * a3 + 3) = u3) (hv10 : c s (4 * a4) = w0) (hv11 : c s (4 * a4 + 1) = w1) (hv12 : c s (4 * a4 + 2) = w2) (hv13 : c s (4 * a4 + 3) = w3) (K : ∀ (c2 : ME) (y : Int), Iv 0 (-1) P Q c2 → (∀ (a : Nat) (j : Int), ¬ (a = s) → c2 a j = c a j) → 0 ≤ y ∧ y ≤ 1 → Z (.inl (some (vi y)), Wd P Q P P c2, 0, 0)) : Wp sc (d + 11) 53 68 [(0, .ref sh), (1, vi a1), (2, vi a2), (3, vi a3), (4, vi a4), (7, vi 3)] [] (Wd P Q P P c) 0 0 Z := by
  have hP := iv_P hI
  have hQ := iv_Q hI
  have h_1 := ir_p3 hI hP a1
  have h_2 := ir_s hI hs 30
  have h_3 := ir_s_g hI hs (j := 4 * a2) ((q_9f1d5ffdc ha2))
  have h_4 := ir_s_g hI hs (j := 4 * a2 + 1) ((q_0a2ee6f8f ha2))
  have h_5 := ir_s_g hI hs (j := 4 * a2 + 2) ((q_e07a293a2 ha2))
  have h_6 := ir_s_g hI hs (j := 4 * a2 + 3) ((q_d09cb0b73 ha2))
  have h_7 := ir_s_g hI hs (j := 4 * a3) ((q_9f1d5ffdc ha3))
  have h_8 := ir_s_g hI hs (j := 4 * a3 + 1) ((q_0a2ee6f8f ha3))
  have h_9 := ir_s_g hI hs (j := 4 * a3 + 2) ((q_e07a293a2 ha3))
  have h_10 := ir_s_g hI hs (j := 4 * a3 + 3) ((q_d09cb0b73 ha3))
  have h_11 := ir_s_g hI hs (j := 4 * a4) ((q_9f1d5ffdc ha4))
  have h_12 := ir_s_g hI hs (j := 4 * a4 + 1) ((q_0a2ee6f8f ha4))
  have h_13 := ir_s_g hI hs (j := 4 * a4 + 2) ((q_e07a293a2 ha4))
  have h_14 := ir_s_g hI hs (j := 4 * a4 + 3) ((q_d09cb0b73 ha4))
  have hqo := hq8
  have h_15 := fal_rng (m := v1) (t := tb v2 a1) (g := 3) (x := x3) (by omega)
  refine q_iload c_53_68 rfl (q_iconst c_53_70 (v_ic_ge_f (t := 116) c_53_71 rfl (of_decide_eq_true rfl) (q_aload_n c_53_74 rfl (q_iload_n c_53_75 rfl (q_iload_n c_53_76 rfl (q_iload c_53_77 rfl (v_cv c_53_79 km_4_69 rfl (ck_sh hs) (by omega) ⟨⟨rfl, rfl⟩, of_decide_eq_true rfl, rfl⟩ (Nat.le_of_ble_eq_true rfl) (Nat.le_of_ble_eq_true rfl) (s_48 (v1 := v1) (v2 := v2) (v3 := x3) (r := (fal v1 (tb v2 a1) 3 x3)) (a1 := a1) (a2 := a2) (a3 := 3) hI hs (show 0 ≤ a1 ∧ a1 ≤ 3 from ha1) (show 0 ≤ a2 ∧ a2 ≤ 5 from ha2) (show 0 ≤ 3 ∧ 3 ≤ 3 from ⟨of_decide_eq_true rfl, of_decide_eq_true rfl⟩) ((hv0)) ((hv1)) ((hv5)) rfl ?_))))))))
  refine bk_inl (q_istore c_53_82 (Nat.le_of_ble_eq_true rfl) (q_aload_n c_53_84 rfl (q_iload_n c_53_85 rfl (q_iload_n c_53_86 rfl (q_iload c_53_87 rfl (q_iload c_53_89 rfl ?_))))))
  have h_16 : c s (4 * a2 + 3) = x3 := (hv5)
  have h_17 : c s (4 * a3 + 3) = u3 := (hv9)
  refine v_cv c_53_91 km_4_85 rfl (ck_sh hs) (by omega) ⟨⟨rfl, rfl⟩, of_decide_eq_true rfl, rfl⟩ (Nat.le_of_ble_eq_true rfl) (Nat.le_of_ble_eq_true rfl) (s_52 (a1 := a2) (a2 := a3) (a3 := 3) (a4 := (fal v1 (tb v2 a1) 3 x3)) hI hs (show 0 ≤ a2 ∧ a2 ≤ 5 from ha2) (show 0 ≤ a3 ∧ a3 ≤ 5 from ha3) (show 0 ≤ 3 ∧ 3 ≤ 3 from ⟨of_decide_eq_true rfl, of_decide_eq_true rfl⟩) (show 0 ≤ (fal v1 (tb v2 a1) 3 x3) ∧ (fal v1 (tb v2 a1) 3 x3) ≤ 9999 from ⟨(q_47ff97009 h_15), by first | (clear ha1 ha2 ha3 ha4 hq3 hq4 hq5 hq6 hq7 h_1 hv0 h_2 hv1 h_3 hv2 h_4 hv3 h_5 hv4 h_7 hv6 h_8 hv7 h_9 hv8 h_10 hv9 h_11 hv10 h_12 hv11 h_13 hv12 h_14 hv13 hq0 hq1 hq2; omega) | omega⟩) (by omega) ((q_b76125d36 h_15)) (by first | (clear ha1 ha2 ha3 ha4 hq4 hq5 hq6 hq7 h_1 hv0 h_2 hv1 h_3 hv2 h_4 hv3 h_5 hv4 h_6 hv5 h_10 hv9 h_11 hv10 h_12 hv11 h_13 hv12 h_14 hv13 h_15 hq0 hq1 hq2; omega) | omega) (fun c_18 hI_19 hF_20 h_21 => (bk_inl ?_)))
  have h_22 := ir_s_g hI_19 hs (j := 4 * a2 + 3) ((q_d09cb0b73 ha2))
  have h_23 := ir_s_g hI_19 hs (j := 4 * a3 + 3) ((q_d09cb0b73 ha3))
  refine q_aload_n c_53_94 rfl (q_iload_n c_53_95 rfl (q_iload c_53_96 rfl (q_iload c_53_98 rfl (q_aload_n c_53_100 rfl (q_iload_n c_53_101 rfl (q_iload c_53_102 rfl (v_cv c_53_104 km_4_34 rfl (ck_sh hs) (by omega) ⟨⟨rfl, rfl⟩, of_decide_eq_true rfl, rfl⟩ (Nat.le_of_ble_eq_true rfl) (Nat.le_of_ble_eq_true rfl) (s_45 (v1 := c_18 s (4 * a2 + 3)) (r := c_18 s (4 * a2 + 3)) (a1 := a2) (a2 := 3) hI_19 hs (show 0 ≤ a2 ∧ a2 ≤ 5 from ha2) (show 0 ≤ 3 ∧ 3 ≤ 3 from ⟨of_decide_eq_true rfl, of_decide_eq_true rfl⟩) (rfl) (by omega) ?_))))))))
  refine bk_inl ?_
  have kn_24 : Hid (c_18 s (4 * a4 + 3) = w3) := (hF_20 s (4 * a4 + 3) (fun q => q.elim (fun h => absurd h.2 ((q_ca906b5de hq1))) (fun q => q.elim (fun h => absurd h.2 ((q_ca906b5de hq2))) (fun h => absurd h.2 (ne_l ((q_e782b8c3c ha3 ha4))))))).trans (hv13)
  have h_25 : c_18 s (4 * a4 + 3) = w3 := (hid kn_24)
  refine v_cv c_53_107 km_4_85 rfl (ck_sh hs) (by omega) ⟨⟨rfl, rfl⟩, of_decide_eq_true rfl, rfl⟩ (Nat.le_of_ble_eq_true rfl) (Nat.le_of_ble_eq_true rfl) (s_52 (a1 := a2) (a2 := a4) (a3 := 3) (a4 := c_18 s (4 * a2 + 3)) hI_19 hs (show 0 ≤ a2 ∧ a2 ≤ 5 from ha2) (show 0 ≤ a4 ∧ a4 ≤ 5 from ha4) (show 0 ≤ 3 ∧ 3 ≤ 3 from ⟨of_decide_eq_true rfl, of_decide_eq_true rfl⟩) (show 0 ≤ c_18 s (4 * a2 + 3) ∧ c_18 s (4 * a2 + 3) ≤ 9999 from h_22) (by omega) ((q_e074ea49a)) (by first | (clear ha1 ha2 ha3 ha4 hq3 hq5 hq6 hq7 h_1 hv0 h_2 hv1 h_3 hv2 h_4 hv3 h_5 hv4 h_6 hv5 h_7 hv6 h_8 hv7 h_9 hv8 h_10 hv9 h_14 hv13 h_15 h_22 h_23 hq0 hq1 hq2; omega) | omega) (fun c_26 hI_27 hF_28 h_29 => (bk_inl ?_)))
  have h_30 := ir_s_g hI_27 hs (j := 4 * a2 + 3) ((q_d09cb0b73 ha2))
  have h_31 := ir_s_g hI_27 hs (j := 4 * a4 + 3) ((q_d09cb0b73 ha4))
  refine v_iinc (v := 4) c_53_110 rfl (Nat.le_of_ble_eq_true rfl) (of_decide_eq_true rfl) (q_goto (t := 68) c_53_113 rfl (q_iload c_53_68 rfl (q_iconst c_53_70 (v_ic_ge_t (t := 116) c_53_71 rfl (of_decide_eq_true rfl) (q_aload_n c_53_116 rfl (v_gr (t := s) c_53_117 kf_4_11 (ck_sh hs) (by omega) rfl (v_bip c_53_120 (of_decide_eq_true rfl) ?_)))))))
  refine q_iload_n c_53_122 rfl (v_iadd (v := a2 + 24) c_53_123 (by first | (clear ha1 ha2 ha3 ha4 hq3 hq4 hq5 hq6 hq7 h_1 hv0 h_2 hv1 h_3 hv2 h_4 hv3 h_5 hv4 h_6 hv5 h_7 hv6 h_8 hv7 h_9 hv8 h_10 hv9 h_11 hv10 h_12 hv11 h_13 hv12 h_14 hv13 h_15 h_22 h_23 h_21 h_30 h_31 h_29 hq0 hq1 hq2; omega) | omega) (q_iconst c_53_124 (v_is c_53_125 (ck_s hs) (by omega) (of_decide_eq_true rfl) ⟨(rgp_l ha2.1 (of_decide_eq_true rfl)), (q_99d6360e7 ha2)⟩ (q_iconst c_53_126 (v_zret c_53_127 rfl (of_decide_eq_true rfl) ?_)))))
  have hI_32 := iw_row (a := s) (j := a2 + 24) (v := 0) hI_27 (by omega) (Or.inl rfl) ⟨by omega, by omega, by omega⟩
  have hr_33 : ∀ j : Int, rs s j → (up c_26 s (a2 + 24) 0) s j + (up c_26 s (a2 + 24) 0) s (j + 1) + (up c_26 s (a2 + 24) 0) s (j + 2) + (up c_26 s (a2 + 24) 0) s (j + 3) ≤ 9999 := by
    intro j9 hj9
    obtain ⟨k9, rfl, hk9⟩ := rs_s hs hj9
    by_cases e_34 : k9 = a2
    · skip
      have kn_35 : Hid (c_18 s (4 * a2) = x0) := (hF_20 s (4 * a2) (fun q => q.elim (fun h => absurd h.2 (ne_l ((q_fb9abb0e1)))) (fun q => q.elim (fun h => absurd h.2 ((q_8ac71c5f3))) (fun h => absurd h.2 (ne_l ((q_2b13428e8 ha2 ha3))))))).trans (hv2)
      have kn_36 : Hid (c_26 s (4 * a2) = x0) := (hF_28 s (4 * a2) (fun q => q.elim (fun h => absurd h.2 (ne_l ((q_fb9abb0e1)))) (fun q => q.elim (fun h => absurd h.2 ((q_8ac71c5f3))) (fun h => absurd h.2 (ne_l ((q_2b13428e8 ha2 ha4))))))).trans (hid kn_35)
      have h_37 : (up c_26 s (a2 + 24) 0) s (4 * k9) = x0 := (congrArg ((up c_26 s (a2 + 24) 0) s) (show 4 * k9 = 4 * a2 from by first | assumption | exact Int.le_antisymm (by omega) (by omega))).trans ((up_n (ne_l ((q_788f4b81f ha2)))).trans (hid kn_36))
      have kn_38 : Hid (c_18 s (4 * a2 + 1) = x1) := (hF_20 s (4 * a2 + 1) (fun q => q.elim (fun h => absurd h.2 (ne_l ((q_4e2243c37)))) (fun q => q.elim (fun h => absurd h.2 ((q_7c6b1b09a))) (fun h => absurd h.2 (ne_l ((q_3178328df ha2 ha3))))))).trans (hv3)
      have kn_39 : Hid (c_26 s (4 * a2 + 1) = x1) := (hF_28 s (4 * a2 + 1) (fun q => q.elim (fun h => absurd h.2 (ne_l ((q_4e2243c37)))) (fun q => q.elim (fun h => absurd h.2 ((q_7c6b1b09a))) (fun h => absurd h.2 (ne_l ((q_3178328df ha2 ha4))))))).trans (hid kn_38)
      have h_40 : (up c_26 s (a2 + 24) 0) s (4 * k9 + 1) = x1 := (congrArg ((up c_26 s (a2 + 24) 0) s) (show 4 * k9 + 1 = 4 * a2 + 1 from by first | assumption | exact Int.le_antisymm (by omega) (by omega))).trans ((up_n (ne_l ((q_60c9feeee ha2)))).trans (hid kn_39))
      have kn_41 : Hid (c_18 s (4 * a2 + 2) = x2) := (hF_20 s (4 * a2 + 2) (fun q => q.elim (fun h => absurd h.2 (ne_l ((q_693f489f1)))) (fun q => q.elim (fun h => absurd h.2 ((q_91c5bd343))) (fun h => absurd h.2 (ne_l ((q_428481d46 ha2 ha3))))))).trans (hv4)
      have kn_42 : Hid (c_26 s (4 * a2 + 2) = x2) := (hF_28 s (4 * a2 + 2) (fun q => q.elim (fun h => absurd h.2 (ne_l ((q_693f489f1)))) (fun q => q.elim (fun h => absurd h.2 ((q_91c5bd343))) (fun h => absurd h.2 (ne_l ((q_428481d46 ha2 ha4))))))).trans (hid kn_41)
      have h_43 : (up c_26 s (a2 + 24) 0) s (4 * k9 + 2) = x2 := (congrArg ((up c_26 s (a2 + 24) 0) s) (show 4 * k9 + 2 = 4 * a2 + 2 from by first | assumption | exact Int.le_antisymm (by omega) (by omega))).trans ((up_n (ne_l ((q_27ec1b4d7 ha2)))).trans (hid kn_42))
      have h_44 : (up c_26 s (a2 + 24) 0) s (4 * k9 + 3) = c_26 s (4 * a2 + 3) := (congrArg ((up c_26 s (a2 + 24) 0) s) (show 4 * k9 + 3 = 4 * a2 + 3 from by first | assumption | exact Int.le_antisymm (by omega) (by omega))).trans (up_n (ne_l ((q_fd9aac8f8 ha2))))
      omega
    by_cases e_45 : k9 = a3
    · skip
      have kn_46 : Hid (c_18 s (4 * a3) = u0) := (hF_20 s (4 * a3) (fun q => q.elim (fun h => absurd h.2 ((q_8ac71c5f3))) (fun q => q.elim (fun h => absurd h.2 (ne_l ((q_fb9abb0e1)))) (fun h => absurd h.2 (ne_l ((q_788f4b81f ha3))))))).trans (hv6)
      have kn_47 : Hid (c_26 s (4 * a3) = u0) := (hF_28 s (4 * a3) (fun q => q.elim (fun h => absurd h.2 ((q_8ac71c5f3))) (fun q => q.elim (fun h => absurd h.2 ((q_8ac71c5f3))) (fun h => absurd h.2 (ne_l ((q_2b13428e8 ha3 ha4))))))).trans (hid kn_46)
      have h_48 : (up c_26 s (a2 + 24) 0) s (4 * k9) = u0 := (congrArg ((up c_26 s (a2 + 24) 0) s) (show 4 * k9 = 4 * a3 from by first | assumption | exact Int.le_antisymm (by omega) (by omega))).trans ((up_n (ne_l ((q_4128697c9 ha2 ha3)))).trans (hid kn_47))
      have kn_49 : Hid (c_18 s (4 * a3 + 1) = u1) := (hF_20 s (4 * a3 + 1) (fun q => q.elim (fun h => absurd h.2 ((q_7c6b1b09a))) (fun q => q.elim (fun h => absurd h.2 (ne_l ((q_4e2243c37)))) (fun h => absurd h.2 (ne_l ((q_60c9feeee ha3))))))).trans (hv7)
      have kn_50 : Hid (c_26 s (4 * a3 + 1) = u1) := (hF_28 s (4 * a3 + 1) (fun q => q.elim (fun h => absurd h.2 ((q_7c6b1b09a))) (fun q => q.elim (fun h => absurd h.2 ((q_7c6b1b09a))) (fun h => absurd h.2 (ne_l ((q_3178328df ha3 ha4))))))).trans (hid kn_49)
      have h_51 : (up c_26 s (a2 + 24) 0) s (4 * k9 + 1) = u1 := (congrArg ((up c_26 s (a2 + 24) 0) s) (show 4 * k9 + 1 = 4 * a3 + 1 from by first | assumption | exact Int.le_antisymm (by omega) (by omega))).trans ((up_n (ne_l ((q_8f2481ba6 ha2 ha3)))).trans (hid kn_50))
      have kn_52 : Hid (c_18 s (4 * a3 + 2) = u2) := (hF_20 s (4 * a3 + 2) (fun q => q.elim (fun h => absurd h.2 ((q_91c5bd343))) (fun q => q.elim (fun h => absurd h.2 (ne_l ((q_693f489f1)))) (fun h => absurd h.2 (ne_l ((q_27ec1b4d7 ha3))))))).trans (hv8)
      have kn_53 : Hid (c_26 s (4 * a3 + 2) = u2) := (hF_28 s (4 * a3 + 2) (fun q => q.elim (fun h => absurd h.2 ((q_91c5bd343))) (fun q => q.elim (fun h => absurd h.2 ((q_91c5bd343))) (fun h => absurd h.2 (ne_l ((q_428481d46 ha3 ha4))))))).trans (hid kn_52)
      have h_54 : (up c_26 s (a2 + 24) 0) s (4 * k9 + 2) = u2 := (congrArg ((up c_26 s (a2 + 24) 0) s) (show 4 * k9 + 2 = 4 * a3 + 2 from by first | assumption | exact Int.le_antisymm (by omega) (by omega))).trans ((up_n (ne_l ((q_04ab4010a ha2 ha3)))).trans (hid kn_53))
      have kn_55 : Hid (c_26 s (4 * a3 + 3) = c_18 s (4 * a3 + 3)) := hF_28 s (4 * a3 + 3) (fun q => q.elim (fun h => absurd h.2 ((q_ca906b5de hq0))) (fun q => q.elim (fun h => absurd h.2 ((q_a8d3e8094 hq2))) (fun h => absurd h.2 (ne_l ((q_2771393a8 ha3 ha4))))))
      have h_56 : (up c_26 s (a2 + 24) 0) s (4 * k9 + 3) = c_18 s (4 * a3 + 3) := (congrArg ((up c_26 s (a2 + 24) 0) s) (show 4 * k9 + 3 = 4 * a3 + 3 from by first | assumption | exact Int.le_antisymm (by omega) (by omega))).trans ((up_n (ne_l ((q_e782b8c3c ha2 ha3)))).trans (hid kn_55))
      omega
    by_cases e_57 : k9 = a4
    · skip
      have kn_58 : Hid (c_18 s (4 * a4) = w0) := (hF_20 s (4 * a4) (fun q => q.elim (fun h => absurd h.2 ((q_8ac71c5f3))) (fun q => q.elim (fun h => absurd h.2 ((q_8ac71c5f3))) (fun h => absurd h.2 (ne_l ((q_4128697c9 ha3 ha4))))))).trans (hv10)
      have kn_59 : Hid (c_26 s (4 * a4) = w0) := (hF_28 s (4 * a4) (fun q => q.elim (fun h => absurd h.2 ((q_8ac71c5f3))) (fun q => q.elim (fun h => absurd h.2 (ne_l ((q_fb9abb0e1)))) (fun h => absurd h.2 (ne_l ((q_788f4b81f ha4))))))).trans (hid kn_58)
      have h_60 : (up c_26 s (a2 + 24) 0) s (4 * k9) = w0 := (congrArg ((up c_26 s (a2 + 24) 0) s) (show 4 * k9 = 4 * a4 from by first | assumption | exact Int.le_antisymm (by omega) (by omega))).trans ((up_n (ne_l ((q_4128697c9 ha2 ha4)))).trans (hid kn_59))
      have kn_61 : Hid (c_18 s (4 * a4 + 1) = w1) := (hF_20 s (4 * a4 + 1) (fun q => q.elim (fun h => absurd h.2 ((q_7c6b1b09a))) (fun q => q.elim (fun h => absurd h.2 ((q_7c6b1b09a))) (fun h => absurd h.2 (ne_l ((q_8f2481ba6 ha3 ha4))))))).trans (hv11)
      have kn_62 : Hid (c_26 s (4 * a4 + 1) = w1) := (hF_28 s (4 * a4 + 1) (fun q => q.elim (fun h => absurd h.2 ((q_7c6b1b09a))) (fun q => q.elim (fun h => absurd h.2 (ne_l ((q_4e2243c37)))) (fun h => absurd h.2 (ne_l ((q_60c9feeee ha4))))))).trans (hid kn_61)
      have h_63 : (up c_26 s (a2 + 24) 0) s (4 * k9 + 1) = w1 := (congrArg ((up c_26 s (a2 + 24) 0) s) (show 4 * k9 + 1 = 4 * a4 + 1 from by first | assumption | exact Int.le_antisymm (by omega) (by omega))).trans ((up_n (ne_l ((q_8f2481ba6 ha2 ha4)))).trans (hid kn_62))
      have kn_64 : Hid (c_18 s (4 * a4 + 2) = w2) := (hF_20 s (4 * a4 + 2) (fun q => q.elim (fun h => absurd h.2 ((q_91c5bd343))) (fun q => q.elim (fun h => absurd h.2 ((q_91c5bd343))) (fun h => absurd h.2 (ne_l ((q_04ab4010a ha3 ha4))))))).trans (hv12)
      have kn_65 : Hid (c_26 s (4 * a4 + 2) = w2) := (hF_28 s (4 * a4 + 2) (fun q => q.elim (fun h => absurd h.2 ((q_91c5bd343))) (fun q => q.elim (fun h => absurd h.2 (ne_l ((q_693f489f1)))) (fun h => absurd h.2 (ne_l ((q_27ec1b4d7 ha4))))))).trans (hid kn_64)
      have h_66 : (up c_26 s (a2 + 24) 0) s (4 * k9 + 2) = w2 := (congrArg ((up c_26 s (a2 + 24) 0) s) (show 4 * k9 + 2 = 4 * a4 + 2 from by first | assumption | exact Int.le_antisymm (by omega) (by omega))).trans ((up_n (ne_l ((q_04ab4010a ha2 ha4)))).trans (hid kn_65))
      have h_67 : (up c_26 s (a2 + 24) 0) s (4 * k9 + 3) = c_26 s (4 * a4 + 3) := (congrArg ((up c_26 s (a2 + 24) 0) s) (show 4 * k9 + 3 = 4 * a4 + 3 from by first | assumption | exact Int.le_antisymm (by omega) (by omega))).trans (up_n (ne_l ((q_e782b8c3c ha2 ha4))))
      omega
    have h_68 := hqo (4 * k9) hj9 (by omega) (by omega) (by omega)
    have h_69 := ir_s_g hI hs (j := 4 * k9) ((q_9f1d5ffdc hk9))
    have kn_70 : Hid (c_18 s (4 * k9) = c s (4 * k9)) := hF_20 s (4 * k9) (fun q => q.elim (fun h => absurd h.2 ((q_8ac71c5f3))) (fun q => q.elim (fun h => absurd h.2 ((q_8ac71c5f3))) (fun h => absurd h.2 (ne_l ((q_4128697c9 ha3 hk9))))))
    have kn_71 : Hid (c_26 s (4 * k9) = c s (4 * k9)) := (hF_28 s (4 * k9) (fun q => q.elim (fun h => absurd h.2 ((q_8ac71c5f3))) (fun q => q.elim (fun h => absurd h.2 ((q_8ac71c5f3))) (fun h => absurd h.2 (ne_l ((q_4128697c9 ha4 hk9))))))).trans (hid kn_70)
    have h_72 : (up c_26 s (a2 + 24) 0) s (4 * k9) = c s (4 * k9) := ((up_n (ne_l ((q_4128697c9 ha2 hk9)))).trans (hid kn_71))
    have h_73 := ir_s_g hI hs (j := 4 * k9 + 1) ((q_0a2ee6f8f hk9))
    have kn_74 : Hid (c_18 s (4 * k9 + 1) = c s (4 * k9 + 1)) := hF_20 s (4 * k9 + 1) (fun q => q.elim (fun h => absurd h.2 ((q_7c6b1b09a))) (fun q => q.elim (fun h => absurd h.2 ((q_7c6b1b09a))) (fun h => absurd h.2 (ne_l ((q_8f2481ba6 ha3 hk9))))))
    have kn_75 : Hid (c_26 s (4 * k9 + 1) = c s (4 * k9 + 1)) := (hF_28 s (4 * k9 + 1) (fun q => q.elim (fun h => absurd h.2 ((q_7c6b1b09a))) (fun q => q.elim (fun h => absurd h.2 ((q_7c6b1b09a))) (fun h => absurd h.2 (ne_l ((q_8f2481ba6 ha4 hk9))))))).trans (hid kn_74)
    have h_76 : (up c_26 s (a2 + 24) 0) s (4 * k9 + 1) = c s (4 * k9 + 1) := ((up_n (ne_l ((q_8f2481ba6 ha2 hk9)))).trans (hid kn_75))
    have h_77 := ir_s_g hI hs (j := 4 * k9 + 2) ((q_e07a293a2 hk9))
    have kn_78 : Hid (c_18 s (4 * k9 + 2) = c s (4 * k9 + 2)) := hF_20 s (4 * k9 + 2) (fun q => q.elim (fun h => absurd h.2 ((q_91c5bd343))) (fun q => q.elim (fun h => absurd h.2 ((q_91c5bd343))) (fun h => absurd h.2 (ne_l ((q_04ab4010a ha3 hk9))))))
    have kn_79 : Hid (c_26 s (4 * k9 + 2) = c s (4 * k9 + 2)) := (hF_28 s (4 * k9 + 2) (fun q => q.elim (fun h => absurd h.2 ((q_91c5bd343))) (fun q => q.elim (fun h => absurd h.2 ((q_91c5bd343))) (fun h => absurd h.2 (ne_l ((q_04ab4010a ha4 hk9))))))).trans (hid kn_78)
    have h_80 : (up c_26 s (a2 + 24) 0) s (4 * k9 + 2) = c s (4 * k9 + 2) := ((up_n (ne_l ((q_04ab4010a ha2 hk9)))).trans (hid kn_79))
    have h_81 := ir_s_g hI hs (j := 4 * k9 + 3) ((q_d09cb0b73 hk9))
    have kn_82 : Hid (c_18 s (4 * k9 + 3) = c s (4 * k9 + 3)) := hF_20 s (4 * k9 + 3) (fun q => q.elim (fun h => absurd h.2 ((q_2db9f474b e_34))) (fun q => q.elim (fun h => absurd h.2 ((q_2db9f474b e_45))) (fun h => absurd h.2 (ne_l ((q_e782b8c3c ha3 hk9))))))
    have kn_83 : Hid (c_26 s (4 * k9 + 3) = c s (4 * k9 + 3)) := (hF_28 s (4 * k9 + 3) (fun q => q.elim (fun h => absurd h.2 ((q_2db9f474b e_34))) (fun q => q.elim (fun h => absurd h.2 ((q_2db9f474b e_57))) (fun h => absurd h.2 (ne_l ((q_e782b8c3c ha4 hk9))))))).trans (hid kn_82)
    have h_84 : (up c_26 s (a2 + 24) 0) s (4 * k9 + 3) = c s (4 * k9 + 3) := ((up_n (ne_l ((q_e782b8c3c ha2 hk9)))).trans (hid kn_83))
    omega
  have hI_85 := iv_close hI_32 hr_33
  exact K (up c_26 s (a2 + 24) 0) 1 hI_85 (fun a j hm => (up_b (Decidable.or_iff_not_imp_left.mpr (fun h1 h2 => hm (Decidable.not_not.mp h1)))).trans ((hF_28 a j (fun q => q.elim (fun h => hm h.1) (fun q => q.elim (fun h => hm h.1) (fun h => hm h.1)))).trans (hF_20 a j (fun q => q.elim (fun h => hm h.1) (fun q => q.elim (fun h => hm h.1) (fun h => hm h.1)))))) ⟨of_decide_eq_true rfl, of_decide_eq_true rfl⟩
set_option maxRecDepth 100000 in
set_option maxHeartbeats 4000000 in
theorem s_53_2 {sc : List Int32} {d P Q sh s : Nat} {c : ME} {v1 v2 x0 x1 x2 x3 u0 u1 u2 u3 w0 w1 w2 w3 : Int} {a1 : Int} {a2 : Int} {a3 : Int} {a4 : Int} {Z : AR → Prop} (hI : Iv s (-1) P Q c) (hs : (sh = 37 ∧ s = 38) ∨ (sh = 39 ∧ s = 40)) (ha1 : 0 ≤ a1 ∧ a1 ≤ 3) (ha2 : 0 ≤ a2 ∧ a2 ≤ 5) (ha3 : 0 ≤ a3 ∧ a3 ≤ 5) (ha4 : 0 ≤ a4 ∧ a4 ≤ 5) (hq0 : (a2 < a3) ∨ (a2 > a3)) (hq1 : (a2 < a4) ∨ (a2 > a4)) (hq2 : (a3 < a4) ∨ (a3 > a4)) (hq3 : ((fal v1 (tb v2 a1) 2 x2) + (fal v1 (tb v2 a1) 3 x3) + u0 + u1 + u2 + u3 ≤ 9999)) (hq4 : (w0 + w1 + w2 + w3 + x2 + x3 - (fal v1 (tb v2 a1) 2 x2) - (fal v1 (tb v2 a1) 3 x3) ≤ 9999)) (hq5 : (x0 = 0)) (hq6 : (x1 = 0)) (hq7 : ∀ j : Int, rs s j → ¬ j = 4 * a2 → ¬ j = 4 * a3 → ¬ j = 4 * a4 → c s j + c s (j + 1) + c s (j + 2) + c s (j + 3) ≤ 9999) (hv0 : c (P + 3) a1 = v1) (hv1 : c s 30 = v2) (hv2 : c s (4 * a2) = x0) (hv3 : c s (4 * a2 + 1) = x1) (hv4 : c s (4 * a2 + 2) = x2) (hv5 : c s (4 * a2 + 3) = x3) (hv6 : c s (4 * a3) = u0) (hv7 : c s (4 * a3 + 1) = u1) (hv8 : c s (4 * a3 + 2) = u2) (hv9 : c s (4 * a3 + 3) = u3) (hv10 : c s (4 * a4) = w0) (hv11 : c s (4 * a4 + 1) = w1) (hv12 : c s (4 * a4 + 2) = w2) (hv13 : c s (4 * a4 + 3) = w3) (K : ∀ (c2 : ME) (y : Int), Iv 0 (-1) P Q c2 → (∀ (a : Nat) (j : Int), ¬ (a = s) → c2 a j = c a j) → 0 ≤ y ∧ y ≤ 1 → Z (.inl (some (vi y)), Wd P Q P P c2, 0, 0)) : Wp sc (d + 11) 53 68 [(0, .ref sh), (1, vi a1), (2, vi a2), (3, vi a3), (4, vi a4), (7, vi 2)] [] (Wd P Q P P c) 0 0 Z := by
  have hP := iv_P hI
  have hQ := iv_Q hI
  have h_1 := ir_p3 hI hP a1
  have h_2 := ir_s hI hs 30
  have h_3 := ir_s_g hI hs (j := 4 * a2) ((q_9f1d5ffdc ha2))
  have h_4 := ir_s_g hI hs (j := 4 * a2 + 1) ((q_0a2ee6f8f ha2))
  have h_5 := ir_s_g hI hs (j := 4 * a2 + 2) ((q_e07a293a2 ha2))
  have h_6 := ir_s_g hI hs (j := 4 * a2 + 3) ((q_d09cb0b73 ha2))
  have h_7 := ir_s_g hI hs (j := 4 * a3) ((q_9f1d5ffdc ha3))
  have h_8 := ir_s_g hI hs (j := 4 * a3 + 1) ((q_0a2ee6f8f ha3))
  have h_9 := ir_s_g hI hs (j := 4 * a3 + 2) ((q_e07a293a2 ha3))
  have h_10 := ir_s_g hI hs (j := 4 * a3 + 3) ((q_d09cb0b73 ha3))
  have h_11 := ir_s_g hI hs (j := 4 * a4) ((q_9f1d5ffdc ha4))
  have h_12 := ir_s_g hI hs (j := 4 * a4 + 1) ((q_0a2ee6f8f ha4))
  have h_13 := ir_s_g hI hs (j := 4 * a4 + 2) ((q_e07a293a2 ha4))
  have h_14 := ir_s_g hI hs (j := 4 * a4 + 3) ((q_d09cb0b73 ha4))
  have hqo := hq7
  have h_15 := fal_rng (m := v1) (t := tb v2 a1) (g := 2) (x := x2) (by omega)
  have h_16 := fal_rng (m := v1) (t := tb v2 a1) (g := 3) (x := x3) (by omega)
  refine q_iload c_53_68 rfl (q_iconst c_53_70 (v_ic_ge_f (t := 116) c_53_71 rfl (of_decide_eq_true rfl) (q_aload_n c_53_74 rfl (q_iload_n c_53_75 rfl (q_iload_n c_53_76 rfl (q_iload c_53_77 rfl (v_cv c_53_79 km_4_69 rfl (ck_sh hs) (by omega) ⟨⟨rfl, rfl⟩, of_decide_eq_true rfl, rfl⟩ (Nat.le_of_ble_eq_true rfl) (Nat.le_of_ble_eq_true rfl) (s_48 (v1 := v1) (v2 := v2) (v3 := x2) (r := (fal v1 (tb v2 a1) 2 x2)) (a1 := a1) (a2 := a2) (a3 := 2) hI hs (show 0 ≤ a1 ∧ a1 ≤ 3 from ha1) (show 0 ≤ a2 ∧ a2 ≤ 5 from ha2) (show 0 ≤ 2 ∧ 2 ≤ 3 from ⟨of_decide_eq_true rfl, of_decide_eq_true rfl⟩) ((hv0)) ((hv1)) ((hv4)) rfl ?_))))))))
  refine bk_inl (q_istore c_53_82 (Nat.le_of_ble_eq_true rfl) (q_aload_n c_53_84 rfl (q_iload_n c_53_85 rfl (q_iload_n c_53_86 rfl (q_iload c_53_87 rfl (q_iload c_53_89 rfl ?_))))))
  have h_17 : c s (4 * a2 + 2) = x2 := (hv4)
  have h_18 : c s (4 * a3 + 2) = u2 := (hv8)
  refine v_cv c_53_91 km_4_85 rfl (ck_sh hs) (by omega) ⟨⟨rfl, rfl⟩, of_decide_eq_true rfl, rfl⟩ (Nat.le_of_ble_eq_true rfl) (Nat.le_of_ble_eq_true rfl) (s_52 (a1 := a2) (a2 := a3) (a3 := 2) (a4 := (fal v1 (tb v2 a1) 2 x2)) hI hs (show 0 ≤ a2 ∧ a2 ≤ 5 from ha2) (show 0 ≤ a3 ∧ a3 ≤ 5 from ha3) (show 0 ≤ 2 ∧ 2 ≤ 3 from ⟨of_decide_eq_true rfl, of_decide_eq_true rfl⟩) (show 0 ≤ (fal v1 (tb v2 a1) 2 x2) ∧ (fal v1 (tb v2 a1) 2 x2) ≤ 9999 from ⟨(q_47ff97009 h_15), by first | (clear ha1 ha2 ha3 ha4 hq3 hq4 hq5 hq6 h_1 hv0 h_2 hv1 h_3 hv2 h_4 hv3 h_6 hv5 h_7 hv6 h_8 hv7 h_9 hv8 h_10 hv9 h_11 hv10 h_12 hv11 h_13 hv12 h_14 hv13 h_16 hq0 hq1 hq2; omega) | omega⟩) (by omega) ((q_b76125d36 h_15)) (by first | (clear ha1 ha2 ha3 ha4 hq4 hq5 hq6 h_1 hv0 h_2 hv1 h_3 hv2 h_4 hv3 h_5 hv4 h_6 hv5 h_9 hv8 h_11 hv10 h_12 hv11 h_13 hv12 h_14 hv13 h_15 hq0 hq1 hq2; omega) | omega) (fun c_19 hI_20 hF_21 h_22 => (bk_inl ?_)))
  have h_23 := ir_s_g hI_20 hs (j := 4 * a2 + 2) ((q_e07a293a2 ha2))
  have h_24 := ir_s_g hI_20 hs (j := 4 * a3 + 2) ((q_e07a293a2 ha3))
  refine q_aload_n c_53_94 rfl (q_iload_n c_53_95 rfl (q_iload c_53_96 rfl (q_iload c_53_98 rfl (q_aload_n c_53_100 rfl (q_iload_n c_53_101 rfl (q_iload c_53_102 rfl (v_cv c_53_104 km_4_34 rfl (ck_sh hs) (by omega) ⟨⟨rfl, rfl⟩, of_decide_eq_true rfl, rfl⟩ (Nat.le_of_ble_eq_true rfl) (Nat.le_of_ble_eq_true rfl) (s_45 (v1 := c_19 s (4 * a2 + 2)) (r := c_19 s (4 * a2 + 2)) (a1 := a2) (a2 := 2) hI_20 hs (show 0 ≤ a2 ∧ a2 ≤ 5 from ha2) (show 0 ≤ 2 ∧ 2 ≤ 3 from ⟨of_decide_eq_true rfl, of_decide_eq_true rfl⟩) (rfl) (by omega) ?_))))))))
  refine bk_inl ?_
  have kn_25 : Hid (c_19 s (4 * a4 + 2) = w2) := (hF_21 s (4 * a4 + 2) (fun q => q.elim (fun h => absurd h.2 ((q_28bc460e3 hq1))) (fun q => q.elim (fun h => absurd h.2 ((q_28bc460e3 hq2))) (fun h => absurd h.2 (ne_l ((q_04ab4010a ha3 ha4))))))).trans (hv12)
  have h_26 : c_19 s (4 * a4 + 2) = w2 := (hid kn_25)
  refine v_cv c_53_107 km_4_85 rfl (ck_sh hs) (by omega) ⟨⟨rfl, rfl⟩, of_decide_eq_true rfl, rfl⟩ (Nat.le_of_ble_eq_true rfl) (Nat.le_of_ble_eq_true rfl) (s_52 (a1 := a2) (a2 := a4) (a3 := 2) (a4 := c_19 s (4 * a2 + 2)) hI_20 hs (show 0 ≤ a2 ∧ a2 ≤ 5 from ha2) (show 0 ≤ a4 ∧ a4 ≤ 5 from ha4) (show 0 ≤ 2 ∧ 2 ≤ 3 from ⟨of_decide_eq_true rfl, of_decide_eq_true rfl⟩) (show 0 ≤ c_19 s (4 * a2 + 2) ∧ c_19 s (4 * a2 + 2) ≤ 9999 from h_23) (by omega) ((q_e074ea49a)) (by first | (clear ha1 ha2 ha3 ha4 hq3 hq5 hq6 h_1 hv0 h_2 hv1 h_3 hv2 h_4 hv3 h_5 hv4 h_6 hv5 h_7 hv6 h_8 hv7 h_9 hv8 h_10 hv9 h_13 hv12 h_15 h_23 h_24 hq0 hq1 hq2; omega) | omega) (fun c_27 hI_28 hF_29 h_30 => (bk_inl ?_)))
  have h_31 := ir_s_g hI_28 hs (j := 4 * a2 + 2) ((q_e07a293a2 ha2))
  have h_32 := ir_s_g hI_28 hs (j := 4 * a4 + 2) ((q_e07a293a2 ha4))
  refine v_iinc (v := 3) c_53_110 rfl (Nat.le_of_ble_eq_true rfl) (of_decide_eq_true rfl) (q_goto (t := 68) c_53_113 rfl ?_)
  have kn_33 : Hid (c_19 (P + 3) a1 = v1) := (hF_21 (P + 3) a1 (by omega)).trans (hv0)
  have kn_34 : Hid (c_27 (P + 3) a1 = v1) := (hF_29 (P + 3) a1 (by omega)).trans (hid kn_33)
  have kn_35 : Hid (c_19 s 30 = v2) := (hF_21 s 30 (fun q => q.elim (fun h => absurd h.2 (ne_g ((q_a2b745983 ha2)))) (fun q => q.elim (fun h => absurd h.2 (ne_g ((q_a2b745983 ha3)))) (fun h => absurd h.2 (ne_g ((q_3b49164d8 ha3))))))).trans (hv1)
  have kn_36 : Hid (c_27 s 30 = v2) := (hF_29 s 30 (fun q => q.elim (fun h => absurd h.2 (ne_g ((q_a2b745983 ha2)))) (fun q => q.elim (fun h => absurd h.2 (ne_g ((q_a2b745983 ha4)))) (fun h => absurd h.2 (ne_g ((q_3b49164d8 ha4))))))).trans (hid kn_35)
  have kn_37 : Hid (c_19 s (4 * a2) = x0) := (hF_21 s (4 * a2) (fun q => q.elim (fun h => absurd h.2 (ne_l ((q_1cdd15b2c)))) (fun q => q.elim (fun h => absurd h.2 ((q_c037f51da))) (fun h => absurd h.2 (ne_l ((q_2b13428e8 ha2 ha3))))))).trans (hv2)
  have kn_38 : Hid (c_27 s (4 * a2) = x0) := (hF_29 s (4 * a2) (fun q => q.elim (fun h => absurd h.2 (ne_l ((q_1cdd15b2c)))) (fun q => q.elim (fun h => absurd h.2 ((q_c037f51da))) (fun h => absurd h.2 (ne_l ((q_2b13428e8 ha2 ha4))))))).trans (hid kn_37)
  have kn_39 : Hid (c_19 s (4 * a2 + 1) = x1) := (hF_21 s (4 * a2 + 1) (fun q => q.elim (fun h => absurd h.2 (ne_l ((q_af9ea9c7d)))) (fun q => q.elim (fun h => absurd h.2 ((q_3650b790c))) (fun h => absurd h.2 (ne_l ((q_3178328df ha2 ha3))))))).trans (hv3)
  have kn_40 : Hid (c_27 s (4 * a2 + 1) = x1) := (hF_29 s (4 * a2 + 1) (fun q => q.elim (fun h => absurd h.2 (ne_l ((q_af9ea9c7d)))) (fun q => q.elim (fun h => absurd h.2 ((q_3650b790c))) (fun h => absurd h.2 (ne_l ((q_3178328df ha2 ha4))))))).trans (hid kn_39)
  have kn_41 : Hid (c_19 s (4 * a2 + 3) = x3) := (hF_21 s (4 * a2 + 3) (fun q => q.elim (fun h => absurd h.2 (ne_g ((q_693f489f1)))) (fun q => q.elim (fun h => absurd h.2 ((q_28d70e8e5))) (fun h => absurd h.2 (ne_l ((q_2771393a8 ha2 ha3))))))).trans (hv5)
  have kn_42 : Hid (c_27 s (4 * a2 + 3) = x3) := (hF_29 s (4 * a2 + 3) (fun q => q.elim (fun h => absurd h.2 (ne_g ((q_693f489f1)))) (fun q => q.elim (fun h => absurd h.2 ((q_28d70e8e5))) (fun h => absurd h.2 (ne_l ((q_2771393a8 ha2 ha4))))))).trans (hid kn_41)
  have kn_43 : Hid (c_19 s (4 * a3) = u0) := (hF_21 s (4 * a3) (fun q => q.elim (fun h => absurd h.2 ((q_c037f51da))) (fun q => q.elim (fun h => absurd h.2 (ne_l ((q_1cdd15b2c)))) (fun h => absurd h.2 (ne_l ((q_788f4b81f ha3))))))).trans (hv6)
  have kn_44 : Hid (c_27 s (4 * a3) = u0) := (hF_29 s (4 * a3) (fun q => q.elim (fun h => absurd h.2 ((q_c037f51da))) (fun q => q.elim (fun h => absurd h.2 ((q_c037f51da))) (fun h => absurd h.2 (ne_l ((q_2b13428e8 ha3 ha4))))))).trans (hid kn_43)
  have kn_45 : Hid (c_19 s (4 * a3 + 1) = u1) := (hF_21 s (4 * a3 + 1) (fun q => q.elim (fun h => absurd h.2 ((q_3650b790c))) (fun q => q.elim (fun h => absurd h.2 (ne_l ((q_af9ea9c7d)))) (fun h => absurd h.2 (ne_l ((q_60c9feeee ha3))))))).trans (hv7)
  have kn_46 : Hid (c_27 s (4 * a3 + 1) = u1) := (hF_29 s (4 * a3 + 1) (fun q => q.elim (fun h => absurd h.2 ((q_3650b790c))) (fun q => q.elim (fun h => absurd h.2 ((q_3650b790c))) (fun h => absurd h.2 (ne_l ((q_3178328df ha3 ha4))))))).trans (hid kn_45)
  have kn_47 : Hid (c_27 s (4 * a3 + 2) = c_19 s (4 * a3 + 2)) := hF_29 s (4 * a3 + 2) (fun q => q.elim (fun h => absurd h.2 ((q_28bc460e3 hq0))) (fun q => q.elim (fun h => absurd h.2 ((q_fa7eff6f3 hq2))) (fun h => absurd h.2 (ne_l ((q_428481d46 ha3 ha4))))))
  have kn_48 : Hid (c_19 s (4 * a3 + 3) = u3) := (hF_21 s (4 * a3 + 3) (fun q => q.elim (fun h => absurd h.2 ((q_28d70e8e5))) (fun q => q.elim (fun h => absurd h.2 (ne_g ((q_693f489f1)))) (fun h => absurd h.2 (ne_l ((q_fd9aac8f8 ha3))))))).trans (hv9)
  have kn_49 : Hid (c_27 s (4 * a3 + 3) = u3) := (hF_29 s (4 * a3 + 3) (fun q => q.elim (fun h => absurd h.2 ((q_28d70e8e5))) (fun q => q.elim (fun h => absurd h.2 ((q_28d70e8e5))) (fun h => absurd h.2 (ne_l ((q_2771393a8 ha3 ha4))))))).trans (hid kn_48)
  have kn_50 : Hid (c_19 s (4 * a4) = w0) := (hF_21 s (4 * a4) (fun q => q.elim (fun h => absurd h.2 ((q_c037f51da))) (fun q => q.elim (fun h => absurd h.2 ((q_c037f51da))) (fun h => absurd h.2 (ne_l ((q_4128697c9 ha3 ha4))))))).trans (hv10)
  have kn_51 : Hid (c_27 s (4 * a4) = w0) := (hF_29 s (4 * a4) (fun q => q.elim (fun h => absurd h.2 ((q_c037f51da))) (fun q => q.elim (fun h => absurd h.2 (ne_l ((q_1cdd15b2c)))) (fun h => absurd h.2 (ne_l ((q_788f4b81f ha4))))))).trans (hid kn_50)
  have kn_52 : Hid (c_19 s (4 * a4 + 1) = w1) := (hF_21 s (4 * a4 + 1) (fun q => q.elim (fun h => absurd h.2 ((q_3650b790c))) (fun q => q.elim (fun h => absurd h.2 ((q_3650b790c))) (fun h => absurd h.2 (ne_l ((q_8f2481ba6 ha3 ha4))))))).trans (hv11)
  have kn_53 : Hid (c_27 s (4 * a4 + 1) = w1) := (hF_29 s (4 * a4 + 1) (fun q => q.elim (fun h => absurd h.2 ((q_3650b790c))) (fun q => q.elim (fun h => absurd h.2 (ne_l ((q_af9ea9c7d)))) (fun h => absurd h.2 (ne_l ((q_60c9feeee ha4))))))).trans (hid kn_52)
  have kn_54 : Hid (c_19 s (4 * a4 + 3) = w3) := (hF_21 s (4 * a4 + 3) (fun q => q.elim (fun h => absurd h.2 ((q_28d70e8e5))) (fun q => q.elim (fun h => absurd h.2 ((q_28d70e8e5))) (fun h => absurd h.2 (ne_l ((q_e782b8c3c ha3 ha4))))))).trans (hv13)
  have kn_55 : Hid (c_27 s (4 * a4 + 3) = w3) := (hF_29 s (4 * a4 + 3) (fun q => q.elim (fun h => absurd h.2 ((q_28d70e8e5))) (fun q => q.elim (fun h => absurd h.2 (ne_g ((q_693f489f1)))) (fun h => absurd h.2 (ne_l ((q_fd9aac8f8 ha4))))))).trans (hid kn_54)
  have hqo_56 : ∀ j : Int, rs s j → ¬ j = 4 * a2 → ¬ j = 4 * a3 → ¬ j = 4 * a4 → c_27 s j + c_27 s (j + 1) + c_27 s (j + 2) + c_27 s (j + 3) ≤ 9999 := by
    intro j9 hj9 hz0 hz1 hz2
    obtain ⟨k9, rfl, hk9⟩ := rs_s hs hj9
    have h_57 := hqo (4 * k9) hj9 (by omega) (by omega) (by omega)
    have h_58 := ir_s_g hI hs (j := 4 * k9) ((q_9f1d5ffdc hk9))
    have kn_59 : Hid (c_19 s (4 * k9) = c s (4 * k9)) := hF_21 s (4 * k9) (fun q => q.elim (fun h => absurd h.2 ((q_c037f51da))) (fun q => q.elim (fun h => absurd h.2 ((q_c037f51da))) (fun h => absurd h.2 (ne_l ((q_4128697c9 ha3 hk9))))))
    have kn_60 : Hid (c_27 s (4 * k9) = c s (4 * k9)) := (hF_29 s (4 * k9) (fun q => q.elim (fun h => absurd h.2 ((q_c037f51da))) (fun q => q.elim (fun h => absurd h.2 ((q_c037f51da))) (fun h => absurd h.2 (ne_l ((q_4128697c9 ha4 hk9))))))).trans (hid kn_59)
    have h_61 : c_27 s (4 * k9) = c s (4 * k9) := (hid kn_60)
    have h_62 := ir_s_g hI hs (j := 4 * k9 + 1) ((q_0a2ee6f8f hk9))
    have kn_63 : Hid (c_19 s (4 * k9 + 1) = c s (4 * k9 + 1)) := hF_21 s (4 * k9 + 1) (fun q => q.elim (fun h => absurd h.2 ((q_3650b790c))) (fun q => q.elim (fun h => absurd h.2 ((q_3650b790c))) (fun h => absurd h.2 (ne_l ((q_8f2481ba6 ha3 hk9))))))
    have kn_64 : Hid (c_27 s (4 * k9 + 1) = c s (4 * k9 + 1)) := (hF_29 s (4 * k9 + 1) (fun q => q.elim (fun h => absurd h.2 ((q_3650b790c))) (fun q => q.elim (fun h => absurd h.2 ((q_3650b790c))) (fun h => absurd h.2 (ne_l ((q_8f2481ba6 ha4 hk9))))))).trans (hid kn_63)
    have h_65 : c_27 s (4 * k9 + 1) = c s (4 * k9 + 1) := (hid kn_64)
    have h_66 := ir_s_g hI hs (j := 4 * k9 + 2) ((q_e07a293a2 hk9))
    have kn_67 : Hid (c_19 s (4 * k9 + 2) = c s (4 * k9 + 2)) := hF_21 s (4 * k9 + 2) (fun q => q.elim (fun h => absurd h.2 (by first | (clear ha1 ha2 ha3 ha4 hq3 hq4 hq5 hq6 h_1 hv0 h_2 hv1 h_3 hv2 h_4 hv3 h_5 hv4 h_6 hv5 h_7 hv6 h_8 hv7 h_9 hv8 h_10 hv9 h_11 hv10 h_12 hv11 h_13 hv12 h_14 hv13 h_15 h_16 h_23 h_24 h_22 h_31 h_32 h_30 hk9 h_58 h_62 h_66 hq0 hq1 hq2; omega) | omega)) (fun q => q.elim (fun h => absurd h.2 (by first | (clear ha1 ha2 ha3 ha4 hq3 hq4 hq5 hq6 h_1 hv0 h_2 hv1 h_3 hv2 h_4 hv3 h_5 hv4 h_6 hv5 h_7 hv6 h_8 hv7 h_9 hv8 h_10 hv9 h_11 hv10 h_12 hv11 h_13 hv12 h_14 hv13 h_15 h_16 h_23 h_24 h_22 h_31 h_32 h_30 hk9 h_58 h_62 h_66 hq0 hq1 hq2; omega) | omega)) (fun h => absurd h.2 (ne_l ((q_04ab4010a ha3 hk9))))))
    have kn_68 : Hid (c_27 s (4 * k9 + 2) = c s (4 * k9 + 2)) := (hF_29 s (4 * k9 + 2) (fun q => q.elim (fun h => absurd h.2 (by first | (clear ha1 ha2 ha3 ha4 hq3 hq4 hq5 hq6 h_1 hv0 h_2 hv1 h_3 hv2 h_4 hv3 h_5 hv4 h_6 hv5 h_7 hv6 h_8 hv7 h_9 hv8 h_10 hv9 h_11 hv10 h_12 hv11 h_13 hv12 h_14 hv13 h_15 h_16 h_23 h_24 h_22 h_31 h_32 h_30 hk9 h_58 h_62 h_66 hq0 hq1 hq2; omega) | omega)) (fun q => q.elim (fun h => absurd h.2 (by first | (clear ha1 ha2 ha3 ha4 hq3 hq4 hq5 hq6 h_1 hv0 h_2 hv1 h_3 hv2 h_4 hv3 h_5 hv4 h_6 hv5 h_7 hv6 h_8 hv7 h_9 hv8 h_10 hv9 h_11 hv10 h_12 hv11 h_13 hv12 h_14 hv13 h_15 h_16 h_23 h_24 h_22 h_31 h_32 h_30 hk9 h_58 h_62 h_66 hq0 hq1 hq2; omega) | omega)) (fun h => absurd h.2 (ne_l ((q_04ab4010a ha4 hk9))))))).trans (hid kn_67)
    have h_69 : c_27 s (4 * k9 + 2) = c s (4 * k9 + 2) := (hid kn_68)
    have h_70 := ir_s_g hI hs (j := 4 * k9 + 3) ((q_d09cb0b73 hk9))
    have kn_71 : Hid (c_19 s (4 * k9 + 3) = c s (4 * k9 + 3)) := hF_21 s (4 * k9 + 3) (fun q => q.elim (fun h => absurd h.2 ((q_28d70e8e5))) (fun q => q.elim (fun h => absurd h.2 ((q_28d70e8e5))) (fun h => absurd h.2 (ne_l ((q_e782b8c3c ha3 hk9))))))
    have kn_72 : Hid (c_27 s (4 * k9 + 3) = c s (4 * k9 + 3)) := (hF_29 s (4 * k9 + 3) (fun q => q.elim (fun h => absurd h.2 ((q_28d70e8e5))) (fun q => q.elim (fun h => absurd h.2 ((q_28d70e8e5))) (fun h => absurd h.2 (ne_l ((q_e782b8c3c ha4 hk9))))))).trans (hid kn_71)
    have h_73 : c_27 s (4 * k9 + 3) = c s (4 * k9 + 3) := (hid kn_72)
    omega
  refine Wp_ls [(0, .ref sh), (1, vi a1), (2, vi a2), (3, vi a3), (4, vi a4), (7, vi 3)] (lsub_cons rfl (lsub_cons rfl (lsub_cons rfl (lsub_cons rfl (lsub_cons rfl (lsub_cons rfl lsub_nil)))))) ?_
  exact s_53_3 (v1 := v1) (v2 := v2) (x0 := x0) (x1 := x1) (x2 := c_27 s (4 * a2 + 2)) (x3 := x3) (u0 := u0) (u1 := u1) (u2 := c_19 s (4 * a3 + 2)) (u3 := u3) (w0 := w0) (w1 := w1) (w2 := c_27 s (4 * a4 + 2)) (w3 := w3) hI_28 hs (by omega) (by omega) (by omega) (by omega) (by omega) (by omega) (by omega) (by omega) (by omega) (by omega) (by omega) (by omega) hqo_56 ((hid kn_34)) ((hid kn_36)) ((hid kn_38)) ((hid kn_40)) rfl ((hid kn_42)) ((hid kn_44)) ((hid kn_46)) ((hid kn_47)) ((hid kn_49)) ((hid kn_51)) ((hid kn_53)) rfl ((hid kn_55)) (fun c9 y9 hI9 hF9 hy9 => K c9 y9 hI9 (fun a j hm => (hF9 a j (by omega)).trans ((hF_29 a j (by omega)).trans (hF_21 a j (by omega)))) hy9)
set_option maxRecDepth 100000 in
set_option maxHeartbeats 4000000 in
theorem s_53_1 {sc : List Int32} {d P Q sh s : Nat} {c : ME} {v1 v2 x0 x1 x2 x3 u0 u1 u2 u3 w0 w1 w2 w3 : Int} {a1 : Int} {a2 : Int} {a3 : Int} {a4 : Int} {Z : AR → Prop} (hI : Iv s (-1) P Q c) (hs : (sh = 37 ∧ s = 38) ∨ (sh = 39 ∧ s = 40)) (ha1 : 0 ≤ a1 ∧ a1 ≤ 3) (ha2 : 0 ≤ a2 ∧ a2 ≤ 5) (ha3 : 0 ≤ a3 ∧ a3 ≤ 5) (ha4 : 0 ≤ a4 ∧ a4 ≤ 5) (hq0 : (a2 < a3) ∨ (a2 > a3)) (hq1 : (a2 < a4) ∨ (a2 > a4)) (hq2 : (a3 < a4) ∨ (a3 > a4)) (hq3 : ((fal v1 (tb v2 a1) 1 x1) + (fal v1 (tb v2 a1) 2 x2) + (fal v1 (tb v2 a1) 3 x3) + u0 + u1 + u2 + u3 ≤ 9999)) (hq4 : (w0 + w1 + w2 + w3 + x1 + x2 + x3 - (fal v1 (tb v2 a1) 1 x1) - (fal v1 (tb v2 a1) 2 x2) - (fal v1 (tb v2 a1) 3 x3) ≤ 9999)) (hq5 : (x0 = 0)) (hq6 : ∀ j : Int, rs s j → ¬ j = 4 * a2 → ¬ j = 4 * a3 → ¬ j = 4 * a4 → c s j + c s (j + 1) + c s (j + 2) + c s (j + 3) ≤ 9999) (hv0 : c (P + 3) a1 = v1) (hv1 : c s 30 = v2) (hv2 : c s (4 * a2) = x0) (hv3 : c s (4 * a2 + 1) = x1) (hv4 : c s (4 * a2 + 2) = x2) (hv5 : c s (4 * a2 + 3) = x3) (hv6 : c s (4 * a3) = u0) (hv7 : c s (4 * a3 + 1) = u1) (hv8 : c s (4 * a3 + 2) = u2) (hv9 : c s (4 * a3 + 3) = u3) (hv10 : c s (4 * a4) = w0) (hv11 : c s (4 * a4 + 1) = w1) (hv12 : c s (4 * a4 + 2) = w2) (hv13 : c s (4 * a4 + 3) = w3) (K : ∀ (c2 : ME) (y : Int), Iv 0 (-1) P Q c2 → (∀ (a : Nat) (j : Int), ¬ (a = s) → c2 a j = c a j) → 0 ≤ y ∧ y ≤ 1 → Z (.inl (some (vi y)), Wd P Q P P c2, 0, 0)) : Wp sc (d + 11) 53 68 [(0, .ref sh), (1, vi a1), (2, vi a2), (3, vi a3), (4, vi a4), (7, vi 1)] [] (Wd P Q P P c) 0 0 Z := by
  have hP := iv_P hI
  have hQ := iv_Q hI
  have h_1 := ir_p3 hI hP a1
  have h_2 := ir_s hI hs 30
  have h_3 := ir_s_g hI hs (j := 4 * a2) ((q_9f1d5ffdc ha2))
  have h_4 := ir_s_g hI hs (j := 4 * a2 + 1) ((q_0a2ee6f8f ha2))
  have h_5 := ir_s_g hI hs (j := 4 * a2 + 2) ((q_e07a293a2 ha2))
  have h_6 := ir_s_g hI hs (j := 4 * a2 + 3) ((q_d09cb0b73 ha2))
  have h_7 := ir_s_g hI hs (j := 4 * a3) ((q_9f1d5ffdc ha3))
  have h_8 := ir_s_g hI hs (j := 4 * a3 + 1) ((q_0a2ee6f8f ha3))
  have h_9 := ir_s_g hI hs (j := 4 * a3 + 2) ((q_e07a293a2 ha3))
  have h_10 := ir_s_g hI hs (j := 4 * a3 + 3) ((q_d09cb0b73 ha3))
  have h_11 := ir_s_g hI hs (j := 4 * a4) ((q_9f1d5ffdc ha4))
  have h_12 := ir_s_g hI hs (j := 4 * a4 + 1) ((q_0a2ee6f8f ha4))
  have h_13 := ir_s_g hI hs (j := 4 * a4 + 2) ((q_e07a293a2 ha4))
  have h_14 := ir_s_g hI hs (j := 4 * a4 + 3) ((q_d09cb0b73 ha4))
  have hqo := hq6
  have h_15 := fal_rng (m := v1) (t := tb v2 a1) (g := 1) (x := x1) (by omega)
  have h_16 := fal_rng (m := v1) (t := tb v2 a1) (g := 2) (x := x2) (by omega)
  have h_17 := fal_rng (m := v1) (t := tb v2 a1) (g := 3) (x := x3) (by omega)
  refine q_iload c_53_68 rfl (q_iconst c_53_70 (v_ic_ge_f (t := 116) c_53_71 rfl (of_decide_eq_true rfl) (q_aload_n c_53_74 rfl (q_iload_n c_53_75 rfl (q_iload_n c_53_76 rfl (q_iload c_53_77 rfl (v_cv c_53_79 km_4_69 rfl (ck_sh hs) (by omega) ⟨⟨rfl, rfl⟩, of_decide_eq_true rfl, rfl⟩ (Nat.le_of_ble_eq_true rfl) (Nat.le_of_ble_eq_true rfl) (s_48 (v1 := v1) (v2 := v2) (v3 := x1) (r := (fal v1 (tb v2 a1) 1 x1)) (a1 := a1) (a2 := a2) (a3 := 1) hI hs (show 0 ≤ a1 ∧ a1 ≤ 3 from ha1) (show 0 ≤ a2 ∧ a2 ≤ 5 from ha2) (show 0 ≤ 1 ∧ 1 ≤ 3 from ⟨of_decide_eq_true rfl, of_decide_eq_true rfl⟩) ((hv0)) ((hv1)) ((hv3)) rfl ?_))))))))
  refine bk_inl (q_istore c_53_82 (Nat.le_of_ble_eq_true rfl) (q_aload_n c_53_84 rfl (q_iload_n c_53_85 rfl (q_iload_n c_53_86 rfl (q_iload c_53_87 rfl (q_iload c_53_89 rfl ?_))))))
  have h_18 : c s (4 * a2 + 1) = x1 := (hv3)
  have h_19 : c s (4 * a3 + 1) = u1 := (hv7)
  refine v_cv c_53_91 km_4_85 rfl (ck_sh hs) (by omega) ⟨⟨rfl, rfl⟩, of_decide_eq_true rfl, rfl⟩ (Nat.le_of_ble_eq_true rfl) (Nat.le_of_ble_eq_true rfl) (s_52 (a1 := a2) (a2 := a3) (a3 := 1) (a4 := (fal v1 (tb v2 a1) 1 x1)) hI hs (show 0 ≤ a2 ∧ a2 ≤ 5 from ha2) (show 0 ≤ a3 ∧ a3 ≤ 5 from ha3) (show 0 ≤ 1 ∧ 1 ≤ 3 from ⟨of_decide_eq_true rfl, of_decide_eq_true rfl⟩) (show 0 ≤ (fal v1 (tb v2 a1) 1 x1) ∧ (fal v1 (tb v2 a1) 1 x1) ≤ 9999 from ⟨(q_47ff97009 h_15), by first | (clear ha1 ha2 ha3 ha4 hq3 hq4 hq5 h_1 hv0 h_2 hv1 h_3 hv2 h_5 hv4 h_6 hv5 h_7 hv6 h_8 hv7 h_9 hv8 h_10 hv9 h_11 hv10 h_12 hv11 h_13 hv12 h_14 hv13 h_16 h_17 hq0 hq1 hq2; omega) | omega⟩) (by omega) ((q_b76125d36 h_15)) (by first | (clear ha1 ha2 ha3 ha4 hq4 hq5 h_1 hv0 h_2 hv1 h_3 hv2 h_4 hv3 h_5 hv4 h_6 hv5 h_8 hv7 h_11 hv10 h_12 hv11 h_13 hv12 h_14 hv13 h_15 hq0 hq1 hq2; omega) | omega) (fun c_20 hI_21 hF_22 h_23 => (bk_inl ?_)))
  have h_24 := ir_s_g hI_21 hs (j := 4 * a2 + 1) ((q_0a2ee6f8f ha2))
  have h_25 := ir_s_g hI_21 hs (j := 4 * a3 + 1) ((q_0a2ee6f8f ha3))
  refine q_aload_n c_53_94 rfl (q_iload_n c_53_95 rfl (q_iload c_53_96 rfl (q_iload c_53_98 rfl (q_aload_n c_53_100 rfl (q_iload_n c_53_101 rfl (q_iload c_53_102 rfl (v_cv c_53_104 km_4_34 rfl (ck_sh hs) (by omega) ⟨⟨rfl, rfl⟩, of_decide_eq_true rfl, rfl⟩ (Nat.le_of_ble_eq_true rfl) (Nat.le_of_ble_eq_true rfl) (s_45 (v1 := c_20 s (4 * a2 + 1)) (r := c_20 s (4 * a2 + 1)) (a1 := a2) (a2 := 1) hI_21 hs (show 0 ≤ a2 ∧ a2 ≤ 5 from ha2) (show 0 ≤ 1 ∧ 1 ≤ 3 from ⟨of_decide_eq_true rfl, of_decide_eq_true rfl⟩) (rfl) (by omega) ?_))))))))
  refine bk_inl ?_
  have kn_26 : Hid (c_20 s (4 * a4 + 1) = w1) := (hF_22 s (4 * a4 + 1) (fun q => q.elim (fun h => absurd h.2 ((q_0f4cbf258 hq1))) (fun q => q.elim (fun h => absurd h.2 ((q_0f4cbf258 hq2))) (fun h => absurd h.2 (ne_l ((q_8f2481ba6 ha3 ha4))))))).trans (hv11)
  have h_27 : c_20 s (4 * a4 + 1) = w1 := (hid kn_26)
  refine v_cv c_53_107 km_4_85 rfl (ck_sh hs) (by omega) ⟨⟨rfl, rfl⟩, of_decide_eq_true rfl, rfl⟩ (Nat.le_of_ble_eq_true rfl) (Nat.le_of_ble_eq_true rfl) (s_52 (a1 := a2) (a2 := a4) (a3 := 1) (a4 := c_20 s (4 * a2 + 1)) hI_21 hs (show 0 ≤ a2 ∧ a2 ≤ 5 from ha2) (show 0 ≤ a4 ∧ a4 ≤ 5 from ha4) (show 0 ≤ 1 ∧ 1 ≤ 3 from ⟨of_decide_eq_true rfl, of_decide_eq_true rfl⟩) (show 0 ≤ c_20 s (4 * a2 + 1) ∧ c_20 s (4 * a2 + 1) ≤ 9999 from h_24) (by omega) ((q_e074ea49a)) (by first | (clear ha1 ha2 ha3 ha4 hq3 hq5 h_1 hv0 h_2 hv1 h_3 hv2 h_4 hv3 h_5 hv4 h_6 hv5 h_7 hv6 h_8 hv7 h_9 hv8 h_10 hv9 h_12 hv11 h_15 h_24 h_25 hq0 hq1 hq2; omega) | omega) (fun c_28 hI_29 hF_30 h_31 => (bk_inl ?_)))
  have h_32 := ir_s_g hI_29 hs (j := 4 * a2 + 1) ((q_0a2ee6f8f ha2))
  have h_33 := ir_s_g hI_29 hs (j := 4 * a4 + 1) ((q_0a2ee6f8f ha4))
  refine v_iinc (v := 2) c_53_110 rfl (Nat.le_of_ble_eq_true rfl) (of_decide_eq_true rfl) (q_goto (t := 68) c_53_113 rfl ?_)
  have kn_34 : Hid (c_20 (P + 3) a1 = v1) := (hF_22 (P + 3) a1 (by omega)).trans (hv0)
  have kn_35 : Hid (c_28 (P + 3) a1 = v1) := (hF_30 (P + 3) a1 (by omega)).trans (hid kn_34)
  have kn_36 : Hid (c_20 s 30 = v2) := (hF_22 s 30 (fun q => q.elim (fun h => absurd h.2 (ne_g ((q_22d8600d4 ha2)))) (fun q => q.elim (fun h => absurd h.2 (ne_g ((q_22d8600d4 ha3)))) (fun h => absurd h.2 (ne_g ((q_3b49164d8 ha3))))))).trans (hv1)
  have kn_37 : Hid (c_28 s 30 = v2) := (hF_30 s 30 (fun q => q.elim (fun h => absurd h.2 (ne_g ((q_22d8600d4 ha2)))) (fun q => q.elim (fun h => absurd h.2 (ne_g ((q_22d8600d4 ha4)))) (fun h => absurd h.2 (ne_g ((q_3b49164d8 ha4))))))).trans (hid kn_36)
  have kn_38 : Hid (c_20 s (4 * a2) = x0) := (hF_22 s (4 * a2) (fun q => q.elim (fun h => absurd h.2 (ne_l ((q_4994d6793)))) (fun q => q.elim (fun h => absurd h.2 ((q_b2cb8bf87))) (fun h => absurd h.2 (ne_l ((q_2b13428e8 ha2 ha3))))))).trans (hv2)
  have kn_39 : Hid (c_28 s (4 * a2) = x0) := (hF_30 s (4 * a2) (fun q => q.elim (fun h => absurd h.2 (ne_l ((q_4994d6793)))) (fun q => q.elim (fun h => absurd h.2 ((q_b2cb8bf87))) (fun h => absurd h.2 (ne_l ((q_2b13428e8 ha2 ha4))))))).trans (hid kn_38)
  have kn_40 : Hid (c_20 s (4 * a2 + 2) = x2) := (hF_22 s (4 * a2 + 2) (fun q => q.elim (fun h => absurd h.2 (ne_g ((q_af9ea9c7d)))) (fun q => q.elim (fun h => absurd h.2 ((q_08c3d7060))) (fun h => absurd h.2 (ne_l ((q_428481d46 ha2 ha3))))))).trans (hv4)
  have kn_41 : Hid (c_28 s (4 * a2 + 2) = x2) := (hF_30 s (4 * a2 + 2) (fun q => q.elim (fun h => absurd h.2 (ne_g ((q_af9ea9c7d)))) (fun q => q.elim (fun h => absurd h.2 ((q_08c3d7060))) (fun h => absurd h.2 (ne_l ((q_428481d46 ha2 ha4))))))).trans (hid kn_40)
  have kn_42 : Hid (c_20 s (4 * a2 + 3) = x3) := (hF_22 s (4 * a2 + 3) (fun q => q.elim (fun h => absurd h.2 (ne_g ((q_4e2243c37)))) (fun q => q.elim (fun h => absurd h.2 ((q_6d5c6886e))) (fun h => absurd h.2 (ne_l ((q_2771393a8 ha2 ha3))))))).trans (hv5)
  have kn_43 : Hid (c_28 s (4 * a2 + 3) = x3) := (hF_30 s (4 * a2 + 3) (fun q => q.elim (fun h => absurd h.2 (ne_g ((q_4e2243c37)))) (fun q => q.elim (fun h => absurd h.2 ((q_6d5c6886e))) (fun h => absurd h.2 (ne_l ((q_2771393a8 ha2 ha4))))))).trans (hid kn_42)
  have kn_44 : Hid (c_20 s (4 * a3) = u0) := (hF_22 s (4 * a3) (fun q => q.elim (fun h => absurd h.2 ((q_b2cb8bf87))) (fun q => q.elim (fun h => absurd h.2 (ne_l ((q_4994d6793)))) (fun h => absurd h.2 (ne_l ((q_788f4b81f ha3))))))).trans (hv6)
  have kn_45 : Hid (c_28 s (4 * a3) = u0) := (hF_30 s (4 * a3) (fun q => q.elim (fun h => absurd h.2 ((q_b2cb8bf87))) (fun q => q.elim (fun h => absurd h.2 ((q_b2cb8bf87))) (fun h => absurd h.2 (ne_l ((q_2b13428e8 ha3 ha4))))))).trans (hid kn_44)
  have kn_46 : Hid (c_28 s (4 * a3 + 1) = c_20 s (4 * a3 + 1)) := hF_30 s (4 * a3 + 1) (fun q => q.elim (fun h => absurd h.2 ((q_0f4cbf258 hq0))) (fun q => q.elim (fun h => absurd h.2 ((q_fd7998cba hq2))) (fun h => absurd h.2 (ne_l ((q_3178328df ha3 ha4))))))
  have kn_47 : Hid (c_20 s (4 * a3 + 2) = u2) := (hF_22 s (4 * a3 + 2) (fun q => q.elim (fun h => absurd h.2 ((q_08c3d7060))) (fun q => q.elim (fun h => absurd h.2 (ne_g ((q_af9ea9c7d)))) (fun h => absurd h.2 (ne_l ((q_27ec1b4d7 ha3))))))).trans (hv8)
  have kn_48 : Hid (c_28 s (4 * a3 + 2) = u2) := (hF_30 s (4 * a3 + 2) (fun q => q.elim (fun h => absurd h.2 ((q_08c3d7060))) (fun q => q.elim (fun h => absurd h.2 ((q_08c3d7060))) (fun h => absurd h.2 (ne_l ((q_428481d46 ha3 ha4))))))).trans (hid kn_47)
  have kn_49 : Hid (c_20 s (4 * a3 + 3) = u3) := (hF_22 s (4 * a3 + 3) (fun q => q.elim (fun h => absurd h.2 ((q_6d5c6886e))) (fun q => q.elim (fun h => absurd h.2 (ne_g ((q_4e2243c37)))) (fun h => absurd h.2 (ne_l ((q_fd9aac8f8 ha3))))))).trans (hv9)
  have kn_50 : Hid (c_28 s (4 * a3 + 3) = u3) := (hF_30 s (4 * a3 + 3) (fun q => q.elim (fun h => absurd h.2 ((q_6d5c6886e))) (fun q => q.elim (fun h => absurd h.2 ((q_6d5c6886e))) (fun h => absurd h.2 (ne_l ((q_2771393a8 ha3 ha4))))))).trans (hid kn_49)
  have kn_51 : Hid (c_20 s (4 * a4) = w0) := (hF_22 s (4 * a4) (fun q => q.elim (fun h => absurd h.2 ((q_b2cb8bf87))) (fun q => q.elim (fun h => absurd h.2 ((q_b2cb8bf87))) (fun h => absurd h.2 (ne_l ((q_4128697c9 ha3 ha4))))))).trans (hv10)
  have kn_52 : Hid (c_28 s (4 * a4) = w0) := (hF_30 s (4 * a4) (fun q => q.elim (fun h => absurd h.2 ((q_b2cb8bf87))) (fun q => q.elim (fun h => absurd h.2 (ne_l ((q_4994d6793)))) (fun h => absurd h.2 (ne_l ((q_788f4b81f ha4))))))).trans (hid kn_51)
  have kn_53 : Hid (c_20 s (4 * a4 + 2) = w2) := (hF_22 s (4 * a4 + 2) (fun q => q.elim (fun h => absurd h.2 ((q_08c3d7060))) (fun q => q.elim (fun h => absurd h.2 ((q_08c3d7060))) (fun h => absurd h.2 (ne_l ((q_04ab4010a ha3 ha4))))))).trans (hv12)
  have kn_54 : Hid (c_28 s (4 * a4 + 2) = w2) := (hF_30 s (4 * a4 + 2) (fun q => q.elim (fun h => absurd h.2 ((q_08c3d7060))) (fun q => q.elim (fun h => absurd h.2 (ne_g ((q_af9ea9c7d)))) (fun h => absurd h.2 (ne_l ((q_27ec1b4d7 ha4))))))).trans (hid kn_53)
  have kn_55 : Hid (c_20 s (4 * a4 + 3) = w3) := (hF_22 s (4 * a4 + 3) (fun q => q.elim (fun h => absurd h.2 ((q_6d5c6886e))) (fun q => q.elim (fun h => absurd h.2 ((q_6d5c6886e))) (fun h => absurd h.2 (ne_l ((q_e782b8c3c ha3 ha4))))))).trans (hv13)
  have kn_56 : Hid (c_28 s (4 * a4 + 3) = w3) := (hF_30 s (4 * a4 + 3) (fun q => q.elim (fun h => absurd h.2 ((q_6d5c6886e))) (fun q => q.elim (fun h => absurd h.2 (ne_g ((q_4e2243c37)))) (fun h => absurd h.2 (ne_l ((q_fd9aac8f8 ha4))))))).trans (hid kn_55)
  have hqo_57 : ∀ j : Int, rs s j → ¬ j = 4 * a2 → ¬ j = 4 * a3 → ¬ j = 4 * a4 → c_28 s j + c_28 s (j + 1) + c_28 s (j + 2) + c_28 s (j + 3) ≤ 9999 := by
    intro j9 hj9 hz0 hz1 hz2
    obtain ⟨k9, rfl, hk9⟩ := rs_s hs hj9
    have h_58 := hqo (4 * k9) hj9 (by omega) (by omega) (by omega)
    have h_59 := ir_s_g hI hs (j := 4 * k9) ((q_9f1d5ffdc hk9))
    have kn_60 : Hid (c_20 s (4 * k9) = c s (4 * k9)) := hF_22 s (4 * k9) (fun q => q.elim (fun h => absurd h.2 ((q_b2cb8bf87))) (fun q => q.elim (fun h => absurd h.2 ((q_b2cb8bf87))) (fun h => absurd h.2 (ne_l ((q_4128697c9 ha3 hk9))))))
    have kn_61 : Hid (c_28 s (4 * k9) = c s (4 * k9)) := (hF_30 s (4 * k9) (fun q => q.elim (fun h => absurd h.2 ((q_b2cb8bf87))) (fun q => q.elim (fun h => absurd h.2 ((q_b2cb8bf87))) (fun h => absurd h.2 (ne_l ((q_4128697c9 ha4 hk9))))))).trans (hid kn_60)
    have h_62 : c_28 s (4 * k9) = c s (4 * k9) := (hid kn_61)
    have h_63 := ir_s_g hI hs (j := 4 * k9 + 1) ((q_0a2ee6f8f hk9))
    have kn_64 : Hid (c_20 s (4 * k9 + 1) = c s (4 * k9 + 1)) := hF_22 s (4 * k9 + 1) (fun q => q.elim (fun h => absurd h.2 (by first | (clear ha1 ha2 ha3 ha4 hq3 hq4 hq5 h_1 hv0 h_2 hv1 h_3 hv2 h_4 hv3 h_5 hv4 h_6 hv5 h_7 hv6 h_8 hv7 h_9 hv8 h_10 hv9 h_11 hv10 h_12 hv11 h_13 hv12 h_14 hv13 h_15 h_16 h_17 h_24 h_25 h_23 h_32 h_33 h_31 hk9 h_59 h_63 hq0 hq1 hq2; omega) | omega)) (fun q => q.elim (fun h => absurd h.2 (by first | (clear ha1 ha2 ha3 ha4 hq3 hq4 hq5 h_1 hv0 h_2 hv1 h_3 hv2 h_4 hv3 h_5 hv4 h_6 hv5 h_7 hv6 h_8 hv7 h_9 hv8 h_10 hv9 h_11 hv10 h_12 hv11 h_13 hv12 h_14 hv13 h_15 h_16 h_17 h_24 h_25 h_23 h_32 h_33 h_31 hk9 h_59 h_63 hq0 hq1 hq2; omega) | omega)) (fun h => absurd h.2 (ne_l ((q_8f2481ba6 ha3 hk9))))))
    have kn_65 : Hid (c_28 s (4 * k9 + 1) = c s (4 * k9 + 1)) := (hF_30 s (4 * k9 + 1) (fun q => q.elim (fun h => absurd h.2 (by first | (clear ha1 ha2 ha3 ha4 hq3 hq4 hq5 h_1 hv0 h_2 hv1 h_3 hv2 h_4 hv3 h_5 hv4 h_6 hv5 h_7 hv6 h_8 hv7 h_9 hv8 h_10 hv9 h_11 hv10 h_12 hv11 h_13 hv12 h_14 hv13 h_15 h_16 h_17 h_24 h_25 h_23 h_32 h_33 h_31 hk9 h_59 h_63 hq0 hq1 hq2; omega) | omega)) (fun q => q.elim (fun h => absurd h.2 (by first | (clear ha1 ha2 ha3 ha4 hq3 hq4 hq5 h_1 hv0 h_2 hv1 h_3 hv2 h_4 hv3 h_5 hv4 h_6 hv5 h_7 hv6 h_8 hv7 h_9 hv8 h_10 hv9 h_11 hv10 h_12 hv11 h_13 hv12 h_14 hv13 h_15 h_16 h_17 h_24 h_25 h_23 h_32 h_33 h_31 hk9 h_59 h_63 hq0 hq1 hq2; omega) | omega)) (fun h => absurd h.2 (ne_l ((q_8f2481ba6 ha4 hk9))))))).trans (hid kn_64)
    have h_66 : c_28 s (4 * k9 + 1) = c s (4 * k9 + 1) := (hid kn_65)
    have h_67 := ir_s_g hI hs (j := 4 * k9 + 2) ((q_e07a293a2 hk9))
    have kn_68 : Hid (c_20 s (4 * k9 + 2) = c s (4 * k9 + 2)) := hF_22 s (4 * k9 + 2) (fun q => q.elim (fun h => absurd h.2 ((q_08c3d7060))) (fun q => q.elim (fun h => absurd h.2 ((q_08c3d7060))) (fun h => absurd h.2 (ne_l ((q_04ab4010a ha3 hk9))))))
    have kn_69 : Hid (c_28 s (4 * k9 + 2) = c s (4 * k9 + 2)) := (hF_30 s (4 * k9 + 2) (fun q => q.elim (fun h => absurd h.2 ((q_08c3d7060))) (fun q => q.elim (fun h => absurd h.2 ((q_08c3d7060))) (fun h => absurd h.2 (ne_l ((q_04ab4010a ha4 hk9))))))).trans (hid kn_68)
    have h_70 : c_28 s (4 * k9 + 2) = c s (4 * k9 + 2) := (hid kn_69)
    have h_71 := ir_s_g hI hs (j := 4 * k9 + 3) ((q_d09cb0b73 hk9))
    have kn_72 : Hid (c_20 s (4 * k9 + 3) = c s (4 * k9 + 3)) := hF_22 s (4 * k9 + 3) (fun q => q.elim (fun h => absurd h.2 ((q_6d5c6886e))) (fun q => q.elim (fun h => absurd h.2 ((q_6d5c6886e))) (fun h => absurd h.2 (ne_l ((q_e782b8c3c ha3 hk9))))))
    have kn_73 : Hid (c_28 s (4 * k9 + 3) = c s (4 * k9 + 3)) := (hF_30 s (4 * k9 + 3) (fun q => q.elim (fun h => absurd h.2 ((q_6d5c6886e))) (fun q => q.elim (fun h => absurd h.2 ((q_6d5c6886e))) (fun h => absurd h.2 (ne_l ((q_e782b8c3c ha4 hk9))))))).trans (hid kn_72)
    have h_74 : c_28 s (4 * k9 + 3) = c s (4 * k9 + 3) := (hid kn_73)
    omega
  refine Wp_ls [(0, .ref sh), (1, vi a1), (2, vi a2), (3, vi a3), (4, vi a4), (7, vi 2)] (lsub_cons rfl (lsub_cons rfl (lsub_cons rfl (lsub_cons rfl (lsub_cons rfl (lsub_cons rfl lsub_nil)))))) ?_
  exact s_53_2 (v1 := v1) (v2 := v2) (x0 := x0) (x1 := c_28 s (4 * a2 + 1)) (x2 := x2) (x3 := x3) (u0 := u0) (u1 := c_20 s (4 * a3 + 1)) (u2 := u2) (u3 := u3) (w0 := w0) (w1 := c_28 s (4 * a4 + 1)) (w2 := w2) (w3 := w3) hI_29 hs (by omega) (by omega) (by omega) (by omega) (by omega) (by omega) (by omega) (by omega) (by omega) (by omega) (by omega) hqo_57 ((hid kn_35)) ((hid kn_37)) ((hid kn_39)) rfl ((hid kn_41)) ((hid kn_43)) ((hid kn_45)) ((hid kn_46)) ((hid kn_48)) ((hid kn_50)) ((hid kn_52)) rfl ((hid kn_54)) ((hid kn_56)) (fun c9 y9 hI9 hF9 hy9 => K c9 y9 hI9 (fun a j hm => (hF9 a j (by omega)).trans ((hF_30 a j (by omega)).trans (hF_22 a j (by omega)))) hy9)
set_option maxRecDepth 100000 in
set_option maxHeartbeats 4000000 in
theorem s_53_0 {sc : List Int32} {d P Q sh s : Nat} {c : ME} {v1 v2 x0 x1 x2 x3 u0 u1 u2 u3 w0 w1 w2 w3 : Int} {a1 : Int} {a2 : Int} {a3 : Int} {a4 : Int} {Z : AR → Prop} (hI : Iv s (-1) P Q c) (hs : (sh = 37 ∧ s = 38) ∨ (sh = 39 ∧ s = 40)) (ha1 : 0 ≤ a1 ∧ a1 ≤ 3) (ha2 : 0 ≤ a2 ∧ a2 ≤ 5) (ha3 : 0 ≤ a3 ∧ a3 ≤ 5) (ha4 : 0 ≤ a4 ∧ a4 ≤ 5) (hq0 : (a2 < a3) ∨ (a2 > a3)) (hq1 : (a2 < a4) ∨ (a2 > a4)) (hq2 : (a3 < a4) ∨ (a3 > a4)) (hq3 : ((fal v1 (tb v2 a1) 0 x0) + (fal v1 (tb v2 a1) 1 x1) + (fal v1 (tb v2 a1) 2 x2) + (fal v1 (tb v2 a1) 3 x3) + u0 + u1 + u2 + u3 ≤ 9999)) (hq4 : (w0 + w1 + w2 + w3 + x0 + x1 + x2 + x3 - (fal v1 (tb v2 a1) 0 x0) - (fal v1 (tb v2 a1) 1 x1) - (fal v1 (tb v2 a1) 2 x2) - (fal v1 (tb v2 a1) 3 x3) ≤ 9999)) (hq5 : ∀ j : Int, rs s j → ¬ j = 4 * a2 → ¬ j = 4 * a3 → ¬ j = 4 * a4 → c s j + c s (j + 1) + c s (j + 2) + c s (j + 3) ≤ 9999) (hv0 : c (P + 3) a1 = v1) (hv1 : c s 30 = v2) (hv2 : c s (4 * a2) = x0) (hv3 : c s (4 * a2 + 1) = x1) (hv4 : c s (4 * a2 + 2) = x2) (hv5 : c s (4 * a2 + 3) = x3) (hv6 : c s (4 * a3) = u0) (hv7 : c s (4 * a3 + 1) = u1) (hv8 : c s (4 * a3 + 2) = u2) (hv9 : c s (4 * a3 + 3) = u3) (hv10 : c s (4 * a4) = w0) (hv11 : c s (4 * a4 + 1) = w1) (hv12 : c s (4 * a4 + 2) = w2) (hv13 : c s (4 * a4 + 3) = w3) (K : ∀ (c2 : ME) (y : Int), Iv 0 (-1) P Q c2 → (∀ (a : Nat) (j : Int), ¬ (a = s) → c2 a j = c a j) → 0 ≤ y ∧ y ≤ 1 → Z (.inl (some (vi y)), Wd P Q P P c2, 0, 0)) : Wp sc (d + 11) 53 68 [(0, .ref sh), (1, vi a1), (2, vi a2), (3, vi a3), (4, vi a4), (7, vi 0)] [] (Wd P Q P P c) 0 0 Z := by
  have hP := iv_P hI
  have hQ := iv_Q hI
  have h_1 := ir_p3 hI hP a1
  have h_2 := ir_s hI hs 30
  have h_3 := ir_s_g hI hs (j := 4 * a2) ((q_9f1d5ffdc ha2))
  have h_4 := ir_s_g hI hs (j := 4 * a2 + 1) ((q_0a2ee6f8f ha2))
  have h_5 := ir_s_g hI hs (j := 4 * a2 + 2) ((q_e07a293a2 ha2))
  have h_6 := ir_s_g hI hs (j := 4 * a2 + 3) ((q_d09cb0b73 ha2))
  have h_7 := ir_s_g hI hs (j := 4 * a3) ((q_9f1d5ffdc ha3))
  have h_8 := ir_s_g hI hs (j := 4 * a3 + 1) ((q_0a2ee6f8f ha3))
  have h_9 := ir_s_g hI hs (j := 4 * a3 + 2) ((q_e07a293a2 ha3))
  have h_10 := ir_s_g hI hs (j := 4 * a3 + 3) ((q_d09cb0b73 ha3))
  have h_11 := ir_s_g hI hs (j := 4 * a4) ((q_9f1d5ffdc ha4))
  have h_12 := ir_s_g hI hs (j := 4 * a4 + 1) ((q_0a2ee6f8f ha4))
  have h_13 := ir_s_g hI hs (j := 4 * a4 + 2) ((q_e07a293a2 ha4))
  have h_14 := ir_s_g hI hs (j := 4 * a4 + 3) ((q_d09cb0b73 ha4))
  have hqo := hq5
  have h_15 := fal_rng (m := v1) (t := tb v2 a1) (g := 0) (x := x0) (by omega)
  have h_16 := fal_rng (m := v1) (t := tb v2 a1) (g := 1) (x := x1) (by omega)
  have h_17 := fal_rng (m := v1) (t := tb v2 a1) (g := 2) (x := x2) (by omega)
  have h_18 := fal_rng (m := v1) (t := tb v2 a1) (g := 3) (x := x3) (by omega)
  refine q_iload c_53_68 rfl (q_iconst c_53_70 (v_ic_ge_f (t := 116) c_53_71 rfl (of_decide_eq_true rfl) (q_aload_n c_53_74 rfl (q_iload_n c_53_75 rfl (q_iload_n c_53_76 rfl (q_iload c_53_77 rfl (v_cv c_53_79 km_4_69 rfl (ck_sh hs) (by omega) ⟨⟨rfl, rfl⟩, of_decide_eq_true rfl, rfl⟩ (Nat.le_of_ble_eq_true rfl) (Nat.le_of_ble_eq_true rfl) (s_48 (v1 := v1) (v2 := v2) (v3 := x0) (r := (fal v1 (tb v2 a1) 0 x0)) (a1 := a1) (a2 := a2) (a3 := 0) hI hs (show 0 ≤ a1 ∧ a1 ≤ 3 from ha1) (show 0 ≤ a2 ∧ a2 ≤ 5 from ha2) (show 0 ≤ 0 ∧ 0 ≤ 3 from ⟨of_decide_eq_true rfl, of_decide_eq_true rfl⟩) ((hv0)) ((hv1)) ((congrArg (c s) (show 4 * a2 + 0 = 4 * a2 from by first | exact q_8baad3eb5 | assumption | exact Int.le_antisymm (by omega) (by omega))).trans (hv2)) rfl ?_))))))))
  refine bk_inl (q_istore c_53_82 (Nat.le_of_ble_eq_true rfl) (q_aload_n c_53_84 rfl (q_iload_n c_53_85 rfl (q_iload_n c_53_86 rfl (q_iload c_53_87 rfl (q_iload c_53_89 rfl ?_))))))
  have h_19 : c s (4 * a2) = x0 := (hv2)
  have h_20 : c s (4 * a2 + 0) = x0 := (congrArg (c s) (by first | assumption | exact Int.le_antisymm (by omega) (by omega))).trans (hv2)
  have h_21 : c s (4 * a3) = u0 := (hv6)
  have h_22 : c s (4 * a3 + 0) = u0 := (congrArg (c s) (by first | assumption | exact Int.le_antisymm (by omega) (by omega))).trans (hv6)
  refine v_cv c_53_91 km_4_85 rfl (ck_sh hs) (by omega) ⟨⟨rfl, rfl⟩, of_decide_eq_true rfl, rfl⟩ (Nat.le_of_ble_eq_true rfl) (Nat.le_of_ble_eq_true rfl) (s_52 (a1 := a2) (a2 := a3) (a3 := 0) (a4 := (fal v1 (tb v2 a1) 0 x0)) hI hs (show 0 ≤ a2 ∧ a2 ≤ 5 from ha2) (show 0 ≤ a3 ∧ a3 ≤ 5 from ha3) (show 0 ≤ 0 ∧ 0 ≤ 3 from ⟨of_decide_eq_true rfl, of_decide_eq_true rfl⟩) (show 0 ≤ (fal v1 (tb v2 a1) 0 x0) ∧ (fal v1 (tb v2 a1) 0 x0) ≤ 9999 from ⟨(q_47ff97009 h_15), by first | (clear ha1 ha2 ha3 ha4 hq3 hq4 h_1 hv0 h_2 hv1 h_4 hv3 h_5 hv4 h_6 hv5 h_7 hv6 h_8 hv7 h_9 hv8 h_10 hv9 h_11 hv10 h_12 hv11 h_13 hv12 h_14 hv13 h_16 h_17 h_18 hq0 hq1 hq2; omega) | omega⟩) (by omega) ((q_b76125d36 h_15)) (by first | (clear ha1 ha2 ha3 ha4 hq4 h_1 hv0 h_2 hv1 h_3 hv2 h_4 hv3 h_5 hv4 h_6 hv5 h_7 hv6 h_11 hv10 h_12 hv11 h_13 hv12 h_14 hv13 h_15 hq0 hq1 hq2; omega) | omega) (fun c_23 hI_24 hF_25 h_26 => (bk_inl ?_)))
  have h_27 : c_23 s (4 * a2 + 0) = c_23 s (4 * a2) := congrArg (c_23 s) (by first | exact q_8baad3eb5 | assumption | exact Int.le_antisymm ((q_79744aec6)) ((q_79744aec6)))
  have h_28 := ir_s_g hI_24 hs (j := 4 * a2) ((q_9f1d5ffdc ha2))
  have h_29 : c_23 s (4 * a3 + 0) = c_23 s (4 * a3) := congrArg (c_23 s) (by first | exact q_8baad3eb5 | assumption | exact Int.le_antisymm ((q_79744aec6)) ((q_79744aec6)))
  have h_30 := ir_s_g hI_24 hs (j := 4 * a3) ((q_9f1d5ffdc ha3))
  refine q_aload_n c_53_94 rfl (q_iload_n c_53_95 rfl (q_iload c_53_96 rfl (q_iload c_53_98 rfl (q_aload_n c_53_100 rfl (q_iload_n c_53_101 rfl (q_iload c_53_102 rfl (v_cv c_53_104 km_4_34 rfl (ck_sh hs) (by omega) ⟨⟨rfl, rfl⟩, of_decide_eq_true rfl, rfl⟩ (Nat.le_of_ble_eq_true rfl) (Nat.le_of_ble_eq_true rfl) (s_45 (v1 := c_23 s (4 * a2)) (r := c_23 s (4 * a2)) (a1 := a2) (a2 := 0) hI_24 hs (show 0 ≤ a2 ∧ a2 ≤ 5 from ha2) (show 0 ≤ 0 ∧ 0 ≤ 3 from ⟨of_decide_eq_true rfl, of_decide_eq_true rfl⟩) ((congrArg (c_23 s) (show 4 * a2 + 0 = 4 * a2 from by first | exact q_8baad3eb5 | assumption | exact Int.le_antisymm (by omega) (by omega)))) (by omega) ?_))))))))
  refine bk_inl ?_
  have h_31 : c_23 s (4 * a2 + 0) = c_23 s (4 * a2) := (congrArg (c_23 s) (by first | assumption | exact Int.le_antisymm (by omega) (by omega))).trans rfl
  have kn_32 : Hid (c_23 s (4 * a4) = w0) := (hF_25 s (4 * a4) (fun q => q.elim (fun h => absurd h.2 ((q_b46fb41fd hq1))) (fun q => q.elim (fun h => absurd h.2 ((q_b46fb41fd hq2))) (fun h => absurd h.2 (ne_l ((q_4128697c9 ha3 ha4))))))).trans (hv10)
  have h_33 : c_23 s (4 * a4) = w0 := (hid kn_32)
  have h_34 : c_23 s (4 * a4 + 0) = w0 := (congrArg (c_23 s) (by first | assumption | exact Int.le_antisymm (by omega) (by omega))).trans (hid kn_32)
  refine v_cv c_53_107 km_4_85 rfl (ck_sh hs) (by omega) ⟨⟨rfl, rfl⟩, of_decide_eq_true rfl, rfl⟩ (Nat.le_of_ble_eq_true rfl) (Nat.le_of_ble_eq_true rfl) (s_52 (a1 := a2) (a2 := a4) (a3 := 0) (a4 := c_23 s (4 * a2)) hI_24 hs (show 0 ≤ a2 ∧ a2 ≤ 5 from ha2) (show 0 ≤ a4 ∧ a4 ≤ 5 from ha4) (show 0 ≤ 0 ∧ 0 ≤ 3 from ⟨of_decide_eq_true rfl, of_decide_eq_true rfl⟩) (show 0 ≤ c_23 s (4 * a2) ∧ c_23 s (4 * a2) ≤ 9999 from h_28) (by omega) ((q_e074ea49a)) (by first | (clear ha1 ha2 ha3 ha4 hq3 h_1 hv0 h_2 hv1 h_3 hv2 h_4 hv3 h_5 hv4 h_6 hv5 h_7 hv6 h_8 hv7 h_9 hv8 h_10 hv9 h_11 hv10 h_15 h_28 h_30 hq0 hq1 hq2; omega) | omega) (fun c_35 hI_36 hF_37 h_38 => (bk_inl ?_)))
  have h_39 : c_35 s (4 * a2 + 0) = c_35 s (4 * a2) := congrArg (c_35 s) (by first | exact q_8baad3eb5 | assumption | exact Int.le_antisymm ((q_79744aec6)) ((q_79744aec6)))
  have h_40 := ir_s_g hI_36 hs (j := 4 * a2) ((q_9f1d5ffdc ha2))
  have h_41 : c_35 s (4 * a4 + 0) = c_35 s (4 * a4) := congrArg (c_35 s) (by first | exact q_8baad3eb5 | assumption | exact Int.le_antisymm ((q_79744aec6)) ((q_79744aec6)))
  have h_42 := ir_s_g hI_36 hs (j := 4 * a4) ((q_9f1d5ffdc ha4))
  refine v_iinc (v := 1) c_53_110 rfl (Nat.le_of_ble_eq_true rfl) (of_decide_eq_true rfl) (q_goto (t := 68) c_53_113 rfl ?_)
  have kn_43 : Hid (c_23 (P + 3) a1 = v1) := (hF_25 (P + 3) a1 (by omega)).trans (hv0)
  have kn_44 : Hid (c_35 (P + 3) a1 = v1) := (hF_37 (P + 3) a1 (by omega)).trans (hid kn_43)
  have kn_45 : Hid (c_23 s 30 = v2) := (hF_25 s 30 (fun q => q.elim (fun h => absurd h.2 (ne_g ((q_745b05ed0 ha2)))) (fun q => q.elim (fun h => absurd h.2 (ne_g ((q_745b05ed0 ha3)))) (fun h => absurd h.2 (ne_g ((q_3b49164d8 ha3))))))).trans (hv1)
  have kn_46 : Hid (c_35 s 30 = v2) := (hF_37 s 30 (fun q => q.elim (fun h => absurd h.2 (ne_g ((q_745b05ed0 ha2)))) (fun q => q.elim (fun h => absurd h.2 (ne_g ((q_745b05ed0 ha4)))) (fun h => absurd h.2 (ne_g ((q_3b49164d8 ha4))))))).trans (hid kn_45)
  have kn_47 : Hid (c_23 s (4 * a2 + 1) = x1) := (hF_25 s (4 * a2 + 1) (fun q => q.elim (fun h => absurd h.2 (ne_g ((q_4994d6793)))) (fun q => q.elim (fun h => absurd h.2 ((q_e5bcc673e))) (fun h => absurd h.2 (ne_l ((q_3178328df ha2 ha3))))))).trans (hv3)
  have kn_48 : Hid (c_35 s (4 * a2 + 1) = x1) := (hF_37 s (4 * a2 + 1) (fun q => q.elim (fun h => absurd h.2 (ne_g ((q_4994d6793)))) (fun q => q.elim (fun h => absurd h.2 ((q_e5bcc673e))) (fun h => absurd h.2 (ne_l ((q_3178328df ha2 ha4))))))).trans (hid kn_47)
  have kn_49 : Hid (c_23 s (4 * a2 + 2) = x2) := (hF_25 s (4 * a2 + 2) (fun q => q.elim (fun h => absurd h.2 (ne_g ((q_1cdd15b2c)))) (fun q => q.elim (fun h => absurd h.2 ((q_ae83e86ba))) (fun h => absurd h.2 (ne_l ((q_428481d46 ha2 ha3))))))).trans (hv4)
  have kn_50 : Hid (c_35 s (4 * a2 + 2) = x2) := (hF_37 s (4 * a2 + 2) (fun q => q.elim (fun h => absurd h.2 (ne_g ((q_1cdd15b2c)))) (fun q => q.elim (fun h => absurd h.2 ((q_ae83e86ba))) (fun h => absurd h.2 (ne_l ((q_428481d46 ha2 ha4))))))).trans (hid kn_49)
  have kn_51 : Hid (c_23 s (4 * a2 + 3) = x3) := (hF_25 s (4 * a2 + 3) (fun q => q.elim (fun h => absurd h.2 (ne_g ((q_fb9abb0e1)))) (fun q => q.elim (fun h => absurd h.2 ((q_b6789388a))) (fun h => absurd h.2 (ne_l ((q_2771393a8 ha2 ha3))))))).trans (hv5)
  have kn_52 : Hid (c_35 s (4 * a2 + 3) = x3) := (hF_37 s (4 * a2 + 3) (fun q => q.elim (fun h => absurd h.2 (ne_g ((q_fb9abb0e1)))) (fun q => q.elim (fun h => absurd h.2 ((q_b6789388a))) (fun h => absurd h.2 (ne_l ((q_2771393a8 ha2 ha4))))))).trans (hid kn_51)
  have kn_53 : Hid (c_35 s (4 * a3) = c_23 s (4 * a3)) := hF_37 s (4 * a3) (fun q => q.elim (fun h => absurd h.2 ((q_b46fb41fd hq0))) (fun q => q.elim (fun h => absurd h.2 ((q_02cacb151 hq2))) (fun h => absurd h.2 (ne_l ((q_2b13428e8 ha3 ha4))))))
  have kn_54 : Hid (c_23 s (4 * a3 + 1) = u1) := (hF_25 s (4 * a3 + 1) (fun q => q.elim (fun h => absurd h.2 ((q_e5bcc673e))) (fun q => q.elim (fun h => absurd h.2 (ne_g ((q_4994d6793)))) (fun h => absurd h.2 (ne_l ((q_60c9feeee ha3))))))).trans (hv7)
  have kn_55 : Hid (c_35 s (4 * a3 + 1) = u1) := (hF_37 s (4 * a3 + 1) (fun q => q.elim (fun h => absurd h.2 ((q_e5bcc673e))) (fun q => q.elim (fun h => absurd h.2 ((q_e5bcc673e))) (fun h => absurd h.2 (ne_l ((q_3178328df ha3 ha4))))))).trans (hid kn_54)
  have kn_56 : Hid (c_23 s (4 * a3 + 2) = u2) := (hF_25 s (4 * a3 + 2) (fun q => q.elim (fun h => absurd h.2 ((q_ae83e86ba))) (fun q => q.elim (fun h => absurd h.2 (ne_g ((q_1cdd15b2c)))) (fun h => absurd h.2 (ne_l ((q_27ec1b4d7 ha3))))))).trans (hv8)
  have kn_57 : Hid (c_35 s (4 * a3 + 2) = u2) := (hF_37 s (4 * a3 + 2) (fun q => q.elim (fun h => absurd h.2 ((q_ae83e86ba))) (fun q => q.elim (fun h => absurd h.2 ((q_ae83e86ba))) (fun h => absurd h.2 (ne_l ((q_428481d46 ha3 ha4))))))).trans (hid kn_56)
  have kn_58 : Hid (c_23 s (4 * a3 + 3) = u3) := (hF_25 s (4 * a3 + 3) (fun q => q.elim (fun h => absurd h.2 ((q_b6789388a))) (fun q => q.elim (fun h => absurd h.2 (ne_g ((q_fb9abb0e1)))) (fun h => absurd h.2 (ne_l ((q_fd9aac8f8 ha3))))))).trans (hv9)
  have kn_59 : Hid (c_35 s (4 * a3 + 3) = u3) := (hF_37 s (4 * a3 + 3) (fun q => q.elim (fun h => absurd h.2 ((q_b6789388a))) (fun q => q.elim (fun h => absurd h.2 ((q_b6789388a))) (fun h => absurd h.2 (ne_l ((q_2771393a8 ha3 ha4))))))).trans (hid kn_58)
  have kn_60 : Hid (c_23 s (4 * a4 + 1) = w1) := (hF_25 s (4 * a4 + 1) (fun q => q.elim (fun h => absurd h.2 ((q_e5bcc673e))) (fun q => q.elim (fun h => absurd h.2 ((q_e5bcc673e))) (fun h => absurd h.2 (ne_l ((q_8f2481ba6 ha3 ha4))))))).trans (hv11)
  have kn_61 : Hid (c_35 s (4 * a4 + 1) = w1) := (hF_37 s (4 * a4 + 1) (fun q => q.elim (fun h => absurd h.2 ((q_e5bcc673e))) (fun q => q.elim (fun h => absurd h.2 (ne_g ((q_4994d6793)))) (fun h => absurd h.2 (ne_l ((q_60c9feeee ha4))))))).trans (hid kn_60)
  have kn_62 : Hid (c_23 s (4 * a4 + 2) = w2) := (hF_25 s (4 * a4 + 2) (fun q => q.elim (fun h => absurd h.2 ((q_ae83e86ba))) (fun q => q.elim (fun h => absurd h.2 ((q_ae83e86ba))) (fun h => absurd h.2 (ne_l ((q_04ab4010a ha3 ha4))))))).trans (hv12)
  have kn_63 : Hid (c_35 s (4 * a4 + 2) = w2) := (hF_37 s (4 * a4 + 2) (fun q => q.elim (fun h => absurd h.2 ((q_ae83e86ba))) (fun q => q.elim (fun h => absurd h.2 (ne_g ((q_1cdd15b2c)))) (fun h => absurd h.2 (ne_l ((q_27ec1b4d7 ha4))))))).trans (hid kn_62)
  have kn_64 : Hid (c_23 s (4 * a4 + 3) = w3) := (hF_25 s (4 * a4 + 3) (fun q => q.elim (fun h => absurd h.2 ((q_b6789388a))) (fun q => q.elim (fun h => absurd h.2 ((q_b6789388a))) (fun h => absurd h.2 (ne_l ((q_e782b8c3c ha3 ha4))))))).trans (hv13)
  have kn_65 : Hid (c_35 s (4 * a4 + 3) = w3) := (hF_37 s (4 * a4 + 3) (fun q => q.elim (fun h => absurd h.2 ((q_b6789388a))) (fun q => q.elim (fun h => absurd h.2 (ne_g ((q_fb9abb0e1)))) (fun h => absurd h.2 (ne_l ((q_fd9aac8f8 ha4))))))).trans (hid kn_64)
  have hqo_66 : ∀ j : Int, rs s j → ¬ j = 4 * a2 → ¬ j = 4 * a3 → ¬ j = 4 * a4 → c_35 s j + c_35 s (j + 1) + c_35 s (j + 2) + c_35 s (j + 3) ≤ 9999 := by
    intro j9 hj9 hz0 hz1 hz2
    obtain ⟨k9, rfl, hk9⟩ := rs_s hs hj9
    have h_67 := hqo (4 * k9) hj9 (by omega) (by omega) (by omega)
    have h_68 := ir_s_g hI hs (j := 4 * k9) ((q_9f1d5ffdc hk9))
    have kn_69 : Hid (c_23 s (4 * k9) = c s (4 * k9)) := hF_25 s (4 * k9) (fun q => q.elim (fun h => absurd h.2 (by first | (clear ha1 ha2 ha3 ha4 hq3 hq4 h_1 hv0 h_2 hv1 h_3 hv2 h_4 hv3 h_5 hv4 h_6 hv5 h_7 hv6 h_8 hv7 h_9 hv8 h_10 hv9 h_11 hv10 h_12 hv11 h_13 hv12 h_14 hv13 h_15 h_16 h_17 h_18 h_28 h_30 h_26 h_40 h_42 h_38 hk9 h_68 hq0 hq1 hq2; omega) | omega)) (fun q => q.elim (fun h => absurd h.2 (by first | (clear ha1 ha2 ha3 ha4 hq3 hq4 h_1 hv0 h_2 hv1 h_3 hv2 h_4 hv3 h_5 hv4 h_6 hv5 h_7 hv6 h_8 hv7 h_9 hv8 h_10 hv9 h_11 hv10 h_12 hv11 h_13 hv12 h_14 hv13 h_15 h_16 h_17 h_18 h_28 h_30 h_26 h_40 h_42 h_38 hk9 h_68 hq0 hq1 hq2; omega) | omega)) (fun h => absurd h.2 (ne_l ((q_4128697c9 ha3 hk9))))))
    have kn_70 : Hid (c_35 s (4 * k9) = c s (4 * k9)) := (hF_37 s (4 * k9) (fun q => q.elim (fun h => absurd h.2 (by first | (clear ha1 ha2 ha3 ha4 hq3 hq4 h_1 hv0 h_2 hv1 h_3 hv2 h_4 hv3 h_5 hv4 h_6 hv5 h_7 hv6 h_8 hv7 h_9 hv8 h_10 hv9 h_11 hv10 h_12 hv11 h_13 hv12 h_14 hv13 h_15 h_16 h_17 h_18 h_28 h_30 h_26 h_40 h_42 h_38 hk9 h_68 hq0 hq1 hq2; omega) | omega)) (fun q => q.elim (fun h => absurd h.2 (by first | (clear ha1 ha2 ha3 ha4 hq3 hq4 h_1 hv0 h_2 hv1 h_3 hv2 h_4 hv3 h_5 hv4 h_6 hv5 h_7 hv6 h_8 hv7 h_9 hv8 h_10 hv9 h_11 hv10 h_12 hv11 h_13 hv12 h_14 hv13 h_15 h_16 h_17 h_18 h_28 h_30 h_26 h_40 h_42 h_38 hk9 h_68 hq0 hq1 hq2; omega) | omega)) (fun h => absurd h.2 (ne_l ((q_4128697c9 ha4 hk9))))))).trans (hid kn_69)
    have h_71 : c_35 s (4 * k9) = c s (4 * k9) := (hid kn_70)
    have h_72 := ir_s_g hI hs (j := 4 * k9 + 1) ((q_0a2ee6f8f hk9))
    have kn_73 : Hid (c_23 s (4 * k9 + 1) = c s (4 * k9 + 1)) := hF_25 s (4 * k9 + 1) (fun q => q.elim (fun h => absurd h.2 ((q_e5bcc673e))) (fun q => q.elim (fun h => absurd h.2 ((q_e5bcc673e))) (fun h => absurd h.2 (ne_l ((q_8f2481ba6 ha3 hk9))))))
    have kn_74 : Hid (c_35 s (4 * k9 + 1) = c s (4 * k9 + 1)) := (hF_37 s (4 * k9 + 1) (fun q => q.elim (fun h => absurd h.2 ((q_e5bcc673e))) (fun q => q.elim (fun h => absurd h.2 ((q_e5bcc673e))) (fun h => absurd h.2 (ne_l ((q_8f2481ba6 ha4 hk9))))))).trans (hid kn_73)
    have h_75 : c_35 s (4 * k9 + 1) = c s (4 * k9 + 1) := (hid kn_74)
    have h_76 := ir_s_g hI hs (j := 4 * k9 + 2) ((q_e07a293a2 hk9))
    have kn_77 : Hid (c_23 s (4 * k9 + 2) = c s (4 * k9 + 2)) := hF_25 s (4 * k9 + 2) (fun q => q.elim (fun h => absurd h.2 ((q_ae83e86ba))) (fun q => q.elim (fun h => absurd h.2 ((q_ae83e86ba))) (fun h => absurd h.2 (ne_l ((q_04ab4010a ha3 hk9))))))
    have kn_78 : Hid (c_35 s (4 * k9 + 2) = c s (4 * k9 + 2)) := (hF_37 s (4 * k9 + 2) (fun q => q.elim (fun h => absurd h.2 ((q_ae83e86ba))) (fun q => q.elim (fun h => absurd h.2 ((q_ae83e86ba))) (fun h => absurd h.2 (ne_l ((q_04ab4010a ha4 hk9))))))).trans (hid kn_77)
    have h_79 : c_35 s (4 * k9 + 2) = c s (4 * k9 + 2) := (hid kn_78)
    have h_80 := ir_s_g hI hs (j := 4 * k9 + 3) ((q_d09cb0b73 hk9))
    have kn_81 : Hid (c_23 s (4 * k9 + 3) = c s (4 * k9 + 3)) := hF_25 s (4 * k9 + 3) (fun q => q.elim (fun h => absurd h.2 ((q_b6789388a))) (fun q => q.elim (fun h => absurd h.2 ((q_b6789388a))) (fun h => absurd h.2 (ne_l ((q_e782b8c3c ha3 hk9))))))
    have kn_82 : Hid (c_35 s (4 * k9 + 3) = c s (4 * k9 + 3)) := (hF_37 s (4 * k9 + 3) (fun q => q.elim (fun h => absurd h.2 ((q_b6789388a))) (fun q => q.elim (fun h => absurd h.2 ((q_b6789388a))) (fun h => absurd h.2 (ne_l ((q_e782b8c3c ha4 hk9))))))).trans (hid kn_81)
    have h_83 : c_35 s (4 * k9 + 3) = c s (4 * k9 + 3) := (hid kn_82)
    omega
  refine Wp_ls [(0, .ref sh), (1, vi a1), (2, vi a2), (3, vi a3), (4, vi a4), (7, vi 1)] (lsub_cons rfl (lsub_cons rfl (lsub_cons rfl (lsub_cons rfl (lsub_cons rfl (lsub_cons rfl lsub_nil)))))) ?_
  exact s_53_1 (v1 := v1) (v2 := v2) (x0 := c_35 s (4 * a2)) (x1 := x1) (x2 := x2) (x3 := x3) (u0 := c_23 s (4 * a3)) (u1 := u1) (u2 := u2) (u3 := u3) (w0 := c_35 s (4 * a4)) (w1 := w1) (w2 := w2) (w3 := w3) hI_36 hs (by omega) (by omega) (by omega) (by omega) (by omega) (by omega) (by omega) (by omega) (by omega) (by omega) hqo_66 ((hid kn_44)) ((hid kn_46)) rfl ((hid kn_48)) ((hid kn_50)) ((hid kn_52)) ((hid kn_53)) ((hid kn_55)) ((hid kn_57)) ((hid kn_59)) rfl ((hid kn_61)) ((hid kn_63)) ((hid kn_65)) (fun c9 y9 hI9 hF9 hy9 => K c9 y9 hI9 (fun a j hm => (hF9 a j (by omega)).trans ((hF_37 a j (by omega)).trans (hF_25 a j (by omega)))) hy9)
set_option maxRecDepth 100000 in
set_option maxHeartbeats 4000000 in
theorem s_53 {sc : List Int32} {d P Q sh s : Nat} {c : ME} {a1 : Int} {a2 : Int} {a3 : Int} {a4 : Int} {Z : AR → Prop} (hI : Iv 0 (-1) P Q c) (hs : (sh = 37 ∧ s = 38) ∨ (sh = 39 ∧ s = 40)) (ha1 : 0 ≤ a1 ∧ a1 ≤ 3) (ha2 : 0 ≤ a2 ∧ a2 ≤ 5) (ha3 : 0 ≤ a3 ∧ a3 ≤ 5) (ha4 : 0 ≤ a4 ∧ a4 ≤ 5) (K : ∀ (c2 : ME) (y : Int), Iv 0 (-1) P Q c2 → (∀ (a : Nat) (j : Int), ¬ (a = s) → c2 a j = c a j) → 0 ≤ y ∧ y ≤ 1 → Z (.inl (some (vi y)), Wd P Q P P c2, 0, 0)) : Wp sc (d + 11) 53 0 [(0, .ref sh), (1, vi a1), (2, vi a2), (3, vi a3), (4, vi a4)] [] (Wd P Q P P c) 0 0 Z := by
  have hP := iv_P hI
  have hQ := iv_Q hI
  have hIo : Iv s (-1) P Q c := iv_open hI
  have hsum_1 := ir_s_r hI hs (by omega) (j := a2) (by omega)
  have h_2 := ir_s_g hI hs (j := 4 * a2) ((q_9f1d5ffdc ha2))
  have h_3 := ir_s_g hI hs (j := 4 * a2 + 1) ((q_0a2ee6f8f ha2))
  have h_4 := ir_s_g hI hs (j := 4 * a2 + 2) ((q_e07a293a2 ha2))
  have h_5 := ir_s_g hI hs (j := 4 * a2 + 3) ((q_d09cb0b73 ha2))
  have hsum_6 := ir_s_r hI hs (by omega) (j := a3) (by omega)
  have h_7 := ir_s_g hI hs (j := 4 * a3) ((q_9f1d5ffdc ha3))
  have h_8 := ir_s_g hI hs (j := 4 * a3 + 1) ((q_0a2ee6f8f ha3))
  have h_9 := ir_s_g hI hs (j := 4 * a3 + 2) ((q_e07a293a2 ha3))
  have h_10 := ir_s_g hI hs (j := 4 * a3 + 3) ((q_d09cb0b73 ha3))
  have hsum_11 := ir_s_r hI hs (by omega) (j := a4) (by omega)
  have h_12 := ir_s_g hI hs (j := 4 * a4) ((q_9f1d5ffdc ha4))
  have h_13 := ir_s_g hI hs (j := 4 * a4 + 1) ((q_0a2ee6f8f ha4))
  have h_14 := ir_s_g hI hs (j := 4 * a4 + 2) ((q_e07a293a2 ha4))
  have h_15 := ir_s_g hI hs (j := 4 * a4 + 3) ((q_d09cb0b73 ha4))
  refine q_iload_n c_53_0 rfl (q_iload_n c_53_1 rfl ?_)
  by_cases h_16 : a2 = a3
  · refine v_ic_eq_t (t := 17) c_53_2 rfl h_16 (q_iconst c_53_17 (v_zret c_53_18 rfl (of_decide_eq_true rfl) ?_))
    have hr_17 : ∀ j : Int, rs s j → c s j + c s (j + 1) + c s (j + 2) + c s (j + 3) ≤ 9999 := by
      intro j9 hj9
      obtain ⟨k9, rfl, hk9⟩ := rs_s hs hj9
      by_cases e_18 : k9 = a2
      · skip
        have h_19 : c s (4 * k9) = c s (4 * a2) := (congrArg (c s) (show 4 * k9 = 4 * a2 from by omega))
        have h_20 : c s (4 * k9 + 1) = c s (4 * a2 + 1) := (congrArg (c s) (show 4 * k9 + 1 = 4 * a2 + 1 from by omega))
        have h_21 : c s (4 * k9 + 2) = c s (4 * a2 + 2) := (congrArg (c s) (show 4 * k9 + 2 = 4 * a2 + 2 from by omega))
        have h_22 : c s (4 * k9 + 3) = c s (4 * a2 + 3) := (congrArg (c s) (show 4 * k9 + 3 = 4 * a2 + 3 from by omega))
        omega
      by_cases e_23 : k9 = a3
      · skip
        have h_24 : c s (4 * k9) = c s (4 * a3) := (congrArg (c s) (show 4 * k9 = 4 * a3 from by omega))
        have h_25 : c s (4 * k9 + 1) = c s (4 * a3 + 1) := (congrArg (c s) (show 4 * k9 + 1 = 4 * a3 + 1 from by omega))
        have h_26 : c s (4 * k9 + 2) = c s (4 * a3 + 2) := (congrArg (c s) (show 4 * k9 + 2 = 4 * a3 + 2 from by omega))
        have h_27 : c s (4 * k9 + 3) = c s (4 * a3 + 3) := (congrArg (c s) (show 4 * k9 + 3 = 4 * a3 + 3 from by omega))
        omega
      by_cases e_28 : k9 = a4
      · skip
        have h_29 : c s (4 * k9) = c s (4 * a4) := (congrArg (c s) (show 4 * k9 = 4 * a4 from by omega))
        have h_30 : c s (4 * k9 + 1) = c s (4 * a4 + 1) := (congrArg (c s) (show 4 * k9 + 1 = 4 * a4 + 1 from by omega))
        have h_31 : c s (4 * k9 + 2) = c s (4 * a4 + 2) := (congrArg (c s) (show 4 * k9 + 2 = 4 * a4 + 2 from by omega))
        have h_32 : c s (4 * k9 + 3) = c s (4 * a4 + 3) := (congrArg (c s) (show 4 * k9 + 3 = 4 * a4 + 3 from by omega))
        omega
      have h_33 := iv_r hI s (4 * k9) hj9 (by omega)
      have h_34 := ir_s_g hI hs (j := 4 * k9) ((q_9f1d5ffdc hk9))
      have h_35 : c s (4 * k9) = c s (4 * k9) := rfl
      have h_36 := ir_s_g hI hs (j := 4 * k9 + 1) ((q_0a2ee6f8f hk9))
      have h_37 : c s (4 * k9 + 1) = c s (4 * k9 + 1) := rfl
      have h_38 := ir_s_g hI hs (j := 4 * k9 + 2) ((q_e07a293a2 hk9))
      have h_39 : c s (4 * k9 + 2) = c s (4 * k9 + 2) := rfl
      have h_40 := ir_s_g hI hs (j := 4 * k9 + 3) ((q_d09cb0b73 hk9))
      have h_41 : c s (4 * k9 + 3) = c s (4 * k9 + 3) := rfl
      omega
    have hI_42 := iv_close hIo hr_17
    exact K c 0 hI_42 (fun a j hm => rfl) ⟨of_decide_eq_true rfl, of_decide_eq_true rfl⟩
  · refine v_ic_eq_f (t := 17) c_53_2 rfl ⟨h_16, ⟨(lel ha2.1 rfl), (ler ha2.2 rfl)⟩, (lel ha3.1 rfl), (ler ha3.2 rfl)⟩ (q_iload_n c_53_5 rfl (q_iload c_53_6 rfl ?_))
    by_cases h_43 : a2 = a4
    · refine v_ic_eq_t (t := 17) c_53_8 rfl h_43 (q_iconst c_53_17 (v_zret c_53_18 rfl (of_decide_eq_true rfl) ?_))
      have hr_44 : ∀ j : Int, rs s j → c s j + c s (j + 1) + c s (j + 2) + c s (j + 3) ≤ 9999 := by
        intro j9 hj9
        obtain ⟨k9, rfl, hk9⟩ := rs_s hs hj9
        by_cases e_45 : k9 = a2
        · skip
          have h_46 : c s (4 * k9) = c s (4 * a2) := (congrArg (c s) (show 4 * k9 = 4 * a2 from by first | assumption | exact Int.le_antisymm (by omega) (by omega)))
          have h_47 : c s (4 * k9 + 1) = c s (4 * a2 + 1) := (congrArg (c s) (show 4 * k9 + 1 = 4 * a2 + 1 from by first | assumption | exact Int.le_antisymm (by omega) (by omega)))
          have h_48 : c s (4 * k9 + 2) = c s (4 * a2 + 2) := (congrArg (c s) (show 4 * k9 + 2 = 4 * a2 + 2 from by first | assumption | exact Int.le_antisymm (by omega) (by omega)))
          have h_49 : c s (4 * k9 + 3) = c s (4 * a2 + 3) := (congrArg (c s) (show 4 * k9 + 3 = 4 * a2 + 3 from by first | assumption | exact Int.le_antisymm (by omega) (by omega)))
          omega
        by_cases e_50 : k9 = a3
        · skip
          have h_51 : c s (4 * k9) = c s (4 * a3) := (congrArg (c s) (show 4 * k9 = 4 * a3 from by first | assumption | exact Int.le_antisymm (by omega) (by omega)))
          have h_52 : c s (4 * k9 + 1) = c s (4 * a3 + 1) := (congrArg (c s) (show 4 * k9 + 1 = 4 * a3 + 1 from by first | assumption | exact Int.le_antisymm (by omega) (by omega)))
          have h_53 : c s (4 * k9 + 2) = c s (4 * a3 + 2) := (congrArg (c s) (show 4 * k9 + 2 = 4 * a3 + 2 from by first | assumption | exact Int.le_antisymm (by omega) (by omega)))
          have h_54 : c s (4 * k9 + 3) = c s (4 * a3 + 3) := (congrArg (c s) (show 4 * k9 + 3 = 4 * a3 + 3 from by first | assumption | exact Int.le_antisymm (by omega) (by omega)))
          omega
        by_cases e_55 : k9 = a4
        · skip
          have h_56 : c s (4 * k9) = c s (4 * a4) := (congrArg (c s) (show 4 * k9 = 4 * a4 from by first | assumption | exact Int.le_antisymm (by omega) (by omega)))
          have h_57 : c s (4 * k9 + 1) = c s (4 * a4 + 1) := (congrArg (c s) (show 4 * k9 + 1 = 4 * a4 + 1 from by first | assumption | exact Int.le_antisymm (by omega) (by omega)))
          have h_58 : c s (4 * k9 + 2) = c s (4 * a4 + 2) := (congrArg (c s) (show 4 * k9 + 2 = 4 * a4 + 2 from by first | assumption | exact Int.le_antisymm (by omega) (by omega)))
          have h_59 : c s (4 * k9 + 3) = c s (4 * a4 + 3) := (congrArg (c s) (show 4 * k9 + 3 = 4 * a4 + 3 from by first | assumption | exact Int.le_antisymm (by omega) (by omega)))
          omega
        have h_60 := iv_r hI s (4 * k9) hj9 (by omega)
        have h_61 := ir_s_g hI hs (j := 4 * k9) ((q_9f1d5ffdc hk9))
        have h_62 : c s (4 * k9) = c s (4 * k9) := rfl
        have h_63 := ir_s_g hI hs (j := 4 * k9 + 1) ((q_0a2ee6f8f hk9))
        have h_64 : c s (4 * k9 + 1) = c s (4 * k9 + 1) := rfl
        have h_65 := ir_s_g hI hs (j := 4 * k9 + 2) ((q_e07a293a2 hk9))
        have h_66 : c s (4 * k9 + 2) = c s (4 * k9 + 2) := rfl
        have h_67 := ir_s_g hI hs (j := 4 * k9 + 3) ((q_d09cb0b73 hk9))
        have h_68 : c s (4 * k9 + 3) = c s (4 * k9 + 3) := rfl
        omega
      have hI_69 := iv_close hIo hr_44
      exact K c 0 hI_69 (fun a j hm => rfl) ⟨of_decide_eq_true rfl, of_decide_eq_true rfl⟩
    · refine v_ic_eq_f (t := 17) c_53_8 rfl ⟨h_43, ⟨(lel ha2.1 rfl), (ler ha2.2 rfl)⟩, (lel ha4.1 rfl), (ler ha4.2 rfl)⟩ (q_iload_n c_53_11 rfl (q_iload c_53_12 rfl ?_))
      by_cases h_70 : a3 ≠ a4
      · refine v_ic_ne_t (t := 19) c_53_14 rfl ⟨h_70, ⟨(lel ha3.1 rfl), (ler ha3.2 rfl)⟩, (lel ha4.1 rfl), (ler ha4.2 rfl)⟩ (q_aload_n c_53_19 rfl (q_iload_n c_53_20 rfl (v_cv c_53_21 km_4_38 rfl (ck_sh hs) (by omega) ⟨⟨rfl, rfl⟩, of_decide_eq_true rfl, rfl⟩ (Nat.le_of_ble_eq_true rfl) (Nat.le_of_ble_eq_true rfl) (s_43 (v1 := c s (4 * a2)) (v2 := c s (4 * a2 + 1)) (v3 := c s (4 * a2 + 2)) (v4 := c s (4 * a2 + 3)) (r := c s (4 * a2 + 1) + c s (4 * a2 + 2) + c s (4 * a2 + 3) + c s (4 * a2)) (a1 := a2) hIo hs (show 0 ≤ a2 ∧ a2 ≤ 5 from ha2) (rfl) (rfl) (rfl) (rfl) (by omega) (bk_inl (q_istore c_53_24 (Nat.le_of_ble_eq_true rfl) (q_aload_n c_53_26 rfl (q_iload_n c_53_27 rfl ?_))))))))
        refine q_iload_n c_53_28 rfl ?_
        have h_71 := ir_p3 hI hP a1
        have h_72 := ir_s hI hs 30
        have h_73 := fal_rng (m := c (P + 3) a1) (t := tb (c s 30) a1) (g := 0) (x := c s (4 * a2)) ((q_c6ed8760d h_2))
        have h_74 := fal_rng (m := c (P + 3) a1) (t := tb (c s 30) a1) (g := 1) (x := c s (4 * a2 + 1)) ((q_c6ed8760d h_3))
        have h_75 := fal_rng (m := c (P + 3) a1) (t := tb (c s 30) a1) (g := 2) (x := c s (4 * a2 + 2)) ((q_c6ed8760d h_4))
        have h_76 := fal_rng (m := c (P + 3) a1) (t := tb (c s 30) a1) (g := 3) (x := c s (4 * a2 + 3)) ((q_c6ed8760d h_5))
        refine v_cv c_53_29 km_4_78 rfl (ck_sh hs) (by omega) ⟨⟨rfl, rfl⟩, of_decide_eq_true rfl, rfl⟩ (Nat.le_of_ble_eq_true rfl) (Nat.le_of_ble_eq_true rfl) (s_49 (v1 := c (P + 3) a1) (v2 := c s 30) (v3 := c s (4 * a2)) (v4 := c s (4 * a2 + 1)) (v5 := c s (4 * a2 + 2)) (v6 := c s (4 * a2 + 3)) (r := (fal (c (P + 3) a1) (tb (c s 30) a1) 0 (c s (4 * a2))) + (fal (c (P + 3) a1) (tb (c s 30) a1) 1 (c s (4 * a2 + 1))) + (fal (c (P + 3) a1) (tb (c s 30) a1) 2 (c s (4 * a2 + 2))) + (fal (c (P + 3) a1) (tb (c s 30) a1) 3 (c s (4 * a2 + 3)))) (a1 := a1) (a2 := a2) hIo hs (show 0 ≤ a1 ∧ a1 ≤ 3 from ha1) (show 0 ≤ a2 ∧ a2 ≤ 5 from ha2) (rfl) (rfl) (rfl) (rfl) (rfl) (rfl) rfl (bk_inl (q_istore c_53_32 (Nat.le_of_ble_eq_true rfl) (q_iload c_53_34 rfl ?_))))
        by_cases h_77 : c s (4 * a2 + 1) + c s (4 * a2 + 2) + c s (4 * a2 + 3) + c s (4 * a2) = 0
        · refine v_if_eq_t (t := 63) c_53_36 rfl h_77 (q_iconst c_53_63 (v_zret c_53_64 rfl (of_decide_eq_true rfl) ?_))
          have hr_78 : ∀ j : Int, rs s j → c s j + c s (j + 1) + c s (j + 2) + c s (j + 3) ≤ 9999 := by
            intro j9 hj9
            obtain ⟨k9, rfl, hk9⟩ := rs_s hs hj9
            by_cases e_79 : k9 = a2
            · skip
              have h_80 : c s (4 * k9) = c s (4 * a2) := (congrArg (c s) (show 4 * k9 = 4 * a2 from by first | assumption | exact Int.le_antisymm (by omega) (by omega)))
              have h_81 : c s (4 * k9 + 1) = c s (4 * a2 + 1) := (congrArg (c s) (show 4 * k9 + 1 = 4 * a2 + 1 from by first | assumption | exact Int.le_antisymm (by omega) (by omega)))
              have h_82 : c s (4 * k9 + 2) = c s (4 * a2 + 2) := (congrArg (c s) (show 4 * k9 + 2 = 4 * a2 + 2 from by first | assumption | exact Int.le_antisymm (by omega) (by omega)))
              have h_83 : c s (4 * k9 + 3) = c s (4 * a2 + 3) := (congrArg (c s) (show 4 * k9 + 3 = 4 * a2 + 3 from by first | assumption | exact Int.le_antisymm (by omega) (by omega)))
              omega
            by_cases e_84 : k9 = a3
            · skip
              have h_85 : c s (4 * k9) = c s (4 * a3) := (congrArg (c s) (show 4 * k9 = 4 * a3 from by first | assumption | exact Int.le_antisymm (by omega) (by omega)))
              have h_86 : c s (4 * k9 + 1) = c s (4 * a3 + 1) := (congrArg (c s) (show 4 * k9 + 1 = 4 * a3 + 1 from by first | assumption | exact Int.le_antisymm (by omega) (by omega)))
              have h_87 : c s (4 * k9 + 2) = c s (4 * a3 + 2) := (congrArg (c s) (show 4 * k9 + 2 = 4 * a3 + 2 from by first | assumption | exact Int.le_antisymm (by omega) (by omega)))
              have h_88 : c s (4 * k9 + 3) = c s (4 * a3 + 3) := (congrArg (c s) (show 4 * k9 + 3 = 4 * a3 + 3 from by first | assumption | exact Int.le_antisymm (by omega) (by omega)))
              omega
            by_cases e_89 : k9 = a4
            · skip
              have h_90 : c s (4 * k9) = c s (4 * a4) := (congrArg (c s) (show 4 * k9 = 4 * a4 from by first | assumption | exact Int.le_antisymm (by omega) (by omega)))
              have h_91 : c s (4 * k9 + 1) = c s (4 * a4 + 1) := (congrArg (c s) (show 4 * k9 + 1 = 4 * a4 + 1 from by first | assumption | exact Int.le_antisymm (by omega) (by omega)))
              have h_92 : c s (4 * k9 + 2) = c s (4 * a4 + 2) := (congrArg (c s) (show 4 * k9 + 2 = 4 * a4 + 2 from by first | assumption | exact Int.le_antisymm (by omega) (by omega)))
              have h_93 : c s (4 * k9 + 3) = c s (4 * a4 + 3) := (congrArg (c s) (show 4 * k9 + 3 = 4 * a4 + 3 from by first | assumption | exact Int.le_antisymm (by omega) (by omega)))
              omega
            have h_94 := iv_r hI s (4 * k9) hj9 (by omega)
            have h_95 := ir_s_g hI hs (j := 4 * k9) ((q_9f1d5ffdc hk9))
            have h_96 : c s (4 * k9) = c s (4 * k9) := rfl
            have h_97 := ir_s_g hI hs (j := 4 * k9 + 1) ((q_0a2ee6f8f hk9))
            have h_98 : c s (4 * k9 + 1) = c s (4 * k9 + 1) := rfl
            have h_99 := ir_s_g hI hs (j := 4 * k9 + 2) ((q_e07a293a2 hk9))
            have h_100 : c s (4 * k9 + 2) = c s (4 * k9 + 2) := rfl
            have h_101 := ir_s_g hI hs (j := 4 * k9 + 3) ((q_d09cb0b73 hk9))
            have h_102 : c s (4 * k9 + 3) = c s (4 * k9 + 3) := rfl
            omega
          have hI_103 := iv_close hIo hr_78
          exact K c 0 hI_103 (fun a j hm => rfl) ⟨of_decide_eq_true rfl, of_decide_eq_true rfl⟩
        · refine v_if_eq_f (t := 63) c_53_36 rfl ⟨h_77, ⟨(q_e052ef40e h_2 h_3 h_4 h_5), (q_6719c4bfd hsum_1)⟩, of_decide_eq_true rfl, of_decide_eq_true rfl⟩ (q_aload_n c_53_39 rfl (q_iload_n c_53_40 rfl (q_iload c_53_41 rfl (v_cv c_53_43 km_4_81 rfl (ck_sh hs) (by omega) ⟨⟨rfl, rfl⟩, of_decide_eq_true rfl, rfl⟩ (Nat.le_of_ble_eq_true rfl) (Nat.le_of_ble_eq_true rfl) (q_aload_n c_50_0 rfl (q_iload_n c_50_1 rfl (v_cv c_50_2 km_4_38 rfl (ck_sh hs) (by omega) ⟨⟨rfl, rfl⟩, of_decide_eq_true rfl, rfl⟩ (Nat.le_of_ble_eq_true rfl) (Nat.le_of_ble_eq_true rfl) (s_43 (v1 := c s (4 * a3)) (v2 := c s (4 * a3 + 1)) (v3 := c s (4 * a3 + 2)) (v4 := c s (4 * a3 + 3)) (r := c s (4 * a3 + 1) + c s (4 * a3 + 2) + c s (4 * a3 + 3) + c s (4 * a3)) (a1 := a3) hIo hs (show 0 ≤ a3 ∧ a3 ≤ 5 from ha3) (rfl) (rfl) (rfl) (rfl) (by omega) ?_))))))))
          refine bk_inl (q_iload_n c_50_5 rfl (v_iadd (v := (fal (c (P + 3) a1) (tb (c s 30) a1) 0 (c s (4 * a2))) + (fal (c (P + 3) a1) (tb (c s 30) a1) 1 (c s (4 * a2 + 1))) + (fal (c (P + 3) a1) (tb (c s 30) a1) 2 (c s (4 * a2 + 2))) + (fal (c (P + 3) a1) (tb (c s 30) a1) 3 (c s (4 * a2 + 3))) + c s (4 * a3 + 1) + c s (4 * a3 + 2) + c s (4 * a3 + 3) + c s (4 * a3)) rfl (by first | (clear ha1 ha2 ha3 ha4 h_2 h_3 h_4 h_5 hsum_1 h_7 h_8 h_9 h_10 hsum_6 h_12 h_13 h_14 h_15 hsum_11 h_71 h_72 h_73 h_74 h_75 h_76 h_16 h_43 h_70 h_77; omega) | omega) (v_sip c_50_7 (of_decide_eq_true rfl) ?_)))
          by_cases h_104 : (fal (c (P + 3) a1) (tb (c s 30) a1) 0 (c s (4 * a2))) + (fal (c (P + 3) a1) (tb (c s 30) a1) 1 (c s (4 * a2 + 1))) + (fal (c (P + 3) a1) (tb (c s 30) a1) 2 (c s (4 * a2 + 2))) + (fal (c (P + 3) a1) (tb (c s 30) a1) 3 (c s (4 * a2 + 3))) + c s (4 * a3 + 1) + c s (4 * a3 + 2) + c s (4 * a3 + 3) + c s (4 * a3) > 9999
          · refine v_ic_gt_t (t := 17) c_50_10 rfl ⟨of_decide_eq_true rfl, h_104, (q_aef5b7b01 h_73 h_74 h_75 h_76 hsum_1 hsum_6)⟩ (q_iconst c_50_17 (v_zret c_50_18 rfl (of_decide_eq_true rfl) (bk_inl (v_if_eq_t (t := 63) c_53_46 rfl (of_decide_eq_true rfl) (q_iconst c_53_63 (v_zret c_53_64 rfl (of_decide_eq_true rfl) ?_))))))
            have hr_105 : ∀ j : Int, rs s j → c s j + c s (j + 1) + c s (j + 2) + c s (j + 3) ≤ 9999 := by
              intro j9 hj9
              obtain ⟨k9, rfl, hk9⟩ := rs_s hs hj9
              by_cases e_106 : k9 = a2
              · skip
                have h_107 : c s (4 * k9) = c s (4 * a2) := (congrArg (c s) (show 4 * k9 = 4 * a2 from by first | assumption | exact Int.le_antisymm (by omega) (by omega)))
                have h_108 : c s (4 * k9 + 1) = c s (4 * a2 + 1) := (congrArg (c s) (show 4 * k9 + 1 = 4 * a2 + 1 from by first | assumption | exact Int.le_antisymm (by omega) (by omega)))
                have h_109 : c s (4 * k9 + 2) = c s (4 * a2 + 2) := (congrArg (c s) (show 4 * k9 + 2 = 4 * a2 + 2 from by first | assumption | exact Int.le_antisymm (by omega) (by omega)))
                have h_110 : c s (4 * k9 + 3) = c s (4 * a2 + 3) := (congrArg (c s) (show 4 * k9 + 3 = 4 * a2 + 3 from by first | assumption | exact Int.le_antisymm (by omega) (by omega)))
                omega
              by_cases e_111 : k9 = a3
              · skip
                have h_112 : c s (4 * k9) = c s (4 * a3) := (congrArg (c s) (show 4 * k9 = 4 * a3 from by first | assumption | exact Int.le_antisymm (by omega) (by omega)))
                have h_113 : c s (4 * k9 + 1) = c s (4 * a3 + 1) := (congrArg (c s) (show 4 * k9 + 1 = 4 * a3 + 1 from by first | assumption | exact Int.le_antisymm (by omega) (by omega)))
                have h_114 : c s (4 * k9 + 2) = c s (4 * a3 + 2) := (congrArg (c s) (show 4 * k9 + 2 = 4 * a3 + 2 from by first | assumption | exact Int.le_antisymm (by omega) (by omega)))
                have h_115 : c s (4 * k9 + 3) = c s (4 * a3 + 3) := (congrArg (c s) (show 4 * k9 + 3 = 4 * a3 + 3 from by first | assumption | exact Int.le_antisymm (by omega) (by omega)))
                omega
              by_cases e_116 : k9 = a4
              · skip
                have h_117 : c s (4 * k9) = c s (4 * a4) := (congrArg (c s) (show 4 * k9 = 4 * a4 from by first | assumption | exact Int.le_antisymm (by omega) (by omega)))
                have h_118 : c s (4 * k9 + 1) = c s (4 * a4 + 1) := (congrArg (c s) (show 4 * k9 + 1 = 4 * a4 + 1 from by first | assumption | exact Int.le_antisymm (by omega) (by omega)))
                have h_119 : c s (4 * k9 + 2) = c s (4 * a4 + 2) := (congrArg (c s) (show 4 * k9 + 2 = 4 * a4 + 2 from by first | assumption | exact Int.le_antisymm (by omega) (by omega)))
                have h_120 : c s (4 * k9 + 3) = c s (4 * a4 + 3) := (congrArg (c s) (show 4 * k9 + 3 = 4 * a4 + 3 from by first | assumption | exact Int.le_antisymm (by omega) (by omega)))
                omega
              have h_121 := iv_r hI s (4 * k9) hj9 (by omega)
              have h_122 := ir_s_g hI hs (j := 4 * k9) ((q_9f1d5ffdc hk9))
              have h_123 : c s (4 * k9) = c s (4 * k9) := rfl
              have h_124 := ir_s_g hI hs (j := 4 * k9 + 1) ((q_0a2ee6f8f hk9))
              have h_125 : c s (4 * k9 + 1) = c s (4 * k9 + 1) := rfl
              have h_126 := ir_s_g hI hs (j := 4 * k9 + 2) ((q_e07a293a2 hk9))
              have h_127 : c s (4 * k9 + 2) = c s (4 * k9 + 2) := rfl
              have h_128 := ir_s_g hI hs (j := 4 * k9 + 3) ((q_d09cb0b73 hk9))
              have h_129 : c s (4 * k9 + 3) = c s (4 * k9 + 3) := rfl
              omega
            have hI_130 := iv_close hIo hr_105
            exact K c 0 hI_130 (fun a j hm => rfl) ⟨of_decide_eq_true rfl, of_decide_eq_true rfl⟩
          · refine v_ic_gt_f (t := 17) c_50_10 rfl ⟨(q_f541d2cca h_10 h_7 h_73 h_74 h_75 h_76 h_8 h_9), (Int.not_lt.mp h_104), of_decide_eq_true rfl⟩ (q_iconst c_50_13 (q_goto (t := 18) c_50_14 rfl (v_zret c_50_18 rfl (of_decide_eq_true rfl) (bk_inl (v_if_eq_f (t := 63) c_53_46 rfl (of_decide_eq_true rfl) (q_aload_n c_53_49 rfl (q_iload c_53_50 rfl ?_)))))))
            refine q_iload c_53_52 rfl (q_iload c_53_54 rfl (v_isub (v := c s (4 * a2 + 1) + c s (4 * a2 + 2) + c s (4 * a2 + 3) + c s (4 * a2) - (fal (c (P + 3) a1) (tb (c s 30) a1) 0 (c s (4 * a2))) - (fal (c (P + 3) a1) (tb (c s 30) a1) 1 (c s (4 * a2 + 1))) - (fal (c (P + 3) a1) (tb (c s 30) a1) 2 (c s (4 * a2 + 2))) - (fal (c (P + 3) a1) (tb (c s 30) a1) 3 (c s (4 * a2 + 3)))) rfl (by first | (clear ha1 ha2 ha3 ha4 h_2 h_3 h_4 h_5 hsum_1 h_7 h_8 h_9 h_10 hsum_6 h_12 h_13 h_14 h_15 hsum_11 h_71 h_72 h_73 h_74 h_75 h_76 h_104 h_16 h_43 h_70 h_77; omega) | omega) (v_cv c_53_57 km_4_81 rfl (ck_sh hs) (by omega) ⟨⟨rfl, rfl⟩, of_decide_eq_true rfl, rfl⟩ (Nat.le_of_ble_eq_true rfl) (Nat.le_of_ble_eq_true rfl) (q_aload_n c_50_0 rfl (q_iload_n c_50_1 rfl (v_cv c_50_2 km_4_38 rfl (ck_sh hs) (by omega) ⟨⟨rfl, rfl⟩, of_decide_eq_true rfl, rfl⟩ (Nat.le_of_ble_eq_true rfl) (Nat.le_of_ble_eq_true rfl) (s_43 (v1 := c s (4 * a4)) (v2 := c s (4 * a4 + 1)) (v3 := c s (4 * a4 + 2)) (v4 := c s (4 * a4 + 3)) (r := c s (4 * a4 + 1) + c s (4 * a4 + 2) + c s (4 * a4 + 3) + c s (4 * a4)) (a1 := a4) hIo hs (show 0 ≤ a4 ∧ a4 ≤ 5 from ha4) (rfl) (rfl) (rfl) (rfl) (by omega) (bk_inl ?_))))))))
            refine q_iload_n c_50_5 rfl (v_iadd (v := c s (4 * a2 + 1) + c s (4 * a2 + 2) + c s (4 * a2 + 3) + c s (4 * a2) + c s (4 * a4 + 1) + c s (4 * a4 + 2) + c s (4 * a4 + 3) + c s (4 * a4) - (fal (c (P + 3) a1) (tb (c s 30) a1) 0 (c s (4 * a2))) - (fal (c (P + 3) a1) (tb (c s 30) a1) 1 (c s (4 * a2 + 1))) - (fal (c (P + 3) a1) (tb (c s 30) a1) 2 (c s (4 * a2 + 2))) - (fal (c (P + 3) a1) (tb (c s 30) a1) 3 (c s (4 * a2 + 3)))) rfl (by first | (clear ha1 ha2 ha3 ha4 h_2 h_3 h_4 h_5 hsum_1 h_7 h_8 h_9 h_10 hsum_6 h_12 h_13 h_14 h_15 hsum_11 h_71 h_72 h_73 h_74 h_75 h_76 h_104 h_16 h_43 h_70 h_77; omega) | omega) (v_sip c_50_7 (of_decide_eq_true rfl) ?_))
            by_cases h_131 : c s (4 * a2 + 1) + c s (4 * a2 + 2) + c s (4 * a2 + 3) + c s (4 * a2) + c s (4 * a4 + 1) + c s (4 * a4 + 2) + c s (4 * a4 + 3) + c s (4 * a4) - (fal (c (P + 3) a1) (tb (c s 30) a1) 0 (c s (4 * a2))) - (fal (c (P + 3) a1) (tb (c s 30) a1) 1 (c s (4 * a2 + 1))) - (fal (c (P + 3) a1) (tb (c s 30) a1) 2 (c s (4 * a2 + 2))) - (fal (c (P + 3) a1) (tb (c s 30) a1) 3 (c s (4 * a2 + 3))) > 9999
            · refine v_ic_gt_t (t := 17) c_50_10 rfl ⟨of_decide_eq_true rfl, h_131, (q_ff5a6990a h_73 h_74 h_75 h_76 hsum_1 hsum_11)⟩ (q_iconst c_50_17 (v_zret c_50_18 rfl (of_decide_eq_true rfl) (bk_inl (v_if_ne_f (t := 65) c_53_60 rfl (of_decide_eq_true rfl) (q_iconst c_53_63 (v_zret c_53_64 rfl (of_decide_eq_true rfl) ?_))))))
              have hr_132 : ∀ j : Int, rs s j → c s j + c s (j + 1) + c s (j + 2) + c s (j + 3) ≤ 9999 := by
                intro j9 hj9
                obtain ⟨k9, rfl, hk9⟩ := rs_s hs hj9
                by_cases e_133 : k9 = a2
                · skip
                  have h_134 : c s (4 * k9) = c s (4 * a2) := (congrArg (c s) (show 4 * k9 = 4 * a2 from by first | assumption | exact Int.le_antisymm (by omega) (by omega)))
                  have h_135 : c s (4 * k9 + 1) = c s (4 * a2 + 1) := (congrArg (c s) (show 4 * k9 + 1 = 4 * a2 + 1 from by first | assumption | exact Int.le_antisymm (by omega) (by omega)))
                  have h_136 : c s (4 * k9 + 2) = c s (4 * a2 + 2) := (congrArg (c s) (show 4 * k9 + 2 = 4 * a2 + 2 from by first | assumption | exact Int.le_antisymm (by omega) (by omega)))
                  have h_137 : c s (4 * k9 + 3) = c s (4 * a2 + 3) := (congrArg (c s) (show 4 * k9 + 3 = 4 * a2 + 3 from by first | assumption | exact Int.le_antisymm (by omega) (by omega)))
                  omega
                by_cases e_138 : k9 = a3
                · skip
                  have h_139 : c s (4 * k9) = c s (4 * a3) := (congrArg (c s) (show 4 * k9 = 4 * a3 from by first | assumption | exact Int.le_antisymm (by omega) (by omega)))
                  have h_140 : c s (4 * k9 + 1) = c s (4 * a3 + 1) := (congrArg (c s) (show 4 * k9 + 1 = 4 * a3 + 1 from by first | assumption | exact Int.le_antisymm (by omega) (by omega)))
                  have h_141 : c s (4 * k9 + 2) = c s (4 * a3 + 2) := (congrArg (c s) (show 4 * k9 + 2 = 4 * a3 + 2 from by first | assumption | exact Int.le_antisymm (by omega) (by omega)))
                  have h_142 : c s (4 * k9 + 3) = c s (4 * a3 + 3) := (congrArg (c s) (show 4 * k9 + 3 = 4 * a3 + 3 from by first | assumption | exact Int.le_antisymm (by omega) (by omega)))
                  omega
                by_cases e_143 : k9 = a4
                · skip
                  have h_144 : c s (4 * k9) = c s (4 * a4) := (congrArg (c s) (show 4 * k9 = 4 * a4 from by first | assumption | exact Int.le_antisymm (by omega) (by omega)))
                  have h_145 : c s (4 * k9 + 1) = c s (4 * a4 + 1) := (congrArg (c s) (show 4 * k9 + 1 = 4 * a4 + 1 from by first | assumption | exact Int.le_antisymm (by omega) (by omega)))
                  have h_146 : c s (4 * k9 + 2) = c s (4 * a4 + 2) := (congrArg (c s) (show 4 * k9 + 2 = 4 * a4 + 2 from by first | assumption | exact Int.le_antisymm (by omega) (by omega)))
                  have h_147 : c s (4 * k9 + 3) = c s (4 * a4 + 3) := (congrArg (c s) (show 4 * k9 + 3 = 4 * a4 + 3 from by first | assumption | exact Int.le_antisymm (by omega) (by omega)))
                  omega
                have h_148 := iv_r hI s (4 * k9) hj9 (by omega)
                have h_149 := ir_s_g hI hs (j := 4 * k9) ((q_9f1d5ffdc hk9))
                have h_150 : c s (4 * k9) = c s (4 * k9) := rfl
                have h_151 := ir_s_g hI hs (j := 4 * k9 + 1) ((q_0a2ee6f8f hk9))
                have h_152 : c s (4 * k9 + 1) = c s (4 * k9 + 1) := rfl
                have h_153 := ir_s_g hI hs (j := 4 * k9 + 2) ((q_e07a293a2 hk9))
                have h_154 : c s (4 * k9 + 2) = c s (4 * k9 + 2) := rfl
                have h_155 := ir_s_g hI hs (j := 4 * k9 + 3) ((q_d09cb0b73 hk9))
                have h_156 : c s (4 * k9 + 3) = c s (4 * k9 + 3) := rfl
                omega
              have hI_157 := iv_close hIo hr_132
              exact K c 0 hI_157 (fun a j hm => rfl) ⟨of_decide_eq_true rfl, of_decide_eq_true rfl⟩
            · refine v_ic_gt_f (t := 17) c_50_10 rfl ⟨(q_79ff189ef h_12 h_13 h_14 h_15 h_73 h_74 h_75 h_76), (Int.not_lt.mp h_131), of_decide_eq_true rfl⟩ (q_iconst c_50_13 (q_goto (t := 18) c_50_14 rfl (v_zret c_50_18 rfl (of_decide_eq_true rfl) (bk_inl (v_if_ne_t (t := 65) c_53_60 rfl (of_decide_eq_true rfl) (q_iconst c_53_65 (q_istore c_53_66 (Nat.le_of_ble_eq_true rfl) ?_)))))))
              have hqo_158 : ∀ j : Int, rs s j → ¬ j = 4 * a2 → ¬ j = 4 * a3 → ¬ j = 4 * a4 → c s j + c s (j + 1) + c s (j + 2) + c s (j + 3) ≤ 9999 := by
                intro j9 hj9 hz0 hz1 hz2
                obtain ⟨k9, rfl, hk9⟩ := rs_s hs hj9
                have h_159 := iv_r hI s (4 * k9) hj9 (by omega)
                have h_160 := ir_s_g hI hs (j := 4 * k9) ((q_9f1d5ffdc hk9))
                have h_161 : c s (4 * k9) = c s (4 * k9) := rfl
                have h_162 := ir_s_g hI hs (j := 4 * k9 + 1) ((q_0a2ee6f8f hk9))
                have h_163 : c s (4 * k9 + 1) = c s (4 * k9 + 1) := rfl
                have h_164 := ir_s_g hI hs (j := 4 * k9 + 2) ((q_e07a293a2 hk9))
                have h_165 : c s (4 * k9 + 2) = c s (4 * k9 + 2) := rfl
                have h_166 := ir_s_g hI hs (j := 4 * k9 + 3) ((q_d09cb0b73 hk9))
                have h_167 : c s (4 * k9 + 3) = c s (4 * k9 + 3) := rfl
                omega
              refine Wp_ls [(0, .ref sh), (1, vi a1), (2, vi a2), (3, vi a3), (4, vi a4), (7, vi 0)] (lsub_cons rfl (lsub_cons rfl (lsub_cons rfl (lsub_cons rfl (lsub_cons rfl (lsub_cons rfl lsub_nil)))))) ?_
              exact s_53_0 (v1 := c (P + 3) a1) (v2 := c s 30) (x0 := c s (4 * a2)) (x1 := c s (4 * a2 + 1)) (x2 := c s (4 * a2 + 2)) (x3 := c s (4 * a2 + 3)) (u0 := c s (4 * a3)) (u1 := c s (4 * a3 + 1)) (u2 := c s (4 * a3 + 2)) (u3 := c s (4 * a3 + 3)) (w0 := c s (4 * a4)) (w1 := c s (4 * a4 + 1)) (w2 := c s (4 * a4 + 2)) (w3 := c s (4 * a4 + 3)) hIo hs (by omega) (by omega) (by omega) (by omega) (by omega) (by omega) (by omega) (by omega) (by omega) hqo_158 rfl rfl rfl rfl rfl rfl rfl rfl rfl rfl rfl rfl rfl rfl (fun c9 y9 hI9 hF9 hy9 => K c9 y9 hI9 (fun a j hm => (hF9 a j (by omega)).trans (rfl)) hy9)
      · refine v_ic_ne_f (t := 19) c_53_14 rfl (Decidable.not_not.mp h_70) (q_iconst c_53_17 (v_zret c_53_18 rfl (of_decide_eq_true rfl) ?_))
        have hr_168 : ∀ j : Int, rs s j → c s j + c s (j + 1) + c s (j + 2) + c s (j + 3) ≤ 9999 := by
          intro j9 hj9
          obtain ⟨k9, rfl, hk9⟩ := rs_s hs hj9
          by_cases e_169 : k9 = a2
          · skip
            have h_170 : c s (4 * k9) = c s (4 * a2) := (congrArg (c s) (show 4 * k9 = 4 * a2 from by first | assumption | exact Int.le_antisymm (by omega) (by omega)))
            have h_171 : c s (4 * k9 + 1) = c s (4 * a2 + 1) := (congrArg (c s) (show 4 * k9 + 1 = 4 * a2 + 1 from by first | assumption | exact Int.le_antisymm (by omega) (by omega)))
            have h_172 : c s (4 * k9 + 2) = c s (4 * a2 + 2) := (congrArg (c s) (show 4 * k9 + 2 = 4 * a2 + 2 from by first | assumption | exact Int.le_antisymm (by omega) (by omega)))
            have h_173 : c s (4 * k9 + 3) = c s (4 * a2 + 3) := (congrArg (c s) (show 4 * k9 + 3 = 4 * a2 + 3 from by first | assumption | exact Int.le_antisymm (by omega) (by omega)))
            omega
          by_cases e_174 : k9 = a3
          · skip
            have h_175 : c s (4 * k9) = c s (4 * a3) := (congrArg (c s) (show 4 * k9 = 4 * a3 from by first | assumption | exact Int.le_antisymm (by omega) (by omega)))
            have h_176 : c s (4 * k9 + 1) = c s (4 * a3 + 1) := (congrArg (c s) (show 4 * k9 + 1 = 4 * a3 + 1 from by first | assumption | exact Int.le_antisymm (by omega) (by omega)))
            have h_177 : c s (4 * k9 + 2) = c s (4 * a3 + 2) := (congrArg (c s) (show 4 * k9 + 2 = 4 * a3 + 2 from by first | assumption | exact Int.le_antisymm (by omega) (by omega)))
            have h_178 : c s (4 * k9 + 3) = c s (4 * a3 + 3) := (congrArg (c s) (show 4 * k9 + 3 = 4 * a3 + 3 from by first | assumption | exact Int.le_antisymm (by omega) (by omega)))
            omega
          by_cases e_179 : k9 = a4
          · skip
            have h_180 : c s (4 * k9) = c s (4 * a4) := (congrArg (c s) (show 4 * k9 = 4 * a4 from by first | assumption | exact Int.le_antisymm (by omega) (by omega)))
            have h_181 : c s (4 * k9 + 1) = c s (4 * a4 + 1) := (congrArg (c s) (show 4 * k9 + 1 = 4 * a4 + 1 from by first | assumption | exact Int.le_antisymm (by omega) (by omega)))
            have h_182 : c s (4 * k9 + 2) = c s (4 * a4 + 2) := (congrArg (c s) (show 4 * k9 + 2 = 4 * a4 + 2 from by first | assumption | exact Int.le_antisymm (by omega) (by omega)))
            have h_183 : c s (4 * k9 + 3) = c s (4 * a4 + 3) := (congrArg (c s) (show 4 * k9 + 3 = 4 * a4 + 3 from by first | assumption | exact Int.le_antisymm (by omega) (by omega)))
            omega
          have h_184 := iv_r hI s (4 * k9) hj9 (by omega)
          have h_185 := ir_s_g hI hs (j := 4 * k9) ((q_9f1d5ffdc hk9))
          have h_186 : c s (4 * k9) = c s (4 * k9) := rfl
          have h_187 := ir_s_g hI hs (j := 4 * k9 + 1) ((q_0a2ee6f8f hk9))
          have h_188 : c s (4 * k9 + 1) = c s (4 * k9 + 1) := rfl
          have h_189 := ir_s_g hI hs (j := 4 * k9 + 2) ((q_e07a293a2 hk9))
          have h_190 : c s (4 * k9 + 2) = c s (4 * k9 + 2) := rfl
          have h_191 := ir_s_g hI hs (j := 4 * k9 + 3) ((q_d09cb0b73 hk9))
          have h_192 : c s (4 * k9 + 3) = c s (4 * k9 + 3) := rfl
          omega
        have hI_193 := iv_close hIo hr_168
        exact K c 0 hI_193 (fun a j hm => rfl) ⟨of_decide_eq_true rfl, of_decide_eq_true rfl⟩

