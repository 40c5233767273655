/-! ===== contracts 13 ===== -/
theorem q_ef26995af {x0 : Int} (f0 : (x0 = (-1))) : x0 = (-1) := by omega
theorem q_b2199921c {x0 x1 x2 x3 x4 x5 x6 : Int} (f0 : (x0 ≥ x1)) (f1 : (x2 ≥ x3)) (f2 : (x4 ≥ x0)) (f3 : (x5 ≥ x4)) (f4 : (x6 ≥ x5)) (f5 : (x3 ≥ x6)) : x1 ≤ x2 := by omega
theorem q_fc5232ffa {x0 x1 x2 x3 x4 x5 x6 x7 x8 x9 x10 x11 x12 : Int} (f0 : (x0 ≤ x1) ∨ (x0 = x2)) (f1 : (x3 ≤ x4) ∨ (x3 = x5)) (f2 : (x6 ≤ x7) ∨ (x6 = x0)) (f3 : (x8 ≤ x9) ∨ (x8 = x6)) (f4 : (x10 ≤ x11) ∨ (x10 = x8)) (f5 : (x5 ≤ x12) ∨ (x5 = x10)) (f6 : (x2 ≤ x1)) (f7 : x4 = x1) (f8 : x7 = x1) (f9 : x9 = x1) (f10 : x11 = x1) (f11 : x12 = x1) : x3 ≤ x1 := by omega
theorem qv_0c9f14c52 {a : Nat} {j : Int} (hm : ¬ ((a = 41 ∧ j = 4) ∨ (a = 41 ∧ j = 5) ∨ (a = 41 ∧ j = 6) ∨ (a = 41 ∧ j = 7) ∨ (a = 41 ∧ j = 29) ∨ a = 50 ∨ a = 51)) : ¬ ((a = 41 ∧ j = 5) ∨ (a = 41 ∧ j = 6)) := (fun q => q.elim (fun h => hm (Or.inr (Or.inl h))) (fun h => hm (Or.inr (Or.inr (Or.inl h)))))
theorem q_fdaccc704 {x0 x1 x2 x3 x4 x5 : Int} (f0 : (x0 ≥ x1)) (f1 : (x2 ≥ x0)) (f2 : (x3 ≥ x2)) (f3 : (x4 ≥ x3)) (f4 : (x5 ≥ x4)) : x1 ≤ x5 := by omega
theorem q_d4f8c5bee {x0 x1 x2 x3 x4 x5 x6 : Int} (f0 : (x0 ≥ x1)) (f1 : (x2 ≥ x0)) (f2 : (x3 ≥ x2)) (f3 : (x4 ≥ x3)) (f4 : (x5 ≥ x4)) : x6 + x1 ≤ x6 + x5 := by omega
theorem q_f38071e10 {x0 x1 x2 x3 : Int} (f0 : (x0 = 0) ∨ (x1 < x2)) (f1 : ¬ (x0 ≠ 441972)) (f2 : x2 = x3) : x1 ≤ x3 := by omega
theorem q_c26d8ce25 {x0 x1 x2 x3 x4 x5 : Int} (f0 : (x0 ≥ x1)) (f1 : (x2 ≥ x0)) (f2 : (x3 ≥ x2)) (f3 : (x4 ≥ x3)) (f4 : (x5 ≤ x1)) : x5 ≤ x4 := by omega
theorem q_b7af7f5c6 {x0 x1 x2 x3 : Int} (f0 : (x0 = 0) ∨ (x1 < x2)) (f1 : ¬ (x0 ≠ 441972)) (f2 : x2 = x3) : x1 ≤ x3 - 1 := by omega
theorem q_b251de6c9 {x0 x1 x2 x3 x4 x5 : Int} (f0 : (x0 ≥ x1)) (f1 : (x2 ≥ x3)) (f2 : (x4 ≥ x0)) (f3 : (x5 ≥ x4)) (f4 : (x3 ≥ x5)) : x1 ≤ x2 := by omega
theorem q_1bb533b1a {x0 x1 x2 : Int} (f0 : (x0 = x1)) (f1 : x1 = x2) : x0 = x2 := by omega
theorem q_f1b148d40 {x0 x1 x2 x3 x4 x5 x6 x7 x8 : Int} (f0 : (x0 ≥ x1)) (f1 : (x2 + x3 ≤ x4 + x5)) (f2 : (x6 ≥ x0)) (f3 : (x7 ≥ x6)) (f4 : (x3 ≥ x7)) (f5 : x5 = x8) : x1 + x2 ≤ x8 + x4 := by omega
theorem q_578fd8ea3 {x0 x1 x2 x3 : Int} (f0 : (x0 = 0) ∨ (x1 < x2)) (f1 : ¬ (x0 ≠ 12748404)) (f2 : x2 = x3) : x1 ≤ x3 := by omega
theorem q_e4cb9442e {x0 x1 x2 x3 x4 : Int} (f0 : (x0 ≥ x1)) (f1 : (x2 ≥ x0)) (f2 : (x3 ≥ x2)) (f3 : (x4 ≤ x1)) : x4 ≤ x3 := by omega
theorem q_79cb9195c {x0 x1 x2 x3 : Int} (f0 : (x0 = 0) ∨ (x1 < x2)) (f1 : ¬ (x0 ≠ 12748404)) (f2 : x2 = x3) : x1 ≤ x3 - 1 := by omega
theorem q_dc73f781e {x0 x1 x2 x3 x4 : Int} (f0 : (x0 ≥ x1)) (f1 : (x2 ≥ x0)) (f2 : (x3 ≥ x4)) (f3 : (x4 ≥ x2)) : x1 ≤ x3 := by omega
theorem q_f2b397259 {x0 x1 x2 x3 x4 x5 x6 x7 : Int} (f0 : (x0 ≥ x1)) (f1 : (x2 ≥ x0)) (f2 : (x3 + x4 ≤ x5 + x6)) (f3 : (x4 ≥ x2)) (f4 : x6 = x7) : x1 + x3 ≤ x7 + x5 := by omega
theorem q_f71f6b032 {x0 x1 x2 x3 x4 x5 x6 : Int} (f0 : (x0 ≥ x1)) (f1 : (x2 ≥ x0)) (f2 : (x3 = 0) ∨ (x2 < x4)) (f3 : x3 > 57) (f4 : (x5 ≤ 150)) (f5 : (x6 ≤ x1)) (f6 : x4 = x5) : x6 ≤ 149 := by omega
theorem q_bd4440b4a {x0 x1 x2 x3 x4 x5 x6 : Int} (f0 : (x0 ≥ x1)) (f1 : (x2 ≥ x0)) (f2 : (x3 ≥ x2)) (f3 : (x4 ≥ x3)) (f4 : (x5 ≥ x4)) (f5 : (x6 ≥ x5)) : x1 ≤ x6 := by omega
theorem q_720c7dc9e {x0 x1 x2 x3 x4 x5 x6 x7 x8 x9 x10 x11 : Int} (f0 : (x0 = 0) ∨ (x1 < x2)) (f1 : x0 > 57) (f2 : (x3 ≤ x4) ∨ (x3 = x1)) (f3 : (x5 ≤ x6) ∨ (x5 = x3)) (f4 : (x7 ≤ x8) ∨ (x7 = x5)) (f5 : (x9 ≤ x10) ∨ (x9 = x7)) (f6 : x2 = x11) (f7 : x4 = x11) (f8 : x6 = x11) (f9 : x8 = x11) (f10 : x10 = x11) : x9 ≤ x11 := by omega
theorem q_476aec965 {x0 x1 x2 x3 x4 x5 x6 x7 x8 : Int} (f0 : (x0 ≥ x1)) (f1 : (x2 ≥ x0)) (f2 : (x3 ≥ x2)) (f3 : (x4 ≥ x3)) (f4 : (x4 + x5 ≤ x6 + x7)) (f5 : x6 = x8) : x1 + x5 ≤ x8 + x7 := by omega
theorem q_da394354d {x0 x1 x2 x3 x4 : Int} (f0 : (x0 ≥ x1)) (f1 : (x2 ≥ x0)) (f2 : (x3 ≥ x2)) (f3 : (x4 ≥ x3)) : x1 ≤ x4 := by omega
theorem q_e592de870 {x0 x1 x2 x3 x4 x5 x6 x7 : Int} (f0 : (x0 ≥ x1)) (f1 : (x2 ≥ x0)) (f2 : (x3 ≥ x2)) (f3 : (x3 + x4 ≤ x5 + x6)) (f4 : x5 = x7) : x1 + x4 ≤ x7 + x6 := by omega
theorem q_fd85bb294 {x0 x1 x2 x3 x4 x5 x6 : Int} (f0 : (x0 ≥ x1)) (f1 : (x2 ≥ x0)) (f2 : (x3 = 0) ∨ (x2 < x4)) (f3 : ¬ (x3 < 48)) (f4 : (x5 ≤ 150)) (f5 : (x6 ≤ x1)) (f6 : x4 = x5) : x6 ≤ 149 := by omega
theorem q_3fb8a741c {x0 x1 x2 x3 : Int} (f0 : (x0 ≥ x1)) (f1 : (x2 ≥ x0)) (f2 : (x3 ≥ x2)) : x1 ≤ x3 := by omega
theorem q_c7d431fc0 {x0 x1 x2 x3 x4 x5 x6 x7 x8 x9 x10 x11 : Int} (f0 : (x0 ≥ x1)) (f1 : (x2 ≥ x0)) (f2 : (x3 ≥ x2)) (f3 : (x4 < (-1)) ∨ (x4 > (-1)) ∨ (x3 > x2 ∧ x3 ≤ x5 ∧ x6 = (-1))) (f4 : (x4 < (-1)) ∨ (x4 > (-1)) ∨ (x7 = x8 + 1)) (f5 : (x4 = (-1)) ∨ (x7 = x8)) (f6 : x5 = x9) (f7 : x6 = x10) (f8 : x8 = x11) : x1 + x7 ≤ x11 + x3 := by omega
theorem q_aaac5bbff {x0 x1 x2 x3 x4 x5 : Int} (f0 : (x0 = 0) ∨ (x1 < x2)) (f1 : ¬ (x0 < 48)) (f2 : (x3 ≤ x4) ∨ (x3 = x1)) (f3 : x2 = x5) (f4 : x4 = x5) : x3 ≤ x5 := by omega
theorem q_176d7b69d {x0 x1 x2 : Int} (f0 : (x0 = 0) ∨ (x1 < x2)) (f1 : ¬ (x0 ≠ 40)) (f2 : (x2 ≤ 150)) : x1 ≤ 600 := by omega
theorem q_2a284ad14 {x0 x1 x2 x3 : Int} (f0 : (x0 ≥ x1)) (f1 : (x2 ≥ x0)) (f2 : (x3 ≤ x1)) : x3 ≤ x2 := by omega
theorem q_ec8e75e0a {x0 x1 x2 x3 : Int} (f0 : 0 ≤ x0 ∧ x0 ≤ 7) (f1 : (x1 = x2 + 1)) (f2 : (x3 = x1)) (f3 : x2 = x0) : 0 ≤ x3 - 1 := by omega
theorem q_e6c1b6bd1 {x0 x1 x2 x3 : Int} (f0 : (x0 = x1 + 1)) (f1 : (x2 = x0)) (f2 : x1 = x3) : x2 - 1 = x3 := by omega
theorem q_fdeaade18 {x0 x1 x2 x3 x4 x5 x6 x7 : Int} (f0 : (x0 ≥ x1)) (f1 : (x2 ≥ x0)) (f2 : (x2 + x3 ≤ x4 + x5)) (f3 : (x6 ≥ x5)) (f4 : x4 = x7) : x1 + x3 ≤ x7 + x6 := by omega
theorem q_4700e233f {x0 x1 x2 : Int} (f0 : 0 ≤ x0 ∧ x0 ≤ 7) (f1 : (x1 = x2 + 1)) (f2 : x2 = x0) : 0 ≤ x1 - 1 := by omega
theorem q_b177a02cd {x0 x1 x2 : Int} (f0 : (x0 = x1 + 1)) (f1 : x1 = x2) : x0 - 1 = x2 := by omega
theorem q_7d20861f4 {x0 x1 x2 x3 x4 : Int} (f0 : (x0 ≥ x1)) (f1 : (x2 ≥ x0)) (f2 : (x3 ≥ x2)) : x4 + x1 ≤ x4 + x3 := by omega
theorem c_176_8 : mLk 176 8 = some (.aload_n 0, 1) := rfl
theorem c_176_9 : mLk 176 9 = some (.invokevirtual 114, 3) := rfl
theorem c_176_12 : mLk 176 12 = some (.bipush 40, 2) := rfl
theorem c_176_14 : mLk 176 14 = some (.if_icmp .ne 31, 3) := rfl
theorem c_176_45 : mLk 176 45 = some (.aload_n 0, 1) := rfl
theorem c_176_46 : mLk 176 46 = some (.invokevirtual 114, 3) := rfl
theorem c_176_49 : mLk 176 49 = some (.invokestatic 135, 3) := rfl
theorem c_176_52 : mLk 176 52 = some (.ifCond .eq 19, 3) := rfl
theorem c_176_71 : mLk 176 71 = some (.aload_n 0, 1) := rfl
theorem c_176_72 : mLk 176 72 = some (.invokevirtual 214, 3) := rfl
theorem c_176_75 : mLk 176 75 = some (.ldc_w 267, 3) := rfl
theorem c_176_78 : mLk 176 78 = some (.invokestatic 192, 3) := rfl
theorem c_176_81 : mLk 176 81 = some (.if_icmp .ne 13, 3) := rfl
theorem c_176_94 : mLk 176 94 = some (.aload_n 0, 1) := rfl
theorem c_176_95 : mLk 176 95 = some (.invokevirtual 214, 3) := rfl
theorem c_176_98 : mLk 176 98 = some (.ldc_w 272, 3) := rfl
theorem c_176_101 : mLk 176 101 = some (.invokestatic 192, 3) := rfl
theorem c_176_104 : mLk 176 104 = some (.if_icmp .ne 13, 3) := rfl
theorem c_176_117 : mLk 176 117 = some (.aload_n 0, 1) := rfl
theorem c_176_118 : mLk 176 118 = some (.invokevirtual 274, 3) := rfl
theorem c_176_121 : mLk 176 121 = some (.istore_n 1, 1) := rfl
theorem c_176_122 : mLk 176 122 = some (.iload_n 1, 1) := rfl
theorem c_176_123 : mLk 176 123 = some (.iconst (-1), 1) := rfl
theorem c_176_124 : mLk 176 124 = some (.if_icmp .ne 12, 3) := rfl
theorem c_176_136 : mLk 176 136 = some (.aload_n 0, 1) := rfl
theorem c_176_137 : mLk 176 137 = some (.invokevirtual 131, 3) := rfl
theorem c_176_140 : mLk 176 140 = some (.ifCond .ne 4, 3) := rfl
theorem c_176_144 : mLk 176 144 = some (.aload_n 0, 1) := rfl
theorem c_176_145 : mLk 176 145 = some (.invokevirtual 223, 3) := rfl
theorem c_176_148 : mLk 176 148 = some (.aload_n 0, 1) := rfl
theorem c_176_149 : mLk 176 149 = some (.iconst 1, 1) := rfl
theorem c_176_150 : mLk 176 150 = some (.iload_n 1, 1) := rfl
theorem c_176_151 : mLk 176 151 = some (.invokevirtual 242, 3) := rfl
theorem c_176_127 : mLk 176 127 = some (.aload_n 0, 1) := rfl
theorem c_176_128 : mLk 176 128 = some (.iconst 1, 1) := rfl
theorem c_176_129 : mLk 176 129 = some (.aload_n 0, 1) := rfl
theorem c_176_130 : mLk 176 130 = some (.getfield 108, 3) := rfl
theorem c_176_133 : mLk 176 133 = some (.invokevirtual 138, 3) := rfl
theorem c_176_107 : mLk 176 107 = some (.aload_n 0, 1) := rfl
theorem c_176_108 : mLk 176 108 = some (.iconst 4, 1) := rfl
theorem c_176_109 : mLk 176 109 = some (.bipush 7, 2) := rfl
theorem c_176_111 : mLk 176 111 = some (.invokevirtual 269, 3) := rfl
theorem c_176_114 : mLk 176 114 = some (.goto 40, 3) := rfl
theorem c_176_84 : mLk 176 84 = some (.aload_n 0, 1) := rfl
theorem c_176_85 : mLk 176 85 = some (.iconst 5, 1) := rfl
theorem c_176_86 : mLk 176 86 = some (.bipush 6, 2) := rfl
theorem c_176_88 : mLk 176 88 = some (.invokevirtual 269, 3) := rfl
theorem c_176_91 : mLk 176 91 = some (.goto 63, 3) := rfl
theorem c_176_55 : mLk 176 55 = some (.aload_n 0, 1) := rfl
theorem c_176_56 : mLk 176 56 = some (.iconst 0, 1) := rfl
theorem c_176_57 : mLk 176 57 = some (.aload_n 0, 1) := rfl
theorem c_176_58 : mLk 176 58 = some (.iconst 0, 1) := rfl
theorem c_176_59 : mLk 176 59 = some (.sipush 999, 3) := rfl
theorem c_176_62 : mLk 176 62 = some (.invokevirtual 199, 3) := rfl
theorem c_176_65 : mLk 176 65 = some (.invokevirtual 242, 3) := rfl
theorem c_176_68 : mLk 176 68 = some (.goto 86, 3) := rfl
theorem c_176_17 : mLk 176 17 = some (.aload_n 0, 1) := rfl
theorem c_176_18 : mLk 176 18 = some (.iconst 1, 1) := rfl
theorem c_176_19 : mLk 176 19 = some (.invokevirtual 248, 3) := rfl
theorem c_176_22 : mLk 176 22 = some (.aload_n 0, 1) := rfl
theorem c_176_23 : mLk 176 23 = some (.invokevirtual 251, 3) := rfl
theorem c_176_26 : mLk 176 26 = some (.aload_n 0, 1) := rfl
theorem c_176_27 : mLk 176 27 = some (.bipush 41, 2) := rfl
theorem c_176_29 : mLk 176 29 = some (.invokevirtual 229, 3) := rfl
theorem c_176_32 : mLk 176 32 = some (.aload_n 0, 1) := rfl
theorem c_176_33 : mLk 176 33 = some (.dup, 1) := rfl
theorem c_176_34 : mLk 176 34 = some (.getfield 142, 3) := rfl
theorem c_176_37 : mLk 176 37 = some (.iconst 1, 1) := rfl
theorem c_176_38 : mLk 176 38 = some (.isub, 1) := rfl
theorem c_176_39 : mLk 176 39 = some (.putfield 142, 3) := rfl
theorem c_176_42 : mLk 176 42 = some (.goto 112, 3) := rfl
theorem km_8_269 : a_lk (kM 8) 269 = some (0, 175) := rfl
theorem km_8_274 : a_lk (kM 8) 274 = some (0, 172) := rfl
set_option maxRecDepth 100000 in
set_option maxHeartbeats 4000000 in
theorem s_176 {sc : List Int32} {e : Int} {d u P Q : Nat} {c : ME} {o : Int} {Z : AR → Prop} (hI : Iv u e P Q c) (ho : 0 ≤ o ∧ o ≤ 6) (hW : Nw c) (hq0 : (c 41 5 = (-1))) (hq1 : (c 41 4 ≤ c 41 3)) (hq2 : (c 41 3 ≤ 150)) (hq3 : (c 41 29 ≤ c 41 4)) (hq4 : (c 41 7 = o)) (H174 : ∀ (d9 : Nat) (c : ME) (Z : AR → Prop), d ≤ d9 → o + 1 ≤ 6 → Iv u e P Q c → Nw c → ((c 41 5 = (-1))) → ((c 41 4 ≤ c 41 3)) → ((c 41 3 ≤ 150)) → ((c 41 29 ≤ c 41 4)) → (c 41 7 = o + 1) → (∀ c2 : ME, Iv u e P Q c2 → (∀ (a : Nat) (j : Int), ¬ ((a = 41 ∧ j = 4) ∨ (a = 41 ∧ j = 5) ∨ (a = 41 ∧ j = 6) ∨ (a = 41 ∧ j = 7) ∨ (a = 41 ∧ j = 29) ∨ a = 50 ∨ a = 51) → c2 a j = c a j) → Nw c2 → ((c2 41 4 ≥ c 41 4)) → ((c2 41 7 = c 41 7)) → ((c 41 4 + c2 41 29 ≤ c 41 29 + c2 41 4)) → ((c2 41 5 < (-1)) ∨ (c2 41 5 > (-1)) ∨ (c2 41 4 ≤ c 41 3)) → ((c2 41 5 < (-1)) ∨ (c2 41 5 > (-1)) ∨ (Nh c2 = Nh c + 1)) → Z (.inl none, Wd P Q P P c2, 0, 0)) → Wp sc (d9 + 12) 174 0 [(0, .ref 41)] [] (Wd P Q P P c) 0 0 Z) (K : ∀ (c2 : ME), Iv u e P Q c2 → (∀ (a : Nat) (j : Int), ¬ ((a = 41 ∧ j = 4) ∨ (a = 41 ∧ j = 5) ∨ (a = 41 ∧ j = 6) ∨ (a = 41 ∧ j = 7) ∨ (a = 41 ∧ j = 29) ∨ a = 50 ∨ a = 51) → c2 a j = c a j) → Nw c2 → ((c2 41 4 ≥ c 41 4)) → ((c2 41 7 = c 41 7)) → ((c 41 4 + c2 41 29 ≤ c 41 29 + c2 41 4)) → ((c2 41 5 < (-1)) ∨ (c2 41 5 > (-1)) ∨ (c2 41 4 ≤ c 41 3)) → ((c2 41 5 < (-1)) ∨ (c2 41 5 > (-1)) ∨ (Nh c2 = Nh c + 1)) → Z (.inl (none), Wd P Q P P c2, 0, 0)) : Wp sc (d + 14) 176 0 [(0, .ref 41)] [] (Wd P Q P P c) 0 0 Z := by
  have hP := iv_P hI
  have hQ := iv_Q hI
  have h_1 := ir_41_5 hI
  have h_2 := ir_41_3 hI
  have h_3 := ir_41_4 hI
  have h_4 := ir_41_29 hI
  have h_5 := ir_41_7 hI
  have hnn := nw_nn hW (ir_41_29 hI).1
  refine q_aload_n c_176_0 rfl (v_cv c_176_1 km_8_131 rfl rfl (Nat.le_of_ble_eq_true rfl) ⟨⟨rfl, rfl⟩, Nat.le_of_ble_eq_true rfl, rfl⟩ (Nat.le_of_ble_eq_true rfl) (Nat.le_of_ble_eq_true rfl) (q_aload_n c_152_0 rfl (v_gi (z := 5) (v := c 41 5) c_152_1 kf_8_102 rfl (Nat.le_of_ble_eq_true rfl) rfl rfl rfl (q_iconst c_152_4 (v_ic_ne_f (t := 12) c_152_5 rfl ((q_ef26995af hq0)) (q_iconst c_152_8 (q_goto (t := 13) c_152_9 rfl ?_)))))))
  refine v_zret c_152_13 rfl (of_decide_eq_true rfl) (bk_inl (v_if_ne_t (t := 8) c_176_4 rfl (of_decide_eq_true rfl) (q_aload_n c_176_8 rfl (v_cv c_176_9 km_8_114 rfl rfl (Nat.le_of_ble_eq_true rfl) ⟨⟨rfl, rfl⟩, Nat.le_of_ble_eq_true rfl, rfl⟩ (Nat.le_of_ble_eq_true rfl) (Nat.le_of_ble_eq_true rfl) (s_154 hI (fun c_6 y_9 hI_7 hF_8 hy_9 h_10 h_11 h_12 h_13 => (bk_inl ?_)))))))
  have h_14 := ir_41_4 hI_7
  have h_15 := ir_43 hI (c_6 41 4)
  refine v_bip c_176_12 (of_decide_eq_true rfl) ?_
  by_cases h_16 : y_9 ≠ 40
  · refine v_ic_ne_t (t := 45) c_176_14 rfl ⟨h_16, ⟨hy_9.1, hy_9.2⟩, of_decide_eq_true rfl, of_decide_eq_true rfl⟩ (q_aload_n c_176_45 rfl ?_)
    have kn_17 : Hid (c_6 41 3 = c 41 3) := hF_8 41 3 (fun h => absurd h.2 (ni rfl))
    have h_18 : c_6 41 3 = c 41 3 := (hid kn_17)
    refine v_cv c_176_46 km_8_114 rfl rfl (Nat.le_of_ble_eq_true rfl) ⟨⟨rfl, rfl⟩, Nat.le_of_ble_eq_true rfl, rfl⟩ (Nat.le_of_ble_eq_true rfl) (Nat.le_of_ble_eq_true rfl) (s_154 hI_7 (fun c_19 y_22 hI_20 hF_21 hy_22 h_23 h_24 h_25 h_26 => (bk_inl ?_)))
    have h_27 := ir_41_4 hI_20
    have h_28 := ir_43 hI (c_19 41 4)
    have kn_29 : Hid (c_6 43 (c_19 41 4) = c 43 (c_19 41 4)) := hF_8 43 (c_19 41 4) (fun h => absurd h.1 (nn rfl))
    have h_30 : c_6 43 (c_19 41 4) = c 43 (c_19 41 4) := (hid kn_29)
    refine q_call c_176_49 rfl rfl rfl (q_iload_n c_156_0 rfl (v_bip c_156_1 (of_decide_eq_true rfl) ?_))
    by_cases h_31 : y_22 < 48
    · refine v_ic_lt_t (t := 16) c_156_3 rfl ⟨hy_22.1, h_31, of_decide_eq_true rfl⟩ (q_iconst c_156_16 (v_zret c_156_17 rfl (of_decide_eq_true rfl) (bk_inl (v_if_eq_t (t := 71) c_176_52 rfl (of_decide_eq_true rfl) (q_aload_n c_176_71 rfl ?_)))))
      have kn_32 : Hid (c_19 41 3 = c 41 3) := (hF_21 41 3 (fun h => absurd h.2 (ni rfl))).trans (hid kn_17)
      have h_33 : c_19 41 3 = c 41 3 := (hid kn_32)
      refine v_cv c_176_72 km_8_214 rfl rfl (Nat.le_of_ble_eq_true rfl) ⟨⟨rfl, rfl⟩, Nat.le_of_ble_eq_true rfl, rfl⟩ (Nat.le_of_ble_eq_true rfl) (Nat.le_of_ble_eq_true rfl) (s_157 hI_20 (fun c_34 y_37 hI_35 hF_36 hy_37 h_38 h_39 h_40 h_41 h_42 => (bk_inl ?_)))
      have h_43 := ir_41_4 hI_35
      have h_44 := ir_43 hI (c_34 41 4)
      have kn_45 : Hid (c_6 43 (c_34 41 4) = c 43 (c_34 41 4)) := hF_8 43 (c_34 41 4) (fun h => absurd h.1 (nn rfl))
      have kn_46 : Hid (c_19 43 (c_34 41 4) = c 43 (c_34 41 4)) := (hF_21 43 (c_34 41 4) (fun h => absurd h.1 (nn rfl))).trans (hid kn_45)
      have h_47 : c_19 43 (c_34 41 4) = c 43 (c_34 41 4) := (hid kn_46)
      have h_48 := ir_43 hI (c_34 41 4 + 1)
      have kn_49 : Hid (c_6 43 (c_34 41 4 + 1) = c 43 (c_34 41 4 + 1)) := hF_8 43 (c_34 41 4 + 1) (fun h => absurd h.1 (nn rfl))
      have kn_50 : Hid (c_19 43 (c_34 41 4 + 1) = c 43 (c_34 41 4 + 1)) := (hF_21 43 (c_34 41 4 + 1) (fun h => absurd h.1 (nn rfl))).trans (hid kn_49)
      have h_51 : c_19 43 (c_34 41 4 + 1) = c 43 (c_34 41 4 + 1) := (hid kn_50)
      have h_52 := ir_43 hI (c_34 41 4 + 2)
      have kn_53 : Hid (c_6 43 (c_34 41 4 + 2) = c 43 (c_34 41 4 + 2)) := hF_8 43 (c_34 41 4 + 2) (fun h => absurd h.1 (nn rfl))
      have kn_54 : Hid (c_19 43 (c_34 41 4 + 2) = c 43 (c_34 41 4 + 2)) := (hF_21 43 (c_34 41 4 + 2) (fun h => absurd h.1 (nn rfl))).trans (hid kn_53)
      have h_55 : c_19 43 (c_34 41 4 + 2) = c 43 (c_34 41 4 + 2) := (hid kn_54)
      refine q_ldc_w_s c_176_75 rfl rfl (of_decide_eq_true rfl) (q_call c_176_78 rfl rfl rfl (s_158_20 (bk_inl ?_)))
      by_cases h_56 : y_37 ≠ 12748404
      · refine v_ic_ne_t (t := 94) c_176_81 rfl ⟨h_56, ⟨hy_37.1, hy_37.2⟩, of_decide_eq_true rfl, of_decide_eq_true rfl⟩ (q_aload_n c_176_94 rfl ?_)
        have kn_57 : Hid (c_34 41 3 = c 41 3) := (hF_36 41 3 (fun h => absurd h.2 (ni rfl))).trans (hid kn_32)
        have h_58 : c_34 41 3 = c 41 3 := (hid kn_57)
        refine v_cv c_176_95 km_8_214 rfl rfl (Nat.le_of_ble_eq_true rfl) ⟨⟨rfl, rfl⟩, Nat.le_of_ble_eq_true rfl, rfl⟩ (Nat.le_of_ble_eq_true rfl) (Nat.le_of_ble_eq_true rfl) (s_157 hI_35 (fun c_59 y_62 hI_60 hF_61 hy_62 h_63 h_64 h_65 h_66 h_67 => (bk_inl ?_)))
        have h_68 := ir_41_4 hI_60
        have h_69 := ir_43 hI (c_59 41 4)
        have kn_70 : Hid (c_6 43 (c_59 41 4) = c 43 (c_59 41 4)) := hF_8 43 (c_59 41 4) (fun h => absurd h.1 (nn rfl))
        have kn_71 : Hid (c_19 43 (c_59 41 4) = c 43 (c_59 41 4)) := (hF_21 43 (c_59 41 4) (fun h => absurd h.1 (nn rfl))).trans (hid kn_70)
        have kn_72 : Hid (c_34 43 (c_59 41 4) = c 43 (c_59 41 4)) := (hF_36 43 (c_59 41 4) (fun h => absurd h.1 (nn rfl))).trans (hid kn_71)
        have h_73 : c_34 43 (c_59 41 4) = c 43 (c_59 41 4) := (hid kn_72)
        have h_74 := ir_43 hI (c_59 41 4 + 1)
        have kn_75 : Hid (c_6 43 (c_59 41 4 + 1) = c 43 (c_59 41 4 + 1)) := hF_8 43 (c_59 41 4 + 1) (fun h => absurd h.1 (nn rfl))
        have kn_76 : Hid (c_19 43 (c_59 41 4 + 1) = c 43 (c_59 41 4 + 1)) := (hF_21 43 (c_59 41 4 + 1) (fun h => absurd h.1 (nn rfl))).trans (hid kn_75)
        have kn_77 : Hid (c_34 43 (c_59 41 4 + 1) = c 43 (c_59 41 4 + 1)) := (hF_36 43 (c_59 41 4 + 1) (fun h => absurd h.1 (nn rfl))).trans (hid kn_76)
        have h_78 : c_34 43 (c_59 41 4 + 1) = c 43 (c_59 41 4 + 1) := (hid kn_77)
        have h_79 := ir_43 hI (c_59 41 4 + 2)
        have kn_80 : Hid (c_6 43 (c_59 41 4 + 2) = c 43 (c_59 41 4 + 2)) := hF_8 43 (c_59 41 4 + 2) (fun h => absurd h.1 (nn rfl))
        have kn_81 : Hid (c_19 43 (c_59 41 4 + 2) = c 43 (c_59 41 4 + 2)) := (hF_21 43 (c_59 41 4 + 2) (fun h => absurd h.1 (nn rfl))).trans (hid kn_80)
        have kn_82 : Hid (c_34 43 (c_59 41 4 + 2) = c 43 (c_59 41 4 + 2)) := (hF_36 43 (c_59 41 4 + 2) (fun h => absurd h.1 (nn rfl))).trans (hid kn_81)
        have h_83 : c_34 43 (c_59 41 4 + 2) = c 43 (c_59 41 4 + 2) := (hid kn_82)
        refine q_ldc_w_s c_176_98 rfl rfl (of_decide_eq_true rfl) (q_call c_176_101 rfl rfl rfl (s_158_21 (bk_inl ?_)))
        by_cases h_84 : y_62 ≠ 441972
        · refine v_ic_ne_t (t := 117) c_176_104 rfl ⟨h_84, ⟨hy_62.1, hy_62.2⟩, of_decide_eq_true rfl, of_decide_eq_true rfl⟩ (q_aload_n c_176_117 rfl ?_)
          have kn_85 : Hid (c_59 41 3 = c 41 3) := (hF_61 41 3 (fun h => absurd h.2 (ni rfl))).trans (hid kn_57)
          have h_86 : c_59 41 3 = c 41 3 := (hid kn_85)
          refine v_cv c_176_118 km_8_274 rfl rfl (Nat.le_of_ble_eq_true rfl) ⟨⟨rfl, rfl⟩, Nat.le_of_ble_eq_true rfl, rfl⟩ (Nat.le_of_ble_eq_true rfl) (Nat.le_of_ble_eq_true rfl) (s_172 hI_60 (fun c_87 y_90 hI_88 hF_89 hy_90 h_91 h_92 h_93 h_94 => (bk_inl ?_)))
          have h_95 := ir_41_4 hI_88
          have h_96 := ir_43 hI (c_87 41 4)
          have kn_97 : Hid (c_6 43 (c_87 41 4) = c 43 (c_87 41 4)) := hF_8 43 (c_87 41 4) (fun h => absurd h.1 (nn rfl))
          have kn_98 : Hid (c_19 43 (c_87 41 4) = c 43 (c_87 41 4)) := (hF_21 43 (c_87 41 4) (fun h => absurd h.1 (nn rfl))).trans (hid kn_97)
          have kn_99 : Hid (c_34 43 (c_87 41 4) = c 43 (c_87 41 4)) := (hF_36 43 (c_87 41 4) (fun h => absurd h.1 (nn rfl))).trans (hid kn_98)
          have kn_100 : Hid (c_59 43 (c_87 41 4) = c 43 (c_87 41 4)) := (hF_61 43 (c_87 41 4) (fun h => absurd h.1 (nn rfl))).trans (hid kn_99)
          have h_101 : c_59 43 (c_87 41 4) = c 43 (c_87 41 4) := (hid kn_100)
          refine q_istore_n c_176_121 (Nat.le_of_ble_eq_true rfl) (q_iload_n c_176_122 rfl (q_iconst c_176_123 ?_))
          by_cases h_102 : y_90 ≠ (-1)
          · refine v_ic_ne_t (t := 136) c_176_124 rfl ⟨h_102, ⟨(lel hy_90.1 rfl), (ler hy_90.2 rfl)⟩, of_decide_eq_true rfl, of_decide_eq_true rfl⟩ (q_aload_n c_176_136 rfl (v_cv c_176_137 km_8_131 rfl rfl (Nat.le_of_ble_eq_true rfl) ⟨⟨rfl, rfl⟩, Nat.le_of_ble_eq_true rfl, rfl⟩ (Nat.le_of_ble_eq_true rfl) (Nat.le_of_ble_eq_true rfl) (q_aload_n c_152_0 rfl ?_)))
            have kn_103 : Hid (c_6 41 5 = c 41 5) := hF_8 41 5 (fun h => absurd h.2 (ni rfl))
            have kn_104 : Hid (c_19 41 5 = c 41 5) := (hF_21 41 5 (fun h => absurd h.2 (ni rfl))).trans (hid kn_103)
            have kn_105 : Hid (c_34 41 5 = c 41 5) := (hF_36 41 5 (fun h => absurd h.2 (ni rfl))).trans (hid kn_104)
            have kn_106 : Hid (c_59 41 5 = c 41 5) := (hF_61 41 5 (fun h => absurd h.2 (ni rfl))).trans (hid kn_105)
            have kn_107 : Hid (c_87 41 5 = c 41 5) := (hF_89 41 5 (fun h => absurd h.2 (ni rfl))).trans (hid kn_106)
            refine v_gi (z := 5) (v := c 41 5) c_152_1 kf_8_102 rfl (Nat.le_of_ble_eq_true rfl) rfl rfl (hid kn_107) (q_iconst c_152_4 (v_ic_ne_f (t := 12) c_152_5 rfl ((q_ef26995af hq0)) (q_iconst c_152_8 (q_goto (t := 13) c_152_9 rfl (v_zret c_152_13 rfl (of_decide_eq_true rfl) (bk_inl (v_if_ne_t (t := 144) c_176_140 rfl (of_decide_eq_true rfl) ?_)))))))
            refine q_aload_n c_176_144 rfl ?_
            have kn_108 : Hid (c_87 41 3 = c 41 3) := (hF_89 41 3 (fun h => absurd h.2 (ni rfl))).trans (hid kn_85)
            have h_109 : c_87 41 3 = c 41 3 := (hid kn_108)
            have kn_110 : Hid (c_87 43 (c_87 41 4) = c 43 (c_87 41 4)) := (hF_89 43 (c_87 41 4) (fun h => absurd h.1 (nn rfl))).trans (hid kn_100)
            have h_111 : c_87 43 (c_87 41 4) = c 43 (c_87 41 4) := (hid kn_110)
            have h_112 := ir_43 hI (c_87 41 4 + 1)
            have kn_113 : Hid (c_6 43 (c_87 41 4 + 1) = c 43 (c_87 41 4 + 1)) := hF_8 43 (c_87 41 4 + 1) (fun h => absurd h.1 (nn rfl))
            have kn_114 : Hid (c_19 43 (c_87 41 4 + 1) = c 43 (c_87 41 4 + 1)) := (hF_21 43 (c_87 41 4 + 1) (fun h => absurd h.1 (nn rfl))).trans (hid kn_113)
            have kn_115 : Hid (c_34 43 (c_87 41 4 + 1) = c 43 (c_87 41 4 + 1)) := (hF_36 43 (c_87 41 4 + 1) (fun h => absurd h.1 (nn rfl))).trans (hid kn_114)
            have kn_116 : Hid (c_59 43 (c_87 41 4 + 1) = c 43 (c_87 41 4 + 1)) := (hF_61 43 (c_87 41 4 + 1) (fun h => absurd h.1 (nn rfl))).trans (hid kn_115)
            have kn_117 : Hid (c_87 43 (c_87 41 4 + 1) = c 43 (c_87 41 4 + 1)) := (hF_89 43 (c_87 41 4 + 1) (fun h => absurd h.1 (nn rfl))).trans (hid kn_116)
            have h_118 : c_87 43 (c_87 41 4 + 1) = c 43 (c_87 41 4 + 1) := (hid kn_117)
            have h_119 := ir_43 hI (c_87 41 4 + 2)
            have kn_120 : Hid (c_6 43 (c_87 41 4 + 2) = c 43 (c_87 41 4 + 2)) := hF_8 43 (c_87 41 4 + 2) (fun h => absurd h.1 (nn rfl))
            have kn_121 : Hid (c_19 43 (c_87 41 4 + 2) = c 43 (c_87 41 4 + 2)) := (hF_21 43 (c_87 41 4 + 2) (fun h => absurd h.1 (nn rfl))).trans (hid kn_120)
            have kn_122 : Hid (c_34 43 (c_87 41 4 + 2) = c 43 (c_87 41 4 + 2)) := (hF_36 43 (c_87 41 4 + 2) (fun h => absurd h.1 (nn rfl))).trans (hid kn_121)
            have kn_123 : Hid (c_59 43 (c_87 41 4 + 2) = c 43 (c_87 41 4 + 2)) := (hF_61 43 (c_87 41 4 + 2) (fun h => absurd h.1 (nn rfl))).trans (hid kn_122)
            have kn_124 : Hid (c_87 43 (c_87 41 4 + 2) = c 43 (c_87 41 4 + 2)) := (hF_89 43 (c_87 41 4 + 2) (fun h => absurd h.1 (nn rfl))).trans (hid kn_123)
            have h_125 : c_87 43 (c_87 41 4 + 2) = c 43 (c_87 41 4 + 2) := (hid kn_124)
            refine v_cv c_176_145 km_8_223 rfl rfl (Nat.le_of_ble_eq_true rfl) ⟨⟨rfl, rfl⟩, Nat.le_of_ble_eq_true rfl, rfl⟩ (Nat.le_of_ble_eq_true rfl) (Nat.le_of_ble_eq_true rfl) (s_159 hI_88 (fun c_126 hI_127 hF_128 h_129 h_130 h_131 h_132 => (bk_inl ?_)))
            have h_133 := ir_41_4 hI_127
            refine q_aload_n c_176_148 rfl (q_iconst c_176_149 (q_iload_n c_176_150 rfl ?_))
            have kn_134 : Hid (c_6 41 29 = c 41 29) := hF_8 41 29 (fun h => absurd h.2 (ni rfl))
            have kn_135 : Hid (c_19 41 29 = c 41 29) := (hF_21 41 29 (fun h => absurd h.2 (ni rfl))).trans (hid kn_134)
            have kn_136 : Hid (c_34 41 29 = c 41 29) := (hF_36 41 29 (fun h => absurd h.2 (ni rfl))).trans (hid kn_135)
            have kn_137 : Hid (c_59 41 29 = c 41 29) := (hF_61 41 29 (fun h => absurd h.2 (ni rfl))).trans (hid kn_136)
            have kn_138 : Hid (c_87 41 29 = c 41 29) := (hF_89 41 29 (fun h => absurd h.2 (ni rfl))).trans (hid kn_137)
            have kn_139 : Hid (c_126 41 29 = c 41 29) := (hF_128 41 29 (fun h => absurd h.2 (ni rfl))).trans (hid kn_138)
            have h_140 : c_126 41 29 = c 41 29 := (hid kn_139)
            have kn_141 : Hid (c_126 41 5 = c 41 5) := (hF_128 41 5 (fun h => absurd h.2 (ni rfl))).trans (hid kn_107)
            have h_142 : c_126 41 5 = c 41 5 := (hid kn_141)
            obtain ⟨hW_143, hN_144⟩ : Nw c_126 ∧ Nh c_126 = Nh c := nh_fr hW (fun j => (hF_128 50 j (fun h => absurd h.1 (nn rfl))).trans ((hF_89 50 j (fun h => absurd h.1 (nn rfl))).trans ((hF_61 50 j (fun h => absurd h.1 (nn rfl))).trans ((hF_36 50 j (fun h => absurd h.1 (nn rfl))).trans ((hF_21 50 j (fun h => absurd h.1 (nn rfl))).trans (hF_8 50 j (fun h => absurd h.1 (nn rfl)))))))) (fun j => (hF_128 51 j (fun h => absurd h.1 (nn rfl))).trans ((hF_89 51 j (fun h => absurd h.1 (nn rfl))).trans ((hF_61 51 j (fun h => absurd h.1 (nn rfl))).trans ((hF_36 51 j (fun h => absurd h.1 (nn rfl))).trans ((hF_21 51 j (fun h => absurd h.1 (nn rfl))).trans (hF_8 51 j (fun h => absurd h.1 (nn rfl)))))))) ((hF_128 41 29 (fun h => absurd h.2 (ni rfl))).trans ((hF_89 41 29 (fun h => absurd h.2 (ni rfl))).trans ((hF_61 41 29 (fun h => absurd h.2 (ni rfl))).trans ((hF_36 41 29 (fun h => absurd h.2 (ni rfl))).trans ((hF_21 41 29 (fun h => absurd h.2 (ni rfl))).trans (hF_8 41 29 (fun h => absurd h.2 (ni rfl))))))))
            refine v_cv c_176_151 km_8_242 rfl rfl (Nat.le_of_ble_eq_true rfl) ⟨⟨rfl, rfl⟩, Nat.le_of_ble_eq_true rfl, rfl⟩ (Nat.le_of_ble_eq_true rfl) (Nat.le_of_ble_eq_true rfl) (s_170 (a1 := 1) (a2 := y_90) hI_127 (show 0 ≤ 1 ∧ 1 ≤ 8 from ⟨of_decide_eq_true rfl, of_decide_eq_true rfl⟩) (show 0 ≤ y_90 ∧ y_90 ≤ 999 from ⟨by first | (clear ho hq0 hq1 hq2 hq3 hq4 h_1 h_2 h_3 h_4 h_5 hnn h_14 h_10 h_15 h_27 h_23 h_28 h_31 h_43 h_38 h_44 h_48 h_52 h_68 h_63 h_69 h_74 h_79 h_95 h_91 h_96 h_112 h_119 h_133 h_129 h_11 h_12 h_13 h_16 h_24 h_25 h_26 h_39 h_40 h_41 h_42 h_56 h_64 h_65 h_66 h_67 h_84 h_92 h_93 h_94 h_130 h_131 h_132; omega) | omega, (ler hy_90.2 rfl)⟩) hW_143 (Or.inr (Or.inr (by first | (clear ho hq0 hq1 hq4 h_1 h_2 h_3 h_4 h_5 hnn h_14 h_15 h_27 h_28 h_31 h_43 h_44 h_48 h_52 h_68 h_69 h_74 h_79 h_95 h_96 h_112 h_119 h_133 h_129 h_11 h_12 h_13 h_16 h_24 h_25 h_26 h_39 h_40 h_41 h_42 h_56 h_64 h_65 h_66 h_67 h_84 h_92 h_94 h_130 h_131 h_132; omega) | omega))) (Or.inr (Or.inr (Or.inl (by first | decide | omega)))) (Or.inr (Or.inr (Or.inr (by first | (clear ho hq0 hq1 hq2 hq3 hq4 h_1 h_2 h_3 h_4 h_5 hnn h_14 h_10 h_15 h_27 h_23 h_28 h_31 h_43 h_38 h_44 h_48 h_52 h_68 h_63 h_69 h_74 h_79 h_95 h_91 h_96 h_112 h_119 h_133 h_129 h_11 h_12 h_13 h_16 h_24 h_25 h_26 h_39 h_40 h_41 h_42 h_56 h_64 h_65 h_66 h_67 h_84 h_92 h_93 h_94 h_102 h_130 h_131 h_132; omega) | omega)))) (fun c_145 hI_146 hF_147 hW_148 h_149 h_150 h_151 h_152 => (bk_inl ?_)))
            have h_153 := ir_41_29 hI_146
            refine q_vret rfl rfl ?_
            have kn_154 : Hid (c_145 41 4 = c_126 41 4) := hF_147 41 4 qn_fcc0aaabe
            have h_155 : c_145 41 4 = c_126 41 4 := (hid kn_154)
            have kn_156 : Hid (c_145 41 5 = c 41 5) := (hF_147 41 5 qn_c65a44569).trans (hid kn_141)
            have h_157 : c_145 41 5 = c 41 5 := (hid kn_156)
            have kn_158 : Hid (c_6 41 7 = c 41 7) := hF_8 41 7 (fun h => absurd h.2 (ni rfl))
            have kn_159 : Hid (c_19 41 7 = c 41 7) := (hF_21 41 7 (fun h => absurd h.2 (ni rfl))).trans (hid kn_158)
            have kn_160 : Hid (c_34 41 7 = c 41 7) := (hF_36 41 7 (fun h => absurd h.2 (ni rfl))).trans (hid kn_159)
            have kn_161 : Hid (c_59 41 7 = c 41 7) := (hF_61 41 7 (fun h => absurd h.2 (ni rfl))).trans (hid kn_160)
            have kn_162 : Hid (c_87 41 7 = c 41 7) := (hF_89 41 7 (fun h => absurd h.2 (ni rfl))).trans (hid kn_161)
            have kn_163 : Hid (c_126 41 7 = c 41 7) := (hF_128 41 7 (fun h => absurd h.2 (ni rfl))).trans (hid kn_162)
            have kn_164 : Hid (c_145 41 7 = c 41 7) := (hF_147 41 7 qn_5700af53f).trans (hid kn_163)
            have h_165 : c_145 41 7 = c 41 7 := (hid kn_164)
            exact K c_145 hI_146 (fun a j hm => (hF_147 a j (qv_d7b4eb562 hm)).trans ((hF_128 a j (fun h => hm (Or.inl h))).trans ((hF_89 a j (fun h => hm (Or.inl h))).trans ((hF_61 a j (fun h => hm (Or.inl h))).trans ((hF_36 a j (fun h => hm (Or.inl h))).trans ((hF_21 a j (fun h => hm (Or.inl h))).trans (hF_8 a j (fun h => hm (Or.inl h))))))))) hW_148 ((q_b2199921c h_10 h_129 h_23 h_38 h_63 h_91)) (by first | assumption | omega) (by first | (clear ho hq1 hq2 hq3 hq4 h_1 h_2 h_3 h_4 h_5 hnn h_14 h_15 h_27 h_28 h_31 h_43 h_44 h_48 h_52 h_68 h_69 h_74 h_79 h_95 h_96 h_112 h_119 h_133 h_129 h_153 h_11 h_12 h_13 h_16 h_24 h_25 h_26 h_39 h_40 h_41 h_42 h_56 h_64 h_65 h_66 h_67 h_84 h_92 h_130 h_132 h_150 h_151 h_152; omega) | omega) (Or.inr (Or.inr ((q_fc5232ffa h_12 h_130 h_25 h_39 h_64 h_92 hq1 h_109 h_18 h_33 h_58 h_86)))) (Or.inr (Or.inr (by first | (clear ho hq1 hq2 hq3 hq4 h_1 h_2 h_3 h_4 h_5 hnn h_14 h_10 h_15 h_27 h_23 h_28 h_31 h_43 h_38 h_44 h_48 h_52 h_68 h_63 h_69 h_74 h_79 h_95 h_91 h_96 h_112 h_119 h_133 h_129 h_153 h_11 h_12 h_13 h_16 h_24 h_25 h_26 h_39 h_40 h_41 h_42 h_56 h_64 h_65 h_66 h_67 h_84 h_92 h_93 h_94 h_102 h_130 h_131 h_132 h_149 h_150 h_152; omega) | omega)))
          · refine v_ic_ne_f (t := 136) c_176_124 rfl (Decidable.not_not.mp h_102) (q_aload_n c_176_127 rfl (q_iconst c_176_128 (q_aload_n c_176_129 rfl (v_gi (z := 4) (v := c_87 41 4) c_176_130 kf_8_108 rfl (Nat.le_of_ble_eq_true rfl) rfl rfl rfl (v_cv c_176_133 km_8_138 rfl rfl (Nat.le_of_ble_eq_true rfl) ⟨⟨rfl, rfl⟩, Nat.le_of_ble_eq_true rfl, rfl⟩ (Nat.le_of_ble_eq_true rfl) (Nat.le_of_ble_eq_true rfl) (s_153 (a1 := 1) (a2 := c_87 41 4) hI_88 (show 1 ≤ 1 ∧ 1 ≤ 3 from ⟨of_decide_eq_true rfl, of_decide_eq_true rfl⟩) (show 0 ≤ c_87 41 4 ∧ c_87 41 4 ≤ 605 from h_95) (fun c_166 hI_167 hF_168 h_169 => (bk_inl ?_))))))))
            have h_170 := ir_41_5 hI_167
            refine q_aload_n c_176_136 rfl (v_cv c_176_137 km_8_131 rfl rfl (Nat.le_of_ble_eq_true rfl) ⟨⟨rfl, rfl⟩, Nat.le_of_ble_eq_true rfl, rfl⟩ (Nat.le_of_ble_eq_true rfl) (Nat.le_of_ble_eq_true rfl) (q_aload_n c_152_0 rfl (v_gi (z := 5) (v := c_166 41 5) c_152_1 kf_8_102 rfl (Nat.le_of_ble_eq_true rfl) rfl rfl rfl (q_iconst c_152_4 (v_ic_ne_t (t := 12) c_152_5 rfl ⟨(q_e869299d0 h_169 h_170), ⟨(lel h_170.1 rfl), (ler h_170.2 rfl)⟩, of_decide_eq_true rfl, of_decide_eq_true rfl⟩ (q_iconst c_152_12 (v_zret c_152_13 rfl (of_decide_eq_true rfl) ?_)))))))
            refine bk_inl (v_if_ne_f (t := 144) c_176_140 rfl (of_decide_eq_true rfl) (q_vret rfl rfl ?_))
            obtain ⟨hW_171, hN_172⟩ : Nw c_166 ∧ Nh c_166 = Nh c := nh_fr hW (fun j => (hF_168 50 j (fun q => q.elim (fun h => absurd h.1 (nn rfl)) (fun h => absurd h.1 (nn rfl)))).trans ((hF_89 50 j (fun h => absurd h.1 (nn rfl))).trans ((hF_61 50 j (fun h => absurd h.1 (nn rfl))).trans ((hF_36 50 j (fun h => absurd h.1 (nn rfl))).trans ((hF_21 50 j (fun h => absurd h.1 (nn rfl))).trans (hF_8 50 j (fun h => absurd h.1 (nn rfl)))))))) (fun j => (hF_168 51 j (fun q => q.elim (fun h => absurd h.1 (nn rfl)) (fun h => absurd h.1 (nn rfl)))).trans ((hF_89 51 j (fun h => absurd h.1 (nn rfl))).trans ((hF_61 51 j (fun h => absurd h.1 (nn rfl))).trans ((hF_36 51 j (fun h => absurd h.1 (nn rfl))).trans ((hF_21 51 j (fun h => absurd h.1 (nn rfl))).trans (hF_8 51 j (fun h => absurd h.1 (nn rfl)))))))) ((hF_168 41 29 (fun q => q.elim (fun h => absurd h.2 (ni rfl)) (fun h => absurd h.2 (ni rfl)))).trans ((hF_89 41 29 (fun h => absurd h.2 (ni rfl))).trans ((hF_61 41 29 (fun h => absurd h.2 (ni rfl))).trans ((hF_36 41 29 (fun h => absurd h.2 (ni rfl))).trans ((hF_21 41 29 (fun h => absurd h.2 (ni rfl))).trans (hF_8 41 29 (fun h => absurd h.2 (ni rfl))))))))
            have kn_173 : Hid (c_6 41 29 = c 41 29) := hF_8 41 29 (fun h => absurd h.2 (ni rfl))
            have kn_174 : Hid (c_19 41 29 = c 41 29) := (hF_21 41 29 (fun h => absurd h.2 (ni rfl))).trans (hid kn_173)
            have kn_175 : Hid (c_34 41 29 = c 41 29) := (hF_36 41 29 (fun h => absurd h.2 (ni rfl))).trans (hid kn_174)
            have kn_176 : Hid (c_59 41 29 = c 41 29) := (hF_61 41 29 (fun h => absurd h.2 (ni rfl))).trans (hid kn_175)
            have kn_177 : Hid (c_87 41 29 = c 41 29) := (hF_89 41 29 (fun h => absurd h.2 (ni rfl))).trans (hid kn_176)
            have kn_178 : Hid (c_166 41 29 = c 41 29) := (hF_168 41 29 (fun q => q.elim (fun h => absurd h.2 (ni rfl)) (fun h => absurd h.2 (ni rfl)))).trans (hid kn_177)
            have h_179 : c_166 41 29 = c 41 29 := (hid kn_178)
            have kn_180 : Hid (c_166 41 4 = c_87 41 4) := hF_168 41 4 (fun q => q.elim (fun h => absurd h.2 (ni rfl)) (fun h => absurd h.2 (ni rfl)))
            have h_181 : c_166 41 4 = c_87 41 4 := (hid kn_180)
            have kn_182 : Hid (c_6 41 7 = c 41 7) := hF_8 41 7 (fun h => absurd h.2 (ni rfl))
            have kn_183 : Hid (c_19 41 7 = c 41 7) := (hF_21 41 7 (fun h => absurd h.2 (ni rfl))).trans (hid kn_182)
            have kn_184 : Hid (c_34 41 7 = c 41 7) := (hF_36 41 7 (fun h => absurd h.2 (ni rfl))).trans (hid kn_183)
            have kn_185 : Hid (c_59 41 7 = c 41 7) := (hF_61 41 7 (fun h => absurd h.2 (ni rfl))).trans (hid kn_184)
            have kn_186 : Hid (c_87 41 7 = c 41 7) := (hF_89 41 7 (fun h => absurd h.2 (ni rfl))).trans (hid kn_185)
            have kn_187 : Hid (c_166 41 7 = c 41 7) := (hF_168 41 7 (fun q => q.elim (fun h => absurd h.2 (ni rfl)) (fun h => absurd h.2 (ni rfl)))).trans (hid kn_186)
            have h_188 : c_166 41 7 = c 41 7 := (hid kn_187)
            exact K c_166 hI_167 (fun a j hm => (hF_168 a j (qv_0c9f14c52 hm)).trans ((hF_89 a j (fun h => hm (Or.inl h))).trans ((hF_61 a j (fun h => hm (Or.inl h))).trans ((hF_36 a j (fun h => hm (Or.inl h))).trans ((hF_21 a j (fun h => hm (Or.inl h))).trans (hF_8 a j (fun h => hm (Or.inl h)))))))) hW_171 ((q_fdaccc704 h_10 h_23 h_38 h_63 h_91)) (by first | assumption | omega) ((q_d4f8c5bee h_10 h_23 h_38 h_63 h_91)) (Or.inr (Or.inl ((q_a3ee8eff6 h_169 h_170)))) (Or.inr (Or.inl ((q_a3ee8eff6 h_169 h_170))))
        · refine v_ic_ne_f (t := 117) c_176_104 rfl (Decidable.not_not.mp h_84) (q_aload_n c_176_107 rfl (q_iconst c_176_108 (v_bip c_176_109 (of_decide_eq_true rfl) ?_)))
          have kn_189 : Hid (c_6 41 5 = c 41 5) := hF_8 41 5 (fun h => absurd h.2 (ni rfl))
          have kn_190 : Hid (c_19 41 5 = c 41 5) := (hF_21 41 5 (fun h => absurd h.2 (ni rfl))).trans (hid kn_189)
          have kn_191 : Hid (c_34 41 5 = c 41 5) := (hF_36 41 5 (fun h => absurd h.2 (ni rfl))).trans (hid kn_190)
          have kn_192 : Hid (c_59 41 5 = c 41 5) := (hF_61 41 5 (fun h => absurd h.2 (ni rfl))).trans (hid kn_191)
          have h_193 : c_59 41 5 = c 41 5 := (hid kn_192)
          have kn_194 : Hid (c_59 41 3 = c 41 3) := (hF_61 41 3 (fun h => absurd h.2 (ni rfl))).trans (hid kn_57)
          have h_195 : c_59 41 3 = c 41 3 := (hid kn_194)
          have kn_196 : Hid (c_6 41 29 = c 41 29) := hF_8 41 29 (fun h => absurd h.2 (ni rfl))
          have kn_197 : Hid (c_19 41 29 = c 41 29) := (hF_21 41 29 (fun h => absurd h.2 (ni rfl))).trans (hid kn_196)
          have kn_198 : Hid (c_34 41 29 = c 41 29) := (hF_36 41 29 (fun h => absurd h.2 (ni rfl))).trans (hid kn_197)
          have kn_199 : Hid (c_59 41 29 = c 41 29) := (hF_61 41 29 (fun h => absurd h.2 (ni rfl))).trans (hid kn_198)
          have h_200 : c_59 41 29 = c 41 29 := (hid kn_199)
          have kn_201 : Hid (c_6 41 7 = c 41 7) := hF_8 41 7 (fun h => absurd h.2 (ni rfl))
          have kn_202 : Hid (c_19 41 7 = c 41 7) := (hF_21 41 7 (fun h => absurd h.2 (ni rfl))).trans (hid kn_201)
          have kn_203 : Hid (c_34 41 7 = c 41 7) := (hF_36 41 7 (fun h => absurd h.2 (ni rfl))).trans (hid kn_202)
          have kn_204 : Hid (c_59 41 7 = c 41 7) := (hF_61 41 7 (fun h => absurd h.2 (ni rfl))).trans (hid kn_203)
          have h_205 : c_59 41 7 = c 41 7 := (hid kn_204)
          obtain ⟨hW_206, hN_207⟩ : Nw c_59 ∧ Nh c_59 = Nh c := nh_fr hW (fun j => (hF_61 50 j (fun h => absurd h.1 (nn rfl))).trans ((hF_36 50 j (fun h => absurd h.1 (nn rfl))).trans ((hF_21 50 j (fun h => absurd h.1 (nn rfl))).trans (hF_8 50 j (fun h => absurd h.1 (nn rfl)))))) (fun j => (hF_61 51 j (fun h => absurd h.1 (nn rfl))).trans ((hF_36 51 j (fun h => absurd h.1 (nn rfl))).trans ((hF_21 51 j (fun h => absurd h.1 (nn rfl))).trans (hF_8 51 j (fun h => absurd h.1 (nn rfl)))))) ((hF_61 41 29 (fun h => absurd h.2 (ni rfl))).trans ((hF_36 41 29 (fun h => absurd h.2 (ni rfl))).trans ((hF_21 41 29 (fun h => absurd h.2 (ni rfl))).trans (hF_8 41 29 (fun h => absurd h.2 (ni rfl))))))
          refine v_cv c_176_111 km_8_269 rfl rfl (Nat.le_of_ble_eq_true rfl) ⟨⟨rfl, rfl⟩, Nat.le_of_ble_eq_true rfl, rfl⟩ (Nat.le_of_ble_eq_true rfl) (Nat.le_of_ble_eq_true rfl) (s_175 (o := o) (a1 := 4) (a2 := 7) hI_60 (show 4 ≤ 4 ∧ 4 ≤ 5 from ⟨of_decide_eq_true rfl, of_decide_eq_true rfl⟩) (show 6 ≤ 7 ∧ 7 ≤ 7 from ⟨of_decide_eq_true rfl, of_decide_eq_true rfl⟩) (show 0 ≤ o ∧ o ≤ 6 from by omega) hW_206 ((q_ef26995af hq0)) ((q_f38071e10 h_65 h_84 h_58)) ((q_7024b37ce hq2)) ((q_c26d8ce25 h_10 h_23 h_38 h_63 hq3)) ((q_cea541e22 hq4)) ((q_b7af7f5c6 h_65 h_84 h_58)) H174 (fun c_208 hI_209 hF_210 hW_211 h_212 h_213 h_214 h_215 h_216 => (bk_inl ?_)))
          have h_217 := ir_41_4 hI_209
          have h_218 := ir_41_7 hI_209
          have h_219 := ir_41_29 hI_209
          have h_220 := ir_41_5 hI_209
          refine q_goto (t := 154) c_176_114 rfl (q_vret rfl rfl ?_)
          exact K c_208 hI_209 (fun a j hm => (hF_210 a j hm).trans ((hF_61 a j (fun h => hm (Or.inl h))).trans ((hF_36 a j (fun h => hm (Or.inl h))).trans ((hF_21 a j (fun h => hm (Or.inl h))).trans (hF_8 a j (fun h => hm (Or.inl h))))))) hW_211 ((q_b251de6c9 h_10 h_212 h_23 h_38 h_63)) ((q_1bb533b1a h_213 h_205)) ((q_f1b148d40 h_10 h_214 h_23 h_38 h_63 h_200)) (by omega) (by omega)
      · refine v_ic_ne_f (t := 94) c_176_81 rfl (Decidable.not_not.mp h_56) (q_aload_n c_176_84 rfl (q_iconst c_176_85 (v_bip c_176_86 (of_decide_eq_true rfl) ?_)))
        have kn_221 : Hid (c_6 41 5 = c 41 5) := hF_8 41 5 (fun h => absurd h.2 (ni rfl))
        have kn_222 : Hid (c_19 41 5 = c 41 5) := (hF_21 41 5 (fun h => absurd h.2 (ni rfl))).trans (hid kn_221)
        have kn_223 : Hid (c_34 41 5 = c 41 5) := (hF_36 41 5 (fun h => absurd h.2 (ni rfl))).trans (hid kn_222)
        have h_224 : c_34 41 5 = c 41 5 := (hid kn_223)
        have kn_225 : Hid (c_34 41 3 = c 41 3) := (hF_36 41 3 (fun h => absurd h.2 (ni rfl))).trans (hid kn_32)
        have h_226 : c_34 41 3 = c 41 3 := (hid kn_225)
        have kn_227 : Hid (c_6 41 29 = c 41 29) := hF_8 41 29 (fun h => absurd h.2 (ni rfl))
        have kn_228 : Hid (c_19 41 29 = c 41 29) := (hF_21 41 29 (fun h => absurd h.2 (ni rfl))).trans (hid kn_227)
        have kn_229 : Hid (c_34 41 29 = c 41 29) := (hF_36 41 29 (fun h => absurd h.2 (ni rfl))).trans (hid kn_228)
        have h_230 : c_34 41 29 = c 41 29 := (hid kn_229)
        have kn_231 : Hid (c_6 41 7 = c 41 7) := hF_8 41 7 (fun h => absurd h.2 (ni rfl))
        have kn_232 : Hid (c_19 41 7 = c 41 7) := (hF_21 41 7 (fun h => absurd h.2 (ni rfl))).trans (hid kn_231)
        have kn_233 : Hid (c_34 41 7 = c 41 7) := (hF_36 41 7 (fun h => absurd h.2 (ni rfl))).trans (hid kn_232)
        have h_234 : c_34 41 7 = c 41 7 := (hid kn_233)
        obtain ⟨hW_235, hN_236⟩ : Nw c_34 ∧ Nh c_34 = Nh c := nh_fr hW (fun j => (hF_36 50 j (fun h => absurd h.1 (nn rfl))).trans ((hF_21 50 j (fun h => absurd h.1 (nn rfl))).trans (hF_8 50 j (fun h => absurd h.1 (nn rfl))))) (fun j => (hF_36 51 j (fun h => absurd h.1 (nn rfl))).trans ((hF_21 51 j (fun h => absurd h.1 (nn rfl))).trans (hF_8 51 j (fun h => absurd h.1 (nn rfl))))) ((hF_36 41 29 (fun h => absurd h.2 (ni rfl))).trans ((hF_21 41 29 (fun h => absurd h.2 (ni rfl))).trans (hF_8 41 29 (fun h => absurd h.2 (ni rfl)))))
        refine v_cv c_176_88 km_8_269 rfl rfl (Nat.le_of_ble_eq_true rfl) ⟨⟨rfl, rfl⟩, Nat.le_of_ble_eq_true rfl, rfl⟩ (Nat.le_of_ble_eq_true rfl) (Nat.le_of_ble_eq_true rfl) (s_175 (o := o) (a1 := 5) (a2 := 6) hI_35 (show 4 ≤ 5 ∧ 5 ≤ 5 from ⟨of_decide_eq_true rfl, of_decide_eq_true rfl⟩) (show 6 ≤ 6 ∧ 6 ≤ 7 from ⟨of_decide_eq_true rfl, of_decide_eq_true rfl⟩) (show 0 ≤ o ∧ o ≤ 6 from by omega) hW_235 ((q_ef26995af hq0)) ((q_578fd8ea3 h_40 h_56 h_33)) ((q_7024b37ce hq2)) ((q_e4cb9442e h_10 h_23 h_38 hq3)) ((q_cea541e22 hq4)) ((q_79cb9195c h_40 h_56 h_33)) H174 (fun c_237 hI_238 hF_239 hW_240 h_241 h_242 h_243 h_244 h_245 => (bk_inl ?_)))
        have h_246 := ir_41_4 hI_238
        have h_247 := ir_41_7 hI_238
        have h_248 := ir_41_29 hI_238
        have h_249 := ir_41_5 hI_238
        refine q_goto (t := 154) c_176_91 rfl (q_vret rfl rfl ?_)
        exact K c_237 hI_238 (fun a j hm => (hF_239 a j hm).trans ((hF_36 a j (fun h => hm (Or.inl h))).trans ((hF_21 a j (fun h => hm (Or.inl h))).trans (hF_8 a j (fun h => hm (Or.inl h)))))) hW_240 ((q_dc73f781e h_10 h_23 h_241 h_38)) ((q_1bb533b1a h_242 h_234)) ((q_f2b397259 h_10 h_23 h_243 h_38 h_230)) (by omega) (by omega)
    · refine v_ic_lt_f (t := 16) c_156_3 rfl ⟨of_decide_eq_true rfl, (Int.not_lt.mp h_31), hy_22.2⟩ (q_iload_n c_156_6 rfl (v_bip c_156_7 (of_decide_eq_true rfl) ?_))
      by_cases h_250 : y_22 > 57
      · refine v_ic_gt_t (t := 16) c_156_9 rfl ⟨of_decide_eq_true rfl, h_250, hy_22.2⟩ (q_iconst c_156_16 (v_zret c_156_17 rfl (of_decide_eq_true rfl) (bk_inl (v_if_eq_t (t := 71) c_176_52 rfl (of_decide_eq_true rfl) (q_aload_n c_176_71 rfl ?_)))))
        have kn_251 : Hid (c_19 41 3 = c 41 3) := (hF_21 41 3 (fun h => absurd h.2 (ni rfl))).trans (hid kn_17)
        have h_252 : c_19 41 3 = c 41 3 := (hid kn_251)
        refine v_cv c_176_72 km_8_214 rfl rfl (Nat.le_of_ble_eq_true rfl) ⟨⟨rfl, rfl⟩, Nat.le_of_ble_eq_true rfl, rfl⟩ (Nat.le_of_ble_eq_true rfl) (Nat.le_of_ble_eq_true rfl) (s_157 hI_20 (fun c_253 y_256 hI_254 hF_255 hy_256 h_257 h_258 h_259 h_260 h_261 => (bk_inl ?_)))
        have h_262 := ir_41_4 hI_254
        have h_263 := ir_43 hI (c_253 41 4)
        have kn_264 : Hid (c_6 43 (c_253 41 4) = c 43 (c_253 41 4)) := hF_8 43 (c_253 41 4) (fun h => absurd h.1 (nn rfl))
        have kn_265 : Hid (c_19 43 (c_253 41 4) = c 43 (c_253 41 4)) := (hF_21 43 (c_253 41 4) (fun h => absurd h.1 (nn rfl))).trans (hid kn_264)
        have h_266 : c_19 43 (c_253 41 4) = c 43 (c_253 41 4) := (hid kn_265)
        have h_267 := ir_43 hI (c_253 41 4 + 1)
        have kn_268 : Hid (c_6 43 (c_253 41 4 + 1) = c 43 (c_253 41 4 + 1)) := hF_8 43 (c_253 41 4 + 1) (fun h => absurd h.1 (nn rfl))
        have kn_269 : Hid (c_19 43 (c_253 41 4 + 1) = c 43 (c_253 41 4 + 1)) := (hF_21 43 (c_253 41 4 + 1) (fun h => absurd h.1 (nn rfl))).trans (hid kn_268)
        have h_270 : c_19 43 (c_253 41 4 + 1) = c 43 (c_253 41 4 + 1) := (hid kn_269)
        have h_271 := ir_43 hI (c_253 41 4 + 2)
        have kn_272 : Hid (c_6 43 (c_253 41 4 + 2) = c 43 (c_253 41 4 + 2)) := hF_8 43 (c_253 41 4 + 2) (fun h => absurd h.1 (nn rfl))
        have kn_273 : Hid (c_19 43 (c_253 41 4 + 2) = c 43 (c_253 41 4 + 2)) := (hF_21 43 (c_253 41 4 + 2) (fun h => absurd h.1 (nn rfl))).trans (hid kn_272)
        have h_274 : c_19 43 (c_253 41 4 + 2) = c 43 (c_253 41 4 + 2) := (hid kn_273)
        refine q_ldc_w_s c_176_75 rfl rfl (of_decide_eq_true rfl) (q_call c_176_78 rfl rfl rfl (s_158_20 (bk_inl ?_)))
        by_cases h_275 : y_256 ≠ 12748404
        · refine v_ic_ne_t (t := 94) c_176_81 rfl ⟨h_275, ⟨hy_256.1, hy_256.2⟩, of_decide_eq_true rfl, of_decide_eq_true rfl⟩ (q_aload_n c_176_94 rfl ?_)
          have kn_276 : Hid (c_253 41 3 = c 41 3) := (hF_255 41 3 (fun h => absurd h.2 (ni rfl))).trans (hid kn_251)
          have h_277 : c_253 41 3 = c 41 3 := (hid kn_276)
          refine v_cv c_176_95 km_8_214 rfl rfl (Nat.le_of_ble_eq_true rfl) ⟨⟨rfl, rfl⟩, Nat.le_of_ble_eq_true rfl, rfl⟩ (Nat.le_of_ble_eq_true rfl) (Nat.le_of_ble_eq_true rfl) (s_157 hI_254 (fun c_278 y_281 hI_279 hF_280 hy_281 h_282 h_283 h_284 h_285 h_286 => (bk_inl ?_)))
          have h_287 := ir_41_4 hI_279
          have h_288 := ir_43 hI (c_278 41 4)
          have kn_289 : Hid (c_6 43 (c_278 41 4) = c 43 (c_278 41 4)) := hF_8 43 (c_278 41 4) (fun h => absurd h.1 (nn rfl))
          have kn_290 : Hid (c_19 43 (c_278 41 4) = c 43 (c_278 41 4)) := (hF_21 43 (c_278 41 4) (fun h => absurd h.1 (nn rfl))).trans (hid kn_289)
          have kn_291 : Hid (c_253 43 (c_278 41 4) = c 43 (c_278 41 4)) := (hF_255 43 (c_278 41 4) (fun h => absurd h.1 (nn rfl))).trans (hid kn_290)
          have h_292 : c_253 43 (c_278 41 4) = c 43 (c_278 41 4) := (hid kn_291)
          have h_293 := ir_43 hI (c_278 41 4 + 1)
          have kn_294 : Hid (c_6 43 (c_278 41 4 + 1) = c 43 (c_278 41 4 + 1)) := hF_8 43 (c_278 41 4 + 1) (fun h => absurd h.1 (nn rfl))
          have kn_295 : Hid (c_19 43 (c_278 41 4 + 1) = c 43 (c_278 41 4 + 1)) := (hF_21 43 (c_278 41 4 + 1) (fun h => absurd h.1 (nn rfl))).trans (hid kn_294)
          have kn_296 : Hid (c_253 43 (c_278 41 4 + 1) = c 43 (c_278 41 4 + 1)) := (hF_255 43 (c_278 41 4 + 1) (fun h => absurd h.1 (nn rfl))).trans (hid kn_295)
          have h_297 : c_253 43 (c_278 41 4 + 1) = c 43 (c_278 41 4 + 1) := (hid kn_296)
          have h_298 := ir_43 hI (c_278 41 4 + 2)
          have kn_299 : Hid (c_6 43 (c_278 41 4 + 2) = c 43 (c_278 41 4 + 2)) := hF_8 43 (c_278 41 4 + 2) (fun h => absurd h.1 (nn rfl))
          have kn_300 : Hid (c_19 43 (c_278 41 4 + 2) = c 43 (c_278 41 4 + 2)) := (hF_21 43 (c_278 41 4 + 2) (fun h => absurd h.1 (nn rfl))).trans (hid kn_299)
          have kn_301 : Hid (c_253 43 (c_278 41 4 + 2) = c 43 (c_278 41 4 + 2)) := (hF_255 43 (c_278 41 4 + 2) (fun h => absurd h.1 (nn rfl))).trans (hid kn_300)
          have h_302 : c_253 43 (c_278 41 4 + 2) = c 43 (c_278 41 4 + 2) := (hid kn_301)
          refine q_ldc_w_s c_176_98 rfl rfl (of_decide_eq_true rfl) (q_call c_176_101 rfl rfl rfl (s_158_21 (bk_inl ?_)))
          by_cases h_303 : y_281 ≠ 441972
          · refine v_ic_ne_t (t := 117) c_176_104 rfl ⟨h_303, ⟨hy_281.1, hy_281.2⟩, of_decide_eq_true rfl, of_decide_eq_true rfl⟩ (q_aload_n c_176_117 rfl ?_)
            have kn_304 : Hid (c_278 41 3 = c 41 3) := (hF_280 41 3 (fun h => absurd h.2 (ni rfl))).trans (hid kn_276)
            have h_305 : c_278 41 3 = c 41 3 := (hid kn_304)
            refine v_cv c_176_118 km_8_274 rfl rfl (Nat.le_of_ble_eq_true rfl) ⟨⟨rfl, rfl⟩, Nat.le_of_ble_eq_true rfl, rfl⟩ (Nat.le_of_ble_eq_true rfl) (Nat.le_of_ble_eq_true rfl) (s_172 hI_279 (fun c_306 y_309 hI_307 hF_308 hy_309 h_310 h_311 h_312 h_313 => (bk_inl ?_)))
            have h_314 := ir_41_4 hI_307
            have h_315 := ir_43 hI (c_306 41 4)
            have kn_316 : Hid (c_6 43 (c_306 41 4) = c 43 (c_306 41 4)) := hF_8 43 (c_306 41 4) (fun h => absurd h.1 (nn rfl))
            have kn_317 : Hid (c_19 43 (c_306 41 4) = c 43 (c_306 41 4)) := (hF_21 43 (c_306 41 4) (fun h => absurd h.1 (nn rfl))).trans (hid kn_316)
            have kn_318 : Hid (c_253 43 (c_306 41 4) = c 43 (c_306 41 4)) := (hF_255 43 (c_306 41 4) (fun h => absurd h.1 (nn rfl))).trans (hid kn_317)
            have kn_319 : Hid (c_278 43 (c_306 41 4) = c 43 (c_306 41 4)) := (hF_280 43 (c_306 41 4) (fun h => absurd h.1 (nn rfl))).trans (hid kn_318)
            have h_320 : c_278 43 (c_306 41 4) = c 43 (c_306 41 4) := (hid kn_319)
            refine q_istore_n c_176_121 (Nat.le_of_ble_eq_true rfl) (q_iload_n c_176_122 rfl (q_iconst c_176_123 ?_))
            by_cases h_321 : y_309 ≠ (-1)
            · refine v_ic_ne_t (t := 136) c_176_124 rfl ⟨h_321, ⟨(lel hy_309.1 rfl), (ler hy_309.2 rfl)⟩, of_decide_eq_true rfl, of_decide_eq_true rfl⟩ (q_aload_n c_176_136 rfl (v_cv c_176_137 km_8_131 rfl rfl (Nat.le_of_ble_eq_true rfl) ⟨⟨rfl, rfl⟩, Nat.le_of_ble_eq_true rfl, rfl⟩ (Nat.le_of_ble_eq_true rfl) (Nat.le_of_ble_eq_true rfl) (q_aload_n c_152_0 rfl ?_)))
              have kn_322 : Hid (c_6 41 5 = c 41 5) := hF_8 41 5 (fun h => absurd h.2 (ni rfl))
              have kn_323 : Hid (c_19 41 5 = c 41 5) := (hF_21 41 5 (fun h => absurd h.2 (ni rfl))).trans (hid kn_322)
              have kn_324 : Hid (c_253 41 5 = c 41 5) := (hF_255 41 5 (fun h => absurd h.2 (ni rfl))).trans (hid kn_323)
              have kn_325 : Hid (c_278 41 5 = c 41 5) := (hF_280 41 5 (fun h => absurd h.2 (ni rfl))).trans (hid kn_324)
              have kn_326 : Hid (c_306 41 5 = c 41 5) := (hF_308 41 5 (fun h => absurd h.2 (ni rfl))).trans (hid kn_325)
              refine v_gi (z := 5) (v := c 41 5) c_152_1 kf_8_102 rfl (Nat.le_of_ble_eq_true rfl) rfl rfl (hid kn_326) (q_iconst c_152_4 (v_ic_ne_f (t := 12) c_152_5 rfl ((q_ef26995af hq0)) (q_iconst c_152_8 (q_goto (t := 13) c_152_9 rfl (v_zret c_152_13 rfl (of_decide_eq_true rfl) (bk_inl (v_if_ne_t (t := 144) c_176_140 rfl (of_decide_eq_true rfl) ?_)))))))
              refine q_aload_n c_176_144 rfl ?_
              have kn_327 : Hid (c_306 41 3 = c 41 3) := (hF_308 41 3 (fun h => absurd h.2 (ni rfl))).trans (hid kn_304)
              have h_328 : c_306 41 3 = c 41 3 := (hid kn_327)
              have kn_329 : Hid (c_306 43 (c_306 41 4) = c 43 (c_306 41 4)) := (hF_308 43 (c_306 41 4) (fun h => absurd h.1 (nn rfl))).trans (hid kn_319)
              have h_330 : c_306 43 (c_306 41 4) = c 43 (c_306 41 4) := (hid kn_329)
              have h_331 := ir_43 hI (c_306 41 4 + 1)
              have kn_332 : Hid (c_6 43 (c_306 41 4 + 1) = c 43 (c_306 41 4 + 1)) := hF_8 43 (c_306 41 4 + 1) (fun h => absurd h.1 (nn rfl))
              have kn_333 : Hid (c_19 43 (c_306 41 4 + 1) = c 43 (c_306 41 4 + 1)) := (hF_21 43 (c_306 41 4 + 1) (fun h => absurd h.1 (nn rfl))).trans (hid kn_332)
              have kn_334 : Hid (c_253 43 (c_306 41 4 + 1) = c 43 (c_306 41 4 + 1)) := (hF_255 43 (c_306 41 4 + 1) (fun h => absurd h.1 (nn rfl))).trans (hid kn_333)
              have kn_335 : Hid (c_278 43 (c_306 41 4 + 1) = c 43 (c_306 41 4 + 1)) := (hF_280 43 (c_306 41 4 + 1) (fun h => absurd h.1 (nn rfl))).trans (hid kn_334)
              have kn_336 : Hid (c_306 43 (c_306 41 4 + 1) = c 43 (c_306 41 4 + 1)) := (hF_308 43 (c_306 41 4 + 1) (fun h => absurd h.1 (nn rfl))).trans (hid kn_335)
              have h_337 : c_306 43 (c_306 41 4 + 1) = c 43 (c_306 41 4 + 1) := (hid kn_336)
              have h_338 := ir_43 hI (c_306 41 4 + 2)
              have kn_339 : Hid (c_6 43 (c_306 41 4 + 2) = c 43 (c_306 41 4 + 2)) := hF_8 43 (c_306 41 4 + 2) (fun h => absurd h.1 (nn rfl))
              have kn_340 : Hid (c_19 43 (c_306 41 4 + 2) = c 43 (c_306 41 4 + 2)) := (hF_21 43 (c_306 41 4 + 2) (fun h => absurd h.1 (nn rfl))).trans (hid kn_339)
              have kn_341 : Hid (c_253 43 (c_306 41 4 + 2) = c 43 (c_306 41 4 + 2)) := (hF_255 43 (c_306 41 4 + 2) (fun h => absurd h.1 (nn rfl))).trans (hid kn_340)
              have kn_342 : Hid (c_278 43 (c_306 41 4 + 2) = c 43 (c_306 41 4 + 2)) := (hF_280 43 (c_306 41 4 + 2) (fun h => absurd h.1 (nn rfl))).trans (hid kn_341)
              have kn_343 : Hid (c_306 43 (c_306 41 4 + 2) = c 43 (c_306 41 4 + 2)) := (hF_308 43 (c_306 41 4 + 2) (fun h => absurd h.1 (nn rfl))).trans (hid kn_342)
              have h_344 : c_306 43 (c_306 41 4 + 2) = c 43 (c_306 41 4 + 2) := (hid kn_343)
              refine v_cv c_176_145 km_8_223 rfl rfl (Nat.le_of_ble_eq_true rfl) ⟨⟨rfl, rfl⟩, Nat.le_of_ble_eq_true rfl, rfl⟩ (Nat.le_of_ble_eq_true rfl) (Nat.le_of_ble_eq_true rfl) (s_159 hI_307 (fun c_345 hI_346 hF_347 h_348 h_349 h_350 h_351 => (bk_inl ?_)))
              have h_352 := ir_41_4 hI_346
              refine q_aload_n c_176_148 rfl (q_iconst c_176_149 (q_iload_n c_176_150 rfl ?_))
              have kn_353 : Hid (c_6 41 29 = c 41 29) := hF_8 41 29 (fun h => absurd h.2 (ni rfl))
              have kn_354 : Hid (c_19 41 29 = c 41 29) := (hF_21 41 29 (fun h => absurd h.2 (ni rfl))).trans (hid kn_353)
              have kn_355 : Hid (c_253 41 29 = c 41 29) := (hF_255 41 29 (fun h => absurd h.2 (ni rfl))).trans (hid kn_354)
              have kn_356 : Hid (c_278 41 29 = c 41 29) := (hF_280 41 29 (fun h => absurd h.2 (ni rfl))).trans (hid kn_355)
              have kn_357 : Hid (c_306 41 29 = c 41 29) := (hF_308 41 29 (fun h => absurd h.2 (ni rfl))).trans (hid kn_356)
              have kn_358 : Hid (c_345 41 29 = c 41 29) := (hF_347 41 29 (fun h => absurd h.2 (ni rfl))).trans (hid kn_357)
              have h_359 : c_345 41 29 = c 41 29 := (hid kn_358)
              have kn_360 : Hid (c_345 41 5 = c 41 5) := (hF_347 41 5 (fun h => absurd h.2 (ni rfl))).trans (hid kn_326)
              have h_361 : c_345 41 5 = c 41 5 := (hid kn_360)
              obtain ⟨hW_362, hN_363⟩ : Nw c_345 ∧ Nh c_345 = Nh c := nh_fr hW (fun j => (hF_347 50 j (fun h => absurd h.1 (nn rfl))).trans ((hF_308 50 j (fun h => absurd h.1 (nn rfl))).trans ((hF_280 50 j (fun h => absurd h.1 (nn rfl))).trans ((hF_255 50 j (fun h => absurd h.1 (nn rfl))).trans ((hF_21 50 j (fun h => absurd h.1 (nn rfl))).trans (hF_8 50 j (fun h => absurd h.1 (nn rfl)))))))) (fun j => (hF_347 51 j (fun h => absurd h.1 (nn rfl))).trans ((hF_308 51 j (fun h => absurd h.1 (nn rfl))).trans ((hF_280 51 j (fun h => absurd h.1 (nn rfl))).trans ((hF_255 51 j (fun h => absurd h.1 (nn rfl))).trans ((hF_21 51 j (fun h => absurd h.1 (nn rfl))).trans (hF_8 51 j (fun h => absurd h.1 (nn rfl)))))))) ((hF_347 41 29 (fun h => absurd h.2 (ni rfl))).trans ((hF_308 41 29 (fun h => absurd h.2 (ni rfl))).trans ((hF_280 41 29 (fun h => absurd h.2 (ni rfl))).trans ((hF_255 41 29 (fun h => absurd h.2 (ni rfl))).trans ((hF_21 41 29 (fun h => absurd h.2 (ni rfl))).trans (hF_8 41 29 (fun h => absurd h.2 (ni rfl))))))))
              refine v_cv c_176_151 km_8_242 rfl rfl (Nat.le_of_ble_eq_true rfl) ⟨⟨rfl, rfl⟩, Nat.le_of_ble_eq_true rfl, rfl⟩ (Nat.le_of_ble_eq_true rfl) (Nat.le_of_ble_eq_true rfl) (s_170 (a1 := 1) (a2 := y_309) hI_346 (show 0 ≤ 1 ∧ 1 ≤ 8 from ⟨of_decide_eq_true rfl, of_decide_eq_true rfl⟩) (show 0 ≤ y_309 ∧ y_309 ≤ 999 from ⟨by first | (clear ho hq0 hq1 hq2 hq3 hq4 h_1 h_2 h_3 h_4 h_5 hnn h_14 h_10 h_15 h_27 h_23 h_28 h_31 h_250 h_262 h_257 h_263 h_267 h_271 h_287 h_282 h_288 h_293 h_298 h_314 h_310 h_315 h_331 h_338 h_352 h_348 h_11 h_12 h_13 h_16 h_24 h_25 h_26 h_258 h_259 h_260 h_261 h_275 h_283 h_284 h_285 h_286 h_303 h_311 h_312 h_313 h_349 h_350 h_351; omega) | omega, (ler hy_309.2 rfl)⟩) hW_362 (Or.inr (Or.inr ((q_f71f6b032 h_10 h_23 h_24 h_250 hq2 hq3 h_18)))) (Or.inr (Or.inr (Or.inl (by first | decide | omega)))) (Or.inr (Or.inr (Or.inr (by first | (clear ho hq0 hq1 hq2 hq3 hq4 h_1 h_2 h_3 h_4 h_5 hnn h_14 h_10 h_15 h_27 h_23 h_28 h_31 h_250 h_262 h_257 h_263 h_267 h_271 h_287 h_282 h_288 h_293 h_298 h_314 h_310 h_315 h_331 h_338 h_352 h_348 h_11 h_12 h_13 h_16 h_24 h_25 h_26 h_258 h_259 h_260 h_261 h_275 h_283 h_284 h_285 h_286 h_303 h_311 h_312 h_313 h_321 h_349 h_350 h_351; omega) | omega)))) (fun c_364 hI_365 hF_366 hW_367 h_368 h_369 h_370 h_371 => (bk_inl ?_)))
              have h_372 := ir_41_29 hI_365
              refine q_vret rfl rfl ?_
              have kn_373 : Hid (c_364 41 4 = c_345 41 4) := hF_366 41 4 qn_fcc0aaabe
              have h_374 : c_364 41 4 = c_345 41 4 := (hid kn_373)
              have kn_375 : Hid (c_364 41 5 = c 41 5) := (hF_366 41 5 qn_c65a44569).trans (hid kn_360)
              have h_376 : c_364 41 5 = c 41 5 := (hid kn_375)
              have kn_377 : Hid (c_6 41 7 = c 41 7) := hF_8 41 7 (fun h => absurd h.2 (ni rfl))
              have kn_378 : Hid (c_19 41 7 = c 41 7) := (hF_21 41 7 (fun h => absurd h.2 (ni rfl))).trans (hid kn_377)
              have kn_379 : Hid (c_253 41 7 = c 41 7) := (hF_255 41 7 (fun h => absurd h.2 (ni rfl))).trans (hid kn_378)
              have kn_380 : Hid (c_278 41 7 = c 41 7) := (hF_280 41 7 (fun h => absurd h.2 (ni rfl))).trans (hid kn_379)
              have kn_381 : Hid (c_306 41 7 = c 41 7) := (hF_308 41 7 (fun h => absurd h.2 (ni rfl))).trans (hid kn_380)
              have kn_382 : Hid (c_345 41 7 = c 41 7) := (hF_347 41 7 (fun h => absurd h.2 (ni rfl))).trans (hid kn_381)
              have kn_383 : Hid (c_364 41 7 = c 41 7) := (hF_366 41 7 qn_5700af53f).trans (hid kn_382)
              have h_384 : c_364 41 7 = c 41 7 := (hid kn_383)
              exact K c_364 hI_365 (fun a j hm => (hF_366 a j (qv_d7b4eb562 hm)).trans ((hF_347 a j (fun h => hm (Or.inl h))).trans ((hF_308 a j (fun h => hm (Or.inl h))).trans ((hF_280 a j (fun h => hm (Or.inl h))).trans ((hF_255 a j (fun h => hm (Or.inl h))).trans ((hF_21 a j (fun h => hm (Or.inl h))).trans (hF_8 a j (fun h => hm (Or.inl h))))))))) hW_367 ((q_bd4440b4a h_10 h_23 h_257 h_282 h_310 h_348)) (by first | assumption | omega) (by first | (clear ho hq1 hq2 hq3 hq4 h_1 h_2 h_3 h_4 h_5 hnn h_14 h_15 h_27 h_28 h_31 h_262 h_263 h_267 h_271 h_287 h_288 h_293 h_298 h_314 h_315 h_331 h_338 h_352 h_372 h_11 h_12 h_13 h_16 h_25 h_26 h_258 h_259 h_260 h_261 h_275 h_283 h_284 h_285 h_286 h_303 h_311 h_312 h_349 h_351 h_369 h_370 h_371; omega) | omega) (Or.inr (Or.inr ((q_720c7dc9e h_24 h_250 h_258 h_283 h_311 h_349 h_18 h_252 h_277 h_305 h_328)))) (Or.inr (Or.inr (by first | (clear ho hq1 hq2 hq3 hq4 h_1 h_2 h_3 h_4 h_5 hnn h_14 h_10 h_15 h_27 h_23 h_28 h_31 h_250 h_262 h_257 h_263 h_267 h_271 h_287 h_282 h_288 h_293 h_298 h_314 h_310 h_315 h_331 h_338 h_352 h_348 h_372 h_11 h_12 h_13 h_16 h_24 h_25 h_26 h_258 h_259 h_260 h_261 h_275 h_283 h_284 h_285 h_286 h_303 h_311 h_312 h_313 h_321 h_349 h_350 h_351 h_368 h_369 h_371; omega) | omega)))
            · refine v_ic_ne_f (t := 136) c_176_124 rfl (Decidable.not_not.mp h_321) (q_aload_n c_176_127 rfl (q_iconst c_176_128 (q_aload_n c_176_129 rfl (v_gi (z := 4) (v := c_306 41 4) c_176_130 kf_8_108 rfl (Nat.le_of_ble_eq_true rfl) rfl rfl rfl (v_cv c_176_133 km_8_138 rfl rfl (Nat.le_of_ble_eq_true rfl) ⟨⟨rfl, rfl⟩, Nat.le_of_ble_eq_true rfl, rfl⟩ (Nat.le_of_ble_eq_true rfl) (Nat.le_of_ble_eq_true rfl) (s_153 (a1 := 1) (a2 := c_306 41 4) hI_307 (show 1 ≤ 1 ∧ 1 ≤ 3 from ⟨of_decide_eq_true rfl, of_decide_eq_true rfl⟩) (show 0 ≤ c_306 41 4 ∧ c_306 41 4 ≤ 605 from h_314) (fun c_385 hI_386 hF_387 h_388 => (bk_inl ?_))))))))
              have h_389 := ir_41_5 hI_386
              refine q_aload_n c_176_136 rfl (v_cv c_176_137 km_8_131 rfl rfl (Nat.le_of_ble_eq_true rfl) ⟨⟨rfl, rfl⟩, Nat.le_of_ble_eq_true rfl, rfl⟩ (Nat.le_of_ble_eq_true rfl) (Nat.le_of_ble_eq_true rfl) (q_aload_n c_152_0 rfl (v_gi (z := 5) (v := c_385 41 5) c_152_1 kf_8_102 rfl (Nat.le_of_ble_eq_true rfl) rfl rfl rfl (q_iconst c_152_4 (v_ic_ne_t (t := 12) c_152_5 rfl ⟨(q_e869299d0 h_388 h_389), ⟨(lel h_389.1 rfl), (ler h_389.2 rfl)⟩, of_decide_eq_true rfl, of_decide_eq_true rfl⟩ (q_iconst c_152_12 (v_zret c_152_13 rfl (of_decide_eq_true rfl) ?_)))))))
              refine bk_inl (v_if_ne_f (t := 144) c_176_140 rfl (of_decide_eq_true rfl) (q_vret rfl rfl ?_))
              obtain ⟨hW_390, hN_391⟩ : Nw c_385 ∧ Nh c_385 = Nh c := nh_fr hW (fun j => (hF_387 50 j (fun q => q.elim (fun h => absurd h.1 (nn rfl)) (fun h => absurd h.1 (nn rfl)))).trans ((hF_308 50 j (fun h => absurd h.1 (nn rfl))).trans ((hF_280 50 j (fun h => absurd h.1 (nn rfl))).trans ((hF_255 50 j (fun h => absurd h.1 (nn rfl))).trans ((hF_21 50 j (fun h => absurd h.1 (nn rfl))).trans (hF_8 50 j (fun h => absurd h.1 (nn rfl)))))))) (fun j => (hF_387 51 j (fun q => q.elim (fun h => absurd h.1 (nn rfl)) (fun h => absurd h.1 (nn rfl)))).trans ((hF_308 51 j (fun h => absurd h.1 (nn rfl))).trans ((hF_280 51 j (fun h => absurd h.1 (nn rfl))).trans ((hF_255 51 j (fun h => absurd h.1 (nn rfl))).trans ((hF_21 51 j (fun h => absurd h.1 (nn rfl))).trans (hF_8 51 j (fun h => absurd h.1 (nn rfl)))))))) ((hF_387 41 29 (fun q => q.elim (fun h => absurd h.2 (ni rfl)) (fun h => absurd h.2 (ni rfl)))).trans ((hF_308 41 29 (fun h => absurd h.2 (ni rfl))).trans ((hF_280 41 29 (fun h => absurd h.2 (ni rfl))).trans ((hF_255 41 29 (fun h => absurd h.2 (ni rfl))).trans ((hF_21 41 29 (fun h => absurd h.2 (ni rfl))).trans (hF_8 41 29 (fun h => absurd h.2 (ni rfl))))))))
              have kn_392 : Hid (c_6 41 29 = c 41 29) := hF_8 41 29 (fun h => absurd h.2 (ni rfl))
              have kn_393 : Hid (c_19 41 29 = c 41 29) := (hF_21 41 29 (fun h => absurd h.2 (ni rfl))).trans (hid kn_392)
              have kn_394 : Hid (c_253 41 29 = c 41 29) := (hF_255 41 29 (fun h => absurd h.2 (ni rfl))).trans (hid kn_393)
              have kn_395 : Hid (c_278 41 29 = c 41 29) := (hF_280 41 29 (fun h => absurd h.2 (ni rfl))).trans (hid kn_394)
              have kn_396 : Hid (c_306 41 29 = c 41 29) := (hF_308 41 29 (fun h => absurd h.2 (ni rfl))).trans (hid kn_395)
              have kn_397 : Hid (c_385 41 29 = c 41 29) := (hF_387 41 29 (fun q => q.elim (fun h => absurd h.2 (ni rfl)) (fun h => absurd h.2 (ni rfl)))).trans (hid kn_396)
              have h_398 : c_385 41 29 = c 41 29 := (hid kn_397)
              have kn_399 : Hid (c_385 41 4 = c_306 41 4) := hF_387 41 4 (fun q => q.elim (fun h => absurd h.2 (ni rfl)) (fun h => absurd h.2 (ni rfl)))
              have h_400 : c_385 41 4 = c_306 41 4 := (hid kn_399)
              have kn_401 : Hid (c_6 41 7 = c 41 7) := hF_8 41 7 (fun h => absurd h.2 (ni rfl))
              have kn_402 : Hid (c_19 41 7 = c 41 7) := (hF_21 41 7 (fun h => absurd h.2 (ni rfl))).trans (hid kn_401)
              have kn_403 : Hid (c_253 41 7 = c 41 7) := (hF_255 41 7 (fun h => absurd h.2 (ni rfl))).trans (hid kn_402)
              have kn_404 : Hid (c_278 41 7 = c 41 7) := (hF_280 41 7 (fun h => absurd h.2 (ni rfl))).trans (hid kn_403)
              have kn_405 : Hid (c_306 41 7 = c 41 7) := (hF_308 41 7 (fun h => absurd h.2 (ni rfl))).trans (hid kn_404)
              have kn_406 : Hid (c_385 41 7 = c 41 7) := (hF_387 41 7 (fun q => q.elim (fun h => absurd h.2 (ni rfl)) (fun h => absurd h.2 (ni rfl)))).trans (hid kn_405)
              have h_407 : c_385 41 7 = c 41 7 := (hid kn_406)
              exact K c_385 hI_386 (fun a j hm => (hF_387 a j (qv_0c9f14c52 hm)).trans ((hF_308 a j (fun h => hm (Or.inl h))).trans ((hF_280 a j (fun h => hm (Or.inl h))).trans ((hF_255 a j (fun h => hm (Or.inl h))).trans ((hF_21 a j (fun h => hm (Or.inl h))).trans (hF_8 a j (fun h => hm (Or.inl h)))))))) hW_390 ((q_fdaccc704 h_10 h_23 h_257 h_282 h_310)) (by first | assumption | omega) ((q_d4f8c5bee h_10 h_23 h_257 h_282 h_310)) (Or.inr (Or.inl ((q_a3ee8eff6 h_388 h_389)))) (Or.inr (Or.inl ((q_a3ee8eff6 h_388 h_389))))
          · refine v_ic_ne_f (t := 117) c_176_104 rfl (Decidable.not_not.mp h_303) (q_aload_n c_176_107 rfl (q_iconst c_176_108 (v_bip c_176_109 (of_decide_eq_true rfl) ?_)))
            have kn_408 : Hid (c_6 41 5 = c 41 5) := hF_8 41 5 (fun h => absurd h.2 (ni rfl))
            have kn_409 : Hid (c_19 41 5 = c 41 5) := (hF_21 41 5 (fun h => absurd h.2 (ni rfl))).trans (hid kn_408)
            have kn_410 : Hid (c_253 41 5 = c 41 5) := (hF_255 41 5 (fun h => absurd h.2 (ni rfl))).trans (hid kn_409)
            have kn_411 : Hid (c_278 41 5 = c 41 5) := (hF_280 41 5 (fun h => absurd h.2 (ni rfl))).trans (hid kn_410)
            have h_412 : c_278 41 5 = c 41 5 := (hid kn_411)
            have kn_413 : Hid (c_278 41 3 = c 41 3) := (hF_280 41 3 (fun h => absurd h.2 (ni rfl))).trans (hid kn_276)
            have h_414 : c_278 41 3 = c 41 3 := (hid kn_413)
            have kn_415 : Hid (c_6 41 29 = c 41 29) := hF_8 41 29 (fun h => absurd h.2 (ni rfl))
            have kn_416 : Hid (c_19 41 29 = c 41 29) := (hF_21 41 29 (fun h => absurd h.2 (ni rfl))).trans (hid kn_415)
            have kn_417 : Hid (c_253 41 29 = c 41 29) := (hF_255 41 29 (fun h => absurd h.2 (ni rfl))).trans (hid kn_416)
            have kn_418 : Hid (c_278 41 29 = c 41 29) := (hF_280 41 29 (fun h => absurd h.2 (ni rfl))).trans (hid kn_417)
            have h_419 : c_278 41 29 = c 41 29 := (hid kn_418)
            have kn_420 : Hid (c_6 41 7 = c 41 7) := hF_8 41 7 (fun h => absurd h.2 (ni rfl))
            have kn_421 : Hid (c_19 41 7 = c 41 7) := (hF_21 41 7 (fun h => absurd h.2 (ni rfl))).trans (hid kn_420)
            have kn_422 : Hid (c_253 41 7 = c 41 7) := (hF_255 41 7 (fun h => absurd h.2 (ni rfl))).trans (hid kn_421)
            have kn_423 : Hid (c_278 41 7 = c 41 7) := (hF_280 41 7 (fun h => absurd h.2 (ni rfl))).trans (hid kn_422)
            have h_424 : c_278 41 7 = c 41 7 := (hid kn_423)
            obtain ⟨hW_425, hN_426⟩ : Nw c_278 ∧ Nh c_278 = Nh c := nh_fr hW (fun j => (hF_280 50 j (fun h => absurd h.1 (nn rfl))).trans ((hF_255 50 j (fun h => absurd h.1 (nn rfl))).trans ((hF_21 50 j (fun h => absurd h.1 (nn rfl))).trans (hF_8 50 j (fun h => absurd h.1 (nn rfl)))))) (fun j => (hF_280 51 j (fun h => absurd h.1 (nn rfl))).trans ((hF_255 51 j (fun h => absurd h.1 (nn rfl))).trans ((hF_21 51 j (fun h => absurd h.1 (nn rfl))).trans (hF_8 51 j (fun h => absurd h.1 (nn rfl)))))) ((hF_280 41 29 (fun h => absurd h.2 (ni rfl))).trans ((hF_255 41 29 (fun h => absurd h.2 (ni rfl))).trans ((hF_21 41 29 (fun h => absurd h.2 (ni rfl))).trans (hF_8 41 29 (fun h => absurd h.2 (ni rfl))))))
            refine v_cv c_176_111 km_8_269 rfl rfl (Nat.le_of_ble_eq_true rfl) ⟨⟨rfl, rfl⟩, Nat.le_of_ble_eq_true rfl, rfl⟩ (Nat.le_of_ble_eq_true rfl) (Nat.le_of_ble_eq_true rfl) (s_175 (o := o) (a1 := 4) (a2 := 7) hI_279 (show 4 ≤ 4 ∧ 4 ≤ 5 from ⟨of_decide_eq_true rfl, of_decide_eq_true rfl⟩) (show 6 ≤ 7 ∧ 7 ≤ 7 from ⟨of_decide_eq_true rfl, of_decide_eq_true rfl⟩) (show 0 ≤ o ∧ o ≤ 6 from by omega) hW_425 ((q_ef26995af hq0)) ((q_f38071e10 h_284 h_303 h_277)) ((q_7024b37ce hq2)) ((q_c26d8ce25 h_10 h_23 h_257 h_282 hq3)) ((q_cea541e22 hq4)) ((q_b7af7f5c6 h_284 h_303 h_277)) H174 (fun c_427 hI_428 hF_429 hW_430 h_431 h_432 h_433 h_434 h_435 => (bk_inl ?_)))
            have h_436 := ir_41_4 hI_428
            have h_437 := ir_41_7 hI_428
            have h_438 := ir_41_29 hI_428
            have h_439 := ir_41_5 hI_428
            refine q_goto (t := 154) c_176_114 rfl (q_vret rfl rfl ?_)
            exact K c_427 hI_428 (fun a j hm => (hF_429 a j hm).trans ((hF_280 a j (fun h => hm (Or.inl h))).trans ((hF_255 a j (fun h => hm (Or.inl h))).trans ((hF_21 a j (fun h => hm (Or.inl h))).trans (hF_8 a j (fun h => hm (Or.inl h))))))) hW_430 ((q_fdaccc704 h_10 h_23 h_257 h_282 h_431)) ((q_1bb533b1a h_432 h_424)) ((q_476aec965 h_10 h_23 h_257 h_282 h_433 h_419)) (by omega) (by omega)
        · refine v_ic_ne_f (t := 94) c_176_81 rfl (Decidable.not_not.mp h_275) (q_aload_n c_176_84 rfl (q_iconst c_176_85 (v_bip c_176_86 (of_decide_eq_true rfl) ?_)))
          have kn_440 : Hid (c_6 41 5 = c 41 5) := hF_8 41 5 (fun h => absurd h.2 (ni rfl))
          have kn_441 : Hid (c_19 41 5 = c 41 5) := (hF_21 41 5 (fun h => absurd h.2 (ni rfl))).trans (hid kn_440)
          have kn_442 : Hid (c_253 41 5 = c 41 5) := (hF_255 41 5 (fun h => absurd h.2 (ni rfl))).trans (hid kn_441)
          have h_443 : c_253 41 5 = c 41 5 := (hid kn_442)
          have kn_444 : Hid (c_253 41 3 = c 41 3) := (hF_255 41 3 (fun h => absurd h.2 (ni rfl))).trans (hid kn_251)
          have h_445 : c_253 41 3 = c 41 3 := (hid kn_444)
          have kn_446 : Hid (c_6 41 29 = c 41 29) := hF_8 41 29 (fun h => absurd h.2 (ni rfl))
          have kn_447 : Hid (c_19 41 29 = c 41 29) := (hF_21 41 29 (fun h => absurd h.2 (ni rfl))).trans (hid kn_446)
          have kn_448 : Hid (c_253 41 29 = c 41 29) := (hF_255 41 29 (fun h => absurd h.2 (ni rfl))).trans (hid kn_447)
          have h_449 : c_253 41 29 = c 41 29 := (hid kn_448)
          have kn_450 : Hid (c_6 41 7 = c 41 7) := hF_8 41 7 (fun h => absurd h.2 (ni rfl))
          have kn_451 : Hid (c_19 41 7 = c 41 7) := (hF_21 41 7 (fun h => absurd h.2 (ni rfl))).trans (hid kn_450)
          have kn_452 : Hid (c_253 41 7 = c 41 7) := (hF_255 41 7 (fun h => absurd h.2 (ni rfl))).trans (hid kn_451)
          have h_453 : c_253 41 7 = c 41 7 := (hid kn_452)
          obtain ⟨hW_454, hN_455⟩ : Nw c_253 ∧ Nh c_253 = Nh c := nh_fr hW (fun j => (hF_255 50 j (fun h => absurd h.1 (nn rfl))).trans ((hF_21 50 j (fun h => absurd h.1 (nn rfl))).trans (hF_8 50 j (fun h => absurd h.1 (nn rfl))))) (fun j => (hF_255 51 j (fun h => absurd h.1 (nn rfl))).trans ((hF_21 51 j (fun h => absurd h.1 (nn rfl))).trans (hF_8 51 j (fun h => absurd h.1 (nn rfl))))) ((hF_255 41 29 (fun h => absurd h.2 (ni rfl))).trans ((hF_21 41 29 (fun h => absurd h.2 (ni rfl))).trans (hF_8 41 29 (fun h => absurd h.2 (ni rfl)))))
          refine v_cv c_176_88 km_8_269 rfl rfl (Nat.le_of_ble_eq_true rfl) ⟨⟨rfl, rfl⟩, Nat.le_of_ble_eq_true rfl, rfl⟩ (Nat.le_of_ble_eq_true rfl) (Nat.le_of_ble_eq_true rfl) (s_175 (o := o) (a1 := 5) (a2 := 6) hI_254 (show 4 ≤ 5 ∧ 5 ≤ 5 from ⟨of_decide_eq_true rfl, of_decide_eq_true rfl⟩) (show 6 ≤ 6 ∧ 6 ≤ 7 from ⟨of_decide_eq_true rfl, of_decide_eq_true rfl⟩) (show 0 ≤ o ∧ o ≤ 6 from by omega) hW_454 ((q_ef26995af hq0)) ((q_578fd8ea3 h_259 h_275 h_252)) ((q_7024b37ce hq2)) ((q_e4cb9442e h_10 h_23 h_257 hq3)) ((q_cea541e22 hq4)) ((q_79cb9195c h_259 h_275 h_252)) H174 (fun c_456 hI_457 hF_458 hW_459 h_460 h_461 h_462 h_463 h_464 => (bk_inl ?_)))
          have h_465 := ir_41_4 hI_457
          have h_466 := ir_41_7 hI_457
          have h_467 := ir_41_29 hI_457
          have h_468 := ir_41_5 hI_457
          refine q_goto (t := 154) c_176_91 rfl (q_vret rfl rfl ?_)
          exact K c_456 hI_457 (fun a j hm => (hF_458 a j hm).trans ((hF_255 a j (fun h => hm (Or.inl h))).trans ((hF_21 a j (fun h => hm (Or.inl h))).trans (hF_8 a j (fun h => hm (Or.inl h)))))) hW_459 ((q_da394354d h_10 h_23 h_257 h_460)) ((q_1bb533b1a h_461 h_453)) ((q_e592de870 h_10 h_23 h_257 h_462 h_449)) (by omega) (by omega)
      · refine v_ic_gt_f (t := 16) c_156_9 rfl ⟨hy_22.1, (Int.not_lt.mp h_250), of_decide_eq_true rfl⟩ (q_iconst c_156_12 (q_goto (t := 17) c_156_13 rfl (v_zret c_156_17 rfl (of_decide_eq_true rfl) (bk_inl (v_if_eq_f (t := 71) c_176_52 rfl (of_decide_eq_true rfl) (q_aload_n c_176_55 rfl (q_iconst c_176_56 ?_)))))))
        refine q_aload_n c_176_57 rfl (q_iconst c_176_58 (v_sip c_176_59 (of_decide_eq_true rfl) ?_))
        have kn_469 : Hid (c_19 41 3 = c 41 3) := (hF_21 41 3 (fun h => absurd h.2 (ni rfl))).trans (hid kn_17)
        have h_470 : c_19 41 3 = c 41 3 := (hid kn_469)
        have kn_471 : Hid (c_6 41 5 = c 41 5) := hF_8 41 5 (fun h => absurd h.2 (ni rfl))
        have kn_472 : Hid (c_19 41 5 = c 41 5) := (hF_21 41 5 (fun h => absurd h.2 (ni rfl))).trans (hid kn_471)
        have h_473 : c_19 41 5 = c 41 5 := (hid kn_472)
        refine v_cv c_176_62 km_8_199 rfl rfl (Nat.le_of_ble_eq_true rfl) ⟨⟨rfl, rfl⟩, Nat.le_of_ble_eq_true rfl, rfl⟩ (Nat.le_of_ble_eq_true rfl) (Nat.le_of_ble_eq_true rfl) (s_160 (a1 := 0) (a2 := 999) hI_20 (show 0 ≤ 0 ∧ 0 ≤ 1 from ⟨of_decide_eq_true rfl, of_decide_eq_true rfl⟩) (show (-1) ≤ 999 ∧ 999 ≤ 9999 from ⟨of_decide_eq_true rfl, of_decide_eq_true rfl⟩) (fun c_474 y_477 hI_475 hF_476 hy_477 h_478 h_479 h_480 h_481 h_482 => (bk_inl ?_)))
        have h_483 := ir_41_4 hI_475
        have h_484 := ir_41_5 hI_475
        have kn_485 : Hid (c_6 41 29 = c 41 29) := hF_8 41 29 (fun h => absurd h.2 (ni rfl))
        have kn_486 : Hid (c_19 41 29 = c 41 29) := (hF_21 41 29 (fun h => absurd h.2 (ni rfl))).trans (hid kn_485)
        have kn_487 : Hid (c_474 41 29 = c 41 29) := (hF_476 41 29 qn_56e241d1f).trans (hid kn_486)
        have h_488 : c_474 41 29 = c 41 29 := (hid kn_487)
        obtain ⟨hW_489, hN_490⟩ : Nw c_474 ∧ Nh c_474 = Nh c := nh_fr hW (fun j => (hF_476 50 j qn_a830d9710).trans ((hF_21 50 j (fun h => absurd h.1 (nn rfl))).trans (hF_8 50 j (fun h => absurd h.1 (nn rfl))))) (fun j => (hF_476 51 j qn_b10baaf0c).trans ((hF_21 51 j (fun h => absurd h.1 (nn rfl))).trans (hF_8 51 j (fun h => absurd h.1 (nn rfl))))) ((hF_476 41 29 qn_56e241d1f).trans ((hF_21 41 29 (fun h => absurd h.2 (ni rfl))).trans (hF_8 41 29 (fun h => absurd h.2 (ni rfl)))))
        refine v_cv c_176_65 km_8_242 rfl rfl (Nat.le_of_ble_eq_true rfl) ⟨⟨rfl, rfl⟩, Nat.le_of_ble_eq_true rfl, rfl⟩ (Nat.le_of_ble_eq_true rfl) (Nat.le_of_ble_eq_true rfl) (s_170 (a1 := 0) (a2 := y_477) hI_475 (show 0 ≤ 0 ∧ 0 ≤ 8 from ⟨of_decide_eq_true rfl, of_decide_eq_true rfl⟩) (show 0 ≤ y_477 ∧ y_477 ≤ 999 from ⟨hy_477.1, (q_402c5255b h_480)⟩) hW_489 (Or.inr (Or.inr ((q_fd85bb294 h_10 h_23 h_24 h_31 hq2 hq3 h_18)))) (Or.inr (Or.inr (Or.inl (by first | decide | omega)))) (Or.inr (Or.inr (Or.inl (by first | decide | omega)))) (fun c_491 hI_492 hF_493 hW_494 h_495 h_496 h_497 h_498 => (bk_inl ?_)))
        have h_499 := ir_41_29 hI_492
        refine q_goto (t := 154) c_176_68 rfl (q_vret rfl rfl ?_)
        have kn_500 : Hid (c_491 41 4 = c_474 41 4) := hF_493 41 4 qn_fcc0aaabe
        have h_501 : c_491 41 4 = c_474 41 4 := (hid kn_500)
        have kn_502 : Hid (c_491 41 5 = c_474 41 5) := hF_493 41 5 qn_c65a44569
        have h_503 : c_491 41 5 = c_474 41 5 := (hid kn_502)
        have kn_504 : Hid (c_6 41 7 = c 41 7) := hF_8 41 7 (fun h => absurd h.2 (ni rfl))
        have kn_505 : Hid (c_19 41 7 = c 41 7) := (hF_21 41 7 (fun h => absurd h.2 (ni rfl))).trans (hid kn_504)
        have kn_506 : Hid (c_474 41 7 = c 41 7) := (hF_476 41 7 qn_fb1117a24).trans (hid kn_505)
        have kn_507 : Hid (c_491 41 7 = c 41 7) := (hF_493 41 7 qn_5700af53f).trans (hid kn_506)
        have h_508 : c_491 41 7 = c 41 7 := (hid kn_507)
        exact K c_491 hI_492 (fun a j hm => (hF_493 a j (qv_d7b4eb562 hm)).trans ((hF_476 a j (qv_79b37c5f3 hm)).trans ((hF_21 a j (fun h => hm (Or.inl h))).trans (hF_8 a j (fun h => hm (Or.inl h)))))) hW_494 ((q_3fb8a741c h_10 h_23 h_478)) (by first | assumption | omega) ((q_c7d431fc0 h_10 h_23 h_478 h_482 h_495 h_496 h_470 h_473 h_488)) (Or.inr (Or.inr ((q_aaac5bbff h_24 h_31 h_479 h_18 h_470)))) (by omega)
  · refine v_ic_ne_f (t := 45) c_176_14 rfl (Decidable.not_not.mp h_16) (q_aload_n c_176_17 rfl (q_iconst c_176_18 ?_))
    have kn_509 : Hid (c_6 41 7 = c 41 7) := hF_8 41 7 (fun h => absurd h.2 (ni rfl))
    have h_510 : c_6 41 7 = c 41 7 := (hid kn_509)
    have kn_511 : Hid (c_6 41 5 = c 41 5) := hF_8 41 5 (fun h => absurd h.2 (ni rfl))
    have h_512 : c_6 41 5 = c 41 5 := (hid kn_511)
    refine v_cv c_176_19 km_8_248 rfl rfl (Nat.le_of_ble_eq_true rfl) ⟨⟨rfl, rfl⟩, Nat.le_of_ble_eq_true rfl, rfl⟩ (Nat.le_of_ble_eq_true rfl) (Nat.le_of_ble_eq_true rfl) (s_171 (a1 := 1) hI_7 (show 1 ≤ 1 ∧ 1 ≤ 5 from ⟨of_decide_eq_true rfl, of_decide_eq_true rfl⟩) ((q_669679922 ho hq4)) ((q_176d7b69d h_11 h_16 hq2)) (fun c_513 hI_514 hF_515 h_516 h_517 h_518 h_519 => (bk_inl ?_)))
    have h_520 := ir_41_4 hI_514
    have h_521 := ir_41_7 hI_514
    have h_522 := ir_41_5 hI_514
    refine q_aload_n c_176_22 rfl ?_
    by_cases h_523 : c_513 41 5 = -1
    · skip
      have kn_524 : Hid (c_6 41 3 = c 41 3) := hF_8 41 3 (fun h => absurd h.2 (ni rfl))
      have kn_525 : Hid (c_513 41 3 = c 41 3) := (hF_515 41 3 qn_e8a085a5c).trans (hid kn_524)
      have h_526 : c_513 41 3 = c 41 3 := (hid kn_525)
      have kn_527 : Hid (c_6 41 29 = c 41 29) := hF_8 41 29 (fun h => absurd h.2 (ni rfl))
      have kn_528 : Hid (c_513 41 29 = c 41 29) := (hF_515 41 29 qn_ae3f17736).trans (hid kn_527)
      have h_529 : c_513 41 29 = c 41 29 := (hid kn_528)
      obtain ⟨hW_530, hN_531⟩ : Nw c_513 ∧ Nh c_513 = Nh c := nh_fr hW (fun j => (hF_515 50 j qn_6ba3ccab5).trans (hF_8 50 j (fun h => absurd h.1 (nn rfl)))) (fun j => (hF_515 51 j qn_a6960f5c9).trans (hF_8 51 j (fun h => absurd h.1 (nn rfl)))) ((hF_515 41 29 qn_ae3f17736).trans (hF_8 41 29 (fun h => absurd h.2 (ni rfl))))
      refine v_cv c_176_23 km_8_251 rfl rfl (Nat.le_of_ble_eq_true rfl) ⟨⟨rfl, rfl⟩, Nat.le_of_ble_eq_true rfl, rfl⟩ (Nat.le_of_ble_eq_true rfl) (Nat.le_of_ble_eq_true rfl) (H174 _ _ _ (by omega) (by omega) hI_514 hW_530 (by first | (clear ho hq0 hq1 hq2 hq3 hq4 h_1 h_2 h_3 h_4 h_5 hnn h_14 h_10 h_15 h_16 h_520 h_516 h_521 h_517 h_11 h_12 h_13 h_518 h_519; omega) | omega) (by first | (clear ho hq0 hq1 hq2 hq3 hq4 h_1 h_2 h_3 h_4 h_5 hnn h_14 h_10 h_15 h_520 h_516 h_521 h_517 h_522 h_12 h_13 h_518; omega) | omega) ((q_7024b37ce hq2)) ((q_2a284ad14 h_10 h_516 hq3)) (by omega) (fun c_532 hI_533 hF_534 hW_535 h_536 h_537 h_538 h_539 h_540 => (bk_inl ?_)))
      have h_541 := ir_41_4 hI_533
      have h_542 := ir_41_7 hI_533
      have h_543 := ir_41_29 hI_533
      have h_544 := ir_41_5 hI_533
      refine q_aload_n c_176_26 rfl (v_bip c_176_27 (of_decide_eq_true rfl) ?_)
      have kn_545 : Hid (c_532 41 3 = c 41 3) := (hF_534 41 3 qn_d31ba9b5e).trans (hid kn_525)
      have h_546 : c_532 41 3 = c 41 3 := (hid kn_545)
      refine v_cv c_176_29 km_8_229 rfl rfl (Nat.le_of_ble_eq_true rfl) ⟨⟨rfl, rfl⟩, Nat.le_of_ble_eq_true rfl, rfl⟩ (Nat.le_of_ble_eq_true rfl) (Nat.le_of_ble_eq_true rfl) (s_161 (a1 := 41) hI_533 (show 1 ≤ 41 ∧ 41 ≤ 255 from ⟨of_decide_eq_true rfl, of_decide_eq_true rfl⟩) (fun c_547 hI_548 hF_549 h_550 h_551 h_552 h_553 => (bk_inl ?_)))
      have h_554 := ir_41_4 hI_548
      have h_555 := ir_41_5 hI_548
      refine q_aload_n c_176_32 rfl (q_dup c_176_33 rfl ?_)
      have kn_556 : Hid (c_547 41 7 = c_532 41 7) := hF_549 41 7 qn_fb1117a24
      refine v_gi (z := 7) (v := c_532 41 7) c_176_34 kf_8_142 rfl (Nat.le_of_ble_eq_true rfl) rfl rfl (hid kn_556) (q_iconst c_176_37 (v_isub (v := c_532 41 7 - 1) c_176_38 rfl (v_pi (z := 7) c_176_39 kf_8_142 rfl (Nat.le_of_ble_eq_true rfl) rfl rfl rfl (of_decide_eq_true rfl) (q_goto (t := 154) c_176_42 rfl (q_vret rfl rfl ?_)))))
      have hI_557 := iw_41_7 (v := c_532 41 7 - 1) hI_548 ⟨(q_ec8e75e0a h_5 h_517 h_537 h_510), (rgm_h h_542.2 (of_decide_eq_true rfl))⟩
      obtain ⟨hW_558, hN_559⟩ : Nw (up c_547 41 7 (c_532 41 7 - 1)) ∧ Nh (up c_547 41 7 (c_532 41 7 - 1)) = Nh c_532 := nh_fr hW_535 (fun j => (up_c (nn rfl)).trans (hF_549 50 j qn_a830d9710)) (fun j => (up_c (nn rfl)).trans (hF_549 51 j qn_b10baaf0c)) ((up_n (ni rfl)).trans (hF_549 41 29 qn_56e241d1f))
      have kn_560 : Hid (c_547 41 29 = c_532 41 29) := hF_549 41 29 qn_56e241d1f
      have h_561 : (up c_547 41 7 (c_532 41 7 - 1)) 41 29 = c_532 41 29 := ((up_n (ni rfl)).trans (hid kn_560))
      have h_562 : (up c_547 41 7 (c_532 41 7 - 1)) 41 4 = c_547 41 4 := (up_n (ni rfl))
      have h_563 : (up c_547 41 7 (c_532 41 7 - 1)) 41 5 = c_547 41 5 := (up_n (ni rfl))
      have h_564 : (up c_547 41 7 (c_532 41 7 - 1)) 41 7 = c_532 41 7 - 1 := (up_e rfl)
      exact K (up c_547 41 7 (c_532 41 7 - 1)) hI_557 (fun a j hm => (up_b (Decidable.or_iff_not_imp_left.mpr (fun h1 h2 => hm (Or.inr (Or.inr (Or.inr (Or.inl ⟨Decidable.not_not.mp h1, h2⟩))))))).trans ((hF_549 a j (qv_79b37c5f3 hm)).trans ((hF_534 a j hm).trans ((hF_515 a j (qv_d0add4e0b hm)).trans (hF_8 a j (fun h => hm (Or.inl h))))))) hW_558 ((q_da394354d h_10 h_516 h_536 h_550)) ((q_e6c1b6bd1 h_517 h_537 h_510)) ((q_fdeaade18 h_10 h_516 h_538 h_550 h_529)) (by omega) (by omega)
    · skip
      have h_565 : ¬ c_513 41 5 = -1 := by rw [show c_513 41 5 = c_513 41 5 from rfl]; omega
      refine v_cv c_176_23 km_8_251 rfl rfl (Nat.le_of_ble_eq_true rfl) ⟨⟨rfl, rfl⟩, Nat.le_of_ble_eq_true rfl, rfl⟩ (Nat.le_of_ble_eq_true rfl) (Nat.le_of_ble_eq_true rfl) (n_174 hI_514 (by omega) (bk_inl (q_aload_n c_176_26 rfl (v_bip c_176_27 (of_decide_eq_true rfl) ?_))))
      have kn_566 : Hid (c_6 41 3 = c 41 3) := hF_8 41 3 (fun h => absurd h.2 (ni rfl))
      have kn_567 : Hid (c_513 41 3 = c 41 3) := (hF_515 41 3 qn_e8a085a5c).trans (hid kn_566)
      have h_568 : c_513 41 3 = c 41 3 := (hid kn_567)
      refine v_cv c_176_29 km_8_229 rfl rfl (Nat.le_of_ble_eq_true rfl) ⟨⟨rfl, rfl⟩, Nat.le_of_ble_eq_true rfl, rfl⟩ (Nat.le_of_ble_eq_true rfl) (Nat.le_of_ble_eq_true rfl) (s_161 (a1 := 41) hI_514 (show 1 ≤ 41 ∧ 41 ≤ 255 from ⟨of_decide_eq_true rfl, of_decide_eq_true rfl⟩) (fun c_569 hI_570 hF_571 h_572 h_573 h_574 h_575 => (bk_inl ?_)))
      have h_576 := ir_41_4 hI_570
      have h_577 := ir_41_5 hI_570
      refine q_aload_n c_176_32 rfl (q_dup c_176_33 rfl ?_)
      have kn_578 : Hid (c_569 41 7 = c_513 41 7) := hF_571 41 7 qn_fb1117a24
      refine v_gi (z := 7) (v := c_513 41 7) c_176_34 kf_8_142 rfl (Nat.le_of_ble_eq_true rfl) rfl rfl (hid kn_578) (q_iconst c_176_37 (v_isub (v := c_513 41 7 - 1) c_176_38 rfl (v_pi (z := 7) c_176_39 kf_8_142 rfl (Nat.le_of_ble_eq_true rfl) rfl rfl rfl (of_decide_eq_true rfl) (q_goto (t := 154) c_176_42 rfl (q_vret rfl rfl ?_)))))
      have hI_579 := iw_41_7 (v := c_513 41 7 - 1) hI_570 ⟨(q_4700e233f h_5 h_517 h_510), (rgm_h h_521.2 (of_decide_eq_true rfl))⟩
      obtain ⟨hW_580, hN_581⟩ : Nw (up c_569 41 7 (c_513 41 7 - 1)) ∧ Nh (up c_569 41 7 (c_513 41 7 - 1)) = Nh c := nh_fr hW (fun j => (up_c (nn rfl)).trans ((hF_571 50 j qn_a830d9710).trans ((hF_515 50 j qn_6ba3ccab5).trans (hF_8 50 j (fun h => absurd h.1 (nn rfl)))))) (fun j => (up_c (nn rfl)).trans ((hF_571 51 j qn_b10baaf0c).trans ((hF_515 51 j qn_a6960f5c9).trans (hF_8 51 j (fun h => absurd h.1 (nn rfl)))))) ((up_n (ni rfl)).trans ((hF_571 41 29 qn_56e241d1f).trans ((hF_515 41 29 qn_ae3f17736).trans (hF_8 41 29 (fun h => absurd h.2 (ni rfl))))))
      have kn_582 : Hid (c_6 41 29 = c 41 29) := hF_8 41 29 (fun h => absurd h.2 (ni rfl))
      have kn_583 : Hid (c_513 41 29 = c 41 29) := (hF_515 41 29 qn_ae3f17736).trans (hid kn_582)
      have kn_584 : Hid (c_569 41 29 = c 41 29) := (hF_571 41 29 qn_56e241d1f).trans (hid kn_583)
      have h_585 : (up c_569 41 7 (c_513 41 7 - 1)) 41 29 = c 41 29 := ((up_n (ni rfl)).trans (hid kn_584))
      have h_586 : (up c_569 41 7 (c_513 41 7 - 1)) 41 4 = c_569 41 4 := (up_n (ni rfl))
      have h_587 : (up c_569 41 7 (c_513 41 7 - 1)) 41 5 = c_569 41 5 := (up_n (ni rfl))
      have h_588 : (up c_569 41 7 (c_513 41 7 - 1)) 41 7 = c_513 41 7 - 1 := (up_e rfl)
      exact K (up c_569 41 7 (c_513 41 7 - 1)) hI_579 (fun a j hm => (up_b (Decidable.or_iff_not_imp_left.mpr (fun h1 h2 => hm (Or.inr (Or.inr (Or.inr (Or.inl ⟨Decidable.not_not.mp h1, h2⟩))))))).trans ((hF_571 a j (qv_79b37c5f3 hm)).trans ((hF_515 a j (qv_d0add4e0b hm)).trans (hF_8 a j (fun h => hm (Or.inl h)))))) hW_580 ((q_3fb8a741c h_10 h_516 h_572)) ((q_b177a02cd h_517 h_510)) ((q_7d20861f4 h_10 h_516 h_572)) (Or.inr (Or.inl (by first | (clear ho hq0 hq1 hq2 hq3 hq4 h_1 h_2 h_3 h_4 h_5 hnn h_14 h_10 h_15 h_16 h_520 h_516 h_521 h_517 h_522 h_576 h_572 h_11 h_12 h_13 h_518 h_519 h_573 h_575; omega) | omega))) (Or.inr (Or.inl (by first | (clear ho hq0 hq1 hq2 hq3 hq4 h_1 h_2 h_3 h_4 h_5 hnn h_14 h_10 h_15 h_16 h_520 h_516 h_521 h_517 h_522 h_576 h_572 h_11 h_12 h_13 h_518 h_519 h_573 h_575; omega) | omega)))
