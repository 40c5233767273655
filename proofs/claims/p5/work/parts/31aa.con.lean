/-! ===== contracts 1 ===== -/
theorem q_3b2b08511 {x0 : Int} (f0 : 0 ≤ x0 ∧ x0 ≤ 600) : (-2147483648) ≤ x0 := by omega
theorem q_3885e607f {x0 : Int} (f0 : 0 ≤ x0 ∧ x0 ≤ 600) : x0 ≤ 2147483647 := by omega
theorem q_364416c3d {x0 x1 : Int} (f0 : 0 ≤ x0 ∧ x0 ≤ 600) (f1 : ¬ (x1 ≥ x0)) : x1 < 600 := by omega
theorem q_cc1935a2a {x0 : Int} (f0 : (-2147483648) ≤ x0 ∧ x0 ≤ 2147483647) : (-2147483648) ≤ x0 := by omega
theorem q_4e52e4576 {x0 : Int} (f0 : (-2147483648) ≤ x0 ∧ x0 ≤ 2147483647) : x0 ≤ 2147483647 := by omega
theorem q_e9d2b66ad {x0 x1 : Int} (f0 : 0 ≤ x0 ∧ x0 ≤ 600) (f1 : ¬ (x1 ≥ x0)) : x1 + 1 ≤ 600 := by omega
theorem q_cea541e22 {x0 x1 : Int} (f0 : (x0 = x1)) : x0 = x1 := by omega
theorem q_cc605f3b6 {x0 : Int} (f0 : ¬ (x0 ≥ 150)) : x0 < 150 := by omega
theorem q_e92c430a0 {x0 : Int} (f0 : ¬ (x0 ≥ 150)) : x0 + 1 ≤ 150 := by omega
theorem q_993cab007 {x0 : Int} (f0 : ¬ (x0 < 48)) : (-2147483648) ≤ x0 := by omega
theorem q_96f87bb65 {x0 x1 x2 : Int} (f0 : (x0 = x1)) (f1 : ¬ (x1 ≥ x2)) : x0 < x2 := by omega
theorem q_646bc4652 {x0 : Int} (f0 : 0 ≤ x0 ∧ x0 ≤ 3) (f1 : x0 ≠ 0) : ¬ x0 = 0 := by omega
theorem q_59cb102df {x0 : Int} (f0 : 1 ≤ x0 ∧ x0 ≤ 3) : ¬ x0 = 0 := by omega
theorem qn_b782e6d88 : ¬ (((1 : Nat) = 1 ∧ (1 : Int) = 2) ∨ ((1 : Nat) = 1 ∧ (1 : Int) = 4) ∨ ((1 : Nat) = 1 ∧ (1 : Int) = 5)) := (fun q => q.elim (fun h => absurd h.2 (ni rfl)) (fun q => q.elim (fun h => absurd h.2 (ni rfl)) (fun h => absurd h.2 (ni rfl))))
theorem q_3bbf258e8 {x0 x1 : Int} (f0 : x0 ≤ x1) (f1 : (-1) ≤ x1 ∧ x1 ≤ 9999) : x0 ≤ 9999 := by omega
theorem q_514734711 {x0 x1 : Int} (f0 : x0 ≤ x1) : x0 ≤ x1 := by omega
theorem qv_7ce279f74 {a : Nat} {j : Int} (hm : ¬ ((a = 1 ∧ j = 2) ∨ (a = 1 ∧ j = 4) ∨ (a = 1 ∧ j = 5))) : ¬ ((a = 1 ∧ j = 4) ∨ (a = 1 ∧ j = 5)) := (fun q => q.elim (fun h => hm (Or.inr (Or.inl h))) (fun h => hm (Or.inr (Or.inr h))))
theorem qn_e2b123f84 {j : Int} : ¬ (((2 : Nat) = 1 ∧ j = 2) ∨ ((2 : Nat) = 1 ∧ j = 4) ∨ ((2 : Nat) = 1 ∧ j = 5)) := (fun q => q.elim (fun h => absurd h.1 (nn rfl)) (fun q => q.elim (fun h => absurd h.1 (nn rfl)) (fun h => absurd h.1 (nn rfl))))
theorem q_06511f6df {x0 x1 : Int} (f0 : 0 ≤ x0 ∧ x0 ≤ 600) (f1 : 0 ≤ x1 ∧ x1 ≤ 600) : 0 ≤ x0 + x1 := by omega
theorem q_4a9017cbe {x0 x1 x2 : Int} (f0 : ¬ (x0 ≥ x1)) (f1 : (x2 + x1 ≤ 600)) : x2 + x0 < 600 := by omega
theorem q_831bb82af {x0 : Int} (f0 : ¬ (x0 < 97)) : (-2147483648) ≤ x0 := by omega
theorem q_88eaa90e3 {x0 : Int} (f0 : (x0 ≠ 0)) (f1 : 0 ≤ x0 ∧ x0 ≤ 3) : ¬ x0 = 0 := by omega
theorem q_95fe11e65 {x0 x1 : Int} (f0 : 0 ≤ x0 ∧ x0 ≤ 101) (f1 : 0 ≤ x1 ∧ x1 ≤ 101) : x1 - x0 ≤ 2147483647 := by omega
theorem q_7129fde9c {x0 x1 : Int} (f0 : 0 ≤ x0 ∧ x0 ≤ 600) (f1 : 0 ≤ x1 ∧ x1 ≤ 600) : (-2147483648) ≤ x1 - x0 := by omega
theorem q_2ad8cd73d {x0 x1 : Int} (f0 : 0 ≤ x0 ∧ x0 ≤ 600) (f1 : 0 ≤ x1 ∧ x1 ≤ 600) : x1 - x0 ≤ 2147483647 := by omega
theorem q_3bb02af3e {x0 : Int}  : x0 + 1 ≤ x0 + 1 := by omega
theorem q_78480ff12 {x0 x1 : Int} (f0 : ¬ (x0 > x1)) : x0 + 1 ≤ x1 + 1 := by omega
theorem q_9e10f4d12 {x0 x1 x2 x3 : Int} (f0 : ¬ (x0 - x1 ≠ x2 - x3)) (f1 : 0 ≤ x1 ∧ x1 ≤ 101) (f2 : 0 ≤ x0 ∧ x0 ≤ 101) : x2 - x3 ≤ 600 := by omega
theorem q_73a1117df {x0 x1 x2 x3 x4 : Int} (f0 : ¬ (x0 - x1 ≠ x2 - x3)) (f1 : ¬ (x0 > x4)) : x2 + x1 - x3 ≤ x4 := by omega
theorem q_c7aae8bb3 {x0 : Int} (f0 : 0 ≤ x0 ∧ x0 ≤ 600) : x0 ≤ 600 := by omega
theorem q_fdb951d2d {x0 : Int} (f0 : 0 ≤ x0 ∧ x0 ≤ 101) : 0 ≤ x0 := by omega
theorem q_eb1d20069 {x0 x1 : Int} (f0 : (x0 ≥ 0) ∨ (x1 ≠ 0)) (f1 : 0 ≤ x1 ∧ x1 ≤ 3) (f2 : x0 = (-1)) : ¬ x1 = 0 := by omega
theorem qv_59471db0f {A : Nat} {a : Nat} {j : Int} (hm : ¬ ((a = 1 ∧ j = 2) ∨ (a = 1 ∧ j = 4) ∨ (a = 1 ∧ j = 5) ∨ (a = (A + 7) ∧ j = 5) ∨ a = (A + 9))) : ¬ ((a = 1 ∧ j = 2) ∨ (a = 1 ∧ j = 4) ∨ (a = 1 ∧ j = 5)) := (fun q => q.elim (fun h => hm (Or.inl h)) (fun q => q.elim (fun h => hm (Or.inr (Or.inl h))) (fun h => hm (Or.inr (Or.inr (Or.inl h))))))
theorem qv_0a3016d09 {A : Nat} {a : Nat} {j : Int} (hm : ¬ ((a = 1 ∧ j = 2) ∨ (a = 1 ∧ j = 4) ∨ (a = 1 ∧ j = 5) ∨ (a = (A + 7) ∧ j = 5) ∨ a = (A + 9))) : ¬ ((a = 1 ∧ j = 4) ∨ (a = 1 ∧ j = 5)) := (fun q => q.elim (fun h => hm (Or.inr (Or.inl h))) (fun h => hm (Or.inr (Or.inr (Or.inl h)))))
theorem q_3b235b8a8 {x0 : Int} (f0 : x0 ≥ 8) : 2000 ≤ x0 + 1997 := by omega
theorem qv_651880e32 {A : Nat} {a : Nat} {j : Int} (hm : ¬ ((a = 1 ∧ j = 2) ∨ (a = 1 ∧ j = 4) ∨ (a = 1 ∧ j = 5) ∨ (a = (A + 7) ∧ j = 5) ∨ a = (A + 9))) : ¬ ((a = (A + 7) ∧ j = 5) ∨ a = (A + 9)) := (fun q => q.elim (fun h => hm (Or.inr (Or.inr (Or.inr (Or.inl h))))) (fun h => hm (Or.inr (Or.inr (Or.inr (Or.inr h))))))
theorem q_119c61ad1 {x0 : Int} (f0 : ¬ (x0 ≥ 8)) : x0 + 1000 < 1008 := by omega
theorem q_107d648c6 {x0 : Int} (f0 : 0 ≤ x0 ∧ x0 ≤ 3) : (-2147483648) ≤ x0 := by omega
theorem q_509aaa6b6 {x0 : Int} (f0 : 0 ≤ x0 ∧ x0 ≤ 3) : x0 ≤ 2147483647 := by omega
theorem q_14934a8f4 {x0 : Int} (f0 : (x0 ≤ 999) ∨ (x0 = 0)) : x0 ≤ 3000 := by omega
theorem q_40dfbb035 {x0 : Int} (f0 : (x0 ≤ 999) ∨ (x0 = 0)) : x0 < 1008 := by omega
theorem qv_6f9c47781 {A : Nat} {a : Nat} {j : Int} (hm : ¬ ((a = 1 ∧ j = 2) ∨ (a = 1 ∧ j = 4) ∨ (a = 1 ∧ j = 5) ∨ (a = (A + 7) ∧ j = 5) ∨ a = (A + 9) ∨ (a = (A + 7) ∧ j = 4) ∨ a = (A + 8))) : ¬ ((a = 1 ∧ j = 2) ∨ (a = 1 ∧ j = 4) ∨ (a = 1 ∧ j = 5)) := (fun q => q.elim (fun h => hm (Or.inl h)) (fun q => q.elim (fun h => hm (Or.inr (Or.inl h))) (fun h => hm (Or.inr (Or.inr (Or.inl h))))))
theorem qv_ee4b54987 {A : Nat} {a : Nat} {j : Int} (hm : ¬ ((a = 1 ∧ j = 2) ∨ (a = 1 ∧ j = 4) ∨ (a = 1 ∧ j = 5) ∨ (a = (A + 7) ∧ j = 5) ∨ a = (A + 9) ∨ (a = (A + 7) ∧ j = 4) ∨ a = (A + 8))) : ¬ ((a = 1 ∧ j = 2) ∨ (a = 1 ∧ j = 4) ∨ (a = 1 ∧ j = 5) ∨ (a = (A + 7) ∧ j = 5) ∨ a = (A + 9)) := (fun q => q.elim (fun h => hm (Or.inl h)) (fun q => q.elim (fun h => hm (Or.inr (Or.inl h))) (fun q => q.elim (fun h => hm (Or.inr (Or.inr (Or.inl h)))) (fun q => q.elim (fun h => hm (Or.inr (Or.inr (Or.inr (Or.inl h))))) (fun h => hm (Or.inr (Or.inr (Or.inr (Or.inr (Or.inl h))))))))))
theorem qn_3e7b2eb2a {A : Nat} {j : Int} (hA : A = 13 ∨ A = 25) : ¬ (((A + 7) = 1 ∧ j = 2) ∨ ((A + 7) = 1 ∧ j = 4) ∨ ((A + 7) = 1 ∧ j = 5)) := (fun q => q.elim (fun h => absurd h.1 (np hA rfl rfl)) (fun q => q.elim (fun h => absurd h.1 (np hA rfl rfl)) (fun h => absurd h.1 (np hA rfl rfl))))
theorem q_47cb9e6c6 {x0 : Int} (f0 : 0 ≤ x0 ∧ x0 ≤ 150) : 0 ≤ x0 := by omega
theorem q_4ed2d8592 {x0 : Int} (f0 : 0 ≤ x0 ∧ x0 ≤ 150) : x0 ≤ 150 := by omega
theorem q_7c38ad3f6 {x0 : Int} (f0 : 0 ≤ x0 ∧ x0 ≤ 150) : (-2147483648) ≤ x0 := by omega
theorem q_059235c2c {x0 : Int} (f0 : x0 ≥ 0) : 0 ≤ x0 := by omega
theorem q_a6cbc6a20 {x0 : Int} (f0 : x0 ≤ 99) : x0 ≤ 99 := by omega
theorem q_b7d7f2b1a {x0 : Int} (f0 : 0 ≤ x0 ∧ x0 ≤ 150) : x0 ≤ 2147483647 := by omega
theorem q_8d9392337 {x0 x1 : Int} (f0 : 0 ≤ x0 ∧ x0 ≤ 150) (f1 : ¬ (x1 ≥ x0)) : x1 < 150 := by omega
theorem q_b47906294 {x0 x1 : Int} (f0 : 0 ≤ x0 ∧ x0 ≤ 150) (f1 : ¬ (x1 ≥ x0)) : x1 + 1 ≤ 150 := by omega
theorem q_3fd0c26f9 {x0 : Int} (f0 : ¬ (x0 ≤ 1)) : 0 ≤ x0 - 2 := by omega
theorem q_2d3808a94 {x0 : Int} (f0 : 0 ≤ x0 ∧ x0 ≤ 150) : x0 - 2 < 150 := by omega
theorem q_96d88faef {x0 : Int} (f0 : ¬ (x0 ≤ 1)) : 0 ≤ x0 - 1 := by omega
theorem q_8528fcf54 {x0 : Int} (f0 : 0 ≤ x0 ∧ x0 ≤ 150) : x0 - 1 < 150 := by omega
theorem q_efcdaf7e7 {x0 : Int} (f0 : x0 ≥ 2000) : (-2147483648) ≤ x0 := by omega
theorem q_8e843b4e6 {x0 : Int} (f0 : ¬ (x0 ≥ 2000)) : x0 ≤ 2147483647 := by omega
theorem q_3b6849c3a {x0 : Int} (f0 : x0 ≥ 1000) : 0 ≤ x0 - 1000 := by omega
theorem q_fe2e90aed {x0 : Int} (f0 : ¬ (x0 ≥ 2000)) (f1 : x0 < 1008 ∨ 2000 ≤ x0) : x0 - 1000 < 8 := by omega
theorem q_626295773 {x0 : Int} (f0 : ¬ (x0 ≥ 1000)) : x0 ≤ 2147483647 := by omega
theorem q_8c4697e7c {x0 x1 x2 x3 : Int} (f0 : 0 ≤ x0 ∧ x0 ≤ 9999) (f1 : 0 ≤ x1 ∧ x1 ≤ 9999) (f2 : 0 ≤ x2 ∧ x2 ≤ 9999) (f3 : 0 ≤ x3 ∧ x3 ≤ 9999) : (-2147483648) ≤ x0 + x1 + x2 + x3 := by omega
theorem q_46d991406 {x0 x1 x2 x3 : Int} (f0 : 0 ≤ x0 ∧ x0 ≤ 9999) (f1 : 0 ≤ x1 ∧ x1 ≤ 9999) (f2 : 0 ≤ x2 ∧ x2 ≤ 9999) (f3 : 0 ≤ x3 ∧ x3 ≤ 9999) : x0 + x1 + x2 + x3 ≤ 2147483647 := by omega
theorem q_3a12ae26c {x0 x1 x2 x3 : Int} (f0 : 0 ≤ x0 ∧ x0 ≤ 9999) (f1 : 0 ≤ x1 ∧ x1 ≤ 9999) (f2 : 0 ≤ x2 ∧ x2 ≤ 9999) (f3 : 0 ≤ x3 ∧ x3 ≤ 9999) : 0 ≤ x0 + x1 + x2 + x3 := by omega
theorem q_1bb4088f7 {x0 x1 x2 x3 : Int} (f0 : 0 ≤ x0 ∧ x0 ≤ 9999) (f1 : 0 ≤ x1 ∧ x1 ≤ 9999) (f2 : 0 ≤ x2 ∧ x2 ≤ 9999) (f3 : 0 ≤ x3 ∧ x3 ≤ 9999) : x0 + x1 + x2 + x3 ≤ 39996 := by omega
theorem q_b9b7f355a {x0 : Int} (f0 : x0 < 16) : x0 + 1 ≤ 16 := by omega
theorem q_aa6ed1614 {x0 : Int} (f0 : x0 < 16) : x0 ≤ 15 := by omega
theorem q_d306fa533 {x0 : Int} (f0 : ¬ (x0 < 16)) : 16 ≤ x0 := by omega
theorem q_f0d4f2762 {x0 : Int} (f0 : x0 ≤ 0) : x0 ≤ 0 := by omega
theorem q_3ca0fc078 {x0 : Int} (f0 : ¬ (x0 ≤ 0)) : 0 ≤ x0 - 1 := by omega
theorem q_ca88f5637 {x0 : Int} (f0 : ¬ (x0 ≤ 0)) : 0 < x0 := by omega
theorem q_67bc6dc49 {x0 : Int} (f0 : x0 ≥ 3) : 3 ≤ x0 := by omega
theorem q_c644f7bb7 {x0 : Int} (f0 : ¬ (x0 ≥ 3)) : x0 < 3 := by omega
theorem q_d380ec9e8 {x0 : Int} (f0 : ¬ (x0 ≥ 3)) : x0 + 1 ≤ 3 := by omega
theorem q_1aec5e53f {x0 : Int} (f0 : ¬ (x0 ≥ 3)) : x0 ≤ 2 := by omega
theorem q_6660ef6d1 {x0 : Int} (f0 : 0 ≤ x0 ∧ x0 ≤ 3) : x0 - 1 < 3 := by omega
theorem q_51965173a {x0 x1 : Int} (f0 : 0 ≤ x0 ∧ x0 ≤ 3) (f1 : 0 ≤ x1 ∧ x1 ≤ 2) : 0 ≤ 3 * x0 + x1 := by omega
theorem q_d187370ec {x0 x1 : Int} (f0 : 0 ≤ x0 ∧ x0 ≤ 3) (f1 : 0 ≤ x1 ∧ x1 ≤ 2) : 3 * x0 + x1 < 12 := by omega
theorem q_1df19f1ee {x0 : Int} (f0 : (x0 = 0)) (f1 : 0 ≤ x0 ∧ x0 ≤ 150) : x0 = 0 := by omega
theorem q_2e808647e {x0 : Int} (f0 : ¬ (x0 ≥ 4)) : x0 < 4 := by omega
theorem q_121241f94 {x0 : Int} (f0 : ¬ (x0 ≥ 4)) : x0 + 1 ≤ 4 := by omega
theorem c_1_0 : mLk 1 0 = some (.aload_n 0, 1) := rfl
theorem c_1_1 : mLk 1 1 = some (.iconst 0, 1) := rfl
theorem c_1_2 : mLk 1 2 = some (.putfield 24, 3) := rfl
theorem c_3_0 : mLk 3 0 = some (.aload_n 0, 1) := rfl
theorem c_3_1 : mLk 3 1 = some (.getfield 35, 3) := rfl
theorem c_3_4 : mLk 3 4 = some (.aload_n 0, 1) := rfl
theorem c_3_5 : mLk 3 5 = some (.getfield 32, 3) := rfl
theorem c_3_8 : mLk 3 8 = some (.if_icmp .ge 30, 3) := rfl
theorem c_3_38 : mLk 3 38 = some (.aload_n 0, 1) := rfl
theorem c_3_39 : mLk 3 39 = some (.getfield 35, 3) := rfl
theorem c_3_42 : mLk 3 42 = some (.ireturn, 1) := rfl
theorem c_3_11 : mLk 3 11 = some (.aload_n 0, 1) := rfl
theorem c_3_12 : mLk 3 12 = some (.getfield 9, 3) := rfl
theorem c_3_15 : mLk 3 15 = some (.aload_n 0, 1) := rfl
theorem c_3_16 : mLk 3 16 = some (.getfield 35, 3) := rfl
theorem c_3_19 : mLk 3 19 = some (.baload, 1) := rfl
theorem c_3_20 : mLk 3 20 = some (.bipush 32, 2) := rfl
theorem c_3_22 : mLk 3 22 = some (.if_icmp .ne 16, 3) := rfl
theorem c_3_25 : mLk 3 25 = some (.aload_n 0, 1) := rfl
theorem c_3_26 : mLk 3 26 = some (.dup, 1) := rfl
theorem c_3_27 : mLk 3 27 = some (.getfield 35, 3) := rfl
theorem c_3_30 : mLk 3 30 = some (.iconst 1, 1) := rfl
theorem c_3_31 : mLk 3 31 = some (.iadd, 1) := rfl
theorem c_3_32 : mLk 3 32 = some (.putfield 35, 3) := rfl
theorem c_3_35 : mLk 3 35 = some (.goto (-35), 3) := rfl
theorem c_4_7 : mLk 4 7 = some (.iload_n 3, 1) := rfl
theorem c_4_8 : mLk 4 8 = some (.aload_n 1, 1) := rfl
theorem c_4_12 : mLk 4 12 = some (.if_icmp .ge 43, 3) := rfl
theorem c_4_55 : mLk 4 55 = some (.iconst (-1), 1) := rfl
theorem c_4_56 : mLk 4 56 = some (.ireturn, 1) := rfl
theorem c_4_15 : mLk 4 15 = some (.iload_n 2, 1) := rfl
theorem c_4_16 : mLk 4 16 = some (.aload_n 0, 1) := rfl
theorem c_4_17 : mLk 4 17 = some (.getfield 32, 3) := rfl
theorem c_4_20 : mLk 4 20 = some (.if_icmp .ge 35, 3) := rfl
theorem c_4_23 : mLk 4 23 = some (.aload_n 0, 1) := rfl
theorem c_4_24 : mLk 4 24 = some (.getfield 9, 3) := rfl
theorem c_4_27 : mLk 4 27 = some (.iload_n 2, 1) := rfl
theorem c_4_28 : mLk 4 28 = some (.baload, 1) := rfl
theorem c_4_29 : mLk 4 29 = some (.aload_n 1, 1) := rfl
theorem c_4_30 : mLk 4 30 = some (.iload_n 3, 1) := rfl
theorem c_4_31 : mLk 4 31 = some (.invokevirtual 61, 3) := rfl
theorem c_4_34 : mLk 4 34 = some (.if_icmp .ne 15, 3) := rfl
theorem c_4_49 : mLk 4 49 = some (.iinc 3 1, 3) := rfl
theorem c_4_52 : mLk 4 52 = some (.goto (-45), 3) := rfl
theorem c_4_37 : mLk 4 37 = some (.aload_n 0, 1) := rfl
theorem c_4_38 : mLk 4 38 = some (.dup, 1) := rfl
theorem c_4_39 : mLk 4 39 = some (.getfield 35, 3) := rfl
theorem c_4_42 : mLk 4 42 = some (.iconst 1, 1) := rfl
theorem c_4_43 : mLk 4 43 = some (.iadd, 1) := rfl
theorem c_4_44 : mLk 4 44 = some (.putfield 35, 3) := rfl
theorem c_4_47 : mLk 4 47 = some (.iload_n 3, 1) := rfl
theorem c_4_48 : mLk 4 48 = some (.ireturn, 1) := rfl
theorem c_4_0 : mLk 4 0 = some (.aload_n 0, 1) := rfl
theorem c_4_1 : mLk 4 1 = some (.invokevirtual 41, 3) := rfl
theorem c_4_4 : mLk 4 4 = some (.istore_n 2, 1) := rfl
theorem c_4_5 : mLk 4 5 = some (.iconst 0, 1) := rfl
theorem c_4_6 : mLk 4 6 = some (.istore_n 3, 1) := rfl
theorem c_5_0 : mLk 5 0 = some (.aload_n 0, 1) := rfl
theorem c_5_1 : mLk 5 1 = some (.getfield 28, 3) := rfl
theorem c_5_4 : mLk 5 4 = some (.aload_n 0, 1) := rfl
theorem c_5_5 : mLk 5 5 = some (.getfield 15, 3) := rfl
theorem c_5_8 : mLk 5 8 = some (.arraylength, 1) := rfl
theorem c_5_9 : mLk 5 9 = some (.if_icmp .ge 23, 3) := rfl
theorem c_5_12 : mLk 5 12 = some (.aload_n 0, 1) := rfl
theorem c_5_13 : mLk 5 13 = some (.getfield 15, 3) := rfl
theorem c_5_16 : mLk 5 16 = some (.aload_n 0, 1) := rfl
theorem c_5_17 : mLk 5 17 = some (.getfield 28, 3) := rfl
theorem c_5_20 : mLk 5 20 = some (.iload_n 1, 1) := rfl
theorem c_5_21 : mLk 5 21 = some (.iastore, 1) := rfl
theorem c_5_22 : mLk 5 22 = some (.aload_n 0, 1) := rfl
theorem c_5_23 : mLk 5 23 = some (.dup, 1) := rfl
theorem c_5_24 : mLk 5 24 = some (.getfield 28, 3) := rfl
theorem c_5_27 : mLk 5 27 = some (.iconst 1, 1) := rfl
theorem c_5_28 : mLk 5 28 = some (.iadd, 1) := rfl
theorem c_5_29 : mLk 5 29 = some (.putfield 28, 3) := rfl
theorem c_6_0 : mLk 6 0 = some (.aload_n 0, 1) := rfl
theorem c_6_1 : mLk 6 1 = some (.invokevirtual 41, 3) := rfl
theorem c_6_4 : mLk 6 4 = some (.istore_n 1, 1) := rfl
theorem c_6_5 : mLk 6 5 = some (.iload_n 1, 1) := rfl
theorem c_6_6 : mLk 6 6 = some (.aload_n 0, 1) := rfl
theorem c_6_7 : mLk 6 7 = some (.getfield 32, 3) := rfl
theorem c_6_10 : mLk 6 10 = some (.if_icmp .ge 29, 3) := rfl
theorem c_6_39 : mLk 6 39 = some (.iconst 0, 1) := rfl
theorem c_6_40 : mLk 6 40 = some (.ireturn, 1) := rfl
theorem c_6_13 : mLk 6 13 = some (.aload_n 0, 1) := rfl
theorem c_6_14 : mLk 6 14 = some (.getfield 9, 3) := rfl
theorem c_6_17 : mLk 6 17 = some (.iload_n 1, 1) := rfl
theorem c_6_18 : mLk 6 18 = some (.baload, 1) := rfl
theorem c_6_19 : mLk 6 19 = some (.bipush 48, 2) := rfl
theorem c_6_21 : mLk 6 21 = some (.if_icmp .lt 18, 3) := rfl
theorem c_6_24 : mLk 6 24 = some (.aload_n 0, 1) := rfl
theorem c_6_25 : mLk 6 25 = some (.getfield 9, 3) := rfl
theorem c_6_28 : mLk 6 28 = some (.iload_n 1, 1) := rfl
theorem c_6_29 : mLk 6 29 = some (.baload, 1) := rfl
theorem c_6_30 : mLk 6 30 = some (.bipush 57, 2) := rfl
theorem c_6_32 : mLk 6 32 = some (.if_icmp .gt 7, 3) := rfl
theorem c_6_35 : mLk 6 35 = some (.iconst 1, 1) := rfl
theorem c_6_36 : mLk 6 36 = some (.goto 4, 3) := rfl
theorem c_7_0 : mLk 7 0 = some (.aload_n 0, 1) := rfl
theorem c_7_1 : mLk 7 1 = some (.getfield 38, 3) := rfl
theorem c_7_4 : mLk 7 4 = some (.ifCond .ne 13, 3) := rfl
theorem c_7_7 : mLk 7 7 = some (.aload_n 0, 1) := rfl
theorem c_7_8 : mLk 7 8 = some (.iload_n 1, 1) := rfl
theorem c_7_9 : mLk 7 9 = some (.putfield 38, 3) := rfl
theorem c_7_12 : mLk 7 12 = some (.aload_n 0, 1) := rfl
theorem c_7_13 : mLk 7 13 = some (.iload_n 2, 1) := rfl
theorem c_7_14 : mLk 7 14 = some (.putfield 15, 3) := rfl
theorem c_8_34 : mLk 8 34 = some (.aload_n 0, 1) := rfl
theorem c_8_35 : mLk 8 35 = some (.getfield 35, 3) := rfl
theorem c_8_38 : mLk 8 38 = some (.aload_n 0, 1) := rfl
theorem c_8_39 : mLk 8 39 = some (.getfield 32, 3) := rfl
theorem c_8_42 : mLk 8 42 = some (.if_icmp .ge 67, 3) := rfl
theorem c_8_109 : mLk 8 109 = some (.iload_n 3, 1) := rfl
theorem c_8_110 : mLk 8 110 = some (.iload_n 1, 1) := rfl
theorem c_8_111 : mLk 8 111 = some (.if_icmp .le 11, 3) := rfl
theorem c_8_122 : mLk 8 122 = some (.iload_n 3, 1) := rfl
theorem c_8_123 : mLk 8 123 = some (.ireturn, 1) := rfl
theorem c_8_114 : mLk 8 114 = some (.aload_n 0, 1) := rfl
theorem c_8_115 : mLk 8 115 = some (.iconst 2, 1) := rfl
theorem c_8_116 : mLk 8 116 = some (.iload_n 2, 1) := rfl
theorem c_8_117 : mLk 8 117 = some (.invokevirtual 52, 3) := rfl
theorem c_8_120 : mLk 8 120 = some (.iconst 0, 1) := rfl
theorem c_8_121 : mLk 8 121 = some (.ireturn, 1) := rfl
theorem c_8_45 : mLk 8 45 = some (.aload_n 0, 1) := rfl
theorem c_8_46 : mLk 8 46 = some (.getfield 9, 3) := rfl
theorem c_8_49 : mLk 8 49 = some (.aload_n 0, 1) := rfl
theorem c_8_50 : mLk 8 50 = some (.getfield 35, 3) := rfl
theorem c_8_53 : mLk 8 53 = some (.baload, 1) := rfl
theorem c_8_54 : mLk 8 54 = some (.bipush 48, 2) := rfl
theorem c_8_56 : mLk 8 56 = some (.if_icmp .lt 53, 3) := rfl
theorem c_8_59 : mLk 8 59 = some (.aload_n 0, 1) := rfl
theorem c_8_60 : mLk 8 60 = some (.getfield 9, 3) := rfl
theorem c_8_63 : mLk 8 63 = some (.aload_n 0, 1) := rfl
theorem c_8_64 : mLk 8 64 = some (.getfield 35, 3) := rfl
theorem c_8_67 : mLk 8 67 = some (.baload, 1) := rfl
theorem c_8_68 : mLk 8 68 = some (.bipush 57, 2) := rfl
theorem c_8_70 : mLk 8 70 = some (.if_icmp .gt 39, 3) := rfl
theorem c_8_73 : mLk 8 73 = some (.iload_n 3, 1) := rfl
theorem c_8_74 : mLk 8 74 = some (.bipush 10, 2) := rfl
theorem c_8_76 : mLk 8 76 = some (.imul, 1) := rfl
theorem c_8_77 : mLk 8 77 = some (.aload_n 0, 1) := rfl
theorem c_8_78 : mLk 8 78 = some (.getfield 9, 3) := rfl
theorem c_8_81 : mLk 8 81 = some (.aload_n 0, 1) := rfl
theorem c_8_82 : mLk 8 82 = some (.getfield 35, 3) := rfl
theorem c_8_85 : mLk 8 85 = some (.baload, 1) := rfl
theorem c_8_86 : mLk 8 86 = some (.iadd, 1) := rfl
theorem c_8_87 : mLk 8 87 = some (.bipush 48, 2) := rfl
theorem c_8_89 : mLk 8 89 = some (.isub, 1) := rfl
theorem c_8_90 : mLk 8 90 = some (.ldc 72, 2) := rfl
theorem c_8_92 : mLk 8 92 = some (.invokestatic 26, 3) := rfl
theorem c_8_95 : mLk 8 95 = some (.istore_n 3, 1) := rfl
theorem c_8_96 : mLk 8 96 = some (.aload_n 0, 1) := rfl
theorem c_8_97 : mLk 8 97 = some (.dup, 1) := rfl
theorem c_8_98 : mLk 8 98 = some (.getfield 35, 3) := rfl
theorem c_8_101 : mLk 8 101 = some (.iconst 1, 1) := rfl
theorem c_8_102 : mLk 8 102 = some (.iadd, 1) := rfl
theorem c_8_103 : mLk 8 103 = some (.putfield 35, 3) := rfl
theorem c_8_106 : mLk 8 106 = some (.goto (-72), 3) := rfl
theorem c_8_0 : mLk 8 0 = some (.aload_n 0, 1) := rfl
theorem c_8_1 : mLk 8 1 = some (.invokevirtual 45, 3) := rfl
theorem c_2_0 : mLk 2 0 = some (.aload_n 0, 1) := rfl
theorem c_2_1 : mLk 2 1 = some (.getfield 38, 3) := rfl
theorem c_2_4 : mLk 2 4 = some (.ifCond .ne 7, 3) := rfl
theorem c_2_11 : mLk 2 11 = some (.iconst 0, 1) := rfl
theorem c_2_12 : mLk 2 12 = some (.ireturn, 1) := rfl
theorem c_8_4 : mLk 8 4 = some (.ifCond .ne 5, 3) := rfl
theorem c_8_7 : mLk 8 7 = some (.iconst 0, 1) := rfl
theorem c_8_8 : mLk 8 8 = some (.ireturn, 1) := rfl
theorem c_2_7 : mLk 2 7 = some (.iconst 1, 1) := rfl
theorem c_2_8 : mLk 2 8 = some (.goto 4, 3) := rfl
theorem c_8_9 : mLk 8 9 = some (.aload_n 0, 1) := rfl
theorem c_8_10 : mLk 8 10 = some (.invokevirtual 69, 3) := rfl
theorem c_8_13 : mLk 8 13 = some (.ifCond .ne 14, 3) := rfl
theorem c_8_27 : mLk 8 27 = some (.aload_n 0, 1) := rfl
theorem c_8_28 : mLk 8 28 = some (.getfield 35, 3) := rfl
theorem c_8_31 : mLk 8 31 = some (.istore_n 2, 1) := rfl
theorem c_8_32 : mLk 8 32 = some (.iconst 0, 1) := rfl
theorem c_8_33 : mLk 8 33 = some (.istore_n 3, 1) := rfl
theorem c_8_16 : mLk 8 16 = some (.aload_n 0, 1) := rfl
theorem c_8_17 : mLk 8 17 = some (.iconst 1, 1) := rfl
theorem c_8_18 : mLk 8 18 = some (.aload_n 0, 1) := rfl
theorem c_8_19 : mLk 8 19 = some (.getfield 35, 3) := rfl
theorem c_8_22 : mLk 8 22 = some (.invokevirtual 52, 3) := rfl
theorem c_8_25 : mLk 8 25 = some (.iconst 0, 1) := rfl
theorem c_8_26 : mLk 8 26 = some (.ireturn, 1) := rfl
theorem c_9_3 : mLk 9 3 = some (.iload 5, 2) := rfl
theorem c_9_5 : mLk 9 5 = some (.iload 4, 2) := rfl
theorem c_9_7 : mLk 9 7 = some (.if_icmp .ge 31, 3) := rfl
theorem c_9_38 : mLk 9 38 = some (.iconst 1, 1) := rfl
theorem c_9_39 : mLk 9 39 = some (.ireturn, 1) := rfl
theorem c_9_10 : mLk 9 10 = some (.aload_n 1, 1) := rfl
theorem c_9_11 : mLk 9 11 = some (.iload_n 2, 1) := rfl
theorem c_9_12 : mLk 9 12 = some (.iload 5, 2) := rfl
theorem c_9_14 : mLk 9 14 = some (.iadd, 1) := rfl
theorem c_9_15 : mLk 9 15 = some (.invokevirtual 61, 3) := rfl
theorem c_9_18 : mLk 9 18 = some (.aload_n 0, 1) := rfl
theorem c_9_19 : mLk 9 19 = some (.getfield 9, 3) := rfl
theorem c_9_22 : mLk 9 22 = some (.iload_n 3, 1) := rfl
theorem c_9_23 : mLk 9 23 = some (.iload 5, 2) := rfl
theorem c_9_25 : mLk 9 25 = some (.iadd, 1) := rfl
theorem c_9_26 : mLk 9 26 = some (.baload, 1) := rfl
theorem c_9_27 : mLk 9 27 = some (.if_icmp .eq 5, 3) := rfl
theorem c_9_32 : mLk 9 32 = some (.iinc 5 1, 3) := rfl
theorem c_9_35 : mLk 9 35 = some (.goto (-32), 3) := rfl
theorem c_9_30 : mLk 9 30 = some (.iconst 0, 1) := rfl
theorem c_9_31 : mLk 9 31 = some (.ireturn, 1) := rfl
theorem c_9_0 : mLk 9 0 = some (.iconst 0, 1) := rfl
theorem c_9_1 : mLk 9 1 = some (.istore 5, 2) := rfl
theorem c_10_7 : mLk 10 7 = some (.iload_n 3, 1) := rfl
theorem c_10_8 : mLk 10 8 = some (.aload_n 0, 1) := rfl
theorem c_10_9 : mLk 10 9 = some (.getfield 32, 3) := rfl
theorem c_10_12 : mLk 10 12 = some (.if_icmp .ge 31, 3) := rfl
theorem c_10_43 : mLk 10 43 = some (.iconst 0, 1) := rfl
theorem c_10_44 : mLk 10 44 = some (.istore 4, 2) := rfl
theorem c_10_46 : mLk 10 46 = some (.iconst 0, 1) := rfl
theorem c_10_47 : mLk 10 47 = some (.istore 5, 2) := rfl
theorem c_10_49 : mLk 10 49 = some (.iconst 0, 1) := rfl
theorem c_10_50 : mLk 10 50 = some (.istore 6, 2) := rfl
theorem c_10_15 : mLk 10 15 = some (.aload_n 0, 1) := rfl
theorem c_10_16 : mLk 10 16 = some (.getfield 9, 3) := rfl
theorem c_10_19 : mLk 10 19 = some (.iload_n 3, 1) := rfl
theorem c_10_20 : mLk 10 20 = some (.baload, 1) := rfl
theorem c_10_21 : mLk 10 21 = some (.bipush 97, 2) := rfl
theorem c_10_23 : mLk 10 23 = some (.if_icmp .lt 20, 3) := rfl
theorem c_10_26 : mLk 10 26 = some (.aload_n 0, 1) := rfl
theorem c_10_27 : mLk 10 27 = some (.getfield 9, 3) := rfl
theorem c_10_30 : mLk 10 30 = some (.iload_n 3, 1) := rfl
theorem c_10_31 : mLk 10 31 = some (.baload, 1) := rfl
theorem c_10_32 : mLk 10 32 = some (.bipush 122, 2) := rfl
theorem c_10_34 : mLk 10 34 = some (.if_icmp .gt 9, 3) := rfl
theorem c_10_37 : mLk 10 37 = some (.iinc 3 1, 3) := rfl
theorem c_10_40 : mLk 10 40 = some (.goto (-33), 3) := rfl
theorem c_10_52 : mLk 10 52 = some (.iload 6, 2) := rfl
theorem c_10_54 : mLk 10 54 = some (.aload_n 1, 1) := rfl
theorem c_10_58 : mLk 10 58 = some (.if_icmp .gt 78, 3) := rfl
theorem c_10_136 : mLk 10 136 = some (.aload_n 0, 1) := rfl
theorem c_10_137 : mLk 10 137 = some (.iconst 1, 1) := rfl
theorem c_10_138 : mLk 10 138 = some (.iload_n 2, 1) := rfl
theorem c_10_139 : mLk 10 139 = some (.invokevirtual 52, 3) := rfl
theorem c_10_142 : mLk 10 142 = some (.iconst (-1), 1) := rfl
theorem c_10_143 : mLk 10 143 = some (.ireturn, 1) := rfl
theorem c_10_61 : mLk 10 61 = some (.aload_n 0, 1) := rfl
theorem c_10_62 : mLk 10 62 = some (.invokevirtual 45, 3) := rfl
theorem c_10_65 : mLk 10 65 = some (.ifCond .eq 71, 3) := rfl
theorem c_10_68 : mLk 10 68 = some (.iload 6, 2) := rfl
theorem c_10_70 : mLk 10 70 = some (.aload_n 1, 1) := rfl
theorem c_10_74 : mLk 10 74 = some (.if_icmp .eq 14, 3) := rfl
theorem c_10_88 : mLk 10 88 = some (.iload 6, 2) := rfl
theorem c_10_90 : mLk 10 90 = some (.iload 5, 2) := rfl
theorem c_10_92 : mLk 10 92 = some (.isub, 1) := rfl
theorem c_10_93 : mLk 10 93 = some (.iload_n 3, 1) := rfl
theorem c_10_94 : mLk 10 94 = some (.iload_n 2, 1) := rfl
theorem c_10_95 : mLk 10 95 = some (.isub, 1) := rfl
theorem c_10_96 : mLk 10 96 = some (.if_icmp .ne 25, 3) := rfl
theorem c_10_121 : mLk 10 121 = some (.iinc 4 1, 3) := rfl
theorem c_10_124 : mLk 10 124 = some (.iload 6, 2) := rfl
theorem c_10_126 : mLk 10 126 = some (.iconst 1, 1) := rfl
theorem c_10_127 : mLk 10 127 = some (.iadd, 1) := rfl
theorem c_10_128 : mLk 10 128 = some (.istore 5, 2) := rfl
theorem c_10_130 : mLk 10 130 = some (.iinc 6 1, 3) := rfl
theorem c_10_133 : mLk 10 133 = some (.goto (-81), 3) := rfl
theorem c_10_99 : mLk 10 99 = some (.aload_n 0, 1) := rfl
theorem c_10_100 : mLk 10 100 = some (.aload_n 1, 1) := rfl
theorem c_10_101 : mLk 10 101 = some (.iload 5, 2) := rfl
theorem c_10_103 : mLk 10 103 = some (.iload_n 2, 1) := rfl
theorem c_10_104 : mLk 10 104 = some (.iload_n 3, 1) := rfl
theorem c_10_105 : mLk 10 105 = some (.iload_n 2, 1) := rfl
theorem c_10_106 : mLk 10 106 = some (.isub, 1) := rfl
theorem c_10_107 : mLk 10 107 = some (.invokevirtual 73, 3) := rfl
theorem c_10_110 : mLk 10 110 = some (.ifCond .eq 11, 3) := rfl
theorem c_10_113 : mLk 10 113 = some (.aload_n 0, 1) := rfl
theorem c_10_114 : mLk 10 114 = some (.iload_n 3, 1) := rfl
theorem c_10_115 : mLk 10 115 = some (.putfield 35, 3) := rfl
theorem c_10_118 : mLk 10 118 = some (.iload 4, 2) := rfl
theorem c_10_120 : mLk 10 120 = some (.ireturn, 1) := rfl
theorem c_10_77 : mLk 10 77 = some (.aload_n 1, 1) := rfl
theorem c_10_78 : mLk 10 78 = some (.iload 6, 2) := rfl
theorem c_10_80 : mLk 10 80 = some (.invokevirtual 61, 3) := rfl
theorem c_10_83 : mLk 10 83 = some (.bipush 32, 2) := rfl
theorem c_10_85 : mLk 10 85 = some (.if_icmp .ne 45, 3) := rfl
theorem c_10_0 : mLk 10 0 = some (.aload_n 0, 1) := rfl
theorem c_10_1 : mLk 10 1 = some (.invokevirtual 41, 3) := rfl
theorem c_10_4 : mLk 10 4 = some (.istore_n 2, 1) := rfl
theorem c_10_5 : mLk 10 5 = some (.iload_n 2, 1) := rfl
theorem c_10_6 : mLk 10 6 = some (.istore_n 3, 1) := rfl
theorem c_11_0 : mLk 11 0 = some (.aload_n 0, 1) := rfl
theorem c_11_1 : mLk 11 1 = some (.invokevirtual 45, 3) := rfl
theorem c_11_4 : mLk 11 4 = some (.ifCond .eq 21, 3) := rfl
theorem c_11_7 : mLk 11 7 = some (.aload_n 0, 1) := rfl
theorem c_11_8 : mLk 11 8 = some (.aload_n 1, 1) := rfl
theorem c_11_9 : mLk 11 9 = some (.invokevirtual 65, 3) := rfl
theorem c_11_12 : mLk 11 12 = some (.iconst (-1), 1) := rfl
theorem c_11_13 : mLk 11 13 = some (.if_icmp .ne 12, 3) := rfl
theorem c_11_16 : mLk 11 16 = some (.aload_n 0, 1) := rfl
theorem c_11_17 : mLk 11 17 = some (.iconst 1, 1) := rfl
theorem c_11_18 : mLk 11 18 = some (.aload_n 0, 1) := rfl
theorem c_11_19 : mLk 11 19 = some (.getfield 35, 3) := rfl
theorem c_11_22 : mLk 11 22 = some (.invokevirtual 52, 3) := rfl
theorem c_14_0 : mLk 14 0 = some (.aload_n 1, 1) := rfl
theorem c_14_1 : mLk 14 1 = some (.invokevirtual 68, 3) := rfl
theorem c_14_4 : mLk 14 4 = some (.ifCond .eq 15, 3) := rfl
theorem c_14_19 : mLk 14 19 = some (.aload_n 1, 1) := rfl
theorem c_14_20 : mLk 14 20 = some (.invokevirtual 75, 3) := rfl
theorem c_14_23 : mLk 14 23 = some (.istore_n 3, 1) := rfl
theorem c_14_24 : mLk 14 24 = some (.aload_n 1, 1) := rfl
theorem c_14_25 : mLk 14 25 = some (.ldc 79, 2) := rfl
theorem c_14_27 : mLk 14 27 = some (.invokevirtual 55, 3) := rfl
theorem c_14_30 : mLk 14 30 = some (.iconst (-1), 1) := rfl
theorem c_14_31 : mLk 14 31 = some (.if_icmp .eq 7, 3) := rfl
theorem c_14_38 : mLk 14 38 = some (.iconst 0, 1) := rfl
theorem c_14_39 : mLk 14 39 = some (.istore 4, 2) := rfl
theorem c_14_41 : mLk 14 41 = some (.iload 4, 2) := rfl
theorem c_14_43 : mLk 14 43 = some (.ifCond .eq 7, 3) := rfl
theorem c_14_50 : mLk 14 50 = some (.aload_n 1, 1) := rfl
theorem c_14_51 : mLk 14 51 = some (.ldc 81, 2) := rfl
theorem c_14_53 : mLk 14 53 = some (.invokevirtual 83, 3) := rfl
theorem c_14_56 : mLk 14 56 = some (.istore 5, 2) := rfl
theorem c_14_58 : mLk 14 58 = some (.iload 5, 2) := rfl
theorem c_14_60 : mLk 14 60 = some (.iconst (-1), 1) := rfl
theorem c_14_61 : mLk 14 61 = some (.if_icmp .eq 21, 3) := rfl
theorem c_14_82 : mLk 14 82 = some (.iload_n 2, 1) := rfl
theorem c_14_83 : mLk 14 83 = some (.bipush 6, 2) := rfl
theorem c_14_85 : mLk 14 85 = some (.if_icmp .lt 9, 3) := rfl
theorem c_14_94 : mLk 14 94 = some (.aload_n 1, 1) := rfl
theorem c_14_95 : mLk 14 95 = some (.invokevirtual 40, 3) := rfl
theorem c_14_98 : mLk 14 98 = some (.ifCond .ne 4, 3) := rfl
theorem c_14_88 : mLk 14 88 = some (.aload_n 1, 1) := rfl
theorem c_14_89 : mLk 14 89 = some (.iconst 3, 1) := rfl
theorem c_14_90 : mLk 14 90 = some (.iload_n 3, 1) := rfl
theorem c_14_91 : mLk 14 91 = some (.invokevirtual 86, 3) := rfl
theorem c_14_64 : mLk 14 64 = some (.iload 5, 2) := rfl
theorem c_14_66 : mLk 14 66 = some (.bipush 8, 2) := rfl
theorem c_14_68 : mLk 14 68 = some (.if_icmp .ge 14, 3) := rfl
theorem c_14_102 : mLk 14 102 = some (.iload 4, 2) := rfl
theorem c_14_104 : mLk 14 104 = some (.ifCond .eq 20, 3) := rfl
theorem c_14_124 : mLk 14 124 = some (.aload_n 1, 1) := rfl
theorem c_14_125 : mLk 14 125 = some (.ldc 96, 2) := rfl
theorem c_14_127 : mLk 14 127 = some (.invokevirtual 92, 3) := rfl
theorem c_14_130 : mLk 14 130 = some (.aload_n 0, 1) := rfl
theorem c_14_131 : mLk 14 131 = some (.aload_n 1, 1) := rfl
theorem c_14_132 : mLk 14 132 = some (.iload_n 2, 1) := rfl
theorem c_14_133 : mLk 14 133 = some (.iconst 1, 1) := rfl
theorem c_14_134 : mLk 14 134 = some (.iadd, 1) := rfl
theorem c_14_135 : mLk 14 135 = some (.invokevirtual 31, 3) := rfl
theorem c_14_138 : mLk 14 138 = some (.aload_n 1, 1) := rfl
theorem c_14_139 : mLk 14 139 = some (.ldc 98, 2) := rfl
theorem c_14_141 : mLk 14 141 = some (.invokevirtual 92, 3) := rfl
theorem c_14_144 : mLk 14 144 = some (.aload_n 0, 1) := rfl
theorem c_14_145 : mLk 14 145 = some (.aload_n 1, 1) := rfl
theorem c_14_146 : mLk 14 146 = some (.iload_n 2, 1) := rfl
theorem c_14_147 : mLk 14 147 = some (.iconst 1, 1) := rfl
theorem c_14_148 : mLk 14 148 = some (.iadd, 1) := rfl
theorem c_14_149 : mLk 14 149 = some (.invokevirtual 31, 3) := rfl
theorem c_14_152 : mLk 14 152 = some (.aload_n 1, 1) := rfl
theorem c_14_153 : mLk 14 153 = some (.ldc 100, 2) := rfl
theorem c_14_155 : mLk 14 155 = some (.invokevirtual 92, 3) := rfl
theorem c_14_158 : mLk 14 158 = some (.aload_n 0, 1) := rfl
theorem c_14_159 : mLk 14 159 = some (.sipush 2005, 3) := rfl
theorem c_14_162 : mLk 14 162 = some (.iload 5, 2) := rfl
theorem c_14_164 : mLk 14 164 = some (.iadd, 1) := rfl
theorem c_14_165 : mLk 14 165 = some (.bipush 8, 2) := rfl
theorem c_14_167 : mLk 14 167 = some (.isub, 1) := rfl
theorem c_14_168 : mLk 14 168 = some (.invokevirtual 59, 3) := rfl
theorem c_14_71 : mLk 14 71 = some (.aload_n 0, 1) := rfl
theorem c_14_72 : mLk 14 72 = some (.sipush 1000, 3) := rfl
theorem c_14_75 : mLk 14 75 = some (.iload 5, 2) := rfl
theorem c_14_77 : mLk 14 77 = some (.iadd, 1) := rfl
theorem c_14_78 : mLk 14 78 = some (.invokevirtual 59, 3) := rfl
theorem c_14_34 : mLk 14 34 = some (.iconst 1, 1) := rfl
theorem c_14_35 : mLk 14 35 = some (.goto 4, 3) := rfl
theorem c_14_46 : mLk 14 46 = some (.iconst (-1), 1) := rfl
theorem c_14_47 : mLk 14 47 = some (.goto 9, 3) := rfl
theorem c_14_107 : mLk 14 107 = some (.aload_n 0, 1) := rfl
theorem c_14_108 : mLk 14 108 = some (.aload_n 1, 1) := rfl
theorem c_14_109 : mLk 14 109 = some (.iload_n 2, 1) := rfl
theorem c_14_110 : mLk 14 110 = some (.iconst 1, 1) := rfl
theorem c_14_111 : mLk 14 111 = some (.iadd, 1) := rfl
theorem c_14_112 : mLk 14 112 = some (.invokevirtual 31, 3) := rfl
theorem c_14_115 : mLk 14 115 = some (.aload_n 1, 1) := rfl
theorem c_14_116 : mLk 14 116 = some (.ldc 90, 2) := rfl
theorem c_14_118 : mLk 14 118 = some (.invokevirtual 92, 3) := rfl
theorem c_14_121 : mLk 14 121 = some (.goto 50, 3) := rfl
theorem c_14_7 : mLk 14 7 = some (.aload_n 0, 1) := rfl
theorem c_14_8 : mLk 14 8 = some (.aload_n 1, 1) := rfl
theorem c_14_9 : mLk 14 9 = some (.sipush 999, 3) := rfl
theorem c_14_12 : mLk 14 12 = some (.invokevirtual 71, 3) := rfl
theorem c_14_15 : mLk 14 15 = some (.invokevirtual 59, 3) := rfl
theorem c_12_8 : mLk 12 8 = some (.iload_n 3, 1) := rfl
theorem c_12_9 : mLk 12 9 = some (.sipush 150, 3) := rfl
theorem c_12_12 : mLk 12 12 = some (.if_icmp .ge 47, 3) := rfl
theorem c_12_15 : mLk 12 15 = some (.aload_n 1, 1) := rfl
theorem c_12_16 : mLk 12 16 = some (.invokevirtual 40, 3) := rfl
theorem c_12_19 : mLk 12 19 = some (.ifCond .eq 40, 3) := rfl
theorem c_12_22 : mLk 12 22 = some (.aload_n 1, 1) := rfl
theorem c_12_23 : mLk 12 23 = some (.ldc 66, 2) := rfl
theorem c_12_25 : mLk 12 25 = some (.invokevirtual 55, 3) := rfl
theorem c_12_28 : mLk 12 28 = some (.istore 4, 2) := rfl
theorem c_12_30 : mLk 12 30 = some (.iload 4, 2) := rfl
theorem c_12_32 : mLk 12 32 = some (.iconst (-1), 1) := rfl
theorem c_12_33 : mLk 12 33 = some (.if_icmp .ne 4, 3) := rfl
theorem c_12_37 : mLk 12 37 = some (.aload_n 0, 1) := rfl
theorem c_12_38 : mLk 12 38 = some (.aload_n 1, 1) := rfl
theorem c_12_39 : mLk 12 39 = some (.iload_n 2, 1) := rfl
theorem c_12_40 : mLk 12 40 = some (.invokevirtual 63, 3) := rfl
theorem c_12_43 : mLk 12 43 = some (.aload_n 0, 1) := rfl
theorem c_12_44 : mLk 12 44 = some (.sipush 2002, 3) := rfl
theorem c_12_47 : mLk 12 47 = some (.iload 4, 2) := rfl
theorem c_12_49 : mLk 12 49 = some (.iadd, 1) := rfl
theorem c_12_50 : mLk 12 50 = some (.invokevirtual 59, 3) := rfl
theorem c_12_53 : mLk 12 53 = some (.iinc 3 1, 3) := rfl
theorem c_12_56 : mLk 12 56 = some (.goto (-48), 3) := rfl
theorem c_12_0 : mLk 12 0 = some (.aload_n 0, 1) := rfl
theorem c_12_1 : mLk 12 1 = some (.aload_n 1, 1) := rfl
theorem c_12_2 : mLk 12 2 = some (.iload_n 2, 1) := rfl
theorem c_12_3 : mLk 12 3 = some (.invokevirtual 63, 3) := rfl
theorem c_12_6 : mLk 12 6 = some (.iconst 0, 1) := rfl
theorem c_12_7 : mLk 12 7 = some (.istore_n 3, 1) := rfl
theorem c_13_8 : mLk 13 8 = some (.iload_n 3, 1) := rfl
theorem c_13_9 : mLk 13 9 = some (.sipush 150, 3) := rfl
theorem c_13_12 : mLk 13 12 = some (.if_icmp .ge 47, 3) := rfl
theorem c_13_15 : mLk 13 15 = some (.aload_n 1, 1) := rfl
theorem c_13_16 : mLk 13 16 = some (.invokevirtual 40, 3) := rfl
theorem c_13_19 : mLk 13 19 = some (.ifCond .eq 40, 3) := rfl
theorem c_13_22 : mLk 13 22 = some (.aload_n 1, 1) := rfl
theorem c_13_23 : mLk 13 23 = some (.ldc 53, 2) := rfl
theorem c_13_25 : mLk 13 25 = some (.invokevirtual 55, 3) := rfl
theorem c_13_28 : mLk 13 28 = some (.istore 4, 2) := rfl
theorem c_13_30 : mLk 13 30 = some (.iload 4, 2) := rfl
theorem c_13_32 : mLk 13 32 = some (.iconst (-1), 1) := rfl
theorem c_13_33 : mLk 13 33 = some (.if_icmp .ne 4, 3) := rfl
theorem c_13_37 : mLk 13 37 = some (.aload_n 0, 1) := rfl
theorem c_13_38 : mLk 13 38 = some (.aload_n 1, 1) := rfl
theorem c_13_39 : mLk 13 39 = some (.iload_n 2, 1) := rfl
theorem c_13_40 : mLk 13 40 = some (.invokevirtual 50, 3) := rfl
theorem c_13_43 : mLk 13 43 = some (.aload_n 0, 1) := rfl
theorem c_13_44 : mLk 13 44 = some (.sipush 2000, 3) := rfl
theorem c_13_47 : mLk 13 47 = some (.iload 4, 2) := rfl
theorem c_13_49 : mLk 13 49 = some (.iadd, 1) := rfl
theorem c_13_50 : mLk 13 50 = some (.invokevirtual 59, 3) := rfl
theorem c_13_53 : mLk 13 53 = some (.iinc 3 1, 3) := rfl
theorem c_13_56 : mLk 13 56 = some (.goto (-48), 3) := rfl
theorem c_13_0 : mLk 13 0 = some (.aload_n 0, 1) := rfl
theorem c_13_1 : mLk 13 1 = some (.aload_n 1, 1) := rfl
theorem c_13_2 : mLk 13 2 = some (.iload_n 2, 1) := rfl
theorem c_13_3 : mLk 13 3 = some (.invokevirtual 50, 3) := rfl
theorem c_13_6 : mLk 13 6 = some (.iconst 0, 1) := rfl
theorem c_13_7 : mLk 13 7 = some (.istore_n 3, 1) := rfl
theorem c_15_0 : mLk 15 0 = some (.aload_n 0, 1) := rfl
theorem c_15_1 : mLk 15 1 = some (.invokevirtual 45, 3) := rfl
theorem c_15_4 : mLk 15 4 = some (.ifCond .eq 18, 3) := rfl
theorem c_15_22 : mLk 15 22 = some (.iconst 0, 1) := rfl
theorem c_15_23 : mLk 15 23 = some (.ireturn, 1) := rfl
theorem c_15_7 : mLk 15 7 = some (.aload_n 0, 1) := rfl
theorem c_15_8 : mLk 15 8 = some (.invokevirtual 41, 3) := rfl
theorem c_15_11 : mLk 15 11 = some (.aload_n 0, 1) := rfl
theorem c_15_12 : mLk 15 12 = some (.getfield 32, 3) := rfl
theorem c_15_15 : mLk 15 15 = some (.if_icmp .ge 7, 3) := rfl
theorem c_15_18 : mLk 15 18 = some (.iconst 1, 1) := rfl
theorem c_15_19 : mLk 15 19 = some (.goto 4, 3) := rfl
theorem c_16_0 : mLk 16 0 = some (.aload_n 0, 1) := rfl
theorem c_16_1 : mLk 16 1 = some (.invokevirtual 49, 3) := rfl
theorem c_16_4 : mLk 16 4 = some (.ifCond .eq 12, 3) := rfl
theorem c_16_7 : mLk 16 7 = some (.aload_n 0, 1) := rfl
theorem c_16_8 : mLk 16 8 = some (.iconst 1, 1) := rfl
theorem c_16_9 : mLk 16 9 = some (.aload_n 0, 1) := rfl
theorem c_16_10 : mLk 16 10 = some (.getfield 35, 3) := rfl
theorem c_16_13 : mLk 16 13 = some (.invokevirtual 52, 3) := rfl
theorem c_17_0 : mLk 17 0 = some (.aload_n 0, 1) := rfl
theorem c_17_1 : mLk 17 1 = some (.iconst 0, 1) := rfl
theorem c_17_2 : mLk 17 2 = some (.putfield 28, 3) := rfl
theorem c_17_5 : mLk 17 5 = some (.aload_n 0, 1) := rfl
theorem c_17_6 : mLk 17 6 = some (.aload_n 1, 1) := rfl
theorem c_17_7 : mLk 17 7 = some (.iconst 0, 1) := rfl
theorem c_17_8 : mLk 17 8 = some (.invokevirtual 31, 3) := rfl
theorem c_17_11 : mLk 17 11 = some (.aload_n 1, 1) := rfl
theorem c_17_12 : mLk 17 12 = some (.invokevirtual 35, 3) := rfl
theorem c_17_15 : mLk 17 15 = some (.aload_n 1, 1) := rfl
theorem c_17_16 : mLk 17 16 = some (.invokevirtual 40, 3) := rfl
theorem c_17_19 : mLk 17 19 = some (.ifCond .eq 27, 3) := rfl
theorem c_17_22 : mLk 17 22 = some (.aload_n 0, 1) := rfl
theorem c_17_23 : mLk 17 23 = some (.getfield 15, 3) := rfl
theorem c_17_26 : mLk 17 26 = some (.iconst 0, 1) := rfl
theorem c_17_27 : mLk 17 27 = some (.aload_n 0, 1) := rfl
theorem c_17_28 : mLk 17 28 = some (.getfield 9, 3) := rfl
theorem c_17_31 : mLk 17 31 = some (.iconst 0, 1) := rfl
theorem c_17_32 : mLk 17 32 = some (.sipush 150, 3) := rfl
theorem c_17_35 : mLk 17 35 = some (.invokestatic 44, 3) := rfl
theorem c_17_38 : mLk 17 38 = some (.aload_n 0, 1) := rfl
theorem c_17_39 : mLk 17 39 = some (.aload_n 0, 1) := rfl
theorem c_17_40 : mLk 17 40 = some (.getfield 28, 3) := rfl
theorem c_17_43 : mLk 17 43 = some (.putfield 24, 3) := rfl
theorem c_19_0 : mLk 19 0 = some (.iload_n 0, 1) := rfl
theorem c_19_1 : mLk 19 1 = some (.tableswitch 86 2000 2005 #[39, 43, 47, 51, 63, 75], 39) := rfl
theorem c_19_40 : mLk 19 40 = some (.iload_n 1, 1) := rfl
theorem c_19_41 : mLk 19 41 = some (.iload_n 2, 1) := rfl
theorem c_19_42 : mLk 19 42 = some (.iadd, 1) := rfl
theorem c_19_43 : mLk 19 43 = some (.ireturn, 1) := rfl
theorem c_19_44 : mLk 19 44 = some (.iload_n 1, 1) := rfl
theorem c_19_45 : mLk 19 45 = some (.iload_n 2, 1) := rfl
theorem c_19_46 : mLk 19 46 = some (.isub, 1) := rfl
theorem c_19_47 : mLk 19 47 = some (.ireturn, 1) := rfl
theorem c_19_48 : mLk 19 48 = some (.iload_n 1, 1) := rfl
theorem c_19_49 : mLk 19 49 = some (.iload_n 2, 1) := rfl
theorem c_19_50 : mLk 19 50 = some (.imul, 1) := rfl
theorem c_19_51 : mLk 19 51 = some (.ireturn, 1) := rfl
theorem c_19_52 : mLk 19 52 = some (.iload_n 2, 1) := rfl
theorem c_19_53 : mLk 19 53 = some (.ifCond .ne 7, 3) := rfl
theorem c_19_60 : mLk 19 60 = some (.iload_n 1, 1) := rfl
theorem c_19_61 : mLk 19 61 = some (.iload_n 2, 1) := rfl
theorem c_19_62 : mLk 19 62 = some (.idiv, 1) := rfl
theorem c_19_63 : mLk 19 63 = some (.ireturn, 1) := rfl
theorem c_19_56 : mLk 19 56 = some (.iconst 0, 1) := rfl
theorem c_19_57 : mLk 19 57 = some (.goto 6, 3) := rfl
theorem c_19_64 : mLk 19 64 = some (.iload_n 2, 1) := rfl
theorem c_19_65 : mLk 19 65 = some (.ifCond .ne 7, 3) := rfl
theorem c_19_72 : mLk 19 72 = some (.iload_n 1, 1) := rfl
theorem c_19_73 : mLk 19 73 = some (.iload_n 2, 1) := rfl
theorem c_19_74 : mLk 19 74 = some (.irem, 1) := rfl
theorem c_19_75 : mLk 19 75 = some (.ireturn, 1) := rfl
theorem c_19_68 : mLk 19 68 = some (.iconst 0, 1) := rfl
theorem c_19_69 : mLk 19 69 = some (.goto 6, 3) := rfl
theorem c_19_76 : mLk 19 76 = some (.iload_n 1, 1) := rfl
theorem c_19_77 : mLk 19 77 = some (.iload_n 2, 1) := rfl
theorem c_19_78 : mLk 19 78 = some (.if_icmp .gt 7, 3) := rfl
theorem c_19_85 : mLk 19 85 = some (.iload_n 2, 1) := rfl
theorem c_19_86 : mLk 19 86 = some (.ireturn, 1) := rfl
theorem c_19_81 : mLk 19 81 = some (.iload_n 1, 1) := rfl
theorem c_19_82 : mLk 19 82 = some (.goto 4, 3) := rfl
theorem c_19_87 : mLk 19 87 = some (.iload_n 1, 1) := rfl
theorem c_19_88 : mLk 19 88 = some (.iload_n 2, 1) := rfl
theorem c_19_89 : mLk 19 89 = some (.if_icmp .lt 7, 3) := rfl
theorem c_19_96 : mLk 19 96 = some (.iload_n 2, 1) := rfl
theorem c_19_97 : mLk 19 97 = some (.ireturn, 1) := rfl
theorem c_19_92 : mLk 19 92 = some (.iload_n 1, 1) := rfl
theorem c_19_93 : mLk 19 93 = some (.goto 4, 3) := rfl
theorem c_20_108 : mLk 20 108 = some (.iload 10, 2) := rfl
theorem c_20_110 : mLk 20 110 = some (.aload_n 0, 1) := rfl
theorem c_20_111 : mLk 20 111 = some (.getfield 24, 3) := rfl
theorem c_20_114 : mLk 20 114 = some (.if_icmp .ge 102, 3) := rfl
theorem c_20_216 : mLk 20 216 = some (.aload_n 0, 1) := rfl
theorem c_20_217 : mLk 20 217 = some (.getfield 18, 3) := rfl
theorem c_20_220 : mLk 20 220 = some (.iconst 0, 1) := rfl
theorem c_20_221 : mLk 20 221 = some (.iaload, 1) := rfl
theorem c_20_222 : mLk 20 222 = some (.invokestatic 102, 3) := rfl
theorem c_18_0 : mLk 18 0 = some (.iload_n 0, 1) := rfl
theorem c_18_1 : mLk 18 1 = some (.ifCond .ge 7, 3) := rfl
theorem c_18_8 : mLk 18 8 = some (.iload_n 0, 1) := rfl
theorem c_18_9 : mLk 18 9 = some (.bipush 99, 2) := rfl
theorem c_18_11 : mLk 18 11 = some (.if_icmp .le 8, 3) := rfl
theorem c_18_19 : mLk 18 19 = some (.iload_n 0, 1) := rfl
theorem c_18_20 : mLk 18 20 = some (.ireturn, 1) := rfl
theorem c_20_225 : mLk 20 225 = some (.ireturn, 1) := rfl
theorem c_18_14 : mLk 18 14 = some (.bipush 99, 2) := rfl
theorem c_18_16 : mLk 18 16 = some (.goto 4, 3) := rfl
theorem c_18_4 : mLk 18 4 = some (.iconst 0, 1) := rfl
theorem c_18_5 : mLk 18 5 = some (.goto 15, 3) := rfl
theorem c_20_117 : mLk 20 117 = some (.aload_n 0, 1) := rfl
theorem c_20_118 : mLk 20 118 = some (.getfield 9, 3) := rfl
theorem c_20_121 : mLk 20 121 = some (.iload 10, 2) := rfl
theorem c_20_123 : mLk 20 123 = some (.iaload, 1) := rfl
theorem c_20_124 : mLk 20 124 = some (.istore 11, 2) := rfl
theorem c_20_126 : mLk 20 126 = some (.iload 11, 2) := rfl
theorem c_20_128 : mLk 20 128 = some (.sipush 2000, 3) := rfl
theorem c_20_131 : mLk 20 131 = some (.if_icmp .ge 40, 3) := rfl
theorem c_20_171 : mLk 20 171 = some (.iload 9, 2) := rfl
theorem c_20_173 : mLk 20 173 = some (.iconst 1, 1) := rfl
theorem c_20_174 : mLk 20 174 = some (.if_icmp .le 36, 3) := rfl
theorem c_20_210 : mLk 20 210 = some (.iinc 10 1, 3) := rfl
theorem c_20_213 : mLk 20 213 = some (.goto (-105), 3) := rfl
theorem c_20_177 : mLk 20 177 = some (.iinc 9 (-1), 3) := rfl
theorem c_20_180 : mLk 20 180 = some (.aload_n 0, 1) := rfl
theorem c_20_181 : mLk 20 181 = some (.getfield 18, 3) := rfl
theorem c_20_184 : mLk 20 184 = some (.iload 9, 2) := rfl
theorem c_20_186 : mLk 20 186 = some (.iconst 1, 1) := rfl
theorem c_20_187 : mLk 20 187 = some (.isub, 1) := rfl
theorem c_20_188 : mLk 20 188 = some (.iload 11, 2) := rfl
theorem c_20_190 : mLk 20 190 = some (.aload_n 0, 1) := rfl
theorem c_20_191 : mLk 20 191 = some (.getfield 18, 3) := rfl
theorem c_20_194 : mLk 20 194 = some (.iload 9, 2) := rfl
theorem c_20_196 : mLk 20 196 = some (.iconst 1, 1) := rfl
theorem c_20_197 : mLk 20 197 = some (.isub, 1) := rfl
theorem c_20_198 : mLk 20 198 = some (.iaload, 1) := rfl
theorem c_20_199 : mLk 20 199 = some (.aload_n 0, 1) := rfl
theorem c_20_200 : mLk 20 200 = some (.getfield 18, 3) := rfl
theorem c_20_203 : mLk 20 203 = some (.iload 9, 2) := rfl
theorem c_20_205 : mLk 20 205 = some (.iaload, 1) := rfl
theorem c_20_206 : mLk 20 206 = some (.invokestatic 105, 3) := rfl
theorem c_20_209 : mLk 20 209 = some (.iastore, 1) := rfl
theorem c_20_134 : mLk 20 134 = some (.aload_n 0, 1) := rfl
theorem c_20_135 : mLk 20 135 = some (.getfield 18, 3) := rfl
theorem c_20_138 : mLk 20 138 = some (.iload 9, 2) := rfl
theorem c_20_140 : mLk 20 140 = some (.iload 11, 2) := rfl
theorem c_20_142 : mLk 20 142 = some (.sipush 1000, 3) := rfl
theorem c_20_145 : mLk 20 145 = some (.if_icmp .ge 8, 3) := rfl
theorem c_20_153 : mLk 20 153 = some (.aload_n 0, 1) := rfl
theorem c_20_154 : mLk 20 154 = some (.getfield 21, 3) := rfl
theorem c_20_157 : mLk 20 157 = some (.iload 11, 2) := rfl
theorem c_20_159 : mLk 20 159 = some (.sipush 1000, 3) := rfl
theorem c_20_162 : mLk 20 162 = some (.isub, 1) := rfl
theorem c_20_163 : mLk 20 163 = some (.iaload, 1) := rfl
theorem c_20_164 : mLk 20 164 = some (.iastore, 1) := rfl
theorem c_20_165 : mLk 20 165 = some (.iinc 9 1, 3) := rfl
theorem c_20_168 : mLk 20 168 = some (.goto 42, 3) := rfl
theorem c_20_148 : mLk 20 148 = some (.iload 11, 2) := rfl
theorem c_20_150 : mLk 20 150 = some (.goto 14, 3) := rfl
theorem c_20_0 : mLk 20 0 = some (.iload_n 1, 1) := rfl
theorem c_20_1 : mLk 20 1 = some (.iload_n 2, 1) := rfl
theorem c_20_2 : mLk 20 2 = some (.iadd, 1) := rfl
theorem c_20_3 : mLk 20 3 = some (.iload_n 3, 1) := rfl
theorem c_20_4 : mLk 20 4 = some (.iadd, 1) := rfl
theorem c_20_5 : mLk 20 5 = some (.iload 4, 2) := rfl
theorem c_20_7 : mLk 20 7 = some (.iadd, 1) := rfl
theorem c_20_8 : mLk 20 8 = some (.istore 8, 2) := rfl
theorem c_20_10 : mLk 20 10 = some (.aload_n 0, 1) := rfl
theorem c_20_11 : mLk 20 11 = some (.getfield 24, 3) := rfl
theorem c_20_14 : mLk 20 14 = some (.ifCond .ne 25, 3) := rfl
theorem c_20_39 : mLk 20 39 = some (.aload_n 0, 1) := rfl
theorem c_20_40 : mLk 20 40 = some (.getfield 21, 3) := rfl
theorem c_20_43 : mLk 20 43 = some (.iconst 0, 1) := rfl
theorem c_20_44 : mLk 20 44 = some (.iload_n 1, 1) := rfl
theorem c_20_45 : mLk 20 45 = some (.iastore, 1) := rfl
theorem c_20_46 : mLk 20 46 = some (.aload_n 0, 1) := rfl
theorem c_20_47 : mLk 20 47 = some (.getfield 21, 3) := rfl
theorem c_20_50 : mLk 20 50 = some (.iconst 1, 1) := rfl
theorem c_20_51 : mLk 20 51 = some (.iload_n 2, 1) := rfl
theorem c_20_52 : mLk 20 52 = some (.iastore, 1) := rfl
theorem c_20_53 : mLk 20 53 = some (.aload_n 0, 1) := rfl
theorem c_20_54 : mLk 20 54 = some (.getfield 21, 3) := rfl
theorem c_20_57 : mLk 20 57 = some (.iconst 2, 1) := rfl
theorem c_20_58 : mLk 20 58 = some (.iload_n 3, 1) := rfl
theorem c_20_59 : mLk 20 59 = some (.iastore, 1) := rfl
theorem c_20_60 : mLk 20 60 = some (.aload_n 0, 1) := rfl
theorem c_20_61 : mLk 20 61 = some (.getfield 21, 3) := rfl
theorem c_20_64 : mLk 20 64 = some (.iconst 3, 1) := rfl
theorem c_20_65 : mLk 20 65 = some (.iload 4, 2) := rfl
theorem c_20_67 : mLk 20 67 = some (.iastore, 1) := rfl
theorem c_20_68 : mLk 20 68 = some (.aload_n 0, 1) := rfl
theorem c_20_69 : mLk 20 69 = some (.getfield 21, 3) := rfl
theorem c_20_72 : mLk 20 72 = some (.iconst 4, 1) := rfl
theorem c_20_73 : mLk 20 73 = some (.iload 8, 2) := rfl
theorem c_20_75 : mLk 20 75 = some (.iastore, 1) := rfl
theorem c_20_76 : mLk 20 76 = some (.aload_n 0, 1) := rfl
theorem c_20_77 : mLk 20 77 = some (.getfield 21, 3) := rfl
theorem c_20_80 : mLk 20 80 = some (.iconst 5, 1) := rfl
theorem c_20_81 : mLk 20 81 = some (.iload 5, 2) := rfl
theorem c_20_83 : mLk 20 83 = some (.iastore, 1) := rfl
theorem c_20_84 : mLk 20 84 = some (.aload_n 0, 1) := rfl
theorem c_20_85 : mLk 20 85 = some (.getfield 21, 3) := rfl
theorem c_20_88 : mLk 20 88 = some (.bipush 6, 2) := rfl
theorem c_20_90 : mLk 20 90 = some (.iload 6, 2) := rfl
theorem c_20_92 : mLk 20 92 = some (.iastore, 1) := rfl
theorem c_20_93 : mLk 20 93 = some (.aload_n 0, 1) := rfl
theorem c_20_94 : mLk 20 94 = some (.getfield 21, 3) := rfl
theorem c_20_97 : mLk 20 97 = some (.bipush 7, 2) := rfl
theorem c_20_99 : mLk 20 99 = some (.iload 7, 2) := rfl
theorem c_20_101 : mLk 20 101 = some (.iastore, 1) := rfl
theorem c_20_102 : mLk 20 102 = some (.iconst 0, 1) := rfl
theorem c_20_103 : mLk 20 103 = some (.istore 9, 2) := rfl
theorem c_20_105 : mLk 20 105 = some (.iconst 0, 1) := rfl
theorem c_20_106 : mLk 20 106 = some (.istore 10, 2) := rfl
theorem c_20_17 : mLk 20 17 = some (.iload 8, 2) := rfl
theorem c_20_19 : mLk 20 19 = some (.ifCond .lt 18, 3) := rfl
theorem c_20_22 : mLk 20 22 = some (.iload_n 1, 1) := rfl
theorem c_20_23 : mLk 20 23 = some (.bipush 90, 2) := rfl
theorem c_20_25 : mLk 20 25 = some (.imul, 1) := rfl
theorem c_20_26 : mLk 20 26 = some (.iload 8, 2) := rfl
theorem c_20_28 : mLk 20 28 = some (.iconst 1, 1) := rfl
theorem c_20_29 : mLk 20 29 = some (.iadd, 1) := rfl
theorem c_20_30 : mLk 20 30 = some (.idiv, 1) := rfl
theorem c_20_31 : mLk 20 31 = some (.invokestatic 102, 3) := rfl
theorem c_20_34 : mLk 20 34 = some (.goto 4, 3) := rfl
theorem c_20_38 : mLk 20 38 = some (.ireturn, 1) := rfl
theorem c_22_0 : mLk 22 0 = some (.aload_n 0, 1) := rfl
theorem c_22_1 : mLk 22 1 = some (.iconst 0, 1) := rfl
theorem c_22_2 : mLk 22 2 = some (.putfield 21, 3) := rfl
theorem c_22_5 : mLk 22 5 = some (.aload_n 0, 1) := rfl
theorem c_22_6 : mLk 22 6 = some (.iconst 0, 1) := rfl
theorem c_22_7 : mLk 22 7 = some (.putfield 25, 3) := rfl
theorem c_24_0 : mLk 24 0 = some (.aload_n 0, 1) := rfl
theorem c_24_1 : mLk 24 1 = some (.invokevirtual 28, 3) := rfl
theorem c_23_0 : mLk 23 0 = some (.aload_n 0, 1) := rfl
theorem c_23_1 : mLk 23 1 = some (.getfield 21, 3) := rfl
theorem c_23_4 : mLk 23 4 = some (.bipush 16, 2) := rfl
theorem c_23_6 : mLk 23 6 = some (.if_icmp .lt 7, 3) := rfl
theorem c_23_13 : mLk 23 13 = some (.iconst 0, 1) := rfl
theorem c_23_14 : mLk 23 14 = some (.ireturn, 1) := rfl
theorem c_24_4 : mLk 24 4 = some (.ifCond .ne 34, 3) := rfl
theorem c_24_7 : mLk 24 7 = some (.aload_n 1, 1) := rfl
theorem c_24_8 : mLk 24 8 = some (.getfield 32, 3) := rfl
theorem c_24_11 : mLk 24 11 = some (.iconst 0, 1) := rfl
theorem c_24_12 : mLk 24 12 = some (.aload_n 0, 1) := rfl
theorem c_24_13 : mLk 24 13 = some (.getfield 11, 3) := rfl
theorem c_24_16 : mLk 24 16 = some (.aload_n 0, 1) := rfl
theorem c_24_17 : mLk 24 17 = some (.getfield 21, 3) := rfl
theorem c_24_20 : mLk 24 20 = some (.bipush 34, 2) := rfl
theorem c_24_22 : mLk 24 22 = some (.imul, 1) := rfl
theorem c_24_23 : mLk 24 23 = some (.bipush 34, 2) := rfl
theorem c_24_25 : mLk 24 25 = some (.invokestatic 35, 3) := rfl
theorem c_24_28 : mLk 24 28 = some (.aload_n 0, 1) := rfl
theorem c_24_29 : mLk 24 29 = some (.dup, 1) := rfl
theorem c_24_30 : mLk 24 30 = some (.getfield 21, 3) := rfl
theorem c_24_33 : mLk 24 33 = some (.iconst 1, 1) := rfl
theorem c_24_34 : mLk 24 34 = some (.iadd, 1) := rfl
theorem c_24_35 : mLk 24 35 = some (.putfield 21, 3) := rfl
theorem c_23_9 : mLk 23 9 = some (.iconst 1, 1) := rfl
theorem c_23_10 : mLk 23 10 = some (.goto 4, 3) := rfl
theorem c_25_0 : mLk 25 0 = some (.aload_n 0, 1) := rfl
theorem c_25_1 : mLk 25 1 = some (.getfield 21, 3) := rfl
theorem c_25_4 : mLk 25 4 = some (.ifCond .le 34, 3) := rfl
theorem c_25_7 : mLk 25 7 = some (.aload_n 0, 1) := rfl
theorem c_25_8 : mLk 25 8 = some (.dup, 1) := rfl
theorem c_25_9 : mLk 25 9 = some (.getfield 21, 3) := rfl
theorem c_25_12 : mLk 25 12 = some (.iconst 1, 1) := rfl
theorem c_25_13 : mLk 25 13 = some (.isub, 1) := rfl
theorem c_25_14 : mLk 25 14 = some (.putfield 21, 3) := rfl
theorem c_25_17 : mLk 25 17 = some (.aload_n 0, 1) := rfl
theorem c_25_18 : mLk 25 18 = some (.getfield 11, 3) := rfl
theorem c_25_21 : mLk 25 21 = some (.aload_n 0, 1) := rfl
theorem c_25_22 : mLk 25 22 = some (.getfield 21, 3) := rfl
theorem c_25_25 : mLk 25 25 = some (.bipush 34, 2) := rfl
theorem c_25_27 : mLk 25 27 = some (.imul, 1) := rfl
theorem c_25_28 : mLk 25 28 = some (.aload_n 1, 1) := rfl
theorem c_25_29 : mLk 25 29 = some (.getfield 32, 3) := rfl
theorem c_25_32 : mLk 25 32 = some (.iconst 0, 1) := rfl
theorem c_25_33 : mLk 25 33 = some (.bipush 34, 2) := rfl
theorem c_25_35 : mLk 25 35 = some (.invokestatic 35, 3) := rfl
theorem c_26_0 : mLk 26 0 = some (.aload_n 0, 1) := rfl
theorem c_26_1 : mLk 26 1 = some (.getfield 25, 3) := rfl
theorem c_26_4 : mLk 26 4 = some (.iconst 3, 1) := rfl
theorem c_26_5 : mLk 26 5 = some (.if_icmp .ge 73, 3) := rfl
theorem c_26_8 : mLk 26 8 = some (.aload_n 0, 1) := rfl
theorem c_26_9 : mLk 26 9 = some (.getfield 25, 3) := rfl
theorem c_26_12 : mLk 26 12 = some (.sipush 578, 3) := rfl
theorem c_26_15 : mLk 26 15 = some (.imul, 1) := rfl
theorem c_26_16 : mLk 26 16 = some (.istore_n 2, 1) := rfl
theorem c_26_17 : mLk 26 17 = some (.aload_n 1, 1) := rfl
theorem c_26_18 : mLk 26 18 = some (.getfield 32, 3) := rfl
theorem c_26_21 : mLk 26 21 = some (.iconst 0, 1) := rfl
theorem c_26_22 : mLk 26 22 = some (.aload_n 0, 1) := rfl
theorem c_26_23 : mLk 26 23 = some (.getfield 15, 3) := rfl
theorem c_26_26 : mLk 26 26 = some (.iload_n 2, 1) := rfl
theorem c_26_27 : mLk 26 27 = some (.bipush 34, 2) := rfl
theorem c_26_29 : mLk 26 29 = some (.invokestatic 35, 3) := rfl
theorem c_26_32 : mLk 26 32 = some (.aload_n 0, 1) := rfl
theorem c_26_33 : mLk 26 33 = some (.getfield 11, 3) := rfl
theorem c_26_36 : mLk 26 36 = some (.iconst 0, 1) := rfl
theorem c_26_37 : mLk 26 37 = some (.aload_n 0, 1) := rfl
theorem c_26_38 : mLk 26 38 = some (.getfield 15, 3) := rfl
theorem c_26_41 : mLk 26 41 = some (.iload_n 2, 1) := rfl
theorem c_26_42 : mLk 26 42 = some (.bipush 34, 2) := rfl
theorem c_26_44 : mLk 26 44 = some (.iadd, 1) := rfl
theorem c_26_45 : mLk 26 45 = some (.aload_n 0, 1) := rfl
theorem c_26_46 : mLk 26 46 = some (.getfield 21, 3) := rfl
theorem c_26_49 : mLk 26 49 = some (.bipush 34, 2) := rfl
theorem c_26_51 : mLk 26 51 = some (.imul, 1) := rfl
theorem c_26_52 : mLk 26 52 = some (.invokestatic 35, 3) := rfl
theorem c_26_55 : mLk 26 55 = some (.aload_n 0, 1) := rfl
theorem c_26_56 : mLk 26 56 = some (.getfield 18, 3) := rfl
theorem c_26_59 : mLk 26 59 = some (.aload_n 0, 1) := rfl
theorem c_26_60 : mLk 26 60 = some (.getfield 25, 3) := rfl
theorem c_26_63 : mLk 26 63 = some (.aload_n 0, 1) := rfl
theorem c_26_64 : mLk 26 64 = some (.getfield 21, 3) := rfl
theorem c_26_67 : mLk 26 67 = some (.iastore, 1) := rfl
theorem c_26_68 : mLk 26 68 = some (.aload_n 0, 1) := rfl
theorem c_26_69 : mLk 26 69 = some (.dup, 1) := rfl
theorem c_26_70 : mLk 26 70 = some (.getfield 25, 3) := rfl
theorem c_26_73 : mLk 26 73 = some (.iconst 1, 1) := rfl
theorem c_26_74 : mLk 26 74 = some (.iadd, 1) := rfl
theorem c_26_75 : mLk 26 75 = some (.putfield 25, 3) := rfl
theorem c_27_0 : mLk 27 0 = some (.aload_n 0, 1) := rfl
theorem c_27_1 : mLk 27 1 = some (.getfield 25, 3) := rfl
theorem c_27_4 : mLk 27 4 = some (.ifCond .le 73, 3) := rfl
theorem c_27_7 : mLk 27 7 = some (.aload_n 0, 1) := rfl
theorem c_27_8 : mLk 27 8 = some (.dup, 1) := rfl
theorem c_27_9 : mLk 27 9 = some (.getfield 25, 3) := rfl
theorem c_27_12 : mLk 27 12 = some (.iconst 1, 1) := rfl
theorem c_27_13 : mLk 27 13 = some (.isub, 1) := rfl
theorem c_27_14 : mLk 27 14 = some (.putfield 25, 3) := rfl
theorem c_27_17 : mLk 27 17 = some (.aload_n 0, 1) := rfl
theorem c_27_18 : mLk 27 18 = some (.aload_n 0, 1) := rfl
theorem c_27_19 : mLk 27 19 = some (.getfield 18, 3) := rfl
theorem c_27_22 : mLk 27 22 = some (.aload_n 0, 1) := rfl
theorem c_27_23 : mLk 27 23 = some (.getfield 25, 3) := rfl
theorem c_27_26 : mLk 27 26 = some (.iaload, 1) := rfl
theorem c_27_27 : mLk 27 27 = some (.putfield 21, 3) := rfl
theorem c_27_30 : mLk 27 30 = some (.aload_n 0, 1) := rfl
theorem c_27_31 : mLk 27 31 = some (.getfield 25, 3) := rfl
theorem c_27_34 : mLk 27 34 = some (.sipush 578, 3) := rfl
theorem c_27_37 : mLk 27 37 = some (.imul, 1) := rfl
theorem c_27_38 : mLk 27 38 = some (.istore_n 2, 1) := rfl
theorem c_27_39 : mLk 27 39 = some (.aload_n 0, 1) := rfl
theorem c_27_40 : mLk 27 40 = some (.getfield 15, 3) := rfl
theorem c_27_43 : mLk 27 43 = some (.iload_n 2, 1) := rfl
theorem c_27_44 : mLk 27 44 = some (.aload_n 1, 1) := rfl
theorem c_27_45 : mLk 27 45 = some (.getfield 32, 3) := rfl
theorem c_27_48 : mLk 27 48 = some (.iconst 0, 1) := rfl
theorem c_27_49 : mLk 27 49 = some (.bipush 34, 2) := rfl
theorem c_27_51 : mLk 27 51 = some (.invokestatic 35, 3) := rfl
theorem c_27_54 : mLk 27 54 = some (.aload_n 0, 1) := rfl
theorem c_27_55 : mLk 27 55 = some (.getfield 15, 3) := rfl
theorem c_27_58 : mLk 27 58 = some (.iload_n 2, 1) := rfl
theorem c_27_59 : mLk 27 59 = some (.bipush 34, 2) := rfl
theorem c_27_61 : mLk 27 61 = some (.iadd, 1) := rfl
theorem c_27_62 : mLk 27 62 = some (.aload_n 0, 1) := rfl
theorem c_27_63 : mLk 27 63 = some (.getfield 11, 3) := rfl
theorem c_27_66 : mLk 27 66 = some (.iconst 0, 1) := rfl
theorem c_27_67 : mLk 27 67 = some (.aload_n 0, 1) := rfl
theorem c_27_68 : mLk 27 68 = some (.getfield 21, 3) := rfl
theorem c_27_71 : mLk 27 71 = some (.bipush 34, 2) := rfl
theorem c_27_73 : mLk 27 73 = some (.imul, 1) := rfl
theorem c_27_74 : mLk 27 74 = some (.invokestatic 35, 3) := rfl
theorem c_29_0 : mLk 29 0 = some (.aload_n 0, 1) := rfl
theorem c_29_1 : mLk 29 1 = some (.getfield 19, 3) := rfl
theorem c_29_4 : mLk 29 4 = some (.iload_n 1, 1) := rfl
theorem c_29_5 : mLk 29 5 = some (.iconst 3, 1) := rfl
theorem c_29_6 : mLk 29 6 = some (.imul, 1) := rfl
theorem c_29_7 : mLk 29 7 = some (.iload_n 2, 1) := rfl
theorem c_29_8 : mLk 29 8 = some (.iadd, 1) := rfl
theorem c_29_9 : mLk 29 9 = some (.iaload, 1) := rfl
theorem c_29_10 : mLk 29 10 = some (.ireturn, 1) := rfl
theorem c_30_32 : mLk 30 32 = some (.iload_n 1, 1) := rfl
theorem c_30_33 : mLk 30 33 = some (.iconst 4, 1) := rfl
theorem c_30_34 : mLk 30 34 = some (.if_icmp .ge 16, 3) := rfl
theorem c_30_50 : mLk 30 50 = some (.aload_n 0, 1) := rfl
theorem c_30_51 : mLk 30 51 = some (.getfield 37, 3) := rfl
theorem c_30_54 : mLk 30 54 = some (.invokevirtual 96, 3) := rfl
theorem c_30_37 : mLk 30 37 = some (.aload_n 0, 1) := rfl
theorem c_30_38 : mLk 30 38 = some (.getfield 31, 3) := rfl
theorem c_30_41 : mLk 30 41 = some (.iload_n 1, 1) := rfl
theorem c_30_42 : mLk 30 42 = some (.iconst (-1), 1) := rfl
theorem c_30_43 : mLk 30 43 = some (.iastore, 1) := rfl
theorem c_30_44 : mLk 30 44 = some (.iinc 1 1, 3) := rfl
theorem c_30_47 : mLk 30 47 = some (.goto (-15), 3) := rfl
theorem c_30_0 : mLk 30 0 = some (.aload_n 0, 1) := rfl
theorem c_30_1 : mLk 30 1 = some (.iconst 0, 1) := rfl
theorem c_30_2 : mLk 30 2 = some (.putfield 81, 3) := rfl
theorem c_30_5 : mLk 30 5 = some (.aload_n 0, 1) := rfl
theorem c_30_6 : mLk 30 6 = some (.iconst 0, 1) := rfl
theorem c_30_7 : mLk 30 7 = some (.putfield 84, 3) := rfl
theorem c_30_10 : mLk 30 10 = some (.aload_n 0, 1) := rfl
theorem c_30_11 : mLk 30 11 = some (.iconst 0, 1) := rfl
theorem c_30_12 : mLk 30 12 = some (.putfield 87, 3) := rfl
theorem c_30_15 : mLk 30 15 = some (.aload_n 0, 1) := rfl
theorem c_30_16 : mLk 30 16 = some (.iconst 5, 1) := rfl
theorem c_30_17 : mLk 30 17 = some (.putfield 9, 3) := rfl
theorem c_30_20 : mLk 30 20 = some (.aload_n 0, 1) := rfl
theorem c_30_21 : mLk 30 21 = some (.iconst 0, 1) := rfl
theorem c_30_22 : mLk 30 22 = some (.putfield 90, 3) := rfl
theorem c_30_25 : mLk 30 25 = some (.aload_n 0, 1) := rfl
theorem c_30_26 : mLk 30 26 = some (.iconst 0, 1) := rfl
theorem c_30_27 : mLk 30 27 = some (.putfield 93, 3) := rfl
theorem c_30_30 : mLk 30 30 = some (.iconst 0, 1) := rfl
theorem c_30_31 : mLk 30 31 = some (.istore_n 1, 1) := rfl
theorem kf_0_15 : a_lk (kF 0) 15 = some (0, 1) := rfl
theorem kf_0_18 : a_lk (kF 0) 18 = some (0, 2) := rfl
theorem kf_0_21 : a_lk (kF 0) 21 = some (0, 3) := rfl
theorem kf_0_24 : a_lk (kF 0) 24 = some (0, 4) := rfl
theorem kf_0_28 : a_lk (kF 0) 28 = some (0, 5) := rfl
theorem kf_0_9 : a_lk (kF 0) 9 = some (0, 0) := rfl
theorem kf_1_11 : a_lk (kF 1) 11 = some (1, 0) := rfl
theorem kf_1_15 : a_lk (kF 1) 15 = some (1, 1) := rfl
theorem kf_1_18 : a_lk (kF 1) 18 = some (1, 2) := rfl
theorem kf_1_21 : a_lk (kF 1) 21 = some (1, 3) := rfl
theorem kf_1_25 : a_lk (kF 1) 25 = some (1, 4) := rfl
theorem kf_1_32 : a_lk (kF 1) 32 = some (4, 0) := rfl
theorem kf_2_19 : a_lk (kF 2) 19 = some (2, 7) := rfl
theorem kf_2_31 : a_lk (kF 2) 31 = some (2, 11) := rfl
theorem kf_2_37 : a_lk (kF 2) 37 = some (2, 12) := rfl
theorem kf_2_81 : a_lk (kF 2) 81 = some (2, 0) := rfl
theorem kf_2_84 : a_lk (kF 2) 84 = some (2, 1) := rfl
theorem kf_2_87 : a_lk (kF 2) 87 = some (2, 2) := rfl
theorem kf_2_9 : a_lk (kF 2) 9 = some (2, 3) := rfl
theorem kf_2_90 : a_lk (kF 2) 90 = some (2, 4) := rfl
theorem kf_2_93 : a_lk (kF 2) 93 = some (2, 5) := rfl
theorem kf_5_15 : a_lk (kF 5) 15 = some (5, 5) := rfl
theorem kf_5_32 : a_lk (kF 5) 32 = some (5, 1) := rfl
theorem kf_5_35 : a_lk (kF 5) 35 = some (5, 2) := rfl
theorem kf_5_38 : a_lk (kF 5) 38 = some (5, 4) := rfl
theorem kf_5_9 : a_lk (kF 5) 9 = some (5, 0) := rfl
theorem km_0_31 : a_lk (kM 0) 31 = some (0, 13) := rfl
theorem km_0_35 : a_lk (kM 0) 35 = some (0, 16) := rfl
theorem km_0_40 : a_lk (kM 0) 40 = some (0, 2) := rfl
theorem km_0_50 : a_lk (kM 0) 50 = some (0, 12) := rfl
theorem km_0_55 : a_lk (kM 0) 55 = some (0, 4) := rfl
theorem km_0_59 : a_lk (kM 0) 59 = some (0, 5) := rfl
theorem km_0_63 : a_lk (kM 0) 63 = some (0, 14) := rfl
theorem km_0_68 : a_lk (kM 0) 68 = some (0, 6) := rfl
theorem km_0_71 : a_lk (kM 0) 71 = some (0, 8) := rfl
theorem km_0_75 : a_lk (kM 0) 75 = some (0, 3) := rfl
theorem km_0_83 : a_lk (kM 0) 83 = some (0, 10) := rfl
theorem km_0_86 : a_lk (kM 0) 86 = some (0, 7) := rfl
theorem km_0_92 : a_lk (kM 0) 92 = some (0, 11) := rfl
theorem km_1_28 : a_lk (kM 1) 28 = some (0, 23) := rfl
theorem km_2_96 : a_lk (kM 2) 96 = some (0, 1) := rfl
theorem km_5_41 : a_lk (kM 5) 41 = some (0, 3) := rfl
theorem km_5_45 : a_lk (kM 5) 45 = some (0, 2) := rfl
theorem km_5_49 : a_lk (kM 5) 49 = some (0, 15) := rfl
theorem km_5_52 : a_lk (kM 5) 52 = some (0, 7) := rfl
theorem km_5_65 : a_lk (kM 5) 65 = some (0, 4) := rfl
theorem km_5_69 : a_lk (kM 5) 69 = some (0, 6) := rfl
theorem km_5_73 : a_lk (kM 5) 73 = some (0, 9) := rfl
set_option maxRecDepth 100000 in
set_option maxHeartbeats 4000000 in
theorem s_1 {sc : List Int32} {e : Int} {d u P Q A : Nat} {c : ME} {Z : AR → Prop} (hI : Iv u e P Q c) (hA : A = 13 ∨ A = 25) (K : ∀ (c2 : ME), Iv u e P Q c2 → (∀ (a : Nat) (j : Int), ¬ ((a = (A + 7) ∧ j = 4)) → c2 a j = c a j) → ((c2 (A + 7) 4 = 0)) → Z (.inl (none), Wd P Q P P c2, 0, 0)) : Wp sc (d + 7) 1 0 [(0, .ref (A + 7))] [] (Wd P Q P P c) 0 0 Z := by
  have hP := iv_P hI
  have hQ := iv_Q hI
  refine q_aload_n c_1_0 rfl (q_iconst c_1_1 (v_pi (z := 4) c_1_2 kf_0_24 (ck_p7 hA) (a68 hA rfl) rfl rfl rfl (of_decide_eq_true rfl) (q_vret rfl rfl ?_)))
  have hI_1 := iw_p7_4 (v := 0) hI hA ⟨of_decide_eq_true rfl, of_decide_eq_true rfl⟩
  have h_2 : (up c (A + 7) 4 0) (A + 7) 4 = 0 := (up_e rfl)
  exact K (up c (A + 7) 4 0) hI_1 (fun a j hm => up_b (Decidable.or_iff_not_imp_left.mpr (fun h1 h2 => hm ⟨Decidable.not_not.mp h1, h2⟩))) (by first | assumption | omega)

set_option maxRecDepth 100000 in
set_option maxHeartbeats 4000000 in
theorem s_3_l {sc : List Int32} {e : Int} {d u P Q : Nat} {c : ME} {Z : AR → Prop} (hI : Iv u e P Q c)  (K : ∀ (c2 : ME) (y : Int), Iv u e P Q c2 → (∀ (a : Nat) (j : Int), ¬ ((a = 1 ∧ j = 2)) → c2 a j = c a j) → 0 ≤ y ∧ y ≤ 600 → ((c2 1 2 = y)) → Z (.inl (some (vi y)), Wd P Q P P c2, 0, 0)) : ∀ n : Nat, (∀ (c2 : ME), Iv u e P Q c2 → (∀ (a : Nat) (j : Int), ¬ ((a = 1 ∧ j = 2)) → c2 a j = c a j) → 1201 - 2 * c2 1 2 < (n : Int) → Wp sc (d + 7) 3 0 [(0, .ref 1)] [] (Wd P Q P P c2) 0 0 Z) := by
  intro n
  induction n with
  | zero => exact (by intro c2 hI2 hF hm9; have hP := iv_P hI; have hQ := iv_Q hI; have h_10 := ir_1_2 hI2; exfalso; omega)
  | succ n ih =>
    have hP := iv_P hI
    have hQ := iv_Q hI
    intro c2 hI2 hF hm9
    have h_1 := ir_1_2 hI2
    refine q_aload_n c_3_0 rfl (v_gi (z := 2) (v := c2 1 2) c_3_1 kf_5_35 rfl (Nat.le_of_ble_eq_true rfl) rfl rfl rfl (q_aload_n c_3_4 rfl ?_))
    have h_2 := ir_1_1 hI
    have kn_3 : Hid (c2 1 1 = c 1 1) := hF 1 1 (fun h => absurd h.2 (ni rfl))
    refine v_gi (z := 1) (v := c 1 1) c_3_5 kf_5_32 rfl (Nat.le_of_ble_eq_true rfl) rfl rfl (hid kn_3) ?_
    by_cases h_4 : c2 1 2 ≥ c 1 1
    · refine v_ic_ge_t (t := 38) c_3_8 rfl ⟨(q_3b2b08511 h_2), h_4, (ler h_1.2 rfl)⟩ (q_aload_n c_3_38 rfl (v_gi (z := 2) (v := c2 1 2) c_3_39 kf_5_35 rfl (Nat.le_of_ble_eq_true rfl) rfl rfl rfl (q_iret c_3_42 rfl ?_)))
      exact K c2 (c2 1 2) hI2 (fun a j hm => hF a j hm) h_1 (by first | assumption | omega)
    · refine v_ic_ge_f (t := 38) c_3_8 rfl ⟨(lel h_1.1 rfl), (Int.not_le.mp h_4), (q_3885e607f h_2)⟩ (q_aload_n c_3_11 rfl (v_gr (t := 2) c_3_12 kf_5_9 rfl (Nat.le_of_ble_eq_true rfl) rfl (q_aload_n c_3_15 rfl (v_gi (z := 2) (v := c2 1 2) c_3_16 kf_5_35 rfl (Nat.le_of_ble_eq_true rfl) rfl rfl rfl ?_))))
      have h_5 := ir_2 hI (c2 1 2)
      have kn_6 : Hid (c2 2 (c2 1 2) = c 2 (c2 1 2)) := hF 2 (c2 1 2) (fun h => absurd h.1 (nn rfl))
      refine v_ba (v := c 2 (c2 1 2)) c_3_19 rfl (of_decide_eq_true rfl) (of_decide_eq_true rfl) ⟨h_1.1, (q_364416c3d h_2 h_4)⟩ (hid kn_6) (v_bip c_3_20 (of_decide_eq_true rfl) ?_)
      by_cases h_7 : c 2 (c2 1 2) ≠ 32
      · refine v_ic_ne_t (t := 38) c_3_22 rfl ⟨h_7, ⟨(q_cc1935a2a h_5), (q_4e52e4576 h_5)⟩, of_decide_eq_true rfl, of_decide_eq_true rfl⟩ (q_aload_n c_3_38 rfl (v_gi (z := 2) (v := c2 1 2) c_3_39 kf_5_35 rfl (Nat.le_of_ble_eq_true rfl) rfl rfl rfl (q_iret c_3_42 rfl ?_)))
        exact K c2 (c2 1 2) hI2 (fun a j hm => hF a j hm) h_1 (by first | assumption | omega)
      · refine v_ic_ne_f (t := 38) c_3_22 rfl (Decidable.not_not.mp h_7) (q_aload_n c_3_25 rfl (q_dup c_3_26 rfl (v_gi (z := 2) (v := c2 1 2) c_3_27 kf_5_35 rfl (Nat.le_of_ble_eq_true rfl) rfl rfl rfl (q_iconst c_3_30 (v_iadd (v := c2 1 2 + 1) c_3_31 rfl (v_pi (z := 2) c_3_32 kf_5_35 rfl (Nat.le_of_ble_eq_true rfl) rfl rfl rfl (of_decide_eq_true rfl) (q_goto (t := 0) c_3_35 rfl ?_)))))))
        have hI_8 := iw_1_2 (v := c2 1 2 + 1) hI2 ⟨(rgp_l h_1.1 (of_decide_eq_true rfl)), (q_e9d2b66ad h_2 h_4)⟩
        refine Wp_ls [(0, .ref 1)] (lsub_cons rfl lsub_nil) ?_
        have h_9 : (up c2 1 2 (c2 1 2 + 1)) 1 2 = c2 1 2 + 1 := (up_e rfl)
        exact ih (up c2 1 2 (c2 1 2 + 1)) hI_8 (fun a j hm => (up_b (Decidable.or_iff_not_imp_left.mpr (fun h1 h2 => hm ⟨Decidable.not_not.mp h1, h2⟩))).trans (hF a j hm)) (by omega)
set_option maxRecDepth 100000 in
set_option maxHeartbeats 4000000 in
theorem s_3 {sc : List Int32} {e : Int} {d u P Q : Nat} {c : ME} {Z : AR → Prop} (hI : Iv u e P Q c)  (K : ∀ (c2 : ME) (y : Int), Iv u e P Q c2 → (∀ (a : Nat) (j : Int), ¬ ((a = 1 ∧ j = 2)) → c2 a j = c a j) → 0 ≤ y ∧ y ≤ 600 → ((c2 1 2 = y)) → Z (.inl (some (vi y)), Wd P Q P P c2, 0, 0)) : Wp sc (d + 7) 3 0 [(0, .ref 1)] [] (Wd P Q P P c) 0 0 Z := by
  have hP := iv_P hI
  have hQ := iv_Q hI
  refine Wp_ls [(0, .ref 1)] (lsub_cons rfl lsub_nil) ?_
  have h_11 := ir_1_2 hI
  exact (s_3_l (sc := sc) (d := d) hI K 1204) c hI (fun a j hm => rfl) (by omega)

set_option maxRecDepth 100000 in
set_option maxHeartbeats 4000000 in
theorem s_4_l {sc : List Int32} {e : Int} {d u P Q : Nat} {q nt : Nat} {c : ME} {Z : AR → Prop} (hI : Iv u e P Q c) (hq : q < sN) (hnt : (sB q).length = nt) (hn9 : nt ≤ 100) (K : ∀ (c2 : ME) (y : Int), Iv u e P Q c2 → (∀ (a : Nat) (j : Int), ¬ ((a = 1 ∧ j = 2)) → c2 a j = c a j) → (-1) ≤ y ∧ y ≤ 100 → Z (.inl (some (vi y)), Wd P Q P P c2, 0, 0)) : ∀ n : Nat, (∀ (c2 : ME) (v2 : Int) (v3 : Int), Iv u e P Q c2 → (∀ (a : Nat) (j : Int), ¬ ((a = 1 ∧ j = 2)) → c2 a j = c a j) → 0 ≤ v2 ∧ v2 ≤ 600 → 0 ≤ v3 ∧ v3 ≤ 100 → ((c2 1 2 = v2)) → 201 - 2 * v3 < (n : Int) → Wp sc (d + 8) 4 7 [(0, .ref 1), (1, .ref (a_SB + q)), (2, vi v2), (3, vi v3)] [] (Wd P Q P P c2) 0 0 Z) := by
  intro n
  induction n with
  | zero => exact (by intro c2 v2 v3 hI2 hF hv2 hv3 hx0 hm9; have hP := iv_P hI; have hQ := iv_Q hI; exfalso; omega)
  | succ n ih =>
    have hP := iv_P hI
    have hQ := iv_Q hI
    intro c2 v2 v3 hI2 hF hv2 hv3 hx0 hm9
    have h_1 := ir_1_2 hI2
    refine q_iload_n c_4_7 rfl (q_aload_n c_4_8 rfl (v_sln nt rfl rfl (by omega) (Nat.le_of_ble_eq_true rfl) hq hnt ?_))
    by_cases h_2 : v3 ≥ nt
    · refine v_ic_ge_t (t := 55) c_4_12 rfl ⟨by omega, h_2, (ler hv3.2 rfl)⟩ (q_iconst c_4_55 (q_iret c_4_56 rfl ?_))
      exact K c2 (-1) hI2 (fun a j hm => hF a j hm) ⟨of_decide_eq_true rfl, of_decide_eq_true rfl⟩
    · refine v_ic_ge_f (t := 55) c_4_12 rfl ⟨(lel hv3.1 rfl), (Int.not_le.mp h_2), by omega⟩ (q_iload_n c_4_15 rfl (q_aload_n c_4_16 rfl ?_))
      have h_3 := ir_1_1 hI
      have kn_4 : Hid (c2 1 1 = c 1 1) := hF 1 1 (fun h => absurd h.2 (ni rfl))
      refine v_gi (z := 1) (v := c 1 1) c_4_17 kf_5_32 rfl (Nat.le_of_ble_eq_true rfl) rfl rfl (hid kn_4) ?_
      by_cases h_5 : v2 ≥ c 1 1
      · refine v_ic_ge_t (t := 55) c_4_20 rfl ⟨(q_3b2b08511 h_3), h_5, (ler hv2.2 rfl)⟩ (q_iconst c_4_55 (q_iret c_4_56 rfl ?_))
        exact K c2 (-1) hI2 (fun a j hm => hF a j hm) ⟨of_decide_eq_true rfl, of_decide_eq_true rfl⟩
      · refine v_ic_ge_f (t := 55) c_4_20 rfl ⟨(lel hv2.1 rfl), (Int.not_le.mp h_5), (q_3885e607f h_3)⟩ (q_aload_n c_4_23 rfl (v_gr (t := 2) c_4_24 kf_5_9 rfl (Nat.le_of_ble_eq_true rfl) rfl (q_iload_n c_4_27 rfl ?_)))
        have h_6 := ir_2 hI v2
        have kn_7 : Hid (c2 2 v2 = c 2 v2) := hF 2 v2 (fun h => absurd h.1 (nn rfl))
        refine v_ba (v := c 2 v2) c_4_28 rfl (of_decide_eq_true rfl) (of_decide_eq_true rfl) ⟨hv2.1, (q_364416c3d h_3 h_5)⟩ (hid kn_7) (q_aload_n c_4_29 rfl (q_iload_n c_4_30 rfl (v_schx c_4_31 rfl (by omega) (Nat.le_of_ble_eq_true rfl) hq hnt ⟨by omega, by omega⟩ hn9 (fun y_8 hy_8 => ?_))))
        by_cases h_9 : c 2 v2 ≠ y_8
        · refine v_ic_ne_t (t := 49) c_4_34 rfl ⟨h_9, ⟨(q_cc1935a2a h_6), (q_4e52e4576 h_6)⟩, hy_8.1, hy_8.2⟩ (v_iinc (v := v3 + 1) c_4_49 rfl (Nat.le_of_ble_eq_true rfl) rfl (q_goto (t := 7) c_4_52 rfl (Wp_ls [(0, .ref 1), (1, .ref (a_SB + q)), (2, vi v2), (3, vi (v3 + 1))] (lsub_cons rfl (lsub_cons rfl (lsub_cons rfl (lsub_cons rfl lsub_nil)))) ?_)))
          exact ih c2 v2 (v3 + 1) hI2 (fun a j hm => hF a j hm) hv2 ⟨(rgp_l hv3.1 (of_decide_eq_true rfl)), by first | (clear hv2 hv3 hx0 h_1 h_3 h_5 h_6 h_9; omega) | omega⟩ (by first | (clear hv2 hv3 h_1 h_2 h_3 h_5 h_6 h_9; omega) | omega) (by omega)
        · refine v_ic_ne_f (t := 49) c_4_34 rfl (Decidable.not_not.mp h_9) (q_aload_n c_4_37 rfl (q_dup c_4_38 rfl (v_gi (z := 2) (v := c2 1 2) c_4_39 kf_5_35 rfl (Nat.le_of_ble_eq_true rfl) rfl rfl rfl (q_iconst c_4_42 (v_iadd (v := c2 1 2 + 1) c_4_43 rfl (v_pi (z := 2) c_4_44 kf_5_35 rfl (Nat.le_of_ble_eq_true rfl) rfl rfl rfl (of_decide_eq_true rfl) (q_iload_n c_4_47 rfl ?_)))))))
          refine q_iret c_4_48 rfl ?_
          have hI_10 := iw_1_2 (v := c2 1 2 + 1) hI2 ⟨(rgp_l h_1.1 (of_decide_eq_true rfl)), by omega⟩
          exact K (up c2 1 2 (c2 1 2 + 1)) v3 hI_10 (fun a j hm => (up_b (Decidable.or_iff_not_imp_left.mpr (fun h1 h2 => hm ⟨Decidable.not_not.mp h1, h2⟩))).trans (hF a j hm)) ⟨(lel hv3.1 rfl), hv3.2⟩
set_option maxRecDepth 100000 in
set_option maxHeartbeats 4000000 in
theorem s_4 {sc : List Int32} {e : Int} {d u P Q : Nat} {q nt : Nat} {c : ME} {Z : AR → Prop} (hI : Iv u e P Q c) (hq : q < sN) (hnt : (sB q).length = nt) (hn9 : nt ≤ 100) (K : ∀ (c2 : ME) (y : Int), Iv u e P Q c2 → (∀ (a : Nat) (j : Int), ¬ ((a = 1 ∧ j = 2)) → c2 a j = c a j) → (-1) ≤ y ∧ y ≤ 100 → Z (.inl (some (vi y)), Wd P Q P P c2, 0, 0)) : Wp sc (d + 8) 4 0 [(0, .ref 1), (1, .ref (a_SB + q))] [] (Wd P Q P P c) 0 0 Z := by
  have hP := iv_P hI
  have hQ := iv_Q hI
  refine q_aload_n c_4_0 rfl (v_cv c_4_1 km_5_41 rfl rfl (Nat.le_of_ble_eq_true rfl) ⟨⟨rfl, rfl⟩, Nat.le_of_ble_eq_true rfl, rfl⟩ (Nat.le_of_ble_eq_true rfl) (Nat.le_of_ble_eq_true rfl) (s_3 hI (fun c_11 y_14 hI_12 hF_13 hy_14 h_15 => (bk_inl ?_))))
  have h_16 := ir_1_2 hI_12
  refine q_istore_n c_4_4 (Nat.le_of_ble_eq_true rfl) (q_iconst c_4_5 (q_istore_n c_4_6 (Nat.le_of_ble_eq_true rfl) (Wp_ls [(0, .ref 1), (1, .ref (a_SB + q)), (2, vi y_14), (3, vi 0)] (lsub_cons rfl (lsub_cons rfl (lsub_cons rfl (lsub_cons rfl lsub_nil)))) ?_)))
  exact (s_4_l (sc := sc) (d := d) hI hq hnt hn9 K 204) c_11 y_14 0 hI_12 (fun a j hm => hF_13 a j hm) hy_14 ⟨of_decide_eq_true rfl, of_decide_eq_true rfl⟩ ((q_cea541e22 h_15)) (by omega)

set_option maxRecDepth 100000 in
set_option maxHeartbeats 4000000 in
theorem s_5 {sc : List Int32} {e : Int} {d u P Q A : Nat} {c : ME} {a1 : Int} {Z : AR → Prop} (hI : Iv u e P Q c) (hA : A = 13 ∨ A = 25) (ha1 : 0 ≤ a1 ∧ a1 ≤ 3000) (hq0 : (a1 < 1008) ∨ (a1 ≥ 2000)) (K : ∀ (c2 : ME), Iv u e P Q c2 → (∀ (a : Nat) (j : Int), ¬ ((a = (A + 7) ∧ j = 5) ∨ a = (A + 9)) → c2 a j = c a j) → Z (.inl (none), Wd P Q P P c2, 0, 0)) : Wp sc (d + 7) 5 0 [(0, .ref (A + 7)), (1, vi a1)] [] (Wd P Q P P c) 0 0 Z := by
  have hP := iv_P hI
  have hQ := iv_Q hI
  refine q_aload_n c_5_0 rfl ?_
  have h_1 := ir_p7_5 hI hA
  refine v_gi (z := 5) (v := c (A + 7) 5) c_5_1 kf_0_28 (ck_p7 hA) (a68 hA rfl) rfl rfl rfl (q_aload_n c_5_4 rfl (v_gr (t := (A + 9)) c_5_5 kf_0_15 (ck_p7 hA) (a68 hA rfl) rfl (v_al c_5_8 (ck_p9 hA) (a68 hA rfl) (of_decide_eq_true rfl) ?_)))
  by_cases h_2 : c (A + 7) 5 ≥ 150
  · refine v_ic_ge_t (t := 32) c_5_9 rfl ⟨of_decide_eq_true rfl, h_2, (ler h_1.2 rfl)⟩ (q_vret rfl rfl ?_)
    exact K c hI (fun a j hm => rfl)
  · refine v_ic_ge_f (t := 32) c_5_9 rfl ⟨(lel h_1.1 rfl), (Int.not_le.mp h_2), of_decide_eq_true rfl⟩ (q_aload_n c_5_12 rfl (v_gr (t := (A + 9)) c_5_13 kf_0_15 (ck_p7 hA) (a68 hA rfl) rfl (q_aload_n c_5_16 rfl (v_gi (z := 5) (v := c (A + 7) 5) c_5_17 kf_0_28 (ck_p7 hA) (a68 hA rfl) rfl rfl rfl (q_iload_n c_5_20 rfl (v_is c_5_21 (ck_p9 hA) (a68 hA rfl) (of_decide_eq_true rfl) ⟨h_1.1, (q_cc605f3b6 h_2)⟩ (q_aload_n c_5_22 rfl ?_)))))))
    refine q_dup c_5_23 rfl (v_gi (z := 5) (v := c (A + 7) 5) c_5_24 kf_0_28 (ck_p7 hA) (a68 hA rfl) rfl rfl (up_c (pp rfl)) (q_iconst c_5_27 (v_iadd (v := c (A + 7) 5 + 1) c_5_28 rfl (v_pi (z := 5) c_5_29 kf_0_28 (ck_p7 hA) (a68 hA rfl) rfl rfl rfl (of_decide_eq_true rfl) (q_vret rfl rfl ?_)))))
    have hI_3 := iw_lg (j := c (A + 7) 5) (v := a1) hI (lgp (k := 9) hA (of_decide_eq_true rfl)) ⟨by omega, by omega⟩ (by omega)
    have hI_4 := iw_p7_5 (v := c (A + 7) 5 + 1) hI_3 hA ⟨(rgp_l h_1.1 (of_decide_eq_true rfl)), (q_e92c430a0 h_2)⟩
    exact K (up (up c (A + 9) (c (A + 7) 5) a1) (A + 7) 5 (c (A + 7) 5 + 1)) hI_4 (fun a j hm => (up_b (Decidable.or_iff_not_imp_left.mpr (fun h1 h2 => hm (Or.inl ⟨Decidable.not_not.mp h1, h2⟩)))).trans (up_b (Decidable.or_iff_not_imp_left.mpr (fun h1 h2 => hm (Or.inr (Decidable.not_not.mp h1))))))

set_option maxRecDepth 100000 in
set_option maxHeartbeats 4000000 in
theorem s_6 {sc : List Int32} {e : Int} {d u P Q : Nat} {c : ME} {Z : AR → Prop} (hI : Iv u e P Q c)  (K : ∀ (c2 : ME) (y : Int), Iv u e P Q c2 → (∀ (a : Nat) (j : Int), ¬ ((a = 1 ∧ j = 2)) → c2 a j = c a j) → 0 ≤ y ∧ y ≤ 1 → ((y = 0) ∨ (c2 1 2 < c2 1 1)) → Z (.inl (some (vi y)), Wd P Q P P c2, 0, 0)) : Wp sc (d + 8) 6 0 [(0, .ref 1)] [] (Wd P Q P P c) 0 0 Z := by
  have hP := iv_P hI
  have hQ := iv_Q hI
  refine q_aload_n c_6_0 rfl (v_cv c_6_1 km_5_41 rfl rfl (Nat.le_of_ble_eq_true rfl) ⟨⟨rfl, rfl⟩, Nat.le_of_ble_eq_true rfl, rfl⟩ (Nat.le_of_ble_eq_true rfl) (Nat.le_of_ble_eq_true rfl) (s_3 hI (fun c_1 y_4 hI_2 hF_3 hy_4 h_5 => (bk_inl ?_))))
  have h_6 := ir_1_2 hI_2
  refine q_istore_n c_6_4 (Nat.le_of_ble_eq_true rfl) (q_iload_n c_6_5 rfl (q_aload_n c_6_6 rfl ?_))
  have h_7 := ir_1_1 hI
  have kn_8 : Hid (c_1 1 1 = c 1 1) := hF_3 1 1 (fun h => absurd h.2 (ni rfl))
  refine v_gi (z := 1) (v := c 1 1) c_6_7 kf_5_32 rfl (Nat.le_of_ble_eq_true rfl) rfl rfl (hid kn_8) ?_
  by_cases h_9 : y_4 ≥ c 1 1
  · refine v_ic_ge_t (t := 39) c_6_10 rfl ⟨(q_3b2b08511 h_7), h_9, (ler hy_4.2 rfl)⟩ (q_iconst c_6_39 (v_zret c_6_40 rfl (of_decide_eq_true rfl) ?_))
    have h_10 : c_1 1 1 = c 1 1 := (hid kn_8)
    exact K c_1 0 hI_2 (fun a j hm => hF_3 a j hm) ⟨of_decide_eq_true rfl, of_decide_eq_true rfl⟩ (Or.inl (by first | assumption | omega))
  · refine v_ic_ge_f (t := 39) c_6_10 rfl ⟨(lel hy_4.1 rfl), (Int.not_le.mp h_9), (q_3885e607f h_7)⟩ (q_aload_n c_6_13 rfl (v_gr (t := 2) c_6_14 kf_5_9 rfl (Nat.le_of_ble_eq_true rfl) rfl (q_iload_n c_6_17 rfl ?_)))
    have h_11 := ir_2 hI y_4
    have kn_12 : Hid (c_1 2 y_4 = c 2 y_4) := hF_3 2 y_4 (fun h => absurd h.1 (nn rfl))
    refine v_ba (v := c 2 y_4) c_6_18 rfl (of_decide_eq_true rfl) (of_decide_eq_true rfl) ⟨hy_4.1, (q_364416c3d h_7 h_9)⟩ (hid kn_12) (v_bip c_6_19 (of_decide_eq_true rfl) ?_)
    by_cases h_13 : c 2 y_4 < 48
    · refine v_ic_lt_t (t := 39) c_6_21 rfl ⟨(q_cc1935a2a h_11), h_13, of_decide_eq_true rfl⟩ (q_iconst c_6_39 (v_zret c_6_40 rfl (of_decide_eq_true rfl) ?_))
      have h_14 : c_1 1 1 = c 1 1 := (hid kn_8)
      exact K c_1 0 hI_2 (fun a j hm => hF_3 a j hm) ⟨of_decide_eq_true rfl, of_decide_eq_true rfl⟩ (Or.inl (by first | assumption | omega))
    · refine v_ic_lt_f (t := 39) c_6_21 rfl ⟨of_decide_eq_true rfl, (Int.not_lt.mp h_13), (q_4e52e4576 h_11)⟩ (q_aload_n c_6_24 rfl (v_gr (t := 2) c_6_25 kf_5_9 rfl (Nat.le_of_ble_eq_true rfl) rfl (q_iload_n c_6_28 rfl (v_ba (v := c 2 y_4) c_6_29 rfl (of_decide_eq_true rfl) (of_decide_eq_true rfl) ⟨hy_4.1, (q_364416c3d h_7 h_9)⟩ (hid kn_12) (v_bip c_6_30 (of_decide_eq_true rfl) ?_)))))
      by_cases h_15 : c 2 y_4 > 57
      · refine v_ic_gt_t (t := 39) c_6_32 rfl ⟨of_decide_eq_true rfl, h_15, (q_4e52e4576 h_11)⟩ (q_iconst c_6_39 (v_zret c_6_40 rfl (of_decide_eq_true rfl) ?_))
        have h_16 : c_1 1 1 = c 1 1 := (hid kn_8)
        exact K c_1 0 hI_2 (fun a j hm => hF_3 a j hm) ⟨of_decide_eq_true rfl, of_decide_eq_true rfl⟩ (Or.inl (by first | assumption | omega))
      · refine v_ic_gt_f (t := 39) c_6_32 rfl ⟨(q_993cab007 h_13), (Int.not_lt.mp h_15), of_decide_eq_true rfl⟩ (q_iconst c_6_35 (q_goto (t := 40) c_6_36 rfl (v_zret c_6_40 rfl (of_decide_eq_true rfl) ?_)))
        have h_17 : c_1 1 1 = c 1 1 := (hid kn_8)
        exact K c_1 1 hI_2 (fun a j hm => hF_3 a j hm) ⟨of_decide_eq_true rfl, of_decide_eq_true rfl⟩ (Or.inr ((q_96f87bb65 h_5 h_9)))

set_option maxRecDepth 100000 in
set_option maxHeartbeats 4000000 in
theorem s_7 {sc : List Int32} {e : Int} {d u P Q : Nat} {c : ME} {a1 : Int} {a2 : Int} {Z : AR → Prop} (hI : Iv u e P Q c) (ha1 : 1 ≤ a1 ∧ a1 ≤ 3) (ha2 : 0 ≤ a2 ∧ a2 ≤ 600) (K : ∀ (c2 : ME), Iv u e P Q c2 → (∀ (a : Nat) (j : Int), ¬ ((a = 1 ∧ j = 4) ∨ (a = 1 ∧ j = 5)) → c2 a j = c a j) → ((c2 1 4 ≠ 0)) → Z (.inl (none), Wd P Q P P c2, 0, 0)) : Wp sc (d + 7) 7 0 [(0, .ref 1), (1, vi a1), (2, vi a2)] [] (Wd P Q P P c) 0 0 Z := by
  have hP := iv_P hI
  have hQ := iv_Q hI
  refine q_aload_n c_7_0 rfl ?_
  have h_1 := ir_1_4 hI
  refine v_gi (z := 4) (v := c 1 4) c_7_1 kf_5_38 rfl (Nat.le_of_ble_eq_true rfl) rfl rfl rfl ?_
  by_cases h_2 : c 1 4 ≠ 0
  · refine v_if_ne_t (t := 17) c_7_4 rfl ⟨h_2, ⟨(lel h_1.1 rfl), (ler h_1.2 rfl)⟩, of_decide_eq_true rfl, of_decide_eq_true rfl⟩ (q_vret rfl rfl ?_)
    exact K c hI (fun a j hm => rfl) ((q_646bc4652 h_1 h_2))
  · refine v_if_ne_f (t := 17) c_7_4 rfl (Decidable.not_not.mp h_2) (q_aload_n c_7_7 rfl (q_iload_n c_7_8 rfl (v_pi (z := 4) c_7_9 kf_5_38 rfl (Nat.le_of_ble_eq_true rfl) rfl rfl rfl (of_decide_eq_true rfl) (q_aload_n c_7_12 rfl (q_iload_n c_7_13 rfl (v_pi (z := 5) c_7_14 kf_5_15 rfl (Nat.le_of_ble_eq_true rfl) rfl rfl rfl (of_decide_eq_true rfl) (q_vret rfl rfl ?_)))))))
    have hI_3 := iw_1_4 (v := a1) hI ⟨(lel ha1.1 rfl), ha1.2⟩
    have hI_4 := iw_1_5 (v := a2) hI_3 ⟨(lel ha2.1 rfl), ha2.2⟩
    have h_5 : (up (up c 1 4 a1) 1 5 a2) 1 4 = a1 := ((up_n (ni rfl)).trans (up_e rfl))
    exact K (up (up c 1 4 a1) 1 5 a2) hI_4 (fun a j hm => (up_b (Decidable.or_iff_not_imp_left.mpr (fun h1 h2 => hm (Or.inr ⟨Decidable.not_not.mp h1, h2⟩)))).trans (up_b (Decidable.or_iff_not_imp_left.mpr (fun h1 h2 => hm (Or.inl ⟨Decidable.not_not.mp h1, h2⟩))))) ((q_59cb102df ha1))

set_option maxRecDepth 100000 in
set_option maxHeartbeats 4000000 in
theorem s_8_l {sc : List Int32} {e : Int} {d u P Q : Nat} {c : ME} {a1 : Int} {Z : AR → Prop} (hI : Iv u e P Q c) (ha1 : (-1) ≤ a1 ∧ a1 ≤ 9999) (K : ∀ (c2 : ME) (y : Int), Iv u e P Q c2 → (∀ (a : Nat) (j : Int), ¬ ((a = 1 ∧ j = 2) ∨ (a = 1 ∧ j = 4) ∨ (a = 1 ∧ j = 5)) → c2 a j = c a j) → 0 ≤ y ∧ y ≤ 9999 → ((y ≤ a1) ∨ (y = 0)) → Z (.inl (some (vi y)), Wd P Q P P c2, 0, 0)) : ∀ n : Nat, (∀ (c2 : ME) (v2 : Int) (v3 : Int), Iv u e P Q c2 → (∀ (a : Nat) (j : Int), ¬ ((a = 1 ∧ j = 2) ∨ (a = 1 ∧ j = 4) ∨ (a = 1 ∧ j = 5)) → c2 a j = c a j) → 0 ≤ v2 ∧ v2 ≤ 600 → 0 ≤ v3 ∧ v3 ≤ 99999 → 1201 - 2 * c2 1 2 < (n : Int) → Wp sc (d + 9) 8 34 [(0, .ref 1), (1, vi a1), (2, vi v2), (3, vi v3)] [] (Wd P Q P P c2) 0 0 Z) := by
  intro n
  induction n with
  | zero => exact (by intro c2 v2 v3 hI2 hF hv2 hv3 hm9; have hP := iv_P hI; have hQ := iv_Q hI; have h_30 := ir_1_2 hI2; exfalso; omega)
  | succ n ih =>
    have hP := iv_P hI
    have hQ := iv_Q hI
    intro c2 v2 v3 hI2 hF hv2 hv3 hm9
    have h_1 := ir_1_2 hI2
    refine q_aload_n c_8_34 rfl (v_gi (z := 2) (v := c2 1 2) c_8_35 kf_5_35 rfl (Nat.le_of_ble_eq_true rfl) rfl rfl rfl (q_aload_n c_8_38 rfl ?_))
    have h_2 := ir_1_1 hI
    have kn_3 : Hid (c2 1 1 = c 1 1) := hF 1 1 qn_b782e6d88
    refine v_gi (z := 1) (v := c 1 1) c_8_39 kf_5_32 rfl (Nat.le_of_ble_eq_true rfl) rfl rfl (hid kn_3) ?_
    by_cases h_4 : c2 1 2 ≥ c 1 1
    · refine v_ic_ge_t (t := 109) c_8_42 rfl ⟨(q_3b2b08511 h_2), h_4, (ler h_1.2 rfl)⟩ (q_iload_n c_8_109 rfl (q_iload_n c_8_110 rfl ?_))
      by_cases h_5 : v3 ≤ a1
      · refine v_ic_le_t (t := 122) c_8_111 rfl ⟨(lel hv3.1 rfl), h_5, (ler ha1.2 rfl)⟩ (q_iload_n c_8_122 rfl (q_iret c_8_123 rfl ?_))
        exact K c2 v3 hI2 (fun a j hm => hF a j hm) ⟨hv3.1, (q_3bbf258e8 h_5 ha1)⟩ (Or.inl ((q_514734711 h_5)))
      · refine v_ic_le_f (t := 122) c_8_111 rfl ⟨(lel ha1.1 rfl), (Int.not_le.mp h_5), (ler hv3.2 rfl)⟩ (q_aload_n c_8_114 rfl (q_iconst c_8_115 (q_iload_n c_8_116 rfl (v_cv c_8_117 km_5_52 rfl rfl (Nat.le_of_ble_eq_true rfl) ⟨⟨rfl, rfl⟩, Nat.le_of_ble_eq_true rfl, rfl⟩ (Nat.le_of_ble_eq_true rfl) (Nat.le_of_ble_eq_true rfl) (s_7 (a1 := 2) (a2 := v2) hI2 (show 1 ≤ 2 ∧ 2 ≤ 3 from ⟨of_decide_eq_true rfl, of_decide_eq_true rfl⟩) (show 0 ≤ v2 ∧ v2 ≤ 600 from hv2) (fun c_6 hI_7 hF_8 h_9 => (bk_inl ?_)))))))
        have h_10 := ir_1_4 hI_7
        refine q_iconst c_8_120 (q_iret c_8_121 rfl ?_)
        exact K c_6 0 hI_7 (fun a j hm => (hF_8 a j (qv_7ce279f74 hm)).trans (hF a j hm)) ⟨of_decide_eq_true rfl, of_decide_eq_true rfl⟩ (Or.inr (by first | assumption | omega))
    · refine v_ic_ge_f (t := 109) c_8_42 rfl ⟨(lel h_1.1 rfl), (Int.not_le.mp h_4), (q_3885e607f h_2)⟩ (q_aload_n c_8_45 rfl (v_gr (t := 2) c_8_46 kf_5_9 rfl (Nat.le_of_ble_eq_true rfl) rfl (q_aload_n c_8_49 rfl (v_gi (z := 2) (v := c2 1 2) c_8_50 kf_5_35 rfl (Nat.le_of_ble_eq_true rfl) rfl rfl rfl ?_))))
      have h_11 := ir_2 hI (c2 1 2)
      have kn_12 : Hid (c2 2 (c2 1 2) = c 2 (c2 1 2)) := hF 2 (c2 1 2) qn_e2b123f84
      refine v_ba (v := c 2 (c2 1 2)) c_8_53 rfl (of_decide_eq_true rfl) (of_decide_eq_true rfl) ⟨h_1.1, (q_364416c3d h_2 h_4)⟩ (hid kn_12) (v_bip c_8_54 (of_decide_eq_true rfl) ?_)
      by_cases h_13 : c 2 (c2 1 2) < 48
      · refine v_ic_lt_t (t := 109) c_8_56 rfl ⟨(q_cc1935a2a h_11), h_13, of_decide_eq_true rfl⟩ (q_iload_n c_8_109 rfl (q_iload_n c_8_110 rfl ?_))
        by_cases h_14 : v3 ≤ a1
        · refine v_ic_le_t (t := 122) c_8_111 rfl ⟨(lel hv3.1 rfl), h_14, (ler ha1.2 rfl)⟩ (q_iload_n c_8_122 rfl (q_iret c_8_123 rfl ?_))
          exact K c2 v3 hI2 (fun a j hm => hF a j hm) ⟨hv3.1, (q_3bbf258e8 h_14 ha1)⟩ (Or.inl ((q_514734711 h_14)))
        · refine v_ic_le_f (t := 122) c_8_111 rfl ⟨(lel ha1.1 rfl), (Int.not_le.mp h_14), (ler hv3.2 rfl)⟩ (q_aload_n c_8_114 rfl (q_iconst c_8_115 (q_iload_n c_8_116 rfl (v_cv c_8_117 km_5_52 rfl rfl (Nat.le_of_ble_eq_true rfl) ⟨⟨rfl, rfl⟩, Nat.le_of_ble_eq_true rfl, rfl⟩ (Nat.le_of_ble_eq_true rfl) (Nat.le_of_ble_eq_true rfl) (s_7 (a1 := 2) (a2 := v2) hI2 (show 1 ≤ 2 ∧ 2 ≤ 3 from ⟨of_decide_eq_true rfl, of_decide_eq_true rfl⟩) (show 0 ≤ v2 ∧ v2 ≤ 600 from hv2) (fun c_15 hI_16 hF_17 h_18 => (bk_inl ?_)))))))
          have h_19 := ir_1_4 hI_16
          refine q_iconst c_8_120 (q_iret c_8_121 rfl ?_)
          exact K c_15 0 hI_16 (fun a j hm => (hF_17 a j (qv_7ce279f74 hm)).trans (hF a j hm)) ⟨of_decide_eq_true rfl, of_decide_eq_true rfl⟩ (Or.inr (by first | assumption | omega))
      · refine v_ic_lt_f (t := 109) c_8_56 rfl ⟨of_decide_eq_true rfl, (Int.not_lt.mp h_13), (q_4e52e4576 h_11)⟩ (q_aload_n c_8_59 rfl (v_gr (t := 2) c_8_60 kf_5_9 rfl (Nat.le_of_ble_eq_true rfl) rfl (q_aload_n c_8_63 rfl (v_gi (z := 2) (v := c2 1 2) c_8_64 kf_5_35 rfl (Nat.le_of_ble_eq_true rfl) rfl rfl rfl (v_ba (v := c 2 (c2 1 2)) c_8_67 rfl (of_decide_eq_true rfl) (of_decide_eq_true rfl) ⟨h_1.1, (q_364416c3d h_2 h_4)⟩ (hid kn_12) (v_bip c_8_68 (of_decide_eq_true rfl) ?_))))))
        by_cases h_20 : c 2 (c2 1 2) > 57
        · refine v_ic_gt_t (t := 109) c_8_70 rfl ⟨of_decide_eq_true rfl, h_20, (q_4e52e4576 h_11)⟩ (q_iload_n c_8_109 rfl (q_iload_n c_8_110 rfl ?_))
          by_cases h_21 : v3 ≤ a1
          · refine v_ic_le_t (t := 122) c_8_111 rfl ⟨(lel hv3.1 rfl), h_21, (ler ha1.2 rfl)⟩ (q_iload_n c_8_122 rfl (q_iret c_8_123 rfl ?_))
            exact K c2 v3 hI2 (fun a j hm => hF a j hm) ⟨hv3.1, (q_3bbf258e8 h_21 ha1)⟩ (Or.inl ((q_514734711 h_21)))
          · refine v_ic_le_f (t := 122) c_8_111 rfl ⟨(lel ha1.1 rfl), (Int.not_le.mp h_21), (ler hv3.2 rfl)⟩ (q_aload_n c_8_114 rfl (q_iconst c_8_115 (q_iload_n c_8_116 rfl (v_cv c_8_117 km_5_52 rfl rfl (Nat.le_of_ble_eq_true rfl) ⟨⟨rfl, rfl⟩, Nat.le_of_ble_eq_true rfl, rfl⟩ (Nat.le_of_ble_eq_true rfl) (Nat.le_of_ble_eq_true rfl) (s_7 (a1 := 2) (a2 := v2) hI2 (show 1 ≤ 2 ∧ 2 ≤ 3 from ⟨of_decide_eq_true rfl, of_decide_eq_true rfl⟩) (show 0 ≤ v2 ∧ v2 ≤ 600 from hv2) (fun c_22 hI_23 hF_24 h_25 => (bk_inl ?_)))))))
            have h_26 := ir_1_4 hI_23
            refine q_iconst c_8_120 (q_iret c_8_121 rfl ?_)
            exact K c_22 0 hI_23 (fun a j hm => (hF_24 a j (qv_7ce279f74 hm)).trans (hF a j hm)) ⟨of_decide_eq_true rfl, of_decide_eq_true rfl⟩ (Or.inr (by first | assumption | omega))
        · refine v_ic_gt_f (t := 109) c_8_70 rfl ⟨(q_993cab007 h_13), (Int.not_lt.mp h_20), of_decide_eq_true rfl⟩ (q_iload_n c_8_73 rfl (v_bip c_8_74 (of_decide_eq_true rfl) (v_imul (v := 10 * v3) c_8_76 (by omega) (q_aload_n c_8_77 rfl (v_gr (t := 2) c_8_78 kf_5_9 rfl (Nat.le_of_ble_eq_true rfl) rfl (q_aload_n c_8_81 rfl (v_gi (z := 2) (v := c2 1 2) c_8_82 kf_5_35 rfl (Nat.le_of_ble_eq_true rfl) rfl rfl rfl ?_)))))))
          refine v_ba (v := c 2 (c2 1 2)) c_8_85 rfl (of_decide_eq_true rfl) (of_decide_eq_true rfl) ⟨h_1.1, (q_364416c3d h_2 h_4)⟩ (hid kn_12) (v_iadd (v := c 2 (c2 1 2) + 10 * v3) c_8_86 (by omega) (v_bip c_8_87 (of_decide_eq_true rfl) (v_isub (v := c 2 (c2 1 2) + 10 * v3 - 48) c_8_89 rfl (v_ldc (n := 99999) c_8_90 rfl (by decide +kernel) (v_minx c_8_92 rfl (by omega) (Nat.le_of_ble_eq_true rfl) ⟨by omega, by omega, by omega, by omega⟩ (fun y_27 hy_27 => (q_istore_n c_8_95 (Nat.le_of_ble_eq_true rfl) (q_aload_n c_8_96 rfl ?_))))))))
          refine q_dup c_8_97 rfl (v_gi (z := 2) (v := c2 1 2) c_8_98 kf_5_35 rfl (Nat.le_of_ble_eq_true rfl) rfl rfl rfl (q_iconst c_8_101 (v_iadd (v := c2 1 2 + 1) c_8_102 rfl (v_pi (z := 2) c_8_103 kf_5_35 rfl (Nat.le_of_ble_eq_true rfl) rfl rfl rfl (of_decide_eq_true rfl) (q_goto (t := 34) c_8_106 rfl ?_)))))
          have hI_28 := iw_1_2 (v := c2 1 2 + 1) hI2 ⟨(rgp_l h_1.1 (of_decide_eq_true rfl)), (q_e9d2b66ad h_2 h_4)⟩
          refine Wp_ls [(0, .ref 1), (1, vi a1), (2, vi v2), (3, vi y_27)] (lsub_cons rfl (lsub_cons rfl (lsub_cons rfl (lsub_cons rfl lsub_nil)))) ?_
          have h_29 : (up c2 1 2 (c2 1 2 + 1)) 1 2 = c2 1 2 + 1 := (up_e rfl)
          exact ih (up c2 1 2 (c2 1 2 + 1)) v2 y_27 hI_28 (fun a j hm => (up_b (Decidable.or_iff_not_imp_left.mpr (fun h1 h2 => hm (Or.inl ⟨Decidable.not_not.mp h1, h2⟩)))).trans (hF a j hm)) hv2 ⟨by omega, by omega⟩ (by omega)
set_option maxRecDepth 100000 in
set_option maxHeartbeats 4000000 in
theorem s_8 {sc : List Int32} {e : Int} {d u P Q : Nat} {c : ME} {a1 : Int} {Z : AR → Prop} (hI : Iv u e P Q c) (ha1 : (-1) ≤ a1 ∧ a1 ≤ 9999) (K : ∀ (c2 : ME) (y : Int), Iv u e P Q c2 → (∀ (a : Nat) (j : Int), ¬ ((a = 1 ∧ j = 2) ∨ (a = 1 ∧ j = 4) ∨ (a = 1 ∧ j = 5)) → c2 a j = c a j) → 0 ≤ y ∧ y ≤ 9999 → ((y ≤ a1) ∨ (y = 0)) → Z (.inl (some (vi y)), Wd P Q P P c2, 0, 0)) : Wp sc (d + 9) 8 0 [(0, .ref 1), (1, vi a1)] [] (Wd P Q P P c) 0 0 Z := by
  have hP := iv_P hI
  have hQ := iv_Q hI
  refine q_aload_n c_8_0 rfl (v_cv c_8_1 km_5_45 rfl rfl (Nat.le_of_ble_eq_true rfl) ⟨⟨rfl, rfl⟩, Nat.le_of_ble_eq_true rfl, rfl⟩ (Nat.le_of_ble_eq_true rfl) (Nat.le_of_ble_eq_true rfl) (q_aload_n c_2_0 rfl ?_))
  have h_31 := ir_1_4 hI
  refine v_gi (z := 4) (v := c 1 4) c_2_1 kf_5_38 rfl (Nat.le_of_ble_eq_true rfl) rfl rfl rfl ?_
  by_cases h_32 : c 1 4 ≠ 0
  · refine v_if_ne_t (t := 11) c_2_4 rfl ⟨h_32, ⟨(lel h_31.1 rfl), (ler h_31.2 rfl)⟩, of_decide_eq_true rfl, of_decide_eq_true rfl⟩ (q_iconst c_2_11 (v_zret c_2_12 rfl (of_decide_eq_true rfl) (bk_inl (v_if_ne_f (t := 9) c_8_4 rfl (of_decide_eq_true rfl) (q_iconst c_8_7 (q_iret c_8_8 rfl ?_))))))
    exact K c 0 hI (fun a j hm => rfl) ⟨of_decide_eq_true rfl, of_decide_eq_true rfl⟩ (Or.inr (by first | assumption | omega))
  · refine v_if_ne_f (t := 11) c_2_4 rfl (Decidable.not_not.mp h_32) (q_iconst c_2_7 (q_goto (t := 12) c_2_8 rfl (v_zret c_2_12 rfl (of_decide_eq_true rfl) (bk_inl (v_if_ne_t (t := 9) c_8_4 rfl (of_decide_eq_true rfl) (q_aload_n c_8_9 rfl (v_cv c_8_10 km_5_69 rfl rfl (Nat.le_of_ble_eq_true rfl) ⟨⟨rfl, rfl⟩, Nat.le_of_ble_eq_true rfl, rfl⟩ (Nat.le_of_ble_eq_true rfl) (Nat.le_of_ble_eq_true rfl) (s_6 hI (fun c_33 y_36 hI_34 hF_35 hy_36 h_37 => ?_)))))))))
    refine bk_inl ?_
    have h_38 := ir_1_1 hI_34
    have h_39 := ir_1_2 hI_34
    by_cases h_40 : y_36 ≠ 0
    · refine v_if_ne_t (t := 27) c_8_13 rfl ⟨h_40, ⟨(lel hy_36.1 rfl), (ler hy_36.2 rfl)⟩, of_decide_eq_true rfl, of_decide_eq_true rfl⟩ (q_aload_n c_8_27 rfl (v_gi (z := 2) (v := c_33 1 2) c_8_28 kf_5_35 rfl (Nat.le_of_ble_eq_true rfl) rfl rfl rfl (q_istore_n c_8_31 (Nat.le_of_ble_eq_true rfl) (q_iconst c_8_32 (q_istore_n c_8_33 (Nat.le_of_ble_eq_true rfl) (Wp_ls [(0, .ref 1), (1, vi a1), (2, vi (c_33 1 2)), (3, vi 0)] (lsub_cons rfl (lsub_cons rfl (lsub_cons rfl (lsub_cons rfl lsub_nil)))) ?_))))))
      exact (s_8_l (sc := sc) (d := d) hI ha1 K 1204) c_33 (c_33 1 2) 0 hI_34 (fun a j hm => hF_35 a j (fun h => hm (Or.inl h))) h_39 ⟨of_decide_eq_true rfl, of_decide_eq_true rfl⟩ (by omega)
    · refine v_if_ne_f (t := 27) c_8_13 rfl (Decidable.not_not.mp h_40) (q_aload_n c_8_16 rfl (q_iconst c_8_17 (q_aload_n c_8_18 rfl (v_gi (z := 2) (v := c_33 1 2) c_8_19 kf_5_35 rfl (Nat.le_of_ble_eq_true rfl) rfl rfl rfl (v_cv c_8_22 km_5_52 rfl rfl (Nat.le_of_ble_eq_true rfl) ⟨⟨rfl, rfl⟩, Nat.le_of_ble_eq_true rfl, rfl⟩ (Nat.le_of_ble_eq_true rfl) (Nat.le_of_ble_eq_true rfl) (s_7 (a1 := 1) (a2 := c_33 1 2) hI_34 (show 1 ≤ 1 ∧ 1 ≤ 3 from ⟨of_decide_eq_true rfl, of_decide_eq_true rfl⟩) (show 0 ≤ c_33 1 2 ∧ c_33 1 2 ≤ 600 from h_39) (fun c_41 hI_42 hF_43 h_44 => (bk_inl ?_))))))))
      have h_45 := ir_1_4 hI_42
      refine q_iconst c_8_25 (q_iret c_8_26 rfl ?_)
      exact K c_41 0 hI_42 (fun a j hm => (hF_43 a j (qv_7ce279f74 hm)).trans (hF_35 a j (fun h => hm (Or.inl h)))) ⟨of_decide_eq_true rfl, of_decide_eq_true rfl⟩ (Or.inr (by first | assumption | omega))

set_option maxRecDepth 100000 in
set_option maxHeartbeats 4000000 in
theorem s_9_l {sc : List Int32} {e : Int} {d u P Q : Nat} {q nt : Nat} {c : ME} {a2 : Int} {a3 : Int} {a4 : Int} {Z : AR → Prop} (hI : Iv u e P Q c) (hq : q < sN) (hnt : (sB q).length = nt) (hn9 : nt ≤ 100) (ha2 : 0 ≤ a2 ∧ a2 ≤ 100) (ha3 : 0 ≤ a3 ∧ a3 ≤ 600) (ha4 : 0 ≤ a4 ∧ a4 ≤ 600) (hq0 : (a2 + a4 ≤ nt)) (hq1 : (a3 + a4 ≤ 600)) (K : ∀ (y : Int), 0 ≤ y ∧ y ≤ 1 → Z (.inl (some (vi y)), Wd P Q P P c, 0, 0)) : ∀ n : Nat, (∀ (v5 : Int), 0 ≤ v5 ∧ v5 ≤ 600 → 1201 - 2 * v5 < (n : Int) → Wp sc (d + 7) 9 3 [(0, .ref 1), (1, .ref (a_SB + q)), (2, vi a2), (3, vi a3), (4, vi a4), (5, vi v5)] [] (Wd P Q P P c) 0 0 Z) := by
  intro n
  induction n with
  | zero => exact (by intro v5 hv5 hm9; have hP := iv_P hI; have hQ := iv_Q hI; exfalso; omega)
  | succ n ih =>
    have hP := iv_P hI
    have hQ := iv_Q hI
    intro v5 hv5 hm9
    refine q_iload c_9_3 rfl (q_iload c_9_5 rfl ?_)
    by_cases h_1 : v5 ≥ a4
    · refine v_ic_ge_t (t := 38) c_9_7 rfl ⟨(lel ha4.1 rfl), h_1, (ler hv5.2 rfl)⟩ (q_iconst c_9_38 (v_zret c_9_39 rfl (of_decide_eq_true rfl) ?_))
      exact K 1 ⟨of_decide_eq_true rfl, of_decide_eq_true rfl⟩
    · refine v_ic_ge_f (t := 38) c_9_7 rfl ⟨(lel hv5.1 rfl), (Int.not_le.mp h_1), (ler ha4.2 rfl)⟩ (q_aload_n c_9_10 rfl (q_iload_n c_9_11 rfl (q_iload c_9_12 rfl (v_iadd (v := a2 + v5) c_9_14 rfl (v_schx c_9_15 rfl (by omega) (Nat.le_of_ble_eq_true rfl) hq hnt ⟨by omega, by omega⟩ hn9 (fun y_2 hy_2 => (q_aload_n c_9_18 rfl (v_gr (t := 2) c_9_19 kf_5_9 rfl (Nat.le_of_ble_eq_true rfl) rfl ?_))))))))
      refine q_iload_n c_9_22 rfl (q_iload c_9_23 rfl (v_iadd (v := a3 + v5) c_9_25 rfl ?_))
      have h_3 := ir_2 hI (a3 + v5)
      refine v_ba (v := c 2 (a3 + v5)) c_9_26 rfl (of_decide_eq_true rfl) (of_decide_eq_true rfl) ⟨(q_06511f6df ha3 hv5), (q_4a9017cbe h_1 hq1)⟩ rfl ?_
      by_cases h_4 : y_2 = c 2 (a3 + v5)
      · refine v_ic_eq_t (t := 32) c_9_27 rfl h_4 (v_iinc (v := v5 + 1) c_9_32 rfl (Nat.le_of_ble_eq_true rfl) rfl (q_goto (t := 3) c_9_35 rfl (Wp_ls [(0, .ref 1), (1, .ref (a_SB + q)), (2, vi a2), (3, vi a3), (4, vi a4), (5, vi (v5 + 1))] (lsub_cons rfl (lsub_cons rfl (lsub_cons rfl (lsub_cons rfl (lsub_cons rfl (lsub_cons rfl lsub_nil)))))) ?_)))
        exact ih (v5 + 1) ⟨(rgp_l hv5.1 (of_decide_eq_true rfl)), by omega⟩ (by omega)
      · refine v_ic_eq_f (t := 32) c_9_27 rfl ⟨h_4, ⟨hy_2.1, hy_2.2⟩, h_3.1, h_3.2⟩ (q_iconst c_9_30 (v_zret c_9_31 rfl (of_decide_eq_true rfl) ?_))
        exact K 0 ⟨of_decide_eq_true rfl, of_decide_eq_true rfl⟩
set_option maxRecDepth 100000 in
set_option maxHeartbeats 4000000 in
theorem s_9 {sc : List Int32} {e : Int} {d u P Q : Nat} {q nt : Nat} {c : ME} {a2 : Int} {a3 : Int} {a4 : Int} {Z : AR → Prop} (hI : Iv u e P Q c) (hq : q < sN) (hnt : (sB q).length = nt) (hn9 : nt ≤ 100) (ha2 : 0 ≤ a2 ∧ a2 ≤ 100) (ha3 : 0 ≤ a3 ∧ a3 ≤ 600) (ha4 : 0 ≤ a4 ∧ a4 ≤ 600) (hq0 : (a2 + a4 ≤ nt)) (hq1 : (a3 + a4 ≤ 600)) (K : ∀ (y : Int), 0 ≤ y ∧ y ≤ 1 → Z (.inl (some (vi y)), Wd P Q P P c, 0, 0)) : Wp sc (d + 7) 9 0 [(0, .ref 1), (1, .ref (a_SB + q)), (2, vi a2), (3, vi a3), (4, vi a4)] [] (Wd P Q P P c) 0 0 Z := by
  have hP := iv_P hI
  have hQ := iv_Q hI
  refine q_iconst c_9_0 (q_istore c_9_1 (Nat.le_of_ble_eq_true rfl) (Wp_ls [(0, .ref 1), (1, .ref (a_SB + q)), (2, vi a2), (3, vi a3), (4, vi a4), (5, vi 0)] (lsub_cons rfl (lsub_cons rfl (lsub_cons rfl (lsub_cons rfl (lsub_cons rfl (lsub_cons rfl lsub_nil)))))) ?_))
  exact (s_9_l (sc := sc) (d := d) hI hq hnt hn9 ha2 ha3 ha4 hq0 hq1 K 1204) 0 ⟨of_decide_eq_true rfl, of_decide_eq_true rfl⟩ (by omega)

set_option maxRecDepth 100000 in
set_option maxHeartbeats 4000000 in
theorem s_10_l {sc : List Int32} {e : Int} {d u P Q : Nat} {q nt : Nat} {c : ME} {Z : AR → Prop} (hI : Iv u e P Q c) (hq : q < sN) (hnt : (sB q).length = nt) (hn9 : nt ≤ 100) (K : ∀ (c2 : ME) (y : Int), Iv u e P Q c2 → (∀ (a : Nat) (j : Int), ¬ ((a = 1 ∧ j = 2) ∨ (a = 1 ∧ j = 4) ∨ (a = 1 ∧ j = 5)) → c2 a j = c a j) → (-1) ≤ y ∧ y ≤ 100 → ((y ≥ 0) ∨ (c2 1 4 ≠ 0)) → Z (.inl (some (vi y)), Wd P Q P P c2, 0, 0)) : ∀ n : Nat, (∀ (c2 : ME) (v2 : Int) (v3 : Int), Iv u e P Q c2 → (∀ (a : Nat) (j : Int), ¬ ((a = 1 ∧ j = 2) ∨ (a = 1 ∧ j = 4) ∨ (a = 1 ∧ j = 5)) → c2 a j = c a j) → 0 ≤ v2 ∧ v2 ≤ 600 → 0 ≤ v3 ∧ v3 ≤ 600 → 1406 - 2 * v3 < (n : Int) → Wp sc (d + 8) 10 7 [(0, .ref 1), (1, .ref (a_SB + q)), (2, vi v2), (3, vi v3)] [] (Wd P Q P P c2) 0 0 Z) ∧ (∀ (c2 : ME) (v2 : Int) (v3 : Int) (v4 : Int) (v5 : Int) (v6 : Int), Iv u e P Q c2 → (∀ (a : Nat) (j : Int), ¬ ((a = 1 ∧ j = 2) ∨ (a = 1 ∧ j = 4) ∨ (a = 1 ∧ j = 5)) → c2 a j = c a j) → 0 ≤ v2 ∧ v2 ≤ 600 → 0 ≤ v3 ∧ v3 ≤ 600 → 0 ≤ v4 ∧ v4 ≤ 101 → 0 ≤ v5 ∧ v5 ≤ 101 → 0 ≤ v6 ∧ v6 ≤ 101 → ((v5 ≤ v6)) → ((v4 ≤ v6)) → ((v6 ≤ nt + 1)) → 203 - 2 * v6 < (n : Int) → Wp sc (d + 8) 10 52 [(0, .ref 1), (1, .ref (a_SB + q)), (2, vi v2), (3, vi v3), (4, vi v4), (5, vi v5), (6, vi v6)] [] (Wd P Q P P c2) 0 0 Z) := by
  intro n
  induction n with
  | zero => exact (by exact ⟨by (intro c2 v2 v3 hI2 hF hv2 hv3 hm9; have hP := iv_P hI; have hQ := iv_Q hI; exfalso; omega), by (intro c2 v2 v3 v4 v5 v6 hI2 hF hv2 hv3 hv4 hv5 hv6 hx0 hx1 hx2 hm9; have hP := iv_P hI; have hQ := iv_Q hI; exfalso; omega)⟩)
  | succ n ih =>
    have hP := iv_P hI
    have hQ := iv_Q hI
    refine ⟨?_, ?_⟩
    · skip
      intro c2 v2 v3 hI2 hF hv2 hv3 hm9
      refine q_iload_n c_10_7 rfl (q_aload_n c_10_8 rfl ?_)
      have h_1 := ir_1_1 hI
      have kn_2 : Hid (c2 1 1 = c 1 1) := hF 1 1 qn_b782e6d88
      refine v_gi (z := 1) (v := c 1 1) c_10_9 kf_5_32 rfl (Nat.le_of_ble_eq_true rfl) rfl rfl (hid kn_2) ?_
      by_cases h_3 : v3 ≥ c 1 1
      · refine v_ic_ge_t (t := 43) c_10_12 rfl ⟨(q_3b2b08511 h_1), h_3, (ler hv3.2 rfl)⟩ (q_iconst c_10_43 (q_istore c_10_44 (Nat.le_of_ble_eq_true rfl) (q_iconst c_10_46 (q_istore c_10_47 (Nat.le_of_ble_eq_true rfl) (q_iconst c_10_49 (q_istore c_10_50 (Nat.le_of_ble_eq_true rfl) (Wp_ls [(0, .ref 1), (1, .ref (a_SB + q)), (2, vi v2), (3, vi v3), (4, vi 0), (5, vi 0), (6, vi 0)] (lsub_cons rfl (lsub_cons rfl (lsub_cons rfl (lsub_cons rfl (lsub_cons rfl (lsub_cons rfl (lsub_cons rfl lsub_nil))))))) ?_)))))))
        exact ih.2 c2 v2 v3 0 0 0 hI2 (fun a j hm => hF a j hm) hv2 hv3 ⟨of_decide_eq_true rfl, of_decide_eq_true rfl⟩ ⟨of_decide_eq_true rfl, of_decide_eq_true rfl⟩ ⟨of_decide_eq_true rfl, of_decide_eq_true rfl⟩ (by first | decide | omega) (by first | decide | omega) (by omega) (by omega)
      · refine v_ic_ge_f (t := 43) c_10_12 rfl ⟨(lel hv3.1 rfl), (Int.not_le.mp h_3), (q_3885e607f h_1)⟩ (q_aload_n c_10_15 rfl (v_gr (t := 2) c_10_16 kf_5_9 rfl (Nat.le_of_ble_eq_true rfl) rfl (q_iload_n c_10_19 rfl ?_)))
        have h_4 := ir_2 hI v3
        have kn_5 : Hid (c2 2 v3 = c 2 v3) := hF 2 v3 qn_e2b123f84
        refine v_ba (v := c 2 v3) c_10_20 rfl (of_decide_eq_true rfl) (of_decide_eq_true rfl) ⟨hv3.1, (q_364416c3d h_1 h_3)⟩ (hid kn_5) (v_bip c_10_21 (of_decide_eq_true rfl) ?_)
        by_cases h_6 : c 2 v3 < 97
        · refine v_ic_lt_t (t := 43) c_10_23 rfl ⟨(q_cc1935a2a h_4), h_6, of_decide_eq_true rfl⟩ (q_iconst c_10_43 (q_istore c_10_44 (Nat.le_of_ble_eq_true rfl) (q_iconst c_10_46 (q_istore c_10_47 (Nat.le_of_ble_eq_true rfl) (q_iconst c_10_49 (q_istore c_10_50 (Nat.le_of_ble_eq_true rfl) (Wp_ls [(0, .ref 1), (1, .ref (a_SB + q)), (2, vi v2), (3, vi v3), (4, vi 0), (5, vi 0), (6, vi 0)] (lsub_cons rfl (lsub_cons rfl (lsub_cons rfl (lsub_cons rfl (lsub_cons rfl (lsub_cons rfl (lsub_cons rfl lsub_nil))))))) ?_)))))))
          exact ih.2 c2 v2 v3 0 0 0 hI2 (fun a j hm => hF a j hm) hv2 hv3 ⟨of_decide_eq_true rfl, of_decide_eq_true rfl⟩ ⟨of_decide_eq_true rfl, of_decide_eq_true rfl⟩ ⟨of_decide_eq_true rfl, of_decide_eq_true rfl⟩ (by first | decide | omega) (by first | decide | omega) (by omega) (by omega)
        · refine v_ic_lt_f (t := 43) c_10_23 rfl ⟨of_decide_eq_true rfl, (Int.not_lt.mp h_6), (q_4e52e4576 h_4)⟩ (q_aload_n c_10_26 rfl (v_gr (t := 2) c_10_27 kf_5_9 rfl (Nat.le_of_ble_eq_true rfl) rfl (q_iload_n c_10_30 rfl (v_ba (v := c 2 v3) c_10_31 rfl (of_decide_eq_true rfl) (of_decide_eq_true rfl) ⟨hv3.1, (q_364416c3d h_1 h_3)⟩ (hid kn_5) (v_bip c_10_32 (of_decide_eq_true rfl) ?_)))))
          by_cases h_7 : c 2 v3 > 122
          · refine v_ic_gt_t (t := 43) c_10_34 rfl ⟨of_decide_eq_true rfl, h_7, (q_4e52e4576 h_4)⟩ (q_iconst c_10_43 (q_istore c_10_44 (Nat.le_of_ble_eq_true rfl) (q_iconst c_10_46 (q_istore c_10_47 (Nat.le_of_ble_eq_true rfl) (q_iconst c_10_49 (q_istore c_10_50 (Nat.le_of_ble_eq_true rfl) (Wp_ls [(0, .ref 1), (1, .ref (a_SB + q)), (2, vi v2), (3, vi v3), (4, vi 0), (5, vi 0), (6, vi 0)] (lsub_cons rfl (lsub_cons rfl (lsub_cons rfl (lsub_cons rfl (lsub_cons rfl (lsub_cons rfl (lsub_cons rfl lsub_nil))))))) ?_)))))))
            exact ih.2 c2 v2 v3 0 0 0 hI2 (fun a j hm => hF a j hm) hv2 hv3 ⟨of_decide_eq_true rfl, of_decide_eq_true rfl⟩ ⟨of_decide_eq_true rfl, of_decide_eq_true rfl⟩ ⟨of_decide_eq_true rfl, of_decide_eq_true rfl⟩ (by first | decide | omega) (by first | decide | omega) (by omega) (by omega)
          · refine v_ic_gt_f (t := 43) c_10_34 rfl ⟨(q_831bb82af h_6), (Int.not_lt.mp h_7), of_decide_eq_true rfl⟩ (v_iinc (v := v3 + 1) c_10_37 rfl (Nat.le_of_ble_eq_true rfl) rfl (q_goto (t := 7) c_10_40 rfl (Wp_ls [(0, .ref 1), (1, .ref (a_SB + q)), (2, vi v2), (3, vi (v3 + 1))] (lsub_cons rfl (lsub_cons rfl (lsub_cons rfl (lsub_cons rfl lsub_nil)))) ?_)))
            exact ih.1 c2 v2 (v3 + 1) hI2 (fun a j hm => hF a j hm) hv2 ⟨(rgp_l hv3.1 (of_decide_eq_true rfl)), (q_e9d2b66ad h_1 h_3)⟩ (by omega)
    · skip
      intro c2 v2 v3 v4 v5 v6 hI2 hF hv2 hv3 hv4 hv5 hv6 hx0 hx1 hx2 hm9
      refine q_iload c_10_52 rfl (q_aload_n c_10_54 rfl (v_sln nt rfl rfl (by omega) (Nat.le_of_ble_eq_true rfl) hq hnt ?_))
      by_cases h_8 : v6 > nt
      · refine v_ic_gt_t (t := 136) c_10_58 rfl ⟨by omega, h_8, (ler hv6.2 rfl)⟩ (q_aload_n c_10_136 rfl (q_iconst c_10_137 (q_iload_n c_10_138 rfl (v_cv c_10_139 km_5_52 rfl rfl (Nat.le_of_ble_eq_true rfl) ⟨⟨rfl, rfl⟩, Nat.le_of_ble_eq_true rfl, rfl⟩ (Nat.le_of_ble_eq_true rfl) (Nat.le_of_ble_eq_true rfl) (s_7 (a1 := 1) (a2 := v2) hI2 (show 1 ≤ 1 ∧ 1 ≤ 3 from ⟨of_decide_eq_true rfl, of_decide_eq_true rfl⟩) (show 0 ≤ v2 ∧ v2 ≤ 600 from hv2) (fun c_9 hI_10 hF_11 h_12 => (bk_inl ?_)))))))
        have h_13 := ir_1_4 hI_10
        refine q_iconst c_10_142 (q_iret c_10_143 rfl ?_)
        exact K c_9 (-1) hI_10 (fun a j hm => (hF_11 a j (qv_7ce279f74 hm)).trans (hF a j hm)) ⟨of_decide_eq_true rfl, of_decide_eq_true rfl⟩ (Or.inr ((q_88eaa90e3 h_12 h_13)))
      · refine v_ic_gt_f (t := 136) c_10_58 rfl ⟨(lel hv6.1 rfl), (Int.not_lt.mp h_8), by omega⟩ (q_aload_n c_10_61 rfl (v_cv c_10_62 km_5_45 rfl rfl (Nat.le_of_ble_eq_true rfl) ⟨⟨rfl, rfl⟩, Nat.le_of_ble_eq_true rfl, rfl⟩ (Nat.le_of_ble_eq_true rfl) (Nat.le_of_ble_eq_true rfl) (q_aload_n c_2_0 rfl ?_)))
        have h_14 := ir_1_4 hI2
        refine v_gi (z := 4) (v := c2 1 4) c_2_1 kf_5_38 rfl (Nat.le_of_ble_eq_true rfl) rfl rfl rfl ?_
        by_cases h_15 : c2 1 4 ≠ 0
        · refine v_if_ne_t (t := 11) c_2_4 rfl ⟨h_15, ⟨(lel h_14.1 rfl), (ler h_14.2 rfl)⟩, of_decide_eq_true rfl, of_decide_eq_true rfl⟩ (q_iconst c_2_11 (v_zret c_2_12 rfl (of_decide_eq_true rfl) (bk_inl (v_if_eq_t (t := 136) c_10_65 rfl (of_decide_eq_true rfl) (q_aload_n c_10_136 rfl (q_iconst c_10_137 (q_iload_n c_10_138 rfl ?_)))))))
          refine v_cv c_10_139 km_5_52 rfl rfl (Nat.le_of_ble_eq_true rfl) ⟨⟨rfl, rfl⟩, Nat.le_of_ble_eq_true rfl, rfl⟩ (Nat.le_of_ble_eq_true rfl) (Nat.le_of_ble_eq_true rfl) (s_7 (a1 := 1) (a2 := v2) hI2 (show 1 ≤ 1 ∧ 1 ≤ 3 from ⟨of_decide_eq_true rfl, of_decide_eq_true rfl⟩) (show 0 ≤ v2 ∧ v2 ≤ 600 from hv2) (fun c_16 hI_17 hF_18 h_19 => (bk_inl ?_)))
          have h_20 := ir_1_4 hI_17
          refine q_iconst c_10_142 (q_iret c_10_143 rfl ?_)
          exact K c_16 (-1) hI_17 (fun a j hm => (hF_18 a j (qv_7ce279f74 hm)).trans (hF a j hm)) ⟨of_decide_eq_true rfl, of_decide_eq_true rfl⟩ (Or.inr ((q_88eaa90e3 h_19 h_20)))
        · refine v_if_ne_f (t := 11) c_2_4 rfl (Decidable.not_not.mp h_15) (q_iconst c_2_7 (q_goto (t := 12) c_2_8 rfl (v_zret c_2_12 rfl (of_decide_eq_true rfl) (bk_inl (v_if_eq_f (t := 136) c_10_65 rfl (of_decide_eq_true rfl) (q_iload c_10_68 rfl (q_aload_n c_10_70 rfl ?_)))))))
          refine v_sln nt rfl rfl (by omega) (Nat.le_of_ble_eq_true rfl) hq hnt ?_
          by_cases h_21 : v6 = nt
          · refine v_ic_eq_t (t := 88) c_10_74 rfl h_21 (q_iload c_10_88 rfl (q_iload c_10_90 rfl (v_isub (v := v6 - v5) c_10_92 rfl (q_iload_n c_10_93 rfl (q_iload_n c_10_94 rfl (v_isub (v := v3 - v2) c_10_95 rfl ?_))))))
            by_cases h_22 : v6 - v5 ≠ v3 - v2
            · refine v_ic_ne_t (t := 121) c_10_96 rfl ⟨h_22, ⟨by omega, (q_95fe11e65 hv5 hv6)⟩, (q_7129fde9c hv2 hv3), (q_2ad8cd73d hv2 hv3)⟩ (v_iinc (v := v4 + 1) c_10_121 rfl (Nat.le_of_ble_eq_true rfl) rfl (q_iload c_10_124 rfl (q_iconst c_10_126 (v_iadd (v := v6 + 1) c_10_127 rfl (q_istore c_10_128 (Nat.le_of_ble_eq_true rfl) (v_iinc (v := v6 + 1) c_10_130 rfl (Nat.le_of_ble_eq_true rfl) rfl (q_goto (t := 52) c_10_133 rfl ?_)))))))
              refine Wp_ls [(0, .ref 1), (1, .ref (a_SB + q)), (2, vi v2), (3, vi v3), (4, vi (v4 + 1)), (5, vi (v6 + 1)), (6, vi (v6 + 1))] (lsub_cons rfl (lsub_cons rfl (lsub_cons rfl (lsub_cons rfl (lsub_cons rfl (lsub_cons rfl (lsub_cons rfl lsub_nil))))))) ?_
              exact ih.2 c2 v2 v3 (v4 + 1) (v6 + 1) (v6 + 1) hI2 (fun a j hm => hF a j hm) hv2 hv3 ⟨(rgp_l hv4.1 (of_decide_eq_true rfl)), by first | (clear hv2 hv3 hv4 hv5 hv6 hx0 hx2 h_14 h_15 h_21 h_22; omega) | omega⟩ ⟨(rgp_l hv6.1 (of_decide_eq_true rfl)), by first | (clear hv2 hv3 hv4 hv5 hv6 hx0 hx1 hx2 h_14 h_15 h_21 h_22; omega) | omega⟩ ⟨(rgp_l hv6.1 (of_decide_eq_true rfl)), by first | (clear hv2 hv3 hv4 hv5 hv6 hx0 hx1 hx2 h_14 h_15 h_21 h_22; omega) | omega⟩ ((q_3bb02af3e)) (by first | (clear hv2 hv3 hv4 hv5 hv6 hx0 hx2 h_8 h_14 h_15 h_21 h_22; omega) | omega) ((q_78480ff12 h_8)) (by omega)
            · refine v_ic_ne_f (t := 121) c_10_96 rfl (Decidable.not_not.mp h_22) (q_aload_n c_10_99 rfl (q_aload_n c_10_100 rfl (q_iload c_10_101 rfl (q_iload_n c_10_103 rfl (q_iload_n c_10_104 rfl (q_iload_n c_10_105 rfl (v_isub (v := v3 - v2) c_10_106 rfl ?_)))))))
              refine v_cv c_10_107 km_5_73 rfl rfl (Nat.le_of_ble_eq_true rfl) ⟨⟨rfl, rfl⟩, Nat.le_of_ble_eq_true rfl, rfl⟩ (Nat.le_of_ble_eq_true rfl) (Nat.le_of_ble_eq_true rfl) (s_9 (a2 := v5) (a3 := v2) (a4 := v3 - v2) hI2 hq hnt hn9 (show 0 ≤ v5 ∧ v5 ≤ 100 from ⟨hv5.1, by omega⟩) (show 0 ≤ v2 ∧ v2 ≤ 600 from hv2) (show 0 ≤ v3 - v2 ∧ v3 - v2 ≤ 600 from ⟨by omega, (q_9e10f4d12 h_22 hv5 hv6)⟩) ((q_73a1117df h_22 h_8)) ((q_c7aae8bb3 hv3)) (fun y_23 hy_23 => (bk_inl ?_)))
              by_cases h_24 : y_23 = 0
              · refine v_if_eq_t (t := 121) c_10_110 rfl h_24 (v_iinc (v := v4 + 1) c_10_121 rfl (Nat.le_of_ble_eq_true rfl) rfl (q_iload c_10_124 rfl (q_iconst c_10_126 (v_iadd (v := v6 + 1) c_10_127 rfl (q_istore c_10_128 (Nat.le_of_ble_eq_true rfl) (v_iinc (v := v6 + 1) c_10_130 rfl (Nat.le_of_ble_eq_true rfl) rfl (q_goto (t := 52) c_10_133 rfl ?_)))))))
                refine Wp_ls [(0, .ref 1), (1, .ref (a_SB + q)), (2, vi v2), (3, vi v3), (4, vi (v4 + 1)), (5, vi (v6 + 1)), (6, vi (v6 + 1))] (lsub_cons rfl (lsub_cons rfl (lsub_cons rfl (lsub_cons rfl (lsub_cons rfl (lsub_cons rfl (lsub_cons rfl lsub_nil))))))) ?_
                exact ih.2 c2 v2 v3 (v4 + 1) (v6 + 1) (v6 + 1) hI2 (fun a j hm => hF a j hm) hv2 hv3 ⟨(rgp_l hv4.1 (of_decide_eq_true rfl)), by first | (clear hv2 hv3 hv4 hv5 hv6 hx0 hx2 h_14 h_15 h_21 h_22 h_24; omega) | omega⟩ ⟨(rgp_l hv6.1 (of_decide_eq_true rfl)), by first | (clear hv2 hv3 hv4 hv5 hv6 hx0 hx1 hx2 h_14 h_15 h_21 h_22 h_24; omega) | omega⟩ ⟨(rgp_l hv6.1 (of_decide_eq_true rfl)), by first | (clear hv2 hv3 hv4 hv5 hv6 hx0 hx1 hx2 h_14 h_15 h_21 h_22 h_24; omega) | omega⟩ ((q_3bb02af3e)) (by first | (clear hv2 hv3 hv4 hv5 hv6 hx0 hx2 h_8 h_14 h_15 h_21 h_22 h_24; omega) | omega) ((q_78480ff12 h_8)) (by omega)
              · refine v_if_eq_f (t := 121) c_10_110 rfl ⟨h_24, ⟨(lel hy_23.1 rfl), (ler hy_23.2 rfl)⟩, of_decide_eq_true rfl, of_decide_eq_true rfl⟩ (q_aload_n c_10_113 rfl (q_iload_n c_10_114 rfl (v_pi (z := 2) c_10_115 kf_5_35 rfl (Nat.le_of_ble_eq_true rfl) rfl rfl rfl (of_decide_eq_true rfl) (q_iload c_10_118 rfl (q_iret c_10_120 rfl ?_)))))
                have hI_25 := iw_1_2 (v := v3) hI2 ⟨hv3.1, hv3.2⟩
                have h_26 : (up c2 1 2 v3) 1 4 = c2 1 4 := (up_n (ni rfl))
                exact K (up c2 1 2 v3) v4 hI_25 (fun a j hm => (up_b (Decidable.or_iff_not_imp_left.mpr (fun h1 h2 => hm (Or.inl ⟨Decidable.not_not.mp h1, h2⟩)))).trans (hF a j hm)) ⟨(lel hv4.1 rfl), by first | (clear hv2 hv3 hv4 hv5 hv6 hx0 hx2 h_14 h_15 h_21 h_22 h_24; omega) | omega⟩ (Or.inl ((q_fdb951d2d hv4)))
          · refine v_ic_eq_f (t := 88) c_10_74 rfl ⟨h_21, ⟨(lel hv6.1 rfl), (ler hv6.2 rfl)⟩, by omega, by omega⟩ (q_aload_n c_10_77 rfl (q_iload c_10_78 rfl (v_schx c_10_80 rfl (by omega) (Nat.le_of_ble_eq_true rfl) hq hnt ⟨by omega, by omega⟩ hn9 (fun y_27 hy_27 => (v_bip c_10_83 (of_decide_eq_true rfl) ?_)))))
            by_cases h_28 : y_27 ≠ 32
            · refine v_ic_ne_t (t := 130) c_10_85 rfl ⟨h_28, ⟨hy_27.1, hy_27.2⟩, of_decide_eq_true rfl, of_decide_eq_true rfl⟩ (v_iinc (v := v6 + 1) c_10_130 rfl (Nat.le_of_ble_eq_true rfl) rfl (q_goto (t := 52) c_10_133 rfl (Wp_ls [(0, .ref 1), (1, .ref (a_SB + q)), (2, vi v2), (3, vi v3), (4, vi v4), (5, vi v5), (6, vi (v6 + 1))] (lsub_cons rfl (lsub_cons rfl (lsub_cons rfl (lsub_cons rfl (lsub_cons rfl (lsub_cons rfl (lsub_cons rfl lsub_nil))))))) ?_)))
              exact ih.2 c2 v2 v3 v4 v5 (v6 + 1) hI2 (fun a j hm => hF a j hm) hv2 hv3 hv4 hv5 ⟨(rgp_l hv6.1 (of_decide_eq_true rfl)), by first | (clear hv2 hv3 hv4 hv5 hv6 hx0 hx1 hx2 h_14 h_15 h_21 h_28; omega) | omega⟩ (by first | (clear hv2 hv3 hv4 hv5 hv6 hx1 hx2 h_8 h_14 h_15 h_21 h_28; omega) | omega) (by first | (clear hv2 hv3 hv4 hv5 hv6 hx0 hx2 h_8 h_14 h_15 h_21 h_28; omega) | omega) ((q_78480ff12 h_8)) (by omega)
            · refine v_ic_ne_f (t := 130) c_10_85 rfl (Decidable.not_not.mp h_28) (q_iload c_10_88 rfl (q_iload c_10_90 rfl (v_isub (v := v6 - v5) c_10_92 rfl (q_iload_n c_10_93 rfl (q_iload_n c_10_94 rfl (v_isub (v := v3 - v2) c_10_95 rfl ?_))))))
              by_cases h_29 : v6 - v5 ≠ v3 - v2
              · refine v_ic_ne_t (t := 121) c_10_96 rfl ⟨h_29, ⟨by first | (clear hv2 hv3 hv4 hv5 hv6 hx1 hx2 h_8 h_14 h_15 h_28 h_21; omega) | omega, (q_95fe11e65 hv5 hv6)⟩, (q_7129fde9c hv2 hv3), (q_2ad8cd73d hv2 hv3)⟩ (v_iinc (v := v4 + 1) c_10_121 rfl (Nat.le_of_ble_eq_true rfl) rfl (q_iload c_10_124 rfl (q_iconst c_10_126 (v_iadd (v := v6 + 1) c_10_127 rfl (q_istore c_10_128 (Nat.le_of_ble_eq_true rfl) (v_iinc (v := v6 + 1) c_10_130 rfl (Nat.le_of_ble_eq_true rfl) rfl (q_goto (t := 52) c_10_133 rfl ?_)))))))
                refine Wp_ls [(0, .ref 1), (1, .ref (a_SB + q)), (2, vi v2), (3, vi v3), (4, vi (v4 + 1)), (5, vi (v6 + 1)), (6, vi (v6 + 1))] (lsub_cons rfl (lsub_cons rfl (lsub_cons rfl (lsub_cons rfl (lsub_cons rfl (lsub_cons rfl (lsub_cons rfl lsub_nil))))))) ?_
                exact ih.2 c2 v2 v3 (v4 + 1) (v6 + 1) (v6 + 1) hI2 (fun a j hm => hF a j hm) hv2 hv3 ⟨(rgp_l hv4.1 (of_decide_eq_true rfl)), by first | (clear hv2 hv3 hv4 hv5 hv6 hx0 hx2 h_14 h_15 h_28 h_21 h_29; omega) | omega⟩ ⟨(rgp_l hv6.1 (of_decide_eq_true rfl)), by first | (clear hv2 hv3 hv4 hv5 hv6 hx0 hx1 hx2 h_14 h_15 h_28 h_21 h_29; omega) | omega⟩ ⟨(rgp_l hv6.1 (of_decide_eq_true rfl)), by first | (clear hv2 hv3 hv4 hv5 hv6 hx0 hx1 hx2 h_14 h_15 h_28 h_21 h_29; omega) | omega⟩ ((q_3bb02af3e)) (by first | (clear hv2 hv3 hv4 hv5 hv6 hx0 hx2 h_8 h_14 h_15 h_28 h_21 h_29; omega) | omega) ((q_78480ff12 h_8)) (by omega)
              · refine v_ic_ne_f (t := 121) c_10_96 rfl (Decidable.not_not.mp h_29) (q_aload_n c_10_99 rfl (q_aload_n c_10_100 rfl (q_iload c_10_101 rfl (q_iload_n c_10_103 rfl (q_iload_n c_10_104 rfl (q_iload_n c_10_105 rfl (v_isub (v := v3 - v2) c_10_106 rfl ?_)))))))
                refine v_cv c_10_107 km_5_73 rfl rfl (Nat.le_of_ble_eq_true rfl) ⟨⟨rfl, rfl⟩, Nat.le_of_ble_eq_true rfl, rfl⟩ (Nat.le_of_ble_eq_true rfl) (Nat.le_of_ble_eq_true rfl) (s_9 (a2 := v5) (a3 := v2) (a4 := v3 - v2) hI2 hq hnt hn9 (show 0 ≤ v5 ∧ v5 ≤ 100 from ⟨hv5.1, by first | (clear hv2 hv3 hv4 hv5 hv6 hx1 hx2 h_14 h_15 h_28 h_29 h_21; omega) | omega⟩) (show 0 ≤ v2 ∧ v2 ≤ 600 from hv2) (show 0 ≤ v3 - v2 ∧ v3 - v2 ≤ 600 from ⟨by first | (clear hv2 hv3 hv4 hv5 hv6 hx1 hx2 h_8 h_14 h_15 h_28 h_21; omega) | omega, (q_9e10f4d12 h_29 hv5 hv6)⟩) ((q_73a1117df h_29 h_8)) ((q_c7aae8bb3 hv3)) (fun y_30 hy_30 => (bk_inl ?_)))
                by_cases h_31 : y_30 = 0
                · refine v_if_eq_t (t := 121) c_10_110 rfl h_31 (v_iinc (v := v4 + 1) c_10_121 rfl (Nat.le_of_ble_eq_true rfl) rfl (q_iload c_10_124 rfl (q_iconst c_10_126 (v_iadd (v := v6 + 1) c_10_127 rfl (q_istore c_10_128 (Nat.le_of_ble_eq_true rfl) (v_iinc (v := v6 + 1) c_10_130 rfl (Nat.le_of_ble_eq_true rfl) rfl (q_goto (t := 52) c_10_133 rfl ?_)))))))
                  refine Wp_ls [(0, .ref 1), (1, .ref (a_SB + q)), (2, vi v2), (3, vi v3), (4, vi (v4 + 1)), (5, vi (v6 + 1)), (6, vi (v6 + 1))] (lsub_cons rfl (lsub_cons rfl (lsub_cons rfl (lsub_cons rfl (lsub_cons rfl (lsub_cons rfl (lsub_cons rfl lsub_nil))))))) ?_
                  exact ih.2 c2 v2 v3 (v4 + 1) (v6 + 1) (v6 + 1) hI2 (fun a j hm => hF a j hm) hv2 hv3 ⟨(rgp_l hv4.1 (of_decide_eq_true rfl)), by first | (clear hv2 hv3 hv4 hv5 hv6 hx0 hx2 h_14 h_15 h_28 h_29 h_31 h_21; omega) | omega⟩ ⟨(rgp_l hv6.1 (of_decide_eq_true rfl)), by first | (clear hv2 hv3 hv4 hv5 hv6 hx0 hx1 hx2 h_14 h_15 h_28 h_29 h_31 h_21; omega) | omega⟩ ⟨(rgp_l hv6.1 (of_decide_eq_true rfl)), by first | (clear hv2 hv3 hv4 hv5 hv6 hx0 hx1 hx2 h_14 h_15 h_28 h_29 h_31 h_21; omega) | omega⟩ ((q_3bb02af3e)) (by first | (clear hv2 hv3 hv4 hv5 hv6 hx0 hx2 h_8 h_14 h_15 h_28 h_29 h_31 h_21; omega) | omega) ((q_78480ff12 h_8)) (by omega)
                · refine v_if_eq_f (t := 121) c_10_110 rfl ⟨h_31, ⟨(lel hy_30.1 rfl), (ler hy_30.2 rfl)⟩, of_decide_eq_true rfl, of_decide_eq_true rfl⟩ (q_aload_n c_10_113 rfl (q_iload_n c_10_114 rfl (v_pi (z := 2) c_10_115 kf_5_35 rfl (Nat.le_of_ble_eq_true rfl) rfl rfl rfl (of_decide_eq_true rfl) (q_iload c_10_118 rfl (q_iret c_10_120 rfl ?_)))))
                  have hI_32 := iw_1_2 (v := v3) hI2 ⟨hv3.1, hv3.2⟩
                  have h_33 : (up c2 1 2 v3) 1 4 = c2 1 4 := (up_n (ni rfl))
                  exact K (up c2 1 2 v3) v4 hI_32 (fun a j hm => (up_b (Decidable.or_iff_not_imp_left.mpr (fun h1 h2 => hm (Or.inl ⟨Decidable.not_not.mp h1, h2⟩)))).trans (hF a j hm)) ⟨(lel hv4.1 rfl), by first | (clear hv2 hv3 hv4 hv5 hv6 hx0 hx2 h_14 h_15 h_28 h_29 h_21 h_31; omega) | omega⟩ (Or.inl ((q_fdb951d2d hv4)))
set_option maxRecDepth 100000 in
set_option maxHeartbeats 4000000 in
theorem s_10 {sc : List Int32} {e : Int} {d u P Q : Nat} {q nt : Nat} {c : ME} {Z : AR → Prop} (hI : Iv u e P Q c) (hq : q < sN) (hnt : (sB q).length = nt) (hn9 : nt ≤ 100) (K : ∀ (c2 : ME) (y : Int), Iv u e P Q c2 → (∀ (a : Nat) (j : Int), ¬ ((a = 1 ∧ j = 2) ∨ (a = 1 ∧ j = 4) ∨ (a = 1 ∧ j = 5)) → c2 a j = c a j) → (-1) ≤ y ∧ y ≤ 100 → ((y ≥ 0) ∨ (c2 1 4 ≠ 0)) → Z (.inl (some (vi y)), Wd P Q P P c2, 0, 0)) : Wp sc (d + 8) 10 0 [(0, .ref 1), (1, .ref (a_SB + q))] [] (Wd P Q P P c) 0 0 Z := by
  have hP := iv_P hI
  have hQ := iv_Q hI
  refine q_aload_n c_10_0 rfl (v_cv c_10_1 km_5_41 rfl rfl (Nat.le_of_ble_eq_true rfl) ⟨⟨rfl, rfl⟩, Nat.le_of_ble_eq_true rfl, rfl⟩ (Nat.le_of_ble_eq_true rfl) (Nat.le_of_ble_eq_true rfl) (s_3 hI (fun c_34 y_37 hI_35 hF_36 hy_37 h_38 => (bk_inl ?_))))
  have h_39 := ir_1_2 hI_35
  refine q_istore_n c_10_4 (Nat.le_of_ble_eq_true rfl) (q_iload_n c_10_5 rfl (q_istore_n c_10_6 (Nat.le_of_ble_eq_true rfl) (Wp_ls [(0, .ref 1), (1, .ref (a_SB + q)), (2, vi y_37), (3, vi y_37)] (lsub_cons rfl (lsub_cons rfl (lsub_cons rfl (lsub_cons rfl lsub_nil)))) ?_)))
  exact (s_10_l (sc := sc) (d := d) hI hq hnt hn9 K 1409).1 c_34 y_37 y_37 hI_35 (fun a j hm => hF_36 a j (fun h => hm (Or.inl h))) hy_37 hy_37 (by omega)

set_option maxRecDepth 100000 in
set_option maxHeartbeats 4000000 in
theorem s_11 {sc : List Int32} {e : Int} {d u P Q : Nat} {q nt : Nat} {c : ME} {Z : AR → Prop} (hI : Iv u e P Q c) (hq : q < sN) (hnt : (sB q).length = nt) (hn9 : nt ≤ 100) (K : ∀ (c2 : ME), Iv u e P Q c2 → (∀ (a : Nat) (j : Int), ¬ ((a = 1 ∧ j = 2) ∨ (a = 1 ∧ j = 4) ∨ (a = 1 ∧ j = 5)) → c2 a j = c a j) → Z (.inl (none), Wd P Q P P c2, 0, 0)) : Wp sc (d + 9) 11 0 [(0, .ref 1), (1, .ref (a_SB + q))] [] (Wd P Q P P c) 0 0 Z := by
  have hP := iv_P hI
  have hQ := iv_Q hI
  refine q_aload_n c_11_0 rfl (v_cv c_11_1 km_5_45 rfl rfl (Nat.le_of_ble_eq_true rfl) ⟨⟨rfl, rfl⟩, Nat.le_of_ble_eq_true rfl, rfl⟩ (Nat.le_of_ble_eq_true rfl) (Nat.le_of_ble_eq_true rfl) (q_aload_n c_2_0 rfl ?_))
  have h_1 := ir_1_4 hI
  refine v_gi (z := 4) (v := c 1 4) c_2_1 kf_5_38 rfl (Nat.le_of_ble_eq_true rfl) rfl rfl rfl ?_
  by_cases h_2 : c 1 4 ≠ 0
  · refine v_if_ne_t (t := 11) c_2_4 rfl ⟨h_2, ⟨(lel h_1.1 rfl), (ler h_1.2 rfl)⟩, of_decide_eq_true rfl, of_decide_eq_true rfl⟩ (q_iconst c_2_11 (v_zret c_2_12 rfl (of_decide_eq_true rfl) (bk_inl (v_if_eq_t (t := 25) c_11_4 rfl (of_decide_eq_true rfl) (q_vret rfl rfl ?_)))))
    exact K c hI (fun a j hm => rfl)
  · refine v_if_ne_f (t := 11) c_2_4 rfl (Decidable.not_not.mp h_2) (q_iconst c_2_7 (q_goto (t := 12) c_2_8 rfl (v_zret c_2_12 rfl (of_decide_eq_true rfl) (bk_inl (v_if_eq_f (t := 25) c_11_4 rfl (of_decide_eq_true rfl) (q_aload_n c_11_7 rfl (q_aload_n c_11_8 rfl ?_)))))))
    refine v_cv c_11_9 km_5_65 rfl rfl (Nat.le_of_ble_eq_true rfl) ⟨⟨rfl, rfl⟩, Nat.le_of_ble_eq_true rfl, rfl⟩ (Nat.le_of_ble_eq_true rfl) (Nat.le_of_ble_eq_true rfl) (s_4 hI hq hnt hn9 (fun c_3 y_6 hI_4 hF_5 hy_6 => (bk_inl (q_iconst c_11_12 ?_))))
    by_cases h_7 : y_6 ≠ (-1)
    · refine v_ic_ne_t (t := 25) c_11_13 rfl ⟨h_7, ⟨(lel hy_6.1 rfl), (ler hy_6.2 rfl)⟩, of_decide_eq_true rfl, of_decide_eq_true rfl⟩ (q_vret rfl rfl ?_)
      exact K c_3 hI_4 (fun a j hm => hF_5 a j (fun h => hm (Or.inl h)))
    · refine v_ic_ne_f (t := 25) c_11_13 rfl (Decidable.not_not.mp h_7) (q_aload_n c_11_16 rfl (q_iconst c_11_17 (q_aload_n c_11_18 rfl ?_)))
      have h_8 := ir_1_2 hI_4
      refine v_gi (z := 2) (v := c_3 1 2) c_11_19 kf_5_35 rfl (Nat.le_of_ble_eq_true rfl) rfl rfl rfl (v_cv c_11_22 km_5_52 rfl rfl (Nat.le_of_ble_eq_true rfl) ⟨⟨rfl, rfl⟩, Nat.le_of_ble_eq_true rfl, rfl⟩ (Nat.le_of_ble_eq_true rfl) (Nat.le_of_ble_eq_true rfl) (s_7 (a1 := 1) (a2 := c_3 1 2) hI_4 (show 1 ≤ 1 ∧ 1 ≤ 3 from ⟨of_decide_eq_true rfl, of_decide_eq_true rfl⟩) (show 0 ≤ c_3 1 2 ∧ c_3 1 2 ≤ 600 from h_8) (fun c_9 hI_10 hF_11 h_12 => (bk_inl ?_))))
      have h_13 := ir_1_4 hI_10
      refine q_vret rfl rfl ?_
      exact K c_9 hI_10 (fun a j hm => (hF_11 a j (qv_7ce279f74 hm)).trans (hF_5 a j (fun h => hm (Or.inl h))))

set_option maxRecDepth 100000 in
set_option maxHeartbeats 4000000 in
theorem s_14 {sc : List Int32} {e : Int} {d u P Q A : Nat} {c : ME} {a2 : Int} {Z : AR → Prop} (hI : Iv u e P Q c) (hA : A = 13 ∨ A = 25) (ha2 : 0 ≤ a2 ∧ a2 ≤ 6) (H13 : ∀ (c : ME) (Z : AR → Prop), a2 + 1 ≤ 6 → Iv u e P Q c → (∀ c2 : ME, Iv u e P Q c2 → (∀ (a : Nat) (j : Int), ¬ ((a = 1 ∧ j = 2) ∨ (a = 1 ∧ j = 4) ∨ (a = 1 ∧ j = 5) ∨ (a = (A + 7) ∧ j = 5) ∨ a = (A + 9)) → c2 a j = c a j) → Z (.inl none, Wd P Q P P c2, 0, 0)) → Wp sc (d + 11) 13 0 [(0, .ref (A + 7)), (1, .ref 1), (2, vi (a2 + 1))] [] (Wd P Q P P c) 0 0 Z) (K : ∀ (c2 : ME), Iv u e P Q c2 → (∀ (a : Nat) (j : Int), ¬ ((a = 1 ∧ j = 2) ∨ (a = 1 ∧ j = 4) ∨ (a = 1 ∧ j = 5) ∨ (a = (A + 7) ∧ j = 5) ∨ a = (A + 9)) → c2 a j = c a j) → Z (.inl (none), Wd P Q P P c2, 0, 0)) : Wp sc (d + 12) 14 0 [(0, .ref (A + 7)), (1, .ref 1), (2, vi a2)] [] (Wd P Q P P c) 0 0 Z := by
  have hP := iv_P hI
  have hQ := iv_Q hI
  refine q_aload_n c_14_0 rfl (v_cv c_14_1 km_0_68 rfl rfl (Nat.le_of_ble_eq_true rfl) ⟨⟨rfl, rfl⟩, Nat.le_of_ble_eq_true rfl, rfl⟩ (Nat.le_of_ble_eq_true rfl) (Nat.le_of_ble_eq_true rfl) (s_6 hI (fun c_1 y_4 hI_2 hF_3 hy_4 h_5 => (bk_inl ?_))))
  have h_6 := ir_1_1 hI_2
  have h_7 := ir_1_2 hI_2
  by_cases h_8 : y_4 = 0
  · refine v_if_eq_t (t := 19) c_14_4 rfl h_8 (q_aload_n c_14_19 rfl (v_cv c_14_20 km_0_75 rfl rfl (Nat.le_of_ble_eq_true rfl) ⟨⟨rfl, rfl⟩, Nat.le_of_ble_eq_true rfl, rfl⟩ (Nat.le_of_ble_eq_true rfl) (Nat.le_of_ble_eq_true rfl) (s_3 hI_2 (fun c_9 y_12 hI_10 hF_11 hy_12 h_13 => (bk_inl ?_)))))
    have h_14 := ir_1_2 hI_10
    refine q_istore_n c_14_23 (Nat.le_of_ble_eq_true rfl) (q_aload_n c_14_24 rfl (q_ldc_s c_14_25 rfl rfl (of_decide_eq_true rfl) (v_cv c_14_27 km_0_55 rfl rfl (Nat.le_of_ble_eq_true rfl) ⟨⟨rfl, rfl⟩, Nat.le_of_ble_eq_true rfl, rfl⟩ (Nat.le_of_ble_eq_true rfl) (Nat.le_of_ble_eq_true rfl) (s_4 hI_10 (q := 0) (nt := 1) (of_decide_eq_true rfl) (of_decide_eq_true rfl) (of_decide_eq_true rfl) (fun c_15 y_18 hI_16 hF_17 hy_18 => (bk_inl (q_iconst c_14_30 ?_)))))))
    by_cases h_19 : y_18 = (-1)
    · refine v_ic_eq_t (t := 38) c_14_31 rfl h_19 (q_iconst c_14_38 (q_istore c_14_39 (Nat.le_of_ble_eq_true rfl) (q_iload c_14_41 rfl (v_if_eq_t (t := 50) c_14_43 rfl (of_decide_eq_true rfl) (q_aload_n c_14_50 rfl (q_ldc_s c_14_51 rfl rfl (of_decide_eq_true rfl) (v_cv c_14_53 km_0_83 rfl rfl (Nat.le_of_ble_eq_true rfl) ⟨⟨rfl, rfl⟩, Nat.le_of_ble_eq_true rfl, rfl⟩ (Nat.le_of_ble_eq_true rfl) (Nat.le_of_ble_eq_true rfl) (s_10 hI_16 (q := 1) (nt := 47) (of_decide_eq_true rfl) (of_decide_eq_true rfl) (of_decide_eq_true rfl) (fun c_20 y_23 hI_21 hF_22 hy_23 h_24 => ?_)))))))))
      refine bk_inl ?_
      have h_25 := ir_1_4 hI_21
      refine q_istore c_14_56 (Nat.le_of_ble_eq_true rfl) (q_iload c_14_58 rfl (q_iconst c_14_60 ?_))
      by_cases h_26 : y_23 = (-1)
      · refine v_ic_eq_t (t := 82) c_14_61 rfl h_26 (q_iload_n c_14_82 rfl (v_bip c_14_83 (of_decide_eq_true rfl) ?_))
        by_cases h_27 : a2 < 6
        · refine v_ic_lt_t (t := 94) c_14_85 rfl ⟨(lel ha2.1 rfl), h_27, of_decide_eq_true rfl⟩ (q_aload_n c_14_94 rfl (v_cv c_14_95 km_0_40 rfl rfl (Nat.le_of_ble_eq_true rfl) ⟨⟨rfl, rfl⟩, Nat.le_of_ble_eq_true rfl, rfl⟩ (Nat.le_of_ble_eq_true rfl) (Nat.le_of_ble_eq_true rfl) (q_aload_n c_2_0 rfl (v_gi (z := 4) (v := c_20 1 4) c_2_1 kf_5_38 rfl (Nat.le_of_ble_eq_true rfl) rfl rfl rfl (v_if_ne_t (t := 11) c_2_4 rfl ⟨(q_eb1d20069 h_24 h_25 h_26), ⟨(lel h_25.1 rfl), (ler h_25.2 rfl)⟩, of_decide_eq_true rfl, of_decide_eq_true rfl⟩ (q_iconst c_2_11 (v_zret c_2_12 rfl (of_decide_eq_true rfl) ?_)))))))
          refine bk_inl (v_if_ne_f (t := 102) c_14_98 rfl (of_decide_eq_true rfl) (q_vret rfl rfl ?_))
          exact K c_20 hI_21 (fun a j hm => (hF_22 a j (qv_59471db0f hm)).trans ((hF_17 a j (fun h => hm (Or.inl h))).trans ((hF_11 a j (fun h => hm (Or.inl h))).trans (hF_3 a j (fun h => hm (Or.inl h))))))
        · refine v_ic_lt_f (t := 94) c_14_85 rfl ⟨of_decide_eq_true rfl, (Int.not_lt.mp h_27), (ler ha2.2 rfl)⟩ (q_aload_n c_14_88 rfl (q_iconst c_14_89 (q_iload_n c_14_90 rfl (v_cv c_14_91 km_0_86 rfl rfl (Nat.le_of_ble_eq_true rfl) ⟨⟨rfl, rfl⟩, Nat.le_of_ble_eq_true rfl, rfl⟩ (Nat.le_of_ble_eq_true rfl) (Nat.le_of_ble_eq_true rfl) (s_7 (a1 := 3) (a2 := y_12) hI_21 (show 1 ≤ 3 ∧ 3 ≤ 3 from ⟨of_decide_eq_true rfl, of_decide_eq_true rfl⟩) (show 0 ≤ y_12 ∧ y_12 ≤ 600 from hy_12) (fun c_28 hI_29 hF_30 h_31 => (bk_inl ?_)))))))
          have h_32 := ir_1_4 hI_29
          refine q_aload_n c_14_94 rfl (v_cv c_14_95 km_0_40 rfl rfl (Nat.le_of_ble_eq_true rfl) ⟨⟨rfl, rfl⟩, Nat.le_of_ble_eq_true rfl, rfl⟩ (Nat.le_of_ble_eq_true rfl) (Nat.le_of_ble_eq_true rfl) (q_aload_n c_2_0 rfl (v_gi (z := 4) (v := c_28 1 4) c_2_1 kf_5_38 rfl (Nat.le_of_ble_eq_true rfl) rfl rfl rfl (v_if_ne_t (t := 11) c_2_4 rfl ⟨(q_88eaa90e3 h_31 h_32), ⟨(lel h_32.1 rfl), (ler h_32.2 rfl)⟩, of_decide_eq_true rfl, of_decide_eq_true rfl⟩ (q_iconst c_2_11 (v_zret c_2_12 rfl (of_decide_eq_true rfl) (bk_inl ?_)))))))
          refine v_if_ne_f (t := 102) c_14_98 rfl (of_decide_eq_true rfl) (q_vret rfl rfl ?_)
          exact K c_28 hI_29 (fun a j hm => (hF_30 a j (qv_0a3016d09 hm)).trans ((hF_22 a j (qv_59471db0f hm)).trans ((hF_17 a j (fun h => hm (Or.inl h))).trans ((hF_11 a j (fun h => hm (Or.inl h))).trans (hF_3 a j (fun h => hm (Or.inl h)))))))
      · refine v_ic_eq_f (t := 82) c_14_61 rfl ⟨h_26, ⟨(lel hy_23.1 rfl), (ler hy_23.2 rfl)⟩, of_decide_eq_true rfl, of_decide_eq_true rfl⟩ (q_iload c_14_64 rfl (v_bip c_14_66 (of_decide_eq_true rfl) ?_))
        by_cases h_33 : y_23 ≥ 8
        · refine v_ic_ge_t (t := 82) c_14_68 rfl ⟨of_decide_eq_true rfl, h_33, (ler hy_23.2 rfl)⟩ (q_iload_n c_14_82 rfl (v_bip c_14_83 (of_decide_eq_true rfl) ?_))
          by_cases h_34 : a2 < 6
          · refine v_ic_lt_t (t := 94) c_14_85 rfl ⟨(lel ha2.1 rfl), h_34, of_decide_eq_true rfl⟩ (q_aload_n c_14_94 rfl (v_cv c_14_95 km_0_40 rfl rfl (Nat.le_of_ble_eq_true rfl) ⟨⟨rfl, rfl⟩, Nat.le_of_ble_eq_true rfl, rfl⟩ (Nat.le_of_ble_eq_true rfl) (Nat.le_of_ble_eq_true rfl) (q_aload_n c_2_0 rfl (v_gi (z := 4) (v := c_20 1 4) c_2_1 kf_5_38 rfl (Nat.le_of_ble_eq_true rfl) rfl rfl rfl ?_))))
            by_cases h_35 : c_20 1 4 ≠ 0
            · refine v_if_ne_t (t := 11) c_2_4 rfl ⟨h_35, ⟨(lel h_25.1 rfl), (ler h_25.2 rfl)⟩, of_decide_eq_true rfl, of_decide_eq_true rfl⟩ (q_iconst c_2_11 (v_zret c_2_12 rfl (of_decide_eq_true rfl) (bk_inl (v_if_ne_f (t := 102) c_14_98 rfl (of_decide_eq_true rfl) (q_vret rfl rfl ?_)))))
              exact K c_20 hI_21 (fun a j hm => (hF_22 a j (qv_59471db0f hm)).trans ((hF_17 a j (fun h => hm (Or.inl h))).trans ((hF_11 a j (fun h => hm (Or.inl h))).trans (hF_3 a j (fun h => hm (Or.inl h))))))
            · refine v_if_ne_f (t := 11) c_2_4 rfl (Decidable.not_not.mp h_35) (q_iconst c_2_7 (q_goto (t := 12) c_2_8 rfl (v_zret c_2_12 rfl (of_decide_eq_true rfl) (bk_inl (v_if_ne_t (t := 102) c_14_98 rfl (of_decide_eq_true rfl) (q_iload c_14_102 rfl (v_if_eq_t (t := 124) c_14_104 rfl (of_decide_eq_true rfl) ?_)))))))
              refine q_aload_n c_14_124 rfl (q_ldc_s c_14_125 rfl rfl (of_decide_eq_true rfl) (v_cv c_14_127 km_0_92 rfl rfl (Nat.le_of_ble_eq_true rfl) ⟨⟨rfl, rfl⟩, Nat.le_of_ble_eq_true rfl, rfl⟩ (Nat.le_of_ble_eq_true rfl) (Nat.le_of_ble_eq_true rfl) (s_11 hI_21 (q := 3) (nt := 1) (of_decide_eq_true rfl) (of_decide_eq_true rfl) (of_decide_eq_true rfl) (fun c_36 hI_37 hF_38 => (bk_inl (q_aload_n c_14_130 rfl (q_aload_n c_14_131 rfl (q_iload_n c_14_132 rfl (q_iconst c_14_133 ?_)))))))))
              refine v_iadd (v := a2 + 1) c_14_134 rfl (v_cv c_14_135 km_0_31 rfl (ck_p7 hA) (a68 hA rfl) ⟨⟨rfl, rfl⟩, of_decide_eq_true rfl, rfl⟩ (Nat.le_of_ble_eq_true rfl) (Nat.le_of_ble_eq_true rfl) (H13 _ _ (by omega) hI_37 (fun c_39 hI_40 hF_41 => (bk_inl (q_aload_n c_14_138 rfl (q_ldc_s c_14_139 rfl rfl (of_decide_eq_true rfl) (v_cv c_14_141 km_0_92 rfl rfl (Nat.le_of_ble_eq_true rfl) ⟨⟨rfl, rfl⟩, Nat.le_of_ble_eq_true rfl, rfl⟩ (Nat.le_of_ble_eq_true rfl) (Nat.le_of_ble_eq_true rfl) (s_11 hI_40 (q := 4) (nt := 1) (of_decide_eq_true rfl) (of_decide_eq_true rfl) (of_decide_eq_true rfl) (fun c_42 hI_43 hF_44 => (bk_inl (q_aload_n c_14_144 rfl ?_)))))))))))
              refine q_aload_n c_14_145 rfl (q_iload_n c_14_146 rfl (q_iconst c_14_147 (v_iadd (v := a2 + 1) c_14_148 rfl (v_cv c_14_149 km_0_31 rfl (ck_p7 hA) (a68 hA rfl) ⟨⟨rfl, rfl⟩, of_decide_eq_true rfl, rfl⟩ (Nat.le_of_ble_eq_true rfl) (Nat.le_of_ble_eq_true rfl) (H13 _ _ (by omega) hI_43 (fun c_45 hI_46 hF_47 => (bk_inl (q_aload_n c_14_152 rfl (q_ldc_s c_14_153 rfl rfl (of_decide_eq_true rfl) ?_)))))))))
              refine v_cv c_14_155 km_0_92 rfl rfl (Nat.le_of_ble_eq_true rfl) ⟨⟨rfl, rfl⟩, Nat.le_of_ble_eq_true rfl, rfl⟩ (Nat.le_of_ble_eq_true rfl) (Nat.le_of_ble_eq_true rfl) (s_11 hI_46 (q := 5) (nt := 1) (of_decide_eq_true rfl) (of_decide_eq_true rfl) (of_decide_eq_true rfl) (fun c_48 hI_49 hF_50 => (bk_inl (q_aload_n c_14_158 rfl (v_sip c_14_159 (of_decide_eq_true rfl) (q_iload c_14_162 rfl (v_iadd (v := y_23 + 2005) c_14_164 (by first | (clear ha2 h_6 h_7 h_8 h_14 h_13 h_19 h_25 h_33 h_34 h_35 h_5 h_24 h_26; omega) | omega) (v_bip c_14_165 (of_decide_eq_true rfl) (v_isub (v := y_23 + 1997) c_14_167 (by first | (clear ha2 h_6 h_7 h_8 h_14 h_13 h_19 h_25 h_33 h_34 h_35 h_5 h_24 h_26; omega) | omega) ?_)))))))))
              refine v_cv c_14_168 km_0_59 rfl (ck_p7 hA) (a68 hA rfl) ⟨⟨rfl, rfl⟩, of_decide_eq_true rfl, rfl⟩ (Nat.le_of_ble_eq_true rfl) (Nat.le_of_ble_eq_true rfl) (s_5 (a1 := y_23 + 1997) hI_49 hA (show 0 ≤ y_23 + 1997 ∧ y_23 + 1997 ≤ 3000 from ⟨(rgp_l hy_23.1 (of_decide_eq_true rfl)), (rgp_h hy_23.2 (of_decide_eq_true rfl))⟩) (Or.inr ((q_3b235b8a8 h_33))) (fun c_51 hI_52 hF_53 => (bk_inl (q_vret rfl rfl ?_))))
              exact K c_51 hI_52 (fun a j hm => (hF_53 a j (qv_651880e32 hm)).trans ((hF_50 a j (qv_59471db0f hm)).trans ((hF_47 a j hm).trans ((hF_44 a j (qv_59471db0f hm)).trans ((hF_41 a j hm).trans ((hF_38 a j (qv_59471db0f hm)).trans ((hF_22 a j (qv_59471db0f hm)).trans ((hF_17 a j (fun h => hm (Or.inl h))).trans ((hF_11 a j (fun h => hm (Or.inl h))).trans (hF_3 a j (fun h => hm (Or.inl h))))))))))))
          · refine v_ic_lt_f (t := 94) c_14_85 rfl ⟨of_decide_eq_true rfl, (Int.not_lt.mp h_34), (ler ha2.2 rfl)⟩ (q_aload_n c_14_88 rfl (q_iconst c_14_89 (q_iload_n c_14_90 rfl (v_cv c_14_91 km_0_86 rfl rfl (Nat.le_of_ble_eq_true rfl) ⟨⟨rfl, rfl⟩, Nat.le_of_ble_eq_true rfl, rfl⟩ (Nat.le_of_ble_eq_true rfl) (Nat.le_of_ble_eq_true rfl) (s_7 (a1 := 3) (a2 := y_12) hI_21 (show 1 ≤ 3 ∧ 3 ≤ 3 from ⟨of_decide_eq_true rfl, of_decide_eq_true rfl⟩) (show 0 ≤ y_12 ∧ y_12 ≤ 600 from hy_12) (fun c_54 hI_55 hF_56 h_57 => (bk_inl ?_)))))))
            have h_58 := ir_1_4 hI_55
            refine q_aload_n c_14_94 rfl (v_cv c_14_95 km_0_40 rfl rfl (Nat.le_of_ble_eq_true rfl) ⟨⟨rfl, rfl⟩, Nat.le_of_ble_eq_true rfl, rfl⟩ (Nat.le_of_ble_eq_true rfl) (Nat.le_of_ble_eq_true rfl) (q_aload_n c_2_0 rfl (v_gi (z := 4) (v := c_54 1 4) c_2_1 kf_5_38 rfl (Nat.le_of_ble_eq_true rfl) rfl rfl rfl (v_if_ne_t (t := 11) c_2_4 rfl ⟨(q_88eaa90e3 h_57 h_58), ⟨(lel h_58.1 rfl), (ler h_58.2 rfl)⟩, of_decide_eq_true rfl, of_decide_eq_true rfl⟩ (q_iconst c_2_11 (v_zret c_2_12 rfl (of_decide_eq_true rfl) (bk_inl ?_)))))))
            refine v_if_ne_f (t := 102) c_14_98 rfl (of_decide_eq_true rfl) (q_vret rfl rfl ?_)
            exact K c_54 hI_55 (fun a j hm => (hF_56 a j (qv_0a3016d09 hm)).trans ((hF_22 a j (qv_59471db0f hm)).trans ((hF_17 a j (fun h => hm (Or.inl h))).trans ((hF_11 a j (fun h => hm (Or.inl h))).trans (hF_3 a j (fun h => hm (Or.inl h)))))))
        · refine v_ic_ge_f (t := 82) c_14_68 rfl ⟨(lel hy_23.1 rfl), (Int.not_le.mp h_33), of_decide_eq_true rfl⟩ (q_aload_n c_14_71 rfl (v_sip c_14_72 (of_decide_eq_true rfl) (q_iload c_14_75 rfl (v_iadd (v := y_23 + 1000) c_14_77 (by first | (clear ha2 h_6 h_7 h_8 h_14 h_13 h_19 h_25 h_33 h_5 h_24 h_26; omega) | omega) (v_cv c_14_78 km_0_59 rfl (ck_p7 hA) (a68 hA rfl) ⟨⟨rfl, rfl⟩, of_decide_eq_true rfl, rfl⟩ (Nat.le_of_ble_eq_true rfl) (Nat.le_of_ble_eq_true rfl) (s_5 (a1 := y_23 + 1000) hI_21 hA (show 0 ≤ y_23 + 1000 ∧ y_23 + 1000 ≤ 3000 from ⟨(rgp_l hy_23.1 (of_decide_eq_true rfl)), (rgp_h hy_23.2 (of_decide_eq_true rfl))⟩) (Or.inl ((q_119c61ad1 h_33))) (fun c_59 hI_60 hF_61 => (bk_inl (q_vret rfl rfl ?_)))))))))
          exact K c_59 hI_60 (fun a j hm => (hF_61 a j (qv_651880e32 hm)).trans ((hF_22 a j (qv_59471db0f hm)).trans ((hF_17 a j (fun h => hm (Or.inl h))).trans ((hF_11 a j (fun h => hm (Or.inl h))).trans (hF_3 a j (fun h => hm (Or.inl h)))))))
    · refine v_ic_eq_f (t := 38) c_14_31 rfl ⟨h_19, ⟨(lel hy_18.1 rfl), (ler hy_18.2 rfl)⟩, of_decide_eq_true rfl, of_decide_eq_true rfl⟩ (q_iconst c_14_34 (q_goto (t := 39) c_14_35 rfl (q_istore c_14_39 (Nat.le_of_ble_eq_true rfl) (q_iload c_14_41 rfl (v_if_eq_f (t := 50) c_14_43 rfl (of_decide_eq_true rfl) (q_iconst c_14_46 (q_goto (t := 56) c_14_47 rfl ?_)))))))
      refine q_istore c_14_56 (Nat.le_of_ble_eq_true rfl) (q_iload c_14_58 rfl (q_iconst c_14_60 (v_ic_eq_t (t := 82) c_14_61 rfl (of_decide_eq_true rfl) (q_iload_n c_14_82 rfl (v_bip c_14_83 (of_decide_eq_true rfl) ?_)))))
      by_cases h_62 : a2 < 6
      · refine v_ic_lt_t (t := 94) c_14_85 rfl ⟨(lel ha2.1 rfl), h_62, of_decide_eq_true rfl⟩ (q_aload_n c_14_94 rfl (v_cv c_14_95 km_0_40 rfl rfl (Nat.le_of_ble_eq_true rfl) ⟨⟨rfl, rfl⟩, Nat.le_of_ble_eq_true rfl, rfl⟩ (Nat.le_of_ble_eq_true rfl) (Nat.le_of_ble_eq_true rfl) (q_aload_n c_2_0 rfl ?_)))
        have h_63 := ir_1_4 hI
        have kn_64 : Hid (c_1 1 4 = c 1 4) := hF_3 1 4 (fun h => absurd h.2 (ni rfl))
        have kn_65 : Hid (c_9 1 4 = c 1 4) := (hF_11 1 4 (fun h => absurd h.2 (ni rfl))).trans (hid kn_64)
        have kn_66 : Hid (c_15 1 4 = c 1 4) := (hF_17 1 4 (fun h => absurd h.2 (ni rfl))).trans (hid kn_65)
        refine v_gi (z := 4) (v := c 1 4) c_2_1 kf_5_38 rfl (Nat.le_of_ble_eq_true rfl) rfl rfl (hid kn_66) ?_
        by_cases h_67 : c 1 4 ≠ 0
        · refine v_if_ne_t (t := 11) c_2_4 rfl ⟨h_67, ⟨(q_107d648c6 h_63), (q_509aaa6b6 h_63)⟩, of_decide_eq_true rfl, of_decide_eq_true rfl⟩ (q_iconst c_2_11 (v_zret c_2_12 rfl (of_decide_eq_true rfl) (bk_inl (v_if_ne_f (t := 102) c_14_98 rfl (of_decide_eq_true rfl) (q_vret rfl rfl ?_)))))
          exact K c_15 hI_16 (fun a j hm => (hF_17 a j (fun h => hm (Or.inl h))).trans ((hF_11 a j (fun h => hm (Or.inl h))).trans (hF_3 a j (fun h => hm (Or.inl h)))))
        · refine v_if_ne_f (t := 11) c_2_4 rfl (Decidable.not_not.mp h_67) (q_iconst c_2_7 (q_goto (t := 12) c_2_8 rfl (v_zret c_2_12 rfl (of_decide_eq_true rfl) (bk_inl (v_if_ne_t (t := 102) c_14_98 rfl (of_decide_eq_true rfl) (q_iload c_14_102 rfl (v_if_eq_f (t := 124) c_14_104 rfl (of_decide_eq_true rfl) ?_)))))))
          refine q_aload_n c_14_107 rfl (q_aload_n c_14_108 rfl (q_iload_n c_14_109 rfl (q_iconst c_14_110 (v_iadd (v := a2 + 1) c_14_111 rfl (v_cv c_14_112 km_0_31 rfl (ck_p7 hA) (a68 hA rfl) ⟨⟨rfl, rfl⟩, of_decide_eq_true rfl, rfl⟩ (Nat.le_of_ble_eq_true rfl) (Nat.le_of_ble_eq_true rfl) (H13 _ _ (by omega) hI_16 (fun c_68 hI_69 hF_70 => (bk_inl (q_aload_n c_14_115 rfl ?_)))))))))
          refine q_ldc_s c_14_116 rfl rfl (of_decide_eq_true rfl) (v_cv c_14_118 km_0_92 rfl rfl (Nat.le_of_ble_eq_true rfl) ⟨⟨rfl, rfl⟩, Nat.le_of_ble_eq_true rfl, rfl⟩ (Nat.le_of_ble_eq_true rfl) (Nat.le_of_ble_eq_true rfl) (s_11 hI_69 (q := 2) (nt := 1) (of_decide_eq_true rfl) (of_decide_eq_true rfl) (of_decide_eq_true rfl) (fun c_71 hI_72 hF_73 => (bk_inl (q_goto (t := 171) c_14_121 rfl (q_vret rfl rfl ?_))))))
          exact K c_71 hI_72 (fun a j hm => (hF_73 a j (qv_59471db0f hm)).trans ((hF_70 a j hm).trans ((hF_17 a j (fun h => hm (Or.inl h))).trans ((hF_11 a j (fun h => hm (Or.inl h))).trans (hF_3 a j (fun h => hm (Or.inl h)))))))
      · refine v_ic_lt_f (t := 94) c_14_85 rfl ⟨of_decide_eq_true rfl, (Int.not_lt.mp h_62), (ler ha2.2 rfl)⟩ (q_aload_n c_14_88 rfl (q_iconst c_14_89 (q_iload_n c_14_90 rfl (v_cv c_14_91 km_0_86 rfl rfl (Nat.le_of_ble_eq_true rfl) ⟨⟨rfl, rfl⟩, Nat.le_of_ble_eq_true rfl, rfl⟩ (Nat.le_of_ble_eq_true rfl) (Nat.le_of_ble_eq_true rfl) (s_7 (a1 := 3) (a2 := y_12) hI_16 (show 1 ≤ 3 ∧ 3 ≤ 3 from ⟨of_decide_eq_true rfl, of_decide_eq_true rfl⟩) (show 0 ≤ y_12 ∧ y_12 ≤ 600 from hy_12) (fun c_74 hI_75 hF_76 h_77 => (bk_inl ?_)))))))
        have h_78 := ir_1_4 hI_75
        refine q_aload_n c_14_94 rfl (v_cv c_14_95 km_0_40 rfl rfl (Nat.le_of_ble_eq_true rfl) ⟨⟨rfl, rfl⟩, Nat.le_of_ble_eq_true rfl, rfl⟩ (Nat.le_of_ble_eq_true rfl) (Nat.le_of_ble_eq_true rfl) (q_aload_n c_2_0 rfl (v_gi (z := 4) (v := c_74 1 4) c_2_1 kf_5_38 rfl (Nat.le_of_ble_eq_true rfl) rfl rfl rfl (v_if_ne_t (t := 11) c_2_4 rfl ⟨(q_88eaa90e3 h_77 h_78), ⟨(lel h_78.1 rfl), (ler h_78.2 rfl)⟩, of_decide_eq_true rfl, of_decide_eq_true rfl⟩ (q_iconst c_2_11 (v_zret c_2_12 rfl (of_decide_eq_true rfl) (bk_inl ?_)))))))
        refine v_if_ne_f (t := 102) c_14_98 rfl (of_decide_eq_true rfl) (q_vret rfl rfl ?_)
        exact K c_74 hI_75 (fun a j hm => (hF_76 a j (qv_0a3016d09 hm)).trans ((hF_17 a j (fun h => hm (Or.inl h))).trans ((hF_11 a j (fun h => hm (Or.inl h))).trans (hF_3 a j (fun h => hm (Or.inl h))))))
  · refine v_if_eq_f (t := 19) c_14_4 rfl ⟨h_8, ⟨(lel hy_4.1 rfl), (ler hy_4.2 rfl)⟩, of_decide_eq_true rfl, of_decide_eq_true rfl⟩ (q_aload_n c_14_7 rfl (q_aload_n c_14_8 rfl (v_sip c_14_9 (of_decide_eq_true rfl) (v_cv c_14_12 km_0_71 rfl rfl (Nat.le_of_ble_eq_true rfl) ⟨⟨rfl, rfl⟩, Nat.le_of_ble_eq_true rfl, rfl⟩ (Nat.le_of_ble_eq_true rfl) (Nat.le_of_ble_eq_true rfl) (s_8 (a1 := 999) hI_2 (show (-1) ≤ 999 ∧ 999 ≤ 9999 from ⟨of_decide_eq_true rfl, of_decide_eq_true rfl⟩) (fun c_79 y_82 hI_80 hF_81 hy_82 h_83 => (bk_inl (v_cv c_14_15 km_0_59 rfl (ck_p7 hA) (a68 hA rfl) ⟨⟨rfl, rfl⟩, of_decide_eq_true rfl, rfl⟩ (Nat.le_of_ble_eq_true rfl) (Nat.le_of_ble_eq_true rfl) (s_5 (a1 := y_82) hI_80 hA (show 0 ≤ y_82 ∧ y_82 ≤ 3000 from ⟨hy_82.1, (q_14934a8f4 h_83)⟩) (Or.inl ((q_40dfbb035 h_83))) (fun c_84 hI_85 hF_86 => (bk_inl ?_)))))))))))
    refine q_vret rfl rfl ?_
    exact K c_84 hI_85 (fun a j hm => (hF_86 a j (qv_651880e32 hm)).trans ((hF_81 a j (qv_59471db0f hm)).trans (hF_3 a j (fun h => hm (Or.inl h)))))

set_option maxRecDepth 100000 in
set_option maxHeartbeats 4000000 in
theorem s_12_l {sc : List Int32} {e : Int} {d u P Q A : Nat} {c : ME} {a2 : Int} {Z : AR → Prop} (hI : Iv u e P Q c) (hA : A = 13 ∨ A = 25) (ha2 : 0 ≤ a2 ∧ a2 ≤ 6) (H13 : ∀ (c : ME) (Z : AR → Prop), a2 + 1 ≤ 6 → Iv u e P Q c → (∀ c2 : ME, Iv u e P Q c2 → (∀ (a : Nat) (j : Int), ¬ ((a = 1 ∧ j = 2) ∨ (a = 1 ∧ j = 4) ∨ (a = 1 ∧ j = 5) ∨ (a = (A + 7) ∧ j = 5) ∨ a = (A + 9)) → c2 a j = c a j) → Z (.inl none, Wd P Q P P c2, 0, 0)) → Wp sc (d + 11) 13 0 [(0, .ref (A + 7)), (1, .ref 1), (2, vi (a2 + 1))] [] (Wd P Q P P c) 0 0 Z) (K : ∀ (c2 : ME), Iv u e P Q c2 → (∀ (a : Nat) (j : Int), ¬ ((a = 1 ∧ j = 2) ∨ (a = 1 ∧ j = 4) ∨ (a = 1 ∧ j = 5) ∨ (a = (A + 7) ∧ j = 5) ∨ a = (A + 9)) → c2 a j = c a j) → Z (.inl (none), Wd P Q P P c2, 0, 0)) : ∀ n : Nat, (∀ (c2 : ME) (v3 : Int), Iv u e P Q c2 → (∀ (a : Nat) (j : Int), ¬ ((a = 1 ∧ j = 2) ∨ (a = 1 ∧ j = 4) ∨ (a = 1 ∧ j = 5) ∨ (a = (A + 7) ∧ j = 5) ∨ a = (A + 9)) → c2 a j = c a j) → 0 ≤ v3 ∧ v3 ≤ 150 → 301 - 2 * v3 < (n : Int) → Wp sc (d + 13) 12 8 [(0, .ref (A + 7)), (1, .ref 1), (2, vi a2), (3, vi v3)] [] (Wd P Q P P c2) 0 0 Z) := by
  intro n
  induction n with
  | zero => exact (by intro c2 v3 hI2 hF hv3 hm9; have hP := iv_P hI; have hQ := iv_Q hI; exfalso; omega)
  | succ n ih =>
    have hP := iv_P hI
    have hQ := iv_Q hI
    intro c2 v3 hI2 hF hv3 hm9
    refine q_iload_n c_12_8 rfl (v_sip c_12_9 (of_decide_eq_true rfl) ?_)
    by_cases h_1 : v3 ≥ 150
    · refine v_ic_ge_t (t := 59) c_12_12 rfl ⟨of_decide_eq_true rfl, h_1, (ler hv3.2 rfl)⟩ (q_vret rfl rfl ?_)
      exact K c2 hI2 (fun a j hm => hF a j hm)
    · refine v_ic_ge_f (t := 59) c_12_12 rfl ⟨(lel hv3.1 rfl), (Int.not_le.mp h_1), of_decide_eq_true rfl⟩ (q_aload_n c_12_15 rfl (v_cv c_12_16 km_0_40 rfl rfl (Nat.le_of_ble_eq_true rfl) ⟨⟨rfl, rfl⟩, Nat.le_of_ble_eq_true rfl, rfl⟩ (Nat.le_of_ble_eq_true rfl) (Nat.le_of_ble_eq_true rfl) (q_aload_n c_2_0 rfl ?_)))
      have h_2 := ir_1_4 hI2
      refine v_gi (z := 4) (v := c2 1 4) c_2_1 kf_5_38 rfl (Nat.le_of_ble_eq_true rfl) rfl rfl rfl ?_
      by_cases h_3 : c2 1 4 ≠ 0
      · refine v_if_ne_t (t := 11) c_2_4 rfl ⟨h_3, ⟨(lel h_2.1 rfl), (ler h_2.2 rfl)⟩, of_decide_eq_true rfl, of_decide_eq_true rfl⟩ (q_iconst c_2_11 (v_zret c_2_12 rfl (of_decide_eq_true rfl) (bk_inl (v_if_eq_t (t := 59) c_12_19 rfl (of_decide_eq_true rfl) (q_vret rfl rfl ?_)))))
        exact K c2 hI2 (fun a j hm => hF a j hm)
      · refine v_if_ne_f (t := 11) c_2_4 rfl (Decidable.not_not.mp h_3) (q_iconst c_2_7 (q_goto (t := 12) c_2_8 rfl (v_zret c_2_12 rfl (of_decide_eq_true rfl) (bk_inl (v_if_eq_f (t := 59) c_12_19 rfl (of_decide_eq_true rfl) (q_aload_n c_12_22 rfl (q_ldc_s c_12_23 rfl rfl (of_decide_eq_true rfl) ?_)))))))
        refine v_cv c_12_25 km_0_55 rfl rfl (Nat.le_of_ble_eq_true rfl) ⟨⟨rfl, rfl⟩, Nat.le_of_ble_eq_true rfl, rfl⟩ (Nat.le_of_ble_eq_true rfl) (Nat.le_of_ble_eq_true rfl) (s_4 hI2 (q := 6) (nt := 3) (of_decide_eq_true rfl) (of_decide_eq_true rfl) (of_decide_eq_true rfl) (fun c_4 y_7 hI_5 hF_6 hy_7 => (bk_inl (q_istore c_12_28 (Nat.le_of_ble_eq_true rfl) (q_iload c_12_30 rfl (q_iconst c_12_32 ?_))))))
        by_cases h_8 : y_7 ≠ (-1)
        · refine v_ic_ne_t (t := 37) c_12_33 rfl ⟨h_8, ⟨(lel hy_7.1 rfl), (ler hy_7.2 rfl)⟩, of_decide_eq_true rfl, of_decide_eq_true rfl⟩ (q_aload_n c_12_37 rfl (q_aload_n c_12_38 rfl (q_iload_n c_12_39 rfl (v_cv c_12_40 km_0_63 rfl (ck_p7 hA) (a68 hA rfl) ⟨⟨rfl, rfl⟩, of_decide_eq_true rfl, rfl⟩ (Nat.le_of_ble_eq_true rfl) (Nat.le_of_ble_eq_true rfl) (s_14 (a2 := a2) hI_5 hA (show 0 ≤ a2 ∧ a2 ≤ 6 from ha2) H13 (fun c_9 hI_10 hF_11 => (bk_inl (q_aload_n c_12_43 rfl (v_sip c_12_44 (of_decide_eq_true rfl) ?_)))))))))
          refine q_iload c_12_47 rfl (v_iadd (v := y_7 + 2002) c_12_49 (by first | (clear ha2 hv3 h_1 h_2 h_3 h_8; omega) | omega) (v_cv c_12_50 km_0_59 rfl (ck_p7 hA) (a68 hA rfl) ⟨⟨rfl, rfl⟩, of_decide_eq_true rfl, rfl⟩ (Nat.le_of_ble_eq_true rfl) (Nat.le_of_ble_eq_true rfl) (s_5 (a1 := y_7 + 2002) hI_10 hA (show 0 ≤ y_7 + 2002 ∧ y_7 + 2002 ≤ 3000 from ⟨(rgp_l hy_7.1 (of_decide_eq_true rfl)), (rgp_h hy_7.2 (of_decide_eq_true rfl))⟩) (Or.inr (by first | (clear ha2 hv3 h_1 h_2 h_3 h_8; omega) | omega)) (fun c_12 hI_13 hF_14 => (bk_inl (v_iinc (v := v3 + 1) c_12_53 rfl (Nat.le_of_ble_eq_true rfl) rfl (q_goto (t := 8) c_12_56 rfl (Wp_ls [(0, .ref (A + 7)), (1, .ref 1), (2, vi a2), (3, vi (v3 + 1))] (lsub_cons rfl (lsub_cons rfl (lsub_cons rfl (lsub_cons rfl lsub_nil)))) ?_))))))))
          exact ih c_12 (v3 + 1) hI_13 (fun a j hm => (hF_14 a j (qv_651880e32 hm)).trans ((hF_11 a j hm).trans ((hF_6 a j (fun h => hm (Or.inl h))).trans (hF a j hm)))) ⟨(rgp_l hv3.1 (of_decide_eq_true rfl)), (q_e92c430a0 h_1)⟩ (by omega)
        · refine v_ic_ne_f (t := 37) c_12_33 rfl (Decidable.not_not.mp h_8) (q_vret rfl rfl ?_)
          exact K c_4 hI_5 (fun a j hm => (hF_6 a j (fun h => hm (Or.inl h))).trans (hF a j hm))
set_option maxRecDepth 100000 in
set_option maxHeartbeats 4000000 in
theorem s_12 {sc : List Int32} {e : Int} {d u P Q A : Nat} {c : ME} {a2 : Int} {Z : AR → Prop} (hI : Iv u e P Q c) (hA : A = 13 ∨ A = 25) (ha2 : 0 ≤ a2 ∧ a2 ≤ 6) (H13 : ∀ (c : ME) (Z : AR → Prop), a2 + 1 ≤ 6 → Iv u e P Q c → (∀ c2 : ME, Iv u e P Q c2 → (∀ (a : Nat) (j : Int), ¬ ((a = 1 ∧ j = 2) ∨ (a = 1 ∧ j = 4) ∨ (a = 1 ∧ j = 5) ∨ (a = (A + 7) ∧ j = 5) ∨ a = (A + 9)) → c2 a j = c a j) → Z (.inl none, Wd P Q P P c2, 0, 0)) → Wp sc (d + 11) 13 0 [(0, .ref (A + 7)), (1, .ref 1), (2, vi (a2 + 1))] [] (Wd P Q P P c) 0 0 Z) (K : ∀ (c2 : ME), Iv u e P Q c2 → (∀ (a : Nat) (j : Int), ¬ ((a = 1 ∧ j = 2) ∨ (a = 1 ∧ j = 4) ∨ (a = 1 ∧ j = 5) ∨ (a = (A + 7) ∧ j = 5) ∨ a = (A + 9)) → c2 a j = c a j) → Z (.inl (none), Wd P Q P P c2, 0, 0)) : Wp sc (d + 13) 12 0 [(0, .ref (A + 7)), (1, .ref 1), (2, vi a2)] [] (Wd P Q P P c) 0 0 Z := by
  have hP := iv_P hI
  have hQ := iv_Q hI
  refine q_aload_n c_12_0 rfl (q_aload_n c_12_1 rfl (q_iload_n c_12_2 rfl (v_cv c_12_3 km_0_63 rfl (ck_p7 hA) (a68 hA rfl) ⟨⟨rfl, rfl⟩, of_decide_eq_true rfl, rfl⟩ (Nat.le_of_ble_eq_true rfl) (Nat.le_of_ble_eq_true rfl) (s_14 (a2 := a2) hI hA (show 0 ≤ a2 ∧ a2 ≤ 6 from ha2) H13 (fun c_15 hI_16 hF_17 => (bk_inl (q_iconst c_12_6 (q_istore_n c_12_7 (Nat.le_of_ble_eq_true rfl) (Wp_ls [(0, .ref (A + 7)), (1, .ref 1), (2, vi a2), (3, vi 0)] (lsub_cons rfl (lsub_cons rfl (lsub_cons rfl (lsub_cons rfl lsub_nil)))) ?_)))))))))
  exact (s_12_l (sc := sc) (d := d) hI hA ha2 H13 K 304) c_15 0 hI_16 (fun a j hm => hF_17 a j hm) ⟨of_decide_eq_true rfl, of_decide_eq_true rfl⟩ (by omega)

set_option maxRecDepth 100000 in
set_option maxHeartbeats 4000000 in
theorem s_13_l {sc : List Int32} {e : Int} {d u P Q A : Nat} {c : ME} {a2 : Int} {Z : AR → Prop} (hI : Iv u e P Q c) (hA : A = 13 ∨ A = 25) (ha2 : 0 ≤ a2 ∧ a2 ≤ 6) (H13 : ∀ (c : ME) (Z : AR → Prop), a2 + 1 ≤ 6 → Iv u e P Q c → (∀ c2 : ME, Iv u e P Q c2 → (∀ (a : Nat) (j : Int), ¬ ((a = 1 ∧ j = 2) ∨ (a = 1 ∧ j = 4) ∨ (a = 1 ∧ j = 5) ∨ (a = (A + 7) ∧ j = 5) ∨ a = (A + 9)) → c2 a j = c a j) → Z (.inl none, Wd P Q P P c2, 0, 0)) → Wp sc (d + 11) 13 0 [(0, .ref (A + 7)), (1, .ref 1), (2, vi (a2 + 1))] [] (Wd P Q P P c) 0 0 Z) (K : ∀ (c2 : ME), Iv u e P Q c2 → (∀ (a : Nat) (j : Int), ¬ ((a = 1 ∧ j = 2) ∨ (a = 1 ∧ j = 4) ∨ (a = 1 ∧ j = 5) ∨ (a = (A + 7) ∧ j = 5) ∨ a = (A + 9)) → c2 a j = c a j) → Z (.inl (none), Wd P Q P P c2, 0, 0)) : ∀ n : Nat, (∀ (c2 : ME) (v3 : Int), Iv u e P Q c2 → (∀ (a : Nat) (j : Int), ¬ ((a = 1 ∧ j = 2) ∨ (a = 1 ∧ j = 4) ∨ (a = 1 ∧ j = 5) ∨ (a = (A + 7) ∧ j = 5) ∨ a = (A + 9)) → c2 a j = c a j) → 0 ≤ v3 ∧ v3 ≤ 150 → 301 - 2 * v3 < (n : Int) → Wp sc (d + 14) 13 8 [(0, .ref (A + 7)), (1, .ref 1), (2, vi a2), (3, vi v3)] [] (Wd P Q P P c2) 0 0 Z) := by
  intro n
  induction n with
  | zero => exact (by intro c2 v3 hI2 hF hv3 hm9; have hP := iv_P hI; have hQ := iv_Q hI; exfalso; omega)
  | succ n ih =>
    have hP := iv_P hI
    have hQ := iv_Q hI
    intro c2 v3 hI2 hF hv3 hm9
    refine q_iload_n c_13_8 rfl (v_sip c_13_9 (of_decide_eq_true rfl) ?_)
    by_cases h_1 : v3 ≥ 150
    · refine v_ic_ge_t (t := 59) c_13_12 rfl ⟨of_decide_eq_true rfl, h_1, (ler hv3.2 rfl)⟩ (q_vret rfl rfl ?_)
      exact K c2 hI2 (fun a j hm => hF a j hm)
    · refine v_ic_ge_f (t := 59) c_13_12 rfl ⟨(lel hv3.1 rfl), (Int.not_le.mp h_1), of_decide_eq_true rfl⟩ (q_aload_n c_13_15 rfl (v_cv c_13_16 km_0_40 rfl rfl (Nat.le_of_ble_eq_true rfl) ⟨⟨rfl, rfl⟩, Nat.le_of_ble_eq_true rfl, rfl⟩ (Nat.le_of_ble_eq_true rfl) (Nat.le_of_ble_eq_true rfl) (q_aload_n c_2_0 rfl ?_)))
      have h_2 := ir_1_4 hI2
      refine v_gi (z := 4) (v := c2 1 4) c_2_1 kf_5_38 rfl (Nat.le_of_ble_eq_true rfl) rfl rfl rfl ?_
      by_cases h_3 : c2 1 4 ≠ 0
      · refine v_if_ne_t (t := 11) c_2_4 rfl ⟨h_3, ⟨(lel h_2.1 rfl), (ler h_2.2 rfl)⟩, of_decide_eq_true rfl, of_decide_eq_true rfl⟩ (q_iconst c_2_11 (v_zret c_2_12 rfl (of_decide_eq_true rfl) (bk_inl (v_if_eq_t (t := 59) c_13_19 rfl (of_decide_eq_true rfl) (q_vret rfl rfl ?_)))))
        exact K c2 hI2 (fun a j hm => hF a j hm)
      · refine v_if_ne_f (t := 11) c_2_4 rfl (Decidable.not_not.mp h_3) (q_iconst c_2_7 (q_goto (t := 12) c_2_8 rfl (v_zret c_2_12 rfl (of_decide_eq_true rfl) (bk_inl (v_if_eq_f (t := 59) c_13_19 rfl (of_decide_eq_true rfl) (q_aload_n c_13_22 rfl (q_ldc_s c_13_23 rfl rfl (of_decide_eq_true rfl) ?_)))))))
        refine v_cv c_13_25 km_0_55 rfl rfl (Nat.le_of_ble_eq_true rfl) ⟨⟨rfl, rfl⟩, Nat.le_of_ble_eq_true rfl, rfl⟩ (Nat.le_of_ble_eq_true rfl) (Nat.le_of_ble_eq_true rfl) (s_4 hI2 (q := 7) (nt := 2) (of_decide_eq_true rfl) (of_decide_eq_true rfl) (of_decide_eq_true rfl) (fun c_4 y_7 hI_5 hF_6 hy_7 => (bk_inl (q_istore c_13_28 (Nat.le_of_ble_eq_true rfl) (q_iload c_13_30 rfl (q_iconst c_13_32 ?_))))))
        by_cases h_8 : y_7 ≠ (-1)
        · refine v_ic_ne_t (t := 37) c_13_33 rfl ⟨h_8, ⟨(lel hy_7.1 rfl), (ler hy_7.2 rfl)⟩, of_decide_eq_true rfl, of_decide_eq_true rfl⟩ (q_aload_n c_13_37 rfl (q_aload_n c_13_38 rfl (q_iload_n c_13_39 rfl (v_cv c_13_40 km_0_50 rfl (ck_p7 hA) (a68 hA rfl) ⟨⟨rfl, rfl⟩, of_decide_eq_true rfl, rfl⟩ (Nat.le_of_ble_eq_true rfl) (Nat.le_of_ble_eq_true rfl) (s_12 (a2 := a2) hI_5 hA (show 0 ≤ a2 ∧ a2 ≤ 6 from ha2) H13 (fun c_9 hI_10 hF_11 => (bk_inl (q_aload_n c_13_43 rfl (v_sip c_13_44 (of_decide_eq_true rfl) ?_)))))))))
          refine q_iload c_13_47 rfl (v_iadd (v := y_7 + 2000) c_13_49 (by first | (clear ha2 hv3 h_1 h_2 h_3 h_8; omega) | omega) (v_cv c_13_50 km_0_59 rfl (ck_p7 hA) (a68 hA rfl) ⟨⟨rfl, rfl⟩, of_decide_eq_true rfl, rfl⟩ (Nat.le_of_ble_eq_true rfl) (Nat.le_of_ble_eq_true rfl) (s_5 (a1 := y_7 + 2000) hI_10 hA (show 0 ≤ y_7 + 2000 ∧ y_7 + 2000 ≤ 3000 from ⟨(rgp_l hy_7.1 (of_decide_eq_true rfl)), (rgp_h hy_7.2 (of_decide_eq_true rfl))⟩) (Or.inr (by omega)) (fun c_12 hI_13 hF_14 => (bk_inl (v_iinc (v := v3 + 1) c_13_53 rfl (Nat.le_of_ble_eq_true rfl) rfl (q_goto (t := 8) c_13_56 rfl (Wp_ls [(0, .ref (A + 7)), (1, .ref 1), (2, vi a2), (3, vi (v3 + 1))] (lsub_cons rfl (lsub_cons rfl (lsub_cons rfl (lsub_cons rfl lsub_nil)))) ?_))))))))
          exact ih c_12 (v3 + 1) hI_13 (fun a j hm => (hF_14 a j (qv_651880e32 hm)).trans ((hF_11 a j hm).trans ((hF_6 a j (fun h => hm (Or.inl h))).trans (hF a j hm)))) ⟨(rgp_l hv3.1 (of_decide_eq_true rfl)), (q_e92c430a0 h_1)⟩ (by omega)
        · refine v_ic_ne_f (t := 37) c_13_33 rfl (Decidable.not_not.mp h_8) (q_vret rfl rfl ?_)
          exact K c_4 hI_5 (fun a j hm => (hF_6 a j (fun h => hm (Or.inl h))).trans (hF a j hm))
set_option maxRecDepth 100000 in
set_option maxHeartbeats 4000000 in
theorem s_13 {sc : List Int32} {e : Int} {d u P Q A : Nat} {c : ME} {a2 : Int} {Z : AR → Prop} (hI : Iv u e P Q c) (hA : A = 13 ∨ A = 25) (ha2 : 0 ≤ a2 ∧ a2 ≤ 6) (H13 : ∀ (c : ME) (Z : AR → Prop), a2 + 1 ≤ 6 → Iv u e P Q c → (∀ c2 : ME, Iv u e P Q c2 → (∀ (a : Nat) (j : Int), ¬ ((a = 1 ∧ j = 2) ∨ (a = 1 ∧ j = 4) ∨ (a = 1 ∧ j = 5) ∨ (a = (A + 7) ∧ j = 5) ∨ a = (A + 9)) → c2 a j = c a j) → Z (.inl none, Wd P Q P P c2, 0, 0)) → Wp sc (d + 11) 13 0 [(0, .ref (A + 7)), (1, .ref 1), (2, vi (a2 + 1))] [] (Wd P Q P P c) 0 0 Z) (K : ∀ (c2 : ME), Iv u e P Q c2 → (∀ (a : Nat) (j : Int), ¬ ((a = 1 ∧ j = 2) ∨ (a = 1 ∧ j = 4) ∨ (a = 1 ∧ j = 5) ∨ (a = (A + 7) ∧ j = 5) ∨ a = (A + 9)) → c2 a j = c a j) → Z (.inl (none), Wd P Q P P c2, 0, 0)) : Wp sc (d + 14) 13 0 [(0, .ref (A + 7)), (1, .ref 1), (2, vi a2)] [] (Wd P Q P P c) 0 0 Z := by
  have hP := iv_P hI
  have hQ := iv_Q hI
  refine q_aload_n c_13_0 rfl (q_aload_n c_13_1 rfl (q_iload_n c_13_2 rfl (v_cv c_13_3 km_0_50 rfl (ck_p7 hA) (a68 hA rfl) ⟨⟨rfl, rfl⟩, of_decide_eq_true rfl, rfl⟩ (Nat.le_of_ble_eq_true rfl) (Nat.le_of_ble_eq_true rfl) (s_12 (a2 := a2) hI hA (show 0 ≤ a2 ∧ a2 ≤ 6 from ha2) H13 (fun c_15 hI_16 hF_17 => (bk_inl (q_iconst c_13_6 (q_istore_n c_13_7 (Nat.le_of_ble_eq_true rfl) (Wp_ls [(0, .ref (A + 7)), (1, .ref 1), (2, vi a2), (3, vi 0)] (lsub_cons rfl (lsub_cons rfl (lsub_cons rfl (lsub_cons rfl lsub_nil)))) ?_)))))))))
  exact (s_13_l (sc := sc) (d := d) hI hA ha2 H13 K 304) c_15 0 hI_16 (fun a j hm => hF_17 a j hm) ⟨of_decide_eq_true rfl, of_decide_eq_true rfl⟩ (by omega)
set_option maxRecDepth 100000 in
set_option maxHeartbeats 4000000 in
theorem r_13_n {sc : List Int32} {e : Int} {d u P Q A : Nat} (hA : A = 13 ∨ A = 25) : ∀ (m : Nat) (c : ME) (a2 : Int) (Z : AR → Prop), a2 + (m : Int) = 6 → 0 ≤ a2 → Iv u e P Q c → (∀ c2 : ME, Iv u e P Q c2 → (∀ (a : Nat) (j : Int), ¬ ((a = 1 ∧ j = 2) ∨ (a = 1 ∧ j = 4) ∨ (a = 1 ∧ j = 5) ∨ (a = (A + 7) ∧ j = 5) ∨ a = (A + 9)) → c2 a j = c a j) → Z (.inl none, Wd P Q P P c2, 0, 0)) → Wp sc (d + 3 * m + 14) 13 0 [(0, .ref (A + 7)), (1, .ref 1), (2, vi a2)] [] (Wd P Q P P c) 0 0 Z
  | 0, c, a2, Z, hm, h0, hI, K => s_13 (d := d) (a2 := a2) hI hA (show 0 ≤ a2 ∧ a2 ≤ 6 from ⟨by omega, by omega⟩) (fun c9 Z9 hc => absurd hc (by omega)) K
  | m + 1, c, a2, Z, hm, h0, hI, K => by
    have ih := r_13_n (sc := sc) (e := e) (d := d) (u := u) (P := P) (Q := Q) hA m
    rw [show d + 3 * (m + 1) + 14 = (d + 3 * m + 3) + 14 by omega]
    refine s_13 (d := d + 3 * m + 3) (a2 := a2) hI hA (show 0 ≤ a2 ∧ a2 ≤ 6 from ⟨by omega, by omega⟩) (fun c9 Z9 hc hI9 K9 => ?_) K
    have r := ih c9 (a2 + 1) Z9 (by omega) (by omega) hI9 K9
    rw [show d + 3 * m + 14 = (d + 3 * m + 3) + 11 by omega] at r
    exact r
set_option maxRecDepth 100000 in
set_option maxHeartbeats 4000000 in
theorem r_13 {sc : List Int32} {e : Int} {d u P Q A : Nat} {c : ME} {a2 : Int} {Z : AR → Prop} (hI : Iv u e P Q c) (hA : A = 13 ∨ A = 25) (ha2 : 0 ≤ a2 ∧ a2 ≤ 6) (K : (∀ c2 : ME, Iv u e P Q c2 → (∀ (a : Nat) (j : Int), ¬ ((a = 1 ∧ j = 2) ∨ (a = 1 ∧ j = 4) ∨ (a = 1 ∧ j = 5) ∨ (a = (A + 7) ∧ j = 5) ∨ a = (A + 9)) → c2 a j = c a j) → Z (.inl none, Wd P Q P P c2, 0, 0))) : Wp sc (d + 32) 13 0 [(0, .ref (A + 7)), (1, .ref 1), (2, vi a2)] [] (Wd P Q P P c) 0 0 Z := by
  obtain ⟨m, hm⟩ : ∃ m : Nat, (m : Int) = 6 - a2 := ⟨(6 - a2).toNat, by omega⟩
  rw [show d + 32 = (d + 18 - 3 * m) + 3 * m + 14 by omega]
  exact r_13_n hA m c a2 Z (by omega) (by omega) hI K

set_option maxRecDepth 100000 in
set_option maxHeartbeats 4000000 in
theorem s_15 {sc : List Int32} {e : Int} {d u P Q : Nat} {c : ME} {Z : AR → Prop} (hI : Iv u e P Q c)  (K : ∀ (c2 : ME) (y : Int), Iv u e P Q c2 → (∀ (a : Nat) (j : Int), ¬ ((a = 1 ∧ j = 2)) → c2 a j = c a j) → 0 ≤ y ∧ y ≤ 1 → Z (.inl (some (vi y)), Wd P Q P P c2, 0, 0)) : Wp sc (d + 8) 15 0 [(0, .ref 1)] [] (Wd P Q P P c) 0 0 Z := by
  have hP := iv_P hI
  have hQ := iv_Q hI
  refine q_aload_n c_15_0 rfl (v_cv c_15_1 km_5_45 rfl rfl (Nat.le_of_ble_eq_true rfl) ⟨⟨rfl, rfl⟩, Nat.le_of_ble_eq_true rfl, rfl⟩ (Nat.le_of_ble_eq_true rfl) (Nat.le_of_ble_eq_true rfl) (q_aload_n c_2_0 rfl ?_))
  have h_1 := ir_1_4 hI
  refine v_gi (z := 4) (v := c 1 4) c_2_1 kf_5_38 rfl (Nat.le_of_ble_eq_true rfl) rfl rfl rfl ?_
  by_cases h_2 : c 1 4 ≠ 0
  · refine v_if_ne_t (t := 11) c_2_4 rfl ⟨h_2, ⟨(lel h_1.1 rfl), (ler h_1.2 rfl)⟩, of_decide_eq_true rfl, of_decide_eq_true rfl⟩ (q_iconst c_2_11 (v_zret c_2_12 rfl (of_decide_eq_true rfl) (bk_inl (v_if_eq_t (t := 22) c_15_4 rfl (of_decide_eq_true rfl) (q_iconst c_15_22 (v_zret c_15_23 rfl (of_decide_eq_true rfl) ?_))))))
    exact K c 0 hI (fun a j hm => rfl) ⟨of_decide_eq_true rfl, of_decide_eq_true rfl⟩
  · refine v_if_ne_f (t := 11) c_2_4 rfl (Decidable.not_not.mp h_2) (q_iconst c_2_7 (q_goto (t := 12) c_2_8 rfl (v_zret c_2_12 rfl (of_decide_eq_true rfl) (bk_inl (v_if_eq_f (t := 22) c_15_4 rfl (of_decide_eq_true rfl) (q_aload_n c_15_7 rfl (v_cv c_15_8 km_5_41 rfl rfl (Nat.le_of_ble_eq_true rfl) ⟨⟨rfl, rfl⟩, Nat.le_of_ble_eq_true rfl, rfl⟩ (Nat.le_of_ble_eq_true rfl) (Nat.le_of_ble_eq_true rfl) (s_3 hI (fun c_3 y_6 hI_4 hF_5 hy_6 h_7 => ?_)))))))))
    refine bk_inl ?_
    have h_8 := ir_1_2 hI_4
    refine q_aload_n c_15_11 rfl ?_
    have h_9 := ir_1_1 hI
    have kn_10 : Hid (c_3 1 1 = c 1 1) := hF_5 1 1 (fun h => absurd h.2 (ni rfl))
    refine v_gi (z := 1) (v := c 1 1) c_15_12 kf_5_32 rfl (Nat.le_of_ble_eq_true rfl) rfl rfl (hid kn_10) ?_
    by_cases h_11 : y_6 ≥ c 1 1
    · refine v_ic_ge_t (t := 22) c_15_15 rfl ⟨(q_3b2b08511 h_9), h_11, (ler hy_6.2 rfl)⟩ (q_iconst c_15_22 (v_zret c_15_23 rfl (of_decide_eq_true rfl) ?_))
      exact K c_3 0 hI_4 (fun a j hm => hF_5 a j hm) ⟨of_decide_eq_true rfl, of_decide_eq_true rfl⟩
    · refine v_ic_ge_f (t := 22) c_15_15 rfl ⟨(lel hy_6.1 rfl), (Int.not_le.mp h_11), (q_3885e607f h_9)⟩ (q_iconst c_15_18 (q_goto (t := 23) c_15_19 rfl (v_zret c_15_23 rfl (of_decide_eq_true rfl) ?_)))
      exact K c_3 1 hI_4 (fun a j hm => hF_5 a j hm) ⟨of_decide_eq_true rfl, of_decide_eq_true rfl⟩

set_option maxRecDepth 100000 in
set_option maxHeartbeats 4000000 in
theorem s_16 {sc : List Int32} {e : Int} {d u P Q : Nat} {c : ME} {Z : AR → Prop} (hI : Iv u e P Q c)  (K : ∀ (c2 : ME), Iv u e P Q c2 → (∀ (a : Nat) (j : Int), ¬ ((a = 1 ∧ j = 2) ∨ (a = 1 ∧ j = 4) ∨ (a = 1 ∧ j = 5)) → c2 a j = c a j) → Z (.inl (none), Wd P Q P P c2, 0, 0)) : Wp sc (d + 9) 16 0 [(0, .ref 1)] [] (Wd P Q P P c) 0 0 Z := by
  have hP := iv_P hI
  have hQ := iv_Q hI
  refine q_aload_n c_16_0 rfl (v_cv c_16_1 km_5_49 rfl rfl (Nat.le_of_ble_eq_true rfl) ⟨⟨rfl, rfl⟩, Nat.le_of_ble_eq_true rfl, rfl⟩ (Nat.le_of_ble_eq_true rfl) (Nat.le_of_ble_eq_true rfl) (s_15 hI (fun c_1 y_4 hI_2 hF_3 hy_4 => (bk_inl ?_))))
  by_cases h_5 : y_4 = 0
  · refine v_if_eq_t (t := 16) c_16_4 rfl h_5 (q_vret rfl rfl ?_)
    exact K c_1 hI_2 (fun a j hm => hF_3 a j (fun h => hm (Or.inl h)))
  · refine v_if_eq_f (t := 16) c_16_4 rfl ⟨h_5, ⟨(lel hy_4.1 rfl), (ler hy_4.2 rfl)⟩, of_decide_eq_true rfl, of_decide_eq_true rfl⟩ (q_aload_n c_16_7 rfl (q_iconst c_16_8 (q_aload_n c_16_9 rfl ?_)))
    have h_6 := ir_1_2 hI_2
    refine v_gi (z := 2) (v := c_1 1 2) c_16_10 kf_5_35 rfl (Nat.le_of_ble_eq_true rfl) rfl rfl rfl (v_cv c_16_13 km_5_52 rfl rfl (Nat.le_of_ble_eq_true rfl) ⟨⟨rfl, rfl⟩, Nat.le_of_ble_eq_true rfl, rfl⟩ (Nat.le_of_ble_eq_true rfl) (Nat.le_of_ble_eq_true rfl) (s_7 (a1 := 1) (a2 := c_1 1 2) hI_2 (show 1 ≤ 1 ∧ 1 ≤ 3 from ⟨of_decide_eq_true rfl, of_decide_eq_true rfl⟩) (show 0 ≤ c_1 1 2 ∧ c_1 1 2 ≤ 600 from h_6) (fun c_7 hI_8 hF_9 h_10 => (bk_inl ?_))))
    have h_11 := ir_1_4 hI_8
    refine q_vret rfl rfl ?_
    exact K c_7 hI_8 (fun a j hm => (hF_9 a j (qv_7ce279f74 hm)).trans (hF_3 a j (fun h => hm (Or.inl h))))

set_option maxRecDepth 100000 in
set_option maxHeartbeats 4000000 in
theorem s_17 {sc : List Int32} {e : Int} {d u P Q A : Nat} {c : ME} {Z : AR → Prop} (hI : Iv u e P Q c) (hA : A = 13 ∨ A = 25) (K : ∀ (c2 : ME), Iv u e P Q c2 → (∀ (a : Nat) (j : Int), ¬ ((a = 1 ∧ j = 2) ∨ (a = 1 ∧ j = 4) ∨ (a = 1 ∧ j = 5) ∨ (a = (A + 7) ∧ j = 5) ∨ a = (A + 9) ∨ (a = (A + 7) ∧ j = 4) ∨ a = (A + 8)) → c2 a j = c a j) → Z (.inl (none), Wd P Q P P c2, 0, 0)) : Wp sc (d + 33) 17 0 [(0, .ref (A + 7)), (1, .ref 1)] [] (Wd P Q P P c) 0 0 Z := by
  have hP := iv_P hI
  have hQ := iv_Q hI
  refine q_aload_n c_17_0 rfl (q_iconst c_17_1 (v_pi (z := 5) c_17_2 kf_0_28 (ck_p7 hA) (a68 hA rfl) rfl rfl rfl (of_decide_eq_true rfl) (q_aload_n c_17_5 rfl (q_aload_n c_17_6 rfl (q_iconst c_17_7 ?_)))))
  have hI_1 := iw_p7_5 (v := 0) hI hA ⟨of_decide_eq_true rfl, of_decide_eq_true rfl⟩
  refine v_cv c_17_8 km_0_31 rfl (ck_p7 hA) (a68 hA rfl) ⟨⟨rfl, rfl⟩, of_decide_eq_true rfl, rfl⟩ (Nat.le_of_ble_eq_true rfl) (Nat.le_of_ble_eq_true rfl) (r_13 (a2 := 0) hI_1 hA (show 0 ≤ 0 ∧ 0 ≤ 6 from ⟨of_decide_eq_true rfl, of_decide_eq_true rfl⟩) (fun c_2 hI_3 hF_4 => (bk_inl (q_aload_n c_17_11 rfl (v_cv c_17_12 km_0_35 rfl rfl (Nat.le_of_ble_eq_true rfl) ⟨⟨rfl, rfl⟩, Nat.le_of_ble_eq_true rfl, rfl⟩ (Nat.le_of_ble_eq_true rfl) (Nat.le_of_ble_eq_true rfl) (s_16 hI_3 (fun c_5 hI_6 hF_7 => (bk_inl (q_aload_n c_17_15 rfl (v_cv c_17_16 km_0_40 rfl rfl (Nat.le_of_ble_eq_true rfl) ⟨⟨rfl, rfl⟩, Nat.le_of_ble_eq_true rfl, rfl⟩ (Nat.le_of_ble_eq_true rfl) (Nat.le_of_ble_eq_true rfl) (q_aload_n c_2_0 rfl ?_)))))))))))
  have h_8 := ir_1_4 hI_6
  refine v_gi (z := 4) (v := c_5 1 4) c_2_1 kf_5_38 rfl (Nat.le_of_ble_eq_true rfl) rfl rfl rfl ?_
  by_cases h_9 : c_5 1 4 ≠ 0
  · refine v_if_ne_t (t := 11) c_2_4 rfl ⟨h_9, ⟨(lel h_8.1 rfl), (ler h_8.2 rfl)⟩, of_decide_eq_true rfl, of_decide_eq_true rfl⟩ (q_iconst c_2_11 (v_zret c_2_12 rfl (of_decide_eq_true rfl) (bk_inl (v_if_eq_t (t := 46) c_17_19 rfl (of_decide_eq_true rfl) (q_vret rfl rfl ?_)))))
    exact K c_5 hI_6 (fun a j hm => (hF_7 a j (qv_6f9c47781 hm)).trans ((hF_4 a j (qv_ee4b54987 hm)).trans (up_b (Decidable.or_iff_not_imp_left.mpr (fun h1 h2 => hm (Or.inr (Or.inr (Or.inr (Or.inl ⟨Decidable.not_not.mp h1, h2⟩)))))))))
  · refine v_if_ne_f (t := 11) c_2_4 rfl (Decidable.not_not.mp h_9) (q_iconst c_2_7 (q_goto (t := 12) c_2_8 rfl (v_zret c_2_12 rfl (of_decide_eq_true rfl) (bk_inl (v_if_eq_f (t := 46) c_17_19 rfl (of_decide_eq_true rfl) (q_aload_n c_17_22 rfl (v_gr (t := (A + 9)) c_17_23 kf_0_15 (ck_p7 hA) (a68 hA rfl) rfl ?_)))))))
    refine q_iconst c_17_26 (q_aload_n c_17_27 rfl (v_gr (t := (A + 8)) c_17_28 kf_0_9 (ck_p7 hA) (a68 hA rfl) rfl (q_iconst c_17_31 (v_sip c_17_32 (of_decide_eq_true rfl) (v_cpy c_17_35 rfl (ck_p8 hA) (a68 hA rfl) (ck_p9 hA) (a68 hA rfl) rfl rfl (by omega) (Nat.le_of_ble_eq_true rfl) (by omega) (q_aload_n c_17_38 rfl (q_aload_n c_17_39 rfl ?_)))))))
    have h_10 := ir_p7_5 hI_3 hA
    have kn_11 : Hid (c_5 (A + 7) 5 = c_2 (A + 7) 5) := hF_7 (A + 7) 5 (qn_3e7b2eb2a hA)
    refine v_gi (z := 5) (v := c_2 (A + 7) 5) c_17_40 kf_0_28 (ck_p7 hA) (a68 hA rfl) rfl rfl ((upc_c (by omega)).trans (hid kn_11)) (v_pi (z := 4) c_17_43 kf_0_24 (ck_p7 hA) (a68 hA rfl) rfl rfl rfl (of_decide_eq_true rfl) (q_vret rfl rfl ?_))
    have hI_12 := cp_p9_p8 (n := 150) hI_6 hA
    have hI_13 := iw_p7_4 (v := c_2 (A + 7) 5) hI_12 hA ⟨(q_47cb9e6c6 h_10), (q_4ed2d8592 h_10)⟩
    exact K (up (upc c_5 (A + 9) 0 (A + 8) 0 150) (A + 7) 4 (c_2 (A + 7) 5)) hI_13 (fun a j hm => (up_b (Decidable.or_iff_not_imp_left.mpr (fun h1 h2 => hm (Or.inr (Or.inr (Or.inr (Or.inr (Or.inr (Or.inl ⟨Decidable.not_not.mp h1, h2⟩))))))))).trans ((upc_c (fun h => hm (Or.inr (Or.inr (Or.inr (Or.inr (Or.inr (Or.inr h)))))))).trans ((hF_7 a j (qv_6f9c47781 hm)).trans ((hF_4 a j (qv_ee4b54987 hm)).trans (up_b (Decidable.or_iff_not_imp_left.mpr (fun h1 h2 => hm (Or.inr (Or.inr (Or.inr (Or.inl ⟨Decidable.not_not.mp h1, h2⟩)))))))))))

set_option maxRecDepth 100000 in
set_option maxHeartbeats 4000000 in
theorem s_19 {sc : List Int32} {e : Int} {d u P Q : Nat} {c : ME} {a0 : Int} {a1 : Int} {a2 : Int} {Z : AR → Prop} (hI : Iv u e P Q c) (ha0 : (-2147483648) ≤ a0 ∧ a0 ≤ 2147483647) (ha1 : (-2147483648) ≤ a1 ∧ a1 ≤ 2147483647) (ha2 : (-2147483648) ≤ a2 ∧ a2 ≤ 2147483647) (K : ∀ (y : Int), (-2147483648) ≤ y ∧ y ≤ 2147483647 → Z (.inl (some (vi y)), Wd P Q P P c, 0, 0)) : Wp sc (d + 7) 19 0 [(0, vi a0), (1, vi a1), (2, vi a2)] [] (Wd P Q P P c) 0 0 Z := by
  have hP := iv_P hI
  have hQ := iv_Q hI
  refine q_iload_n c_19_0 rfl ?_
  by_cases h_1 : a0 = 2000
  · skip
    refine v_tsw_i (t := 40) 2000 c_19_1 (by omega) (of_decide_eq_true rfl) rfl (of_decide_eq_true rfl) (q_iload_n c_19_40 rfl (q_iload_n c_19_41 rfl (v_iadd (v := a1 + a2) c_19_42 rfl (v_nrm (fun y_2 hy_2 => (q_iret c_19_43 rfl ?_))))))
    exact K y_2 hy_2
  by_cases h_3 : a0 = 2001
  · skip
    refine v_tsw_i (t := 44) 2001 rfl (by omega) (of_decide_eq_true rfl) rfl (of_decide_eq_true rfl) (q_iload_n c_19_44 rfl (q_iload_n c_19_45 rfl (v_isub (v := a1 - a2) c_19_46 rfl (v_nrm (fun y_4 hy_4 => (q_iret c_19_47 rfl ?_))))))
    exact K y_4 hy_4
  by_cases h_5 : a0 = 2002
  · skip
    refine v_tsw_i (t := 48) 2002 rfl (by omega) (of_decide_eq_true rfl) rfl (of_decide_eq_true rfl) (q_iload_n c_19_48 rfl (q_iload_n c_19_49 rfl (v_imul (v := (a1 * a2)) c_19_50 rfl (v_nrm (fun y_6 hy_6 => (q_iret c_19_51 rfl ?_))))))
    exact K y_6 hy_6
  by_cases h_7 : a0 = 2003
  · skip
    refine v_tsw_i (t := 52) 2003 rfl (by omega) (of_decide_eq_true rfl) rfl (of_decide_eq_true rfl) (q_iload_n c_19_52 rfl ?_)
    by_cases h_8 : a2 ≠ 0
    · refine v_if_ne_t (t := 60) c_19_53 rfl ⟨h_8, ⟨ha2.1, ha2.2⟩, of_decide_eq_true rfl, of_decide_eq_true rfl⟩ (q_iload_n c_19_60 rfl (q_iload_n c_19_61 rfl (v_idivx c_19_62 ⟨by omega, by omega, by omega⟩ (fun y_9 hy_9 => (q_iret c_19_63 rfl ?_)))))
      exact K y_9 hy_9
    · refine v_if_ne_f (t := 60) c_19_53 rfl (Decidable.not_not.mp h_8) (q_iconst c_19_56 (q_goto (t := 63) c_19_57 rfl (q_iret c_19_63 rfl ?_)))
      exact K 0 ⟨of_decide_eq_true rfl, of_decide_eq_true rfl⟩
  by_cases h_10 : a0 = 2004
  · skip
    refine v_tsw_i (t := 64) 2004 rfl (by omega) (of_decide_eq_true rfl) rfl (of_decide_eq_true rfl) (q_iload_n c_19_64 rfl ?_)
    by_cases h_11 : a2 ≠ 0
    · refine v_if_ne_t (t := 72) c_19_65 rfl ⟨h_11, ⟨ha2.1, ha2.2⟩, of_decide_eq_true rfl, of_decide_eq_true rfl⟩ (q_iload_n c_19_72 rfl (q_iload_n c_19_73 rfl (v_iremx c_19_74 ⟨by omega, by omega, by omega⟩ (fun y_12 hy_12 => (q_iret c_19_75 rfl ?_)))))
      exact K y_12 hy_12
    · refine v_if_ne_f (t := 72) c_19_65 rfl (Decidable.not_not.mp h_11) (q_iconst c_19_68 (q_goto (t := 75) c_19_69 rfl (q_iret c_19_75 rfl ?_)))
      exact K 0 ⟨of_decide_eq_true rfl, of_decide_eq_true rfl⟩
  by_cases h_13 : a0 = 2005
  · skip
    refine v_tsw_i (t := 76) 2005 rfl (by omega) (of_decide_eq_true rfl) rfl (of_decide_eq_true rfl) (q_iload_n c_19_76 rfl (q_iload_n c_19_77 rfl ?_))
    by_cases h_14 : a1 > a2
    · refine v_ic_gt_t (t := 85) c_19_78 rfl ⟨ha2.1, h_14, ha1.2⟩ (q_iload_n c_19_85 rfl (q_iret c_19_86 rfl ?_))
      exact K a2 ha2
    · refine v_ic_gt_f (t := 85) c_19_78 rfl ⟨ha1.1, (Int.not_lt.mp h_14), ha2.2⟩ (q_iload_n c_19_81 rfl (q_goto (t := 86) c_19_82 rfl (q_iret c_19_86 rfl ?_)))
      exact K a1 ha1
  refine v_tsw_o (t := 87) rfl (by omega) (of_decide_eq_true rfl) (q_iload_n c_19_87 rfl (q_iload_n c_19_88 rfl ?_))
  by_cases h_15 : a1 < a2
  · refine v_ic_lt_t (t := 96) c_19_89 rfl ⟨ha1.1, h_15, ha2.2⟩ (q_iload_n c_19_96 rfl (q_iret c_19_97 rfl ?_))
    exact K a2 ha2
  · refine v_ic_lt_f (t := 96) c_19_89 rfl ⟨ha2.1, (Int.not_lt.mp h_15), ha1.2⟩ (q_iload_n c_19_92 rfl (q_goto (t := 97) c_19_93 rfl (q_iret c_19_97 rfl ?_)))
    exact K a1 ha1

set_option maxRecDepth 100000 in
set_option maxHeartbeats 4000000 in
theorem s_20_l {sc : List Int32} {e : Int} {d u P Q A : Nat} {c : ME} {a1 : Int} {a2 : Int} {a3 : Int} {a4 : Int} {a5 : Int} {a6 : Int} {a7 : Int} {Z : AR → Prop} (hI : Iv u e P Q c) (hA : A = 13 ∨ A = 25) (ha1 : 0 ≤ a1 ∧ a1 ≤ 9999) (ha2 : 0 ≤ a2 ∧ a2 ≤ 9999) (ha3 : 0 ≤ a3 ∧ a3 ≤ 9999) (ha4 : 0 ≤ a4 ∧ a4 ≤ 9999) (ha5 : (-2147483648) ≤ a5 ∧ a5 ≤ 2147483647) (ha6 : (-2147483648) ≤ a6 ∧ a6 ≤ 2147483647) (ha7 : (-2147483648) ≤ a7 ∧ a7 ≤ 2147483647) (K : ∀ (c2 : ME) (y : Int), Iv u e P Q c2 → (∀ (a : Nat) (j : Int), ¬ (a = (A + 10) ∨ a = (A + 11)) → c2 a j = c a j) → 0 ≤ y ∧ y ≤ 99 → Z (.inl (some (vi y)), Wd P Q P P c2, 0, 0)) : ∀ n : Nat, (∀ (c2 : ME) (v8 : Int) (v9 : Int) (v10 : Int), Iv u e P Q c2 → (∀ (a : Nat) (j : Int), ¬ (a = (A + 10) ∨ a = (A + 11)) → c2 a j = c a j) → 0 ≤ v8 ∧ v8 ≤ 39996 → 0 ≤ v9 ∧ v9 ≤ 150 → 0 ≤ v10 ∧ v10 ≤ 150 → ((v9 ≤ v10)) → 301 - 2 * v10 < (n : Int) → Wp sc (d + 8) 20 108 [(0, .ref (A + 7)), (1, vi a1), (2, vi a2), (3, vi a3), (4, vi a4), (5, vi a5), (6, vi a6), (7, vi a7), (8, vi v8), (9, vi v9), (10, vi v10)] [] (Wd P Q P P c2) 0 0 Z) := by
  intro n
  induction n with
  | zero => exact (by intro c2 v8 v9 v10 hI2 hF hv8 hv9 hv10 hx0 hm9; have hP := iv_P hI; have hQ := iv_Q hI; exfalso; omega)
  | succ n ih =>
    have hP := iv_P hI
    have hQ := iv_Q hI
    intro c2 v8 v9 v10 hI2 hF hv8 hv9 hv10 hx0 hm9
    refine q_iload c_20_108 rfl (q_aload_n c_20_110 rfl ?_)
    have h_1 := ir_p7_4 hI hA
    have kn_2 : Hid (c2 (A + 7) 4 = c (A + 7) 4) := hF (A + 7) 4 (fun q => q.elim (fun h => absurd h (pp rfl)) (fun h => absurd h (pp rfl)))
    refine v_gi (z := 4) (v := c (A + 7) 4) c_20_111 kf_0_24 (ck_p7 hA) (a68 hA rfl) rfl rfl (hid kn_2) ?_
    by_cases h_3 : v10 ≥ c (A + 7) 4
    · refine v_ic_ge_t (t := 216) c_20_114 rfl ⟨(q_7c38ad3f6 h_1), h_3, (ler hv10.2 rfl)⟩ (q_aload_n c_20_216 rfl (v_gr (t := (A + 10)) c_20_217 kf_0_18 (ck_p7 hA) (a68 hA rfl) rfl (q_iconst c_20_220 ?_)))
      have h_4 := ir_p10 hI2 hA 0
      refine v_ia (v := c2 (A + 10) 0) c_20_221 (ck_p10 hA) (a68 hA rfl) (of_decide_eq_true rfl) (of_decide_eq_true rfl) rfl (q_call c_20_222 rfl rfl rfl (q_iload_n c_18_0 rfl ?_))
      by_cases h_5 : c2 (A + 10) 0 ≥ 0
      · refine v_if_ge_t (t := 8) c_18_1 rfl ⟨of_decide_eq_true rfl, h_5, h_4.2⟩ (q_iload_n c_18_8 rfl (v_bip c_18_9 (of_decide_eq_true rfl) ?_))
        by_cases h_6 : c2 (A + 10) 0 ≤ 99
        · refine v_ic_le_t (t := 19) c_18_11 rfl ⟨h_4.1, h_6, of_decide_eq_true rfl⟩ (q_iload_n c_18_19 rfl (q_iret c_18_20 rfl (bk_inl (q_iret c_20_225 rfl ?_))))
          exact K c2 (c2 (A + 10) 0) hI2 (fun a j hm => hF a j hm) ⟨(q_059235c2c h_5), (q_a6cbc6a20 h_6)⟩
        · refine v_ic_le_f (t := 19) c_18_11 rfl ⟨of_decide_eq_true rfl, (Int.not_le.mp h_6), h_4.2⟩ (v_bip c_18_14 (of_decide_eq_true rfl) (q_goto (t := 20) c_18_16 rfl (q_iret c_18_20 rfl (bk_inl (q_iret c_20_225 rfl ?_)))))
          exact K c2 99 hI2 (fun a j hm => hF a j hm) ⟨of_decide_eq_true rfl, of_decide_eq_true rfl⟩
      · refine v_if_ge_f (t := 8) c_18_1 rfl ⟨h_4.1, (Int.not_le.mp h_5), of_decide_eq_true rfl⟩ (q_iconst c_18_4 (q_goto (t := 20) c_18_5 rfl (q_iret c_18_20 rfl (bk_inl (q_iret c_20_225 rfl ?_)))))
        exact K c2 0 hI2 (fun a j hm => hF a j hm) ⟨of_decide_eq_true rfl, of_decide_eq_true rfl⟩
    · refine v_ic_ge_f (t := 216) c_20_114 rfl ⟨(lel hv10.1 rfl), (Int.not_le.mp h_3), (q_b7d7f2b1a h_1)⟩ (q_aload_n c_20_117 rfl (v_gr (t := (A + 8)) c_20_118 kf_0_9 (ck_p7 hA) (a68 hA rfl) rfl (q_iload c_20_121 rfl ?_)))
      have h_7 := ir_p8 hI hA v10
      have h_8 := ir_p8_x hI hA v10
      have kn_9 : Hid (c2 (A + 8) v10 = c (A + 8) v10) := hF (A + 8) v10 (fun q => q.elim (fun h => absurd h (pp rfl)) (fun h => absurd h (pp rfl)))
      refine v_ia (v := c (A + 8) v10) c_20_123 (ck_p8 hA) (a68 hA rfl) (of_decide_eq_true rfl) ⟨hv10.1, (q_8d9392337 h_1 h_3)⟩ (hid kn_9) (q_istore c_20_124 (Nat.le_of_ble_eq_true rfl) (q_iload c_20_126 rfl (v_sip c_20_128 (of_decide_eq_true rfl) ?_)))
      by_cases h_10 : c (A + 8) v10 ≥ 2000
      · refine v_ic_ge_t (t := 171) c_20_131 rfl ⟨of_decide_eq_true rfl, h_10, (q_4e52e4576 h_7)⟩ (q_iload c_20_171 rfl (q_iconst c_20_173 ?_))
        by_cases h_11 : v9 ≤ 1
        · refine v_ic_le_t (t := 210) c_20_174 rfl ⟨(lel hv9.1 rfl), h_11, of_decide_eq_true rfl⟩ (v_iinc (v := v10 + 1) c_20_210 rfl (Nat.le_of_ble_eq_true rfl) rfl (q_goto (t := 108) c_20_213 rfl (Wp_ls [(0, .ref (A + 7)), (1, vi a1), (2, vi a2), (3, vi a3), (4, vi a4), (5, vi a5), (6, vi a6), (7, vi a7), (8, vi v8), (9, vi v9), (10, vi (v10 + 1))] (lsub_cons rfl (lsub_cons rfl (lsub_cons rfl (lsub_cons rfl (lsub_cons rfl (lsub_cons rfl (lsub_cons rfl (lsub_cons rfl (lsub_cons rfl (lsub_cons rfl (lsub_cons rfl lsub_nil))))))))))) ?_)))
          exact ih c2 v8 v9 (v10 + 1) hI2 (fun a j hm => hF a j hm) hv8 hv9 ⟨(rgp_l hv10.1 (of_decide_eq_true rfl)), (q_b47906294 h_1 h_3)⟩ (by first | (clear ha1 ha2 ha3 ha4 ha5 ha6 ha7 hv8 hv9 hv10 h_1 h_3 h_7 h_10 h_11 h_8; omega) | omega) (by omega)
        · refine v_ic_le_f (t := 210) c_20_174 rfl ⟨of_decide_eq_true rfl, (Int.not_le.mp h_11), (ler hv9.2 rfl)⟩ (v_iinc (v := v9 - 1) c_20_177 rfl (Nat.le_of_ble_eq_true rfl) (by first | (clear ha1 ha2 ha3 ha4 ha5 ha6 ha7 hv8 hv9 hv10 hx0 h_1 h_3 h_7 h_10 h_11 h_8; omega) | omega) (q_aload_n c_20_180 rfl (v_gr (t := (A + 10)) c_20_181 kf_0_18 (ck_p7 hA) (a68 hA rfl) rfl (q_iload c_20_184 rfl (q_iconst c_20_186 (v_isub (v := v9 - 2) c_20_187 (by first | (clear ha1 ha2 ha3 ha4 ha5 ha6 ha7 hv8 hv9 hv10 hx0 h_1 h_3 h_7 h_10 h_11 h_8; omega) | omega) (q_iload c_20_188 rfl ?_)))))))
          refine q_aload_n c_20_190 rfl (v_gr (t := (A + 10)) c_20_191 kf_0_18 (ck_p7 hA) (a68 hA rfl) rfl (q_iload c_20_194 rfl (q_iconst c_20_196 (v_isub (v := v9 - 2) c_20_197 (by first | (clear ha1 ha2 ha3 ha4 ha5 ha6 ha7 hv8 hv9 hv10 hx0 h_1 h_3 h_7 h_10 h_11 h_8; omega) | omega) ?_))))
          have h_12 := ir_p10 hI2 hA (v9 - 2)
          refine v_ia (v := c2 (A + 10) (v9 - 2)) c_20_198 (ck_p10 hA) (a68 hA rfl) (of_decide_eq_true rfl) ⟨(q_3fd0c26f9 h_11), (q_2d3808a94 hv9)⟩ rfl (q_aload_n c_20_199 rfl (v_gr (t := (A + 10)) c_20_200 kf_0_18 (ck_p7 hA) (a68 hA rfl) rfl (q_iload c_20_203 rfl ?_)))
          have h_13 := ir_p10 hI2 hA (v9 - 1)
          refine v_ia (v := c2 (A + 10) (v9 - 1)) c_20_205 (ck_p10 hA) (a68 hA rfl) (of_decide_eq_true rfl) ⟨(q_96d88faef h_11), (q_8528fcf54 hv9)⟩ rfl (q_call c_20_206 rfl rfl rfl (s_19 (a0 := c (A + 8) v10) (a1 := c2 (A + 10) (v9 - 2)) (a2 := c2 (A + 10) (v9 - 1)) hI2 (show (-2147483648) ≤ c (A + 8) v10 ∧ c (A + 8) v10 ≤ 2147483647 from ⟨(q_efcdaf7e7 h_10), (q_4e52e4576 h_7)⟩) (show (-2147483648) ≤ c2 (A + 10) (v9 - 2) ∧ c2 (A + 10) (v9 - 2) ≤ 2147483647 from h_12) (show (-2147483648) ≤ c2 (A + 10) (v9 - 1) ∧ c2 (A + 10) (v9 - 1) ≤ 2147483647 from h_13) (fun y_14 hy_14 => (bk_inl (v_is c_20_209 (ck_p10 hA) (a68 hA rfl) (of_decide_eq_true rfl) ⟨(q_3fd0c26f9 h_11), (q_2d3808a94 hv9)⟩ (v_iinc (v := v10 + 1) c_20_210 rfl (Nat.le_of_ble_eq_true rfl) rfl (q_goto (t := 108) c_20_213 rfl ?_)))))))
          have hI_15 := iw_p10 (j := v9 - 2) (v := y_14) hI2 hA ⟨hy_14.1, hy_14.2⟩
          refine Wp_ls [(0, .ref (A + 7)), (1, vi a1), (2, vi a2), (3, vi a3), (4, vi a4), (5, vi a5), (6, vi a6), (7, vi a7), (8, vi v8), (9, vi (v9 - 1)), (10, vi (v10 + 1))] (lsub_cons rfl (lsub_cons rfl (lsub_cons rfl (lsub_cons rfl (lsub_cons rfl (lsub_cons rfl (lsub_cons rfl (lsub_cons rfl (lsub_cons rfl (lsub_cons rfl (lsub_cons rfl lsub_nil))))))))))) ?_
          exact ih (up c2 (A + 10) (v9 - 2) y_14) v8 (v9 - 1) (v10 + 1) hI_15 (fun a j hm => (up_b (Decidable.or_iff_not_imp_left.mpr (fun h1 h2 => hm (Or.inl (Decidable.not_not.mp h1))))).trans (hF a j hm)) hv8 ⟨(q_96d88faef h_11), (rgm_h hv9.2 (of_decide_eq_true rfl))⟩ ⟨(rgp_l hv10.1 (of_decide_eq_true rfl)), (q_b47906294 h_1 h_3)⟩ (by first | (clear ha1 ha2 ha3 ha4 ha5 ha6 ha7 hv8 hv9 hv10 h_1 h_3 h_7 h_10 h_11 h_12 h_13 h_8; omega) | omega) (by omega)
      · refine v_ic_ge_f (t := 171) c_20_131 rfl ⟨(q_cc1935a2a h_7), (Int.not_le.mp h_10), of_decide_eq_true rfl⟩ (q_aload_n c_20_134 rfl (v_gr (t := (A + 10)) c_20_135 kf_0_18 (ck_p7 hA) (a68 hA rfl) rfl (q_iload c_20_138 rfl (q_iload c_20_140 rfl (v_sip c_20_142 (of_decide_eq_true rfl) ?_)))))
        by_cases h_16 : c (A + 8) v10 ≥ 1000
        · refine v_ic_ge_t (t := 153) c_20_145 rfl ⟨of_decide_eq_true rfl, h_16, (q_8e843b4e6 h_10)⟩ (q_aload_n c_20_153 rfl (v_gr (t := (A + 11)) c_20_154 kf_0_21 (ck_p7 hA) (a68 hA rfl) rfl (q_iload c_20_157 rfl (v_sip c_20_159 (of_decide_eq_true rfl) (v_isub (v := c (A + 8) v10 - 1000) c_20_162 rfl ?_)))))
          have h_17 := ir_p11 hI2 hA (c (A + 8) v10 - 1000)
          refine v_ia (v := c2 (A + 11) (c (A + 8) v10 - 1000)) c_20_163 (ck_p11 hA) (a68 hA rfl) (of_decide_eq_true rfl) ⟨(q_3b6849c3a h_16), (q_fe2e90aed h_10 h_8)⟩ rfl (v_is c_20_164 (ck_p10 hA) (a68 hA rfl) (of_decide_eq_true rfl) ⟨hv9.1, by first | (clear ha1 ha2 ha3 ha4 ha5 ha6 ha7 hv8 hv9 hv10 h_7 h_10 h_16 h_17 h_8; omega) | omega⟩ (v_iinc (v := v9 + 1) c_20_165 rfl (Nat.le_of_ble_eq_true rfl) rfl (q_goto (t := 210) c_20_168 rfl (v_iinc (v := v10 + 1) c_20_210 rfl (Nat.le_of_ble_eq_true rfl) rfl (q_goto (t := 108) c_20_213 rfl ?_)))))
          have hI_18 := iw_p10 (j := v9) (v := c2 (A + 11) (c (A + 8) v10 - 1000)) hI2 hA ⟨h_17.1, h_17.2⟩
          refine Wp_ls [(0, .ref (A + 7)), (1, vi a1), (2, vi a2), (3, vi a3), (4, vi a4), (5, vi a5), (6, vi a6), (7, vi a7), (8, vi v8), (9, vi (v9 + 1)), (10, vi (v10 + 1))] (lsub_cons rfl (lsub_cons rfl (lsub_cons rfl (lsub_cons rfl (lsub_cons rfl (lsub_cons rfl (lsub_cons rfl (lsub_cons rfl (lsub_cons rfl (lsub_cons rfl (lsub_cons rfl lsub_nil))))))))))) ?_
          exact ih (up c2 (A + 10) v9 (c2 (A + 11) (c (A + 8) v10 - 1000))) v8 (v9 + 1) (v10 + 1) hI_18 (fun a j hm => (up_b (Decidable.or_iff_not_imp_left.mpr (fun h1 h2 => hm (Or.inl (Decidable.not_not.mp h1))))).trans (hF a j hm)) hv8 ⟨(rgp_l hv9.1 (of_decide_eq_true rfl)), by first | (clear ha1 ha2 ha3 ha4 ha5 ha6 ha7 hv8 hv9 hv10 h_7 h_10 h_16 h_17 h_8; omega) | omega⟩ ⟨(rgp_l hv10.1 (of_decide_eq_true rfl)), (q_b47906294 h_1 h_3)⟩ (by first | (clear ha1 ha2 ha3 ha4 ha5 ha6 ha7 hv8 hv9 hv10 h_1 h_3 h_7 h_10 h_16 h_17 h_8; omega) | omega) (by omega)
        · refine v_ic_ge_f (t := 153) c_20_145 rfl ⟨(q_cc1935a2a h_7), (Int.not_le.mp h_16), of_decide_eq_true rfl⟩ (q_iload c_20_148 rfl (q_goto (t := 164) c_20_150 rfl (v_is c_20_164 (ck_p10 hA) (a68 hA rfl) (of_decide_eq_true rfl) ⟨hv9.1, by first | (clear ha1 ha2 ha3 ha4 ha5 ha6 ha7 hv8 hv9 hv10 h_7 h_10 h_16 h_8; omega) | omega⟩ (v_iinc (v := v9 + 1) c_20_165 rfl (Nat.le_of_ble_eq_true rfl) rfl (q_goto (t := 210) c_20_168 rfl (v_iinc (v := v10 + 1) c_20_210 rfl (Nat.le_of_ble_eq_true rfl) rfl (q_goto (t := 108) c_20_213 rfl ?_)))))))
          have hI_19 := iw_p10 (j := v9) (v := c (A + 8) v10) hI2 hA ⟨(q_cc1935a2a h_7), (q_626295773 h_16)⟩
          refine Wp_ls [(0, .ref (A + 7)), (1, vi a1), (2, vi a2), (3, vi a3), (4, vi a4), (5, vi a5), (6, vi a6), (7, vi a7), (8, vi v8), (9, vi (v9 + 1)), (10, vi (v10 + 1))] (lsub_cons rfl (lsub_cons rfl (lsub_cons rfl (lsub_cons rfl (lsub_cons rfl (lsub_cons rfl (lsub_cons rfl (lsub_cons rfl (lsub_cons rfl (lsub_cons rfl (lsub_cons rfl lsub_nil))))))))))) ?_
          exact ih (up c2 (A + 10) v9 (c (A + 8) v10)) v8 (v9 + 1) (v10 + 1) hI_19 (fun a j hm => (up_b (Decidable.or_iff_not_imp_left.mpr (fun h1 h2 => hm (Or.inl (Decidable.not_not.mp h1))))).trans (hF a j hm)) hv8 ⟨(rgp_l hv9.1 (of_decide_eq_true rfl)), by first | (clear ha1 ha2 ha3 ha4 ha5 ha6 ha7 hv8 hv9 hv10 h_7 h_10 h_16 h_8; omega) | omega⟩ ⟨(rgp_l hv10.1 (of_decide_eq_true rfl)), (q_b47906294 h_1 h_3)⟩ (by first | (clear ha1 ha2 ha3 ha4 ha5 ha6 ha7 hv8 hv9 hv10 h_1 h_3 h_7 h_10 h_16 h_8; omega) | omega) (by omega)
set_option maxRecDepth 100000 in
set_option maxHeartbeats 4000000 in
theorem s_20 {sc : List Int32} {e : Int} {d u P Q A : Nat} {c : ME} {a1 : Int} {a2 : Int} {a3 : Int} {a4 : Int} {a5 : Int} {a6 : Int} {a7 : Int} {Z : AR → Prop} (hI : Iv u e P Q c) (hA : A = 13 ∨ A = 25) (ha1 : 0 ≤ a1 ∧ a1 ≤ 9999) (ha2 : 0 ≤ a2 ∧ a2 ≤ 9999) (ha3 : 0 ≤ a3 ∧ a3 ≤ 9999) (ha4 : 0 ≤ a4 ∧ a4 ≤ 9999) (ha5 : (-2147483648) ≤ a5 ∧ a5 ≤ 2147483647) (ha6 : (-2147483648) ≤ a6 ∧ a6 ≤ 2147483647) (ha7 : (-2147483648) ≤ a7 ∧ a7 ≤ 2147483647) (K : ∀ (c2 : ME) (y : Int), Iv u e P Q c2 → (∀ (a : Nat) (j : Int), ¬ (a = (A + 10) ∨ a = (A + 11)) → c2 a j = c a j) → 0 ≤ y ∧ y ≤ 99 → Z (.inl (some (vi y)), Wd P Q P P c2, 0, 0)) : Wp sc (d + 8) 20 0 [(0, .ref (A + 7)), (1, vi a1), (2, vi a2), (3, vi a3), (4, vi a4), (5, vi a5), (6, vi a6), (7, vi a7)] [] (Wd P Q P P c) 0 0 Z := by
  have hP := iv_P hI
  have hQ := iv_Q hI
  refine q_iload_n c_20_0 rfl (q_iload_n c_20_1 rfl (v_iadd (v := a1 + a2) c_20_2 rfl (q_iload_n c_20_3 rfl (v_iadd (v := a1 + a2 + a3) c_20_4 rfl (q_iload c_20_5 rfl (v_iadd (v := a1 + a2 + a3 + a4) c_20_7 rfl (q_istore c_20_8 (Nat.le_of_ble_eq_true rfl) ?_)))))))
  refine q_aload_n c_20_10 rfl ?_
  have h_20 := ir_p7_4 hI hA
  refine v_gi (z := 4) (v := c (A + 7) 4) c_20_11 kf_0_24 (ck_p7 hA) (a68 hA rfl) rfl rfl rfl ?_
  by_cases h_21 : c (A + 7) 4 ≠ 0
  · refine v_if_ne_t (t := 39) c_20_14 rfl ⟨h_21, ⟨(lel h_20.1 rfl), (ler h_20.2 rfl)⟩, of_decide_eq_true rfl, of_decide_eq_true rfl⟩ (q_aload_n c_20_39 rfl (v_gr (t := (A + 11)) c_20_40 kf_0_21 (ck_p7 hA) (a68 hA rfl) rfl (q_iconst c_20_43 (q_iload_n c_20_44 rfl (v_is c_20_45 (ck_p11 hA) (a68 hA rfl) (of_decide_eq_true rfl) (of_decide_eq_true rfl) (q_aload_n c_20_46 rfl (v_gr (t := (A + 11)) c_20_47 kf_0_21 (ck_p7 hA) (a68 hA rfl) rfl ?_)))))))
    refine q_iconst c_20_50 (q_iload_n c_20_51 rfl (v_is c_20_52 (ck_p11 hA) (a68 hA rfl) (of_decide_eq_true rfl) (of_decide_eq_true rfl) (q_aload_n c_20_53 rfl (v_gr (t := (A + 11)) c_20_54 kf_0_21 (ck_p7 hA) (a68 hA rfl) rfl (q_iconst c_20_57 (q_iload_n c_20_58 rfl (v_is c_20_59 (ck_p11 hA) (a68 hA rfl) (of_decide_eq_true rfl) (of_decide_eq_true rfl) ?_)))))))
    refine q_aload_n c_20_60 rfl (v_gr (t := (A + 11)) c_20_61 kf_0_21 (ck_p7 hA) (a68 hA rfl) rfl (q_iconst c_20_64 (q_iload c_20_65 rfl (v_is c_20_67 (ck_p11 hA) (a68 hA rfl) (of_decide_eq_true rfl) (of_decide_eq_true rfl) (q_aload_n c_20_68 rfl (v_gr (t := (A + 11)) c_20_69 kf_0_21 (ck_p7 hA) (a68 hA rfl) rfl (q_iconst c_20_72 ?_)))))))
    refine q_iload c_20_73 rfl (v_is c_20_75 (ck_p11 hA) (a68 hA rfl) (of_decide_eq_true rfl) (of_decide_eq_true rfl) (q_aload_n c_20_76 rfl (v_gr (t := (A + 11)) c_20_77 kf_0_21 (ck_p7 hA) (a68 hA rfl) rfl (q_iconst c_20_80 (q_iload c_20_81 rfl (v_is c_20_83 (ck_p11 hA) (a68 hA rfl) (of_decide_eq_true rfl) (of_decide_eq_true rfl) (q_aload_n c_20_84 rfl ?_)))))))
    refine v_gr (t := (A + 11)) c_20_85 kf_0_21 (ck_p7 hA) (a68 hA rfl) rfl (v_bip c_20_88 (of_decide_eq_true rfl) (q_iload c_20_90 rfl (v_is c_20_92 (ck_p11 hA) (a68 hA rfl) (of_decide_eq_true rfl) (of_decide_eq_true rfl) (q_aload_n c_20_93 rfl (v_gr (t := (A + 11)) c_20_94 kf_0_21 (ck_p7 hA) (a68 hA rfl) rfl (v_bip c_20_97 (of_decide_eq_true rfl) (q_iload c_20_99 rfl ?_)))))))
    refine v_is c_20_101 (ck_p11 hA) (a68 hA rfl) (of_decide_eq_true rfl) (of_decide_eq_true rfl) (q_iconst c_20_102 (q_istore c_20_103 (Nat.le_of_ble_eq_true rfl) (q_iconst c_20_105 (q_istore c_20_106 (Nat.le_of_ble_eq_true rfl) ?_))))
    have hI_22 := iw_p11 (j := 0) (v := a1) hI hA ⟨(lel ha1.1 rfl), (ler ha1.2 rfl)⟩
    have hI_23 := iw_p11 (j := 1) (v := a2) hI_22 hA ⟨(lel ha2.1 rfl), (ler ha2.2 rfl)⟩
    have hI_24 := iw_p11 (j := 2) (v := a3) hI_23 hA ⟨(lel ha3.1 rfl), (ler ha3.2 rfl)⟩
    have hI_25 := iw_p11 (j := 3) (v := a4) hI_24 hA ⟨(lel ha4.1 rfl), (ler ha4.2 rfl)⟩
    have hI_26 := iw_p11 (j := 4) (v := a1 + a2 + a3 + a4) hI_25 hA ⟨(q_8c4697e7c ha1 ha2 ha3 ha4), (q_46d991406 ha1 ha2 ha3 ha4)⟩
    have hI_27 := iw_p11 (j := 5) (v := a5) hI_26 hA ⟨ha5.1, ha5.2⟩
    have hI_28 := iw_p11 (j := 6) (v := a6) hI_27 hA ⟨ha6.1, ha6.2⟩
    have hI_29 := iw_p11 (j := 7) (v := a7) hI_28 hA ⟨ha7.1, ha7.2⟩
    refine Wp_ls [(0, .ref (A + 7)), (1, vi a1), (2, vi a2), (3, vi a3), (4, vi a4), (5, vi a5), (6, vi a6), (7, vi a7), (8, vi (a1 + a2 + a3 + a4)), (9, vi 0), (10, vi 0)] (lsub_cons rfl (lsub_cons rfl (lsub_cons rfl (lsub_cons rfl (lsub_cons rfl (lsub_cons rfl (lsub_cons rfl (lsub_cons rfl (lsub_cons rfl (lsub_cons rfl (lsub_cons rfl lsub_nil))))))))))) ?_
    exact (s_20_l (sc := sc) (d := d) hI hA ha1 ha2 ha3 ha4 ha5 ha6 ha7 K 304) (up (up (up (up (up (up (up (up c (A + 11) 0 a1) (A + 11) 1 a2) (A + 11) 2 a3) (A + 11) 3 a4) (A + 11) 4 (a1 + a2 + a3 + a4)) (A + 11) 5 a5) (A + 11) 6 a6) (A + 11) 7 a7) (a1 + a2 + a3 + a4) 0 0 hI_29 (fun a j hm => (up_b (Decidable.or_iff_not_imp_left.mpr (fun h1 h2 => hm (Or.inr (Decidable.not_not.mp h1))))).trans ((up_b (Decidable.or_iff_not_imp_left.mpr (fun h1 h2 => hm (Or.inr (Decidable.not_not.mp h1))))).trans ((up_b (Decidable.or_iff_not_imp_left.mpr (fun h1 h2 => hm (Or.inr (Decidable.not_not.mp h1))))).trans ((up_b (Decidable.or_iff_not_imp_left.mpr (fun h1 h2 => hm (Or.inr (Decidable.not_not.mp h1))))).trans ((up_b (Decidable.or_iff_not_imp_left.mpr (fun h1 h2 => hm (Or.inr (Decidable.not_not.mp h1))))).trans ((up_b (Decidable.or_iff_not_imp_left.mpr (fun h1 h2 => hm (Or.inr (Decidable.not_not.mp h1))))).trans ((up_b (Decidable.or_iff_not_imp_left.mpr (fun h1 h2 => hm (Or.inr (Decidable.not_not.mp h1))))).trans (up_b (Decidable.or_iff_not_imp_left.mpr (fun h1 h2 => hm (Or.inr (Decidable.not_not.mp h1)))))))))))) ⟨(q_3a12ae26c ha1 ha2 ha3 ha4), (q_1bb4088f7 ha1 ha2 ha3 ha4)⟩ ⟨of_decide_eq_true rfl, of_decide_eq_true rfl⟩ ⟨of_decide_eq_true rfl, of_decide_eq_true rfl⟩ (by first | decide | omega) (by omega)
  · refine v_if_ne_f (t := 39) c_20_14 rfl (Decidable.not_not.mp h_21) (q_iload c_20_17 rfl (v_if_lt_f (t := 37) c_20_19 rfl ⟨of_decide_eq_true rfl, (q_3a12ae26c ha1 ha2 ha3 ha4), (q_46d991406 ha1 ha2 ha3 ha4)⟩ (q_iload_n c_20_22 rfl (v_bip c_20_23 (of_decide_eq_true rfl) (v_imul (v := 90 * a1) c_20_25 (by omega) (q_iload c_20_26 rfl (q_iconst c_20_28 ?_)))))))
    refine v_iadd (v := a1 + a2 + a3 + a4 + 1) c_20_29 rfl (v_idivx c_20_30 ⟨by omega, by omega, by omega⟩ (fun y_30 hy_30 => (q_call c_20_31 rfl rfl rfl (q_iload_n c_18_0 rfl ?_))))
    by_cases h_31 : y_30 ≥ 0
    · refine v_if_ge_t (t := 8) c_18_1 rfl ⟨of_decide_eq_true rfl, h_31, hy_30.2⟩ (q_iload_n c_18_8 rfl (v_bip c_18_9 (of_decide_eq_true rfl) ?_))
      by_cases h_32 : y_30 ≤ 99
      · refine v_ic_le_t (t := 19) c_18_11 rfl ⟨hy_30.1, h_32, of_decide_eq_true rfl⟩ (q_iload_n c_18_19 rfl (q_iret c_18_20 rfl (bk_inl (q_goto (t := 38) c_20_34 rfl (q_iret c_20_38 rfl ?_)))))
        exact K c y_30 hI (fun a j hm => rfl) ⟨(q_059235c2c h_31), (q_a6cbc6a20 h_32)⟩
      · refine v_ic_le_f (t := 19) c_18_11 rfl ⟨of_decide_eq_true rfl, (Int.not_le.mp h_32), hy_30.2⟩ (v_bip c_18_14 (of_decide_eq_true rfl) (q_goto (t := 20) c_18_16 rfl (q_iret c_18_20 rfl (bk_inl (q_goto (t := 38) c_20_34 rfl (q_iret c_20_38 rfl ?_))))))
        exact K c 99 hI (fun a j hm => rfl) ⟨of_decide_eq_true rfl, of_decide_eq_true rfl⟩
    · refine v_if_ge_f (t := 8) c_18_1 rfl ⟨hy_30.1, (Int.not_le.mp h_31), of_decide_eq_true rfl⟩ (q_iconst c_18_4 (q_goto (t := 20) c_18_5 rfl (q_iret c_18_20 rfl (bk_inl (q_goto (t := 38) c_20_34 rfl (q_iret c_20_38 rfl ?_))))))
      exact K c 0 hI (fun a j hm => rfl) ⟨of_decide_eq_true rfl, of_decide_eq_true rfl⟩

set_option maxRecDepth 100000 in
set_option maxHeartbeats 4000000 in
theorem s_22 {sc : List Int32} {e : Int} {d u P Q : Nat} {c : ME} {Z : AR → Prop} (hI : Iv u e P Q c)  (K : ∀ (c2 : ME), Iv u e P Q c2 → (∀ (a : Nat) (j : Int), ¬ ((a = 3 ∧ j = 3) ∨ (a = 3 ∧ j = 4)) → c2 a j = c a j) → ((c2 3 3 = 0 ∧ c2 3 4 = 0)) → Z (.inl (none), Wd P Q P P c2, 0, 0)) : Wp sc (d + 7) 22 0 [(0, .ref 3)] [] (Wd P Q P P c) 0 0 Z := by
  have hP := iv_P hI
  have hQ := iv_Q hI
  refine q_aload_n c_22_0 rfl (q_iconst c_22_1 (v_pi (z := 3) c_22_2 kf_1_21 rfl (Nat.le_of_ble_eq_true rfl) rfl rfl rfl (of_decide_eq_true rfl) (q_aload_n c_22_5 rfl (q_iconst c_22_6 (v_pi (z := 4) c_22_7 kf_1_25 rfl (Nat.le_of_ble_eq_true rfl) rfl rfl rfl (of_decide_eq_true rfl) (q_vret rfl rfl ?_))))))
  have hI_1 := iw_3_3 (v := 0) hI ⟨of_decide_eq_true rfl, of_decide_eq_true rfl⟩
  have hI_2 := iw_3_4 (v := 0) hI_1 ⟨of_decide_eq_true rfl, of_decide_eq_true rfl⟩
  have h_3 : (up (up c 3 3 0) 3 4 0) 3 3 = 0 := ((up_n (ni rfl)).trans (up_e rfl))
  have h_4 : (up (up c 3 3 0) 3 4 0) 3 4 = 0 := (up_e rfl)
  exact K (up (up c 3 3 0) 3 4 0) hI_2 (fun a j hm => (up_b (Decidable.or_iff_not_imp_left.mpr (fun h1 h2 => hm (Or.inr ⟨Decidable.not_not.mp h1, h2⟩)))).trans (up_b (Decidable.or_iff_not_imp_left.mpr (fun h1 h2 => hm (Or.inl ⟨Decidable.not_not.mp h1, h2⟩))))) ⟨by first | assumption | omega, by first | assumption | omega⟩

set_option maxRecDepth 100000 in
set_option maxHeartbeats 4000000 in
theorem s_24 {sc : List Int32} {d P Q : Nat} {c : ME} {Z : AR → Prop} (hI : Iv 0 (-1) P Q c)  (K : ∀ (c2 : ME), Iv 0 (-1) P Q c2 → (∀ (a : Nat) (j : Int), ¬ ((a = 3 ∧ j = 3) ∨ a = 4) → c2 a j = c a j) → ((c 3 3 ≤ 15 ∧ c2 3 3 = c 3 3 + 1) ∨ (c 3 3 ≥ 16 ∧ c2 3 3 = c 3 3)) → Z (.inl (none), Wd P Q P P c2, 0, 0)) : Wp sc (d + 8) 24 0 [(0, .ref 3), (1, .ref 37)] [] (Wd P Q P P c) 0 0 Z := by
  have hP := iv_P hI
  have hQ := iv_Q hI
  refine q_aload_n c_24_0 rfl (v_cv c_24_1 km_1_28 rfl rfl (Nat.le_of_ble_eq_true rfl) ⟨⟨rfl, rfl⟩, Nat.le_of_ble_eq_true rfl, rfl⟩ (Nat.le_of_ble_eq_true rfl) (Nat.le_of_ble_eq_true rfl) (q_aload_n c_23_0 rfl ?_))
  have h_1 := ir_3_3 hI
  refine v_gi (z := 3) (v := c 3 3) c_23_1 kf_1_21 rfl (Nat.le_of_ble_eq_true rfl) rfl rfl rfl (v_bip c_23_4 (of_decide_eq_true rfl) ?_)
  by_cases h_2 : c 3 3 < 16
  · refine v_ic_lt_t (t := 13) c_23_6 rfl ⟨(lel h_1.1 rfl), h_2, of_decide_eq_true rfl⟩ (q_iconst c_23_13 (v_zret c_23_14 rfl (of_decide_eq_true rfl) (bk_inl (v_if_ne_f (t := 38) c_24_4 rfl (of_decide_eq_true rfl) (q_aload_n c_24_7 rfl (v_gr (t := 38) c_24_8 kf_1_32 rfl (Nat.le_of_ble_eq_true rfl) rfl (q_iconst c_24_11 ?_)))))))
    refine q_aload_n c_24_12 rfl (v_gr (t := 4) c_24_13 kf_1_11 rfl (Nat.le_of_ble_eq_true rfl) rfl (q_aload_n c_24_16 rfl (v_gi (z := 3) (v := c 3 3) c_24_17 kf_1_21 rfl (Nat.le_of_ble_eq_true rfl) rfl rfl rfl (v_bip c_24_20 (of_decide_eq_true rfl) (v_imul (v := 34 * c 3 3) c_24_22 (by omega) (v_bip c_24_23 (of_decide_eq_true rfl) (v_cpy c_24_25 rfl rfl (of_decide_eq_true rfl) rfl (of_decide_eq_true rfl) rfl rfl (by omega) (Nat.le_of_ble_eq_true rfl) (by omega) ?_)))))))
    refine q_aload_n c_24_28 rfl (q_dup c_24_29 rfl (v_gi (z := 3) (v := c 3 3) c_24_30 kf_1_21 rfl (Nat.le_of_ble_eq_true rfl) rfl rfl (upc_c (by omega)) (q_iconst c_24_33 (v_iadd (v := c 3 3 + 1) c_24_34 rfl (v_pi (z := 3) c_24_35 kf_1_21 rfl (Nat.le_of_ble_eq_true rfl) rfl rfl rfl (of_decide_eq_true rfl) (q_vret rfl rfl ?_))))))
    have hI_3 := cp_38_4 (w := 34 * c 3 3) (i := c 3 3) hI (by omega) (by omega)
    have hI_4 := iw_3_3 (v := c 3 3 + 1) hI_3 ⟨(rgp_l h_1.1 (of_decide_eq_true rfl)), (q_b9b7f355a h_2)⟩
    have h_5 : (up (upc c 38 0 4 (34 * c 3 3) 34) 3 3 (c 3 3 + 1)) 3 3 = c 3 3 + 1 := (up_e rfl)
    exact K (up (upc c 38 0 4 (34 * c 3 3) 34) 3 3 (c 3 3 + 1)) hI_4 (fun a j hm => (up_b (Decidable.or_iff_not_imp_left.mpr (fun h1 h2 => hm (Or.inl ⟨Decidable.not_not.mp h1, h2⟩)))).trans (upc_c (fun h => hm (Or.inr h)))) (Or.inl ⟨(q_aa6ed1614 h_2), by first | assumption | omega⟩)
  · refine v_ic_lt_f (t := 13) c_23_6 rfl ⟨of_decide_eq_true rfl, (Int.not_lt.mp h_2), (ler h_1.2 rfl)⟩ (q_iconst c_23_9 (q_goto (t := 14) c_23_10 rfl (v_zret c_23_14 rfl (of_decide_eq_true rfl) (bk_inl (v_if_ne_t (t := 38) c_24_4 rfl (of_decide_eq_true rfl) (q_vret rfl rfl ?_))))))
    exact K c hI (fun a j hm => rfl) (Or.inr ⟨(q_d306fa533 h_2), by first | assumption | omega⟩)

set_option maxRecDepth 100000 in
set_option maxHeartbeats 4000000 in
theorem s_25 {sc : List Int32} {d P Q : Nat} {c : ME} {Z : AR → Prop} (hI : Iv 0 (-1) P Q c)  (K : ∀ (c2 : ME), Iv 0 (-1) P Q c2 → (∀ (a : Nat) (j : Int), ¬ ((a = 3 ∧ j = 3) ∨ a = 38) → c2 a j = c a j) → ((c 3 3 > 0 ∧ c2 3 3 = c 3 3 - 1) ∨ (c 3 3 ≤ 0 ∧ c2 3 3 = c 3 3)) → Z (.inl (none), Wd P Q P P c2, 0, 0)) : Wp sc (d + 7) 25 0 [(0, .ref 3), (1, .ref 37)] [] (Wd P Q P P c) 0 0 Z := by
  have hP := iv_P hI
  have hQ := iv_Q hI
  refine q_aload_n c_25_0 rfl ?_
  have h_1 := ir_3_3 hI
  refine v_gi (z := 3) (v := c 3 3) c_25_1 kf_1_21 rfl (Nat.le_of_ble_eq_true rfl) rfl rfl rfl ?_
  by_cases h_2 : c 3 3 ≤ 0
  · refine v_if_le_t (t := 38) c_25_4 rfl ⟨(lel h_1.1 rfl), h_2, of_decide_eq_true rfl⟩ (q_vret rfl rfl ?_)
    exact K c hI (fun a j hm => rfl) (Or.inr ⟨(q_f0d4f2762 h_2), by first | assumption | omega⟩)
  · refine v_if_le_f (t := 38) c_25_4 rfl ⟨of_decide_eq_true rfl, (Int.not_le.mp h_2), (ler h_1.2 rfl)⟩ (q_aload_n c_25_7 rfl (q_dup c_25_8 rfl (v_gi (z := 3) (v := c 3 3) c_25_9 kf_1_21 rfl (Nat.le_of_ble_eq_true rfl) rfl rfl rfl (q_iconst c_25_12 (v_isub (v := c 3 3 - 1) c_25_13 rfl (v_pi (z := 3) c_25_14 kf_1_21 rfl (Nat.le_of_ble_eq_true rfl) rfl rfl rfl (of_decide_eq_true rfl) (q_aload_n c_25_17 rfl ?_)))))))
    refine v_gr (t := 4) c_25_18 kf_1_11 rfl (Nat.le_of_ble_eq_true rfl) rfl (q_aload_n c_25_21 rfl (v_gi (z := 3) (v := c 3 3 - 1) c_25_22 kf_1_21 rfl (Nat.le_of_ble_eq_true rfl) rfl rfl (up_e rfl) (v_bip c_25_25 (of_decide_eq_true rfl) (v_imul (v := 34 * c 3 3 - 34) c_25_27 (by omega) (q_aload_n c_25_28 rfl (v_gr (t := 38) c_25_29 kf_1_32 rfl (Nat.le_of_ble_eq_true rfl) rfl (q_iconst c_25_32 ?_)))))))
    refine v_bip c_25_33 (of_decide_eq_true rfl) (v_cpy c_25_35 rfl rfl (of_decide_eq_true rfl) rfl (of_decide_eq_true rfl) rfl rfl (by omega) (Nat.le_of_ble_eq_true rfl) (by omega) (q_vret rfl rfl ?_))
    have hI_3 := iw_3_3 (v := c 3 3 - 1) hI ⟨(q_3ca0fc078 h_2), (rgm_h h_1.2 (of_decide_eq_true rfl))⟩
    have hI_4 := cp_4_38 (w := 34 * c 3 3 - 34) (i := c 3 3 - 1) hI_3 (by omega) (by omega)
    have h_5 : (upc (up c 3 3 (c 3 3 - 1)) 4 (34 * c 3 3 - 34) 38 0 34) 3 3 = c 3 3 - 1 := ((upc_c (by omega)).trans (up_e rfl))
    exact K (upc (up c 3 3 (c 3 3 - 1)) 4 (34 * c 3 3 - 34) 38 0 34) hI_4 (fun a j hm => (upc_c (fun h => hm (Or.inr h))).trans (up_b (Decidable.or_iff_not_imp_left.mpr (fun h1 h2 => hm (Or.inl ⟨Decidable.not_not.mp h1, h2⟩))))) (Or.inl ⟨(q_ca88f5637 h_2), by first | assumption | omega⟩)

set_option maxRecDepth 100000 in
set_option maxHeartbeats 4000000 in
theorem s_26 {sc : List Int32} {d P Q : Nat} {c : ME} {Z : AR → Prop} (hI : Iv 0 (-1) P Q c)  (K : ∀ (c2 : ME), Iv 0 (-1) P Q c2 → (∀ (a : Nat) (j : Int), ¬ ((a = 3 ∧ j = 4) ∨ a = 5 ∨ a = 6) → c2 a j = c a j) → ((c 3 4 ≤ 2 ∧ c2 3 4 = c 3 4 + 1) ∨ (c 3 4 ≥ 3 ∧ c2 3 4 = c 3 4)) → Z (.inl (none), Wd P Q P P c2, 0, 0)) : Wp sc (d + 7) 26 0 [(0, .ref 3), (1, .ref 37)] [] (Wd P Q P P c) 0 0 Z := by
  have hP := iv_P hI
  have hQ := iv_Q hI
  refine q_aload_n c_26_0 rfl ?_
  have h_1 := ir_3_4 hI
  refine v_gi (z := 4) (v := c 3 4) c_26_1 kf_1_25 rfl (Nat.le_of_ble_eq_true rfl) rfl rfl rfl (q_iconst c_26_4 ?_)
  by_cases h_2 : c 3 4 ≥ 3
  · refine v_ic_ge_t (t := 78) c_26_5 rfl ⟨of_decide_eq_true rfl, h_2, (ler h_1.2 rfl)⟩ (q_vret rfl rfl ?_)
    exact K c hI (fun a j hm => rfl) (Or.inr ⟨(q_67bc6dc49 h_2), by first | assumption | omega⟩)
  · refine v_ic_ge_f (t := 78) c_26_5 rfl ⟨(lel h_1.1 rfl), (Int.not_le.mp h_2), of_decide_eq_true rfl⟩ (q_aload_n c_26_8 rfl (v_gi (z := 4) (v := c 3 4) c_26_9 kf_1_25 rfl (Nat.le_of_ble_eq_true rfl) rfl rfl rfl (v_sip c_26_12 (of_decide_eq_true rfl) (v_imul (v := 578 * c 3 4) c_26_15 (by omega) (q_istore_n c_26_16 (Nat.le_of_ble_eq_true rfl) (q_aload_n c_26_17 rfl (v_gr (t := 38) c_26_18 kf_1_32 rfl (Nat.le_of_ble_eq_true rfl) rfl ?_)))))))
    refine q_iconst c_26_21 (q_aload_n c_26_22 rfl (v_gr (t := 5) c_26_23 kf_1_15 rfl (Nat.le_of_ble_eq_true rfl) rfl (q_iload_n c_26_26 rfl (v_bip c_26_27 (of_decide_eq_true rfl) (v_cpy c_26_29 rfl rfl (of_decide_eq_true rfl) rfl (of_decide_eq_true rfl) rfl rfl (by omega) (Nat.le_of_ble_eq_true rfl) (by omega) (q_aload_n c_26_32 rfl (v_gr (t := 4) c_26_33 kf_1_11 rfl (Nat.le_of_ble_eq_true rfl) rfl ?_)))))))
    refine q_iconst c_26_36 (q_aload_n c_26_37 rfl (v_gr (t := 5) c_26_38 kf_1_15 rfl (Nat.le_of_ble_eq_true rfl) rfl (q_iload_n c_26_41 rfl (v_bip c_26_42 (of_decide_eq_true rfl) (v_iadd (v := 578 * c 3 4 + 34) c_26_44 rfl (q_aload_n c_26_45 rfl ?_))))))
    have h_3 := ir_3_3 hI
    refine v_gi (z := 3) (v := c 3 3) c_26_46 kf_1_21 rfl (Nat.le_of_ble_eq_true rfl) rfl rfl (upc_c (by omega)) (v_bip c_26_49 (of_decide_eq_true rfl) (v_imul (v := 34 * c 3 3) c_26_51 (by omega) (v_cpy c_26_52 rfl rfl (of_decide_eq_true rfl) rfl (of_decide_eq_true rfl) rfl rfl (by omega) (Nat.le_of_ble_eq_true rfl) (by omega) (q_aload_n c_26_55 rfl (v_gr (t := 6) c_26_56 kf_1_18 rfl (Nat.le_of_ble_eq_true rfl) rfl (q_aload_n c_26_59 rfl (v_gi (z := 4) (v := c 3 4) c_26_60 kf_1_25 rfl (Nat.le_of_ble_eq_true rfl) rfl rfl ((upc_c (by omega)).trans (upc_c (by omega))) ?_)))))))
    refine q_aload_n c_26_63 rfl (v_gi (z := 3) (v := c 3 3) c_26_64 kf_1_21 rfl (Nat.le_of_ble_eq_true rfl) rfl rfl ((upc_c (by omega)).trans (upc_c (by omega))) (v_is c_26_67 rfl (of_decide_eq_true rfl) (of_decide_eq_true rfl) ⟨h_1.1, (q_c644f7bb7 h_2)⟩ (q_aload_n c_26_68 rfl (q_dup c_26_69 rfl (v_gi (z := 4) (v := c 3 4) c_26_70 kf_1_25 rfl (Nat.le_of_ble_eq_true rfl) rfl rfl ((up_c (nn rfl)).trans ((upc_c (by omega)).trans (upc_c (by omega)))) (q_iconst c_26_73 (v_iadd (v := c 3 4 + 1) c_26_74 rfl ?_)))))))
    refine v_pi (z := 4) c_26_75 kf_1_25 rfl (Nat.le_of_ble_eq_true rfl) rfl rfl rfl (of_decide_eq_true rfl) (q_vret rfl rfl ?_)
    have hI_4 := cp_38_5 (w := 578 * c 3 4) (i := c 3 4) hI (by omega) (by omega)
    have hI_5 := cp_4_5 (w := 578 * c 3 4 + 34) (i := c 3 4) (n := 34 * c 3 3) (k := c 3 3) hI_4 (by omega) (by omega) (by omega) (by omega)
    have hI_6 := iw_6 (j := c 3 4) (v := c 3 3) hI_5 ⟨h_3.1, h_3.2⟩
    have hI_7 := iw_3_4 (v := c 3 4 + 1) hI_6 ⟨(rgp_l h_1.1 (of_decide_eq_true rfl)), (q_d380ec9e8 h_2)⟩
    have h_8 : (up (up (upc (upc c 38 0 5 (578 * c 3 4) 34) 4 0 5 (578 * c 3 4 + 34) (34 * c 3 3)) 6 (c 3 4) (c 3 3)) 3 4 (c 3 4 + 1)) 3 4 = c 3 4 + 1 := (up_e rfl)
    exact K (up (up (upc (upc c 38 0 5 (578 * c 3 4) 34) 4 0 5 (578 * c 3 4 + 34) (34 * c 3 3)) 6 (c 3 4) (c 3 3)) 3 4 (c 3 4 + 1)) hI_7 (fun a j hm => (up_b (Decidable.or_iff_not_imp_left.mpr (fun h1 h2 => hm (Or.inl ⟨Decidable.not_not.mp h1, h2⟩)))).trans ((up_b (Decidable.or_iff_not_imp_left.mpr (fun h1 h2 => hm (Or.inr (Or.inr (Decidable.not_not.mp h1)))))).trans ((upc_c (fun h => hm (Or.inr (Or.inl h)))).trans (upc_c (fun h => hm (Or.inr (Or.inl h))))))) (Or.inl ⟨(q_1aec5e53f h_2), by first | assumption | omega⟩)

set_option maxRecDepth 100000 in
set_option maxHeartbeats 4000000 in
theorem s_27 {sc : List Int32} {d P Q : Nat} {c : ME} {Z : AR → Prop} (hI : Iv 0 (-1) P Q c)  (K : ∀ (c2 : ME), Iv 0 (-1) P Q c2 → (∀ (a : Nat) (j : Int), ¬ ((a = 3 ∧ j = 3) ∨ (a = 3 ∧ j = 4) ∨ a = 38 ∨ a = 4) → c2 a j = c a j) → ((c 3 4 > 0 ∧ c2 3 4 = c 3 4 - 1) ∨ (c 3 4 ≤ 0 ∧ c2 3 4 = c 3 4)) → Z (.inl (none), Wd P Q P P c2, 0, 0)) : Wp sc (d + 7) 27 0 [(0, .ref 3), (1, .ref 37)] [] (Wd P Q P P c) 0 0 Z := by
  have hP := iv_P hI
  have hQ := iv_Q hI
  refine q_aload_n c_27_0 rfl ?_
  have h_1 := ir_3_4 hI
  refine v_gi (z := 4) (v := c 3 4) c_27_1 kf_1_25 rfl (Nat.le_of_ble_eq_true rfl) rfl rfl rfl ?_
  by_cases h_2 : c 3 4 ≤ 0
  · refine v_if_le_t (t := 77) c_27_4 rfl ⟨(lel h_1.1 rfl), h_2, of_decide_eq_true rfl⟩ (q_vret rfl rfl ?_)
    exact K c hI (fun a j hm => rfl) (Or.inr ⟨(q_f0d4f2762 h_2), by first | assumption | omega⟩)
  · refine v_if_le_f (t := 77) c_27_4 rfl ⟨of_decide_eq_true rfl, (Int.not_le.mp h_2), (ler h_1.2 rfl)⟩ (q_aload_n c_27_7 rfl (q_dup c_27_8 rfl (v_gi (z := 4) (v := c 3 4) c_27_9 kf_1_25 rfl (Nat.le_of_ble_eq_true rfl) rfl rfl rfl (q_iconst c_27_12 (v_isub (v := c 3 4 - 1) c_27_13 rfl (v_pi (z := 4) c_27_14 kf_1_25 rfl (Nat.le_of_ble_eq_true rfl) rfl rfl rfl (of_decide_eq_true rfl) (q_aload_n c_27_17 rfl ?_)))))))
    refine q_aload_n c_27_18 rfl (v_gr (t := 6) c_27_19 kf_1_18 rfl (Nat.le_of_ble_eq_true rfl) rfl (q_aload_n c_27_22 rfl (v_gi (z := 4) (v := c 3 4 - 1) c_27_23 kf_1_25 rfl (Nat.le_of_ble_eq_true rfl) rfl rfl (up_e rfl) ?_)))
    have h_3 := ir_6 hI (c 3 4 - 1)
    refine v_ia (v := c 6 (c 3 4 - 1)) c_27_26 rfl (of_decide_eq_true rfl) (of_decide_eq_true rfl) ⟨(q_3ca0fc078 h_2), (q_6660ef6d1 h_1)⟩ (up_c (nn rfl)) (v_pi (z := 3) c_27_27 kf_1_21 rfl (Nat.le_of_ble_eq_true rfl) rfl rfl rfl (of_decide_eq_true rfl) (q_aload_n c_27_30 rfl (v_gi (z := 4) (v := c 3 4 - 1) c_27_31 kf_1_25 rfl (Nat.le_of_ble_eq_true rfl) rfl rfl ((up_n (ni rfl)).trans (up_e rfl)) (v_sip c_27_34 (of_decide_eq_true rfl) (v_imul (v := 578 * c 3 4 - 578) c_27_37 (by omega) (q_istore_n c_27_38 (Nat.le_of_ble_eq_true rfl) (q_aload_n c_27_39 rfl ?_)))))))
    refine v_gr (t := 5) c_27_40 kf_1_15 rfl (Nat.le_of_ble_eq_true rfl) rfl (q_iload_n c_27_43 rfl (q_aload_n c_27_44 rfl (v_gr (t := 38) c_27_45 kf_1_32 rfl (Nat.le_of_ble_eq_true rfl) rfl (q_iconst c_27_48 (v_bip c_27_49 (of_decide_eq_true rfl) (v_cpy c_27_51 rfl rfl (of_decide_eq_true rfl) rfl (of_decide_eq_true rfl) rfl rfl (by omega) (Nat.le_of_ble_eq_true rfl) (by omega) (q_aload_n c_27_54 rfl ?_)))))))
    refine v_gr (t := 5) c_27_55 kf_1_15 rfl (Nat.le_of_ble_eq_true rfl) rfl (q_iload_n c_27_58 rfl (v_bip c_27_59 (of_decide_eq_true rfl) (v_iadd (v := 578 * c 3 4 - 544) c_27_61 (by omega) (q_aload_n c_27_62 rfl (v_gr (t := 4) c_27_63 kf_1_11 rfl (Nat.le_of_ble_eq_true rfl) rfl (q_iconst c_27_66 (q_aload_n c_27_67 rfl ?_)))))))
    refine v_gi (z := 3) (v := c 6 (c 3 4 - 1)) c_27_68 kf_1_21 rfl (Nat.le_of_ble_eq_true rfl) rfl rfl ((upc_c (by omega)).trans (up_e rfl)) (v_bip c_27_71 (of_decide_eq_true rfl) (v_imul (v := 34 * c 6 (c 3 4 - 1)) c_27_73 (by omega) (v_cpy c_27_74 rfl rfl (of_decide_eq_true rfl) rfl (of_decide_eq_true rfl) rfl rfl (by omega) (Nat.le_of_ble_eq_true rfl) (by omega) (q_vret rfl rfl ?_))))
    have hI_4 := iw_3_4 (v := c 3 4 - 1) hI ⟨(q_3ca0fc078 h_2), (rgm_h h_1.2 (of_decide_eq_true rfl))⟩
    have hI_5 := iw_3_3 (v := c 6 (c 3 4 - 1)) hI_4 ⟨h_3.1, h_3.2⟩
    have hI_6 := cp_5_38 (w := 578 * c 3 4 - 578) (i := c 3 4 - 1) hI_5 (by omega) (by omega)
    have hI_7 := cp_5_4 (w := 578 * c 3 4 - 544) (i := c 3 4 - 1) (n := 34 * c 6 (c 3 4 - 1)) (k := c 6 (c 3 4 - 1)) hI_6 (by omega) (by omega) (by omega) (by omega)
    have h_8 : (upc (upc (up (up c 3 4 (c 3 4 - 1)) 3 3 (c 6 (c 3 4 - 1))) 5 (578 * c 3 4 - 578) 38 0 34) 5 (578 * c 3 4 - 544) 4 0 (34 * c 6 (c 3 4 - 1))) 3 4 = c 3 4 - 1 := ((upc_c (by omega)).trans ((upc_c (by omega)).trans ((up_n (ni rfl)).trans (up_e rfl))))
    exact K (upc (upc (up (up c 3 4 (c 3 4 - 1)) 3 3 (c 6 (c 3 4 - 1))) 5 (578 * c 3 4 - 578) 38 0 34) 5 (578 * c 3 4 - 544) 4 0 (34 * c 6 (c 3 4 - 1))) hI_7 (fun a j hm => (upc_c (fun h => hm (Or.inr (Or.inr (Or.inr h))))).trans ((upc_c (fun h => hm (Or.inr (Or.inr (Or.inl h))))).trans ((up_b (Decidable.or_iff_not_imp_left.mpr (fun h1 h2 => hm (Or.inl ⟨Decidable.not_not.mp h1, h2⟩)))).trans (up_b (Decidable.or_iff_not_imp_left.mpr (fun h1 h2 => hm (Or.inr (Or.inl ⟨Decidable.not_not.mp h1, h2⟩)))))))) (Or.inl ⟨(q_ca88f5637 h_2), by first | assumption | omega⟩)

set_option maxRecDepth 100000 in
set_option maxHeartbeats 4000000 in
theorem s_29 {sc : List Int32} {e : Int} {d u P Q A : Nat} {c : ME} {a1 : Int} {a2 : Int} {Z : AR → Prop} (hI : Iv u e P Q c) (hA : A = 13 ∨ A = 25) (ha1 : 0 ≤ a1 ∧ a1 ≤ 3) (ha2 : 0 ≤ a2 ∧ a2 ≤ 2) (K : ∀ (y : Int), 0 ≤ y ∧ y ≤ 10 → Z (.inl (some (vi y)), Wd P Q P P c, 0, 0)) : Wp sc (d + 7) 29 0 [(0, .ref A), (1, vi a1), (2, vi a2)] [] (Wd P Q P P c) 0 0 Z := by
  have hP := iv_P hI
  have hQ := iv_Q hI
  refine q_aload_n c_29_0 rfl (v_gr (t := (A + 2)) c_29_1 kf_2_19 (ck_p0 hA) (a68z hA) rfl (q_iload_n c_29_4 rfl (q_iconst c_29_5 (v_imul (v := 3 * a1) c_29_6 (by omega) (q_iload_n c_29_7 rfl (v_iadd (v := 3 * a1 + a2) c_29_8 rfl ?_))))))
  have h_1 := ir_p2 hI hA (3 * a1 + a2)
  refine v_ia (v := c (A + 2) (3 * a1 + a2)) c_29_9 (ck_p2 hA) (a68 hA rfl) (of_decide_eq_true rfl) ⟨(q_51965173a ha1 ha2), (q_d187370ec ha1 ha2)⟩ rfl (q_iret c_29_10 rfl ?_)
  exact K (c (A + 2) (3 * a1 + a2)) h_1

set_option maxRecDepth 100000 in
set_option maxHeartbeats 4000000 in
theorem s_30_l {sc : List Int32} {e : Int} {d u P Q A : Nat} {c : ME} {Z : AR → Prop} (hI : Iv u e P Q c) (hA : A = 13 ∨ A = 25) (K : ∀ (c2 : ME), Iv u e P Q c2 → (∀ (a : Nat) (j : Int), ¬ ((a = A ∧ j = 0) ∨ (a = A ∧ j = 1) ∨ (a = A ∧ j = 2) ∨ (a = A ∧ j = 3) ∨ (a = A ∧ j = 4) ∨ (a = A ∧ j = 5) ∨ a = (A + 6) ∨ (a = (A + 7) ∧ j = 4)) → c2 a j = c a j) → ((c2 A 0 = 0 ∧ c2 A 1 = 0 ∧ c2 A 2 = 0 ∧ c2 A 3 = 5 ∧ c2 A 4 = 0 ∧ c2 A 5 = 0)) → ((c2 (A + 7) 4 = 0)) → Z (.inl (none), Wd P Q P P c2, 0, 0)) : ∀ n : Nat, (∀ (c2 : ME) (v1 : Int), Iv u e P Q c2 → (∀ (a : Nat) (j : Int), ¬ ((a = A ∧ j = 0) ∨ (a = A ∧ j = 1) ∨ (a = A ∧ j = 2) ∨ (a = A ∧ j = 3) ∨ (a = A ∧ j = 4) ∨ (a = A ∧ j = 5) ∨ a = (A + 6) ∨ (a = (A + 7) ∧ j = 4)) → c2 a j = c a j) → 0 ≤ v1 ∧ v1 ≤ 4 → ((c2 A 0 = 0 ∧ c2 A 1 = 0 ∧ c2 A 2 = 0 ∧ c2 A 3 = 5 ∧ c2 A 4 = 0 ∧ c2 A 5 = 0)) → 9 - 2 * v1 < (n : Int) → Wp sc (d + 8) 30 32 [(0, .ref A), (1, vi v1)] [] (Wd P Q P P c2) 0 0 Z) := by
  intro n
  induction n with
  | zero => exact (by intro c2 v1 hI2 hF hv1 hx0 hm9; have hP := iv_P hI; have hQ := iv_Q hI; exfalso; omega)
  | succ n ih =>
    have hP := iv_P hI
    have hQ := iv_Q hI
    intro c2 v1 hI2 hF hv1 hx0 hm9
    have h_1 := ir_p0_0 hI2 hA
    have h_2 := ir_p0_1 hI2 hA
    have h_3 := ir_p0_2 hI2 hA
    have h_4 := ir_p0_3 hI2 hA
    have h_5 := ir_p0_4 hI2 hA
    have h_6 := ir_p0_5 hI2 hA
    refine q_iload_n c_30_32 rfl (q_iconst c_30_33 ?_)
    by_cases h_7 : v1 ≥ 4
    · refine v_ic_ge_t (t := 50) c_30_34 rfl ⟨of_decide_eq_true rfl, h_7, (ler hv1.2 rfl)⟩ (q_aload_n c_30_50 rfl (v_gr (t := (A + 7)) c_30_51 kf_2_37 (ck_p0 hA) (a68z hA) rfl (v_cv c_30_54 km_2_96 rfl (ck_p7 hA) (a68 hA rfl) ⟨⟨rfl, rfl⟩, of_decide_eq_true rfl, rfl⟩ (Nat.le_of_ble_eq_true rfl) (Nat.le_of_ble_eq_true rfl) (s_1 hI2 hA (fun c_8 hI_9 hF_10 h_11 => (bk_inl ?_))))))
      have h_12 := ir_p7_4 hI_9 hA
      refine q_vret rfl rfl ?_
      have kn_13 : Hid (c_8 A 0 = c2 A 0) := hF_10 A 0 (fun h => absurd h.1 (p0p rfl))
      have h_14 : c_8 A 0 = c2 A 0 := (hid kn_13)
      have kn_15 : Hid (c_8 A 1 = c2 A 1) := hF_10 A 1 (fun h => absurd h.1 (p0p rfl))
      have h_16 : c_8 A 1 = c2 A 1 := (hid kn_15)
      have kn_17 : Hid (c_8 A 2 = c2 A 2) := hF_10 A 2 (fun h => absurd h.1 (p0p rfl))
      have h_18 : c_8 A 2 = c2 A 2 := (hid kn_17)
      have kn_19 : Hid (c_8 A 3 = c2 A 3) := hF_10 A 3 (fun h => absurd h.1 (p0p rfl))
      have h_20 : c_8 A 3 = c2 A 3 := (hid kn_19)
      have kn_21 : Hid (c_8 A 4 = c2 A 4) := hF_10 A 4 (fun h => absurd h.1 (p0p rfl))
      have h_22 : c_8 A 4 = c2 A 4 := (hid kn_21)
      have kn_23 : Hid (c_8 A 5 = c2 A 5) := hF_10 A 5 (fun h => absurd h.1 (p0p rfl))
      have h_24 : c_8 A 5 = c2 A 5 := (hid kn_23)
      exact K c_8 hI_9 (fun a j hm => (hF_10 a j (fun h => hm (Or.inr (Or.inr (Or.inr (Or.inr (Or.inr (Or.inr (Or.inr h))))))))).trans (hF a j hm)) ⟨by omega, by omega, by omega, by omega, by omega, by omega⟩ ((q_1df19f1ee h_11 h_12))
    · refine v_ic_ge_f (t := 50) c_30_34 rfl ⟨(lel hv1.1 rfl), (Int.not_le.mp h_7), of_decide_eq_true rfl⟩ (q_aload_n c_30_37 rfl (v_gr (t := (A + 6)) c_30_38 kf_2_31 (ck_p0 hA) (a68z hA) rfl (q_iload_n c_30_41 rfl (q_iconst c_30_42 (v_is c_30_43 (ck_p6 hA) (a68 hA rfl) (of_decide_eq_true rfl) ⟨hv1.1, (q_2e808647e h_7)⟩ (v_iinc (v := v1 + 1) c_30_44 rfl (Nat.le_of_ble_eq_true rfl) rfl (q_goto (t := 32) c_30_47 rfl ?_)))))))
      have hI_25 := iw_p6 (j := v1) (v := (-1)) hI2 hA ⟨of_decide_eq_true rfl, of_decide_eq_true rfl⟩
      refine Wp_ls [(0, .ref A), (1, vi (v1 + 1))] (lsub_cons rfl (lsub_cons rfl lsub_nil)) ?_
      have h_26 : (up c2 (A + 6) v1 (-1)) A 0 = c2 A 0 := (up_c (p0p rfl))
      have h_27 : (up c2 (A + 6) v1 (-1)) A 1 = c2 A 1 := (up_c (p0p rfl))
      have h_28 : (up c2 (A + 6) v1 (-1)) A 2 = c2 A 2 := (up_c (p0p rfl))
      have h_29 : (up c2 (A + 6) v1 (-1)) A 3 = c2 A 3 := (up_c (p0p rfl))
      have h_30 : (up c2 (A + 6) v1 (-1)) A 4 = c2 A 4 := (up_c (p0p rfl))
      have h_31 : (up c2 (A + 6) v1 (-1)) A 5 = c2 A 5 := (up_c (p0p rfl))
      exact ih (up c2 (A + 6) v1 (-1)) (v1 + 1) hI_25 (fun a j hm => (up_b (Decidable.or_iff_not_imp_left.mpr (fun h1 h2 => hm (Or.inr (Or.inr (Or.inr (Or.inr (Or.inr (Or.inr (Or.inl (Decidable.not_not.mp h1))))))))))).trans (hF a j hm)) ⟨(rgp_l hv1.1 (of_decide_eq_true rfl)), (q_121241f94 h_7)⟩ ⟨by omega, by omega, by omega, by omega, by omega, by omega⟩ (by omega)
set_option maxRecDepth 100000 in
set_option maxHeartbeats 4000000 in
theorem s_30 {sc : List Int32} {e : Int} {d u P Q A : Nat} {c : ME} {Z : AR → Prop} (hI : Iv u e P Q c) (hA : A = 13 ∨ A = 25) (K : ∀ (c2 : ME), Iv u e P Q c2 → (∀ (a : Nat) (j : Int), ¬ ((a = A ∧ j = 0) ∨ (a = A ∧ j = 1) ∨ (a = A ∧ j = 2) ∨ (a = A ∧ j = 3) ∨ (a = A ∧ j = 4) ∨ (a = A ∧ j = 5) ∨ a = (A + 6) ∨ (a = (A + 7) ∧ j = 4)) → c2 a j = c a j) → ((c2 A 0 = 0 ∧ c2 A 1 = 0 ∧ c2 A 2 = 0 ∧ c2 A 3 = 5 ∧ c2 A 4 = 0 ∧ c2 A 5 = 0)) → ((c2 (A + 7) 4 = 0)) → Z (.inl (none), Wd P Q P P c2, 0, 0)) : Wp sc (d + 8) 30 0 [(0, .ref A)] [] (Wd P Q P P c) 0 0 Z := by
  have hP := iv_P hI
  have hQ := iv_Q hI
  refine q_aload_n c_30_0 rfl (q_iconst c_30_1 (v_pi (z := 0) c_30_2 kf_2_81 (ck_p0 hA) (a68z hA) rfl rfl rfl (of_decide_eq_true rfl) (q_aload_n c_30_5 rfl (q_iconst c_30_6 (v_pi (z := 1) c_30_7 kf_2_84 (ck_p0 hA) (a68z hA) rfl rfl rfl (of_decide_eq_true rfl) (q_aload_n c_30_10 rfl (q_iconst c_30_11 ?_)))))))
  refine v_pi (z := 2) c_30_12 kf_2_87 (ck_p0 hA) (a68z hA) rfl rfl rfl (of_decide_eq_true rfl) (q_aload_n c_30_15 rfl (q_iconst c_30_16 (v_pi (z := 3) c_30_17 kf_2_9 (ck_p0 hA) (a68z hA) rfl rfl rfl (of_decide_eq_true rfl) (q_aload_n c_30_20 rfl (q_iconst c_30_21 (v_pi (z := 4) c_30_22 kf_2_90 (ck_p0 hA) (a68z hA) rfl rfl rfl (of_decide_eq_true rfl) (q_aload_n c_30_25 rfl ?_)))))))
  refine q_iconst c_30_26 (v_pi (z := 5) c_30_27 kf_2_93 (ck_p0 hA) (a68z hA) rfl rfl rfl (of_decide_eq_true rfl) (q_iconst c_30_30 (q_istore_n c_30_31 (Nat.le_of_ble_eq_true rfl) ?_)))
  have hI_32 := iw_p0_0 (v := 0) hI hA ⟨of_decide_eq_true rfl, of_decide_eq_true rfl⟩
  have hI_33 := iw_p0_1 (v := 0) hI_32 hA ⟨of_decide_eq_true rfl, of_decide_eq_true rfl⟩
  have hI_34 := iw_p0_2 (v := 0) hI_33 hA ⟨of_decide_eq_true rfl, of_decide_eq_true rfl⟩
  have hI_35 := iw_p0_3 (v := 5) hI_34 hA ⟨of_decide_eq_true rfl, of_decide_eq_true rfl⟩
  have hI_36 := iw_p0_4 (v := 0) hI_35 hA ⟨of_decide_eq_true rfl, of_decide_eq_true rfl⟩ (fun j h1 h2 => by omega)
  have hI_37 := iw_p0_5 (v := 0) hI_36 hA ⟨of_decide_eq_true rfl, of_decide_eq_true rfl⟩
  refine Wp_ls [(0, .ref A), (1, vi 0)] (lsub_cons rfl (lsub_cons rfl lsub_nil)) ?_
  have h_38 : (up (up (up (up (up (up c A 0 0) A 1 0) A 2 0) A 3 5) A 4 0) A 5 0) A 0 = 0 := ((up_n (ni rfl)).trans ((up_n (ni rfl)).trans ((up_n (ni rfl)).trans ((up_n (ni rfl)).trans ((up_n (ni rfl)).trans (up_e rfl))))))
  have h_39 : (up (up (up (up (up (up c A 0 0) A 1 0) A 2 0) A 3 5) A 4 0) A 5 0) A 1 = 0 := ((up_n (ni rfl)).trans ((up_n (ni rfl)).trans ((up_n (ni rfl)).trans ((up_n (ni rfl)).trans (up_e rfl)))))
  have h_40 : (up (up (up (up (up (up c A 0 0) A 1 0) A 2 0) A 3 5) A 4 0) A 5 0) A 2 = 0 := ((up_n (ni rfl)).trans ((up_n (ni rfl)).trans ((up_n (ni rfl)).trans (up_e rfl))))
  have h_41 : (up (up (up (up (up (up c A 0 0) A 1 0) A 2 0) A 3 5) A 4 0) A 5 0) A 3 = 5 := ((up_n (ni rfl)).trans ((up_n (ni rfl)).trans (up_e rfl)))
  have h_42 : (up (up (up (up (up (up c A 0 0) A 1 0) A 2 0) A 3 5) A 4 0) A 5 0) A 4 = 0 := ((up_n (ni rfl)).trans (up_e rfl))
  have h_43 : (up (up (up (up (up (up c A 0 0) A 1 0) A 2 0) A 3 5) A 4 0) A 5 0) A 5 = 0 := (up_e rfl)
  exact (s_30_l (sc := sc) (d := d) hI hA K 12) (up (up (up (up (up (up c A 0 0) A 1 0) A 2 0) A 3 5) A 4 0) A 5 0) 0 hI_37 (fun a j hm => (up_b (Decidable.or_iff_not_imp_left.mpr (fun h1 h2 => hm (Or.inr (Or.inr (Or.inr (Or.inr (Or.inr (Or.inl ⟨Decidable.not_not.mp h1, h2⟩))))))))).trans ((up_b (Decidable.or_iff_not_imp_left.mpr (fun h1 h2 => hm (Or.inr (Or.inr (Or.inr (Or.inr (Or.inl ⟨Decidable.not_not.mp h1, h2⟩)))))))).trans ((up_b (Decidable.or_iff_not_imp_left.mpr (fun h1 h2 => hm (Or.inr (Or.inr (Or.inr (Or.inl ⟨Decidable.not_not.mp h1, h2⟩))))))).trans ((up_b (Decidable.or_iff_not_imp_left.mpr (fun h1 h2 => hm (Or.inr (Or.inr (Or.inl ⟨Decidable.not_not.mp h1, h2⟩)))))).trans ((up_b (Decidable.or_iff_not_imp_left.mpr (fun h1 h2 => hm (Or.inr (Or.inl ⟨Decidable.not_not.mp h1, h2⟩))))).trans (up_b (Decidable.or_iff_not_imp_left.mpr (fun h1 h2 => hm (Or.inl ⟨Decidable.not_not.mp h1, h2⟩))))))))) ⟨of_decide_eq_true rfl, of_decide_eq_true rfl⟩ ⟨by first | assumption | omega, by first | assumption | omega, by first | assumption | omega, by first | assumption | omega, by first | assumption | omega, by first | assumption | omega⟩ (by omega)

