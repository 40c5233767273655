section
/-! ===== contracts 1 ===== -/
theorem q_3b2b08511 {x0 : Int} (f0 : 0 ≤ x0 ∧ x0 ≤ 600) : (-2147483648) ≤ x0 := by omega
theorem q_3885e607f {x0 : Int} (f0 : 0 ≤ x0 ∧ x0 ≤ 600) : x0 ≤ 2147483647 := by omega
theorem q_364416c3d {x0 x1 : Int} (f0 : 0 ≤ x0 ∧ x0 ≤ 600) (f1 : ¬ (x1 ≥ x0)) : x1 < 600 := by omega
theorem q_cc1935a2a {x0 : Int} (f0 : (-2147483648) ≤ x0 ∧ x0 ≤ 2147483647) : (-2147483648) ≤ x0 := by omega
theorem q_4e52e4576 {x0 : Int} (f0 : (-2147483648) ≤ x0 ∧ x0 ≤ 2147483647) : x0 ≤ 2147483647 := by omega
theorem q_e9d2b66ad {x0 x1 : Int} (f0 : 0 ≤ x0 ∧ x0 ≤ 600) (f1 : ¬ (x1 ≥ x0)) : x1 + 1 ≤ 600 := by omega
theorem q_cea541e22 {x0 x1 : Int} (f0 : (x0 = x1)) : x0 = x1 := by omega
theorem q_cc605f3b6 {x0 : Int} (f0 : ¬ (x0 ≥ 150)) : x0 < 150 := by omega
theorem q_e92c430a0 {x0 : Int} (f0 : ¬ (x0 ≥ 150)) : x0 + 1 ≤ 150 := by omega
theorem q_993cab007 {x0 : Int} (f0 : ¬ (x0 < 48)) : (-2147483648) ≤ x0 := by omega
theorem q_96f87bb65 {x0 x1 x2 : Int} (f0 : (x0 = x1)) (f1 : ¬ (x1 ≥ x2)) : x0 < x2 := by omega
theorem q_646bc4652 {x0 : Int} (f0 : 0 ≤ x0 ∧ x0 ≤ 3) (f1 : x0 ≠ 0) : ¬ x0 = 0 := by omega
theorem q_59cb102df {x0 : Int} (f0 : 1 ≤ x0 ∧ x0 ≤ 3) : ¬ x0 = 0 := by omega
theorem qn_b782e6d88 : ¬ (((1 : Nat) = 1 ∧ (1 : Int) = 2) ∨ ((1 : Nat) = 1 ∧ (1 : Int) = 4) ∨ ((1 : Nat) = 1 ∧ (1 : Int) = 5)) := (fun q => q.elim (fun h => absurd h.2 (ni rfl)) (fun q => q.elim (fun h => absurd h.2 (ni rfl)) (fun h => absurd h.2 (ni rfl))))
theorem q_3bbf258e8 {x0 x1 : Int} (f0 : x0 ≤ x1) (f1 : (-1) ≤ x1 ∧ x1 ≤ 9999) : x0 ≤ 9999 := by omega
theorem q_514734711 {x0 x1 : Int} (f0 : x0 ≤ x1) : x0 ≤ x1 := by omega
theorem qv_7ce279f74 {a : Nat} {j : Int} (hm : ¬ ((a = 1 ∧ j = 2) ∨ (a = 1 ∧ j = 4) ∨ (a = 1 ∧ j = 5))) : ¬ ((a = 1 ∧ j = 4) ∨ (a = 1 ∧ j = 5)) := (fun q => q.elim (fun h => hm (Or.inr (Or.inl h))) (fun h => hm (Or.inr (Or.inr h))))
theorem qn_e2b123f84 {j : Int} : ¬ (((2 : Nat) = 1 ∧ j = 2) ∨ ((2 : Nat) = 1 ∧ j = 4) ∨ ((2 : Nat) = 1 ∧ j = 5)) := (fun q => q.elim (fun h => absurd h.1 (nn rfl)) (fun q => q.elim (fun h => absurd h.1 (nn rfl)) (fun h => absurd h.1 (nn rfl))))
theorem q_1a871867b {x0 : Int} : x0 * 10 = 10 * x0 := by omega
theorem q_e1ab7a985 {x0 x1 : Int} : 10 * x0 + (x1) = x1 + 10 * x0 := by omega
theorem q_06511f6df {x0 x1 : Int} (f0 : 0 ≤ x0 ∧ x0 ≤ 600) (f1 : 0 ≤ x1 ∧ x1 ≤ 600) : 0 ≤ x0 + x1 := by omega
theorem q_4a9017cbe {x0 x1 x2 : Int} (f0 : ¬ (x0 ≥ x1)) (f1 : (x2 + x1 ≤ 600)) : x2 + x0 < 600 := by omega
theorem q_831bb82af {x0 : Int} (f0 : ¬ (x0 < 97)) : (-2147483648) ≤ x0 := by omega
theorem q_88eaa90e3 {x0 : Int} (f0 : (x0 ≠ 0)) (f1 : 0 ≤ x0 ∧ x0 ≤ 3) : ¬ x0 = 0 := by omega
theorem q_95fe11e65 {x0 x1 : Int} (f0 : 0 ≤ x0 ∧ x0 ≤ 101) (f1 : 0 ≤ x1 ∧ x1 ≤ 101) : x1 - x0 ≤ 2147483647 := by omega
theorem q_7129fde9c {x0 x1 : Int} (f0 : 0 ≤ x0 ∧ x0 ≤ 600) (f1 : 0 ≤ x1 ∧ x1 ≤ 600) : (-2147483648) ≤ x1 - x0 := by omega
theorem q_2ad8cd73d {x0 x1 : Int} (f0 : 0 ≤ x0 ∧ x0 ≤ 600) (f1 : 0 ≤ x1 ∧ x1 ≤ 600) : x1 - x0 ≤ 2147483647 := by omega
theorem q_3bb02af3e {x0 : Int}  : x0 + 1 ≤ x0 + 1 := by omega
theorem q_78480ff12 {x0 x1 : Int} (f0 : ¬ (x0 > x1)) : x0 + 1 ≤ x1 + 1 := by omega
theorem q_9e10f4d12 {x0 x1 x2 x3 : Int} (f0 : ¬ (x0 - x1 ≠ x2 - x3)) (f1 : 0 ≤ x1 ∧ x1 ≤ 101) (f2 : 0 ≤ x0 ∧ x0 ≤ 101) : x2 - x3 ≤ 600 := by omega
theorem q_73a1117df {x0 x1 x2 x3 x4 : Int} (f0 : ¬ (x0 - x1 ≠ x2 - x3)) (f1 : ¬ (x0 > x4)) : x2 + x1 - x3 ≤ x4 := by omega
theorem q_c7aae8bb3 {x0 : Int} (f0 : 0 ≤ x0 ∧ x0 ≤ 600) : x0 ≤ 600 := by omega
theorem q_fdb951d2d {x0 : Int} (f0 : 0 ≤ x0 ∧ x0 ≤ 101) : 0 ≤ x0 := by omega
theorem q_eb1d20069 {x0 x1 : Int} (f0 : (x0 ≥ 0) ∨ (x1 ≠ 0)) (f1 : 0 ≤ x1 ∧ x1 ≤ 3) (f2 : x0 = (-1)) : ¬ x1 = 0 := by omega
theorem qv_59471db0f {A : Nat} {a : Nat} {j : Int} (hm : ¬ ((a = 1 ∧ j = 2) ∨ (a = 1 ∧ j = 4) ∨ (a = 1 ∧ j = 5) ∨ (a = (A + 7) ∧ j = 5) ∨ a = (A + 9))) : ¬ ((a = 1 ∧ j = 2) ∨ (a = 1 ∧ j = 4) ∨ (a = 1 ∧ j = 5)) := (fun q => q.elim (fun h => hm (Or.inl h)) (fun q => q.elim (fun h => hm (Or.inr (Or.inl h))) (fun h => hm (Or.inr (Or.inr (Or.inl h))))))
theorem qv_0a3016d09 {A : Nat} {a : Nat} {j : Int} (hm : ¬ ((a = 1 ∧ j = 2) ∨ (a = 1 ∧ j = 4) ∨ (a = 1 ∧ j = 5) ∨ (a = (A + 7) ∧ j = 5) ∨ a = (A + 9))) : ¬ ((a = 1 ∧ j = 4) ∨ (a = 1 ∧ j = 5)) := (fun q => q.elim (fun h => hm (Or.inr (Or.inl h))) (fun h => hm (Or.inr (Or.inr (Or.inl h)))))
theorem q_4faf85b99 {x0 : Int} : 2005 + x0 = x0 + 2005 := by omega
theorem q_3be0c8b98 {x0 : Int} : x0 + 2005 - 8 = x0 + 1997 := by omega
theorem q_3b235b8a8 {x0 : Int} (f0 : x0 ≥ 8) : 2000 ≤ x0 + 1997 := by omega
theorem qv_651880e32 {A : Nat} {a : Nat} {j : Int} (hm : ¬ ((a = 1 ∧ j = 2) ∨ (a = 1 ∧ j = 4) ∨ (a = 1 ∧ j = 5) ∨ (a = (A + 7) ∧ j = 5) ∨ a = (A + 9))) : ¬ ((a = (A + 7) ∧ j = 5) ∨ a = (A + 9)) := (fun q => q.elim (fun h => hm (Or.inr (Or.inr (Or.inr (Or.inl h))))) (fun h => hm (Or.inr (Or.inr (Or.inr (Or.inr h))))))
theorem q_18b0803a5 {x0 : Int} : 1000 + x0 = x0 + 1000 := by omega
theorem q_119c61ad1 {x0 : Int} (f0 : ¬ (x0 ≥ 8)) : x0 + 1000 < 1008 := by omega
theorem q_107d648c6 {x0 : Int} (f0 : 0 ≤ x0 ∧ x0 ≤ 3) : (-2147483648) ≤ x0 := by omega
theorem q_509aaa6b6 {x0 : Int} (f0 : 0 ≤ x0 ∧ x0 ≤ 3) : x0 ≤ 2147483647 := by omega
theorem q_14934a8f4 {x0 : Int} (f0 : (x0 ≤ 999) ∨ (x0 = 0)) : x0 ≤ 3000 := by omega
theorem q_40dfbb035 {x0 : Int} (f0 : (x0 ≤ 999) ∨ (x0 = 0)) : x0 < 1008 := by omega
theorem q_2774b03f8 {x0 : Int} : 2002 + x0 = x0 + 2002 := by omega
theorem q_587891240 {x0 : Int} : 2000 + x0 = x0 + 2000 := by omega
theorem qv_6f9c47781 {A : Nat} {a : Nat} {j : Int} (hm : ¬ ((a = 1 ∧ j = 2) ∨ (a = 1 ∧ j = 4) ∨ (a = 1 ∧ j = 5) ∨ (a = (A + 7) ∧ j = 5) ∨ a = (A + 9) ∨ (a = (A + 7) ∧ j = 4) ∨ a = (A + 8))) : ¬ ((a = 1 ∧ j = 2) ∨ (a = 1 ∧ j = 4) ∨ (a = 1 ∧ j = 5)) := (fun q => q.elim (fun h => hm (Or.inl h)) (fun q => q.elim (fun h => hm (Or.inr (Or.inl h))) (fun h => hm (Or.inr (Or.inr (Or.inl h))))))
theorem qv_ee4b54987 {A : Nat} {a : Nat} {j : Int} (hm : ¬ ((a = 1 ∧ j = 2) ∨ (a = 1 ∧ j = 4) ∨ (a = 1 ∧ j = 5) ∨ (a = (A + 7) ∧ j = 5) ∨ a = (A + 9) ∨ (a = (A + 7) ∧ j = 4) ∨ a = (A + 8))) : ¬ ((a = 1 ∧ j = 2) ∨ (a = 1 ∧ j = 4) ∨ (a = 1 ∧ j = 5) ∨ (a = (A + 7) ∧ j = 5) ∨ a = (A + 9)) := (fun q => q.elim (fun h => hm (Or.inl h)) (fun q => q.elim (fun h => hm (Or.inr (Or.inl h))) (fun q => q.elim (fun h => hm (Or.inr (Or.inr (Or.inl h)))) (fun q => q.elim (fun h => hm (Or.inr (Or.inr (Or.inr (Or.inl h))))) (fun h => hm (Or.inr (Or.inr (Or.inr (Or.inr (Or.inl h))))))))))
theorem qn_3e7b2eb2a {A : Nat} {j : Int} (hA : A = 13 ∨ A = 25) : ¬ (((A + 7) = 1 ∧ j = 2) ∨ ((A + 7) = 1 ∧ j = 4) ∨ ((A + 7) = 1 ∧ j = 5)) := (fun q => q.elim (fun h => absurd h.1 (np hA rfl rfl)) (fun q => q.elim (fun h => absurd h.1 (np hA rfl rfl)) (fun h => absurd h.1 (np hA rfl rfl))))
theorem q_47cb9e6c6 {x0 : Int} (f0 : 0 ≤ x0 ∧ x0 ≤ 150) : 0 ≤ x0 := by omega
theorem q_4ed2d8592 {x0 : Int} (f0 : 0 ≤ x0 ∧ x0 ≤ 150) : x0 ≤ 150 := by omega
theorem q_7c38ad3f6 {x0 : Int} (f0 : 0 ≤ x0 ∧ x0 ≤ 150) : (-2147483648) ≤ x0 := by omega
theorem q_059235c2c {x0 : Int} (f0 : x0 ≥ 0) : 0 ≤ x0 := by omega
theorem q_a6cbc6a20 {x0 : Int} (f0 : x0 ≤ 99) : x0 ≤ 99 := by omega
theorem q_b7d7f2b1a {x0 : Int} (f0 : 0 ≤ x0 ∧ x0 ≤ 150) : x0 ≤ 2147483647 := by omega
theorem q_8d9392337 {x0 x1 : Int} (f0 : 0 ≤ x0 ∧ x0 ≤ 150) (f1 : ¬ (x1 ≥ x0)) : x1 < 150 := by omega
theorem q_b47906294 {x0 x1 : Int} (f0 : 0 ≤ x0 ∧ x0 ≤ 150) (f1 : ¬ (x1 ≥ x0)) : x1 + 1 ≤ 150 := by omega
theorem q_10ec8978d {x0 : Int} : x0 + (-1) = x0 - 1 := by omega
theorem q_949859d9a {x0 : Int} : x0 - 1 - 1 = x0 - 2 := by omega
theorem q_3fd0c26f9 {x0 : Int} (f0 : ¬ (x0 ≤ 1)) : 0 ≤ x0 - 2 := by omega
theorem q_2d3808a94 {x0 : Int} (f0 : 0 ≤ x0 ∧ x0 ≤ 150) : x0 - 2 < 150 := by omega
theorem q_96d88faef {x0 : Int} (f0 : ¬ (x0 ≤ 1)) : 0 ≤ x0 - 1 := by omega
theorem q_8528fcf54 {x0 : Int} (f0 : 0 ≤ x0 ∧ x0 ≤ 150) : x0 - 1 < 150 := by omega
theorem q_efcdaf7e7 {x0 : Int} (f0 : x0 ≥ 2000) : (-2147483648) ≤ x0 := by omega
theorem q_8e843b4e6 {x0 : Int} (f0 : ¬ (x0 ≥ 2000)) : x0 ≤ 2147483647 := by omega
theorem q_3b6849c3a {x0 : Int} (f0 : x0 ≥ 1000) : 0 ≤ x0 - 1000 := by omega
theorem q_fe2e90aed {x0 : Int} (f0 : ¬ (x0 ≥ 2000)) (f1 : x0 < 1008 ∨ 2000 ≤ x0) : x0 - 1000 < 8 := by omega
theorem q_626295773 {x0 : Int} (f0 : ¬ (x0 ≥ 1000)) : x0 ≤ 2147483647 := by omega
theorem q_8c4697e7c {x0 x1 x2 x3 : Int} (f0 : 0 ≤ x0 ∧ x0 ≤ 9999) (f1 : 0 ≤ x1 ∧ x1 ≤ 9999) (f2 : 0 ≤ x2 ∧ x2 ≤ 9999) (f3 : 0 ≤ x3 ∧ x3 ≤ 9999) : (-2147483648) ≤ x0 + x1 + x2 + x3 := by omega
theorem q_46d991406 {x0 x1 x2 x3 : Int} (f0 : 0 ≤ x0 ∧ x0 ≤ 9999) (f1 : 0 ≤ x1 ∧ x1 ≤ 9999) (f2 : 0 ≤ x2 ∧ x2 ≤ 9999) (f3 : 0 ≤ x3 ∧ x3 ≤ 9999) : x0 + x1 + x2 + x3 ≤ 2147483647 := by omega
theorem q_3a12ae26c {x0 x1 x2 x3 : Int} (f0 : 0 ≤ x0 ∧ x0 ≤ 9999) (f1 : 0 ≤ x1 ∧ x1 ≤ 9999) (f2 : 0 ≤ x2 ∧ x2 ≤ 9999) (f3 : 0 ≤ x3 ∧ x3 ≤ 9999) : 0 ≤ x0 + x1 + x2 + x3 := by omega
theorem q_1bb4088f7 {x0 x1 x2 x3 : Int} (f0 : 0 ≤ x0 ∧ x0 ≤ 9999) (f1 : 0 ≤ x1 ∧ x1 ≤ 9999) (f2 : 0 ≤ x2 ∧ x2 ≤ 9999) (f3 : 0 ≤ x3 ∧ x3 ≤ 9999) : x0 + x1 + x2 + x3 ≤ 39996 := by omega
theorem q_cd0eab798 {x0 : Int} : x0 * 90 = 90 * x0 := by omega
theorem q_2366cb0ca {x0 : Int} : (x0) * 34 = 34 * x0 := by omega
theorem q_b9b7f355a {x0 : Int} (f0 : x0 < 16) : x0 + 1 ≤ 16 := by omega
theorem q_aa6ed1614 {x0 : Int} (f0 : x0 < 16) : x0 ≤ 15 := by omega
theorem q_d306fa533 {x0 : Int} (f0 : ¬ (x0 < 16)) : 16 ≤ x0 := by omega
theorem q_f0d4f2762 {x0 : Int} (f0 : x0 ≤ 0) : x0 ≤ 0 := by omega
theorem q_6ca2e01bb {x0 : Int} : (x0 - 1) * 34 = 34 * x0 - 34 := by omega
theorem q_3ca0fc078 {x0 : Int} (f0 : ¬ (x0 ≤ 0)) : 0 ≤ x0 - 1 := by omega
theorem q_ca88f5637 {x0 : Int} (f0 : ¬ (x0 ≤ 0)) : 0 < x0 := by omega
theorem q_67bc6dc49 {x0 : Int} (f0 : x0 ≥ 3) : 3 ≤ x0 := by omega
theorem q_5324f88d9 {x0 : Int} : (x0) * 578 = 578 * x0 := by omega
theorem q_c644f7bb7 {x0 : Int} (f0 : ¬ (x0 ≥ 3)) : x0 < 3 := by omega
theorem q_d380ec9e8 {x0 : Int} (f0 : ¬ (x0 ≥ 3)) : x0 + 1 ≤ 3 := by omega
theorem q_1aec5e53f {x0 : Int} (f0 : ¬ (x0 ≥ 3)) : x0 ≤ 2 := by omega
theorem q_6660ef6d1 {x0 : Int} (f0 : 0 ≤ x0 ∧ x0 ≤ 3) : x0 - 1 < 3 := by omega
theorem q_f70160e6b {x0 : Int} : (x0 - 1) * 578 = 578 * x0 - 578 := by omega
theorem q_47542a858 {x0 : Int} : 578 * x0 - 578 + 34 = 578 * x0 - 544 := by omega
theorem q_db648e259 {x0 : Int} : x0 * 3 = 3 * x0 := by omega
theorem q_51965173a {x0 x1 : Int} (f0 : 0 ≤ x0 ∧ x0 ≤ 3) (f1 : 0 ≤ x1 ∧ x1 ≤ 2) : 0 ≤ 3 * x0 + x1 := by omega
theorem q_d187370ec {x0 x1 : Int} (f0 : 0 ≤ x0 ∧ x0 ≤ 3) (f1 : 0 ≤ x1 ∧ x1 ≤ 2) : 3 * x0 + x1 < 12 := by omega
theorem q_1df19f1ee {x0 : Int} (f0 : (x0 = 0)) (f1 : 0 ≤ x0 ∧ x0 ≤ 150) : x0 = 0 := by omega
theorem q_2e808647e {x0 : Int} (f0 : ¬ (x0 ≥ 4)) : x0 < 4 := by omega
theorem q_121241f94 {x0 : Int} (f0 : ¬ (x0 ≥ 4)) : x0 + 1 ≤ 4 := by omega
theorem c_1_0 : mLk 1 0 = some (.aload_n 0, 1) := rfl
theorem c_1_1 : mLk 1 1 = some (.iconst 0, 1) := rfl
theorem c_1_2 : mLk 1 2 = some (.putfield 24, 3) := rfl
theorem c_3_0 : mLk 3 0 = some (.aload_n 0, 1) := rfl
theorem c_3_1 : mLk 3 1 = some (.getfield 35, 3) := rfl
theorem c_3_4 : mLk 3 4 = some (.aload_n 0, 1) := rfl
theorem c_3_5 : mLk 3 5 = some (.getfield 32, 3) := rfl
theorem c_3_8 : mLk 3 8 = some (.if_icmp .ge 30, 3) := rfl
theorem c_3_38 : mLk 3 38 = some (.aload_n 0, 1) := rfl
theorem c_3_39 : mLk 3 39 = some (.getfield 35, 3) := rfl
theorem c_3_42 : mLk 3 42 = some (.ireturn, 1) := rfl
theorem c_3_11 : mLk 3 11 = some (.aload_n 0, 1) := rfl
theorem c_3_12 : mLk 3 12 = some (.getfield 9, 3) := rfl
theorem c_3_15 : mLk 3 15 = some (.aload_n 0, 1) := rfl
theorem c_3_16 : mLk 3 16 = some (.getfield 35, 3) := rfl
theorem c_3_19 : mLk 3 19 = some (.baload, 1) := rfl
theorem c_3_20 : mLk 3 20 = some (.bipush 32, 2) := rfl
theorem c_3_22 : mLk 3 22 = some (.if_icmp .ne 16, 3) := rfl
theorem c_3_25 : mLk 3 25 = some (.aload_n 0, 1) := rfl
theorem c_3_26 : mLk 3 26 = some (.dup, 1) := rfl
theorem c_3_27 : mLk 3 27 = some (.getfield 35, 3) := rfl
theorem c_3_30 : mLk 3 30 = some (.iconst 1, 1) := rfl
theorem c_3_31 : mLk 3 31 = some (.iadd, 1) := rfl
theorem c_3_32 : mLk 3 32 = some (.putfield 35, 3) := rfl
theorem c_3_35 : mLk 3 35 = some (.goto (-35), 3) := rfl
theorem c_4_7 : mLk 4 7 = some (.iload_n 3, 1) := rfl
theorem c_4_8 : mLk 4 8 = some (.aload_n 1, 1) := rfl
theorem c_4_12 : mLk 4 12 = some (.if_icmp .ge 43, 3) := rfl
theorem c_4_55 : mLk 4 55 = some (.iconst (-1), 1) := rfl
theorem c_4_56 : mLk 4 56 = some (.ireturn, 1) := rfl
theorem c_4_15 : mLk 4 15 = some (.iload_n 2, 1) := rfl
theorem c_4_16 : mLk 4 16 = some (.aload_n 0, 1) := rfl
theorem c_4_17 : mLk 4 17 = some (.getfield 32, 3) := rfl
theorem c_4_20 : mLk 4 20 = some (.if_icmp .ge 35, 3) := rfl
theorem c_4_23 : mLk 4 23 = some (.aload_n 0, 1) := rfl
theorem c_4_24 : mLk 4 24 = some (.getfield 9, 3) := rfl
theorem c_4_27 : mLk 4 27 = some (.iload_n 2, 1) := rfl
theorem c_4_28 : mLk 4 28 = some (.baload, 1) := rfl
theorem c_4_29 : mLk 4 29 = some (.aload_n 1, 1) := rfl
theorem c_4_30 : mLk 4 30 = some (.iload_n 3, 1) := rfl
theorem c_4_31 : mLk 4 31 = some (.invokevirtual 61, 3) := rfl
theorem c_4_34 : mLk 4 34 = some (.if_icmp .ne 15, 3) := rfl
theorem c_4_49 : mLk 4 49 = some (.iinc 3 1, 3) := rfl
theorem c_4_52 : mLk 4 52 = some (.goto (-45), 3) := rfl
theorem c_4_37 : mLk 4 37 = some (.aload_n 0, 1) := rfl
theorem c_4_38 : mLk 4 38 = some (.dup, 1) := rfl
theorem c_4_39 : mLk 4 39 = some (.getfield 35, 3) := rfl
theorem c_4_42 : mLk 4 42 = some (.iconst 1, 1) := rfl
theorem c_4_43 : mLk 4 43 = some (.iadd, 1) := rfl
theorem c_4_44 : mLk 4 44 = some (.putfield 35, 3) := rfl
theorem c_4_47 : mLk 4 47 = some (.iload_n 3, 1) := rfl
theorem c_4_48 : mLk 4 48 = some (.ireturn, 1) := rfl
theorem c_4_0 : mLk 4 0 = some (.aload_n 0, 1) := rfl
theorem c_4_1 : mLk 4 1 = some (.invokevirtual 41, 3) := rfl
theorem c_4_4 : mLk 4 4 = some (.istore_n 2, 1) := rfl
theorem c_4_5 : mLk 4 5 = some (.iconst 0, 1) := rfl
theorem c_4_6 : mLk 4 6 = some (.istore_n 3, 1) := rfl
theorem c_5_0 : mLk 5 0 = some (.aload_n 0, 1) := rfl
theorem c_5_1 : mLk 5 1 = some (.getfield 28, 3) := rfl
theorem c_5_4 : mLk 5 4 = some (.aload_n 0, 1) := rfl
theorem c_5_5 : mLk 5 5 = some (.getfield 15, 3) := rfl
theorem c_5_8 : mLk 5 8 = some (.arraylength, 1) := rfl
theorem c_5_9 : mLk 5 9 = some (.if_icmp .ge 23, 3) := rfl
theorem c_5_12 : mLk 5 12 = some (.aload_n 0, 1) := rfl
theorem c_5_13 : mLk 5 13 = some (.getfield 15, 3) := rfl
theorem c_5_16 : mLk 5 16 = some (.aload_n 0, 1) := rfl
theorem c_5_17 : mLk 5 17 = some (.getfield 28, 3) := rfl
theorem c_5_20 : mLk 5 20 = some (.iload_n 1, 1) := rfl
theorem c_5_21 : mLk 5 21 = some (.iastore, 1) := rfl
theorem c_5_22 : mLk 5 22 = some (.aload_n 0, 1) := rfl
theorem c_5_23 : mLk 5 23 = some (.dup, 1) := rfl
theorem c_5_24 : mLk 5 24 = some (.getfield 28, 3) := rfl
theorem c_5_27 : mLk 5 27 = some (.iconst 1, 1) := rfl
theorem c_5_28 : mLk 5 28 = some (.iadd, 1) := rfl
theorem c_5_29 : mLk 5 29 = some (.putfield 28, 3) := rfl
theorem c_6_0 : mLk 6 0 = some (.aload_n 0, 1) := rfl
theorem c_6_1 : mLk 6 1 = some (.invokevirtual 41, 3) := rfl
theorem c_6_4 : mLk 6 4 = some (.istore_n 1, 1) := rfl
theorem c_6_5 : mLk 6 5 = some (.iload_n 1, 1) := rfl
theorem c_6_6 : mLk 6 6 = some (.aload_n 0, 1) := rfl
theorem c_6_7 : mLk 6 7 = some (.getfield 32, 3) := rfl
theorem c_6_10 : mLk 6 10 = some (.if_icmp .ge 29, 3) := rfl
theorem c_6_39 : mLk 6 39 = some (.iconst 0, 1) := rfl
theorem c_6_40 : mLk 6 40 = some (.ireturn, 1) := rfl
theorem c_6_13 : mLk 6 13 = some (.aload_n 0, 1) := rfl
theorem c_6_14 : mLk 6 14 = some (.getfield 9, 3) := rfl
theorem c_6_17 : mLk 6 17 = some (.iload_n 1, 1) := rfl
theorem c_6_18 : mLk 6 18 = some (.baload, 1) := rfl
theorem c_6_19 : mLk 6 19 = some (.bipush 48, 2) := rfl
theorem c_6_21 : mLk 6 21 = some (.if_icmp .lt 18, 3) := rfl
theorem c_6_24 : mLk 6 24 = some (.aload_n 0, 1) := rfl
theorem c_6_25 : mLk 6 25 = some (.getfield 9, 3) := rfl
theorem c_6_28 : mLk 6 28 = some (.iload_n 1, 1) := rfl
theorem c_6_29 : mLk 6 29 = some (.baload, 1) := rfl
theorem c_6_30 : mLk 6 30 = some (.bipush 57, 2) := rfl
theorem c_6_32 : mLk 6 32 = some (.if_icmp .gt 7, 3) := rfl
theorem c_6_35 : mLk 6 35 = some (.iconst 1, 1) := rfl
theorem c_6_36 : mLk 6 36 = some (.goto 4, 3) := rfl
theorem c_7_0 : mLk 7 0 = some (.aload_n 0, 1) := rfl
theorem c_7_1 : mLk 7 1 = some (.getfield 38, 3) := rfl
theorem c_7_4 : mLk 7 4 = some (.ifCond .ne 13, 3) := rfl
theorem c_7_7 : mLk 7 7 = some (.aload_n 0, 1) := rfl
theorem c_7_8 : mLk 7 8 = some (.iload_n 1, 1) := rfl
theorem c_7_9 : mLk 7 9 = some (.putfield 38, 3) := rfl
theorem c_7_12 : mLk 7 12 = some (.aload_n 0, 1) := rfl
theorem c_7_13 : mLk 7 13 = some (.iload_n 2, 1) := rfl
theorem c_7_14 : mLk 7 14 = some (.putfield 15, 3) := rfl
theorem c_8_34 : mLk 8 34 = some (.aload_n 0, 1) := rfl
theorem c_8_35 : mLk 8 35 = some (.getfield 35, 3) := rfl
theorem c_8_38 : mLk 8 38 = some (.aload_n 0, 1) := rfl
theorem c_8_39 : mLk 8 39 = some (.getfield 32, 3) := rfl
theorem c_8_42 : mLk 8 42 = some (.if_icmp .ge 67, 3) := rfl
theorem c_8_109 : mLk 8 109 = some (.iload_n 3, 1) := rfl
theorem c_8_110 : mLk 8 110 = some (.iload_n 1, 1) := rfl
theorem c_8_111 : mLk 8 111 = some (.if_icmp .le 11, 3) := rfl
theorem c_8_122 : mLk 8 122 = some (.iload_n 3, 1) := rfl
theorem c_8_123 : mLk 8 123 = some (.ireturn, 1) := rfl
theorem c_8_114 : mLk 8 114 = some (.aload_n 0, 1) := rfl
theorem c_8_115 : mLk 8 115 = some (.iconst 2, 1) := rfl
theorem c_8_116 : mLk 8 116 = some (.iload_n 2, 1) := rfl
theorem c_8_117 : mLk 8 117 = some (.invokevirtual 52, 3) := rfl
theorem c_8_120 : mLk 8 120 = some (.iconst 0, 1) := rfl
theorem c_8_121 : mLk 8 121 = some (.ireturn, 1) := rfl
theorem c_8_45 : mLk 8 45 = some (.aload_n 0, 1) := rfl
theorem c_8_46 : mLk 8 46 = some (.getfield 9, 3) := rfl
theorem c_8_49 : mLk 8 49 = some (.aload_n 0, 1) := rfl
theorem c_8_50 : mLk 8 50 = some (.getfield 35, 3) := rfl
theorem c_8_53 : mLk 8 53 = some (.baload, 1) := rfl
theorem c_8_54 : mLk 8 54 = some (.bipush 48, 2) := rfl
theorem c_8_56 : mLk 8 56 = some (.if_icmp .lt 53, 3) := rfl
theorem c_8_59 : mLk 8 59 = some (.aload_n 0, 1) := rfl
theorem c_8_60 : mLk 8 60 = some (.getfield 9, 3) := rfl
theorem c_8_63 : mLk 8 63 = some (.aload_n 0, 1) := rfl
theorem c_8_64 : mLk 8 64 = some (.getfield 35, 3) := rfl
theorem c_8_67 : mLk 8 67 = some (.baload, 1) := rfl
theorem c_8_68 : mLk 8 68 = some (.bipush 57, 2) := rfl
theorem c_8_70 : mLk 8 70 = some (.if_icmp .gt 39, 3) := rfl
theorem c_8_73 : mLk 8 73 = some (.iload_n 3, 1) := rfl
theorem c_8_74 : mLk 8 74 = some (.bipush 10, 2) := rfl
theorem c_8_76 : mLk 8 76 = some (.imul, 1) := rfl
theorem c_8_77 : mLk 8 77 = some (.aload_n 0, 1) := rfl
theorem c_8_78 : mLk 8 78 = some (.getfield 9, 3) := rfl
theorem c_8_81 : mLk 8 81 = some (.aload_n 0, 1) := rfl
theorem c_8_82 : mLk 8 82 = some (.getfield 35, 3) := rfl
theorem c_8_85 : mLk 8 85 = some (.baload, 1) := rfl
theorem c_8_86 : mLk 8 86 = some (.iadd, 1) := rfl
theorem c_8_87 : mLk 8 87 = some (.bipush 48, 2) := rfl
theorem c_8_89 : mLk 8 89 = some (.isub, 1) := rfl
theorem c_8_90 : mLk 8 90 = some (.ldc 72, 2) := rfl
theorem c_8_92 : mLk 8 92 = some (.invokestatic 26, 3) := rfl
theorem c_8_95 : mLk 8 95 = some (.istore_n 3, 1) := rfl
theorem c_8_96 : mLk 8 96 = some (.aload_n 0, 1) := rfl
theorem c_8_97 : mLk 8 97 = some (.dup, 1) := rfl
theorem c_8_98 : mLk 8 98 = some (.getfield 35, 3) := rfl
theorem c_8_101 : mLk 8 101 = some (.iconst 1, 1) := rfl
theorem c_8_102 : mLk 8 102 = some (.iadd, 1) := rfl
theorem c_8_103 : mLk 8 103 = some (.putfield 35, 3) := rfl
theorem c_8_106 : mLk 8 106 = some (.goto (-72), 3) := rfl
theorem c_8_0 : mLk 8 0 = some (.aload_n 0, 1) := rfl
theorem c_8_1 : mLk 8 1 = some (.invokevirtual 45, 3) := rfl
theorem c_2_0 : mLk 2 0 = some (.aload_n 0, 1) := rfl
theorem c_2_1 : mLk 2 1 = some (.getfield 38, 3) := rfl
theorem c_2_4 : mLk 2 4 = some (.ifCond .ne 7, 3) := rfl
theorem c_2_11 : mLk 2 11 = some (.iconst 0, 1) := rfl
theorem c_2_12 : mLk 2 12 = some (.ireturn, 1) := rfl
theorem c_8_4 : mLk 8 4 = some (.ifCond .ne 5, 3) := rfl
theorem c_8_7 : mLk 8 7 = some (.iconst 0, 1) := rfl
theorem c_8_8 : mLk 8 8 = some (.ireturn, 1) := rfl
theorem c_2_7 : mLk 2 7 = some (.iconst 1, 1) := rfl
theorem c_2_8 : mLk 2 8 = some (.goto 4, 3) := rfl
theorem c_8_9 : mLk 8 9 = some (.aload_n 0, 1) := rfl
theorem c_8_10 : mLk 8 10 = some (.invokevirtual 69, 3) := rfl
theorem c_8_13 : mLk 8 13 = some (.ifCond .ne 14, 3) := rfl
theorem c_8_27 : mLk 8 27 = some (.aload_n 0, 1) := rfl
theorem c_8_28 : mLk 8 28 = some (.getfield 35, 3) := rfl
theorem c_8_31 : mLk 8 31 = some (.istore_n 2, 1) := rfl
theorem c_8_32 : mLk 8 32 = some (.iconst 0, 1) := rfl
theorem c_8_33 : mLk 8 33 = some (.istore_n 3, 1) := rfl
theorem c_8_16 : mLk 8 16 = some (.aload_n 0, 1) := rfl
theorem c_8_17 : mLk 8 17 = some (.iconst 1, 1) := rfl
theorem c_8_18 : mLk 8 18 = some (.aload_n 0, 1) := rfl
theorem c_8_19 : mLk 8 19 = some (.getfield 35, 3) := rfl
theorem c_8_22 : mLk 8 22 = some (.invokevirtual 52, 3) := rfl
theorem c_8_25 : mLk 8 25 = some (.iconst 0, 1) := rfl
theorem c_8_26 : mLk 8 26 = some (.ireturn, 1) := rfl
theorem c_9_3 : mLk 9 3 = some (.iload 5, 2) := rfl
theorem c_9_5 : mLk 9 5 = some (.iload 4, 2) := rfl
theorem c_9_7 : mLk 9 7 = some (.if_icmp .ge 31, 3) := rfl
theorem c_9_38 : mLk 9 38 = some (.iconst 1, 1) := rfl
theorem c_9_39 : mLk 9 39 = some (.ireturn, 1) := rfl
theorem c_9_10 : mLk 9 10 = some (.aload_n 1, 1) := rfl
theorem c_9_11 : mLk 9 11 = some (.iload_n 2, 1) := rfl
theorem c_9_12 : mLk 9 12 = some (.iload 5, 2) := rfl
theorem c_9_14 : mLk 9 14 = some (.iadd, 1) := rfl
theorem c_9_15 : mLk 9 15 = some (.invokevirtual 61, 3) := rfl
theorem c_9_18 : mLk 9 18 = some (.aload_n 0, 1) := rfl
theorem c_9_19 : mLk 9 19 = some (.getfield 9, 3) := rfl
theorem c_9_22 : mLk 9 22 = some (.iload_n 3, 1) := rfl
theorem c_9_23 : mLk 9 23 = some (.iload 5, 2) := rfl
theorem c_9_25 : mLk 9 25 = some (.iadd, 1) := rfl
theorem c_9_26 : mLk 9 26 = some (.baload, 1) := rfl
theorem c_9_27 : mLk 9 27 = some (.if_icmp .eq 5, 3) := rfl
theorem c_9_32 : mLk 9 32 = some (.iinc 5 1, 3) := rfl
theorem c_9_35 : mLk 9 35 = some (.goto (-32), 3) := rfl
theorem c_9_30 : mLk 9 30 = some (.iconst 0, 1) := rfl
theorem c_9_31 : mLk 9 31 = some (.ireturn, 1) := rfl
theorem c_9_0 : mLk 9 0 = some (.iconst 0, 1) := rfl
theorem c_9_1 : mLk 9 1 = some (.istore 5, 2) := rfl
theorem c_10_7 : mLk 10 7 = some (.iload_n 3, 1) := rfl
theorem c_10_8 : mLk 10 8 = some (.aload_n 0, 1) := rfl
theorem c_10_9 : mLk 10 9 = some (.getfield 32, 3) := rfl
theorem c_10_12 : mLk 10 12 = some (.if_icmp .ge 31, 3) := rfl
theorem c_10_43 : mLk 10 43 = some (.iconst 0, 1) := rfl
theorem c_10_44 : mLk 10 44 = some (.istore 4, 2) := rfl
theorem c_10_46 : mLk 10 46 = some (.iconst 0, 1) := rfl
theorem c_10_47 : mLk 10 47 = some (.istore 5, 2) := rfl
theorem c_10_49 : mLk 10 49 = some (.iconst 0, 1) := rfl
theorem c_10_50 : mLk 10 50 = some (.istore 6, 2) := rfl
theorem c_10_15 : mLk 10 15 = some (.aload_n 0, 1) := rfl
theorem c_10_16 : mLk 10 16 = some (.getfield 9, 3) := rfl
theorem c_10_19 : mLk 10 19 = some (.iload_n 3, 1) := rfl
theorem c_10_20 : mLk 10 20 = some (.baload, 1) := rfl
theorem c_10_21 : mLk 10 21 = some (.bipush 97, 2) := rfl
theorem c_10_23 : mLk 10 23 = some (.if_icmp .lt 20, 3) := rfl
theorem c_10_26 : mLk 10 26 = some (.aload_n 0, 1) := rfl
theorem c_10_27 : mLk 10 27 = some (.getfield 9, 3) := rfl
theorem c_10_30 : mLk 10 30 = some (.iload_n 3, 1) := rfl
theorem c_10_31 : mLk 10 31 = some (.baload, 1) := rfl
theorem c_10_32 : mLk 10 32 = some (.bipush 122, 2) := rfl
theorem c_10_34 : mLk 10 34 = some (.if_icmp .gt 9, 3) := rfl
theorem c_10_37 : mLk 10 37 = some (.iinc 3 1, 3) := rfl
theorem c_10_40 : mLk 10 40 = some (.goto (-33), 3) := rfl
theorem c_10_52 : mLk 10 52 = some (.iload 6, 2) := rfl
theorem c_10_54 : mLk 10 54 = some (.aload_n 1, 1) := rfl
theorem c_10_58 : mLk 10 58 = some (.if_icmp .gt 78, 3) := rfl
theorem c_10_136 : mLk 10 136 = some (.aload_n 0, 1) := rfl
theorem c_10_137 : mLk 10 137 = some (.iconst 1, 1) := rfl
theorem c_10_138 : mLk 10 138 = some (.iload_n 2, 1) := rfl
theorem c_10_139 : mLk 10 139 = some (.invokevirtual 52, 3) := rfl
theorem c_10_142 : mLk 10 142 = some (.iconst (-1), 1) := rfl
theorem c_10_143 : mLk 10 143 = some (.ireturn, 1) := rfl
theorem c_10_61 : mLk 10 61 = some (.aload_n 0, 1) := rfl
theorem c_10_62 : mLk 10 62 = some (.invokevirtual 45, 3) := rfl
theorem c_10_65 : mLk 10 65 = some (.ifCond .eq 71, 3) := rfl
theorem c_10_68 : mLk 10 68 = some (.iload 6, 2) := rfl
theorem c_10_70 : mLk 10 70 = some (.aload_n 1, 1) := rfl
theorem c_10_74 : mLk 10 74 = some (.if_icmp .eq 14, 3) := rfl
theorem c_10_88 : mLk 10 88 = some (.iload 6, 2) := rfl
theorem c_10_90 : mLk 10 90 = some (.iload 5, 2) := rfl
theorem c_10_92 : mLk 10 92 = some (.isub, 1) := rfl
theorem c_10_93 : mLk 10 93 = some (.iload_n 3, 1) := rfl
theorem c_10_94 : mLk 10 94 = some (.iload_n 2, 1) := rfl
theorem c_10_95 : mLk 10 95 = some (.isub, 1) := rfl
theorem c_10_96 : mLk 10 96 = some (.if_icmp .ne 25, 3) := rfl
theorem c_10_121 : mLk 10 121 = some (.iinc 4 1, 3) := rfl
theorem c_10_124 : mLk 10 124 = some (.iload 6, 2) := rfl
theorem c_10_126 : mLk 10 126 = some (.iconst 1, 1) := rfl
theorem c_10_127 : mLk 10 127 = some (.iadd, 1) := rfl
theorem c_10_128 : mLk 10 128 = some (.istore 5, 2) := rfl
theorem c_10_130 : mLk 10 130 = some (.iinc 6 1, 3) := rfl
theorem c_10_133 : mLk 10 133 = some (.goto (-81), 3) := rfl
theorem c_10_99 : mLk 10 99 = some (.aload_n 0, 1) := rfl
theorem c_10_100 : mLk 10 100 = some (.aload_n 1, 1) := rfl
theorem c_10_101 : mLk 10 101 = some (.iload 5, 2) := rfl
theorem c_10_103 : mLk 10 103 = some (.iload_n 2, 1) := rfl
theorem c_10_104 : mLk 10 104 = some (.iload_n 3, 1) := rfl
theorem c_10_105 : mLk 10 105 = some (.iload_n 2, 1) := rfl
theorem c_10_106 : mLk 10 106 = some (.isub, 1) := rfl
theorem c_10_107 : mLk 10 107 = some (.invokevirtual 73, 3) := rfl
theorem c_10_110 : mLk 10 110 = some (.ifCond .eq 11, 3) := rfl
theorem c_10_113 : mLk 10 113 = some (.aload_n 0, 1) := rfl
theorem c_10_114 : mLk 10 114 = some (.iload_n 3, 1) := rfl
theorem c_10_115 : mLk 10 115 = some (.putfield 35, 3) := rfl
theorem c_10_118 : mLk 10 118 = some (.iload 4, 2) := rfl
theorem c_10_120 : mLk 10 120 = some (.ireturn, 1) := rfl
theorem c_10_77 : mLk 10 77 = some (.aload_n 1, 1) := rfl
theorem c_10_78 : mLk 10 78 = some (.iload 6, 2) := rfl
theorem c_10_80 : mLk 10 80 = some (.invokevirtual 61, 3) := rfl
theorem c_10_83 : mLk 10 83 = some (.bipush 32, 2) := rfl
theorem c_10_85 : mLk 10 85 = some (.if_icmp .ne 45, 3) := rfl
theorem c_10_0 : mLk 10 0 = some (.aload_n 0, 1) := rfl
theorem c_10_1 : mLk 10 1 = some (.invokevirtual 41, 3) := rfl
theorem c_10_4 : mLk 10 4 = some (.istore_n 2, 1) := rfl
theorem c_10_5 : mLk 10 5 = some (.iload_n 2, 1) := rfl
theorem c_10_6 : mLk 10 6 = some (.istore_n 3, 1) := rfl
theorem c_11_0 : mLk 11 0 = some (.aload_n 0, 1) := rfl
theorem c_11_1 : mLk 11 1 = some (.invokevirtual 45, 3) := rfl
theorem c_11_4 : mLk 11 4 = some (.ifCond .eq 21, 3) := rfl
theorem c_11_7 : mLk 11 7 = some (.aload_n 0, 1) := rfl
theorem c_11_8 : mLk 11 8 = some (.aload_n 1, 1) := rfl
theorem c_11_9 : mLk 11 9 = some (.invokevirtual 65, 3) := rfl
theorem c_11_12 : mLk 11 12 = some (.iconst (-1), 1) := rfl
theorem c_11_13 : mLk 11 13 = some (.if_icmp .ne 12, 3) := rfl
theorem c_11_16 : mLk 11 16 = some (.aload_n 0, 1) := rfl
theorem c_11_17 : mLk 11 17 = some (.iconst 1, 1) := rfl
theorem c_11_18 : mLk 11 18 = some (.aload_n 0, 1) := rfl
theorem c_11_19 : mLk 11 19 = some (.getfield 35, 3) := rfl
theorem c_11_22 : mLk 11 22 = some (.invokevirtual 52, 3) := rfl
theorem c_14_0 : mLk 14 0 = some (.aload_n 1, 1) := rfl
theorem c_14_1 : mLk 14 1 = some (.invokevirtual 68, 3) := rfl
theorem c_14_4 : mLk 14 4 = some (.ifCond .eq 15, 3) := rfl
theorem c_14_19 : mLk 14 19 = some (.aload_n 1, 1) := rfl
theorem c_14_20 : mLk 14 20 = some (.invokevirtual 75, 3) := rfl
theorem c_14_23 : mLk 14 23 = some (.istore_n 3, 1) := rfl
theorem c_14_24 : mLk 14 24 = some (.aload_n 1, 1) := rfl
theorem c_14_25 : mLk 14 25 = some (.ldc 79, 2) := rfl
theorem c_14_27 : mLk 14 27 = some (.invokevirtual 55, 3) := rfl
theorem c_14_30 : mLk 14 30 = some (.iconst (-1), 1) := rfl
theorem c_14_31 : mLk 14 31 = some (.if_icmp .eq 7, 3) := rfl
theorem c_14_38 : mLk 14 38 = some (.iconst 0, 1) := rfl
theorem c_14_39 : mLk 14 39 = some (.istore 4, 2) := rfl
theorem c_14_41 : mLk 14 41 = some (.iload 4, 2) := rfl
theorem c_14_43 : mLk 14 43 = some (.ifCond .eq 7, 3) := rfl
theorem c_14_50 : mLk 14 50 = some (.aload_n 1, 1) := rfl
theorem c_14_51 : mLk 14 51 = some (.ldc 81, 2) := rfl
theorem c_14_53 : mLk 14 53 = some (.invokevirtual 83, 3) := rfl
theorem c_14_56 : mLk 14 56 = some (.istore 5, 2) := rfl
theorem c_14_58 : mLk 14 58 = some (.iload 5, 2) := rfl
theorem c_14_60 : mLk 14 60 = some (.iconst (-1), 1) := rfl
theorem c_14_61 : mLk 14 61 = some (.if_icmp .eq 21, 3) := rfl
theorem c_14_82 : mLk 14 82 = some (.iload_n 2, 1) := rfl
theorem c_14_83 : mLk 14 83 = some (.bipush 6, 2) := rfl
theorem c_14_85 : mLk 14 85 = some (.if_icmp .lt 9, 3) := rfl
theorem c_14_94 : mLk 14 94 = some (.aload_n 1, 1) := rfl
theorem c_14_95 : mLk 14 95 = some (.invokevirtual 40, 3) := rfl
theorem c_14_98 : mLk 14 98 = some (.ifCond .ne 4, 3) := rfl
theorem c_14_88 : mLk 14 88 = some (.aload_n 1, 1) := rfl
theorem c_14_89 : mLk 14 89 = some (.iconst 3, 1) := rfl
theorem c_14_90 : mLk 14 90 = some (.iload_n 3, 1) := rfl
theorem c_14_91 : mLk 14 91 = some (.invokevirtual 86, 3) := rfl
theorem c_14_64 : mLk 14 64 = some (.iload 5, 2) := rfl
theorem c_14_66 : mLk 14 66 = some (.bipush 8, 2) := rfl
theorem c_14_68 : mLk 14 68 = some (.if_icmp .ge 14, 3) := rfl
theorem c_14_102 : mLk 14 102 = some (.iload 4, 2) := rfl
theorem c_14_104 : mLk 14 104 = some (.ifCond .eq 20, 3) := rfl
theorem c_14_124 : mLk 14 124 = some (.aload_n 1, 1) := rfl
theorem c_14_125 : mLk 14 125 = some (.ldc 96, 2) := rfl
theorem c_14_127 : mLk 14 127 = some (.invokevirtual 92, 3) := rfl
theorem c_14_130 : mLk 14 130 = some (.aload_n 0, 1) := rfl
theorem c_14_131 : mLk 14 131 = some (.aload_n 1, 1) := rfl
theorem c_14_132 : mLk 14 132 = some (.iload_n 2, 1) := rfl
theorem c_14_133 : mLk 14 133 = some (.iconst 1, 1) := rfl
theorem c_14_134 : mLk 14 134 = some (.iadd, 1) := rfl
theorem c_14_135 : mLk 14 135 = some (.invokevirtual 31, 3) := rfl
theorem c_14_138 : mLk 14 138 = some (.aload_n 1, 1) := rfl
theorem c_14_139 : mLk 14 139 = some (.ldc 98, 2) := rfl
theorem c_14_141 : mLk 14 141 = some (.invokevirtual 92, 3) := rfl
theorem c_14_144 : mLk 14 144 = some (.aload_n 0, 1) := rfl
theorem c_14_145 : mLk 14 145 = some (.aload_n 1, 1) := rfl
theorem c_14_146 : mLk 14 146 = some (.iload_n 2, 1) := rfl
theorem c_14_147 : mLk 14 147 = some (.iconst 1, 1) := rfl
theorem c_14_148 : mLk 14 148 = some (.iadd, 1) := rfl
theorem c_14_149 : mLk 14 149 = some (.invokevirtual 31, 3) := rfl
theorem c_14_152 : mLk 14 152 = some (.aload_n 1, 1) := rfl
theorem c_14_153 : mLk 14 153 = some (.ldc 100, 2) := rfl
theorem c_14_155 : mLk 14 155 = some (.invokevirtual 92, 3) := rfl
theorem c_14_158 : mLk 14 158 = some (.aload_n 0, 1) := rfl
theorem c_14_159 : mLk 14 159 = some (.sipush 2005, 3) := rfl
theorem c_14_162 : mLk 14 162 = some (.iload 5, 2) := rfl
theorem c_14_164 : mLk 14 164 = some (.iadd, 1) := rfl
theorem c_14_165 : mLk 14 165 = some (.bipush 8, 2) := rfl
theorem c_14_167 : mLk 14 167 = some (.isub, 1) := rfl
theorem c_14_168 : mLk 14 168 = some (.invokevirtual 59, 3) := rfl
theorem c_14_71 : mLk 14 71 = some (.aload_n 0, 1) := rfl
theorem c_14_72 : mLk 14 72 = some (.sipush 1000, 3) := rfl
theorem c_14_75 : mLk 14 75 = some (.iload 5, 2) := rfl
theorem c_14_77 : mLk 14 77 = some (.iadd, 1) := rfl
theorem c_14_78 : mLk 14 78 = some (.invokevirtual 59, 3) := rfl
theorem c_14_34 : mLk 14 34 = some (.iconst 1, 1) := rfl
theorem c_14_35 : mLk 14 35 = some (.goto 4, 3) := rfl
theorem c_14_46 : mLk 14 46 = some (.iconst (-1), 1) := rfl
theorem c_14_47 : mLk 14 47 = some (.goto 9, 3) := rfl
theorem c_14_107 : mLk 14 107 = some (.aload_n 0, 1) := rfl
theorem c_14_108 : mLk 14 108 = some (.aload_n 1, 1) := rfl
theorem c_14_109 : mLk 14 109 = some (.iload_n 2, 1) := rfl
theorem c_14_110 : mLk 14 110 = some (.iconst 1, 1) := rfl
theorem c_14_111 : mLk 14 111 = some (.iadd, 1) := rfl
theorem c_14_112 : mLk 14 112 = some (.invokevirtual 31, 3) := rfl
theorem c_14_115 : mLk 14 115 = some (.aload_n 1, 1) := rfl
theorem c_14_116 : mLk 14 116 = some (.ldc 90, 2) := rfl
theorem c_14_118 : mLk 14 118 = some (.invokevirtual 92, 3) := rfl
theorem c_14_121 : mLk 14 121 = some (.goto 50, 3) := rfl
theorem c_14_7 : mLk 14 7 = some (.aload_n 0, 1) := rfl
theorem c_14_8 : mLk 14 8 = some (.aload_n 1, 1) := rfl
theorem c_14_9 : mLk 14 9 = some (.sipush 999, 3) := rfl
theorem c_14_12 : mLk 14 12 = some (.invokevirtual 71, 3) := rfl
theorem c_14_15 : mLk 14 15 = some (.invokevirtual 59, 3) := rfl
theorem c_12_8 : mLk 12 8 = some (.iload_n 3, 1) := rfl
theorem c_12_9 : mLk 12 9 = some (.sipush 150, 3) := rfl
theorem c_12_12 : mLk 12 12 = some (.if_icmp .ge 47, 3) := rfl
theorem c_12_15 : mLk 12 15 = some (.aload_n 1, 1) := rfl
theorem c_12_16 : mLk 12 16 = some (.invokevirtual 40, 3) := rfl
theorem c_12_19 : mLk 12 19 = some (.ifCond .eq 40, 3) := rfl
theorem c_12_22 : mLk 12 22 = some (.aload_n 1, 1) := rfl
theorem c_12_23 : mLk 12 23 = some (.ldc 66, 2) := rfl
theorem c_12_25 : mLk 12 25 = some (.invokevirtual 55, 3) := rfl
theorem c_12_28 : mLk 12 28 = some (.istore 4, 2) := rfl
theorem c_12_30 : mLk 12 30 = some (.iload 4, 2) := rfl
theorem c_12_32 : mLk 12 32 = some (.iconst (-1), 1) := rfl
theorem c_12_33 : mLk 12 33 = some (.if_icmp .ne 4, 3) := rfl
theorem c_12_37 : mLk 12 37 = some (.aload_n 0, 1) := rfl
theorem c_12_38 : mLk 12 38 = some (.aload_n 1, 1) := rfl
theorem c_12_39 : mLk 12 39 = some (.iload_n 2, 1) := rfl
theorem c_12_40 : mLk 12 40 = some (.invokevirtual 63, 3) := rfl
theorem c_12_43 : mLk 12 43 = some (.aload_n 0, 1) := rfl
theorem c_12_44 : mLk 12 44 = some (.sipush 2002, 3) := rfl
theorem c_12_47 : mLk 12 47 = some (.iload 4, 2) := rfl
theorem c_12_49 : mLk 12 49 = some (.iadd, 1) := rfl
theorem c_12_50 : mLk 12 50 = some (.invokevirtual 59, 3) := rfl
theorem c_12_53 : mLk 12 53 = some (.iinc 3 1, 3) := rfl
theorem c_12_56 : mLk 12 56 = some (.goto (-48), 3) := rfl
theorem c_12_0 : mLk 12 0 = some (.aload_n 0, 1) := rfl
theorem c_12_1 : mLk 12 1 = some (.aload_n 1, 1) := rfl
theorem c_12_2 : mLk 12 2 = some (.iload_n 2, 1) := rfl
theorem c_12_3 : mLk 12 3 = some (.invokevirtual 63, 3) := rfl
theorem c_12_6 : mLk 12 6 = some (.iconst 0, 1) := rfl
theorem c_12_7 : mLk 12 7 = some (.istore_n 3, 1) := rfl
theorem c_13_8 : mLk 13 8 = some (.iload_n 3, 1) := rfl
theorem c_13_9 : mLk 13 9 = some (.sipush 150, 3) := rfl
theorem c_13_12 : mLk 13 12 = some (.if_icmp .ge 47, 3) := rfl
theorem c_13_15 : mLk 13 15 = some (.aload_n 1, 1) := rfl
theorem c_13_16 : mLk 13 16 = some (.invokevirtual 40, 3) := rfl
theorem c_13_19 : mLk 13 19 = some (.ifCond .eq 40, 3) := rfl
theorem c_13_22 : mLk 13 22 = some (.aload_n 1, 1) := rfl
theorem c_13_23 : mLk 13 23 = some (.ldc 53, 2) := rfl
theorem c_13_25 : mLk 13 25 = some (.invokevirtual 55, 3) := rfl
theorem c_13_28 : mLk 13 28 = some (.istore 4, 2) := rfl
theorem c_13_30 : mLk 13 30 = some (.iload 4, 2) := rfl
theorem c_13_32 : mLk 13 32 = some (.iconst (-1), 1) := rfl
theorem c_13_33 : mLk 13 33 = some (.if_icmp .ne 4, 3) := rfl
theorem c_13_37 : mLk 13 37 = some (.aload_n 0, 1) := rfl
theorem c_13_38 : mLk 13 38 = some (.aload_n 1, 1) := rfl
theorem c_13_39 : mLk 13 39 = some (.iload_n 2, 1) := rfl
theorem c_13_40 : mLk 13 40 = some (.invokevirtual 50, 3) := rfl
theorem c_13_43 : mLk 13 43 = some (.aload_n 0, 1) := rfl
theorem c_13_44 : mLk 13 44 = some (.sipush 2000, 3) := rfl
theorem c_13_47 : mLk 13 47 = some (.iload 4, 2) := rfl
theorem c_13_49 : mLk 13 49 = some (.iadd, 1) := rfl
theorem c_13_50 : mLk 13 50 = some (.invokevirtual 59, 3) := rfl
theorem c_13_53 : mLk 13 53 = some (.iinc 3 1, 3) := rfl
theorem c_13_56 : mLk 13 56 = some (.goto (-48), 3) := rfl
theorem c_13_0 : mLk 13 0 = some (.aload_n 0, 1) := rfl
theorem c_13_1 : mLk 13 1 = some (.aload_n 1, 1) := rfl
theorem c_13_2 : mLk 13 2 = some (.iload_n 2, 1) := rfl
theorem c_13_3 : mLk 13 3 = some (.invokevirtual 50, 3) := rfl
theorem c_13_6 : mLk 13 6 = some (.iconst 0, 1) := rfl
theorem c_13_7 : mLk 13 7 = some (.istore_n 3, 1) := rfl
theorem c_15_0 : mLk 15 0 = some (.aload_n 0, 1) := rfl
theorem c_15_1 : mLk 15 1 = some (.invokevirtual 45, 3) := rfl
theorem c_15_4 : mLk 15 4 = some (.ifCond .eq 18, 3) := rfl
theorem c_15_22 : mLk 15 22 = some (.iconst 0, 1) := rfl
theorem c_15_23 : mLk 15 23 = some (.ireturn, 1) := rfl
theorem c_15_7 : mLk 15 7 = some (.aload_n 0, 1) := rfl
theorem c_15_8 : mLk 15 8 = some (.invokevirtual 41, 3) := rfl
theorem c_15_11 : mLk 15 11 = some (.aload_n 0, 1) := rfl
theorem c_15_12 : mLk 15 12 = some (.getfield 32, 3) := rfl
theorem c_15_15 : mLk 15 15 = some (.if_icmp .ge 7, 3) := rfl
theorem c_15_18 : mLk 15 18 = some (.iconst 1, 1) := rfl
theorem c_15_19 : mLk 15 19 = some (.goto 4, 3) := rfl
theorem c_16_0 : mLk 16 0 = some (.aload_n 0, 1) := rfl
theorem c_16_1 : mLk 16 1 = some (.invokevirtual 49, 3) := rfl
theorem c_16_4 : mLk 16 4 = some (.ifCond .eq 12, 3) := rfl
theorem c_16_7 : mLk 16 7 = some (.aload_n 0, 1) := rfl
theorem c_16_8 : mLk 16 8 = some (.iconst 1, 1) := rfl
theorem c_16_9 : mLk 16 9 = some (.aload_n 0, 1) := rfl
theorem c_16_10 : mLk 16 10 = some (.getfield 35, 3) := rfl
theorem c_16_13 : mLk 16 13 = some (.invokevirtual 52, 3) := rfl
theorem c_17_0 : mLk 17 0 = some (.aload_n 0, 1) := rfl
theorem c_17_1 : mLk 17 1 = some (.iconst 0, 1) := rfl
theorem c_17_2 : mLk 17 2 = some (.putfield 28, 3) := rfl
theorem c_17_5 : mLk 17 5 = some (.aload_n 0, 1) := rfl
theorem c_17_6 : mLk 17 6 = some (.aload_n 1, 1) := rfl
theorem c_17_7 : mLk 17 7 = some (.iconst 0, 1) := rfl
theorem c_17_8 : mLk 17 8 = some (.invokevirtual 31, 3) := rfl
theorem c_17_11 : mLk 17 11 = some (.aload_n 1, 1) := rfl
theorem c_17_12 : mLk 17 12 = some (.invokevirtual 35, 3) := rfl
theorem c_17_15 : mLk 17 15 = some (.aload_n 1, 1) := rfl
theorem c_17_16 : mLk 17 16 = some (.invokevirtual 40, 3) := rfl
theorem c_17_19 : mLk 17 19 = some (.ifCond .eq 27, 3) := rfl
theorem c_17_22 : mLk 17 22 = some (.aload_n 0, 1) := rfl
theorem c_17_23 : mLk 17 23 = some (.getfield 15, 3) := rfl
theorem c_17_26 : mLk 17 26 = some (.iconst 0, 1) := rfl
theorem c_17_27 : mLk 17 27 = some (.aload_n 0, 1) := rfl
theorem c_17_28 : mLk 17 28 = some (.getfield 9, 3) := rfl
theorem c_17_31 : mLk 17 31 = some (.iconst 0, 1) := rfl
theorem c_17_32 : mLk 17 32 = some (.sipush 150, 3) := rfl
theorem c_17_35 : mLk 17 35 = some (.invokestatic 44, 3) := rfl
theorem c_17_38 : mLk 17 38 = some (.aload_n 0, 1) := rfl
theorem c_17_39 : mLk 17 39 = some (.aload_n 0, 1) := rfl
theorem c_17_40 : mLk 17 40 = some (.getfield 28, 3) := rfl
theorem c_17_43 : mLk 17 43 = some (.putfield 24, 3) := rfl
theorem c_19_0 : mLk 19 0 = some (.iload_n 0, 1) := rfl
theorem c_19_1 : mLk 19 1 = some (.tableswitch 86 2000 2005 #[39, 43, 47, 51, 63, 75], 39) := rfl
theorem c_19_40 : mLk 19 40 = some (.iload_n 1, 1) := rfl
theorem c_19_41 : mLk 19 41 = some (.iload_n 2, 1) := rfl
theorem c_19_42 : mLk 19 42 = some (.iadd, 1) := rfl
theorem c_19_43 : mLk 19 43 = some (.ireturn, 1) := rfl
theorem c_19_44 : mLk 19 44 = some (.iload_n 1, 1) := rfl
theorem c_19_45 : mLk 19 45 = some (.iload_n 2, 1) := rfl
theorem c_19_46 : mLk 19 46 = some (.isub, 1) := rfl
theorem c_19_47 : mLk 19 47 = some (.ireturn, 1) := rfl
theorem c_19_48 : mLk 19 48 = some (.iload_n 1, 1) := rfl
theorem c_19_49 : mLk 19 49 = some (.iload_n 2, 1) := rfl
theorem c_19_50 : mLk 19 50 = some (.imul, 1) := rfl
theorem c_19_51 : mLk 19 51 = some (.ireturn, 1) := rfl
theorem c_19_52 : mLk 19 52 = some (.iload_n 2, 1) := rfl
theorem c_19_53 : mLk 19 53 = some (.ifCond .ne 7, 3) := rfl
theorem c_19_60 : mLk 19 60 = some (.iload_n 1, 1) := rfl
theorem c_19_61 : mLk 19 61 = some (.iload_n 2, 1) := rfl
theorem c_19_62 : mLk 19 62 = some (.idiv, 1) := rfl
theorem c_19_63 : mLk 19 63 = some (.ireturn, 1) := rfl
theorem c_19_56 : mLk 19 56 = some (.iconst 0, 1) := rfl
theorem c_19_57 : mLk 19 57 = some (.goto 6, 3) := rfl
theorem c_19_64 : mLk 19 64 = some (.iload_n 2, 1) := rfl
theorem c_19_65 : mLk 19 65 = some (.ifCond .ne 7, 3) := rfl
theorem c_19_72 : mLk 19 72 = some (.iload_n 1, 1) := rfl
theorem c_19_73 : mLk 19 73 = some (.iload_n 2, 1) := rfl
theorem c_19_74 : mLk 19 74 = some (.irem, 1) := rfl
theorem c_19_75 : mLk 19 75 = some (.ireturn, 1) := rfl
theorem c_19_68 : mLk 19 68 = some (.iconst 0, 1) := rfl
theorem c_19_69 : mLk 19 69 = some (.goto 6, 3) := rfl
theorem c_19_76 : mLk 19 76 = some (.iload_n 1, 1) := rfl
theorem c_19_77 : mLk 19 77 = some (.iload_n 2, 1) := rfl
theorem c_19_78 : mLk 19 78 = some (.if_icmp .gt 7, 3) := rfl
theorem c_19_85 : mLk 19 85 = some (.iload_n 2, 1) := rfl
theorem c_19_86 : mLk 19 86 = some (.ireturn, 1) := rfl
theorem c_19_81 : mLk 19 81 = some (.iload_n 1, 1) := rfl
theorem c_19_82 : mLk 19 82 = some (.goto 4, 3) := rfl
theorem c_19_87 : mLk 19 87 = some (.iload_n 1, 1) := rfl
theorem c_19_88 : mLk 19 88 = some (.iload_n 2, 1) := rfl
theorem c_19_89 : mLk 19 89 = some (.if_icmp .lt 7, 3) := rfl
theorem c_19_96 : mLk 19 96 = some (.iload_n 2, 1) := rfl
theorem c_19_97 : mLk 19 97 = some (.ireturn, 1) := rfl
theorem c_19_92 : mLk 19 92 = some (.iload_n 1, 1) := rfl
theorem c_19_93 : mLk 19 93 = some (.goto 4, 3) := rfl
theorem c_20_108 : mLk 20 108 = some (.iload 10, 2) := rfl
theorem c_20_110 : mLk 20 110 = some (.aload_n 0, 1) := rfl
theorem c_20_111 : mLk 20 111 = some (.getfield 24, 3) := rfl
theorem c_20_114 : mLk 20 114 = some (.if_icmp .ge 102, 3) := rfl
theorem c_20_216 : mLk 20 216 = some (.aload_n 0, 1) := rfl
theorem c_20_217 : mLk 20 217 = some (.getfield 18, 3) := rfl
theorem c_20_220 : mLk 20 220 = some (.iconst 0, 1) := rfl
theorem c_20_221 : mLk 20 221 = some (.iaload, 1) := rfl
theorem c_20_222 : mLk 20 222 = some (.invokestatic 102, 3) := rfl
theorem c_18_0 : mLk 18 0 = some (.iload_n 0, 1) := rfl
theorem c_18_1 : mLk 18 1 = some (.ifCond .ge 7, 3) := rfl
theorem c_18_8 : mLk 18 8 = some (.iload_n 0, 1) := rfl
theorem c_18_9 : mLk 18 9 = some (.bipush 99, 2) := rfl
theorem c_18_11 : mLk 18 11 = some (.if_icmp .le 8, 3) := rfl
theorem c_18_19 : mLk 18 19 = some (.iload_n 0, 1) := rfl
theorem c_18_20 : mLk 18 20 = some (.ireturn, 1) := rfl
theorem c_20_225 : mLk 20 225 = some (.ireturn, 1) := rfl
theorem c_18_14 : mLk 18 14 = some (.bipush 99, 2) := rfl
theorem c_18_16 : mLk 18 16 = some (.goto 4, 3) := rfl
theorem c_18_4 : mLk 18 4 = some (.iconst 0, 1) := rfl
theorem c_18_5 : mLk 18 5 = some (.goto 15, 3) := rfl
theorem c_20_117 : mLk 20 117 = some (.aload_n 0, 1) := rfl
theorem c_20_118 : mLk 20 118 = some (.getfield 9, 3) := rfl
theorem c_20_121 : mLk 20 121 = some (.iload 10, 2) := rfl
theorem c_20_123 : mLk 20 123 = some (.iaload, 1) := rfl
theorem c_20_124 : mLk 20 124 = some (.istore 11, 2) := rfl
theorem c_20_126 : mLk 20 126 = some (.iload 11, 2) := rfl
theorem c_20_128 : mLk 20 128 = some (.sipush 2000, 3) := rfl
theorem c_20_131 : mLk 20 131 = some (.if_icmp .ge 40, 3) := rfl
theorem c_20_171 : mLk 20 171 = some (.iload 9, 2) := rfl
theorem c_20_173 : mLk 20 173 = some (.iconst 1, 1) := rfl
theorem c_20_174 : mLk 20 174 = some (.if_icmp .le 36, 3) := rfl
theorem c_20_210 : mLk 20 210 = some (.iinc 10 1, 3) := rfl
theorem c_20_213 : mLk 20 213 = some (.goto (-105), 3) := rfl
theorem c_20_177 : mLk 20 177 = some (.iinc 9 (-1), 3) := rfl
theorem c_20_180 : mLk 20 180 = some (.aload_n 0, 1) := rfl
theorem c_20_181 : mLk 20 181 = some (.getfield 18, 3) := rfl
theorem c_20_184 : mLk 20 184 = some (.iload 9, 2) := rfl
theorem c_20_186 : mLk 20 186 = some (.iconst 1, 1) := rfl
theorem c_20_187 : mLk 20 187 = some (.isub, 1) := rfl
theorem c_20_188 : mLk 20 188 = some (.iload 11, 2) := rfl
theorem c_20_190 : mLk 20 190 = some (.aload_n 0, 1) := rfl
theorem c_20_191 : mLk 20 191 = some (.getfield 18, 3) := rfl
theorem c_20_194 : mLk 20 194 = some (.iload 9, 2) := rfl
theorem c_20_196 : mLk 20 196 = some (.iconst 1, 1) := rfl
theorem c_20_197 : mLk 20 197 = some (.isub, 1) := rfl
theorem c_20_198 : mLk 20 198 = some (.iaload, 1) := rfl
theorem c_20_199 : mLk 20 199 = some (.aload_n 0, 1) := rfl
theorem c_20_200 : mLk 20 200 = some (.getfield 18, 3) := rfl
theorem c_20_203 : mLk 20 203 = some (.iload 9, 2) := rfl
theorem c_20_205 : mLk 20 205 = some (.iaload, 1) := rfl
theorem c_20_206 : mLk 20 206 = some (.invokestatic 105, 3) := rfl
theorem c_20_209 : mLk 20 209 = some (.iastore, 1) := rfl
theorem c_20_134 : mLk 20 134 = some (.aload_n 0, 1) := rfl
theorem c_20_135 : mLk 20 135 = some (.getfield 18, 3) := rfl
theorem c_20_138 : mLk 20 138 = some (.iload 9, 2) := rfl
theorem c_20_140 : mLk 20 140 = some (.iload 11, 2) := rfl
theorem c_20_142 : mLk 20 142 = some (.sipush 1000, 3) := rfl
theorem c_20_145 : mLk 20 145 = some (.if_icmp .ge 8, 3) := rfl
theorem c_20_153 : mLk 20 153 = some (.aload_n 0, 1) := rfl
theorem c_20_154 : mLk 20 154 = some (.getfield 21, 3) := rfl
theorem c_20_157 : mLk 20 157 = some (.iload 11, 2) := rfl
theorem c_20_159 : mLk 20 159 = some (.sipush 1000, 3) := rfl
theorem c_20_162 : mLk 20 162 = some (.isub, 1) := rfl
theorem c_20_163 : mLk 20 163 = some (.iaload, 1) := rfl
theorem c_20_164 : mLk 20 164 = some (.iastore, 1) := rfl
theorem c_20_165 : mLk 20 165 = some (.iinc 9 1, 3) := rfl
theorem c_20_168 : mLk 20 168 = some (.goto 42, 3) := rfl
theorem c_20_148 : mLk 20 148 = some (.iload 11, 2) := rfl
theorem c_20_150 : mLk 20 150 = some (.goto 14, 3) := rfl
theorem c_20_0 : mLk 20 0 = some (.iload_n 1, 1) := rfl
theorem c_20_1 : mLk 20 1 = some (.iload_n 2, 1) := rfl
theorem c_20_2 : mLk 20 2 = some (.iadd, 1) := rfl
theorem c_20_3 : mLk 20 3 = some (.iload_n 3, 1) := rfl
theorem c_20_4 : mLk 20 4 = some (.iadd, 1) := rfl
theorem c_20_5 : mLk 20 5 = some (.iload 4, 2) := rfl
theorem c_20_7 : mLk 20 7 = some (.iadd, 1) := rfl
theorem c_20_8 : mLk 20 8 = some (.istore 8, 2) := rfl
theorem c_20_10 : mLk 20 10 = some (.aload_n 0, 1) := rfl
theorem c_20_11 : mLk 20 11 = some (.getfield 24, 3) := rfl
theorem c_20_14 : mLk 20 14 = some (.ifCond .ne 25, 3) := rfl
theorem c_20_39 : mLk 20 39 = some (.aload_n 0, 1) := rfl
theorem c_20_40 : mLk 20 40 = some (.getfield 21, 3) := rfl
theorem c_20_43 : mLk 20 43 = some (.iconst 0, 1) := rfl
theorem c_20_44 : mLk 20 44 = some (.iload_n 1, 1) := rfl
theorem c_20_45 : mLk 20 45 = some (.iastore, 1) := rfl
theorem c_20_46 : mLk 20 46 = some (.aload_n 0, 1) := rfl
theorem c_20_47 : mLk 20 47 = some (.getfield 21, 3) := rfl
theorem c_20_50 : mLk 20 50 = some (.iconst 1, 1) := rfl
theorem c_20_51 : mLk 20 51 = some (.iload_n 2, 1) := rfl
theorem c_20_52 : mLk 20 52 = some (.iastore, 1) := rfl
theorem c_20_53 : mLk 20 53 = some (.aload_n 0, 1) := rfl
theorem c_20_54 : mLk 20 54 = some (.getfield 21, 3) := rfl
theorem c_20_57 : mLk 20 57 = some (.iconst 2, 1) := rfl
theorem c_20_58 : mLk 20 58 = some (.iload_n 3, 1) := rfl
theorem c_20_59 : mLk 20 59 = some (.iastore, 1) := rfl
theorem c_20_60 : mLk 20 60 = some (.aload_n 0, 1) := rfl
theorem c_20_61 : mLk 20 61 = some (.getfield 21, 3) := rfl
theorem c_20_64 : mLk 20 64 = some (.iconst 3, 1) := rfl
theorem c_20_65 : mLk 20 65 = some (.iload 4, 2) := rfl
theorem c_20_67 : mLk 20 67 = some (.iastore, 1) := rfl
theorem c_20_68 : mLk 20 68 = some (.aload_n 0, 1) := rfl
theorem c_20_69 : mLk 20 69 = some (.getfield 21, 3) := rfl
theorem c_20_72 : mLk 20 72 = some (.iconst 4, 1) := rfl
theorem c_20_73 : mLk 20 73 = some (.iload 8, 2) := rfl
theorem c_20_75 : mLk 20 75 = some (.iastore, 1) := rfl
theorem c_20_76 : mLk 20 76 = some (.aload_n 0, 1) := rfl
theorem c_20_77 : mLk 20 77 = some (.getfield 21, 3) := rfl
theorem c_20_80 : mLk 20 80 = some (.iconst 5, 1) := rfl
theorem c_20_81 : mLk 20 81 = some (.iload 5, 2) := rfl
theorem c_20_83 : mLk 20 83 = some (.iastore, 1) := rfl
theorem c_20_84 : mLk 20 84 = some (.aload_n 0, 1) := rfl
theorem c_20_85 : mLk 20 85 = some (.getfield 21, 3) := rfl
theorem c_20_88 : mLk 20 88 = some (.bipush 6, 2) := rfl
theorem c_20_90 : mLk 20 90 = some (.iload 6, 2) := rfl
theorem c_20_92 : mLk 20 92 = some (.iastore, 1) := rfl
theorem c_20_93 : mLk 20 93 = some (.aload_n 0, 1) := rfl
theorem c_20_94 : mLk 20 94 = some (.getfield 21, 3) := rfl
theorem c_20_97 : mLk 20 97 = some (.bipush 7, 2) := rfl
theorem c_20_99 : mLk 20 99 = some (.iload 7, 2) := rfl
theorem c_20_101 : mLk 20 101 = some (.iastore, 1) := rfl
theorem c_20_102 : mLk 20 102 = some (.iconst 0, 1) := rfl
theorem c_20_103 : mLk 20 103 = some (.istore 9, 2) := rfl
theorem c_20_105 : mLk 20 105 = some (.iconst 0, 1) := rfl
theorem c_20_106 : mLk 20 106 = some (.istore 10, 2) := rfl
theorem c_20_17 : mLk 20 17 = some (.iload 8, 2) := rfl
theorem c_20_19 : mLk 20 19 = some (.ifCond .lt 18, 3) := rfl
theorem c_20_22 : mLk 20 22 = some (.iload_n 1, 1) := rfl
theorem c_20_23 : mLk 20 23 = some (.bipush 90, 2) := rfl
theorem c_20_25 : mLk 20 25 = some (.imul, 1) := rfl
theorem c_20_26 : mLk 20 26 = some (.iload 8, 2) := rfl
theorem c_20_28 : mLk 20 28 = some (.iconst 1, 1) := rfl
theorem c_20_29 : mLk 20 29 = some (.iadd, 1) := rfl
theorem c_20_30 : mLk 20 30 = some (.idiv, 1) := rfl
theorem c_20_31 : mLk 20 31 = some (.invokestatic 102, 3) := rfl
theorem c_20_34 : mLk 20 34 = some (.goto 4, 3) := rfl
theorem c_20_38 : mLk 20 38 = some (.ireturn, 1) := rfl
theorem c_22_0 : mLk 22 0 = some (.aload_n 0, 1) := rfl
theorem c_22_1 : mLk 22 1 = some (.iconst 0, 1) := rfl
theorem c_22_2 : mLk 22 2 = some (.putfield 21, 3) := rfl
theorem c_22_5 : mLk 22 5 = some (.aload_n 0, 1) := rfl
theorem c_22_6 : mLk 22 6 = some (.iconst 0, 1) := rfl
theorem c_22_7 : mLk 22 7 = some (.putfield 25, 3) := rfl
theorem c_24_0 : mLk 24 0 = some (.aload_n 0, 1) := rfl
theorem c_24_1 : mLk 24 1 = some (.invokevirtual 28, 3) := rfl
theorem c_23_0 : mLk 23 0 = some (.aload_n 0, 1) := rfl
theorem c_23_1 : mLk 23 1 = some (.getfield 21, 3) := rfl
theorem c_23_4 : mLk 23 4 = some (.bipush 16, 2) := rfl
theorem c_23_6 : mLk 23 6 = some (.if_icmp .lt 7, 3) := rfl
theorem c_23_13 : mLk 23 13 = some (.iconst 0, 1) := rfl
theorem c_23_14 : mLk 23 14 = some (.ireturn, 1) := rfl
theorem c_24_4 : mLk 24 4 = some (.ifCond .ne 34, 3) := rfl
theorem c_24_7 : mLk 24 7 = some (.aload_n 1, 1) := rfl
theorem c_24_8 : mLk 24 8 = some (.getfield 32, 3) := rfl
theorem c_24_11 : mLk 24 11 = some (.iconst 0, 1) := rfl
theorem c_24_12 : mLk 24 12 = some (.aload_n 0, 1) := rfl
theorem c_24_13 : mLk 24 13 = some (.getfield 11, 3) := rfl
theorem c_24_16 : mLk 24 16 = some (.aload_n 0, 1) := rfl
theorem c_24_17 : mLk 24 17 = some (.getfield 21, 3) := rfl
theorem c_24_20 : mLk 24 20 = some (.bipush 34, 2) := rfl
theorem c_24_22 : mLk 24 22 = some (.imul, 1) := rfl
theorem c_24_23 : mLk 24 23 = some (.bipush 34, 2) := rfl
theorem c_24_25 : mLk 24 25 = some (.invokestatic 35, 3) := rfl
theorem c_24_28 : mLk 24 28 = some (.aload_n 0, 1) := rfl
theorem c_24_29 : mLk 24 29 = some (.dup, 1) := rfl
theorem c_24_30 : mLk 24 30 = some (.getfield 21, 3) := rfl
theorem c_24_33 : mLk 24 33 = some (.iconst 1, 1) := rfl
theorem c_24_34 : mLk 24 34 = some (.iadd, 1) := rfl
theorem c_24_35 : mLk 24 35 = some (.putfield 21, 3) := rfl
theorem c_23_9 : mLk 23 9 = some (.iconst 1, 1) := rfl
theorem c_23_10 : mLk 23 10 = some (.goto 4, 3) := rfl
theorem c_25_0 : mLk 25 0 = some (.aload_n 0, 1) := rfl
theorem c_25_1 : mLk 25 1 = some (.getfield 21, 3) := rfl
theorem c_25_4 : mLk 25 4 = some (.ifCond .le 34, 3) := rfl
theorem c_25_7 : mLk 25 7 = some (.aload_n 0, 1) := rfl
theorem c_25_8 : mLk 25 8 = some (.dup, 1) := rfl
theorem c_25_9 : mLk 25 9 = some (.getfield 21, 3) := rfl
theorem c_25_12 : mLk 25 12 = some (.iconst 1, 1) := rfl
theorem c_25_13 : mLk 25 13 = some (.isub, 1) := rfl
theorem c_25_14 : mLk 25 14 = some (.putfield 21, 3) := rfl
theorem c_25_17 : mLk 25 17 = some (.aload_n 0, 1) := rfl
theorem c_25_18 : mLk 25 18 = some (.getfield 11, 3) := rfl
theorem c_25_21 : mLk 25 21 = some (.aload_n 0, 1) := rfl
theorem c_25_22 : mLk 25 22 = some (.getfield 21, 3) := rfl
theorem c_25_25 : mLk 25 25 = some (.bipush 34, 2) := rfl
theorem c_25_27 : mLk 25 27 = some (.imul, 1) := rfl
theorem c_25_28 : mLk 25 28 = some (.aload_n 1, 1) := rfl
theorem c_25_29 : mLk 25 29 = some (.getfield 32, 3) := rfl
theorem c_25_32 : mLk 25 32 = some (.iconst 0, 1) := rfl
theorem c_25_33 : mLk 25 33 = some (.bipush 34, 2) := rfl
theorem c_25_35 : mLk 25 35 = some (.invokestatic 35, 3) := rfl
theorem c_26_0 : mLk 26 0 = some (.aload_n 0, 1) := rfl
theorem c_26_1 : mLk 26 1 = some (.getfield 25, 3) := rfl
theorem c_26_4 : mLk 26 4 = some (.iconst 3, 1) := rfl
theorem c_26_5 : mLk 26 5 = some (.if_icmp .ge 73, 3) := rfl
theorem c_26_8 : mLk 26 8 = some (.aload_n 0, 1) := rfl
theorem c_26_9 : mLk 26 9 = some (.getfield 25, 3) := rfl
theorem c_26_12 : mLk 26 12 = some (.sipush 578, 3) := rfl
theorem c_26_15 : mLk 26 15 = some (.imul, 1) := rfl
theorem c_26_16 : mLk 26 16 = some (.istore_n 2, 1) := rfl
theorem c_26_17 : mLk 26 17 = some (.aload_n 1, 1) := rfl
theorem c_26_18 : mLk 26 18 = some (.getfield 32, 3) := rfl
theorem c_26_21 : mLk 26 21 = some (.iconst 0, 1) := rfl
theorem c_26_22 : mLk 26 22 = some (.aload_n 0, 1) := rfl
theorem c_26_23 : mLk 26 23 = some (.getfield 15, 3) := rfl
theorem c_26_26 : mLk 26 26 = some (.iload_n 2, 1) := rfl
theorem c_26_27 : mLk 26 27 = some (.bipush 34, 2) := rfl
theorem c_26_29 : mLk 26 29 = some (.invokestatic 35, 3) := rfl
theorem c_26_32 : mLk 26 32 = some (.aload_n 0, 1) := rfl
theorem c_26_33 : mLk 26 33 = some (.getfield 11, 3) := rfl
theorem c_26_36 : mLk 26 36 = some (.iconst 0, 1) := rfl
theorem c_26_37 : mLk 26 37 = some (.aload_n 0, 1) := rfl
theorem c_26_38 : mLk 26 38 = some (.getfield 15, 3) := rfl
theorem c_26_41 : mLk 26 41 = some (.iload_n 2, 1) := rfl
theorem c_26_42 : mLk 26 42 = some (.bipush 34, 2) := rfl
theorem c_26_44 : mLk 26 44 = some (.iadd, 1) := rfl
theorem c_26_45 : mLk 26 45 = some (.aload_n 0, 1) := rfl
theorem c_26_46 : mLk 26 46 = some (.getfield 21, 3) := rfl
theorem c_26_49 : mLk 26 49 = some (.bipush 34, 2) := rfl
theorem c_26_51 : mLk 26 51 = some (.imul, 1) := rfl
theorem c_26_52 : mLk 26 52 = some (.invokestatic 35, 3) := rfl
theorem c_26_55 : mLk 26 55 = some (.aload_n 0, 1) := rfl
theorem c_26_56 : mLk 26 56 = some (.getfield 18, 3) := rfl
theorem c_26_59 : mLk 26 59 = some (.aload_n 0, 1) := rfl
theorem c_26_60 : mLk 26 60 = some (.getfield 25, 3) := rfl
theorem c_26_63 : mLk 26 63 = some (.aload_n 0, 1) := rfl
theorem c_26_64 : mLk 26 64 = some (.getfield 21, 3) := rfl
theorem c_26_67 : mLk 26 67 = some (.iastore, 1) := rfl
theorem c_26_68 : mLk 26 68 = some (.aload_n 0, 1) := rfl
theorem c_26_69 : mLk 26 69 = some (.dup, 1) := rfl
theorem c_26_70 : mLk 26 70 = some (.getfield 25, 3) := rfl
theorem c_26_73 : mLk 26 73 = some (.iconst 1, 1) := rfl
theorem c_26_74 : mLk 26 74 = some (.iadd, 1) := rfl
theorem c_26_75 : mLk 26 75 = some (.putfield 25, 3) := rfl
theorem c_27_0 : mLk 27 0 = some (.aload_n 0, 1) := rfl
theorem c_27_1 : mLk 27 1 = some (.getfield 25, 3) := rfl
theorem c_27_4 : mLk 27 4 = some (.ifCond .le 73, 3) := rfl
theorem c_27_7 : mLk 27 7 = some (.aload_n 0, 1) := rfl
theorem c_27_8 : mLk 27 8 = some (.dup, 1) := rfl
theorem c_27_9 : mLk 27 9 = some (.getfield 25, 3) := rfl
theorem c_27_12 : mLk 27 12 = some (.iconst 1, 1) := rfl
theorem c_27_13 : mLk 27 13 = some (.isub, 1) := rfl
theorem c_27_14 : mLk 27 14 = some (.putfield 25, 3) := rfl
theorem c_27_17 : mLk 27 17 = some (.aload_n 0, 1) := rfl
theorem c_27_18 : mLk 27 18 = some (.aload_n 0, 1) := rfl
theorem c_27_19 : mLk 27 19 = some (.getfield 18, 3) := rfl
theorem c_27_22 : mLk 27 22 = some (.aload_n 0, 1) := rfl
theorem c_27_23 : mLk 27 23 = some (.getfield 25, 3) := rfl
theorem c_27_26 : mLk 27 26 = some (.iaload, 1) := rfl
theorem c_27_27 : mLk 27 27 = some (.putfield 21, 3) := rfl
theorem c_27_30 : mLk 27 30 = some (.aload_n 0, 1) := rfl
theorem c_27_31 : mLk 27 31 = some (.getfield 25, 3) := rfl
theorem c_27_34 : mLk 27 34 = some (.sipush 578, 3) := rfl
theorem c_27_37 : mLk 27 37 = some (.imul, 1) := rfl
theorem c_27_38 : mLk 27 38 = some (.istore_n 2, 1) := rfl
theorem c_27_39 : mLk 27 39 = some (.aload_n 0, 1) := rfl
theorem c_27_40 : mLk 27 40 = some (.getfield 15, 3) := rfl
theorem c_27_43 : mLk 27 43 = some (.iload_n 2, 1) := rfl
theorem c_27_44 : mLk 27 44 = some (.aload_n 1, 1) := rfl
theorem c_27_45 : mLk 27 45 = some (.getfield 32, 3) := rfl
theorem c_27_48 : mLk 27 48 = some (.iconst 0, 1) := rfl
theorem c_27_49 : mLk 27 49 = some (.bipush 34, 2) := rfl
theorem c_27_51 : mLk 27 51 = some (.invokestatic 35, 3) := rfl
theorem c_27_54 : mLk 27 54 = some (.aload_n 0, 1) := rfl
theorem c_27_55 : mLk 27 55 = some (.getfield 15, 3) := rfl
theorem c_27_58 : mLk 27 58 = some (.iload_n 2, 1) := rfl
theorem c_27_59 : mLk 27 59 = some (.bipush 34, 2) := rfl
theorem c_27_61 : mLk 27 61 = some (.iadd, 1) := rfl
theorem c_27_62 : mLk 27 62 = some (.aload_n 0, 1) := rfl
theorem c_27_63 : mLk 27 63 = some (.getfield 11, 3) := rfl
theorem c_27_66 : mLk 27 66 = some (.iconst 0, 1) := rfl
theorem c_27_67 : mLk 27 67 = some (.aload_n 0, 1) := rfl
theorem c_27_68 : mLk 27 68 = some (.getfield 21, 3) := rfl
theorem c_27_71 : mLk 27 71 = some (.bipush 34, 2) := rfl
theorem c_27_73 : mLk 27 73 = some (.imul, 1) := rfl
theorem c_27_74 : mLk 27 74 = some (.invokestatic 35, 3) := rfl
theorem c_29_0 : mLk 29 0 = some (.aload_n 0, 1) := rfl
theorem c_29_1 : mLk 29 1 = some (.getfield 19, 3) := rfl
theorem c_29_4 : mLk 29 4 = some (.iload_n 1, 1) := rfl
theorem c_29_5 : mLk 29 5 = some (.iconst 3, 1) := rfl
theorem c_29_6 : mLk 29 6 = some (.imul, 1) := rfl
theorem c_29_7 : mLk 29 7 = some (.iload_n 2, 1) := rfl
theorem c_29_8 : mLk 29 8 = some (.iadd, 1) := rfl
theorem c_29_9 : mLk 29 9 = some (.iaload, 1) := rfl
theorem c_29_10 : mLk 29 10 = some (.ireturn, 1) := rfl
theorem c_30_32 : mLk 30 32 = some (.iload_n 1, 1) := rfl
theorem c_30_33 : mLk 30 33 = some (.iconst 4, 1) := rfl
theorem c_30_34 : mLk 30 34 = some (.if_icmp .ge 16, 3) := rfl
theorem c_30_50 : mLk 30 50 = some (.aload_n 0, 1) := rfl
theorem c_30_51 : mLk 30 51 = some (.getfield 37, 3) := rfl
theorem c_30_54 : mLk 30 54 = some (.invokevirtual 96, 3) := rfl
theorem c_30_37 : mLk 30 37 = some (.aload_n 0, 1) := rfl
theorem c_30_38 : mLk 30 38 = some (.getfield 31, 3) := rfl
theorem c_30_41 : mLk 30 41 = some (.iload_n 1, 1) := rfl
theorem c_30_42 : mLk 30 42 = some (.iconst (-1), 1) := rfl
theorem c_30_43 : mLk 30 43 = some (.iastore, 1) := rfl
theorem c_30_44 : mLk 30 44 = some (.iinc 1 1, 3) := rfl
theorem c_30_47 : mLk 30 47 = some (.goto (-15), 3) := rfl
theorem c_30_0 : mLk 30 0 = some (.aload_n 0, 1) := rfl
theorem c_30_1 : mLk 30 1 = some (.iconst 0, 1) := rfl
theorem c_30_2 : mLk 30 2 = some (.putfield 81, 3) := rfl
theorem c_30_5 : mLk 30 5 = some (.aload_n 0, 1) := rfl
theorem c_30_6 : mLk 30 6 = some (.iconst 0, 1) := rfl
theorem c_30_7 : mLk 30 7 = some (.putfield 84, 3) := rfl
theorem c_30_10 : mLk 30 10 = some (.aload_n 0, 1) := rfl
theorem c_30_11 : mLk 30 11 = some (.iconst 0, 1) := rfl
theorem c_30_12 : mLk 30 12 = some (.putfield 87, 3) := rfl
theorem c_30_15 : mLk 30 15 = some (.aload_n 0, 1) := rfl
theorem c_30_16 : mLk 30 16 = some (.iconst 5, 1) := rfl
theorem c_30_17 : mLk 30 17 = some (.putfield 9, 3) := rfl
theorem c_30_20 : mLk 30 20 = some (.aload_n 0, 1) := rfl
theorem c_30_21 : mLk 30 21 = some (.iconst 0, 1) := rfl
theorem c_30_22 : mLk 30 22 = some (.putfield 90, 3) := rfl
theorem c_30_25 : mLk 30 25 = some (.aload_n 0, 1) := rfl
theorem c_30_26 : mLk 30 26 = some (.iconst 0, 1) := rfl
theorem c_30_27 : mLk 30 27 = some (.putfield 93, 3) := rfl
theorem c_30_30 : mLk 30 30 = some (.iconst 0, 1) := rfl
theorem c_30_31 : mLk 30 31 = some (.istore_n 1, 1) := rfl
theorem kf_0_15 : a_lk (kF 0) 15 = some (0, 1) := rfl
theorem kf_0_18 : a_lk (kF 0) 18 = some (0, 2) := rfl
theorem kf_0_21 : a_lk (kF 0) 21 = some (0, 3) := rfl
theorem kf_0_24 : a_lk (kF 0) 24 = some (0, 4) := rfl
theorem kf_0_28 : a_lk (kF 0) 28 = some (0, 5) := rfl
theorem kf_0_9 : a_lk (kF 0) 9 = some (0, 0) := rfl
theorem kf_1_11 : a_lk (kF 1) 11 = some (1, 0) := rfl
theorem kf_1_15 : a_lk (kF 1) 15 = some (1, 1) := rfl
theorem kf_1_18 : a_lk (kF 1) 18 = some (1, 2) := rfl
theorem kf_1_21 : a_lk (kF 1) 21 = some (1, 3) := rfl
theorem kf_1_25 : a_lk (kF 1) 25 = some (1, 4) := rfl
theorem kf_1_32 : a_lk (kF 1) 32 = some (4, 0) := rfl
theorem kf_2_19 : a_lk (kF 2) 19 = some (2, 7) := rfl
theorem kf_2_31 : a_lk (kF 2) 31 = some (2, 11) := rfl
theorem kf_2_37 : a_lk (kF 2) 37 = some (2, 12) := rfl
theorem kf_2_81 : a_lk (kF 2) 81 = some (2, 0) := rfl
theorem kf_2_84 : a_lk (kF 2) 84 = some (2, 1) := rfl
theorem kf_2_87 : a_lk (kF 2) 87 = some (2, 2) := rfl
theorem kf_2_9 : a_lk (kF 2) 9 = some (2, 3) := rfl
theorem kf_2_90 : a_lk (kF 2) 90 = some (2, 4) := rfl
theorem kf_2_93 : a_lk (kF 2) 93 = some (2, 5) := rfl
theorem kf_5_15 : a_lk (kF 5) 15 = some (5, 5) := rfl
theorem kf_5_32 : a_lk (kF 5) 32 = some (5, 1) := rfl
theorem kf_5_35 : a_lk (kF 5) 35 = some (5, 2) := rfl
theorem kf_5_38 : a_lk (kF 5) 38 = some (5, 4) := rfl
theorem kf_5_9 : a_lk (kF 5) 9 = some (5, 0) := rfl
theorem km_0_31 : a_lk (kM 0) 31 = some (0, 13) := rfl
theorem km_0_35 : a_lk (kM 0) 35 = some (0, 16) := rfl
theorem km_0_40 : a_lk (kM 0) 40 = some (0, 2) := rfl
theorem km_0_50 : a_lk (kM 0) 50 = some (0, 12) := rfl
theorem km_0_55 : a_lk (kM 0) 55 = some (0, 4) := rfl
theorem km_0_59 : a_lk (kM 0) 59 = some (0, 5) := rfl
theorem km_0_63 : a_lk (kM 0) 63 = some (0, 14) := rfl
theorem km_0_68 : a_lk (kM 0) 68 = some (0, 6) := rfl
theorem km_0_71 : a_lk (kM 0) 71 = some (0, 8) := rfl
theorem km_0_75 : a_lk (kM 0) 75 = some (0, 3) := rfl
theorem km_0_83 : a_lk (kM 0) 83 = some (0, 10) := rfl
theorem km_0_86 : a_lk (kM 0) 86 = some (0, 7) := rfl
theorem km_0_92 : a_lk (kM 0) 92 = some (0, 11) := rfl
theorem km_1_28 : a_lk (kM 1) 28 = some (0, 23) := rfl
theorem km_2_96 : a_lk (kM 2) 96 = some (0, 1) := rfl
theorem km_5_41 : a_lk (kM 5) 41 = some (0, 3) := rfl
theorem km_5_45 : a_lk (kM 5) 45 = some (0, 2) := rfl
theorem km_5_49 : a_lk (kM 5) 49 = some (0, 15) := rfl
theorem km_5_52 : a_lk (kM 5) 52 = some (0, 7) := rfl
theorem km_5_65 : a_lk (kM 5) 65 = some (0, 4) := rfl
theorem km_5_69 : a_lk (kM 5) 69 = some (0, 6) := rfl
theorem km_5_73 : a_lk (kM 5) 73 = some (0, 9) := rfl
set_option maxRecDepth 100000 in
set_option maxHeartbeats 4000000 in
theorem s_1 {sc : List Int32} {e : Int} {d u P Q A : Nat} {c : ME} {Z : AR → Prop} (hI : Iv u e P Q c) (hA : A = 13 ∨ A = 25) (K : ∀ (c2 : ME), Iv u e P Q c2 → (∀ (a : Nat) (j : Int), ¬ ((a = (A + 7) ∧ j = 4)) → c2 a j = c a j) → ((c2 (A + 7) 4 = 0)) → Z (.inl (none), Wd P Q P P c2, 0, 0)) : Wp sc (d + 7) 1 0 [(0, .ref (A + 7))] [] (Wd P Q P P c) 0 0 Z := by
  have hP := iv_P hI
  have hQ := iv_Q hI
  refine q_aload_n c_1_0 rfl (q_iconst c_1_1 (v_pi (z := 4) c_1_2 kf_0_24 (ck_p7 hA) (a68 hA rfl) rfl rfl rfl (by decide) (q_vret rfl rfl ?_)))
  have hI_1 := iw_p7_4 (v := 0) hI hA ⟨by decide, by decide⟩
  have h_2 : (up c (A + 7) 4 0) (A + 7) 4 = 0 := (up_e rfl)
  exact K (up c (A + 7) 4 0) hI_1 (fun a j hm => up_b (Decidable.or_iff_not_imp_left.mpr (fun h1 h2 => hm ⟨Decidable.not_not.mp h1, h2⟩))) (by first | assumption | omega)

set_option maxRecDepth 100000 in
set_option maxHeartbeats 4000000 in
theorem s_3_l {sc : List Int32} {e : Int} {d u P Q : Nat} {c : ME} {Z : AR → Prop} (hI : Iv u e P Q c)  (K : ∀ (c2 : ME) (y : Int), Iv u e P Q c2 → (∀ (a : Nat) (j : Int), ¬ ((a = 1 ∧ j = 2)) → c2 a j = c a j) → 0 ≤ y ∧ y ≤ 600 → ((c2 1 2 = y)) → Z (.inl (some (vi y)), Wd P Q P P c2, 0, 0)) : ∀ n : Nat, (∀ (c2 : ME), Iv u e P Q c2 → (∀ (a : Nat) (j : Int), ¬ ((a = 1 ∧ j = 2)) → c2 a j = c a j) → 1201 - 2 * c2 1 2 < (n : Int) → Wp sc (d + 7) 3 0 [(0, .ref 1)] [] (Wd P Q P P c2) 0 0 Z) := by
  intro n
  induction n with
  | zero => exact (by intro c2 hI2 hF hm9; have hP := iv_P hI; have hQ := iv_Q hI; have h_10 := ir_1_2 hI2; exfalso; omega)
  | succ n ih =>
    have hP := iv_P hI
    have hQ := iv_Q hI
    intro c2 hI2 hF hm9
    have h_1 := ir_1_2 hI2
    refine q_aload_n c_3_0 rfl (v_gi (z := 2) (v := c2 1 2) c_3_1 kf_5_35 rfl (nb_ rfl) rfl rfl rfl (q_aload_n c_3_4 rfl ?_))
    have h_2 := ir_1_1 hI
    have kn_3 : Hid (c2 1 1 = c 1 1) := hF 1 1 (fun h => absurd h.2 (ni rfl))
    refine v_gi (z := 1) (v := c 1 1) c_3_5 kf_5_32 rfl (nb_ rfl) rfl rfl (hid kn_3) ?_
    by_cases h_4 : c2 1 2 ≥ c 1 1
    · refine v_ic_ge_t (t := 38) c_3_8 rfl ⟨by first | exact q_3b2b08511 h_2 | omega, h_4, (Int.le_trans h_1.2 (by decide))⟩ (q_aload_n c_3_38 rfl (v_gi (z := 2) (v := c2 1 2) c_3_39 kf_5_35 rfl (nb_ rfl) rfl rfl rfl (q_iret c_3_42 rfl ?_)))
      exact K c2 (c2 1 2) hI2 (fun a j hm => hF a j hm) h_1 (by first | assumption | omega)
    · refine v_ic_ge_f (t := 38) c_3_8 rfl ⟨(Int.le_trans (by decide) h_1.1), (Int.not_le.mp h_4), by first | exact q_3885e607f h_2 | omega⟩ (q_aload_n c_3_11 rfl (v_gr (t := 2) c_3_12 kf_5_9 rfl (nb_ rfl) rfl (q_aload_n c_3_15 rfl (v_gi (z := 2) (v := c2 1 2) c_3_16 kf_5_35 rfl (nb_ rfl) rfl rfl rfl ?_))))
      have h_5 := ir_2 hI (c2 1 2)
      have kn_6 : Hid (c2 2 (c2 1 2) = c 2 (c2 1 2)) := hF 2 (c2 1 2) (fun h => absurd h.1 (nn rfl))
      refine v_ba (v := c 2 (c2 1 2)) c_3_19 rfl (by decide) (by decide) ⟨h_1.1, by first | exact q_364416c3d h_2 h_4 | omega⟩ (hid kn_6) (v_bip c_3_20 (by decide) ?_)
      by_cases h_7 : c 2 (c2 1 2) ≠ 32
      · refine v_ic_ne_t (t := 38) c_3_22 rfl ⟨h_7, ⟨by first | exact q_cc1935a2a h_5 | omega, by first | exact q_4e52e4576 h_5 | omega⟩, by decide, by decide⟩ (q_aload_n c_3_38 rfl (v_gi (z := 2) (v := c2 1 2) c_3_39 kf_5_35 rfl (nb_ rfl) rfl rfl rfl (q_iret c_3_42 rfl ?_)))
        exact K c2 (c2 1 2) hI2 (fun a j hm => hF a j hm) h_1 (by first | assumption | omega)
      · refine v_ic_ne_f (t := 38) c_3_22 rfl (Decidable.not_not.mp h_7) (q_aload_n c_3_25 rfl (q_dup c_3_26 rfl (v_gi (z := 2) (v := c2 1 2) c_3_27 kf_5_35 rfl (nb_ rfl) rfl rfl rfl (q_iconst c_3_30 (v_iadd (v := c2 1 2 + 1) c_3_31 rfl (v_pi (z := 2) c_3_32 kf_5_35 rfl (nb_ rfl) rfl rfl rfl (by decide) (q_goto (t := 0) c_3_35 rfl ?_)))))))
        have hI_8 := iw_1_2 (v := c2 1 2 + 1) hI2 ⟨by first | exact rgp_l h_1.1 (by decide) | omega, by first | exact q_e9d2b66ad h_2 h_4 | omega⟩
        refine Wp_ls [(0, .ref 1)] (lsub_cons rfl lsub_nil) ?_
        have h_9 : (up c2 1 2 (c2 1 2 + 1)) 1 2 = c2 1 2 + 1 := (up_e rfl)
        exact ih (up c2 1 2 (c2 1 2 + 1)) hI_8 (fun a j hm => (up_b (Decidable.or_iff_not_imp_left.mpr (fun h1 h2 => hm ⟨Decidable.not_not.mp h1, h2⟩))).trans (hF a j hm)) (by omega)
set_option maxRecDepth 100000 in
set_option maxHeartbeats 4000000 in
theorem s_3 {sc : List Int32} {e : Int} {d u P Q : Nat} {c : ME} {Z : AR → Prop} (hI : Iv u e P Q c)  (K : ∀ (c2 : ME) (y : Int), Iv u e P Q c2 → (∀ (a : Nat) (j : Int), ¬ ((a = 1 ∧ j = 2)) → c2 a j = c a j) → 0 ≤ y ∧ y ≤ 600 → ((c2 1 2 = y)) → Z (.inl (some (vi y)), Wd P Q P P c2, 0, 0)) : Wp sc (d + 7) 3 0 [(0, .ref 1)] [] (Wd P Q P P c) 0 0 Z := by
  have hP := iv_P hI
  have hQ := iv_Q hI
  refine Wp_ls [(0, .ref 1)] (lsub_cons rfl lsub_nil) ?_
  have h_11 := ir_1_2 hI
  exact (s_3_l (sc := sc) (d := d) hI K 1204) c hI (fun a j hm => rfl) (by omega)

set_option maxRecDepth 100000 in
set_option maxHeartbeats 4000000 in
theorem s_4_l {sc : List Int32} {e : Int} {d u P Q : Nat} {q nt : Nat} {c : ME} {Z : AR → Prop} (hI : Iv u e P Q c) (hq : q < sN) (hnt : (sB q).length = nt) (hn9 : nt ≤ 100) (K : ∀ (c2 : ME) (y : Int), Iv u e P Q c2 → (∀ (a : Nat) (j : Int), ¬ ((a = 1 ∧ j = 2)) → c2 a j = c a j) → (-1) ≤ y ∧ y ≤ 100 → Z (.inl (some (vi y)), Wd P Q P P c2, 0, 0)) : ∀ n : Nat, (∀ (c2 : ME) (v2 : Int) (v3 : Int), Iv u e P Q c2 → (∀ (a : Nat) (j : Int), ¬ ((a = 1 ∧ j = 2)) → c2 a j = c a j) → 0 ≤ v2 ∧ v2 ≤ 600 → 0 ≤ v3 ∧ v3 ≤ 100 → ((c2 1 2 = v2)) → 201 - 2 * v3 < (n : Int) → Wp sc (d + 8) 4 7 [(0, .ref 1), (1, .ref (a_SB + q)), (2, vi v2), (3, vi v3)] [] (Wd P Q P P c2) 0 0 Z) := by
  intro n
  induction n with
  | zero => exact (by intro c2 v2 v3 hI2 hF hv2 hv3 hx0 hm9; have hP := iv_P hI; have hQ := iv_Q hI; exfalso; omega)
  | succ n ih =>
    have hP := iv_P hI
    have hQ := iv_Q hI
    intro c2 v2 v3 hI2 hF hv2 hv3 hx0 hm9
    have h_1 := ir_1_2 hI2
    refine q_iload_n c_4_7 rfl (q_aload_n c_4_8 rfl (v_sln nt rfl rfl (by omega) (nb_ rfl) hq hnt ?_))
    by_cases h_2 : v3 ≥ nt
    · refine v_ic_ge_t (t := 55) c_4_12 rfl ⟨by omega, h_2, (Int.le_trans hv3.2 (by decide))⟩ (q_iconst c_4_55 (q_iret c_4_56 rfl ?_))
      exact K c2 (-1) hI2 (fun a j hm => hF a j hm) ⟨by decide, by decide⟩
    · refine v_ic_ge_f (t := 55) c_4_12 rfl ⟨(Int.le_trans (by decide) hv3.1), (Int.not_le.mp h_2), by omega⟩ (q_iload_n c_4_15 rfl (q_aload_n c_4_16 rfl ?_))
      have h_3 := ir_1_1 hI
      have kn_4 : Hid (c2 1 1 = c 1 1) := hF 1 1 (fun h => absurd h.2 (ni rfl))
      refine v_gi (z := 1) (v := c 1 1) c_4_17 kf_5_32 rfl (nb_ rfl) rfl rfl (hid kn_4) ?_
      by_cases h_5 : v2 ≥ c 1 1
      · refine v_ic_ge_t (t := 55) c_4_20 rfl ⟨by first | exact q_3b2b08511 h_3 | omega, h_5, (Int.le_trans hv2.2 (by decide))⟩ (q_iconst c_4_55 (q_iret c_4_56 rfl ?_))
        exact K c2 (-1) hI2 (fun a j hm => hF a j hm) ⟨by decide, by decide⟩
      · refine v_ic_ge_f (t := 55) c_4_20 rfl ⟨(Int.le_trans (by decide) hv2.1), (Int.not_le.mp h_5), by first | exact q_3885e607f h_3 | omega⟩ (q_aload_n c_4_23 rfl (v_gr (t := 2) c_4_24 kf_5_9 rfl (nb_ rfl) rfl (q_iload_n c_4_27 rfl ?_)))
        have h_6 := ir_2 hI v2
        have kn_7 : Hid (c2 2 v2 = c 2 v2) := hF 2 v2 (fun h => absurd h.1 (nn rfl))
        refine v_ba (v := c 2 v2) c_4_28 rfl (by decide) (by decide) ⟨hv2.1, by first | exact q_364416c3d h_3 h_5 | omega⟩ (hid kn_7) (q_aload_n c_4_29 rfl (q_iload_n c_4_30 rfl (v_schx c_4_31 rfl (by omega) (nb_ rfl) hq hnt ⟨by omega, by omega⟩ hn9 (fun y_8 hy_8 => ?_))))
        by_cases h_9 : c 2 v2 ≠ y_8
        · refine v_ic_ne_t (t := 49) c_4_34 rfl ⟨h_9, ⟨by first | exact q_cc1935a2a h_6 | omega, by first | exact q_4e52e4576 h_6 | omega⟩, hy_8.1, hy_8.2⟩ (v_iinc (v := v3 + 1) c_4_49 rfl (nb_ rfl) rfl (q_goto (t := 7) c_4_52 rfl (Wp_ls [(0, .ref 1), (1, .ref (a_SB + q)), (2, vi v2), (3, vi (v3 + 1))] (lsub_cons rfl (lsub_cons rfl (lsub_cons rfl (lsub_cons rfl lsub_nil)))) ?_)))
          exact ih c2 v2 (v3 + 1) hI2 (fun a j hm => hF a j hm) hv2 ⟨by first | exact rgp_l hv3.1 (by decide) | omega, by first | (clear hv2 hv3 hx0 h_1 h_3 h_5 h_6 h_9; omega) | omega⟩ (by first | (clear hv2 hv3 h_1 h_2 h_3 h_5 h_6 h_9; omega) | omega) (by omega)
        · refine v_ic_ne_f (t := 49) c_4_34 rfl (Decidable.not_not.mp h_9) (q_aload_n c_4_37 rfl (q_dup c_4_38 rfl (v_gi (z := 2) (v := c2 1 2) c_4_39 kf_5_35 rfl (nb_ rfl) rfl rfl rfl (q_iconst c_4_42 (v_iadd (v := c2 1 2 + 1) c_4_43 rfl (v_pi (z := 2) c_4_44 kf_5_35 rfl (nb_ rfl) rfl rfl rfl (by decide) (q_iload_n c_4_47 rfl ?_)))))))
          refine q_iret c_4_48 rfl ?_
          have hI_10 := iw_1_2 (v := c2 1 2 + 1) hI2 ⟨by first | exact rgp_l h_1.1 (by decide) | omega, by omega⟩
          exact K (up c2 1 2 (c2 1 2 + 1)) v3 hI_10 (fun a j hm => (up_b (Decidable.or_iff_not_imp_left.mpr (fun h1 h2 => hm ⟨Decidable.not_not.mp h1, h2⟩))).trans (hF a j hm)) ⟨(Int.le_trans (by decide) hv3.1), hv3.2⟩
set_option maxRecDepth 100000 in
set_option maxHeartbeats 4000000 in
theorem s_4 {sc : List Int32} {e : Int} {d u P Q : Nat} {q nt : Nat} {c : ME} {Z : AR → Prop} (hI : Iv u e P Q c) (hq : q < sN) (hnt : (sB q).length = nt) (hn9 : nt ≤ 100) (K : ∀ (c2 : ME) (y : Int), Iv u e P Q c2 → (∀ (a : Nat) (j : Int), ¬ ((a = 1 ∧ j = 2)) → c2 a j = c a j) → (-1) ≤ y ∧ y ≤ 100 → Z (.inl (some (vi y)), Wd P Q P P c2, 0, 0)) : Wp sc (d + 8) 4 0 [(0, .ref 1), (1, .ref (a_SB + q))] [] (Wd P Q P P c) 0 0 Z := by
  have hP := iv_P hI
  have hQ := iv_Q hI
  refine q_aload_n c_4_0 rfl (v_cv c_4_1 km_5_41 rfl rfl (nb_ rfl) ⟨⟨rfl, rfl⟩, nb_ rfl, rfl⟩ (nb_ rfl) (nb_ rfl) (s_3 hI (fun c_11 y_14 hI_12 hF_13 hy_14 h_15 => (bk_inl ?_))))
  have h_16 := ir_1_2 hI_12
  refine q_istore_n c_4_4 (nb_ rfl) (q_iconst c_4_5 (q_istore_n c_4_6 (nb_ rfl) (Wp_ls [(0, .ref 1), (1, .ref (a_SB + q)), (2, vi y_14), (3, vi 0)] (lsub_cons rfl (lsub_cons rfl (lsub_cons rfl (lsub_cons rfl lsub_nil)))) ?_)))
  exact (s_4_l (sc := sc) (d := d) hI hq hnt hn9 K 204) c_11 y_14 0 hI_12 (fun a j hm => hF_13 a j hm) hy_14 ⟨by decide, by decide⟩ (by first | exact q_cea541e22 h_15 | omega) (by omega)

set_option maxRecDepth 100000 in
set_option maxHeartbeats 4000000 in
theorem s_5 {sc : List Int32} {e : Int} {d u P Q A : Nat} {c : ME} {a1 : Int} {Z : AR → Prop} (hI : Iv u e P Q c) (hA : A = 13 ∨ A = 25) (ha1 : 0 ≤ a1 ∧ a1 ≤ 3000) (hq0 : (a1 < 1008) ∨ (a1 ≥ 2000)) (K : ∀ (c2 : ME), Iv u e P Q c2 → (∀ (a : Nat) (j : Int), ¬ ((a = (A + 7) ∧ j = 5) ∨ a = (A + 9)) → c2 a j = c a j) → Z (.inl (none), Wd P Q P P c2, 0, 0)) : Wp sc (d + 7) 5 0 [(0, .ref (A + 7)), (1, vi a1)] [] (Wd P Q P P c) 0 0 Z := by
  have hP := iv_P hI
  have hQ := iv_Q hI
  refine q_aload_n c_5_0 rfl ?_
  have h_1 := ir_p7_5 hI hA
  refine v_gi (z := 5) (v := c (A + 7) 5) c_5_1 kf_0_28 (ck_p7 hA) (a68 hA rfl) rfl rfl rfl (q_aload_n c_5_4 rfl (v_gr (t := (A + 9)) c_5_5 kf_0_15 (ck_p7 hA) (a68 hA rfl) rfl (v_al c_5_8 (ck_p9 hA) (a68 hA rfl) (by decide) ?_)))
  by_cases h_2 : c (A + 7) 5 ≥ 150
  · refine v_ic_ge_t (t := 32) c_5_9 rfl ⟨by decide, h_2, (Int.le_trans h_1.2 (by decide))⟩ (q_vret rfl rfl ?_)
    exact K c hI (fun a j hm => rfl)
  · refine v_ic_ge_f (t := 32) c_5_9 rfl ⟨(Int.le_trans (by decide) h_1.1), (Int.not_le.mp h_2), by decide⟩ (q_aload_n c_5_12 rfl (v_gr (t := (A + 9)) c_5_13 kf_0_15 (ck_p7 hA) (a68 hA rfl) rfl (q_aload_n c_5_16 rfl (v_gi (z := 5) (v := c (A + 7) 5) c_5_17 kf_0_28 (ck_p7 hA) (a68 hA rfl) rfl rfl rfl (q_iload_n c_5_20 rfl (v_is c_5_21 (ck_p9 hA) (a68 hA rfl) (by decide) ⟨h_1.1, by first | exact q_cc605f3b6 h_2 | omega⟩ (q_aload_n c_5_22 rfl ?_)))))))
    refine q_dup c_5_23 rfl (v_gi (z := 5) (v := c (A + 7) 5) c_5_24 kf_0_28 (ck_p7 hA) (a68 hA rfl) rfl rfl (up_c (pp rfl)) (q_iconst c_5_27 (v_iadd (v := c (A + 7) 5 + 1) c_5_28 rfl (v_pi (z := 5) c_5_29 kf_0_28 (ck_p7 hA) (a68 hA rfl) rfl rfl rfl (by decide) (q_vret rfl rfl ?_)))))
    have hI_3 := iw_lg (j := c (A + 7) 5) (v := a1) hI (lgp (k := 9) hA (by decide)) ⟨by omega, by omega⟩ (by omega)
    have hI_4 := iw_p7_5 (v := c (A + 7) 5 + 1) hI_3 hA ⟨by first | exact rgp_l h_1.1 (by decide) | omega, by first | exact q_e92c430a0 h_2 | omega⟩
    exact K (up (up c (A + 9) (c (A + 7) 5) a1) (A + 7) 5 (c (A + 7) 5 + 1)) hI_4 (fun a j hm => (up_b (Decidable.or_iff_not_imp_left.mpr (fun h1 h2 => hm (Or.inl ⟨Decidable.not_not.mp h1, h2⟩)))).trans (up_b (Decidable.or_iff_not_imp_left.mpr (fun h1 h2 => hm (Or.inr (Decidable.not_not.mp h1))))))

set_option maxRecDepth 100000 in
set_option maxHeartbeats 4000000 in
theorem s_6 {sc : List Int32} {e : Int} {d u P Q : Nat} {c : ME} {Z : AR → Prop} (hI : Iv u e P Q c)  (K : ∀ (c2 : ME) (y : Int), Iv u e P Q c2 → (∀ (a : Nat) (j : Int), ¬ ((a = 1 ∧ j = 2)) → c2 a j = c a j) → 0 ≤ y ∧ y ≤ 1 → ((y = 0) ∨ (c2 1 2 < c2 1 1)) → Z (.inl (some (vi y)), Wd P Q P P c2, 0, 0)) : Wp sc (d + 8) 6 0 [(0, .ref 1)] [] (Wd P Q P P c) 0 0 Z := by
  have hP := iv_P hI
  have hQ := iv_Q hI
  refine q_aload_n c_6_0 rfl (v_cv c_6_1 km_5_41 rfl rfl (nb_ rfl) ⟨⟨rfl, rfl⟩, nb_ rfl, rfl⟩ (nb_ rfl) (nb_ rfl) (s_3 hI (fun c_1 y_4 hI_2 hF_3 hy_4 h_5 => (bk_inl ?_))))
  have h_6 := ir_1_2 hI_2
  refine q_istore_n c_6_4 (nb_ rfl) (q_iload_n c_6_5 rfl (q_aload_n c_6_6 rfl ?_))
  have h_7 := ir_1_1 hI
  have kn_8 : Hid (c_1 1 1 = c 1 1) := hF_3 1 1 (fun h => absurd h.2 (ni rfl))
  refine v_gi (z := 1) (v := c 1 1) c_6_7 kf_5_32 rfl (nb_ rfl) rfl rfl (hid kn_8) ?_
  by_cases h_9 : y_4 ≥ c 1 1
  · refine v_ic_ge_t (t := 39) c_6_10 rfl ⟨by first | exact q_3b2b08511 h_7 | omega, h_9, (Int.le_trans hy_4.2 (by decide))⟩ (q_iconst c_6_39 (v_zret c_6_40 rfl (by decide) ?_))
    have h_10 : c_1 1 1 = c 1 1 := (hid kn_8)
    exact K c_1 0 hI_2 (fun a j hm => hF_3 a j hm) ⟨by decide, by decide⟩ (Or.inl (by first | assumption | omega))
  · refine v_ic_ge_f (t := 39) c_6_10 rfl ⟨(Int.le_trans (by decide) hy_4.1), (Int.not_le.mp h_9), by first | exact q_3885e607f h_7 | omega⟩ (q_aload_n c_6_13 rfl (v_gr (t := 2) c_6_14 kf_5_9 rfl (nb_ rfl) rfl (q_iload_n c_6_17 rfl ?_)))
    have h_11 := ir_2 hI y_4
    have kn_12 : Hid (c_1 2 y_4 = c 2 y_4) := hF_3 2 y_4 (fun h => absurd h.1 (nn rfl))
    refine v_ba (v := c 2 y_4) c_6_18 rfl (by decide) (by decide) ⟨hy_4.1, by first | exact q_364416c3d h_7 h_9 | omega⟩ (hid kn_12) (v_bip c_6_19 (by decide) ?_)
    by_cases h_13 : c 2 y_4 < 48
    · refine v_ic_lt_t (t := 39) c_6_21 rfl ⟨by first | exact q_cc1935a2a h_11 | omega, h_13, by decide⟩ (q_iconst c_6_39 (v_zret c_6_40 rfl (by decide) ?_))
      have h_14 : c_1 1 1 = c 1 1 := (hid kn_8)
      exact K c_1 0 hI_2 (fun a j hm => hF_3 a j hm) ⟨by decide, by decide⟩ (Or.inl (by first | assumption | omega))
    · refine v_ic_lt_f (t := 39) c_6_21 rfl ⟨by decide, (Int.not_lt.mp h_13), by first | exact q_4e52e4576 h_11 | omega⟩ (q_aload_n c_6_24 rfl (v_gr (t := 2) c_6_25 kf_5_9 rfl (nb_ rfl) rfl (q_iload_n c_6_28 rfl (v_ba (v := c 2 y_4) c_6_29 rfl (by decide) (by decide) ⟨hy_4.1, by first | exact q_364416c3d h_7 h_9 | omega⟩ (hid kn_12) (v_bip c_6_30 (by decide) ?_)))))
      by_cases h_15 : c 2 y_4 > 57
      · refine v_ic_gt_t (t := 39) c_6_32 rfl ⟨by decide, h_15, by first | exact q_4e52e4576 h_11 | omega⟩ (q_iconst c_6_39 (v_zret c_6_40 rfl (by decide) ?_))
        have h_16 : c_1 1 1 = c 1 1 := (hid kn_8)
        exact K c_1 0 hI_2 (fun a j hm => hF_3 a j hm) ⟨by decide, by decide⟩ (Or.inl (by first | assumption | omega))
      · refine v_ic_gt_f (t := 39) c_6_32 rfl ⟨by first | exact q_993cab007 h_13 | omega, (Int.not_lt.mp h_15), by decide⟩ (q_iconst c_6_35 (q_goto (t := 40) c_6_36 rfl (v_zret c_6_40 rfl (by decide) ?_)))
        have h_17 : c_1 1 1 = c 1 1 := (hid kn_8)
        exact K c_1 1 hI_2 (fun a j hm => hF_3 a j hm) ⟨by decide, by decide⟩ (Or.inr (by first | exact q_96f87bb65 h_5 h_9 | omega))

set_option maxRecDepth 100000 in
set_option maxHeartbeats 4000000 in
theorem s_7 {sc : List Int32} {e : Int} {d u P Q : Nat} {c : ME} {a1 : Int} {a2 : Int} {Z : AR → Prop} (hI : Iv u e P Q c) (ha1 : 1 ≤ a1 ∧ a1 ≤ 3) (ha2 : 0 ≤ a2 ∧ a2 ≤ 600) (K : ∀ (c2 : ME), Iv u e P Q c2 → (∀ (a : Nat) (j : Int), ¬ ((a = 1 ∧ j = 4) ∨ (a = 1 ∧ j = 5)) → c2 a j = c a j) → ((c2 1 4 ≠ 0)) → Z (.inl (none), Wd P Q P P c2, 0, 0)) : Wp sc (d + 7) 7 0 [(0, .ref 1), (1, vi a1), (2, vi a2)] [] (Wd P Q P P c) 0 0 Z := by
  have hP := iv_P hI
  have hQ := iv_Q hI
  refine q_aload_n c_7_0 rfl ?_
  have h_1 := ir_1_4 hI
  refine v_gi (z := 4) (v := c 1 4) c_7_1 kf_5_38 rfl (nb_ rfl) rfl rfl rfl ?_
  by_cases h_2 : c 1 4 ≠ 0
  · refine v_if_ne_t (t := 17) c_7_4 rfl ⟨h_2, ⟨(Int.le_trans (by decide) h_1.1), (Int.le_trans h_1.2 (by decide))⟩, by decide, by decide⟩ (q_vret rfl rfl ?_)
    exact K c hI (fun a j hm => rfl) (by first | exact q_646bc4652 h_1 h_2 | omega)
  · refine v_if_ne_f (t := 17) c_7_4 rfl (Decidable.not_not.mp h_2) (q_aload_n c_7_7 rfl (q_iload_n c_7_8 rfl (v_pi (z := 4) c_7_9 kf_5_38 rfl (nb_ rfl) rfl rfl rfl (by decide) (q_aload_n c_7_12 rfl (q_iload_n c_7_13 rfl (v_pi (z := 5) c_7_14 kf_5_15 rfl (nb_ rfl) rfl rfl rfl (by decide) (q_vret rfl rfl ?_)))))))
    have hI_3 := iw_1_4 (v := a1) hI ⟨(Int.le_trans (by decide) ha1.1), ha1.2⟩
    have hI_4 := iw_1_5 (v := a2) hI_3 ⟨(Int.le_trans (by decide) ha2.1), ha2.2⟩
    have h_5 : (up (up c 1 4 a1) 1 5 a2) 1 4 = a1 := ((up_n (by decide)).trans (up_e rfl))
    exact K (up (up c 1 4 a1) 1 5 a2) hI_4 (fun a j hm => (up_b (Decidable.or_iff_not_imp_left.mpr (fun h1 h2 => hm (Or.inr ⟨Decidable.not_not.mp h1, h2⟩)))).trans (up_b (Decidable.or_iff_not_imp_left.mpr (fun h1 h2 => hm (Or.inl ⟨Decidable.not_not.mp h1, h2⟩))))) (by first | exact q_59cb102df ha1 | omega)

set_option maxRecDepth 100000 in
set_option maxHeartbeats 4000000 in
theorem s_8_l {sc : List Int32} {e : Int} {d u P Q : Nat} {c : ME} {a1 : Int} {Z : AR → Prop} (hI : Iv u e P Q c) (ha1 : (-1) ≤ a1 ∧ a1 ≤ 9999) (K : ∀ (c2 : ME) (y : Int), Iv u e P Q c2 → (∀ (a : Nat) (j : Int), ¬ ((a = 1 ∧ j = 2) ∨ (a = 1 ∧ j = 4) ∨ (a = 1 ∧ j = 5)) → c2 a j = c a j) → 0 ≤ y ∧ y ≤ 9999 → ((y ≤ a1) ∨ (y = 0)) → Z (.inl (some (vi y)), Wd P Q P P c2, 0, 0)) : ∀ n : Nat, (∀ (c2 : ME) (v2 : Int) (v3 : Int), Iv u e P Q c2 → (∀ (a : Nat) (j : Int), ¬ ((a = 1 ∧ j = 2) ∨ (a = 1 ∧ j = 4) ∨ (a = 1 ∧ j = 5)) → c2 a j = c a j) → 0 ≤ v2 ∧ v2 ≤ 600 → 0 ≤ v3 ∧ v3 ≤ 99999 → 1201 - 2 * c2 1 2 < (n : Int) → Wp sc (d + 9) 8 34 [(0, .ref 1), (1, vi a1), (2, vi v2), (3, vi v3)] [] (Wd P Q P P c2) 0 0 Z) := by
  intro n
  induction n with
  | zero => exact (by intro c2 v2 v3 hI2 hF hv2 hv3 hm9; have hP := iv_P hI; have hQ := iv_Q hI; have h_30 := ir_1_2 hI2; exfalso; omega)
  | succ n ih =>
    have hP := iv_P hI
    have hQ := iv_Q hI
    intro c2 v2 v3 hI2 hF hv2 hv3 hm9
    have h_1 := ir_1_2 hI2
    refine q_aload_n c_8_34 rfl (v_gi (z := 2) (v := c2 1 2) c_8_35 kf_5_35 rfl (nb_ rfl) rfl rfl rfl (q_aload_n c_8_38 rfl ?_))
    have h_2 := ir_1_1 hI
    have kn_3 : Hid (c2 1 1 = c 1 1) := hF 1 1 qn_b782e6d88
    refine v_gi (z := 1) (v := c 1 1) c_8_39 kf_5_32 rfl (nb_ rfl) rfl rfl (hid kn_3) ?_
    by_cases h_4 : c2 1 2 ≥ c 1 1
    · refine v_ic_ge_t (t := 109) c_8_42 rfl ⟨by first | exact q_3b2b08511 h_2 | omega, h_4, (Int.le_trans h_1.2 (by decide))⟩ (q_iload_n c_8_109 rfl (q_iload_n c_8_110 rfl ?_))
      by_cases h_5 : v3 ≤ a1
      · refine v_ic_le_t (t := 122) c_8_111 rfl ⟨(Int.le_trans (by decide) hv3.1), h_5, (Int.le_trans ha1.2 (by decide))⟩ (q_iload_n c_8_122 rfl (q_iret c_8_123 rfl ?_))
        exact K c2 v3 hI2 (fun a j hm => hF a j hm) ⟨hv3.1, by first | exact q_3bbf258e8 h_5 ha1 | omega⟩ (Or.inl (by first | exact q_514734711 h_5 | omega))
      · refine v_ic_le_f (t := 122) c_8_111 rfl ⟨(Int.le_trans (by decide) ha1.1), (Int.not_le.mp h_5), (Int.le_trans hv3.2 (by decide))⟩ (q_aload_n c_8_114 rfl (q_iconst c_8_115 (q_iload_n c_8_116 rfl (v_cv c_8_117 km_5_52 rfl rfl (nb_ rfl) ⟨⟨rfl, rfl⟩, nb_ rfl, rfl⟩ (nb_ rfl) (nb_ rfl) (s_7 (a1 := 2) (a2 := v2) hI2 (show 1 ≤ 2 ∧ 2 ≤ 3 from ⟨by decide, by decide⟩) (show 0 ≤ v2 ∧ v2 ≤ 600 from hv2) (fun c_6 hI_7 hF_8 h_9 => (bk_inl ?_)))))))
        have h_10 := ir_1_4 hI_7
        refine q_iconst c_8_120 (q_iret c_8_121 rfl ?_)
        exact K c_6 0 hI_7 (fun a j hm => (hF_8 a j (qv_7ce279f74 hm)).trans (hF a j hm)) ⟨by decide, by decide⟩ (Or.inr (by first | assumption | omega))
    · refine v_ic_ge_f (t := 109) c_8_42 rfl ⟨(Int.le_trans (by decide) h_1.1), (Int.not_le.mp h_4), by first | exact q_3885e607f h_2 | omega⟩ (q_aload_n c_8_45 rfl (v_gr (t := 2) c_8_46 kf_5_9 rfl (nb_ rfl) rfl (q_aload_n c_8_49 rfl (v_gi (z := 2) (v := c2 1 2) c_8_50 kf_5_35 rfl (nb_ rfl) rfl rfl rfl ?_))))
      have h_11 := ir_2 hI (c2 1 2)
      have kn_12 : Hid (c2 2 (c2 1 2) = c 2 (c2 1 2)) := hF 2 (c2 1 2) qn_e2b123f84
      refine v_ba (v := c 2 (c2 1 2)) c_8_53 rfl (by decide) (by decide) ⟨h_1.1, by first | exact q_364416c3d h_2 h_4 | omega⟩ (hid kn_12) (v_bip c_8_54 (by decide) ?_)
      by_cases h_13 : c 2 (c2 1 2) < 48
      · refine v_ic_lt_t (t := 109) c_8_56 rfl ⟨by first | exact q_cc1935a2a h_11 | omega, h_13, by decide⟩ (q_iload_n c_8_109 rfl (q_iload_n c_8_110 rfl ?_))
        by_cases h_14 : v3 ≤ a1
        · refine v_ic_le_t (t := 122) c_8_111 rfl ⟨(Int.le_trans (by decide) hv3.1), h_14, (Int.le_trans ha1.2 (by decide))⟩ (q_iload_n c_8_122 rfl (q_iret c_8_123 rfl ?_))
          exact K c2 v3 hI2 (fun a j hm => hF a j hm) ⟨hv3.1, by first | exact q_3bbf258e8 h_14 ha1 | omega⟩ (Or.inl (by first | exact q_514734711 h_14 | omega))
        · refine v_ic_le_f (t := 122) c_8_111 rfl ⟨(Int.le_trans (by decide) ha1.1), (Int.not_le.mp h_14), (Int.le_trans hv3.2 (by decide))⟩ (q_aload_n c_8_114 rfl (q_iconst c_8_115 (q_iload_n c_8_116 rfl (v_cv c_8_117 km_5_52 rfl rfl (nb_ rfl) ⟨⟨rfl, rfl⟩, nb_ rfl, rfl⟩ (nb_ rfl) (nb_ rfl) (s_7 (a1 := 2) (a2 := v2) hI2 (show 1 ≤ 2 ∧ 2 ≤ 3 from ⟨by decide, by decide⟩) (show 0 ≤ v2 ∧ v2 ≤ 600 from hv2) (fun c_15 hI_16 hF_17 h_18 => (bk_inl ?_)))))))
          have h_19 := ir_1_4 hI_16
          refine q_iconst c_8_120 (q_iret c_8_121 rfl ?_)
          exact K c_15 0 hI_16 (fun a j hm => (hF_17 a j (qv_7ce279f74 hm)).trans (hF a j hm)) ⟨by decide, by decide⟩ (Or.inr (by first | assumption | omega))
      · refine v_ic_lt_f (t := 109) c_8_56 rfl ⟨by decide, (Int.not_lt.mp h_13), by first | exact q_4e52e4576 h_11 | omega⟩ (q_aload_n c_8_59 rfl (v_gr (t := 2) c_8_60 kf_5_9 rfl (nb_ rfl) rfl (q_aload_n c_8_63 rfl (v_gi (z := 2) (v := c2 1 2) c_8_64 kf_5_35 rfl (nb_ rfl) rfl rfl rfl (v_ba (v := c 2 (c2 1 2)) c_8_67 rfl (by decide) (by decide) ⟨h_1.1, by first | exact q_364416c3d h_2 h_4 | omega⟩ (hid kn_12) (v_bip c_8_68 (by decide) ?_))))))
        by_cases h_20 : c 2 (c2 1 2) > 57
        · refine v_ic_gt_t (t := 109) c_8_70 rfl ⟨by decide, h_20, by first | exact q_4e52e4576 h_11 | omega⟩ (q_iload_n c_8_109 rfl (q_iload_n c_8_110 rfl ?_))
          by_cases h_21 : v3 ≤ a1
          · refine v_ic_le_t (t := 122) c_8_111 rfl ⟨(Int.le_trans (by decide) hv3.1), h_21, (Int.le_trans ha1.2 (by decide))⟩ (q_iload_n c_8_122 rfl (q_iret c_8_123 rfl ?_))
            exact K c2 v3 hI2 (fun a j hm => hF a j hm) ⟨hv3.1, by first | exact q_3bbf258e8 h_21 ha1 | omega⟩ (Or.inl (by first | exact q_514734711 h_21 | omega))
          · refine v_ic_le_f (t := 122) c_8_111 rfl ⟨(Int.le_trans (by decide) ha1.1), (Int.not_le.mp h_21), (Int.le_trans hv3.2 (by decide))⟩ (q_aload_n c_8_114 rfl (q_iconst c_8_115 (q_iload_n c_8_116 rfl (v_cv c_8_117 km_5_52 rfl rfl (nb_ rfl) ⟨⟨rfl, rfl⟩, nb_ rfl, rfl⟩ (nb_ rfl) (nb_ rfl) (s_7 (a1 := 2) (a2 := v2) hI2 (show 1 ≤ 2 ∧ 2 ≤ 3 from ⟨by decide, by decide⟩) (show 0 ≤ v2 ∧ v2 ≤ 600 from hv2) (fun c_22 hI_23 hF_24 h_25 => (bk_inl ?_)))))))
            have h_26 := ir_1_4 hI_23
            refine q_iconst c_8_120 (q_iret c_8_121 rfl ?_)
            exact K c_22 0 hI_23 (fun a j hm => (hF_24 a j (qv_7ce279f74 hm)).trans (hF a j hm)) ⟨by decide, by decide⟩ (Or.inr (by first | assumption | omega))
        · refine v_ic_gt_f (t := 109) c_8_70 rfl ⟨by first | exact q_993cab007 h_13 | omega, (Int.not_lt.mp h_20), by decide⟩ (q_iload_n c_8_73 rfl (v_bip c_8_74 (by decide) (v_imul (v := 10 * v3) c_8_76 (by first | exact q_1a871867b | omega) (q_aload_n c_8_77 rfl (v_gr (t := 2) c_8_78 kf_5_9 rfl (nb_ rfl) rfl (q_aload_n c_8_81 rfl (v_gi (z := 2) (v := c2 1 2) c_8_82 kf_5_35 rfl (nb_ rfl) rfl rfl rfl ?_)))))))
          refine v_ba (v := c 2 (c2 1 2)) c_8_85 rfl (by decide) (by decide) ⟨h_1.1, by first | exact q_364416c3d h_2 h_4 | omega⟩ (hid kn_12) (v_iadd (v := c 2 (c2 1 2) + 10 * v3) c_8_86 (by first | exact q_e1ab7a985 | omega) (v_bip c_8_87 (by decide) (v_isub (v := c 2 (c2 1 2) + 10 * v3 - 48) c_8_89 rfl (v_ldc (n := 99999) c_8_90 rfl (by decide +kernel) (v_minx c_8_92 rfl (by omega) (nb_ rfl) ⟨by omega, by omega, by omega, by omega⟩ (fun y_27 hy_27 => (q_istore_n c_8_95 (nb_ rfl) (q_aload_n c_8_96 rfl ?_))))))))
          refine q_dup c_8_97 rfl (v_gi (z := 2) (v := c2 1 2) c_8_98 kf_5_35 rfl (nb_ rfl) rfl rfl rfl (q_iconst c_8_101 (v_iadd (v := c2 1 2 + 1) c_8_102 rfl (v_pi (z := 2) c_8_103 kf_5_35 rfl (nb_ rfl) rfl rfl rfl (by decide) (q_goto (t := 34) c_8_106 rfl ?_)))))
          have hI_28 := iw_1_2 (v := c2 1 2 + 1) hI2 ⟨by first | exact rgp_l h_1.1 (by decide) | omega, by first | exact q_e9d2b66ad h_2 h_4 | omega⟩
          refine Wp_ls [(0, .ref 1), (1, vi a1), (2, vi v2), (3, vi y_27)] (lsub_cons rfl (lsub_cons rfl (lsub_cons rfl (lsub_cons rfl lsub_nil)))) ?_
          have h_29 : (up c2 1 2 (c2 1 2 + 1)) 1 2 = c2 1 2 + 1 := (up_e rfl)
          exact ih (up c2 1 2 (c2 1 2 + 1)) v2 y_27 hI_28 (fun a j hm => (up_b (Decidable.or_iff_not_imp_left.mpr (fun h1 h2 => hm (Or.inl ⟨Decidable.not_not.mp h1, h2⟩)))).trans (hF a j hm)) hv2 ⟨by omega, by omega⟩ (by omega)
set_option maxRecDepth 100000 in
set_option maxHeartbeats 4000000 in
theorem s_8 {sc : List Int32} {e : Int} {d u P Q : Nat} {c : ME} {a1 : Int} {Z : AR → Prop} (hI : Iv u e P Q c) (ha1 : (-1) ≤ a1 ∧ a1 ≤ 9999) (K : ∀ (c2 : ME) (y : Int), Iv u e P Q c2 → (∀ (a : Nat) (j : Int), ¬ ((a = 1 ∧ j = 2) ∨ (a = 1 ∧ j = 4) ∨ (a = 1 ∧ j = 5)) → c2 a j = c a j) → 0 ≤ y ∧ y ≤ 9999 → ((y ≤ a1) ∨ (y = 0)) → Z (.inl (some (vi y)), Wd P Q P P c2, 0, 0)) : Wp sc (d + 9) 8 0 [(0, .ref 1), (1, vi a1)] [] (Wd P Q P P c) 0 0 Z := by
  have hP := iv_P hI
  have hQ := iv_Q hI
  refine q_aload_n c_8_0 rfl (v_cv c_8_1 km_5_45 rfl rfl (nb_ rfl) ⟨⟨rfl, rfl⟩, nb_ rfl, rfl⟩ (nb_ rfl) (nb_ rfl) (q_aload_n c_2_0 rfl ?_))
  have h_31 := ir_1_4 hI
  refine v_gi (z := 4) (v := c 1 4) c_2_1 kf_5_38 rfl (nb_ rfl) rfl rfl rfl ?_
  by_cases h_32 : c 1 4 ≠ 0
  · refine v_if_ne_t (t := 11) c_2_4 rfl ⟨h_32, ⟨(Int.le_trans (by decide) h_31.1), (Int.le_trans h_31.2 (by decide))⟩, by decide, by decide⟩ (q_iconst c_2_11 (v_zret c_2_12 rfl (by decide) (bk_inl (v_if_ne_f (t := 9) c_8_4 rfl (by decide) (q_iconst c_8_7 (q_iret c_8_8 rfl ?_))))))
    exact K c 0 hI (fun a j hm => rfl) ⟨by decide, by decide⟩ (Or.inr (by first | assumption | omega))
  · refine v_if_ne_f (t := 11) c_2_4 rfl (Decidable.not_not.mp h_32) (q_iconst c_2_7 (q_goto (t := 12) c_2_8 rfl (v_zret c_2_12 rfl (by decide) (bk_inl (v_if_ne_t (t := 9) c_8_4 rfl (by decide) (q_aload_n c_8_9 rfl (v_cv c_8_10 km_5_69 rfl rfl (nb_ rfl) ⟨⟨rfl, rfl⟩, nb_ rfl, rfl⟩ (nb_ rfl) (nb_ rfl) (s_6 hI (fun c_33 y_36 hI_34 hF_35 hy_36 h_37 => ?_)))))))))
    refine bk_inl ?_
    have h_38 := ir_1_1 hI_34
    have h_39 := ir_1_2 hI_34
    by_cases h_40 : y_36 ≠ 0
    · refine v_if_ne_t (t := 27) c_8_13 rfl ⟨h_40, ⟨(Int.le_trans (by decide) hy_36.1), (Int.le_trans hy_36.2 (by decide))⟩, by decide, by decide⟩ (q_aload_n c_8_27 rfl (v_gi (z := 2) (v := c_33 1 2) c_8_28 kf_5_35 rfl (nb_ rfl) rfl rfl rfl (q_istore_n c_8_31 (nb_ rfl) (q_iconst c_8_32 (q_istore_n c_8_33 (nb_ rfl) (Wp_ls [(0, .ref 1), (1, vi a1), (2, vi (c_33 1 2)), (3, vi 0)] (lsub_cons rfl (lsub_cons rfl (lsub_cons rfl (lsub_cons rfl lsub_nil)))) ?_))))))
      exact (s_8_l (sc := sc) (d := d) hI ha1 K 1204) c_33 (c_33 1 2) 0 hI_34 (fun a j hm => hF_35 a j (fun h => hm (Or.inl h))) h_39 ⟨by decide, by decide⟩ (by omega)
    · refine v_if_ne_f (t := 27) c_8_13 rfl (Decidable.not_not.mp h_40) (q_aload_n c_8_16 rfl (q_iconst c_8_17 (q_aload_n c_8_18 rfl (v_gi (z := 2) (v := c_33 1 2) c_8_19 kf_5_35 rfl (nb_ rfl) rfl rfl rfl (v_cv c_8_22 km_5_52 rfl rfl (nb_ rfl) ⟨⟨rfl, rfl⟩, nb_ rfl, rfl⟩ (nb_ rfl) (nb_ rfl) (s_7 (a1 := 1) (a2 := c_33 1 2) hI_34 (show 1 ≤ 1 ∧ 1 ≤ 3 from ⟨by decide, by decide⟩) (show 0 ≤ c_33 1 2 ∧ c_33 1 2 ≤ 600 from h_39) (fun c_41 hI_42 hF_43 h_44 => (bk_inl ?_))))))))
      have h_45 := ir_1_4 hI_42
      refine q_iconst c_8_25 (q_iret c_8_26 rfl ?_)
      exact K c_41 0 hI_42 (fun a j hm => (hF_43 a j (qv_7ce279f74 hm)).trans (hF_35 a j (fun h => hm (Or.inl h)))) ⟨by decide, by decide⟩ (Or.inr (by first | assumption | omega))

set_option maxRecDepth 100000 in
set_option maxHeartbeats 4000000 in
theorem s_9_l {sc : List Int32} {e : Int} {d u P Q : Nat} {q nt : Nat} {c : ME} {a2 : Int} {a3 : Int} {a4 : Int} {Z : AR → Prop} (hI : Iv u e P Q c) (hq : q < sN) (hnt : (sB q).length = nt) (hn9 : nt ≤ 100) (ha2 : 0 ≤ a2 ∧ a2 ≤ 100) (ha3 : 0 ≤ a3 ∧ a3 ≤ 600) (ha4 : 0 ≤ a4 ∧ a4 ≤ 600) (hq0 : (a2 + a4 ≤ nt)) (hq1 : (a3 + a4 ≤ 600)) (K : ∀ (y : Int), 0 ≤ y ∧ y ≤ 1 → Z (.inl (some (vi y)), Wd P Q P P c, 0, 0)) : ∀ n : Nat, (∀ (v5 : Int), 0 ≤ v5 ∧ v5 ≤ 600 → 1201 - 2 * v5 < (n : Int) → Wp sc (d + 7) 9 3 [(0, .ref 1), (1, .ref (a_SB + q)), (2, vi a2), (3, vi a3), (4, vi a4), (5, vi v5)] [] (Wd P Q P P c) 0 0 Z) := by
  intro n
  induction n with
  | zero => exact (by intro v5 hv5 hm9; have hP := iv_P hI; have hQ := iv_Q hI; exfalso; omega)
  | succ n ih =>
    have hP := iv_P hI
    have hQ := iv_Q hI
    intro v5 hv5 hm9
    refine q_iload c_9_3 rfl (q_iload c_9_5 rfl ?_)
    by_cases h_1 : v5 ≥ a4
    · refine v_ic_ge_t (t := 38) c_9_7 rfl ⟨(Int.le_trans (by decide) ha4.1), h_1, (Int.le_trans hv5.2 (by decide))⟩ (q_iconst c_9_38 (v_zret c_9_39 rfl (by decide) ?_))
      exact K 1 ⟨by decide, by decide⟩
    · refine v_ic_ge_f (t := 38) c_9_7 rfl ⟨(Int.le_trans (by decide) hv5.1), (Int.not_le.mp h_1), (Int.le_trans ha4.2 (by decide))⟩ (q_aload_n c_9_10 rfl (q_iload_n c_9_11 rfl (q_iload c_9_12 rfl (v_iadd (v := a2 + v5) c_9_14 rfl (v_schx c_9_15 rfl (by omega) (nb_ rfl) hq hnt ⟨by omega, by omega⟩ hn9 (fun y_2 hy_2 => (q_aload_n c_9_18 rfl (v_gr (t := 2) c_9_19 kf_5_9 rfl (nb_ rfl) rfl ?_))))))))
      refine q_iload_n c_9_22 rfl (q_iload c_9_23 rfl (v_iadd (v := a3 + v5) c_9_25 rfl ?_))
      have h_3 := ir_2 hI (a3 + v5)
      refine v_ba (v := c 2 (a3 + v5)) c_9_26 rfl (by decide) (by decide) ⟨by first | exact q_06511f6df ha3 hv5 | omega, by first | exact q_4a9017cbe h_1 hq1 | omega⟩ rfl ?_
      by_cases h_4 : y_2 = c 2 (a3 + v5)
      · refine v_ic_eq_t (t := 32) c_9_27 rfl h_4 (v_iinc (v := v5 + 1) c_9_32 rfl (nb_ rfl) rfl (q_goto (t := 3) c_9_35 rfl (Wp_ls [(0, .ref 1), (1, .ref (a_SB + q)), (2, vi a2), (3, vi a3), (4, vi a4), (5, vi (v5 + 1))] (lsub_cons rfl (lsub_cons rfl (lsub_cons rfl (lsub_cons rfl (lsub_cons rfl (lsub_cons rfl lsub_nil)))))) ?_)))
        exact ih (v5 + 1) ⟨by first | exact rgp_l hv5.1 (by decide) | omega, by omega⟩ (by omega)
      · refine v_ic_eq_f (t := 32) c_9_27 rfl ⟨h_4, ⟨hy_2.1, hy_2.2⟩, h_3.1, h_3.2⟩ (q_iconst c_9_30 (v_zret c_9_31 rfl (by decide) ?_))
        exact K 0 ⟨by decide, by decide⟩
set_option maxRecDepth 100000 in
set_option maxHeartbeats 4000000 in
theorem s_9 {sc : List Int32} {e : Int} {d u P Q : Nat} {q nt : Nat} {c : ME} {a2 : Int} {a3 : Int} {a4 : Int} {Z : AR → Prop} (hI : Iv u e P Q c) (hq : q < sN) (hnt : (sB q).length = nt) (hn9 : nt ≤ 100) (ha2 : 0 ≤ a2 ∧ a2 ≤ 100) (ha3 : 0 ≤ a3 ∧ a3 ≤ 600) (ha4 : 0 ≤ a4 ∧ a4 ≤ 600) (hq0 : (a2 + a4 ≤ nt)) (hq1 : (a3 + a4 ≤ 600)) (K : ∀ (y : Int), 0 ≤ y ∧ y ≤ 1 → Z (.inl (some (vi y)), Wd P Q P P c, 0, 0)) : Wp sc (d + 7) 9 0 [(0, .ref 1), (1, .ref (a_SB + q)), (2, vi a2), (3, vi a3), (4, vi a4)] [] (Wd P Q P P c) 0 0 Z := by
  have hP := iv_P hI
  have hQ := iv_Q hI
  refine q_iconst c_9_0 (q_istore c_9_1 (nb_ rfl) (Wp_ls [(0, .ref 1), (1, .ref (a_SB + q)), (2, vi a2), (3, vi a3), (4, vi a4), (5, vi 0)] (lsub_cons rfl (lsub_cons rfl (lsub_cons rfl (lsub_cons rfl (lsub_cons rfl (lsub_cons rfl lsub_nil)))))) ?_))
  exact (s_9_l (sc := sc) (d := d) hI hq hnt hn9 ha2 ha3 ha4 hq0 hq1 K 1204) 0 ⟨by decide, by decide⟩ (by omega)

set_option maxRecDepth 100000 in
set_option maxHeartbeats 4000000 in
theorem s_10_l {sc : List Int32} {e : Int} {d u P Q : Nat} {q nt : Nat} {c : ME} {Z : AR → Prop} (hI : Iv u e P Q c) (hq : q < sN) (hnt : (sB q).length = nt) (hn9 : nt ≤ 100) (K : ∀ (c2 : ME) (y : Int), Iv u e P Q c2 → (∀ (a : Nat) (j : Int), ¬ ((a = 1 ∧ j = 2) ∨ (a = 1 ∧ j = 4) ∨ (a = 1 ∧ j = 5)) → c2 a j = c a j) → (-1) ≤ y ∧ y ≤ 100 → ((y ≥ 0) ∨ (c2 1 4 ≠ 0)) → Z (.inl (some (vi y)), Wd P Q P P c2, 0, 0)) : ∀ n : Nat, (∀ (c2 : ME) (v2 : Int) (v3 : Int), Iv u e P Q c2 → (∀ (a : Nat) (j : Int), ¬ ((a = 1 ∧ j = 2) ∨ (a = 1 ∧ j = 4) ∨ (a = 1 ∧ j = 5)) → c2 a j = c a j) → 0 ≤ v2 ∧ v2 ≤ 600 → 0 ≤ v3 ∧ v3 ≤ 600 → 1406 - 2 * v3 < (n : Int) → Wp sc (d + 8) 10 7 [(0, .ref 1), (1, .ref (a_SB + q)), (2, vi v2), (3, vi v3)] [] (Wd P Q P P c2) 0 0 Z) ∧ (∀ (c2 : ME) (v2 : Int) (v3 : Int) (v4 : Int) (v5 : Int) (v6 : Int), Iv u e P Q c2 → (∀ (a : Nat) (j : Int), ¬ ((a = 1 ∧ j = 2) ∨ (a = 1 ∧ j = 4) ∨ (a = 1 ∧ j = 5)) → c2 a j = c a j) → 0 ≤ v2 ∧ v2 ≤ 600 → 0 ≤ v3 ∧ v3 ≤ 600 → 0 ≤ v4 ∧ v4 ≤ 101 → 0 ≤ v5 ∧ v5 ≤ 101 → 0 ≤ v6 ∧ v6 ≤ 101 → ((v5 ≤ v6)) → ((v4 ≤ v6)) → ((v6 ≤ nt + 1)) → 203 - 2 * v6 < (n : Int) → Wp sc (d + 8) 10 52 [(0, .ref 1), (1, .ref (a_SB + q)), (2, vi v2), (3, vi v3), (4, vi v4), (5, vi v5), (6, vi v6)] [] (Wd P Q P P c2) 0 0 Z) := by
  intro n
  induction n with
  | zero => exact (by exact ⟨by (intro c2 v2 v3 hI2 hF hv2 hv3 hm9; have hP := iv_P hI; have hQ := iv_Q hI; exfalso; omega), by (intro c2 v2 v3 v4 v5 v6 hI2 hF hv2 hv3 hv4 hv5 hv6 hx0 hx1 hx2 hm9; have hP := iv_P hI; have hQ := iv_Q hI; exfalso; omega)⟩)
  | succ n ih =>
    have hP := iv_P hI
    have hQ := iv_Q hI
    refine ⟨?_, ?_⟩
    · skip
      intro c2 v2 v3 hI2 hF hv2 hv3 hm9
      refine q_iload_n c_10_7 rfl (q_aload_n c_10_8 rfl ?_)
      have h_1 := ir_1_1 hI
      have kn_2 : Hid (c2 1 1 = c 1 1) := hF 1 1 qn_b782e6d88
      refine v_gi (z := 1) (v := c 1 1) c_10_9 kf_5_32 rfl (nb_ rfl) rfl rfl (hid kn_2) ?_
      by_cases h_3 : v3 ≥ c 1 1
      · refine v_ic_ge_t (t := 43) c_10_12 rfl ⟨by first | exact q_3b2b08511 h_1 | omega, h_3, (Int.le_trans hv3.2 (by decide))⟩ (q_iconst c_10_43 (q_istore c_10_44 (nb_ rfl) (q_iconst c_10_46 (q_istore c_10_47 (nb_ rfl) (q_iconst c_10_49 (q_istore c_10_50 (nb_ rfl) (Wp_ls [(0, .ref 1), (1, .ref (a_SB + q)), (2, vi v2), (3, vi v3), (4, vi 0), (5, vi 0), (6, vi 0)] (lsub_cons rfl (lsub_cons rfl (lsub_cons rfl (lsub_cons rfl (lsub_cons rfl (lsub_cons rfl (lsub_cons rfl lsub_nil))))))) ?_)))))))
        exact ih.2 c2 v2 v3 0 0 0 hI2 (fun a j hm => hF a j hm) hv2 hv3 ⟨by decide, by decide⟩ ⟨by decide, by decide⟩ ⟨by decide, by decide⟩ (by first | decide | omega) (by first | decide | omega) (by omega) (by omega)
      · refine v_ic_ge_f (t := 43) c_10_12 rfl ⟨(Int.le_trans (by decide) hv3.1), (Int.not_le.mp h_3), by first | exact q_3885e607f h_1 | omega⟩ (q_aload_n c_10_15 rfl (v_gr (t := 2) c_10_16 kf_5_9 rfl (nb_ rfl) rfl (q_iload_n c_10_19 rfl ?_)))
        have h_4 := ir_2 hI v3
        have kn_5 : Hid (c2 2 v3 = c 2 v3) := hF 2 v3 qn_e2b123f84
        refine v_ba (v := c 2 v3) c_10_20 rfl (by decide) (by decide) ⟨hv3.1, by first | exact q_364416c3d h_1 h_3 | omega⟩ (hid kn_5) (v_bip c_10_21 (by decide) ?_)
        by_cases h_6 : c 2 v3 < 97
        · refine v_ic_lt_t (t := 43) c_10_23 rfl ⟨by first | exact q_cc1935a2a h_4 | omega, h_6, by decide⟩ (q_iconst c_10_43 (q_istore c_10_44 (nb_ rfl) (q_iconst c_10_46 (q_istore c_10_47 (nb_ rfl) (q_iconst c_10_49 (q_istore c_10_50 (nb_ rfl) (Wp_ls [(0, .ref 1), (1, .ref (a_SB + q)), (2, vi v2), (3, vi v3), (4, vi 0), (5, vi 0), (6, vi 0)] (lsub_cons rfl (lsub_cons rfl (lsub_cons rfl (lsub_cons rfl (lsub_cons rfl (lsub_cons rfl (lsub_cons rfl lsub_nil))))))) ?_)))))))
          exact ih.2 c2 v2 v3 0 0 0 hI2 (fun a j hm => hF a j hm) hv2 hv3 ⟨by decide, by decide⟩ ⟨by decide, by decide⟩ ⟨by decide, by decide⟩ (by first | decide | omega) (by first | decide | omega) (by omega) (by omega)
        · refine v_ic_lt_f (t := 43) c_10_23 rfl ⟨by decide, (Int.not_lt.mp h_6), by first | exact q_4e52e4576 h_4 | omega⟩ (q_aload_n c_10_26 rfl (v_gr (t := 2) c_10_27 kf_5_9 rfl (nb_ rfl) rfl (q_iload_n c_10_30 rfl (v_ba (v := c 2 v3) c_10_31 rfl (by decide) (by decide) ⟨hv3.1, by first | exact q_364416c3d h_1 h_3 | omega⟩ (hid kn_5) (v_bip c_10_32 (by decide) ?_)))))
          by_cases h_7 : c 2 v3 > 122
          · refine v_ic_gt_t (t := 43) c_10_34 rfl ⟨by decide, h_7, by first | exact q_4e52e4576 h_4 | omega⟩ (q_iconst c_10_43 (q_istore c_10_44 (nb_ rfl) (q_iconst c_10_46 (q_istore c_10_47 (nb_ rfl) (q_iconst c_10_49 (q_istore c_10_50 (nb_ rfl) (Wp_ls [(0, .ref 1), (1, .ref (a_SB + q)), (2, vi v2), (3, vi v3), (4, vi 0), (5, vi 0), (6, vi 0)] (lsub_cons rfl (lsub_cons rfl (lsub_cons rfl (lsub_cons rfl (lsub_cons rfl (lsub_cons rfl (lsub_cons rfl lsub_nil))))))) ?_)))))))
            exact ih.2 c2 v2 v3 0 0 0 hI2 (fun a j hm => hF a j hm) hv2 hv3 ⟨by decide, by decide⟩ ⟨by decide, by decide⟩ ⟨by decide, by decide⟩ (by first | decide | omega) (by first | decide | omega) (by omega) (by omega)
          · refine v_ic_gt_f (t := 43) c_10_34 rfl ⟨by first | exact q_831bb82af h_6 | omega, (Int.not_lt.mp h_7), by decide⟩ (v_iinc (v := v3 + 1) c_10_37 rfl (nb_ rfl) rfl (q_goto (t := 7) c_10_40 rfl (Wp_ls [(0, .ref 1), (1, .ref (a_SB + q)), (2, vi v2), (3, vi (v3 + 1))] (lsub_cons rfl (lsub_cons rfl (lsub_cons rfl (lsub_cons rfl lsub_nil)))) ?_)))
            exact ih.1 c2 v2 (v3 + 1) hI2 (fun a j hm => hF a j hm) hv2 ⟨by first | exact rgp_l hv3.1 (by decide) | omega, by first | exact q_e9d2b66ad h_1 h_3 | omega⟩ (by omega)
    · skip
      intro c2 v2 v3 v4 v5 v6 hI2 hF hv2 hv3 hv4 hv5 hv6 hx0 hx1 hx2 hm9
      refine q_iload c_10_52 rfl (q_aload_n c_10_54 rfl (v_sln nt rfl rfl (by omega) (nb_ rfl) hq hnt ?_))
      by_cases h_8 : v6 > nt
      · refine v_ic_gt_t (t := 136) c_10_58 rfl ⟨by omega, h_8, (Int.le_trans hv6.2 (by decide))⟩ (q_aload_n c_10_136 rfl (q_iconst c_10_137 (q_iload_n c_10_138 rfl (v_cv c_10_139 km_5_52 rfl rfl (nb_ rfl) ⟨⟨rfl, rfl⟩, nb_ rfl, rfl⟩ (nb_ rfl) (nb_ rfl) (s_7 (a1 := 1) (a2 := v2) hI2 (show 1 ≤ 1 ∧ 1 ≤ 3 from ⟨by decide, by decide⟩) (show 0 ≤ v2 ∧ v2 ≤ 600 from hv2) (fun c_9 hI_10 hF_11 h_12 => (bk_inl ?_)))))))
        have h_13 := ir_1_4 hI_10
        refine q_iconst c_10_142 (q_iret c_10_143 rfl ?_)
        exact K c_9 (-1) hI_10 (fun a j hm => (hF_11 a j (qv_7ce279f74 hm)).trans (hF a j hm)) ⟨by decide, by decide⟩ (Or.inr (by first | exact q_88eaa90e3 h_12 h_13 | omega))
      · refine v_ic_gt_f (t := 136) c_10_58 rfl ⟨(Int.le_trans (by decide) hv6.1), (Int.not_lt.mp h_8), by omega⟩ (q_aload_n c_10_61 rfl (v_cv c_10_62 km_5_45 rfl rfl (nb_ rfl) ⟨⟨rfl, rfl⟩, nb_ rfl, rfl⟩ (nb_ rfl) (nb_ rfl) (q_aload_n c_2_0 rfl ?_)))
        have h_14 := ir_1_4 hI2
        refine v_gi (z := 4) (v := c2 1 4) c_2_1 kf_5_38 rfl (nb_ rfl) rfl rfl rfl ?_
        by_cases h_15 : c2 1 4 ≠ 0
        · refine v_if_ne_t (t := 11) c_2_4 rfl ⟨h_15, ⟨(Int.le_trans (by decide) h_14.1), (Int.le_trans h_14.2 (by decide))⟩, by decide, by decide⟩ (q_iconst c_2_11 (v_zret c_2_12 rfl (by decide) (bk_inl (v_if_eq_t (t := 136) c_10_65 rfl (by decide) (q_aload_n c_10_136 rfl (q_iconst c_10_137 (q_iload_n c_10_138 rfl ?_)))))))
          refine v_cv c_10_139 km_5_52 rfl rfl (nb_ rfl) ⟨⟨rfl, rfl⟩, nb_ rfl, rfl⟩ (nb_ rfl) (nb_ rfl) (s_7 (a1 := 1) (a2 := v2) hI2 (show 1 ≤ 1 ∧ 1 ≤ 3 from ⟨by decide, by decide⟩) (show 0 ≤ v2 ∧ v2 ≤ 600 from hv2) (fun c_16 hI_17 hF_18 h_19 => (bk_inl ?_)))
          have h_20 := ir_1_4 hI_17
          refine q_iconst c_10_142 (q_iret c_10_143 rfl ?_)
          exact K c_16 (-1) hI_17 (fun a j hm => (hF_18 a j (qv_7ce279f74 hm)).trans (hF a j hm)) ⟨by decide, by decide⟩ (Or.inr (by first | exact q_88eaa90e3 h_19 h_20 | omega))
        · refine v_if_ne_f (t := 11) c_2_4 rfl (Decidable.not_not.mp h_15) (q_iconst c_2_7 (q_goto (t := 12) c_2_8 rfl (v_zret c_2_12 rfl (by decide) (bk_inl (v_if_eq_f (t := 136) c_10_65 rfl (by decide) (q_iload c_10_68 rfl (q_aload_n c_10_70 rfl ?_)))))))
          refine v_sln nt rfl rfl (by omega) (nb_ rfl) hq hnt ?_
          by_cases h_21 : v6 = nt
          · refine v_ic_eq_t (t := 88) c_10_74 rfl h_21 (q_iload c_10_88 rfl (q_iload c_10_90 rfl (v_isub (v := v6 - v5) c_10_92 rfl (q_iload_n c_10_93 rfl (q_iload_n c_10_94 rfl (v_isub (v := v3 - v2) c_10_95 rfl ?_))))))
            by_cases h_22 : v6 - v5 ≠ v3 - v2
            · refine v_ic_ne_t (t := 121) c_10_96 rfl ⟨h_22, ⟨by omega, by first | exact q_95fe11e65 hv5 hv6 | omega⟩, by first | exact q_7129fde9c hv2 hv3 | omega, by first | exact q_2ad8cd73d hv2 hv3 | omega⟩ (v_iinc (v := v4 + 1) c_10_121 rfl (nb_ rfl) rfl (q_iload c_10_124 rfl (q_iconst c_10_126 (v_iadd (v := v6 + 1) c_10_127 rfl (q_istore c_10_128 (nb_ rfl) (v_iinc (v := v6 + 1) c_10_130 rfl (nb_ rfl) rfl (q_goto (t := 52) c_10_133 rfl ?_)))))))
              refine Wp_ls [(0, .ref 1), (1, .ref (a_SB + q)), (2, vi v2), (3, vi v3), (4, vi (v4 + 1)), (5, vi (v6 + 1)), (6, vi (v6 + 1))] (lsub_cons rfl (lsub_cons rfl (lsub_cons rfl (lsub_cons rfl (lsub_cons rfl (lsub_cons rfl (lsub_cons rfl lsub_nil))))))) ?_
              exact ih.2 c2 v2 v3 (v4 + 1) (v6 + 1) (v6 + 1) hI2 (fun a j hm => hF a j hm) hv2 hv3 ⟨by first | exact rgp_l hv4.1 (by decide) | omega, by first | (clear hv2 hv3 hv4 hv5 hv6 hx0 hx2 h_14 h_15 h_21 h_22; omega) | omega⟩ ⟨by first | exact rgp_l hv6.1 (by decide) | omega, by first | (clear hv2 hv3 hv4 hv5 hv6 hx0 hx1 hx2 h_14 h_15 h_21 h_22; omega) | omega⟩ ⟨by first | exact rgp_l hv6.1 (by decide) | omega, by first | (clear hv2 hv3 hv4 hv5 hv6 hx0 hx1 hx2 h_14 h_15 h_21 h_22; omega) | omega⟩ (by first | exact q_3bb02af3e | omega) (by first | (clear hv2 hv3 hv4 hv5 hv6 hx0 hx2 h_8 h_14 h_15 h_21 h_22; omega) | omega) (by first | exact q_78480ff12 h_8 | omega) (by omega)
            · refine v_ic_ne_f (t := 121) c_10_96 rfl (Decidable.not_not.mp h_22) (q_aload_n c_10_99 rfl (q_aload_n c_10_100 rfl (q_iload c_10_101 rfl (q_iload_n c_10_103 rfl (q_iload_n c_10_104 rfl (q_iload_n c_10_105 rfl (v_isub (v := v3 - v2) c_10_106 rfl ?_)))))))
              refine v_cv c_10_107 km_5_73 rfl rfl (nb_ rfl) ⟨⟨rfl, rfl⟩, nb_ rfl, rfl⟩ (nb_ rfl) (nb_ rfl) (s_9 (a2 := v5) (a3 := v2) (a4 := v3 - v2) hI2 hq hnt hn9 (show 0 ≤ v5 ∧ v5 ≤ 100 from ⟨hv5.1, by omega⟩) (show 0 ≤ v2 ∧ v2 ≤ 600 from hv2) (show 0 ≤ v3 - v2 ∧ v3 - v2 ≤ 600 from ⟨by omega, by first | exact q_9e10f4d12 h_22 hv5 hv6 | omega⟩) (by first | exact q_73a1117df h_22 h_8 | omega) (by first | exact q_c7aae8bb3 hv3 | omega) (fun y_23 hy_23 => (bk_inl ?_)))
              by_cases h_24 : y_23 = 0
              · refine v_if_eq_t (t := 121) c_10_110 rfl h_24 (v_iinc (v := v4 + 1) c_10_121 rfl (nb_ rfl) rfl (q_iload c_10_124 rfl (q_iconst c_10_126 (v_iadd (v := v6 + 1) c_10_127 rfl (q_istore c_10_128 (nb_ rfl) (v_iinc (v := v6 + 1) c_10_130 rfl (nb_ rfl) rfl (q_goto (t := 52) c_10_133 rfl ?_)))))))
                refine Wp_ls [(0, .ref 1), (1, .ref (a_SB + q)), (2, vi v2), (3, vi v3), (4, vi (v4 + 1)), (5, vi (v6 + 1)), (6, vi (v6 + 1))] (lsub_cons rfl (lsub_cons rfl (lsub_cons rfl (lsub_cons rfl (lsub_cons rfl (lsub_cons rfl (lsub_cons rfl lsub_nil))))))) ?_
                exact ih.2 c2 v2 v3 (v4 + 1) (v6 + 1) (v6 + 1) hI2 (fun a j hm => hF a j hm) hv2 hv3 ⟨by first | exact rgp_l hv4.1 (by decide) | omega, by first | (clear hv2 hv3 hv4 hv5 hv6 hx0 hx2 h_14 h_15 h_21 h_22 h_24; omega) | omega⟩ ⟨by first | exact rgp_l hv6.1 (by decide) | omega, by first | (clear hv2 hv3 hv4 hv5 hv6 hx0 hx1 hx2 h_14 h_15 h_21 h_22 h_24; omega) | omega⟩ ⟨by first | exact rgp_l hv6.1 (by decide) | omega, by first | (clear hv2 hv3 hv4 hv5 hv6 hx0 hx1 hx2 h_14 h_15 h_21 h_22 h_24; omega) | omega⟩ (by first | exact q_3bb02af3e | omega) (by first | (clear hv2 hv3 hv4 hv5 hv6 hx0 hx2 h_8 h_14 h_15 h_21 h_22 h_24; omega) | omega) (by first | exact q_78480ff12 h_8 | omega) (by omega)
              · refine v_if_eq_f (t := 121) c_10_110 rfl ⟨h_24, ⟨(Int.le_trans (by decide) hy_23.1), (Int.le_trans hy_23.2 (by decide))⟩, by decide, by decide⟩ (q_aload_n c_10_113 rfl (q_iload_n c_10_114 rfl (v_pi (z := 2) c_10_115 kf_5_35 rfl (nb_ rfl) rfl rfl rfl (by decide) (q_iload c_10_118 rfl (q_iret c_10_120 rfl ?_)))))
                have hI_25 := iw_1_2 (v := v3) hI2 ⟨hv3.1, hv3.2⟩
                have h_26 : (up c2 1 2 v3) 1 4 = c2 1 4 := (up_n (by decide))
                exact K (up c2 1 2 v3) v4 hI_25 (fun a j hm => (up_b (Decidable.or_iff_not_imp_left.mpr (fun h1 h2 => hm (Or.inl ⟨Decidable.not_not.mp h1, h2⟩)))).trans (hF a j hm)) ⟨(Int.le_trans (by decide) hv4.1), by first | (clear hv2 hv3 hv4 hv5 hv6 hx0 hx2 h_14 h_15 h_21 h_22 h_24; omega) | omega⟩ (Or.inl (by first | exact q_fdb951d2d hv4 | omega))
          · refine v_ic_eq_f (t := 88) c_10_74 rfl ⟨h_21, ⟨(Int.le_trans (by decide) hv6.1), (Int.le_trans hv6.2 (by decide))⟩, by omega, by omega⟩ (q_aload_n c_10_77 rfl (q_iload c_10_78 rfl (v_schx c_10_80 rfl (by omega) (nb_ rfl) hq hnt ⟨by omega, by omega⟩ hn9 (fun y_27 hy_27 => (v_bip c_10_83 (by decide) ?_)))))
            by_cases h_28 : y_27 ≠ 32
            · refine v_ic_ne_t (t := 130) c_10_85 rfl ⟨h_28, ⟨hy_27.1, hy_27.2⟩, by decide, by decide⟩ (v_iinc (v := v6 + 1) c_10_130 rfl (nb_ rfl) rfl (q_goto (t := 52) c_10_133 rfl (Wp_ls [(0, .ref 1), (1, .ref (a_SB + q)), (2, vi v2), (3, vi v3), (4, vi v4), (5, vi v5), (6, vi (v6 + 1))] (lsub_cons rfl (lsub_cons rfl (lsub_cons rfl (lsub_cons rfl (lsub_cons rfl (lsub_cons rfl (lsub_cons rfl lsub_nil))))))) ?_)))
              exact ih.2 c2 v2 v3 v4 v5 (v6 + 1) hI2 (fun a j hm => hF a j hm) hv2 hv3 hv4 hv5 ⟨by first | exact rgp_l hv6.1 (by decide) | omega, by first | (clear hv2 hv3 hv4 hv5 hv6 hx0 hx1 hx2 h_14 h_15 h_21 h_28; omega) | omega⟩ (by first | (clear hv2 hv3 hv4 hv5 hv6 hx1 hx2 h_8 h_14 h_15 h_21 h_28; omega) | omega) (by first | (clear hv2 hv3 hv4 hv5 hv6 hx0 hx2 h_8 h_14 h_15 h_21 h_28; omega) | omega) (by first | exact q_78480ff12 h_8 | omega) (by omega)
            · refine v_ic_ne_f (t := 130) c_10_85 rfl (Decidable.not_not.mp h_28) (q_iload c_10_88 rfl (q_iload c_10_90 rfl (v_isub (v := v6 - v5) c_10_92 rfl (q_iload_n c_10_93 rfl (q_iload_n c_10_94 rfl (v_isub (v := v3 - v2) c_10_95 rfl ?_))))))
              by_cases h_29 : v6 - v5 ≠ v3 - v2
              · refine v_ic_ne_t (t := 121) c_10_96 rfl ⟨h_29, ⟨by first | (clear hv2 hv3 hv4 hv5 hv6 hx1 hx2 h_8 h_14 h_15 h_28 h_21; omega) | omega, by first | exact q_95fe11e65 hv5 hv6 | omega⟩, by first | exact q_7129fde9c hv2 hv3 | omega, by first | exact q_2ad8cd73d hv2 hv3 | omega⟩ (v_iinc (v := v4 + 1) c_10_121 rfl (nb_ rfl) rfl (q_iload c_10_124 rfl (q_iconst c_10_126 (v_iadd (v := v6 + 1) c_10_127 rfl (q_istore c_10_128 (nb_ rfl) (v_iinc (v := v6 + 1) c_10_130 rfl (nb_ rfl) rfl (q_goto (t := 52) c_10_133 rfl ?_)))))))
                refine Wp_ls [(0, .ref 1), (1, .ref (a_SB + q)), (2, vi v2), (3, vi v3), (4, vi (v4 + 1)), (5, vi (v6 + 1)), (6, vi (v6 + 1))] (lsub_cons rfl (lsub_cons rfl (lsub_cons rfl (lsub_cons rfl (lsub_cons rfl (lsub_cons rfl (lsub_cons rfl lsub_nil))))))) ?_
                exact ih.2 c2 v2 v3 (v4 + 1) (v6 + 1) (v6 + 1) hI2 (fun a j hm => hF a j hm) hv2 hv3 ⟨by first | exact rgp_l hv4.1 (by decide) | omega, by first | (clear hv2 hv3 hv4 hv5 hv6 hx0 hx2 h_14 h_15 h_28 h_21 h_29; omega) | omega⟩ ⟨by first | exact rgp_l hv6.1 (by decide) | omega, by first | (clear hv2 hv3 hv4 hv5 hv6 hx0 hx1 hx2 h_14 h_15 h_28 h_21 h_29; omega) | omega⟩ ⟨by first | exact rgp_l hv6.1 (by decide) | omega, by first | (clear hv2 hv3 hv4 hv5 hv6 hx0 hx1 hx2 h_14 h_15 h_28 h_21 h_29; omega) | omega⟩ (by first | exact q_3bb02af3e | omega) (by first | (clear hv2 hv3 hv4 hv5 hv6 hx0 hx2 h_8 h_14 h_15 h_28 h_21 h_29; omega) | omega) (by first | exact q_78480ff12 h_8 | omega) (by omega)
              · refine v_ic_ne_f (t := 121) c_10_96 rfl (Decidable.not_not.mp h_29) (q_aload_n c_10_99 rfl (q_aload_n c_10_100 rfl (q_iload c_10_101 rfl (q_iload_n c_10_103 rfl (q_iload_n c_10_104 rfl (q_iload_n c_10_105 rfl (v_isub (v := v3 - v2) c_10_106 rfl ?_)))))))
                refine v_cv c_10_107 km_5_73 rfl rfl (nb_ rfl) ⟨⟨rfl, rfl⟩, nb_ rfl, rfl⟩ (nb_ rfl) (nb_ rfl) (s_9 (a2 := v5) (a3 := v2) (a4 := v3 - v2) hI2 hq hnt hn9 (show 0 ≤ v5 ∧ v5 ≤ 100 from ⟨hv5.1, by first | (clear hv2 hv3 hv4 hv5 hv6 hx1 hx2 h_14 h_15 h_28 h_29 h_21; omega) | omega⟩) (show 0 ≤ v2 ∧ v2 ≤ 600 from hv2) (show 0 ≤ v3 - v2 ∧ v3 - v2 ≤ 600 from ⟨by first | (clear hv2 hv3 hv4 hv5 hv6 hx1 hx2 h_8 h_14 h_15 h_28 h_21; omega) | omega, by first | exact q_9e10f4d12 h_29 hv5 hv6 | omega⟩) (by first | exact q_73a1117df h_29 h_8 | omega) (by first | exact q_c7aae8bb3 hv3 | omega) (fun y_30 hy_30 => (bk_inl ?_)))
                by_cases h_31 : y_30 = 0
                · refine v_if_eq_t (t := 121) c_10_110 rfl h_31 (v_iinc (v := v4 + 1) c_10_121 rfl (nb_ rfl) rfl (q_iload c_10_124 rfl (q_iconst c_10_126 (v_iadd (v := v6 + 1) c_10_127 rfl (q_istore c_10_128 (nb_ rfl) (v_iinc (v := v6 + 1) c_10_130 rfl (nb_ rfl) rfl (q_goto (t := 52) c_10_133 rfl ?_)))))))
                  refine Wp_ls [(0, .ref 1), (1, .ref (a_SB + q)), (2, vi v2), (3, vi v3), (4, vi (v4 + 1)), (5, vi (v6 + 1)), (6, vi (v6 + 1))] (lsub_cons rfl (lsub_cons rfl (lsub_cons rfl (lsub_cons rfl (lsub_cons rfl (lsub_cons rfl (lsub_cons rfl lsub_nil))))))) ?_
                  exact ih.2 c2 v2 v3 (v4 + 1) (v6 + 1) (v6 + 1) hI2 (fun a j hm => hF a j hm) hv2 hv3 ⟨by first | exact rgp_l hv4.1 (by decide) | omega, by first | (clear hv2 hv3 hv4 hv5 hv6 hx0 hx2 h_14 h_15 h_28 h_29 h_31 h_21; omega) | omega⟩ ⟨by first | exact rgp_l hv6.1 (by decide) | omega, by first | (clear hv2 hv3 hv4 hv5 hv6 hx0 hx1 hx2 h_14 h_15 h_28 h_29 h_31 h_21; omega) | omega⟩ ⟨by first | exact rgp_l hv6.1 (by decide) | omega, by first | (clear hv2 hv3 hv4 hv5 hv6 hx0 hx1 hx2 h_14 h_15 h_28 h_29 h_31 h_21; omega) | omega⟩ (by first | exact q_3bb02af3e | omega) (by first | (clear hv2 hv3 hv4 hv5 hv6 hx0 hx2 h_8 h_14 h_15 h_28 h_29 h_31 h_21; omega) | omega) (by first | exact q_78480ff12 h_8 | omega) (by omega)
                · refine v_if_eq_f (t := 121) c_10_110 rfl ⟨h_31, ⟨(Int.le_trans (by decide) hy_30.1), (Int.le_trans hy_30.2 (by decide))⟩, by decide, by decide⟩ (q_aload_n c_10_113 rfl (q_iload_n c_10_114 rfl (v_pi (z := 2) c_10_115 kf_5_35 rfl (nb_ rfl) rfl rfl rfl (by decide) (q_iload c_10_118 rfl (q_iret c_10_120 rfl ?_)))))
                  have hI_32 := iw_1_2 (v := v3) hI2 ⟨hv3.1, hv3.2⟩
                  have h_33 : (up c2 1 2 v3) 1 4 = c2 1 4 := (up_n (by decide))
                  exact K (up c2 1 2 v3) v4 hI_32 (fun a j hm => (up_b (Decidable.or_iff_not_imp_left.mpr (fun h1 h2 => hm (Or.inl ⟨Decidable.not_not.mp h1, h2⟩)))).trans (hF a j hm)) ⟨(Int.le_trans (by decide) hv4.1), by first | (clear hv2 hv3 hv4 hv5 hv6 hx0 hx2 h_14 h_15 h_28 h_29 h_21 h_31; omega) | omega⟩ (Or.inl (by first | exact q_fdb951d2d hv4 | omega))
set_option maxRecDepth 100000 in
set_option maxHeartbeats 4000000 in
theorem s_10 {sc : List Int32} {e : Int} {d u P Q : Nat} {q nt : Nat} {c : ME} {Z : AR → Prop} (hI : Iv u e P Q c) (hq : q < sN) (hnt : (sB q).length = nt) (hn9 : nt ≤ 100) (K : ∀ (c2 : ME) (y : Int), Iv u e P Q c2 → (∀ (a : Nat) (j : Int), ¬ ((a = 1 ∧ j = 2) ∨ (a = 1 ∧ j = 4) ∨ (a = 1 ∧ j = 5)) → c2 a j = c a j) → (-1) ≤ y ∧ y ≤ 100 → ((y ≥ 0) ∨ (c2 1 4 ≠ 0)) → Z (.inl (some (vi y)), Wd P Q P P c2, 0, 0)) : Wp sc (d + 8) 10 0 [(0, .ref 1), (1, .ref (a_SB + q))] [] (Wd P Q P P c) 0 0 Z := by
  have hP := iv_P hI
  have hQ := iv_Q hI
  refine q_aload_n c_10_0 rfl (v_cv c_10_1 km_5_41 rfl rfl (nb_ rfl) ⟨⟨rfl, rfl⟩, nb_ rfl, rfl⟩ (nb_ rfl) (nb_ rfl) (s_3 hI (fun c_34 y_37 hI_35 hF_36 hy_37 h_38 => (bk_inl ?_))))
  have h_39 := ir_1_2 hI_35
  refine q_istore_n c_10_4 (nb_ rfl) (q_iload_n c_10_5 rfl (q_istore_n c_10_6 (nb_ rfl) (Wp_ls [(0, .ref 1), (1, .ref (a_SB + q)), (2, vi y_37), (3, vi y_37)] (lsub_cons rfl (lsub_cons rfl (lsub_cons rfl (lsub_cons rfl lsub_nil)))) ?_)))
  exact (s_10_l (sc := sc) (d := d) hI hq hnt hn9 K 1409).1 c_34 y_37 y_37 hI_35 (fun a j hm => hF_36 a j (fun h => hm (Or.inl h))) hy_37 hy_37 (by omega)

set_option maxRecDepth 100000 in
set_option maxHeartbeats 4000000 in
theorem s_11 {sc : List Int32} {e : Int} {d u P Q : Nat} {q nt : Nat} {c : ME} {Z : AR → Prop} (hI : Iv u e P Q c) (hq : q < sN) (hnt : (sB q).length = nt) (hn9 : nt ≤ 100) (K : ∀ (c2 : ME), Iv u e P Q c2 → (∀ (a : Nat) (j : Int), ¬ ((a = 1 ∧ j = 2) ∨ (a = 1 ∧ j = 4) ∨ (a = 1 ∧ j = 5)) → c2 a j = c a j) → Z (.inl (none), Wd P Q P P c2, 0, 0)) : Wp sc (d + 9) 11 0 [(0, .ref 1), (1, .ref (a_SB + q))] [] (Wd P Q P P c) 0 0 Z := by
  have hP := iv_P hI
  have hQ := iv_Q hI
  refine q_aload_n c_11_0 rfl (v_cv c_11_1 km_5_45 rfl rfl (nb_ rfl) ⟨⟨rfl, rfl⟩, nb_ rfl, rfl⟩ (nb_ rfl) (nb_ rfl) (q_aload_n c_2_0 rfl ?_))
  have h_1 := ir_1_4 hI
  refine v_gi (z := 4) (v := c 1 4) c_2_1 kf_5_38 rfl (nb_ rfl) rfl rfl rfl ?_
  by_cases h_2 : c 1 4 ≠ 0
  · refine v_if_ne_t (t := 11) c_2_4 rfl ⟨h_2, ⟨(Int.le_trans (by decide) h_1.1), (Int.le_trans h_1.2 (by decide))⟩, by decide, by decide⟩ (q_iconst c_2_11 (v_zret c_2_12 rfl (by decide) (bk_inl (v_if_eq_t (t := 25) c_11_4 rfl (by decide) (q_vret rfl rfl ?_)))))
    exact K c hI (fun a j hm => rfl)
  · refine v_if_ne_f (t := 11) c_2_4 rfl (Decidable.not_not.mp h_2) (q_iconst c_2_7 (q_goto (t := 12) c_2_8 rfl (v_zret c_2_12 rfl (by decide) (bk_inl (v_if_eq_f (t := 25) c_11_4 rfl (by decide) (q_aload_n c_11_7 rfl (q_aload_n c_11_8 rfl ?_)))))))
    refine v_cv c_11_9 km_5_65 rfl rfl (nb_ rfl) ⟨⟨rfl, rfl⟩, nb_ rfl, rfl⟩ (nb_ rfl) (nb_ rfl) (s_4 hI hq hnt hn9 (fun c_3 y_6 hI_4 hF_5 hy_6 => (bk_inl (q_iconst c_11_12 ?_))))
    by_cases h_7 : y_6 ≠ (-1)
    · refine v_ic_ne_t (t := 25) c_11_13 rfl ⟨h_7, ⟨(Int.le_trans (by decide) hy_6.1), (Int.le_trans hy_6.2 (by decide))⟩, by decide, by decide⟩ (q_vret rfl rfl ?_)
      exact K c_3 hI_4 (fun a j hm => hF_5 a j (fun h => hm (Or.inl h)))
    · refine v_ic_ne_f (t := 25) c_11_13 rfl (Decidable.not_not.mp h_7) (q_aload_n c_11_16 rfl (q_iconst c_11_17 (q_aload_n c_11_18 rfl ?_)))
      have h_8 := ir_1_2 hI_4
      refine v_gi (z := 2) (v := c_3 1 2) c_11_19 kf_5_35 rfl (nb_ rfl) rfl rfl rfl (v_cv c_11_22 km_5_52 rfl rfl (nb_ rfl) ⟨⟨rfl, rfl⟩, nb_ rfl, rfl⟩ (nb_ rfl) (nb_ rfl) (s_7 (a1 := 1) (a2 := c_3 1 2) hI_4 (show 1 ≤ 1 ∧ 1 ≤ 3 from ⟨by decide, by decide⟩) (show 0 ≤ c_3 1 2 ∧ c_3 1 2 ≤ 600 from h_8) (fun c_9 hI_10 hF_11 h_12 => (bk_inl ?_))))
      have h_13 := ir_1_4 hI_10
      refine q_vret rfl rfl ?_
      exact K c_9 hI_10 (fun a j hm => (hF_11 a j (qv_7ce279f74 hm)).trans (hF_5 a j (fun h => hm (Or.inl h))))

set_option maxRecDepth 100000 in
set_option maxHeartbeats 4000000 in
theorem s_14 {sc : List Int32} {e : Int} {d u P Q A : Nat} {c : ME} {a2 : Int} {Z : AR → Prop} (hI : Iv u e P Q c) (hA : A = 13 ∨ A = 25) (ha2 : 0 ≤ a2 ∧ a2 ≤ 6) (H13 : ∀ (c : ME) (Z : AR → Prop), a2 + 1 ≤ 6 → Iv u e P Q c → (∀ c2 : ME, Iv u e P Q c2 → (∀ (a : Nat) (j : Int), ¬ ((a = 1 ∧ j = 2) ∨ (a = 1 ∧ j = 4) ∨ (a = 1 ∧ j = 5) ∨ (a = (A + 7) ∧ j = 5) ∨ a = (A + 9)) → c2 a j = c a j) → Z (.inl none, Wd P Q P P c2, 0, 0)) → Wp sc (d + 11) 13 0 [(0, .ref (A + 7)), (1, .ref 1), (2, vi (a2 + 1))] [] (Wd P Q P P c) 0 0 Z) (K : ∀ (c2 : ME), Iv u e P Q c2 → (∀ (a : Nat) (j : Int), ¬ ((a = 1 ∧ j = 2) ∨ (a = 1 ∧ j = 4) ∨ (a = 1 ∧ j = 5) ∨ (a = (A + 7) ∧ j = 5) ∨ a = (A + 9)) → c2 a j = c a j) → Z (.inl (none), Wd P Q P P c2, 0, 0)) : Wp sc (d + 12) 14 0 [(0, .ref (A + 7)), (1, .ref 1), (2, vi a2)] [] (Wd P Q P P c) 0 0 Z := by
  have hP := iv_P hI
  have hQ := iv_Q hI
  refine q_aload_n c_14_0 rfl (v_cv c_14_1 km_0_68 rfl rfl (nb_ rfl) ⟨⟨rfl, rfl⟩, nb_ rfl, rfl⟩ (nb_ rfl) (nb_ rfl) (s_6 hI (fun c_1 y_4 hI_2 hF_3 hy_4 h_5 => (bk_inl ?_))))
  have h_6 := ir_1_1 hI_2
  have h_7 := ir_1_2 hI_2
  by_cases h_8 : y_4 = 0
  · refine v_if_eq_t (t := 19) c_14_4 rfl h_8 (q_aload_n c_14_19 rfl (v_cv c_14_20 km_0_75 rfl rfl (nb_ rfl) ⟨⟨rfl, rfl⟩, nb_ rfl, rfl⟩ (nb_ rfl) (nb_ rfl) (s_3 hI_2 (fun c_9 y_12 hI_10 hF_11 hy_12 h_13 => (bk_inl ?_)))))
    have h_14 := ir_1_2 hI_10
    refine q_istore_n c_14_23 (nb_ rfl) (q_aload_n c_14_24 rfl (q_ldc_s c_14_25 rfl rfl (by decide) (v_cv c_14_27 km_0_55 rfl rfl (nb_ rfl) ⟨⟨rfl, rfl⟩, nb_ rfl, rfl⟩ (nb_ rfl) (nb_ rfl) (s_4 hI_10 (q := 0) (nt := 1) (by decide) (by decide) (by decide) (fun c_15 y_18 hI_16 hF_17 hy_18 => (bk_inl (q_iconst c_14_30 ?_)))))))
    by_cases h_19 : y_18 = (-1)
    · refine v_ic_eq_t (t := 38) c_14_31 rfl h_19 (q_iconst c_14_38 (q_istore c_14_39 (nb_ rfl) (q_iload c_14_41 rfl (v_if_eq_t (t := 50) c_14_43 rfl (by decide) (q_aload_n c_14_50 rfl (q_ldc_s c_14_51 rfl rfl (by decide) (v_cv c_14_53 km_0_83 rfl rfl (nb_ rfl) ⟨⟨rfl, rfl⟩, nb_ rfl, rfl⟩ (nb_ rfl) (nb_ rfl) (s_10 hI_16 (q := 1) (nt := 47) (by decide) (by decide) (by decide) (fun c_20 y_23 hI_21 hF_22 hy_23 h_24 => ?_)))))))))
      refine bk_inl ?_
      have h_25 := ir_1_4 hI_21
      refine q_istore c_14_56 (nb_ rfl) (q_iload c_14_58 rfl (q_iconst c_14_60 ?_))
      by_cases h_26 : y_23 = (-1)
      · refine v_ic_eq_t (t := 82) c_14_61 rfl h_26 (q_iload_n c_14_82 rfl (v_bip c_14_83 (by decide) ?_))
        by_cases h_27 : a2 < 6
        · refine v_ic_lt_t (t := 94) c_14_85 rfl ⟨(Int.le_trans (by decide) ha2.1), h_27, by decide⟩ (q_aload_n c_14_94 rfl (v_cv c_14_95 km_0_40 rfl rfl (nb_ rfl) ⟨⟨rfl, rfl⟩, nb_ rfl, rfl⟩ (nb_ rfl) (nb_ rfl) (q_aload_n c_2_0 rfl (v_gi (z := 4) (v := c_20 1 4) c_2_1 kf_5_38 rfl (nb_ rfl) rfl rfl rfl (v_if_ne_t (t := 11) c_2_4 rfl ⟨by first | exact q_eb1d20069 h_24 h_25 h_26 | omega, ⟨(Int.le_trans (by decide) h_25.1), (Int.le_trans h_25.2 (by decide))⟩, by decide, by decide⟩ (q_iconst c_2_11 (v_zret c_2_12 rfl (by decide) ?_)))))))
          refine bk_inl (v_if_ne_f (t := 102) c_14_98 rfl (by decide) (q_vret rfl rfl ?_))
          exact K c_20 hI_21 (fun a j hm => (hF_22 a j (qv_59471db0f hm)).trans ((hF_17 a j (fun h => hm (Or.inl h))).trans ((hF_11 a j (fun h => hm (Or.inl h))).trans (hF_3 a j (fun h => hm (Or.inl h))))))
        · refine v_ic_lt_f (t := 94) c_14_85 rfl ⟨by decide, (Int.not_lt.mp h_27), (Int.le_trans ha2.2 (by decide))⟩ (q_aload_n c_14_88 rfl (q_iconst c_14_89 (q_iload_n c_14_90 rfl (v_cv c_14_91 km_0_86 rfl rfl (nb_ rfl) ⟨⟨rfl, rfl⟩, nb_ rfl, rfl⟩ (nb_ rfl) (nb_ rfl) (s_7 (a1 := 3) (a2 := y_12) hI_21 (show 1 ≤ 3 ∧ 3 ≤ 3 from ⟨by decide, by decide⟩) (show 0 ≤ y_12 ∧ y_12 ≤ 600 from hy_12) (fun c_28 hI_29 hF_30 h_31 => (bk_inl ?_)))))))
          have h_32 := ir_1_4 hI_29
          refine q_aload_n c_14_94 rfl (v_cv c_14_95 km_0_40 rfl rfl (nb_ rfl) ⟨⟨rfl, rfl⟩, nb_ rfl, rfl⟩ (nb_ rfl) (nb_ rfl) (q_aload_n c_2_0 rfl (v_gi (z := 4) (v := c_28 1 4) c_2_1 kf_5_38 rfl (nb_ rfl) rfl rfl rfl (v_if_ne_t (t := 11) c_2_4 rfl ⟨by first | exact q_88eaa90e3 h_31 h_32 | omega, ⟨(Int.le_trans (by decide) h_32.1), (Int.le_trans h_32.2 (by decide))⟩, by decide, by decide⟩ (q_iconst c_2_11 (v_zret c_2_12 rfl (by decide) (bk_inl ?_)))))))
          refine v_if_ne_f (t := 102) c_14_98 rfl (by decide) (q_vret rfl rfl ?_)
          exact K c_28 hI_29 (fun a j hm => (hF_30 a j (qv_0a3016d09 hm)).trans ((hF_22 a j (qv_59471db0f hm)).trans ((hF_17 a j (fun h => hm (Or.inl h))).trans ((hF_11 a j (fun h => hm (Or.inl h))).trans (hF_3 a j (fun h => hm (Or.inl h)))))))
      · refine v_ic_eq_f (t := 82) c_14_61 rfl ⟨h_26, ⟨(Int.le_trans (by decide) hy_23.1), (Int.le_trans hy_23.2 (by decide))⟩, by decide, by decide⟩ (q_iload c_14_64 rfl (v_bip c_14_66 (by decide) ?_))
        by_cases h_33 : y_23 ≥ 8
        · refine v_ic_ge_t (t := 82) c_14_68 rfl ⟨by decide, h_33, (Int.le_trans hy_23.2 (by decide))⟩ (q_iload_n c_14_82 rfl (v_bip c_14_83 (by decide) ?_))
          by_cases h_34 : a2 < 6
          · refine v_ic_lt_t (t := 94) c_14_85 rfl ⟨(Int.le_trans (by decide) ha2.1), h_34, by decide⟩ (q_aload_n c_14_94 rfl (v_cv c_14_95 km_0_40 rfl rfl (nb_ rfl) ⟨⟨rfl, rfl⟩, nb_ rfl, rfl⟩ (nb_ rfl) (nb_ rfl) (q_aload_n c_2_0 rfl (v_gi (z := 4) (v := c_20 1 4) c_2_1 kf_5_38 rfl (nb_ rfl) rfl rfl rfl ?_))))
            by_cases h_35 : c_20 1 4 ≠ 0
            · refine v_if_ne_t (t := 11) c_2_4 rfl ⟨h_35, ⟨(Int.le_trans (by decide) h_25.1), (Int.le_trans h_25.2 (by decide))⟩, by decide, by decide⟩ (q_iconst c_2_11 (v_zret c_2_12 rfl (by decide) (bk_inl (v_if_ne_f (t := 102) c_14_98 rfl (by decide) (q_vret rfl rfl ?_)))))
              exact K c_20 hI_21 (fun a j hm => (hF_22 a j (qv_59471db0f hm)).trans ((hF_17 a j (fun h => hm (Or.inl h))).trans ((hF_11 a j (fun h => hm (Or.inl h))).trans (hF_3 a j (fun h => hm (Or.inl h))))))
            · refine v_if_ne_f (t := 11) c_2_4 rfl (Decidable.not_not.mp h_35) (q_iconst c_2_7 (q_goto (t := 12) c_2_8 rfl (v_zret c_2_12 rfl (by decide) (bk_inl (v_if_ne_t (t := 102) c_14_98 rfl (by decide) (q_iload c_14_102 rfl (v_if_eq_t (t := 124) c_14_104 rfl (by decide) ?_)))))))
              refine q_aload_n c_14_124 rfl (q_ldc_s c_14_125 rfl rfl (by decide) (v_cv c_14_127 km_0_92 rfl rfl (nb_ rfl) ⟨⟨rfl, rfl⟩, nb_ rfl, rfl⟩ (nb_ rfl) (nb_ rfl) (s_11 hI_21 (q := 3) (nt := 1) (by decide) (by decide) (by decide) (fun c_36 hI_37 hF_38 => (bk_inl (q_aload_n c_14_130 rfl (q_aload_n c_14_131 rfl (q_iload_n c_14_132 rfl (q_iconst c_14_133 ?_)))))))))
              refine v_iadd (v := a2 + 1) c_14_134 rfl (v_cv c_14_135 km_0_31 rfl (ck_p7 hA) (a68 hA rfl) ⟨⟨rfl, rfl⟩, by decide, rfl⟩ (nb_ rfl) (nb_ rfl) (H13 _ _ (by omega) hI_37 (fun c_39 hI_40 hF_41 => (bk_inl (q_aload_n c_14_138 rfl (q_ldc_s c_14_139 rfl rfl (by decide) (v_cv c_14_141 km_0_92 rfl rfl (nb_ rfl) ⟨⟨rfl, rfl⟩, nb_ rfl, rfl⟩ (nb_ rfl) (nb_ rfl) (s_11 hI_40 (q := 4) (nt := 1) (by decide) (by decide) (by decide) (fun c_42 hI_43 hF_44 => (bk_inl (q_aload_n c_14_144 rfl ?_)))))))))))
              refine q_aload_n c_14_145 rfl (q_iload_n c_14_146 rfl (q_iconst c_14_147 (v_iadd (v := a2 + 1) c_14_148 rfl (v_cv c_14_149 km_0_31 rfl (ck_p7 hA) (a68 hA rfl) ⟨⟨rfl, rfl⟩, by decide, rfl⟩ (nb_ rfl) (nb_ rfl) (H13 _ _ (by omega) hI_43 (fun c_45 hI_46 hF_47 => (bk_inl (q_aload_n c_14_152 rfl (q_ldc_s c_14_153 rfl rfl (by decide) ?_)))))))))
              refine v_cv c_14_155 km_0_92 rfl rfl (nb_ rfl) ⟨⟨rfl, rfl⟩, nb_ rfl, rfl⟩ (nb_ rfl) (nb_ rfl) (s_11 hI_46 (q := 5) (nt := 1) (by decide) (by decide) (by decide) (fun c_48 hI_49 hF_50 => (bk_inl (q_aload_n c_14_158 rfl (v_sip c_14_159 (by decide) (q_iload c_14_162 rfl (v_iadd (v := y_23 + 2005) c_14_164 (by first | exact q_4faf85b99 | omega) (v_bip c_14_165 (by decide) (v_isub (v := y_23 + 1997) c_14_167 (by first | exact q_3be0c8b98 | omega) ?_)))))))))
              refine v_cv c_14_168 km_0_59 rfl (ck_p7 hA) (a68 hA rfl) ⟨⟨rfl, rfl⟩, by decide, rfl⟩ (nb_ rfl) (nb_ rfl) (s_5 (a1 := y_23 + 1997) hI_49 hA (show 0 ≤ y_23 + 1997 ∧ y_23 + 1997 ≤ 3000 from ⟨by first | exact rgp_l hy_23.1 (by decide) | omega, by first | exact rgp_h hy_23.2 (by decide) | omega⟩) (Or.inr (by first | exact q_3b235b8a8 h_33 | omega)) (fun c_51 hI_52 hF_53 => (bk_inl (q_vret rfl rfl ?_))))
              exact K c_51 hI_52 (fun a j hm => (hF_53 a j (qv_651880e32 hm)).trans ((hF_50 a j (qv_59471db0f hm)).trans ((hF_47 a j hm).trans ((hF_44 a j (qv_59471db0f hm)).trans ((hF_41 a j hm).trans ((hF_38 a j (qv_59471db0f hm)).trans ((hF_22 a j (qv_59471db0f hm)).trans ((hF_17 a j (fun h => hm (Or.inl h))).trans ((hF_11 a j (fun h => hm (Or.inl h))).trans (hF_3 a j (fun h => hm (Or.inl h))))))))))))
          · refine v_ic_lt_f (t := 94) c_14_85 rfl ⟨by decide, (Int.not_lt.mp h_34), (Int.le_trans ha2.2 (by decide))⟩ (q_aload_n c_14_88 rfl (q_iconst c_14_89 (q_iload_n c_14_90 rfl (v_cv c_14_91 km_0_86 rfl rfl (nb_ rfl) ⟨⟨rfl, rfl⟩, nb_ rfl, rfl⟩ (nb_ rfl) (nb_ rfl) (s_7 (a1 := 3) (a2 := y_12) hI_21 (show 1 ≤ 3 ∧ 3 ≤ 3 from ⟨by decide, by decide⟩) (show 0 ≤ y_12 ∧ y_12 ≤ 600 from hy_12) (fun c_54 hI_55 hF_56 h_57 => (bk_inl ?_)))))))
            have h_58 := ir_1_4 hI_55
            refine q_aload_n c_14_94 rfl (v_cv c_14_95 km_0_40 rfl rfl (nb_ rfl) ⟨⟨rfl, rfl⟩, nb_ rfl, rfl⟩ (nb_ rfl) (nb_ rfl) (q_aload_n c_2_0 rfl (v_gi (z := 4) (v := c_54 1 4) c_2_1 kf_5_38 rfl (nb_ rfl) rfl rfl rfl (v_if_ne_t (t := 11) c_2_4 rfl ⟨by first | exact q_88eaa90e3 h_57 h_58 | omega, ⟨(Int.le_trans (by decide) h_58.1), (Int.le_trans h_58.2 (by decide))⟩, by decide, by decide⟩ (q_iconst c_2_11 (v_zret c_2_12 rfl (by decide) (bk_inl ?_)))))))
            refine v_if_ne_f (t := 102) c_14_98 rfl (by decide) (q_vret rfl rfl ?_)
            exact K c_54 hI_55 (fun a j hm => (hF_56 a j (qv_0a3016d09 hm)).trans ((hF_22 a j (qv_59471db0f hm)).trans ((hF_17 a j (fun h => hm (Or.inl h))).trans ((hF_11 a j (fun h => hm (Or.inl h))).trans (hF_3 a j (fun h => hm (Or.inl h)))))))
        · refine v_ic_ge_f (t := 82) c_14_68 rfl ⟨(Int.le_trans (by decide) hy_23.1), (Int.not_le.mp h_33), by decide⟩ (q_aload_n c_14_71 rfl (v_sip c_14_72 (by decide) (q_iload c_14_75 rfl (v_iadd (v := y_23 + 1000) c_14_77 (by first | exact q_18b0803a5 | omega) (v_cv c_14_78 km_0_59 rfl (ck_p7 hA) (a68 hA rfl) ⟨⟨rfl, rfl⟩, by decide, rfl⟩ (nb_ rfl) (nb_ rfl) (s_5 (a1 := y_23 + 1000) hI_21 hA (show 0 ≤ y_23 + 1000 ∧ y_23 + 1000 ≤ 3000 from ⟨by first | exact rgp_l hy_23.1 (by decide) | omega, by first | exact rgp_h hy_23.2 (by decide) | omega⟩) (Or.inl (by first | exact q_119c61ad1 h_33 | omega)) (fun c_59 hI_60 hF_61 => (bk_inl (q_vret rfl rfl ?_)))))))))
          exact K c_59 hI_60 (fun a j hm => (hF_61 a j (qv_651880e32 hm)).trans ((hF_22 a j (qv_59471db0f hm)).trans ((hF_17 a j (fun h => hm (Or.inl h))).trans ((hF_11 a j (fun h => hm (Or.inl h))).trans (hF_3 a j (fun h => hm (Or.inl h)))))))
    · refine v_ic_eq_f (t := 38) c_14_31 rfl ⟨h_19, ⟨(Int.le_trans (by decide) hy_18.1), (Int.le_trans hy_18.2 (by decide))⟩, by decide, by decide⟩ (q_iconst c_14_34 (q_goto (t := 39) c_14_35 rfl (q_istore c_14_39 (nb_ rfl) (q_iload c_14_41 rfl (v_if_eq_f (t := 50) c_14_43 rfl (by decide) (q_iconst c_14_46 (q_goto (t := 56) c_14_47 rfl ?_)))))))
      refine q_istore c_14_56 (nb_ rfl) (q_iload c_14_58 rfl (q_iconst c_14_60 (v_ic_eq_t (t := 82) c_14_61 rfl (by decide) (q_iload_n c_14_82 rfl (v_bip c_14_83 (by decide) ?_)))))
      by_cases h_62 : a2 < 6
      · refine v_ic_lt_t (t := 94) c_14_85 rfl ⟨(Int.le_trans (by decide) ha2.1), h_62, by decide⟩ (q_aload_n c_14_94 rfl (v_cv c_14_95 km_0_40 rfl rfl (nb_ rfl) ⟨⟨rfl, rfl⟩, nb_ rfl, rfl⟩ (nb_ rfl) (nb_ rfl) (q_aload_n c_2_0 rfl ?_)))
        have h_63 := ir_1_4 hI
        have kn_64 : Hid (c_1 1 4 = c 1 4) := hF_3 1 4 (fun h => absurd h.2 (ni rfl))
        have kn_65 : Hid (c_9 1 4 = c 1 4) := (hF_11 1 4 (fun h => absurd h.2 (ni rfl))).trans (hid kn_64)
        have kn_66 : Hid (c_15 1 4 = c 1 4) := (hF_17 1 4 (fun h => absurd h.2 (ni rfl))).trans (hid kn_65)
        refine v_gi (z := 4) (v := c 1 4) c_2_1 kf_5_38 rfl (nb_ rfl) rfl rfl (hid kn_66) ?_
        by_cases h_67 : c 1 4 ≠ 0
        · refine v_if_ne_t (t := 11) c_2_4 rfl ⟨h_67, ⟨by first | exact q_107d648c6 h_63 | omega, by first | exact q_509aaa6b6 h_63 | omega⟩, by decide, by decide⟩ (q_iconst c_2_11 (v_zret c_2_12 rfl (by decide) (bk_inl (v_if_ne_f (t := 102) c_14_98 rfl (by decide) (q_vret rfl rfl ?_)))))
          exact K c_15 hI_16 (fun a j hm => (hF_17 a j (fun h => hm (Or.inl h))).trans ((hF_11 a j (fun h => hm (Or.inl h))).trans (hF_3 a j (fun h => hm (Or.inl h)))))
        · refine v_if_ne_f (t := 11) c_2_4 rfl (Decidable.not_not.mp h_67) (q_iconst c_2_7 (q_goto (t := 12) c_2_8 rfl (v_zret c_2_12 rfl (by decide) (bk_inl (v_if_ne_t (t := 102) c_14_98 rfl (by decide) (q_iload c_14_102 rfl (v_if_eq_f (t := 124) c_14_104 rfl (by decide) ?_)))))))
          refine q_aload_n c_14_107 rfl (q_aload_n c_14_108 rfl (q_iload_n c_14_109 rfl (q_iconst c_14_110 (v_iadd (v := a2 + 1) c_14_111 rfl (v_cv c_14_112 km_0_31 rfl (ck_p7 hA) (a68 hA rfl) ⟨⟨rfl, rfl⟩, by decide, rfl⟩ (nb_ rfl) (nb_ rfl) (H13 _ _ (by omega) hI_16 (fun c_68 hI_69 hF_70 => (bk_inl (q_aload_n c_14_115 rfl ?_)))))))))
          refine q_ldc_s c_14_116 rfl rfl (by decide) (v_cv c_14_118 km_0_92 rfl rfl (nb_ rfl) ⟨⟨rfl, rfl⟩, nb_ rfl, rfl⟩ (nb_ rfl) (nb_ rfl) (s_11 hI_69 (q := 2) (nt := 1) (by decide) (by decide) (by decide) (fun c_71 hI_72 hF_73 => (bk_inl (q_goto (t := 171) c_14_121 rfl (q_vret rfl rfl ?_))))))
          exact K c_71 hI_72 (fun a j hm => (hF_73 a j (qv_59471db0f hm)).trans ((hF_70 a j hm).trans ((hF_17 a j (fun h => hm (Or.inl h))).trans ((hF_11 a j (fun h => hm (Or.inl h))).trans (hF_3 a j (fun h => hm (Or.inl h)))))))
      · refine v_ic_lt_f (t := 94) c_14_85 rfl ⟨by decide, (Int.not_lt.mp h_62), (Int.le_trans ha2.2 (by decide))⟩ (q_aload_n c_14_88 rfl (q_iconst c_14_89 (q_iload_n c_14_90 rfl (v_cv c_14_91 km_0_86 rfl rfl (nb_ rfl) ⟨⟨rfl, rfl⟩, nb_ rfl, rfl⟩ (nb_ rfl) (nb_ rfl) (s_7 (a1 := 3) (a2 := y_12) hI_16 (show 1 ≤ 3 ∧ 3 ≤ 3 from ⟨by decide, by decide⟩) (show 0 ≤ y_12 ∧ y_12 ≤ 600 from hy_12) (fun c_74 hI_75 hF_76 h_77 => (bk_inl ?_)))))))
        have h_78 := ir_1_4 hI_75
        refine q_aload_n c_14_94 rfl (v_cv c_14_95 km_0_40 rfl rfl (nb_ rfl) ⟨⟨rfl, rfl⟩, nb_ rfl, rfl⟩ (nb_ rfl) (nb_ rfl) (q_aload_n c_2_0 rfl (v_gi (z := 4) (v := c_74 1 4) c_2_1 kf_5_38 rfl (nb_ rfl) rfl rfl rfl (v_if_ne_t (t := 11) c_2_4 rfl ⟨by first | exact q_88eaa90e3 h_77 h_78 | omega, ⟨(Int.le_trans (by decide) h_78.1), (Int.le_trans h_78.2 (by decide))⟩, by decide, by decide⟩ (q_iconst c_2_11 (v_zret c_2_12 rfl (by decide) (bk_inl ?_)))))))
        refine v_if_ne_f (t := 102) c_14_98 rfl (by decide) (q_vret rfl rfl ?_)
        exact K c_74 hI_75 (fun a j hm => (hF_76 a j (qv_0a3016d09 hm)).trans ((hF_17 a j (fun h => hm (Or.inl h))).trans ((hF_11 a j (fun h => hm (Or.inl h))).trans (hF_3 a j (fun h => hm (Or.inl h))))))
  · refine v_if_eq_f (t := 19) c_14_4 rfl ⟨h_8, ⟨(Int.le_trans (by decide) hy_4.1), (Int.le_trans hy_4.2 (by decide))⟩, by decide, by decide⟩ (q_aload_n c_14_7 rfl (q_aload_n c_14_8 rfl (v_sip c_14_9 (by decide) (v_cv c_14_12 km_0_71 rfl rfl (nb_ rfl) ⟨⟨rfl, rfl⟩, nb_ rfl, rfl⟩ (nb_ rfl) (nb_ rfl) (s_8 (a1 := 999) hI_2 (show (-1) ≤ 999 ∧ 999 ≤ 9999 from ⟨by decide, by decide⟩) (fun c_79 y_82 hI_80 hF_81 hy_82 h_83 => (bk_inl (v_cv c_14_15 km_0_59 rfl (ck_p7 hA) (a68 hA rfl) ⟨⟨rfl, rfl⟩, by decide, rfl⟩ (nb_ rfl) (nb_ rfl) (s_5 (a1 := y_82) hI_80 hA (show 0 ≤ y_82 ∧ y_82 ≤ 3000 from ⟨hy_82.1, by first | exact q_14934a8f4 h_83 | omega⟩) (Or.inl (by first | exact q_40dfbb035 h_83 | omega)) (fun c_84 hI_85 hF_86 => (bk_inl ?_)))))))))))
    refine q_vret rfl rfl ?_
    exact K c_84 hI_85 (fun a j hm => (hF_86 a j (qv_651880e32 hm)).trans ((hF_81 a j (qv_59471db0f hm)).trans (hF_3 a j (fun h => hm (Or.inl h)))))

set_option maxRecDepth 100000 in
set_option maxHeartbeats 4000000 in
theorem s_12_l {sc : List Int32} {e : Int} {d u P Q A : Nat} {c : ME} {a2 : Int} {Z : AR → Prop} (hI : Iv u e P Q c) (hA : A = 13 ∨ A = 25) (ha2 : 0 ≤ a2 ∧ a2 ≤ 6) (H13 : ∀ (c : ME) (Z : AR → Prop), a2 + 1 ≤ 6 → Iv u e P Q c → (∀ c2 : ME, Iv u e P Q c2 → (∀ (a : Nat) (j : Int), ¬ ((a = 1 ∧ j = 2) ∨ (a = 1 ∧ j = 4) ∨ (a = 1 ∧ j = 5) ∨ (a = (A + 7) ∧ j = 5) ∨ a = (A + 9)) → c2 a j = c a j) → Z (.inl none, Wd P Q P P c2, 0, 0)) → Wp sc (d + 11) 13 0 [(0, .ref (A + 7)), (1, .ref 1), (2, vi (a2 + 1))] [] (Wd P Q P P c) 0 0 Z) (K : ∀ (c2 : ME), Iv u e P Q c2 → (∀ (a : Nat) (j : Int), ¬ ((a = 1 ∧ j = 2) ∨ (a = 1 ∧ j = 4) ∨ (a = 1 ∧ j = 5) ∨ (a = (A + 7) ∧ j = 5) ∨ a = (A + 9)) → c2 a j = c a j) → Z (.inl (none), Wd P Q P P c2, 0, 0)) : ∀ n : Nat, (∀ (c2 : ME) (v3 : Int), Iv u e P Q c2 → (∀ (a : Nat) (j : Int), ¬ ((a = 1 ∧ j = 2) ∨ (a = 1 ∧ j = 4) ∨ (a = 1 ∧ j = 5) ∨ (a = (A + 7) ∧ j = 5) ∨ a = (A + 9)) → c2 a j = c a j) → 0 ≤ v3 ∧ v3 ≤ 150 → 301 - 2 * v3 < (n : Int) → Wp sc (d + 13) 12 8 [(0, .ref (A + 7)), (1, .ref 1), (2, vi a2), (3, vi v3)] [] (Wd P Q P P c2) 0 0 Z) := by
  intro n
  induction n with
  | zero => exact (by intro c2 v3 hI2 hF hv3 hm9; have hP := iv_P hI; have hQ := iv_Q hI; exfalso; omega)
  | succ n ih =>
    have hP := iv_P hI
    have hQ := iv_Q hI
    intro c2 v3 hI2 hF hv3 hm9
    refine q_iload_n c_12_8 rfl (v_sip c_12_9 (by decide) ?_)
    by_cases h_1 : v3 ≥ 150
    · refine v_ic_ge_t (t := 59) c_12_12 rfl ⟨by decide, h_1, (Int.le_trans hv3.2 (by decide))⟩ (q_vret rfl rfl ?_)
      exact K c2 hI2 (fun a j hm => hF a j hm)
    · refine v_ic_ge_f (t := 59) c_12_12 rfl ⟨(Int.le_trans (by decide) hv3.1), (Int.not_le.mp h_1), by decide⟩ (q_aload_n c_12_15 rfl (v_cv c_12_16 km_0_40 rfl rfl (nb_ rfl) ⟨⟨rfl, rfl⟩, nb_ rfl, rfl⟩ (nb_ rfl) (nb_ rfl) (q_aload_n c_2_0 rfl ?_)))
      have h_2 := ir_1_4 hI2
      refine v_gi (z := 4) (v := c2 1 4) c_2_1 kf_5_38 rfl (nb_ rfl) rfl rfl rfl ?_
      by_cases h_3 : c2 1 4 ≠ 0
      · refine v_if_ne_t (t := 11) c_2_4 rfl ⟨h_3, ⟨(Int.le_trans (by decide) h_2.1), (Int.le_trans h_2.2 (by decide))⟩, by decide, by decide⟩ (q_iconst c_2_11 (v_zret c_2_12 rfl (by decide) (bk_inl (v_if_eq_t (t := 59) c_12_19 rfl (by decide) (q_vret rfl rfl ?_)))))
        exact K c2 hI2 (fun a j hm => hF a j hm)
      · refine v_if_ne_f (t := 11) c_2_4 rfl (Decidable.not_not.mp h_3) (q_iconst c_2_7 (q_goto (t := 12) c_2_8 rfl (v_zret c_2_12 rfl (by decide) (bk_inl (v_if_eq_f (t := 59) c_12_19 rfl (by decide) (q_aload_n c_12_22 rfl (q_ldc_s c_12_23 rfl rfl (by decide) ?_)))))))
        refine v_cv c_12_25 km_0_55 rfl rfl (nb_ rfl) ⟨⟨rfl, rfl⟩, nb_ rfl, rfl⟩ (nb_ rfl) (nb_ rfl) (s_4 hI2 (q := 6) (nt := 3) (by decide) (by decide) (by decide) (fun c_4 y_7 hI_5 hF_6 hy_7 => (bk_inl (q_istore c_12_28 (nb_ rfl) (q_iload c_12_30 rfl (q_iconst c_12_32 ?_))))))
        by_cases h_8 : y_7 ≠ (-1)
        · refine v_ic_ne_t (t := 37) c_12_33 rfl ⟨h_8, ⟨(Int.le_trans (by decide) hy_7.1), (Int.le_trans hy_7.2 (by decide))⟩, by decide, by decide⟩ (q_aload_n c_12_37 rfl (q_aload_n c_12_38 rfl (q_iload_n c_12_39 rfl (v_cv c_12_40 km_0_63 rfl (ck_p7 hA) (a68 hA rfl) ⟨⟨rfl, rfl⟩, by decide, rfl⟩ (nb_ rfl) (nb_ rfl) (s_14 (a2 := a2) hI_5 hA (show 0 ≤ a2 ∧ a2 ≤ 6 from ha2) H13 (fun c_9 hI_10 hF_11 => (bk_inl (q_aload_n c_12_43 rfl (v_sip c_12_44 (by decide) ?_)))))))))
          refine q_iload c_12_47 rfl (v_iadd (v := y_7 + 2002) c_12_49 (by first | exact q_2774b03f8 | omega) (v_cv c_12_50 km_0_59 rfl (ck_p7 hA) (a68 hA rfl) ⟨⟨rfl, rfl⟩, by decide, rfl⟩ (nb_ rfl) (nb_ rfl) (s_5 (a1 := y_7 + 2002) hI_10 hA (show 0 ≤ y_7 + 2002 ∧ y_7 + 2002 ≤ 3000 from ⟨by first | exact rgp_l hy_7.1 (by decide) | omega, by first | exact rgp_h hy_7.2 (by decide) | omega⟩) (Or.inr (by first | (clear ha2 hv3 h_1 h_2 h_3 h_8; omega) | omega)) (fun c_12 hI_13 hF_14 => (bk_inl (v_iinc (v := v3 + 1) c_12_53 rfl (nb_ rfl) rfl (q_goto (t := 8) c_12_56 rfl (Wp_ls [(0, .ref (A + 7)), (1, .ref 1), (2, vi a2), (3, vi (v3 + 1))] (lsub_cons rfl (lsub_cons rfl (lsub_cons rfl (lsub_cons rfl lsub_nil)))) ?_))))))))
          exact ih c_12 (v3 + 1) hI_13 (fun a j hm => (hF_14 a j (qv_651880e32 hm)).trans ((hF_11 a j hm).trans ((hF_6 a j (fun h => hm (Or.inl h))).trans (hF a j hm)))) ⟨by first | exact rgp_l hv3.1 (by decide) | omega, by first | exact q_e92c430a0 h_1 | omega⟩ (by omega)
        · refine v_ic_ne_f (t := 37) c_12_33 rfl (Decidable.not_not.mp h_8) (q_vret rfl rfl ?_)
          exact K c_4 hI_5 (fun a j hm => (hF_6 a j (fun h => hm (Or.inl h))).trans (hF a j hm))
set_option maxRecDepth 100000 in
set_option maxHeartbeats 4000000 in
theorem s_12 {sc : List Int32} {e : Int} {d u P Q A : Nat} {c : ME} {a2 : Int} {Z : AR → Prop} (hI : Iv u e P Q c) (hA : A = 13 ∨ A = 25) (ha2 : 0 ≤ a2 ∧ a2 ≤ 6) (H13 : ∀ (c : ME) (Z : AR → Prop), a2 + 1 ≤ 6 → Iv u e P Q c → (∀ c2 : ME, Iv u e P Q c2 → (∀ (a : Nat) (j : Int), ¬ ((a = 1 ∧ j = 2) ∨ (a = 1 ∧ j = 4) ∨ (a = 1 ∧ j = 5) ∨ (a = (A + 7) ∧ j = 5) ∨ a = (A + 9)) → c2 a j = c a j) → Z (.inl none, Wd P Q P P c2, 0, 0)) → Wp sc (d + 11) 13 0 [(0, .ref (A + 7)), (1, .ref 1), (2, vi (a2 + 1))] [] (Wd P Q P P c) 0 0 Z) (K : ∀ (c2 : ME), Iv u e P Q c2 → (∀ (a : Nat) (j : Int), ¬ ((a = 1 ∧ j = 2) ∨ (a = 1 ∧ j = 4) ∨ (a = 1 ∧ j = 5) ∨ (a = (A + 7) ∧ j = 5) ∨ a = (A + 9)) → c2 a j = c a j) → Z (.inl (none), Wd P Q P P c2, 0, 0)) : Wp sc (d + 13) 12 0 [(0, .ref (A + 7)), (1, .ref 1), (2, vi a2)] [] (Wd P Q P P c) 0 0 Z := by
  have hP := iv_P hI
  have hQ := iv_Q hI
  refine q_aload_n c_12_0 rfl (q_aload_n c_12_1 rfl (q_iload_n c_12_2 rfl (v_cv c_12_3 km_0_63 rfl (ck_p7 hA) (a68 hA rfl) ⟨⟨rfl, rfl⟩, by decide, rfl⟩ (nb_ rfl) (nb_ rfl) (s_14 (a2 := a2) hI hA (show 0 ≤ a2 ∧ a2 ≤ 6 from ha2) H13 (fun c_15 hI_16 hF_17 => (bk_inl (q_iconst c_12_6 (q_istore_n c_12_7 (nb_ rfl) (Wp_ls [(0, .ref (A + 7)), (1, .ref 1), (2, vi a2), (3, vi 0)] (lsub_cons rfl (lsub_cons rfl (lsub_cons rfl (lsub_cons rfl lsub_nil)))) ?_)))))))))
  exact (s_12_l (sc := sc) (d := d) hI hA ha2 H13 K 304) c_15 0 hI_16 (fun a j hm => hF_17 a j hm) ⟨by decide, by decide⟩ (by omega)

set_option maxRecDepth 100000 in
set_option maxHeartbeats 4000000 in
theorem s_13_l {sc : List Int32} {e : Int} {d u P Q A : Nat} {c : ME} {a2 : Int} {Z : AR → Prop} (hI : Iv u e P Q c) (hA : A = 13 ∨ A = 25) (ha2 : 0 ≤ a2 ∧ a2 ≤ 6) (H13 : ∀ (c : ME) (Z : AR → Prop), a2 + 1 ≤ 6 → Iv u e P Q c → (∀ c2 : ME, Iv u e P Q c2 → (∀ (a : Nat) (j : Int), ¬ ((a = 1 ∧ j = 2) ∨ (a = 1 ∧ j = 4) ∨ (a = 1 ∧ j = 5) ∨ (a = (A + 7) ∧ j = 5) ∨ a = (A + 9)) → c2 a j = c a j) → Z (.inl none, Wd P Q P P c2, 0, 0)) → Wp sc (d + 11) 13 0 [(0, .ref (A + 7)), (1, .ref 1), (2, vi (a2 + 1))] [] (Wd P Q P P c) 0 0 Z) (K : ∀ (c2 : ME), Iv u e P Q c2 → (∀ (a : Nat) (j : Int), ¬ ((a = 1 ∧ j = 2) ∨ (a = 1 ∧ j = 4) ∨ (a = 1 ∧ j = 5) ∨ (a = (A + 7) ∧ j = 5) ∨ a = (A + 9)) → c2 a j = c a j) → Z (.inl (none), Wd P Q P P c2, 0, 0)) : ∀ n : Nat, (∀ (c2 : ME) (v3 : Int), Iv u e P Q c2 → (∀ (a : Nat) (j : Int), ¬ ((a = 1 ∧ j = 2) ∨ (a = 1 ∧ j = 4) ∨ (a = 1 ∧ j = 5) ∨ (a = (A + 7) ∧ j = 5) ∨ a = (A + 9)) → c2 a j = c a j) → 0 ≤ v3 ∧ v3 ≤ 150 → 301 - 2 * v3 < (n : Int) → Wp sc (d + 14) 13 8 [(0, .ref (A + 7)), (1, .ref 1), (2, vi a2), (3, vi v3)] [] (Wd P Q P P c2) 0 0 Z) := by
  intro n
  induction n with
  | zero => exact (by intro c2 v3 hI2 hF hv3 hm9; have hP := iv_P hI; have hQ := iv_Q hI; exfalso; omega)
  | succ n ih =>
    have hP := iv_P hI
    have hQ := iv_Q hI
    intro c2 v3 hI2 hF hv3 hm9
    refine q_iload_n c_13_8 rfl (v_sip c_13_9 (by decide) ?_)
    by_cases h_1 : v3 ≥ 150
    · refine v_ic_ge_t (t := 59) c_13_12 rfl ⟨by decide, h_1, (Int.le_trans hv3.2 (by decide))⟩ (q_vret rfl rfl ?_)
      exact K c2 hI2 (fun a j hm => hF a j hm)
    · refine v_ic_ge_f (t := 59) c_13_12 rfl ⟨(Int.le_trans (by decide) hv3.1), (Int.not_le.mp h_1), by decide⟩ (q_aload_n c_13_15 rfl (v_cv c_13_16 km_0_40 rfl rfl (nb_ rfl) ⟨⟨rfl, rfl⟩, nb_ rfl, rfl⟩ (nb_ rfl) (nb_ rfl) (q_aload_n c_2_0 rfl ?_)))
      have h_2 := ir_1_4 hI2
      refine v_gi (z := 4) (v := c2 1 4) c_2_1 kf_5_38 rfl (nb_ rfl) rfl rfl rfl ?_
      by_cases h_3 : c2 1 4 ≠ 0
      · refine v_if_ne_t (t := 11) c_2_4 rfl ⟨h_3, ⟨(Int.le_trans (by decide) h_2.1), (Int.le_trans h_2.2 (by decide))⟩, by decide, by decide⟩ (q_iconst c_2_11 (v_zret c_2_12 rfl (by decide) (bk_inl (v_if_eq_t (t := 59) c_13_19 rfl (by decide) (q_vret rfl rfl ?_)))))
        exact K c2 hI2 (fun a j hm => hF a j hm)
      · refine v_if_ne_f (t := 11) c_2_4 rfl (Decidable.not_not.mp h_3) (q_iconst c_2_7 (q_goto (t := 12) c_2_8 rfl (v_zret c_2_12 rfl (by decide) (bk_inl (v_if_eq_f (t := 59) c_13_19 rfl (by decide) (q_aload_n c_13_22 rfl (q_ldc_s c_13_23 rfl rfl (by decide) ?_)))))))
        refine v_cv c_13_25 km_0_55 rfl rfl (nb_ rfl) ⟨⟨rfl, rfl⟩, nb_ rfl, rfl⟩ (nb_ rfl) (nb_ rfl) (s_4 hI2 (q := 7) (nt := 2) (by decide) (by decide) (by decide) (fun c_4 y_7 hI_5 hF_6 hy_7 => (bk_inl (q_istore c_13_28 (nb_ rfl) (q_iload c_13_30 rfl (q_iconst c_13_32 ?_))))))
        by_cases h_8 : y_7 ≠ (-1)
        · refine v_ic_ne_t (t := 37) c_13_33 rfl ⟨h_8, ⟨(Int.le_trans (by decide) hy_7.1), (Int.le_trans hy_7.2 (by decide))⟩, by decide, by decide⟩ (q_aload_n c_13_37 rfl (q_aload_n c_13_38 rfl (q_iload_n c_13_39 rfl (v_cv c_13_40 km_0_50 rfl (ck_p7 hA) (a68 hA rfl) ⟨⟨rfl, rfl⟩, by decide, rfl⟩ (nb_ rfl) (nb_ rfl) (s_12 (a2 := a2) hI_5 hA (show 0 ≤ a2 ∧ a2 ≤ 6 from ha2) H13 (fun c_9 hI_10 hF_11 => (bk_inl (q_aload_n c_13_43 rfl (v_sip c_13_44 (by decide) ?_)))))))))
          refine q_iload c_13_47 rfl (v_iadd (v := y_7 + 2000) c_13_49 (by first | exact q_587891240 | omega) (v_cv c_13_50 km_0_59 rfl (ck_p7 hA) (a68 hA rfl) ⟨⟨rfl, rfl⟩, by decide, rfl⟩ (nb_ rfl) (nb_ rfl) (s_5 (a1 := y_7 + 2000) hI_10 hA (show 0 ≤ y_7 + 2000 ∧ y_7 + 2000 ≤ 3000 from ⟨by first | exact rgp_l hy_7.1 (by decide) | omega, by first | exact rgp_h hy_7.2 (by decide) | omega⟩) (Or.inr (by omega)) (fun c_12 hI_13 hF_14 => (bk_inl (v_iinc (v := v3 + 1) c_13_53 rfl (nb_ rfl) rfl (q_goto (t := 8) c_13_56 rfl (Wp_ls [(0, .ref (A + 7)), (1, .ref 1), (2, vi a2), (3, vi (v3 + 1))] (lsub_cons rfl (lsub_cons rfl (lsub_cons rfl (lsub_cons rfl lsub_nil)))) ?_))))))))
          exact ih c_12 (v3 + 1) hI_13 (fun a j hm => (hF_14 a j (qv_651880e32 hm)).trans ((hF_11 a j hm).trans ((hF_6 a j (fun h => hm (Or.inl h))).trans (hF a j hm)))) ⟨by first | exact rgp_l hv3.1 (by decide) | omega, by first | exact q_e92c430a0 h_1 | omega⟩ (by omega)
        · refine v_ic_ne_f (t := 37) c_13_33 rfl (Decidable.not_not.mp h_8) (q_vret rfl rfl ?_)
          exact K c_4 hI_5 (fun a j hm => (hF_6 a j (fun h => hm (Or.inl h))).trans (hF a j hm))
set_option maxRecDepth 100000 in
set_option maxHeartbeats 4000000 in
theorem s_13 {sc : List Int32} {e : Int} {d u P Q A : Nat} {c : ME} {a2 : Int} {Z : AR → Prop} (hI : Iv u e P Q c) (hA : A = 13 ∨ A = 25) (ha2 : 0 ≤ a2 ∧ a2 ≤ 6) (H13 : ∀ (c : ME) (Z : AR → Prop), a2 + 1 ≤ 6 → Iv u e P Q c → (∀ c2 : ME, Iv u e P Q c2 → (∀ (a : Nat) (j : Int), ¬ ((a = 1 ∧ j = 2) ∨ (a = 1 ∧ j = 4) ∨ (a = 1 ∧ j = 5) ∨ (a = (A + 7) ∧ j = 5) ∨ a = (A + 9)) → c2 a j = c a j) → Z (.inl none, Wd P Q P P c2, 0, 0)) → Wp sc (d + 11) 13 0 [(0, .ref (A + 7)), (1, .ref 1), (2, vi (a2 + 1))] [] (Wd P Q P P c) 0 0 Z) (K : ∀ (c2 : ME), Iv u e P Q c2 → (∀ (a : Nat) (j : Int), ¬ ((a = 1 ∧ j = 2) ∨ (a = 1 ∧ j = 4) ∨ (a = 1 ∧ j = 5) ∨ (a = (A + 7) ∧ j = 5) ∨ a = (A + 9)) → c2 a j = c a j) → Z (.inl (none), Wd P Q P P c2, 0, 0)) : Wp sc (d + 14) 13 0 [(0, .ref (A + 7)), (1, .ref 1), (2, vi a2)] [] (Wd P Q P P c) 0 0 Z := by
  have hP := iv_P hI
  have hQ := iv_Q hI
  refine q_aload_n c_13_0 rfl (q_aload_n c_13_1 rfl (q_iload_n c_13_2 rfl (v_cv c_13_3 km_0_50 rfl (ck_p7 hA) (a68 hA rfl) ⟨⟨rfl, rfl⟩, by decide, rfl⟩ (nb_ rfl) (nb_ rfl) (s_12 (a2 := a2) hI hA (show 0 ≤ a2 ∧ a2 ≤ 6 from ha2) H13 (fun c_15 hI_16 hF_17 => (bk_inl (q_iconst c_13_6 (q_istore_n c_13_7 (nb_ rfl) (Wp_ls [(0, .ref (A + 7)), (1, .ref 1), (2, vi a2), (3, vi 0)] (lsub_cons rfl (lsub_cons rfl (lsub_cons rfl (lsub_cons rfl lsub_nil)))) ?_)))))))))
  exact (s_13_l (sc := sc) (d := d) hI hA ha2 H13 K 304) c_15 0 hI_16 (fun a j hm => hF_17 a j hm) ⟨by decide, by decide⟩ (by omega)
set_option maxRecDepth 100000 in
set_option maxHeartbeats 4000000 in
theorem r_13_n {sc : List Int32} {e : Int} {d u P Q A : Nat} (hA : A = 13 ∨ A = 25) : ∀ (m : Nat) (c : ME) (a2 : Int) (Z : AR → Prop), a2 + (m : Int) = 6 → 0 ≤ a2 → Iv u e P Q c → (∀ c2 : ME, Iv u e P Q c2 → (∀ (a : Nat) (j : Int), ¬ ((a = 1 ∧ j = 2) ∨ (a = 1 ∧ j = 4) ∨ (a = 1 ∧ j = 5) ∨ (a = (A + 7) ∧ j = 5) ∨ a = (A + 9)) → c2 a j = c a j) → Z (.inl none, Wd P Q P P c2, 0, 0)) → Wp sc (d + 3 * m + 14) 13 0 [(0, .ref (A + 7)), (1, .ref 1), (2, vi a2)] [] (Wd P Q P P c) 0 0 Z
  | 0, c, a2, Z, hm, h0, hI, K => s_13 (d := d) (a2 := a2) hI hA (show 0 ≤ a2 ∧ a2 ≤ 6 from ⟨by omega, by omega⟩) (fun c9 Z9 hc => absurd hc (by omega)) K
  | m + 1, c, a2, Z, hm, h0, hI, K => by
    have ih := r_13_n (sc := sc) (e := e) (d := d) (u := u) (P := P) (Q := Q) hA m
    rw [show d + 3 * (m + 1) + 14 = (d + 3 * m + 3) + 14 by omega]
    refine s_13 (d := d + 3 * m + 3) (a2 := a2) hI hA (show 0 ≤ a2 ∧ a2 ≤ 6 from ⟨by omega, by omega⟩) (fun c9 Z9 hc hI9 K9 => ?_) K
    have r := ih c9 (a2 + 1) Z9 (by omega) (by omega) hI9 K9
    rw [show d + 3 * m + 14 = (d + 3 * m + 3) + 11 by omega] at r
    exact r
set_option maxRecDepth 100000 in
set_option maxHeartbeats 4000000 in
theorem r_13 {sc : List Int32} {e : Int} {d u P Q A : Nat} {c : ME} {a2 : Int} {Z : AR → Prop} (hI : Iv u e P Q c) (hA : A = 13 ∨ A = 25) (ha2 : 0 ≤ a2 ∧ a2 ≤ 6) (K : (∀ c2 : ME, Iv u e P Q c2 → (∀ (a : Nat) (j : Int), ¬ ((a = 1 ∧ j = 2) ∨ (a = 1 ∧ j = 4) ∨ (a = 1 ∧ j = 5) ∨ (a = (A + 7) ∧ j = 5) ∨ a = (A + 9)) → c2 a j = c a j) → Z (.inl none, Wd P Q P P c2, 0, 0))) : Wp sc (d + 32) 13 0 [(0, .ref (A + 7)), (1, .ref 1), (2, vi a2)] [] (Wd P Q P P c) 0 0 Z := by
  obtain ⟨m, hm⟩ : ∃ m : Nat, (m : Int) = 6 - a2 := ⟨(6 - a2).toNat, by omega⟩
  rw [show d + 32 = (d + 18 - 3 * m) + 3 * m + 14 by omega]
  exact r_13_n hA m c a2 Z (by omega) (by omega) hI K

set_option maxRecDepth 100000 in
set_option maxHeartbeats 4000000 in
theorem s_15 {sc : List Int32} {e : Int} {d u P Q : Nat} {c : ME} {Z : AR → Prop} (hI : Iv u e P Q c)  (K : ∀ (c2 : ME) (y : Int), Iv u e P Q c2 → (∀ (a : Nat) (j : Int), ¬ ((a = 1 ∧ j = 2)) → c2 a j = c a j) → 0 ≤ y ∧ y ≤ 1 → Z (.inl (some (vi y)), Wd P Q P P c2, 0, 0)) : Wp sc (d + 8) 15 0 [(0, .ref 1)] [] (Wd P Q P P c) 0 0 Z := by
  have hP := iv_P hI
  have hQ := iv_Q hI
  refine q_aload_n c_15_0 rfl (v_cv c_15_1 km_5_45 rfl rfl (nb_ rfl) ⟨⟨rfl, rfl⟩, nb_ rfl, rfl⟩ (nb_ rfl) (nb_ rfl) (q_aload_n c_2_0 rfl ?_))
  have h_1 := ir_1_4 hI
  refine v_gi (z := 4) (v := c 1 4) c_2_1 kf_5_38 rfl (nb_ rfl) rfl rfl rfl ?_
  by_cases h_2 : c 1 4 ≠ 0
  · refine v_if_ne_t (t := 11) c_2_4 rfl ⟨h_2, ⟨(Int.le_trans (by decide) h_1.1), (Int.le_trans h_1.2 (by decide))⟩, by decide, by decide⟩ (q_iconst c_2_11 (v_zret c_2_12 rfl (by decide) (bk_inl (v_if_eq_t (t := 22) c_15_4 rfl (by decide) (q_iconst c_15_22 (v_zret c_15_23 rfl (by decide) ?_))))))
    exact K c 0 hI (fun a j hm => rfl) ⟨by decide, by decide⟩
  · refine v_if_ne_f (t := 11) c_2_4 rfl (Decidable.not_not.mp h_2) (q_iconst c_2_7 (q_goto (t := 12) c_2_8 rfl (v_zret c_2_12 rfl (by decide) (bk_inl (v_if_eq_f (t := 22) c_15_4 rfl (by decide) (q_aload_n c_15_7 rfl (v_cv c_15_8 km_5_41 rfl rfl (nb_ rfl) ⟨⟨rfl, rfl⟩, nb_ rfl, rfl⟩ (nb_ rfl) (nb_ rfl) (s_3 hI (fun c_3 y_6 hI_4 hF_5 hy_6 h_7 => ?_)))))))))
    refine bk_inl ?_
    have h_8 := ir_1_2 hI_4
    refine q_aload_n c_15_11 rfl ?_
    have h_9 := ir_1_1 hI
    have kn_10 : Hid (c_3 1 1 = c 1 1) := hF_5 1 1 (fun h => absurd h.2 (ni rfl))
    refine v_gi (z := 1) (v := c 1 1) c_15_12 kf_5_32 rfl (nb_ rfl) rfl rfl (hid kn_10) ?_
    by_cases h_11 : y_6 ≥ c 1 1
    · refine v_ic_ge_t (t := 22) c_15_15 rfl ⟨by first | exact q_3b2b08511 h_9 | omega, h_11, (Int.le_trans hy_6.2 (by decide))⟩ (q_iconst c_15_22 (v_zret c_15_23 rfl (by decide) ?_))
      exact K c_3 0 hI_4 (fun a j hm => hF_5 a j hm) ⟨by decide, by decide⟩
    · refine v_ic_ge_f (t := 22) c_15_15 rfl ⟨(Int.le_trans (by decide) hy_6.1), (Int.not_le.mp h_11), by first | exact q_3885e607f h_9 | omega⟩ (q_iconst c_15_18 (q_goto (t := 23) c_15_19 rfl (v_zret c_15_23 rfl (by decide) ?_)))
      exact K c_3 1 hI_4 (fun a j hm => hF_5 a j hm) ⟨by decide, by decide⟩

set_option maxRecDepth 100000 in
set_option maxHeartbeats 4000000 in
theorem s_16 {sc : List Int32} {e : Int} {d u P Q : Nat} {c : ME} {Z : AR → Prop} (hI : Iv u e P Q c)  (K : ∀ (c2 : ME), Iv u e P Q c2 → (∀ (a : Nat) (j : Int), ¬ ((a = 1 ∧ j = 2) ∨ (a = 1 ∧ j = 4) ∨ (a = 1 ∧ j = 5)) → c2 a j = c a j) → Z (.inl (none), Wd P Q P P c2, 0, 0)) : Wp sc (d + 9) 16 0 [(0, .ref 1)] [] (Wd P Q P P c) 0 0 Z := by
  have hP := iv_P hI
  have hQ := iv_Q hI
  refine q_aload_n c_16_0 rfl (v_cv c_16_1 km_5_49 rfl rfl (nb_ rfl) ⟨⟨rfl, rfl⟩, nb_ rfl, rfl⟩ (nb_ rfl) (nb_ rfl) (s_15 hI (fun c_1 y_4 hI_2 hF_3 hy_4 => (bk_inl ?_))))
  by_cases h_5 : y_4 = 0
  · refine v_if_eq_t (t := 16) c_16_4 rfl h_5 (q_vret rfl rfl ?_)
    exact K c_1 hI_2 (fun a j hm => hF_3 a j (fun h => hm (Or.inl h)))
  · refine v_if_eq_f (t := 16) c_16_4 rfl ⟨h_5, ⟨(Int.le_trans (by decide) hy_4.1), (Int.le_trans hy_4.2 (by decide))⟩, by decide, by decide⟩ (q_aload_n c_16_7 rfl (q_iconst c_16_8 (q_aload_n c_16_9 rfl ?_)))
    have h_6 := ir_1_2 hI_2
    refine v_gi (z := 2) (v := c_1 1 2) c_16_10 kf_5_35 rfl (nb_ rfl) rfl rfl rfl (v_cv c_16_13 km_5_52 rfl rfl (nb_ rfl) ⟨⟨rfl, rfl⟩, nb_ rfl, rfl⟩ (nb_ rfl) (nb_ rfl) (s_7 (a1 := 1) (a2 := c_1 1 2) hI_2 (show 1 ≤ 1 ∧ 1 ≤ 3 from ⟨by decide, by decide⟩) (show 0 ≤ c_1 1 2 ∧ c_1 1 2 ≤ 600 from h_6) (fun c_7 hI_8 hF_9 h_10 => (bk_inl ?_))))
    have h_11 := ir_1_4 hI_8
    refine q_vret rfl rfl ?_
    exact K c_7 hI_8 (fun a j hm => (hF_9 a j (qv_7ce279f74 hm)).trans (hF_3 a j (fun h => hm (Or.inl h))))

set_option maxRecDepth 100000 in
set_option maxHeartbeats 4000000 in
theorem s_17 {sc : List Int32} {e : Int} {d u P Q A : Nat} {c : ME} {Z : AR → Prop} (hI : Iv u e P Q c) (hA : A = 13 ∨ A = 25) (K : ∀ (c2 : ME), Iv u e P Q c2 → (∀ (a : Nat) (j : Int), ¬ ((a = 1 ∧ j = 2) ∨ (a = 1 ∧ j = 4) ∨ (a = 1 ∧ j = 5) ∨ (a = (A + 7) ∧ j = 5) ∨ a = (A + 9) ∨ (a = (A + 7) ∧ j = 4) ∨ a = (A + 8)) → c2 a j = c a j) → Z (.inl (none), Wd P Q P P c2, 0, 0)) : Wp sc (d + 33) 17 0 [(0, .ref (A + 7)), (1, .ref 1)] [] (Wd P Q P P c) 0 0 Z := by
  have hP := iv_P hI
  have hQ := iv_Q hI
  refine q_aload_n c_17_0 rfl (q_iconst c_17_1 (v_pi (z := 5) c_17_2 kf_0_28 (ck_p7 hA) (a68 hA rfl) rfl rfl rfl (by decide) (q_aload_n c_17_5 rfl (q_aload_n c_17_6 rfl (q_iconst c_17_7 ?_)))))
  have hI_1 := iw_p7_5 (v := 0) hI hA ⟨by decide, by decide⟩
  refine v_cv c_17_8 km_0_31 rfl (ck_p7 hA) (a68 hA rfl) ⟨⟨rfl, rfl⟩, by decide, rfl⟩ (nb_ rfl) (nb_ rfl) (r_13 (a2 := 0) hI_1 hA (show 0 ≤ 0 ∧ 0 ≤ 6 from ⟨by decide, by decide⟩) (fun c_2 hI_3 hF_4 => (bk_inl (q_aload_n c_17_11 rfl (v_cv c_17_12 km_0_35 rfl rfl (nb_ rfl) ⟨⟨rfl, rfl⟩, nb_ rfl, rfl⟩ (nb_ rfl) (nb_ rfl) (s_16 hI_3 (fun c_5 hI_6 hF_7 => (bk_inl (q_aload_n c_17_15 rfl (v_cv c_17_16 km_0_40 rfl rfl (nb_ rfl) ⟨⟨rfl, rfl⟩, nb_ rfl, rfl⟩ (nb_ rfl) (nb_ rfl) (q_aload_n c_2_0 rfl ?_)))))))))))
  have h_8 := ir_1_4 hI_6
  refine v_gi (z := 4) (v := c_5 1 4) c_2_1 kf_5_38 rfl (nb_ rfl) rfl rfl rfl ?_
  by_cases h_9 : c_5 1 4 ≠ 0
  · refine v_if_ne_t (t := 11) c_2_4 rfl ⟨h_9, ⟨(Int.le_trans (by decide) h_8.1), (Int.le_trans h_8.2 (by decide))⟩, by decide, by decide⟩ (q_iconst c_2_11 (v_zret c_2_12 rfl (by decide) (bk_inl (v_if_eq_t (t := 46) c_17_19 rfl (by decide) (q_vret rfl rfl ?_)))))
    exact K c_5 hI_6 (fun a j hm => (hF_7 a j (qv_6f9c47781 hm)).trans ((hF_4 a j (qv_ee4b54987 hm)).trans (up_b (Decidable.or_iff_not_imp_left.mpr (fun h1 h2 => hm (Or.inr (Or.inr (Or.inr (Or.inl ⟨Decidable.not_not.mp h1, h2⟩)))))))))
  · refine v_if_ne_f (t := 11) c_2_4 rfl (Decidable.not_not.mp h_9) (q_iconst c_2_7 (q_goto (t := 12) c_2_8 rfl (v_zret c_2_12 rfl (by decide) (bk_inl (v_if_eq_f (t := 46) c_17_19 rfl (by decide) (q_aload_n c_17_22 rfl (v_gr (t := (A + 9)) c_17_23 kf_0_15 (ck_p7 hA) (a68 hA rfl) rfl ?_)))))))
    refine q_iconst c_17_26 (q_aload_n c_17_27 rfl (v_gr (t := (A + 8)) c_17_28 kf_0_9 (ck_p7 hA) (a68 hA rfl) rfl (q_iconst c_17_31 (v_sip c_17_32 (by decide) (v_cpy c_17_35 rfl (ck_p8 hA) (a68 hA rfl) (ck_p9 hA) (a68 hA rfl) rfl rfl (by omega) (nb_ rfl) (by omega) (q_aload_n c_17_38 rfl (q_aload_n c_17_39 rfl ?_)))))))
    have h_10 := ir_p7_5 hI_3 hA
    have kn_11 : Hid (c_5 (A + 7) 5 = c_2 (A + 7) 5) := hF_7 (A + 7) 5 (qn_3e7b2eb2a hA)
    refine v_gi (z := 5) (v := c_2 (A + 7) 5) c_17_40 kf_0_28 (ck_p7 hA) (a68 hA rfl) rfl rfl ((upc_c (by omega)).trans (hid kn_11)) (v_pi (z := 4) c_17_43 kf_0_24 (ck_p7 hA) (a68 hA rfl) rfl rfl rfl (by decide) (q_vret rfl rfl ?_))
    have hI_12 := cp_p9_p8 (n := 150) hI_6 hA
    have hI_13 := iw_p7_4 (v := c_2 (A + 7) 5) hI_12 hA ⟨by first | exact q_47cb9e6c6 h_10 | omega, by first | exact q_4ed2d8592 h_10 | omega⟩
    exact K (up (upc c_5 (A + 9) 0 (A + 8) 0 150) (A + 7) 4 (c_2 (A + 7) 5)) hI_13 (fun a j hm => (up_b (Decidable.or_iff_not_imp_left.mpr (fun h1 h2 => hm (Or.inr (Or.inr (Or.inr (Or.inr (Or.inr (Or.inl ⟨Decidable.not_not.mp h1, h2⟩))))))))).trans ((upc_c (fun h => hm (Or.inr (Or.inr (Or.inr (Or.inr (Or.inr (Or.inr h)))))))).trans ((hF_7 a j (qv_6f9c47781 hm)).trans ((hF_4 a j (qv_ee4b54987 hm)).trans (up_b (Decidable.or_iff_not_imp_left.mpr (fun h1 h2 => hm (Or.inr (Or.inr (Or.inr (Or.inl ⟨Decidable.not_not.mp h1, h2⟩)))))))))))

set_option maxRecDepth 100000 in
set_option maxHeartbeats 4000000 in
theorem s_19 {sc : List Int32} {e : Int} {d u P Q : Nat} {c : ME} {a0 : Int} {a1 : Int} {a2 : Int} {Z : AR → Prop} (hI : Iv u e P Q c) (ha0 : (-2147483648) ≤ a0 ∧ a0 ≤ 2147483647) (ha1 : (-2147483648) ≤ a1 ∧ a1 ≤ 2147483647) (ha2 : (-2147483648) ≤ a2 ∧ a2 ≤ 2147483647) (K : ∀ (y : Int), (-2147483648) ≤ y ∧ y ≤ 2147483647 → Z (.inl (some (vi y)), Wd P Q P P c, 0, 0)) : Wp sc (d + 7) 19 0 [(0, vi a0), (1, vi a1), (2, vi a2)] [] (Wd P Q P P c) 0 0 Z := by
  have hP := iv_P hI
  have hQ := iv_Q hI
  refine q_iload_n c_19_0 rfl ?_
  by_cases h_1 : a0 = 2000
  · skip
    refine v_tsw_i (t := 40) 2000 c_19_1 (by omega) (by decide) rfl (by decide) (q_iload_n c_19_40 rfl (q_iload_n c_19_41 rfl (v_iadd (v := a1 + a2) c_19_42 rfl (v_nrm (fun y_2 hy_2 => (q_iret c_19_43 rfl ?_))))))
    exact K y_2 hy_2
  by_cases h_3 : a0 = 2001
  · skip
    refine v_tsw_i (t := 44) 2001 rfl (by omega) (by decide) rfl (by decide) (q_iload_n c_19_44 rfl (q_iload_n c_19_45 rfl (v_isub (v := a1 - a2) c_19_46 rfl (v_nrm (fun y_4 hy_4 => (q_iret c_19_47 rfl ?_))))))
    exact K y_4 hy_4
  by_cases h_5 : a0 = 2002
  · skip
    refine v_tsw_i (t := 48) 2002 rfl (by omega) (by decide) rfl (by decide) (q_iload_n c_19_48 rfl (q_iload_n c_19_49 rfl (v_imul (v := (a1 * a2)) c_19_50 rfl (v_nrm (fun y_6 hy_6 => (q_iret c_19_51 rfl ?_))))))
    exact K y_6 hy_6
  by_cases h_7 : a0 = 2003
  · skip
    refine v_tsw_i (t := 52) 2003 rfl (by omega) (by decide) rfl (by decide) (q_iload_n c_19_52 rfl ?_)
    by_cases h_8 : a2 ≠ 0
    · refine v_if_ne_t (t := 60) c_19_53 rfl ⟨h_8, ⟨ha2.1, ha2.2⟩, by decide, by decide⟩ (q_iload_n c_19_60 rfl (q_iload_n c_19_61 rfl (v_idivx c_19_62 ⟨by omega, by omega, by omega⟩ (fun y_9 hy_9 => (q_iret c_19_63 rfl ?_)))))
      exact K y_9 hy_9
    · refine v_if_ne_f (t := 60) c_19_53 rfl (Decidable.not_not.mp h_8) (q_iconst c_19_56 (q_goto (t := 63) c_19_57 rfl (q_iret c_19_63 rfl ?_)))
      exact K 0 ⟨by decide, by decide⟩
  by_cases h_10 : a0 = 2004
  · skip
    refine v_tsw_i (t := 64) 2004 rfl (by omega) (by decide) rfl (by decide) (q_iload_n c_19_64 rfl ?_)
    by_cases h_11 : a2 ≠ 0
    · refine v_if_ne_t (t := 72) c_19_65 rfl ⟨h_11, ⟨ha2.1, ha2.2⟩, by decide, by decide⟩ (q_iload_n c_19_72 rfl (q_iload_n c_19_73 rfl (v_iremx c_19_74 ⟨by omega, by omega, by omega⟩ (fun y_12 hy_12 => (q_iret c_19_75 rfl ?_)))))
      exact K y_12 hy_12
    · refine v_if_ne_f (t := 72) c_19_65 rfl (Decidable.not_not.mp h_11) (q_iconst c_19_68 (q_goto (t := 75) c_19_69 rfl (q_iret c_19_75 rfl ?_)))
      exact K 0 ⟨by decide, by decide⟩
  by_cases h_13 : a0 = 2005
  · skip
    refine v_tsw_i (t := 76) 2005 rfl (by omega) (by decide) rfl (by decide) (q_iload_n c_19_76 rfl (q_iload_n c_19_77 rfl ?_))
    by_cases h_14 : a1 > a2
    · refine v_ic_gt_t (t := 85) c_19_78 rfl ⟨ha2.1, h_14, ha1.2⟩ (q_iload_n c_19_85 rfl (q_iret c_19_86 rfl ?_))
      exact K a2 ha2
    · refine v_ic_gt_f (t := 85) c_19_78 rfl ⟨ha1.1, (Int.not_lt.mp h_14), ha2.2⟩ (q_iload_n c_19_81 rfl (q_goto (t := 86) c_19_82 rfl (q_iret c_19_86 rfl ?_)))
      exact K a1 ha1
  refine v_tsw_o (t := 87) rfl (by omega) (by decide) (q_iload_n c_19_87 rfl (q_iload_n c_19_88 rfl ?_))
  by_cases h_15 : a1 < a2
  · refine v_ic_lt_t (t := 96) c_19_89 rfl ⟨ha1.1, h_15, ha2.2⟩ (q_iload_n c_19_96 rfl (q_iret c_19_97 rfl ?_))
    exact K a2 ha2
  · refine v_ic_lt_f (t := 96) c_19_89 rfl ⟨ha2.1, (Int.not_lt.mp h_15), ha1.2⟩ (q_iload_n c_19_92 rfl (q_goto (t := 97) c_19_93 rfl (q_iret c_19_97 rfl ?_)))
    exact K a1 ha1

set_option maxRecDepth 100000 in
set_option maxHeartbeats 4000000 in
theorem s_20_l {sc : List Int32} {e : Int} {d u P Q A : Nat} {c : ME} {a1 : Int} {a2 : Int} {a3 : Int} {a4 : Int} {a5 : Int} {a6 : Int} {a7 : Int} {Z : AR → Prop} (hI : Iv u e P Q c) (hA : A = 13 ∨ A = 25) (ha1 : 0 ≤ a1 ∧ a1 ≤ 9999) (ha2 : 0 ≤ a2 ∧ a2 ≤ 9999) (ha3 : 0 ≤ a3 ∧ a3 ≤ 9999) (ha4 : 0 ≤ a4 ∧ a4 ≤ 9999) (ha5 : (-2147483648) ≤ a5 ∧ a5 ≤ 2147483647) (ha6 : (-2147483648) ≤ a6 ∧ a6 ≤ 2147483647) (ha7 : (-2147483648) ≤ a7 ∧ a7 ≤ 2147483647) (K : ∀ (c2 : ME) (y : Int), Iv u e P Q c2 → (∀ (a : Nat) (j : Int), ¬ (a = (A + 10) ∨ a = (A + 11)) → c2 a j = c a j) → 0 ≤ y ∧ y ≤ 99 → Z (.inl (some (vi y)), Wd P Q P P c2, 0, 0)) : ∀ n : Nat, (∀ (c2 : ME) (v8 : Int) (v9 : Int) (v10 : Int), Iv u e P Q c2 → (∀ (a : Nat) (j : Int), ¬ (a = (A + 10) ∨ a = (A + 11)) → c2 a j = c a j) → 0 ≤ v8 ∧ v8 ≤ 39996 → 0 ≤ v9 ∧ v9 ≤ 150 → 0 ≤ v10 ∧ v10 ≤ 150 → ((v9 ≤ v10)) → 301 - 2 * v10 < (n : Int) → Wp sc (d + 8) 20 108 [(0, .ref (A + 7)), (1, vi a1), (2, vi a2), (3, vi a3), (4, vi a4), (5, vi a5), (6, vi a6), (7, vi a7), (8, vi v8), (9, vi v9), (10, vi v10)] [] (Wd P Q P P c2) 0 0 Z) := by
  intro n
  induction n with
  | zero => exact (by intro c2 v8 v9 v10 hI2 hF hv8 hv9 hv10 hx0 hm9; have hP := iv_P hI; have hQ := iv_Q hI; exfalso; omega)
  | succ n ih =>
    have hP := iv_P hI
    have hQ := iv_Q hI
    intro c2 v8 v9 v10 hI2 hF hv8 hv9 hv10 hx0 hm9
    refine q_iload c_20_108 rfl (q_aload_n c_20_110 rfl ?_)
    have h_1 := ir_p7_4 hI hA
    have kn_2 : Hid (c2 (A + 7) 4 = c (A + 7) 4) := hF (A + 7) 4 (fun q => q.elim (fun h => absurd h (pp rfl)) (fun h => absurd h (pp rfl)))
    refine v_gi (z := 4) (v := c (A + 7) 4) c_20_111 kf_0_24 (ck_p7 hA) (a68 hA rfl) rfl rfl (hid kn_2) ?_
    by_cases h_3 : v10 ≥ c (A + 7) 4
    · refine v_ic_ge_t (t := 216) c_20_114 rfl ⟨by first | exact q_7c38ad3f6 h_1 | omega, h_3, (Int.le_trans hv10.2 (by decide))⟩ (q_aload_n c_20_216 rfl (v_gr (t := (A + 10)) c_20_217 kf_0_18 (ck_p7 hA) (a68 hA rfl) rfl (q_iconst c_20_220 ?_)))
      have h_4 := ir_p10 hI2 hA 0
      refine v_ia (v := c2 (A + 10) 0) c_20_221 (ck_p10 hA) (a68 hA rfl) (by decide) (by decide) rfl (q_call c_20_222 rfl rfl rfl (q_iload_n c_18_0 rfl ?_))
      by_cases h_5 : c2 (A + 10) 0 ≥ 0
      · refine v_if_ge_t (t := 8) c_18_1 rfl ⟨by decide, h_5, h_4.2⟩ (q_iload_n c_18_8 rfl (v_bip c_18_9 (by decide) ?_))
        by_cases h_6 : c2 (A + 10) 0 ≤ 99
        · refine v_ic_le_t (t := 19) c_18_11 rfl ⟨h_4.1, h_6, by decide⟩ (q_iload_n c_18_19 rfl (q_iret c_18_20 rfl (bk_inl (q_iret c_20_225 rfl ?_))))
          exact K c2 (c2 (A + 10) 0) hI2 (fun a j hm => hF a j hm) ⟨by first | exact q_059235c2c h_5 | omega, by first | exact q_a6cbc6a20 h_6 | omega⟩
        · refine v_ic_le_f (t := 19) c_18_11 rfl ⟨by decide, (Int.not_le.mp h_6), h_4.2⟩ (v_bip c_18_14 (by decide) (q_goto (t := 20) c_18_16 rfl (q_iret c_18_20 rfl (bk_inl (q_iret c_20_225 rfl ?_)))))
          exact K c2 99 hI2 (fun a j hm => hF a j hm) ⟨by decide, by decide⟩
      · refine v_if_ge_f (t := 8) c_18_1 rfl ⟨h_4.1, (Int.not_le.mp h_5), by decide⟩ (q_iconst c_18_4 (q_goto (t := 20) c_18_5 rfl (q_iret c_18_20 rfl (bk_inl (q_iret c_20_225 rfl ?_)))))
        exact K c2 0 hI2 (fun a j hm => hF a j hm) ⟨by decide, by decide⟩
    · refine v_ic_ge_f (t := 216) c_20_114 rfl ⟨(Int.le_trans (by decide) hv10.1), (Int.not_le.mp h_3), by first | exact q_b7d7f2b1a h_1 | omega⟩ (q_aload_n c_20_117 rfl (v_gr (t := (A + 8)) c_20_118 kf_0_9 (ck_p7 hA) (a68 hA rfl) rfl (q_iload c_20_121 rfl ?_)))
      have h_7 := ir_p8 hI hA v10
      have h_8 := ir_p8_x hI hA v10
      have kn_9 : Hid (c2 (A + 8) v10 = c (A + 8) v10) := hF (A + 8) v10 (fun q => q.elim (fun h => absurd h (pp rfl)) (fun h => absurd h (pp rfl)))
      refine v_ia (v := c (A + 8) v10) c_20_123 (ck_p8 hA) (a68 hA rfl) (by decide) ⟨hv10.1, by first | exact q_8d9392337 h_1 h_3 | omega⟩ (hid kn_9) (q_istore c_20_124 (nb_ rfl) (q_iload c_20_126 rfl (v_sip c_20_128 (by decide) ?_)))
      by_cases h_10 : c (A + 8) v10 ≥ 2000
      · refine v_ic_ge_t (t := 171) c_20_131 rfl ⟨by decide, h_10, by first | exact q_4e52e4576 h_7 | omega⟩ (q_iload c_20_171 rfl (q_iconst c_20_173 ?_))
        by_cases h_11 : v9 ≤ 1
        · refine v_ic_le_t (t := 210) c_20_174 rfl ⟨(Int.le_trans (by decide) hv9.1), h_11, by decide⟩ (v_iinc (v := v10 + 1) c_20_210 rfl (nb_ rfl) rfl (q_goto (t := 108) c_20_213 rfl (Wp_ls [(0, .ref (A + 7)), (1, vi a1), (2, vi a2), (3, vi a3), (4, vi a4), (5, vi a5), (6, vi a6), (7, vi a7), (8, vi v8), (9, vi v9), (10, vi (v10 + 1))] (lsub_cons rfl (lsub_cons rfl (lsub_cons rfl (lsub_cons rfl (lsub_cons rfl (lsub_cons rfl (lsub_cons rfl (lsub_cons rfl (lsub_cons rfl (lsub_cons rfl (lsub_cons rfl lsub_nil))))))))))) ?_)))
          exact ih c2 v8 v9 (v10 + 1) hI2 (fun a j hm => hF a j hm) hv8 hv9 ⟨by first | exact rgp_l hv10.1 (by decide) | omega, by first | exact q_b47906294 h_1 h_3 | omega⟩ (by first | (clear ha1 ha2 ha3 ha4 ha5 ha6 ha7 hv8 hv9 hv10 h_1 h_3 h_7 h_10 h_11 h_8; omega) | omega) (by omega)
        · refine v_ic_le_f (t := 210) c_20_174 rfl ⟨by decide, (Int.not_le.mp h_11), (Int.le_trans hv9.2 (by decide))⟩ (v_iinc (v := v9 - 1) c_20_177 rfl (nb_ rfl) (by first | exact q_10ec8978d | omega) (q_aload_n c_20_180 rfl (v_gr (t := (A + 10)) c_20_181 kf_0_18 (ck_p7 hA) (a68 hA rfl) rfl (q_iload c_20_184 rfl (q_iconst c_20_186 (v_isub (v := v9 - 2) c_20_187 (by first | exact q_949859d9a | omega) (q_iload c_20_188 rfl ?_)))))))
          refine q_aload_n c_20_190 rfl (v_gr (t := (A + 10)) c_20_191 kf_0_18 (ck_p7 hA) (a68 hA rfl) rfl (q_iload c_20_194 rfl (q_iconst c_20_196 (v_isub (v := v9 - 2) c_20_197 (by first | exact q_949859d9a | omega) ?_))))
          have h_12 := ir_p10 hI2 hA (v9 - 2)
          refine v_ia (v := c2 (A + 10) (v9 - 2)) c_20_198 (ck_p10 hA) (a68 hA rfl) (by decide) ⟨by first | exact q_3fd0c26f9 h_11 | omega, by first | exact q_2d3808a94 hv9 | omega⟩ rfl (q_aload_n c_20_199 rfl (v_gr (t := (A + 10)) c_20_200 kf_0_18 (ck_p7 hA) (a68 hA rfl) rfl (q_iload c_20_203 rfl ?_)))
          have h_13 := ir_p10 hI2 hA (v9 - 1)
          refine v_ia (v := c2 (A + 10) (v9 - 1)) c_20_205 (ck_p10 hA) (a68 hA rfl) (by decide) ⟨by first | exact q_96d88faef h_11 | omega, by first | exact q_8528fcf54 hv9 | omega⟩ rfl (q_call c_20_206 rfl rfl rfl (s_19 (a0 := c (A + 8) v10) (a1 := c2 (A + 10) (v9 - 2)) (a2 := c2 (A + 10) (v9 - 1)) hI2 (show (-2147483648) ≤ c (A + 8) v10 ∧ c (A + 8) v10 ≤ 2147483647 from ⟨by first | exact q_efcdaf7e7 h_10 | omega, by first | exact q_4e52e4576 h_7 | omega⟩) (show (-2147483648) ≤ c2 (A + 10) (v9 - 2) ∧ c2 (A + 10) (v9 - 2) ≤ 2147483647 from h_12) (show (-2147483648) ≤ c2 (A + 10) (v9 - 1) ∧ c2 (A + 10) (v9 - 1) ≤ 2147483647 from h_13) (fun y_14 hy_14 => (bk_inl (v_is c_20_209 (ck_p10 hA) (a68 hA rfl) (by decide) ⟨by first | exact q_3fd0c26f9 h_11 | omega, by first | exact q_2d3808a94 hv9 | omega⟩ (v_iinc (v := v10 + 1) c_20_210 rfl (nb_ rfl) rfl (q_goto (t := 108) c_20_213 rfl ?_)))))))
          have hI_15 := iw_p10 (j := v9 - 2) (v := y_14) hI2 hA ⟨hy_14.1, hy_14.2⟩
          refine Wp_ls [(0, .ref (A + 7)), (1, vi a1), (2, vi a2), (3, vi a3), (4, vi a4), (5, vi a5), (6, vi a6), (7, vi a7), (8, vi v8), (9, vi (v9 - 1)), (10, vi (v10 + 1))] (lsub_cons rfl (lsub_cons rfl (lsub_cons rfl (lsub_cons rfl (lsub_cons rfl (lsub_cons rfl (lsub_cons rfl (lsub_cons rfl (lsub_cons rfl (lsub_cons rfl (lsub_cons rfl lsub_nil))))))))))) ?_
          exact ih (up c2 (A + 10) (v9 - 2) y_14) v8 (v9 - 1) (v10 + 1) hI_15 (fun a j hm => (up_b (Decidable.or_iff_not_imp_left.mpr (fun h1 h2 => hm (Or.inl (Decidable.not_not.mp h1))))).trans (hF a j hm)) hv8 ⟨by first | exact q_96d88faef h_11 | omega, by first | exact rgm_h hv9.2 (by decide) | omega⟩ ⟨by first | exact rgp_l hv10.1 (by decide) | omega, by first | exact q_b47906294 h_1 h_3 | omega⟩ (by first | (clear ha1 ha2 ha3 ha4 ha5 ha6 ha7 hv8 hv9 hv10 h_1 h_3 h_7 h_10 h_11 h_12 h_13 h_8; omega) | omega) (by omega)
      · refine v_ic_ge_f (t := 171) c_20_131 rfl ⟨by first | exact q_cc1935a2a h_7 | omega, (Int.not_le.mp h_10), by decide⟩ (q_aload_n c_20_134 rfl (v_gr (t := (A + 10)) c_20_135 kf_0_18 (ck_p7 hA) (a68 hA rfl) rfl (q_iload c_20_138 rfl (q_iload c_20_140 rfl (v_sip c_20_142 (by decide) ?_)))))
        by_cases h_16 : c (A + 8) v10 ≥ 1000
        · refine v_ic_ge_t (t := 153) c_20_145 rfl ⟨by decide, h_16, by first | exact q_8e843b4e6 h_10 | omega⟩ (q_aload_n c_20_153 rfl (v_gr (t := (A + 11)) c_20_154 kf_0_21 (ck_p7 hA) (a68 hA rfl) rfl (q_iload c_20_157 rfl (v_sip c_20_159 (by decide) (v_isub (v := c (A + 8) v10 - 1000) c_20_162 rfl ?_)))))
          have h_17 := ir_p11 hI2 hA (c (A + 8) v10 - 1000)
          refine v_ia (v := c2 (A + 11) (c (A + 8) v10 - 1000)) c_20_163 (ck_p11 hA) (a68 hA rfl) (by decide) ⟨by first | exact q_3b6849c3a h_16 | omega, by first | exact q_fe2e90aed h_10 h_8 | omega⟩ rfl (v_is c_20_164 (ck_p10 hA) (a68 hA rfl) (by decide) ⟨hv9.1, by first | (clear ha1 ha2 ha3 ha4 ha5 ha6 ha7 hv8 hv9 hv10 h_7 h_10 h_16 h_17 h_8; omega) | omega⟩ (v_iinc (v := v9 + 1) c_20_165 rfl (nb_ rfl) rfl (q_goto (t := 210) c_20_168 rfl (v_iinc (v := v10 + 1) c_20_210 rfl (nb_ rfl) rfl (q_goto (t := 108) c_20_213 rfl ?_)))))
          have hI_18 := iw_p10 (j := v9) (v := c2 (A + 11) (c (A + 8) v10 - 1000)) hI2 hA ⟨h_17.1, h_17.2⟩
          refine Wp_ls [(0, .ref (A + 7)), (1, vi a1), (2, vi a2), (3, vi a3), (4, vi a4), (5, vi a5), (6, vi a6), (7, vi a7), (8, vi v8), (9, vi (v9 + 1)), (10, vi (v10 + 1))] (lsub_cons rfl (lsub_cons rfl (lsub_cons rfl (lsub_cons rfl (lsub_cons rfl (lsub_cons rfl (lsub_cons rfl (lsub_cons rfl (lsub_cons rfl (lsub_cons rfl (lsub_cons rfl lsub_nil))))))))))) ?_
          exact ih (up c2 (A + 10) v9 (c2 (A + 11) (c (A + 8) v10 - 1000))) v8 (v9 + 1) (v10 + 1) hI_18 (fun a j hm => (up_b (Decidable.or_iff_not_imp_left.mpr (fun h1 h2 => hm (Or.inl (Decidable.not_not.mp h1))))).trans (hF a j hm)) hv8 ⟨by first | exact rgp_l hv9.1 (by decide) | omega, by first | (clear ha1 ha2 ha3 ha4 ha5 ha6 ha7 hv8 hv9 hv10 h_7 h_10 h_16 h_17 h_8; omega) | omega⟩ ⟨by first | exact rgp_l hv10.1 (by decide) | omega, by first | exact q_b47906294 h_1 h_3 | omega⟩ (by first | (clear ha1 ha2 ha3 ha4 ha5 ha6 ha7 hv8 hv9 hv10 h_1 h_3 h_7 h_10 h_16 h_17 h_8; omega) | omega) (by omega)
        · refine v_ic_ge_f (t := 153) c_20_145 rfl ⟨by first | exact q_cc1935a2a h_7 | omega, (Int.not_le.mp h_16), by decide⟩ (q_iload c_20_148 rfl (q_goto (t := 164) c_20_150 rfl (v_is c_20_164 (ck_p10 hA) (a68 hA rfl) (by decide) ⟨hv9.1, by first | (clear ha1 ha2 ha3 ha4 ha5 ha6 ha7 hv8 hv9 hv10 h_7 h_10 h_16 h_8; omega) | omega⟩ (v_iinc (v := v9 + 1) c_20_165 rfl (nb_ rfl) rfl (q_goto (t := 210) c_20_168 rfl (v_iinc (v := v10 + 1) c_20_210 rfl (nb_ rfl) rfl (q_goto (t := 108) c_20_213 rfl ?_)))))))
          have hI_19 := iw_p10 (j := v9) (v := c (A + 8) v10) hI2 hA ⟨by first | exact q_cc1935a2a h_7 | omega, by first | exact q_626295773 h_16 | omega⟩
          refine Wp_ls [(0, .ref (A + 7)), (1, vi a1), (2, vi a2), (3, vi a3), (4, vi a4), (5, vi a5), (6, vi a6), (7, vi a7), (8, vi v8), (9, vi (v9 + 1)), (10, vi (v10 + 1))] (lsub_cons rfl (lsub_cons rfl (lsub_cons rfl (lsub_cons rfl (lsub_cons rfl (lsub_cons rfl (lsub_cons rfl (lsub_cons rfl (lsub_cons rfl (lsub_cons rfl (lsub_cons rfl lsub_nil))))))))))) ?_
          exact ih (up c2 (A + 10) v9 (c (A + 8) v10)) v8 (v9 + 1) (v10 + 1) hI_19 (fun a j hm => (up_b (Decidable.or_iff_not_imp_left.mpr (fun h1 h2 => hm (Or.inl (Decidable.not_not.mp h1))))).trans (hF a j hm)) hv8 ⟨by first | exact rgp_l hv9.1 (by decide) | omega, by first | (clear ha1 ha2 ha3 ha4 ha5 ha6 ha7 hv8 hv9 hv10 h_7 h_10 h_16 h_8; omega) | omega⟩ ⟨by first | exact rgp_l hv10.1 (by decide) | omega, by first | exact q_b47906294 h_1 h_3 | omega⟩ (by first | (clear ha1 ha2 ha3 ha4 ha5 ha6 ha7 hv8 hv9 hv10 h_1 h_3 h_7 h_10 h_16 h_8; omega) | omega) (by omega)
set_option maxRecDepth 100000 in
set_option maxHeartbeats 4000000 in
theorem s_20 {sc : List Int32} {e : Int} {d u P Q A : Nat} {c : ME} {a1 : Int} {a2 : Int} {a3 : Int} {a4 : Int} {a5 : Int} {a6 : Int} {a7 : Int} {Z : AR → Prop} (hI : Iv u e P Q c) (hA : A = 13 ∨ A = 25) (ha1 : 0 ≤ a1 ∧ a1 ≤ 9999) (ha2 : 0 ≤ a2 ∧ a2 ≤ 9999) (ha3 : 0 ≤ a3 ∧ a3 ≤ 9999) (ha4 : 0 ≤ a4 ∧ a4 ≤ 9999) (ha5 : (-2147483648) ≤ a5 ∧ a5 ≤ 2147483647) (ha6 : (-2147483648) ≤ a6 ∧ a6 ≤ 2147483647) (ha7 : (-2147483648) ≤ a7 ∧ a7 ≤ 2147483647) (K : ∀ (c2 : ME) (y : Int), Iv u e P Q c2 → (∀ (a : Nat) (j : Int), ¬ (a = (A + 10) ∨ a = (A + 11)) → c2 a j = c a j) → 0 ≤ y ∧ y ≤ 99 → Z (.inl (some (vi y)), Wd P Q P P c2, 0, 0)) : Wp sc (d + 8) 20 0 [(0, .ref (A + 7)), (1, vi a1), (2, vi a2), (3, vi a3), (4, vi a4), (5, vi a5), (6, vi a6), (7, vi a7)] [] (Wd P Q P P c) 0 0 Z := by
  have hP := iv_P hI
  have hQ := iv_Q hI
  refine q_iload_n c_20_0 rfl (q_iload_n c_20_1 rfl (v_iadd (v := a1 + a2) c_20_2 rfl (q_iload_n c_20_3 rfl (v_iadd (v := a1 + a2 + a3) c_20_4 rfl (q_iload c_20_5 rfl (v_iadd (v := a1 + a2 + a3 + a4) c_20_7 rfl (q_istore c_20_8 (nb_ rfl) ?_)))))))
  refine q_aload_n c_20_10 rfl ?_
  have h_20 := ir_p7_4 hI hA
  refine v_gi (z := 4) (v := c (A + 7) 4) c_20_11 kf_0_24 (ck_p7 hA) (a68 hA rfl) rfl rfl rfl ?_
  by_cases h_21 : c (A + 7) 4 ≠ 0
  · refine v_if_ne_t (t := 39) c_20_14 rfl ⟨h_21, ⟨(Int.le_trans (by decide) h_20.1), (Int.le_trans h_20.2 (by decide))⟩, by decide, by decide⟩ (q_aload_n c_20_39 rfl (v_gr (t := (A + 11)) c_20_40 kf_0_21 (ck_p7 hA) (a68 hA rfl) rfl (q_iconst c_20_43 (q_iload_n c_20_44 rfl (v_is c_20_45 (ck_p11 hA) (a68 hA rfl) (by decide) (by decide) (q_aload_n c_20_46 rfl (v_gr (t := (A + 11)) c_20_47 kf_0_21 (ck_p7 hA) (a68 hA rfl) rfl ?_)))))))
    refine q_iconst c_20_50 (q_iload_n c_20_51 rfl (v_is c_20_52 (ck_p11 hA) (a68 hA rfl) (by decide) (by decide) (q_aload_n c_20_53 rfl (v_gr (t := (A + 11)) c_20_54 kf_0_21 (ck_p7 hA) (a68 hA rfl) rfl (q_iconst c_20_57 (q_iload_n c_20_58 rfl (v_is c_20_59 (ck_p11 hA) (a68 hA rfl) (by decide) (by decide) ?_)))))))
    refine q_aload_n c_20_60 rfl (v_gr (t := (A + 11)) c_20_61 kf_0_21 (ck_p7 hA) (a68 hA rfl) rfl (q_iconst c_20_64 (q_iload c_20_65 rfl (v_is c_20_67 (ck_p11 hA) (a68 hA rfl) (by decide) (by decide) (q_aload_n c_20_68 rfl (v_gr (t := (A + 11)) c_20_69 kf_0_21 (ck_p7 hA) (a68 hA rfl) rfl (q_iconst c_20_72 ?_)))))))
    refine q_iload c_20_73 rfl (v_is c_20_75 (ck_p11 hA) (a68 hA rfl) (by decide) (by decide) (q_aload_n c_20_76 rfl (v_gr (t := (A + 11)) c_20_77 kf_0_21 (ck_p7 hA) (a68 hA rfl) rfl (q_iconst c_20_80 (q_iload c_20_81 rfl (v_is c_20_83 (ck_p11 hA) (a68 hA rfl) (by decide) (by decide) (q_aload_n c_20_84 rfl ?_)))))))
    refine v_gr (t := (A + 11)) c_20_85 kf_0_21 (ck_p7 hA) (a68 hA rfl) rfl (v_bip c_20_88 (by decide) (q_iload c_20_90 rfl (v_is c_20_92 (ck_p11 hA) (a68 hA rfl) (by decide) (by decide) (q_aload_n c_20_93 rfl (v_gr (t := (A + 11)) c_20_94 kf_0_21 (ck_p7 hA) (a68 hA rfl) rfl (v_bip c_20_97 (by decide) (q_iload c_20_99 rfl ?_)))))))
    refine v_is c_20_101 (ck_p11 hA) (a68 hA rfl) (by decide) (by decide) (q_iconst c_20_102 (q_istore c_20_103 (nb_ rfl) (q_iconst c_20_105 (q_istore c_20_106 (nb_ rfl) ?_))))
    have hI_22 := iw_p11 (j := 0) (v := a1) hI hA ⟨(Int.le_trans (by decide) ha1.1), (Int.le_trans ha1.2 (by decide))⟩
    have hI_23 := iw_p11 (j := 1) (v := a2) hI_22 hA ⟨(Int.le_trans (by decide) ha2.1), (Int.le_trans ha2.2 (by decide))⟩
    have hI_24 := iw_p11 (j := 2) (v := a3) hI_23 hA ⟨(Int.le_trans (by decide) ha3.1), (Int.le_trans ha3.2 (by decide))⟩
    have hI_25 := iw_p11 (j := 3) (v := a4) hI_24 hA ⟨(Int.le_trans (by decide) ha4.1), (Int.le_trans ha4.2 (by decide))⟩
    have hI_26 := iw_p11 (j := 4) (v := a1 + a2 + a3 + a4) hI_25 hA ⟨by first | exact q_8c4697e7c ha1 ha2 ha3 ha4 | omega, by first | exact q_46d991406 ha1 ha2 ha3 ha4 | omega⟩
    have hI_27 := iw_p11 (j := 5) (v := a5) hI_26 hA ⟨ha5.1, ha5.2⟩
    have hI_28 := iw_p11 (j := 6) (v := a6) hI_27 hA ⟨ha6.1, ha6.2⟩
    have hI_29 := iw_p11 (j := 7) (v := a7) hI_28 hA ⟨ha7.1, ha7.2⟩
    refine Wp_ls [(0, .ref (A + 7)), (1, vi a1), (2, vi a2), (3, vi a3), (4, vi a4), (5, vi a5), (6, vi a6), (7, vi a7), (8, vi (a1 + a2 + a3 + a4)), (9, vi 0), (10, vi 0)] (lsub_cons rfl (lsub_cons rfl (lsub_cons rfl (lsub_cons rfl (lsub_cons rfl (lsub_cons rfl (lsub_cons rfl (lsub_cons rfl (lsub_cons rfl (lsub_cons rfl (lsub_cons rfl lsub_nil))))))))))) ?_
    exact (s_20_l (sc := sc) (d := d) hI hA ha1 ha2 ha3 ha4 ha5 ha6 ha7 K 304) (up (up (up (up (up (up (up (up c (A + 11) 0 a1) (A + 11) 1 a2) (A + 11) 2 a3) (A + 11) 3 a4) (A + 11) 4 (a1 + a2 + a3 + a4)) (A + 11) 5 a5) (A + 11) 6 a6) (A + 11) 7 a7) (a1 + a2 + a3 + a4) 0 0 hI_29 (fun a j hm => (up_b (Decidable.or_iff_not_imp_left.mpr (fun h1 h2 => hm (Or.inr (Decidable.not_not.mp h1))))).trans ((up_b (Decidable.or_iff_not_imp_left.mpr (fun h1 h2 => hm (Or.inr (Decidable.not_not.mp h1))))).trans ((up_b (Decidable.or_iff_not_imp_left.mpr (fun h1 h2 => hm (Or.inr (Decidable.not_not.mp h1))))).trans ((up_b (Decidable.or_iff_not_imp_left.mpr (fun h1 h2 => hm (Or.inr (Decidable.not_not.mp h1))))).trans ((up_b (Decidable.or_iff_not_imp_left.mpr (fun h1 h2 => hm (Or.inr (Decidable.not_not.mp h1))))).trans ((up_b (Decidable.or_iff_not_imp_left.mpr (fun h1 h2 => hm (Or.inr (Decidable.not_not.mp h1))))).trans ((up_b (Decidable.or_iff_not_imp_left.mpr (fun h1 h2 => hm (Or.inr (Decidable.not_not.mp h1))))).trans (up_b (Decidable.or_iff_not_imp_left.mpr (fun h1 h2 => hm (Or.inr (Decidable.not_not.mp h1)))))))))))) ⟨by first | exact q_3a12ae26c ha1 ha2 ha3 ha4 | omega, by first | exact q_1bb4088f7 ha1 ha2 ha3 ha4 | omega⟩ ⟨by decide, by decide⟩ ⟨by decide, by decide⟩ (by first | decide | omega) (by omega)
  · refine v_if_ne_f (t := 39) c_20_14 rfl (Decidable.not_not.mp h_21) (q_iload c_20_17 rfl (v_if_lt_f (t := 37) c_20_19 rfl ⟨by decide, by first | exact q_3a12ae26c ha1 ha2 ha3 ha4 | omega, by first | exact q_46d991406 ha1 ha2 ha3 ha4 | omega⟩ (q_iload_n c_20_22 rfl (v_bip c_20_23 (by decide) (v_imul (v := 90 * a1) c_20_25 (by first | exact q_cd0eab798 | omega) (q_iload c_20_26 rfl (q_iconst c_20_28 ?_)))))))
    refine v_iadd (v := a1 + a2 + a3 + a4 + 1) c_20_29 rfl (v_idivx c_20_30 ⟨by omega, by omega, by omega⟩ (fun y_30 hy_30 => (q_call c_20_31 rfl rfl rfl (q_iload_n c_18_0 rfl ?_))))
    by_cases h_31 : y_30 ≥ 0
    · refine v_if_ge_t (t := 8) c_18_1 rfl ⟨by decide, h_31, hy_30.2⟩ (q_iload_n c_18_8 rfl (v_bip c_18_9 (by decide) ?_))
      by_cases h_32 : y_30 ≤ 99
      · refine v_ic_le_t (t := 19) c_18_11 rfl ⟨hy_30.1, h_32, by decide⟩ (q_iload_n c_18_19 rfl (q_iret c_18_20 rfl (bk_inl (q_goto (t := 38) c_20_34 rfl (q_iret c_20_38 rfl ?_)))))
        exact K c y_30 hI (fun a j hm => rfl) ⟨by first | exact q_059235c2c h_31 | omega, by first | exact q_a6cbc6a20 h_32 | omega⟩
      · refine v_ic_le_f (t := 19) c_18_11 rfl ⟨by decide, (Int.not_le.mp h_32), hy_30.2⟩ (v_bip c_18_14 (by decide) (q_goto (t := 20) c_18_16 rfl (q_iret c_18_20 rfl (bk_inl (q_goto (t := 38) c_20_34 rfl (q_iret c_20_38 rfl ?_))))))
        exact K c 99 hI (fun a j hm => rfl) ⟨by decide, by decide⟩
    · refine v_if_ge_f (t := 8) c_18_1 rfl ⟨hy_30.1, (Int.not_le.mp h_31), by decide⟩ (q_iconst c_18_4 (q_goto (t := 20) c_18_5 rfl (q_iret c_18_20 rfl (bk_inl (q_goto (t := 38) c_20_34 rfl (q_iret c_20_38 rfl ?_))))))
      exact K c 0 hI (fun a j hm => rfl) ⟨by decide, by decide⟩

set_option maxRecDepth 100000 in
set_option maxHeartbeats 4000000 in
theorem s_22 {sc : List Int32} {e : Int} {d u P Q : Nat} {c : ME} {Z : AR → Prop} (hI : Iv u e P Q c)  (K : ∀ (c2 : ME), Iv u e P Q c2 → (∀ (a : Nat) (j : Int), ¬ ((a = 3 ∧ j = 3) ∨ (a = 3 ∧ j = 4)) → c2 a j = c a j) → ((c2 3 3 = 0 ∧ c2 3 4 = 0)) → Z (.inl (none), Wd P Q P P c2, 0, 0)) : Wp sc (d + 7) 22 0 [(0, .ref 3)] [] (Wd P Q P P c) 0 0 Z := by
  have hP := iv_P hI
  have hQ := iv_Q hI
  refine q_aload_n c_22_0 rfl (q_iconst c_22_1 (v_pi (z := 3) c_22_2 kf_1_21 rfl (nb_ rfl) rfl rfl rfl (by decide) (q_aload_n c_22_5 rfl (q_iconst c_22_6 (v_pi (z := 4) c_22_7 kf_1_25 rfl (nb_ rfl) rfl rfl rfl (by decide) (q_vret rfl rfl ?_))))))
  have hI_1 := iw_3_3 (v := 0) hI ⟨by decide, by decide⟩
  have hI_2 := iw_3_4 (v := 0) hI_1 ⟨by decide, by decide⟩
  have h_3 : (up (up c 3 3 0) 3 4 0) 3 3 = 0 := ((up_n (by decide)).trans (up_e rfl))
  have h_4 : (up (up c 3 3 0) 3 4 0) 3 4 = 0 := (up_e rfl)
  exact K (up (up c 3 3 0) 3 4 0) hI_2 (fun a j hm => (up_b (Decidable.or_iff_not_imp_left.mpr (fun h1 h2 => hm (Or.inr ⟨Decidable.not_not.mp h1, h2⟩)))).trans (up_b (Decidable.or_iff_not_imp_left.mpr (fun h1 h2 => hm (Or.inl ⟨Decidable.not_not.mp h1, h2⟩))))) ⟨by first | assumption | omega, by first | assumption | omega⟩

set_option maxRecDepth 100000 in
set_option maxHeartbeats 4000000 in
theorem s_24 {sc : List Int32} {d P Q : Nat} {c : ME} {Z : AR → Prop} (hI : Iv 0 (-1) P Q c)  (K : ∀ (c2 : ME), Iv 0 (-1) P Q c2 → (∀ (a : Nat) (j : Int), ¬ ((a = 3 ∧ j = 3) ∨ a = 4) → c2 a j = c a j) → ((c 3 3 ≤ 15 ∧ c2 3 3 = c 3 3 + 1) ∨ (c 3 3 ≥ 16 ∧ c2 3 3 = c 3 3)) → Z (.inl (none), Wd P Q P P c2, 0, 0)) : Wp sc (d + 8) 24 0 [(0, .ref 3), (1, .ref 37)] [] (Wd P Q P P c) 0 0 Z := by
  have hP := iv_P hI
  have hQ := iv_Q hI
  refine q_aload_n c_24_0 rfl (v_cv c_24_1 km_1_28 rfl rfl (nb_ rfl) ⟨⟨rfl, rfl⟩, nb_ rfl, rfl⟩ (nb_ rfl) (nb_ rfl) (q_aload_n c_23_0 rfl ?_))
  have h_1 := ir_3_3 hI
  refine v_gi (z := 3) (v := c 3 3) c_23_1 kf_1_21 rfl (nb_ rfl) rfl rfl rfl (v_bip c_23_4 (by decide) ?_)
  by_cases h_2 : c 3 3 < 16
  · refine v_ic_lt_t (t := 13) c_23_6 rfl ⟨(Int.le_trans (by decide) h_1.1), h_2, by decide⟩ (q_iconst c_23_13 (v_zret c_23_14 rfl (by decide) (bk_inl (v_if_ne_f (t := 38) c_24_4 rfl (by decide) (q_aload_n c_24_7 rfl (v_gr (t := 38) c_24_8 kf_1_32 rfl (nb_ rfl) rfl (q_iconst c_24_11 ?_)))))))
    refine q_aload_n c_24_12 rfl (v_gr (t := 4) c_24_13 kf_1_11 rfl (nb_ rfl) rfl (q_aload_n c_24_16 rfl (v_gi (z := 3) (v := c 3 3) c_24_17 kf_1_21 rfl (nb_ rfl) rfl rfl rfl (v_bip c_24_20 (by decide) (v_imul (v := 34 * c 3 3) c_24_22 (by first | exact q_2366cb0ca | omega) (v_bip c_24_23 (by decide) (v_cpy c_24_25 rfl rfl (by decide) rfl (by decide) rfl rfl (by omega) (nb_ rfl) (by omega) ?_)))))))
    refine q_aload_n c_24_28 rfl (q_dup c_24_29 rfl (v_gi (z := 3) (v := c 3 3) c_24_30 kf_1_21 rfl (nb_ rfl) rfl rfl (upc_c (by omega)) (q_iconst c_24_33 (v_iadd (v := c 3 3 + 1) c_24_34 rfl (v_pi (z := 3) c_24_35 kf_1_21 rfl (nb_ rfl) rfl rfl rfl (by decide) (q_vret rfl rfl ?_))))))
    have hI_3 := cp_38_4 (w := 34 * c 3 3) (i := c 3 3) hI (by omega) (by omega)
    have hI_4 := iw_3_3 (v := c 3 3 + 1) hI_3 ⟨by first | exact rgp_l h_1.1 (by decide) | omega, by first | exact q_b9b7f355a h_2 | omega⟩
    have h_5 : (up (upc c 38 0 4 (34 * c 3 3) 34) 3 3 (c 3 3 + 1)) 3 3 = c 3 3 + 1 := (up_e rfl)
    exact K (up (upc c 38 0 4 (34 * c 3 3) 34) 3 3 (c 3 3 + 1)) hI_4 (fun a j hm => (up_b (Decidable.or_iff_not_imp_left.mpr (fun h1 h2 => hm (Or.inl ⟨Decidable.not_not.mp h1, h2⟩)))).trans (upc_c (fun h => hm (Or.inr h)))) (Or.inl ⟨by first | exact q_aa6ed1614 h_2 | omega, by first | assumption | omega⟩)
  · refine v_ic_lt_f (t := 13) c_23_6 rfl ⟨by decide, (Int.not_lt.mp h_2), (Int.le_trans h_1.2 (by decide))⟩ (q_iconst c_23_9 (q_goto (t := 14) c_23_10 rfl (v_zret c_23_14 rfl (by decide) (bk_inl (v_if_ne_t (t := 38) c_24_4 rfl (by decide) (q_vret rfl rfl ?_))))))
    exact K c hI (fun a j hm => rfl) (Or.inr ⟨by first | exact q_d306fa533 h_2 | omega, by first | assumption | omega⟩)

set_option maxRecDepth 100000 in
set_option maxHeartbeats 4000000 in
theorem s_25 {sc : List Int32} {d P Q : Nat} {c : ME} {Z : AR → Prop} (hI : Iv 0 (-1) P Q c)  (K : ∀ (c2 : ME), Iv 0 (-1) P Q c2 → (∀ (a : Nat) (j : Int), ¬ ((a = 3 ∧ j = 3) ∨ a = 38) → c2 a j = c a j) → ((c 3 3 > 0 ∧ c2 3 3 = c 3 3 - 1) ∨ (c 3 3 ≤ 0 ∧ c2 3 3 = c 3 3)) → Z (.inl (none), Wd P Q P P c2, 0, 0)) : Wp sc (d + 7) 25 0 [(0, .ref 3), (1, .ref 37)] [] (Wd P Q P P c) 0 0 Z := by
  have hP := iv_P hI
  have hQ := iv_Q hI
  refine q_aload_n c_25_0 rfl ?_
  have h_1 := ir_3_3 hI
  refine v_gi (z := 3) (v := c 3 3) c_25_1 kf_1_21 rfl (nb_ rfl) rfl rfl rfl ?_
  by_cases h_2 : c 3 3 ≤ 0
  · refine v_if_le_t (t := 38) c_25_4 rfl ⟨(Int.le_trans (by decide) h_1.1), h_2, by decide⟩ (q_vret rfl rfl ?_)
    exact K c hI (fun a j hm => rfl) (Or.inr ⟨by first | exact q_f0d4f2762 h_2 | omega, by first | assumption | omega⟩)
  · refine v_if_le_f (t := 38) c_25_4 rfl ⟨by decide, (Int.not_le.mp h_2), (Int.le_trans h_1.2 (by decide))⟩ (q_aload_n c_25_7 rfl (q_dup c_25_8 rfl (v_gi (z := 3) (v := c 3 3) c_25_9 kf_1_21 rfl (nb_ rfl) rfl rfl rfl (q_iconst c_25_12 (v_isub (v := c 3 3 - 1) c_25_13 rfl (v_pi (z := 3) c_25_14 kf_1_21 rfl (nb_ rfl) rfl rfl rfl (by decide) (q_aload_n c_25_17 rfl ?_)))))))
    refine v_gr (t := 4) c_25_18 kf_1_11 rfl (nb_ rfl) rfl (q_aload_n c_25_21 rfl (v_gi (z := 3) (v := c 3 3 - 1) c_25_22 kf_1_21 rfl (nb_ rfl) rfl rfl (up_e rfl) (v_bip c_25_25 (by decide) (v_imul (v := 34 * c 3 3 - 34) c_25_27 (by first | exact q_6ca2e01bb | omega) (q_aload_n c_25_28 rfl (v_gr (t := 38) c_25_29 kf_1_32 rfl (nb_ rfl) rfl (q_iconst c_25_32 ?_)))))))
    refine v_bip c_25_33 (by decide) (v_cpy c_25_35 rfl rfl (by decide) rfl (by decide) rfl rfl (by omega) (nb_ rfl) (by omega) (q_vret rfl rfl ?_))
    have hI_3 := iw_3_3 (v := c 3 3 - 1) hI ⟨by first | exact q_3ca0fc078 h_2 | omega, by first | exact rgm_h h_1.2 (by decide) | omega⟩
    have hI_4 := cp_4_38 (w := 34 * c 3 3 - 34) (i := c 3 3 - 1) hI_3 (by omega) (by omega)
    have h_5 : (upc (up c 3 3 (c 3 3 - 1)) 4 (34 * c 3 3 - 34) 38 0 34) 3 3 = c 3 3 - 1 := ((upc_c (by omega)).trans (up_e rfl))
    exact K (upc (up c 3 3 (c 3 3 - 1)) 4 (34 * c 3 3 - 34) 38 0 34) hI_4 (fun a j hm => (upc_c (fun h => hm (Or.inr h))).trans (up_b (Decidable.or_iff_not_imp_left.mpr (fun h1 h2 => hm (Or.inl ⟨Decidable.not_not.mp h1, h2⟩))))) (Or.inl ⟨by first | exact q_ca88f5637 h_2 | omega, by first | assumption | omega⟩)

set_option maxRecDepth 100000 in
set_option maxHeartbeats 4000000 in
theorem s_26 {sc : List Int32} {d P Q : Nat} {c : ME} {Z : AR → Prop} (hI : Iv 0 (-1) P Q c)  (K : ∀ (c2 : ME), Iv 0 (-1) P Q c2 → (∀ (a : Nat) (j : Int), ¬ ((a = 3 ∧ j = 4) ∨ a = 5 ∨ a = 6) → c2 a j = c a j) → ((c 3 4 ≤ 2 ∧ c2 3 4 = c 3 4 + 1) ∨ (c 3 4 ≥ 3 ∧ c2 3 4 = c 3 4)) → Z (.inl (none), Wd P Q P P c2, 0, 0)) : Wp sc (d + 7) 26 0 [(0, .ref 3), (1, .ref 37)] [] (Wd P Q P P c) 0 0 Z := by
  have hP := iv_P hI
  have hQ := iv_Q hI
  refine q_aload_n c_26_0 rfl ?_
  have h_1 := ir_3_4 hI
  refine v_gi (z := 4) (v := c 3 4) c_26_1 kf_1_25 rfl (nb_ rfl) rfl rfl rfl (q_iconst c_26_4 ?_)
  by_cases h_2 : c 3 4 ≥ 3
  · refine v_ic_ge_t (t := 78) c_26_5 rfl ⟨by decide, h_2, (Int.le_trans h_1.2 (by decide))⟩ (q_vret rfl rfl ?_)
    exact K c hI (fun a j hm => rfl) (Or.inr ⟨by first | exact q_67bc6dc49 h_2 | omega, by first | assumption | omega⟩)
  · refine v_ic_ge_f (t := 78) c_26_5 rfl ⟨(Int.le_trans (by decide) h_1.1), (Int.not_le.mp h_2), by decide⟩ (q_aload_n c_26_8 rfl (v_gi (z := 4) (v := c 3 4) c_26_9 kf_1_25 rfl (nb_ rfl) rfl rfl rfl (v_sip c_26_12 (by decide) (v_imul (v := 578 * c 3 4) c_26_15 (by first | exact q_5324f88d9 | omega) (q_istore_n c_26_16 (nb_ rfl) (q_aload_n c_26_17 rfl (v_gr (t := 38) c_26_18 kf_1_32 rfl (nb_ rfl) rfl ?_)))))))
    refine q_iconst c_26_21 (q_aload_n c_26_22 rfl (v_gr (t := 5) c_26_23 kf_1_15 rfl (nb_ rfl) rfl (q_iload_n c_26_26 rfl (v_bip c_26_27 (by decide) (v_cpy c_26_29 rfl rfl (by decide) rfl (by decide) rfl rfl (by omega) (nb_ rfl) (by omega) (q_aload_n c_26_32 rfl (v_gr (t := 4) c_26_33 kf_1_11 rfl (nb_ rfl) rfl ?_)))))))
    refine q_iconst c_26_36 (q_aload_n c_26_37 rfl (v_gr (t := 5) c_26_38 kf_1_15 rfl (nb_ rfl) rfl (q_iload_n c_26_41 rfl (v_bip c_26_42 (by decide) (v_iadd (v := 578 * c 3 4 + 34) c_26_44 rfl (q_aload_n c_26_45 rfl ?_))))))
    have h_3 := ir_3_3 hI
    refine v_gi (z := 3) (v := c 3 3) c_26_46 kf_1_21 rfl (nb_ rfl) rfl rfl (upc_c (by omega)) (v_bip c_26_49 (by decide) (v_imul (v := 34 * c 3 3) c_26_51 (by first | exact q_2366cb0ca | omega) (v_cpy c_26_52 rfl rfl (by decide) rfl (by decide) rfl rfl (by omega) (nb_ rfl) (by omega) (q_aload_n c_26_55 rfl (v_gr (t := 6) c_26_56 kf_1_18 rfl (nb_ rfl) rfl (q_aload_n c_26_59 rfl (v_gi (z := 4) (v := c 3 4) c_26_60 kf_1_25 rfl (nb_ rfl) rfl rfl ((upc_c (by omega)).trans (upc_c (by omega))) ?_)))))))
    refine q_aload_n c_26_63 rfl (v_gi (z := 3) (v := c 3 3) c_26_64 kf_1_21 rfl (nb_ rfl) rfl rfl ((upc_c (by omega)).trans (upc_c (by omega))) (v_is c_26_67 rfl (by decide) (by decide) ⟨h_1.1, by first | exact q_c644f7bb7 h_2 | omega⟩ (q_aload_n c_26_68 rfl (q_dup c_26_69 rfl (v_gi (z := 4) (v := c 3 4) c_26_70 kf_1_25 rfl (nb_ rfl) rfl rfl ((up_c (nn rfl)).trans ((upc_c (by omega)).trans (upc_c (by omega)))) (q_iconst c_26_73 (v_iadd (v := c 3 4 + 1) c_26_74 rfl ?_)))))))
    refine v_pi (z := 4) c_26_75 kf_1_25 rfl (nb_ rfl) rfl rfl rfl (by decide) (q_vret rfl rfl ?_)
    have hI_4 := cp_38_5 (w := 578 * c 3 4) (i := c 3 4) hI (by omega) (by omega)
    have hI_5 := cp_4_5 (w := 578 * c 3 4 + 34) (i := c 3 4) (n := 34 * c 3 3) (k := c 3 3) hI_4 (by omega) (by omega) (by omega) (by omega)
    have hI_6 := iw_6 (j := c 3 4) (v := c 3 3) hI_5 ⟨h_3.1, h_3.2⟩
    have hI_7 := iw_3_4 (v := c 3 4 + 1) hI_6 ⟨by first | exact rgp_l h_1.1 (by decide) | omega, by first | exact q_d380ec9e8 h_2 | omega⟩
    have h_8 : (up (up (upc (upc c 38 0 5 (578 * c 3 4) 34) 4 0 5 (578 * c 3 4 + 34) (34 * c 3 3)) 6 (c 3 4) (c 3 3)) 3 4 (c 3 4 + 1)) 3 4 = c 3 4 + 1 := (up_e rfl)
    exact K (up (up (upc (upc c 38 0 5 (578 * c 3 4) 34) 4 0 5 (578 * c 3 4 + 34) (34 * c 3 3)) 6 (c 3 4) (c 3 3)) 3 4 (c 3 4 + 1)) hI_7 (fun a j hm => (up_b (Decidable.or_iff_not_imp_left.mpr (fun h1 h2 => hm (Or.inl ⟨Decidable.not_not.mp h1, h2⟩)))).trans ((up_b (Decidable.or_iff_not_imp_left.mpr (fun h1 h2 => hm (Or.inr (Or.inr (Decidable.not_not.mp h1)))))).trans ((upc_c (fun h => hm (Or.inr (Or.inl h)))).trans (upc_c (fun h => hm (Or.inr (Or.inl h))))))) (Or.inl ⟨by first | exact q_1aec5e53f h_2 | omega, by first | assumption | omega⟩)

set_option maxRecDepth 100000 in
set_option maxHeartbeats 4000000 in
theorem s_27 {sc : List Int32} {d P Q : Nat} {c : ME} {Z : AR → Prop} (hI : Iv 0 (-1) P Q c)  (K : ∀ (c2 : ME), Iv 0 (-1) P Q c2 → (∀ (a : Nat) (j : Int), ¬ ((a = 3 ∧ j = 3) ∨ (a = 3 ∧ j = 4) ∨ a = 38 ∨ a = 4) → c2 a j = c a j) → ((c 3 4 > 0 ∧ c2 3 4 = c 3 4 - 1) ∨ (c 3 4 ≤ 0 ∧ c2 3 4 = c 3 4)) → Z (.inl (none), Wd P Q P P c2, 0, 0)) : Wp sc (d + 7) 27 0 [(0, .ref 3), (1, .ref 37)] [] (Wd P Q P P c) 0 0 Z := by
  have hP := iv_P hI
  have hQ := iv_Q hI
  refine q_aload_n c_27_0 rfl ?_
  have h_1 := ir_3_4 hI
  refine v_gi (z := 4) (v := c 3 4) c_27_1 kf_1_25 rfl (nb_ rfl) rfl rfl rfl ?_
  by_cases h_2 : c 3 4 ≤ 0
  · refine v_if_le_t (t := 77) c_27_4 rfl ⟨(Int.le_trans (by decide) h_1.1), h_2, by decide⟩ (q_vret rfl rfl ?_)
    exact K c hI (fun a j hm => rfl) (Or.inr ⟨by first | exact q_f0d4f2762 h_2 | omega, by first | assumption | omega⟩)
  · refine v_if_le_f (t := 77) c_27_4 rfl ⟨by decide, (Int.not_le.mp h_2), (Int.le_trans h_1.2 (by decide))⟩ (q_aload_n c_27_7 rfl (q_dup c_27_8 rfl (v_gi (z := 4) (v := c 3 4) c_27_9 kf_1_25 rfl (nb_ rfl) rfl rfl rfl (q_iconst c_27_12 (v_isub (v := c 3 4 - 1) c_27_13 rfl (v_pi (z := 4) c_27_14 kf_1_25 rfl (nb_ rfl) rfl rfl rfl (by decide) (q_aload_n c_27_17 rfl ?_)))))))
    refine q_aload_n c_27_18 rfl (v_gr (t := 6) c_27_19 kf_1_18 rfl (nb_ rfl) rfl (q_aload_n c_27_22 rfl (v_gi (z := 4) (v := c 3 4 - 1) c_27_23 kf_1_25 rfl (nb_ rfl) rfl rfl (up_e rfl) ?_)))
    have h_3 := ir_6 hI (c 3 4 - 1)
    refine v_ia (v := c 6 (c 3 4 - 1)) c_27_26 rfl (by decide) (by decide) ⟨by first | exact q_3ca0fc078 h_2 | omega, by first | exact q_6660ef6d1 h_1 | omega⟩ (up_c (nn rfl)) (v_pi (z := 3) c_27_27 kf_1_21 rfl (nb_ rfl) rfl rfl rfl (by decide) (q_aload_n c_27_30 rfl (v_gi (z := 4) (v := c 3 4 - 1) c_27_31 kf_1_25 rfl (nb_ rfl) rfl rfl ((up_n (by decide)).trans (up_e rfl)) (v_sip c_27_34 (by decide) (v_imul (v := 578 * c 3 4 - 578) c_27_37 (by first | exact q_f70160e6b | omega) (q_istore_n c_27_38 (nb_ rfl) (q_aload_n c_27_39 rfl ?_)))))))
    refine v_gr (t := 5) c_27_40 kf_1_15 rfl (nb_ rfl) rfl (q_iload_n c_27_43 rfl (q_aload_n c_27_44 rfl (v_gr (t := 38) c_27_45 kf_1_32 rfl (nb_ rfl) rfl (q_iconst c_27_48 (v_bip c_27_49 (by decide) (v_cpy c_27_51 rfl rfl (by decide) rfl (by decide) rfl rfl (by omega) (nb_ rfl) (by omega) (q_aload_n c_27_54 rfl ?_)))))))
    refine v_gr (t := 5) c_27_55 kf_1_15 rfl (nb_ rfl) rfl (q_iload_n c_27_58 rfl (v_bip c_27_59 (by decide) (v_iadd (v := 578 * c 3 4 - 544) c_27_61 (by first | exact q_47542a858 | omega) (q_aload_n c_27_62 rfl (v_gr (t := 4) c_27_63 kf_1_11 rfl (nb_ rfl) rfl (q_iconst c_27_66 (q_aload_n c_27_67 rfl ?_)))))))
    refine v_gi (z := 3) (v := c 6 (c 3 4 - 1)) c_27_68 kf_1_21 rfl (nb_ rfl) rfl rfl ((upc_c (by omega)).trans (up_e rfl)) (v_bip c_27_71 (by decide) (v_imul (v := 34 * c 6 (c 3 4 - 1)) c_27_73 (by first | exact q_2366cb0ca | omega) (v_cpy c_27_74 rfl rfl (by decide) rfl (by decide) rfl rfl (by omega) (nb_ rfl) (by omega) (q_vret rfl rfl ?_))))
    have hI_4 := iw_3_4 (v := c 3 4 - 1) hI ⟨by first | exact q_3ca0fc078 h_2 | omega, by first | exact rgm_h h_1.2 (by decide) | omega⟩
    have hI_5 := iw_3_3 (v := c 6 (c 3 4 - 1)) hI_4 ⟨h_3.1, h_3.2⟩
    have hI_6 := cp_5_38 (w := 578 * c 3 4 - 578) (i := c 3 4 - 1) hI_5 (by omega) (by omega)
    have hI_7 := cp_5_4 (w := 578 * c 3 4 - 544) (i := c 3 4 - 1) (n := 34 * c 6 (c 3 4 - 1)) (k := c 6 (c 3 4 - 1)) hI_6 (by omega) (by omega) (by omega) (by omega)
    have h_8 : (upc (upc (up (up c 3 4 (c 3 4 - 1)) 3 3 (c 6 (c 3 4 - 1))) 5 (578 * c 3 4 - 578) 38 0 34) 5 (578 * c 3 4 - 544) 4 0 (34 * c 6 (c 3 4 - 1))) 3 4 = c 3 4 - 1 := ((upc_c (by omega)).trans ((upc_c (by omega)).trans ((up_n (by decide)).trans (up_e rfl))))
    exact K (upc (upc (up (up c 3 4 (c 3 4 - 1)) 3 3 (c 6 (c 3 4 - 1))) 5 (578 * c 3 4 - 578) 38 0 34) 5 (578 * c 3 4 - 544) 4 0 (34 * c 6 (c 3 4 - 1))) hI_7 (fun a j hm => (upc_c (fun h => hm (Or.inr (Or.inr (Or.inr h))))).trans ((upc_c (fun h => hm (Or.inr (Or.inr (Or.inl h))))).trans ((up_b (Decidable.or_iff_not_imp_left.mpr (fun h1 h2 => hm (Or.inl ⟨Decidable.not_not.mp h1, h2⟩)))).trans (up_b (Decidable.or_iff_not_imp_left.mpr (fun h1 h2 => hm (Or.inr (Or.inl ⟨Decidable.not_not.mp h1, h2⟩)))))))) (Or.inl ⟨by first | exact q_ca88f5637 h_2 | omega, by first | assumption | omega⟩)

set_option maxRecDepth 100000 in
set_option maxHeartbeats 4000000 in
theorem s_29 {sc : List Int32} {e : Int} {d u P Q A : Nat} {c : ME} {a1 : Int} {a2 : Int} {Z : AR → Prop} (hI : Iv u e P Q c) (hA : A = 13 ∨ A = 25) (ha1 : 0 ≤ a1 ∧ a1 ≤ 3) (ha2 : 0 ≤ a2 ∧ a2 ≤ 2) (K : ∀ (y : Int), 0 ≤ y ∧ y ≤ 10 → Z (.inl (some (vi y)), Wd P Q P P c, 0, 0)) : Wp sc (d + 7) 29 0 [(0, .ref A), (1, vi a1), (2, vi a2)] [] (Wd P Q P P c) 0 0 Z := by
  have hP := iv_P hI
  have hQ := iv_Q hI
  refine q_aload_n c_29_0 rfl (v_gr (t := (A + 2)) c_29_1 kf_2_19 (ck_p0 hA) (a68z hA) rfl (q_iload_n c_29_4 rfl (q_iconst c_29_5 (v_imul (v := 3 * a1) c_29_6 (by first | exact q_db648e259 | omega) (q_iload_n c_29_7 rfl (v_iadd (v := 3 * a1 + a2) c_29_8 rfl ?_))))))
  have h_1 := ir_p2 hI hA (3 * a1 + a2)
  refine v_ia (v := c (A + 2) (3 * a1 + a2)) c_29_9 (ck_p2 hA) (a68 hA rfl) (by decide) ⟨by first | exact q_51965173a ha1 ha2 | omega, by first | exact q_d187370ec ha1 ha2 | omega⟩ rfl (q_iret c_29_10 rfl ?_)
  exact K (c (A + 2) (3 * a1 + a2)) h_1

set_option maxRecDepth 100000 in
set_option maxHeartbeats 4000000 in
theorem s_30_l {sc : List Int32} {e : Int} {d u P Q A : Nat} {c : ME} {Z : AR → Prop} (hI : Iv u e P Q c) (hA : A = 13 ∨ A = 25) (K : ∀ (c2 : ME), Iv u e P Q c2 → (∀ (a : Nat) (j : Int), ¬ ((a = A ∧ j = 0) ∨ (a = A ∧ j = 1) ∨ (a = A ∧ j = 2) ∨ (a = A ∧ j = 3) ∨ (a = A ∧ j = 4) ∨ (a = A ∧ j = 5) ∨ a = (A + 6) ∨ (a = (A + 7) ∧ j = 4)) → c2 a j = c a j) → ((c2 A 0 = 0 ∧ c2 A 1 = 0 ∧ c2 A 2 = 0 ∧ c2 A 3 = 5 ∧ c2 A 4 = 0 ∧ c2 A 5 = 0)) → ((c2 (A + 7) 4 = 0)) → Z (.inl (none), Wd P Q P P c2, 0, 0)) : ∀ n : Nat, (∀ (c2 : ME) (v1 : Int), Iv u e P Q c2 → (∀ (a : Nat) (j : Int), ¬ ((a = A ∧ j = 0) ∨ (a = A ∧ j = 1) ∨ (a = A ∧ j = 2) ∨ (a = A ∧ j = 3) ∨ (a = A ∧ j = 4) ∨ (a = A ∧ j = 5) ∨ a = (A + 6) ∨ (a = (A + 7) ∧ j = 4)) → c2 a j = c a j) → 0 ≤ v1 ∧ v1 ≤ 4 → ((c2 A 0 = 0 ∧ c2 A 1 = 0 ∧ c2 A 2 = 0 ∧ c2 A 3 = 5 ∧ c2 A 4 = 0 ∧ c2 A 5 = 0)) → 9 - 2 * v1 < (n : Int) → Wp sc (d + 8) 30 32 [(0, .ref A), (1, vi v1)] [] (Wd P Q P P c2) 0 0 Z) := by
  intro n
  induction n with
  | zero => exact (by intro c2 v1 hI2 hF hv1 hx0 hm9; have hP := iv_P hI; have hQ := iv_Q hI; exfalso; omega)
  | succ n ih =>
    have hP := iv_P hI
    have hQ := iv_Q hI
    intro c2 v1 hI2 hF hv1 hx0 hm9
    have h_1 := ir_p0_0 hI2 hA
    have h_2 := ir_p0_1 hI2 hA
    have h_3 := ir_p0_2 hI2 hA
    have h_4 := ir_p0_3 hI2 hA
    have h_5 := ir_p0_4 hI2 hA
    have h_6 := ir_p0_5 hI2 hA
    refine q_iload_n c_30_32 rfl (q_iconst c_30_33 ?_)
    by_cases h_7 : v1 ≥ 4
    · refine v_ic_ge_t (t := 50) c_30_34 rfl ⟨by decide, h_7, (Int.le_trans hv1.2 (by decide))⟩ (q_aload_n c_30_50 rfl (v_gr (t := (A + 7)) c_30_51 kf_2_37 (ck_p0 hA) (a68z hA) rfl (v_cv c_30_54 km_2_96 rfl (ck_p7 hA) (a68 hA rfl) ⟨⟨rfl, rfl⟩, by decide, rfl⟩ (nb_ rfl) (nb_ rfl) (s_1 hI2 hA (fun c_8 hI_9 hF_10 h_11 => (bk_inl ?_))))))
      have h_12 := ir_p7_4 hI_9 hA
      refine q_vret rfl rfl ?_
      have kn_13 : Hid (c_8 A 0 = c2 A 0) := hF_10 A 0 (fun h => absurd h.1 (p0p rfl))
      have h_14 : c_8 A 0 = c2 A 0 := (hid kn_13)
      have kn_15 : Hid (c_8 A 1 = c2 A 1) := hF_10 A 1 (fun h => absurd h.1 (p0p rfl))
      have h_16 : c_8 A 1 = c2 A 1 := (hid kn_15)
      have kn_17 : Hid (c_8 A 2 = c2 A 2) := hF_10 A 2 (fun h => absurd h.1 (p0p rfl))
      have h_18 : c_8 A 2 = c2 A 2 := (hid kn_17)
      have kn_19 : Hid (c_8 A 3 = c2 A 3) := hF_10 A 3 (fun h => absurd h.1 (p0p rfl))
      have h_20 : c_8 A 3 = c2 A 3 := (hid kn_19)
      have kn_21 : Hid (c_8 A 4 = c2 A 4) := hF_10 A 4 (fun h => absurd h.1 (p0p rfl))
      have h_22 : c_8 A 4 = c2 A 4 := (hid kn_21)
      have kn_23 : Hid (c_8 A 5 = c2 A 5) := hF_10 A 5 (fun h => absurd h.1 (p0p rfl))
      have h_24 : c_8 A 5 = c2 A 5 := (hid kn_23)
      exact K c_8 hI_9 (fun a j hm => (hF_10 a j (fun h => hm (Or.inr (Or.inr (Or.inr (Or.inr (Or.inr (Or.inr (Or.inr h))))))))).trans (hF a j hm)) ⟨by omega, by omega, by omega, by omega, by omega, by omega⟩ (by first | exact q_1df19f1ee h_11 h_12 | omega)
    · refine v_ic_ge_f (t := 50) c_30_34 rfl ⟨(Int.le_trans (by decide) hv1.1), (Int.not_le.mp h_7), by decide⟩ (q_aload_n c_30_37 rfl (v_gr (t := (A + 6)) c_30_38 kf_2_31 (ck_p0 hA) (a68z hA) rfl (q_iload_n c_30_41 rfl (q_iconst c_30_42 (v_is c_30_43 (ck_p6 hA) (a68 hA rfl) (by decide) ⟨hv1.1, by first | exact q_2e808647e h_7 | omega⟩ (v_iinc (v := v1 + 1) c_30_44 rfl (nb_ rfl) rfl (q_goto (t := 32) c_30_47 rfl ?_)))))))
      have hI_25 := iw_p6 (j := v1) (v := (-1)) hI2 hA ⟨by decide, by decide⟩
      refine Wp_ls [(0, .ref A), (1, vi (v1 + 1))] (lsub_cons rfl (lsub_cons rfl lsub_nil)) ?_
      have h_26 : (up c2 (A + 6) v1 (-1)) A 0 = c2 A 0 := (up_c (p0p rfl))
      have h_27 : (up c2 (A + 6) v1 (-1)) A 1 = c2 A 1 := (up_c (p0p rfl))
      have h_28 : (up c2 (A + 6) v1 (-1)) A 2 = c2 A 2 := (up_c (p0p rfl))
      have h_29 : (up c2 (A + 6) v1 (-1)) A 3 = c2 A 3 := (up_c (p0p rfl))
      have h_30 : (up c2 (A + 6) v1 (-1)) A 4 = c2 A 4 := (up_c (p0p rfl))
      have h_31 : (up c2 (A + 6) v1 (-1)) A 5 = c2 A 5 := (up_c (p0p rfl))
      exact ih (up c2 (A + 6) v1 (-1)) (v1 + 1) hI_25 (fun a j hm => (up_b (Decidable.or_iff_not_imp_left.mpr (fun h1 h2 => hm (Or.inr (Or.inr (Or.inr (Or.inr (Or.inr (Or.inr (Or.inl (Decidable.not_not.mp h1))))))))))).trans (hF a j hm)) ⟨by first | exact rgp_l hv1.1 (by decide) | omega, by first | exact q_121241f94 h_7 | omega⟩ ⟨by omega, by omega, by omega, by omega, by omega, by omega⟩ (by omega)
set_option maxRecDepth 100000 in
set_option maxHeartbeats 4000000 in
theorem s_30 {sc : List Int32} {e : Int} {d u P Q A : Nat} {c : ME} {Z : AR → Prop} (hI : Iv u e P Q c) (hA : A = 13 ∨ A = 25) (K : ∀ (c2 : ME), Iv u e P Q c2 → (∀ (a : Nat) (j : Int), ¬ ((a = A ∧ j = 0) ∨ (a = A ∧ j = 1) ∨ (a = A ∧ j = 2) ∨ (a = A ∧ j = 3) ∨ (a = A ∧ j = 4) ∨ (a = A ∧ j = 5) ∨ a = (A + 6) ∨ (a = (A + 7) ∧ j = 4)) → c2 a j = c a j) → ((c2 A 0 = 0 ∧ c2 A 1 = 0 ∧ c2 A 2 = 0 ∧ c2 A 3 = 5 ∧ c2 A 4 = 0 ∧ c2 A 5 = 0)) → ((c2 (A + 7) 4 = 0)) → Z (.inl (none), Wd P Q P P c2, 0, 0)) : Wp sc (d + 8) 30 0 [(0, .ref A)] [] (Wd P Q P P c) 0 0 Z := by
  have hP := iv_P hI
  have hQ := iv_Q hI
  refine q_aload_n c_30_0 rfl (q_iconst c_30_1 (v_pi (z := 0) c_30_2 kf_2_81 (ck_p0 hA) (a68z hA) rfl rfl rfl (by decide) (q_aload_n c_30_5 rfl (q_iconst c_30_6 (v_pi (z := 1) c_30_7 kf_2_84 (ck_p0 hA) (a68z hA) rfl rfl rfl (by decide) (q_aload_n c_30_10 rfl (q_iconst c_30_11 ?_)))))))
  refine v_pi (z := 2) c_30_12 kf_2_87 (ck_p0 hA) (a68z hA) rfl rfl rfl (by decide) (q_aload_n c_30_15 rfl (q_iconst c_30_16 (v_pi (z := 3) c_30_17 kf_2_9 (ck_p0 hA) (a68z hA) rfl rfl rfl (by decide) (q_aload_n c_30_20 rfl (q_iconst c_30_21 (v_pi (z := 4) c_30_22 kf_2_90 (ck_p0 hA) (a68z hA) rfl rfl rfl (by decide) (q_aload_n c_30_25 rfl ?_)))))))
  refine q_iconst c_30_26 (v_pi (z := 5) c_30_27 kf_2_93 (ck_p0 hA) (a68z hA) rfl rfl rfl (by decide) (q_iconst c_30_30 (q_istore_n c_30_31 (nb_ rfl) ?_)))
  have hI_32 := iw_p0_0 (v := 0) hI hA ⟨by decide, by decide⟩
  have hI_33 := iw_p0_1 (v := 0) hI_32 hA ⟨by decide, by decide⟩
  have hI_34 := iw_p0_2 (v := 0) hI_33 hA ⟨by decide, by decide⟩
  have hI_35 := iw_p0_3 (v := 5) hI_34 hA ⟨by decide, by decide⟩
  have hI_36 := iw_p0_4 (v := 0) hI_35 hA ⟨by decide, by decide⟩ (fun j h1 h2 => by omega)
  have hI_37 := iw_p0_5 (v := 0) hI_36 hA ⟨by decide, by decide⟩
  refine Wp_ls [(0, .ref A), (1, vi 0)] (lsub_cons rfl (lsub_cons rfl lsub_nil)) ?_
  have h_38 : (up (up (up (up (up (up c A 0 0) A 1 0) A 2 0) A 3 5) A 4 0) A 5 0) A 0 = 0 := ((up_n (by decide)).trans ((up_n (by decide)).trans ((up_n (by decide)).trans ((up_n (by decide)).trans ((up_n (by decide)).trans (up_e rfl))))))
  have h_39 : (up (up (up (up (up (up c A 0 0) A 1 0) A 2 0) A 3 5) A 4 0) A 5 0) A 1 = 0 := ((up_n (by decide)).trans ((up_n (by decide)).trans ((up_n (by decide)).trans ((up_n (by decide)).trans (up_e rfl)))))
  have h_40 : (up (up (up (up (up (up c A 0 0) A 1 0) A 2 0) A 3 5) A 4 0) A 5 0) A 2 = 0 := ((up_n (by decide)).trans ((up_n (by decide)).trans ((up_n (by decide)).trans (up_e rfl))))
  have h_41 : (up (up (up (up (up (up c A 0 0) A 1 0) A 2 0) A 3 5) A 4 0) A 5 0) A 3 = 5 := ((up_n (by decide)).trans ((up_n (by decide)).trans (up_e rfl)))
  have h_42 : (up (up (up (up (up (up c A 0 0) A 1 0) A 2 0) A 3 5) A 4 0) A 5 0) A 4 = 0 := ((up_n (by decide)).trans (up_e rfl))
  have h_43 : (up (up (up (up (up (up c A 0 0) A 1 0) A 2 0) A 3 5) A 4 0) A 5 0) A 5 = 0 := (up_e rfl)
  exact (s_30_l (sc := sc) (d := d) hI hA K 12) (up (up (up (up (up (up c A 0 0) A 1 0) A 2 0) A 3 5) A 4 0) A 5 0) 0 hI_37 (fun a j hm => (up_b (Decidable.or_iff_not_imp_left.mpr (fun h1 h2 => hm (Or.inr (Or.inr (Or.inr (Or.inr (Or.inr (Or.inl ⟨Decidable.not_not.mp h1, h2⟩))))))))).trans ((up_b (Decidable.or_iff_not_imp_left.mpr (fun h1 h2 => hm (Or.inr (Or.inr (Or.inr (Or.inr (Or.inl ⟨Decidable.not_not.mp h1, h2⟩)))))))).trans ((up_b (Decidable.or_iff_not_imp_left.mpr (fun h1 h2 => hm (Or.inr (Or.inr (Or.inr (Or.inl ⟨Decidable.not_not.mp h1, h2⟩))))))).trans ((up_b (Decidable.or_iff_not_imp_left.mpr (fun h1 h2 => hm (Or.inr (Or.inr (Or.inl ⟨Decidable.not_not.mp h1, h2⟩)))))).trans ((up_b (Decidable.or_iff_not_imp_left.mpr (fun h1 h2 => hm (Or.inr (Or.inl ⟨Decidable.not_not.mp h1, h2⟩))))).trans (up_b (Decidable.or_iff_not_imp_left.mpr (fun h1 h2 => hm (Or.inl ⟨Decidable.not_not.mp h1, h2⟩))))))))) ⟨by decide, by decide⟩ ⟨by first | assumption | omega, by first | assumption | omega, by first | assumption | omega, by first | assumption | omega, by first | assumption | omega, by first | assumption | omega⟩ (by omega)
end
section
/-! ===== contracts 2 ===== -/
theorem q_5927377c3 {x0 : Int} : (x0) * 4 = 4 * x0 := by omega
theorem q_4cd384ca3 {x0 : Int} (f0 : 0 ≤ x0 ∧ x0 ≤ 6) : (-2147483648) ≤ 4 * x0 := by omega
theorem q_b942bf61d {x0 : Int}  : 4 * x0 < 4 * x0 + 4 := by omega
theorem q_58e0b19e1 {x0 : Int} (f0 : 0 ≤ x0 ∧ x0 ≤ 6) : 4 * x0 + 4 ≤ 2147483647 := by omega
theorem q_e06e21d96 {x0 x1 : Int} (f0 : x0 = 0) (f1 : 0 ≤ x0 ∧ x0 ≤ 100) (f2 : (x0 ≠ 0) ∨ (x1 ≤ 5)) : 4 * x1 < 24 := by omega
theorem q_989182599 {x0 : Int} (f0 : 0 ≤ x0 ∧ x0 ≤ 6) : 0 ≤ 4 * x0 := by omega
theorem q_37fa5c0f7 {x0 : Int} (f0 : 0 ≤ x0 ∧ x0 ≤ 6) : (-2147483648) ≤ 4 * x0 + 1 := by omega
theorem q_1e5bb51b5 {x0 : Int}  : 4 * x0 + 1 < 4 * x0 + 4 := by omega
theorem q_fb29ecb06 {x0 x1 : Int} (f0 : x0 = 0) (f1 : 0 ≤ x0 ∧ x0 ≤ 100) (f2 : (x0 ≠ 0) ∨ (x1 ≤ 5)) : 4 * x1 + 1 < 24 := by omega
theorem q_dec870c4c {x0 : Int} (f0 : (x0 ≤ 999) ∨ (x0 = 0)) : x0 ≤ 999 := by omega
theorem q_5c7b70196 {x0 : Int} (f0 : 0 ≤ x0 ∧ x0 ≤ 6) : 0 ≤ 4 * x0 + 1 := by omega
theorem q_5ecad2307 {x0 : Int} : 4 * x0 + 1 + 1 = 4 * x0 + 2 := by omega
theorem q_b7e04cbb8 {x0 : Int} (f0 : 0 ≤ x0 ∧ x0 ≤ 6) : (-2147483648) ≤ 4 * x0 + 2 := by omega
theorem q_a16cada9f {x0 : Int}  : 4 * x0 + 2 < 4 * x0 + 4 := by omega
theorem q_975b2c00c {x0 x1 : Int} (f0 : x0 = 0) (f1 : 0 ≤ x0 ∧ x0 ≤ 100) (f2 : (x0 ≠ 0) ∨ (x1 ≤ 5)) : 4 * x1 + 2 < 24 := by omega
theorem q_5a453c95b {x0 : Int} (f0 : 0 ≤ x0 ∧ x0 ≤ 6) : 0 ≤ 4 * x0 + 2 := by omega
theorem q_640c18eed {x0 : Int} : 4 * x0 + 2 + 1 = 4 * x0 + 3 := by omega
theorem q_6d422924b {x0 : Int} (f0 : 0 ≤ x0 ∧ x0 ≤ 6) : (-2147483648) ≤ 4 * x0 + 3 := by omega
theorem q_550340cc7 {x0 : Int}  : 4 * x0 + 3 < 4 * x0 + 4 := by omega
theorem q_a04272509 {x0 x1 : Int} (f0 : x0 = 0) (f1 : 0 ≤ x0 ∧ x0 ≤ 100) (f2 : (x0 ≠ 0) ∨ (x1 ≤ 5)) : 4 * x1 + 3 < 24 := by omega
theorem q_012aff489 {x0 : Int} (f0 : 0 ≤ x0 ∧ x0 ≤ 6) : 0 ≤ 4 * x0 + 3 := by omega
theorem q_1080d7e0d {x0 : Int} : 4 * x0 + 3 + 1 = 4 * x0 + 4 := by omega
theorem q_800e899ee {x0 : Int} (f0 : 0 ≤ x0 ∧ x0 ≤ 6) : (-2147483648) ≤ 4 * x0 + 4 := by omega
theorem q_aeeb529e2 {x0 : Int}  : 4 * x0 + 4 ≤ 4 * x0 + 4 := by omega
theorem qn_014d425e1 {A : Nat} {j : Int} (hA : A = 13 ∨ A = 25) : ¬ ((A = 1 ∧ j = 2) ∨ (A = 1 ∧ j = 4) ∨ (A = 1 ∧ j = 5)) := (fun q => q.elim (fun h => absurd h.1 (np0 hA rfl)) (fun q => q.elim (fun h => absurd h.1 (np0 hA rfl)) (fun h => absurd h.1 (np0 hA rfl))))
theorem q_76c061441 {x0 x1 : Int} (f0 : x0 = 0) (f1 : 0 ≤ x0 ∧ x0 ≤ 100) (f2 : (x0 ≠ 0) ∨ (x1 ≤ 5)) : x1 + 1 ≤ 6 := by omega
theorem qv_23f7cbea6 {A : Nat} {a : Nat} {j : Int} (hm : ¬ ((a = 1 ∧ j = 2) ∨ (a = 1 ∧ j = 4) ∨ (a = 1 ∧ j = 5) ∨ (a = A ∧ j = 0) ∨ (a = A ∧ j = 1) ∨ (a = A ∧ j = 2) ∨ (a = A ∧ j = 3) ∨ a = (A + 1) ∨ a = (A + 2) ∨ a = (A + 3))) : ¬ ((a = 1 ∧ j = 2) ∨ (a = 1 ∧ j = 4) ∨ (a = 1 ∧ j = 5)) := (fun q => q.elim (fun h => hm (Or.inl h)) (fun q => q.elim (fun h => hm (Or.inr (Or.inl h))) (fun h => hm (Or.inr (Or.inr (Or.inl h))))))
theorem q_7c70686be {x0 : Int} : (x0) * 3 = 3 * x0 := by omega
theorem q_479f6587b {x0 : Int} (f0 : 0 ≤ x0 ∧ x0 ≤ 4) : (-2147483648) ≤ 3 * x0 := by omega
theorem q_e86648d44 {x0 : Int}  : 3 * x0 < 3 * x0 + 3 := by omega
theorem q_7b3d3c593 {x0 : Int} (f0 : 0 ≤ x0 ∧ x0 ≤ 4) : 3 * x0 + 3 ≤ 2147483647 := by omega
theorem q_9dec92735 {x0 x1 : Int} (f0 : x0 = 1) (f1 : (x0 ≠ 1) ∨ (x1 ≤ 3)) : 3 * x1 < 12 := by omega
theorem q_d745e1084 {x0 : Int} (f0 : 0 ≤ x0 ∧ x0 ≤ 4) : 0 ≤ 3 * x0 := by omega
theorem q_c1fe2d201 {x0 : Int} (f0 : 0 ≤ x0 ∧ x0 ≤ 4) : (-2147483648) ≤ 3 * x0 + 1 := by omega
theorem q_b897c897a {x0 : Int}  : 3 * x0 + 1 < 3 * x0 + 3 := by omega
theorem q_222845f48 {x0 x1 : Int} (f0 : x0 = 1) (f1 : (x0 ≠ 1) ∨ (x1 ≤ 3)) : 3 * x1 + 1 < 12 := by omega
theorem q_c41f06fcf {x0 : Int} (f0 : (x0 ≤ 10) ∨ (x0 = 0)) : x0 ≤ 10 := by omega
theorem q_27045273b {x0 : Int} (f0 : 0 ≤ x0 ∧ x0 ≤ 4) : 0 ≤ 3 * x0 + 1 := by omega
theorem q_5c3211fb0 {x0 : Int} : 3 * x0 + 1 + 1 = 3 * x0 + 2 := by omega
theorem q_87a9919dd {x0 : Int} (f0 : 0 ≤ x0 ∧ x0 ≤ 4) : (-2147483648) ≤ 3 * x0 + 2 := by omega
theorem q_92e2c60a6 {x0 : Int}  : 3 * x0 + 2 < 3 * x0 + 3 := by omega
theorem q_82d1a1cd7 {x0 x1 : Int} (f0 : x0 = 1) (f1 : (x0 ≠ 1) ∨ (x1 ≤ 3)) : 3 * x1 + 2 < 12 := by omega
theorem q_796717b5a {x0 : Int} (f0 : 0 ≤ x0 ∧ x0 ≤ 4) : 0 ≤ 3 * x0 + 2 := by omega
theorem q_acb4479e7 {x0 : Int} : 3 * x0 + 2 + 1 = 3 * x0 + 3 := by omega
theorem q_10ca3dd2a {x0 : Int} (f0 : 0 ≤ x0 ∧ x0 ≤ 4) : (-2147483648) ≤ 3 * x0 + 3 := by omega
theorem q_090c47ebb {x0 : Int}  : 3 * x0 + 3 ≤ 3 * x0 + 3 := by omega
theorem q_2e94b5862 {x0 x1 : Int} (f0 : x0 = 1) (f1 : (x0 ≠ 1) ∨ (x1 ≤ 3)) : x1 + 1 ≤ 4 := by omega
theorem q_3e85f52a4 {x0 : Int}  : x0 < x0 + 1 := by omega
theorem q_94361f98f {x0 x1 : Int} (f0 : x0 = 2) (f1 : (x0 ≠ 2) ∨ (x1 ≤ 3)) : x1 < 4 := by omega
theorem q_19afebcac {x0 : Int} (f0 : (x0 ≤ 2) ∨ (x0 = 0)) : x0 ≤ 2 := by omega
theorem q_e2d2fa1b6 {x0 x1 : Int} (f0 : x0 = 2) (f1 : (x0 ≠ 2) ∨ (x1 ≤ 3)) : x1 + 1 ≤ 4 := by omega
theorem q_9510e3478 {x0 : Int} (f0 : (x0 ≤ 50) ∨ (x0 = 0)) : x0 ≤ 50 := by omega
theorem qv_69188b0c2 {A : Nat} {a : Nat} {j : Int} (hm : ¬ ((a = 1 ∧ j = 2) ∨ (a = 1 ∧ j = 4) ∨ (a = 1 ∧ j = 5) ∨ (a = A ∧ j = 0) ∨ (a = A ∧ j = 1) ∨ (a = A ∧ j = 2) ∨ (a = A ∧ j = 3) ∨ a = (A + 1) ∨ a = (A + 2) ∨ a = (A + 3) ∨ (a = A ∧ j = 4) ∨ (a = A ∧ j = 5) ∨ a = (A + 6) ∨ (a = (A + 7) ∧ j = 4))) : ¬ ((a = 1 ∧ j = 2) ∨ (a = 1 ∧ j = 4) ∨ (a = 1 ∧ j = 5)) := (fun q => q.elim (fun h => hm (Or.inl h)) (fun q => q.elim (fun h => hm (Or.inr (Or.inl h))) (fun h => hm (Or.inr (Or.inr (Or.inl h))))))
theorem q_d44226a64 {x0 : Int} (f0 : ¬ (x0 > 60)) : x0 + 1 ≤ 61 := by omega
theorem qv_b1bc9762f {A : Nat} {a : Nat} {j : Int} (hm : ¬ ((a = 1 ∧ j = 2) ∨ (a = 1 ∧ j = 4) ∨ (a = 1 ∧ j = 5) ∨ (a = A ∧ j = 0) ∨ (a = A ∧ j = 1) ∨ (a = A ∧ j = 2) ∨ (a = A ∧ j = 3) ∨ a = (A + 1) ∨ a = (A + 2) ∨ a = (A + 3) ∨ (a = A ∧ j = 4) ∨ (a = A ∧ j = 5) ∨ a = (A + 6) ∨ (a = (A + 7) ∧ j = 4))) : ¬ ((a = 1 ∧ j = 4) ∨ (a = 1 ∧ j = 5)) := (fun q => q.elim (fun h => hm (Or.inr (Or.inl h))) (fun h => hm (Or.inr (Or.inr (Or.inl h)))))
theorem q_730ab5169 {x0 : Int} (f0 : 0 ≤ x0 ∧ x0 ≤ 6) : (-2147483648) ≤ x0 := by omega
theorem q_b289b7db2 {x0 : Int} (f0 : 0 ≤ x0 ∧ x0 ≤ 6) : x0 ≤ 2147483647 := by omega
theorem q_7e599b6d7 {x0 : Int} (f0 : x0 = 0) : 0 ≤ x0 := by omega
theorem q_750ebd296 {x0 : Int} (f0 : 0 ≤ x0 ∧ x0 ≤ 6) (f1 : x0 ≠ 6) : x0 ≤ 5 := by omega
theorem q_7e9ffde01 {x0 : Int} (f0 : x0 = 0) : ¬ x0 = 1 := by omega
theorem q_4d25412af {x0 : Int} (f0 : x0 = 0) : ¬ x0 = 2 := by omega
theorem qv_967ad9091 {A : Nat} {a : Nat} {j : Int} (hm : ¬ ((a = 1 ∧ j = 2) ∨ (a = 1 ∧ j = 4) ∨ (a = 1 ∧ j = 5) ∨ (a = A ∧ j = 0) ∨ (a = A ∧ j = 1) ∨ (a = A ∧ j = 2) ∨ (a = A ∧ j = 3) ∨ a = (A + 1) ∨ a = (A + 2) ∨ a = (A + 3) ∨ (a = A ∧ j = 4) ∨ (a = A ∧ j = 5) ∨ a = (A + 6) ∨ (a = (A + 7) ∧ j = 4))) : ¬ ((a = 1 ∧ j = 2) ∨ (a = 1 ∧ j = 4) ∨ (a = 1 ∧ j = 5) ∨ (a = A ∧ j = 0) ∨ (a = A ∧ j = 1) ∨ (a = A ∧ j = 2) ∨ (a = A ∧ j = 3) ∨ a = (A + 1) ∨ a = (A + 2) ∨ a = (A + 3)) := (fun q => q.elim (fun h => hm (Or.inl h)) (fun q => q.elim (fun h => hm (Or.inr (Or.inl h))) (fun q => q.elim (fun h => hm (Or.inr (Or.inr (Or.inl h)))) (fun q => q.elim (fun h => hm (Or.inr (Or.inr (Or.inr (Or.inl h))))) (fun q => q.elim (fun h => hm (Or.inr (Or.inr (Or.inr (Or.inr (Or.inl h)))))) (fun q => q.elim (fun h => hm (Or.inr (Or.inr (Or.inr (Or.inr (Or.inr (Or.inl h))))))) (fun q => q.elim (fun h => hm (Or.inr (Or.inr (Or.inr (Or.inr (Or.inr (Or.inr (Or.inl h)))))))) (fun q => q.elim (fun h => hm (Or.inr (Or.inr (Or.inr (Or.inr (Or.inr (Or.inr (Or.inr (Or.inl h))))))))) (fun q => q.elim (fun h => hm (Or.inr (Or.inr (Or.inr (Or.inr (Or.inr (Or.inr (Or.inr (Or.inr (Or.inl h)))))))))) (fun h => hm (Or.inr (Or.inr (Or.inr (Or.inr (Or.inr (Or.inr (Or.inr (Or.inr (Or.inr (Or.inl h))))))))))))))))))))
theorem q_0bfe68f8e {x0 : Int} (f0 : 0 ≤ x0 ∧ x0 ≤ 4) : (-2147483648) ≤ x0 := by omega
theorem q_82d4f69ff {x0 : Int} (f0 : 0 ≤ x0 ∧ x0 ≤ 4) : x0 ≤ 2147483647 := by omega
theorem q_d72e4aea1 {x0 : Int} (f0 : x0 = 1) : 0 ≤ x0 := by omega
theorem q_72815ef9e {x0 : Int} (f0 : x0 = 1) : ¬ x0 = 0 := by omega
theorem q_c4bb9308f {x0 : Int} (f0 : 0 ≤ x0 ∧ x0 ≤ 4) (f1 : x0 ≠ 4) : x0 ≤ 3 := by omega
theorem q_4a2fa9e4d {x0 : Int} (f0 : x0 = 1) : ¬ x0 = 2 := by omega
theorem q_c53b4a9c0 {x0 : Int} (f0 : x0 = 2) : 0 ≤ x0 := by omega
theorem q_4b21d0ff9 {x0 : Int} (f0 : x0 = 2) : ¬ x0 = 0 := by omega
theorem q_70ecf1be4 {x0 : Int} (f0 : x0 = 2) : ¬ x0 = 1 := by omega
theorem q_b802e0b40 {x0 x1 : Int} (f0 : ¬ (x0 ≠ 0)) (f1 : (x1 ≥ 0) ∨ (x0 ≠ 0)) (f2 : 0 ≤ x0 ∧ x0 ≤ 3) : 0 ≤ x1 := by omega
theorem q_93a4df8f1 {x0 : Int} (f0 : ¬ (x0 = 0)) : ¬ x0 = 0 := by omega
theorem q_ea625c1e5 {x0 : Int} (f0 : ¬ (x0 = 1)) : ¬ x0 = 1 := by omega
theorem q_e2e39526d {x0 : Int} (f0 : ¬ (x0 = 2)) : ¬ x0 = 2 := by omega
theorem qv_ae6779878 {A : Nat} {a : Nat} {j : Int} (hm : ¬ ((a = 1 ∧ j = 2) ∨ (a = 1 ∧ j = 4) ∨ (a = 1 ∧ j = 5) ∨ (a = A ∧ j = 0) ∨ (a = A ∧ j = 1) ∨ (a = A ∧ j = 2) ∨ (a = A ∧ j = 3) ∨ a = (A + 1) ∨ a = (A + 2) ∨ a = (A + 3) ∨ (a = A ∧ j = 4) ∨ (a = A ∧ j = 5) ∨ a = (A + 6) ∨ (a = (A + 7) ∧ j = 4))) : ¬ ((a = A ∧ j = 0) ∨ (a = A ∧ j = 1) ∨ (a = A ∧ j = 2) ∨ (a = A ∧ j = 3) ∨ (a = A ∧ j = 4) ∨ (a = A ∧ j = 5) ∨ a = (A + 6) ∨ (a = (A + 7) ∧ j = 4)) := (fun q => q.elim (fun h => hm (Or.inr (Or.inr (Or.inr (Or.inl h))))) (fun q => q.elim (fun h => hm (Or.inr (Or.inr (Or.inr (Or.inr (Or.inl h)))))) (fun q => q.elim (fun h => hm (Or.inr (Or.inr (Or.inr (Or.inr (Or.inr (Or.inl h))))))) (fun q => q.elim (fun h => hm (Or.inr (Or.inr (Or.inr (Or.inr (Or.inr (Or.inr (Or.inl h)))))))) (fun q => q.elim (fun h => hm (Or.inr (Or.inr (Or.inr (Or.inr (Or.inr (Or.inr (Or.inr (Or.inr (Or.inr (Or.inr (Or.inl h)))))))))))) (fun q => q.elim (fun h => hm (Or.inr (Or.inr (Or.inr (Or.inr (Or.inr (Or.inr (Or.inr (Or.inr (Or.inr (Or.inr (Or.inr (Or.inl h))))))))))))) (fun q => q.elim (fun h => hm (Or.inr (Or.inr (Or.inr (Or.inr (Or.inr (Or.inr (Or.inr (Or.inr (Or.inr (Or.inr (Or.inr (Or.inr (Or.inl h)))))))))))))) (fun h => hm (Or.inr (Or.inr (Or.inr (Or.inr (Or.inr (Or.inr (Or.inr (Or.inr (Or.inr (Or.inr (Or.inr (Or.inr (Or.inr h)))))))))))))))))))))
theorem qn_14d462bd8 {A : Nat} (hA : A = 13 ∨ A = 25) : ¬ ((A = 1 ∧ (2 : Int) = 2) ∨ (A = 1 ∧ (2 : Int) = 4) ∨ (A = 1 ∧ (2 : Int) = 5) ∨ (A = A ∧ (2 : Int) = 4) ∨ A = (A + 4) ∨ A = (A + 5)) := (fun q => q.elim (fun h => absurd h.1 (np0 hA rfl)) (fun q => q.elim (fun h => absurd h.1 (np0 hA rfl)) (fun q => q.elim (fun h => absurd h.1 (np0 hA rfl)) (fun q => q.elim (fun h => absurd h.2 (ni rfl)) (fun q => q.elim (fun h => absurd h (p0p rfl)) (fun h => absurd h (p0p rfl)))))))
theorem q_452b39485 {x0 : Int} (f0 : 0 ≤ x0 ∧ x0 ≤ 4) : (-1) ≤ x0 - 1 := by omega
theorem q_6915b49e7 {x0 : Int} (f0 : 0 ≤ x0 ∧ x0 ≤ 4) : x0 - 1 ≤ 9999 := by omega
theorem q_628e546a1 {x0 : Int} (f0 : ¬ (x0 > 8)) (f1 : x0 ≠ 8) : x0 < 8 := by omega
theorem qv_e4befbf54 {A : Nat} {a : Nat} {j : Int} (hm : ¬ ((a = 1 ∧ j = 2) ∨ (a = 1 ∧ j = 4) ∨ (a = 1 ∧ j = 5) ∨ (a = A ∧ j = 4) ∨ a = (A + 4) ∨ a = (A + 5))) : ¬ ((a = 1 ∧ j = 2) ∨ (a = 1 ∧ j = 4) ∨ (a = 1 ∧ j = 5)) := (fun q => q.elim (fun h => hm (Or.inl h)) (fun q => q.elim (fun h => hm (Or.inr (Or.inl h))) (fun h => hm (Or.inr (Or.inr (Or.inl h))))))
theorem q_118bd7d80 {x0 : Int} (f0 : ¬ (x0 > 8)) (f1 : x0 ≠ 8) : x0 + 1 ≤ 8 := by omega
theorem q_d1d9cab2a {x0 : Int} (f0 : ¬ (x0 > 8)) : x0 + 1 ≤ 9 := by omega
theorem qv_d8e11c47c {A : Nat} {a : Nat} {j : Int} (hm : ¬ ((a = 1 ∧ j = 2) ∨ (a = 1 ∧ j = 4) ∨ (a = 1 ∧ j = 5) ∨ (a = A ∧ j = 4) ∨ a = (A + 4) ∨ a = (A + 5))) : ¬ ((a = 1 ∧ j = 4) ∨ (a = 1 ∧ j = 5)) := (fun q => q.elim (fun h => hm (Or.inr (Or.inl h))) (fun h => hm (Or.inr (Or.inr (Or.inl h)))))
theorem q_65b0bda2f {x0 : Int} (f0 : ¬ (x0 > 8)) (f1 : ¬ (x0 ≠ 8)) : x0 + 1 = 9 := by omega
theorem q_d0507083e {x0 : Int} (f0 : ¬ (x0 ≥ 4)) : x0 < 8 := by omega
theorem qn_31b6b4c08 {A : Nat} {j : Int} (hA : A = 13 ∨ A = 25) : ¬ (((A + 5) = 1 ∧ j = 2) ∨ ((A + 5) = 1 ∧ j = 4) ∨ ((A + 5) = 1 ∧ j = 5)) := (fun q => q.elim (fun h => absurd h.1 (np hA rfl rfl)) (fun q => q.elim (fun h => absurd h.1 (np hA rfl rfl)) (fun h => absurd h.1 (np hA rfl rfl))))
theorem q_ef58644c7 {x0 : Int} (f0 : (x0 ≤ 3) ∨ (x0 = 0)) : x0 < 8 := by omega
theorem qv_88b270b28 {A : Nat} {a : Nat} {j : Int} (hm : ¬ ((a = 1 ∧ j = 2) ∨ (a = 1 ∧ j = 4) ∨ (a = 1 ∧ j = 5) ∨ (a = A ∧ j = 5) ∨ a = (A + 5) ∨ a = (A + 6))) : ¬ ((a = 1 ∧ j = 2) ∨ (a = 1 ∧ j = 4) ∨ (a = 1 ∧ j = 5)) := (fun q => q.elim (fun h => hm (Or.inl h)) (fun q => q.elim (fun h => hm (Or.inr (Or.inl h))) (fun h => hm (Or.inr (Or.inr (Or.inl h))))))
theorem q_7025fc67d {x0 : Int} (f0 : ¬ (x0 > 4)) : x0 + 1 ≤ 5 := by omega
theorem q_87765d87e {x0 : Int} (f0 : (-1) ≤ x0 ∧ x0 ≤ 9999) : (-2147483648) ≤ x0 := by omega
theorem q_cf71bb2da {x0 : Int} (f0 : (-1) ≤ x0 ∧ x0 ≤ 9999) : x0 ≤ 2147483647 := by omega
theorem qv_ccc73f504 {A : Nat} {a : Nat} {j : Int} (hm : ¬ ((a = 1 ∧ j = 2) ∨ (a = 1 ∧ j = 4) ∨ (a = 1 ∧ j = 5) ∨ (a = A ∧ j = 5) ∨ a = (A + 5) ∨ a = (A + 6))) : ¬ ((a = 1 ∧ j = 4) ∨ (a = 1 ∧ j = 5)) := (fun q => q.elim (fun h => hm (Or.inr (Or.inl h))) (fun h => hm (Or.inr (Or.inr (Or.inl h)))))
theorem q_ab67c736b {x0 : Int} (f0 : ¬ (x0 ≠ 0)) : x0 ≤ 999 := by omega
theorem q_28e14c504 {x0 x1 x2 : Int} (f0 : (x0 = x1)) (f1 : 0 ≤ x2 ∧ x2 ≤ 600) (f2 : ¬ (x1 ≥ x2)) : x0 < 600 := by omega
theorem q_455052922 {x0 : Int} (f0 : 0 ≤ x0 ∧ x0 ≤ 37) : 0 ≤ 5 * x0 := by omega
theorem q_7c821fbfb {x0 : Int} (f0 : 0 ≤ x0 ∧ x0 ≤ 37) : 5 * x0 < 190 := by omega
theorem q_1416f500c {x0 : Int} (f0 : 0 ≤ x0 ∧ x0 ≤ 37) : 0 ≤ 5 * x0 + 1 := by omega
theorem q_6719517c6 {x0 : Int} (f0 : 0 ≤ x0 ∧ x0 ≤ 37) : 5 * x0 + 1 < 190 := by omega
theorem qn_1b31dbfca {P : Nat} {j : Int} (hP : P = 13 ∨ P = 25) : ¬ ((P = 1 ∧ j = 2) ∨ (P = 1 ∧ j = 4) ∨ (P = 1 ∧ j = 5)) := (fun q => q.elim (fun h => absurd h.1 (np0 hP rfl)) (fun q => q.elim (fun h => absurd h.1 (np0 hP rfl)) (fun h => absurd h.1 (np0 hP rfl))))
theorem q_68889d1a6 {x0 : Int} (f0 : 0 ≤ x0 ∧ x0 ≤ 6) : (-1) ≤ x0 - 1 := by omega
theorem q_57c3d1df3 {x0 : Int} (f0 : 0 ≤ x0 ∧ x0 ≤ 6) : x0 - 1 ≤ 9999 := by omega
theorem q_ffaf02070 {x0 : Int} (f0 : 0 ≤ x0 ∧ x0 ≤ 37) : 0 ≤ 5 * x0 + 2 := by omega
theorem q_311969902 {x0 : Int} (f0 : 0 ≤ x0 ∧ x0 ≤ 37) : 5 * x0 + 2 < 190 := by omega
theorem q_16a7703bf {x0 x1 : Int} (f0 : 0 ≤ x0 ∧ x0 ≤ 6) (f1 : (x1 ≤ x0 - 1) ∨ (x1 = 0)) : x1 ≤ 38 := by omega
theorem qn_40936bc4a {j : Int} : ¬ (((8 : Nat) = 1 ∧ j = 2) ∨ ((8 : Nat) = 1 ∧ j = 4) ∨ ((8 : Nat) = 1 ∧ j = 5)) := (fun q => q.elim (fun h => absurd h.1 (nn rfl)) (fun q => q.elim (fun h => absurd h.1 (nn rfl)) (fun h => absurd h.1 (nn rfl))))
theorem q_9c0cd5a3a {x0 x1 : Int} (f0 : 0 ≤ x0 ∧ x0 ≤ 4) (f1 : (x1 ≤ x0 - 1) ∨ (x1 = 0)) : x1 ≤ 3 := by omega
theorem q_7514a81f1 {x0 x1 : Int} (f0 : 0 ≤ x0 ∧ x0 ≤ 6) (f1 : (x1 ≤ x0 - 1) ∨ (x1 = 0)) : x1 ≤ 5 := by omega
theorem q_1dcad14fe {x0 : Int} (f0 : x0 = 0) : ¬ x0 = 3 := by omega
theorem q_8f0696a92 {x0 : Int} (f0 : x0 = 0) : ¬ x0 = 4 := by omega
theorem q_484d5e57f {x0 : Int} (f0 : x0 = 0) : ¬ x0 = 5 := by omega
theorem qn_e31e1496e {j : Int} : ¬ (((7 : Nat) = 1 ∧ j = 2) ∨ ((7 : Nat) = 1 ∧ j = 4) ∨ ((7 : Nat) = 1 ∧ j = 5)) := (fun q => q.elim (fun h => absurd h.1 (nn rfl)) (fun q => q.elim (fun h => absurd h.1 (nn rfl)) (fun h => absurd h.1 (nn rfl))))
theorem q_68bb02467 {x0 : Int}  : 5 * x0 ≤ 5 * x0 + 2 := by omega
theorem qv_d1fb82d1b {a : Nat} {j : Int} {t0 : Int} (hm : ¬ ((a = 1 ∧ j = 2) ∨ (a = 1 ∧ j = 4) ∨ (a = 1 ∧ j = 5) ∨ (a = 7 ∧ j = 2) ∨ (a = 8 ∧ j ≥ t0))) : ¬ ((a = 1 ∧ j = 2) ∨ (a = 1 ∧ j = 4) ∨ (a = 1 ∧ j = 5)) := (fun q => q.elim (fun h => hm (Or.inl h)) (fun q => q.elim (fun h => hm (Or.inr (Or.inl h))) (fun h => hm (Or.inr (Or.inr (Or.inl h))))))
theorem q_c48eb2e77 {x0 : Int}  : 5 * x0 ≤ 5 * x0 + 1 := by omega
theorem q_e074ea49a {x0 : Int}  : x0 ≤ x0 := by omega
theorem q_a57922852 {x0 : Int} (f0 : 0 ≤ x0 ∧ x0 ≤ 37) : 0 ≤ 5 * x0 + 3 := by omega
theorem q_be1adda5a {x0 : Int} (f0 : 0 ≤ x0 ∧ x0 ≤ 37) : 5 * x0 + 3 < 190 := by omega
theorem q_30157bdbc {x0 : Int} (f0 : 0 ≤ x0 ∧ x0 ≤ 37) : 0 ≤ 5 * x0 + 4 := by omega
theorem q_481aa6703 {x0 : Int} (f0 : 0 ≤ x0 ∧ x0 ≤ 37) : 5 * x0 + 4 < 190 := by omega
theorem q_4d88fe714 {x0 : Int} (f0 : x0 = 1) : ¬ x0 = 3 := by omega
theorem q_ebaa6bc57 {x0 : Int} (f0 : x0 = 1) : ¬ x0 = 4 := by omega
theorem q_620c3e4c8 {x0 : Int} (f0 : x0 = 1) : ¬ x0 = 5 := by omega
theorem q_7bbc2d554 {x0 : Int}  : 5 * x0 ≤ 5 * x0 + 4 := by omega
theorem q_52f2ef5b6 {x0 : Int}  : 5 * x0 ≤ 5 * x0 + 3 := by omega
theorem q_7d5b8cb18 {x0 x1 : Int} (f0 : (x0 ≤ x1 - 1) ∨ (x0 = 0)) (f1 : 0 ≤ x1 ∧ x1 ≤ 6) : x0 ≤ 38 := by omega
theorem q_62a06eb7d {x0 x1 : Int} (f0 : (x0 ≤ x1 - 1) ∨ (x0 = 0)) (f1 : 0 ≤ x1 ∧ x1 ≤ 6) : x0 ≤ 5 := by omega
theorem q_a930af015 {x0 : Int} (f0 : x0 = 2) : ¬ x0 = 3 := by omega
theorem q_fd6fe127c {x0 : Int} (f0 : x0 = 2) : ¬ x0 = 4 := by omega
theorem q_d20a2a3af {x0 : Int} (f0 : x0 = 2) : ¬ x0 = 5 := by omega
theorem q_118495b55 {x0 : Int} (f0 : x0 = 3) : ¬ x0 = 0 := by omega
theorem q_ee7c71cbc {x0 : Int} (f0 : x0 = 3) : ¬ x0 = 1 := by omega
theorem q_a585623bf {x0 : Int} (f0 : x0 = 3) : ¬ x0 = 2 := by omega
theorem q_bc740e082 {x0 : Int} (f0 : x0 = 3) : ¬ x0 = 4 := by omega
theorem q_770103991 {x0 : Int} (f0 : x0 = 3) : ¬ x0 = 5 := by omega
theorem q_eb19c88d8 {x0 : Int} (f0 : x0 = 4) : ¬ x0 = 0 := by omega
theorem q_07601ce50 {x0 : Int} (f0 : x0 = 4) : ¬ x0 = 1 := by omega
theorem q_660a9e4d8 {x0 : Int} (f0 : x0 = 4) : ¬ x0 = 2 := by omega
theorem q_a2f8c8f67 {x0 : Int} (f0 : x0 = 4) : ¬ x0 = 3 := by omega
theorem q_fe9e9dcf4 {x0 : Int} (f0 : x0 = 4) : ¬ x0 = 5 := by omega
theorem q_5451ba73e {x0 : Int} (f0 : x0 = 5) : ¬ x0 = 0 := by omega
theorem q_607327e82 {x0 : Int} (f0 : x0 = 5) : ¬ x0 = 1 := by omega
theorem q_da2f8a773 {x0 : Int} (f0 : x0 = 5) : ¬ x0 = 2 := by omega
theorem q_effe7b19f {x0 : Int} (f0 : x0 = 5) : ¬ x0 = 3 := by omega
theorem q_2ed2cff96 {x0 : Int} (f0 : x0 = 5) : ¬ x0 = 4 := by omega
theorem q_8e3eb3f84 {x0 : Int} (f0 : x0 = 6) : ¬ x0 = 0 := by omega
theorem q_78679d36e {x0 : Int} (f0 : x0 = 6) : ¬ x0 = 1 := by omega
theorem q_f748de4c1 {x0 : Int} (f0 : x0 = 6) : ¬ x0 = 2 := by omega
theorem q_435a82c1b {x0 : Int} (f0 : x0 = 6) : ¬ x0 = 3 := by omega
theorem q_1c69b3b7b {x0 : Int} (f0 : x0 = 6) : ¬ x0 = 4 := by omega
theorem q_783649452 {x0 : Int} (f0 : x0 = 6) : ¬ x0 = 5 := by omega
theorem q_d9dab072a {x0 : Int} (f0 : x0 = 7) : ¬ x0 = 0 := by omega
theorem q_08c322c8b {x0 : Int} (f0 : x0 = 7) : ¬ x0 = 1 := by omega
theorem q_6f8ea684b {x0 : Int} (f0 : x0 = 7) : ¬ x0 = 2 := by omega
theorem q_10d1e1edb {x0 : Int} (f0 : x0 = 7) : ¬ x0 = 3 := by omega
theorem q_b6c8557ad {x0 : Int} (f0 : x0 = 7) : ¬ x0 = 4 := by omega
theorem q_402d8d996 {x0 : Int} (f0 : x0 = 7) : ¬ x0 = 5 := by omega
theorem q_5e5dcf90e {x0 x1 : Int} (f0 : (x0 + 1 ≤ x1)) : 5 * x0 < 5 * x1 := by omega
theorem q_7674b446a {x0 x1 : Int} (f0 : (x0 + 1 ≤ x1)) : 5 * x0 + 1 < 5 * x1 := by omega
theorem q_5d05efc21 {x0 x1 : Int} (f0 : (x0 + 1 ≤ x1)) : 5 * x0 + 3 < 5 * x1 := by omega
theorem q_133825ead {x0 x1 : Int} (f0 : (x0 + 1 ≤ x1)) : 5 * x0 + 4 < 5 * x1 := by omega
theorem q_d1cd98eaf {x0 x1 : Int} (f0 : (x0 + 1 ≤ x1)) : 5 * x0 ≤ 5 * x1 := by omega
theorem q_74cd69a50 {x0 x1 x2 : Int} (f0 : (x0 ≥ x1)) (f1 : x1 = x2) : x2 ≤ x0 := by omega
theorem q_00b473266 {x0 : Int} (f0 : 0 ≤ x0 ∧ x0 ≤ 99999) (f1 : ¬ (x0 = 0)) : ¬ x0 = 0 := by omega
theorem q_dcc533340 {x0 : Int} (f0 : ¬ (x0 = 3)) : ¬ x0 = 3 := by omega
theorem q_06b43b618 {x0 : Int} (f0 : ¬ (x0 = 4)) : ¬ x0 = 4 := by omega
theorem q_6d146e2b2 {x0 : Int} (f0 : ¬ (x0 = 5)) : ¬ x0 = 5 := by omega
theorem c_33_0 : mLk 33 0 = some (.iload_n 2, 1) := rfl
theorem c_33_1 : mLk 33 1 = some (.tableswitch 115 0 2 #[27, 58, 88], 27) := rfl
theorem c_33_28 : mLk 33 28 = some (.aload_n 1, 1) := rfl
theorem c_33_29 : mLk 33 29 = some (.aload_n 0, 1) := rfl
theorem c_33_30 : mLk 33 30 = some (.getfield 15, 3) := rfl
theorem c_33_33 : mLk 33 33 = some (.aload_n 0, 1) := rfl
theorem c_33_34 : mLk 33 34 = some (.getfield 81, 3) := rfl
theorem c_33_37 : mLk 33 37 = some (.iconst 4, 1) := rfl
theorem c_33_38 : mLk 33 38 = some (.imul, 1) := rfl
theorem c_33_39 : mLk 33 39 = some (.iconst 4, 1) := rfl
theorem c_33_40 : mLk 33 40 = some (.sipush 999, 3) := rfl
theorem c_33_43 : mLk 33 43 = some (.invokestatic 97, 3) := rfl
theorem c_32_0 : mLk 32 0 = some (.iload_n 2, 1) := rfl
theorem c_32_1 : mLk 32 1 = some (.istore 5, 2) := rfl
theorem c_32_3 : mLk 32 3 = some (.iload 5, 2) := rfl
theorem c_32_5 : mLk 32 5 = some (.iload_n 2, 1) := rfl
theorem c_32_6 : mLk 32 6 = some (.iload_n 3, 1) := rfl
theorem c_32_7 : mLk 32 7 = some (.iadd, 1) := rfl
theorem c_32_8 : mLk 32 8 = some (.if_icmp .ge 26, 3) := rfl
theorem c_32_11 : mLk 32 11 = some (.iload 5, 2) := rfl
theorem c_32_13 : mLk 32 13 = some (.aload_n 1, 1) := rfl
theorem c_32_14 : mLk 32 14 = some (.arraylength, 1) := rfl
theorem c_32_15 : mLk 32 15 = some (.if_icmp .ge 19, 3) := rfl
theorem c_32_18 : mLk 32 18 = some (.aload_n 1, 1) := rfl
theorem c_32_19 : mLk 32 19 = some (.iload 5, 2) := rfl
theorem c_32_21 : mLk 32 21 = some (.aload_n 0, 1) := rfl
theorem c_32_22 : mLk 32 22 = some (.iload 4, 2) := rfl
theorem c_32_24 : mLk 32 24 = some (.invokevirtual 101, 3) := rfl
theorem c_32_27 : mLk 32 27 = some (.iastore, 1) := rfl
theorem c_32_28 : mLk 32 28 = some (.iinc 5 1, 3) := rfl
theorem c_32_31 : mLk 32 31 = some (.goto (-28), 3) := rfl
theorem c_33_46 : mLk 33 46 = some (.aload_n 0, 1) := rfl
theorem c_33_47 : mLk 33 47 = some (.dup, 1) := rfl
theorem c_33_48 : mLk 33 48 = some (.getfield 81, 3) := rfl
theorem c_33_51 : mLk 33 51 = some (.iconst 1, 1) := rfl
theorem c_33_52 : mLk 33 52 = some (.iadd, 1) := rfl
theorem c_33_53 : mLk 33 53 = some (.putfield 81, 3) := rfl
theorem c_33_56 : mLk 33 56 = some (.goto 70, 3) := rfl
theorem c_33_59 : mLk 33 59 = some (.aload_n 1, 1) := rfl
theorem c_33_60 : mLk 33 60 = some (.aload_n 0, 1) := rfl
theorem c_33_61 : mLk 33 61 = some (.getfield 19, 3) := rfl
theorem c_33_64 : mLk 33 64 = some (.aload_n 0, 1) := rfl
theorem c_33_65 : mLk 33 65 = some (.getfield 84, 3) := rfl
theorem c_33_68 : mLk 33 68 = some (.iconst 3, 1) := rfl
theorem c_33_69 : mLk 33 69 = some (.imul, 1) := rfl
theorem c_33_70 : mLk 33 70 = some (.iconst 3, 1) := rfl
theorem c_33_71 : mLk 33 71 = some (.bipush 10, 2) := rfl
theorem c_33_73 : mLk 33 73 = some (.invokestatic 97, 3) := rfl
theorem c_33_76 : mLk 33 76 = some (.aload_n 0, 1) := rfl
theorem c_33_77 : mLk 33 77 = some (.dup, 1) := rfl
theorem c_33_78 : mLk 33 78 = some (.getfield 84, 3) := rfl
theorem c_33_81 : mLk 33 81 = some (.iconst 1, 1) := rfl
theorem c_33_82 : mLk 33 82 = some (.iadd, 1) := rfl
theorem c_33_83 : mLk 33 83 = some (.putfield 84, 3) := rfl
theorem c_33_86 : mLk 33 86 = some (.goto 40, 3) := rfl
theorem c_33_89 : mLk 33 89 = some (.aload_n 1, 1) := rfl
theorem c_33_90 : mLk 33 90 = some (.aload_n 0, 1) := rfl
theorem c_33_91 : mLk 33 91 = some (.getfield 22, 3) := rfl
theorem c_33_94 : mLk 33 94 = some (.aload_n 0, 1) := rfl
theorem c_33_95 : mLk 33 95 = some (.getfield 87, 3) := rfl
theorem c_33_98 : mLk 33 98 = some (.iconst 1, 1) := rfl
theorem c_33_99 : mLk 33 99 = some (.iconst 2, 1) := rfl
theorem c_33_100 : mLk 33 100 = some (.invokestatic 97, 3) := rfl
theorem c_33_103 : mLk 33 103 = some (.aload_n 0, 1) := rfl
theorem c_33_104 : mLk 33 104 = some (.dup, 1) := rfl
theorem c_33_105 : mLk 33 105 = some (.getfield 87, 3) := rfl
theorem c_33_108 : mLk 33 108 = some (.iconst 1, 1) := rfl
theorem c_33_109 : mLk 33 109 = some (.iadd, 1) := rfl
theorem c_33_110 : mLk 33 110 = some (.putfield 87, 3) := rfl
theorem c_33_113 : mLk 33 113 = some (.goto 13, 3) := rfl
theorem c_33_116 : mLk 33 116 = some (.aload_n 0, 1) := rfl
theorem c_33_117 : mLk 33 117 = some (.aload_n 1, 1) := rfl
theorem c_33_118 : mLk 33 118 = some (.bipush 50, 2) := rfl
theorem c_33_120 : mLk 33 120 = some (.invokevirtual 101, 3) := rfl
theorem c_33_123 : mLk 33 123 = some (.putfield 9, 3) := rfl
theorem c_34_6 : mLk 34 6 = some (.iload_n 2, 1) := rfl
theorem c_34_7 : mLk 34 7 = some (.bipush 60, 2) := rfl
theorem c_34_9 : mLk 34 9 = some (.if_icmp .gt 76, 3) := rfl
theorem c_34_12 : mLk 34 12 = some (.aload_n 1, 1) := rfl
theorem c_34_13 : mLk 34 13 = some (.invokevirtual 44, 3) := rfl
theorem c_34_16 : mLk 34 16 = some (.ifCond .eq 69, 3) := rfl
theorem c_34_19 : mLk 34 19 = some (.aload_n 1, 1) := rfl
theorem c_34_20 : mLk 34 20 = some (.invokevirtual 50, 3) := rfl
theorem c_34_23 : mLk 34 23 = some (.istore_n 3, 1) := rfl
theorem c_34_24 : mLk 34 24 = some (.aload_n 1, 1) := rfl
theorem c_34_25 : mLk 34 25 = some (.ldc 54, 2) := rfl
theorem c_34_27 : mLk 34 27 = some (.invokevirtual 56, 3) := rfl
theorem c_34_30 : mLk 34 30 = some (.istore 4, 2) := rfl
theorem c_34_32 : mLk 34 32 = some (.iload 4, 2) := rfl
theorem c_34_34 : mLk 34 34 = some (.iconst (-1), 1) := rfl
theorem c_34_35 : mLk 34 35 = some (.if_icmp .eq 24, 3) := rfl
theorem c_34_59 : mLk 34 59 = some (.aload_n 1, 1) := rfl
theorem c_34_60 : mLk 34 60 = some (.invokevirtual 68, 3) := rfl
theorem c_34_63 : mLk 34 63 = some (.ifCond .eq 10, 3) := rfl
theorem c_34_73 : mLk 34 73 = some (.aload_n 1, 1) := rfl
theorem c_34_74 : mLk 34 74 = some (.ldc 75, 2) := rfl
theorem c_34_76 : mLk 34 76 = some (.invokevirtual 77, 3) := rfl
theorem c_34_79 : mLk 34 79 = some (.iinc 2 1, 3) := rfl
theorem c_34_82 : mLk 34 82 = some (.goto (-76), 3) := rfl
theorem c_34_38 : mLk 34 38 = some (.iload_n 2, 1) := rfl
theorem c_34_39 : mLk 34 39 = some (.bipush 60, 2) := rfl
theorem c_34_41 : mLk 34 41 = some (.if_icmp .eq 12, 3) := rfl
theorem c_34_53 : mLk 34 53 = some (.aload_n 1, 1) := rfl
theorem c_34_54 : mLk 34 54 = some (.iconst 3, 1) := rfl
theorem c_34_55 : mLk 34 55 = some (.iload_n 3, 1) := rfl
theorem c_34_56 : mLk 34 56 = some (.invokevirtual 64, 3) := rfl
theorem c_34_44 : mLk 34 44 = some (.aload_n 0, 1) := rfl
theorem c_34_45 : mLk 34 45 = some (.iload 4, 2) := rfl
theorem c_34_47 : mLk 34 47 = some (.invokevirtual 60, 3) := rfl
theorem c_31_0 : mLk 31 0 = some (.iload_n 1, 1) := rfl
theorem c_31_1 : mLk 31 1 = some (.tableswitch 70 0 2 #[27, 42, 56], 27) := rfl
theorem c_31_28 : mLk 31 28 = some (.aload_n 0, 1) := rfl
theorem c_31_29 : mLk 31 29 = some (.getfield 81, 3) := rfl
theorem c_31_32 : mLk 31 32 = some (.bipush 6, 2) := rfl
theorem c_31_34 : mLk 31 34 = some (.if_icmp .ne 7, 3) := rfl
theorem c_31_41 : mLk 31 41 = some (.iconst 0, 1) := rfl
theorem c_31_42 : mLk 31 42 = some (.ireturn, 1) := rfl
theorem c_34_50 : mLk 34 50 = some (.ifCond .eq 9, 3) := rfl
theorem c_34_66 : mLk 34 66 = some (.aload_n 0, 1) := rfl
theorem c_34_67 : mLk 34 67 = some (.aload_n 1, 1) := rfl
theorem c_34_68 : mLk 34 68 = some (.iload 4, 2) := rfl
theorem c_34_70 : mLk 34 70 = some (.invokevirtual 71, 3) := rfl
theorem c_31_37 : mLk 31 37 = some (.iconst 1, 1) := rfl
theorem c_31_38 : mLk 31 38 = some (.goto 4, 3) := rfl
theorem c_31_43 : mLk 31 43 = some (.aload_n 0, 1) := rfl
theorem c_31_44 : mLk 31 44 = some (.getfield 84, 3) := rfl
theorem c_31_47 : mLk 31 47 = some (.iconst 4, 1) := rfl
theorem c_31_48 : mLk 31 48 = some (.if_icmp .ne 7, 3) := rfl
theorem c_31_55 : mLk 31 55 = some (.iconst 0, 1) := rfl
theorem c_31_56 : mLk 31 56 = some (.ireturn, 1) := rfl
theorem c_31_51 : mLk 31 51 = some (.iconst 1, 1) := rfl
theorem c_31_52 : mLk 31 52 = some (.goto 4, 3) := rfl
theorem c_31_57 : mLk 31 57 = some (.aload_n 0, 1) := rfl
theorem c_31_58 : mLk 31 58 = some (.getfield 87, 3) := rfl
theorem c_31_61 : mLk 31 61 = some (.iconst 4, 1) := rfl
theorem c_31_62 : mLk 31 62 = some (.if_icmp .ne 7, 3) := rfl
theorem c_31_69 : mLk 31 69 = some (.iconst 0, 1) := rfl
theorem c_31_70 : mLk 31 70 = some (.ireturn, 1) := rfl
theorem c_31_65 : mLk 31 65 = some (.iconst 1, 1) := rfl
theorem c_31_66 : mLk 31 66 = some (.goto 4, 3) := rfl
theorem c_31_71 : mLk 31 71 = some (.iconst 0, 1) := rfl
theorem c_31_72 : mLk 31 72 = some (.ireturn, 1) := rfl
theorem c_34_0 : mLk 34 0 = some (.aload_n 0, 1) := rfl
theorem c_34_1 : mLk 34 1 = some (.invokevirtual 41, 3) := rfl
theorem c_34_4 : mLk 34 4 = some (.iconst 0, 1) := rfl
theorem c_34_5 : mLk 34 5 = some (.istore_n 2, 1) := rfl
theorem c_35_4 : mLk 35 4 = some (.iload_n 3, 1) := rfl
theorem c_35_5 : mLk 35 5 = some (.bipush 8, 2) := rfl
theorem c_35_7 : mLk 35 7 = some (.if_icmp .gt 68, 3) := rfl
theorem c_35_75 : mLk 35 75 = some (.aload_n 1, 1) := rfl
theorem c_35_76 : mLk 35 76 = some (.invokevirtual 68, 3) := rfl
theorem c_35_79 : mLk 35 79 = some (.ifCond .eq 23, 3) := rfl
theorem c_35_82 : mLk 35 82 = some (.aload_n 0, 1) := rfl
theorem c_35_83 : mLk 35 83 = some (.getfield 28, 3) := rfl
theorem c_35_86 : mLk 35 86 = some (.iconst 0, 1) := rfl
theorem c_35_87 : mLk 35 87 = some (.aload_n 0, 1) := rfl
theorem c_35_88 : mLk 35 88 = some (.getfield 25, 3) := rfl
theorem c_35_91 : mLk 35 91 = some (.iconst 0, 1) := rfl
theorem c_35_92 : mLk 35 92 = some (.bipush 8, 2) := rfl
theorem c_35_94 : mLk 35 94 = some (.invokestatic 105, 3) := rfl
theorem c_35_97 : mLk 35 97 = some (.aload_n 0, 1) := rfl
theorem c_35_98 : mLk 35 98 = some (.iload_n 2, 1) := rfl
theorem c_35_99 : mLk 35 99 = some (.putfield 90, 3) := rfl
theorem c_35_10 : mLk 35 10 = some (.aload_n 1, 1) := rfl
theorem c_35_11 : mLk 35 11 = some (.invokevirtual 44, 3) := rfl
theorem c_35_14 : mLk 35 14 = some (.ifCond .eq 61, 3) := rfl
theorem c_35_17 : mLk 35 17 = some (.aload_n 1, 1) := rfl
theorem c_35_18 : mLk 35 18 = some (.invokevirtual 50, 3) := rfl
theorem c_35_21 : mLk 35 21 = some (.istore 4, 2) := rfl
theorem c_35_23 : mLk 35 23 = some (.aload_n 1, 1) := rfl
theorem c_35_24 : mLk 35 24 = some (.aload_n 0, 1) := rfl
theorem c_35_25 : mLk 35 25 = some (.getfield 87, 3) := rfl
theorem c_35_28 : mLk 35 28 = some (.iconst 1, 1) := rfl
theorem c_35_29 : mLk 35 29 = some (.isub, 1) := rfl
theorem c_35_30 : mLk 35 30 = some (.invokevirtual 101, 3) := rfl
theorem c_35_33 : mLk 35 33 = some (.istore 5, 2) := rfl
theorem c_35_35 : mLk 35 35 = some (.iload_n 3, 1) := rfl
theorem c_35_36 : mLk 35 36 = some (.bipush 8, 2) := rfl
theorem c_35_38 : mLk 35 38 = some (.if_icmp .ne 13, 3) := rfl
theorem c_35_51 : mLk 35 51 = some (.aload_n 0, 1) := rfl
theorem c_35_52 : mLk 35 52 = some (.getfield 28, 3) := rfl
theorem c_35_55 : mLk 35 55 = some (.iload_n 3, 1) := rfl
theorem c_35_56 : mLk 35 56 = some (.iload 5, 2) := rfl
theorem c_35_58 : mLk 35 58 = some (.iastore, 1) := rfl
theorem c_35_59 : mLk 35 59 = some (.iload_n 3, 1) := rfl
theorem c_35_60 : mLk 35 60 = some (.iconst 1, 1) := rfl
theorem c_35_61 : mLk 35 61 = some (.iadd, 1) := rfl
theorem c_35_62 : mLk 35 62 = some (.istore_n 2, 1) := rfl
theorem c_35_63 : mLk 35 63 = some (.aload_n 1, 1) := rfl
theorem c_35_64 : mLk 35 64 = some (.ldc 75, 2) := rfl
theorem c_35_66 : mLk 35 66 = some (.invokevirtual 77, 3) := rfl
theorem c_35_69 : mLk 35 69 = some (.iinc 3 1, 3) := rfl
theorem c_35_72 : mLk 35 72 = some (.goto (-68), 3) := rfl
theorem c_35_41 : mLk 35 41 = some (.aload_n 1, 1) := rfl
theorem c_35_42 : mLk 35 42 = some (.iconst 3, 1) := rfl
theorem c_35_43 : mLk 35 43 = some (.iload 4, 2) := rfl
theorem c_35_45 : mLk 35 45 = some (.invokevirtual 64, 3) := rfl
theorem c_35_48 : mLk 35 48 = some (.goto 15, 3) := rfl
theorem c_35_0 : mLk 35 0 = some (.iconst 0, 1) := rfl
theorem c_35_1 : mLk 35 1 = some (.istore_n 2, 1) := rfl
theorem c_35_2 : mLk 35 2 = some (.iconst 0, 1) := rfl
theorem c_35_3 : mLk 35 3 = some (.istore_n 3, 1) := rfl
theorem c_36_2 : mLk 36 2 = some (.iload_n 2, 1) := rfl
theorem c_36_3 : mLk 36 3 = some (.iconst 4, 1) := rfl
theorem c_36_4 : mLk 36 4 = some (.if_icmp .ge 16, 3) := rfl
theorem c_36_20 : mLk 36 20 = some (.iconst 0, 1) := rfl
theorem c_36_21 : mLk 36 21 = some (.istore_n 2, 1) := rfl
theorem c_36_22 : mLk 36 22 = some (.iconst 0, 1) := rfl
theorem c_36_23 : mLk 36 23 = some (.istore_n 3, 1) := rfl
theorem c_36_7 : mLk 36 7 = some (.aload_n 0, 1) := rfl
theorem c_36_8 : mLk 36 8 = some (.getfield 28, 3) := rfl
theorem c_36_11 : mLk 36 11 = some (.iload_n 2, 1) := rfl
theorem c_36_12 : mLk 36 12 = some (.iconst (-1), 1) := rfl
theorem c_36_13 : mLk 36 13 = some (.iastore, 1) := rfl
theorem c_36_14 : mLk 36 14 = some (.iinc 2 1, 3) := rfl
theorem c_36_17 : mLk 36 17 = some (.goto (-15), 3) := rfl
theorem c_36_24 : mLk 36 24 = some (.iload_n 3, 1) := rfl
theorem c_36_25 : mLk 36 25 = some (.iconst 4, 1) := rfl
theorem c_36_26 : mLk 36 26 = some (.if_icmp .gt 71, 3) := rfl
theorem c_36_97 : mLk 36 97 = some (.aload_n 1, 1) := rfl
theorem c_36_98 : mLk 36 98 = some (.invokevirtual 68, 3) := rfl
theorem c_36_101 : mLk 36 101 = some (.ifCond .eq 22, 3) := rfl
theorem c_36_104 : mLk 36 104 = some (.aload_n 0, 1) := rfl
theorem c_36_105 : mLk 36 105 = some (.getfield 28, 3) := rfl
theorem c_36_108 : mLk 36 108 = some (.iconst 0, 1) := rfl
theorem c_36_109 : mLk 36 109 = some (.aload_n 0, 1) := rfl
theorem c_36_110 : mLk 36 110 = some (.getfield 31, 3) := rfl
theorem c_36_113 : mLk 36 113 = some (.iconst 0, 1) := rfl
theorem c_36_114 : mLk 36 114 = some (.iconst 4, 1) := rfl
theorem c_36_115 : mLk 36 115 = some (.invokestatic 105, 3) := rfl
theorem c_36_118 : mLk 36 118 = some (.aload_n 0, 1) := rfl
theorem c_36_119 : mLk 36 119 = some (.iload_n 2, 1) := rfl
theorem c_36_120 : mLk 36 120 = some (.putfield 93, 3) := rfl
theorem c_36_29 : mLk 36 29 = some (.aload_n 1, 1) := rfl
theorem c_36_30 : mLk 36 30 = some (.invokevirtual 44, 3) := rfl
theorem c_36_33 : mLk 36 33 = some (.ifCond .eq 64, 3) := rfl
theorem c_36_36 : mLk 36 36 = some (.aload_n 1, 1) := rfl
theorem c_36_37 : mLk 36 37 = some (.invokevirtual 50, 3) := rfl
theorem c_36_40 : mLk 36 40 = some (.istore 4, 2) := rfl
theorem c_36_42 : mLk 36 42 = some (.aload_n 1, 1) := rfl
theorem c_36_43 : mLk 36 43 = some (.iconst 3, 1) := rfl
theorem c_36_44 : mLk 36 44 = some (.invokevirtual 101, 3) := rfl
theorem c_36_47 : mLk 36 47 = some (.istore 5, 2) := rfl
theorem c_36_49 : mLk 36 49 = some (.aload_n 0, 1) := rfl
theorem c_36_50 : mLk 36 50 = some (.getfield 28, 3) := rfl
theorem c_36_53 : mLk 36 53 = some (.iload 5, 2) := rfl
theorem c_36_55 : mLk 36 55 = some (.iaload, 1) := rfl
theorem c_36_56 : mLk 36 56 = some (.iconst (-1), 1) := rfl
theorem c_36_57 : mLk 36 57 = some (.if_icmp .eq 10, 3) := rfl
theorem c_36_67 : mLk 36 67 = some (.aload_n 0, 1) := rfl
theorem c_36_68 : mLk 36 68 = some (.getfield 28, 3) := rfl
theorem c_36_71 : mLk 36 71 = some (.iload 5, 2) := rfl
theorem c_36_73 : mLk 36 73 = some (.aload_n 1, 1) := rfl
theorem c_36_74 : mLk 36 74 = some (.sipush 9999, 3) := rfl
theorem c_36_77 : mLk 36 77 = some (.invokevirtual 101, 3) := rfl
theorem c_36_80 : mLk 36 80 = some (.iastore, 1) := rfl
theorem c_36_81 : mLk 36 81 = some (.aload_n 1, 1) := rfl
theorem c_36_82 : mLk 36 82 = some (.ldc 75, 2) := rfl
theorem c_36_84 : mLk 36 84 = some (.invokevirtual 77, 3) := rfl
theorem c_36_87 : mLk 36 87 = some (.iload_n 3, 1) := rfl
theorem c_36_88 : mLk 36 88 = some (.iconst 1, 1) := rfl
theorem c_36_89 : mLk 36 89 = some (.iadd, 1) := rfl
theorem c_36_90 : mLk 36 90 = some (.istore_n 2, 1) := rfl
theorem c_36_91 : mLk 36 91 = some (.iinc 3 1, 3) := rfl
theorem c_36_94 : mLk 36 94 = some (.goto (-70), 3) := rfl
theorem c_36_60 : mLk 36 60 = some (.aload_n 1, 1) := rfl
theorem c_36_61 : mLk 36 61 = some (.iconst 2, 1) := rfl
theorem c_36_62 : mLk 36 62 = some (.iload 4, 2) := rfl
theorem c_36_64 : mLk 36 64 = some (.invokevirtual 64, 3) := rfl
theorem c_36_0 : mLk 36 0 = some (.iconst 0, 1) := rfl
theorem c_36_1 : mLk 36 1 = some (.istore_n 2, 1) := rfl
theorem c_38_0 : mLk 38 0 = some (.aload_n 0, 1) := rfl
theorem c_38_1 : mLk 38 1 = some (.invokevirtual 42, 3) := rfl
theorem c_38_4 : mLk 38 4 = some (.istore_n 1, 1) := rfl
theorem c_38_5 : mLk 38 5 = some (.aload_n 0, 1) := rfl
theorem c_38_6 : mLk 38 6 = some (.sipush 999, 3) := rfl
theorem c_38_9 : mLk 38 9 = some (.invokevirtual 73, 3) := rfl
theorem c_38_12 : mLk 38 12 = some (.istore_n 2, 1) := rfl
theorem c_38_13 : mLk 38 13 = some (.iload_n 2, 1) := rfl
theorem c_38_14 : mLk 38 14 = some (.ifCond .ne 9, 3) := rfl
theorem c_38_23 : mLk 38 23 = some (.iload_n 2, 1) := rfl
theorem c_38_24 : mLk 38 24 = some (.ireturn, 1) := rfl
theorem c_38_17 : mLk 38 17 = some (.aload_n 0, 1) := rfl
theorem c_38_18 : mLk 38 18 = some (.iconst 2, 1) := rfl
theorem c_38_19 : mLk 38 19 = some (.iload_n 1, 1) := rfl
theorem c_38_20 : mLk 38 20 = some (.invokevirtual 51, 3) := rfl
theorem c_39_0 : mLk 39 0 = some (.aload_n 0, 1) := rfl
theorem c_39_1 : mLk 39 1 = some (.invokevirtual 41, 3) := rfl
theorem c_39_4 : mLk 39 4 = some (.aload_n 0, 1) := rfl
theorem c_39_5 : mLk 39 5 = some (.getfield 32, 3) := rfl
theorem c_39_8 : mLk 39 8 = some (.if_icmp .ge 19, 3) := rfl
theorem c_39_27 : mLk 39 27 = some (.iconst (-1), 1) := rfl
theorem c_39_28 : mLk 39 28 = some (.ireturn, 1) := rfl
theorem c_39_11 : mLk 39 11 = some (.aload_n 0, 1) := rfl
theorem c_39_12 : mLk 39 12 = some (.getfield 9, 3) := rfl
theorem c_39_15 : mLk 39 15 = some (.aload_n 0, 1) := rfl
theorem c_39_16 : mLk 39 16 = some (.getfield 35, 3) := rfl
theorem c_39_19 : mLk 39 19 = some (.baload, 1) := rfl
theorem c_39_20 : mLk 39 20 = some (.sipush 255, 3) := rfl
theorem c_39_24 : mLk 39 24 = some (.goto 4, 3) := rfl
theorem c_40_0 : mLk 40 0 = some (.aload_n 0, 1) := rfl
theorem c_40_1 : mLk 40 1 = some (.getfield 11, 3) := rfl
theorem c_40_4 : mLk 40 4 = some (.iload_n 3, 1) := rfl
theorem c_40_5 : mLk 40 5 = some (.iaload, 1) := rfl
theorem c_40_6 : mLk 40 6 = some (.tableswitch 343 0 7 #[46, 85, 160, 199, 250, 271, 343, 292], 46) := rfl
theorem c_40_52 : mLk 40 52 = some (.aload_n 0, 1) := rfl
theorem c_40_53 : mLk 40 53 = some (.getfield 11, 3) := rfl
theorem c_40_56 : mLk 40 56 = some (.iload_n 3, 1) := rfl
theorem c_40_57 : mLk 40 57 = some (.iconst 1, 1) := rfl
theorem c_40_58 : mLk 40 58 = some (.iadd, 1) := rfl
theorem c_40_59 : mLk 40 59 = some (.aload_n 1, 1) := rfl
theorem c_40_60 : mLk 40 60 = some (.aload_n 2, 1) := rfl
theorem c_40_61 : mLk 40 61 = some (.getfield 68, 3) := rfl
theorem c_40_64 : mLk 40 64 = some (.iconst 1, 1) := rfl
theorem c_40_65 : mLk 40 65 = some (.isub, 1) := rfl
theorem c_40_66 : mLk 40 66 = some (.invokevirtual 73, 3) := rfl
theorem c_40_69 : mLk 40 69 = some (.iastore, 1) := rfl
theorem c_40_70 : mLk 40 70 = some (.aload_n 0, 1) := rfl
theorem c_40_71 : mLk 40 71 = some (.getfield 11, 3) := rfl
theorem c_40_74 : mLk 40 74 = some (.iload_n 3, 1) := rfl
theorem c_40_75 : mLk 40 75 = some (.iconst 2, 1) := rfl
theorem c_40_76 : mLk 40 76 = some (.iadd, 1) := rfl
theorem c_40_77 : mLk 40 77 = some (.aload_n 1, 1) := rfl
theorem c_40_78 : mLk 40 78 = some (.aload_n 2, 1) := rfl
theorem c_40_79 : mLk 40 79 = some (.getfield 77, 3) := rfl
theorem c_40_82 : mLk 40 82 = some (.iconst 1, 1) := rfl
theorem c_40_83 : mLk 40 83 = some (.isub, 1) := rfl
theorem c_40_84 : mLk 40 84 = some (.invokevirtual 73, 3) := rfl
theorem c_40_87 : mLk 40 87 = some (.iastore, 1) := rfl
theorem c_40_88 : mLk 40 88 = some (.goto 261, 3) := rfl
theorem c_40_91 : mLk 40 91 = some (.aload_n 0, 1) := rfl
theorem c_40_92 : mLk 40 92 = some (.getfield 11, 3) := rfl
theorem c_40_95 : mLk 40 95 = some (.iload_n 3, 1) := rfl
theorem c_40_96 : mLk 40 96 = some (.iconst 1, 1) := rfl
theorem c_40_97 : mLk 40 97 = some (.iadd, 1) := rfl
theorem c_40_98 : mLk 40 98 = some (.aload_n 1, 1) := rfl
theorem c_40_99 : mLk 40 99 = some (.aload_n 2, 1) := rfl
theorem c_40_100 : mLk 40 100 = some (.getfield 80, 3) := rfl
theorem c_40_103 : mLk 40 103 = some (.iconst 1, 1) := rfl
theorem c_40_104 : mLk 40 104 = some (.isub, 1) := rfl
theorem c_40_105 : mLk 40 105 = some (.invokevirtual 73, 3) := rfl
theorem c_40_108 : mLk 40 108 = some (.iastore, 1) := rfl
theorem c_40_109 : mLk 40 109 = some (.aload_n 0, 1) := rfl
theorem c_40_110 : mLk 40 110 = some (.getfield 11, 3) := rfl
theorem c_40_113 : mLk 40 113 = some (.iload_n 3, 1) := rfl
theorem c_40_114 : mLk 40 114 = some (.iconst 2, 1) := rfl
theorem c_40_115 : mLk 40 115 = some (.iadd, 1) := rfl
theorem c_40_116 : mLk 40 116 = some (.aload_n 1, 1) := rfl
theorem c_40_117 : mLk 40 117 = some (.aload_n 2, 1) := rfl
theorem c_40_118 : mLk 40 118 = some (.getfield 77, 3) := rfl
theorem c_40_121 : mLk 40 121 = some (.iconst 1, 1) := rfl
theorem c_40_122 : mLk 40 122 = some (.isub, 1) := rfl
theorem c_40_123 : mLk 40 123 = some (.invokevirtual 73, 3) := rfl
theorem c_40_126 : mLk 40 126 = some (.iastore, 1) := rfl
theorem c_40_127 : mLk 40 127 = some (.aload_n 0, 1) := rfl
theorem c_40_128 : mLk 40 128 = some (.getfield 11, 3) := rfl
theorem c_40_131 : mLk 40 131 = some (.iload_n 3, 1) := rfl
theorem c_40_132 : mLk 40 132 = some (.iconst 3, 1) := rfl
theorem c_40_133 : mLk 40 133 = some (.iadd, 1) := rfl
theorem c_40_134 : mLk 40 134 = some (.aload_n 1, 1) := rfl
theorem c_40_135 : mLk 40 135 = some (.aload_n 2, 1) := rfl
theorem c_40_136 : mLk 40 136 = some (.getfield 77, 3) := rfl
theorem c_40_139 : mLk 40 139 = some (.iconst 1, 1) := rfl
theorem c_40_140 : mLk 40 140 = some (.isub, 1) := rfl
theorem c_40_141 : mLk 40 141 = some (.invokevirtual 73, 3) := rfl
theorem c_40_144 : mLk 40 144 = some (.iastore, 1) := rfl
theorem c_40_145 : mLk 40 145 = some (.aload_n 0, 1) := rfl
theorem c_40_146 : mLk 40 146 = some (.getfield 11, 3) := rfl
theorem c_40_149 : mLk 40 149 = some (.iload_n 3, 1) := rfl
theorem c_40_150 : mLk 40 150 = some (.iconst 4, 1) := rfl
theorem c_40_151 : mLk 40 151 = some (.iadd, 1) := rfl
theorem c_40_152 : mLk 40 152 = some (.aload_n 1, 1) := rfl
theorem c_40_153 : mLk 40 153 = some (.aload_n 2, 1) := rfl
theorem c_40_154 : mLk 40 154 = some (.getfield 77, 3) := rfl
theorem c_40_157 : mLk 40 157 = some (.iconst 1, 1) := rfl
theorem c_40_158 : mLk 40 158 = some (.isub, 1) := rfl
theorem c_40_159 : mLk 40 159 = some (.invokevirtual 73, 3) := rfl
theorem c_40_162 : mLk 40 162 = some (.iastore, 1) := rfl
theorem c_40_163 : mLk 40 163 = some (.goto 186, 3) := rfl
theorem c_40_166 : mLk 40 166 = some (.aload_n 0, 1) := rfl
theorem c_40_167 : mLk 40 167 = some (.getfield 11, 3) := rfl
theorem c_40_170 : mLk 40 170 = some (.iload_n 3, 1) := rfl
theorem c_40_171 : mLk 40 171 = some (.iconst 1, 1) := rfl
theorem c_40_172 : mLk 40 172 = some (.iadd, 1) := rfl
theorem c_40_173 : mLk 40 173 = some (.aload_n 1, 1) := rfl
theorem c_40_174 : mLk 40 174 = some (.aload_n 2, 1) := rfl
theorem c_40_175 : mLk 40 175 = some (.getfield 77, 3) := rfl
theorem c_40_178 : mLk 40 178 = some (.iconst 1, 1) := rfl
theorem c_40_179 : mLk 40 179 = some (.isub, 1) := rfl
theorem c_40_180 : mLk 40 180 = some (.invokevirtual 73, 3) := rfl
theorem c_40_183 : mLk 40 183 = some (.iastore, 1) := rfl
theorem c_40_184 : mLk 40 184 = some (.aload_n 0, 1) := rfl
theorem c_40_185 : mLk 40 185 = some (.getfield 11, 3) := rfl
theorem c_40_188 : mLk 40 188 = some (.iload_n 3, 1) := rfl
theorem c_40_189 : mLk 40 189 = some (.iconst 2, 1) := rfl
theorem c_40_190 : mLk 40 190 = some (.iadd, 1) := rfl
theorem c_40_191 : mLk 40 191 = some (.aload_n 1, 1) := rfl
theorem c_40_192 : mLk 40 192 = some (.aload_n 2, 1) := rfl
theorem c_40_193 : mLk 40 193 = some (.getfield 77, 3) := rfl
theorem c_40_196 : mLk 40 196 = some (.iconst 1, 1) := rfl
theorem c_40_197 : mLk 40 197 = some (.isub, 1) := rfl
theorem c_40_198 : mLk 40 198 = some (.invokevirtual 73, 3) := rfl
theorem c_40_201 : mLk 40 201 = some (.iastore, 1) := rfl
theorem c_40_202 : mLk 40 202 = some (.goto 147, 3) := rfl
theorem c_40_205 : mLk 40 205 = some (.aload_n 0, 1) := rfl
theorem c_40_206 : mLk 40 206 = some (.getfield 11, 3) := rfl
theorem c_40_209 : mLk 40 209 = some (.iload_n 3, 1) := rfl
theorem c_40_210 : mLk 40 210 = some (.iconst 1, 1) := rfl
theorem c_40_211 : mLk 40 211 = some (.iadd, 1) := rfl
theorem c_40_212 : mLk 40 212 = some (.aload_n 1, 1) := rfl
theorem c_40_213 : mLk 40 213 = some (.aload_n 2, 1) := rfl
theorem c_40_214 : mLk 40 214 = some (.getfield 77, 3) := rfl
theorem c_40_217 : mLk 40 217 = some (.iconst 1, 1) := rfl
theorem c_40_218 : mLk 40 218 = some (.isub, 1) := rfl
theorem c_40_219 : mLk 40 219 = some (.invokevirtual 73, 3) := rfl
theorem c_40_222 : mLk 40 222 = some (.iastore, 1) := rfl
theorem c_40_223 : mLk 40 223 = some (.aload_n 0, 1) := rfl
theorem c_40_224 : mLk 40 224 = some (.getfield 11, 3) := rfl
theorem c_40_227 : mLk 40 227 = some (.iload_n 3, 1) := rfl
theorem c_40_228 : mLk 40 228 = some (.iconst 2, 1) := rfl
theorem c_40_229 : mLk 40 229 = some (.iadd, 1) := rfl
theorem c_40_230 : mLk 40 230 = some (.aload_n 1, 1) := rfl
theorem c_40_231 : mLk 40 231 = some (.aload_n 2, 1) := rfl
theorem c_40_232 : mLk 40 232 = some (.getfield 77, 3) := rfl
theorem c_40_235 : mLk 40 235 = some (.iconst 1, 1) := rfl
theorem c_40_236 : mLk 40 236 = some (.isub, 1) := rfl
theorem c_40_237 : mLk 40 237 = some (.invokevirtual 73, 3) := rfl
theorem c_40_240 : mLk 40 240 = some (.iastore, 1) := rfl
theorem c_40_241 : mLk 40 241 = some (.aload_n 0, 1) := rfl
theorem c_40_242 : mLk 40 242 = some (.getfield 11, 3) := rfl
theorem c_40_245 : mLk 40 245 = some (.iload_n 3, 1) := rfl
theorem c_40_246 : mLk 40 246 = some (.iconst 3, 1) := rfl
theorem c_40_247 : mLk 40 247 = some (.iadd, 1) := rfl
theorem c_40_248 : mLk 40 248 = some (.aload_n 1, 1) := rfl
theorem c_40_249 : mLk 40 249 = some (.invokestatic 83, 3) := rfl
theorem c_40_252 : mLk 40 252 = some (.iastore, 1) := rfl
theorem c_40_253 : mLk 40 253 = some (.goto 96, 3) := rfl
theorem c_40_256 : mLk 40 256 = some (.aload_n 0, 1) := rfl
theorem c_40_257 : mLk 40 257 = some (.getfield 11, 3) := rfl
theorem c_40_260 : mLk 40 260 = some (.iload_n 3, 1) := rfl
theorem c_40_261 : mLk 40 261 = some (.iconst 1, 1) := rfl
theorem c_40_262 : mLk 40 262 = some (.iadd, 1) := rfl
theorem c_40_263 : mLk 40 263 = some (.aload_n 1, 1) := rfl
theorem c_40_264 : mLk 40 264 = some (.aload_n 2, 1) := rfl
theorem c_40_265 : mLk 40 265 = some (.getfield 80, 3) := rfl
theorem c_40_268 : mLk 40 268 = some (.iconst 1, 1) := rfl
theorem c_40_269 : mLk 40 269 = some (.isub, 1) := rfl
theorem c_40_270 : mLk 40 270 = some (.invokevirtual 73, 3) := rfl
theorem c_40_273 : mLk 40 273 = some (.iastore, 1) := rfl
theorem c_40_274 : mLk 40 274 = some (.goto 75, 3) := rfl
theorem c_40_277 : mLk 40 277 = some (.aload_n 0, 1) := rfl
theorem c_40_278 : mLk 40 278 = some (.getfield 11, 3) := rfl
theorem c_40_281 : mLk 40 281 = some (.iload_n 3, 1) := rfl
theorem c_40_282 : mLk 40 282 = some (.iconst 1, 1) := rfl
theorem c_40_283 : mLk 40 283 = some (.iadd, 1) := rfl
theorem c_40_284 : mLk 40 284 = some (.aload_n 1, 1) := rfl
theorem c_40_285 : mLk 40 285 = some (.aload_n 2, 1) := rfl
theorem c_40_286 : mLk 40 286 = some (.getfield 77, 3) := rfl
theorem c_40_289 : mLk 40 289 = some (.iconst 1, 1) := rfl
theorem c_40_290 : mLk 40 290 = some (.isub, 1) := rfl
theorem c_40_291 : mLk 40 291 = some (.invokevirtual 73, 3) := rfl
theorem c_40_294 : mLk 40 294 = some (.iastore, 1) := rfl
theorem c_40_295 : mLk 40 295 = some (.goto 54, 3) := rfl
theorem c_40_298 : mLk 40 298 = some (.aload_n 0, 1) := rfl
theorem c_40_299 : mLk 40 299 = some (.getfield 11, 3) := rfl
theorem c_40_302 : mLk 40 302 = some (.iload_n 3, 1) := rfl
theorem c_40_303 : mLk 40 303 = some (.iconst 1, 1) := rfl
theorem c_40_304 : mLk 40 304 = some (.iadd, 1) := rfl
theorem c_40_305 : mLk 40 305 = some (.aload_n 1, 1) := rfl
theorem c_40_306 : mLk 40 306 = some (.bipush 40, 2) := rfl
theorem c_40_308 : mLk 40 308 = some (.invokevirtual 73, 3) := rfl
theorem c_40_311 : mLk 40 311 = some (.iastore, 1) := rfl
theorem c_40_312 : mLk 40 312 = some (.aload_n 1, 1) := rfl
theorem c_40_313 : mLk 40 313 = some (.ldc 87, 2) := rfl
theorem c_40_315 : mLk 40 315 = some (.invokevirtual 64, 3) := rfl
theorem c_40_318 : mLk 40 318 = some (.aload_n 0, 1) := rfl
theorem c_40_319 : mLk 40 319 = some (.aload_n 1, 1) := rfl
theorem c_40_320 : mLk 40 320 = some (.aload_n 2, 1) := rfl
theorem c_40_321 : mLk 40 321 = some (.iload 4, 2) := rfl
theorem c_40_323 : mLk 40 323 = some (.iconst 1, 1) := rfl
theorem c_40_324 : mLk 40 324 = some (.iadd, 1) := rfl
theorem c_40_325 : mLk 40 325 = some (.invokevirtual 28, 3) := rfl
theorem c_40_328 : mLk 40 328 = some (.aload_n 1, 1) := rfl
theorem c_40_329 : mLk 40 329 = some (.ldc 89, 2) := rfl
theorem c_40_331 : mLk 40 331 = some (.invokevirtual 64, 3) := rfl
theorem c_40_334 : mLk 40 334 = some (.aload_n 0, 1) := rfl
theorem c_40_335 : mLk 40 335 = some (.getfield 11, 3) := rfl
theorem c_40_338 : mLk 40 338 = some (.iload_n 3, 1) := rfl
theorem c_40_339 : mLk 40 339 = some (.iconst 2, 1) := rfl
theorem c_40_340 : mLk 40 340 = some (.iadd, 1) := rfl
theorem c_40_341 : mLk 40 341 = some (.aload_n 0, 1) := rfl
theorem c_40_342 : mLk 40 342 = some (.getfield 19, 3) := rfl
theorem c_40_345 : mLk 40 345 = some (.iastore, 1) := rfl
theorem c_40_346 : mLk 40 346 = some (.goto 3, 3) := rfl
theorem kf_2_15 : a_lk (kF 2) 15 = some (2, 6) := rfl
theorem kf_2_22 : a_lk (kF 2) 22 = some (2, 8) := rfl
theorem kf_2_25 : a_lk (kF 2) 25 = some (2, 9) := rfl
theorem kf_2_28 : a_lk (kF 2) 28 = some (2, 10) := rfl
theorem kf_3_11 : a_lk (kF 3) 11 = some (3, 0) := rfl
theorem kf_3_19 : a_lk (kF 3) 19 = some (3, 2) := rfl
theorem kf_3_68 : a_lk (kF 3) 68 = some (2, 1) := rfl
theorem kf_3_77 : a_lk (kF 3) 77 = some (2, 0) := rfl
theorem kf_3_80 : a_lk (kF 3) 80 = some (2, 2) := rfl
theorem km_2_101 : a_lk (kM 2) 101 = some (0, 8) := rfl
theorem km_2_41 : a_lk (kM 2) 41 = some (0, 30) := rfl
theorem km_2_44 : a_lk (kM 2) 44 = some (0, 15) := rfl
theorem km_2_50 : a_lk (kM 2) 50 = some (0, 3) := rfl
theorem km_2_56 : a_lk (kM 2) 56 = some (0, 10) := rfl
theorem km_2_60 : a_lk (kM 2) 60 = some (0, 31) := rfl
theorem km_2_64 : a_lk (kM 2) 64 = some (0, 7) := rfl
theorem km_2_68 : a_lk (kM 2) 68 = some (0, 2) := rfl
theorem km_2_71 : a_lk (kM 2) 71 = some (0, 33) := rfl
theorem km_2_77 : a_lk (kM 2) 77 = some (0, 11) := rfl
theorem km_3_28 : a_lk (kM 3) 28 = some (0, 41) := rfl
theorem km_3_42 : a_lk (kM 3) 42 = some (0, 3) := rfl
theorem km_3_51 : a_lk (kM 3) 51 = some (0, 7) := rfl
theorem km_3_64 : a_lk (kM 3) 64 = some (0, 11) := rfl
theorem km_3_73 : a_lk (kM 3) 73 = some (0, 8) := rfl
set_option maxRecDepth 100000 in
set_option maxHeartbeats 4000000 in
theorem s_33 {sc : List Int32} {e : Int} {d u P Q A : Nat} {c : ME} {a2 : Int} {Z : AR → Prop} (hI : Iv u e P Q c) (hA : A = 13 ∨ A = 25) (ha2 : 0 ≤ a2 ∧ a2 ≤ 100) (hq0 : (a2 ≠ 0) ∨ (c A 0 ≤ 5)) (hq1 : (a2 ≠ 1) ∨ (c A 1 ≤ 3)) (hq2 : (a2 ≠ 2) ∨ (c A 2 ≤ 3)) (K : ∀ (c2 : ME), Iv u e P Q c2 → (∀ (a : Nat) (j : Int), ¬ ((a = 1 ∧ j = 2) ∨ (a = 1 ∧ j = 4) ∨ (a = 1 ∧ j = 5) ∨ (a = A ∧ j = 0) ∨ (a = A ∧ j = 1) ∨ (a = A ∧ j = 2) ∨ (a = A ∧ j = 3) ∨ a = (A + 1) ∨ a = (A + 2) ∨ a = (A + 3)) → c2 a j = c a j) → Z (.inl (none), Wd P Q P P c2, 0, 0)) : Wp sc (d + 11) 33 0 [(0, .ref A), (1, .ref 1), (2, vi a2)] [] (Wd P Q P P c) 0 0 Z := by
  have hP := iv_P hI
  have hQ := iv_Q hI
  have h_1 := ir_p0_0 hI hA
  have h_2 := ir_p0_1 hI hA
  have h_3 := ir_p0_2 hI hA
  refine q_iload_n c_33_0 rfl ?_
  by_cases h_4 : a2 = 0
  · skip
    refine v_tsw_i (t := 28) 0 c_33_1 (by omega) (by decide) rfl (by decide) (q_aload_n c_33_28 rfl (q_aload_n c_33_29 rfl (v_gr (t := (A + 1)) c_33_30 kf_2_15 (ck_p0 hA) (a68z hA) rfl (q_aload_n c_33_33 rfl (v_gi (z := 0) (v := c A 0) c_33_34 kf_2_81 (ck_p0 hA) (a68z hA) rfl rfl rfl (q_iconst c_33_37 (v_imul (v := 4 * c A 0) c_33_38 (by first | exact q_5927377c3 | omega) ?_)))))))
    refine q_iconst c_33_39 (v_sip c_33_40 (by decide) (q_call c_33_43 rfl rfl rfl (q_iload_n c_32_0 rfl (q_istore c_32_1 (nb_ rfl) (q_iload c_32_3 rfl (q_iload_n c_32_5 rfl (q_iload_n c_32_6 rfl ?_)))))))
    refine v_iadd (v := 4 * c A 0 + 4) c_32_7 rfl (v_ic_ge_f (t := 34) c_32_8 rfl ⟨by first | exact q_4cd384ca3 h_1 | omega, by first | exact q_b942bf61d | omega, by first | exact q_58e0b19e1 h_1 | omega⟩ (q_iload c_32_11 rfl (q_aload_n c_32_13 rfl (v_al c_32_14 (ck_p1 hA) (a68 hA rfl) (by decide) (v_ic_ge_f (t := 34) c_32_15 rfl ⟨by first | exact q_4cd384ca3 h_1 | omega, by first | exact q_e06e21d96 h_4 ha2 hq0 | omega, by decide⟩ (q_aload_n c_32_18 rfl (q_iload c_32_19 rfl ?_)))))))
    refine q_aload_n c_32_21 rfl (q_iload c_32_22 rfl (v_cv c_32_24 km_2_101 rfl rfl (nb_ rfl) ⟨⟨rfl, rfl⟩, nb_ rfl, rfl⟩ (nb_ rfl) (nb_ rfl) (s_8 (a1 := 999) hI (show (-1) ≤ 999 ∧ 999 ≤ 9999 from ⟨by decide, by decide⟩) (fun c_5 y_8 hI_6 hF_7 hy_8 h_9 => (bk_inl (v_is c_32_27 (ck_p1 hA) (a68 hA rfl) (by decide) ⟨by first | exact q_989182599 h_1 | omega, by first | exact q_e06e21d96 h_4 ha2 hq0 | omega⟩ (v_iinc (v := 4 * c A 0 + 1) c_32_28 rfl (nb_ rfl) rfl (q_goto (t := 3) c_32_31 rfl (q_iload c_32_3 rfl ?_)))))))))
    refine q_iload_n c_32_5 rfl (q_iload_n c_32_6 rfl (v_iadd (v := 4 * c A 0 + 4) c_32_7 rfl (v_ic_ge_f (t := 34) c_32_8 rfl ⟨by first | exact q_37fa5c0f7 h_1 | omega, by first | exact q_1e5bb51b5 | omega, by first | exact q_58e0b19e1 h_1 | omega⟩ (q_iload c_32_11 rfl (q_aload_n c_32_13 rfl (v_al c_32_14 (ck_p1 hA) (a68 hA rfl) (by decide) (v_ic_ge_f (t := 34) c_32_15 rfl ⟨by first | exact q_37fa5c0f7 h_1 | omega, by first | exact q_fb29ecb06 h_4 ha2 hq0 | omega, by decide⟩ ?_)))))))
    refine q_aload_n c_32_18 rfl (q_iload c_32_19 rfl (q_aload_n c_32_21 rfl (q_iload c_32_22 rfl ?_)))
    have hI_10 := iw_p1 (j := 4 * c A 0) (v := y_8) hI_6 hA ⟨hy_8.1, by first | exact q_dec870c4c h_9 | omega⟩
    refine v_cv c_32_24 km_2_101 rfl rfl (nb_ rfl) ⟨⟨rfl, rfl⟩, nb_ rfl, rfl⟩ (nb_ rfl) (nb_ rfl) (s_8 (a1 := 999) hI_10 (show (-1) ≤ 999 ∧ 999 ≤ 9999 from ⟨by decide, by decide⟩) (fun c_11 y_14 hI_12 hF_13 hy_14 h_15 => (bk_inl (v_is c_32_27 (ck_p1 hA) (a68 hA rfl) (by decide) ⟨by first | exact q_5c7b70196 h_1 | omega, by first | exact q_fb29ecb06 h_4 ha2 hq0 | omega⟩ (v_iinc (v := 4 * c A 0 + 2) c_32_28 rfl (nb_ rfl) (by first | exact q_5ecad2307 | omega) (q_goto (t := 3) c_32_31 rfl (q_iload c_32_3 rfl (q_iload_n c_32_5 rfl (q_iload_n c_32_6 rfl ?_)))))))))
    refine v_iadd (v := 4 * c A 0 + 4) c_32_7 rfl (v_ic_ge_f (t := 34) c_32_8 rfl ⟨by first | exact q_b7e04cbb8 h_1 | omega, by first | exact q_a16cada9f | omega, by first | exact q_58e0b19e1 h_1 | omega⟩ (q_iload c_32_11 rfl (q_aload_n c_32_13 rfl (v_al c_32_14 (ck_p1 hA) (a68 hA rfl) (by decide) (v_ic_ge_f (t := 34) c_32_15 rfl ⟨by first | exact q_b7e04cbb8 h_1 | omega, by first | exact q_975b2c00c h_4 ha2 hq0 | omega, by decide⟩ (q_aload_n c_32_18 rfl (q_iload c_32_19 rfl ?_)))))))
    refine q_aload_n c_32_21 rfl (q_iload c_32_22 rfl ?_)
    have hI_16 := iw_p1 (j := 4 * c A 0 + 1) (v := y_14) hI_12 hA ⟨hy_14.1, by first | exact q_dec870c4c h_15 | omega⟩
    refine v_cv c_32_24 km_2_101 rfl rfl (nb_ rfl) ⟨⟨rfl, rfl⟩, nb_ rfl, rfl⟩ (nb_ rfl) (nb_ rfl) (s_8 (a1 := 999) hI_16 (show (-1) ≤ 999 ∧ 999 ≤ 9999 from ⟨by decide, by decide⟩) (fun c_17 y_20 hI_18 hF_19 hy_20 h_21 => (bk_inl (v_is c_32_27 (ck_p1 hA) (a68 hA rfl) (by decide) ⟨by first | exact q_5a453c95b h_1 | omega, by first | exact q_975b2c00c h_4 ha2 hq0 | omega⟩ (v_iinc (v := 4 * c A 0 + 3) c_32_28 rfl (nb_ rfl) (by first | exact q_640c18eed | omega) (q_goto (t := 3) c_32_31 rfl (q_iload c_32_3 rfl (q_iload_n c_32_5 rfl (q_iload_n c_32_6 rfl ?_)))))))))
    refine v_iadd (v := 4 * c A 0 + 4) c_32_7 rfl (v_ic_ge_f (t := 34) c_32_8 rfl ⟨by first | exact q_6d422924b h_1 | omega, by first | exact q_550340cc7 | omega, by first | exact q_58e0b19e1 h_1 | omega⟩ (q_iload c_32_11 rfl (q_aload_n c_32_13 rfl (v_al c_32_14 (ck_p1 hA) (a68 hA rfl) (by decide) (v_ic_ge_f (t := 34) c_32_15 rfl ⟨by first | exact q_6d422924b h_1 | omega, by first | exact q_a04272509 h_4 ha2 hq0 | omega, by decide⟩ (q_aload_n c_32_18 rfl (q_iload c_32_19 rfl ?_)))))))
    refine q_aload_n c_32_21 rfl (q_iload c_32_22 rfl ?_)
    have hI_22 := iw_p1 (j := 4 * c A 0 + 2) (v := y_20) hI_18 hA ⟨hy_20.1, by first | exact q_dec870c4c h_21 | omega⟩
    refine v_cv c_32_24 km_2_101 rfl rfl (nb_ rfl) ⟨⟨rfl, rfl⟩, nb_ rfl, rfl⟩ (nb_ rfl) (nb_ rfl) (s_8 (a1 := 999) hI_22 (show (-1) ≤ 999 ∧ 999 ≤ 9999 from ⟨by decide, by decide⟩) (fun c_23 y_26 hI_24 hF_25 hy_26 h_27 => (bk_inl (v_is c_32_27 (ck_p1 hA) (a68 hA rfl) (by decide) ⟨by first | exact q_012aff489 h_1 | omega, by first | exact q_a04272509 h_4 ha2 hq0 | omega⟩ (v_iinc (v := 4 * c A 0 + 4) c_32_28 rfl (nb_ rfl) (by first | exact q_1080d7e0d | omega) (Wp_ls [(5, vi (4 * c A 0 + 4)), (0, .ref 1), (1, .ref (A + 1)), (2, vi (4 * c A 0)), (3, vi 4), (4, vi 999)] (lsub_cons rfl (lsub_cons rfl (lsub_cons rfl (lsub_cons rfl (lsub_cons rfl (lsub_cons rfl lsub_nil)))))) (q_goto (t := 3) c_32_31 rfl (q_iload c_32_3 rfl (q_iload_n c_32_5 rfl ?_)))))))))
    refine q_iload_n c_32_6 rfl (v_iadd (v := 4 * c A 0 + 4) c_32_7 rfl (v_ic_ge_t (t := 34) c_32_8 rfl ⟨by first | exact q_800e899ee h_1 | omega, by first | exact q_aeeb529e2 | omega, by first | exact q_58e0b19e1 h_1 | omega⟩ (q_vret rfl rfl (bk_inl (q_aload_n c_33_46 rfl (q_dup c_33_47 rfl ?_))))))
    have kn_28 : Hid (c_5 A 0 = c A 0) := hF_7 A 0 (qn_014d425e1 hA)
    have kn_29 : Hid (c_11 A 0 = c A 0) := (hF_13 A 0 (qn_014d425e1 hA)).trans ((up_c (p0p rfl)).trans (hid kn_28))
    have kn_30 : Hid (c_17 A 0 = c A 0) := (hF_19 A 0 (qn_014d425e1 hA)).trans ((up_c (p0p rfl)).trans (hid kn_29))
    have kn_31 : Hid (c_23 A 0 = c A 0) := (hF_25 A 0 (qn_014d425e1 hA)).trans ((up_c (p0p rfl)).trans (hid kn_30))
    refine v_gi (z := 0) (v := c A 0) c_33_48 kf_2_81 (ck_p0 hA) (a68z hA) rfl rfl ((up_c (p0p rfl)).trans (hid kn_31)) (q_iconst c_33_51 (v_iadd (v := c A 0 + 1) c_33_52 rfl (v_pi (z := 0) c_33_53 kf_2_81 (ck_p0 hA) (a68z hA) rfl rfl rfl (by decide) (q_goto (t := 126) c_33_56 rfl (q_vret rfl rfl ?_)))))
    have hI_32 := iw_p1 (j := 4 * c A 0 + 3) (v := y_26) hI_24 hA ⟨hy_26.1, by first | exact q_dec870c4c h_27 | omega⟩
    have hI_33 := iw_p0_0 (v := c A 0 + 1) hI_32 hA ⟨by first | exact rgp_l h_1.1 (by decide) | omega, by first | exact q_76c061441 h_4 ha2 hq0 | omega⟩
    exact K (up (up c_23 (A + 1) (4 * c A 0 + 3) y_26) A 0 (c A 0 + 1)) hI_33 (fun a j hm => (up_b (Decidable.or_iff_not_imp_left.mpr (fun h1 h2 => hm (Or.inr (Or.inr (Or.inr (Or.inl ⟨Decidable.not_not.mp h1, h2⟩))))))).trans ((up_b (Decidable.or_iff_not_imp_left.mpr (fun h1 h2 => hm (Or.inr (Or.inr (Or.inr (Or.inr (Or.inr (Or.inr (Or.inr (Or.inl (Decidable.not_not.mp h1)))))))))))).trans ((hF_25 a j (qv_23f7cbea6 hm)).trans ((up_b (Decidable.or_iff_not_imp_left.mpr (fun h1 h2 => hm (Or.inr (Or.inr (Or.inr (Or.inr (Or.inr (Or.inr (Or.inr (Or.inl (Decidable.not_not.mp h1)))))))))))).trans ((hF_19 a j (qv_23f7cbea6 hm)).trans ((up_b (Decidable.or_iff_not_imp_left.mpr (fun h1 h2 => hm (Or.inr (Or.inr (Or.inr (Or.inr (Or.inr (Or.inr (Or.inr (Or.inl (Decidable.not_not.mp h1)))))))))))).trans ((hF_13 a j (qv_23f7cbea6 hm)).trans ((up_b (Decidable.or_iff_not_imp_left.mpr (fun h1 h2 => hm (Or.inr (Or.inr (Or.inr (Or.inr (Or.inr (Or.inr (Or.inr (Or.inl (Decidable.not_not.mp h1)))))))))))).trans (hF_7 a j (qv_23f7cbea6 hm))))))))))
  by_cases h_34 : a2 = 1
  · skip
    refine v_tsw_i (t := 59) 1 rfl (by omega) (by decide) rfl (by decide) (q_aload_n c_33_59 rfl (q_aload_n c_33_60 rfl (v_gr (t := (A + 2)) c_33_61 kf_2_19 (ck_p0 hA) (a68z hA) rfl (q_aload_n c_33_64 rfl (v_gi (z := 1) (v := c A 1) c_33_65 kf_2_84 (ck_p0 hA) (a68z hA) rfl rfl rfl (q_iconst c_33_68 (v_imul (v := 3 * c A 1) c_33_69 (by first | exact q_7c70686be | omega) ?_)))))))
    refine q_iconst c_33_70 (v_bip c_33_71 (by decide) (q_call c_33_73 rfl rfl rfl (q_iload_n c_32_0 rfl (q_istore c_32_1 (nb_ rfl) (q_iload c_32_3 rfl (q_iload_n c_32_5 rfl (q_iload_n c_32_6 rfl ?_)))))))
    refine v_iadd (v := 3 * c A 1 + 3) c_32_7 rfl (v_ic_ge_f (t := 34) c_32_8 rfl ⟨by first | exact q_479f6587b h_2 | omega, by first | exact q_e86648d44 | omega, by first | exact q_7b3d3c593 h_2 | omega⟩ (q_iload c_32_11 rfl (q_aload_n c_32_13 rfl (v_al c_32_14 (ck_p2 hA) (a68 hA rfl) (by decide) (v_ic_ge_f (t := 34) c_32_15 rfl ⟨by first | exact q_479f6587b h_2 | omega, by first | exact q_9dec92735 h_34 hq1 | omega, by decide⟩ (q_aload_n c_32_18 rfl (q_iload c_32_19 rfl ?_)))))))
    refine q_aload_n c_32_21 rfl (q_iload c_32_22 rfl (v_cv c_32_24 km_2_101 rfl rfl (nb_ rfl) ⟨⟨rfl, rfl⟩, nb_ rfl, rfl⟩ (nb_ rfl) (nb_ rfl) (s_8 (a1 := 10) hI (show (-1) ≤ 10 ∧ 10 ≤ 9999 from ⟨by decide, by decide⟩) (fun c_35 y_38 hI_36 hF_37 hy_38 h_39 => (bk_inl (v_is c_32_27 (ck_p2 hA) (a68 hA rfl) (by decide) ⟨by first | exact q_d745e1084 h_2 | omega, by first | exact q_9dec92735 h_34 hq1 | omega⟩ (v_iinc (v := 3 * c A 1 + 1) c_32_28 rfl (nb_ rfl) rfl (q_goto (t := 3) c_32_31 rfl (q_iload c_32_3 rfl ?_)))))))))
    refine q_iload_n c_32_5 rfl (q_iload_n c_32_6 rfl (v_iadd (v := 3 * c A 1 + 3) c_32_7 rfl (v_ic_ge_f (t := 34) c_32_8 rfl ⟨by first | exact q_c1fe2d201 h_2 | omega, by first | exact q_b897c897a | omega, by first | exact q_7b3d3c593 h_2 | omega⟩ (q_iload c_32_11 rfl (q_aload_n c_32_13 rfl (v_al c_32_14 (ck_p2 hA) (a68 hA rfl) (by decide) (v_ic_ge_f (t := 34) c_32_15 rfl ⟨by first | exact q_c1fe2d201 h_2 | omega, by first | exact q_222845f48 h_34 hq1 | omega, by decide⟩ ?_)))))))
    refine q_aload_n c_32_18 rfl (q_iload c_32_19 rfl (q_aload_n c_32_21 rfl (q_iload c_32_22 rfl ?_)))
    have hI_40 := iw_p2 (j := 3 * c A 1) (v := y_38) hI_36 hA ⟨hy_38.1, by first | exact q_c41f06fcf h_39 | omega⟩
    refine v_cv c_32_24 km_2_101 rfl rfl (nb_ rfl) ⟨⟨rfl, rfl⟩, nb_ rfl, rfl⟩ (nb_ rfl) (nb_ rfl) (s_8 (a1 := 10) hI_40 (show (-1) ≤ 10 ∧ 10 ≤ 9999 from ⟨by decide, by decide⟩) (fun c_41 y_44 hI_42 hF_43 hy_44 h_45 => (bk_inl (v_is c_32_27 (ck_p2 hA) (a68 hA rfl) (by decide) ⟨by first | exact q_27045273b h_2 | omega, by first | exact q_222845f48 h_34 hq1 | omega⟩ (v_iinc (v := 3 * c A 1 + 2) c_32_28 rfl (nb_ rfl) (by first | exact q_5c3211fb0 | omega) (q_goto (t := 3) c_32_31 rfl (q_iload c_32_3 rfl (q_iload_n c_32_5 rfl (q_iload_n c_32_6 rfl ?_)))))))))
    refine v_iadd (v := 3 * c A 1 + 3) c_32_7 rfl (v_ic_ge_f (t := 34) c_32_8 rfl ⟨by first | exact q_87a9919dd h_2 | omega, by first | exact q_92e2c60a6 | omega, by first | exact q_7b3d3c593 h_2 | omega⟩ (q_iload c_32_11 rfl (q_aload_n c_32_13 rfl (v_al c_32_14 (ck_p2 hA) (a68 hA rfl) (by decide) (v_ic_ge_f (t := 34) c_32_15 rfl ⟨by first | exact q_87a9919dd h_2 | omega, by first | exact q_82d1a1cd7 h_34 hq1 | omega, by decide⟩ (q_aload_n c_32_18 rfl (q_iload c_32_19 rfl ?_)))))))
    refine q_aload_n c_32_21 rfl (q_iload c_32_22 rfl ?_)
    have hI_46 := iw_p2 (j := 3 * c A 1 + 1) (v := y_44) hI_42 hA ⟨hy_44.1, by first | exact q_c41f06fcf h_45 | omega⟩
    refine v_cv c_32_24 km_2_101 rfl rfl (nb_ rfl) ⟨⟨rfl, rfl⟩, nb_ rfl, rfl⟩ (nb_ rfl) (nb_ rfl) (s_8 (a1 := 10) hI_46 (show (-1) ≤ 10 ∧ 10 ≤ 9999 from ⟨by decide, by decide⟩) (fun c_47 y_50 hI_48 hF_49 hy_50 h_51 => (bk_inl (v_is c_32_27 (ck_p2 hA) (a68 hA rfl) (by decide) ⟨by first | exact q_796717b5a h_2 | omega, by first | exact q_82d1a1cd7 h_34 hq1 | omega⟩ (v_iinc (v := 3 * c A 1 + 3) c_32_28 rfl (nb_ rfl) (by first | exact q_acb4479e7 | omega) (q_goto (t := 3) c_32_31 rfl (q_iload c_32_3 rfl (q_iload_n c_32_5 rfl (q_iload_n c_32_6 rfl ?_)))))))))
    refine v_iadd (v := 3 * c A 1 + 3) c_32_7 rfl (v_ic_ge_t (t := 34) c_32_8 rfl ⟨by first | exact q_10ca3dd2a h_2 | omega, by first | exact q_090c47ebb | omega, by first | exact q_7b3d3c593 h_2 | omega⟩ (q_vret rfl rfl (bk_inl (q_aload_n c_33_76 rfl (q_dup c_33_77 rfl ?_)))))
    have kn_52 : Hid (c_35 A 1 = c A 1) := hF_37 A 1 (qn_014d425e1 hA)
    have kn_53 : Hid (c_41 A 1 = c A 1) := (hF_43 A 1 (qn_014d425e1 hA)).trans ((up_c (p0p rfl)).trans (hid kn_52))
    have kn_54 : Hid (c_47 A 1 = c A 1) := (hF_49 A 1 (qn_014d425e1 hA)).trans ((up_c (p0p rfl)).trans (hid kn_53))
    refine v_gi (z := 1) (v := c A 1) c_33_78 kf_2_84 (ck_p0 hA) (a68z hA) rfl rfl ((up_c (p0p rfl)).trans (hid kn_54)) (q_iconst c_33_81 (v_iadd (v := c A 1 + 1) c_33_82 rfl (v_pi (z := 1) c_33_83 kf_2_84 (ck_p0 hA) (a68z hA) rfl rfl rfl (by decide) (q_goto (t := 126) c_33_86 rfl (q_vret rfl rfl ?_)))))
    have hI_55 := iw_p2 (j := 3 * c A 1 + 2) (v := y_50) hI_48 hA ⟨hy_50.1, by first | exact q_c41f06fcf h_51 | omega⟩
    have hI_56 := iw_p0_1 (v := c A 1 + 1) hI_55 hA ⟨by first | exact rgp_l h_2.1 (by decide) | omega, by first | exact q_2e94b5862 h_34 hq1 | omega⟩
    exact K (up (up c_47 (A + 2) (3 * c A 1 + 2) y_50) A 1 (c A 1 + 1)) hI_56 (fun a j hm => (up_b (Decidable.or_iff_not_imp_left.mpr (fun h1 h2 => hm (Or.inr (Or.inr (Or.inr (Or.inr (Or.inl ⟨Decidable.not_not.mp h1, h2⟩)))))))).trans ((up_b (Decidable.or_iff_not_imp_left.mpr (fun h1 h2 => hm (Or.inr (Or.inr (Or.inr (Or.inr (Or.inr (Or.inr (Or.inr (Or.inr (Or.inl (Decidable.not_not.mp h1))))))))))))).trans ((hF_49 a j (qv_23f7cbea6 hm)).trans ((up_b (Decidable.or_iff_not_imp_left.mpr (fun h1 h2 => hm (Or.inr (Or.inr (Or.inr (Or.inr (Or.inr (Or.inr (Or.inr (Or.inr (Or.inl (Decidable.not_not.mp h1))))))))))))).trans ((hF_43 a j (qv_23f7cbea6 hm)).trans ((up_b (Decidable.or_iff_not_imp_left.mpr (fun h1 h2 => hm (Or.inr (Or.inr (Or.inr (Or.inr (Or.inr (Or.inr (Or.inr (Or.inr (Or.inl (Decidable.not_not.mp h1))))))))))))).trans (hF_37 a j (qv_23f7cbea6 hm))))))))
  by_cases h_57 : a2 = 2
  · skip
    refine v_tsw_i (t := 89) 2 rfl (by omega) (by decide) rfl (by decide) (q_aload_n c_33_89 rfl (q_aload_n c_33_90 rfl (v_gr (t := (A + 3)) c_33_91 kf_2_22 (ck_p0 hA) (a68z hA) rfl (q_aload_n c_33_94 rfl (v_gi (z := 2) (v := c A 2) c_33_95 kf_2_87 (ck_p0 hA) (a68z hA) rfl rfl rfl (q_iconst c_33_98 (q_iconst c_33_99 ?_)))))))
    refine q_call c_33_100 rfl rfl rfl (q_iload_n c_32_0 rfl (q_istore c_32_1 (nb_ rfl) (q_iload c_32_3 rfl (q_iload_n c_32_5 rfl (q_iload_n c_32_6 rfl (v_iadd (v := c A 2 + 1) c_32_7 rfl (v_ic_ge_f (t := 34) c_32_8 rfl ⟨(Int.le_trans (by decide) h_3.1), by first | exact q_3e85f52a4 | omega, by first | exact rgp_h h_3.2 (by decide) | omega⟩ ?_)))))))
    refine q_iload c_32_11 rfl (q_aload_n c_32_13 rfl (v_al c_32_14 (ck_p3 hA) (a68 hA rfl) (by decide) (v_ic_ge_f (t := 34) c_32_15 rfl ⟨(Int.le_trans (by decide) h_3.1), by first | exact q_94361f98f h_57 hq2 | omega, by decide⟩ (q_aload_n c_32_18 rfl (q_iload c_32_19 rfl (q_aload_n c_32_21 rfl (q_iload c_32_22 rfl ?_)))))))
    refine v_cv c_32_24 km_2_101 rfl rfl (nb_ rfl) ⟨⟨rfl, rfl⟩, nb_ rfl, rfl⟩ (nb_ rfl) (nb_ rfl) (s_8 (a1 := 2) hI (show (-1) ≤ 2 ∧ 2 ≤ 9999 from ⟨by decide, by decide⟩) (fun c_58 y_61 hI_59 hF_60 hy_61 h_62 => (bk_inl (v_is c_32_27 (ck_p3 hA) (a68 hA rfl) (by decide) ⟨h_3.1, by first | exact q_94361f98f h_57 hq2 | omega⟩ (v_iinc (v := c A 2 + 1) c_32_28 rfl (nb_ rfl) rfl (q_goto (t := 3) c_32_31 rfl (q_iload c_32_3 rfl (q_iload_n c_32_5 rfl (q_iload_n c_32_6 rfl ?_)))))))))
    refine v_iadd (v := c A 2 + 1) c_32_7 rfl (v_ic_ge_t (t := 34) c_32_8 rfl ⟨by first | exact rgp_l h_3.1 (by decide) | omega, by first | exact q_3bb02af3e | omega, by first | exact rgp_h h_3.2 (by decide) | omega⟩ (q_vret rfl rfl (bk_inl (q_aload_n c_33_103 rfl (q_dup c_33_104 rfl ?_)))))
    have kn_63 : Hid (c_58 A 2 = c A 2) := hF_60 A 2 (qn_014d425e1 hA)
    refine v_gi (z := 2) (v := c A 2) c_33_105 kf_2_87 (ck_p0 hA) (a68z hA) rfl rfl ((up_c (p0p rfl)).trans (hid kn_63)) (q_iconst c_33_108 (v_iadd (v := c A 2 + 1) c_33_109 rfl (v_pi (z := 2) c_33_110 kf_2_87 (ck_p0 hA) (a68z hA) rfl rfl rfl (by decide) (q_goto (t := 126) c_33_113 rfl (q_vret rfl rfl ?_)))))
    have hI_64 := iw_p3 (j := c A 2) (v := y_61) hI_59 hA ⟨hy_61.1, by first | exact q_19afebcac h_62 | omega⟩
    have hI_65 := iw_p0_2 (v := c A 2 + 1) hI_64 hA ⟨by first | exact rgp_l h_3.1 (by decide) | omega, by first | exact q_e2d2fa1b6 h_57 hq2 | omega⟩
    exact K (up (up c_58 (A + 3) (c A 2) y_61) A 2 (c A 2 + 1)) hI_65 (fun a j hm => (up_b (Decidable.or_iff_not_imp_left.mpr (fun h1 h2 => hm (Or.inr (Or.inr (Or.inr (Or.inr (Or.inr (Or.inl ⟨Decidable.not_not.mp h1, h2⟩))))))))).trans ((up_b (Decidable.or_iff_not_imp_left.mpr (fun h1 h2 => hm (Or.inr (Or.inr (Or.inr (Or.inr (Or.inr (Or.inr (Or.inr (Or.inr (Or.inr (Decidable.not_not.mp h1))))))))))))).trans (hF_60 a j (qv_23f7cbea6 hm))))
  refine v_tsw_o (t := 116) rfl (by omega) (by decide) (q_aload_n c_33_116 rfl (q_aload_n c_33_117 rfl (v_bip c_33_118 (by decide) (v_cv c_33_120 km_2_101 rfl rfl (nb_ rfl) ⟨⟨rfl, rfl⟩, nb_ rfl, rfl⟩ (nb_ rfl) (nb_ rfl) (s_8 (a1 := 50) hI (show (-1) ≤ 50 ∧ 50 ≤ 9999 from ⟨by decide, by decide⟩) (fun c_66 y_69 hI_67 hF_68 hy_69 h_70 => (bk_inl (v_pi (z := 3) c_33_123 kf_2_9 (ck_p0 hA) (a68z hA) rfl rfl rfl (by decide) (q_vret rfl rfl ?_)))))))))
  have hI_71 := iw_p0_3 (v := y_69) hI_67 hA ⟨hy_69.1, by first | exact q_9510e3478 h_70 | omega⟩
  exact K (up c_66 A 3 y_69) hI_71 (fun a j hm => (up_b (Decidable.or_iff_not_imp_left.mpr (fun h1 h2 => hm (Or.inr (Or.inr (Or.inr (Or.inr (Or.inr (Or.inr (Or.inl ⟨Decidable.not_not.mp h1, h2⟩)))))))))).trans (hF_68 a j (qv_23f7cbea6 hm)))

set_option maxRecDepth 100000 in
set_option maxHeartbeats 4000000 in
theorem s_34_l {sc : List Int32} {e : Int} {d u P Q A : Nat} {c : ME} {Z : AR → Prop} (hI : Iv u e P Q c) (hA : A = 13 ∨ A = 25) (K : ∀ (c2 : ME), Iv u e P Q c2 → (∀ (a : Nat) (j : Int), ¬ ((a = 1 ∧ j = 2) ∨ (a = 1 ∧ j = 4) ∨ (a = 1 ∧ j = 5) ∨ (a = A ∧ j = 0) ∨ (a = A ∧ j = 1) ∨ (a = A ∧ j = 2) ∨ (a = A ∧ j = 3) ∨ a = (A + 1) ∨ a = (A + 2) ∨ a = (A + 3) ∨ (a = A ∧ j = 4) ∨ (a = A ∧ j = 5) ∨ a = (A + 6) ∨ (a = (A + 7) ∧ j = 4)) → c2 a j = c a j) → Z (.inl (none), Wd P Q P P c2, 0, 0)) : ∀ n : Nat, (∀ (c2 : ME) (v2 : Int), Iv u e P Q c2 → (∀ (a : Nat) (j : Int), ¬ ((a = 1 ∧ j = 2) ∨ (a = 1 ∧ j = 4) ∨ (a = 1 ∧ j = 5) ∨ (a = A ∧ j = 0) ∨ (a = A ∧ j = 1) ∨ (a = A ∧ j = 2) ∨ (a = A ∧ j = 3) ∨ a = (A + 1) ∨ a = (A + 2) ∨ a = (A + 3) ∨ (a = A ∧ j = 4) ∨ (a = A ∧ j = 5) ∨ a = (A + 6) ∨ (a = (A + 7) ∧ j = 4)) → c2 a j = c a j) → 0 ≤ v2 ∧ v2 ≤ 61 → 123 - 2 * v2 < (n : Int) → Wp sc (d + 12) 34 6 [(0, .ref A), (1, .ref 1), (2, vi v2)] [] (Wd P Q P P c2) 0 0 Z) := by
  intro n
  induction n with
  | zero => exact (by intro c2 v2 hI2 hF hv2 hm9; have hP := iv_P hI; have hQ := iv_Q hI; exfalso; omega)
  | succ n ih =>
    have hP := iv_P hI
    have hQ := iv_Q hI
    intro c2 v2 hI2 hF hv2 hm9
    refine q_iload_n c_34_6 rfl (v_bip c_34_7 (by decide) ?_)
    by_cases h_1 : v2 > 60
    · refine v_ic_gt_t (t := 85) c_34_9 rfl ⟨by decide, h_1, (Int.le_trans hv2.2 (by decide))⟩ (q_vret rfl rfl ?_)
      exact K c2 hI2 (fun a j hm => hF a j hm)
    · refine v_ic_gt_f (t := 85) c_34_9 rfl ⟨(Int.le_trans (by decide) hv2.1), (Int.not_lt.mp h_1), by decide⟩ (q_aload_n c_34_12 rfl (v_cv c_34_13 km_2_44 rfl rfl (nb_ rfl) ⟨⟨rfl, rfl⟩, nb_ rfl, rfl⟩ (nb_ rfl) (nb_ rfl) (s_15 hI2 (fun c_2 y_5 hI_3 hF_4 hy_5 => (bk_inl ?_)))))
      by_cases h_6 : y_5 = 0
      · refine v_if_eq_t (t := 85) c_34_16 rfl h_6 (q_vret rfl rfl ?_)
        exact K c_2 hI_3 (fun a j hm => (hF_4 a j (fun h => hm (Or.inl h))).trans (hF a j hm))
      · refine v_if_eq_f (t := 85) c_34_16 rfl ⟨h_6, ⟨(Int.le_trans (by decide) hy_5.1), (Int.le_trans hy_5.2 (by decide))⟩, by decide, by decide⟩ (q_aload_n c_34_19 rfl (v_cv c_34_20 km_2_50 rfl rfl (nb_ rfl) ⟨⟨rfl, rfl⟩, nb_ rfl, rfl⟩ (nb_ rfl) (nb_ rfl) (s_3 hI_3 (fun c_7 y_10 hI_8 hF_9 hy_10 h_11 => (bk_inl ?_)))))
        have h_12 := ir_1_2 hI_8
        refine q_istore_n c_34_23 (nb_ rfl) (q_aload_n c_34_24 rfl (q_ldc_s c_34_25 rfl rfl (by decide) (v_cv c_34_27 km_2_56 rfl rfl (nb_ rfl) ⟨⟨rfl, rfl⟩, nb_ rfl, rfl⟩ (nb_ rfl) (nb_ rfl) (s_10 hI_8 (q := 8) (nt := 20) (by decide) (by decide) (by decide) (fun c_13 y_16 hI_14 hF_15 hy_16 h_17 => (bk_inl ?_))))))
        have h_18 := ir_1_4 hI_14
        refine q_istore c_34_30 (nb_ rfl) (q_iload c_34_32 rfl (q_iconst c_34_34 ?_))
        by_cases h_19 : y_16 = (-1)
        · refine v_ic_eq_t (t := 59) c_34_35 rfl h_19 (q_aload_n c_34_59 rfl (v_cv c_34_60 km_2_68 rfl rfl (nb_ rfl) ⟨⟨rfl, rfl⟩, nb_ rfl, rfl⟩ (nb_ rfl) (nb_ rfl) (q_aload_n c_2_0 rfl (v_gi (z := 4) (v := c_13 1 4) c_2_1 kf_5_38 rfl (nb_ rfl) rfl rfl rfl (v_if_ne_t (t := 11) c_2_4 rfl ⟨by first | exact q_eb1d20069 h_17 h_18 h_19 | omega, ⟨(Int.le_trans (by decide) h_18.1), (Int.le_trans h_18.2 (by decide))⟩, by decide, by decide⟩ (q_iconst c_2_11 (v_zret c_2_12 rfl (by decide) ?_)))))))
          refine bk_inl (v_if_eq_t (t := 73) c_34_63 rfl (by decide) (q_aload_n c_34_73 rfl (q_ldc_s c_34_74 rfl rfl (by decide) (v_cv c_34_76 km_2_77 rfl rfl (nb_ rfl) ⟨⟨rfl, rfl⟩, nb_ rfl, rfl⟩ (nb_ rfl) (nb_ rfl) (s_11 hI_14 (q := 9) (nt := 1) (by decide) (by decide) (by decide) (fun c_20 hI_21 hF_22 => (bk_inl (v_iinc (v := v2 + 1) c_34_79 rfl (nb_ rfl) rfl (q_goto (t := 6) c_34_82 rfl ?_)))))))))
          refine Wp_ls [(0, .ref A), (1, .ref 1), (2, vi (v2 + 1))] (lsub_cons rfl (lsub_cons rfl (lsub_cons rfl lsub_nil))) ?_
          exact ih c_20 (v2 + 1) hI_21 (fun a j hm => (hF_22 a j (qv_69188b0c2 hm)).trans ((hF_15 a j (qv_69188b0c2 hm)).trans ((hF_9 a j (fun h => hm (Or.inl h))).trans ((hF_4 a j (fun h => hm (Or.inl h))).trans (hF a j hm))))) ⟨by first | exact rgp_l hv2.1 (by decide) | omega, by first | exact q_d44226a64 h_1 | omega⟩ (by omega)
        · refine v_ic_eq_f (t := 59) c_34_35 rfl ⟨h_19, ⟨(Int.le_trans (by decide) hy_16.1), (Int.le_trans hy_16.2 (by decide))⟩, by decide, by decide⟩ (q_iload_n c_34_38 rfl (v_bip c_34_39 (by decide) ?_))
          by_cases h_23 : v2 = 60
          · refine v_ic_eq_t (t := 53) c_34_41 rfl h_23 (q_aload_n c_34_53 rfl (q_iconst c_34_54 (q_iload_n c_34_55 rfl (v_cv c_34_56 km_2_64 rfl rfl (nb_ rfl) ⟨⟨rfl, rfl⟩, nb_ rfl, rfl⟩ (nb_ rfl) (nb_ rfl) (s_7 (a1 := 3) (a2 := y_10) hI_14 (show 1 ≤ 3 ∧ 3 ≤ 3 from ⟨by decide, by decide⟩) (show 0 ≤ y_10 ∧ y_10 ≤ 600 from hy_10) (fun c_24 hI_25 hF_26 h_27 => (bk_inl ?_)))))))
            have h_28 := ir_1_4 hI_25
            refine q_aload_n c_34_59 rfl (v_cv c_34_60 km_2_68 rfl rfl (nb_ rfl) ⟨⟨rfl, rfl⟩, nb_ rfl, rfl⟩ (nb_ rfl) (nb_ rfl) (q_aload_n c_2_0 rfl (v_gi (z := 4) (v := c_24 1 4) c_2_1 kf_5_38 rfl (nb_ rfl) rfl rfl rfl (v_if_ne_t (t := 11) c_2_4 rfl ⟨by first | exact q_88eaa90e3 h_27 h_28 | omega, ⟨(Int.le_trans (by decide) h_28.1), (Int.le_trans h_28.2 (by decide))⟩, by decide, by decide⟩ (q_iconst c_2_11 (v_zret c_2_12 rfl (by decide) (bk_inl ?_)))))))
            refine v_if_eq_t (t := 73) c_34_63 rfl (by decide) (q_aload_n c_34_73 rfl (q_ldc_s c_34_74 rfl rfl (by decide) (v_cv c_34_76 km_2_77 rfl rfl (nb_ rfl) ⟨⟨rfl, rfl⟩, nb_ rfl, rfl⟩ (nb_ rfl) (nb_ rfl) (s_11 hI_25 (q := 9) (nt := 1) (by decide) (by decide) (by decide) (fun c_29 hI_30 hF_31 => (bk_inl (v_iinc (v := v2 + 1) c_34_79 rfl (nb_ rfl) rfl (q_goto (t := 6) c_34_82 rfl (Wp_ls [(0, .ref A), (1, .ref 1), (2, vi (v2 + 1))] (lsub_cons rfl (lsub_cons rfl (lsub_cons rfl lsub_nil))) ?_)))))))))
            exact ih c_29 (v2 + 1) hI_30 (fun a j hm => (hF_31 a j (qv_69188b0c2 hm)).trans ((hF_26 a j (qv_b1bc9762f hm)).trans ((hF_15 a j (qv_69188b0c2 hm)).trans ((hF_9 a j (fun h => hm (Or.inl h))).trans ((hF_4 a j (fun h => hm (Or.inl h))).trans (hF a j hm)))))) ⟨by first | exact rgp_l hv2.1 (by decide) | omega, by first | exact q_d44226a64 h_1 | omega⟩ (by omega)
          · refine v_ic_eq_f (t := 53) c_34_41 rfl ⟨h_23, ⟨(Int.le_trans (by decide) hv2.1), (Int.le_trans hv2.2 (by decide))⟩, by decide, by decide⟩ (q_aload_n c_34_44 rfl (q_iload c_34_45 rfl (v_cv c_34_47 km_2_60 rfl (ck_p0 hA) (a68z hA) ⟨⟨rfl, rfl⟩, by decide, rfl⟩ (nb_ rfl) (nb_ rfl) (q_iload_n c_31_0 rfl ?_))))
            by_cases h_32 : y_16 = 0
            · skip
              refine v_tsw_i (t := 28) 0 c_31_1 (by omega) (by decide) rfl (by decide) (q_aload_n c_31_28 rfl ?_)
              have h_33 := ir_p0_0 hI2 hA
              have kn_34 : Hid (c_2 A 0 = c2 A 0) := hF_4 A 0 (fun h => absurd h.1 (np0 hA rfl))
              have kn_35 : Hid (c_7 A 0 = c2 A 0) := (hF_9 A 0 (fun h => absurd h.1 (np0 hA rfl))).trans (hid kn_34)
              have kn_36 : Hid (c_13 A 0 = c2 A 0) := (hF_15 A 0 (qn_014d425e1 hA)).trans (hid kn_35)
              refine v_gi (z := 0) (v := c2 A 0) c_31_29 kf_2_81 (ck_p0 hA) (a68z hA) rfl rfl (hid kn_36) (v_bip c_31_32 (by decide) ?_)
              by_cases h_37 : c2 A 0 ≠ 6
              · refine v_ic_ne_t (t := 41) c_31_34 rfl ⟨h_37, ⟨by first | exact q_730ab5169 h_33 | omega, by first | exact q_b289b7db2 h_33 | omega⟩, by decide, by decide⟩ (q_iconst c_31_41 (v_zret c_31_42 rfl (by decide) (bk_inl (v_if_eq_t (t := 59) c_34_50 rfl (by decide) (q_aload_n c_34_59 rfl (v_cv c_34_60 km_2_68 rfl rfl (nb_ rfl) ⟨⟨rfl, rfl⟩, nb_ rfl, rfl⟩ (nb_ rfl) (nb_ rfl) (q_aload_n c_2_0 rfl ?_)))))))
                refine v_gi (z := 4) (v := c_13 1 4) c_2_1 kf_5_38 rfl (nb_ rfl) rfl rfl rfl ?_
                by_cases h_38 : c_13 1 4 ≠ 0
                · refine v_if_ne_t (t := 11) c_2_4 rfl ⟨h_38, ⟨(Int.le_trans (by decide) h_18.1), (Int.le_trans h_18.2 (by decide))⟩, by decide, by decide⟩ (q_iconst c_2_11 (v_zret c_2_12 rfl (by decide) (bk_inl (v_if_eq_t (t := 73) c_34_63 rfl (by decide) (q_aload_n c_34_73 rfl (q_ldc_s c_34_74 rfl rfl (by decide) (v_cv c_34_76 km_2_77 rfl rfl (nb_ rfl) ⟨⟨rfl, rfl⟩, nb_ rfl, rfl⟩ (nb_ rfl) (nb_ rfl) (s_11 hI_14 (q := 9) (nt := 1) (by decide) (by decide) (by decide) (fun c_39 hI_40 hF_41 => ?_)))))))))
                  refine bk_inl (v_iinc (v := v2 + 1) c_34_79 rfl (nb_ rfl) rfl (q_goto (t := 6) c_34_82 rfl (Wp_ls [(0, .ref A), (1, .ref 1), (2, vi (v2 + 1))] (lsub_cons rfl (lsub_cons rfl (lsub_cons rfl lsub_nil))) ?_)))
                  exact ih c_39 (v2 + 1) hI_40 (fun a j hm => (hF_41 a j (qv_69188b0c2 hm)).trans ((hF_15 a j (qv_69188b0c2 hm)).trans ((hF_9 a j (fun h => hm (Or.inl h))).trans ((hF_4 a j (fun h => hm (Or.inl h))).trans (hF a j hm))))) ⟨by first | exact rgp_l hv2.1 (by decide) | omega, by first | exact q_d44226a64 h_1 | omega⟩ (by omega)
                · refine v_if_ne_f (t := 11) c_2_4 rfl (Decidable.not_not.mp h_38) (q_iconst c_2_7 (q_goto (t := 12) c_2_8 rfl (v_zret c_2_12 rfl (by decide) (bk_inl (v_if_eq_f (t := 73) c_34_63 rfl (by decide) (q_aload_n c_34_66 rfl (q_aload_n c_34_67 rfl ?_)))))))
                  refine q_iload c_34_68 rfl ?_
                  have h_42 : c_13 A 0 = c2 A 0 := (hid kn_36)
                  have h_43 := ir_p0_1 hI2 hA
                  have kn_44 : Hid (c_2 A 1 = c2 A 1) := hF_4 A 1 (fun h => absurd h.1 (np0 hA rfl))
                  have kn_45 : Hid (c_7 A 1 = c2 A 1) := (hF_9 A 1 (fun h => absurd h.1 (np0 hA rfl))).trans (hid kn_44)
                  have kn_46 : Hid (c_13 A 1 = c2 A 1) := (hF_15 A 1 (qn_014d425e1 hA)).trans (hid kn_45)
                  have h_47 : c_13 A 1 = c2 A 1 := (hid kn_46)
                  have h_48 := ir_p0_2 hI2 hA
                  have kn_49 : Hid (c_2 A 2 = c2 A 2) := hF_4 A 2 (fun h => absurd h.1 (np0 hA rfl))
                  have kn_50 : Hid (c_7 A 2 = c2 A 2) := (hF_9 A 2 (fun h => absurd h.1 (np0 hA rfl))).trans (hid kn_49)
                  have kn_51 : Hid (c_13 A 2 = c2 A 2) := (hF_15 A 2 (qn_014d425e1 hA)).trans (hid kn_50)
                  have h_52 : c_13 A 2 = c2 A 2 := (hid kn_51)
                  refine v_cv c_34_70 km_2_71 rfl (ck_p0 hA) (a68z hA) ⟨⟨rfl, rfl⟩, by decide, rfl⟩ (nb_ rfl) (nb_ rfl) (s_33 (a2 := y_16) hI_14 hA (show 0 ≤ y_16 ∧ y_16 ≤ 100 from ⟨by first | exact q_7e599b6d7 h_32 | omega, hy_16.2⟩) (Or.inr (by first | exact q_750ebd296 h_33 h_37 | omega)) (Or.inl (by first | exact q_7e9ffde01 h_32 | omega)) (Or.inl (by first | exact q_4d25412af h_32 | omega)) (fun c_53 hI_54 hF_55 => (bk_inl (q_aload_n c_34_73 rfl (q_ldc_s c_34_74 rfl rfl (by decide) (v_cv c_34_76 km_2_77 rfl rfl (nb_ rfl) ⟨⟨rfl, rfl⟩, nb_ rfl, rfl⟩ (nb_ rfl) (nb_ rfl) (s_11 hI_54 (q := 9) (nt := 1) (by decide) (by decide) (by decide) (fun c_56 hI_57 hF_58 => (bk_inl (v_iinc (v := v2 + 1) c_34_79 rfl (nb_ rfl) rfl (q_goto (t := 6) c_34_82 rfl ?_)))))))))))
                  refine Wp_ls [(0, .ref A), (1, .ref 1), (2, vi (v2 + 1))] (lsub_cons rfl (lsub_cons rfl (lsub_cons rfl lsub_nil))) ?_
                  exact ih c_56 (v2 + 1) hI_57 (fun a j hm => (hF_58 a j (qv_69188b0c2 hm)).trans ((hF_55 a j (qv_967ad9091 hm)).trans ((hF_15 a j (qv_69188b0c2 hm)).trans ((hF_9 a j (fun h => hm (Or.inl h))).trans ((hF_4 a j (fun h => hm (Or.inl h))).trans (hF a j hm)))))) ⟨by first | exact rgp_l hv2.1 (by decide) | omega, by first | exact q_d44226a64 h_1 | omega⟩ (by omega)
              · refine v_ic_ne_f (t := 41) c_31_34 rfl (Decidable.not_not.mp h_37) (q_iconst c_31_37 (q_goto (t := 42) c_31_38 rfl (v_zret c_31_42 rfl (by decide) (bk_inl (v_if_eq_f (t := 59) c_34_50 rfl (by decide) (q_aload_n c_34_53 rfl (q_iconst c_34_54 ?_)))))))
                refine q_iload_n c_34_55 rfl (v_cv c_34_56 km_2_64 rfl rfl (nb_ rfl) ⟨⟨rfl, rfl⟩, nb_ rfl, rfl⟩ (nb_ rfl) (nb_ rfl) (s_7 (a1 := 3) (a2 := y_10) hI_14 (show 1 ≤ 3 ∧ 3 ≤ 3 from ⟨by decide, by decide⟩) (show 0 ≤ y_10 ∧ y_10 ≤ 600 from hy_10) (fun c_59 hI_60 hF_61 h_62 => (bk_inl ?_))))
                have h_63 := ir_1_4 hI_60
                refine q_aload_n c_34_59 rfl (v_cv c_34_60 km_2_68 rfl rfl (nb_ rfl) ⟨⟨rfl, rfl⟩, nb_ rfl, rfl⟩ (nb_ rfl) (nb_ rfl) (q_aload_n c_2_0 rfl (v_gi (z := 4) (v := c_59 1 4) c_2_1 kf_5_38 rfl (nb_ rfl) rfl rfl rfl (v_if_ne_t (t := 11) c_2_4 rfl ⟨by first | exact q_88eaa90e3 h_62 h_63 | omega, ⟨(Int.le_trans (by decide) h_63.1), (Int.le_trans h_63.2 (by decide))⟩, by decide, by decide⟩ (q_iconst c_2_11 (v_zret c_2_12 rfl (by decide) (bk_inl ?_)))))))
                refine v_if_eq_t (t := 73) c_34_63 rfl (by decide) (q_aload_n c_34_73 rfl (q_ldc_s c_34_74 rfl rfl (by decide) (v_cv c_34_76 km_2_77 rfl rfl (nb_ rfl) ⟨⟨rfl, rfl⟩, nb_ rfl, rfl⟩ (nb_ rfl) (nb_ rfl) (s_11 hI_60 (q := 9) (nt := 1) (by decide) (by decide) (by decide) (fun c_64 hI_65 hF_66 => (bk_inl (v_iinc (v := v2 + 1) c_34_79 rfl (nb_ rfl) rfl (q_goto (t := 6) c_34_82 rfl (Wp_ls [(0, .ref A), (1, .ref 1), (2, vi (v2 + 1))] (lsub_cons rfl (lsub_cons rfl (lsub_cons rfl lsub_nil))) ?_)))))))))
                exact ih c_64 (v2 + 1) hI_65 (fun a j hm => (hF_66 a j (qv_69188b0c2 hm)).trans ((hF_61 a j (qv_b1bc9762f hm)).trans ((hF_15 a j (qv_69188b0c2 hm)).trans ((hF_9 a j (fun h => hm (Or.inl h))).trans ((hF_4 a j (fun h => hm (Or.inl h))).trans (hF a j hm)))))) ⟨by first | exact rgp_l hv2.1 (by decide) | omega, by first | exact q_d44226a64 h_1 | omega⟩ (by omega)
            by_cases h_67 : y_16 = 1
            · skip
              refine v_tsw_i (t := 43) 1 rfl (by omega) (by decide) rfl (by decide) (q_aload_n c_31_43 rfl ?_)
              have h_68 := ir_p0_1 hI2 hA
              have kn_69 : Hid (c_2 A 1 = c2 A 1) := hF_4 A 1 (fun h => absurd h.1 (np0 hA rfl))
              have kn_70 : Hid (c_7 A 1 = c2 A 1) := (hF_9 A 1 (fun h => absurd h.1 (np0 hA rfl))).trans (hid kn_69)
              have kn_71 : Hid (c_13 A 1 = c2 A 1) := (hF_15 A 1 (qn_014d425e1 hA)).trans (hid kn_70)
              refine v_gi (z := 1) (v := c2 A 1) c_31_44 kf_2_84 (ck_p0 hA) (a68z hA) rfl rfl (hid kn_71) (q_iconst c_31_47 ?_)
              by_cases h_72 : c2 A 1 ≠ 4
              · refine v_ic_ne_t (t := 55) c_31_48 rfl ⟨h_72, ⟨by first | exact q_0bfe68f8e h_68 | omega, by first | exact q_82d4f69ff h_68 | omega⟩, by decide, by decide⟩ (q_iconst c_31_55 (v_zret c_31_56 rfl (by decide) (bk_inl (v_if_eq_t (t := 59) c_34_50 rfl (by decide) (q_aload_n c_34_59 rfl (v_cv c_34_60 km_2_68 rfl rfl (nb_ rfl) ⟨⟨rfl, rfl⟩, nb_ rfl, rfl⟩ (nb_ rfl) (nb_ rfl) (q_aload_n c_2_0 rfl ?_)))))))
                refine v_gi (z := 4) (v := c_13 1 4) c_2_1 kf_5_38 rfl (nb_ rfl) rfl rfl rfl ?_
                by_cases h_73 : c_13 1 4 ≠ 0
                · refine v_if_ne_t (t := 11) c_2_4 rfl ⟨h_73, ⟨(Int.le_trans (by decide) h_18.1), (Int.le_trans h_18.2 (by decide))⟩, by decide, by decide⟩ (q_iconst c_2_11 (v_zret c_2_12 rfl (by decide) (bk_inl (v_if_eq_t (t := 73) c_34_63 rfl (by decide) (q_aload_n c_34_73 rfl (q_ldc_s c_34_74 rfl rfl (by decide) (v_cv c_34_76 km_2_77 rfl rfl (nb_ rfl) ⟨⟨rfl, rfl⟩, nb_ rfl, rfl⟩ (nb_ rfl) (nb_ rfl) (s_11 hI_14 (q := 9) (nt := 1) (by decide) (by decide) (by decide) (fun c_74 hI_75 hF_76 => ?_)))))))))
                  refine bk_inl (v_iinc (v := v2 + 1) c_34_79 rfl (nb_ rfl) rfl (q_goto (t := 6) c_34_82 rfl (Wp_ls [(0, .ref A), (1, .ref 1), (2, vi (v2 + 1))] (lsub_cons rfl (lsub_cons rfl (lsub_cons rfl lsub_nil))) ?_)))
                  exact ih c_74 (v2 + 1) hI_75 (fun a j hm => (hF_76 a j (qv_69188b0c2 hm)).trans ((hF_15 a j (qv_69188b0c2 hm)).trans ((hF_9 a j (fun h => hm (Or.inl h))).trans ((hF_4 a j (fun h => hm (Or.inl h))).trans (hF a j hm))))) ⟨by first | exact rgp_l hv2.1 (by decide) | omega, by first | exact q_d44226a64 h_1 | omega⟩ (by omega)
                · refine v_if_ne_f (t := 11) c_2_4 rfl (Decidable.not_not.mp h_73) (q_iconst c_2_7 (q_goto (t := 12) c_2_8 rfl (v_zret c_2_12 rfl (by decide) (bk_inl (v_if_eq_f (t := 73) c_34_63 rfl (by decide) (q_aload_n c_34_66 rfl (q_aload_n c_34_67 rfl ?_)))))))
                  refine q_iload c_34_68 rfl ?_
                  have h_77 := ir_p0_0 hI2 hA
                  have kn_78 : Hid (c_2 A 0 = c2 A 0) := hF_4 A 0 (fun h => absurd h.1 (np0 hA rfl))
                  have kn_79 : Hid (c_7 A 0 = c2 A 0) := (hF_9 A 0 (fun h => absurd h.1 (np0 hA rfl))).trans (hid kn_78)
                  have kn_80 : Hid (c_13 A 0 = c2 A 0) := (hF_15 A 0 (qn_014d425e1 hA)).trans (hid kn_79)
                  have h_81 : c_13 A 0 = c2 A 0 := (hid kn_80)
                  have h_82 : c_13 A 1 = c2 A 1 := (hid kn_71)
                  have h_83 := ir_p0_2 hI2 hA
                  have kn_84 : Hid (c_2 A 2 = c2 A 2) := hF_4 A 2 (fun h => absurd h.1 (np0 hA rfl))
                  have kn_85 : Hid (c_7 A 2 = c2 A 2) := (hF_9 A 2 (fun h => absurd h.1 (np0 hA rfl))).trans (hid kn_84)
                  have kn_86 : Hid (c_13 A 2 = c2 A 2) := (hF_15 A 2 (qn_014d425e1 hA)).trans (hid kn_85)
                  have h_87 : c_13 A 2 = c2 A 2 := (hid kn_86)
                  refine v_cv c_34_70 km_2_71 rfl (ck_p0 hA) (a68z hA) ⟨⟨rfl, rfl⟩, by decide, rfl⟩ (nb_ rfl) (nb_ rfl) (s_33 (a2 := y_16) hI_14 hA (show 0 ≤ y_16 ∧ y_16 ≤ 100 from ⟨by first | exact q_d72e4aea1 h_67 | omega, hy_16.2⟩) (Or.inl (by first | exact q_72815ef9e h_67 | omega)) (Or.inr (by first | exact q_c4bb9308f h_68 h_72 | omega)) (Or.inl (by first | exact q_4a2fa9e4d h_67 | omega)) (fun c_88 hI_89 hF_90 => (bk_inl (q_aload_n c_34_73 rfl (q_ldc_s c_34_74 rfl rfl (by decide) (v_cv c_34_76 km_2_77 rfl rfl (nb_ rfl) ⟨⟨rfl, rfl⟩, nb_ rfl, rfl⟩ (nb_ rfl) (nb_ rfl) (s_11 hI_89 (q := 9) (nt := 1) (by decide) (by decide) (by decide) (fun c_91 hI_92 hF_93 => (bk_inl (v_iinc (v := v2 + 1) c_34_79 rfl (nb_ rfl) rfl (q_goto (t := 6) c_34_82 rfl ?_)))))))))))
                  refine Wp_ls [(0, .ref A), (1, .ref 1), (2, vi (v2 + 1))] (lsub_cons rfl (lsub_cons rfl (lsub_cons rfl lsub_nil))) ?_
                  exact ih c_91 (v2 + 1) hI_92 (fun a j hm => (hF_93 a j (qv_69188b0c2 hm)).trans ((hF_90 a j (qv_967ad9091 hm)).trans ((hF_15 a j (qv_69188b0c2 hm)).trans ((hF_9 a j (fun h => hm (Or.inl h))).trans ((hF_4 a j (fun h => hm (Or.inl h))).trans (hF a j hm)))))) ⟨by first | exact rgp_l hv2.1 (by decide) | omega, by first | exact q_d44226a64 h_1 | omega⟩ (by omega)
              · refine v_ic_ne_f (t := 55) c_31_48 rfl (Decidable.not_not.mp h_72) (q_iconst c_31_51 (q_goto (t := 56) c_31_52 rfl (v_zret c_31_56 rfl (by decide) (bk_inl (v_if_eq_f (t := 59) c_34_50 rfl (by decide) (q_aload_n c_34_53 rfl (q_iconst c_34_54 ?_)))))))
                refine q_iload_n c_34_55 rfl (v_cv c_34_56 km_2_64 rfl rfl (nb_ rfl) ⟨⟨rfl, rfl⟩, nb_ rfl, rfl⟩ (nb_ rfl) (nb_ rfl) (s_7 (a1 := 3) (a2 := y_10) hI_14 (show 1 ≤ 3 ∧ 3 ≤ 3 from ⟨by decide, by decide⟩) (show 0 ≤ y_10 ∧ y_10 ≤ 600 from hy_10) (fun c_94 hI_95 hF_96 h_97 => (bk_inl ?_))))
                have h_98 := ir_1_4 hI_95
                refine q_aload_n c_34_59 rfl (v_cv c_34_60 km_2_68 rfl rfl (nb_ rfl) ⟨⟨rfl, rfl⟩, nb_ rfl, rfl⟩ (nb_ rfl) (nb_ rfl) (q_aload_n c_2_0 rfl (v_gi (z := 4) (v := c_94 1 4) c_2_1 kf_5_38 rfl (nb_ rfl) rfl rfl rfl (v_if_ne_t (t := 11) c_2_4 rfl ⟨by first | exact q_88eaa90e3 h_97 h_98 | omega, ⟨(Int.le_trans (by decide) h_98.1), (Int.le_trans h_98.2 (by decide))⟩, by decide, by decide⟩ (q_iconst c_2_11 (v_zret c_2_12 rfl (by decide) (bk_inl ?_)))))))
                refine v_if_eq_t (t := 73) c_34_63 rfl (by decide) (q_aload_n c_34_73 rfl (q_ldc_s c_34_74 rfl rfl (by decide) (v_cv c_34_76 km_2_77 rfl rfl (nb_ rfl) ⟨⟨rfl, rfl⟩, nb_ rfl, rfl⟩ (nb_ rfl) (nb_ rfl) (s_11 hI_95 (q := 9) (nt := 1) (by decide) (by decide) (by decide) (fun c_99 hI_100 hF_101 => (bk_inl (v_iinc (v := v2 + 1) c_34_79 rfl (nb_ rfl) rfl (q_goto (t := 6) c_34_82 rfl (Wp_ls [(0, .ref A), (1, .ref 1), (2, vi (v2 + 1))] (lsub_cons rfl (lsub_cons rfl (lsub_cons rfl lsub_nil))) ?_)))))))))
                exact ih c_99 (v2 + 1) hI_100 (fun a j hm => (hF_101 a j (qv_69188b0c2 hm)).trans ((hF_96 a j (qv_b1bc9762f hm)).trans ((hF_15 a j (qv_69188b0c2 hm)).trans ((hF_9 a j (fun h => hm (Or.inl h))).trans ((hF_4 a j (fun h => hm (Or.inl h))).trans (hF a j hm)))))) ⟨by first | exact rgp_l hv2.1 (by decide) | omega, by first | exact q_d44226a64 h_1 | omega⟩ (by omega)
            by_cases h_102 : y_16 = 2
            · skip
              refine v_tsw_i (t := 57) 2 rfl (by omega) (by decide) rfl (by decide) (q_aload_n c_31_57 rfl ?_)
              have h_103 := ir_p0_2 hI2 hA
              have kn_104 : Hid (c_2 A 2 = c2 A 2) := hF_4 A 2 (fun h => absurd h.1 (np0 hA rfl))
              have kn_105 : Hid (c_7 A 2 = c2 A 2) := (hF_9 A 2 (fun h => absurd h.1 (np0 hA rfl))).trans (hid kn_104)
              have kn_106 : Hid (c_13 A 2 = c2 A 2) := (hF_15 A 2 (qn_014d425e1 hA)).trans (hid kn_105)
              refine v_gi (z := 2) (v := c2 A 2) c_31_58 kf_2_87 (ck_p0 hA) (a68z hA) rfl rfl (hid kn_106) (q_iconst c_31_61 ?_)
              by_cases h_107 : c2 A 2 ≠ 4
              · refine v_ic_ne_t (t := 69) c_31_62 rfl ⟨h_107, ⟨by first | exact q_0bfe68f8e h_103 | omega, by first | exact q_82d4f69ff h_103 | omega⟩, by decide, by decide⟩ (q_iconst c_31_69 (v_zret c_31_70 rfl (by decide) (bk_inl (v_if_eq_t (t := 59) c_34_50 rfl (by decide) (q_aload_n c_34_59 rfl (v_cv c_34_60 km_2_68 rfl rfl (nb_ rfl) ⟨⟨rfl, rfl⟩, nb_ rfl, rfl⟩ (nb_ rfl) (nb_ rfl) (q_aload_n c_2_0 rfl ?_)))))))
                refine v_gi (z := 4) (v := c_13 1 4) c_2_1 kf_5_38 rfl (nb_ rfl) rfl rfl rfl ?_
                by_cases h_108 : c_13 1 4 ≠ 0
                · refine v_if_ne_t (t := 11) c_2_4 rfl ⟨h_108, ⟨(Int.le_trans (by decide) h_18.1), (Int.le_trans h_18.2 (by decide))⟩, by decide, by decide⟩ (q_iconst c_2_11 (v_zret c_2_12 rfl (by decide) (bk_inl (v_if_eq_t (t := 73) c_34_63 rfl (by decide) (q_aload_n c_34_73 rfl (q_ldc_s c_34_74 rfl rfl (by decide) (v_cv c_34_76 km_2_77 rfl rfl (nb_ rfl) ⟨⟨rfl, rfl⟩, nb_ rfl, rfl⟩ (nb_ rfl) (nb_ rfl) (s_11 hI_14 (q := 9) (nt := 1) (by decide) (by decide) (by decide) (fun c_109 hI_110 hF_111 => ?_)))))))))
                  refine bk_inl (v_iinc (v := v2 + 1) c_34_79 rfl (nb_ rfl) rfl (q_goto (t := 6) c_34_82 rfl (Wp_ls [(0, .ref A), (1, .ref 1), (2, vi (v2 + 1))] (lsub_cons rfl (lsub_cons rfl (lsub_cons rfl lsub_nil))) ?_)))
                  exact ih c_109 (v2 + 1) hI_110 (fun a j hm => (hF_111 a j (qv_69188b0c2 hm)).trans ((hF_15 a j (qv_69188b0c2 hm)).trans ((hF_9 a j (fun h => hm (Or.inl h))).trans ((hF_4 a j (fun h => hm (Or.inl h))).trans (hF a j hm))))) ⟨by first | exact rgp_l hv2.1 (by decide) | omega, by first | exact q_d44226a64 h_1 | omega⟩ (by omega)
                · refine v_if_ne_f (t := 11) c_2_4 rfl (Decidable.not_not.mp h_108) (q_iconst c_2_7 (q_goto (t := 12) c_2_8 rfl (v_zret c_2_12 rfl (by decide) (bk_inl (v_if_eq_f (t := 73) c_34_63 rfl (by decide) (q_aload_n c_34_66 rfl (q_aload_n c_34_67 rfl ?_)))))))
                  refine q_iload c_34_68 rfl ?_
                  have h_112 := ir_p0_0 hI2 hA
                  have kn_113 : Hid (c_2 A 0 = c2 A 0) := hF_4 A 0 (fun h => absurd h.1 (np0 hA rfl))
                  have kn_114 : Hid (c_7 A 0 = c2 A 0) := (hF_9 A 0 (fun h => absurd h.1 (np0 hA rfl))).trans (hid kn_113)
                  have kn_115 : Hid (c_13 A 0 = c2 A 0) := (hF_15 A 0 (qn_014d425e1 hA)).trans (hid kn_114)
                  have h_116 : c_13 A 0 = c2 A 0 := (hid kn_115)
                  have h_117 := ir_p0_1 hI2 hA
                  have kn_118 : Hid (c_2 A 1 = c2 A 1) := hF_4 A 1 (fun h => absurd h.1 (np0 hA rfl))
                  have kn_119 : Hid (c_7 A 1 = c2 A 1) := (hF_9 A 1 (fun h => absurd h.1 (np0 hA rfl))).trans (hid kn_118)
                  have kn_120 : Hid (c_13 A 1 = c2 A 1) := (hF_15 A 1 (qn_014d425e1 hA)).trans (hid kn_119)
                  have h_121 : c_13 A 1 = c2 A 1 := (hid kn_120)
                  have h_122 : c_13 A 2 = c2 A 2 := (hid kn_106)
                  refine v_cv c_34_70 km_2_71 rfl (ck_p0 hA) (a68z hA) ⟨⟨rfl, rfl⟩, by decide, rfl⟩ (nb_ rfl) (nb_ rfl) (s_33 (a2 := y_16) hI_14 hA (show 0 ≤ y_16 ∧ y_16 ≤ 100 from ⟨by first | exact q_c53b4a9c0 h_102 | omega, hy_16.2⟩) (Or.inl (by first | exact q_4b21d0ff9 h_102 | omega)) (Or.inl (by first | exact q_70ecf1be4 h_102 | omega)) (Or.inr (by first | exact q_c4bb9308f h_103 h_107 | omega)) (fun c_123 hI_124 hF_125 => (bk_inl (q_aload_n c_34_73 rfl (q_ldc_s c_34_74 rfl rfl (by decide) (v_cv c_34_76 km_2_77 rfl rfl (nb_ rfl) ⟨⟨rfl, rfl⟩, nb_ rfl, rfl⟩ (nb_ rfl) (nb_ rfl) (s_11 hI_124 (q := 9) (nt := 1) (by decide) (by decide) (by decide) (fun c_126 hI_127 hF_128 => (bk_inl (v_iinc (v := v2 + 1) c_34_79 rfl (nb_ rfl) rfl (q_goto (t := 6) c_34_82 rfl ?_)))))))))))
                  refine Wp_ls [(0, .ref A), (1, .ref 1), (2, vi (v2 + 1))] (lsub_cons rfl (lsub_cons rfl (lsub_cons rfl lsub_nil))) ?_
                  exact ih c_126 (v2 + 1) hI_127 (fun a j hm => (hF_128 a j (qv_69188b0c2 hm)).trans ((hF_125 a j (qv_967ad9091 hm)).trans ((hF_15 a j (qv_69188b0c2 hm)).trans ((hF_9 a j (fun h => hm (Or.inl h))).trans ((hF_4 a j (fun h => hm (Or.inl h))).trans (hF a j hm)))))) ⟨by first | exact rgp_l hv2.1 (by decide) | omega, by first | exact q_d44226a64 h_1 | omega⟩ (by omega)
              · refine v_ic_ne_f (t := 69) c_31_62 rfl (Decidable.not_not.mp h_107) (q_iconst c_31_65 (q_goto (t := 70) c_31_66 rfl (v_zret c_31_70 rfl (by decide) (bk_inl (v_if_eq_f (t := 59) c_34_50 rfl (by decide) (q_aload_n c_34_53 rfl (q_iconst c_34_54 ?_)))))))
                refine q_iload_n c_34_55 rfl (v_cv c_34_56 km_2_64 rfl rfl (nb_ rfl) ⟨⟨rfl, rfl⟩, nb_ rfl, rfl⟩ (nb_ rfl) (nb_ rfl) (s_7 (a1 := 3) (a2 := y_10) hI_14 (show 1 ≤ 3 ∧ 3 ≤ 3 from ⟨by decide, by decide⟩) (show 0 ≤ y_10 ∧ y_10 ≤ 600 from hy_10) (fun c_129 hI_130 hF_131 h_132 => (bk_inl ?_))))
                have h_133 := ir_1_4 hI_130
                refine q_aload_n c_34_59 rfl (v_cv c_34_60 km_2_68 rfl rfl (nb_ rfl) ⟨⟨rfl, rfl⟩, nb_ rfl, rfl⟩ (nb_ rfl) (nb_ rfl) (q_aload_n c_2_0 rfl (v_gi (z := 4) (v := c_129 1 4) c_2_1 kf_5_38 rfl (nb_ rfl) rfl rfl rfl (v_if_ne_t (t := 11) c_2_4 rfl ⟨by first | exact q_88eaa90e3 h_132 h_133 | omega, ⟨(Int.le_trans (by decide) h_133.1), (Int.le_trans h_133.2 (by decide))⟩, by decide, by decide⟩ (q_iconst c_2_11 (v_zret c_2_12 rfl (by decide) (bk_inl ?_)))))))
                refine v_if_eq_t (t := 73) c_34_63 rfl (by decide) (q_aload_n c_34_73 rfl (q_ldc_s c_34_74 rfl rfl (by decide) (v_cv c_34_76 km_2_77 rfl rfl (nb_ rfl) ⟨⟨rfl, rfl⟩, nb_ rfl, rfl⟩ (nb_ rfl) (nb_ rfl) (s_11 hI_130 (q := 9) (nt := 1) (by decide) (by decide) (by decide) (fun c_134 hI_135 hF_136 => (bk_inl (v_iinc (v := v2 + 1) c_34_79 rfl (nb_ rfl) rfl (q_goto (t := 6) c_34_82 rfl (Wp_ls [(0, .ref A), (1, .ref 1), (2, vi (v2 + 1))] (lsub_cons rfl (lsub_cons rfl (lsub_cons rfl lsub_nil))) ?_)))))))))
                exact ih c_134 (v2 + 1) hI_135 (fun a j hm => (hF_136 a j (qv_69188b0c2 hm)).trans ((hF_131 a j (qv_b1bc9762f hm)).trans ((hF_15 a j (qv_69188b0c2 hm)).trans ((hF_9 a j (fun h => hm (Or.inl h))).trans ((hF_4 a j (fun h => hm (Or.inl h))).trans (hF a j hm)))))) ⟨by first | exact rgp_l hv2.1 (by decide) | omega, by first | exact q_d44226a64 h_1 | omega⟩ (by omega)
            refine v_tsw_o (t := 71) rfl (by omega) (by decide) (q_iconst c_31_71 (v_zret c_31_72 rfl (by decide) (bk_inl (v_if_eq_t (t := 59) c_34_50 rfl (by decide) (q_aload_n c_34_59 rfl (v_cv c_34_60 km_2_68 rfl rfl (nb_ rfl) ⟨⟨rfl, rfl⟩, nb_ rfl, rfl⟩ (nb_ rfl) (nb_ rfl) (q_aload_n c_2_0 rfl ?_)))))))
            refine v_gi (z := 4) (v := c_13 1 4) c_2_1 kf_5_38 rfl (nb_ rfl) rfl rfl rfl ?_
            by_cases h_137 : c_13 1 4 ≠ 0
            · refine v_if_ne_t (t := 11) c_2_4 rfl ⟨h_137, ⟨(Int.le_trans (by decide) h_18.1), (Int.le_trans h_18.2 (by decide))⟩, by decide, by decide⟩ (q_iconst c_2_11 (v_zret c_2_12 rfl (by decide) (bk_inl (v_if_eq_t (t := 73) c_34_63 rfl (by decide) (q_aload_n c_34_73 rfl (q_ldc_s c_34_74 rfl rfl (by decide) (v_cv c_34_76 km_2_77 rfl rfl (nb_ rfl) ⟨⟨rfl, rfl⟩, nb_ rfl, rfl⟩ (nb_ rfl) (nb_ rfl) (s_11 hI_14 (q := 9) (nt := 1) (by decide) (by decide) (by decide) (fun c_138 hI_139 hF_140 => ?_)))))))))
              refine bk_inl (v_iinc (v := v2 + 1) c_34_79 rfl (nb_ rfl) rfl (q_goto (t := 6) c_34_82 rfl (Wp_ls [(0, .ref A), (1, .ref 1), (2, vi (v2 + 1))] (lsub_cons rfl (lsub_cons rfl (lsub_cons rfl lsub_nil))) ?_)))
              exact ih c_138 (v2 + 1) hI_139 (fun a j hm => (hF_140 a j (qv_69188b0c2 hm)).trans ((hF_15 a j (qv_69188b0c2 hm)).trans ((hF_9 a j (fun h => hm (Or.inl h))).trans ((hF_4 a j (fun h => hm (Or.inl h))).trans (hF a j hm))))) ⟨by first | exact rgp_l hv2.1 (by decide) | omega, by first | exact q_d44226a64 h_1 | omega⟩ (by omega)
            · refine v_if_ne_f (t := 11) c_2_4 rfl (Decidable.not_not.mp h_137) (q_iconst c_2_7 (q_goto (t := 12) c_2_8 rfl (v_zret c_2_12 rfl (by decide) (bk_inl (v_if_eq_f (t := 73) c_34_63 rfl (by decide) (q_aload_n c_34_66 rfl (q_aload_n c_34_67 rfl ?_)))))))
              refine q_iload c_34_68 rfl ?_
              have h_141 := ir_p0_0 hI2 hA
              have kn_142 : Hid (c_2 A 0 = c2 A 0) := hF_4 A 0 (fun h => absurd h.1 (np0 hA rfl))
              have kn_143 : Hid (c_7 A 0 = c2 A 0) := (hF_9 A 0 (fun h => absurd h.1 (np0 hA rfl))).trans (hid kn_142)
              have kn_144 : Hid (c_13 A 0 = c2 A 0) := (hF_15 A 0 (qn_014d425e1 hA)).trans (hid kn_143)
              have h_145 : c_13 A 0 = c2 A 0 := (hid kn_144)
              have h_146 := ir_p0_1 hI2 hA
              have kn_147 : Hid (c_2 A 1 = c2 A 1) := hF_4 A 1 (fun h => absurd h.1 (np0 hA rfl))
              have kn_148 : Hid (c_7 A 1 = c2 A 1) := (hF_9 A 1 (fun h => absurd h.1 (np0 hA rfl))).trans (hid kn_147)
              have kn_149 : Hid (c_13 A 1 = c2 A 1) := (hF_15 A 1 (qn_014d425e1 hA)).trans (hid kn_148)
              have h_150 : c_13 A 1 = c2 A 1 := (hid kn_149)
              have h_151 := ir_p0_2 hI2 hA
              have kn_152 : Hid (c_2 A 2 = c2 A 2) := hF_4 A 2 (fun h => absurd h.1 (np0 hA rfl))
              have kn_153 : Hid (c_7 A 2 = c2 A 2) := (hF_9 A 2 (fun h => absurd h.1 (np0 hA rfl))).trans (hid kn_152)
              have kn_154 : Hid (c_13 A 2 = c2 A 2) := (hF_15 A 2 (qn_014d425e1 hA)).trans (hid kn_153)
              have h_155 : c_13 A 2 = c2 A 2 := (hid kn_154)
              refine v_cv c_34_70 km_2_71 rfl (ck_p0 hA) (a68z hA) ⟨⟨rfl, rfl⟩, by decide, rfl⟩ (nb_ rfl) (nb_ rfl) (s_33 (a2 := y_16) hI_14 hA (show 0 ≤ y_16 ∧ y_16 ≤ 100 from ⟨by first | exact q_b802e0b40 h_137 h_17 h_18 | omega, hy_16.2⟩) (Or.inl (by first | exact q_93a4df8f1 h_32 | omega)) (Or.inl (by first | exact q_ea625c1e5 h_67 | omega)) (Or.inl (by first | exact q_e2e39526d h_102 | omega)) (fun c_156 hI_157 hF_158 => (bk_inl (q_aload_n c_34_73 rfl (q_ldc_s c_34_74 rfl rfl (by decide) (v_cv c_34_76 km_2_77 rfl rfl (nb_ rfl) ⟨⟨rfl, rfl⟩, nb_ rfl, rfl⟩ (nb_ rfl) (nb_ rfl) (s_11 hI_157 (q := 9) (nt := 1) (by decide) (by decide) (by decide) (fun c_159 hI_160 hF_161 => (bk_inl (v_iinc (v := v2 + 1) c_34_79 rfl (nb_ rfl) rfl (q_goto (t := 6) c_34_82 rfl ?_)))))))))))
              refine Wp_ls [(0, .ref A), (1, .ref 1), (2, vi (v2 + 1))] (lsub_cons rfl (lsub_cons rfl (lsub_cons rfl lsub_nil))) ?_
              exact ih c_159 (v2 + 1) hI_160 (fun a j hm => (hF_161 a j (qv_69188b0c2 hm)).trans ((hF_158 a j (qv_967ad9091 hm)).trans ((hF_15 a j (qv_69188b0c2 hm)).trans ((hF_9 a j (fun h => hm (Or.inl h))).trans ((hF_4 a j (fun h => hm (Or.inl h))).trans (hF a j hm)))))) ⟨by first | exact rgp_l hv2.1 (by decide) | omega, by first | exact q_d44226a64 h_1 | omega⟩ (by omega)
set_option maxRecDepth 100000 in
set_option maxHeartbeats 4000000 in
theorem s_34 {sc : List Int32} {e : Int} {d u P Q A : Nat} {c : ME} {Z : AR → Prop} (hI : Iv u e P Q c) (hA : A = 13 ∨ A = 25) (K : ∀ (c2 : ME), Iv u e P Q c2 → (∀ (a : Nat) (j : Int), ¬ ((a = 1 ∧ j = 2) ∨ (a = 1 ∧ j = 4) ∨ (a = 1 ∧ j = 5) ∨ (a = A ∧ j = 0) ∨ (a = A ∧ j = 1) ∨ (a = A ∧ j = 2) ∨ (a = A ∧ j = 3) ∨ a = (A + 1) ∨ a = (A + 2) ∨ a = (A + 3) ∨ (a = A ∧ j = 4) ∨ (a = A ∧ j = 5) ∨ a = (A + 6) ∨ (a = (A + 7) ∧ j = 4)) → c2 a j = c a j) → Z (.inl (none), Wd P Q P P c2, 0, 0)) : Wp sc (d + 12) 34 0 [(0, .ref A), (1, .ref 1)] [] (Wd P Q P P c) 0 0 Z := by
  have hP := iv_P hI
  have hQ := iv_Q hI
  refine q_aload_n c_34_0 rfl (v_cv c_34_1 km_2_41 rfl (ck_p0 hA) (a68z hA) ⟨⟨rfl, rfl⟩, by decide, rfl⟩ (nb_ rfl) (nb_ rfl) (s_30 hI hA (fun c_162 hI_163 hF_164 h_165 h_166 => (bk_inl ?_))))
  have h_167 := ir_p0_0 hI_163 hA
  have h_168 := ir_p0_1 hI_163 hA
  have h_169 := ir_p0_2 hI_163 hA
  have h_170 := ir_p0_3 hI_163 hA
  have h_171 := ir_p0_4 hI_163 hA
  have h_172 := ir_p0_5 hI_163 hA
  have h_173 := ir_p7_4 hI_163 hA
  refine q_iconst c_34_4 (q_istore_n c_34_5 (nb_ rfl) (Wp_ls [(0, .ref A), (1, .ref 1), (2, vi 0)] (lsub_cons rfl (lsub_cons rfl (lsub_cons rfl lsub_nil))) ?_))
  exact (s_34_l (sc := sc) (d := d) hI hA K 126) c_162 0 hI_163 (fun a j hm => hF_164 a j (qv_ae6779878 hm)) ⟨by decide, by decide⟩ (by omega)

set_option maxRecDepth 100000 in
set_option maxHeartbeats 4000000 in
theorem s_35_l {sc : List Int32} {e : Int} {d u P Q A : Nat} {c : ME} {Z : AR → Prop} (hI : Iv u e P Q c) (hA : A = 13 ∨ A = 25) (K : ∀ (c2 : ME), Iv u e P Q c2 → (∀ (a : Nat) (j : Int), ¬ ((a = 1 ∧ j = 2) ∨ (a = 1 ∧ j = 4) ∨ (a = 1 ∧ j = 5) ∨ (a = A ∧ j = 4) ∨ a = (A + 4) ∨ a = (A + 5)) → c2 a j = c a j) → Z (.inl (none), Wd P Q P P c2, 0, 0)) : ∀ n : Nat, (∀ (c2 : ME) (v2 : Int) (v3 : Int), Iv u e P Q c2 → (∀ (a : Nat) (j : Int), ¬ ((a = 1 ∧ j = 2) ∨ (a = 1 ∧ j = 4) ∨ (a = 1 ∧ j = 5) ∨ (a = A ∧ j = 4) ∨ a = (A + 4) ∨ a = (A + 5)) → c2 a j = c a j) → 0 ≤ v2 ∧ v2 ≤ 8 → 0 ≤ v3 ∧ v3 ≤ 9 → (∀ j : Int, 0 ≤ j → j < v2 → 0 ≤ c2 (A + 5) j ∧ c2 (A + 5) j ≤ 3) → ((v2 = v3) ∨ (v2 = 8 ∧ v3 = 9)) → 19 - 2 * v3 < (n : Int) → Wp sc (d + 10) 35 4 [(0, .ref A), (1, .ref 1), (2, vi v2), (3, vi v3)] [] (Wd P Q P P c2) 0 0 Z) := by
  intro n
  induction n with
  | zero => exact (by intro c2 v2 v3 hI2 hF hv2 hv3 hx0 hx1 hm9; have hP := iv_P hI; have hQ := iv_Q hI; exfalso; omega)
  | succ n ih =>
    have hP := iv_P hI
    have hQ := iv_Q hI
    intro c2 v2 v3 hI2 hF hv2 hv3 hx0 hx1 hm9
    refine q_iload_n c_35_4 rfl (v_bip c_35_5 (by decide) ?_)
    by_cases h_1 : v3 > 8
    · refine v_ic_gt_t (t := 75) c_35_7 rfl ⟨by decide, h_1, (Int.le_trans hv3.2 (by decide))⟩ (q_aload_n c_35_75 rfl (v_cv c_35_76 km_2_68 rfl rfl (nb_ rfl) ⟨⟨rfl, rfl⟩, nb_ rfl, rfl⟩ (nb_ rfl) (nb_ rfl) (q_aload_n c_2_0 rfl ?_)))
      have h_2 := ir_1_4 hI2
      refine v_gi (z := 4) (v := c2 1 4) c_2_1 kf_5_38 rfl (nb_ rfl) rfl rfl rfl ?_
      by_cases h_3 : c2 1 4 ≠ 0
      · refine v_if_ne_t (t := 11) c_2_4 rfl ⟨h_3, ⟨(Int.le_trans (by decide) h_2.1), (Int.le_trans h_2.2 (by decide))⟩, by decide, by decide⟩ (q_iconst c_2_11 (v_zret c_2_12 rfl (by decide) (bk_inl (v_if_eq_t (t := 102) c_35_79 rfl (by decide) (q_vret rfl rfl ?_)))))
        exact K c2 hI2 (fun a j hm => hF a j hm)
      · refine v_if_ne_f (t := 11) c_2_4 rfl (Decidable.not_not.mp h_3) (q_iconst c_2_7 (q_goto (t := 12) c_2_8 rfl (v_zret c_2_12 rfl (by decide) (bk_inl (v_if_eq_f (t := 102) c_35_79 rfl (by decide) (q_aload_n c_35_82 rfl (v_gr (t := (A + 5)) c_35_83 kf_2_28 (ck_p0 hA) (a68z hA) rfl ?_)))))))
        refine q_iconst c_35_86 (q_aload_n c_35_87 rfl (v_gr (t := (A + 4)) c_35_88 kf_2_25 (ck_p0 hA) (a68z hA) rfl (q_iconst c_35_91 (v_bip c_35_92 (by decide) (v_cpy c_35_94 rfl (ck_p4 hA) (a68 hA rfl) (ck_p5 hA) (a68 hA rfl) rfl rfl (by omega) (nb_ rfl) (by omega) (q_aload_n c_35_97 rfl (q_iload_n c_35_98 rfl ?_)))))))
        refine v_pi (z := 4) c_35_99 kf_2_90 (ck_p0 hA) (a68z hA) rfl rfl rfl (by decide) (q_vret rfl rfl ?_)
        have hr_6 : ∀ j : Int, 0 ≤ j → j < v2 → 0 ≤ c2 (A + 5) j ∧ c2 (A + 5) j ≤ 3 := by
          intro j hj1 hj2
          have q9 : c2 (A + 5) j = c2 (A + 5) j := rfl
          rw [q9]
          exact hx0 j hj1 (by omega)
        have hI_5 := iw_stk (v := v2) hI2 hA ⟨by omega, by omega⟩ hr_6
        exact K (up (upc c2 (A + 5) 0 (A + 4) 0 8) A 4 v2) hI_5 (fun a j hm => (up_b (Decidable.or_iff_not_imp_left.mpr (fun h1 h2 => hm (Or.inr (Or.inr (Or.inr (Or.inl ⟨Decidable.not_not.mp h1, h2⟩))))))).trans ((upc_c (fun h => hm (Or.inr (Or.inr (Or.inr (Or.inr (Or.inl h))))))).trans (hF a j hm)))
    · refine v_ic_gt_f (t := 75) c_35_7 rfl ⟨(Int.le_trans (by decide) hv3.1), (Int.not_lt.mp h_1), by decide⟩ (q_aload_n c_35_10 rfl (v_cv c_35_11 km_2_44 rfl rfl (nb_ rfl) ⟨⟨rfl, rfl⟩, nb_ rfl, rfl⟩ (nb_ rfl) (nb_ rfl) (s_15 hI2 (fun c_7 y_10 hI_8 hF_9 hy_10 => (bk_inl ?_)))))
      by_cases h_11 : y_10 = 0
      · refine v_if_eq_t (t := 75) c_35_14 rfl h_11 (q_aload_n c_35_75 rfl (v_cv c_35_76 km_2_68 rfl rfl (nb_ rfl) ⟨⟨rfl, rfl⟩, nb_ rfl, rfl⟩ (nb_ rfl) (nb_ rfl) (q_aload_n c_2_0 rfl ?_)))
        have h_12 := ir_1_4 hI2
        have kn_13 : Hid (c_7 1 4 = c2 1 4) := hF_9 1 4 (fun h => absurd h.2 (ni rfl))
        refine v_gi (z := 4) (v := c2 1 4) c_2_1 kf_5_38 rfl (nb_ rfl) rfl rfl (hid kn_13) ?_
        by_cases h_14 : c2 1 4 ≠ 0
        · refine v_if_ne_t (t := 11) c_2_4 rfl ⟨h_14, ⟨by first | exact q_107d648c6 h_12 | omega, by first | exact q_509aaa6b6 h_12 | omega⟩, by decide, by decide⟩ (q_iconst c_2_11 (v_zret c_2_12 rfl (by decide) (bk_inl (v_if_eq_t (t := 102) c_35_79 rfl (by decide) (q_vret rfl rfl ?_)))))
          exact K c_7 hI_8 (fun a j hm => (hF_9 a j (fun h => hm (Or.inl h))).trans (hF a j hm))
        · refine v_if_ne_f (t := 11) c_2_4 rfl (Decidable.not_not.mp h_14) (q_iconst c_2_7 (q_goto (t := 12) c_2_8 rfl (v_zret c_2_12 rfl (by decide) (bk_inl (v_if_eq_f (t := 102) c_35_79 rfl (by decide) (q_aload_n c_35_82 rfl (v_gr (t := (A + 5)) c_35_83 kf_2_28 (ck_p0 hA) (a68z hA) rfl ?_)))))))
          refine q_iconst c_35_86 (q_aload_n c_35_87 rfl (v_gr (t := (A + 4)) c_35_88 kf_2_25 (ck_p0 hA) (a68z hA) rfl (q_iconst c_35_91 (v_bip c_35_92 (by decide) (v_cpy c_35_94 rfl (ck_p4 hA) (a68 hA rfl) (ck_p5 hA) (a68 hA rfl) rfl rfl (by omega) (nb_ rfl) (by omega) (q_aload_n c_35_97 rfl (q_iload_n c_35_98 rfl ?_)))))))
          refine v_pi (z := 4) c_35_99 kf_2_90 (ck_p0 hA) (a68z hA) rfl rfl rfl (by decide) (q_vret rfl rfl ?_)
          have hr_17 : ∀ j : Int, 0 ≤ j → j < v2 → 0 ≤ c_7 (A + 5) j ∧ c_7 (A + 5) j ≤ 3 := by
            intro j hj1 hj2
            have q9 : c_7 (A + 5) j = c2 (A + 5) j := hF_9 (A + 5) j (by omega)
            rw [q9]
            exact hx0 j hj1 (by omega)
          have hI_16 := iw_stk (v := v2) hI_8 hA ⟨by omega, by omega⟩ hr_17
          exact K (up (upc c_7 (A + 5) 0 (A + 4) 0 8) A 4 v2) hI_16 (fun a j hm => (up_b (Decidable.or_iff_not_imp_left.mpr (fun h1 h2 => hm (Or.inr (Or.inr (Or.inr (Or.inl ⟨Decidable.not_not.mp h1, h2⟩))))))).trans ((upc_c (fun h => hm (Or.inr (Or.inr (Or.inr (Or.inr (Or.inl h))))))).trans ((hF_9 a j (fun h => hm (Or.inl h))).trans (hF a j hm))))
      · refine v_if_eq_f (t := 75) c_35_14 rfl ⟨h_11, ⟨(Int.le_trans (by decide) hy_10.1), (Int.le_trans hy_10.2 (by decide))⟩, by decide, by decide⟩ (q_aload_n c_35_17 rfl (v_cv c_35_18 km_2_50 rfl rfl (nb_ rfl) ⟨⟨rfl, rfl⟩, nb_ rfl, rfl⟩ (nb_ rfl) (nb_ rfl) (s_3 hI_8 (fun c_18 y_21 hI_19 hF_20 hy_21 h_22 => (bk_inl ?_)))))
        have h_23 := ir_1_2 hI_19
        refine q_istore c_35_21 (nb_ rfl) (q_aload_n c_35_23 rfl (q_aload_n c_35_24 rfl ?_))
        have h_24 := ir_p0_2 hI hA
        have kn_25 : Hid (c2 A 2 = c A 2) := hF A 2 (qn_14d462bd8 hA)
        have kn_26 : Hid (c_7 A 2 = c A 2) := (hF_9 A 2 (fun h => absurd h.1 (np0 hA rfl))).trans (hid kn_25)
        have kn_27 : Hid (c_18 A 2 = c A 2) := (hF_20 A 2 (fun h => absurd h.1 (np0 hA rfl))).trans (hid kn_26)
        refine v_gi (z := 2) (v := c A 2) c_35_25 kf_2_87 (ck_p0 hA) (a68z hA) rfl rfl (hid kn_27) (q_iconst c_35_28 (v_isub (v := c A 2 - 1) c_35_29 rfl (v_cv c_35_30 km_2_101 rfl rfl (nb_ rfl) ⟨⟨rfl, rfl⟩, nb_ rfl, rfl⟩ (nb_ rfl) (nb_ rfl) (s_8 (a1 := c A 2 - 1) hI_19 (show (-1) ≤ c A 2 - 1 ∧ c A 2 - 1 ≤ 9999 from ⟨by first | exact q_452b39485 h_24 | omega, by first | exact q_6915b49e7 h_24 | omega⟩) (fun c_28 y_31 hI_29 hF_30 hy_31 h_32 => (bk_inl (q_istore c_35_33 (nb_ rfl) (q_iload_n c_35_35 rfl (v_bip c_35_36 (by decide) ?_)))))))))
        by_cases h_33 : v3 ≠ 8
        · refine v_ic_ne_t (t := 51) c_35_38 rfl ⟨h_33, ⟨(Int.le_trans (by decide) hv3.1), (Int.le_trans hv3.2 (by decide))⟩, by decide, by decide⟩ (q_aload_n c_35_51 rfl (v_gr (t := (A + 5)) c_35_52 kf_2_28 (ck_p0 hA) (a68z hA) rfl (q_iload_n c_35_55 rfl (q_iload c_35_56 rfl (v_is c_35_58 (ck_p5 hA) (a68 hA rfl) (by decide) ⟨hv3.1, by first | exact q_628e546a1 h_1 h_33 | omega⟩ (q_iload_n c_35_59 rfl (q_iconst c_35_60 ?_)))))))
          refine v_iadd (v := v3 + 1) c_35_61 rfl (q_istore_n c_35_62 (nb_ rfl) (q_aload_n c_35_63 rfl (q_ldc_s c_35_64 rfl rfl (by decide) ?_)))
          have hI_34 := iw_p5 (j := v3) (v := y_31) hI_29 hA ⟨(Int.le_trans (by decide) hy_31.1), hy_31.2⟩
          refine v_cv c_35_66 km_2_77 rfl rfl (nb_ rfl) ⟨⟨rfl, rfl⟩, nb_ rfl, rfl⟩ (nb_ rfl) (nb_ rfl) (s_11 hI_34 (q := 9) (nt := 1) (by decide) (by decide) (by decide) (fun c_35 hI_36 hF_37 => (bk_inl (v_iinc (v := v3 + 1) c_35_69 rfl (nb_ rfl) rfl (q_goto (t := 4) c_35_72 rfl (Wp_ls [(0, .ref A), (1, .ref 1), (2, vi (v3 + 1)), (3, vi (v3 + 1))] (lsub_cons rfl (lsub_cons rfl (lsub_cons rfl (lsub_cons rfl lsub_nil)))) ?_))))))
          have hr_38 : ∀ j : Int, 0 ≤ j → j < v3 + 1 → 0 ≤ c_35 (A + 5) j ∧ c_35 (A + 5) j ≤ 3 := by
            intro j hj1 hj2
            by_cases e9 : j = v3
            · have q9 : c_35 (A + 5) j = y_31 := (hF_37 (A + 5) j (by omega)).trans (up_e e9)
              rw [q9]
              omega
            · have q9 : c_35 (A + 5) j = c2 (A + 5) j := (hF_37 (A + 5) j (by omega)).trans ((up_n e9).trans ((hF_30 (A + 5) j (by omega)).trans ((hF_20 (A + 5) j (by omega)).trans (hF_9 (A + 5) j (by omega)))))
              rw [q9]
              exact hx0 j hj1 (by omega)
          exact ih c_35 (v3 + 1) (v3 + 1) hI_36 (fun a j hm => (hF_37 a j (qv_e4befbf54 hm)).trans ((up_b (Decidable.or_iff_not_imp_left.mpr (fun h1 h2 => hm (Or.inr (Or.inr (Or.inr (Or.inr (Or.inr (Decidable.not_not.mp h1))))))))).trans ((hF_30 a j (qv_e4befbf54 hm)).trans ((hF_20 a j (fun h => hm (Or.inl h))).trans ((hF_9 a j (fun h => hm (Or.inl h))).trans (hF a j hm)))))) ⟨by first | exact rgp_l hv3.1 (by decide) | omega, by first | exact q_118bd7d80 h_1 h_33 | omega⟩ ⟨by first | exact rgp_l hv3.1 (by decide) | omega, by first | exact q_d1d9cab2a h_1 | omega⟩ hr_38 (Or.inl (by first | assumption | omega)) (by omega)
        · refine v_ic_ne_f (t := 51) c_35_38 rfl (Decidable.not_not.mp h_33) (q_aload_n c_35_41 rfl (q_iconst c_35_42 (q_iload c_35_43 rfl (v_cv c_35_45 km_2_64 rfl rfl (nb_ rfl) ⟨⟨rfl, rfl⟩, nb_ rfl, rfl⟩ (nb_ rfl) (nb_ rfl) (s_7 (a1 := 3) (a2 := y_21) hI_29 (show 1 ≤ 3 ∧ 3 ≤ 3 from ⟨by decide, by decide⟩) (show 0 ≤ y_21 ∧ y_21 ≤ 600 from hy_21) (fun c_39 hI_40 hF_41 h_42 => (bk_inl ?_)))))))
          have h_43 := ir_1_4 hI_40
          refine q_goto (t := 63) c_35_48 rfl (q_aload_n c_35_63 rfl (q_ldc_s c_35_64 rfl rfl (by decide) (v_cv c_35_66 km_2_77 rfl rfl (nb_ rfl) ⟨⟨rfl, rfl⟩, nb_ rfl, rfl⟩ (nb_ rfl) (nb_ rfl) (s_11 hI_40 (q := 9) (nt := 1) (by decide) (by decide) (by decide) (fun c_44 hI_45 hF_46 => (bk_inl (v_iinc (v := v3 + 1) c_35_69 rfl (nb_ rfl) rfl (q_goto (t := 4) c_35_72 rfl (Wp_ls [(0, .ref A), (1, .ref 1), (2, vi v2), (3, vi (v3 + 1))] (lsub_cons rfl (lsub_cons rfl (lsub_cons rfl (lsub_cons rfl lsub_nil)))) ?_)))))))))
          have hr_47 : ∀ j : Int, 0 ≤ j → j < v2 → 0 ≤ c_44 (A + 5) j ∧ c_44 (A + 5) j ≤ 3 := by
            intro j hj1 hj2
            have q9 : c_44 (A + 5) j = c2 (A + 5) j := (hF_46 (A + 5) j (by omega)).trans ((hF_41 (A + 5) j (by omega)).trans ((hF_30 (A + 5) j (by omega)).trans ((hF_20 (A + 5) j (by omega)).trans (hF_9 (A + 5) j (by omega)))))
            rw [q9]
            exact hx0 j hj1 (by omega)
          exact ih c_44 v2 (v3 + 1) hI_45 (fun a j hm => (hF_46 a j (qv_e4befbf54 hm)).trans ((hF_41 a j (qv_d8e11c47c hm)).trans ((hF_30 a j (qv_e4befbf54 hm)).trans ((hF_20 a j (fun h => hm (Or.inl h))).trans ((hF_9 a j (fun h => hm (Or.inl h))).trans (hF a j hm)))))) hv2 ⟨by first | exact rgp_l hv3.1 (by decide) | omega, by first | exact q_d1d9cab2a h_1 | omega⟩ hr_47 (Or.inr ⟨by first | (clear hv3 h_1 h_23 h_22 h_24 h_43 h_11 h_32 h_42; omega) | omega, by first | exact q_65b0bda2f h_1 h_33 | omega⟩) (by omega)
set_option maxRecDepth 100000 in
set_option maxHeartbeats 4000000 in
theorem s_35 {sc : List Int32} {e : Int} {d u P Q A : Nat} {c : ME} {Z : AR → Prop} (hI : Iv u e P Q c) (hA : A = 13 ∨ A = 25) (K : ∀ (c2 : ME), Iv u e P Q c2 → (∀ (a : Nat) (j : Int), ¬ ((a = 1 ∧ j = 2) ∨ (a = 1 ∧ j = 4) ∨ (a = 1 ∧ j = 5) ∨ (a = A ∧ j = 4) ∨ a = (A + 4) ∨ a = (A + 5)) → c2 a j = c a j) → Z (.inl (none), Wd P Q P P c2, 0, 0)) : Wp sc (d + 10) 35 0 [(0, .ref A), (1, .ref 1)] [] (Wd P Q P P c) 0 0 Z := by
  have hP := iv_P hI
  have hQ := iv_Q hI
  refine q_iconst c_35_0 (q_istore_n c_35_1 (nb_ rfl) (q_iconst c_35_2 (q_istore_n c_35_3 (nb_ rfl) (Wp_ls [(0, .ref A), (1, .ref 1), (2, vi 0), (3, vi 0)] (lsub_cons rfl (lsub_cons rfl (lsub_cons rfl (lsub_cons rfl lsub_nil)))) ?_))))
  have hr_48 : ∀ j : Int, 0 ≤ j → j < 0 → 0 ≤ c (A + 5) j ∧ c (A + 5) j ≤ 3 := by
    intro j hj1 hj2
    omega
  exact (s_35_l (sc := sc) (d := d) hI hA K 22) c 0 0 hI (fun a j hm => rfl) ⟨by decide, by decide⟩ ⟨by decide, by decide⟩ hr_48 (Or.inl (by first | assumption | omega)) (by omega)

set_option maxRecDepth 100000 in
set_option maxHeartbeats 4000000 in
theorem s_36_l {sc : List Int32} {e : Int} {d u P Q A : Nat} {c : ME} {Z : AR → Prop} (hI : Iv u e P Q c) (hA : A = 13 ∨ A = 25) (K : ∀ (c2 : ME), Iv u e P Q c2 → (∀ (a : Nat) (j : Int), ¬ ((a = 1 ∧ j = 2) ∨ (a = 1 ∧ j = 4) ∨ (a = 1 ∧ j = 5) ∨ (a = A ∧ j = 5) ∨ a = (A + 5) ∨ a = (A + 6)) → c2 a j = c a j) → Z (.inl (none), Wd P Q P P c2, 0, 0)) : ∀ n : Nat, (∀ (c2 : ME) (v2 : Int), Iv u e P Q c2 → (∀ (a : Nat) (j : Int), ¬ ((a = 1 ∧ j = 2) ∨ (a = 1 ∧ j = 4) ∨ (a = 1 ∧ j = 5) ∨ (a = A ∧ j = 5) ∨ a = (A + 5) ∨ a = (A + 6)) → c2 a j = c a j) → 0 ≤ v2 ∧ v2 ≤ 4 → 22 - 2 * v2 < (n : Int) → Wp sc (d + 10) 36 2 [(0, .ref A), (1, .ref 1), (2, vi v2)] [] (Wd P Q P P c2) 0 0 Z) ∧ (∀ (c2 : ME) (v2 : Int) (v3 : Int), Iv u e P Q c2 → (∀ (a : Nat) (j : Int), ¬ ((a = 1 ∧ j = 2) ∨ (a = 1 ∧ j = 4) ∨ (a = 1 ∧ j = 5) ∨ (a = A ∧ j = 5) ∨ a = (A + 5) ∨ a = (A + 6)) → c2 a j = c a j) → 0 ≤ v2 ∧ v2 ≤ 5 → 0 ≤ v3 ∧ v3 ≤ 5 → 11 - 2 * v3 < (n : Int) → Wp sc (d + 10) 36 24 [(0, .ref A), (1, .ref 1), (2, vi v2), (3, vi v3)] [] (Wd P Q P P c2) 0 0 Z) := by
  intro n
  induction n with
  | zero => exact (by exact ⟨by (intro c2 v2 hI2 hF hv2 hm9; have hP := iv_P hI; have hQ := iv_Q hI; exfalso; omega), by (intro c2 v2 v3 hI2 hF hv2 hv3 hm9; have hP := iv_P hI; have hQ := iv_Q hI; exfalso; omega)⟩)
  | succ n ih =>
    have hP := iv_P hI
    have hQ := iv_Q hI
    refine ⟨?_, ?_⟩
    · skip
      intro c2 v2 hI2 hF hv2 hm9
      refine q_iload_n c_36_2 rfl (q_iconst c_36_3 ?_)
      by_cases h_1 : v2 ≥ 4
      · refine v_ic_ge_t (t := 20) c_36_4 rfl ⟨by decide, h_1, (Int.le_trans hv2.2 (by decide))⟩ (q_iconst c_36_20 (q_istore_n c_36_21 (nb_ rfl) (q_iconst c_36_22 (q_istore_n c_36_23 (nb_ rfl) (Wp_ls [(0, .ref A), (1, .ref 1), (2, vi 0), (3, vi 0)] (lsub_cons rfl (lsub_cons rfl (lsub_cons rfl (lsub_cons rfl lsub_nil)))) ?_)))))
        exact ih.2 c2 0 0 hI2 (fun a j hm => hF a j hm) ⟨by decide, by decide⟩ ⟨by decide, by decide⟩ (by omega)
      · refine v_ic_ge_f (t := 20) c_36_4 rfl ⟨(Int.le_trans (by decide) hv2.1), (Int.not_le.mp h_1), by decide⟩ (q_aload_n c_36_7 rfl (v_gr (t := (A + 5)) c_36_8 kf_2_28 (ck_p0 hA) (a68z hA) rfl (q_iload_n c_36_11 rfl (q_iconst c_36_12 (v_is c_36_13 (ck_p5 hA) (a68 hA rfl) (by decide) ⟨hv2.1, by first | exact q_d0507083e h_1 | omega⟩ (v_iinc (v := v2 + 1) c_36_14 rfl (nb_ rfl) rfl (q_goto (t := 2) c_36_17 rfl ?_)))))))
        have hI_2 := iw_p5 (j := v2) (v := (-1)) hI2 hA ⟨by decide, by decide⟩
        refine Wp_ls [(0, .ref A), (1, .ref 1), (2, vi (v2 + 1))] (lsub_cons rfl (lsub_cons rfl (lsub_cons rfl lsub_nil))) ?_
        exact ih.1 (up c2 (A + 5) v2 (-1)) (v2 + 1) hI_2 (fun a j hm => (up_b (Decidable.or_iff_not_imp_left.mpr (fun h1 h2 => hm (Or.inr (Or.inr (Or.inr (Or.inr (Or.inl (Decidable.not_not.mp h1))))))))).trans (hF a j hm)) ⟨by first | exact rgp_l hv2.1 (by decide) | omega, by first | exact q_121241f94 h_1 | omega⟩ (by omega)
    · skip
      intro c2 v2 v3 hI2 hF hv2 hv3 hm9
      refine q_iload_n c_36_24 rfl (q_iconst c_36_25 ?_)
      by_cases h_3 : v3 > 4
      · refine v_ic_gt_t (t := 97) c_36_26 rfl ⟨by decide, h_3, (Int.le_trans hv3.2 (by decide))⟩ (q_aload_n c_36_97 rfl (v_cv c_36_98 km_2_68 rfl rfl (nb_ rfl) ⟨⟨rfl, rfl⟩, nb_ rfl, rfl⟩ (nb_ rfl) (nb_ rfl) (q_aload_n c_2_0 rfl ?_)))
        have h_4 := ir_1_4 hI2
        refine v_gi (z := 4) (v := c2 1 4) c_2_1 kf_5_38 rfl (nb_ rfl) rfl rfl rfl ?_
        by_cases h_5 : c2 1 4 ≠ 0
        · refine v_if_ne_t (t := 11) c_2_4 rfl ⟨h_5, ⟨(Int.le_trans (by decide) h_4.1), (Int.le_trans h_4.2 (by decide))⟩, by decide, by decide⟩ (q_iconst c_2_11 (v_zret c_2_12 rfl (by decide) (bk_inl (v_if_eq_t (t := 123) c_36_101 rfl (by decide) (q_vret rfl rfl ?_)))))
          exact K c2 hI2 (fun a j hm => hF a j hm)
        · refine v_if_ne_f (t := 11) c_2_4 rfl (Decidable.not_not.mp h_5) (q_iconst c_2_7 (q_goto (t := 12) c_2_8 rfl (v_zret c_2_12 rfl (by decide) (bk_inl (v_if_eq_f (t := 123) c_36_101 rfl (by decide) (q_aload_n c_36_104 rfl (v_gr (t := (A + 5)) c_36_105 kf_2_28 (ck_p0 hA) (a68z hA) rfl ?_)))))))
          refine q_iconst c_36_108 (q_aload_n c_36_109 rfl (v_gr (t := (A + 6)) c_36_110 kf_2_31 (ck_p0 hA) (a68z hA) rfl (q_iconst c_36_113 (q_iconst c_36_114 (v_cpy c_36_115 rfl (ck_p6 hA) (a68 hA rfl) (ck_p5 hA) (a68 hA rfl) rfl rfl (by omega) (nb_ rfl) (by omega) (q_aload_n c_36_118 rfl (q_iload_n c_36_119 rfl ?_)))))))
          refine v_pi (z := 5) c_36_120 kf_2_93 (ck_p0 hA) (a68z hA) rfl rfl rfl (by decide) (q_vret rfl rfl ?_)
          have hI_6 := cp_p5_p6 (n := 4) hI2 hA
          have hI_7 := iw_p0_5 (v := v2) hI_6 hA ⟨hv2.1, hv2.2⟩
          exact K (up (upc c2 (A + 5) 0 (A + 6) 0 4) A 5 v2) hI_7 (fun a j hm => (up_b (Decidable.or_iff_not_imp_left.mpr (fun h1 h2 => hm (Or.inr (Or.inr (Or.inr (Or.inl ⟨Decidable.not_not.mp h1, h2⟩))))))).trans ((upc_c (fun h => hm (Or.inr (Or.inr (Or.inr (Or.inr (Or.inr h))))))).trans (hF a j hm)))
      · refine v_ic_gt_f (t := 97) c_36_26 rfl ⟨(Int.le_trans (by decide) hv3.1), (Int.not_lt.mp h_3), by decide⟩ (q_aload_n c_36_29 rfl (v_cv c_36_30 km_2_44 rfl rfl (nb_ rfl) ⟨⟨rfl, rfl⟩, nb_ rfl, rfl⟩ (nb_ rfl) (nb_ rfl) (s_15 hI2 (fun c_8 y_11 hI_9 hF_10 hy_11 => (bk_inl ?_)))))
        by_cases h_12 : y_11 = 0
        · refine v_if_eq_t (t := 97) c_36_33 rfl h_12 (q_aload_n c_36_97 rfl (v_cv c_36_98 km_2_68 rfl rfl (nb_ rfl) ⟨⟨rfl, rfl⟩, nb_ rfl, rfl⟩ (nb_ rfl) (nb_ rfl) (q_aload_n c_2_0 rfl ?_)))
          have h_13 := ir_1_4 hI2
          have kn_14 : Hid (c_8 1 4 = c2 1 4) := hF_10 1 4 (fun h => absurd h.2 (ni rfl))
          refine v_gi (z := 4) (v := c2 1 4) c_2_1 kf_5_38 rfl (nb_ rfl) rfl rfl (hid kn_14) ?_
          by_cases h_15 : c2 1 4 ≠ 0
          · refine v_if_ne_t (t := 11) c_2_4 rfl ⟨h_15, ⟨by first | exact q_107d648c6 h_13 | omega, by first | exact q_509aaa6b6 h_13 | omega⟩, by decide, by decide⟩ (q_iconst c_2_11 (v_zret c_2_12 rfl (by decide) (bk_inl (v_if_eq_t (t := 123) c_36_101 rfl (by decide) (q_vret rfl rfl ?_)))))
            exact K c_8 hI_9 (fun a j hm => (hF_10 a j (fun h => hm (Or.inl h))).trans (hF a j hm))
          · refine v_if_ne_f (t := 11) c_2_4 rfl (Decidable.not_not.mp h_15) (q_iconst c_2_7 (q_goto (t := 12) c_2_8 rfl (v_zret c_2_12 rfl (by decide) (bk_inl (v_if_eq_f (t := 123) c_36_101 rfl (by decide) (q_aload_n c_36_104 rfl (v_gr (t := (A + 5)) c_36_105 kf_2_28 (ck_p0 hA) (a68z hA) rfl ?_)))))))
            refine q_iconst c_36_108 (q_aload_n c_36_109 rfl (v_gr (t := (A + 6)) c_36_110 kf_2_31 (ck_p0 hA) (a68z hA) rfl (q_iconst c_36_113 (q_iconst c_36_114 (v_cpy c_36_115 rfl (ck_p6 hA) (a68 hA rfl) (ck_p5 hA) (a68 hA rfl) rfl rfl (by omega) (nb_ rfl) (by omega) (q_aload_n c_36_118 rfl (q_iload_n c_36_119 rfl ?_)))))))
            refine v_pi (z := 5) c_36_120 kf_2_93 (ck_p0 hA) (a68z hA) rfl rfl rfl (by decide) (q_vret rfl rfl ?_)
            have hI_16 := cp_p5_p6 (n := 4) hI_9 hA
            have hI_17 := iw_p0_5 (v := v2) hI_16 hA ⟨hv2.1, hv2.2⟩
            exact K (up (upc c_8 (A + 5) 0 (A + 6) 0 4) A 5 v2) hI_17 (fun a j hm => (up_b (Decidable.or_iff_not_imp_left.mpr (fun h1 h2 => hm (Or.inr (Or.inr (Or.inr (Or.inl ⟨Decidable.not_not.mp h1, h2⟩))))))).trans ((upc_c (fun h => hm (Or.inr (Or.inr (Or.inr (Or.inr (Or.inr h))))))).trans ((hF_10 a j (fun h => hm (Or.inl h))).trans (hF a j hm))))
        · refine v_if_eq_f (t := 97) c_36_33 rfl ⟨h_12, ⟨(Int.le_trans (by decide) hy_11.1), (Int.le_trans hy_11.2 (by decide))⟩, by decide, by decide⟩ (q_aload_n c_36_36 rfl (v_cv c_36_37 km_2_50 rfl rfl (nb_ rfl) ⟨⟨rfl, rfl⟩, nb_ rfl, rfl⟩ (nb_ rfl) (nb_ rfl) (s_3 hI_9 (fun c_18 y_21 hI_19 hF_20 hy_21 h_22 => (bk_inl ?_)))))
          have h_23 := ir_1_2 hI_19
          refine q_istore c_36_40 (nb_ rfl) (q_aload_n c_36_42 rfl (q_iconst c_36_43 (v_cv c_36_44 km_2_101 rfl rfl (nb_ rfl) ⟨⟨rfl, rfl⟩, nb_ rfl, rfl⟩ (nb_ rfl) (nb_ rfl) (s_8 (a1 := 3) hI_19 (show (-1) ≤ 3 ∧ 3 ≤ 9999 from ⟨by decide, by decide⟩) (fun c_24 y_27 hI_25 hF_26 hy_27 h_28 => (bk_inl (q_istore c_36_47 (nb_ rfl) (q_aload_n c_36_49 rfl (v_gr (t := (A + 5)) c_36_50 kf_2_28 (ck_p0 hA) (a68z hA) rfl ?_)))))))))
          refine q_iload c_36_53 rfl ?_
          have h_29 := ir_p5 hI2 hA y_27
          have kn_30 : Hid (c_8 (A + 5) y_27 = c2 (A + 5) y_27) := hF_10 (A + 5) y_27 (fun h => absurd h.1 (np hA rfl rfl))
          have kn_31 : Hid (c_18 (A + 5) y_27 = c2 (A + 5) y_27) := (hF_20 (A + 5) y_27 (fun h => absurd h.1 (np hA rfl rfl))).trans (hid kn_30)
          have kn_32 : Hid (c_24 (A + 5) y_27 = c2 (A + 5) y_27) := (hF_26 (A + 5) y_27 (qn_31b6b4c08 hA)).trans (hid kn_31)
          refine v_ia (v := c2 (A + 5) y_27) c_36_55 (ck_p5 hA) (a68 hA rfl) (by decide) ⟨hy_27.1, by first | exact q_ef58644c7 h_28 | omega⟩ (hid kn_32) (q_iconst c_36_56 ?_)
          by_cases h_33 : c2 (A + 5) y_27 = (-1)
          · refine v_ic_eq_t (t := 67) c_36_57 rfl h_33 (q_aload_n c_36_67 rfl (v_gr (t := (A + 5)) c_36_68 kf_2_28 (ck_p0 hA) (a68z hA) rfl (q_iload c_36_71 rfl (q_aload_n c_36_73 rfl (v_sip c_36_74 (by decide) (v_cv c_36_77 km_2_101 rfl rfl (nb_ rfl) ⟨⟨rfl, rfl⟩, nb_ rfl, rfl⟩ (nb_ rfl) (nb_ rfl) (s_8 (a1 := 9999) hI_25 (show (-1) ≤ 9999 ∧ 9999 ≤ 9999 from ⟨by decide, by decide⟩) (fun c_34 y_37 hI_35 hF_36 hy_37 h_38 => (bk_inl ?_)))))))))
            refine v_is c_36_80 (ck_p5 hA) (a68 hA rfl) (by decide) ⟨hy_27.1, by first | exact q_ef58644c7 h_28 | omega⟩ (q_aload_n c_36_81 rfl (q_ldc_s c_36_82 rfl rfl (by decide) ?_))
            have hI_39 := iw_p5 (j := y_27) (v := y_37) hI_35 hA ⟨(Int.le_trans (by decide) hy_37.1), hy_37.2⟩
            refine v_cv c_36_84 km_2_77 rfl rfl (nb_ rfl) ⟨⟨rfl, rfl⟩, nb_ rfl, rfl⟩ (nb_ rfl) (nb_ rfl) (s_11 hI_39 (q := 9) (nt := 1) (by decide) (by decide) (by decide) (fun c_40 hI_41 hF_42 => (bk_inl (q_iload_n c_36_87 rfl (q_iconst c_36_88 (v_iadd (v := v3 + 1) c_36_89 rfl (q_istore_n c_36_90 (nb_ rfl) (v_iinc (v := v3 + 1) c_36_91 rfl (nb_ rfl) rfl (q_goto (t := 24) c_36_94 rfl ?_)))))))))
            refine Wp_ls [(0, .ref A), (1, .ref 1), (2, vi (v3 + 1)), (3, vi (v3 + 1))] (lsub_cons rfl (lsub_cons rfl (lsub_cons rfl (lsub_cons rfl lsub_nil)))) ?_
            exact ih.2 c_40 (v3 + 1) (v3 + 1) hI_41 (fun a j hm => (hF_42 a j (qv_88b270b28 hm)).trans ((up_b (Decidable.or_iff_not_imp_left.mpr (fun h1 h2 => hm (Or.inr (Or.inr (Or.inr (Or.inr (Or.inl (Decidable.not_not.mp h1))))))))).trans ((hF_36 a j (qv_88b270b28 hm)).trans ((hF_26 a j (qv_88b270b28 hm)).trans ((hF_20 a j (fun h => hm (Or.inl h))).trans ((hF_10 a j (fun h => hm (Or.inl h))).trans (hF a j hm))))))) ⟨by first | exact rgp_l hv3.1 (by decide) | omega, by first | exact q_7025fc67d h_3 | omega⟩ ⟨by first | exact rgp_l hv3.1 (by decide) | omega, by first | exact q_7025fc67d h_3 | omega⟩ (by omega)
          · refine v_ic_eq_f (t := 67) c_36_57 rfl ⟨h_33, ⟨by first | exact q_87765d87e h_29 | omega, by first | exact q_cf71bb2da h_29 | omega⟩, by decide, by decide⟩ (q_aload_n c_36_60 rfl (q_iconst c_36_61 (q_iload c_36_62 rfl (v_cv c_36_64 km_2_64 rfl rfl (nb_ rfl) ⟨⟨rfl, rfl⟩, nb_ rfl, rfl⟩ (nb_ rfl) (nb_ rfl) (s_7 (a1 := 2) (a2 := y_21) hI_25 (show 1 ≤ 2 ∧ 2 ≤ 3 from ⟨by decide, by decide⟩) (show 0 ≤ y_21 ∧ y_21 ≤ 600 from hy_21) (fun c_43 hI_44 hF_45 h_46 => (bk_inl ?_)))))))
            have h_47 := ir_1_4 hI_44
            refine q_aload_n c_36_67 rfl (v_gr (t := (A + 5)) c_36_68 kf_2_28 (ck_p0 hA) (a68z hA) rfl (q_iload c_36_71 rfl (q_aload_n c_36_73 rfl (v_sip c_36_74 (by decide) (v_cv c_36_77 km_2_101 rfl rfl (nb_ rfl) ⟨⟨rfl, rfl⟩, nb_ rfl, rfl⟩ (nb_ rfl) (nb_ rfl) (s_8 (a1 := 9999) hI_44 (show (-1) ≤ 9999 ∧ 9999 ≤ 9999 from ⟨by decide, by decide⟩) (fun c_48 y_51 hI_49 hF_50 hy_51 h_52 => (bk_inl (v_is c_36_80 (ck_p5 hA) (a68 hA rfl) (by decide) ⟨hy_27.1, by first | exact q_ef58644c7 h_28 | omega⟩ ?_)))))))))
            refine q_aload_n c_36_81 rfl (q_ldc_s c_36_82 rfl rfl (by decide) ?_)
            have hI_53 := iw_p5 (j := y_27) (v := y_51) hI_49 hA ⟨(Int.le_trans (by decide) hy_51.1), hy_51.2⟩
            refine v_cv c_36_84 km_2_77 rfl rfl (nb_ rfl) ⟨⟨rfl, rfl⟩, nb_ rfl, rfl⟩ (nb_ rfl) (nb_ rfl) (s_11 hI_53 (q := 9) (nt := 1) (by decide) (by decide) (by decide) (fun c_54 hI_55 hF_56 => (bk_inl (q_iload_n c_36_87 rfl (q_iconst c_36_88 (v_iadd (v := v3 + 1) c_36_89 rfl (q_istore_n c_36_90 (nb_ rfl) (v_iinc (v := v3 + 1) c_36_91 rfl (nb_ rfl) rfl (q_goto (t := 24) c_36_94 rfl ?_)))))))))
            refine Wp_ls [(0, .ref A), (1, .ref 1), (2, vi (v3 + 1)), (3, vi (v3 + 1))] (lsub_cons rfl (lsub_cons rfl (lsub_cons rfl (lsub_cons rfl lsub_nil)))) ?_
            exact ih.2 c_54 (v3 + 1) (v3 + 1) hI_55 (fun a j hm => (hF_56 a j (qv_88b270b28 hm)).trans ((up_b (Decidable.or_iff_not_imp_left.mpr (fun h1 h2 => hm (Or.inr (Or.inr (Or.inr (Or.inr (Or.inl (Decidable.not_not.mp h1))))))))).trans ((hF_50 a j (qv_88b270b28 hm)).trans ((hF_45 a j (qv_ccc73f504 hm)).trans ((hF_26 a j (qv_88b270b28 hm)).trans ((hF_20 a j (fun h => hm (Or.inl h))).trans ((hF_10 a j (fun h => hm (Or.inl h))).trans (hF a j hm)))))))) ⟨by first | exact rgp_l hv3.1 (by decide) | omega, by first | exact q_7025fc67d h_3 | omega⟩ ⟨by first | exact rgp_l hv3.1 (by decide) | omega, by first | exact q_7025fc67d h_3 | omega⟩ (by omega)
set_option maxRecDepth 100000 in
set_option maxHeartbeats 4000000 in
theorem s_36 {sc : List Int32} {e : Int} {d u P Q A : Nat} {c : ME} {Z : AR → Prop} (hI : Iv u e P Q c) (hA : A = 13 ∨ A = 25) (K : ∀ (c2 : ME), Iv u e P Q c2 → (∀ (a : Nat) (j : Int), ¬ ((a = 1 ∧ j = 2) ∨ (a = 1 ∧ j = 4) ∨ (a = 1 ∧ j = 5) ∨ (a = A ∧ j = 5) ∨ a = (A + 5) ∨ a = (A + 6)) → c2 a j = c a j) → Z (.inl (none), Wd P Q P P c2, 0, 0)) : Wp sc (d + 10) 36 0 [(0, .ref A), (1, .ref 1)] [] (Wd P Q P P c) 0 0 Z := by
  have hP := iv_P hI
  have hQ := iv_Q hI
  refine q_iconst c_36_0 (q_istore_n c_36_1 (nb_ rfl) (Wp_ls [(0, .ref A), (1, .ref 1), (2, vi 0)] (lsub_cons rfl (lsub_cons rfl (lsub_cons rfl lsub_nil))) ?_))
  exact (s_36_l (sc := sc) (d := d) hI hA K 25).1 c 0 hI (fun a j hm => rfl) ⟨by decide, by decide⟩ (by omega)

set_option maxRecDepth 100000 in
set_option maxHeartbeats 4000000 in
theorem s_38 {sc : List Int32} {e : Int} {d u P Q : Nat} {c : ME} {Z : AR → Prop} (hI : Iv u e P Q c)  (K : ∀ (c2 : ME) (y : Int), Iv u e P Q c2 → (∀ (a : Nat) (j : Int), ¬ ((a = 1 ∧ j = 2) ∨ (a = 1 ∧ j = 4) ∨ (a = 1 ∧ j = 5)) → c2 a j = c a j) → 0 ≤ y ∧ y ≤ 999 → Z (.inl (some (vi y)), Wd P Q P P c2, 0, 0)) : Wp sc (d + 10) 38 0 [(0, .ref 1)] [] (Wd P Q P P c) 0 0 Z := by
  have hP := iv_P hI
  have hQ := iv_Q hI
  refine q_aload_n c_38_0 rfl (v_cv c_38_1 km_3_42 rfl rfl (nb_ rfl) ⟨⟨rfl, rfl⟩, nb_ rfl, rfl⟩ (nb_ rfl) (nb_ rfl) (s_3 hI (fun c_1 y_4 hI_2 hF_3 hy_4 h_5 => (bk_inl ?_))))
  have h_6 := ir_1_2 hI_2
  refine q_istore_n c_38_4 (nb_ rfl) (q_aload_n c_38_5 rfl (v_sip c_38_6 (by decide) (v_cv c_38_9 km_3_73 rfl rfl (nb_ rfl) ⟨⟨rfl, rfl⟩, nb_ rfl, rfl⟩ (nb_ rfl) (nb_ rfl) (s_8 (a1 := 999) hI_2 (show (-1) ≤ 999 ∧ 999 ≤ 9999 from ⟨by decide, by decide⟩) (fun c_7 y_10 hI_8 hF_9 hy_10 h_11 => (bk_inl (q_istore_n c_38_12 (nb_ rfl) (q_iload_n c_38_13 rfl ?_))))))))
  by_cases h_12 : y_10 ≠ 0
  · refine v_if_ne_t (t := 23) c_38_14 rfl ⟨h_12, ⟨(Int.le_trans (by decide) hy_10.1), (Int.le_trans hy_10.2 (by decide))⟩, by decide, by decide⟩ (q_iload_n c_38_23 rfl (q_iret c_38_24 rfl ?_))
    exact K c_7 y_10 hI_8 (fun a j hm => (hF_9 a j hm).trans (hF_3 a j (fun h => hm (Or.inl h)))) ⟨hy_10.1, by first | exact q_dec870c4c h_11 | omega⟩
  · refine v_if_ne_f (t := 23) c_38_14 rfl (Decidable.not_not.mp h_12) (q_aload_n c_38_17 rfl (q_iconst c_38_18 (q_iload_n c_38_19 rfl (v_cv c_38_20 km_3_51 rfl rfl (nb_ rfl) ⟨⟨rfl, rfl⟩, nb_ rfl, rfl⟩ (nb_ rfl) (nb_ rfl) (s_7 (a1 := 2) (a2 := y_4) hI_8 (show 1 ≤ 2 ∧ 2 ≤ 3 from ⟨by decide, by decide⟩) (show 0 ≤ y_4 ∧ y_4 ≤ 600 from hy_4) (fun c_13 hI_14 hF_15 h_16 => (bk_inl ?_)))))))
    have h_17 := ir_1_4 hI_14
    refine q_iload_n c_38_23 rfl (q_iret c_38_24 rfl ?_)
    exact K c_13 y_10 hI_14 (fun a j hm => (hF_15 a j (qv_7ce279f74 hm)).trans ((hF_9 a j hm).trans (hF_3 a j (fun h => hm (Or.inl h))))) ⟨hy_10.1, by first | exact q_ab67c736b h_12 | omega⟩

set_option maxRecDepth 100000 in
set_option maxHeartbeats 4000000 in
theorem s_39 {sc : List Int32} {e : Int} {d u P Q : Nat} {c : ME} {Z : AR → Prop} (hI : Iv u e P Q c)  (K : ∀ (c2 : ME) (y : Int), Iv u e P Q c2 → (∀ (a : Nat) (j : Int), ¬ ((a = 1 ∧ j = 2)) → c2 a j = c a j) → (-1) ≤ y ∧ y ≤ 255 → Z (.inl (some (vi y)), Wd P Q P P c2, 0, 0)) : Wp sc (d + 8) 39 0 [(0, .ref 1)] [] (Wd P Q P P c) 0 0 Z := by
  have hP := iv_P hI
  have hQ := iv_Q hI
  refine q_aload_n c_39_0 rfl (v_cv c_39_1 km_5_41 rfl rfl (nb_ rfl) ⟨⟨rfl, rfl⟩, nb_ rfl, rfl⟩ (nb_ rfl) (nb_ rfl) (s_3 hI (fun c_1 y_4 hI_2 hF_3 hy_4 h_5 => (bk_inl ?_))))
  have h_6 := ir_1_2 hI_2
  refine q_aload_n c_39_4 rfl ?_
  have h_7 := ir_1_1 hI
  have kn_8 : Hid (c_1 1 1 = c 1 1) := hF_3 1 1 (fun h => absurd h.2 (ni rfl))
  refine v_gi (z := 1) (v := c 1 1) c_39_5 kf_5_32 rfl (nb_ rfl) rfl rfl (hid kn_8) ?_
  by_cases h_9 : y_4 ≥ c 1 1
  · refine v_ic_ge_t (t := 27) c_39_8 rfl ⟨by first | exact q_3b2b08511 h_7 | omega, h_9, (Int.le_trans hy_4.2 (by decide))⟩ (q_iconst c_39_27 (q_iret c_39_28 rfl ?_))
    exact K c_1 (-1) hI_2 (fun a j hm => hF_3 a j hm) ⟨by decide, by decide⟩
  · refine v_ic_ge_f (t := 27) c_39_8 rfl ⟨(Int.le_trans (by decide) hy_4.1), (Int.not_le.mp h_9), by first | exact q_3885e607f h_7 | omega⟩ (q_aload_n c_39_11 rfl (v_gr (t := 2) c_39_12 kf_5_9 rfl (nb_ rfl) rfl (q_aload_n c_39_15 rfl (v_gi (z := 2) (v := c_1 1 2) c_39_16 kf_5_35 rfl (nb_ rfl) rfl rfl rfl ?_))))
    have h_10 := ir_2 hI (c_1 1 2)
    have kn_11 : Hid (c_1 2 (c_1 1 2) = c 2 (c_1 1 2)) := hF_3 2 (c_1 1 2) (fun h => absurd h.1 (nn rfl))
    refine v_ba (v := c 2 (c_1 1 2)) c_39_19 rfl (by decide) (by decide) ⟨h_6.1, by first | exact q_28e14c504 h_5 h_7 h_9 | omega⟩ (hid kn_11) (v_sip c_39_20 (by decide) (v_and8 (v := ((c 2 (c_1 1 2)) % 256)) rfl rfl (q_goto (t := 28) c_39_24 rfl (q_iret c_39_28 rfl ?_))))
    exact K c_1 ((c 2 (c_1 1 2)) % 256) hI_2 (fun a j hm => hF_3 a j hm) ⟨by omega, by omega⟩

set_option maxRecDepth 100000 in
set_option maxHeartbeats 4000000 in
theorem s_40 {sc : List Int32} {d u P Q : Nat} {c : ME} {t : Int} {a4 : Int} {Z : AR → Prop} (hI : Iv u t P Q c) (ht : 0 ≤ t ∧ t ≤ 37) (ha4 : 0 ≤ a4 ∧ a4 ≤ 6) (hq0 : (t + 1 ≤ c 7 2)) (hq1 : (a4 ≤ 5) ∨ (c 8 (5 * t) < 7) ∨ (c 8 (5 * t) > 7)) (H41 : ∀ (c : ME) (Z : AR → Prop), a4 + 1 ≤ 6 → Iv u (-1) P Q c → (∀ c2 : ME, Iv u (-1) P Q c2 → (∀ (a : Nat) (j : Int), ¬ ((a = 1 ∧ j = 2) ∨ (a = 1 ∧ j = 4) ∨ (a = 1 ∧ j = 5) ∨ (a = 7 ∧ j = 2) ∨ (a = 8 ∧ j ≥ 5 * c 7 2)) → c2 a j = c a j) → (c2 7 2 ≥ c 7 2) → Z (.inl none, Wd P Q P P c2, 0, 0)) → Wp sc (d + 10) 41 0 [(0, .ref 7), (1, .ref 1), (2, .ref P), (3, vi (a4 + 1))] [] (Wd P Q P P c) 0 0 Z) (K : ∀ (c2 : ME), Iv u (-1) P Q c2 → (∀ (a : Nat) (j : Int), ¬ ((a = 1 ∧ j = 2) ∨ (a = 1 ∧ j = 4) ∨ (a = 1 ∧ j = 5) ∨ (a = 7 ∧ j = 2) ∨ (a = 8 ∧ j ≥ 5 * t)) → c2 a j = c a j) → ((c2 7 2 ≥ c 7 2)) → Z (.inl (none), Wd P Q P P c2, 0, 0)) : Wp sc (d + 11) 40 0 [(0, .ref 7), (1, .ref 1), (2, .ref P), (3, vi (5 * t)), (4, vi a4)] [] (Wd P Q P P c) 0 0 Z := by
  have hP := iv_P hI
  have hQ := iv_Q hI
  have h_1 := ir_7_2 hI
  have h_2 := ir_8 hI (5 * t)
  refine q_aload_n c_40_0 rfl (v_gr (t := 8) c_40_1 kf_3_11 rfl (nb_ rfl) rfl (q_iload_n c_40_4 rfl (v_ia (v := c 8 (5 * t)) c_40_5 rfl (by decide) (by decide) ⟨by first | exact q_455052922 ht | omega, by first | exact q_7c821fbfb ht | omega⟩ rfl ?_)))
  by_cases h_3 : c 8 (5 * t) = 0
  · skip
    refine v_tsw_i (t := 52) 0 c_40_6 (by omega) (by decide) rfl (by decide) (q_aload_n c_40_52 rfl (v_gr (t := 8) c_40_53 kf_3_11 rfl (nb_ rfl) rfl (q_iload_n c_40_56 rfl (q_iconst c_40_57 (v_iadd (v := 5 * t + 1) c_40_58 rfl (q_aload_n c_40_59 rfl (q_aload_n c_40_60 rfl ?_)))))))
    have h_4 := ir_p0_1 hI hP
    refine v_gi (z := 1) (v := c P 1) c_40_61 kf_3_68 (ck_p0 hP) (a68z hP) rfl rfl rfl (q_iconst c_40_64 (v_isub (v := c P 1 - 1) c_40_65 rfl (v_cv c_40_66 km_3_73 rfl rfl (nb_ rfl) ⟨⟨rfl, rfl⟩, nb_ rfl, rfl⟩ (nb_ rfl) (nb_ rfl) (s_8 (a1 := c P 1 - 1) hI (show (-1) ≤ c P 1 - 1 ∧ c P 1 - 1 ≤ 9999 from ⟨by first | exact rgm_l h_4.1 (by decide) | omega, by first | exact rgm_h h_4.2 (by decide) | omega⟩) (fun c_5 y_8 hI_6 hF_7 hy_8 h_9 => (bk_inl (v_is c_40_69 rfl (by decide) (by decide) ⟨by first | exact q_1416f500c ht | omega, by first | exact q_6719517c6 ht | omega⟩ (q_aload_n c_40_70 rfl (v_gr (t := 8) c_40_71 kf_3_11 rfl (nb_ rfl) rfl ?_)))))))))
    refine q_iload_n c_40_74 rfl (q_iconst c_40_75 (v_iadd (v := 5 * t + 2) c_40_76 rfl (q_aload_n c_40_77 rfl (q_aload_n c_40_78 rfl ?_))))
    have h_10 := ir_p0_0 hI hP
    have kn_11 : Hid (c_5 P 0 = c P 0) := hF_7 P 0 (qn_1b31dbfca hP)
    refine v_gi (z := 0) (v := c P 0) c_40_79 kf_3_77 (ck_p0 hP) (a68z hP) rfl rfl ((up_c (np0 hP rfl)).trans (hid kn_11)) (q_iconst c_40_82 (v_isub (v := c P 0 - 1) c_40_83 rfl ?_))
    have hI_12 := iw8_1 (t := t) (j := 5 * t + 1) (v := y_8) hI_6 (rfl) ⟨hy_8.1, (Int.le_trans hy_8.2 (by decide))⟩
    refine v_cv c_40_84 km_3_73 rfl rfl (nb_ rfl) ⟨⟨rfl, rfl⟩, nb_ rfl, rfl⟩ (nb_ rfl) (nb_ rfl) (s_8 (a1 := c P 0 - 1) hI_12 (show (-1) ≤ c P 0 - 1 ∧ c P 0 - 1 ≤ 9999 from ⟨by first | exact q_68889d1a6 h_10 | omega, by first | exact q_57c3d1df3 h_10 | omega⟩) (fun c_13 y_16 hI_14 hF_15 hy_16 h_17 => (bk_inl (v_is c_40_87 rfl (by decide) (by decide) ⟨by first | exact q_ffaf02070 ht | omega, by first | exact q_311969902 ht | omega⟩ (q_goto (t := 349) c_40_88 rfl (q_vret rfl rfl ?_))))))
    have hI_18 := iw8_2 (t := t) (j := 5 * t + 2) (v := y_16) hI_14 (rfl) ⟨hy_16.1, by first | exact q_16a7703bf h_10 h_17 | omega⟩
    have kn_19 : Hid (c_5 8 (5 * t) = c 8 (5 * t)) := hF_7 8 (5 * t) qn_40936bc4a
    have kn_20 : Hid (c_13 8 (5 * t) = c 8 (5 * t)) := (hF_15 8 (5 * t) qn_40936bc4a).trans ((up_n (by first | exact ne_0a (by decide) | omega)).trans (hid kn_19))
    have q_21 : (up c_13 8 (5 * t + 2) y_16) 8 (5 * t) = c 8 (5 * t) := ((up_n (by first | exact ne_0a (by decide) | omega)).trans (hid kn_20))
    have kn_22 : Hid (c_13 8 (5 * t + 1) = y_8) := (hF_15 8 (5 * t + 1) qn_40936bc4a).trans (up_e rfl)
    have q_23 : (up c_13 8 (5 * t + 2) y_16) 8 (5 * t + 1) = y_8 := ((up_n (by first | exact ne_aa (by decide) | omega)).trans (hid kn_22))
    have q_24 : (up c_13 8 (5 * t + 2) y_16) 8 (5 * t + 2) = y_16 := (up_e rfl)
    have h_25 := ir_8 hI (5 * t + 3)
    have kn_26 : Hid (c_5 8 (5 * t + 3) = c 8 (5 * t + 3)) := hF_7 8 (5 * t + 3) qn_40936bc4a
    have kn_27 : Hid (c_13 8 (5 * t + 3) = c 8 (5 * t + 3)) := (hF_15 8 (5 * t + 3) qn_40936bc4a).trans ((up_n (by first | exact ne_aa (by decide) | omega)).trans (hid kn_26))
    have q_28 : (up c_13 8 (5 * t + 2) y_16) 8 (5 * t + 3) = c 8 (5 * t + 3) := ((up_n (by first | exact ne_aa (by decide) | omega)).trans (hid kn_27))
    have h_29 := ir_8 hI (5 * t + 4)
    have kn_30 : Hid (c_5 8 (5 * t + 4) = c 8 (5 * t + 4)) := hF_7 8 (5 * t + 4) qn_40936bc4a
    have kn_31 : Hid (c_13 8 (5 * t + 4) = c 8 (5 * t + 4)) := (hF_15 8 (5 * t + 4) qn_40936bc4a).trans ((up_n (by first | exact ne_aa (by decide) | omega)).trans (hid kn_30))
    have q_32 : (up c_13 8 (5 * t + 2) y_16) 8 (5 * t + 4) = c 8 (5 * t + 4) := ((up_n (by first | exact ne_aa (by decide) | omega)).trans (hid kn_31))
    have hI_33 : Iv u (-1) P Q (up c_13 8 (5 * t + 2) y_16) := iv_close8 (t := t) hI_18 (by rw [q_21, q_23, q_24, q_28, q_32]; exact ⟨(fun e9 => ⟨by first | exact q_9c0cd5a3a h_4 h_9 | omega, by first | exact q_7514a81f1 h_10 h_17 | omega⟩), (fun e9 => absurd e9 (by first | exact q_7e9ffde01 h_3 | omega)), (fun e9 => absurd e9 (by first | exact q_4d25412af h_3 | omega)), (fun e9 => absurd e9 (by first | exact q_1dcad14fe h_3 | omega)), (fun e9 => absurd e9 (by first | exact q_8f0696a92 h_3 | omega)), (fun e9 => absurd e9 (by first | exact q_484d5e57f h_3 | omega))⟩)
    have kn_34 : Hid (c_5 7 2 = c 7 2) := hF_7 7 2 qn_e31e1496e
    have kn_35 : Hid (c_13 7 2 = c 7 2) := (hF_15 7 2 qn_e31e1496e).trans ((up_c (nn rfl)).trans (hid kn_34))
    have h_36 : (up c_13 8 (5 * t + 2) y_16) 7 2 = c 7 2 := ((up_c (nn rfl)).trans (hid kn_35))
    exact K (up c_13 8 (5 * t + 2) y_16) hI_33 (fun a j hm => (up_b (Decidable.or_iff_not_imp_left.mpr (fun h1 h2 => hm (Or.inr (Or.inr (Or.inr (Or.inr ⟨Decidable.not_not.mp h1, (Int.le_trans (by clear hm; first | exact q_68bb02467 | omega) (Int.le_of_eq h2.symm))⟩))))))).trans ((hF_15 a j (qv_d1fb82d1b hm)).trans ((up_b (Decidable.or_iff_not_imp_left.mpr (fun h1 h2 => hm (Or.inr (Or.inr (Or.inr (Or.inr ⟨Decidable.not_not.mp h1, (Int.le_trans (by clear hm; first | exact q_c48eb2e77 | omega) (Int.le_of_eq h2.symm))⟩))))))).trans (hF_7 a j (qv_d1fb82d1b hm))))) (by first | exact q_e074ea49a | omega)
  by_cases h_37 : c 8 (5 * t) = 1
  · skip
    refine v_tsw_i (t := 91) 1 rfl (by omega) (by decide) rfl (by decide) (q_aload_n c_40_91 rfl (v_gr (t := 8) c_40_92 kf_3_11 rfl (nb_ rfl) rfl (q_iload_n c_40_95 rfl (q_iconst c_40_96 (v_iadd (v := 5 * t + 1) c_40_97 rfl (q_aload_n c_40_98 rfl (q_aload_n c_40_99 rfl ?_)))))))
    have h_38 := ir_p0_2 hI hP
    refine v_gi (z := 2) (v := c P 2) c_40_100 kf_3_80 (ck_p0 hP) (a68z hP) rfl rfl rfl (q_iconst c_40_103 (v_isub (v := c P 2 - 1) c_40_104 rfl (v_cv c_40_105 km_3_73 rfl rfl (nb_ rfl) ⟨⟨rfl, rfl⟩, nb_ rfl, rfl⟩ (nb_ rfl) (nb_ rfl) (s_8 (a1 := c P 2 - 1) hI (show (-1) ≤ c P 2 - 1 ∧ c P 2 - 1 ≤ 9999 from ⟨by first | exact rgm_l h_38.1 (by decide) | omega, by first | exact rgm_h h_38.2 (by decide) | omega⟩) (fun c_39 y_42 hI_40 hF_41 hy_42 h_43 => (bk_inl (v_is c_40_108 rfl (by decide) (by decide) ⟨by first | exact q_1416f500c ht | omega, by first | exact q_6719517c6 ht | omega⟩ (q_aload_n c_40_109 rfl (v_gr (t := 8) c_40_110 kf_3_11 rfl (nb_ rfl) rfl ?_)))))))))
    refine q_iload_n c_40_113 rfl (q_iconst c_40_114 (v_iadd (v := 5 * t + 2) c_40_115 rfl (q_aload_n c_40_116 rfl (q_aload_n c_40_117 rfl ?_))))
    have h_44 := ir_p0_0 hI hP
    have kn_45 : Hid (c_39 P 0 = c P 0) := hF_41 P 0 (qn_1b31dbfca hP)
    refine v_gi (z := 0) (v := c P 0) c_40_118 kf_3_77 (ck_p0 hP) (a68z hP) rfl rfl ((up_c (np0 hP rfl)).trans (hid kn_45)) (q_iconst c_40_121 (v_isub (v := c P 0 - 1) c_40_122 rfl ?_))
    have hI_46 := iw8_1 (t := t) (j := 5 * t + 1) (v := y_42) hI_40 (rfl) ⟨hy_42.1, (Int.le_trans hy_42.2 (by decide))⟩
    refine v_cv c_40_123 km_3_73 rfl rfl (nb_ rfl) ⟨⟨rfl, rfl⟩, nb_ rfl, rfl⟩ (nb_ rfl) (nb_ rfl) (s_8 (a1 := c P 0 - 1) hI_46 (show (-1) ≤ c P 0 - 1 ∧ c P 0 - 1 ≤ 9999 from ⟨by first | exact q_68889d1a6 h_44 | omega, by first | exact q_57c3d1df3 h_44 | omega⟩) (fun c_47 y_50 hI_48 hF_49 hy_50 h_51 => (bk_inl (v_is c_40_126 rfl (by decide) (by decide) ⟨by first | exact q_ffaf02070 ht | omega, by first | exact q_311969902 ht | omega⟩ (q_aload_n c_40_127 rfl (v_gr (t := 8) c_40_128 kf_3_11 rfl (nb_ rfl) rfl (q_iload_n c_40_131 rfl (q_iconst c_40_132 (v_iadd (v := 5 * t + 3) c_40_133 rfl ?_)))))))))
    refine q_aload_n c_40_134 rfl (q_aload_n c_40_135 rfl ?_)
    have kn_52 : Hid (c_47 P 0 = c P 0) := (hF_49 P 0 (qn_1b31dbfca hP)).trans ((up_c (np0 hP rfl)).trans (hid kn_45))
    refine v_gi (z := 0) (v := c P 0) c_40_136 kf_3_77 (ck_p0 hP) (a68z hP) rfl rfl ((up_c (np0 hP rfl)).trans (hid kn_52)) (q_iconst c_40_139 (v_isub (v := c P 0 - 1) c_40_140 rfl ?_))
    have hI_53 := iw8_2 (t := t) (j := 5 * t + 2) (v := y_50) hI_48 (rfl) ⟨hy_50.1, by first | exact q_16a7703bf h_44 h_51 | omega⟩
    refine v_cv c_40_141 km_3_73 rfl rfl (nb_ rfl) ⟨⟨rfl, rfl⟩, nb_ rfl, rfl⟩ (nb_ rfl) (nb_ rfl) (s_8 (a1 := c P 0 - 1) hI_53 (show (-1) ≤ c P 0 - 1 ∧ c P 0 - 1 ≤ 9999 from ⟨by first | exact q_68889d1a6 h_44 | omega, by first | exact q_57c3d1df3 h_44 | omega⟩) (fun c_54 y_57 hI_55 hF_56 hy_57 h_58 => (bk_inl (v_is c_40_144 rfl (by decide) (by decide) ⟨by first | exact q_a57922852 ht | omega, by first | exact q_be1adda5a ht | omega⟩ (q_aload_n c_40_145 rfl (v_gr (t := 8) c_40_146 kf_3_11 rfl (nb_ rfl) rfl (q_iload_n c_40_149 rfl (q_iconst c_40_150 (v_iadd (v := 5 * t + 4) c_40_151 rfl ?_)))))))))
    refine q_aload_n c_40_152 rfl (q_aload_n c_40_153 rfl ?_)
    have kn_59 : Hid (c_54 P 0 = c P 0) := (hF_56 P 0 (qn_1b31dbfca hP)).trans ((up_c (np0 hP rfl)).trans (hid kn_52))
    refine v_gi (z := 0) (v := c P 0) c_40_154 kf_3_77 (ck_p0 hP) (a68z hP) rfl rfl ((up_c (np0 hP rfl)).trans (hid kn_59)) (q_iconst c_40_157 (v_isub (v := c P 0 - 1) c_40_158 rfl ?_))
    have hI_60 := iw8_3 (t := t) (j := 5 * t + 3) (v := y_57) hI_55 (rfl) ⟨hy_57.1, (Int.le_trans hy_57.2 (by decide))⟩
    refine v_cv c_40_159 km_3_73 rfl rfl (nb_ rfl) ⟨⟨rfl, rfl⟩, nb_ rfl, rfl⟩ (nb_ rfl) (nb_ rfl) (s_8 (a1 := c P 0 - 1) hI_60 (show (-1) ≤ c P 0 - 1 ∧ c P 0 - 1 ≤ 9999 from ⟨by first | exact q_68889d1a6 h_44 | omega, by first | exact q_57c3d1df3 h_44 | omega⟩) (fun c_61 y_64 hI_62 hF_63 hy_64 h_65 => (bk_inl (v_is c_40_162 rfl (by decide) (by decide) ⟨by first | exact q_30157bdbc ht | omega, by first | exact q_481aa6703 ht | omega⟩ (q_goto (t := 349) c_40_163 rfl (q_vret rfl rfl ?_))))))
    have hI_66 := iw8_4 (t := t) (j := 5 * t + 4) (v := y_64) hI_62 (rfl) ⟨hy_64.1, (Int.le_trans hy_64.2 (by decide))⟩
    have kn_67 : Hid (c_39 8 (5 * t) = c 8 (5 * t)) := hF_41 8 (5 * t) qn_40936bc4a
    have kn_68 : Hid (c_47 8 (5 * t) = c 8 (5 * t)) := (hF_49 8 (5 * t) qn_40936bc4a).trans ((up_n (by first | exact ne_0a (by decide) | omega)).trans (hid kn_67))
    have kn_69 : Hid (c_54 8 (5 * t) = c 8 (5 * t)) := (hF_56 8 (5 * t) qn_40936bc4a).trans ((up_n (by first | exact ne_0a (by decide) | omega)).trans (hid kn_68))
    have kn_70 : Hid (c_61 8 (5 * t) = c 8 (5 * t)) := (hF_63 8 (5 * t) qn_40936bc4a).trans ((up_n (by first | exact ne_0a (by decide) | omega)).trans (hid kn_69))
    have q_71 : (up c_61 8 (5 * t + 4) y_64) 8 (5 * t) = c 8 (5 * t) := ((up_n (by first | exact ne_0a (by decide) | omega)).trans (hid kn_70))
    have kn_72 : Hid (c_47 8 (5 * t + 1) = y_42) := (hF_49 8 (5 * t + 1) qn_40936bc4a).trans (up_e rfl)
    have kn_73 : Hid (c_54 8 (5 * t + 1) = y_42) := (hF_56 8 (5 * t + 1) qn_40936bc4a).trans ((up_n (by first | exact ne_aa (by decide) | omega)).trans (hid kn_72))
    have kn_74 : Hid (c_61 8 (5 * t + 1) = y_42) := (hF_63 8 (5 * t + 1) qn_40936bc4a).trans ((up_n (by first | exact ne_aa (by decide) | omega)).trans (hid kn_73))
    have q_75 : (up c_61 8 (5 * t + 4) y_64) 8 (5 * t + 1) = y_42 := ((up_n (by first | exact ne_aa (by decide) | omega)).trans (hid kn_74))
    have kn_76 : Hid (c_54 8 (5 * t + 2) = y_50) := (hF_56 8 (5 * t + 2) qn_40936bc4a).trans (up_e rfl)
    have kn_77 : Hid (c_61 8 (5 * t + 2) = y_50) := (hF_63 8 (5 * t + 2) qn_40936bc4a).trans ((up_n (by first | exact ne_aa (by decide) | omega)).trans (hid kn_76))
    have q_78 : (up c_61 8 (5 * t + 4) y_64) 8 (5 * t + 2) = y_50 := ((up_n (by first | exact ne_aa (by decide) | omega)).trans (hid kn_77))
    have kn_79 : Hid (c_61 8 (5 * t + 3) = y_57) := (hF_63 8 (5 * t + 3) qn_40936bc4a).trans (up_e rfl)
    have q_80 : (up c_61 8 (5 * t + 4) y_64) 8 (5 * t + 3) = y_57 := ((up_n (by first | exact ne_aa (by decide) | omega)).trans (hid kn_79))
    have q_81 : (up c_61 8 (5 * t + 4) y_64) 8 (5 * t + 4) = y_64 := (up_e rfl)
    have hI_82 : Iv u (-1) P Q (up c_61 8 (5 * t + 4) y_64) := iv_close8 (t := t) hI_66 (by rw [q_71, q_75, q_78, q_80, q_81]; exact ⟨(fun e9 => absurd e9 (by first | exact q_72815ef9e h_37 | omega)), (fun e9 => ⟨by first | exact q_9c0cd5a3a h_38 h_43 | omega, by first | exact q_7514a81f1 h_44 h_51 | omega, by first | exact q_7514a81f1 h_44 h_58 | omega, by first | exact q_7514a81f1 h_44 h_65 | omega⟩), (fun e9 => absurd e9 (by first | exact q_4a2fa9e4d h_37 | omega)), (fun e9 => absurd e9 (by first | exact q_4d88fe714 h_37 | omega)), (fun e9 => absurd e9 (by first | exact q_ebaa6bc57 h_37 | omega)), (fun e9 => absurd e9 (by first | exact q_620c3e4c8 h_37 | omega))⟩)
    have kn_83 : Hid (c_39 7 2 = c 7 2) := hF_41 7 2 qn_e31e1496e
    have kn_84 : Hid (c_47 7 2 = c 7 2) := (hF_49 7 2 qn_e31e1496e).trans ((up_c (nn rfl)).trans (hid kn_83))
    have kn_85 : Hid (c_54 7 2 = c 7 2) := (hF_56 7 2 qn_e31e1496e).trans ((up_c (nn rfl)).trans (hid kn_84))
    have kn_86 : Hid (c_61 7 2 = c 7 2) := (hF_63 7 2 qn_e31e1496e).trans ((up_c (nn rfl)).trans (hid kn_85))
    have h_87 : (up c_61 8 (5 * t + 4) y_64) 7 2 = c 7 2 := ((up_c (nn rfl)).trans (hid kn_86))
    exact K (up c_61 8 (5 * t + 4) y_64) hI_82 (fun a j hm => (up_b (Decidable.or_iff_not_imp_left.mpr (fun h1 h2 => hm (Or.inr (Or.inr (Or.inr (Or.inr ⟨Decidable.not_not.mp h1, (Int.le_trans (by clear hm; first | exact q_7bbc2d554 | omega) (Int.le_of_eq h2.symm))⟩))))))).trans ((hF_63 a j (qv_d1fb82d1b hm)).trans ((up_b (Decidable.or_iff_not_imp_left.mpr (fun h1 h2 => hm (Or.inr (Or.inr (Or.inr (Or.inr ⟨Decidable.not_not.mp h1, (Int.le_trans (by clear hm; first | exact q_52f2ef5b6 | omega) (Int.le_of_eq h2.symm))⟩))))))).trans ((hF_56 a j (qv_d1fb82d1b hm)).trans ((up_b (Decidable.or_iff_not_imp_left.mpr (fun h1 h2 => hm (Or.inr (Or.inr (Or.inr (Or.inr ⟨Decidable.not_not.mp h1, (Int.le_trans (by clear hm; first | exact q_68bb02467 | omega) (Int.le_of_eq h2.symm))⟩))))))).trans ((hF_49 a j (qv_d1fb82d1b hm)).trans ((up_b (Decidable.or_iff_not_imp_left.mpr (fun h1 h2 => hm (Or.inr (Or.inr (Or.inr (Or.inr ⟨Decidable.not_not.mp h1, (Int.le_trans (by clear hm; first | exact q_c48eb2e77 | omega) (Int.le_of_eq h2.symm))⟩))))))).trans (hF_41 a j (qv_d1fb82d1b hm))))))))) (by first | exact q_e074ea49a | omega)
  by_cases h_88 : c 8 (5 * t) = 2
  · skip
    refine v_tsw_i (t := 166) 2 rfl (by omega) (by decide) rfl (by decide) (q_aload_n c_40_166 rfl (v_gr (t := 8) c_40_167 kf_3_11 rfl (nb_ rfl) rfl (q_iload_n c_40_170 rfl (q_iconst c_40_171 (v_iadd (v := 5 * t + 1) c_40_172 rfl (q_aload_n c_40_173 rfl (q_aload_n c_40_174 rfl ?_)))))))
    have h_89 := ir_p0_0 hI hP
    refine v_gi (z := 0) (v := c P 0) c_40_175 kf_3_77 (ck_p0 hP) (a68z hP) rfl rfl rfl (q_iconst c_40_178 (v_isub (v := c P 0 - 1) c_40_179 rfl (v_cv c_40_180 km_3_73 rfl rfl (nb_ rfl) ⟨⟨rfl, rfl⟩, nb_ rfl, rfl⟩ (nb_ rfl) (nb_ rfl) (s_8 (a1 := c P 0 - 1) hI (show (-1) ≤ c P 0 - 1 ∧ c P 0 - 1 ≤ 9999 from ⟨by first | exact rgm_l h_89.1 (by decide) | omega, by first | exact rgm_h h_89.2 (by decide) | omega⟩) (fun c_90 y_93 hI_91 hF_92 hy_93 h_94 => (bk_inl (v_is c_40_183 rfl (by decide) (by decide) ⟨by first | exact q_1416f500c ht | omega, by first | exact q_6719517c6 ht | omega⟩ (q_aload_n c_40_184 rfl (v_gr (t := 8) c_40_185 kf_3_11 rfl (nb_ rfl) rfl ?_)))))))))
    refine q_iload_n c_40_188 rfl (q_iconst c_40_189 (v_iadd (v := 5 * t + 2) c_40_190 rfl (q_aload_n c_40_191 rfl (q_aload_n c_40_192 rfl ?_))))
    have kn_95 : Hid (c_90 P 0 = c P 0) := hF_92 P 0 (qn_1b31dbfca hP)
    refine v_gi (z := 0) (v := c P 0) c_40_193 kf_3_77 (ck_p0 hP) (a68z hP) rfl rfl ((up_c (np0 hP rfl)).trans (hid kn_95)) (q_iconst c_40_196 (v_isub (v := c P 0 - 1) c_40_197 rfl ?_))
    have hI_96 := iw8_1 (t := t) (j := 5 * t + 1) (v := y_93) hI_91 (rfl) ⟨hy_93.1, (Int.le_trans hy_93.2 (by decide))⟩
    refine v_cv c_40_198 km_3_73 rfl rfl (nb_ rfl) ⟨⟨rfl, rfl⟩, nb_ rfl, rfl⟩ (nb_ rfl) (nb_ rfl) (s_8 (a1 := c P 0 - 1) hI_96 (show (-1) ≤ c P 0 - 1 ∧ c P 0 - 1 ≤ 9999 from ⟨by first | exact rgm_l h_89.1 (by decide) | omega, by first | exact rgm_h h_89.2 (by decide) | omega⟩) (fun c_97 y_100 hI_98 hF_99 hy_100 h_101 => (bk_inl (v_is c_40_201 rfl (by decide) (by decide) ⟨by first | exact q_ffaf02070 ht | omega, by first | exact q_311969902 ht | omega⟩ (q_goto (t := 349) c_40_202 rfl (q_vret rfl rfl ?_))))))
    have hI_102 := iw8_2 (t := t) (j := 5 * t + 2) (v := y_100) hI_98 (rfl) ⟨hy_100.1, by first | exact q_7d5b8cb18 h_101 h_89 | omega⟩
    have kn_103 : Hid (c_90 8 (5 * t) = c 8 (5 * t)) := hF_92 8 (5 * t) qn_40936bc4a
    have kn_104 : Hid (c_97 8 (5 * t) = c 8 (5 * t)) := (hF_99 8 (5 * t) qn_40936bc4a).trans ((up_n (by first | exact ne_0a (by decide) | omega)).trans (hid kn_103))
    have q_105 : (up c_97 8 (5 * t + 2) y_100) 8 (5 * t) = c 8 (5 * t) := ((up_n (by first | exact ne_0a (by decide) | omega)).trans (hid kn_104))
    have kn_106 : Hid (c_97 8 (5 * t + 1) = y_93) := (hF_99 8 (5 * t + 1) qn_40936bc4a).trans (up_e rfl)
    have q_107 : (up c_97 8 (5 * t + 2) y_100) 8 (5 * t + 1) = y_93 := ((up_n (by first | exact ne_aa (by decide) | omega)).trans (hid kn_106))
    have q_108 : (up c_97 8 (5 * t + 2) y_100) 8 (5 * t + 2) = y_100 := (up_e rfl)
    have h_109 := ir_8 hI (5 * t + 3)
    have kn_110 : Hid (c_90 8 (5 * t + 3) = c 8 (5 * t + 3)) := hF_92 8 (5 * t + 3) qn_40936bc4a
    have kn_111 : Hid (c_97 8 (5 * t + 3) = c 8 (5 * t + 3)) := (hF_99 8 (5 * t + 3) qn_40936bc4a).trans ((up_n (by first | exact ne_aa (by decide) | omega)).trans (hid kn_110))
    have q_112 : (up c_97 8 (5 * t + 2) y_100) 8 (5 * t + 3) = c 8 (5 * t + 3) := ((up_n (by first | exact ne_aa (by decide) | omega)).trans (hid kn_111))
    have h_113 := ir_8 hI (5 * t + 4)
    have kn_114 : Hid (c_90 8 (5 * t + 4) = c 8 (5 * t + 4)) := hF_92 8 (5 * t + 4) qn_40936bc4a
    have kn_115 : Hid (c_97 8 (5 * t + 4) = c 8 (5 * t + 4)) := (hF_99 8 (5 * t + 4) qn_40936bc4a).trans ((up_n (by first | exact ne_aa (by decide) | omega)).trans (hid kn_114))
    have q_116 : (up c_97 8 (5 * t + 2) y_100) 8 (5 * t + 4) = c 8 (5 * t + 4) := ((up_n (by first | exact ne_aa (by decide) | omega)).trans (hid kn_115))
    have hI_117 : Iv u (-1) P Q (up c_97 8 (5 * t + 2) y_100) := iv_close8 (t := t) hI_102 (by rw [q_105, q_107, q_108, q_112, q_116]; exact ⟨(fun e9 => absurd e9 (by first | exact q_4b21d0ff9 h_88 | omega)), (fun e9 => absurd e9 (by first | exact q_70ecf1be4 h_88 | omega)), (fun e9 => ⟨by first | exact q_7514a81f1 h_89 h_94 | omega, by first | exact q_62a06eb7d h_101 h_89 | omega⟩), (fun e9 => absurd e9 (by first | exact q_a930af015 h_88 | omega)), (fun e9 => absurd e9 (by first | exact q_fd6fe127c h_88 | omega)), (fun e9 => absurd e9 (by first | exact q_d20a2a3af h_88 | omega))⟩)
    have kn_118 : Hid (c_90 7 2 = c 7 2) := hF_92 7 2 qn_e31e1496e
    have kn_119 : Hid (c_97 7 2 = c 7 2) := (hF_99 7 2 qn_e31e1496e).trans ((up_c (nn rfl)).trans (hid kn_118))
    have h_120 : (up c_97 8 (5 * t + 2) y_100) 7 2 = c 7 2 := ((up_c (nn rfl)).trans (hid kn_119))
    exact K (up c_97 8 (5 * t + 2) y_100) hI_117 (fun a j hm => (up_b (Decidable.or_iff_not_imp_left.mpr (fun h1 h2 => hm (Or.inr (Or.inr (Or.inr (Or.inr ⟨Decidable.not_not.mp h1, (Int.le_trans (by clear hm; first | exact q_68bb02467 | omega) (Int.le_of_eq h2.symm))⟩))))))).trans ((hF_99 a j (qv_d1fb82d1b hm)).trans ((up_b (Decidable.or_iff_not_imp_left.mpr (fun h1 h2 => hm (Or.inr (Or.inr (Or.inr (Or.inr ⟨Decidable.not_not.mp h1, (Int.le_trans (by clear hm; first | exact q_c48eb2e77 | omega) (Int.le_of_eq h2.symm))⟩))))))).trans (hF_92 a j (qv_d1fb82d1b hm))))) (by first | exact q_e074ea49a | omega)
  by_cases h_121 : c 8 (5 * t) = 3
  · skip
    refine v_tsw_i (t := 205) 3 rfl (by omega) (by decide) rfl (by decide) (q_aload_n c_40_205 rfl (v_gr (t := 8) c_40_206 kf_3_11 rfl (nb_ rfl) rfl (q_iload_n c_40_209 rfl (q_iconst c_40_210 (v_iadd (v := 5 * t + 1) c_40_211 rfl (q_aload_n c_40_212 rfl (q_aload_n c_40_213 rfl ?_)))))))
    have h_122 := ir_p0_0 hI hP
    refine v_gi (z := 0) (v := c P 0) c_40_214 kf_3_77 (ck_p0 hP) (a68z hP) rfl rfl rfl (q_iconst c_40_217 (v_isub (v := c P 0 - 1) c_40_218 rfl (v_cv c_40_219 km_3_73 rfl rfl (nb_ rfl) ⟨⟨rfl, rfl⟩, nb_ rfl, rfl⟩ (nb_ rfl) (nb_ rfl) (s_8 (a1 := c P 0 - 1) hI (show (-1) ≤ c P 0 - 1 ∧ c P 0 - 1 ≤ 9999 from ⟨by first | exact rgm_l h_122.1 (by decide) | omega, by first | exact rgm_h h_122.2 (by decide) | omega⟩) (fun c_123 y_126 hI_124 hF_125 hy_126 h_127 => (bk_inl (v_is c_40_222 rfl (by decide) (by decide) ⟨by first | exact q_1416f500c ht | omega, by first | exact q_6719517c6 ht | omega⟩ (q_aload_n c_40_223 rfl (v_gr (t := 8) c_40_224 kf_3_11 rfl (nb_ rfl) rfl ?_)))))))))
    refine q_iload_n c_40_227 rfl (q_iconst c_40_228 (v_iadd (v := 5 * t + 2) c_40_229 rfl (q_aload_n c_40_230 rfl (q_aload_n c_40_231 rfl ?_))))
    have kn_128 : Hid (c_123 P 0 = c P 0) := hF_125 P 0 (qn_1b31dbfca hP)
    refine v_gi (z := 0) (v := c P 0) c_40_232 kf_3_77 (ck_p0 hP) (a68z hP) rfl rfl ((up_c (np0 hP rfl)).trans (hid kn_128)) (q_iconst c_40_235 (v_isub (v := c P 0 - 1) c_40_236 rfl ?_))
    have hI_129 := iw8_1 (t := t) (j := 5 * t + 1) (v := y_126) hI_124 (rfl) ⟨hy_126.1, (Int.le_trans hy_126.2 (by decide))⟩
    refine v_cv c_40_237 km_3_73 rfl rfl (nb_ rfl) ⟨⟨rfl, rfl⟩, nb_ rfl, rfl⟩ (nb_ rfl) (nb_ rfl) (s_8 (a1 := c P 0 - 1) hI_129 (show (-1) ≤ c P 0 - 1 ∧ c P 0 - 1 ≤ 9999 from ⟨by first | exact rgm_l h_122.1 (by decide) | omega, by first | exact rgm_h h_122.2 (by decide) | omega⟩) (fun c_130 y_133 hI_131 hF_132 hy_133 h_134 => (bk_inl (v_is c_40_240 rfl (by decide) (by decide) ⟨by first | exact q_ffaf02070 ht | omega, by first | exact q_311969902 ht | omega⟩ (q_aload_n c_40_241 rfl (v_gr (t := 8) c_40_242 kf_3_11 rfl (nb_ rfl) rfl (q_iload_n c_40_245 rfl (q_iconst c_40_246 (v_iadd (v := 5 * t + 3) c_40_247 rfl ?_)))))))))
    refine q_aload_n c_40_248 rfl ?_
    have hI_135 := iw8_2 (t := t) (j := 5 * t + 2) (v := y_133) hI_131 (rfl) ⟨hy_133.1, by first | exact q_16a7703bf h_122 h_134 | omega⟩
    refine q_call c_40_249 rfl rfl rfl (s_38 hI_135 (fun c_136 y_139 hI_137 hF_138 hy_139 => (bk_inl (v_is c_40_252 rfl (by decide) (by decide) ⟨by first | exact q_a57922852 ht | omega, by first | exact q_be1adda5a ht | omega⟩ (q_goto (t := 349) c_40_253 rfl (q_vret rfl rfl ?_))))))
    have hI_140 := iw8_3 (t := t) (j := 5 * t + 3) (v := y_139) hI_137 (rfl) ⟨hy_139.1, (Int.le_trans hy_139.2 (by decide))⟩
    have kn_141 : Hid (c_123 8 (5 * t) = c 8 (5 * t)) := hF_125 8 (5 * t) qn_40936bc4a
    have kn_142 : Hid (c_130 8 (5 * t) = c 8 (5 * t)) := (hF_132 8 (5 * t) qn_40936bc4a).trans ((up_n (by first | exact ne_0a (by decide) | omega)).trans (hid kn_141))
    have kn_143 : Hid (c_136 8 (5 * t) = c 8 (5 * t)) := (hF_138 8 (5 * t) qn_40936bc4a).trans ((up_n (by first | exact ne_0a (by decide) | omega)).trans (hid kn_142))
    have q_144 : (up c_136 8 (5 * t + 3) y_139) 8 (5 * t) = c 8 (5 * t) := ((up_n (by first | exact ne_0a (by decide) | omega)).trans (hid kn_143))
    have kn_145 : Hid (c_130 8 (5 * t + 1) = y_126) := (hF_132 8 (5 * t + 1) qn_40936bc4a).trans (up_e rfl)
    have kn_146 : Hid (c_136 8 (5 * t + 1) = y_126) := (hF_138 8 (5 * t + 1) qn_40936bc4a).trans ((up_n (by first | exact ne_aa (by decide) | omega)).trans (hid kn_145))
    have q_147 : (up c_136 8 (5 * t + 3) y_139) 8 (5 * t + 1) = y_126 := ((up_n (by first | exact ne_aa (by decide) | omega)).trans (hid kn_146))
    have kn_148 : Hid (c_136 8 (5 * t + 2) = y_133) := (hF_138 8 (5 * t + 2) qn_40936bc4a).trans (up_e rfl)
    have q_149 : (up c_136 8 (5 * t + 3) y_139) 8 (5 * t + 2) = y_133 := ((up_n (by first | exact ne_aa (by decide) | omega)).trans (hid kn_148))
    have q_150 : (up c_136 8 (5 * t + 3) y_139) 8 (5 * t + 3) = y_139 := (up_e rfl)
    have h_151 := ir_8 hI (5 * t + 4)
    have kn_152 : Hid (c_123 8 (5 * t + 4) = c 8 (5 * t + 4)) := hF_125 8 (5 * t + 4) qn_40936bc4a
    have kn_153 : Hid (c_130 8 (5 * t + 4) = c 8 (5 * t + 4)) := (hF_132 8 (5 * t + 4) qn_40936bc4a).trans ((up_n (by first | exact ne_aa (by decide) | omega)).trans (hid kn_152))
    have kn_154 : Hid (c_136 8 (5 * t + 4) = c 8 (5 * t + 4)) := (hF_138 8 (5 * t + 4) qn_40936bc4a).trans ((up_n (by first | exact ne_aa (by decide) | omega)).trans (hid kn_153))
    have q_155 : (up c_136 8 (5 * t + 3) y_139) 8 (5 * t + 4) = c 8 (5 * t + 4) := ((up_n (by first | exact ne_aa (by decide) | omega)).trans (hid kn_154))
    have hI_156 : Iv u (-1) P Q (up c_136 8 (5 * t + 3) y_139) := iv_close8 (t := t) hI_140 (by rw [q_144, q_147, q_149, q_150, q_155]; exact ⟨(fun e9 => absurd e9 (by first | exact q_118495b55 h_121 | omega)), (fun e9 => absurd e9 (by first | exact q_ee7c71cbc h_121 | omega)), (fun e9 => absurd e9 (by first | exact q_a585623bf h_121 | omega)), (fun e9 => ⟨by first | exact q_7514a81f1 h_122 h_127 | omega, by first | exact q_7514a81f1 h_122 h_134 | omega⟩), (fun e9 => absurd e9 (by first | exact q_bc740e082 h_121 | omega)), (fun e9 => absurd e9 (by first | exact q_770103991 h_121 | omega))⟩)
    have kn_157 : Hid (c_123 7 2 = c 7 2) := hF_125 7 2 qn_e31e1496e
    have kn_158 : Hid (c_130 7 2 = c 7 2) := (hF_132 7 2 qn_e31e1496e).trans ((up_c (nn rfl)).trans (hid kn_157))
    have kn_159 : Hid (c_136 7 2 = c 7 2) := (hF_138 7 2 qn_e31e1496e).trans ((up_c (nn rfl)).trans (hid kn_158))
    have h_160 : (up c_136 8 (5 * t + 3) y_139) 7 2 = c 7 2 := ((up_c (nn rfl)).trans (hid kn_159))
    exact K (up c_136 8 (5 * t + 3) y_139) hI_156 (fun a j hm => (up_b (Decidable.or_iff_not_imp_left.mpr (fun h1 h2 => hm (Or.inr (Or.inr (Or.inr (Or.inr ⟨Decidable.not_not.mp h1, (Int.le_trans (by clear hm; first | exact q_52f2ef5b6 | omega) (Int.le_of_eq h2.symm))⟩))))))).trans ((hF_138 a j (qv_d1fb82d1b hm)).trans ((up_b (Decidable.or_iff_not_imp_left.mpr (fun h1 h2 => hm (Or.inr (Or.inr (Or.inr (Or.inr ⟨Decidable.not_not.mp h1, (Int.le_trans (by clear hm; first | exact q_68bb02467 | omega) (Int.le_of_eq h2.symm))⟩))))))).trans ((hF_132 a j (qv_d1fb82d1b hm)).trans ((up_b (Decidable.or_iff_not_imp_left.mpr (fun h1 h2 => hm (Or.inr (Or.inr (Or.inr (Or.inr ⟨Decidable.not_not.mp h1, (Int.le_trans (by clear hm; first | exact q_c48eb2e77 | omega) (Int.le_of_eq h2.symm))⟩))))))).trans (hF_125 a j (qv_d1fb82d1b hm))))))) (by first | exact q_e074ea49a | omega)
  by_cases h_161 : c 8 (5 * t) = 4
  · skip
    refine v_tsw_i (t := 256) 4 rfl (by omega) (by decide) rfl (by decide) (q_aload_n c_40_256 rfl (v_gr (t := 8) c_40_257 kf_3_11 rfl (nb_ rfl) rfl (q_iload_n c_40_260 rfl (q_iconst c_40_261 (v_iadd (v := 5 * t + 1) c_40_262 rfl (q_aload_n c_40_263 rfl (q_aload_n c_40_264 rfl ?_)))))))
    have h_162 := ir_p0_2 hI hP
    refine v_gi (z := 2) (v := c P 2) c_40_265 kf_3_80 (ck_p0 hP) (a68z hP) rfl rfl rfl (q_iconst c_40_268 (v_isub (v := c P 2 - 1) c_40_269 rfl (v_cv c_40_270 km_3_73 rfl rfl (nb_ rfl) ⟨⟨rfl, rfl⟩, nb_ rfl, rfl⟩ (nb_ rfl) (nb_ rfl) (s_8 (a1 := c P 2 - 1) hI (show (-1) ≤ c P 2 - 1 ∧ c P 2 - 1 ≤ 9999 from ⟨by first | exact rgm_l h_162.1 (by decide) | omega, by first | exact rgm_h h_162.2 (by decide) | omega⟩) (fun c_163 y_166 hI_164 hF_165 hy_166 h_167 => (bk_inl (v_is c_40_273 rfl (by decide) (by decide) ⟨by first | exact q_1416f500c ht | omega, by first | exact q_6719517c6 ht | omega⟩ (q_goto (t := 349) c_40_274 rfl (q_vret rfl rfl ?_)))))))))
    have hI_168 := iw8_1 (t := t) (j := 5 * t + 1) (v := y_166) hI_164 (rfl) ⟨hy_166.1, (Int.le_trans hy_166.2 (by decide))⟩
    have kn_169 : Hid (c_163 8 (5 * t) = c 8 (5 * t)) := hF_165 8 (5 * t) qn_40936bc4a
    have q_170 : (up c_163 8 (5 * t + 1) y_166) 8 (5 * t) = c 8 (5 * t) := ((up_n (by first | exact ne_0a (by decide) | omega)).trans (hid kn_169))
    have q_171 : (up c_163 8 (5 * t + 1) y_166) 8 (5 * t + 1) = y_166 := (up_e rfl)
    have h_172 := ir_8 hI (5 * t + 2)
    have h_173 := ir_8_2 hI (j := 5 * t + 2) (by first | (clear ht ha4 hq0 h_1 h_2 h_161 h_162 h_172 hq1 h_3 h_37 h_88 h_121 h_167; omega) | omega)
    have kn_174 : Hid (c_163 8 (5 * t + 2) = c 8 (5 * t + 2)) := hF_165 8 (5 * t + 2) qn_40936bc4a
    have q_175 : (up c_163 8 (5 * t + 1) y_166) 8 (5 * t + 2) = c 8 (5 * t + 2) := ((up_n (by first | exact ne_aa (by decide) | omega)).trans (hid kn_174))
    have h_176 := ir_8 hI (5 * t + 3)
    have kn_177 : Hid (c_163 8 (5 * t + 3) = c 8 (5 * t + 3)) := hF_165 8 (5 * t + 3) qn_40936bc4a
    have q_178 : (up c_163 8 (5 * t + 1) y_166) 8 (5 * t + 3) = c 8 (5 * t + 3) := ((up_n (by first | exact ne_aa (by decide) | omega)).trans (hid kn_177))
    have h_179 := ir_8 hI (5 * t + 4)
    have kn_180 : Hid (c_163 8 (5 * t + 4) = c 8 (5 * t + 4)) := hF_165 8 (5 * t + 4) qn_40936bc4a
    have q_181 : (up c_163 8 (5 * t + 1) y_166) 8 (5 * t + 4) = c 8 (5 * t + 4) := ((up_n (by first | exact ne_aa (by decide) | omega)).trans (hid kn_180))
    have hI_182 : Iv u (-1) P Q (up c_163 8 (5 * t + 1) y_166) := iv_close8 (t := t) hI_168 (by rw [q_170, q_171, q_175, q_178, q_181]; exact ⟨(fun e9 => absurd e9 (by first | exact q_eb19c88d8 h_161 | omega)), (fun e9 => absurd e9 (by first | exact q_07601ce50 h_161 | omega)), (fun e9 => absurd e9 (by first | exact q_660a9e4d8 h_161 | omega)), (fun e9 => absurd e9 (by first | exact q_a2f8c8f67 h_161 | omega)), (fun e9 => (by first | exact q_9c0cd5a3a h_162 h_167 | omega)), (fun e9 => absurd e9 (by first | exact q_fe9e9dcf4 h_161 | omega))⟩)
    have kn_183 : Hid (c_163 7 2 = c 7 2) := hF_165 7 2 qn_e31e1496e
    have h_184 : (up c_163 8 (5 * t + 1) y_166) 7 2 = c 7 2 := ((up_c (nn rfl)).trans (hid kn_183))
    exact K (up c_163 8 (5 * t + 1) y_166) hI_182 (fun a j hm => (up_b (Decidable.or_iff_not_imp_left.mpr (fun h1 h2 => hm (Or.inr (Or.inr (Or.inr (Or.inr ⟨Decidable.not_not.mp h1, (Int.le_trans (by clear hm; first | exact q_c48eb2e77 | omega) (Int.le_of_eq h2.symm))⟩))))))).trans (hF_165 a j (qv_d1fb82d1b hm))) (by first | exact q_e074ea49a | omega)
  by_cases h_185 : c 8 (5 * t) = 5
  · skip
    refine v_tsw_i (t := 277) 5 rfl (by omega) (by decide) rfl (by decide) (q_aload_n c_40_277 rfl (v_gr (t := 8) c_40_278 kf_3_11 rfl (nb_ rfl) rfl (q_iload_n c_40_281 rfl (q_iconst c_40_282 (v_iadd (v := 5 * t + 1) c_40_283 rfl (q_aload_n c_40_284 rfl (q_aload_n c_40_285 rfl ?_)))))))
    have h_186 := ir_p0_0 hI hP
    refine v_gi (z := 0) (v := c P 0) c_40_286 kf_3_77 (ck_p0 hP) (a68z hP) rfl rfl rfl (q_iconst c_40_289 (v_isub (v := c P 0 - 1) c_40_290 rfl (v_cv c_40_291 km_3_73 rfl rfl (nb_ rfl) ⟨⟨rfl, rfl⟩, nb_ rfl, rfl⟩ (nb_ rfl) (nb_ rfl) (s_8 (a1 := c P 0 - 1) hI (show (-1) ≤ c P 0 - 1 ∧ c P 0 - 1 ≤ 9999 from ⟨by first | exact rgm_l h_186.1 (by decide) | omega, by first | exact rgm_h h_186.2 (by decide) | omega⟩) (fun c_187 y_190 hI_188 hF_189 hy_190 h_191 => (bk_inl (v_is c_40_294 rfl (by decide) (by decide) ⟨by first | exact q_1416f500c ht | omega, by first | exact q_6719517c6 ht | omega⟩ (q_goto (t := 349) c_40_295 rfl (q_vret rfl rfl ?_)))))))))
    have hI_192 := iw8_1 (t := t) (j := 5 * t + 1) (v := y_190) hI_188 (rfl) ⟨hy_190.1, (Int.le_trans hy_190.2 (by decide))⟩
    have kn_193 : Hid (c_187 8 (5 * t) = c 8 (5 * t)) := hF_189 8 (5 * t) qn_40936bc4a
    have q_194 : (up c_187 8 (5 * t + 1) y_190) 8 (5 * t) = c 8 (5 * t) := ((up_n (by first | exact ne_0a (by decide) | omega)).trans (hid kn_193))
    have q_195 : (up c_187 8 (5 * t + 1) y_190) 8 (5 * t + 1) = y_190 := (up_e rfl)
    have h_196 := ir_8 hI (5 * t + 2)
    have h_197 := ir_8_2 hI (j := 5 * t + 2) (by first | (clear ht ha4 hq0 h_1 h_2 h_185 h_186 h_196 hq1 h_3 h_37 h_88 h_121 h_161 h_191; omega) | omega)
    have kn_198 : Hid (c_187 8 (5 * t + 2) = c 8 (5 * t + 2)) := hF_189 8 (5 * t + 2) qn_40936bc4a
    have q_199 : (up c_187 8 (5 * t + 1) y_190) 8 (5 * t + 2) = c 8 (5 * t + 2) := ((up_n (by first | exact ne_aa (by decide) | omega)).trans (hid kn_198))
    have h_200 := ir_8 hI (5 * t + 3)
    have kn_201 : Hid (c_187 8 (5 * t + 3) = c 8 (5 * t + 3)) := hF_189 8 (5 * t + 3) qn_40936bc4a
    have q_202 : (up c_187 8 (5 * t + 1) y_190) 8 (5 * t + 3) = c 8 (5 * t + 3) := ((up_n (by first | exact ne_aa (by decide) | omega)).trans (hid kn_201))
    have h_203 := ir_8 hI (5 * t + 4)
    have kn_204 : Hid (c_187 8 (5 * t + 4) = c 8 (5 * t + 4)) := hF_189 8 (5 * t + 4) qn_40936bc4a
    have q_205 : (up c_187 8 (5 * t + 1) y_190) 8 (5 * t + 4) = c 8 (5 * t + 4) := ((up_n (by first | exact ne_aa (by decide) | omega)).trans (hid kn_204))
    have hI_206 : Iv u (-1) P Q (up c_187 8 (5 * t + 1) y_190) := iv_close8 (t := t) hI_192 (by rw [q_194, q_195, q_199, q_202, q_205]; exact ⟨(fun e9 => absurd e9 (by first | exact q_5451ba73e h_185 | omega)), (fun e9 => absurd e9 (by first | exact q_607327e82 h_185 | omega)), (fun e9 => absurd e9 (by first | exact q_da2f8a773 h_185 | omega)), (fun e9 => absurd e9 (by first | exact q_effe7b19f h_185 | omega)), (fun e9 => absurd e9 (by first | exact q_2ed2cff96 h_185 | omega)), (fun e9 => (by first | exact q_7514a81f1 h_186 h_191 | omega))⟩)
    have kn_207 : Hid (c_187 7 2 = c 7 2) := hF_189 7 2 qn_e31e1496e
    have h_208 : (up c_187 8 (5 * t + 1) y_190) 7 2 = c 7 2 := ((up_c (nn rfl)).trans (hid kn_207))
    exact K (up c_187 8 (5 * t + 1) y_190) hI_206 (fun a j hm => (up_b (Decidable.or_iff_not_imp_left.mpr (fun h1 h2 => hm (Or.inr (Or.inr (Or.inr (Or.inr ⟨Decidable.not_not.mp h1, (Int.le_trans (by clear hm; first | exact q_c48eb2e77 | omega) (Int.le_of_eq h2.symm))⟩))))))).trans (hF_189 a j (qv_d1fb82d1b hm))) (by first | exact q_e074ea49a | omega)
  by_cases h_209 : c 8 (5 * t) = 6
  · skip
    refine v_tsw_i (t := 349) 6 rfl (by omega) (by decide) rfl (by decide) (q_vret rfl rfl ?_)
    have q_210 : c 8 (5 * t) = c 8 (5 * t) := rfl
    have h_211 := ir_8 hI (5 * t + 1)
    have q_212 : c 8 (5 * t + 1) = c 8 (5 * t + 1) := rfl
    have h_213 := ir_8 hI (5 * t + 2)
    have h_214 := ir_8_2 hI (j := 5 * t + 2) (by first | (clear ht ha4 hq0 h_1 h_2 h_209 h_211 h_213 hq1 h_3 h_37 h_88 h_121 h_161 h_185; omega) | omega)
    have q_215 : c 8 (5 * t + 2) = c 8 (5 * t + 2) := rfl
    have h_216 := ir_8 hI (5 * t + 3)
    have q_217 : c 8 (5 * t + 3) = c 8 (5 * t + 3) := rfl
    have h_218 := ir_8 hI (5 * t + 4)
    have q_219 : c 8 (5 * t + 4) = c 8 (5 * t + 4) := rfl
    have hI_220 : Iv u (-1) P Q c := iv_close8 (t := t) hI (by rw [q_210, q_212, q_215, q_217, q_219]; exact ⟨(fun e9 => absurd e9 (by first | exact q_8e3eb3f84 h_209 | omega)), (fun e9 => absurd e9 (by first | exact q_78679d36e h_209 | omega)), (fun e9 => absurd e9 (by first | exact q_f748de4c1 h_209 | omega)), (fun e9 => absurd e9 (by first | exact q_435a82c1b h_209 | omega)), (fun e9 => absurd e9 (by first | exact q_1c69b3b7b h_209 | omega)), (fun e9 => absurd e9 (by first | exact q_783649452 h_209 | omega))⟩)
    exact K c hI_220 (fun a j hm => rfl) (by first | exact q_e074ea49a | omega)
  by_cases h_221 : c 8 (5 * t) = 7
  · skip
    refine v_tsw_i (t := 298) 7 rfl (by omega) (by decide) rfl (by decide) (q_aload_n c_40_298 rfl (v_gr (t := 8) c_40_299 kf_3_11 rfl (nb_ rfl) rfl (q_iload_n c_40_302 rfl (q_iconst c_40_303 (v_iadd (v := 5 * t + 1) c_40_304 rfl (q_aload_n c_40_305 rfl (v_bip c_40_306 (by decide) ?_)))))))
    refine v_cv c_40_308 km_3_73 rfl rfl (nb_ rfl) ⟨⟨rfl, rfl⟩, nb_ rfl, rfl⟩ (nb_ rfl) (nb_ rfl) (s_8 (a1 := 40) hI (show (-1) ≤ 40 ∧ 40 ≤ 9999 from ⟨by decide, by decide⟩) (fun c_222 y_225 hI_223 hF_224 hy_225 h_226 => (bk_inl (v_is c_40_311 rfl (by decide) (by decide) ⟨by first | exact q_1416f500c ht | omega, by first | exact q_6719517c6 ht | omega⟩ (q_aload_n c_40_312 rfl (q_ldc_s c_40_313 rfl rfl (by decide) ?_))))))
    have hI_227 := iw8_1 (t := t) (j := 5 * t + 1) (v := y_225) hI_223 (rfl) ⟨hy_225.1, (Int.le_trans hy_225.2 (by decide))⟩
    refine v_cv c_40_315 km_3_64 rfl rfl (nb_ rfl) ⟨⟨rfl, rfl⟩, nb_ rfl, rfl⟩ (nb_ rfl) (nb_ rfl) (s_11 hI_227 (q := 11) (nt := 1) (by decide) (by decide) (by decide) (fun c_228 hI_229 hF_230 => (bk_inl (q_aload_n c_40_318 rfl (q_aload_n c_40_319 rfl (q_aload_n c_40_320 rfl (q_iload c_40_321 rfl (q_iconst c_40_323 (v_iadd (v := a4 + 1) c_40_324 rfl ?_)))))))))
    have kn_231 : Hid (c_222 8 (5 * t) = c 8 (5 * t)) := hF_224 8 (5 * t) qn_40936bc4a
    have kn_232 : Hid (c_228 8 (5 * t) = c 8 (5 * t)) := (hF_230 8 (5 * t) qn_40936bc4a).trans ((up_n (by first | exact ne_0a (by decide) | omega)).trans (hid kn_231))
    have q_233 : c_228 8 (5 * t) = c 8 (5 * t) := (hid kn_232)
    have kn_234 : Hid (c_228 8 (5 * t + 1) = y_225) := (hF_230 8 (5 * t + 1) qn_40936bc4a).trans (up_e rfl)
    have q_235 : c_228 8 (5 * t + 1) = y_225 := (hid kn_234)
    have h_236 := ir_8 hI (5 * t + 2)
    have h_237 := ir_8_2 hI (j := 5 * t + 2) (by first | (clear ht ha4 hq0 h_1 h_2 h_221 h_236 hq1 h_3 h_37 h_88 h_121 h_161 h_185 h_209 h_226; omega) | omega)
    have kn_238 : Hid (c_222 8 (5 * t + 2) = c 8 (5 * t + 2)) := hF_224 8 (5 * t + 2) qn_40936bc4a
    have kn_239 : Hid (c_228 8 (5 * t + 2) = c 8 (5 * t + 2)) := (hF_230 8 (5 * t + 2) qn_40936bc4a).trans ((up_n (by first | exact ne_aa (by decide) | omega)).trans (hid kn_238))
    have q_240 : c_228 8 (5 * t + 2) = c 8 (5 * t + 2) := (hid kn_239)
    have h_241 := ir_8 hI (5 * t + 3)
    have kn_242 : Hid (c_222 8 (5 * t + 3) = c 8 (5 * t + 3)) := hF_224 8 (5 * t + 3) qn_40936bc4a
    have kn_243 : Hid (c_228 8 (5 * t + 3) = c 8 (5 * t + 3)) := (hF_230 8 (5 * t + 3) qn_40936bc4a).trans ((up_n (by first | exact ne_aa (by decide) | omega)).trans (hid kn_242))
    have q_244 : c_228 8 (5 * t + 3) = c 8 (5 * t + 3) := (hid kn_243)
    have h_245 := ir_8 hI (5 * t + 4)
    have kn_246 : Hid (c_222 8 (5 * t + 4) = c 8 (5 * t + 4)) := hF_224 8 (5 * t + 4) qn_40936bc4a
    have kn_247 : Hid (c_228 8 (5 * t + 4) = c 8 (5 * t + 4)) := (hF_230 8 (5 * t + 4) qn_40936bc4a).trans ((up_n (by first | exact ne_aa (by decide) | omega)).trans (hid kn_246))
    have q_248 : c_228 8 (5 * t + 4) = c 8 (5 * t + 4) := (hid kn_247)
    have hI_249 : Iv u (-1) P Q c_228 := iv_close8 (t := t) hI_229 (by rw [q_233, q_235, q_240, q_244, q_248]; exact ⟨(fun e9 => absurd e9 (by first | exact q_d9dab072a h_221 | omega)), (fun e9 => absurd e9 (by first | exact q_08c322c8b h_221 | omega)), (fun e9 => absurd e9 (by first | exact q_6f8ea684b h_221 | omega)), (fun e9 => absurd e9 (by first | exact q_10d1e1edb h_221 | omega)), (fun e9 => absurd e9 (by first | exact q_b6c8557ad h_221 | omega)), (fun e9 => absurd e9 (by first | exact q_402d8d996 h_221 | omega))⟩)
    have kn_250 : Hid (c_222 7 2 = c 7 2) := hF_224 7 2 qn_e31e1496e
    have kn_251 : Hid (c_228 7 2 = c 7 2) := (hF_230 7 2 qn_e31e1496e).trans ((up_c (nn rfl)).trans (hid kn_250))
    have h_252 : c_228 7 2 = c 7 2 := (hid kn_251)
    have h_253 : c_228 7 2 = c 7 2 := (hid kn_251)
    refine v_cv c_40_325 km_3_28 rfl rfl (nb_ rfl) ⟨⟨rfl, rfl⟩, nb_ rfl, rfl⟩ (nb_ rfl) (nb_ rfl) (H41 _ _ (by omega) hI_249 (fun c_254 hI_255 hF_256 h_257 => (bk_inl ?_)))
    have h_258 := ir_7_2 hI_255
    refine q_aload_n c_40_328 rfl (q_ldc_s c_40_329 rfl rfl (by decide) (v_cv c_40_331 km_3_64 rfl rfl (nb_ rfl) ⟨⟨rfl, rfl⟩, nb_ rfl, rfl⟩ (nb_ rfl) (nb_ rfl) (s_11 hI_255 (q := 12) (nt := 1) (by decide) (by decide) (by decide) (fun c_259 hI_260 hF_261 => (bk_inl (q_aload_n c_40_334 rfl (v_gr (t := 8) c_40_335 kf_3_11 rfl (nb_ rfl) rfl (q_iload_n c_40_338 rfl (q_iconst c_40_339 ?_)))))))))
    refine v_iadd (v := 5 * t + 2) c_40_340 rfl (q_aload_n c_40_341 rfl ?_)
    have kn_262 : Hid (c_259 7 2 = c_254 7 2) := hF_261 7 2 qn_e31e1496e
    refine v_gi (z := 2) (v := c_254 7 2) c_40_342 kf_3_19 rfl (nb_ rfl) rfl rfl (hid kn_262) (v_is c_40_345 rfl (by decide) (by decide) ⟨by first | exact q_ffaf02070 ht | omega, by first | exact q_311969902 ht | omega⟩ (q_goto (t := 349) c_40_346 rfl (q_vret rfl rfl ?_)))
    have hI_263 := iw8_2 (t := t) (j := 5 * t + 2) (v := c_254 7 2) (iv_open8 hI_260) (rfl) ⟨h_258.1, h_258.2⟩
    have kn_264 : Hid (c_254 8 (5 * t) = c 8 (5 * t)) := (hF_256 8 (5 * t) (fun q => q.elim (fun h => absurd h.1 (nn rfl)) (fun q => q.elim (fun h => absurd h.1 (nn rfl)) (fun q => q.elim (fun h => absurd h.1 (nn rfl)) (fun q => q.elim (fun h => absurd h.1 (nn rfl)) (fun h => absurd h.2 (nge (by first | exact q_5e5dcf90e hq0 | omega)))))))).trans (hid kn_232)
    have kn_265 : Hid (c_259 8 (5 * t) = c 8 (5 * t)) := (hF_261 8 (5 * t) qn_40936bc4a).trans (hid kn_264)
    have q_266 : (up c_259 8 (5 * t + 2) (c_254 7 2)) 8 (5 * t) = c 8 (5 * t) := ((up_n (by first | exact ne_0a (by decide) | omega)).trans (hid kn_265))
    have kn_267 : Hid (c_254 8 (5 * t + 1) = y_225) := (hF_256 8 (5 * t + 1) (fun q => q.elim (fun h => absurd h.1 (nn rfl)) (fun q => q.elim (fun h => absurd h.1 (nn rfl)) (fun q => q.elim (fun h => absurd h.1 (nn rfl)) (fun q => q.elim (fun h => absurd h.1 (nn rfl)) (fun h => absurd h.2 (nge (by first | exact q_7674b446a hq0 | omega)))))))).trans (hid kn_234)
    have kn_268 : Hid (c_259 8 (5 * t + 1) = y_225) := (hF_261 8 (5 * t + 1) qn_40936bc4a).trans (hid kn_267)
    have q_269 : (up c_259 8 (5 * t + 2) (c_254 7 2)) 8 (5 * t + 1) = y_225 := ((up_n (by first | exact ne_aa (by decide) | omega)).trans (hid kn_268))
    have q_270 : (up c_259 8 (5 * t + 2) (c_254 7 2)) 8 (5 * t + 2) = c_254 7 2 := (up_e rfl)
    have kn_271 : Hid (c_254 8 (5 * t + 3) = c 8 (5 * t + 3)) := (hF_256 8 (5 * t + 3) (fun q => q.elim (fun h => absurd h.1 (nn rfl)) (fun q => q.elim (fun h => absurd h.1 (nn rfl)) (fun q => q.elim (fun h => absurd h.1 (nn rfl)) (fun q => q.elim (fun h => absurd h.1 (nn rfl)) (fun h => absurd h.2 (nge (by first | exact q_5d05efc21 hq0 | omega)))))))).trans (hid kn_243)
    have kn_272 : Hid (c_259 8 (5 * t + 3) = c 8 (5 * t + 3)) := (hF_261 8 (5 * t + 3) qn_40936bc4a).trans (hid kn_271)
    have q_273 : (up c_259 8 (5 * t + 2) (c_254 7 2)) 8 (5 * t + 3) = c 8 (5 * t + 3) := ((up_n (by first | exact ne_aa (by decide) | omega)).trans (hid kn_272))
    have kn_274 : Hid (c_254 8 (5 * t + 4) = c 8 (5 * t + 4)) := (hF_256 8 (5 * t + 4) (fun q => q.elim (fun h => absurd h.1 (nn rfl)) (fun q => q.elim (fun h => absurd h.1 (nn rfl)) (fun q => q.elim (fun h => absurd h.1 (nn rfl)) (fun q => q.elim (fun h => absurd h.1 (nn rfl)) (fun h => absurd h.2 (nge (by first | exact q_133825ead hq0 | omega)))))))).trans (hid kn_247)
    have kn_275 : Hid (c_259 8 (5 * t + 4) = c 8 (5 * t + 4)) := (hF_261 8 (5 * t + 4) qn_40936bc4a).trans (hid kn_274)
    have q_276 : (up c_259 8 (5 * t + 2) (c_254 7 2)) 8 (5 * t + 4) = c 8 (5 * t + 4) := ((up_n (by first | exact ne_aa (by decide) | omega)).trans (hid kn_275))
    have hI_277 : Iv u (-1) P Q (up c_259 8 (5 * t + 2) (c_254 7 2)) := iv_close8 (t := t) hI_263 (by rw [q_266, q_269, q_270, q_273, q_276]; exact ⟨(fun e9 => absurd e9 (by first | exact q_d9dab072a h_221 | omega)), (fun e9 => absurd e9 (by first | exact q_08c322c8b h_221 | omega)), (fun e9 => absurd e9 (by first | exact q_6f8ea684b h_221 | omega)), (fun e9 => absurd e9 (by first | exact q_10d1e1edb h_221 | omega)), (fun e9 => absurd e9 (by first | exact q_b6c8557ad h_221 | omega)), (fun e9 => absurd e9 (by first | exact q_402d8d996 h_221 | omega))⟩)
    have h_278 : (up c_259 8 (5 * t + 2) (c_254 7 2)) 7 2 = c_254 7 2 := ((up_c (nn rfl)).trans (hid kn_262))
    exact K (up c_259 8 (5 * t + 2) (c_254 7 2)) hI_277 (fun a j hm => (up_b (Decidable.or_iff_not_imp_left.mpr (fun h1 h2 => hm (Or.inr (Or.inr (Or.inr (Or.inr ⟨Decidable.not_not.mp h1, (Int.le_trans (by clear hm; first | exact q_68bb02467 | omega) (Int.le_of_eq h2.symm))⟩))))))).trans ((hF_261 a j (qv_d1fb82d1b hm)).trans ((hF_256 a j (fun q => q.elim (fun h => hm (Or.inl h)) (fun q => q.elim (fun h => hm (Or.inr (Or.inl h))) (fun q => q.elim (fun h => hm (Or.inr (Or.inr (Or.inl h)))) (fun q => q.elim (fun h => hm (Or.inr (Or.inr (Or.inr (Or.inl h))))) (fun h => hm (Or.inr (Or.inr (Or.inr (Or.inr ⟨h.1, (Int.le_trans (by clear hm; first | exact q_d1cd98eaf hq0 | omega) h.2)⟩)))))))))).trans ((hF_230 a j (qv_d1fb82d1b hm)).trans ((up_b (Decidable.or_iff_not_imp_left.mpr (fun h1 h2 => hm (Or.inr (Or.inr (Or.inr (Or.inr ⟨Decidable.not_not.mp h1, (Int.le_trans (by clear hm; first | exact q_c48eb2e77 | omega) (Int.le_of_eq h2.symm))⟩))))))).trans (hF_224 a j (qv_d1fb82d1b hm))))))) (by first | exact q_74cd69a50 h_257 h_252 | omega)
  refine v_tsw_o (t := 349) rfl (by omega) (by decide) (q_vret rfl rfl ?_)
  have q_279 : c 8 (5 * t) = c 8 (5 * t) := rfl
  have h_280 := ir_8 hI (5 * t + 1)
  have q_281 : c 8 (5 * t + 1) = c 8 (5 * t + 1) := rfl
  have h_282 := ir_8 hI (5 * t + 2)
  have h_283 := ir_8_2 hI (j := 5 * t + 2) (by first | (clear ht ha4 hq0 h_1 h_2 h_280 h_282 hq1 h_3 h_37 h_88 h_121 h_161 h_185 h_209 h_221; omega) | omega)
  have q_284 : c 8 (5 * t + 2) = c 8 (5 * t + 2) := rfl
  have h_285 := ir_8 hI (5 * t + 3)
  have q_286 : c 8 (5 * t + 3) = c 8 (5 * t + 3) := rfl
  have h_287 := ir_8 hI (5 * t + 4)
  have q_288 : c 8 (5 * t + 4) = c 8 (5 * t + 4) := rfl
  have hI_289 : Iv u (-1) P Q c := iv_close8 (t := t) hI (by rw [q_279, q_281, q_284, q_286, q_288]; exact ⟨(fun e9 => absurd e9 (by first | exact q_00b473266 h_2 h_3 | omega)), (fun e9 => absurd e9 (by first | exact q_ea625c1e5 h_37 | omega)), (fun e9 => absurd e9 (by first | exact q_e2e39526d h_88 | omega)), (fun e9 => absurd e9 (by first | exact q_dcc533340 h_121 | omega)), (fun e9 => absurd e9 (by first | exact q_06b43b618 h_161 | omega)), (fun e9 => absurd e9 (by first | exact q_6d146e2b2 h_185 | omega))⟩)
  exact K c hI_289 (fun a j hm => rfl) (by first | exact q_e074ea49a | omega)
end
