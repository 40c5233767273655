/-! ===== contracts 2 ===== -/
theorem q_4cd384ca3 {x0 : Int} (f0 : 0 ≤ x0 ∧ x0 ≤ 6) : (-2147483648) ≤ 4 * x0 := by omega
theorem q_b942bf61d {x0 : Int}  : 4 * x0 < 4 * x0 + 4 := by omega
theorem q_58e0b19e1 {x0 : Int} (f0 : 0 ≤ x0 ∧ x0 ≤ 6) : 4 * x0 + 4 ≤ 2147483647 := by omega
theorem q_e06e21d96 {x0 x1 : Int} (f0 : x0 = 0) (f1 : 0 ≤ x0 ∧ x0 ≤ 100) (f2 : (x0 ≠ 0) ∨ (x1 ≤ 5)) : 4 * x1 < 24 := by omega
theorem q_989182599 {x0 : Int} (f0 : 0 ≤ x0 ∧ x0 ≤ 6) : 0 ≤ 4 * x0 := by omega
theorem q_37fa5c0f7 {x0 : Int} (f0 : 0 ≤ x0 ∧ x0 ≤ 6) : (-2147483648) ≤ 4 * x0 + 1 := by omega
theorem q_1e5bb51b5 {x0 : Int}  : 4 * x0 + 1 < 4 * x0 + 4 := by omega
theorem q_fb29ecb06 {x0 x1 : Int} (f0 : x0 = 0) (f1 : 0 ≤ x0 ∧ x0 ≤ 100) (f2 : (x0 ≠ 0) ∨ (x1 ≤ 5)) : 4 * x1 + 1 < 24 := by omega
theorem q_dec870c4c {x0 : Int} (f0 : (x0 ≤ 999) ∨ (x0 = 0)) : x0 ≤ 999 := by omega
theorem q_5c7b70196 {x0 : Int} (f0 : 0 ≤ x0 ∧ x0 ≤ 6) : 0 ≤ 4 * x0 + 1 := by omega
theorem q_b7e04cbb8 {x0 : Int} (f0 : 0 ≤ x0 ∧ x0 ≤ 6) : (-2147483648) ≤ 4 * x0 + 2 := by omega
theorem q_a16cada9f {x0 : Int}  : 4 * x0 + 2 < 4 * x0 + 4 := by omega
theorem q_975b2c00c {x0 x1 : Int} (f0 : x0 = 0) (f1 : 0 ≤ x0 ∧ x0 ≤ 100) (f2 : (x0 ≠ 0) ∨ (x1 ≤ 5)) : 4 * x1 + 2 < 24 := by omega
theorem q_5a453c95b {x0 : Int} (f0 : 0 ≤ x0 ∧ x0 ≤ 6) : 0 ≤ 4 * x0 + 2 := by omega
theorem q_6d422924b {x0 : Int} (f0 : 0 ≤ x0 ∧ x0 ≤ 6) : (-2147483648) ≤ 4 * x0 + 3 := by omega
theorem q_550340cc7 {x0 : Int}  : 4 * x0 + 3 < 4 * x0 + 4 := by omega
theorem q_a04272509 {x0 x1 : Int} (f0 : x0 = 0) (f1 : 0 ≤ x0 ∧ x0 ≤ 100) (f2 : (x0 ≠ 0) ∨ (x1 ≤ 5)) : 4 * x1 + 3 < 24 := by omega
theorem q_012aff489 {x0 : Int} (f0 : 0 ≤ x0 ∧ x0 ≤ 6) : 0 ≤ 4 * x0 + 3 := by omega
theorem q_800e899ee {x0 : Int} (f0 : 0 ≤ x0 ∧ x0 ≤ 6) : (-2147483648) ≤ 4 * x0 + 4 := by omega
theorem q_aeeb529e2 {x0 : Int}  : 4 * x0 + 4 ≤ 4 * x0 + 4 := by omega
theorem qn_014d425e1 {A : Nat} {j : Int} (hA : A = 13 ∨ A = 25) : ¬ ((A = 1 ∧ j = 2) ∨ (A = 1 ∧ j = 4) ∨ (A = 1 ∧ j = 5)) := (fun q => q.elim (fun h => absurd h.1 (np0 hA rfl)) (fun q => q.elim (fun h => absurd h.1 (np0 hA rfl)) (fun h => absurd h.1 (np0 hA rfl))))
theorem q_76c061441 {x0 x1 : Int} (f0 : x0 = 0) (f1 : 0 ≤ x0 ∧ x0 ≤ 100) (f2 : (x0 ≠ 0) ∨ (x1 ≤ 5)) : x1 + 1 ≤ 6 := by omega
theorem qv_23f7cbea6 {A : Nat} {a : Nat} {j : Int} (hm : ¬ ((a = 1 ∧ j = 2) ∨ (a = 1 ∧ j = 4) ∨ (a = 1 ∧ j = 5) ∨ (a = A ∧ j = 0) ∨ (a = A ∧ j = 1) ∨ (a = A ∧ j = 2) ∨ (a = A ∧ j = 3) ∨ a = (A + 1) ∨ a = (A + 2) ∨ a = (A + 3))) : ¬ ((a = 1 ∧ j = 2) ∨ (a = 1 ∧ j = 4) ∨ (a = 1 ∧ j = 5)) := (fun q => q.elim (fun h => hm (Or.inl h)) (fun q => q.elim (fun h => hm (Or.inr (Or.inl h))) (fun h => hm (Or.inr (Or.inr (Or.inl h))))))
theorem q_479f6587b {x0 : Int} (f0 : 0 ≤ x0 ∧ x0 ≤ 4) : (-2147483648) ≤ 3 * x0 := by omega
theorem q_e86648d44 {x0 : Int}  : 3 * x0 < 3 * x0 + 3 := by omega
theorem q_7b3d3c593 {x0 : Int} (f0 : 0 ≤ x0 ∧ x0 ≤ 4) : 3 * x0 + 3 ≤ 2147483647 := by omega
theorem q_9dec92735 {x0 x1 : Int} (f0 : x0 = 1) (f1 : (x0 ≠ 1) ∨ (x1 ≤ 3)) : 3 * x1 < 12 := by omega
theorem q_d745e1084 {x0 : Int} (f0 : 0 ≤ x0 ∧ x0 ≤ 4) : 0 ≤ 3 * x0 := by omega
theorem q_c1fe2d201 {x0 : Int} (f0 : 0 ≤ x0 ∧ x0 ≤ 4) : (-2147483648) ≤ 3 * x0 + 1 := by omega
theorem q_b897c897a {x0 : Int}  : 3 * x0 + 1 < 3 * x0 + 3 := by omega
theorem q_222845f48 {x0 x1 : Int} (f0 : x0 = 1) (f1 : (x0 ≠ 1) ∨ (x1 ≤ 3)) : 3 * x1 + 1 < 12 := by omega
theorem q_c41f06fcf {x0 : Int} (f0 : (x0 ≤ 10) ∨ (x0 = 0)) : x0 ≤ 10 := by omega
theorem q_27045273b {x0 : Int} (f0 : 0 ≤ x0 ∧ x0 ≤ 4) : 0 ≤ 3 * x0 + 1 := by omega
theorem q_87a9919dd {x0 : Int} (f0 : 0 ≤ x0 ∧ x0 ≤ 4) : (-2147483648) ≤ 3 * x0 + 2 := by omega
theorem q_92e2c60a6 {x0 : Int}  : 3 * x0 + 2 < 3 * x0 + 3 := by omega
theorem q_82d1a1cd7 {x0 x1 : Int} (f0 : x0 = 1) (f1 : (x0 ≠ 1) ∨ (x1 ≤ 3)) : 3 * x1 + 2 < 12 := by omega
theorem q_796717b5a {x0 : Int} (f0 : 0 ≤ x0 ∧ x0 ≤ 4) : 0 ≤ 3 * x0 + 2 := by omega
theorem q_10ca3dd2a {x0 : Int} (f0 : 0 ≤ x0 ∧ x0 ≤ 4) : (-2147483648) ≤ 3 * x0 + 3 := by omega
theorem q_090c47ebb {x0 : Int}  : 3 * x0 + 3 ≤ 3 * x0 + 3 := by omega
theorem q_2e94b5862 {x0 x1 : Int} (f0 : x0 = 1) (f1 : (x0 ≠ 1) ∨ (x1 ≤ 3)) : x1 + 1 ≤ 4 := by omega
theorem q_3e85f52a4 {x0 : Int}  : x0 < x0 + 1 := by omega
theorem q_94361f98f {x0 x1 : Int} (f0 : x0 = 2) (f1 : (x0 ≠ 2) ∨ (x1 ≤ 3)) : x1 < 4 := by omega
theorem q_19afebcac {x0 : Int} (f0 : (x0 ≤ 2) ∨ (x0 = 0)) : x0 ≤ 2 := by omega
theorem q_e2d2fa1b6 {x0 x1 : Int} (f0 : x0 = 2) (f1 : (x0 ≠ 2) ∨ (x1 ≤ 3)) : x1 + 1 ≤ 4 := by omega
theorem q_9510e3478 {x0 : Int} (f0 : (x0 ≤ 50) ∨ (x0 = 0)) : x0 ≤ 50 := by omega
theorem qv_69188b0c2 {A : Nat} {a : Nat} {j : Int} (hm : ¬ ((a = 1 ∧ j = 2) ∨ (a = 1 ∧ j = 4) ∨ (a = 1 ∧ j = 5) ∨ (a = A ∧ j = 0) ∨ (a = A ∧ j = 1) ∨ (a = A ∧ j = 2) ∨ (a = A ∧ j = 3) ∨ a = (A + 1) ∨ a = (A + 2) ∨ a = (A + 3) ∨ (a = A ∧ j = 4) ∨ (a = A ∧ j = 5) ∨ a = (A + 6) ∨ (a = (A + 7) ∧ j = 4))) : ¬ ((a = 1 ∧ j = 2) ∨ (a = 1 ∧ j = 4) ∨ (a = 1 ∧ j = 5)) := (fun q => q.elim (fun h => hm (Or.inl h)) (fun q => q.elim (fun h => hm (Or.inr (Or.inl h))) (fun h => hm (Or.inr (Or.inr (Or.inl h))))))
theorem q_d44226a64 {x0 : Int} (f0 : ¬ (x0 > 60)) : x0 + 1 ≤ 61 := by omega
theorem qv_b1bc9762f {A : Nat} {a : Nat} {j : Int} (hm : ¬ ((a = 1 ∧ j = 2) ∨ (a = 1 ∧ j = 4) ∨ (a = 1 ∧ j = 5) ∨ (a = A ∧ j = 0) ∨ (a = A ∧ j = 1) ∨ (a = A ∧ j = 2) ∨ (a = A ∧ j = 3) ∨ a = (A + 1) ∨ a = (A + 2) ∨ a = (A + 3) ∨ (a = A ∧ j = 4) ∨ (a = A ∧ j = 5) ∨ a = (A + 6) ∨ (a = (A + 7) ∧ j = 4))) : ¬ ((a = 1 ∧ j = 4) ∨ (a = 1 ∧ j = 5)) := (fun q => q.elim (fun h => hm (Or.inr (Or.inl h))) (fun h => hm (Or.inr (Or.inr (Or.inl h)))))
theorem q_730ab5169 {x0 : Int} (f0 : 0 ≤ x0 ∧ x0 ≤ 6) : (-2147483648) ≤ x0 := by omega
theorem q_b289b7db2 {x0 : Int} (f0 : 0 ≤ x0 ∧ x0 ≤ 6) : x0 ≤ 2147483647 := by omega
theorem q_7e599b6d7 {x0 : Int} (f0 : x0 = 0) : 0 ≤ x0 := by omega
theorem q_750ebd296 {x0 : Int} (f0 : 0 ≤ x0 ∧ x0 ≤ 6) (f1 : x0 ≠ 6) : x0 ≤ 5 := by omega
theorem q_7e9ffde01 {x0 : Int} (f0 : x0 = 0) : ¬ x0 = 1 := by omega
theorem q_4d25412af {x0 : Int} (f0 : x0 = 0) : ¬ x0 = 2 := by omega
theorem qv_967ad9091 {A : Nat} {a : Nat} {j : Int} (hm : ¬ ((a = 1 ∧ j = 2) ∨ (a = 1 ∧ j = 4) ∨ (a = 1 ∧ j = 5) ∨ (a = A ∧ j = 0) ∨ (a = A ∧ j = 1) ∨ (a = A ∧ j = 2) ∨ (a = A ∧ j = 3) ∨ a = (A + 1) ∨ a = (A + 2) ∨ a = (A + 3) ∨ (a = A ∧ j = 4) ∨ (a = A ∧ j = 5) ∨ a = (A + 6) ∨ (a = (A + 7) ∧ j = 4))) : ¬ ((a = 1 ∧ j = 2) ∨ (a = 1 ∧ j = 4) ∨ (a = 1 ∧ j = 5) ∨ (a = A ∧ j = 0) ∨ (a = A ∧ j = 1) ∨ (a = A ∧ j = 2) ∨ (a = A ∧ j = 3) ∨ a = (A + 1) ∨ a = (A + 2) ∨ a = (A + 3)) := (fun q => q.elim (fun h => hm (Or.inl h)) (fun q => q.elim (fun h => hm (Or.inr (Or.inl h))) (fun q => q.elim (fun h => hm (Or.inr (Or.inr (Or.inl h)))) (fun q => q.elim (fun h => hm (Or.inr (Or.inr (Or.inr (Or.inl h))))) (fun q => q.elim (fun h => hm (Or.inr (Or.inr (Or.inr (Or.inr (Or.inl h)))))) (fun q => q.elim (fun h => hm (Or.inr (Or.inr (Or.inr (Or.inr (Or.inr (Or.inl h))))))) (fun q => q.elim (fun h => hm (Or.inr (Or.inr (Or.inr (Or.inr (Or.inr (Or.inr (Or.inl h)))))))) (fun q => q.elim (fun h => hm (Or.inr (Or.inr (Or.inr (Or.inr (Or.inr (Or.inr (Or.inr (Or.inl h))))))))) (fun q => q.elim (fun h => hm (Or.inr (Or.inr (Or.inr (Or.inr (Or.inr (Or.inr (Or.inr (Or.inr (Or.inl h)))))))))) (fun h => hm (Or.inr (Or.inr (Or.inr (Or.inr (Or.inr (Or.inr (Or.inr (Or.inr (Or.inr (Or.inl h))))))))))))))))))))
theorem q_0bfe68f8e {x0 : Int} (f0 : 0 ≤ x0 ∧ x0 ≤ 4) : (-2147483648) ≤ x0 := by omega
theorem q_82d4f69ff {x0 : Int} (f0 : 0 ≤ x0 ∧ x0 ≤ 4) : x0 ≤ 2147483647 := by omega
theorem q_d72e4aea1 {x0 : Int} (f0 : x0 = 1) : 0 ≤ x0 := by omega
theorem q_72815ef9e {x0 : Int} (f0 : x0 = 1) : ¬ x0 = 0 := by omega
theorem q_c4bb9308f {x0 : Int} (f0 : 0 ≤ x0 ∧ x0 ≤ 4) (f1 : x0 ≠ 4) : x0 ≤ 3 := by omega
theorem q_4a2fa9e4d {x0 : Int} (f0 : x0 = 1) : ¬ x0 = 2 := by omega
theorem q_c53b4a9c0 {x0 : Int} (f0 : x0 = 2) : 0 ≤ x0 := by omega
theorem q_4b21d0ff9 {x0 : Int} (f0 : x0 = 2) : ¬ x0 = 0 := by omega
theorem q_70ecf1be4 {x0 : Int} (f0 : x0 = 2) : ¬ x0 = 1 := by omega
theorem q_b802e0b40 {x0 x1 : Int} (f0 : ¬ (x0 ≠ 0)) (f1 : (x1 ≥ 0) ∨ (x0 ≠ 0)) (f2 : 0 ≤ x0 ∧ x0 ≤ 3) : 0 ≤ x1 := by omega
theorem q_93a4df8f1 {x0 : Int} (f0 : ¬ (x0 = 0)) : ¬ x0 = 0 := by omega
theorem q_ea625c1e5 {x0 : Int} (f0 : ¬ (x0 = 1)) : ¬ x0 = 1 := by omega
theorem q_e2e39526d {x0 : Int} (f0 : ¬ (x0 = 2)) : ¬ x0 = 2 := by omega
theorem qv_ae6779878 {A : Nat} {a : Nat} {j : Int} (hm : ¬ ((a = 1 ∧ j = 2) ∨ (a = 1 ∧ j = 4) ∨ (a = 1 ∧ j = 5) ∨ (a = A ∧ j = 0) ∨ (a = A ∧ j = 1) ∨ (a = A ∧ j = 2) ∨ (a = A ∧ j = 3) ∨ a = (A + 1) ∨ a = (A + 2) ∨ a = (A + 3) ∨ (a = A ∧ j = 4) ∨ (a = A ∧ j = 5) ∨ a = (A + 6) ∨ (a = (A + 7) ∧ j = 4))) : ¬ ((a = A ∧ j = 0) ∨ (a = A ∧ j = 1) ∨ (a = A ∧ j = 2) ∨ (a = A ∧ j = 3) ∨ (a = A ∧ j = 4) ∨ (a = A ∧ j = 5) ∨ a = (A + 6) ∨ (a = (A + 7) ∧ j = 4)) := (fun q => q.elim (fun h => hm (Or.inr (Or.inr (Or.inr (Or.inl h))))) (fun q => q.elim (fun h => hm (Or.inr (Or.inr (Or.inr (Or.inr (Or.inl h)))))) (fun q => q.elim (fun h => hm (Or.inr (Or.inr (Or.inr (Or.inr (Or.inr (Or.inl h))))))) (fun q => q.elim (fun h => hm (Or.inr (Or.inr (Or.inr (Or.inr (Or.inr (Or.inr (Or.inl h)))))))) (fun q => q.elim (fun h => hm (Or.inr (Or.inr (Or.inr (Or.inr (Or.inr (Or.inr (Or.inr (Or.inr (Or.inr (Or.inr (Or.inl h)))))))))))) (fun q => q.elim (fun h => hm (Or.inr (Or.inr (Or.inr (Or.inr (Or.inr (Or.inr (Or.inr (Or.inr (Or.inr (Or.inr (Or.inr (Or.inl h))))))))))))) (fun q => q.elim (fun h => hm (Or.inr (Or.inr (Or.inr (Or.inr (Or.inr (Or.inr (Or.inr (Or.inr (Or.inr (Or.inr (Or.inr (Or.inr (Or.inl h)))))))))))))) (fun h => hm (Or.inr (Or.inr (Or.inr (Or.inr (Or.inr (Or.inr (Or.inr (Or.inr (Or.inr (Or.inr (Or.inr (Or.inr (Or.inr h)))))))))))))))))))))
theorem qn_14d462bd8 {A : Nat} (hA : A = 13 ∨ A = 25) : ¬ ((A = 1 ∧ (2 : Int) = 2) ∨ (A = 1 ∧ (2 : Int) = 4) ∨ (A = 1 ∧ (2 : Int) = 5) ∨ (A = A ∧ (2 : Int) = 4) ∨ A = (A + 4) ∨ A = (A + 5)) := (fun q => q.elim (fun h => absurd h.1 (np0 hA rfl)) (fun q => q.elim (fun h => absurd h.1 (np0 hA rfl)) (fun q => q.elim (fun h => absurd h.1 (np0 hA rfl)) (fun q => q.elim (fun h => absurd h.2 (ni rfl)) (fun q => q.elim (fun h => absurd h (p0p rfl)) (fun h => absurd h (p0p rfl)))))))
theorem q_452b39485 {x0 : Int} (f0 : 0 ≤ x0 ∧ x0 ≤ 4) : (-1) ≤ x0 - 1 := by omega
theorem q_6915b49e7 {x0 : Int} (f0 : 0 ≤ x0 ∧ x0 ≤ 4) : x0 - 1 ≤ 9999 := by omega
theorem q_628e546a1 {x0 : Int} (f0 : ¬ (x0 > 8)) (f1 : x0 ≠ 8) : x0 < 8 := by omega
theorem qv_e4befbf54 {A : Nat} {a : Nat} {j : Int} (hm : ¬ ((a = 1 ∧ j = 2) ∨ (a = 1 ∧ j = 4) ∨ (a = 1 ∧ j = 5) ∨ (a = A ∧ j = 4) ∨ a = (A + 4) ∨ a = (A + 5))) : ¬ ((a = 1 ∧ j = 2) ∨ (a = 1 ∧ j = 4) ∨ (a = 1 ∧ j = 5)) := (fun q => q.elim (fun h => hm (Or.inl h)) (fun q => q.elim (fun h => hm (Or.inr (Or.inl h))) (fun h => hm (Or.inr (Or.inr (Or.inl h))))))
theorem q_118bd7d80 {x0 : Int} (f0 : ¬ (x0 > 8)) (f1 : x0 ≠ 8) : x0 + 1 ≤ 8 := by omega
theorem q_d1d9cab2a {x0 : Int} (f0 : ¬ (x0 > 8)) : x0 + 1 ≤ 9 := by omega
theorem qv_d8e11c47c {A : Nat} {a : Nat} {j : Int} (hm : ¬ ((a = 1 ∧ j = 2) ∨ (a = 1 ∧ j = 4) ∨ (a = 1 ∧ j = 5) ∨ (a = A ∧ j = 4) ∨ a = (A + 4) ∨ a = (A + 5))) : ¬ ((a = 1 ∧ j = 4) ∨ (a = 1 ∧ j = 5)) := (fun q => q.elim (fun h => hm (Or.inr (Or.inl h))) (fun h => hm (Or.inr (Or.inr (Or.inl h)))))
theorem q_65b0bda2f {x0 : Int} (f0 : ¬ (x0 > 8)) (f1 : ¬ (x0 ≠ 8)) : x0 + 1 = 9 := by omega
theorem q_d0507083e {x0 : Int} (f0 : ¬ (x0 ≥ 4)) : x0 < 8 := by omega
theorem qn_31b6b4c08 {A : Nat} {j : Int} (hA : A = 13 ∨ A = 25) : ¬ (((A + 5) = 1 ∧ j = 2) ∨ ((A + 5) = 1 ∧ j = 4) ∨ ((A + 5) = 1 ∧ j = 5)) := (fun q => q.elim (fun h => absurd h.1 (np hA rfl rfl)) (fun q => q.elim (fun h => absurd h.1 (np hA rfl rfl)) (fun h => absurd h.1 (np hA rfl rfl))))
theorem q_ef58644c7 {x0 : Int} (f0 : (x0 ≤ 3) ∨ (x0 = 0)) : x0 < 8 := by omega
theorem qv_88b270b28 {A : Nat} {a : Nat} {j : Int} (hm : ¬ ((a = 1 ∧ j = 2) ∨ (a = 1 ∧ j = 4) ∨ (a = 1 ∧ j = 5) ∨ (a = A ∧ j = 5) ∨ a = (A + 5) ∨ a = (A + 6))) : ¬ ((a = 1 ∧ j = 2) ∨ (a = 1 ∧ j = 4) ∨ (a = 1 ∧ j = 5)) := (fun q => q.elim (fun h => hm (Or.inl h)) (fun q => q.elim (fun h => hm (Or.inr (Or.inl h))) (fun h => hm (Or.inr (Or.inr (Or.inl h))))))
theorem q_7025fc67d {x0 : Int} (f0 : ¬ (x0 > 4)) : x0 + 1 ≤ 5 := by omega
theorem q_87765d87e {x0 : Int} (f0 : (-1) ≤ x0 ∧ x0 ≤ 9999) : (-2147483648) ≤ x0 := by omega
theorem q_cf71bb2da {x0 : Int} (f0 : (-1) ≤ x0 ∧ x0 ≤ 9999) : x0 ≤ 2147483647 := by omega
theorem qv_ccc73f504 {A : Nat} {a : Nat} {j : Int} (hm : ¬ ((a = 1 ∧ j = 2) ∨ (a = 1 ∧ j = 4) ∨ (a = 1 ∧ j = 5) ∨ (a = A ∧ j = 5) ∨ a = (A + 5) ∨ a = (A + 6))) : ¬ ((a = 1 ∧ j = 4) ∨ (a = 1 ∧ j = 5)) := (fun q => q.elim (fun h => hm (Or.inr (Or.inl h))) (fun h => hm (Or.inr (Or.inr (Or.inl h)))))
theorem q_ab67c736b {x0 : Int} (f0 : ¬ (x0 ≠ 0)) : x0 ≤ 999 := by omega
theorem q_28e14c504 {x0 x1 x2 : Int} (f0 : (x0 = x1)) (f1 : 0 ≤ x2 ∧ x2 ≤ 600) (f2 : ¬ (x1 ≥ x2)) : x0 < 600 := by omega
theorem q_455052922 {x0 : Int} (f0 : 0 ≤ x0 ∧ x0 ≤ 37) : 0 ≤ 5 * x0 := by omega
theorem q_7c821fbfb {x0 : Int} (f0 : 0 ≤ x0 ∧ x0 ≤ 37) : 5 * x0 < 190 := by omega
theorem q_1416f500c {x0 : Int} (f0 : 0 ≤ x0 ∧ x0 ≤ 37) : 0 ≤ 5 * x0 + 1 := by omega
theorem q_6719517c6 {x0 : Int} (f0 : 0 ≤ x0 ∧ x0 ≤ 37) : 5 * x0 + 1 < 190 := by omega
theorem qn_1b31dbfca {P : Nat} {j : Int} (hP : P = 13 ∨ P = 25) : ¬ ((P = 1 ∧ j = 2) ∨ (P = 1 ∧ j = 4) ∨ (P = 1 ∧ j = 5)) := (fun q => q.elim (fun h => absurd h.1 (np0 hP rfl)) (fun q => q.elim (fun h => absurd h.1 (np0 hP rfl)) (fun h => absurd h.1 (np0 hP rfl))))
theorem q_68889d1a6 {x0 : Int} (f0 : 0 ≤ x0 ∧ x0 ≤ 6) : (-1) ≤ x0 - 1 := by omega
theorem q_57c3d1df3 {x0 : Int} (f0 : 0 ≤ x0 ∧ x0 ≤ 6) : x0 - 1 ≤ 9999 := by omega
theorem q_ffaf02070 {x0 : Int} (f0 : 0 ≤ x0 ∧ x0 ≤ 37) : 0 ≤ 5 * x0 + 2 := by omega
theorem q_311969902 {x0 : Int} (f0 : 0 ≤ x0 ∧ x0 ≤ 37) : 5 * x0 + 2 < 190 := by omega
theorem q_16a7703bf {x0 x1 : Int} (f0 : 0 ≤ x0 ∧ x0 ≤ 6) (f1 : (x1 ≤ x0 - 1) ∨ (x1 = 0)) : x1 ≤ 38 := by omega
theorem qn_40936bc4a {j : Int} : ¬ (((8 : Nat) = 1 ∧ j = 2) ∨ ((8 : Nat) = 1 ∧ j = 4) ∨ ((8 : Nat) = 1 ∧ j = 5)) := (fun q => q.elim (fun h => absurd h.1 (nn rfl)) (fun q => q.elim (fun h => absurd h.1 (nn rfl)) (fun h => absurd h.1 (nn rfl))))
theorem q_9c0cd5a3a {x0 x1 : Int} (f0 : 0 ≤ x0 ∧ x0 ≤ 4) (f1 : (x1 ≤ x0 - 1) ∨ (x1 = 0)) : x1 ≤ 3 := by omega
theorem q_7514a81f1 {x0 x1 : Int} (f0 : 0 ≤ x0 ∧ x0 ≤ 6) (f1 : (x1 ≤ x0 - 1) ∨ (x1 = 0)) : x1 ≤ 5 := by omega
theorem q_1dcad14fe {x0 : Int} (f0 : x0 = 0) : ¬ x0 = 3 := by omega
theorem q_8f0696a92 {x0 : Int} (f0 : x0 = 0) : ¬ x0 = 4 := by omega
theorem q_484d5e57f {x0 : Int} (f0 : x0 = 0) : ¬ x0 = 5 := by omega
theorem qn_e31e1496e {j : Int} : ¬ (((7 : Nat) = 1 ∧ j = 2) ∨ ((7 : Nat) = 1 ∧ j = 4) ∨ ((7 : Nat) = 1 ∧ j = 5)) := (fun q => q.elim (fun h => absurd h.1 (nn rfl)) (fun q => q.elim (fun h => absurd h.1 (nn rfl)) (fun h => absurd h.1 (nn rfl))))
theorem q_68bb02467 {x0 : Int}  : 5 * x0 ≤ 5 * x0 + 2 := by omega
theorem qv_d1fb82d1b {a : Nat} {j : Int} {t0 : Int} (hm : ¬ ((a = 1 ∧ j = 2) ∨ (a = 1 ∧ j = 4) ∨ (a = 1 ∧ j = 5) ∨ (a = 7 ∧ j = 2) ∨ (a = 8 ∧ j ≥ t0))) : ¬ ((a = 1 ∧ j = 2) ∨ (a = 1 ∧ j = 4) ∨ (a = 1 ∧ j = 5)) := (fun q => q.elim (fun h => hm (Or.inl h)) (fun q => q.elim (fun h => hm (Or.inr (Or.inl h))) (fun h => hm (Or.inr (Or.inr (Or.inl h))))))
theorem q_c48eb2e77 {x0 : Int}  : 5 * x0 ≤ 5 * x0 + 1 := by omega
theorem q_e074ea49a {x0 : Int}  : x0 ≤ x0 := by omega
theorem q_a57922852 {x0 : Int} (f0 : 0 ≤ x0 ∧ x0 ≤ 37) : 0 ≤ 5 * x0 + 3 := by omega
theorem q_be1adda5a {x0 : Int} (f0 : 0 ≤ x0 ∧ x0 ≤ 37) : 5 * x0 + 3 < 190 := by omega
theorem q_30157bdbc {x0 : Int} (f0 : 0 ≤ x0 ∧ x0 ≤ 37) : 0 ≤ 5 * x0 + 4 := by omega
theorem q_481aa6703 {x0 : Int} (f0 : 0 ≤ x0 ∧ x0 ≤ 37) : 5 * x0 + 4 < 190 := by omega
theorem q_4d88fe714 {x0 : Int} (f0 : x0 = 1) : ¬ x0 = 3 := by omega
theorem q_ebaa6bc57 {x0 : Int} (f0 : x0 = 1) : ¬ x0 = 4 := by omega
theorem q_620c3e4c8 {x0 : Int} (f0 : x0 = 1) : ¬ x0 = 5 := by omega
theorem q_7bbc2d554 {x0 : Int}  : 5 * x0 ≤ 5 * x0 + 4 := by omega
theorem q_52f2ef5b6 {x0 : Int}  : 5 * x0 ≤ 5 * x0 + 3 := by omega
theorem q_7d5b8cb18 {x0 x1 : Int} (f0 : (x0 ≤ x1 - 1) ∨ (x0 = 0)) (f1 : 0 ≤ x1 ∧ x1 ≤ 6) : x0 ≤ 38 := by omega
theorem q_62a06eb7d {x0 x1 : Int} (f0 : (x0 ≤ x1 - 1) ∨ (x0 = 0)) (f1 : 0 ≤ x1 ∧ x1 ≤ 6) : x0 ≤ 5 := by omega
theorem q_a930af015 {x0 : Int} (f0 : x0 = 2) : ¬ x0 = 3 := by omega
theorem q_fd6fe127c {x0 : Int} (f0 : x0 = 2) : ¬ x0 = 4 := by omega
theorem q_d20a2a3af {x0 : Int} (f0 : x0 = 2) : ¬ x0 = 5 := by omega
theorem q_118495b55 {x0 : Int} (f0 : x0 = 3) : ¬ x0 = 0 := by omega
theorem q_ee7c71cbc {x0 : Int} (f0 : x0 = 3) : ¬ x0 = 1 := by omega
theorem q_a585623bf {x0 : Int} (f0 : x0 = 3) : ¬ x0 = 2 := by omega
theorem q_bc740e082 {x0 : Int} (f0 : x0 = 3) : ¬ x0 = 4 := by omega
theorem q_770103991 {x0 : Int} (f0 : x0 = 3) : ¬ x0 = 5 := by omega
theorem q_eb19c88d8 {x0 : Int} (f0 : x0 = 4) : ¬ x0 = 0 := by omega
theorem q_07601ce50 {x0 : Int} (f0 : x0 = 4) : ¬ x0 = 1 := by omega
theorem q_660a9e4d8 {x0 : Int} (f0 : x0 = 4) : ¬ x0 = 2 := by omega
theorem q_a2f8c8f67 {x0 : Int} (f0 : x0 = 4) : ¬ x0 = 3 := by omega
theorem q_fe9e9dcf4 {x0 : Int} (f0 : x0 = 4) : ¬ x0 = 5 := by omega
theorem q_5451ba73e {x0 : Int} (f0 : x0 = 5) : ¬ x0 = 0 := by omega
theorem q_607327e82 {x0 : Int} (f0 : x0 = 5) : ¬ x0 = 1 := by omega
theorem q_da2f8a773 {x0 : Int} (f0 : x0 = 5) : ¬ x0 = 2 := by omega
theorem q_effe7b19f {x0 : Int} (f0 : x0 = 5) : ¬ x0 = 3 := by omega
theorem q_2ed2cff96 {x0 : Int} (f0 : x0 = 5) : ¬ x0 = 4 := by omega
theorem q_8e3eb3f84 {x0 : Int} (f0 : x0 = 6) : ¬ x0 = 0 := by omega
theorem q_78679d36e {x0 : Int} (f0 : x0 = 6) : ¬ x0 = 1 := by omega
theorem q_f748de4c1 {x0 : Int} (f0 : x0 = 6) : ¬ x0 = 2 := by omega
theorem q_435a82c1b {x0 : Int} (f0 : x0 = 6) : ¬ x0 = 3 := by omega
theorem q_1c69b3b7b {x0 : Int} (f0 : x0 = 6) : ¬ x0 = 4 := by omega
theorem q_783649452 {x0 : Int} (f0 : x0 = 6) : ¬ x0 = 5 := by omega
theorem q_d9dab072a {x0 : Int} (f0 : x0 = 7) : ¬ x0 = 0 := by omega
theorem q_08c322c8b {x0 : Int} (f0 : x0 = 7) : ¬ x0 = 1 := by omega
theorem q_6f8ea684b {x0 : Int} (f0 : x0 = 7) : ¬ x0 = 2 := by omega
theorem q_10d1e1edb {x0 : Int} (f0 : x0 = 7) : ¬ x0 = 3 := by omega
theorem q_b6c8557ad {x0 : Int} (f0 : x0 = 7) : ¬ x0 = 4 := by omega
theorem q_402d8d996 {x0 : Int} (f0 : x0 = 7) : ¬ x0 = 5 := by omega
theorem q_5e5dcf90e {x0 x1 : Int} (f0 : (x0 + 1 ≤ x1)) : 5 * x0 < 5 * x1 := by omega
theorem q_7674b446a {x0 x1 : Int} (f0 : (x0 + 1 ≤ x1)) : 5 * x0 + 1 < 5 * x1 := by omega
theorem q_5d05efc21 {x0 x1 : Int} (f0 : (x0 + 1 ≤ x1)) : 5 * x0 + 3 < 5 * x1 := by omega
theorem q_133825ead {x0 x1 : Int} (f0 : (x0 + 1 ≤ x1)) : 5 * x0 + 4 < 5 * x1 := by omega
theorem q_d1cd98eaf {x0 x1 : Int} (f0 : (x0 + 1 ≤ x1)) : 5 * x0 ≤ 5 * x1 := by omega
theorem q_74cd69a50 {x0 x1 x2 : Int} (f0 : (x0 ≥ x1)) (f1 : x1 = x2) : x2 ≤ x0 := by omega
theorem q_00b473266 {x0 : Int} (f0 : 0 ≤ x0 ∧ x0 ≤ 99999) (f1 : ¬ (x0 = 0)) : ¬ x0 = 0 := by omega
theorem q_dcc533340 {x0 : Int} (f0 : ¬ (x0 = 3)) : ¬ x0 = 3 := by omega
theorem q_06b43b618 {x0 : Int} (f0 : ¬ (x0 = 4)) : ¬ x0 = 4 := by omega
theorem q_6d146e2b2 {x0 : Int} (f0 : ¬ (x0 = 5)) : ¬ x0 = 5 := by omega
theorem c_33_0 : mLk 33 0 = some (.iload_n 2, 1) := rfl
theorem c_33_1 : mLk 33 1 = some (.tableswitch 115 0 2 #[27, 58, 88], 27) := rfl
theorem c_33_28 : mLk 33 28 = some (.aload_n 1, 1) := rfl
theorem c_33_29 : mLk 33 29 = some (.aload_n 0, 1) := rfl
theorem c_33_30 : mLk 33 30 = some (.getfield 15, 3) := rfl
theorem c_33_33 : mLk 33 33 = some (.aload_n 0, 1) := rfl
theorem c_33_34 : mLk 33 34 = some (.getfield 81, 3) := rfl
theorem c_33_37 : mLk 33 37 = some (.iconst 4, 1) := rfl
theorem c_33_38 : mLk 33 38 = some (.imul, 1) := rfl
theorem c_33_39 : mLk 33 39 = some (.iconst 4, 1) := rfl
theorem c_33_40 : mLk 33 40 = some (.sipush 999, 3) := rfl
theorem c_33_43 : mLk 33 43 = some (.invokestatic 97, 3) := rfl
theorem c_32_0 : mLk 32 0 = some (.iload_n 2, 1) := rfl
theorem c_32_1 : mLk 32 1 = some (.istore 5, 2) := rfl
theorem c_32_3 : mLk 32 3 = some (.iload 5, 2) := rfl
theorem c_32_5 : mLk 32 5 = some (.iload_n 2, 1) := rfl
theorem c_32_6 : mLk 32 6 = some (.iload_n 3, 1) := rfl
theorem c_32_7 : mLk 32 7 = some (.iadd, 1) := rfl
theorem c_32_8 : mLk 32 8 = some (.if_icmp .ge 26, 3) := rfl
theorem c_32_11 : mLk 32 11 = some (.iload 5, 2) := rfl
theorem c_32_13 : mLk 32 13 = some (.aload_n 1, 1) := rfl
theorem c_32_14 : mLk 32 14 = some (.arraylength, 1) := rfl
theorem c_32_15 : mLk 32 15 = some (.if_icmp .ge 19, 3) := rfl
theorem c_32_18 : mLk 32 18 = some (.aload_n 1, 1) := rfl
theorem c_32_19 : mLk 32 19 = some (.iload 5, 2) := rfl
theorem c_32_21 : mLk 32 21 = some (.aload_n 0, 1) := rfl
theorem c_32_22 : mLk 32 22 = some (.iload 4, 2) := rfl
theorem c_32_24 : mLk 32 24 = some (.invokevirtual 101, 3) := rfl
theorem c_32_27 : mLk 32 27 = some (.iastore, 1) := rfl
theorem c_32_28 : mLk 32 28 = some (.iinc 5 1, 3) := rfl
theorem c_32_31 : mLk 32 31 = some (.goto (-28), 3) := rfl
theorem c_33_46 : mLk 33 46 = some (.aload_n 0, 1) := rfl
theorem c_33_47 : mLk 33 47 = some (.dup, 1) := rfl
theorem c_33_48 : mLk 33 48 = some (.getfield 81, 3) := rfl
theorem c_33_51 : mLk 33 51 = some (.iconst 1, 1) := rfl
theorem c_33_52 : mLk 33 52 = some (.iadd, 1) := rfl
theorem c_33_53 : mLk 33 53 = some (.putfield 81, 3) := rfl
theorem c_33_56 : mLk 33 56 = some (.goto 70, 3) := rfl
theorem c_33_59 : mLk 33 59 = some (.aload_n 1, 1) := rfl
theorem c_33_60 : mLk 33 60 = some (.aload_n 0, 1) := rfl
theorem c_33_61 : mLk 33 61 = some (.getfield 19, 3) := rfl
theorem c_33_64 : mLk 33 64 = some (.aload_n 0, 1) := rfl
theorem c_33_65 : mLk 33 65 = some (.getfield 84, 3) := rfl
theorem c_33_68 : mLk 33 68 = some (.iconst 3, 1) := rfl
theorem c_33_69 : mLk 33 69 = some (.imul, 1) := rfl
theorem c_33_70 : mLk 33 70 = some (.iconst 3, 1) := rfl
theorem c_33_71 : mLk 33 71 = some (.bipush 10, 2) := rfl
theorem c_33_73 : mLk 33 73 = some (.invokestatic 97, 3) := rfl
theorem c_33_76 : mLk 33 76 = some (.aload_n 0, 1) := rfl
theorem c_33_77 : mLk 33 77 = some (.dup, 1) := rfl
theorem c_33_78 : mLk 33 78 = some (.getfield 84, 3) := rfl
theorem c_33_81 : mLk 33 81 = some (.iconst 1, 1) := rfl
theorem c_33_82 : mLk 33 82 = some (.iadd, 1) := rfl
theorem c_33_83 : mLk 33 83 = some (.putfield 84, 3) := rfl
theorem c_33_86 : mLk 33 86 = some (.goto 40, 3) := rfl
theorem c_33_89 : mLk 33 89 = some (.aload_n 1, 1) := rfl
theorem c_33_90 : mLk 33 90 = some (.aload_n 0, 1) := rfl
theorem c_33_91 : mLk 33 91 = some (.getfield 22, 3) := rfl
theorem c_33_94 : mLk 33 94 = some (.aload_n 0, 1) := rfl
theorem c_33_95 : mLk 33 95 = some (.getfield 87, 3) := rfl
theorem c_33_98 : mLk 33 98 = some (.iconst 1, 1) := rfl
theorem c_33_99 : mLk 33 99 = some (.iconst 2, 1) := rfl
theorem c_33_100 : mLk 33 100 = some (.invokestatic 97, 3) := rfl
theorem c_33_103 : mLk 33 103 = some (.aload_n 0, 1) := rfl
theorem c_33_104 : mLk 33 104 = some (.dup, 1) := rfl
theorem c_33_105 : mLk 33 105 = some (.getfield 87, 3) := rfl
theorem c_33_108 : mLk 33 108 = some (.iconst 1, 1) := rfl
theorem c_33_109 : mLk 33 109 = some (.iadd, 1) := rfl
theorem c_33_110 : mLk 33 110 = some (.putfield 87, 3) := rfl
theorem c_33_113 : mLk 33 113 = some (.goto 13, 3) := rfl
theorem c_33_116 : mLk 33 116 = some (.aload_n 0, 1) := rfl
theorem c_33_117 : mLk 33 117 = some (.aload_n 1, 1) := rfl
theorem c_33_118 : mLk 33 118 = some (.bipush 50, 2) := rfl
theorem c_33_120 : mLk 33 120 = some (.invokevirtual 101, 3) := rfl
theorem c_33_123 : mLk 33 123 = some (.putfield 9, 3) := rfl
theorem c_34_6 : mLk 34 6 = some (.iload_n 2, 1) := rfl
theorem c_34_7 : mLk 34 7 = some (.bipush 60, 2) := rfl
theorem c_34_9 : mLk 34 9 = some (.if_icmp .gt 76, 3) := rfl
theorem c_34_12 : mLk 34 12 = some (.aload_n 1, 1) := rfl
theorem c_34_13 : mLk 34 13 = some (.invokevirtual 44, 3) := rfl
theorem c_34_16 : mLk 34 16 = some (.ifCond .eq 69, 3) := rfl
theorem c_34_19 : mLk 34 19 = some (.aload_n 1, 1) := rfl
theorem c_34_20 : mLk 34 20 = some (.invokevirtual 50, 3) := rfl
theorem c_34_23 : mLk 34 23 = some (.istore_n 3, 1) := rfl
theorem c_34_24 : mLk 34 24 = some (.aload_n 1, 1) := rfl
theorem c_34_25 : mLk 34 25 = some (.ldc 54, 2) := rfl
theorem c_34_27 : mLk 34 27 = some (.invokevirtual 56, 3) := rfl
theorem c_34_30 : mLk 34 30 = some (.istore 4, 2) := rfl
theorem c_34_32 : mLk 34 32 = some (.iload 4, 2) := rfl
theorem c_34_34 : mLk 34 34 = some (.iconst (-1), 1) := rfl
theorem c_34_35 : mLk 34 35 = some (.if_icmp .eq 24, 3) := rfl
theorem c_34_59 : mLk 34 59 = some (.aload_n 1, 1) := rfl
theorem c_34_60 : mLk 34 60 = some (.invokevirtual 68, 3) := rfl
theorem c_34_63 : mLk 34 63 = some (.ifCond .eq 10, 3) := rfl
theorem c_34_73 : mLk 34 73 = some (.aload_n 1, 1) := rfl
theorem c_34_74 : mLk 34 74 = some (.ldc 75, 2) := rfl
theorem c_34_76 : mLk 34 76 = some (.invokevirtual 77, 3) := rfl
theorem c_34_79 : mLk 34 79 = some (.iinc 2 1, 3) := rfl
theorem c_34_82 : mLk 34 82 = some (.goto (-76), 3) := rfl
theorem c_34_38 : mLk 34 38 = some (.iload_n 2, 1) := rfl
theorem c_34_39 : mLk 34 39 = some (.bipush 60, 2) := rfl
theorem c_34_41 : mLk 34 41 = some (.if_icmp .eq 12, 3) := rfl
theorem c_34_53 : mLk 34 53 = some (.aload_n 1, 1) := rfl
theorem c_34_54 : mLk 34 54 = some (.iconst 3, 1) := rfl
theorem c_34_55 : mLk 34 55 = some (.iload_n 3, 1) := rfl
theorem c_34_56 : mLk 34 56 = some (.invokevirtual 64, 3) := rfl
theorem c_34_44 : mLk 34 44 = some (.aload_n 0, 1) := rfl
theorem c_34_45 : mLk 34 45 = some (.iload 4, 2) := rfl
theorem c_34_47 : mLk 34 47 = some (.invokevirtual 60, 3) := rfl
theorem c_31_0 : mLk 31 0 = some (.iload_n 1, 1) := rfl
theorem c_31_1 : mLk 31 1 = some (.tableswitch 70 0 2 #[27, 42, 56], 27) := rfl
theorem c_31_28 : mLk 31 28 = some (.aload_n 0, 1) := rfl
theorem c_31_29 : mLk 31 29 = some (.getfield 81, 3) := rfl
theorem c_31_32 : mLk 31 32 = some (.bipush 6, 2) := rfl
theorem c_31_34 : mLk 31 34 = some (.if_icmp .ne 7, 3) := rfl
theorem c_31_41 : mLk 31 41 = some (.iconst 0, 1) := rfl
theorem c_31_42 : mLk 31 42 = some (.ireturn, 1) := rfl
theorem c_34_50 : mLk 34 50 = some (.ifCond .eq 9, 3) := rfl
theorem c_34_66 : mLk 34 66 = some (.aload_n 0, 1) := rfl
theorem c_34_67 : mLk 34 67 = some (.aload_n 1, 1) := rfl
theorem c_34_68 : mLk 34 68 = some (.iload 4, 2) := rfl
theorem c_34_70 : mLk 34 70 = some (.invokevirtual 71, 3) := rfl
theorem c_31_37 : mLk 31 37 = some (.iconst 1, 1) := rfl
theorem c_31_38 : mLk 31 38 = some (.goto 4, 3) := rfl
theorem c_31_43 : mLk 31 43 = some (.aload_n 0, 1) := rfl
theorem c_31_44 : mLk 31 44 = some (.getfield 84, 3) := rfl
theorem c_31_47 : mLk 31 47 = some (.iconst 4, 1) := rfl
theorem c_31_48 : mLk 31 48 = some (.if_icmp .ne 7, 3) := rfl
theorem c_31_55 : mLk 31 55 = some (.iconst 0, 1) := rfl
theorem c_31_56 : mLk 31 56 = some (.ireturn, 1) := rfl
theorem c_31_51 : mLk 31 51 = some (.iconst 1, 1) := rfl
theorem c_31_52 : mLk 31 52 = some (.goto 4, 3) := rfl
theorem c_31_57 : mLk 31 57 = some (.aload_n 0, 1) := rfl
theorem c_31_58 : mLk 31 58 = some (.getfield 87, 3) := rfl
theorem c_31_61 : mLk 31 61 = some (.iconst 4, 1) := rfl
theorem c_31_62 : mLk 31 62 = some (.if_icmp .ne 7, 3) := rfl
theorem c_31_69 : mLk 31 69 = some (.iconst 0, 1) := rfl
theorem c_31_70 : mLk 31 70 = some (.ireturn, 1) := rfl
theorem c_31_65 : mLk 31 65 = some (.iconst 1, 1) := rfl
theorem c_31_66 : mLk 31 66 = some (.goto 4, 3) := rfl
theorem c_31_71 : mLk 31 71 = some (.iconst 0, 1) := rfl
theorem c_31_72 : mLk 31 72 = some (.ireturn, 1) := rfl
theorem c_34_0 : mLk 34 0 = some (.aload_n 0, 1) := rfl
theorem c_34_1 : mLk 34 1 = some (.invokevirtual 41, 3) := rfl
theorem c_34_4 : mLk 34 4 = some (.iconst 0, 1) := rfl
theorem c_34_5 : mLk 34 5 = some (.istore_n 2, 1) := rfl
theorem c_35_4 : mLk 35 4 = some (.iload_n 3, 1) := rfl
theorem c_35_5 : mLk 35 5 = some (.bipush 8, 2) := rfl
theorem c_35_7 : mLk 35 7 = some (.if_icmp .gt 68, 3) := rfl
theorem c_35_75 : mLk 35 75 = some (.aload_n 1, 1) := rfl
theorem c_35_76 : mLk 35 76 = some (.invokevirtual 68, 3) := rfl
theorem c_35_79 : mLk 35 79 = some (.ifCond .eq 23, 3) := rfl
theorem c_35_82 : mLk 35 82 = some (.aload_n 0, 1) := rfl
theorem c_35_83 : mLk 35 83 = some (.getfield 28, 3) := rfl
theorem c_35_86 : mLk 35 86 = some (.iconst 0, 1) := rfl
theorem c_35_87 : mLk 35 87 = some (.aload_n 0, 1) := rfl
theorem c_35_88 : mLk 35 88 = some (.getfield 25, 3) := rfl
theorem c_35_91 : mLk 35 91 = some (.iconst 0, 1) := rfl
theorem c_35_92 : mLk 35 92 = some (.bipush 8, 2) := rfl
theorem c_35_94 : mLk 35 94 = some (.invokestatic 105, 3) := rfl
theorem c_35_97 : mLk 35 97 = some (.aload_n 0, 1) := rfl
theorem c_35_98 : mLk 35 98 = some (.iload_n 2, 1) := rfl
theorem c_35_99 : mLk 35 99 = some (.putfield 90, 3) := rfl
theorem c_35_10 : mLk 35 10 = some (.aload_n 1, 1) := rfl
theorem c_35_11 : mLk 35 11 = some (.invokevirtual 44, 3) := rfl
theorem c_35_14 : mLk 35 14 = some (.ifCond .eq 61, 3) := rfl
theorem c_35_17 : mLk 35 17 = some (.aload_n 1, 1) := rfl
theorem c_35_18 : mLk 35 18 = some (.invokevirtual 50, 3) := rfl
theorem c_35_21 : mLk 35 21 = some (.istore 4, 2) := rfl
theorem c_35_23 : mLk 35 23 = some (.aload_n 1, 1) := rfl
theorem c_35_24 : mLk 35 24 = some (.aload_n 0, 1) := rfl
theorem c_35_25 : mLk 35 25 = some (.getfield 87, 3) := rfl
theorem c_35_28 : mLk 35 28 = some (.iconst 1, 1) := rfl
theorem c_35_29 : mLk 35 29 = some (.isub, 1) := rfl
theorem c_35_30 : mLk 35 30 = some (.invokevirtual 101, 3) := rfl
theorem c_35_33 : mLk 35 33 = some (.istore 5, 2) := rfl
theorem c_35_35 : mLk 35 35 = some (.iload_n 3, 1) := rfl
theorem c_35_36 : mLk 35 36 = some (.bipush 8, 2) := rfl
theorem c_35_38 : mLk 35 38 = some (.if_icmp .ne 13, 3) := rfl
theorem c_35_51 : mLk 35 51 = some (.aload_n 0, 1) := rfl
theorem c_35_52 : mLk 35 52 = some (.getfield 28, 3) := rfl
theorem c_35_55 : mLk 35 55 = some (.iload_n 3, 1) := rfl
theorem c_35_56 : mLk 35 56 = some (.iload 5, 2) := rfl
theorem c_35_58 : mLk 35 58 = some (.iastore, 1) := rfl
theorem c_35_59 : mLk 35 59 = some (.iload_n 3, 1) := rfl
theorem c_35_60 : mLk 35 60 = some (.iconst 1, 1) := rfl
theorem c_35_61 : mLk 35 61 = some (.iadd, 1) := rfl
theorem c_35_62 : mLk 35 62 = some (.istore_n 2, 1) := rfl
theorem c_35_63 : mLk 35 63 = some (.aload_n 1, 1) := rfl
theorem c_35_64 : mLk 35 64 = some (.ldc 75, 2) := rfl
theorem c_35_66 : mLk 35 66 = some (.invokevirtual 77, 3) := rfl
theorem c_35_69 : mLk 35 69 = some (.iinc 3 1, 3) := rfl
theorem c_35_72 : mLk 35 72 = some (.goto (-68), 3) := rfl
theorem c_35_41 : mLk 35 41 = some (.aload_n 1, 1) := rfl
theorem c_35_42 : mLk 35 42 = some (.iconst 3, 1) := rfl
theorem c_35_43 : mLk 35 43 = some (.iload 4, 2) := rfl
theorem c_35_45 : mLk 35 45 = some (.invokevirtual 64, 3) := rfl
theorem c_35_48 : mLk 35 48 = some (.goto 15, 3) := rfl
theorem c_35_0 : mLk 35 0 = some (.iconst 0, 1) := rfl
theorem c_35_1 : mLk 35 1 = some (.istore_n 2, 1) := rfl
theorem c_35_2 : mLk 35 2 = some (.iconst 0, 1) := rfl
theorem c_35_3 : mLk 35 3 = some (.istore_n 3, 1) := rfl
theorem c_36_2 : mLk 36 2 = some (.iload_n 2, 1) := rfl
theorem c_36_3 : mLk 36 3 = some (.iconst 4, 1) := rfl
theorem c_36_4 : mLk 36 4 = some (.if_icmp .ge 16, 3) := rfl
theorem c_36_20 : mLk 36 20 = some (.iconst 0, 1) := rfl
theorem c_36_21 : mLk 36 21 = some (.istore_n 2, 1) := rfl
theorem c_36_22 : mLk 36 22 = some (.iconst 0, 1) := rfl
theorem c_36_23 : mLk 36 23 = some (.istore_n 3, 1) := rfl
theorem c_36_7 : mLk 36 7 = some (.aload_n 0, 1) := rfl
theorem c_36_8 : mLk 36 8 = some (.getfield 28, 3) := rfl
theorem c_36_11 : mLk 36 11 = some (.iload_n 2, 1) := rfl
theorem c_36_12 : mLk 36 12 = some (.iconst (-1), 1) := rfl
theorem c_36_13 : mLk 36 13 = some (.iastore, 1) := rfl
theorem c_36_14 : mLk 36 14 = some (.iinc 2 1, 3) := rfl
theorem c_36_17 : mLk 36 17 = some (.goto (-15), 3) := rfl
theorem c_36_24 : mLk 36 24 = some (.iload_n 3, 1) := rfl
theorem c_36_25 : mLk 36 25 = some (.iconst 4, 1) := rfl
theorem c_36_26 : mLk 36 26 = some (.if_icmp .gt 71, 3) := rfl
theorem c_36_97 : mLk 36 97 = some (.aload_n 1, 1) := rfl
theorem c_36_98 : mLk 36 98 = some (.invokevirtual 68, 3) := rfl
theorem c_36_101 : mLk 36 101 = some (.ifCond .eq 22, 3) := rfl
theorem c_36_104 : mLk 36 104 = some (.aload_n 0, 1) := rfl
theorem c_36_105 : mLk 36 105 = some (.getfield 28, 3) := rfl
theorem c_36_108 : mLk 36 108 = some (.iconst 0, 1) := rfl
theorem c_36_109 : mLk 36 109 = some (.aload_n 0, 1) := rfl
theorem c_36_110 : mLk 36 110 = some (.getfield 31, 3) := rfl
theorem c_36_113 : mLk 36 113 = some (.iconst 0, 1) := rfl
theorem c_36_114 : mLk 36 114 = some (.iconst 4, 1) := rfl
theorem c_36_115 : mLk 36 115 = some (.invokestatic 105, 3) := rfl
theorem c_36_118 : mLk 36 118 = some (.aload_n 0, 1) := rfl
theorem c_36_119 : mLk 36 119 = some (.iload_n 2, 1) := rfl
theorem c_36_120 : mLk 36 120 = some (.putfield 93, 3) := rfl
theorem c_36_29 : mLk 36 29 = some (.aload_n 1, 1) := rfl
theorem c_36_30 : mLk 36 30 = some (.invokevirtual 44, 3) := rfl
theorem c_36_33 : mLk 36 33 = some (.ifCond .eq 64, 3) := rfl
theorem c_36_36 : mLk 36 36 = some (.aload_n 1, 1) := rfl
theorem c_36_37 : mLk 36 37 = some (.invokevirtual 50, 3) := rfl
theorem c_36_40 : mLk 36 40 = some (.istore 4, 2) := rfl
theorem c_36_42 : mLk 36 42 = some (.aload_n 1, 1) := rfl
theorem c_36_43 : mLk 36 43 = some (.iconst 3, 1) := rfl
theorem c_36_44 : mLk 36 44 = some (.invokevirtual 101, 3) := rfl
theorem c_36_47 : mLk 36 47 = some (.istore 5, 2) := rfl
theorem c_36_49 : mLk 36 49 = some (.aload_n 0, 1) := rfl
theorem c_36_50 : mLk 36 50 = some (.getfield 28, 3) := rfl
theorem c_36_53 : mLk 36 53 = some (.iload 5, 2) := rfl
theorem c_36_55 : mLk 36 55 = some (.iaload, 1) := rfl
theorem c_36_56 : mLk 36 56 = some (.iconst (-1), 1) := rfl
theorem c_36_57 : mLk 36 57 = some (.if_icmp .eq 10, 3) := rfl
theorem c_36_67 : mLk 36 67 = some (.aload_n 0, 1) := rfl
theorem c_36_68 : mLk 36 68 = some (.getfield 28, 3) := rfl
theorem c_36_71 : mLk 36 71 = some (.iload 5, 2) := rfl
theorem c_36_73 : mLk 36 73 = some (.aload_n 1, 1) := rfl
theorem c_36_74 : mLk 36 74 = some (.sipush 9999, 3) := rfl
theorem c_36_77 : mLk 36 77 = some (.invokevirtual 101, 3) := rfl
theorem c_36_80 : mLk 36 80 = some (.iastore, 1) := rfl
theorem c_36_81 : mLk 36 81 = some (.aload_n 1, 1) := rfl
theorem c_36_82 : mLk 36 82 = some (.ldc 75, 2) := rfl
theorem c_36_84 : mLk 36 84 = some (.invokevirtual 77, 3) := rfl
theorem c_36_87 : mLk 36 87 = some (.iload_n 3, 1) := rfl
theorem c_36_88 : mLk 36 88 = some (.iconst 1, 1) := rfl
theorem c_36_89 : mLk 36 89 = some (.iadd, 1) := rfl
theorem c_36_90 : mLk 36 90 = some (.istore_n 2, 1) := rfl
theorem c_36_91 : mLk 36 91 = some (.iinc 3 1, 3) := rfl
theorem c_36_94 : mLk 36 94 = some (.goto (-70), 3) := rfl
theorem c_36_60 : mLk 36 60 = some (.aload_n 1, 1) := rfl
theorem c_36_61 : mLk 36 61 = some (.iconst 2, 1) := rfl
theorem c_36_62 : mLk 36 62 = some (.iload 4, 2) := rfl
theorem c_36_64 : mLk 36 64 = some (.invokevirtual 64, 3) := rfl
theorem c_36_0 : mLk 36 0 = some (.iconst 0, 1) := rfl
theorem c_36_1 : mLk 36 1 = some (.istore_n 2, 1) := rfl
theorem c_38_0 : mLk 38 0 = some (.aload_n 0, 1) := rfl
theorem c_38_1 : mLk 38 1 = some (.invokevirtual 42, 3) := rfl
theorem c_38_4 : mLk 38 4 = some (.istore_n 1, 1) := rfl
theorem c_38_5 : mLk 38 5 = some (.aload_n 0, 1) := rfl
theorem c_38_6 : mLk 38 6 = some (.sipush 999, 3) := rfl
theorem c_38_9 : mLk 38 9 = some (.invokevirtual 73, 3) := rfl
theorem c_38_12 : mLk 38 12 = some (.istore_n 2, 1) := rfl
theorem c_38_13 : mLk 38 13 = some (.iload_n 2, 1) := rfl
theorem c_38_14 : mLk 38 14 = some (.ifCond .ne 9, 3) := rfl
theorem c_38_23 : mLk 38 23 = some (.iload_n 2, 1) := rfl
theorem c_38_24 : mLk 38 24 = some (.ireturn, 1) := rfl
theorem c_38_17 : mLk 38 17 = some (.aload_n 0, 1) := rfl
theorem c_38_18 : mLk 38 18 = some (.iconst 2, 1) := rfl
theorem c_38_19 : mLk 38 19 = some (.iload_n 1, 1) := rfl
theorem c_38_20 : mLk 38 20 = some (.invokevirtual 51, 3) := rfl
theorem c_39_0 : mLk 39 0 = some (.aload_n 0, 1) := rfl
theorem c_39_1 : mLk 39 1 = some (.invokevirtual 41, 3) := rfl
theorem c_39_4 : mLk 39 4 = some (.aload_n 0, 1) := rfl
theorem c_39_5 : mLk 39 5 = some (.getfield 32, 3) := rfl
theorem c_39_8 : mLk 39 8 = some (.if_icmp .ge 19, 3) := rfl
theorem c_39_27 : mLk 39 27 = some (.iconst (-1), 1) := rfl
theorem c_39_28 : mLk 39 28 = some (.ireturn, 1) := rfl
theorem c_39_11 : mLk 39 11 = some (.aload_n 0, 1) := rfl
theorem c_39_12 : mLk 39 12 = some (.getfield 9, 3) := rfl
theorem c_39_15 : mLk 39 15 = some (.aload_n 0, 1) := rfl
theorem c_39_16 : mLk 39 16 = some (.getfield 35, 3) := rfl
theorem c_39_19 : mLk 39 19 = some (.baload, 1) := rfl
theorem c_39_20 : mLk 39 20 = some (.sipush 255, 3) := rfl
theorem c_39_24 : mLk 39 24 = some (.goto 4, 3) := rfl
theorem c_40_0 : mLk 40 0 = some (.aload_n 0, 1) := rfl
theorem c_40_1 : mLk 40 1 = some (.getfield 11, 3) := rfl
theorem c_40_4 : mLk 40 4 = some (.iload_n 3, 1) := rfl
theorem c_40_5 : mLk 40 5 = some (.iaload, 1) := rfl
theorem c_40_6 : mLk 40 6 = some (.tableswitch 343 0 7 #[46, 85, 160, 199, 250, 271, 343, 292], 46) := rfl
theorem c_40_52 : mLk 40 52 = some (.aload_n 0, 1) := rfl
theorem c_40_53 : mLk 40 53 = some (.getfield 11, 3) := rfl
theorem c_40_56 : mLk 40 56 = some (.iload_n 3, 1) := rfl
theorem c_40_57 : mLk 40 57 = some (.iconst 1, 1) := rfl
theorem c_40_58 : mLk 40 58 = some (.iadd, 1) := rfl
theorem c_40_59 : mLk 40 59 = some (.aload_n 1, 1) := rfl
theorem c_40_60 : mLk 40 60 = some (.aload_n 2, 1) := rfl
theorem c_40_61 : mLk 40 61 = some (.getfield 68, 3) := rfl
theorem c_40_64 : mLk 40 64 = some (.iconst 1, 1) := rfl
theorem c_40_65 : mLk 40 65 = some (.isub, 1) := rfl
theorem c_40_66 : mLk 40 66 = some (.invokevirtual 73, 3) := rfl
theorem c_40_69 : mLk 40 69 = some (.iastore, 1) := rfl
theorem c_40_70 : mLk 40 70 = some (.aload_n 0, 1) := rfl
theorem c_40_71 : mLk 40 71 = some (.getfield 11, 3) := rfl
theorem c_40_74 : mLk 40 74 = some (.iload_n 3, 1) := rfl
theorem c_40_75 : mLk 40 75 = some (.iconst 2, 1) := rfl
theorem c_40_76 : mLk 40 76 = some (.iadd, 1) := rfl
theorem c_40_77 : mLk 40 77 = some (.aload_n 1, 1) := rfl
theorem c_40_78 : mLk 40 78 = some (.aload_n 2, 1) := rfl
theorem c_40_79 : mLk 40 79 = some (.getfield 77, 3) := rfl
theorem c_40_82 : mLk 40 82 = some (.iconst 1, 1) := rfl
theorem c_40_83 : mLk 40 83 = some (.isub, 1) := rfl
theorem c_40_84 : mLk 40 84 = some (.invokevirtual 73, 3) := rfl
theorem c_40_87 : mLk 40 87 = some (.iastore, 1) := rfl
theorem c_40_88 : mLk 40 88 = some (.goto 261, 3) := rfl
theorem c_40_91 : mLk 40 91 = some (.aload_n 0, 1) := rfl
theorem c_40_92 : mLk 40 92 = some (.getfield 11, 3) := rfl
theorem c_40_95 : mLk 40 95 = some (.iload_n 3, 1) := rfl
theorem c_40_96 : mLk 40 96 = some (.iconst 1, 1) := rfl
theorem c_40_97 : mLk 40 97 = some (.iadd, 1) := rfl
theorem c_40_98 : mLk 40 98 = some (.aload_n 1, 1) := rfl
theorem c_40_99 : mLk 40 99 = some (.aload_n 2, 1) := rfl
theorem c_40_100 : mLk 40 100 = some (.getfield 80, 3) := rfl
theorem c_40_103 : mLk 40 103 = some (.iconst 1, 1) := rfl
theorem c_40_104 : mLk 40 104 = some (.isub, 1) := rfl
theorem c_40_105 : mLk 40 105 = some (.invokevirtual 73, 3) := rfl
theorem c_40_108 : mLk 40 108 = some (.iastore, 1) := rfl
theorem c_40_109 : mLk 40 109 = some (.aload_n 0, 1) := rfl
theorem c_40_110 : mLk 40 110 = some (.getfield 11, 3) := rfl
theorem c_40_113 : mLk 40 113 = some (.iload_n 3, 1) := rfl
theorem c_40_114 : mLk 40 114 = some (.iconst 2, 1) := rfl
theorem c_40_115 : mLk 40 115 = some (.iadd, 1) := rfl
theorem c_40_116 : mLk 40 116 = some (.aload_n 1, 1) := rfl
theorem c_40_117 : mLk 40 117 = some (.aload_n 2, 1) := rfl
theorem c_40_118 : mLk 40 118 = some (.getfield 77, 3) := rfl
theorem c_40_121 : mLk 40 121 = some (.iconst 1, 1) := rfl
theorem c_40_122 : mLk 40 122 = some (.isub, 1) := rfl
theorem c_40_123 : mLk 40 123 = some (.invokevirtual 73, 3) := rfl
theorem c_40_126 : mLk 40 126 = some (.iastore, 1) := rfl
theorem c_40_127 : mLk 40 127 = some (.aload_n 0, 1) := rfl
theorem c_40_128 : mLk 40 128 = some (.getfield 11, 3) := rfl
theorem c_40_131 : mLk 40 131 = some (.iload_n 3, 1) := rfl
theorem c_40_132 : mLk 40 132 = some (.iconst 3, 1) := rfl
theorem c_40_133 : mLk 40 133 = some (.iadd, 1) := rfl
theorem c_40_134 : mLk 40 134 = some (.aload_n 1, 1) := rfl
theorem c_40_135 : mLk 40 135 = some (.aload_n 2, 1) := rfl
theorem c_40_136 : mLk 40 136 = some (.getfield 77, 3) := rfl
theorem c_40_139 : mLk 40 139 = some (.iconst 1, 1) := rfl
theorem c_40_140 : mLk 40 140 = some (.isub, 1) := rfl
theorem c_40_141 : mLk 40 141 = some (.invokevirtual 73, 3) := rfl
theorem c_40_144 : mLk 40 144 = some (.iastore, 1) := rfl
theorem c_40_145 : mLk 40 145 = some (.aload_n 0, 1) := rfl
theorem c_40_146 : mLk 40 146 = some (.getfield 11, 3) := rfl
theorem c_40_149 : mLk 40 149 = some (.iload_n 3, 1) := rfl
theorem c_40_150 : mLk 40 150 = some (.iconst 4, 1) := rfl
theorem c_40_151 : mLk 40 151 = some (.iadd, 1) := rfl
theorem c_40_152 : mLk 40 152 = some (.aload_n 1, 1) := rfl
theorem c_40_153 : mLk 40 153 = some (.aload_n 2, 1) := rfl
theorem c_40_154 : mLk 40 154 = some (.getfield 77, 3) := rfl
theorem c_40_157 : mLk 40 157 = some (.iconst 1, 1) := rfl
theorem c_40_158 : mLk 40 158 = some (.isub, 1) := rfl
theorem c_40_159 : mLk 40 159 = some (.invokevirtual 73, 3) := rfl
theorem c_40_162 : mLk 40 162 = some (.iastore, 1) := rfl
theorem c_40_163 : mLk 40 163 = some (.goto 186, 3) := rfl
theorem c_40_166 : mLk 40 166 = some (.aload_n 0, 1) := rfl
theorem c_40_167 : mLk 40 167 = some (.getfield 11, 3) := rfl
theorem c_40_170 : mLk 40 170 = some (.iload_n 3, 1) := rfl
theorem c_40_171 : mLk 40 171 = some (.iconst 1, 1) := rfl
theorem c_40_172 : mLk 40 172 = some (.iadd, 1) := rfl
theorem c_40_173 : mLk 40 173 = some (.aload_n 1, 1) := rfl
theorem c_40_174 : mLk 40 174 = some (.aload_n 2, 1) := rfl
theorem c_40_175 : mLk 40 175 = some (.getfield 77, 3) := rfl
theorem c_40_178 : mLk 40 178 = some (.iconst 1, 1) := rfl
theorem c_40_179 : mLk 40 179 = some (.isub, 1) := rfl
theorem c_40_180 : mLk 40 180 = some (.invokevirtual 73, 3) := rfl
theorem c_40_183 : mLk 40 183 = some (.iastore, 1) := rfl
theorem c_40_184 : mLk 40 184 = some (.aload_n 0, 1) := rfl
theorem c_40_185 : mLk 40 185 = some (.getfield 11, 3) := rfl
theorem c_40_188 : mLk 40 188 = some (.iload_n 3, 1) := rfl
theorem c_40_189 : mLk 40 189 = some (.iconst 2, 1) := rfl
theorem c_40_190 : mLk 40 190 = some (.iadd, 1) := rfl
theorem c_40_191 : mLk 40 191 = some (.aload_n 1, 1) := rfl
theorem c_40_192 : mLk 40 192 = some (.aload_n 2, 1) := rfl
theorem c_40_193 : mLk 40 193 = some (.getfield 77, 3) := rfl
theorem c_40_196 : mLk 40 196 = some (.iconst 1, 1) := rfl
theorem c_40_197 : mLk 40 197 = some (.isub, 1) := rfl
theorem c_40_198 : mLk 40 198 = some (.invokevirtual 73, 3) := rfl
theorem c_40_201 : mLk 40 201 = some (.iastore, 1) := rfl
theorem c_40_202 : mLk 40 202 = some (.goto 147, 3) := rfl
theorem c_40_205 : mLk 40 205 = some (.aload_n 0, 1) := rfl
theorem c_40_206 : mLk 40 206 = some (.getfield 11, 3) := rfl
theorem c_40_209 : mLk 40 209 = some (.iload_n 3, 1) := rfl
theorem c_40_210 : mLk 40 210 = some (.iconst 1, 1) := rfl
theorem c_40_211 : mLk 40 211 = some (.iadd, 1) := rfl
theorem c_40_212 : mLk 40 212 = some (.aload_n 1, 1) := rfl
theorem c_40_213 : mLk 40 213 = some (.aload_n 2, 1) := rfl
theorem c_40_214 : mLk 40 214 = some (.getfield 77, 3) := rfl
theorem c_40_217 : mLk 40 217 = some (.iconst 1, 1) := rfl
theorem c_40_218 : mLk 40 218 = some (.isub, 1) := rfl
theorem c_40_219 : mLk 40 219 = some (.invokevirtual 73, 3) := rfl
theorem c_40_222 : mLk 40 222 = some (.iastore, 1) := rfl
theorem c_40_223 : mLk 40 223 = some (.aload_n 0, 1) := rfl
theorem c_40_224 : mLk 40 224 = some (.getfield 11, 3) := rfl
theorem c_40_227 : mLk 40 227 = some (.iload_n 3, 1) := rfl
theorem c_40_228 : mLk 40 228 = some (.iconst 2, 1) := rfl
theorem c_40_229 : mLk 40 229 = some (.iadd, 1) := rfl
theorem c_40_230 : mLk 40 230 = some (.aload_n 1, 1) := rfl
theorem c_40_231 : mLk 40 231 = some (.aload_n 2, 1) := rfl
theorem c_40_232 : mLk 40 232 = some (.getfield 77, 3) := rfl
theorem c_40_235 : mLk 40 235 = some (.iconst 1, 1) := rfl
theorem c_40_236 : mLk 40 236 = some (.isub, 1) := rfl
theorem c_40_237 : mLk 40 237 = some (.invokevirtual 73, 3) := rfl
theorem c_40_240 : mLk 40 240 = some (.iastore, 1) := rfl
theorem c_40_241 : mLk 40 241 = some (.aload_n 0, 1) := rfl
theorem c_40_242 : mLk 40 242 = some (.getfield 11, 3) := rfl
theorem c_40_245 : mLk 40 245 = some (.iload_n 3, 1) := rfl
theorem c_40_246 : mLk 40 246 = some (.iconst 3, 1) := rfl
theorem c_40_247 : mLk 40 247 = some (.iadd, 1) := rfl
theorem c_40_248 : mLk 40 248 = some (.aload_n 1, 1) := rfl
theorem c_40_249 : mLk 40 249 = some (.invokestatic 83, 3) := rfl
theorem c_40_252 : mLk 40 252 = some (.iastore, 1) := rfl
theorem c_40_253 : mLk 40 253 = some (.goto 96, 3) := rfl
theorem c_40_256 : mLk 40 256 = some (.aload_n 0, 1) := rfl
theorem c_40_257 : mLk 40 257 = some (.getfield 11, 3) := rfl
theorem c_40_260 : mLk 40 260 = some (.iload_n 3, 1) := rfl
theorem c_40_261 : mLk 40 261 = some (.iconst 1, 1) := rfl
theorem c_40_262 : mLk 40 262 = some (.iadd, 1) := rfl
theorem c_40_263 : mLk 40 263 = some (.aload_n 1, 1) := rfl
theorem c_40_264 : mLk 40 264 = some (.aload_n 2, 1) := rfl
theorem c_40_265 : mLk 40 265 = some (.getfield 80, 3) := rfl
theorem c_40_268 : mLk 40 268 = some (.iconst 1, 1) := rfl
theorem c_40_269 : mLk 40 269 = some (.isub, 1) := rfl
theorem c_40_270 : mLk 40 270 = some (.invokevirtual 73, 3) := rfl
theorem c_40_273 : mLk 40 273 = some (.iastore, 1) := rfl
theorem c_40_274 : mLk 40 274 = some (.goto 75, 3) := rfl
theorem c_40_277 : mLk 40 277 = some (.aload_n 0, 1) := rfl
theorem c_40_278 : mLk 40 278 = some (.getfield 11, 3) := rfl
theorem c_40_281 : mLk 40 281 = some (.iload_n 3, 1) := rfl
theorem c_40_282 : mLk 40 282 = some (.iconst 1, 1) := rfl
theorem c_40_283 : mLk 40 283 = some (.iadd, 1) := rfl
theorem c_40_284 : mLk 40 284 = some (.aload_n 1, 1) := rfl
theorem c_40_285 : mLk 40 285 = some (.aload_n 2, 1) := rfl
theorem c_40_286 : mLk 40 286 = some (.getfield 77, 3) := rfl
theorem c_40_289 : mLk 40 289 = some (.iconst 1, 1) := rfl
theorem c_40_290 : mLk 40 290 = some (.isub, 1) := rfl
theorem c_40_291 : mLk 40 291 = some (.invokevirtual 73, 3) := rfl
theorem c_40_294 : mLk 40 294 = some (.iastore, 1) := rfl
theorem c_40_295 : mLk 40 295 = some (.goto 54, 3) := rfl
theorem c_40_298 : mLk 40 298 = some (.aload_n 0, 1) := rfl
theorem c_40_299 : mLk 40 299 = some (.getfield 11, 3) := rfl
theorem c_40_302 : mLk 40 302 = some (.iload_n 3, 1) := rfl
theorem c_40_303 : mLk 40 303 = some (.iconst 1, 1) := rfl
theorem c_40_304 : mLk 40 304 = some (.iadd, 1) := rfl
theorem c_40_305 : mLk 40 305 = some (.aload_n 1, 1) := rfl
theorem c_40_306 : mLk 40 306 = some (.bipush 40, 2) := rfl
theorem c_40_308 : mLk 40 308 = some (.invokevirtual 73, 3) := rfl
theorem c_40_311 : mLk 40 311 = some (.iastore, 1) := rfl
theorem c_40_312 : mLk 40 312 = some (.aload_n 1, 1) := rfl
theorem c_40_313 : mLk 40 313 = some (.ldc 87, 2) := rfl
theorem c_40_315 : mLk 40 315 = some (.invokevirtual 64, 3) := rfl
theorem c_40_318 : mLk 40 318 = some (.aload_n 0, 1) := rfl
theorem c_40_319 : mLk 40 319 = some (.aload_n 1, 1) := rfl
theorem c_40_320 : mLk 40 320 = some (.aload_n 2, 1) := rfl
theorem c_40_321 : mLk 40 321 = some (.iload 4, 2) := rfl
theorem c_40_323 : mLk 40 323 = some (.iconst 1, 1) := rfl
theorem c_40_324 : mLk 40 324 = some (.iadd, 1) := rfl
theorem c_40_325 : mLk 40 325 = some (.invokevirtual 28, 3) := rfl
theorem c_40_328 : mLk 40 328 = some (.aload_n 1, 1) := rfl
theorem c_40_329 : mLk 40 329 = some (.ldc 89, 2) := rfl
theorem c_40_331 : mLk 40 331 = some (.invokevirtual 64, 3) := rfl
theorem c_40_334 : mLk 40 334 = some (.aload_n 0, 1) := rfl
theorem c_40_335 : mLk 40 335 = some (.getfield 11, 3) := rfl
theorem c_40_338 : mLk 40 338 = some (.iload_n 3, 1) := rfl
theorem c_40_339 : mLk 40 339 = some (.iconst 2, 1) := rfl
theorem c_40_340 : mLk 40 340 = some (.iadd, 1) := rfl
theorem c_40_341 : mLk 40 341 = some (.aload_n 0, 1) := rfl
theorem c_40_342 : mLk 40 342 = some (.getfield 19, 3) := rfl
theorem c_40_345 : mLk 40 345 = some (.iastore, 1) := rfl
theorem c_40_346 : mLk 40 346 = some (.goto 3, 3) := rfl
theorem kf_2_15 : a_lk (kF 2) 15 = some (2, 6) := rfl
theorem kf_2_22 : a_lk (kF 2) 22 = some (2, 8) := rfl
theorem kf_2_25 : a_lk (kF 2) 25 = some (2, 9) := rfl
theorem kf_2_28 : a_lk (kF 2) 28 = some (2, 10) := rfl
theorem kf_3_11 : a_lk (kF 3) 11 = some (3, 0) := rfl
theorem kf_3_19 : a_lk (kF 3) 19 = some (3, 2) := rfl
theorem kf_3_68 : a_lk (kF 3) 68 = some (2, 1) := rfl
theorem kf_3_77 : a_lk (kF 3) 77 = some (2, 0) := rfl
theorem kf_3_80 : a_lk (kF 3) 80 = some (2, 2) := rfl
theorem km_2_101 : a_lk (kM 2) 101 = some (0, 8) := rfl
theorem km_2_41 : a_lk (kM 2) 41 = some (0, 30) := rfl
theorem km_2_44 : a_lk (kM 2) 44 = some (0, 15) := rfl
theorem km_2_50 : a_lk (kM 2) 50 = some (0, 3) := rfl
theorem km_2_56 : a_lk (kM 2) 56 = some (0, 10) := rfl
theorem km_2_60 : a_lk (kM 2) 60 = some (0, 31) := rfl
theorem km_2_64 : a_lk (kM 2) 64 = some (0, 7) := rfl
theorem km_2_68 : a_lk (kM 2) 68 = some (0, 2) := rfl
theorem km_2_71 : a_lk (kM 2) 71 = some (0, 33) := rfl
theorem km_2_77 : a_lk (kM 2) 77 = some (0, 11) := rfl
theorem km_3_28 : a_lk (kM 3) 28 = some (0, 41) := rfl
theorem km_3_42 : a_lk (kM 3) 42 = some (0, 3) := rfl
theorem km_3_51 : a_lk (kM 3) 51 = some (0, 7) := rfl
theorem km_3_64 : a_lk (kM 3) 64 = some (0, 11) := rfl
theorem km_3_73 : a_lk (kM 3) 73 = some (0, 8) := rfl
set_option maxRecDepth 100000 in
set_option maxHeartbeats 4000000 in
theorem s_33 {sc : List Int32} {e : Int} {d u P Q A : Nat} {c : ME} {a2 : Int} {Z : AR → Prop} (hI : Iv u e P Q c) (hA : A = 13 ∨ A = 25) (ha2 : 0 ≤ a2 ∧ a2 ≤ 100) (hq0 : (a2 ≠ 0) ∨ (c A 0 ≤ 5)) (hq1 : (a2 ≠ 1) ∨ (c A 1 ≤ 3)) (hq2 : (a2 ≠ 2) ∨ (c A 2 ≤ 3)) (K : ∀ (c2 : ME), Iv u e P Q c2 → (∀ (a : Nat) (j : Int), ¬ ((a = 1 ∧ j = 2) ∨ (a = 1 ∧ j = 4) ∨ (a = 1 ∧ j = 5) ∨ (a = A ∧ j = 0) ∨ (a = A ∧ j = 1) ∨ (a = A ∧ j = 2) ∨ (a = A ∧ j = 3) ∨ a = (A + 1) ∨ a = (A + 2) ∨ a = (A + 3)) → c2 a j = c a j) → Z (.inl (none), Wd P Q P P c2, 0, 0)) : Wp sc (d + 11) 33 0 [(0, .ref A), (1, .ref 1), (2, vi a2)] [] (Wd P Q P P c) 0 0 Z := by
  have hP := iv_P hI
  have hQ := iv_Q hI
  have h_1 := ir_p0_0 hI hA
  have h_2 := ir_p0_1 hI hA
  have h_3 := ir_p0_2 hI hA
  refine q_iload_n c_33_0 rfl ?_
  by_cases h_4 : a2 = 0
  · skip
    refine v_tsw_i (t := 28) 0 c_33_1 (by omega) (of_decide_eq_true rfl) rfl (of_decide_eq_true rfl) (q_aload_n c_33_28 rfl (q_aload_n c_33_29 rfl (v_gr (t := (A + 1)) c_33_30 kf_2_15 (ck_p0 hA) (a68z hA) rfl (q_aload_n c_33_33 rfl (v_gi (z := 0) (v := c A 0) c_33_34 kf_2_81 (ck_p0 hA) (a68z hA) rfl rfl rfl (q_iconst c_33_37 (v_imul (v := 4 * c A 0) c_33_38 (by first | (clear ha2 h_1 h_2 h_3 h_4 hq0 hq1 hq2; omega) | omega) ?_)))))))
    refine q_iconst c_33_39 (v_sip c_33_40 (of_decide_eq_true rfl) (q_call c_33_43 rfl rfl rfl (q_iload_n c_32_0 rfl (q_istore c_32_1 (Nat.le_of_ble_eq_true rfl) (q_iload c_32_3 rfl (q_iload_n c_32_5 rfl (q_iload_n c_32_6 rfl ?_)))))))
    refine v_iadd (v := 4 * c A 0 + 4) c_32_7 rfl (v_ic_ge_f (t := 34) c_32_8 rfl ⟨(q_4cd384ca3 h_1), (q_b942bf61d), (q_58e0b19e1 h_1)⟩ (q_iload c_32_11 rfl (q_aload_n c_32_13 rfl (v_al c_32_14 (ck_p1 hA) (a68 hA rfl) (of_decide_eq_true rfl) (v_ic_ge_f (t := 34) c_32_15 rfl ⟨(q_4cd384ca3 h_1), (q_e06e21d96 h_4 ha2 hq0), of_decide_eq_true rfl⟩ (q_aload_n c_32_18 rfl (q_iload c_32_19 rfl ?_)))))))
    refine q_aload_n c_32_21 rfl (q_iload c_32_22 rfl (v_cv c_32_24 km_2_101 rfl rfl (Nat.le_of_ble_eq_true rfl) ⟨⟨rfl, rfl⟩, Nat.le_of_ble_eq_true rfl, rfl⟩ (Nat.le_of_ble_eq_true rfl) (Nat.le_of_ble_eq_true rfl) (s_8 (a1 := 999) hI (show (-1) ≤ 999 ∧ 999 ≤ 9999 from ⟨of_decide_eq_true rfl, of_decide_eq_true rfl⟩) (fun c_5 y_8 hI_6 hF_7 hy_8 h_9 => (bk_inl (v_is c_32_27 (ck_p1 hA) (a68 hA rfl) (of_decide_eq_true rfl) ⟨(q_989182599 h_1), (q_e06e21d96 h_4 ha2 hq0)⟩ (v_iinc (v := 4 * c A 0 + 1) c_32_28 rfl (Nat.le_of_ble_eq_true rfl) rfl (q_goto (t := 3) c_32_31 rfl (q_iload c_32_3 rfl ?_)))))))))
    refine q_iload_n c_32_5 rfl (q_iload_n c_32_6 rfl (v_iadd (v := 4 * c A 0 + 4) c_32_7 rfl (v_ic_ge_f (t := 34) c_32_8 rfl ⟨(q_37fa5c0f7 h_1), (q_1e5bb51b5), (q_58e0b19e1 h_1)⟩ (q_iload c_32_11 rfl (q_aload_n c_32_13 rfl (v_al c_32_14 (ck_p1 hA) (a68 hA rfl) (of_decide_eq_true rfl) (v_ic_ge_f (t := 34) c_32_15 rfl ⟨(q_37fa5c0f7 h_1), (q_fb29ecb06 h_4 ha2 hq0), of_decide_eq_true rfl⟩ ?_)))))))
    refine q_aload_n c_32_18 rfl (q_iload c_32_19 rfl (q_aload_n c_32_21 rfl (q_iload c_32_22 rfl ?_)))
    have hI_10 := iw_p1 (j := 4 * c A 0) (v := y_8) hI_6 hA ⟨hy_8.1, (q_dec870c4c h_9)⟩
    refine v_cv c_32_24 km_2_101 rfl rfl (Nat.le_of_ble_eq_true rfl) ⟨⟨rfl, rfl⟩, Nat.le_of_ble_eq_true rfl, rfl⟩ (Nat.le_of_ble_eq_true rfl) (Nat.le_of_ble_eq_true rfl) (s_8 (a1 := 999) hI_10 (show (-1) ≤ 999 ∧ 999 ≤ 9999 from ⟨of_decide_eq_true rfl, of_decide_eq_true rfl⟩) (fun c_11 y_14 hI_12 hF_13 hy_14 h_15 => (bk_inl (v_is c_32_27 (ck_p1 hA) (a68 hA rfl) (of_decide_eq_true rfl) ⟨(q_5c7b70196 h_1), (q_fb29ecb06 h_4 ha2 hq0)⟩ (v_iinc (v := 4 * c A 0 + 2) c_32_28 rfl (Nat.le_of_ble_eq_true rfl) (by first | (clear ha2 h_1 h_2 h_3 h_4 hq0 hq1 hq2 h_9 h_15; omega) | omega) (q_goto (t := 3) c_32_31 rfl (q_iload c_32_3 rfl (q_iload_n c_32_5 rfl (q_iload_n c_32_6 rfl ?_)))))))))
    refine v_iadd (v := 4 * c A 0 + 4) c_32_7 rfl (v_ic_ge_f (t := 34) c_32_8 rfl ⟨(q_b7e04cbb8 h_1), (q_a16cada9f), (q_58e0b19e1 h_1)⟩ (q_iload c_32_11 rfl (q_aload_n c_32_13 rfl (v_al c_32_14 (ck_p1 hA) (a68 hA rfl) (of_decide_eq_true rfl) (v_ic_ge_f (t := 34) c_32_15 rfl ⟨(q_b7e04cbb8 h_1), (q_975b2c00c h_4 ha2 hq0), of_decide_eq_true rfl⟩ (q_aload_n c_32_18 rfl (q_iload c_32_19 rfl ?_)))))))
    refine q_aload_n c_32_21 rfl (q_iload c_32_22 rfl ?_)
    have hI_16 := iw_p1 (j := 4 * c A 0 + 1) (v := y_14) hI_12 hA ⟨hy_14.1, (q_dec870c4c h_15)⟩
    refine v_cv c_32_24 km_2_101 rfl rfl (Nat.le_of_ble_eq_true rfl) ⟨⟨rfl, rfl⟩, Nat.le_of_ble_eq_true rfl, rfl⟩ (Nat.le_of_ble_eq_true rfl) (Nat.le_of_ble_eq_true rfl) (s_8 (a1 := 999) hI_16 (show (-1) ≤ 999 ∧ 999 ≤ 9999 from ⟨of_decide_eq_true rfl, of_decide_eq_true rfl⟩) (fun c_17 y_20 hI_18 hF_19 hy_20 h_21 => (bk_inl (v_is c_32_27 (ck_p1 hA) (a68 hA rfl) (of_decide_eq_true rfl) ⟨(q_5a453c95b h_1), (q_975b2c00c h_4 ha2 hq0)⟩ (v_iinc (v := 4 * c A 0 + 3) c_32_28 rfl (Nat.le_of_ble_eq_true rfl) (by first | (clear ha2 h_1 h_2 h_3 h_4 hq0 hq1 hq2 h_9 h_15 h_21; omega) | omega) (q_goto (t := 3) c_32_31 rfl (q_iload c_32_3 rfl (q_iload_n c_32_5 rfl (q_iload_n c_32_6 rfl ?_)))))))))
    refine v_iadd (v := 4 * c A 0 + 4) c_32_7 rfl (v_ic_ge_f (t := 34) c_32_8 rfl ⟨(q_6d422924b h_1), (q_550340cc7), (q_58e0b19e1 h_1)⟩ (q_iload c_32_11 rfl (q_aload_n c_32_13 rfl (v_al c_32_14 (ck_p1 hA) (a68 hA rfl) (of_decide_eq_true rfl) (v_ic_ge_f (t := 34) c_32_15 rfl ⟨(q_6d422924b h_1), (q_a04272509 h_4 ha2 hq0), of_decide_eq_true rfl⟩ (q_aload_n c_32_18 rfl (q_iload c_32_19 rfl ?_)))))))
    refine q_aload_n c_32_21 rfl (q_iload c_32_22 rfl ?_)
    have hI_22 := iw_p1 (j := 4 * c A 0 + 2) (v := y_20) hI_18 hA ⟨hy_20.1, (q_dec870c4c h_21)⟩
    refine v_cv c_32_24 km_2_101 rfl rfl (Nat.le_of_ble_eq_true rfl) ⟨⟨rfl, rfl⟩, Nat.le_of_ble_eq_true rfl, rfl⟩ (Nat.le_of_ble_eq_true rfl) (Nat.le_of_ble_eq_true rfl) (s_8 (a1 := 999) hI_22 (show (-1) ≤ 999 ∧ 999 ≤ 9999 from ⟨of_decide_eq_true rfl, of_decide_eq_true rfl⟩) (fun c_23 y_26 hI_24 hF_25 hy_26 h_27 => (bk_inl (v_is c_32_27 (ck_p1 hA) (a68 hA rfl) (of_decide_eq_true rfl) ⟨(q_012aff489 h_1), (q_a04272509 h_4 ha2 hq0)⟩ (v_iinc (v := 4 * c A 0 + 4) c_32_28 rfl (Nat.le_of_ble_eq_true rfl) (by first | (clear ha2 h_1 h_2 h_3 h_4 hq0 hq1 hq2 h_9 h_15 h_21 h_27; omega) | omega) (Wp_ls [(5, vi (4 * c A 0 + 4)), (0, .ref 1), (1, .ref (A + 1)), (2, vi (4 * c A 0)), (3, vi 4), (4, vi 999)] (lsub_cons rfl (lsub_cons rfl (lsub_cons rfl (lsub_cons rfl (lsub_cons rfl (lsub_cons rfl lsub_nil)))))) (q_goto (t := 3) c_32_31 rfl (q_iload c_32_3 rfl (q_iload_n c_32_5 rfl ?_)))))))))
    refine q_iload_n c_32_6 rfl (v_iadd (v := 4 * c A 0 + 4) c_32_7 rfl (v_ic_ge_t (t := 34) c_32_8 rfl ⟨(q_800e899ee h_1), (q_aeeb529e2), (q_58e0b19e1 h_1)⟩ (q_vret rfl rfl (bk_inl (q_aload_n c_33_46 rfl (q_dup c_33_47 rfl ?_))))))
    have kn_28 : Hid (c_5 A 0 = c A 0) := hF_7 A 0 (qn_014d425e1 hA)
    have kn_29 : Hid (c_11 A 0 = c A 0) := (hF_13 A 0 (qn_014d425e1 hA)).trans ((up_c (p0p rfl)).trans (hid kn_28))
    have kn_30 : Hid (c_17 A 0 = c A 0) := (hF_19 A 0 (qn_014d425e1 hA)).trans ((up_c (p0p rfl)).trans (hid kn_29))
    have kn_31 : Hid (c_23 A 0 = c A 0) := (hF_25 A 0 (qn_014d425e1 hA)).trans ((up_c (p0p rfl)).trans (hid kn_30))
    refine v_gi (z := 0) (v := c A 0) c_33_48 kf_2_81 (ck_p0 hA) (a68z hA) rfl rfl ((up_c (p0p rfl)).trans (hid kn_31)) (q_iconst c_33_51 (v_iadd (v := c A 0 + 1) c_33_52 rfl (v_pi (z := 0) c_33_53 kf_2_81 (ck_p0 hA) (a68z hA) rfl rfl rfl (of_decide_eq_true rfl) (q_goto (t := 126) c_33_56 rfl (q_vret rfl rfl ?_)))))
    have hI_32 := iw_p1 (j := 4 * c A 0 + 3) (v := y_26) hI_24 hA ⟨hy_26.1, (q_dec870c4c h_27)⟩
    have hI_33 := iw_p0_0 (v := c A 0 + 1) hI_32 hA ⟨(rgp_l h_1.1 (of_decide_eq_true rfl)), (q_76c061441 h_4 ha2 hq0)⟩
    exact K (up (up c_23 (A + 1) (4 * c A 0 + 3) y_26) A 0 (c A 0 + 1)) hI_33 (fun a j hm => (up_b (Decidable.or_iff_not_imp_left.mpr (fun h1 h2 => hm (Or.inr (Or.inr (Or.inr (Or.inl ⟨Decidable.not_not.mp h1, h2⟩))))))).trans ((up_b (Decidable.or_iff_not_imp_left.mpr (fun h1 h2 => hm (Or.inr (Or.inr (Or.inr (Or.inr (Or.inr (Or.inr (Or.inr (Or.inl (Decidable.not_not.mp h1)))))))))))).trans ((hF_25 a j (qv_23f7cbea6 hm)).trans ((up_b (Decidable.or_iff_not_imp_left.mpr (fun h1 h2 => hm (Or.inr (Or.inr (Or.inr (Or.inr (Or.inr (Or.inr (Or.inr (Or.inl (Decidable.not_not.mp h1)))))))))))).trans ((hF_19 a j (qv_23f7cbea6 hm)).trans ((up_b (Decidable.or_iff_not_imp_left.mpr (fun h1 h2 => hm (Or.inr (Or.inr (Or.inr (Or.inr (Or.inr (Or.inr (Or.inr (Or.inl (Decidable.not_not.mp h1)))))))))))).trans ((hF_13 a j (qv_23f7cbea6 hm)).trans ((up_b (Decidable.or_iff_not_imp_left.mpr (fun h1 h2 => hm (Or.inr (Or.inr (Or.inr (Or.inr (Or.inr (Or.inr (Or.inr (Or.inl (Decidable.not_not.mp h1)))))))))))).trans (hF_7 a j (qv_23f7cbea6 hm))))))))))
  by_cases h_34 : a2 = 1
  · skip
    refine v_tsw_i (t := 59) 1 rfl (by omega) (of_decide_eq_true rfl) rfl (of_decide_eq_true rfl) (q_aload_n c_33_59 rfl (q_aload_n c_33_60 rfl (v_gr (t := (A + 2)) c_33_61 kf_2_19 (ck_p0 hA) (a68z hA) rfl (q_aload_n c_33_64 rfl (v_gi (z := 1) (v := c A 1) c_33_65 kf_2_84 (ck_p0 hA) (a68z hA) rfl rfl rfl (q_iconst c_33_68 (v_imul (v := 3 * c A 1) c_33_69 (by first | (clear ha2 h_1 h_2 h_3 h_34 hq0 hq1 hq2 h_4; omega) | omega) ?_)))))))
    refine q_iconst c_33_70 (v_bip c_33_71 (of_decide_eq_true rfl) (q_call c_33_73 rfl rfl rfl (q_iload_n c_32_0 rfl (q_istore c_32_1 (Nat.le_of_ble_eq_true rfl) (q_iload c_32_3 rfl (q_iload_n c_32_5 rfl (q_iload_n c_32_6 rfl ?_)))))))
    refine v_iadd (v := 3 * c A 1 + 3) c_32_7 rfl (v_ic_ge_f (t := 34) c_32_8 rfl ⟨(q_479f6587b h_2), (q_e86648d44), (q_7b3d3c593 h_2)⟩ (q_iload c_32_11 rfl (q_aload_n c_32_13 rfl (v_al c_32_14 (ck_p2 hA) (a68 hA rfl) (of_decide_eq_true rfl) (v_ic_ge_f (t := 34) c_32_15 rfl ⟨(q_479f6587b h_2), (q_9dec92735 h_34 hq1), of_decide_eq_true rfl⟩ (q_aload_n c_32_18 rfl (q_iload c_32_19 rfl ?_)))))))
    refine q_aload_n c_32_21 rfl (q_iload c_32_22 rfl (v_cv c_32_24 km_2_101 rfl rfl (Nat.le_of_ble_eq_true rfl) ⟨⟨rfl, rfl⟩, Nat.le_of_ble_eq_true rfl, rfl⟩ (Nat.le_of_ble_eq_true rfl) (Nat.le_of_ble_eq_true rfl) (s_8 (a1 := 10) hI (show (-1) ≤ 10 ∧ 10 ≤ 9999 from ⟨of_decide_eq_true rfl, of_decide_eq_true rfl⟩) (fun c_35 y_38 hI_36 hF_37 hy_38 h_39 => (bk_inl (v_is c_32_27 (ck_p2 hA) (a68 hA rfl) (of_decide_eq_true rfl) ⟨(q_d745e1084 h_2), (q_9dec92735 h_34 hq1)⟩ (v_iinc (v := 3 * c A 1 + 1) c_32_28 rfl (Nat.le_of_ble_eq_true rfl) rfl (q_goto (t := 3) c_32_31 rfl (q_iload c_32_3 rfl ?_)))))))))
    refine q_iload_n c_32_5 rfl (q_iload_n c_32_6 rfl (v_iadd (v := 3 * c A 1 + 3) c_32_7 rfl (v_ic_ge_f (t := 34) c_32_8 rfl ⟨(q_c1fe2d201 h_2), (q_b897c897a), (q_7b3d3c593 h_2)⟩ (q_iload c_32_11 rfl (q_aload_n c_32_13 rfl (v_al c_32_14 (ck_p2 hA) (a68 hA rfl) (of_decide_eq_true rfl) (v_ic_ge_f (t := 34) c_32_15 rfl ⟨(q_c1fe2d201 h_2), (q_222845f48 h_34 hq1), of_decide_eq_true rfl⟩ ?_)))))))
    refine q_aload_n c_32_18 rfl (q_iload c_32_19 rfl (q_aload_n c_32_21 rfl (q_iload c_32_22 rfl ?_)))
    have hI_40 := iw_p2 (j := 3 * c A 1) (v := y_38) hI_36 hA ⟨hy_38.1, (q_c41f06fcf h_39)⟩
    refine v_cv c_32_24 km_2_101 rfl rfl (Nat.le_of_ble_eq_true rfl) ⟨⟨rfl, rfl⟩, Nat.le_of_ble_eq_true rfl, rfl⟩ (Nat.le_of_ble_eq_true rfl) (Nat.le_of_ble_eq_true rfl) (s_8 (a1 := 10) hI_40 (show (-1) ≤ 10 ∧ 10 ≤ 9999 from ⟨of_decide_eq_true rfl, of_decide_eq_true rfl⟩) (fun c_41 y_44 hI_42 hF_43 hy_44 h_45 => (bk_inl (v_is c_32_27 (ck_p2 hA) (a68 hA rfl) (of_decide_eq_true rfl) ⟨(q_27045273b h_2), (q_222845f48 h_34 hq1)⟩ (v_iinc (v := 3 * c A 1 + 2) c_32_28 rfl (Nat.le_of_ble_eq_true rfl) (by first | (clear ha2 h_1 h_2 h_3 h_34 hq0 hq1 hq2 h_4 h_39 h_45; omega) | omega) (q_goto (t := 3) c_32_31 rfl (q_iload c_32_3 rfl (q_iload_n c_32_5 rfl (q_iload_n c_32_6 rfl ?_)))))))))
    refine v_iadd (v := 3 * c A 1 + 3) c_32_7 rfl (v_ic_ge_f (t := 34) c_32_8 rfl ⟨(q_87a9919dd h_2), (q_92e2c60a6), (q_7b3d3c593 h_2)⟩ (q_iload c_32_11 rfl (q_aload_n c_32_13 rfl (v_al c_32_14 (ck_p2 hA) (a68 hA rfl) (of_decide_eq_true rfl) (v_ic_ge_f (t := 34) c_32_15 rfl ⟨(q_87a9919dd h_2), (q_82d1a1cd7 h_34 hq1), of_decide_eq_true rfl⟩ (q_aload_n c_32_18 rfl (q_iload c_32_19 rfl ?_)))))))
    refine q_aload_n c_32_21 rfl (q_iload c_32_22 rfl ?_)
    have hI_46 := iw_p2 (j := 3 * c A 1 + 1) (v := y_44) hI_42 hA ⟨hy_44.1, (q_c41f06fcf h_45)⟩
    refine v_cv c_32_24 km_2_101 rfl rfl (Nat.le_of_ble_eq_true rfl) ⟨⟨rfl, rfl⟩, Nat.le_of_ble_eq_true rfl, rfl⟩ (Nat.le_of_ble_eq_true rfl) (Nat.le_of_ble_eq_true rfl) (s_8 (a1 := 10) hI_46 (show (-1) ≤ 10 ∧ 10 ≤ 9999 from ⟨of_decide_eq_true rfl, of_decide_eq_true rfl⟩) (fun c_47 y_50 hI_48 hF_49 hy_50 h_51 => (bk_inl (v_is c_32_27 (ck_p2 hA) (a68 hA rfl) (of_decide_eq_true rfl) ⟨(q_796717b5a h_2), (q_82d1a1cd7 h_34 hq1)⟩ (v_iinc (v := 3 * c A 1 + 3) c_32_28 rfl (Nat.le_of_ble_eq_true rfl) (by first | (clear ha2 h_1 h_2 h_3 h_34 hq0 hq1 hq2 h_4 h_39 h_45 h_51; omega) | omega) (q_goto (t := 3) c_32_31 rfl (q_iload c_32_3 rfl (q_iload_n c_32_5 rfl (q_iload_n c_32_6 rfl ?_)))))))))
    refine v_iadd (v := 3 * c A 1 + 3) c_32_7 rfl (v_ic_ge_t (t := 34) c_32_8 rfl ⟨(q_10ca3dd2a h_2), (q_090c47ebb), (q_7b3d3c593 h_2)⟩ (q_vret rfl rfl (bk_inl (q_aload_n c_33_76 rfl (q_dup c_33_77 rfl ?_)))))
    have kn_52 : Hid (c_35 A 1 = c A 1) := hF_37 A 1 (qn_014d425e1 hA)
    have kn_53 : Hid (c_41 A 1 = c A 1) := (hF_43 A 1 (qn_014d425e1 hA)).trans ((up_c (p0p rfl)).trans (hid kn_52))
    have kn_54 : Hid (c_47 A 1 = c A 1) := (hF_49 A 1 (qn_014d425e1 hA)).trans ((up_c (p0p rfl)).trans (hid kn_53))
    refine v_gi (z := 1) (v := c A 1) c_33_78 kf_2_84 (ck_p0 hA) (a68z hA) rfl rfl ((up_c (p0p rfl)).trans (hid kn_54)) (q_iconst c_33_81 (v_iadd (v := c A 1 + 1) c_33_82 rfl (v_pi (z := 1) c_33_83 kf_2_84 (ck_p0 hA) (a68z hA) rfl rfl rfl (of_decide_eq_true rfl) (q_goto (t := 126) c_33_86 rfl (q_vret rfl rfl ?_)))))
    have hI_55 := iw_p2 (j := 3 * c A 1 + 2) (v := y_50) hI_48 hA ⟨hy_50.1, (q_c41f06fcf h_51)⟩
    have hI_56 := iw_p0_1 (v := c A 1 + 1) hI_55 hA ⟨(rgp_l h_2.1 (of_decide_eq_true rfl)), (q_2e94b5862 h_34 hq1)⟩
    exact K (up (up c_47 (A + 2) (3 * c A 1 + 2) y_50) A 1 (c A 1 + 1)) hI_56 (fun a j hm => (up_b (Decidable.or_iff_not_imp_left.mpr (fun h1 h2 => hm (Or.inr (Or.inr (Or.inr (Or.inr (Or.inl ⟨Decidable.not_not.mp h1, h2⟩)))))))).trans ((up_b (Decidable.or_iff_not_imp_left.mpr (fun h1 h2 => hm (Or.inr (Or.inr (Or.inr (Or.inr (Or.inr (Or.inr (Or.inr (Or.inr (Or.inl (Decidable.not_not.mp h1))))))))))))).trans ((hF_49 a j (qv_23f7cbea6 hm)).trans ((up_b (Decidable.or_iff_not_imp_left.mpr (fun h1 h2 => hm (Or.inr (Or.inr (Or.inr (Or.inr (Or.inr (Or.inr (Or.inr (Or.inr (Or.inl (Decidable.not_not.mp h1))))))))))))).trans ((hF_43 a j (qv_23f7cbea6 hm)).trans ((up_b (Decidable.or_iff_not_imp_left.mpr (fun h1 h2 => hm (Or.inr (Or.inr (Or.inr (Or.inr (Or.inr (Or.inr (Or.inr (Or.inr (Or.inl (Decidable.not_not.mp h1))))))))))))).trans (hF_37 a j (qv_23f7cbea6 hm))))))))
  by_cases h_57 : a2 = 2
  · skip
    refine v_tsw_i (t := 89) 2 rfl (by omega) (of_decide_eq_true rfl) rfl (of_decide_eq_true rfl) (q_aload_n c_33_89 rfl (q_aload_n c_33_90 rfl (v_gr (t := (A + 3)) c_33_91 kf_2_22 (ck_p0 hA) (a68z hA) rfl (q_aload_n c_33_94 rfl (v_gi (z := 2) (v := c A 2) c_33_95 kf_2_87 (ck_p0 hA) (a68z hA) rfl rfl rfl (q_iconst c_33_98 (q_iconst c_33_99 ?_)))))))
    refine q_call c_33_100 rfl rfl rfl (q_iload_n c_32_0 rfl (q_istore c_32_1 (Nat.le_of_ble_eq_true rfl) (q_iload c_32_3 rfl (q_iload_n c_32_5 rfl (q_iload_n c_32_6 rfl (v_iadd (v := c A 2 + 1) c_32_7 rfl (v_ic_ge_f (t := 34) c_32_8 rfl ⟨(lel h_3.1 rfl), (q_3e85f52a4), (rgp_h h_3.2 (of_decide_eq_true rfl))⟩ ?_)))))))
    refine q_iload c_32_11 rfl (q_aload_n c_32_13 rfl (v_al c_32_14 (ck_p3 hA) (a68 hA rfl) (of_decide_eq_true rfl) (v_ic_ge_f (t := 34) c_32_15 rfl ⟨(lel h_3.1 rfl), (q_94361f98f h_57 hq2), of_decide_eq_true rfl⟩ (q_aload_n c_32_18 rfl (q_iload c_32_19 rfl (q_aload_n c_32_21 rfl (q_iload c_32_22 rfl ?_)))))))
    refine v_cv c_32_24 km_2_101 rfl rfl (Nat.le_of_ble_eq_true rfl) ⟨⟨rfl, rfl⟩, Nat.le_of_ble_eq_true rfl, rfl⟩ (Nat.le_of_ble_eq_true rfl) (Nat.le_of_ble_eq_true rfl) (s_8 (a1 := 2) hI (show (-1) ≤ 2 ∧ 2 ≤ 9999 from ⟨of_decide_eq_true rfl, of_decide_eq_true rfl⟩) (fun c_58 y_61 hI_59 hF_60 hy_61 h_62 => (bk_inl (v_is c_32_27 (ck_p3 hA) (a68 hA rfl) (of_decide_eq_true rfl) ⟨h_3.1, (q_94361f98f h_57 hq2)⟩ (v_iinc (v := c A 2 + 1) c_32_28 rfl (Nat.le_of_ble_eq_true rfl) rfl (q_goto (t := 3) c_32_31 rfl (q_iload c_32_3 rfl (q_iload_n c_32_5 rfl (q_iload_n c_32_6 rfl ?_)))))))))
    refine v_iadd (v := c A 2 + 1) c_32_7 rfl (v_ic_ge_t (t := 34) c_32_8 rfl ⟨(rgp_l h_3.1 (of_decide_eq_true rfl)), (q_3bb02af3e), (rgp_h h_3.2 (of_decide_eq_true rfl))⟩ (q_vret rfl rfl (bk_inl (q_aload_n c_33_103 rfl (q_dup c_33_104 rfl ?_)))))
    have kn_63 : Hid (c_58 A 2 = c A 2) := hF_60 A 2 (qn_014d425e1 hA)
    refine v_gi (z := 2) (v := c A 2) c_33_105 kf_2_87 (ck_p0 hA) (a68z hA) rfl rfl ((up_c (p0p rfl)).trans (hid kn_63)) (q_iconst c_33_108 (v_iadd (v := c A 2 + 1) c_33_109 rfl (v_pi (z := 2) c_33_110 kf_2_87 (ck_p0 hA) (a68z hA) rfl rfl rfl (of_decide_eq_true rfl) (q_goto (t := 126) c_33_113 rfl (q_vret rfl rfl ?_)))))
    have hI_64 := iw_p3 (j := c A 2) (v := y_61) hI_59 hA ⟨hy_61.1, (q_19afebcac h_62)⟩
    have hI_65 := iw_p0_2 (v := c A 2 + 1) hI_64 hA ⟨(rgp_l h_3.1 (of_decide_eq_true rfl)), (q_e2d2fa1b6 h_57 hq2)⟩
    exact K (up (up c_58 (A + 3) (c A 2) y_61) A 2 (c A 2 + 1)) hI_65 (fun a j hm => (up_b (Decidable.or_iff_not_imp_left.mpr (fun h1 h2 => hm (Or.inr (Or.inr (Or.inr (Or.inr (Or.inr (Or.inl ⟨Decidable.not_not.mp h1, h2⟩))))))))).trans ((up_b (Decidable.or_iff_not_imp_left.mpr (fun h1 h2 => hm (Or.inr (Or.inr (Or.inr (Or.inr (Or.inr (Or.inr (Or.inr (Or.inr (Or.inr (Decidable.not_not.mp h1))))))))))))).trans (hF_60 a j (qv_23f7cbea6 hm))))
  refine v_tsw_o (t := 116) rfl (by omega) (of_decide_eq_true rfl) (q_aload_n c_33_116 rfl (q_aload_n c_33_117 rfl (v_bip c_33_118 (of_decide_eq_true rfl) (v_cv c_33_120 km_2_101 rfl rfl (Nat.le_of_ble_eq_true rfl) ⟨⟨rfl, rfl⟩, Nat.le_of_ble_eq_true rfl, rfl⟩ (Nat.le_of_ble_eq_true rfl) (Nat.le_of_ble_eq_true rfl) (s_8 (a1 := 50) hI (show (-1) ≤ 50 ∧ 50 ≤ 9999 from ⟨of_decide_eq_true rfl, of_decide_eq_true rfl⟩) (fun c_66 y_69 hI_67 hF_68 hy_69 h_70 => (bk_inl (v_pi (z := 3) c_33_123 kf_2_9 (ck_p0 hA) (a68z hA) rfl rfl rfl (of_decide_eq_true rfl) (q_vret rfl rfl ?_)))))))))
  have hI_71 := iw_p0_3 (v := y_69) hI_67 hA ⟨hy_69.1, (q_9510e3478 h_70)⟩
  exact K (up c_66 A 3 y_69) hI_71 (fun a j hm => (up_b (Decidable.or_iff_not_imp_left.mpr (fun h1 h2 => hm (Or.inr (Or.inr (Or.inr (Or.inr (Or.inr (Or.inr (Or.inl ⟨Decidable.not_not.mp h1, h2⟩)))))))))).trans (hF_68 a j (qv_23f7cbea6 hm)))

set_option maxRecDepth 100000 in
set_option maxHeartbeats 4000000 in
theorem s_34_l {sc : List Int32} {e : Int} {d u P Q A : Nat} {c : ME} {Z : AR → Prop} (hI : Iv u e P Q c) (hA : A = 13 ∨ A = 25) (K : ∀ (c2 : ME), Iv u e P Q c2 → (∀ (a : Nat) (j : Int), ¬ ((a = 1 ∧ j = 2) ∨ (a = 1 ∧ j = 4) ∨ (a = 1 ∧ j = 5) ∨ (a = A ∧ j = 0) ∨ (a = A ∧ j = 1) ∨ (a = A ∧ j = 2) ∨ (a = A ∧ j = 3) ∨ a = (A + 1) ∨ a = (A + 2) ∨ a = (A + 3) ∨ (a = A ∧ j = 4) ∨ (a = A ∧ j = 5) ∨ a = (A + 6) ∨ (a = (A + 7) ∧ j = 4)) → c2 a j = c a j) → Z (.inl (none), Wd P Q P P c2, 0, 0)) : ∀ n : Nat, (∀ (c2 : ME) (v2 : Int), Iv u e P Q c2 → (∀ (a : Nat) (j : Int), ¬ ((a = 1 ∧ j = 2) ∨ (a = 1 ∧ j = 4) ∨ (a = 1 ∧ j = 5) ∨ (a = A ∧ j = 0) ∨ (a = A ∧ j = 1) ∨ (a = A ∧ j = 2) ∨ (a = A ∧ j = 3) ∨ a = (A + 1) ∨ a = (A + 2) ∨ a = (A + 3) ∨ (a = A ∧ j = 4) ∨ (a = A ∧ j = 5) ∨ a = (A + 6) ∨ (a = (A + 7) ∧ j = 4)) → c2 a j = c a j) → 0 ≤ v2 ∧ v2 ≤ 61 → 123 - 2 * v2 < (n : Int) → Wp sc (d + 12) 34 6 [(0, .ref A), (1, .ref 1), (2, vi v2)] [] (Wd P Q P P c2) 0 0 Z) := by
  intro n
  induction n with
  | zero => exact (by intro c2 v2 hI2 hF hv2 hm9; have hP := iv_P hI; have hQ := iv_Q hI; exfalso; omega)
  | succ n ih =>
    have hP := iv_P hI
    have hQ := iv_Q hI
    intro c2 v2 hI2 hF hv2 hm9
    refine q_iload_n c_34_6 rfl (v_bip c_34_7 (of_decide_eq_true rfl) ?_)
    by_cases h_1 : v2 > 60
    · refine v_ic_gt_t (t := 85) c_34_9 rfl ⟨of_decide_eq_true rfl, h_1, (ler hv2.2 rfl)⟩ (q_vret rfl rfl ?_)
      exact K c2 hI2 (fun a j hm => hF a j hm)
    · refine v_ic_gt_f (t := 85) c_34_9 rfl ⟨(lel hv2.1 rfl), (Int.not_lt.mp h_1), of_decide_eq_true rfl⟩ (q_aload_n c_34_12 rfl (v_cv c_34_13 km_2_44 rfl rfl (Nat.le_of_ble_eq_true rfl) ⟨⟨rfl, rfl⟩, Nat.le_of_ble_eq_true rfl, rfl⟩ (Nat.le_of_ble_eq_true rfl) (Nat.le_of_ble_eq_true rfl) (s_15 hI2 (fun c_2 y_5 hI_3 hF_4 hy_5 => (bk_inl ?_)))))
      by_cases h_6 : y_5 = 0
      · refine v_if_eq_t (t := 85) c_34_16 rfl h_6 (q_vret rfl rfl ?_)
        exact K c_2 hI_3 (fun a j hm => (hF_4 a j (fun h => hm (Or.inl h))).trans (hF a j hm))
      · refine v_if_eq_f (t := 85) c_34_16 rfl ⟨h_6, ⟨(lel hy_5.1 rfl), (ler hy_5.2 rfl)⟩, of_decide_eq_true rfl, of_decide_eq_true rfl⟩ (q_aload_n c_34_19 rfl (v_cv c_34_20 km_2_50 rfl rfl (Nat.le_of_ble_eq_true rfl) ⟨⟨rfl, rfl⟩, Nat.le_of_ble_eq_true rfl, rfl⟩ (Nat.le_of_ble_eq_true rfl) (Nat.le_of_ble_eq_true rfl) (s_3 hI_3 (fun c_7 y_10 hI_8 hF_9 hy_10 h_11 => (bk_inl ?_)))))
        have h_12 := ir_1_2 hI_8
        refine q_istore_n c_34_23 (Nat.le_of_ble_eq_true rfl) (q_aload_n c_34_24 rfl (q_ldc_s c_34_25 rfl rfl (of_decide_eq_true rfl) (v_cv c_34_27 km_2_56 rfl rfl (Nat.le_of_ble_eq_true rfl) ⟨⟨rfl, rfl⟩, Nat.le_of_ble_eq_true rfl, rfl⟩ (Nat.le_of_ble_eq_true rfl) (Nat.le_of_ble_eq_true rfl) (s_10 hI_8 (q := 8) (nt := 20) (of_decide_eq_true rfl) (of_decide_eq_true rfl) (of_decide_eq_true rfl) (fun c_13 y_16 hI_14 hF_15 hy_16 h_17 => (bk_inl ?_))))))
        have h_18 := ir_1_4 hI_14
        refine q_istore c_34_30 (Nat.le_of_ble_eq_true rfl) (q_iload c_34_32 rfl (q_iconst c_34_34 ?_))
        by_cases h_19 : y_16 = (-1)
        · refine v_ic_eq_t (t := 59) c_34_35 rfl h_19 (q_aload_n c_34_59 rfl (v_cv c_34_60 km_2_68 rfl rfl (Nat.le_of_ble_eq_true rfl) ⟨⟨rfl, rfl⟩, Nat.le_of_ble_eq_true rfl, rfl⟩ (Nat.le_of_ble_eq_true rfl) (Nat.le_of_ble_eq_true rfl) (q_aload_n c_2_0 rfl (v_gi (z := 4) (v := c_13 1 4) c_2_1 kf_5_38 rfl (Nat.le_of_ble_eq_true rfl) rfl rfl rfl (v_if_ne_t (t := 11) c_2_4 rfl ⟨(q_eb1d20069 h_17 h_18 h_19), ⟨(lel h_18.1 rfl), (ler h_18.2 rfl)⟩, of_decide_eq_true rfl, of_decide_eq_true rfl⟩ (q_iconst c_2_11 (v_zret c_2_12 rfl (of_decide_eq_true rfl) ?_)))))))
          refine bk_inl (v_if_eq_t (t := 73) c_34_63 rfl (of_decide_eq_true rfl) (q_aload_n c_34_73 rfl (q_ldc_s c_34_74 rfl rfl (of_decide_eq_true rfl) (v_cv c_34_76 km_2_77 rfl rfl (Nat.le_of_ble_eq_true rfl) ⟨⟨rfl, rfl⟩, Nat.le_of_ble_eq_true rfl, rfl⟩ (Nat.le_of_ble_eq_true rfl) (Nat.le_of_ble_eq_true rfl) (s_11 hI_14 (q := 9) (nt := 1) (of_decide_eq_true rfl) (of_decide_eq_true rfl) (of_decide_eq_true rfl) (fun c_20 hI_21 hF_22 => (bk_inl (v_iinc (v := v2 + 1) c_34_79 rfl (Nat.le_of_ble_eq_true rfl) rfl (q_goto (t := 6) c_34_82 rfl ?_)))))))))
          refine Wp_ls [(0, .ref A), (1, .ref 1), (2, vi (v2 + 1))] (lsub_cons rfl (lsub_cons rfl (lsub_cons rfl lsub_nil))) ?_
          exact ih c_20 (v2 + 1) hI_21 (fun a j hm => (hF_22 a j (qv_69188b0c2 hm)).trans ((hF_15 a j (qv_69188b0c2 hm)).trans ((hF_9 a j (fun h => hm (Or.inl h))).trans ((hF_4 a j (fun h => hm (Or.inl h))).trans (hF a j hm))))) ⟨(rgp_l hv2.1 (of_decide_eq_true rfl)), (q_d44226a64 h_1)⟩ (by omega)
        · refine v_ic_eq_f (t := 59) c_34_35 rfl ⟨h_19, ⟨(lel hy_16.1 rfl), (ler hy_16.2 rfl)⟩, of_decide_eq_true rfl, of_decide_eq_true rfl⟩ (q_iload_n c_34_38 rfl (v_bip c_34_39 (of_decide_eq_true rfl) ?_))
          by_cases h_23 : v2 = 60
          · refine v_ic_eq_t (t := 53) c_34_41 rfl h_23 (q_aload_n c_34_53 rfl (q_iconst c_34_54 (q_iload_n c_34_55 rfl (v_cv c_34_56 km_2_64 rfl rfl (Nat.le_of_ble_eq_true rfl) ⟨⟨rfl, rfl⟩, Nat.le_of_ble_eq_true rfl, rfl⟩ (Nat.le_of_ble_eq_true rfl) (Nat.le_of_ble_eq_true rfl) (s_7 (a1 := 3) (a2 := y_10) hI_14 (show 1 ≤ 3 ∧ 3 ≤ 3 from ⟨of_decide_eq_true rfl, of_decide_eq_true rfl⟩) (show 0 ≤ y_10 ∧ y_10 ≤ 600 from hy_10) (fun c_24 hI_25 hF_26 h_27 => (bk_inl ?_)))))))
            have h_28 := ir_1_4 hI_25
            refine q_aload_n c_34_59 rfl (v_cv c_34_60 km_2_68 rfl rfl (Nat.le_of_ble_eq_true rfl) ⟨⟨rfl, rfl⟩, Nat.le_of_ble_eq_true rfl, rfl⟩ (Nat.le_of_ble_eq_true rfl) (Nat.le_of_ble_eq_true rfl) (q_aload_n c_2_0 rfl (v_gi (z := 4) (v := c_24 1 4) c_2_1 kf_5_38 rfl (Nat.le_of_ble_eq_true rfl) rfl rfl rfl (v_if_ne_t (t := 11) c_2_4 rfl ⟨(q_88eaa90e3 h_27 h_28), ⟨(lel h_28.1 rfl), (ler h_28.2 rfl)⟩, of_decide_eq_true rfl, of_decide_eq_true rfl⟩ (q_iconst c_2_11 (v_zret c_2_12 rfl (of_decide_eq_true rfl) (bk_inl ?_)))))))
            refine v_if_eq_t (t := 73) c_34_63 rfl (of_decide_eq_true rfl) (q_aload_n c_34_73 rfl (q_ldc_s c_34_74 rfl rfl (of_decide_eq_true rfl) (v_cv c_34_76 km_2_77 rfl rfl (Nat.le_of_ble_eq_true rfl) ⟨⟨rfl, rfl⟩, Nat.le_of_ble_eq_true rfl, rfl⟩ (Nat.le_of_ble_eq_true rfl) (Nat.le_of_ble_eq_true rfl) (s_11 hI_25 (q := 9) (nt := 1) (of_decide_eq_true rfl) (of_decide_eq_true rfl) (of_decide_eq_true rfl) (fun c_29 hI_30 hF_31 => (bk_inl (v_iinc (v := v2 + 1) c_34_79 rfl (Nat.le_of_ble_eq_true rfl) rfl (q_goto (t := 6) c_34_82 rfl (Wp_ls [(0, .ref A), (1, .ref 1), (2, vi (v2 + 1))] (lsub_cons rfl (lsub_cons rfl (lsub_cons rfl lsub_nil))) ?_)))))))))
            exact ih c_29 (v2 + 1) hI_30 (fun a j hm => (hF_31 a j (qv_69188b0c2 hm)).trans ((hF_26 a j (qv_b1bc9762f hm)).trans ((hF_15 a j (qv_69188b0c2 hm)).trans ((hF_9 a j (fun h => hm (Or.inl h))).trans ((hF_4 a j (fun h => hm (Or.inl h))).trans (hF a j hm)))))) ⟨(rgp_l hv2.1 (of_decide_eq_true rfl)), (q_d44226a64 h_1)⟩ (by omega)
          · refine v_ic_eq_f (t := 53) c_34_41 rfl ⟨h_23, ⟨(lel hv2.1 rfl), (ler hv2.2 rfl)⟩, of_decide_eq_true rfl, of_decide_eq_true rfl⟩ (q_aload_n c_34_44 rfl (q_iload c_34_45 rfl (v_cv c_34_47 km_2_60 rfl (ck_p0 hA) (a68z hA) ⟨⟨rfl, rfl⟩, of_decide_eq_true rfl, rfl⟩ (Nat.le_of_ble_eq_true rfl) (Nat.le_of_ble_eq_true rfl) (q_iload_n c_31_0 rfl ?_))))
            by_cases h_32 : y_16 = 0
            · skip
              refine v_tsw_i (t := 28) 0 c_31_1 (by omega) (of_decide_eq_true rfl) rfl (of_decide_eq_true rfl) (q_aload_n c_31_28 rfl ?_)
              have h_33 := ir_p0_0 hI2 hA
              have kn_34 : Hid (c_2 A 0 = c2 A 0) := hF_4 A 0 (fun h => absurd h.1 (np0 hA rfl))
              have kn_35 : Hid (c_7 A 0 = c2 A 0) := (hF_9 A 0 (fun h => absurd h.1 (np0 hA rfl))).trans (hid kn_34)
              have kn_36 : Hid (c_13 A 0 = c2 A 0) := (hF_15 A 0 (qn_014d425e1 hA)).trans (hid kn_35)
              refine v_gi (z := 0) (v := c2 A 0) c_31_29 kf_2_81 (ck_p0 hA) (a68z hA) rfl rfl (hid kn_36) (v_bip c_31_32 (of_decide_eq_true rfl) ?_)
              by_cases h_37 : c2 A 0 ≠ 6
              · refine v_ic_ne_t (t := 41) c_31_34 rfl ⟨h_37, ⟨(q_730ab5169 h_33), (q_b289b7db2 h_33)⟩, of_decide_eq_true rfl, of_decide_eq_true rfl⟩ (q_iconst c_31_41 (v_zret c_31_42 rfl (of_decide_eq_true rfl) (bk_inl (v_if_eq_t (t := 59) c_34_50 rfl (of_decide_eq_true rfl) (q_aload_n c_34_59 rfl (v_cv c_34_60 km_2_68 rfl rfl (Nat.le_of_ble_eq_true rfl) ⟨⟨rfl, rfl⟩, Nat.le_of_ble_eq_true rfl, rfl⟩ (Nat.le_of_ble_eq_true rfl) (Nat.le_of_ble_eq_true rfl) (q_aload_n c_2_0 rfl ?_)))))))
                refine v_gi (z := 4) (v := c_13 1 4) c_2_1 kf_5_38 rfl (Nat.le_of_ble_eq_true rfl) rfl rfl rfl ?_
                by_cases h_38 : c_13 1 4 ≠ 0
                · refine v_if_ne_t (t := 11) c_2_4 rfl ⟨h_38, ⟨(lel h_18.1 rfl), (ler h_18.2 rfl)⟩, of_decide_eq_true rfl, of_decide_eq_true rfl⟩ (q_iconst c_2_11 (v_zret c_2_12 rfl (of_decide_eq_true rfl) (bk_inl (v_if_eq_t (t := 73) c_34_63 rfl (of_decide_eq_true rfl) (q_aload_n c_34_73 rfl (q_ldc_s c_34_74 rfl rfl (of_decide_eq_true rfl) (v_cv c_34_76 km_2_77 rfl rfl (Nat.le_of_ble_eq_true rfl) ⟨⟨rfl, rfl⟩, Nat.le_of_ble_eq_true rfl, rfl⟩ (Nat.le_of_ble_eq_true rfl) (Nat.le_of_ble_eq_true rfl) (s_11 hI_14 (q := 9) (nt := 1) (of_decide_eq_true rfl) (of_decide_eq_true rfl) (of_decide_eq_true rfl) (fun c_39 hI_40 hF_41 => ?_)))))))))
                  refine bk_inl (v_iinc (v := v2 + 1) c_34_79 rfl (Nat.le_of_ble_eq_true rfl) rfl (q_goto (t := 6) c_34_82 rfl (Wp_ls [(0, .ref A), (1, .ref 1), (2, vi (v2 + 1))] (lsub_cons rfl (lsub_cons rfl (lsub_cons rfl lsub_nil))) ?_)))
                  exact ih c_39 (v2 + 1) hI_40 (fun a j hm => (hF_41 a j (qv_69188b0c2 hm)).trans ((hF_15 a j (qv_69188b0c2 hm)).trans ((hF_9 a j (fun h => hm (Or.inl h))).trans ((hF_4 a j (fun h => hm (Or.inl h))).trans (hF a j hm))))) ⟨(rgp_l hv2.1 (of_decide_eq_true rfl)), (q_d44226a64 h_1)⟩ (by omega)
                · refine v_if_ne_f (t := 11) c_2_4 rfl (Decidable.not_not.mp h_38) (q_iconst c_2_7 (q_goto (t := 12) c_2_8 rfl (v_zret c_2_12 rfl (of_decide_eq_true rfl) (bk_inl (v_if_eq_f (t := 73) c_34_63 rfl (of_decide_eq_true rfl) (q_aload_n c_34_66 rfl (q_aload_n c_34_67 rfl ?_)))))))
                  refine q_iload c_34_68 rfl ?_
                  have h_42 : c_13 A 0 = c2 A 0 := (hid kn_36)
                  have h_43 := ir_p0_1 hI2 hA
                  have kn_44 : Hid (c_2 A 1 = c2 A 1) := hF_4 A 1 (fun h => absurd h.1 (np0 hA rfl))
                  have kn_45 : Hid (c_7 A 1 = c2 A 1) := (hF_9 A 1 (fun h => absurd h.1 (np0 hA rfl))).trans (hid kn_44)
                  have kn_46 : Hid (c_13 A 1 = c2 A 1) := (hF_15 A 1 (qn_014d425e1 hA)).trans (hid kn_45)
                  have h_47 : c_13 A 1 = c2 A 1 := (hid kn_46)
                  have h_48 := ir_p0_2 hI2 hA
                  have kn_49 : Hid (c_2 A 2 = c2 A 2) := hF_4 A 2 (fun h => absurd h.1 (np0 hA rfl))
                  have kn_50 : Hid (c_7 A 2 = c2 A 2) := (hF_9 A 2 (fun h => absurd h.1 (np0 hA rfl))).trans (hid kn_49)
                  have kn_51 : Hid (c_13 A 2 = c2 A 2) := (hF_15 A 2 (qn_014d425e1 hA)).trans (hid kn_50)
                  have h_52 : c_13 A 2 = c2 A 2 := (hid kn_51)
                  refine v_cv c_34_70 km_2_71 rfl (ck_p0 hA) (a68z hA) ⟨⟨rfl, rfl⟩, of_decide_eq_true rfl, rfl⟩ (Nat.le_of_ble_eq_true rfl) (Nat.le_of_ble_eq_true rfl) (s_33 (a2 := y_16) hI_14 hA (show 0 ≤ y_16 ∧ y_16 ≤ 100 from ⟨(q_7e599b6d7 h_32), hy_16.2⟩) (Or.inr ((q_750ebd296 h_33 h_37))) (Or.inl ((q_7e9ffde01 h_32))) (Or.inl ((q_4d25412af h_32))) (fun c_53 hI_54 hF_55 => (bk_inl (q_aload_n c_34_73 rfl (q_ldc_s c_34_74 rfl rfl (of_decide_eq_true rfl) (v_cv c_34_76 km_2_77 rfl rfl (Nat.le_of_ble_eq_true rfl) ⟨⟨rfl, rfl⟩, Nat.le_of_ble_eq_true rfl, rfl⟩ (Nat.le_of_ble_eq_true rfl) (Nat.le_of_ble_eq_true rfl) (s_11 hI_54 (q := 9) (nt := 1) (of_decide_eq_true rfl) (of_decide_eq_true rfl) (of_decide_eq_true rfl) (fun c_56 hI_57 hF_58 => (bk_inl (v_iinc (v := v2 + 1) c_34_79 rfl (Nat.le_of_ble_eq_true rfl) rfl (q_goto (t := 6) c_34_82 rfl ?_)))))))))))
                  refine Wp_ls [(0, .ref A), (1, .ref 1), (2, vi (v2 + 1))] (lsub_cons rfl (lsub_cons rfl (lsub_cons rfl lsub_nil))) ?_
                  exact ih c_56 (v2 + 1) hI_57 (fun a j hm => (hF_58 a j (qv_69188b0c2 hm)).trans ((hF_55 a j (qv_967ad9091 hm)).trans ((hF_15 a j (qv_69188b0c2 hm)).trans ((hF_9 a j (fun h => hm (Or.inl h))).trans ((hF_4 a j (fun h => hm (Or.inl h))).trans (hF a j hm)))))) ⟨(rgp_l hv2.1 (of_decide_eq_true rfl)), (q_d44226a64 h_1)⟩ (by omega)
              · refine v_ic_ne_f (t := 41) c_31_34 rfl (Decidable.not_not.mp h_37) (q_iconst c_31_37 (q_goto (t := 42) c_31_38 rfl (v_zret c_31_42 rfl (of_decide_eq_true rfl) (bk_inl (v_if_eq_f (t := 59) c_34_50 rfl (of_decide_eq_true rfl) (q_aload_n c_34_53 rfl (q_iconst c_34_54 ?_)))))))
                refine q_iload_n c_34_55 rfl (v_cv c_34_56 km_2_64 rfl rfl (Nat.le_of_ble_eq_true rfl) ⟨⟨rfl, rfl⟩, Nat.le_of_ble_eq_true rfl, rfl⟩ (Nat.le_of_ble_eq_true rfl) (Nat.le_of_ble_eq_true rfl) (s_7 (a1 := 3) (a2 := y_10) hI_14 (show 1 ≤ 3 ∧ 3 ≤ 3 from ⟨of_decide_eq_true rfl, of_decide_eq_true rfl⟩) (show 0 ≤ y_10 ∧ y_10 ≤ 600 from hy_10) (fun c_59 hI_60 hF_61 h_62 => (bk_inl ?_))))
                have h_63 := ir_1_4 hI_60
                refine q_aload_n c_34_59 rfl (v_cv c_34_60 km_2_68 rfl rfl (Nat.le_of_ble_eq_true rfl) ⟨⟨rfl, rfl⟩, Nat.le_of_ble_eq_true rfl, rfl⟩ (Nat.le_of_ble_eq_true rfl) (Nat.le_of_ble_eq_true rfl) (q_aload_n c_2_0 rfl (v_gi (z := 4) (v := c_59 1 4) c_2_1 kf_5_38 rfl (Nat.le_of_ble_eq_true rfl) rfl rfl rfl (v_if_ne_t (t := 11) c_2_4 rfl ⟨(q_88eaa90e3 h_62 h_63), ⟨(lel h_63.1 rfl), (ler h_63.2 rfl)⟩, of_decide_eq_true rfl, of_decide_eq_true rfl⟩ (q_iconst c_2_11 (v_zret c_2_12 rfl (of_decide_eq_true rfl) (bk_inl ?_)))))))
                refine v_if_eq_t (t := 73) c_34_63 rfl (of_decide_eq_true rfl) (q_aload_n c_34_73 rfl (q_ldc_s c_34_74 rfl rfl (of_decide_eq_true rfl) (v_cv c_34_76 km_2_77 rfl rfl (Nat.le_of_ble_eq_true rfl) ⟨⟨rfl, rfl⟩, Nat.le_of_ble_eq_true rfl, rfl⟩ (Nat.le_of_ble_eq_true rfl) (Nat.le_of_ble_eq_true rfl) (s_11 hI_60 (q := 9) (nt := 1) (of_decide_eq_true rfl) (of_decide_eq_true rfl) (of_decide_eq_true rfl) (fun c_64 hI_65 hF_66 => (bk_inl (v_iinc (v := v2 + 1) c_34_79 rfl (Nat.le_of_ble_eq_true rfl) rfl (q_goto (t := 6) c_34_82 rfl (Wp_ls [(0, .ref A), (1, .ref 1), (2, vi (v2 + 1))] (lsub_cons rfl (lsub_cons rfl (lsub_cons rfl lsub_nil))) ?_)))))))))
                exact ih c_64 (v2 + 1) hI_65 (fun a j hm => (hF_66 a j (qv_69188b0c2 hm)).trans ((hF_61 a j (qv_b1bc9762f hm)).trans ((hF_15 a j (qv_69188b0c2 hm)).trans ((hF_9 a j (fun h => hm (Or.inl h))).trans ((hF_4 a j (fun h => hm (Or.inl h))).trans (hF a j hm)))))) ⟨(rgp_l hv2.1 (of_decide_eq_true rfl)), (q_d44226a64 h_1)⟩ (by omega)
            by_cases h_67 : y_16 = 1
            · skip
              refine v_tsw_i (t := 43) 1 rfl (by omega) (of_decide_eq_true rfl) rfl (of_decide_eq_true rfl) (q_aload_n c_31_43 rfl ?_)
              have h_68 := ir_p0_1 hI2 hA
              have kn_69 : Hid (c_2 A 1 = c2 A 1) := hF_4 A 1 (fun h => absurd h.1 (np0 hA rfl))
              have kn_70 : Hid (c_7 A 1 = c2 A 1) := (hF_9 A 1 (fun h => absurd h.1 (np0 hA rfl))).trans (hid kn_69)
              have kn_71 : Hid (c_13 A 1 = c2 A 1) := (hF_15 A 1 (qn_014d425e1 hA)).trans (hid kn_70)
              refine v_gi (z := 1) (v := c2 A 1) c_31_44 kf_2_84 (ck_p0 hA) (a68z hA) rfl rfl (hid kn_71) (q_iconst c_31_47 ?_)
              by_cases h_72 : c2 A 1 ≠ 4
              · refine v_ic_ne_t (t := 55) c_31_48 rfl ⟨h_72, ⟨(q_0bfe68f8e h_68), (q_82d4f69ff h_68)⟩, of_decide_eq_true rfl, of_decide_eq_true rfl⟩ (q_iconst c_31_55 (v_zret c_31_56 rfl (of_decide_eq_true rfl) (bk_inl (v_if_eq_t (t := 59) c_34_50 rfl (of_decide_eq_true rfl) (q_aload_n c_34_59 rfl (v_cv c_34_60 km_2_68 rfl rfl (Nat.le_of_ble_eq_true rfl) ⟨⟨rfl, rfl⟩, Nat.le_of_ble_eq_true rfl, rfl⟩ (Nat.le_of_ble_eq_true rfl) (Nat.le_of_ble_eq_true rfl) (q_aload_n c_2_0 rfl ?_)))))))
                refine v_gi (z := 4) (v := c_13 1 4) c_2_1 kf_5_38 rfl (Nat.le_of_ble_eq_true rfl) rfl rfl rfl ?_
                by_cases h_73 : c_13 1 4 ≠ 0
                · refine v_if_ne_t (t := 11) c_2_4 rfl ⟨h_73, ⟨(lel h_18.1 rfl), (ler h_18.2 rfl)⟩, of_decide_eq_true rfl, of_decide_eq_true rfl⟩ (q_iconst c_2_11 (v_zret c_2_12 rfl (of_decide_eq_true rfl) (bk_inl (v_if_eq_t (t := 73) c_34_63 rfl (of_decide_eq_true rfl) (q_aload_n c_34_73 rfl (q_ldc_s c_34_74 rfl rfl (of_decide_eq_true rfl) (v_cv c_34_76 km_2_77 rfl rfl (Nat.le_of_ble_eq_true rfl) ⟨⟨rfl, rfl⟩, Nat.le_of_ble_eq_true rfl, rfl⟩ (Nat.le_of_ble_eq_true rfl) (Nat.le_of_ble_eq_true rfl) (s_11 hI_14 (q := 9) (nt := 1) (of_decide_eq_true rfl) (of_decide_eq_true rfl) (of_decide_eq_true rfl) (fun c_74 hI_75 hF_76 => ?_)))))))))
                  refine bk_inl (v_iinc (v := v2 + 1) c_34_79 rfl (Nat.le_of_ble_eq_true rfl) rfl (q_goto (t := 6) c_34_82 rfl (Wp_ls [(0, .ref A), (1, .ref 1), (2, vi (v2 + 1))] (lsub_cons rfl (lsub_cons rfl (lsub_cons rfl lsub_nil))) ?_)))
                  exact ih c_74 (v2 + 1) hI_75 (fun a j hm => (hF_76 a j (qv_69188b0c2 hm)).trans ((hF_15 a j (qv_69188b0c2 hm)).trans ((hF_9 a j (fun h => hm (Or.inl h))).trans ((hF_4 a j (fun h => hm (Or.inl h))).trans (hF a j hm))))) ⟨(rgp_l hv2.1 (of_decide_eq_true rfl)), (q_d44226a64 h_1)⟩ (by omega)
                · refine v_if_ne_f (t := 11) c_2_4 rfl (Decidable.not_not.mp h_73) (q_iconst c_2_7 (q_goto (t := 12) c_2_8 rfl (v_zret c_2_12 rfl (of_decide_eq_true rfl) (bk_inl (v_if_eq_f (t := 73) c_34_63 rfl (of_decide_eq_true rfl) (q_aload_n c_34_66 rfl (q_aload_n c_34_67 rfl ?_)))))))
                  refine q_iload c_34_68 rfl ?_
                  have h_77 := ir_p0_0 hI2 hA
                  have kn_78 : Hid (c_2 A 0 = c2 A 0) := hF_4 A 0 (fun h => absurd h.1 (np0 hA rfl))
                  have kn_79 : Hid (c_7 A 0 = c2 A 0) := (hF_9 A 0 (fun h => absurd h.1 (np0 hA rfl))).trans (hid kn_78)
                  have kn_80 : Hid (c_13 A 0 = c2 A 0) := (hF_15 A 0 (qn_014d425e1 hA)).trans (hid kn_79)
                  have h_81 : c_13 A 0 = c2 A 0 := (hid kn_80)
                  have h_82 : c_13 A 1 = c2 A 1 := (hid kn_71)
                  have h_83 := ir_p0_2 hI2 hA
                  have kn_84 : Hid (c_2 A 2 = c2 A 2) := hF_4 A 2 (fun h => absurd h.1 (np0 hA rfl))
                  have kn_85 : Hid (c_7 A 2 = c2 A 2) := (hF_9 A 2 (fun h => absurd h.1 (np0 hA rfl))).trans (hid kn_84)
                  have kn_86 : Hid (c_13 A 2 = c2 A 2) := (hF_15 A 2 (qn_014d425e1 hA)).trans (hid kn_85)
                  have h_87 : c_13 A 2 = c2 A 2 := (hid kn_86)
                  refine v_cv c_34_70 km_2_71 rfl (ck_p0 hA) (a68z hA) ⟨⟨rfl, rfl⟩, of_decide_eq_true rfl, rfl⟩ (Nat.le_of_ble_eq_true rfl) (Nat.le_of_ble_eq_true rfl) (s_33 (a2 := y_16) hI_14 hA (show 0 ≤ y_16 ∧ y_16 ≤ 100 from ⟨(q_d72e4aea1 h_67), hy_16.2⟩) (Or.inl ((q_72815ef9e h_67))) (Or.inr ((q_c4bb9308f h_68 h_72))) (Or.inl ((q_4a2fa9e4d h_67))) (fun c_88 hI_89 hF_90 => (bk_inl (q_aload_n c_34_73 rfl (q_ldc_s c_34_74 rfl rfl (of_decide_eq_true rfl) (v_cv c_34_76 km_2_77 rfl rfl (Nat.le_of_ble_eq_true rfl) ⟨⟨rfl, rfl⟩, Nat.le_of_ble_eq_true rfl, rfl⟩ (Nat.le_of_ble_eq_true rfl) (Nat.le_of_ble_eq_true rfl) (s_11 hI_89 (q := 9) (nt := 1) (of_decide_eq_true rfl) (of_decide_eq_true rfl) (of_decide_eq_true rfl) (fun c_91 hI_92 hF_93 => (bk_inl (v_iinc (v := v2 + 1) c_34_79 rfl (Nat.le_of_ble_eq_true rfl) rfl (q_goto (t := 6) c_34_82 rfl ?_)))))))))))
                  refine Wp_ls [(0, .ref A), (1, .ref 1), (2, vi (v2 + 1))] (lsub_cons rfl (lsub_cons rfl (lsub_cons rfl lsub_nil))) ?_
                  exact ih c_91 (v2 + 1) hI_92 (fun a j hm => (hF_93 a j (qv_69188b0c2 hm)).trans ((hF_90 a j (qv_967ad9091 hm)).trans ((hF_15 a j (qv_69188b0c2 hm)).trans ((hF_9 a j (fun h => hm (Or.inl h))).trans ((hF_4 a j (fun h => hm (Or.inl h))).trans (hF a j hm)))))) ⟨(rgp_l hv2.1 (of_decide_eq_true rfl)), (q_d44226a64 h_1)⟩ (by omega)
              · refine v_ic_ne_f (t := 55) c_31_48 rfl (Decidable.not_not.mp h_72) (q_iconst c_31_51 (q_goto (t := 56) c_31_52 rfl (v_zret c_31_56 rfl (of_decide_eq_true rfl) (bk_inl (v_if_eq_f (t := 59) c_34_50 rfl (of_decide_eq_true rfl) (q_aload_n c_34_53 rfl (q_iconst c_34_54 ?_)))))))
                refine q_iload_n c_34_55 rfl (v_cv c_34_56 km_2_64 rfl rfl (Nat.le_of_ble_eq_true rfl) ⟨⟨rfl, rfl⟩, Nat.le_of_ble_eq_true rfl, rfl⟩ (Nat.le_of_ble_eq_true rfl) (Nat.le_of_ble_eq_true rfl) (s_7 (a1 := 3) (a2 := y_10) hI_14 (show 1 ≤ 3 ∧ 3 ≤ 3 from ⟨of_decide_eq_true rfl, of_decide_eq_true rfl⟩) (show 0 ≤ y_10 ∧ y_10 ≤ 600 from hy_10) (fun c_94 hI_95 hF_96 h_97 => (bk_inl ?_))))
                have h_98 := ir_1_4 hI_95
                refine q_aload_n c_34_59 rfl (v_cv c_34_60 km_2_68 rfl rfl (Nat.le_of_ble_eq_true rfl) ⟨⟨rfl, rfl⟩, Nat.le_of_ble_eq_true rfl, rfl⟩ (Nat.le_of_ble_eq_true rfl) (Nat.le_of_ble_eq_true rfl) (q_aload_n c_2_0 rfl (v_gi (z := 4) (v := c_94 1 4) c_2_1 kf_5_38 rfl (Nat.le_of_ble_eq_true rfl) rfl rfl rfl (v_if_ne_t (t := 11) c_2_4 rfl ⟨(q_88eaa90e3 h_97 h_98), ⟨(lel h_98.1 rfl), (ler h_98.2 rfl)⟩, of_decide_eq_true rfl, of_decide_eq_true rfl⟩ (q_iconst c_2_11 (v_zret c_2_12 rfl (of_decide_eq_true rfl) (bk_inl ?_)))))))
                refine v_if_eq_t (t := 73) c_34_63 rfl (of_decide_eq_true rfl) (q_aload_n c_34_73 rfl (q_ldc_s c_34_74 rfl rfl (of_decide_eq_true rfl) (v_cv c_34_76 km_2_77 rfl rfl (Nat.le_of_ble_eq_true rfl) ⟨⟨rfl, rfl⟩, Nat.le_of_ble_eq_true rfl, rfl⟩ (Nat.le_of_ble_eq_true rfl) (Nat.le_of_ble_eq_true rfl) (s_11 hI_95 (q := 9) (nt := 1) (of_decide_eq_true rfl) (of_decide_eq_true rfl) (of_decide_eq_true rfl) (fun c_99 hI_100 hF_101 => (bk_inl (v_iinc (v := v2 + 1) c_34_79 rfl (Nat.le_of_ble_eq_true rfl) rfl (q_goto (t := 6) c_34_82 rfl (Wp_ls [(0, .ref A), (1, .ref 1), (2, vi (v2 + 1))] (lsub_cons rfl (lsub_cons rfl (lsub_cons rfl lsub_nil))) ?_)))))))))
                exact ih c_99 (v2 + 1) hI_100 (fun a j hm => (hF_101 a j (qv_69188b0c2 hm)).trans ((hF_96 a j (qv_b1bc9762f hm)).trans ((hF_15 a j (qv_69188b0c2 hm)).trans ((hF_9 a j (fun h => hm (Or.inl h))).trans ((hF_4 a j (fun h => hm (Or.inl h))).trans (hF a j hm)))))) ⟨(rgp_l hv2.1 (of_decide_eq_true rfl)), (q_d44226a64 h_1)⟩ (by omega)
            by_cases h_102 : y_16 = 2
            · skip
              refine v_tsw_i (t := 57) 2 rfl (by omega) (of_decide_eq_true rfl) rfl (of_decide_eq_true rfl) (q_aload_n c_31_57 rfl ?_)
              have h_103 := ir_p0_2 hI2 hA
              have kn_104 : Hid (c_2 A 2 = c2 A 2) := hF_4 A 2 (fun h => absurd h.1 (np0 hA rfl))
              have kn_105 : Hid (c_7 A 2 = c2 A 2) := (hF_9 A 2 (fun h => absurd h.1 (np0 hA rfl))).trans (hid kn_104)
              have kn_106 : Hid (c_13 A 2 = c2 A 2) := (hF_15 A 2 (qn_014d425e1 hA)).trans (hid kn_105)
              refine v_gi (z := 2) (v := c2 A 2) c_31_58 kf_2_87 (ck_p0 hA) (a68z hA) rfl rfl (hid kn_106) (q_iconst c_31_61 ?_)
              by_cases h_107 : c2 A 2 ≠ 4
              · refine v_ic_ne_t (t := 69) c_31_62 rfl ⟨h_107, ⟨(q_0bfe68f8e h_103), (q_82d4f69ff h_103)⟩, of_decide_eq_true rfl, of_decide_eq_true rfl⟩ (q_iconst c_31_69 (v_zret c_31_70 rfl (of_decide_eq_true rfl) (bk_inl (v_if_eq_t (t := 59) c_34_50 rfl (of_decide_eq_true rfl) (q_aload_n c_34_59 rfl (v_cv c_34_60 km_2_68 rfl rfl (Nat.le_of_ble_eq_true rfl) ⟨⟨rfl, rfl⟩, Nat.le_of_ble_eq_true rfl, rfl⟩ (Nat.le_of_ble_eq_true rfl) (Nat.le_of_ble_eq_true rfl) (q_aload_n c_2_0 rfl ?_)))))))
                refine v_gi (z := 4) (v := c_13 1 4) c_2_1 kf_5_38 rfl (Nat.le_of_ble_eq_true rfl) rfl rfl rfl ?_
                by_cases h_108 : c_13 1 4 ≠ 0
                · refine v_if_ne_t (t := 11) c_2_4 rfl ⟨h_108, ⟨(lel h_18.1 rfl), (ler h_18.2 rfl)⟩, of_decide_eq_true rfl, of_decide_eq_true rfl⟩ (q_iconst c_2_11 (v_zret c_2_12 rfl (of_decide_eq_true rfl) (bk_inl (v_if_eq_t (t := 73) c_34_63 rfl (of_decide_eq_true rfl) (q_aload_n c_34_73 rfl (q_ldc_s c_34_74 rfl rfl (of_decide_eq_true rfl) (v_cv c_34_76 km_2_77 rfl rfl (Nat.le_of_ble_eq_true rfl) ⟨⟨rfl, rfl⟩, Nat.le_of_ble_eq_true rfl, rfl⟩ (Nat.le_of_ble_eq_true rfl) (Nat.le_of_ble_eq_true rfl) (s_11 hI_14 (q := 9) (nt := 1) (of_decide_eq_true rfl) (of_decide_eq_true rfl) (of_decide_eq_true rfl) (fun c_109 hI_110 hF_111 => ?_)))))))))
                  refine bk_inl (v_iinc (v := v2 + 1) c_34_79 rfl (Nat.le_of_ble_eq_true rfl) rfl (q_goto (t := 6) c_34_82 rfl (Wp_ls [(0, .ref A), (1, .ref 1), (2, vi (v2 + 1))] (lsub_cons rfl (lsub_cons rfl (lsub_cons rfl lsub_nil))) ?_)))
                  exact ih c_109 (v2 + 1) hI_110 (fun a j hm => (hF_111 a j (qv_69188b0c2 hm)).trans ((hF_15 a j (qv_69188b0c2 hm)).trans ((hF_9 a j (fun h => hm (Or.inl h))).trans ((hF_4 a j (fun h => hm (Or.inl h))).trans (hF a j hm))))) ⟨(rgp_l hv2.1 (of_decide_eq_true rfl)), (q_d44226a64 h_1)⟩ (by omega)
                · refine v_if_ne_f (t := 11) c_2_4 rfl (Decidable.not_not.mp h_108) (q_iconst c_2_7 (q_goto (t := 12) c_2_8 rfl (v_zret c_2_12 rfl (of_decide_eq_true rfl) (bk_inl (v_if_eq_f (t := 73) c_34_63 rfl (of_decide_eq_true rfl) (q_aload_n c_34_66 rfl (q_aload_n c_34_67 rfl ?_)))))))
                  refine q_iload c_34_68 rfl ?_
                  have h_112 := ir_p0_0 hI2 hA
                  have kn_113 : Hid (c_2 A 0 = c2 A 0) := hF_4 A 0 (fun h => absurd h.1 (np0 hA rfl))
                  have kn_114 : Hid (c_7 A 0 = c2 A 0) := (hF_9 A 0 (fun h => absurd h.1 (np0 hA rfl))).trans (hid kn_113)
                  have kn_115 : Hid (c_13 A 0 = c2 A 0) := (hF_15 A 0 (qn_014d425e1 hA)).trans (hid kn_114)
                  have h_116 : c_13 A 0 = c2 A 0 := (hid kn_115)
                  have h_117 := ir_p0_1 hI2 hA
                  have kn_118 : Hid (c_2 A 1 = c2 A 1) := hF_4 A 1 (fun h => absurd h.1 (np0 hA rfl))
                  have kn_119 : Hid (c_7 A 1 = c2 A 1) := (hF_9 A 1 (fun h => absurd h.1 (np0 hA rfl))).trans (hid kn_118)
                  have kn_120 : Hid (c_13 A 1 = c2 A 1) := (hF_15 A 1 (qn_014d425e1 hA)).trans (hid kn_119)
                  have h_121 : c_13 A 1 = c2 A 1 := (hid kn_120)
                  have h_122 : c_13 A 2 = c2 A 2 := (hid kn_106)
                  refine v_cv c_34_70 km_2_71 rfl (ck_p0 hA) (a68z hA) ⟨⟨rfl, rfl⟩, of_decide_eq_true rfl, rfl⟩ (Nat.le_of_ble_eq_true rfl) (Nat.le_of_ble_eq_true rfl) (s_33 (a2 := y_16) hI_14 hA (show 0 ≤ y_16 ∧ y_16 ≤ 100 from ⟨(q_c53b4a9c0 h_102), hy_16.2⟩) (Or.inl ((q_4b21d0ff9 h_102))) (Or.inl ((q_70ecf1be4 h_102))) (Or.inr ((q_c4bb9308f h_103 h_107))) (fun c_123 hI_124 hF_125 => (bk_inl (q_aload_n c_34_73 rfl (q_ldc_s c_34_74 rfl rfl (of_decide_eq_true rfl) (v_cv c_34_76 km_2_77 rfl rfl (Nat.le_of_ble_eq_true rfl) ⟨⟨rfl, rfl⟩, Nat.le_of_ble_eq_true rfl, rfl⟩ (Nat.le_of_ble_eq_true rfl) (Nat.le_of_ble_eq_true rfl) (s_11 hI_124 (q := 9) (nt := 1) (of_decide_eq_true rfl) (of_decide_eq_true rfl) (of_decide_eq_true rfl) (fun c_126 hI_127 hF_128 => (bk_inl (v_iinc (v := v2 + 1) c_34_79 rfl (Nat.le_of_ble_eq_true rfl) rfl (q_goto (t := 6) c_34_82 rfl ?_)))))))))))
                  refine Wp_ls [(0, .ref A), (1, .ref 1), (2, vi (v2 + 1))] (lsub_cons rfl (lsub_cons rfl (lsub_cons rfl lsub_nil))) ?_
                  exact ih c_126 (v2 + 1) hI_127 (fun a j hm => (hF_128 a j (qv_69188b0c2 hm)).trans ((hF_125 a j (qv_967ad9091 hm)).trans ((hF_15 a j (qv_69188b0c2 hm)).trans ((hF_9 a j (fun h => hm (Or.inl h))).trans ((hF_4 a j (fun h => hm (Or.inl h))).trans (hF a j hm)))))) ⟨(rgp_l hv2.1 (of_decide_eq_true rfl)), (q_d44226a64 h_1)⟩ (by omega)
              · refine v_ic_ne_f (t := 69) c_31_62 rfl (Decidable.not_not.mp h_107) (q_iconst c_31_65 (q_goto (t := 70) c_31_66 rfl (v_zret c_31_70 rfl (of_decide_eq_true rfl) (bk_inl (v_if_eq_f (t := 59) c_34_50 rfl (of_decide_eq_true rfl) (q_aload_n c_34_53 rfl (q_iconst c_34_54 ?_)))))))
                refine q_iload_n c_34_55 rfl (v_cv c_34_56 km_2_64 rfl rfl (Nat.le_of_ble_eq_true rfl) ⟨⟨rfl, rfl⟩, Nat.le_of_ble_eq_true rfl, rfl⟩ (Nat.le_of_ble_eq_true rfl) (Nat.le_of_ble_eq_true rfl) (s_7 (a1 := 3) (a2 := y_10) hI_14 (show 1 ≤ 3 ∧ 3 ≤ 3 from ⟨of_decide_eq_true rfl, of_decide_eq_true rfl⟩) (show 0 ≤ y_10 ∧ y_10 ≤ 600 from hy_10) (fun c_129 hI_130 hF_131 h_132 => (bk_inl ?_))))
                have h_133 := ir_1_4 hI_130
                refine q_aload_n c_34_59 rfl (v_cv c_34_60 km_2_68 rfl rfl (Nat.le_of_ble_eq_true rfl) ⟨⟨rfl, rfl⟩, Nat.le_of_ble_eq_true rfl, rfl⟩ (Nat.le_of_ble_eq_true rfl) (Nat.le_of_ble_eq_true rfl) (q_aload_n c_2_0 rfl (v_gi (z := 4) (v := c_129 1 4) c_2_1 kf_5_38 rfl (Nat.le_of_ble_eq_true rfl) rfl rfl rfl (v_if_ne_t (t := 11) c_2_4 rfl ⟨(q_88eaa90e3 h_132 h_133), ⟨(lel h_133.1 rfl), (ler h_133.2 rfl)⟩, of_decide_eq_true rfl, of_decide_eq_true rfl⟩ (q_iconst c_2_11 (v_zret c_2_12 rfl (of_decide_eq_true rfl) (bk_inl ?_)))))))
                refine v_if_eq_t (t := 73) c_34_63 rfl (of_decide_eq_true rfl) (q_aload_n c_34_73 rfl (q_ldc_s c_34_74 rfl rfl (of_decide_eq_true rfl) (v_cv c_34_76 km_2_77 rfl rfl (Nat.le_of_ble_eq_true rfl) ⟨⟨rfl, rfl⟩, Nat.le_of_ble_eq_true rfl, rfl⟩ (Nat.le_of_ble_eq_true rfl) (Nat.le_of_ble_eq_true rfl) (s_11 hI_130 (q := 9) (nt := 1) (of_decide_eq_true rfl) (of_decide_eq_true rfl) (of_decide_eq_true rfl) (fun c_134 hI_135 hF_136 => (bk_inl (v_iinc (v := v2 + 1) c_34_79 rfl (Nat.le_of_ble_eq_true rfl) rfl (q_goto (t := 6) c_34_82 rfl (Wp_ls [(0, .ref A), (1, .ref 1), (2, vi (v2 + 1))] (lsub_cons rfl (lsub_cons rfl (lsub_cons rfl lsub_nil))) ?_)))))))))
                exact ih c_134 (v2 + 1) hI_135 (fun a j hm => (hF_136 a j (qv_69188b0c2 hm)).trans ((hF_131 a j (qv_b1bc9762f hm)).trans ((hF_15 a j (qv_69188b0c2 hm)).trans ((hF_9 a j (fun h => hm (Or.inl h))).trans ((hF_4 a j (fun h => hm (Or.inl h))).trans (hF a j hm)))))) ⟨(rgp_l hv2.1 (of_decide_eq_true rfl)), (q_d44226a64 h_1)⟩ (by omega)
            refine v_tsw_o (t := 71) rfl (by omega) (of_decide_eq_true rfl) (q_iconst c_31_71 (v_zret c_31_72 rfl (of_decide_eq_true rfl) (bk_inl (v_if_eq_t (t := 59) c_34_50 rfl (of_decide_eq_true rfl) (q_aload_n c_34_59 rfl (v_cv c_34_60 km_2_68 rfl rfl (Nat.le_of_ble_eq_true rfl) ⟨⟨rfl, rfl⟩, Nat.le_of_ble_eq_true rfl, rfl⟩ (Nat.le_of_ble_eq_true rfl) (Nat.le_of_ble_eq_true rfl) (q_aload_n c_2_0 rfl ?_)))))))
            refine v_gi (z := 4) (v := c_13 1 4) c_2_1 kf_5_38 rfl (Nat.le_of_ble_eq_true rfl) rfl rfl rfl ?_
            by_cases h_137 : c_13 1 4 ≠ 0
            · refine v_if_ne_t (t := 11) c_2_4 rfl ⟨h_137, ⟨(lel h_18.1 rfl), (ler h_18.2 rfl)⟩, of_decide_eq_true rfl, of_decide_eq_true rfl⟩ (q_iconst c_2_11 (v_zret c_2_12 rfl (of_decide_eq_true rfl) (bk_inl (v_if_eq_t (t := 73) c_34_63 rfl (of_decide_eq_true rfl) (q_aload_n c_34_73 rfl (q_ldc_s c_34_74 rfl rfl (of_decide_eq_true rfl) (v_cv c_34_76 km_2_77 rfl rfl (Nat.le_of_ble_eq_true rfl) ⟨⟨rfl, rfl⟩, Nat.le_of_ble_eq_true rfl, rfl⟩ (Nat.le_of_ble_eq_true rfl) (Nat.le_of_ble_eq_true rfl) (s_11 hI_14 (q := 9) (nt := 1) (of_decide_eq_true rfl) (of_decide_eq_true rfl) (of_decide_eq_true rfl) (fun c_138 hI_139 hF_140 => ?_)))))))))
              refine bk_inl (v_iinc (v := v2 + 1) c_34_79 rfl (Nat.le_of_ble_eq_true rfl) rfl (q_goto (t := 6) c_34_82 rfl (Wp_ls [(0, .ref A), (1, .ref 1), (2, vi (v2 + 1))] (lsub_cons rfl (lsub_cons rfl (lsub_cons rfl lsub_nil))) ?_)))
              exact ih c_138 (v2 + 1) hI_139 (fun a j hm => (hF_140 a j (qv_69188b0c2 hm)).trans ((hF_15 a j (qv_69188b0c2 hm)).trans ((hF_9 a j (fun h => hm (Or.inl h))).trans ((hF_4 a j (fun h => hm (Or.inl h))).trans (hF a j hm))))) ⟨(rgp_l hv2.1 (of_decide_eq_true rfl)), (q_d44226a64 h_1)⟩ (by omega)
            · refine v_if_ne_f (t := 11) c_2_4 rfl (Decidable.not_not.mp h_137) (q_iconst c_2_7 (q_goto (t := 12) c_2_8 rfl (v_zret c_2_12 rfl (of_decide_eq_true rfl) (bk_inl (v_if_eq_f (t := 73) c_34_63 rfl (of_decide_eq_true rfl) (q_aload_n c_34_66 rfl (q_aload_n c_34_67 rfl ?_)))))))
              refine q_iload c_34_68 rfl ?_
              have h_141 := ir_p0_0 hI2 hA
              have kn_142 : Hid (c_2 A 0 = c2 A 0) := hF_4 A 0 (fun h => absurd h.1 (np0 hA rfl))
              have kn_143 : Hid (c_7 A 0 = c2 A 0) := (hF_9 A 0 (fun h => absurd h.1 (np0 hA rfl))).trans (hid kn_142)
              have kn_144 : Hid (c_13 A 0 = c2 A 0) := (hF_15 A 0 (qn_014d425e1 hA)).trans (hid kn_143)
              have h_145 : c_13 A 0 = c2 A 0 := (hid kn_144)
              have h_146 := ir_p0_1 hI2 hA
              have kn_147 : Hid (c_2 A 1 = c2 A 1) := hF_4 A 1 (fun h => absurd h.1 (np0 hA rfl))
              have kn_148 : Hid (c_7 A 1 = c2 A 1) := (hF_9 A 1 (fun h => absurd h.1 (np0 hA rfl))).trans (hid kn_147)
              have kn_149 : Hid (c_13 A 1 = c2 A 1) := (hF_15 A 1 (qn_014d425e1 hA)).trans (hid kn_148)
              have h_150 : c_13 A 1 = c2 A 1 := (hid kn_149)
              have h_151 := ir_p0_2 hI2 hA
              have kn_152 : Hid (c_2 A 2 = c2 A 2) := hF_4 A 2 (fun h => absurd h.1 (np0 hA rfl))
              have kn_153 : Hid (c_7 A 2 = c2 A 2) := (hF_9 A 2 (fun h => absurd h.1 (np0 hA rfl))).trans (hid kn_152)
              have kn_154 : Hid (c_13 A 2 = c2 A 2) := (hF_15 A 2 (qn_014d425e1 hA)).trans (hid kn_153)
              have h_155 : c_13 A 2 = c2 A 2 := (hid kn_154)
              refine v_cv c_34_70 km_2_71 rfl (ck_p0 hA) (a68z hA) ⟨⟨rfl, rfl⟩, of_decide_eq_true rfl, rfl⟩ (Nat.le_of_ble_eq_true rfl) (Nat.le_of_ble_eq_true rfl) (s_33 (a2 := y_16) hI_14 hA (show 0 ≤ y_16 ∧ y_16 ≤ 100 from ⟨(q_b802e0b40 h_137 h_17 h_18), hy_16.2⟩) (Or.inl ((q_93a4df8f1 h_32))) (Or.inl ((q_ea625c1e5 h_67))) (Or.inl ((q_e2e39526d h_102))) (fun c_156 hI_157 hF_158 => (bk_inl (q_aload_n c_34_73 rfl (q_ldc_s c_34_74 rfl rfl (of_decide_eq_true rfl) (v_cv c_34_76 km_2_77 rfl rfl (Nat.le_of_ble_eq_true rfl) ⟨⟨rfl, rfl⟩, Nat.le_of_ble_eq_true rfl, rfl⟩ (Nat.le_of_ble_eq_true rfl) (Nat.le_of_ble_eq_true rfl) (s_11 hI_157 (q := 9) (nt := 1) (of_decide_eq_true rfl) (of_decide_eq_true rfl) (of_decide_eq_true rfl) (fun c_159 hI_160 hF_161 => (bk_inl (v_iinc (v := v2 + 1) c_34_79 rfl (Nat.le_of_ble_eq_true rfl) rfl (q_goto (t := 6) c_34_82 rfl ?_)))))))))))
              refine Wp_ls [(0, .ref A), (1, .ref 1), (2, vi (v2 + 1))] (lsub_cons rfl (lsub_cons rfl (lsub_cons rfl lsub_nil))) ?_
              exact ih c_159 (v2 + 1) hI_160 (fun a j hm => (hF_161 a j (qv_69188b0c2 hm)).trans ((hF_158 a j (qv_967ad9091 hm)).trans ((hF_15 a j (qv_69188b0c2 hm)).trans ((hF_9 a j (fun h => hm (Or.inl h))).trans ((hF_4 a j (fun h => hm (Or.inl h))).trans (hF a j hm)))))) ⟨(rgp_l hv2.1 (of_decide_eq_true rfl)), (q_d44226a64 h_1)⟩ (by omega)
set_option maxRecDepth 100000 in
set_option maxHeartbeats 4000000 in
theorem s_34 {sc : List Int32} {e : Int} {d u P Q A : Nat} {c : ME} {Z : AR → Prop} (hI : Iv u e P Q c) (hA : A = 13 ∨ A = 25) (K : ∀ (c2 : ME), Iv u e P Q c2 → (∀ (a : Nat) (j : Int), ¬ ((a = 1 ∧ j = 2) ∨ (a = 1 ∧ j = 4) ∨ (a = 1 ∧ j = 5) ∨ (a = A ∧ j = 0) ∨ (a = A ∧ j = 1) ∨ (a = A ∧ j = 2) ∨ (a = A ∧ j = 3) ∨ a = (A + 1) ∨ a = (A + 2) ∨ a = (A + 3) ∨ (a = A ∧ j = 4) ∨ (a = A ∧ j = 5) ∨ a = (A + 6) ∨ (a = (A + 7) ∧ j = 4)) → c2 a j = c a j) → Z (.inl (none), Wd P Q P P c2, 0, 0)) : Wp sc (d + 12) 34 0 [(0, .ref A), (1, .ref 1)] [] (Wd P Q P P c) 0 0 Z := by
  have hP := iv_P hI
  have hQ := iv_Q hI
  refine q_aload_n c_34_0 rfl (v_cv c_34_1 km_2_41 rfl (ck_p0 hA) (a68z hA) ⟨⟨rfl, rfl⟩, of_decide_eq_true rfl, rfl⟩ (Nat.le_of_ble_eq_true rfl) (Nat.le_of_ble_eq_true rfl) (s_30 hI hA (fun c_162 hI_163 hF_164 h_165 h_166 => (bk_inl ?_))))
  have h_167 := ir_p0_0 hI_163 hA
  have h_168 := ir_p0_1 hI_163 hA
  have h_169 := ir_p0_2 hI_163 hA
  have h_170 := ir_p0_3 hI_163 hA
  have h_171 := ir_p0_4 hI_163 hA
  have h_172 := ir_p0_5 hI_163 hA
  have h_173 := ir_p7_4 hI_163 hA
  refine q_iconst c_34_4 (q_istore_n c_34_5 (Nat.le_of_ble_eq_true rfl) (Wp_ls [(0, .ref A), (1, .ref 1), (2, vi 0)] (lsub_cons rfl (lsub_cons rfl (lsub_cons rfl lsub_nil))) ?_))
  exact (s_34_l (sc := sc) (d := d) hI hA K 126) c_162 0 hI_163 (fun a j hm => hF_164 a j (qv_ae6779878 hm)) ⟨of_decide_eq_true rfl, of_decide_eq_true rfl⟩ (by omega)

set_option maxRecDepth 100000 in
set_option maxHeartbeats 4000000 in
theorem s_35_l {sc : List Int32} {e : Int} {d u P Q A : Nat} {c : ME} {Z : AR → Prop} (hI : Iv u e P Q c) (hA : A = 13 ∨ A = 25) (K : ∀ (c2 : ME), Iv u e P Q c2 → (∀ (a : Nat) (j : Int), ¬ ((a = 1 ∧ j = 2) ∨ (a = 1 ∧ j = 4) ∨ (a = 1 ∧ j = 5) ∨ (a = A ∧ j = 4) ∨ a = (A + 4) ∨ a = (A + 5)) → c2 a j = c a j) → Z (.inl (none), Wd P Q P P c2, 0, 0)) : ∀ n : Nat, (∀ (c2 : ME) (v2 : Int) (v3 : Int), Iv u e P Q c2 → (∀ (a : Nat) (j : Int), ¬ ((a = 1 ∧ j = 2) ∨ (a = 1 ∧ j = 4) ∨ (a = 1 ∧ j = 5) ∨ (a = A ∧ j = 4) ∨ a = (A + 4) ∨ a = (A + 5)) → c2 a j = c a j) → 0 ≤ v2 ∧ v2 ≤ 8 → 0 ≤ v3 ∧ v3 ≤ 9 → (∀ j : Int, 0 ≤ j → j < v2 → 0 ≤ c2 (A + 5) j ∧ c2 (A + 5) j ≤ 3) → ((v2 = v3) ∨ (v2 = 8 ∧ v3 = 9)) → 19 - 2 * v3 < (n : Int) → Wp sc (d + 10) 35 4 [(0, .ref A), (1, .ref 1), (2, vi v2), (3, vi v3)] [] (Wd P Q P P c2) 0 0 Z) := by
  intro n
  induction n with
  | zero => exact (by intro c2 v2 v3 hI2 hF hv2 hv3 hx0 hx1 hm9; have hP := iv_P hI; have hQ := iv_Q hI; exfalso; omega)
  | succ n ih =>
    have hP := iv_P hI
    have hQ := iv_Q hI
    intro c2 v2 v3 hI2 hF hv2 hv3 hx0 hx1 hm9
    refine q_iload_n c_35_4 rfl (v_bip c_35_5 (of_decide_eq_true rfl) ?_)
    by_cases h_1 : v3 > 8
    · refine v_ic_gt_t (t := 75) c_35_7 rfl ⟨of_decide_eq_true rfl, h_1, (ler hv3.2 rfl)⟩ (q_aload_n c_35_75 rfl (v_cv c_35_76 km_2_68 rfl rfl (Nat.le_of_ble_eq_true rfl) ⟨⟨rfl, rfl⟩, Nat.le_of_ble_eq_true rfl, rfl⟩ (Nat.le_of_ble_eq_true rfl) (Nat.le_of_ble_eq_true rfl) (q_aload_n c_2_0 rfl ?_)))
      have h_2 := ir_1_4 hI2
      refine v_gi (z := 4) (v := c2 1 4) c_2_1 kf_5_38 rfl (Nat.le_of_ble_eq_true rfl) rfl rfl rfl ?_
      by_cases h_3 : c2 1 4 ≠ 0
      · refine v_if_ne_t (t := 11) c_2_4 rfl ⟨h_3, ⟨(lel h_2.1 rfl), (ler h_2.2 rfl)⟩, of_decide_eq_true rfl, of_decide_eq_true rfl⟩ (q_iconst c_2_11 (v_zret c_2_12 rfl (of_decide_eq_true rfl) (bk_inl (v_if_eq_t (t := 102) c_35_79 rfl (of_decide_eq_true rfl) (q_vret rfl rfl ?_)))))
        exact K c2 hI2 (fun a j hm => hF a j hm)
      · refine v_if_ne_f (t := 11) c_2_4 rfl (Decidable.not_not.mp h_3) (q_iconst c_2_7 (q_goto (t := 12) c_2_8 rfl (v_zret c_2_12 rfl (of_decide_eq_true rfl) (bk_inl (v_if_eq_f (t := 102) c_35_79 rfl (of_decide_eq_true rfl) (q_aload_n c_35_82 rfl (v_gr (t := (A + 5)) c_35_83 kf_2_28 (ck_p0 hA) (a68z hA) rfl ?_)))))))
        refine q_iconst c_35_86 (q_aload_n c_35_87 rfl (v_gr (t := (A + 4)) c_35_88 kf_2_25 (ck_p0 hA) (a68z hA) rfl (q_iconst c_35_91 (v_bip c_35_92 (of_decide_eq_true rfl) (v_cpy c_35_94 rfl (ck_p4 hA) (a68 hA rfl) (ck_p5 hA) (a68 hA rfl) rfl rfl (by omega) (Nat.le_of_ble_eq_true rfl) (by omega) (q_aload_n c_35_97 rfl (q_iload_n c_35_98 rfl ?_)))))))
        refine v_pi (z := 4) c_35_99 kf_2_90 (ck_p0 hA) (a68z hA) rfl rfl rfl (of_decide_eq_true rfl) (q_vret rfl rfl ?_)
        have hr_6 : ∀ j : Int, 0 ≤ j → j < v2 → 0 ≤ c2 (A + 5) j ∧ c2 (A + 5) j ≤ 3 := by
          intro j hj1 hj2
          have q9 : c2 (A + 5) j = c2 (A + 5) j := rfl
          rw [q9]
          exact hx0 j hj1 (by omega)
        have hI_5 := iw_stk (v := v2) hI2 hA ⟨by omega, by omega⟩ hr_6
        exact K (up (upc c2 (A + 5) 0 (A + 4) 0 8) A 4 v2) hI_5 (fun a j hm => (up_b (Decidable.or_iff_not_imp_left.mpr (fun h1 h2 => hm (Or.inr (Or.inr (Or.inr (Or.inl ⟨Decidable.not_not.mp h1, h2⟩))))))).trans ((upc_c (fun h => hm (Or.inr (Or.inr (Or.inr (Or.inr (Or.inl h))))))).trans (hF a j hm)))
    · refine v_ic_gt_f (t := 75) c_35_7 rfl ⟨(lel hv3.1 rfl), (Int.not_lt.mp h_1), of_decide_eq_true rfl⟩ (q_aload_n c_35_10 rfl (v_cv c_35_11 km_2_44 rfl rfl (Nat.le_of_ble_eq_true rfl) ⟨⟨rfl, rfl⟩, Nat.le_of_ble_eq_true rfl, rfl⟩ (Nat.le_of_ble_eq_true rfl) (Nat.le_of_ble_eq_true rfl) (s_15 hI2 (fun c_7 y_10 hI_8 hF_9 hy_10 => (bk_inl ?_)))))
      by_cases h_11 : y_10 = 0
      · refine v_if_eq_t (t := 75) c_35_14 rfl h_11 (q_aload_n c_35_75 rfl (v_cv c_35_76 km_2_68 rfl rfl (Nat.le_of_ble_eq_true rfl) ⟨⟨rfl, rfl⟩, Nat.le_of_ble_eq_true rfl, rfl⟩ (Nat.le_of_ble_eq_true rfl) (Nat.le_of_ble_eq_true rfl) (q_aload_n c_2_0 rfl ?_)))
        have h_12 := ir_1_4 hI2
        have kn_13 : Hid (c_7 1 4 = c2 1 4) := hF_9 1 4 (fun h => absurd h.2 (ni rfl))
        refine v_gi (z := 4) (v := c2 1 4) c_2_1 kf_5_38 rfl (Nat.le_of_ble_eq_true rfl) rfl rfl (hid kn_13) ?_
        by_cases h_14 : c2 1 4 ≠ 0
        · refine v_if_ne_t (t := 11) c_2_4 rfl ⟨h_14, ⟨(q_107d648c6 h_12), (q_509aaa6b6 h_12)⟩, of_decide_eq_true rfl, of_decide_eq_true rfl⟩ (q_iconst c_2_11 (v_zret c_2_12 rfl (of_decide_eq_true rfl) (bk_inl (v_if_eq_t (t := 102) c_35_79 rfl (of_decide_eq_true rfl) (q_vret rfl rfl ?_)))))
          exact K c_7 hI_8 (fun a j hm => (hF_9 a j (fun h => hm (Or.inl h))).trans (hF a j hm))
        · refine v_if_ne_f (t := 11) c_2_4 rfl (Decidable.not_not.mp h_14) (q_iconst c_2_7 (q_goto (t := 12) c_2_8 rfl (v_zret c_2_12 rfl (of_decide_eq_true rfl) (bk_inl (v_if_eq_f (t := 102) c_35_79 rfl (of_decide_eq_true rfl) (q_aload_n c_35_82 rfl (v_gr (t := (A + 5)) c_35_83 kf_2_28 (ck_p0 hA) (a68z hA) rfl ?_)))))))
          refine q_iconst c_35_86 (q_aload_n c_35_87 rfl (v_gr (t := (A + 4)) c_35_88 kf_2_25 (ck_p0 hA) (a68z hA) rfl (q_iconst c_35_91 (v_bip c_35_92 (of_decide_eq_true rfl) (v_cpy c_35_94 rfl (ck_p4 hA) (a68 hA rfl) (ck_p5 hA) (a68 hA rfl) rfl rfl (by omega) (Nat.le_of_ble_eq_true rfl) (by omega) (q_aload_n c_35_97 rfl (q_iload_n c_35_98 rfl ?_)))))))
          refine v_pi (z := 4) c_35_99 kf_2_90 (ck_p0 hA) (a68z hA) rfl rfl rfl (of_decide_eq_true rfl) (q_vret rfl rfl ?_)
          have hr_17 : ∀ j : Int, 0 ≤ j → j < v2 → 0 ≤ c_7 (A + 5) j ∧ c_7 (A + 5) j ≤ 3 := by
            intro j hj1 hj2
            have q9 : c_7 (A + 5) j = c2 (A + 5) j := hF_9 (A + 5) j (by omega)
            rw [q9]
            exact hx0 j hj1 (by omega)
          have hI_16 := iw_stk (v := v2) hI_8 hA ⟨by omega, by omega⟩ hr_17
          exact K (up (upc c_7 (A + 5) 0 (A + 4) 0 8) A 4 v2) hI_16 (fun a j hm => (up_b (Decidable.or_iff_not_imp_left.mpr (fun h1 h2 => hm (Or.inr (Or.inr (Or.inr (Or.inl ⟨Decidable.not_not.mp h1, h2⟩))))))).trans ((upc_c (fun h => hm (Or.inr (Or.inr (Or.inr (Or.inr (Or.inl h))))))).trans ((hF_9 a j (fun h => hm (Or.inl h))).trans (hF a j hm))))
      · refine v_if_eq_f (t := 75) c_35_14 rfl ⟨h_11, ⟨(lel hy_10.1 rfl), (ler hy_10.2 rfl)⟩, of_decide_eq_true rfl, of_decide_eq_true rfl⟩ (q_aload_n c_35_17 rfl (v_cv c_35_18 km_2_50 rfl rfl (Nat.le_of_ble_eq_true rfl) ⟨⟨rfl, rfl⟩, Nat.le_of_ble_eq_true rfl, rfl⟩ (Nat.le_of_ble_eq_true rfl) (Nat.le_of_ble_eq_true rfl) (s_3 hI_8 (fun c_18 y_21 hI_19 hF_20 hy_21 h_22 => (bk_inl ?_)))))
        have h_23 := ir_1_2 hI_19
        refine q_istore c_35_21 (Nat.le_of_ble_eq_true rfl) (q_aload_n c_35_23 rfl (q_aload_n c_35_24 rfl ?_))
        have h_24 := ir_p0_2 hI hA
        have kn_25 : Hid (c2 A 2 = c A 2) := hF A 2 (qn_14d462bd8 hA)
        have kn_26 : Hid (c_7 A 2 = c A 2) := (hF_9 A 2 (fun h => absurd h.1 (np0 hA rfl))).trans (hid kn_25)
        have kn_27 : Hid (c_18 A 2 = c A 2) := (hF_20 A 2 (fun h => absurd h.1 (np0 hA rfl))).trans (hid kn_26)
        refine v_gi (z := 2) (v := c A 2) c_35_25 kf_2_87 (ck_p0 hA) (a68z hA) rfl rfl (hid kn_27) (q_iconst c_35_28 (v_isub (v := c A 2 - 1) c_35_29 rfl (v_cv c_35_30 km_2_101 rfl rfl (Nat.le_of_ble_eq_true rfl) ⟨⟨rfl, rfl⟩, Nat.le_of_ble_eq_true rfl, rfl⟩ (Nat.le_of_ble_eq_true rfl) (Nat.le_of_ble_eq_true rfl) (s_8 (a1 := c A 2 - 1) hI_19 (show (-1) ≤ c A 2 - 1 ∧ c A 2 - 1 ≤ 9999 from ⟨(q_452b39485 h_24), (q_6915b49e7 h_24)⟩) (fun c_28 y_31 hI_29 hF_30 hy_31 h_32 => (bk_inl (q_istore c_35_33 (Nat.le_of_ble_eq_true rfl) (q_iload_n c_35_35 rfl (v_bip c_35_36 (of_decide_eq_true rfl) ?_)))))))))
        by_cases h_33 : v3 ≠ 8
        · refine v_ic_ne_t (t := 51) c_35_38 rfl ⟨h_33, ⟨(lel hv3.1 rfl), (ler hv3.2 rfl)⟩, of_decide_eq_true rfl, of_decide_eq_true rfl⟩ (q_aload_n c_35_51 rfl (v_gr (t := (A + 5)) c_35_52 kf_2_28 (ck_p0 hA) (a68z hA) rfl (q_iload_n c_35_55 rfl (q_iload c_35_56 rfl (v_is c_35_58 (ck_p5 hA) (a68 hA rfl) (of_decide_eq_true rfl) ⟨hv3.1, (q_628e546a1 h_1 h_33)⟩ (q_iload_n c_35_59 rfl (q_iconst c_35_60 ?_)))))))
          refine v_iadd (v := v3 + 1) c_35_61 rfl (q_istore_n c_35_62 (Nat.le_of_ble_eq_true rfl) (q_aload_n c_35_63 rfl (q_ldc_s c_35_64 rfl rfl (of_decide_eq_true rfl) ?_)))
          have hI_34 := iw_p5 (j := v3) (v := y_31) hI_29 hA ⟨(lel hy_31.1 rfl), hy_31.2⟩
          refine v_cv c_35_66 km_2_77 rfl rfl (Nat.le_of_ble_eq_true rfl) ⟨⟨rfl, rfl⟩, Nat.le_of_ble_eq_true rfl, rfl⟩ (Nat.le_of_ble_eq_true rfl) (Nat.le_of_ble_eq_true rfl) (s_11 hI_34 (q := 9) (nt := 1) (of_decide_eq_true rfl) (of_decide_eq_true rfl) (of_decide_eq_true rfl) (fun c_35 hI_36 hF_37 => (bk_inl (v_iinc (v := v3 + 1) c_35_69 rfl (Nat.le_of_ble_eq_true rfl) rfl (q_goto (t := 4) c_35_72 rfl (Wp_ls [(0, .ref A), (1, .ref 1), (2, vi (v3 + 1)), (3, vi (v3 + 1))] (lsub_cons rfl (lsub_cons rfl (lsub_cons rfl (lsub_cons rfl lsub_nil)))) ?_))))))
          have hr_38 : ∀ j : Int, 0 ≤ j → j < v3 + 1 → 0 ≤ c_35 (A + 5) j ∧ c_35 (A + 5) j ≤ 3 := by
            intro j hj1 hj2
            by_cases e9 : j = v3
            · have q9 : c_35 (A + 5) j = y_31 := (hF_37 (A + 5) j (by omega)).trans (up_e e9)
              rw [q9]
              omega
            · have q9 : c_35 (A + 5) j = c2 (A + 5) j := (hF_37 (A + 5) j (by omega)).trans ((up_n e9).trans ((hF_30 (A + 5) j (by omega)).trans ((hF_20 (A + 5) j (by omega)).trans (hF_9 (A + 5) j (by omega)))))
              rw [q9]
              exact hx0 j hj1 (by omega)
          exact ih c_35 (v3 + 1) (v3 + 1) hI_36 (fun a j hm => (hF_37 a j (qv_e4befbf54 hm)).trans ((up_b (Decidable.or_iff_not_imp_left.mpr (fun h1 h2 => hm (Or.inr (Or.inr (Or.inr (Or.inr (Or.inr (Decidable.not_not.mp h1))))))))).trans ((hF_30 a j (qv_e4befbf54 hm)).trans ((hF_20 a j (fun h => hm (Or.inl h))).trans ((hF_9 a j (fun h => hm (Or.inl h))).trans (hF a j hm)))))) ⟨(rgp_l hv3.1 (of_decide_eq_true rfl)), (q_118bd7d80 h_1 h_33)⟩ ⟨(rgp_l hv3.1 (of_decide_eq_true rfl)), (q_d1d9cab2a h_1)⟩ hr_38 (Or.inl (by first | assumption | omega)) (by omega)
        · refine v_ic_ne_f (t := 51) c_35_38 rfl (Decidable.not_not.mp h_33) (q_aload_n c_35_41 rfl (q_iconst c_35_42 (q_iload c_35_43 rfl (v_cv c_35_45 km_2_64 rfl rfl (Nat.le_of_ble_eq_true rfl) ⟨⟨rfl, rfl⟩, Nat.le_of_ble_eq_true rfl, rfl⟩ (Nat.le_of_ble_eq_true rfl) (Nat.le_of_ble_eq_true rfl) (s_7 (a1 := 3) (a2 := y_21) hI_29 (show 1 ≤ 3 ∧ 3 ≤ 3 from ⟨of_decide_eq_true rfl, of_decide_eq_true rfl⟩) (show 0 ≤ y_21 ∧ y_21 ≤ 600 from hy_21) (fun c_39 hI_40 hF_41 h_42 => (bk_inl ?_)))))))
          have h_43 := ir_1_4 hI_40
          refine q_goto (t := 63) c_35_48 rfl (q_aload_n c_35_63 rfl (q_ldc_s c_35_64 rfl rfl (of_decide_eq_true rfl) (v_cv c_35_66 km_2_77 rfl rfl (Nat.le_of_ble_eq_true rfl) ⟨⟨rfl, rfl⟩, Nat.le_of_ble_eq_true rfl, rfl⟩ (Nat.le_of_ble_eq_true rfl) (Nat.le_of_ble_eq_true rfl) (s_11 hI_40 (q := 9) (nt := 1) (of_decide_eq_true rfl) (of_decide_eq_true rfl) (of_decide_eq_true rfl) (fun c_44 hI_45 hF_46 => (bk_inl (v_iinc (v := v3 + 1) c_35_69 rfl (Nat.le_of_ble_eq_true rfl) rfl (q_goto (t := 4) c_35_72 rfl (Wp_ls [(0, .ref A), (1, .ref 1), (2, vi v2), (3, vi (v3 + 1))] (lsub_cons rfl (lsub_cons rfl (lsub_cons rfl (lsub_cons rfl lsub_nil)))) ?_)))))))))
          have hr_47 : ∀ j : Int, 0 ≤ j → j < v2 → 0 ≤ c_44 (A + 5) j ∧ c_44 (A + 5) j ≤ 3 := by
            intro j hj1 hj2
            have q9 : c_44 (A + 5) j = c2 (A + 5) j := (hF_46 (A + 5) j (by omega)).trans ((hF_41 (A + 5) j (by omega)).trans ((hF_30 (A + 5) j (by omega)).trans ((hF_20 (A + 5) j (by omega)).trans (hF_9 (A + 5) j (by omega)))))
            rw [q9]
            exact hx0 j hj1 (by omega)
          exact ih c_44 v2 (v3 + 1) hI_45 (fun a j hm => (hF_46 a j (qv_e4befbf54 hm)).trans ((hF_41 a j (qv_d8e11c47c hm)).trans ((hF_30 a j (qv_e4befbf54 hm)).trans ((hF_20 a j (fun h => hm (Or.inl h))).trans ((hF_9 a j (fun h => hm (Or.inl h))).trans (hF a j hm)))))) hv2 ⟨(rgp_l hv3.1 (of_decide_eq_true rfl)), (q_d1d9cab2a h_1)⟩ hr_47 (Or.inr ⟨by first | (clear hv3 h_1 h_23 h_22 h_24 h_43 h_11 h_32 h_42; omega) | omega, (q_65b0bda2f h_1 h_33)⟩) (by omega)
set_option maxRecDepth 100000 in
set_option maxHeartbeats 4000000 in
theorem s_35 {sc : List Int32} {e : Int} {d u P Q A : Nat} {c : ME} {Z : AR → Prop} (hI : Iv u e P Q c) (hA : A = 13 ∨ A = 25) (K : ∀ (c2 : ME), Iv u e P Q c2 → (∀ (a : Nat) (j : Int), ¬ ((a = 1 ∧ j = 2) ∨ (a = 1 ∧ j = 4) ∨ (a = 1 ∧ j = 5) ∨ (a = A ∧ j = 4) ∨ a = (A + 4) ∨ a = (A + 5)) → c2 a j = c a j) → Z (.inl (none), Wd P Q P P c2, 0, 0)) : Wp sc (d + 10) 35 0 [(0, .ref A), (1, .ref 1)] [] (Wd P Q P P c) 0 0 Z := by
  have hP := iv_P hI
  have hQ := iv_Q hI
  refine q_iconst c_35_0 (q_istore_n c_35_1 (Nat.le_of_ble_eq_true rfl) (q_iconst c_35_2 (q_istore_n c_35_3 (Nat.le_of_ble_eq_true rfl) (Wp_ls [(0, .ref A), (1, .ref 1), (2, vi 0), (3, vi 0)] (lsub_cons rfl (lsub_cons rfl (lsub_cons rfl (lsub_cons rfl lsub_nil)))) ?_))))
  have hr_48 : ∀ j : Int, 0 ≤ j → j < 0 → 0 ≤ c (A + 5) j ∧ c (A + 5) j ≤ 3 := by
    intro j hj1 hj2
    omega
  exact (s_35_l (sc := sc) (d := d) hI hA K 22) c 0 0 hI (fun a j hm => rfl) ⟨of_decide_eq_true rfl, of_decide_eq_true rfl⟩ ⟨of_decide_eq_true rfl, of_decide_eq_true rfl⟩ hr_48 (Or.inl (by first | assumption | omega)) (by omega)

set_option maxRecDepth 100000 in
set_option maxHeartbeats 4000000 in
theorem s_36_l {sc : List Int32} {e : Int} {d u P Q A : Nat} {c : ME} {Z : AR → Prop} (hI : Iv u e P Q c) (hA : A = 13 ∨ A = 25) (K : ∀ (c2 : ME), Iv u e P Q c2 → (∀ (a : Nat) (j : Int), ¬ ((a = 1 ∧ j = 2) ∨ (a = 1 ∧ j = 4) ∨ (a = 1 ∧ j = 5) ∨ (a = A ∧ j = 5) ∨ a = (A + 5) ∨ a = (A + 6)) → c2 a j = c a j) → Z (.inl (none), Wd P Q P P c2, 0, 0)) : ∀ n : Nat, (∀ (c2 : ME) (v2 : Int), Iv u e P Q c2 → (∀ (a : Nat) (j : Int), ¬ ((a = 1 ∧ j = 2) ∨ (a = 1 ∧ j = 4) ∨ (a = 1 ∧ j = 5) ∨ (a = A ∧ j = 5) ∨ a = (A + 5) ∨ a = (A + 6)) → c2 a j = c a j) → 0 ≤ v2 ∧ v2 ≤ 4 → 22 - 2 * v2 < (n : Int) → Wp sc (d + 10) 36 2 [(0, .ref A), (1, .ref 1), (2, vi v2)] [] (Wd P Q P P c2) 0 0 Z) ∧ (∀ (c2 : ME) (v2 : Int) (v3 : Int), Iv u e P Q c2 → (∀ (a : Nat) (j : Int), ¬ ((a = 1 ∧ j = 2) ∨ (a = 1 ∧ j = 4) ∨ (a = 1 ∧ j = 5) ∨ (a = A ∧ j = 5) ∨ a = (A + 5) ∨ a = (A + 6)) → c2 a j = c a j) → 0 ≤ v2 ∧ v2 ≤ 5 → 0 ≤ v3 ∧ v3 ≤ 5 → 11 - 2 * v3 < (n : Int) → Wp sc (d + 10) 36 24 [(0, .ref A), (1, .ref 1), (2, vi v2), (3, vi v3)] [] (Wd P Q P P c2) 0 0 Z) := by
  intro n
  induction n with
  | zero => exact (by exact ⟨by (intro c2 v2 hI2 hF hv2 hm9; have hP := iv_P hI; have hQ := iv_Q hI; exfalso; omega), by (intro c2 v2 v3 hI2 hF hv2 hv3 hm9; have hP := iv_P hI; have hQ := iv_Q hI; exfalso; omega)⟩)
  | succ n ih =>
    have hP := iv_P hI
    have hQ := iv_Q hI
    refine ⟨?_, ?_⟩
    · skip
      intro c2 v2 hI2 hF hv2 hm9
      refine q_iload_n c_36_2 rfl (q_iconst c_36_3 ?_)
      by_cases h_1 : v2 ≥ 4
      · refine v_ic_ge_t (t := 20) c_36_4 rfl ⟨of_decide_eq_true rfl, h_1, (ler hv2.2 rfl)⟩ (q_iconst c_36_20 (q_istore_n c_36_21 (Nat.le_of_ble_eq_true rfl) (q_iconst c_36_22 (q_istore_n c_36_23 (Nat.le_of_ble_eq_true rfl) (Wp_ls [(0, .ref A), (1, .ref 1), (2, vi 0), (3, vi 0)] (lsub_cons rfl (lsub_cons rfl (lsub_cons rfl (lsub_cons rfl lsub_nil)))) ?_)))))
        exact ih.2 c2 0 0 hI2 (fun a j hm => hF a j hm) ⟨of_decide_eq_true rfl, of_decide_eq_true rfl⟩ ⟨of_decide_eq_true rfl, of_decide_eq_true rfl⟩ (by omega)
      · refine v_ic_ge_f (t := 20) c_36_4 rfl ⟨(lel hv2.1 rfl), (Int.not_le.mp h_1), of_decide_eq_true rfl⟩ (q_aload_n c_36_7 rfl (v_gr (t := (A + 5)) c_36_8 kf_2_28 (ck_p0 hA) (a68z hA) rfl (q_iload_n c_36_11 rfl (q_iconst c_36_12 (v_is c_36_13 (ck_p5 hA) (a68 hA rfl) (of_decide_eq_true rfl) ⟨hv2.1, (q_d0507083e h_1)⟩ (v_iinc (v := v2 + 1) c_36_14 rfl (Nat.le_of_ble_eq_true rfl) rfl (q_goto (t := 2) c_36_17 rfl ?_)))))))
        have hI_2 := iw_p5 (j := v2) (v := (-1)) hI2 hA ⟨of_decide_eq_true rfl, of_decide_eq_true rfl⟩
        refine Wp_ls [(0, .ref A), (1, .ref 1), (2, vi (v2 + 1))] (lsub_cons rfl (lsub_cons rfl (lsub_cons rfl lsub_nil))) ?_
        exact ih.1 (up c2 (A + 5) v2 (-1)) (v2 + 1) hI_2 (fun a j hm => (up_b (Decidable.or_iff_not_imp_left.mpr (fun h1 h2 => hm (Or.inr (Or.inr (Or.inr (Or.inr (Or.inl (Decidable.not_not.mp h1))))))))).trans (hF a j hm)) ⟨(rgp_l hv2.1 (of_decide_eq_true rfl)), (q_121241f94 h_1)⟩ (by omega)
    · skip
      intro c2 v2 v3 hI2 hF hv2 hv3 hm9
      refine q_iload_n c_36_24 rfl (q_iconst c_36_25 ?_)
      by_cases h_3 : v3 > 4
      · refine v_ic_gt_t (t := 97) c_36_26 rfl ⟨of_decide_eq_true rfl, h_3, (ler hv3.2 rfl)⟩ (q_aload_n c_36_97 rfl (v_cv c_36_98 km_2_68 rfl rfl (Nat.le_of_ble_eq_true rfl) ⟨⟨rfl, rfl⟩, Nat.le_of_ble_eq_true rfl, rfl⟩ (Nat.le_of_ble_eq_true rfl) (Nat.le_of_ble_eq_true rfl) (q_aload_n c_2_0 rfl ?_)))
        have h_4 := ir_1_4 hI2
        refine v_gi (z := 4) (v := c2 1 4) c_2_1 kf_5_38 rfl (Nat.le_of_ble_eq_true rfl) rfl rfl rfl ?_
        by_cases h_5 : c2 1 4 ≠ 0
        · refine v_if_ne_t (t := 11) c_2_4 rfl ⟨h_5, ⟨(lel h_4.1 rfl), (ler h_4.2 rfl)⟩, of_decide_eq_true rfl, of_decide_eq_true rfl⟩ (q_iconst c_2_11 (v_zret c_2_12 rfl (of_decide_eq_true rfl) (bk_inl (v_if_eq_t (t := 123) c_36_101 rfl (of_decide_eq_true rfl) (q_vret rfl rfl ?_)))))
          exact K c2 hI2 (fun a j hm => hF a j hm)
        · refine v_if_ne_f (t := 11) c_2_4 rfl (Decidable.not_not.mp h_5) (q_iconst c_2_7 (q_goto (t := 12) c_2_8 rfl (v_zret c_2_12 rfl (of_decide_eq_true rfl) (bk_inl (v_if_eq_f (t := 123) c_36_101 rfl (of_decide_eq_true rfl) (q_aload_n c_36_104 rfl (v_gr (t := (A + 5)) c_36_105 kf_2_28 (ck_p0 hA) (a68z hA) rfl ?_)))))))
          refine q_iconst c_36_108 (q_aload_n c_36_109 rfl (v_gr (t := (A + 6)) c_36_110 kf_2_31 (ck_p0 hA) (a68z hA) rfl (q_iconst c_36_113 (q_iconst c_36_114 (v_cpy c_36_115 rfl (ck_p6 hA) (a68 hA rfl) (ck_p5 hA) (a68 hA rfl) rfl rfl (by omega) (Nat.le_of_ble_eq_true rfl) (by omega) (q_aload_n c_36_118 rfl (q_iload_n c_36_119 rfl ?_)))))))
          refine v_pi (z := 5) c_36_120 kf_2_93 (ck_p0 hA) (a68z hA) rfl rfl rfl (of_decide_eq_true rfl) (q_vret rfl rfl ?_)
          have hI_6 := cp_p5_p6 (n := 4) hI2 hA
          have hI_7 := iw_p0_5 (v := v2) hI_6 hA ⟨hv2.1, hv2.2⟩
          exact K (up (upc c2 (A + 5) 0 (A + 6) 0 4) A 5 v2) hI_7 (fun a j hm => (up_b (Decidable.or_iff_not_imp_left.mpr (fun h1 h2 => hm (Or.inr (Or.inr (Or.inr (Or.inl ⟨Decidable.not_not.mp h1, h2⟩))))))).trans ((upc_c (fun h => hm (Or.inr (Or.inr (Or.inr (Or.inr (Or.inr h))))))).trans (hF a j hm)))
      · refine v_ic_gt_f (t := 97) c_36_26 rfl ⟨(lel hv3.1 rfl), (Int.not_lt.mp h_3), of_decide_eq_true rfl⟩ (q_aload_n c_36_29 rfl (v_cv c_36_30 km_2_44 rfl rfl (Nat.le_of_ble_eq_true rfl) ⟨⟨rfl, rfl⟩, Nat.le_of_ble_eq_true rfl, rfl⟩ (Nat.le_of_ble_eq_true rfl) (Nat.le_of_ble_eq_true rfl) (s_15 hI2 (fun c_8 y_11 hI_9 hF_10 hy_11 => (bk_inl ?_)))))
        by_cases h_12 : y_11 = 0
        · refine v_if_eq_t (t := 97) c_36_33 rfl h_12 (q_aload_n c_36_97 rfl (v_cv c_36_98 km_2_68 rfl rfl (Nat.le_of_ble_eq_true rfl) ⟨⟨rfl, rfl⟩, Nat.le_of_ble_eq_true rfl, rfl⟩ (Nat.le_of_ble_eq_true rfl) (Nat.le_of_ble_eq_true rfl) (q_aload_n c_2_0 rfl ?_)))
          have h_13 := ir_1_4 hI2
          have kn_14 : Hid (c_8 1 4 = c2 1 4) := hF_10 1 4 (fun h => absurd h.2 (ni rfl))
          refine v_gi (z := 4) (v := c2 1 4) c_2_1 kf_5_38 rfl (Nat.le_of_ble_eq_true rfl) rfl rfl (hid kn_14) ?_
          by_cases h_15 : c2 1 4 ≠ 0
          · refine v_if_ne_t (t := 11) c_2_4 rfl ⟨h_15, ⟨(q_107d648c6 h_13), (q_509aaa6b6 h_13)⟩, of_decide_eq_true rfl, of_decide_eq_true rfl⟩ (q_iconst c_2_11 (v_zret c_2_12 rfl (of_decide_eq_true rfl) (bk_inl (v_if_eq_t (t := 123) c_36_101 rfl (of_decide_eq_true rfl) (q_vret rfl rfl ?_)))))
            exact K c_8 hI_9 (fun a j hm => (hF_10 a j (fun h => hm (Or.inl h))).trans (hF a j hm))
          · refine v_if_ne_f (t := 11) c_2_4 rfl (Decidable.not_not.mp h_15) (q_iconst c_2_7 (q_goto (t := 12) c_2_8 rfl (v_zret c_2_12 rfl (of_decide_eq_true rfl) (bk_inl (v_if_eq_f (t := 123) c_36_101 rfl (of_decide_eq_true rfl) (q_aload_n c_36_104 rfl (v_gr (t := (A + 5)) c_36_105 kf_2_28 (ck_p0 hA) (a68z hA) rfl ?_)))))))
            refine q_iconst c_36_108 (q_aload_n c_36_109 rfl (v_gr (t := (A + 6)) c_36_110 kf_2_31 (ck_p0 hA) (a68z hA) rfl (q_iconst c_36_113 (q_iconst c_36_114 (v_cpy c_36_115 rfl (ck_p6 hA) (a68 hA rfl) (ck_p5 hA) (a68 hA rfl) rfl rfl (by omega) (Nat.le_of_ble_eq_true rfl) (by omega) (q_aload_n c_36_118 rfl (q_iload_n c_36_119 rfl ?_)))))))
            refine v_pi (z := 5) c_36_120 kf_2_93 (ck_p0 hA) (a68z hA) rfl rfl rfl (of_decide_eq_true rfl) (q_vret rfl rfl ?_)
            have hI_16 := cp_p5_p6 (n := 4) hI_9 hA
            have hI_17 := iw_p0_5 (v := v2) hI_16 hA ⟨hv2.1, hv2.2⟩
            exact K (up (upc c_8 (A + 5) 0 (A + 6) 0 4) A 5 v2) hI_17 (fun a j hm => (up_b (Decidable.or_iff_not_imp_left.mpr (fun h1 h2 => hm (Or.inr (Or.inr (Or.inr (Or.inl ⟨Decidable.not_not.mp h1, h2⟩))))))).trans ((upc_c (fun h => hm (Or.inr (Or.inr (Or.inr (Or.inr (Or.inr h))))))).trans ((hF_10 a j (fun h => hm (Or.inl h))).trans (hF a j hm))))
        · refine v_if_eq_f (t := 97) c_36_33 rfl ⟨h_12, ⟨(lel hy_11.1 rfl), (ler hy_11.2 rfl)⟩, of_decide_eq_true rfl, of_decide_eq_true rfl⟩ (q_aload_n c_36_36 rfl (v_cv c_36_37 km_2_50 rfl rfl (Nat.le_of_ble_eq_true rfl) ⟨⟨rfl, rfl⟩, Nat.le_of_ble_eq_true rfl, rfl⟩ (Nat.le_of_ble_eq_true rfl) (Nat.le_of_ble_eq_true rfl) (s_3 hI_9 (fun c_18 y_21 hI_19 hF_20 hy_21 h_22 => (bk_inl ?_)))))
          have h_23 := ir_1_2 hI_19
          refine q_istore c_36_40 (Nat.le_of_ble_eq_true rfl) (q_aload_n c_36_42 rfl (q_iconst c_36_43 (v_cv c_36_44 km_2_101 rfl rfl (Nat.le_of_ble_eq_true rfl) ⟨⟨rfl, rfl⟩, Nat.le_of_ble_eq_true rfl, rfl⟩ (Nat.le_of_ble_eq_true rfl) (Nat.le_of_ble_eq_true rfl) (s_8 (a1 := 3) hI_19 (show (-1) ≤ 3 ∧ 3 ≤ 9999 from ⟨of_decide_eq_true rfl, of_decide_eq_true rfl⟩) (fun c_24 y_27 hI_25 hF_26 hy_27 h_28 => (bk_inl (q_istore c_36_47 (Nat.le_of_ble_eq_true rfl) (q_aload_n c_36_49 rfl (v_gr (t := (A + 5)) c_36_50 kf_2_28 (ck_p0 hA) (a68z hA) rfl ?_)))))))))
          refine q_iload c_36_53 rfl ?_
          have h_29 := ir_p5 hI2 hA y_27
          have kn_30 : Hid (c_8 (A + 5) y_27 = c2 (A + 5) y_27) := hF_10 (A + 5) y_27 (fun h => absurd h.1 (np hA rfl rfl))
          have kn_31 : Hid (c_18 (A + 5) y_27 = c2 (A + 5) y_27) := (hF_20 (A + 5) y_27 (fun h => absurd h.1 (np hA rfl rfl))).trans (hid kn_30)
          have kn_32 : Hid (c_24 (A + 5) y_27 = c2 (A + 5) y_27) := (hF_26 (A + 5) y_27 (qn_31b6b4c08 hA)).trans (hid kn_31)
          refine v_ia (v := c2 (A + 5) y_27) c_36_55 (ck_p5 hA) (a68 hA rfl) (of_decide_eq_true rfl) ⟨hy_27.1, (q_ef58644c7 h_28)⟩ (hid kn_32) (q_iconst c_36_56 ?_)
          by_cases h_33 : c2 (A + 5) y_27 = (-1)
          · refine v_ic_eq_t (t := 67) c_36_57 rfl h_33 (q_aload_n c_36_67 rfl (v_gr (t := (A + 5)) c_36_68 kf_2_28 (ck_p0 hA) (a68z hA) rfl (q_iload c_36_71 rfl (q_aload_n c_36_73 rfl (v_sip c_36_74 (of_decide_eq_true rfl) (v_cv c_36_77 km_2_101 rfl rfl (Nat.le_of_ble_eq_true rfl) ⟨⟨rfl, rfl⟩, Nat.le_of_ble_eq_true rfl, rfl⟩ (Nat.le_of_ble_eq_true rfl) (Nat.le_of_ble_eq_true rfl) (s_8 (a1 := 9999) hI_25 (show (-1) ≤ 9999 ∧ 9999 ≤ 9999 from ⟨of_decide_eq_true rfl, of_decide_eq_true rfl⟩) (fun c_34 y_37 hI_35 hF_36 hy_37 h_38 => (bk_inl ?_)))))))))
            refine v_is c_36_80 (ck_p5 hA) (a68 hA rfl) (of_decide_eq_true rfl) ⟨hy_27.1, (q_ef58644c7 h_28)⟩ (q_aload_n c_36_81 rfl (q_ldc_s c_36_82 rfl rfl (of_decide_eq_true rfl) ?_))
            have hI_39 := iw_p5 (j := y_27) (v := y_37) hI_35 hA ⟨(lel hy_37.1 rfl), hy_37.2⟩
            refine v_cv c_36_84 km_2_77 rfl rfl (Nat.le_of_ble_eq_true rfl) ⟨⟨rfl, rfl⟩, Nat.le_of_ble_eq_true rfl, rfl⟩ (Nat.le_of_ble_eq_true rfl) (Nat.le_of_ble_eq_true rfl) (s_11 hI_39 (q := 9) (nt := 1) (of_decide_eq_true rfl) (of_decide_eq_true rfl) (of_decide_eq_true rfl) (fun c_40 hI_41 hF_42 => (bk_inl (q_iload_n c_36_87 rfl (q_iconst c_36_88 (v_iadd (v := v3 + 1) c_36_89 rfl (q_istore_n c_36_90 (Nat.le_of_ble_eq_true rfl) (v_iinc (v := v3 + 1) c_36_91 rfl (Nat.le_of_ble_eq_true rfl) rfl (q_goto (t := 24) c_36_94 rfl ?_)))))))))
            refine Wp_ls [(0, .ref A), (1, .ref 1), (2, vi (v3 + 1)), (3, vi (v3 + 1))] (lsub_cons rfl (lsub_cons rfl (lsub_cons rfl (lsub_cons rfl lsub_nil)))) ?_
            exact ih.2 c_40 (v3 + 1) (v3 + 1) hI_41 (fun a j hm => (hF_42 a j (qv_88b270b28 hm)).trans ((up_b (Decidable.or_iff_not_imp_left.mpr (fun h1 h2 => hm (Or.inr (Or.inr (Or.inr (Or.inr (Or.inl (Decidable.not_not.mp h1))))))))).trans ((hF_36 a j (qv_88b270b28 hm)).trans ((hF_26 a j (qv_88b270b28 hm)).trans ((hF_20 a j (fun h => hm (Or.inl h))).trans ((hF_10 a j (fun h => hm (Or.inl h))).trans (hF a j hm))))))) ⟨(rgp_l hv3.1 (of_decide_eq_true rfl)), (q_7025fc67d h_3)⟩ ⟨(rgp_l hv3.1 (of_decide_eq_true rfl)), (q_7025fc67d h_3)⟩ (by omega)
          · refine v_ic_eq_f (t := 67) c_36_57 rfl ⟨h_33, ⟨(q_87765d87e h_29), (q_cf71bb2da h_29)⟩, of_decide_eq_true rfl, of_decide_eq_true rfl⟩ (q_aload_n c_36_60 rfl (q_iconst c_36_61 (q_iload c_36_62 rfl (v_cv c_36_64 km_2_64 rfl rfl (Nat.le_of_ble_eq_true rfl) ⟨⟨rfl, rfl⟩, Nat.le_of_ble_eq_true rfl, rfl⟩ (Nat.le_of_ble_eq_true rfl) (Nat.le_of_ble_eq_true rfl) (s_7 (a1 := 2) (a2 := y_21) hI_25 (show 1 ≤ 2 ∧ 2 ≤ 3 from ⟨of_decide_eq_true rfl, of_decide_eq_true rfl⟩) (show 0 ≤ y_21 ∧ y_21 ≤ 600 from hy_21) (fun c_43 hI_44 hF_45 h_46 => (bk_inl ?_)))))))
            have h_47 := ir_1_4 hI_44
            refine q_aload_n c_36_67 rfl (v_gr (t := (A + 5)) c_36_68 kf_2_28 (ck_p0 hA) (a68z hA) rfl (q_iload c_36_71 rfl (q_aload_n c_36_73 rfl (v_sip c_36_74 (of_decide_eq_true rfl) (v_cv c_36_77 km_2_101 rfl rfl (Nat.le_of_ble_eq_true rfl) ⟨⟨rfl, rfl⟩, Nat.le_of_ble_eq_true rfl, rfl⟩ (Nat.le_of_ble_eq_true rfl) (Nat.le_of_ble_eq_true rfl) (s_8 (a1 := 9999) hI_44 (show (-1) ≤ 9999 ∧ 9999 ≤ 9999 from ⟨of_decide_eq_true rfl, of_decide_eq_true rfl⟩) (fun c_48 y_51 hI_49 hF_50 hy_51 h_52 => (bk_inl (v_is c_36_80 (ck_p5 hA) (a68 hA rfl) (of_decide_eq_true rfl) ⟨hy_27.1, (q_ef58644c7 h_28)⟩ ?_)))))))))
            refine q_aload_n c_36_81 rfl (q_ldc_s c_36_82 rfl rfl (of_decide_eq_true rfl) ?_)
            have hI_53 := iw_p5 (j := y_27) (v := y_51) hI_49 hA ⟨(lel hy_51.1 rfl), hy_51.2⟩
            refine v_cv c_36_84 km_2_77 rfl rfl (Nat.le_of_ble_eq_true rfl) ⟨⟨rfl, rfl⟩, Nat.le_of_ble_eq_true rfl, rfl⟩ (Nat.le_of_ble_eq_true rfl) (Nat.le_of_ble_eq_true rfl) (s_11 hI_53 (q := 9) (nt := 1) (of_decide_eq_true rfl) (of_decide_eq_true rfl) (of_decide_eq_true rfl) (fun c_54 hI_55 hF_56 => (bk_inl (q_iload_n c_36_87 rfl (q_iconst c_36_88 (v_iadd (v := v3 + 1) c_36_89 rfl (q_istore_n c_36_90 (Nat.le_of_ble_eq_true rfl) (v_iinc (v := v3 + 1) c_36_91 rfl (Nat.le_of_ble_eq_true rfl) rfl (q_goto (t := 24) c_36_94 rfl ?_)))))))))
            refine Wp_ls [(0, .ref A), (1, .ref 1), (2, vi (v3 + 1)), (3, vi (v3 + 1))] (lsub_cons rfl (lsub_cons rfl (lsub_cons rfl (lsub_cons rfl lsub_nil)))) ?_
            exact ih.2 c_54 (v3 + 1) (v3 + 1) hI_55 (fun a j hm => (hF_56 a j (qv_88b270b28 hm)).trans ((up_b (Decidable.or_iff_not_imp_left.mpr (fun h1 h2 => hm (Or.inr (Or.inr (Or.inr (Or.inr (Or.inl (Decidable.not_not.mp h1))))))))).trans ((hF_50 a j (qv_88b270b28 hm)).trans ((hF_45 a j (qv_ccc73f504 hm)).trans ((hF_26 a j (qv_88b270b28 hm)).trans ((hF_20 a j (fun h => hm (Or.inl h))).trans ((hF_10 a j (fun h => hm (Or.inl h))).trans (hF a j hm)))))))) ⟨(rgp_l hv3.1 (of_decide_eq_true rfl)), (q_7025fc67d h_3)⟩ ⟨(rgp_l hv3.1 (of_decide_eq_true rfl)), (q_7025fc67d h_3)⟩ (by omega)
set_option maxRecDepth 100000 in
set_option maxHeartbeats 4000000 in
theorem s_36 {sc : List Int32} {e : Int} {d u P Q A : Nat} {c : ME} {Z : AR → Prop} (hI : Iv u e P Q c) (hA : A = 13 ∨ A = 25) (K : ∀ (c2 : ME), Iv u e P Q c2 → (∀ (a : Nat) (j : Int), ¬ ((a = 1 ∧ j = 2) ∨ (a = 1 ∧ j = 4) ∨ (a = 1 ∧ j = 5) ∨ (a = A ∧ j = 5) ∨ a = (A + 5) ∨ a = (A + 6)) → c2 a j = c a j) → Z (.inl (none), Wd P Q P P c2, 0, 0)) : Wp sc (d + 10) 36 0 [(0, .ref A), (1, .ref 1)] [] (Wd P Q P P c) 0 0 Z := by
  have hP := iv_P hI
  have hQ := iv_Q hI
  refine q_iconst c_36_0 (q_istore_n c_36_1 (Nat.le_of_ble_eq_true rfl) (Wp_ls [(0, .ref A), (1, .ref 1), (2, vi 0)] (lsub_cons rfl (lsub_cons rfl (lsub_cons rfl lsub_nil))) ?_))
  exact (s_36_l (sc := sc) (d := d) hI hA K 25).1 c 0 hI (fun a j hm => rfl) ⟨of_decide_eq_true rfl, of_decide_eq_true rfl⟩ (by omega)

set_option maxRecDepth 100000 in
set_option maxHeartbeats 4000000 in
theorem s_38 {sc : List Int32} {e : Int} {d u P Q : Nat} {c : ME} {Z : AR → Prop} (hI : Iv u e P Q c)  (K : ∀ (c2 : ME) (y : Int), Iv u e P Q c2 → (∀ (a : Nat) (j : Int), ¬ ((a = 1 ∧ j = 2) ∨ (a = 1 ∧ j = 4) ∨ (a = 1 ∧ j = 5)) → c2 a j = c a j) → 0 ≤ y ∧ y ≤ 999 → Z (.inl (some (vi y)), Wd P Q P P c2, 0, 0)) : Wp sc (d + 10) 38 0 [(0, .ref 1)] [] (Wd P Q P P c) 0 0 Z := by
  have hP := iv_P hI
  have hQ := iv_Q hI
  refine q_aload_n c_38_0 rfl (v_cv c_38_1 km_3_42 rfl rfl (Nat.le_of_ble_eq_true rfl) ⟨⟨rfl, rfl⟩, Nat.le_of_ble_eq_true rfl, rfl⟩ (Nat.le_of_ble_eq_true rfl) (Nat.le_of_ble_eq_true rfl) (s_3 hI (fun c_1 y_4 hI_2 hF_3 hy_4 h_5 => (bk_inl ?_))))
  have h_6 := ir_1_2 hI_2
  refine q_istore_n c_38_4 (Nat.le_of_ble_eq_true rfl) (q_aload_n c_38_5 rfl (v_sip c_38_6 (of_decide_eq_true rfl) (v_cv c_38_9 km_3_73 rfl rfl (Nat.le_of_ble_eq_true rfl) ⟨⟨rfl, rfl⟩, Nat.le_of_ble_eq_true rfl, rfl⟩ (Nat.le_of_ble_eq_true rfl) (Nat.le_of_ble_eq_true rfl) (s_8 (a1 := 999) hI_2 (show (-1) ≤ 999 ∧ 999 ≤ 9999 from ⟨of_decide_eq_true rfl, of_decide_eq_true rfl⟩) (fun c_7 y_10 hI_8 hF_9 hy_10 h_11 => (bk_inl (q_istore_n c_38_12 (Nat.le_of_ble_eq_true rfl) (q_iload_n c_38_13 rfl ?_))))))))
  by_cases h_12 : y_10 ≠ 0
  · refine v_if_ne_t (t := 23) c_38_14 rfl ⟨h_12, ⟨(lel hy_10.1 rfl), (ler hy_10.2 rfl)⟩, of_decide_eq_true rfl, of_decide_eq_true rfl⟩ (q_iload_n c_38_23 rfl (q_iret c_38_24 rfl ?_))
    exact K c_7 y_10 hI_8 (fun a j hm => (hF_9 a j hm).trans (hF_3 a j (fun h => hm (Or.inl h)))) ⟨hy_10.1, (q_dec870c4c h_11)⟩
  · refine v_if_ne_f (t := 23) c_38_14 rfl (Decidable.not_not.mp h_12) (q_aload_n c_38_17 rfl (q_iconst c_38_18 (q_iload_n c_38_19 rfl (v_cv c_38_20 km_3_51 rfl rfl (Nat.le_of_ble_eq_true rfl) ⟨⟨rfl, rfl⟩, Nat.le_of_ble_eq_true rfl, rfl⟩ (Nat.le_of_ble_eq_true rfl) (Nat.le_of_ble_eq_true rfl) (s_7 (a1 := 2) (a2 := y_4) hI_8 (show 1 ≤ 2 ∧ 2 ≤ 3 from ⟨of_decide_eq_true rfl, of_decide_eq_true rfl⟩) (show 0 ≤ y_4 ∧ y_4 ≤ 600 from hy_4) (fun c_13 hI_14 hF_15 h_16 => (bk_inl ?_)))))))
    have h_17 := ir_1_4 hI_14
    refine q_iload_n c_38_23 rfl (q_iret c_38_24 rfl ?_)
    exact K c_13 y_10 hI_14 (fun a j hm => (hF_15 a j (qv_7ce279f74 hm)).trans ((hF_9 a j hm).trans (hF_3 a j (fun h => hm (Or.inl h))))) ⟨hy_10.1, (q_ab67c736b h_12)⟩

set_option maxRecDepth 100000 in
set_option maxHeartbeats 4000000 in
theorem s_39 {sc : List Int32} {e : Int} {d u P Q : Nat} {c : ME} {Z : AR → Prop} (hI : Iv u e P Q c)  (K : ∀ (c2 : ME) (y : Int), Iv u e P Q c2 → (∀ (a : Nat) (j : Int), ¬ ((a = 1 ∧ j = 2)) → c2 a j = c a j) → (-1) ≤ y ∧ y ≤ 255 → Z (.inl (some (vi y)), Wd P Q P P c2, 0, 0)) : Wp sc (d + 8) 39 0 [(0, .ref 1)] [] (Wd P Q P P c) 0 0 Z := by
  have hP := iv_P hI
  have hQ := iv_Q hI
  refine q_aload_n c_39_0 rfl (v_cv c_39_1 km_5_41 rfl rfl (Nat.le_of_ble_eq_true rfl) ⟨⟨rfl, rfl⟩, Nat.le_of_ble_eq_true rfl, rfl⟩ (Nat.le_of_ble_eq_true rfl) (Nat.le_of_ble_eq_true rfl) (s_3 hI (fun c_1 y_4 hI_2 hF_3 hy_4 h_5 => (bk_inl ?_))))
  have h_6 := ir_1_2 hI_2
  refine q_aload_n c_39_4 rfl ?_
  have h_7 := ir_1_1 hI
  have kn_8 : Hid (c_1 1 1 = c 1 1) := hF_3 1 1 (fun h => absurd h.2 (ni rfl))
  refine v_gi (z := 1) (v := c 1 1) c_39_5 kf_5_32 rfl (Nat.le_of_ble_eq_true rfl) rfl rfl (hid kn_8) ?_
  by_cases h_9 : y_4 ≥ c 1 1
  · refine v_ic_ge_t (t := 27) c_39_8 rfl ⟨(q_3b2b08511 h_7), h_9, (ler hy_4.2 rfl)⟩ (q_iconst c_39_27 (q_iret c_39_28 rfl ?_))
    exact K c_1 (-1) hI_2 (fun a j hm => hF_3 a j hm) ⟨of_decide_eq_true rfl, of_decide_eq_true rfl⟩
  · refine v_ic_ge_f (t := 27) c_39_8 rfl ⟨(lel hy_4.1 rfl), (Int.not_le.mp h_9), (q_3885e607f h_7)⟩ (q_aload_n c_39_11 rfl (v_gr (t := 2) c_39_12 kf_5_9 rfl (Nat.le_of_ble_eq_true rfl) rfl (q_aload_n c_39_15 rfl (v_gi (z := 2) (v := c_1 1 2) c_39_16 kf_5_35 rfl (Nat.le_of_ble_eq_true rfl) rfl rfl rfl ?_))))
    have h_10 := ir_2 hI (c_1 1 2)
    have kn_11 : Hid (c_1 2 (c_1 1 2) = c 2 (c_1 1 2)) := hF_3 2 (c_1 1 2) (fun h => absurd h.1 (nn rfl))
    refine v_ba (v := c 2 (c_1 1 2)) c_39_19 rfl (of_decide_eq_true rfl) (of_decide_eq_true rfl) ⟨h_6.1, (q_28e14c504 h_5 h_7 h_9)⟩ (hid kn_11) (v_sip c_39_20 (of_decide_eq_true rfl) (v_and8 (v := ((c 2 (c_1 1 2)) % 256)) rfl rfl (q_goto (t := 28) c_39_24 rfl (q_iret c_39_28 rfl ?_))))
    exact K c_1 ((c 2 (c_1 1 2)) % 256) hI_2 (fun a j hm => hF_3 a j hm) ⟨by omega, by omega⟩

set_option maxRecDepth 100000 in
set_option maxHeartbeats 4000000 in
theorem s_40 {sc : List Int32} {d u P Q : Nat} {c : ME} {t : Int} {a4 : Int} {Z : AR → Prop} (hI : Iv u t P Q c) (ht : 0 ≤ t ∧ t ≤ 37) (ha4 : 0 ≤ a4 ∧ a4 ≤ 6) (hq0 : (t + 1 ≤ c 7 2)) (hq1 : (a4 ≤ 5) ∨ (c 8 (5 * t) < 7) ∨ (c 8 (5 * t) > 7)) (H41 : ∀ (c : ME) (Z : AR → Prop), a4 + 1 ≤ 6 → Iv u (-1) P Q c → (∀ c2 : ME, Iv u (-1) P Q c2 → (∀ (a : Nat) (j : Int), ¬ ((a = 1 ∧ j = 2) ∨ (a = 1 ∧ j = 4) ∨ (a = 1 ∧ j = 5) ∨ (a = 7 ∧ j = 2) ∨ (a = 8 ∧ j ≥ 5 * c 7 2)) → c2 a j = c a j) → (c2 7 2 ≥ c 7 2) → Z (.inl none, Wd P Q P P c2, 0, 0)) → Wp sc (d + 10) 41 0 [(0, .ref 7), (1, .ref 1), (2, .ref P), (3, vi (a4 + 1))] [] (Wd P Q P P c) 0 0 Z) (K : ∀ (c2 : ME), Iv u (-1) P Q c2 → (∀ (a : Nat) (j : Int), ¬ ((a = 1 ∧ j = 2) ∨ (a = 1 ∧ j = 4) ∨ (a = 1 ∧ j = 5) ∨ (a = 7 ∧ j = 2) ∨ (a = 8 ∧ j ≥ 5 * t)) → c2 a j = c a j) → ((c2 7 2 ≥ c 7 2)) → Z (.inl (none), Wd P Q P P c2, 0, 0)) : Wp sc (d + 11) 40 0 [(0, .ref 7), (1, .ref 1), (2, .ref P), (3, vi (5 * t)), (4, vi a4)] [] (Wd P Q P P c) 0 0 Z := by
  have hP := iv_P hI
  have hQ := iv_Q hI
  have h_1 := ir_7_2 hI
  have h_2 := ir_8 hI (5 * t)
  refine q_aload_n c_40_0 rfl (v_gr (t := 8) c_40_1 kf_3_11 rfl (Nat.le_of_ble_eq_true rfl) rfl (q_iload_n c_40_4 rfl (v_ia (v := c 8 (5 * t)) c_40_5 rfl (of_decide_eq_true rfl) (of_decide_eq_true rfl) ⟨(q_455052922 ht), (q_7c821fbfb ht)⟩ rfl ?_)))
  by_cases h_3 : c 8 (5 * t) = 0
  · skip
    refine v_tsw_i (t := 52) 0 c_40_6 (by omega) (of_decide_eq_true rfl) rfl (of_decide_eq_true rfl) (q_aload_n c_40_52 rfl (v_gr (t := 8) c_40_53 kf_3_11 rfl (Nat.le_of_ble_eq_true rfl) rfl (q_iload_n c_40_56 rfl (q_iconst c_40_57 (v_iadd (v := 5 * t + 1) c_40_58 rfl (q_aload_n c_40_59 rfl (q_aload_n c_40_60 rfl ?_)))))))
    have h_4 := ir_p0_1 hI hP
    refine v_gi (z := 1) (v := c P 1) c_40_61 kf_3_68 (ck_p0 hP) (a68z hP) rfl rfl rfl (q_iconst c_40_64 (v_isub (v := c P 1 - 1) c_40_65 rfl (v_cv c_40_66 km_3_73 rfl rfl (Nat.le_of_ble_eq_true rfl) ⟨⟨rfl, rfl⟩, Nat.le_of_ble_eq_true rfl, rfl⟩ (Nat.le_of_ble_eq_true rfl) (Nat.le_of_ble_eq_true rfl) (s_8 (a1 := c P 1 - 1) hI (show (-1) ≤ c P 1 - 1 ∧ c P 1 - 1 ≤ 9999 from ⟨(rgm_l h_4.1 (of_decide_eq_true rfl)), (rgm_h h_4.2 (of_decide_eq_true rfl))⟩) (fun c_5 y_8 hI_6 hF_7 hy_8 h_9 => (bk_inl (v_is c_40_69 rfl (of_decide_eq_true rfl) (of_decide_eq_true rfl) ⟨(q_1416f500c ht), (q_6719517c6 ht)⟩ (q_aload_n c_40_70 rfl (v_gr (t := 8) c_40_71 kf_3_11 rfl (Nat.le_of_ble_eq_true rfl) rfl ?_)))))))))
    refine q_iload_n c_40_74 rfl (q_iconst c_40_75 (v_iadd (v := 5 * t + 2) c_40_76 rfl (q_aload_n c_40_77 rfl (q_aload_n c_40_78 rfl ?_))))
    have h_10 := ir_p0_0 hI hP
    have kn_11 : Hid (c_5 P 0 = c P 0) := hF_7 P 0 (qn_1b31dbfca hP)
    refine v_gi (z := 0) (v := c P 0) c_40_79 kf_3_77 (ck_p0 hP) (a68z hP) rfl rfl ((up_c (np0 hP rfl)).trans (hid kn_11)) (q_iconst c_40_82 (v_isub (v := c P 0 - 1) c_40_83 rfl ?_))
    have hI_12 := iw8_1 (t := t) (j := 5 * t + 1) (v := y_8) hI_6 (rfl) ⟨hy_8.1, (ler hy_8.2 rfl)⟩
    refine v_cv c_40_84 km_3_73 rfl rfl (Nat.le_of_ble_eq_true rfl) ⟨⟨rfl, rfl⟩, Nat.le_of_ble_eq_true rfl, rfl⟩ (Nat.le_of_ble_eq_true rfl) (Nat.le_of_ble_eq_true rfl) (s_8 (a1 := c P 0 - 1) hI_12 (show (-1) ≤ c P 0 - 1 ∧ c P 0 - 1 ≤ 9999 from ⟨(q_68889d1a6 h_10), (q_57c3d1df3 h_10)⟩) (fun c_13 y_16 hI_14 hF_15 hy_16 h_17 => (bk_inl (v_is c_40_87 rfl (of_decide_eq_true rfl) (of_decide_eq_true rfl) ⟨(q_ffaf02070 ht), (q_311969902 ht)⟩ (q_goto (t := 349) c_40_88 rfl (q_vret rfl rfl ?_))))))
    have hI_18 := iw8_2 (t := t) (j := 5 * t + 2) (v := y_16) hI_14 (rfl) ⟨hy_16.1, (q_16a7703bf h_10 h_17)⟩
    have kn_19 : Hid (c_5 8 (5 * t) = c 8 (5 * t)) := hF_7 8 (5 * t) qn_40936bc4a
    have kn_20 : Hid (c_13 8 (5 * t) = c 8 (5 * t)) := (hF_15 8 (5 * t) qn_40936bc4a).trans ((up_n ((ne_0a (ni rfl)))).trans (hid kn_19))
    have q_21 : (up c_13 8 (5 * t + 2) y_16) 8 (5 * t) = c 8 (5 * t) := ((up_n ((ne_0a (ni rfl)))).trans (hid kn_20))
    have kn_22 : Hid (c_13 8 (5 * t + 1) = y_8) := (hF_15 8 (5 * t + 1) qn_40936bc4a).trans (up_e rfl)
    have q_23 : (up c_13 8 (5 * t + 2) y_16) 8 (5 * t + 1) = y_8 := ((up_n ((ne_aa (ni rfl)))).trans (hid kn_22))
    have q_24 : (up c_13 8 (5 * t + 2) y_16) 8 (5 * t + 2) = y_16 := (up_e rfl)
    have h_25 := ir_8 hI (5 * t + 3)
    have kn_26 : Hid (c_5 8 (5 * t + 3) = c 8 (5 * t + 3)) := hF_7 8 (5 * t + 3) qn_40936bc4a
    have kn_27 : Hid (c_13 8 (5 * t + 3) = c 8 (5 * t + 3)) := (hF_15 8 (5 * t + 3) qn_40936bc4a).trans ((up_n ((ne_aa (ni rfl)))).trans (hid kn_26))
    have q_28 : (up c_13 8 (5 * t + 2) y_16) 8 (5 * t + 3) = c 8 (5 * t + 3) := ((up_n ((ne_aa (ni rfl)))).trans (hid kn_27))
    have h_29 := ir_8 hI (5 * t + 4)
    have kn_30 : Hid (c_5 8 (5 * t + 4) = c 8 (5 * t + 4)) := hF_7 8 (5 * t + 4) qn_40936bc4a
    have kn_31 : Hid (c_13 8 (5 * t + 4) = c 8 (5 * t + 4)) := (hF_15 8 (5 * t + 4) qn_40936bc4a).trans ((up_n ((ne_aa (ni rfl)))).trans (hid kn_30))
    have q_32 : (up c_13 8 (5 * t + 2) y_16) 8 (5 * t + 4) = c 8 (5 * t + 4) := ((up_n ((ne_aa (ni rfl)))).trans (hid kn_31))
    have hI_33 : Iv u (-1) P Q (up c_13 8 (5 * t + 2) y_16) := iv_close8 (t := t) hI_18 (by rw [q_21, q_23, q_24, q_28, q_32]; exact ⟨(fun e9 => ⟨(q_9c0cd5a3a h_4 h_9), (q_7514a81f1 h_10 h_17)⟩), (fun e9 => absurd e9 ((q_7e9ffde01 h_3))), (fun e9 => absurd e9 ((q_4d25412af h_3))), (fun e9 => absurd e9 ((q_1dcad14fe h_3))), (fun e9 => absurd e9 ((q_8f0696a92 h_3))), (fun e9 => absurd e9 ((q_484d5e57f h_3)))⟩)
    have kn_34 : Hid (c_5 7 2 = c 7 2) := hF_7 7 2 qn_e31e1496e
    have kn_35 : Hid (c_13 7 2 = c 7 2) := (hF_15 7 2 qn_e31e1496e).trans ((up_c (nn rfl)).trans (hid kn_34))
    have h_36 : (up c_13 8 (5 * t + 2) y_16) 7 2 = c 7 2 := ((up_c (nn rfl)).trans (hid kn_35))
    exact K (up c_13 8 (5 * t + 2) y_16) hI_33 (fun a j hm => (up_b (Decidable.or_iff_not_imp_left.mpr (fun h1 h2 => hm (Or.inr (Or.inr (Or.inr (Or.inr ⟨Decidable.not_not.mp h1, (Int.le_trans ((q_68bb02467)) (Int.le_of_eq h2.symm))⟩))))))).trans ((hF_15 a j (qv_d1fb82d1b hm)).trans ((up_b (Decidable.or_iff_not_imp_left.mpr (fun h1 h2 => hm (Or.inr (Or.inr (Or.inr (Or.inr ⟨Decidable.not_not.mp h1, (Int.le_trans ((q_c48eb2e77)) (Int.le_of_eq h2.symm))⟩))))))).trans (hF_7 a j (qv_d1fb82d1b hm))))) ((q_e074ea49a))
  by_cases h_37 : c 8 (5 * t) = 1
  · skip
    refine v_tsw_i (t := 91) 1 rfl (by omega) (of_decide_eq_true rfl) rfl (of_decide_eq_true rfl) (q_aload_n c_40_91 rfl (v_gr (t := 8) c_40_92 kf_3_11 rfl (Nat.le_of_ble_eq_true rfl) rfl (q_iload_n c_40_95 rfl (q_iconst c_40_96 (v_iadd (v := 5 * t + 1) c_40_97 rfl (q_aload_n c_40_98 rfl (q_aload_n c_40_99 rfl ?_)))))))
    have h_38 := ir_p0_2 hI hP
    refine v_gi (z := 2) (v := c P 2) c_40_100 kf_3_80 (ck_p0 hP) (a68z hP) rfl rfl rfl (q_iconst c_40_103 (v_isub (v := c P 2 - 1) c_40_104 rfl (v_cv c_40_105 km_3_73 rfl rfl (Nat.le_of_ble_eq_true rfl) ⟨⟨rfl, rfl⟩, Nat.le_of_ble_eq_true rfl, rfl⟩ (Nat.le_of_ble_eq_true rfl) (Nat.le_of_ble_eq_true rfl) (s_8 (a1 := c P 2 - 1) hI (show (-1) ≤ c P 2 - 1 ∧ c P 2 - 1 ≤ 9999 from ⟨(rgm_l h_38.1 (of_decide_eq_true rfl)), (rgm_h h_38.2 (of_decide_eq_true rfl))⟩) (fun c_39 y_42 hI_40 hF_41 hy_42 h_43 => (bk_inl (v_is c_40_108 rfl (of_decide_eq_true rfl) (of_decide_eq_true rfl) ⟨(q_1416f500c ht), (q_6719517c6 ht)⟩ (q_aload_n c_40_109 rfl (v_gr (t := 8) c_40_110 kf_3_11 rfl (Nat.le_of_ble_eq_true rfl) rfl ?_)))))))))
    refine q_iload_n c_40_113 rfl (q_iconst c_40_114 (v_iadd (v := 5 * t + 2) c_40_115 rfl (q_aload_n c_40_116 rfl (q_aload_n c_40_117 rfl ?_))))
    have h_44 := ir_p0_0 hI hP
    have kn_45 : Hid (c_39 P 0 = c P 0) := hF_41 P 0 (qn_1b31dbfca hP)
    refine v_gi (z := 0) (v := c P 0) c_40_118 kf_3_77 (ck_p0 hP) (a68z hP) rfl rfl ((up_c (np0 hP rfl)).trans (hid kn_45)) (q_iconst c_40_121 (v_isub (v := c P 0 - 1) c_40_122 rfl ?_))
    have hI_46 := iw8_1 (t := t) (j := 5 * t + 1) (v := y_42) hI_40 (rfl) ⟨hy_42.1, (ler hy_42.2 rfl)⟩
    refine v_cv c_40_123 km_3_73 rfl rfl (Nat.le_of_ble_eq_true rfl) ⟨⟨rfl, rfl⟩, Nat.le_of_ble_eq_true rfl, rfl⟩ (Nat.le_of_ble_eq_true rfl) (Nat.le_of_ble_eq_true rfl) (s_8 (a1 := c P 0 - 1) hI_46 (show (-1) ≤ c P 0 - 1 ∧ c P 0 - 1 ≤ 9999 from ⟨(q_68889d1a6 h_44), (q_57c3d1df3 h_44)⟩) (fun c_47 y_50 hI_48 hF_49 hy_50 h_51 => (bk_inl (v_is c_40_126 rfl (of_decide_eq_true rfl) (of_decide_eq_true rfl) ⟨(q_ffaf02070 ht), (q_311969902 ht)⟩ (q_aload_n c_40_127 rfl (v_gr (t := 8) c_40_128 kf_3_11 rfl (Nat.le_of_ble_eq_true rfl) rfl (q_iload_n c_40_131 rfl (q_iconst c_40_132 (v_iadd (v := 5 * t + 3) c_40_133 rfl ?_)))))))))
    refine q_aload_n c_40_134 rfl (q_aload_n c_40_135 rfl ?_)
    have kn_52 : Hid (c_47 P 0 = c P 0) := (hF_49 P 0 (qn_1b31dbfca hP)).trans ((up_c (np0 hP rfl)).trans (hid kn_45))
    refine v_gi (z := 0) (v := c P 0) c_40_136 kf_3_77 (ck_p0 hP) (a68z hP) rfl rfl ((up_c (np0 hP rfl)).trans (hid kn_52)) (q_iconst c_40_139 (v_isub (v := c P 0 - 1) c_40_140 rfl ?_))
    have hI_53 := iw8_2 (t := t) (j := 5 * t + 2) (v := y_50) hI_48 (rfl) ⟨hy_50.1, (q_16a7703bf h_44 h_51)⟩
    refine v_cv c_40_141 km_3_73 rfl rfl (Nat.le_of_ble_eq_true rfl) ⟨⟨rfl, rfl⟩, Nat.le_of_ble_eq_true rfl, rfl⟩ (Nat.le_of_ble_eq_true rfl) (Nat.le_of_ble_eq_true rfl) (s_8 (a1 := c P 0 - 1) hI_53 (show (-1) ≤ c P 0 - 1 ∧ c P 0 - 1 ≤ 9999 from ⟨(q_68889d1a6 h_44), (q_57c3d1df3 h_44)⟩) (fun c_54 y_57 hI_55 hF_56 hy_57 h_58 => (bk_inl (v_is c_40_144 rfl (of_decide_eq_true rfl) (of_decide_eq_true rfl) ⟨(q_a57922852 ht), (q_be1adda5a ht)⟩ (q_aload_n c_40_145 rfl (v_gr (t := 8) c_40_146 kf_3_11 rfl (Nat.le_of_ble_eq_true rfl) rfl (q_iload_n c_40_149 rfl (q_iconst c_40_150 (v_iadd (v := 5 * t + 4) c_40_151 rfl ?_)))))))))
    refine q_aload_n c_40_152 rfl (q_aload_n c_40_153 rfl ?_)
    have kn_59 : Hid (c_54 P 0 = c P 0) := (hF_56 P 0 (qn_1b31dbfca hP)).trans ((up_c (np0 hP rfl)).trans (hid kn_52))
    refine v_gi (z := 0) (v := c P 0) c_40_154 kf_3_77 (ck_p0 hP) (a68z hP) rfl rfl ((up_c (np0 hP rfl)).trans (hid kn_59)) (q_iconst c_40_157 (v_isub (v := c P 0 - 1) c_40_158 rfl ?_))
    have hI_60 := iw8_3 (t := t) (j := 5 * t + 3) (v := y_57) hI_55 (rfl) ⟨hy_57.1, (ler hy_57.2 rfl)⟩
    refine v_cv c_40_159 km_3_73 rfl rfl (Nat.le_of_ble_eq_true rfl) ⟨⟨rfl, rfl⟩, Nat.le_of_ble_eq_true rfl, rfl⟩ (Nat.le_of_ble_eq_true rfl) (Nat.le_of_ble_eq_true rfl) (s_8 (a1 := c P 0 - 1) hI_60 (show (-1) ≤ c P 0 - 1 ∧ c P 0 - 1 ≤ 9999 from ⟨(q_68889d1a6 h_44), (q_57c3d1df3 h_44)⟩) (fun c_61 y_64 hI_62 hF_63 hy_64 h_65 => (bk_inl (v_is c_40_162 rfl (of_decide_eq_true rfl) (of_decide_eq_true rfl) ⟨(q_30157bdbc ht), (q_481aa6703 ht)⟩ (q_goto (t := 349) c_40_163 rfl (q_vret rfl rfl ?_))))))
    have hI_66 := iw8_4 (t := t) (j := 5 * t + 4) (v := y_64) hI_62 (rfl) ⟨hy_64.1, (ler hy_64.2 rfl)⟩
    have kn_67 : Hid (c_39 8 (5 * t) = c 8 (5 * t)) := hF_41 8 (5 * t) qn_40936bc4a
    have kn_68 : Hid (c_47 8 (5 * t) = c 8 (5 * t)) := (hF_49 8 (5 * t) qn_40936bc4a).trans ((up_n ((ne_0a (ni rfl)))).trans (hid kn_67))
    have kn_69 : Hid (c_54 8 (5 * t) = c 8 (5 * t)) := (hF_56 8 (5 * t) qn_40936bc4a).trans ((up_n ((ne_0a (ni rfl)))).trans (hid kn_68))
    have kn_70 : Hid (c_61 8 (5 * t) = c 8 (5 * t)) := (hF_63 8 (5 * t) qn_40936bc4a).trans ((up_n ((ne_0a (ni rfl)))).trans (hid kn_69))
    have q_71 : (up c_61 8 (5 * t + 4) y_64) 8 (5 * t) = c 8 (5 * t) := ((up_n ((ne_0a (ni rfl)))).trans (hid kn_70))
    have kn_72 : Hid (c_47 8 (5 * t + 1) = y_42) := (hF_49 8 (5 * t + 1) qn_40936bc4a).trans (up_e rfl)
    have kn_73 : Hid (c_54 8 (5 * t + 1) = y_42) := (hF_56 8 (5 * t + 1) qn_40936bc4a).trans ((up_n ((ne_aa (ni rfl)))).trans (hid kn_72))
    have kn_74 : Hid (c_61 8 (5 * t + 1) = y_42) := (hF_63 8 (5 * t + 1) qn_40936bc4a).trans ((up_n ((ne_aa (ni rfl)))).trans (hid kn_73))
    have q_75 : (up c_61 8 (5 * t + 4) y_64) 8 (5 * t + 1) = y_42 := ((up_n ((ne_aa (ni rfl)))).trans (hid kn_74))
    have kn_76 : Hid (c_54 8 (5 * t + 2) = y_50) := (hF_56 8 (5 * t + 2) qn_40936bc4a).trans (up_e rfl)
    have kn_77 : Hid (c_61 8 (5 * t + 2) = y_50) := (hF_63 8 (5 * t + 2) qn_40936bc4a).trans ((up_n ((ne_aa (ni rfl)))).trans (hid kn_76))
    have q_78 : (up c_61 8 (5 * t + 4) y_64) 8 (5 * t + 2) = y_50 := ((up_n ((ne_aa (ni rfl)))).trans (hid kn_77))
    have kn_79 : Hid (c_61 8 (5 * t + 3) = y_57) := (hF_63 8 (5 * t + 3) qn_40936bc4a).trans (up_e rfl)
    have q_80 : (up c_61 8 (5 * t + 4) y_64) 8 (5 * t + 3) = y_57 := ((up_n ((ne_aa (ni rfl)))).trans (hid kn_79))
    have q_81 : (up c_61 8 (5 * t + 4) y_64) 8 (5 * t + 4) = y_64 := (up_e rfl)
    have hI_82 : Iv u (-1) P Q (up c_61 8 (5 * t + 4) y_64) := iv_close8 (t := t) hI_66 (by rw [q_71, q_75, q_78, q_80, q_81]; exact ⟨(fun e9 => absurd e9 ((q_72815ef9e h_37))), (fun e9 => ⟨(q_9c0cd5a3a h_38 h_43), (q_7514a81f1 h_44 h_51), (q_7514a81f1 h_44 h_58), (q_7514a81f1 h_44 h_65)⟩), (fun e9 => absurd e9 ((q_4a2fa9e4d h_37))), (fun e9 => absurd e9 ((q_4d88fe714 h_37))), (fun e9 => absurd e9 ((q_ebaa6bc57 h_37))), (fun e9 => absurd e9 ((q_620c3e4c8 h_37)))⟩)
    have kn_83 : Hid (c_39 7 2 = c 7 2) := hF_41 7 2 qn_e31e1496e
    have kn_84 : Hid (c_47 7 2 = c 7 2) := (hF_49 7 2 qn_e31e1496e).trans ((up_c (nn rfl)).trans (hid kn_83))
    have kn_85 : Hid (c_54 7 2 = c 7 2) := (hF_56 7 2 qn_e31e1496e).trans ((up_c (nn rfl)).trans (hid kn_84))
    have kn_86 : Hid (c_61 7 2 = c 7 2) := (hF_63 7 2 qn_e31e1496e).trans ((up_c (nn rfl)).trans (hid kn_85))
    have h_87 : (up c_61 8 (5 * t + 4) y_64) 7 2 = c 7 2 := ((up_c (nn rfl)).trans (hid kn_86))
    exact K (up c_61 8 (5 * t + 4) y_64) hI_82 (fun a j hm => (up_b (Decidable.or_iff_not_imp_left.mpr (fun h1 h2 => hm (Or.inr (Or.inr (Or.inr (Or.inr ⟨Decidable.not_not.mp h1, (Int.le_trans ((q_7bbc2d554)) (Int.le_of_eq h2.symm))⟩))))))).trans ((hF_63 a j (qv_d1fb82d1b hm)).trans ((up_b (Decidable.or_iff_not_imp_left.mpr (fun h1 h2 => hm (Or.inr (Or.inr (Or.inr (Or.inr ⟨Decidable.not_not.mp h1, (Int.le_trans ((q_52f2ef5b6)) (Int.le_of_eq h2.symm))⟩))))))).trans ((hF_56 a j (qv_d1fb82d1b hm)).trans ((up_b (Decidable.or_iff_not_imp_left.mpr (fun h1 h2 => hm (Or.inr (Or.inr (Or.inr (Or.inr ⟨Decidable.not_not.mp h1, (Int.le_trans ((q_68bb02467)) (Int.le_of_eq h2.symm))⟩))))))).trans ((hF_49 a j (qv_d1fb82d1b hm)).trans ((up_b (Decidable.or_iff_not_imp_left.mpr (fun h1 h2 => hm (Or.inr (Or.inr (Or.inr (Or.inr ⟨Decidable.not_not.mp h1, (Int.le_trans ((q_c48eb2e77)) (Int.le_of_eq h2.symm))⟩))))))).trans (hF_41 a j (qv_d1fb82d1b hm))))))))) ((q_e074ea49a))
  by_cases h_88 : c 8 (5 * t) = 2
  · skip
    refine v_tsw_i (t := 166) 2 rfl (by omega) (of_decide_eq_true rfl) rfl (of_decide_eq_true rfl) (q_aload_n c_40_166 rfl (v_gr (t := 8) c_40_167 kf_3_11 rfl (Nat.le_of_ble_eq_true rfl) rfl (q_iload_n c_40_170 rfl (q_iconst c_40_171 (v_iadd (v := 5 * t + 1) c_40_172 rfl (q_aload_n c_40_173 rfl (q_aload_n c_40_174 rfl ?_)))))))
    have h_89 := ir_p0_0 hI hP
    refine v_gi (z := 0) (v := c P 0) c_40_175 kf_3_77 (ck_p0 hP) (a68z hP) rfl rfl rfl (q_iconst c_40_178 (v_isub (v := c P 0 - 1) c_40_179 rfl (v_cv c_40_180 km_3_73 rfl rfl (Nat.le_of_ble_eq_true rfl) ⟨⟨rfl, rfl⟩, Nat.le_of_ble_eq_true rfl, rfl⟩ (Nat.le_of_ble_eq_true rfl) (Nat.le_of_ble_eq_true rfl) (s_8 (a1 := c P 0 - 1) hI (show (-1) ≤ c P 0 - 1 ∧ c P 0 - 1 ≤ 9999 from ⟨(rgm_l h_89.1 (of_decide_eq_true rfl)), (rgm_h h_89.2 (of_decide_eq_true rfl))⟩) (fun c_90 y_93 hI_91 hF_92 hy_93 h_94 => (bk_inl (v_is c_40_183 rfl (of_decide_eq_true rfl) (of_decide_eq_true rfl) ⟨(q_1416f500c ht), (q_6719517c6 ht)⟩ (q_aload_n c_40_184 rfl (v_gr (t := 8) c_40_185 kf_3_11 rfl (Nat.le_of_ble_eq_true rfl) rfl ?_)))))))))
    refine q_iload_n c_40_188 rfl (q_iconst c_40_189 (v_iadd (v := 5 * t + 2) c_40_190 rfl (q_aload_n c_40_191 rfl (q_aload_n c_40_192 rfl ?_))))
    have kn_95 : Hid (c_90 P 0 = c P 0) := hF_92 P 0 (qn_1b31dbfca hP)
    refine v_gi (z := 0) (v := c P 0) c_40_193 kf_3_77 (ck_p0 hP) (a68z hP) rfl rfl ((up_c (np0 hP rfl)).trans (hid kn_95)) (q_iconst c_40_196 (v_isub (v := c P 0 - 1) c_40_197 rfl ?_))
    have hI_96 := iw8_1 (t := t) (j := 5 * t + 1) (v := y_93) hI_91 (rfl) ⟨hy_93.1, (ler hy_93.2 rfl)⟩
    refine v_cv c_40_198 km_3_73 rfl rfl (Nat.le_of_ble_eq_true rfl) ⟨⟨rfl, rfl⟩, Nat.le_of_ble_eq_true rfl, rfl⟩ (Nat.le_of_ble_eq_true rfl) (Nat.le_of_ble_eq_true rfl) (s_8 (a1 := c P 0 - 1) hI_96 (show (-1) ≤ c P 0 - 1 ∧ c P 0 - 1 ≤ 9999 from ⟨(rgm_l h_89.1 (of_decide_eq_true rfl)), (rgm_h h_89.2 (of_decide_eq_true rfl))⟩) (fun c_97 y_100 hI_98 hF_99 hy_100 h_101 => (bk_inl (v_is c_40_201 rfl (of_decide_eq_true rfl) (of_decide_eq_true rfl) ⟨(q_ffaf02070 ht), (q_311969902 ht)⟩ (q_goto (t := 349) c_40_202 rfl (q_vret rfl rfl ?_))))))
    have hI_102 := iw8_2 (t := t) (j := 5 * t + 2) (v := y_100) hI_98 (rfl) ⟨hy_100.1, (q_7d5b8cb18 h_101 h_89)⟩
    have kn_103 : Hid (c_90 8 (5 * t) = c 8 (5 * t)) := hF_92 8 (5 * t) qn_40936bc4a
    have kn_104 : Hid (c_97 8 (5 * t) = c 8 (5 * t)) := (hF_99 8 (5 * t) qn_40936bc4a).trans ((up_n ((ne_0a (ni rfl)))).trans (hid kn_103))
    have q_105 : (up c_97 8 (5 * t + 2) y_100) 8 (5 * t) = c 8 (5 * t) := ((up_n ((ne_0a (ni rfl)))).trans (hid kn_104))
    have kn_106 : Hid (c_97 8 (5 * t + 1) = y_93) := (hF_99 8 (5 * t + 1) qn_40936bc4a).trans (up_e rfl)
    have q_107 : (up c_97 8 (5 * t + 2) y_100) 8 (5 * t + 1) = y_93 := ((up_n ((ne_aa (ni rfl)))).trans (hid kn_106))
    have q_108 : (up c_97 8 (5 * t + 2) y_100) 8 (5 * t + 2) = y_100 := (up_e rfl)
    have h_109 := ir_8 hI (5 * t + 3)
    have kn_110 : Hid (c_90 8 (5 * t + 3) = c 8 (5 * t + 3)) := hF_92 8 (5 * t + 3) qn_40936bc4a
    have kn_111 : Hid (c_97 8 (5 * t + 3) = c 8 (5 * t + 3)) := (hF_99 8 (5 * t + 3) qn_40936bc4a).trans ((up_n ((ne_aa (ni rfl)))).trans (hid kn_110))
    have q_112 : (up c_97 8 (5 * t + 2) y_100) 8 (5 * t + 3) = c 8 (5 * t + 3) := ((up_n ((ne_aa (ni rfl)))).trans (hid kn_111))
    have h_113 := ir_8 hI (5 * t + 4)
    have kn_114 : Hid (c_90 8 (5 * t + 4) = c 8 (5 * t + 4)) := hF_92 8 (5 * t + 4) qn_40936bc4a
    have kn_115 : Hid (c_97 8 (5 * t + 4) = c 8 (5 * t + 4)) := (hF_99 8 (5 * t + 4) qn_40936bc4a).trans ((up_n ((ne_aa (ni rfl)))).trans (hid kn_114))
    have q_116 : (up c_97 8 (5 * t + 2) y_100) 8 (5 * t + 4) = c 8 (5 * t + 4) := ((up_n ((ne_aa (ni rfl)))).trans (hid kn_115))
    have hI_117 : Iv u (-1) P Q (up c_97 8 (5 * t + 2) y_100) := iv_close8 (t := t) hI_102 (by rw [q_105, q_107, q_108, q_112, q_116]; exact ⟨(fun e9 => absurd e9 ((q_4b21d0ff9 h_88))), (fun e9 => absurd e9 ((q_70ecf1be4 h_88))), (fun e9 => ⟨(q_7514a81f1 h_89 h_94), (q_62a06eb7d h_101 h_89)⟩), (fun e9 => absurd e9 ((q_a930af015 h_88))), (fun e9 => absurd e9 ((q_fd6fe127c h_88))), (fun e9 => absurd e9 ((q_d20a2a3af h_88)))⟩)
    have kn_118 : Hid (c_90 7 2 = c 7 2) := hF_92 7 2 qn_e31e1496e
    have kn_119 : Hid (c_97 7 2 = c 7 2) := (hF_99 7 2 qn_e31e1496e).trans ((up_c (nn rfl)).trans (hid kn_118))
    have h_120 : (up c_97 8 (5 * t + 2) y_100) 7 2 = c 7 2 := ((up_c (nn rfl)).trans (hid kn_119))
    exact K (up c_97 8 (5 * t + 2) y_100) hI_117 (fun a j hm => (up_b (Decidable.or_iff_not_imp_left.mpr (fun h1 h2 => hm (Or.inr (Or.inr (Or.inr (Or.inr ⟨Decidable.not_not.mp h1, (Int.le_trans ((q_68bb02467)) (Int.le_of_eq h2.symm))⟩))))))).trans ((hF_99 a j (qv_d1fb82d1b hm)).trans ((up_b (Decidable.or_iff_not_imp_left.mpr (fun h1 h2 => hm (Or.inr (Or.inr (Or.inr (Or.inr ⟨Decidable.not_not.mp h1, (Int.le_trans ((q_c48eb2e77)) (Int.le_of_eq h2.symm))⟩))))))).trans (hF_92 a j (qv_d1fb82d1b hm))))) ((q_e074ea49a))
  by_cases h_121 : c 8 (5 * t) = 3
  · skip
    refine v_tsw_i (t := 205) 3 rfl (by omega) (of_decide_eq_true rfl) rfl (of_decide_eq_true rfl) (q_aload_n c_40_205 rfl (v_gr (t := 8) c_40_206 kf_3_11 rfl (Nat.le_of_ble_eq_true rfl) rfl (q_iload_n c_40_209 rfl (q_iconst c_40_210 (v_iadd (v := 5 * t + 1) c_40_211 rfl (q_aload_n c_40_212 rfl (q_aload_n c_40_213 rfl ?_)))))))
    have h_122 := ir_p0_0 hI hP
    refine v_gi (z := 0) (v := c P 0) c_40_214 kf_3_77 (ck_p0 hP) (a68z hP) rfl rfl rfl (q_iconst c_40_217 (v_isub (v := c P 0 - 1) c_40_218 rfl (v_cv c_40_219 km_3_73 rfl rfl (Nat.le_of_ble_eq_true rfl) ⟨⟨rfl, rfl⟩, Nat.le_of_ble_eq_true rfl, rfl⟩ (Nat.le_of_ble_eq_true rfl) (Nat.le_of_ble_eq_true rfl) (s_8 (a1 := c P 0 - 1) hI (show (-1) ≤ c P 0 - 1 ∧ c P 0 - 1 ≤ 9999 from ⟨(rgm_l h_122.1 (of_decide_eq_true rfl)), (rgm_h h_122.2 (of_decide_eq_true rfl))⟩) (fun c_123 y_126 hI_124 hF_125 hy_126 h_127 => (bk_inl (v_is c_40_222 rfl (of_decide_eq_true rfl) (of_decide_eq_true rfl) ⟨(q_1416f500c ht), (q_6719517c6 ht)⟩ (q_aload_n c_40_223 rfl (v_gr (t := 8) c_40_224 kf_3_11 rfl (Nat.le_of_ble_eq_true rfl) rfl ?_)))))))))
    refine q_iload_n c_40_227 rfl (q_iconst c_40_228 (v_iadd (v := 5 * t + 2) c_40_229 rfl (q_aload_n c_40_230 rfl (q_aload_n c_40_231 rfl ?_))))
    have kn_128 : Hid (c_123 P 0 = c P 0) := hF_125 P 0 (qn_1b31dbfca hP)
    refine v_gi (z := 0) (v := c P 0) c_40_232 kf_3_77 (ck_p0 hP) (a68z hP) rfl rfl ((up_c (np0 hP rfl)).trans (hid kn_128)) (q_iconst c_40_235 (v_isub (v := c P 0 - 1) c_40_236 rfl ?_))
    have hI_129 := iw8_1 (t := t) (j := 5 * t + 1) (v := y_126) hI_124 (rfl) ⟨hy_126.1, (ler hy_126.2 rfl)⟩
    refine v_cv c_40_237 km_3_73 rfl rfl (Nat.le_of_ble_eq_true rfl) ⟨⟨rfl, rfl⟩, Nat.le_of_ble_eq_true rfl, rfl⟩ (Nat.le_of_ble_eq_true rfl) (Nat.le_of_ble_eq_true rfl) (s_8 (a1 := c P 0 - 1) hI_129 (show (-1) ≤ c P 0 - 1 ∧ c P 0 - 1 ≤ 9999 from ⟨(rgm_l h_122.1 (of_decide_eq_true rfl)), (rgm_h h_122.2 (of_decide_eq_true rfl))⟩) (fun c_130 y_133 hI_131 hF_132 hy_133 h_134 => (bk_inl (v_is c_40_240 rfl (of_decide_eq_true rfl) (of_decide_eq_true rfl) ⟨(q_ffaf02070 ht), (q_311969902 ht)⟩ (q_aload_n c_40_241 rfl (v_gr (t := 8) c_40_242 kf_3_11 rfl (Nat.le_of_ble_eq_true rfl) rfl (q_iload_n c_40_245 rfl (q_iconst c_40_246 (v_iadd (v := 5 * t + 3) c_40_247 rfl ?_)))))))))
    refine q_aload_n c_40_248 rfl ?_
    have hI_135 := iw8_2 (t := t) (j := 5 * t + 2) (v := y_133) hI_131 (rfl) ⟨hy_133.1, (q_16a7703bf h_122 h_134)⟩
    refine q_call c_40_249 rfl rfl rfl (s_38 hI_135 (fun c_136 y_139 hI_137 hF_138 hy_139 => (bk_inl (v_is c_40_252 rfl (of_decide_eq_true rfl) (of_decide_eq_true rfl) ⟨(q_a57922852 ht), (q_be1adda5a ht)⟩ (q_goto (t := 349) c_40_253 rfl (q_vret rfl rfl ?_))))))
    have hI_140 := iw8_3 (t := t) (j := 5 * t + 3) (v := y_139) hI_137 (rfl) ⟨hy_139.1, (ler hy_139.2 rfl)⟩
    have kn_141 : Hid (c_123 8 (5 * t) = c 8 (5 * t)) := hF_125 8 (5 * t) qn_40936bc4a
    have kn_142 : Hid (c_130 8 (5 * t) = c 8 (5 * t)) := (hF_132 8 (5 * t) qn_40936bc4a).trans ((up_n ((ne_0a (ni rfl)))).trans (hid kn_141))
    have kn_143 : Hid (c_136 8 (5 * t) = c 8 (5 * t)) := (hF_138 8 (5 * t) qn_40936bc4a).trans ((up_n ((ne_0a (ni rfl)))).trans (hid kn_142))
    have q_144 : (up c_136 8 (5 * t + 3) y_139) 8 (5 * t) = c 8 (5 * t) := ((up_n ((ne_0a (ni rfl)))).trans (hid kn_143))
    have kn_145 : Hid (c_130 8 (5 * t + 1) = y_126) := (hF_132 8 (5 * t + 1) qn_40936bc4a).trans (up_e rfl)
    have kn_146 : Hid (c_136 8 (5 * t + 1) = y_126) := (hF_138 8 (5 * t + 1) qn_40936bc4a).trans ((up_n ((ne_aa (ni rfl)))).trans (hid kn_145))
    have q_147 : (up c_136 8 (5 * t + 3) y_139) 8 (5 * t + 1) = y_126 := ((up_n ((ne_aa (ni rfl)))).trans (hid kn_146))
    have kn_148 : Hid (c_136 8 (5 * t + 2) = y_133) := (hF_138 8 (5 * t + 2) qn_40936bc4a).trans (up_e rfl)
    have q_149 : (up c_136 8 (5 * t + 3) y_139) 8 (5 * t + 2) = y_133 := ((up_n ((ne_aa (ni rfl)))).trans (hid kn_148))
    have q_150 : (up c_136 8 (5 * t + 3) y_139) 8 (5 * t + 3) = y_139 := (up_e rfl)
    have h_151 := ir_8 hI (5 * t + 4)
    have kn_152 : Hid (c_123 8 (5 * t + 4) = c 8 (5 * t + 4)) := hF_125 8 (5 * t + 4) qn_40936bc4a
    have kn_153 : Hid (c_130 8 (5 * t + 4) = c 8 (5 * t + 4)) := (hF_132 8 (5 * t + 4) qn_40936bc4a).trans ((up_n ((ne_aa (ni rfl)))).trans (hid kn_152))
    have kn_154 : Hid (c_136 8 (5 * t + 4) = c 8 (5 * t + 4)) := (hF_138 8 (5 * t + 4) qn_40936bc4a).trans ((up_n ((ne_aa (ni rfl)))).trans (hid kn_153))
    have q_155 : (up c_136 8 (5 * t + 3) y_139) 8 (5 * t + 4) = c 8 (5 * t + 4) := ((up_n ((ne_aa (ni rfl)))).trans (hid kn_154))
    have hI_156 : Iv u (-1) P Q (up c_136 8 (5 * t + 3) y_139) := iv_close8 (t := t) hI_140 (by rw [q_144, q_147, q_149, q_150, q_155]; exact ⟨(fun e9 => absurd e9 ((q_118495b55 h_121))), (fun e9 => absurd e9 ((q_ee7c71cbc h_121))), (fun e9 => absurd e9 ((q_a585623bf h_121))), (fun e9 => ⟨(q_7514a81f1 h_122 h_127), (q_7514a81f1 h_122 h_134)⟩), (fun e9 => absurd e9 ((q_bc740e082 h_121))), (fun e9 => absurd e9 ((q_770103991 h_121)))⟩)
    have kn_157 : Hid (c_123 7 2 = c 7 2) := hF_125 7 2 qn_e31e1496e
    have kn_158 : Hid (c_130 7 2 = c 7 2) := (hF_132 7 2 qn_e31e1496e).trans ((up_c (nn rfl)).trans (hid kn_157))
    have kn_159 : Hid (c_136 7 2 = c 7 2) := (hF_138 7 2 qn_e31e1496e).trans ((up_c (nn rfl)).trans (hid kn_158))
    have h_160 : (up c_136 8 (5 * t + 3) y_139) 7 2 = c 7 2 := ((up_c (nn rfl)).trans (hid kn_159))
    exact K (up c_136 8 (5 * t + 3) y_139) hI_156 (fun a j hm => (up_b (Decidable.or_iff_not_imp_left.mpr (fun h1 h2 => hm (Or.inr (Or.inr (Or.inr (Or.inr ⟨Decidable.not_not.mp h1, (Int.le_trans ((q_52f2ef5b6)) (Int.le_of_eq h2.symm))⟩))))))).trans ((hF_138 a j (qv_d1fb82d1b hm)).trans ((up_b (Decidable.or_iff_not_imp_left.mpr (fun h1 h2 => hm (Or.inr (Or.inr (Or.inr (Or.inr ⟨Decidable.not_not.mp h1, (Int.le_trans ((q_68bb02467)) (Int.le_of_eq h2.symm))⟩))))))).trans ((hF_132 a j (qv_d1fb82d1b hm)).trans ((up_b (Decidable.or_iff_not_imp_left.mpr (fun h1 h2 => hm (Or.inr (Or.inr (Or.inr (Or.inr ⟨Decidable.not_not.mp h1, (Int.le_trans ((q_c48eb2e77)) (Int.le_of_eq h2.symm))⟩))))))).trans (hF_125 a j (qv_d1fb82d1b hm))))))) ((q_e074ea49a))
  by_cases h_161 : c 8 (5 * t) = 4
  · skip
    refine v_tsw_i (t := 256) 4 rfl (by omega) (of_decide_eq_true rfl) rfl (of_decide_eq_true rfl) (q_aload_n c_40_256 rfl (v_gr (t := 8) c_40_257 kf_3_11 rfl (Nat.le_of_ble_eq_true rfl) rfl (q_iload_n c_40_260 rfl (q_iconst c_40_261 (v_iadd (v := 5 * t + 1) c_40_262 rfl (q_aload_n c_40_263 rfl (q_aload_n c_40_264 rfl ?_)))))))
    have h_162 := ir_p0_2 hI hP
    refine v_gi (z := 2) (v := c P 2) c_40_265 kf_3_80 (ck_p0 hP) (a68z hP) rfl rfl rfl (q_iconst c_40_268 (v_isub (v := c P 2 - 1) c_40_269 rfl (v_cv c_40_270 km_3_73 rfl rfl (Nat.le_of_ble_eq_true rfl) ⟨⟨rfl, rfl⟩, Nat.le_of_ble_eq_true rfl, rfl⟩ (Nat.le_of_ble_eq_true rfl) (Nat.le_of_ble_eq_true rfl) (s_8 (a1 := c P 2 - 1) hI (show (-1) ≤ c P 2 - 1 ∧ c P 2 - 1 ≤ 9999 from ⟨(rgm_l h_162.1 (of_decide_eq_true rfl)), (rgm_h h_162.2 (of_decide_eq_true rfl))⟩) (fun c_163 y_166 hI_164 hF_165 hy_166 h_167 => (bk_inl (v_is c_40_273 rfl (of_decide_eq_true rfl) (of_decide_eq_true rfl) ⟨(q_1416f500c ht), (q_6719517c6 ht)⟩ (q_goto (t := 349) c_40_274 rfl (q_vret rfl rfl ?_)))))))))
    have hI_168 := iw8_1 (t := t) (j := 5 * t + 1) (v := y_166) hI_164 (rfl) ⟨hy_166.1, (ler hy_166.2 rfl)⟩
    have kn_169 : Hid (c_163 8 (5 * t) = c 8 (5 * t)) := hF_165 8 (5 * t) qn_40936bc4a
    have q_170 : (up c_163 8 (5 * t + 1) y_166) 8 (5 * t) = c 8 (5 * t) := ((up_n ((ne_0a (ni rfl)))).trans (hid kn_169))
    have q_171 : (up c_163 8 (5 * t + 1) y_166) 8 (5 * t + 1) = y_166 := (up_e rfl)
    have h_172 := ir_8 hI (5 * t + 2)
    have h_173 := ir_8_2 hI (j := 5 * t + 2) (by first | (clear ht ha4 hq0 h_1 h_2 h_161 h_162 h_172 hq1 h_3 h_37 h_88 h_121 h_167; omega) | omega)
    have kn_174 : Hid (c_163 8 (5 * t + 2) = c 8 (5 * t + 2)) := hF_165 8 (5 * t + 2) qn_40936bc4a
    have q_175 : (up c_163 8 (5 * t + 1) y_166) 8 (5 * t + 2) = c 8 (5 * t + 2) := ((up_n ((ne_aa (ni rfl)))).trans (hid kn_174))
    have h_176 := ir_8 hI (5 * t + 3)
    have kn_177 : Hid (c_163 8 (5 * t + 3) = c 8 (5 * t + 3)) := hF_165 8 (5 * t + 3) qn_40936bc4a
    have q_178 : (up c_163 8 (5 * t + 1) y_166) 8 (5 * t + 3) = c 8 (5 * t + 3) := ((up_n ((ne_aa (ni rfl)))).trans (hid kn_177))
    have h_179 := ir_8 hI (5 * t + 4)
    have kn_180 : Hid (c_163 8 (5 * t + 4) = c 8 (5 * t + 4)) := hF_165 8 (5 * t + 4) qn_40936bc4a
    have q_181 : (up c_163 8 (5 * t + 1) y_166) 8 (5 * t + 4) = c 8 (5 * t + 4) := ((up_n ((ne_aa (ni rfl)))).trans (hid kn_180))
    have hI_182 : Iv u (-1) P Q (up c_163 8 (5 * t + 1) y_166) := iv_close8 (t := t) hI_168 (by rw [q_170, q_171, q_175, q_178, q_181]; exact ⟨(fun e9 => absurd e9 ((q_eb19c88d8 h_161))), (fun e9 => absurd e9 ((q_07601ce50 h_161))), (fun e9 => absurd e9 ((q_660a9e4d8 h_161))), (fun e9 => absurd e9 ((q_a2f8c8f67 h_161))), (fun e9 => ((q_9c0cd5a3a h_162 h_167))), (fun e9 => absurd e9 ((q_fe9e9dcf4 h_161)))⟩)
    have kn_183 : Hid (c_163 7 2 = c 7 2) := hF_165 7 2 qn_e31e1496e
    have h_184 : (up c_163 8 (5 * t + 1) y_166) 7 2 = c 7 2 := ((up_c (nn rfl)).trans (hid kn_183))
    exact K (up c_163 8 (5 * t + 1) y_166) hI_182 (fun a j hm => (up_b (Decidable.or_iff_not_imp_left.mpr (fun h1 h2 => hm (Or.inr (Or.inr (Or.inr (Or.inr ⟨Decidable.not_not.mp h1, (Int.le_trans ((q_c48eb2e77)) (Int.le_of_eq h2.symm))⟩))))))).trans (hF_165 a j (qv_d1fb82d1b hm))) ((q_e074ea49a))
  by_cases h_185 : c 8 (5 * t) = 5
  · skip
    refine v_tsw_i (t := 277) 5 rfl (by omega) (of_decide_eq_true rfl) rfl (of_decide_eq_true rfl) (q_aload_n c_40_277 rfl (v_gr (t := 8) c_40_278 kf_3_11 rfl (Nat.le_of_ble_eq_true rfl) rfl (q_iload_n c_40_281 rfl (q_iconst c_40_282 (v_iadd (v := 5 * t + 1) c_40_283 rfl (q_aload_n c_40_284 rfl (q_aload_n c_40_285 rfl ?_)))))))
    have h_186 := ir_p0_0 hI hP
    refine v_gi (z := 0) (v := c P 0) c_40_286 kf_3_77 (ck_p0 hP) (a68z hP) rfl rfl rfl (q_iconst c_40_289 (v_isub (v := c P 0 - 1) c_40_290 rfl (v_cv c_40_291 km_3_73 rfl rfl (Nat.le_of_ble_eq_true rfl) ⟨⟨rfl, rfl⟩, Nat.le_of_ble_eq_true rfl, rfl⟩ (Nat.le_of_ble_eq_true rfl) (Nat.le_of_ble_eq_true rfl) (s_8 (a1 := c P 0 - 1) hI (show (-1) ≤ c P 0 - 1 ∧ c P 0 - 1 ≤ 9999 from ⟨(rgm_l h_186.1 (of_decide_eq_true rfl)), (rgm_h h_186.2 (of_decide_eq_true rfl))⟩) (fun c_187 y_190 hI_188 hF_189 hy_190 h_191 => (bk_inl (v_is c_40_294 rfl (of_decide_eq_true rfl) (of_decide_eq_true rfl) ⟨(q_1416f500c ht), (q_6719517c6 ht)⟩ (q_goto (t := 349) c_40_295 rfl (q_vret rfl rfl ?_)))))))))
    have hI_192 := iw8_1 (t := t) (j := 5 * t + 1) (v := y_190) hI_188 (rfl) ⟨hy_190.1, (ler hy_190.2 rfl)⟩
    have kn_193 : Hid (c_187 8 (5 * t) = c 8 (5 * t)) := hF_189 8 (5 * t) qn_40936bc4a
    have q_194 : (up c_187 8 (5 * t + 1) y_190) 8 (5 * t) = c 8 (5 * t) := ((up_n ((ne_0a (ni rfl)))).trans (hid kn_193))
    have q_195 : (up c_187 8 (5 * t + 1) y_190) 8 (5 * t + 1) = y_190 := (up_e rfl)
    have h_196 := ir_8 hI (5 * t + 2)
    have h_197 := ir_8_2 hI (j := 5 * t + 2) (by first | (clear ht ha4 hq0 h_1 h_2 h_185 h_186 h_196 hq1 h_3 h_37 h_88 h_121 h_161 h_191; omega) | omega)
    have kn_198 : Hid (c_187 8 (5 * t + 2) = c 8 (5 * t + 2)) := hF_189 8 (5 * t + 2) qn_40936bc4a
    have q_199 : (up c_187 8 (5 * t + 1) y_190) 8 (5 * t + 2) = c 8 (5 * t + 2) := ((up_n ((ne_aa (ni rfl)))).trans (hid kn_198))
    have h_200 := ir_8 hI (5 * t + 3)
    have kn_201 : Hid (c_187 8 (5 * t + 3) = c 8 (5 * t + 3)) := hF_189 8 (5 * t + 3) qn_40936bc4a
    have q_202 : (up c_187 8 (5 * t + 1) y_190) 8 (5 * t + 3) = c 8 (5 * t + 3) := ((up_n ((ne_aa (ni rfl)))).trans (hid kn_201))
    have h_203 := ir_8 hI (5 * t + 4)
    have kn_204 : Hid (c_187 8 (5 * t + 4) = c 8 (5 * t + 4)) := hF_189 8 (5 * t + 4) qn_40936bc4a
    have q_205 : (up c_187 8 (5 * t + 1) y_190) 8 (5 * t + 4) = c 8 (5 * t + 4) := ((up_n ((ne_aa (ni rfl)))).trans (hid kn_204))
    have hI_206 : Iv u (-1) P Q (up c_187 8 (5 * t + 1) y_190) := iv_close8 (t := t) hI_192 (by rw [q_194, q_195, q_199, q_202, q_205]; exact ⟨(fun e9 => absurd e9 ((q_5451ba73e h_185))), (fun e9 => absurd e9 ((q_607327e82 h_185))), (fun e9 => absurd e9 ((q_da2f8a773 h_185))), (fun e9 => absurd e9 ((q_effe7b19f h_185))), (fun e9 => absurd e9 ((q_2ed2cff96 h_185))), (fun e9 => ((q_7514a81f1 h_186 h_191)))⟩)
    have kn_207 : Hid (c_187 7 2 = c 7 2) := hF_189 7 2 qn_e31e1496e
    have h_208 : (up c_187 8 (5 * t + 1) y_190) 7 2 = c 7 2 := ((up_c (nn rfl)).trans (hid kn_207))
    exact K (up c_187 8 (5 * t + 1) y_190) hI_206 (fun a j hm => (up_b (Decidable.or_iff_not_imp_left.mpr (fun h1 h2 => hm (Or.inr (Or.inr (Or.inr (Or.inr ⟨Decidable.not_not.mp h1, (Int.le_trans ((q_c48eb2e77)) (Int.le_of_eq h2.symm))⟩))))))).trans (hF_189 a j (qv_d1fb82d1b hm))) ((q_e074ea49a))
  by_cases h_209 : c 8 (5 * t) = 6
  · skip
    refine v_tsw_i (t := 349) 6 rfl (by omega) (of_decide_eq_true rfl) rfl (of_decide_eq_true rfl) (q_vret rfl rfl ?_)
    have q_210 : c 8 (5 * t) = c 8 (5 * t) := rfl
    have h_211 := ir_8 hI (5 * t + 1)
    have q_212 : c 8 (5 * t + 1) = c 8 (5 * t + 1) := rfl
    have h_213 := ir_8 hI (5 * t + 2)
    have h_214 := ir_8_2 hI (j := 5 * t + 2) (by first | (clear ht ha4 hq0 h_1 h_2 h_209 h_211 h_213 hq1 h_3 h_37 h_88 h_121 h_161 h_185; omega) | omega)
    have q_215 : c 8 (5 * t + 2) = c 8 (5 * t + 2) := rfl
    have h_216 := ir_8 hI (5 * t + 3)
    have q_217 : c 8 (5 * t + 3) = c 8 (5 * t + 3) := rfl
    have h_218 := ir_8 hI (5 * t + 4)
    have q_219 : c 8 (5 * t + 4) = c 8 (5 * t + 4) := rfl
    have hI_220 : Iv u (-1) P Q c := iv_close8 (t := t) hI (by rw [q_210, q_212, q_215, q_217, q_219]; exact ⟨(fun e9 => absurd e9 ((q_8e3eb3f84 h_209))), (fun e9 => absurd e9 ((q_78679d36e h_209))), (fun e9 => absurd e9 ((q_f748de4c1 h_209))), (fun e9 => absurd e9 ((q_435a82c1b h_209))), (fun e9 => absurd e9 ((q_1c69b3b7b h_209))), (fun e9 => absurd e9 ((q_783649452 h_209)))⟩)
    exact K c hI_220 (fun a j hm => rfl) ((q_e074ea49a))
  by_cases h_221 : c 8 (5 * t) = 7
  · skip
    refine v_tsw_i (t := 298) 7 rfl (by omega) (of_decide_eq_true rfl) rfl (of_decide_eq_true rfl) (q_aload_n c_40_298 rfl (v_gr (t := 8) c_40_299 kf_3_11 rfl (Nat.le_of_ble_eq_true rfl) rfl (q_iload_n c_40_302 rfl (q_iconst c_40_303 (v_iadd (v := 5 * t + 1) c_40_304 rfl (q_aload_n c_40_305 rfl (v_bip c_40_306 (of_decide_eq_true rfl) ?_)))))))
    refine v_cv c_40_308 km_3_73 rfl rfl (Nat.le_of_ble_eq_true rfl) ⟨⟨rfl, rfl⟩, Nat.le_of_ble_eq_true rfl, rfl⟩ (Nat.le_of_ble_eq_true rfl) (Nat.le_of_ble_eq_true rfl) (s_8 (a1 := 40) hI (show (-1) ≤ 40 ∧ 40 ≤ 9999 from ⟨of_decide_eq_true rfl, of_decide_eq_true rfl⟩) (fun c_222 y_225 hI_223 hF_224 hy_225 h_226 => (bk_inl (v_is c_40_311 rfl (of_decide_eq_true rfl) (of_decide_eq_true rfl) ⟨(q_1416f500c ht), (q_6719517c6 ht)⟩ (q_aload_n c_40_312 rfl (q_ldc_s c_40_313 rfl rfl (of_decide_eq_true rfl) ?_))))))
    have hI_227 := iw8_1 (t := t) (j := 5 * t + 1) (v := y_225) hI_223 (rfl) ⟨hy_225.1, (ler hy_225.2 rfl)⟩
    refine v_cv c_40_315 km_3_64 rfl rfl (Nat.le_of_ble_eq_true rfl) ⟨⟨rfl, rfl⟩, Nat.le_of_ble_eq_true rfl, rfl⟩ (Nat.le_of_ble_eq_true rfl) (Nat.le_of_ble_eq_true rfl) (s_11 hI_227 (q := 11) (nt := 1) (of_decide_eq_true rfl) (of_decide_eq_true rfl) (of_decide_eq_true rfl) (fun c_228 hI_229 hF_230 => (bk_inl (q_aload_n c_40_318 rfl (q_aload_n c_40_319 rfl (q_aload_n c_40_320 rfl (q_iload c_40_321 rfl (q_iconst c_40_323 (v_iadd (v := a4 + 1) c_40_324 rfl ?_)))))))))
    have kn_231 : Hid (c_222 8 (5 * t) = c 8 (5 * t)) := hF_224 8 (5 * t) qn_40936bc4a
    have kn_232 : Hid (c_228 8 (5 * t) = c 8 (5 * t)) := (hF_230 8 (5 * t) qn_40936bc4a).trans ((up_n ((ne_0a (ni rfl)))).trans (hid kn_231))
    have q_233 : c_228 8 (5 * t) = c 8 (5 * t) := (hid kn_232)
    have kn_234 : Hid (c_228 8 (5 * t + 1) = y_225) := (hF_230 8 (5 * t + 1) qn_40936bc4a).trans (up_e rfl)
    have q_235 : c_228 8 (5 * t + 1) = y_225 := (hid kn_234)
    have h_236 := ir_8 hI (5 * t + 2)
    have h_237 := ir_8_2 hI (j := 5 * t + 2) (by first | (clear ht ha4 hq0 h_1 h_2 h_221 h_236 hq1 h_3 h_37 h_88 h_121 h_161 h_185 h_209 h_226; omega) | omega)
    have kn_238 : Hid (c_222 8 (5 * t + 2) = c 8 (5 * t + 2)) := hF_224 8 (5 * t + 2) qn_40936bc4a
    have kn_239 : Hid (c_228 8 (5 * t + 2) = c 8 (5 * t + 2)) := (hF_230 8 (5 * t + 2) qn_40936bc4a).trans ((up_n ((ne_aa (ni rfl)))).trans (hid kn_238))
    have q_240 : c_228 8 (5 * t + 2) = c 8 (5 * t + 2) := (hid kn_239)
    have h_241 := ir_8 hI (5 * t + 3)
    have kn_242 : Hid (c_222 8 (5 * t + 3) = c 8 (5 * t + 3)) := hF_224 8 (5 * t + 3) qn_40936bc4a
    have kn_243 : Hid (c_228 8 (5 * t + 3) = c 8 (5 * t + 3)) := (hF_230 8 (5 * t + 3) qn_40936bc4a).trans ((up_n ((ne_aa (ni rfl)))).trans (hid kn_242))
    have q_244 : c_228 8 (5 * t + 3) = c 8 (5 * t + 3) := (hid kn_243)
    have h_245 := ir_8 hI (5 * t + 4)
    have kn_246 : Hid (c_222 8 (5 * t + 4) = c 8 (5 * t + 4)) := hF_224 8 (5 * t + 4) qn_40936bc4a
    have kn_247 : Hid (c_228 8 (5 * t + 4) = c 8 (5 * t + 4)) := (hF_230 8 (5 * t + 4) qn_40936bc4a).trans ((up_n ((ne_aa (ni rfl)))).trans (hid kn_246))
    have q_248 : c_228 8 (5 * t + 4) = c 8 (5 * t + 4) := (hid kn_247)
    have hI_249 : Iv u (-1) P Q c_228 := iv_close8 (t := t) hI_229 (by rw [q_233, q_235, q_240, q_244, q_248]; exact ⟨(fun e9 => absurd e9 ((q_d9dab072a h_221))), (fun e9 => absurd e9 ((q_08c322c8b h_221))), (fun e9 => absurd e9 ((q_6f8ea684b h_221))), (fun e9 => absurd e9 ((q_10d1e1edb h_221))), (fun e9 => absurd e9 ((q_b6c8557ad h_221))), (fun e9 => absurd e9 ((q_402d8d996 h_221)))⟩)
    have kn_250 : Hid (c_222 7 2 = c 7 2) := hF_224 7 2 qn_e31e1496e
    have kn_251 : Hid (c_228 7 2 = c 7 2) := (hF_230 7 2 qn_e31e1496e).trans ((up_c (nn rfl)).trans (hid kn_250))
    have h_252 : c_228 7 2 = c 7 2 := (hid kn_251)
    have h_253 : c_228 7 2 = c 7 2 := (hid kn_251)
    refine v_cv c_40_325 km_3_28 rfl rfl (Nat.le_of_ble_eq_true rfl) ⟨⟨rfl, rfl⟩, Nat.le_of_ble_eq_true rfl, rfl⟩ (Nat.le_of_ble_eq_true rfl) (Nat.le_of_ble_eq_true rfl) (H41 _ _ (by omega) hI_249 (fun c_254 hI_255 hF_256 h_257 => (bk_inl ?_)))
    have h_258 := ir_7_2 hI_255
    refine q_aload_n c_40_328 rfl (q_ldc_s c_40_329 rfl rfl (of_decide_eq_true rfl) (v_cv c_40_331 km_3_64 rfl rfl (Nat.le_of_ble_eq_true rfl) ⟨⟨rfl, rfl⟩, Nat.le_of_ble_eq_true rfl, rfl⟩ (Nat.le_of_ble_eq_true rfl) (Nat.le_of_ble_eq_true rfl) (s_11 hI_255 (q := 12) (nt := 1) (of_decide_eq_true rfl) (of_decide_eq_true rfl) (of_decide_eq_true rfl) (fun c_259 hI_260 hF_261 => (bk_inl (q_aload_n c_40_334 rfl (v_gr (t := 8) c_40_335 kf_3_11 rfl (Nat.le_of_ble_eq_true rfl) rfl (q_iload_n c_40_338 rfl (q_iconst c_40_339 ?_)))))))))
    refine v_iadd (v := 5 * t + 2) c_40_340 rfl (q_aload_n c_40_341 rfl ?_)
    have kn_262 : Hid (c_259 7 2 = c_254 7 2) := hF_261 7 2 qn_e31e1496e
    refine v_gi (z := 2) (v := c_254 7 2) c_40_342 kf_3_19 rfl (Nat.le_of_ble_eq_true rfl) rfl rfl (hid kn_262) (v_is c_40_345 rfl (of_decide_eq_true rfl) (of_decide_eq_true rfl) ⟨(q_ffaf02070 ht), (q_311969902 ht)⟩ (q_goto (t := 349) c_40_346 rfl (q_vret rfl rfl ?_)))
    have hI_263 := iw8_2 (t := t) (j := 5 * t + 2) (v := c_254 7 2) (iv_open8 hI_260) (rfl) ⟨h_258.1, h_258.2⟩
    have kn_264 : Hid (c_254 8 (5 * t) = c 8 (5 * t)) := (hF_256 8 (5 * t) (fun q => q.elim (fun h => absurd h.1 (nn rfl)) (fun q => q.elim (fun h => absurd h.1 (nn rfl)) (fun q => q.elim (fun h => absurd h.1 (nn rfl)) (fun q => q.elim (fun h => absurd h.1 (nn rfl)) (fun h => absurd h.2 (nge ((q_5e5dcf90e hq0))))))))).trans (hid kn_232)
    have kn_265 : Hid (c_259 8 (5 * t) = c 8 (5 * t)) := (hF_261 8 (5 * t) qn_40936bc4a).trans (hid kn_264)
    have q_266 : (up c_259 8 (5 * t + 2) (c_254 7 2)) 8 (5 * t) = c 8 (5 * t) := ((up_n ((ne_0a (ni rfl)))).trans (hid kn_265))
    have kn_267 : Hid (c_254 8 (5 * t + 1) = y_225) := (hF_256 8 (5 * t + 1) (fun q => q.elim (fun h => absurd h.1 (nn rfl)) (fun q => q.elim (fun h => absurd h.1 (nn rfl)) (fun q => q.elim (fun h => absurd h.1 (nn rfl)) (fun q => q.elim (fun h => absurd h.1 (nn rfl)) (fun h => absurd h.2 (nge ((q_7674b446a hq0))))))))).trans (hid kn_234)
    have kn_268 : Hid (c_259 8 (5 * t + 1) = y_225) := (hF_261 8 (5 * t + 1) qn_40936bc4a).trans (hid kn_267)
    have q_269 : (up c_259 8 (5 * t + 2) (c_254 7 2)) 8 (5 * t + 1) = y_225 := ((up_n ((ne_aa (ni rfl)))).trans (hid kn_268))
    have q_270 : (up c_259 8 (5 * t + 2) (c_254 7 2)) 8 (5 * t + 2) = c_254 7 2 := (up_e rfl)
    have kn_271 : Hid (c_254 8 (5 * t + 3) = c 8 (5 * t + 3)) := (hF_256 8 (5 * t + 3) (fun q => q.elim (fun h => absurd h.1 (nn rfl)) (fun q => q.elim (fun h => absurd h.1 (nn rfl)) (fun q => q.elim (fun h => absurd h.1 (nn rfl)) (fun q => q.elim (fun h => absurd h.1 (nn rfl)) (fun h => absurd h.2 (nge ((q_5d05efc21 hq0))))))))).trans (hid kn_243)
    have kn_272 : Hid (c_259 8 (5 * t + 3) = c 8 (5 * t + 3)) := (hF_261 8 (5 * t + 3) qn_40936bc4a).trans (hid kn_271)
    have q_273 : (up c_259 8 (5 * t + 2) (c_254 7 2)) 8 (5 * t + 3) = c 8 (5 * t + 3) := ((up_n ((ne_aa (ni rfl)))).trans (hid kn_272))
    have kn_274 : Hid (c_254 8 (5 * t + 4) = c 8 (5 * t + 4)) := (hF_256 8 (5 * t + 4) (fun q => q.elim (fun h => absurd h.1 (nn rfl)) (fun q => q.elim (fun h => absurd h.1 (nn rfl)) (fun q => q.elim (fun h => absurd h.1 (nn rfl)) (fun q => q.elim (fun h => absurd h.1 (nn rfl)) (fun h => absurd h.2 (nge ((q_133825ead hq0))))))))).trans (hid kn_247)
    have kn_275 : Hid (c_259 8 (5 * t + 4) = c 8 (5 * t + 4)) := (hF_261 8 (5 * t + 4) qn_40936bc4a).trans (hid kn_274)
    have q_276 : (up c_259 8 (5 * t + 2) (c_254 7 2)) 8 (5 * t + 4) = c 8 (5 * t + 4) := ((up_n ((ne_aa (ni rfl)))).trans (hid kn_275))
    have hI_277 : Iv u (-1) P Q (up c_259 8 (5 * t + 2) (c_254 7 2)) := iv_close8 (t := t) hI_263 (by rw [q_266, q_269, q_270, q_273, q_276]; exact ⟨(fun e9 => absurd e9 ((q_d9dab072a h_221))), (fun e9 => absurd e9 ((q_08c322c8b h_221))), (fun e9 => absurd e9 ((q_6f8ea684b h_221))), (fun e9 => absurd e9 ((q_10d1e1edb h_221))), (fun e9 => absurd e9 ((q_b6c8557ad h_221))), (fun e9 => absurd e9 ((q_402d8d996 h_221)))⟩)
    have h_278 : (up c_259 8 (5 * t + 2) (c_254 7 2)) 7 2 = c_254 7 2 := ((up_c (nn rfl)).trans (hid kn_262))
    exact K (up c_259 8 (5 * t + 2) (c_254 7 2)) hI_277 (fun a j hm => (up_b (Decidable.or_iff_not_imp_left.mpr (fun h1 h2 => hm (Or.inr (Or.inr (Or.inr (Or.inr ⟨Decidable.not_not.mp h1, (Int.le_trans ((q_68bb02467)) (Int.le_of_eq h2.symm))⟩))))))).trans ((hF_261 a j (qv_d1fb82d1b hm)).trans ((hF_256 a j (fun q => q.elim (fun h => hm (Or.inl h)) (fun q => q.elim (fun h => hm (Or.inr (Or.inl h))) (fun q => q.elim (fun h => hm (Or.inr (Or.inr (Or.inl h)))) (fun q => q.elim (fun h => hm (Or.inr (Or.inr (Or.inr (Or.inl h))))) (fun h => hm (Or.inr (Or.inr (Or.inr (Or.inr ⟨h.1, (Int.le_trans ((q_d1cd98eaf hq0)) h.2)⟩)))))))))).trans ((hF_230 a j (qv_d1fb82d1b hm)).trans ((up_b (Decidable.or_iff_not_imp_left.mpr (fun h1 h2 => hm (Or.inr (Or.inr (Or.inr (Or.inr ⟨Decidable.not_not.mp h1, (Int.le_trans ((q_c48eb2e77)) (Int.le_of_eq h2.symm))⟩))))))).trans (hF_224 a j (qv_d1fb82d1b hm))))))) ((q_74cd69a50 h_257 h_252))
  refine v_tsw_o (t := 349) rfl (by omega) (of_decide_eq_true rfl) (q_vret rfl rfl ?_)
  have q_279 : c 8 (5 * t) = c 8 (5 * t) := rfl
  have h_280 := ir_8 hI (5 * t + 1)
  have q_281 : c 8 (5 * t + 1) = c 8 (5 * t + 1) := rfl
  have h_282 := ir_8 hI (5 * t + 2)
  have h_283 := ir_8_2 hI (j := 5 * t + 2) (by first | (clear ht ha4 hq0 h_1 h_2 h_280 h_282 hq1 h_3 h_37 h_88 h_121 h_161 h_185 h_209 h_221; omega) | omega)
  have q_284 : c 8 (5 * t + 2) = c 8 (5 * t + 2) := rfl
  have h_285 := ir_8 hI (5 * t + 3)
  have q_286 : c 8 (5 * t + 3) = c 8 (5 * t + 3) := rfl
  have h_287 := ir_8 hI (5 * t + 4)
  have q_288 : c 8 (5 * t + 4) = c 8 (5 * t + 4) := rfl
  have hI_289 : Iv u (-1) P Q c := iv_close8 (t := t) hI (by rw [q_279, q_281, q_284, q_286, q_288]; exact ⟨(fun e9 => absurd e9 ((q_00b473266 h_2 h_3))), (fun e9 => absurd e9 ((q_ea625c1e5 h_37))), (fun e9 => absurd e9 ((q_e2e39526d h_88))), (fun e9 => absurd e9 ((q_dcc533340 h_121))), (fun e9 => absurd e9 ((q_06b43b618 h_161))), (fun e9 => absurd e9 ((q_6d146e2b2 h_185)))⟩)
  exact K c hI_289 (fun a j hm => rfl) ((q_e074ea49a))

