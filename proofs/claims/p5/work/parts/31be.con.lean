/-! ===== contracts 18 ===== -/
theorem q_f884e162b {x0 : Int} (f0 : 0 ≤ x0 ∧ x0 ≤ 5) : 4 * x0 < 36 := by omega
theorem q_7c3069b03 {x0 : Int} (f0 : 0 ≤ x0 ∧ x0 ≤ 5) : 4 * x0 + 1 < 36 := by omega
theorem q_cab7ad043 {x0 : Int} (f0 : 0 ≤ x0 ∧ x0 ≤ 5) : 4 * x0 + 2 < 36 := by omega
theorem q_8cd5bc852 {x0 : Int} (f0 : 0 ≤ x0 ∧ x0 ≤ 5) : 4 * x0 + 3 < 36 := by omega
theorem qv_46f80e128 {a : Nat} (hm : ¬ (a = 59 ∨ a = 54 ∨ a = 55)) : ¬ (a = 54 ∨ a = 55) := (fun q => q.elim (fun h => hm (Or.inr (Or.inl h))) (fun h => hm (Or.inr (Or.inr h))))
theorem q_51955fde5 {x0 : Int} (f0 : 0 ≤ x0 ∧ x0 ≤ 6) : x0 + 24 < 37 := by omega
theorem q_252bfad9e {x0 : Int} (f0 : 0 ≤ x0 ∧ x0 ≤ 49) : 0 ≤ 5 * x0 := by omega
theorem q_d21114de8 {x0 : Int} (f0 : 0 ≤ x0 ∧ x0 ≤ 49) : 5 * x0 < 250 := by omega
theorem q_d20ef1097 {x0 : Int} (f0 : 0 ≤ x0 ∧ x0 ≤ 49) : 0 ≤ 5 * x0 + 1 := by omega
theorem q_f1fca8fe8 {x0 : Int} (f0 : 0 ≤ x0 ∧ x0 ≤ 49) : 5 * x0 + 1 < 250 := by omega
theorem q_72e61b4ee {x0 : Int} (f0 : 0 ≤ x0 ∧ x0 ≤ 49) : 0 ≤ 5 * x0 + 2 := by omega
theorem q_0d39d56e6 {x0 : Int} (f0 : 0 ≤ x0 ∧ x0 ≤ 49) : 5 * x0 + 2 < 250 := by omega
theorem q_1a3991cd6 {x0 : Int} (f0 : 0 ≤ x0 ∧ x0 ≤ 49) : 0 ≤ 5 * x0 + 3 := by omega
theorem q_b6fa79662 {x0 : Int} (f0 : 0 ≤ x0 ∧ x0 ≤ 49) : 5 * x0 + 3 < 250 := by omega
theorem q_4654d868a {x0 : Int} : 4 * (x0) = 4 * x0 := by omega
theorem q_2052a6d5e {x0 : Int} : 4 * (x0) + 1 = 4 * x0 + 1 := by omega
theorem q_92c47a6ea {x0 : Int} : 4 * (x0) + 2 = 4 * x0 + 2 := by omega
theorem q_1a023eec4 {x0 : Int} : 4 * (x0) + 3 = 4 * x0 + 3 := by omega
theorem q_039f89af9 {x0 x1 x2 x3 : Int} (f0 : 0 ≤ x0 ∧ x0 ≤ 9999) (f1 : 0 ≤ x1 ∧ x1 ≤ 9999) (f2 : 0 ≤ x2 ∧ x2 ≤ 9999) (f3 : 0 ≤ x3 ∧ x3 ≤ 9999) : 0 ≤ x1 + x2 + x3 + x0 := by omega
theorem q_23dd42f95 {x0 : Int} (f0 : 0 ≤ x0 ∧ x0 ≤ 49) : 0 ≤ 5 * x0 + 4 := by omega
theorem q_50bb9b2d7 {x0 : Int} (f0 : 0 ≤ x0 ∧ x0 ≤ 49) : 5 * x0 + 4 < 250 := by omega
theorem q_4eed03022 {x0 : Int} (f0 : 0 ≤ x0 ∧ x0 ≤ 50) : 5 * x0 ≤ 2147483647 := by omega
theorem q_f276f79c5 {x0 : Int} (f0 : 0 ≤ x0 ∧ x0 ≤ 50) : (-2147483648) ≤ 5 * x0 := by omega
theorem qn_d2085ee3f {j : Int} : ¬ (((57 : Nat) = 41 ∧ j = 37) ∨ ((57 : Nat) = 41 ∧ j = 38) ∨ ((57 : Nat) = 41 ∧ j = 39) ∨ (57 : Nat) = 59 ∨ (57 : Nat) = 54 ∨ (57 : Nat) = 55) := (fun q => q.elim (fun h => absurd h.1 (nn rfl)) (fun q => q.elim (fun h => absurd h.1 (nn rfl)) (fun q => q.elim (fun h => absurd h.1 (nn rfl)) (fun q => q.elim (fun h => absurd h (nn rfl)) (fun q => q.elim (fun h => absurd h (nn rfl)) (fun h => absurd h (nn rfl)))))))
theorem q_31473b65c {x0 : Int} (f0 : 0 ≤ x0 ∧ x0 ≤ 50) : 0 ≤ 5 * x0 := by omega
theorem q_ef94ce899 {x0 x1 : Int} (f0 : ¬ (5 * x0 ≥ x1)) (f1 : 0 ≤ x1 ∧ x1 ≤ 250) : 5 * x0 < 250 := by omega
theorem q_03affaadb {x0 : Int} (f0 : 0 ≤ x0 ∧ x0 ≤ 999) : (-2147483648) ≤ x0 := by omega
theorem q_cbd2526de {x0 : Int} (f0 : 0 ≤ x0 ∧ x0 ≤ 999) : x0 ≤ 2147483647 := by omega
theorem qn_3259694f0 : ¬ ((41 : Nat) = 59 ∨ (41 : Nat) = 54 ∨ (41 : Nat) = 55) := (fun q => q.elim (fun h => absurd h (nn rfl)) (fun q => q.elim (fun h => absurd h (nn rfl)) (fun h => absurd h (nn rfl))))
theorem qv_ba7f77c60 {a : Nat} {j : Int} (hm : ¬ ((a = 41 ∧ j = 37) ∨ (a = 41 ∧ j = 38) ∨ (a = 41 ∧ j = 39) ∨ a = 59 ∨ a = 54 ∨ a = 55)) : ¬ (a = 59 ∨ a = 54 ∨ a = 55) := (fun q => q.elim (fun h => hm (Or.inr (Or.inr (Or.inr (Or.inl h))))) (fun q => q.elim (fun h => hm (Or.inr (Or.inr (Or.inr (Or.inr (Or.inl h)))))) (fun h => hm (Or.inr (Or.inr (Or.inr (Or.inr (Or.inr h))))))))
theorem q_934b18d73 {x0 x1 : Int} (f0 : ¬ (5 * x0 ≥ x1)) (f1 : 0 ≤ x1 ∧ x1 ≤ 250) : x0 + 1 ≤ 50 := by omega
theorem q_63dfe5ad8 {x0 : Int} (f0 : 0 ≤ x0 ∧ x0 ≤ 50) : 0 ≤ 5 * x0 + 2 := by omega
theorem q_42fde05c4 {x0 x1 : Int} (f0 : ¬ (5 * x0 ≥ x1)) (f1 : 0 ≤ x1 ∧ x1 ≤ 250) : 5 * x0 + 2 < 250 := by omega
theorem q_76860e3de {x0 x1 : Int} (f0 : ¬ (5 * x0 ≥ x1)) (f1 : 0 ≤ x1 ∧ x1 ≤ 250) : x0 ≤ 49 := by omega
theorem q_2558f8dc6 {x0 x1 : Int} (f0 : 0 ≤ x0 ∧ x0 ≤ 999) (f1 : ¬ (x1 ≥ x0)) : x1 + 1 ≤ 999 := by omega
theorem q_f67065af8 {x0 : Int} (f0 : (x0 ≤ 15)) : x0 + 1 ≤ 16 := by omega
theorem qv_c2f2b1db7 {a : Nat} {j : Int} (hm : ¬ ((a = 41 ∧ j = 35) ∨ (a = 41 ∧ j = 36) ∨ (a = 41 ∧ j = 37) ∨ (a = 41 ∧ j = 38) ∨ (a = 41 ∧ j = 39) ∨ a = 58 ∨ a = 59 ∨ a = 54 ∨ a = 55)) : ¬ ((a = 41 ∧ j = 37) ∨ (a = 41 ∧ j = 38) ∨ (a = 41 ∧ j = 39) ∨ a = 59 ∨ a = 54 ∨ a = 55) := (fun q => q.elim (fun h => hm (Or.inr (Or.inr (Or.inl h)))) (fun q => q.elim (fun h => hm (Or.inr (Or.inr (Or.inr (Or.inl h))))) (fun q => q.elim (fun h => hm (Or.inr (Or.inr (Or.inr (Or.inr (Or.inl h)))))) (fun q => q.elim (fun h => hm (Or.inr (Or.inr (Or.inr (Or.inr (Or.inr (Or.inr (Or.inl h)))))))) (fun q => q.elim (fun h => hm (Or.inr (Or.inr (Or.inr (Or.inr (Or.inr (Or.inr (Or.inr (Or.inl h))))))))) (fun h => hm (Or.inr (Or.inr (Or.inr (Or.inr (Or.inr (Or.inr (Or.inr (Or.inr h))))))))))))))
theorem q_6c1724e14 {x0 x1 : Int} (f0 : 0 ≤ x0 ∧ x0 ≤ 16) (f1 : 0 ≤ x1 ∧ x1 ≤ 37) : 0 ≤ 37 * x0 + x1 := by omega
theorem q_d8bb91acd {x0 x1 : Int} (f0 : ¬ (x0 ≥ 37)) (f1 : (x1 ≤ 15)) : 37 * x1 + x0 < 592 := by omega
theorem qv_c507ff00a {a : Nat} {j : Int} (hm : ¬ ((a = 41 ∧ j = 0) ∨ a = 42 ∨ (a = 41 ∧ j = 2) ∨ (a = 41 ∧ j = 3) ∨ (a = 41 ∧ j = 4) ∨ (a = 41 ∧ j = 5) ∨ (a = 41 ∧ j = 6) ∨ (a = 41 ∧ j = 7) ∨ (a = 41 ∧ j = 8) ∨ (a = 41 ∧ j = 34) ∨ a = 56 ∨ a = 57 ∨ a = 60 ∨ (a = 41 ∧ j = 35) ∨ (a = 41 ∧ j = 36) ∨ (a = 41 ∧ j = 37) ∨ (a = 41 ∧ j = 38) ∨ (a = 41 ∧ j = 39) ∨ a = 58 ∨ a = 59 ∨ a = 54 ∨ a = 55)) : ¬ ((a = 41 ∧ j = 35) ∨ (a = 41 ∧ j = 36) ∨ (a = 41 ∧ j = 37) ∨ (a = 41 ∧ j = 38) ∨ (a = 41 ∧ j = 39) ∨ a = 58 ∨ a = 59 ∨ a = 54 ∨ a = 55 ∨ a = 60) := (fun q => q.elim (fun h => hm (Or.inr (Or.inr (Or.inr (Or.inr (Or.inr (Or.inr (Or.inr (Or.inr (Or.inr (Or.inr (Or.inr (Or.inr (Or.inr (Or.inl h))))))))))))))) (fun q => q.elim (fun h => hm (Or.inr (Or.inr (Or.inr (Or.inr (Or.inr (Or.inr (Or.inr (Or.inr (Or.inr (Or.inr (Or.inr (Or.inr (Or.inr (Or.inr (Or.inl h)))))))))))))))) (fun q => q.elim (fun h => hm (Or.inr (Or.inr (Or.inr (Or.inr (Or.inr (Or.inr (Or.inr (Or.inr (Or.inr (Or.inr (Or.inr (Or.inr (Or.inr (Or.inr (Or.inr (Or.inl h))))))))))))))))) (fun q => q.elim (fun h => hm (Or.inr (Or.inr (Or.inr (Or.inr (Or.inr (Or.inr (Or.inr (Or.inr (Or.inr (Or.inr (Or.inr (Or.inr (Or.inr (Or.inr (Or.inr (Or.inr (Or.inl h)))))))))))))))))) (fun q => q.elim (fun h => hm (Or.inr (Or.inr (Or.inr (Or.inr (Or.inr (Or.inr (Or.inr (Or.inr (Or.inr (Or.inr (Or.inr (Or.inr (Or.inr (Or.inr (Or.inr (Or.inr (Or.inr (Or.inl h))))))))))))))))))) (fun q => q.elim (fun h => hm (Or.inr (Or.inr (Or.inr (Or.inr (Or.inr (Or.inr (Or.inr (Or.inr (Or.inr (Or.inr (Or.inr (Or.inr (Or.inr (Or.inr (Or.inr (Or.inr (Or.inr (Or.inr (Or.inl h)))))))))))))))))))) (fun q => q.elim (fun h => hm (Or.inr (Or.inr (Or.inr (Or.inr (Or.inr (Or.inr (Or.inr (Or.inr (Or.inr (Or.inr (Or.inr (Or.inr (Or.inr (Or.inr (Or.inr (Or.inr (Or.inr (Or.inr (Or.inr (Or.inl h))))))))))))))))))))) (fun q => q.elim (fun h => hm (Or.inr (Or.inr (Or.inr (Or.inr (Or.inr (Or.inr (Or.inr (Or.inr (Or.inr (Or.inr (Or.inr (Or.inr (Or.inr (Or.inr (Or.inr (Or.inr (Or.inr (Or.inr (Or.inr (Or.inr (Or.inl h)))))))))))))))))))))) (fun q => q.elim (fun h => hm (Or.inr (Or.inr (Or.inr (Or.inr (Or.inr (Or.inr (Or.inr (Or.inr (Or.inr (Or.inr (Or.inr (Or.inr (Or.inr (Or.inr (Or.inr (Or.inr (Or.inr (Or.inr (Or.inr (Or.inr (Or.inr h)))))))))))))))))))))) (fun h => hm (Or.inr (Or.inr (Or.inr (Or.inr (Or.inr (Or.inr (Or.inr (Or.inr (Or.inr (Or.inr (Or.inr (Or.inr (Or.inl h)))))))))))))))))))))))
theorem qv_c40515afb {a : Nat} {j : Int} (hm : ¬ ((a = 41 ∧ j = 0) ∨ a = 42 ∨ (a = 41 ∧ j = 2) ∨ (a = 41 ∧ j = 3) ∨ (a = 41 ∧ j = 4) ∨ (a = 41 ∧ j = 5) ∨ (a = 41 ∧ j = 6) ∨ (a = 41 ∧ j = 7) ∨ (a = 41 ∧ j = 8) ∨ (a = 41 ∧ j = 34) ∨ a = 56 ∨ a = 57 ∨ a = 60 ∨ (a = 41 ∧ j = 35) ∨ (a = 41 ∧ j = 36) ∨ (a = 41 ∧ j = 37) ∨ (a = 41 ∧ j = 38) ∨ (a = 41 ∧ j = 39) ∨ a = 58 ∨ a = 59 ∨ a = 54 ∨ a = 55)) : ¬ ((a = 41 ∧ j = 8)) := (fun h => hm (Or.inr (Or.inr (Or.inr (Or.inr (Or.inr (Or.inr (Or.inr (Or.inr (Or.inl h))))))))))
theorem qv_573d069e6 {a : Nat} {j : Int} {t0 : Int} (hm : ¬ ((a = 41 ∧ j = 0) ∨ a = 42 ∨ (a = 41 ∧ j = 2) ∨ (a = 41 ∧ j = 3) ∨ (a = 41 ∧ j = 4) ∨ (a = 41 ∧ j = 5) ∨ (a = 41 ∧ j = 6) ∨ (a = 41 ∧ j = 7) ∨ (a = 41 ∧ j = 8) ∨ (a = 41 ∧ j = 34) ∨ a = 56 ∨ a = 57 ∨ a = 60 ∨ (a = 41 ∧ j = 35) ∨ (a = 41 ∧ j = 36) ∨ (a = 41 ∧ j = 37) ∨ (a = 41 ∧ j = 38) ∨ (a = 41 ∧ j = 39) ∨ a = 58 ∨ a = 59 ∨ a = 54 ∨ a = 55)) : ¬ ((a = 41 ∧ j = 4) ∨ (a = 41 ∧ j = 5) ∨ (a = 41 ∧ j = 6) ∨ (a = 41 ∧ j = 7) ∨ (a = 41 ∧ j = 34) ∨ (a = 56 ∧ j ≥ t0)) := (fun q => q.elim (fun h => hm (Or.inr (Or.inr (Or.inr (Or.inr (Or.inl h)))))) (fun q => q.elim (fun h => hm (Or.inr (Or.inr (Or.inr (Or.inr (Or.inr (Or.inl h))))))) (fun q => q.elim (fun h => hm (Or.inr (Or.inr (Or.inr (Or.inr (Or.inr (Or.inr (Or.inl h)))))))) (fun q => q.elim (fun h => hm (Or.inr (Or.inr (Or.inr (Or.inr (Or.inr (Or.inr (Or.inr (Or.inl h))))))))) (fun q => q.elim (fun h => hm (Or.inr (Or.inr (Or.inr (Or.inr (Or.inr (Or.inr (Or.inr (Or.inr (Or.inr (Or.inl h))))))))))) (fun h => hm (Or.inr (Or.inr (Or.inr (Or.inr (Or.inr (Or.inr (Or.inr (Or.inr (Or.inr (Or.inr (Or.inl h.1)))))))))))))))))
theorem q_0802a0138 {x0 : Int} (f0 : 0 ≤ x0 ∧ x0 ≤ 250) : 0 ≤ x0 := by omega
theorem q_1bdda21ac {x0 : Int} (f0 : 0 ≤ x0 ∧ x0 ≤ 250) : x0 ≤ 250 := by omega
theorem qn_010af1ec6 : ¬ (((41 : Nat) = 41 ∧ (35 : Int) = 2) ∨ ((41 : Nat) = 41 ∧ (35 : Int) = 3) ∨ ((41 : Nat) = 41 ∧ (35 : Int) = 4) ∨ ((41 : Nat) = 41 ∧ (35 : Int) = 5) ∨ ((41 : Nat) = 41 ∧ (35 : Int) = 7) ∨ ((41 : Nat) = 41 ∧ (35 : Int) = 8)) := (fun q => q.elim (fun h => absurd h.2 (ni rfl)) (fun q => q.elim (fun h => absurd h.2 (ni rfl)) (fun q => q.elim (fun h => absurd h.2 (ni rfl)) (fun q => q.elim (fun h => absurd h.2 (ni rfl)) (fun q => q.elim (fun h => absurd h.2 (ni rfl)) (fun h => absurd h.2 (ni rfl)))))))
theorem qv_5d0a24d61 {a : Nat} {j : Int} (hm : ¬ ((a = 41 ∧ j = 0) ∨ a = 42 ∨ (a = 41 ∧ j = 2) ∨ (a = 41 ∧ j = 3) ∨ (a = 41 ∧ j = 4) ∨ (a = 41 ∧ j = 5) ∨ (a = 41 ∧ j = 6) ∨ (a = 41 ∧ j = 7) ∨ (a = 41 ∧ j = 8) ∨ (a = 41 ∧ j = 34) ∨ a = 56 ∨ a = 57 ∨ a = 60 ∨ (a = 41 ∧ j = 35) ∨ (a = 41 ∧ j = 36) ∨ (a = 41 ∧ j = 37) ∨ (a = 41 ∧ j = 38) ∨ (a = 41 ∧ j = 39) ∨ a = 58 ∨ a = 59 ∨ a = 54 ∨ a = 55)) : ¬ ((a = 41 ∧ j = 2) ∨ (a = 41 ∧ j = 3) ∨ (a = 41 ∧ j = 4) ∨ (a = 41 ∧ j = 5) ∨ (a = 41 ∧ j = 7) ∨ (a = 41 ∧ j = 8)) := (fun q => q.elim (fun h => hm (Or.inr (Or.inr (Or.inl h)))) (fun q => q.elim (fun h => hm (Or.inr (Or.inr (Or.inr (Or.inl h))))) (fun q => q.elim (fun h => hm (Or.inr (Or.inr (Or.inr (Or.inr (Or.inl h)))))) (fun q => q.elim (fun h => hm (Or.inr (Or.inr (Or.inr (Or.inr (Or.inr (Or.inl h))))))) (fun q => q.elim (fun h => hm (Or.inr (Or.inr (Or.inr (Or.inr (Or.inr (Or.inr (Or.inr (Or.inl h))))))))) (fun h => hm (Or.inr (Or.inr (Or.inr (Or.inr (Or.inr (Or.inr (Or.inr (Or.inr (Or.inl h)))))))))))))))
theorem q_177fc0d22 {x0 x1 x2 x3 x4 x5 : Int} (f0 : (x0 = x1 ∧ x2 = 0 ∧ x3 = (-1) ∧ x4 = 0 ∧ x5 = 0)) (f1 : ¬ (x1 > 150)) : x0 ≤ 150 := by omega
theorem q_95d63d183 {x0 : Int} (f0 : 0 ≤ x0 ∧ x0 ≤ 605) : 0 ≤ 5 * x0 := by omega
theorem q_df9bc0968 {x0 : Int} (f0 : 0 ≤ x0 ∧ x0 ≤ 16) (f1 : x0 ≠ 16) : x0 ≤ 15 := by omega
theorem qv_021be712d {a : Nat} {j : Int} (hm : ¬ ((a = 41 ∧ j = 0) ∨ a = 42 ∨ (a = 41 ∧ j = 2) ∨ (a = 41 ∧ j = 3) ∨ (a = 41 ∧ j = 4) ∨ (a = 41 ∧ j = 5) ∨ (a = 41 ∧ j = 6) ∨ (a = 41 ∧ j = 7) ∨ (a = 41 ∧ j = 8) ∨ (a = 41 ∧ j = 47) ∨ a = 61 ∨ a = 62)) : ¬ ((a = 41 ∧ j = 8)) := (fun h => hm (Or.inr (Or.inr (Or.inr (Or.inr (Or.inr (Or.inr (Or.inr (Or.inr (Or.inl h))))))))))
theorem qn_702a72872 : ¬ (((41 : Nat) = 41 ∧ (22 : Int) = 0) ∨ (41 : Nat) = 42 ∨ ((41 : Nat) = 41 ∧ (22 : Int) = 2) ∨ ((41 : Nat) = 41 ∧ (22 : Int) = 3) ∨ ((41 : Nat) = 41 ∧ (22 : Int) = 4) ∨ ((41 : Nat) = 41 ∧ (22 : Int) = 5) ∨ ((41 : Nat) = 41 ∧ (22 : Int) = 6) ∨ ((41 : Nat) = 41 ∧ (22 : Int) = 7) ∨ ((41 : Nat) = 41 ∧ (22 : Int) = 8) ∨ ((41 : Nat) = 41 ∧ (22 : Int) = 47) ∨ (41 : Nat) = 61 ∨ (41 : Nat) = 62) := (fun q => q.elim (fun h => absurd h.2 (ni rfl)) (fun q => q.elim (fun h => absurd h (nn rfl)) (fun q => q.elim (fun h => absurd h.2 (ni rfl)) (fun q => q.elim (fun h => absurd h.2 (ni rfl)) (fun q => q.elim (fun h => absurd h.2 (ni rfl)) (fun q => q.elim (fun h => absurd h.2 (ni rfl)) (fun q => q.elim (fun h => absurd h.2 (ni rfl)) (fun q => q.elim (fun h => absurd h.2 (ni rfl)) (fun q => q.elim (fun h => absurd h.2 (ni rfl)) (fun q => q.elim (fun h => absurd h.2 (ni rfl)) (fun q => q.elim (fun h => absurd h (nn rfl)) (fun h => absurd h (nn rfl)))))))))))))
theorem qv_0817adc36 {a : Nat} {j : Int} (hm : ¬ ((a = 41 ∧ j = 0) ∨ a = 42 ∨ (a = 41 ∧ j = 2) ∨ (a = 41 ∧ j = 3) ∨ (a = 41 ∧ j = 4) ∨ (a = 41 ∧ j = 5) ∨ (a = 41 ∧ j = 6) ∨ (a = 41 ∧ j = 7) ∨ (a = 41 ∧ j = 8) ∨ (a = 41 ∧ j = 47) ∨ a = 61 ∨ a = 62)) : ¬ ((a = 41 ∧ j = 4) ∨ (a = 41 ∧ j = 5) ∨ (a = 41 ∧ j = 6)) := (fun q => q.elim (fun h => hm (Or.inr (Or.inr (Or.inr (Or.inr (Or.inl h)))))) (fun q => q.elim (fun h => hm (Or.inr (Or.inr (Or.inr (Or.inr (Or.inr (Or.inl h))))))) (fun h => hm (Or.inr (Or.inr (Or.inr (Or.inr (Or.inr (Or.inr (Or.inl h))))))))))
theorem q_dcc5894f5 {x0 : Int} (f0 : x0 ≠ 8) (f1 : 0 ≤ x0 ∧ x0 ≤ 8) : x0 < 8 := by omega
theorem q_6dd620985 {x0 : Int} (f0 : x0 ≠ 8) (f1 : 0 ≤ x0 ∧ x0 ≤ 8) : x0 + 1 ≤ 8 := by omega
theorem q_306c376e8 {x0 x1 : Int} (f0 : (x0 ≠ (-1))) (f1 : (x0 = (-1)) ∨ (x1 = x0)) : ¬ x1 = (-1) := by omega
theorem qv_f86f83f63 {a : Nat} {j : Int} (hm : ¬ ((a = 41 ∧ j = 0) ∨ a = 42 ∨ (a = 41 ∧ j = 2) ∨ (a = 41 ∧ j = 3) ∨ (a = 41 ∧ j = 4) ∨ (a = 41 ∧ j = 5) ∨ (a = 41 ∧ j = 6) ∨ (a = 41 ∧ j = 7) ∨ (a = 41 ∧ j = 8) ∨ (a = 41 ∧ j = 47) ∨ a = 61 ∨ a = 62)) : ¬ ((a = 41 ∧ j = 5) ∨ (a = 41 ∧ j = 6)) := (fun q => q.elim (fun h => hm (Or.inr (Or.inr (Or.inr (Or.inr (Or.inr (Or.inl h))))))) (fun h => hm (Or.inr (Or.inr (Or.inr (Or.inr (Or.inr (Or.inr (Or.inl h)))))))))
theorem q_9336c0ad2 {x0 : Int} (f0 : x0 > 60) : 60 < x0 := by omega
theorem q_6d55548be {x0 : Int} (f0 : ¬ (x0 > 60)) : x0 ≤ 600 := by omega
theorem qv_bce25eb69 {a : Nat} {j : Int} (hm : ¬ ((a = 41 ∧ j = 0) ∨ a = 42 ∨ (a = 41 ∧ j = 2) ∨ (a = 41 ∧ j = 3) ∨ (a = 41 ∧ j = 4) ∨ (a = 41 ∧ j = 5) ∨ (a = 41 ∧ j = 6) ∨ (a = 41 ∧ j = 7) ∨ (a = 41 ∧ j = 8) ∨ (a = 41 ∧ j = 47) ∨ a = 61 ∨ a = 62)) : ¬ ((a = 41 ∧ j = 2) ∨ (a = 41 ∧ j = 3) ∨ (a = 41 ∧ j = 4) ∨ (a = 41 ∧ j = 5) ∨ (a = 41 ∧ j = 7) ∨ (a = 41 ∧ j = 8)) := (fun q => q.elim (fun h => hm (Or.inr (Or.inr (Or.inl h)))) (fun q => q.elim (fun h => hm (Or.inr (Or.inr (Or.inr (Or.inl h))))) (fun q => q.elim (fun h => hm (Or.inr (Or.inr (Or.inr (Or.inr (Or.inl h)))))) (fun q => q.elim (fun h => hm (Or.inr (Or.inr (Or.inr (Or.inr (Or.inr (Or.inl h))))))) (fun q => q.elim (fun h => hm (Or.inr (Or.inr (Or.inr (Or.inr (Or.inr (Or.inr (Or.inr (Or.inl h))))))))) (fun h => hm (Or.inr (Or.inr (Or.inr (Or.inr (Or.inr (Or.inr (Or.inr (Or.inr (Or.inl h)))))))))))))))
theorem q_8be6814e3 {x0 : Int} (f0 : ¬ (x0 > 60)) : x0 ≤ 60 := by omega
theorem c_195_0 : mLk 195 0 = some (.aload_n 0, 1) := rfl
theorem c_195_1 : mLk 195 1 = some (.getfield 56, 3) := rfl
theorem c_195_4 : mLk 195 4 = some (.iconst 0, 1) := rfl
theorem c_195_5 : mLk 195 5 = some (.iload_n 1, 1) := rfl
theorem c_195_6 : mLk 195 6 = some (.iastore, 1) := rfl
theorem c_195_7 : mLk 195 7 = some (.aload_n 0, 1) := rfl
theorem c_195_8 : mLk 195 8 = some (.getfield 56, 3) := rfl
theorem c_195_11 : mLk 195 11 = some (.iconst 1, 1) := rfl
theorem c_195_12 : mLk 195 12 = some (.iload_n 2, 1) := rfl
theorem c_195_13 : mLk 195 13 = some (.iastore, 1) := rfl
theorem c_195_14 : mLk 195 14 = some (.aload_n 0, 1) := rfl
theorem c_195_15 : mLk 195 15 = some (.getfield 56, 3) := rfl
theorem c_195_18 : mLk 195 18 = some (.iconst 2, 1) := rfl
theorem c_195_19 : mLk 195 19 = some (.iload_n 3, 1) := rfl
theorem c_195_20 : mLk 195 20 = some (.iastore, 1) := rfl
theorem c_195_21 : mLk 195 21 = some (.aload_n 0, 1) := rfl
theorem c_195_22 : mLk 195 22 = some (.getfield 56, 3) := rfl
theorem c_195_25 : mLk 195 25 = some (.iconst 3, 1) := rfl
theorem c_195_26 : mLk 195 26 = some (.iload 4, 2) := rfl
theorem c_195_28 : mLk 195 28 = some (.iastore, 1) := rfl
theorem c_195_29 : mLk 195 29 = some (.aload_n 0, 1) := rfl
theorem c_195_30 : mLk 195 30 = some (.getfield 56, 3) := rfl
theorem c_195_33 : mLk 195 33 = some (.iconst 4, 1) := rfl
theorem c_195_34 : mLk 195 34 = some (.iload_n 1, 1) := rfl
theorem c_195_35 : mLk 195 35 = some (.iload_n 2, 1) := rfl
theorem c_195_36 : mLk 195 36 = some (.iadd, 1) := rfl
theorem c_195_37 : mLk 195 37 = some (.iload_n 3, 1) := rfl
theorem c_195_38 : mLk 195 38 = some (.iadd, 1) := rfl
theorem c_195_39 : mLk 195 39 = some (.iload 4, 2) := rfl
theorem c_195_41 : mLk 195 41 = some (.iadd, 1) := rfl
theorem c_195_42 : mLk 195 42 = some (.iastore, 1) := rfl
theorem c_195_43 : mLk 195 43 = some (.aload_n 0, 1) := rfl
theorem c_195_44 : mLk 195 44 = some (.getfield 56, 3) := rfl
theorem c_195_47 : mLk 195 47 = some (.iconst 5, 1) := rfl
theorem c_195_48 : mLk 195 48 = some (.iload 5, 2) := rfl
theorem c_195_50 : mLk 195 50 = some (.iastore, 1) := rfl
theorem c_195_51 : mLk 195 51 = some (.aload_n 0, 1) := rfl
theorem c_195_52 : mLk 195 52 = some (.getfield 56, 3) := rfl
theorem c_195_55 : mLk 195 55 = some (.bipush 6, 2) := rfl
theorem c_195_57 : mLk 195 57 = some (.iload 6, 2) := rfl
theorem c_195_59 : mLk 195 59 = some (.iastore, 1) := rfl
theorem c_195_60 : mLk 195 60 = some (.aload_n 0, 1) := rfl
theorem c_195_61 : mLk 195 61 = some (.getfield 56, 3) := rfl
theorem c_195_64 : mLk 195 64 = some (.bipush 7, 2) := rfl
theorem c_195_66 : mLk 195 66 = some (.iload 7, 2) := rfl
theorem c_195_68 : mLk 195 68 = some (.iastore, 1) := rfl
theorem c_195_69 : mLk 195 69 = some (.aload_n 0, 1) := rfl
theorem c_195_70 : mLk 195 70 = some (.invokevirtual 356, 3) := rfl
theorem c_195_73 : mLk 195 73 = some (.ireturn, 1) := rfl
theorem c_196_0 : mLk 196 0 = some (.aload_n 0, 1) := rfl
theorem c_196_1 : mLk 196 1 = some (.aload_n 0, 1) := rfl
theorem c_196_2 : mLk 196 2 = some (.getfield 68, 3) := rfl
theorem c_196_5 : mLk 196 5 = some (.iconst 4, 1) := rfl
theorem c_196_6 : mLk 196 6 = some (.iload_n 1, 1) := rfl
theorem c_196_7 : mLk 196 7 = some (.imul, 1) := rfl
theorem c_196_8 : mLk 196 8 = some (.iaload, 1) := rfl
theorem c_196_9 : mLk 196 9 = some (.aload_n 0, 1) := rfl
theorem c_196_10 : mLk 196 10 = some (.getfield 68, 3) := rfl
theorem c_196_13 : mLk 196 13 = some (.iconst 4, 1) := rfl
theorem c_196_14 : mLk 196 14 = some (.iload_n 1, 1) := rfl
theorem c_196_15 : mLk 196 15 = some (.imul, 1) := rfl
theorem c_196_16 : mLk 196 16 = some (.iconst 1, 1) := rfl
theorem c_196_17 : mLk 196 17 = some (.iadd, 1) := rfl
theorem c_196_18 : mLk 196 18 = some (.iaload, 1) := rfl
theorem c_196_19 : mLk 196 19 = some (.aload_n 0, 1) := rfl
theorem c_196_20 : mLk 196 20 = some (.getfield 68, 3) := rfl
theorem c_196_23 : mLk 196 23 = some (.iconst 4, 1) := rfl
theorem c_196_24 : mLk 196 24 = some (.iload_n 1, 1) := rfl
theorem c_196_25 : mLk 196 25 = some (.imul, 1) := rfl
theorem c_196_26 : mLk 196 26 = some (.iconst 2, 1) := rfl
theorem c_196_27 : mLk 196 27 = some (.iadd, 1) := rfl
theorem c_196_28 : mLk 196 28 = some (.iaload, 1) := rfl
theorem c_196_29 : mLk 196 29 = some (.aload_n 0, 1) := rfl
theorem c_196_30 : mLk 196 30 = some (.getfield 68, 3) := rfl
theorem c_196_33 : mLk 196 33 = some (.iconst 4, 1) := rfl
theorem c_196_34 : mLk 196 34 = some (.iload_n 1, 1) := rfl
theorem c_196_35 : mLk 196 35 = some (.imul, 1) := rfl
theorem c_196_36 : mLk 196 36 = some (.iconst 3, 1) := rfl
theorem c_196_37 : mLk 196 37 = some (.iadd, 1) := rfl
theorem c_196_38 : mLk 196 38 = some (.iaload, 1) := rfl
theorem c_196_39 : mLk 196 39 = some (.aload_n 0, 1) := rfl
theorem c_196_40 : mLk 196 40 = some (.getfield 68, 3) := rfl
theorem c_196_43 : mLk 196 43 = some (.bipush 24, 2) := rfl
theorem c_196_45 : mLk 196 45 = some (.iload_n 1, 1) := rfl
theorem c_196_46 : mLk 196 46 = some (.iadd, 1) := rfl
theorem c_196_47 : mLk 196 47 = some (.iaload, 1) := rfl
theorem c_196_48 : mLk 196 48 = some (.aload_n 0, 1) := rfl
theorem c_196_49 : mLk 196 49 = some (.getfield 68, 3) := rfl
theorem c_196_52 : mLk 196 52 = some (.bipush 34, 2) := rfl
theorem c_196_54 : mLk 196 54 = some (.iaload, 1) := rfl
theorem c_196_55 : mLk 196 55 = some (.iload_n 1, 1) := rfl
theorem c_196_56 : mLk 196 56 = some (.invokevirtual 359, 3) := rfl
theorem c_196_59 : mLk 196 59 = some (.ireturn, 1) := rfl
theorem c_197_0 : mLk 197 0 = some (.aload_n 0, 1) := rfl
theorem c_197_1 : mLk 197 1 = some (.iload_n 1, 1) := rfl
theorem c_197_2 : mLk 197 2 = some (.invokevirtual 343, 3) := rfl
theorem c_197_5 : mLk 197 5 = some (.ifCond .le 17, 3) := rfl
theorem c_197_22 : mLk 197 22 = some (.iconst 0, 1) := rfl
theorem c_197_23 : mLk 197 23 = some (.ireturn, 1) := rfl
theorem c_197_8 : mLk 197 8 = some (.aload_n 0, 1) := rfl
theorem c_197_9 : mLk 197 9 = some (.iload_n 1, 1) := rfl
theorem c_197_10 : mLk 197 10 = some (.invokevirtual 375, 3) := rfl
theorem c_197_13 : mLk 197 13 = some (.bipush 50, 2) := rfl
theorem c_197_15 : mLk 197 15 = some (.if_icmp .lt 7, 3) := rfl
theorem c_197_18 : mLk 197 18 = some (.iconst 1, 1) := rfl
theorem c_197_19 : mLk 197 19 = some (.goto 4, 3) := rfl
theorem c_198_0 : mLk 198 0 = some (.aload_n 0, 1) := rfl
theorem c_198_1 : mLk 198 1 = some (.iload_n 1, 1) := rfl
theorem c_198_2 : mLk 198 2 = some (.invokevirtual 378, 3) := rfl
theorem c_198_5 : mLk 198 5 = some (.ifCond .ne 5, 3) := rfl
theorem c_198_10 : mLk 198 10 = some (.aload_n 0, 1) := rfl
theorem c_198_11 : mLk 198 11 = some (.getfield 68, 3) := rfl
theorem c_198_14 : mLk 198 14 = some (.bipush 36, 2) := rfl
theorem c_198_16 : mLk 198 16 = some (.dup2, 1) := rfl
theorem c_198_17 : mLk 198 17 = some (.iaload, 1) := rfl
theorem c_198_18 : mLk 198 18 = some (.aload_n 0, 1) := rfl
theorem c_198_19 : mLk 198 19 = some (.iload_n 1, 1) := rfl
theorem c_198_20 : mLk 198 20 = some (.invokevirtual 343, 3) := rfl
theorem c_198_23 : mLk 198 23 = some (.bipush 10, 2) := rfl
theorem c_198_27 : mLk 198 27 = some (.iastore, 1) := rfl
theorem c_198_28 : mLk 198 28 = some (.aload_n 0, 1) := rfl
theorem c_198_29 : mLk 198 29 = some (.iload_n 1, 1) := rfl
theorem c_198_30 : mLk 198 30 = some (.invokevirtual 372, 3) := rfl
theorem c_198_33 : mLk 198 33 = some (.iconst 1, 1) := rfl
theorem c_198_34 : mLk 198 34 = some (.ireturn, 1) := rfl
theorem c_198_8 : mLk 198 8 = some (.iconst 0, 1) := rfl
theorem c_198_9 : mLk 198 9 = some (.ireturn, 1) := rfl
theorem c_199_2 : mLk 199 2 = some (.iload_n 1, 1) := rfl
theorem c_199_3 : mLk 199 3 = some (.aload_n 0, 1) := rfl
theorem c_199_4 : mLk 199 4 = some (.getfield 157, 3) := rfl
theorem c_199_7 : mLk 199 7 = some (.if_icmp .ge 34, 3) := rfl
theorem c_199_41 : mLk 199 41 = some (.aload_n 0, 1) := rfl
theorem c_199_42 : mLk 199 42 = some (.getfield 68, 3) := rfl
theorem c_199_45 : mLk 199 45 = some (.bipush 34, 2) := rfl
theorem c_199_47 : mLk 199 47 = some (.dup2, 1) := rfl
theorem c_199_48 : mLk 199 48 = some (.iaload, 1) := rfl
theorem c_199_49 : mLk 199 49 = some (.iconst 1, 1) := rfl
theorem c_199_50 : mLk 199 50 = some (.iadd, 1) := rfl
theorem c_199_51 : mLk 199 51 = some (.iastore, 1) := rfl
theorem c_199_10 : mLk 199 10 = some (.aload_n 0, 1) := rfl
theorem c_199_11 : mLk 199 11 = some (.getfield 68, 3) := rfl
theorem c_199_14 : mLk 199 14 = some (.bipush 24, 2) := rfl
theorem c_199_16 : mLk 199 16 = some (.iload_n 1, 1) := rfl
theorem c_199_17 : mLk 199 17 = some (.iadd, 1) := rfl
theorem c_199_18 : mLk 199 18 = some (.dup2, 1) := rfl
theorem c_199_19 : mLk 199 19 = some (.iaload, 1) := rfl
theorem c_199_20 : mLk 199 20 = some (.aload_n 0, 1) := rfl
theorem c_199_21 : mLk 199 21 = some (.iload_n 1, 1) := rfl
theorem c_199_22 : mLk 199 22 = some (.invokevirtual 343, 3) := rfl
theorem c_199_25 : mLk 199 25 = some (.ifCond .le 7, 3) := rfl
theorem c_199_32 : mLk 199 32 = some (.iconst 0, 1) := rfl
theorem c_199_33 : mLk 199 33 = some (.iadd, 1) := rfl
theorem c_199_34 : mLk 199 34 = some (.iastore, 1) := rfl
theorem c_199_35 : mLk 199 35 = some (.iinc 1 1, 3) := rfl
theorem c_199_38 : mLk 199 38 = some (.goto (-36), 3) := rfl
theorem c_199_28 : mLk 199 28 = some (.iconst 1, 1) := rfl
theorem c_199_29 : mLk 199 29 = some (.goto 4, 3) := rfl
theorem c_199_0 : mLk 199 0 = some (.iconst 0, 1) := rfl
theorem c_199_1 : mLk 199 1 = some (.istore_n 1, 1) := rfl
theorem c_200_0 : mLk 200 0 = some (.aload_n 0, 1) := rfl
theorem c_200_1 : mLk 200 1 = some (.getfield 62, 3) := rfl
theorem c_200_4 : mLk 200 4 = some (.iload_n 1, 1) := rfl
theorem c_200_5 : mLk 200 5 = some (.iaload, 1) := rfl
theorem c_200_6 : mLk 200 6 = some (.istore_n 2, 1) := rfl
theorem c_200_7 : mLk 200 7 = some (.aload_n 0, 1) := rfl
theorem c_200_8 : mLk 200 8 = some (.getfield 62, 3) := rfl
theorem c_200_11 : mLk 200 11 = some (.iload_n 1, 1) := rfl
theorem c_200_12 : mLk 200 12 = some (.iconst 1, 1) := rfl
theorem c_200_13 : mLk 200 13 = some (.iadd, 1) := rfl
theorem c_200_14 : mLk 200 14 = some (.iaload, 1) := rfl
theorem c_200_15 : mLk 200 15 = some (.istore_n 3, 1) := rfl
theorem c_200_16 : mLk 200 16 = some (.aload_n 0, 1) := rfl
theorem c_200_17 : mLk 200 17 = some (.getfield 62, 3) := rfl
theorem c_200_20 : mLk 200 20 = some (.iload_n 1, 1) := rfl
theorem c_200_21 : mLk 200 21 = some (.iconst 2, 1) := rfl
theorem c_200_22 : mLk 200 22 = some (.iadd, 1) := rfl
theorem c_200_23 : mLk 200 23 = some (.iaload, 1) := rfl
theorem c_200_24 : mLk 200 24 = some (.istore 4, 2) := rfl
theorem c_200_26 : mLk 200 26 = some (.aload_n 0, 1) := rfl
theorem c_200_27 : mLk 200 27 = some (.getfield 62, 3) := rfl
theorem c_200_30 : mLk 200 30 = some (.iload_n 1, 1) := rfl
theorem c_200_31 : mLk 200 31 = some (.iconst 3, 1) := rfl
theorem c_200_32 : mLk 200 32 = some (.iadd, 1) := rfl
theorem c_200_33 : mLk 200 33 = some (.iaload, 1) := rfl
theorem c_200_34 : mLk 200 34 = some (.istore 5, 2) := rfl
theorem c_200_36 : mLk 200 36 = some (.iload_n 2, 1) := rfl
theorem c_200_37 : mLk 200 37 = some (.ifCond .ne 11, 3) := rfl
theorem c_200_48 : mLk 200 48 = some (.iload_n 2, 1) := rfl
theorem c_200_49 : mLk 200 49 = some (.iconst 1, 1) := rfl
theorem c_200_50 : mLk 200 50 = some (.if_icmp .ne 21, 3) := rfl
theorem c_200_71 : mLk 200 71 = some (.iload_n 2, 1) := rfl
theorem c_200_72 : mLk 200 72 = some (.iconst 2, 1) := rfl
theorem c_200_73 : mLk 200 73 = some (.if_icmp .ne 16, 3) := rfl
theorem c_200_89 : mLk 200 89 = some (.iload_n 2, 1) := rfl
theorem c_200_90 : mLk 200 90 = some (.iconst 3, 1) := rfl
theorem c_200_91 : mLk 200 91 = some (.if_icmp .ne 13, 3) := rfl
theorem c_200_104 : mLk 200 104 = some (.iload_n 2, 1) := rfl
theorem c_200_105 : mLk 200 105 = some (.iconst 5, 1) := rfl
theorem c_200_106 : mLk 200 106 = some (.if_icmp .ne 9, 3) := rfl
theorem c_200_115 : mLk 200 115 = some (.iload_n 2, 1) := rfl
theorem c_200_116 : mLk 200 116 = some (.bipush 6, 2) := rfl
theorem c_200_118 : mLk 200 118 = some (.if_icmp .ne 18, 3) := rfl
theorem c_200_136 : mLk 200 136 = some (.iload_n 2, 1) := rfl
theorem c_200_137 : mLk 200 137 = some (.iconst 4, 1) := rfl
theorem c_200_138 : mLk 200 138 = some (.if_icmp .ne 26, 3) := rfl
theorem c_200_164 : mLk 200 164 = some (.aload_n 0, 1) := rfl
theorem c_200_165 : mLk 200 165 = some (.invokevirtual 353, 3) := rfl
theorem c_200_168 : mLk 200 168 = some (.iconst 1, 1) := rfl
theorem c_200_169 : mLk 200 169 = some (.ireturn, 1) := rfl
theorem c_200_141 : mLk 200 141 = some (.aload_n 0, 1) := rfl
theorem c_200_142 : mLk 200 142 = some (.getfield 68, 3) := rfl
theorem c_200_145 : mLk 200 145 = some (.bipush 30, 2) := rfl
theorem c_200_147 : mLk 200 147 = some (.iload_n 3, 1) := rfl
theorem c_200_148 : mLk 200 148 = some (.iadd, 1) := rfl
theorem c_200_149 : mLk 200 149 = some (.iconst 1, 1) := rfl
theorem c_200_150 : mLk 200 150 = some (.aload_n 0, 1) := rfl
theorem c_200_151 : mLk 200 151 = some (.getfield 68, 3) := rfl
theorem c_200_154 : mLk 200 154 = some (.bipush 30, 2) := rfl
theorem c_200_156 : mLk 200 156 = some (.iload_n 3, 1) := rfl
theorem c_200_157 : mLk 200 157 = some (.iadd, 1) := rfl
theorem c_200_158 : mLk 200 158 = some (.iaload, 1) := rfl
theorem c_200_159 : mLk 200 159 = some (.isub, 1) := rfl
theorem c_200_160 : mLk 200 160 = some (.iastore, 1) := rfl
theorem c_200_161 : mLk 200 161 = some (.goto 7, 3) := rfl
theorem c_200_121 : mLk 200 121 = some (.aload_n 0, 1) := rfl
theorem c_200_122 : mLk 200 122 = some (.getfield 68, 3) := rfl
theorem c_200_125 : mLk 200 125 = some (.bipush 34, 2) := rfl
theorem c_200_127 : mLk 200 127 = some (.iaload, 1) := rfl
theorem c_200_128 : mLk 200 128 = some (.sipush 400, 3) := rfl
theorem c_200_131 : mLk 200 131 = some (.if_icmp .lt 5, 3) := rfl
theorem c_200_134 : mLk 200 134 = some (.iconst 0, 1) := rfl
theorem c_200_135 : mLk 200 135 = some (.ireturn, 1) := rfl
theorem c_200_109 : mLk 200 109 = some (.aload_n 0, 1) := rfl
theorem c_200_110 : mLk 200 110 = some (.iload_n 3, 1) := rfl
theorem c_200_111 : mLk 200 111 = some (.invokevirtual 350, 3) := rfl
theorem c_200_114 : mLk 200 114 = some (.ireturn, 1) := rfl
theorem c_200_94 : mLk 200 94 = some (.aload_n 0, 1) := rfl
theorem c_200_95 : mLk 200 95 = some (.iload_n 3, 1) := rfl
theorem c_200_96 : mLk 200 96 = some (.iload 4, 2) := rfl
theorem c_200_98 : mLk 200 98 = some (.iload 5, 2) := rfl
theorem c_200_100 : mLk 200 100 = some (.invokevirtual 346, 3) := rfl
theorem c_200_103 : mLk 200 103 = some (.ireturn, 1) := rfl
theorem c_200_76 : mLk 200 76 = some (.aload_n 0, 1) := rfl
theorem c_200_77 : mLk 200 77 = some (.iload_n 3, 1) := rfl
theorem c_200_78 : mLk 200 78 = some (.iload 4, 2) := rfl
theorem c_200_80 : mLk 200 80 = some (.aload_n 0, 1) := rfl
theorem c_200_81 : mLk 200 81 = some (.iload_n 3, 1) := rfl
theorem c_200_82 : mLk 200 82 = some (.invokevirtual 343, 3) := rfl
theorem c_200_85 : mLk 200 85 = some (.invokevirtual 346, 3) := rfl
theorem c_200_88 : mLk 200 88 = some (.ireturn, 1) := rfl
theorem c_200_53 : mLk 200 53 = some (.aload_n 0, 1) := rfl
theorem c_200_54 : mLk 200 54 = some (.iload_n 3, 1) := rfl
theorem c_200_55 : mLk 200 55 = some (.iload 4, 2) := rfl
theorem c_200_57 : mLk 200 57 = some (.iload 5, 2) := rfl
theorem c_200_59 : mLk 200 59 = some (.aload_n 0, 1) := rfl
theorem c_200_60 : mLk 200 60 = some (.getfield 62, 3) := rfl
theorem c_200_63 : mLk 200 63 = some (.iload_n 1, 1) := rfl
theorem c_200_64 : mLk 200 64 = some (.iconst 4, 1) := rfl
theorem c_200_65 : mLk 200 65 = some (.iadd, 1) := rfl
theorem c_200_66 : mLk 200 66 = some (.iaload, 1) := rfl
theorem c_200_67 : mLk 200 67 = some (.invokevirtual 339, 3) := rfl
theorem c_200_70 : mLk 200 70 = some (.ireturn, 1) := rfl
theorem c_200_40 : mLk 200 40 = some (.aload_n 0, 1) := rfl
theorem c_200_41 : mLk 200 41 = some (.iload_n 3, 1) := rfl
theorem c_200_42 : mLk 200 42 = some (.iload 4, 2) := rfl
theorem c_200_44 : mLk 200 44 = some (.invokevirtual 335, 3) := rfl
theorem c_200_47 : mLk 200 47 = some (.ireturn, 1) := rfl
theorem c_201_2 : mLk 201 2 = some (.iload_n 3, 1) := rfl
theorem c_201_3 : mLk 201 3 = some (.iload_n 2, 1) := rfl
theorem c_201_4 : mLk 201 4 = some (.if_icmp .ge 128, 3) := rfl
theorem c_201_7 : mLk 201 7 = some (.aload_n 0, 1) := rfl
theorem c_201_8 : mLk 201 8 = some (.getfield 320, 3) := rfl
theorem c_201_11 : mLk 201 11 = some (.sipush 200, 3) := rfl
theorem c_201_14 : mLk 201 14 = some (.if_icmp .ge 118, 3) := rfl
theorem c_201_17 : mLk 201 17 = some (.aload_n 0, 1) := rfl
theorem c_201_18 : mLk 201 18 = some (.dup, 1) := rfl
theorem c_201_19 : mLk 201 19 = some (.getfield 320, 3) := rfl
theorem c_201_22 : mLk 201 22 = some (.iconst 1, 1) := rfl
theorem c_201_23 : mLk 201 23 = some (.iadd, 1) := rfl
theorem c_201_24 : mLk 201 24 = some (.putfield 320, 3) := rfl
theorem c_201_27 : mLk 201 27 = some (.aload_n 0, 1) := rfl
theorem c_201_28 : mLk 201 28 = some (.getfield 62, 3) := rfl
theorem c_201_31 : mLk 201 31 = some (.iload_n 3, 1) := rfl
theorem c_201_32 : mLk 201 32 = some (.iaload, 1) := rfl
theorem c_201_33 : mLk 201 33 = some (.bipush 7, 2) := rfl
theorem c_201_35 : mLk 201 35 = some (.if_icmp .ne 60, 3) := rfl
theorem c_201_95 : mLk 201 95 = some (.aload_n 0, 1) := rfl
theorem c_201_96 : mLk 201 96 = some (.iload_n 3, 1) := rfl
theorem c_201_97 : mLk 201 97 = some (.invokevirtual 332, 3) := rfl
theorem c_201_100 : mLk 201 100 = some (.ifCond .eq 16, 3) := rfl
theorem c_201_116 : mLk 201 116 = some (.aload_n 0, 1) := rfl
theorem c_201_117 : mLk 201 117 = some (.dup, 1) := rfl
theorem c_201_118 : mLk 201 118 = some (.getfield 326, 3) := rfl
theorem c_201_121 : mLk 201 121 = some (.iconst 1, 1) := rfl
theorem c_201_122 : mLk 201 122 = some (.iadd, 1) := rfl
theorem c_201_123 : mLk 201 123 = some (.putfield 326, 3) := rfl
theorem c_201_126 : mLk 201 126 = some (.iinc 3 5, 3) := rfl
theorem c_201_129 : mLk 201 129 = some (.goto (-127), 3) := rfl
theorem c_201_103 : mLk 201 103 = some (.aload_n 0, 1) := rfl
theorem c_201_104 : mLk 201 104 = some (.dup, 1) := rfl
theorem c_201_105 : mLk 201 105 = some (.getfield 323, 3) := rfl
theorem c_201_108 : mLk 201 108 = some (.iconst 1, 1) := rfl
theorem c_201_109 : mLk 201 109 = some (.iadd, 1) := rfl
theorem c_201_110 : mLk 201 110 = some (.putfield 323, 3) := rfl
theorem c_201_113 : mLk 201 113 = some (.goto 13, 3) := rfl
theorem c_201_38 : mLk 201 38 = some (.aload_n 0, 1) := rfl
theorem c_201_39 : mLk 201 39 = some (.getfield 62, 3) := rfl
theorem c_201_42 : mLk 201 42 = some (.iload_n 3, 1) := rfl
theorem c_201_43 : mLk 201 43 = some (.iconst 2, 1) := rfl
theorem c_201_44 : mLk 201 44 = some (.iadd, 1) := rfl
theorem c_201_45 : mLk 201 45 = some (.iaload, 1) := rfl
theorem c_201_46 : mLk 201 46 = some (.istore 4, 2) := rfl
theorem c_201_48 : mLk 201 48 = some (.iconst 0, 1) := rfl
theorem c_201_49 : mLk 201 49 = some (.istore 5, 2) := rfl
theorem c_201_51 : mLk 201 51 = some (.iload 5, 2) := rfl
theorem c_201_53 : mLk 201 53 = some (.aload_n 0, 1) := rfl
theorem c_201_54 : mLk 201 54 = some (.getfield 62, 3) := rfl
theorem c_201_57 : mLk 201 57 = some (.iload_n 3, 1) := rfl
theorem c_201_58 : mLk 201 58 = some (.iconst 1, 1) := rfl
theorem c_201_59 : mLk 201 59 = some (.iadd, 1) := rfl
theorem c_201_60 : mLk 201 60 = some (.iaload, 1) := rfl
theorem c_201_61 : mLk 201 61 = some (.if_icmp .ge 28, 3) := rfl
theorem c_201_89 : mLk 201 89 = some (.iload 4, 2) := rfl
theorem c_201_91 : mLk 201 91 = some (.istore_n 3, 1) := rfl
theorem c_201_92 : mLk 201 92 = some (.goto (-90), 3) := rfl
theorem c_201_64 : mLk 201 64 = some (.aload_n 0, 1) := rfl
theorem c_201_65 : mLk 201 65 = some (.getfield 320, 3) := rfl
theorem c_201_68 : mLk 201 68 = some (.sipush 200, 3) := rfl
theorem c_201_71 : mLk 201 71 = some (.if_icmp .ge 18, 3) := rfl
theorem c_201_74 : mLk 201 74 = some (.aload_n 0, 1) := rfl
theorem c_201_75 : mLk 201 75 = some (.iload_n 3, 1) := rfl
theorem c_201_76 : mLk 201 76 = some (.iconst 5, 1) := rfl
theorem c_201_77 : mLk 201 77 = some (.iadd, 1) := rfl
theorem c_201_78 : mLk 201 78 = some (.iload 4, 2) := rfl
theorem c_201_80 : mLk 201 80 = some (.invokevirtual 329, 3) := rfl
theorem c_201_83 : mLk 201 83 = some (.iinc 5 1, 3) := rfl
theorem c_201_86 : mLk 201 86 = some (.goto (-35), 3) := rfl
theorem c_201_0 : mLk 201 0 = some (.iload_n 1, 1) := rfl
theorem c_201_1 : mLk 201 1 = some (.istore_n 3, 1) := rfl
theorem c_202_155 : mLk 202 155 = some (.aload_n 0, 1) := rfl
theorem c_202_156 : mLk 202 156 = some (.dup, 1) := rfl
theorem c_202_157 : mLk 202 157 = some (.getfield 182, 3) := rfl
theorem c_202_160 : mLk 202 160 = some (.iconst 1, 1) := rfl
theorem c_202_161 : mLk 202 161 = some (.iadd, 1) := rfl
theorem c_202_162 : mLk 202 162 = some (.putfield 182, 3) := rfl
theorem c_202_165 : mLk 202 165 = some (.aload_n 0, 1) := rfl
theorem c_202_166 : mLk 202 166 = some (.invokevirtual 317, 3) := rfl
theorem c_202_169 : mLk 202 169 = some (.aload_n 0, 1) := rfl
theorem c_202_170 : mLk 202 170 = some (.iconst 0, 1) := rfl
theorem c_202_171 : mLk 202 171 = some (.putfield 320, 3) := rfl
theorem c_202_174 : mLk 202 174 = some (.aload_n 0, 1) := rfl
theorem c_202_175 : mLk 202 175 = some (.iconst 0, 1) := rfl
theorem c_202_176 : mLk 202 176 = some (.putfield 323, 3) := rfl
theorem c_202_179 : mLk 202 179 = some (.aload_n 0, 1) := rfl
theorem c_202_180 : mLk 202 180 = some (.iconst 0, 1) := rfl
theorem c_202_181 : mLk 202 181 = some (.putfield 326, 3) := rfl
theorem c_202_184 : mLk 202 184 = some (.aload_n 0, 1) := rfl
theorem c_202_185 : mLk 202 185 = some (.iconst 0, 1) := rfl
theorem c_202_186 : mLk 202 186 = some (.aload_n 0, 1) := rfl
theorem c_202_187 : mLk 202 187 = some (.getfield 284, 3) := rfl
theorem c_202_190 : mLk 202 190 = some (.invokevirtual 329, 3) := rfl
theorem c_202_193 : mLk 202 193 = some (.aload_n 0, 1) := rfl
theorem c_202_194 : mLk 202 194 = some (.aload_n 0, 1) := rfl
theorem c_202_195 : mLk 202 195 = some (.getfield 68, 3) := rfl
theorem c_202_198 : mLk 202 198 = some (.aload_n 0, 1) := rfl
theorem c_202_199 : mLk 202 199 = some (.getfield 65, 3) := rfl
theorem c_202_202 : mLk 202 202 = some (.bipush 37, 2) := rfl
theorem c_202_204 : mLk 202 204 = some (.invokevirtual 169, 3) := rfl
theorem c_202_207 : mLk 202 207 = some (.aload_n 0, 1) := rfl
theorem c_202_208 : mLk 202 208 = some (.aload_n 0, 1) := rfl
theorem c_202_209 : mLk 202 209 = some (.getfield 326, 3) := rfl
theorem c_202_212 : mLk 202 212 = some (.putfield 188, 3) := rfl
theorem c_202_215 : mLk 202 215 = some (.aload_n 0, 1) := rfl
theorem c_202_216 : mLk 202 216 = some (.getfield 323, 3) := rfl
theorem c_202_219 : mLk 202 219 = some (.ireturn, 1) := rfl
theorem c_202_123 : mLk 202 123 = some (.iload_n 3, 1) := rfl
theorem c_202_124 : mLk 202 124 = some (.bipush 37, 2) := rfl
theorem c_202_126 : mLk 202 126 = some (.if_icmp .ge 29, 3) := rfl
theorem c_202_129 : mLk 202 129 = some (.aload_n 0, 1) := rfl
theorem c_202_130 : mLk 202 130 = some (.getfield 71, 3) := rfl
theorem c_202_133 : mLk 202 133 = some (.bipush 37, 2) := rfl
theorem c_202_135 : mLk 202 135 = some (.aload_n 0, 1) := rfl
theorem c_202_136 : mLk 202 136 = some (.getfield 182, 3) := rfl
theorem c_202_139 : mLk 202 139 = some (.imul, 1) := rfl
theorem c_202_140 : mLk 202 140 = some (.iload_n 3, 1) := rfl
theorem c_202_141 : mLk 202 141 = some (.iadd, 1) := rfl
theorem c_202_142 : mLk 202 142 = some (.aload_n 0, 1) := rfl
theorem c_202_143 : mLk 202 143 = some (.getfield 65, 3) := rfl
theorem c_202_146 : mLk 202 146 = some (.iload_n 3, 1) := rfl
theorem c_202_147 : mLk 202 147 = some (.iaload, 1) := rfl
theorem c_202_148 : mLk 202 148 = some (.iastore, 1) := rfl
theorem c_202_149 : mLk 202 149 = some (.iinc 3 1, 3) := rfl
theorem c_202_152 : mLk 202 152 = some (.goto (-29), 3) := rfl
theorem c_202_121 : mLk 202 121 = some (.iconst 0, 1) := rfl
theorem c_202_122 : mLk 202 122 = some (.istore_n 3, 1) := rfl
theorem c_202_75 : mLk 202 75 = some (.aload_n 0, 1) := rfl
theorem c_202_76 : mLk 202 76 = some (.invokevirtual 211, 3) := rfl
theorem c_202_79 : mLk 202 79 = some (.ifCond .eq 10, 3) := rfl
theorem c_202_89 : mLk 202 89 = some (.aload_n 0, 1) := rfl
theorem c_202_90 : mLk 202 90 = some (.iconst 0, 1) := rfl
theorem c_202_91 : mLk 202 91 = some (.invokevirtual 232, 3) := rfl
theorem c_202_94 : mLk 202 94 = some (.istore_n 2, 1) := rfl
theorem c_202_95 : mLk 202 95 = some (.aload_n 0, 1) := rfl
theorem c_202_96 : mLk 202 96 = some (.getfield 102, 3) := rfl
theorem c_202_99 : mLk 202 99 = some (.iconst (-1), 1) := rfl
theorem c_202_100 : mLk 202 100 = some (.if_icmp .eq 5, 3) := rfl
theorem c_202_105 : mLk 202 105 = some (.aload_n 0, 1) := rfl
theorem c_202_106 : mLk 202 106 = some (.aload_n 0, 1) := rfl
theorem c_202_107 : mLk 202 107 = some (.getfield 59, 3) := rfl
theorem c_202_110 : mLk 202 110 = some (.aload_n 0, 1) := rfl
theorem c_202_111 : mLk 202 111 = some (.getfield 62, 3) := rfl
theorem c_202_114 : mLk 202 114 = some (.aload_n 0, 1) := rfl
theorem c_202_115 : mLk 202 115 = some (.getfield 284, 3) := rfl
theorem c_202_118 : mLk 202 118 = some (.invokevirtual 169, 3) := rfl
theorem c_202_82 : mLk 202 82 = some (.aload_n 0, 1) := rfl
theorem c_202_83 : mLk 202 83 = some (.invokevirtual 305, 3) := rfl
theorem c_202_86 : mLk 202 86 = some (.goto (-18), 3) := rfl
theorem c_202_68 : mLk 202 68 = some (.aload_n 0, 1) := rfl
theorem c_202_69 : mLk 202 69 = some (.invokevirtual 131, 3) := rfl
theorem c_202_72 : mLk 202 72 = some (.ifCond .eq 17, 3) := rfl
theorem c_202_103 : mLk 202 103 = some (.iload_n 2, 1) := rfl
theorem c_202_104 : mLk 202 104 = some (.ireturn, 1) := rfl
theorem c_202_0 : mLk 202 0 = some (.aload_n 0, 1) := rfl
theorem c_202_1 : mLk 202 1 = some (.iconst 0, 1) := rfl
theorem c_202_2 : mLk 202 2 = some (.putfield 3, 3) := rfl
theorem c_202_5 : mLk 202 5 = some (.aload_n 0, 1) := rfl
theorem c_202_6 : mLk 202 6 = some (.iload_n 1, 1) := rfl
theorem c_202_7 : mLk 202 7 = some (.ifCond .lt 22, 3) := rfl
theorem c_202_29 : mLk 202 29 = some (.iconst 0, 1) := rfl
theorem c_202_30 : mLk 202 30 = some (.iconst 1, 1) := rfl
theorem c_202_31 : mLk 202 31 = some (.iconst 1, 1) := rfl
theorem c_202_32 : mLk 202 32 = some (.invokevirtual 203, 3) := rfl
theorem c_202_35 : mLk 202 35 = some (.ifCond .ne 5, 3) := rfl
theorem c_202_38 : mLk 202 38 = some (.iconst 0, 1) := rfl
theorem c_202_39 : mLk 202 39 = some (.ireturn, 1) := rfl
theorem c_202_10 : mLk 202 10 = some (.iload_n 1, 1) := rfl
theorem c_202_11 : mLk 202 11 = some (.aload_n 0, 1) := rfl
theorem c_202_12 : mLk 202 12 = some (.getfield 99, 3) := rfl
theorem c_202_15 : mLk 202 15 = some (.if_icmp .gt 14, 3) := rfl
theorem c_202_18 : mLk 202 18 = some (.iload_n 1, 1) := rfl
theorem c_202_19 : mLk 202 19 = some (.sipush 150, 3) := rfl
theorem c_202_22 : mLk 202 22 = some (.if_icmp .gt 7, 3) := rfl
theorem c_202_25 : mLk 202 25 = some (.iconst 1, 1) := rfl
theorem c_202_26 : mLk 202 26 = some (.goto 4, 3) := rfl
theorem c_202_40 : mLk 202 40 = some (.aload_n 0, 1) := rfl
theorem c_202_41 : mLk 202 41 = some (.iload_n 1, 1) := rfl
theorem c_202_42 : mLk 202 42 = some (.invokevirtual 207, 3) := rfl
theorem c_202_45 : mLk 202 45 = some (.aload_n 0, 1) := rfl
theorem c_202_46 : mLk 202 46 = some (.getfield 182, 3) := rfl
theorem c_202_49 : mLk 202 49 = some (.bipush 16, 2) := rfl
theorem c_202_51 : mLk 202 51 = some (.if_icmp .ne 12, 3) := rfl
theorem c_202_63 : mLk 202 63 = some (.aload_n 0, 1) := rfl
theorem c_202_64 : mLk 202 64 = some (.iconst 0, 1) := rfl
theorem c_202_65 : mLk 202 65 = some (.putfield 284, 3) := rfl
theorem c_202_54 : mLk 202 54 = some (.aload_n 0, 1) := rfl
theorem c_202_55 : mLk 202 55 = some (.iconst 0, 1) := rfl
theorem c_202_56 : mLk 202 56 = some (.invokevirtual 232, 3) := rfl
theorem c_202_59 : mLk 202 59 = some (.pop, 1) := rfl
theorem c_202_60 : mLk 202 60 = some (.bipush (-20), 2) := rfl
theorem c_202_62 : mLk 202 62 = some (.ireturn, 1) := rfl
theorem c_203_4 : mLk 203 4 = some (.iload_n 2, 1) := rfl
theorem c_203_5 : mLk 203 5 = some (.aload_n 0, 1) := rfl
theorem c_203_6 : mLk 203 6 = some (.getfield 157, 3) := rfl
theorem c_203_9 : mLk 203 9 = some (.if_icmp .ge 17, 3) := rfl
theorem c_203_26 : mLk 203 26 = some (.iload_n 1, 1) := rfl
theorem c_203_27 : mLk 203 27 = some (.ireturn, 1) := rfl
theorem c_203_12 : mLk 203 12 = some (.iload_n 1, 1) := rfl
theorem c_203_13 : mLk 203 13 = some (.aload_n 0, 1) := rfl
theorem c_203_14 : mLk 203 14 = some (.iload_n 2, 1) := rfl
theorem c_203_15 : mLk 203 15 = some (.invokevirtual 343, 3) := rfl
theorem c_203_18 : mLk 203 18 = some (.iadd, 1) := rfl
theorem c_203_19 : mLk 203 19 = some (.istore_n 1, 1) := rfl
theorem c_203_20 : mLk 203 20 = some (.iinc 2 1, 3) := rfl
theorem c_203_23 : mLk 203 23 = some (.goto (-19), 3) := rfl
theorem c_203_0 : mLk 203 0 = some (.iconst 0, 1) := rfl
theorem c_203_1 : mLk 203 1 = some (.istore_n 1, 1) := rfl
theorem c_203_2 : mLk 203 2 = some (.iconst 0, 1) := rfl
theorem c_203_3 : mLk 203 3 = some (.istore_n 2, 1) := rfl
theorem c_204_0 : mLk 204 0 = some (.aload_n 0, 1) := rfl
theorem c_204_1 : mLk 204 1 = some (.iload_n 1, 1) := rfl
theorem c_204_2 : mLk 204 2 = some (.invokevirtual 343, 3) := rfl
theorem c_204_5 : mLk 204 5 = some (.ifCond .ne 7, 3) := rfl
theorem c_204_12 : mLk 204 12 = some (.sipush 1000, 3) := rfl
theorem c_204_15 : mLk 204 15 = some (.aload_n 0, 1) := rfl
theorem c_204_16 : mLk 204 16 = some (.getfield 68, 3) := rfl
theorem c_204_19 : mLk 204 19 = some (.iconst 4, 1) := rfl
theorem c_204_20 : mLk 204 20 = some (.iload_n 1, 1) := rfl
theorem c_204_21 : mLk 204 21 = some (.imul, 1) := rfl
theorem c_204_22 : mLk 204 22 = some (.iaload, 1) := rfl
theorem c_204_23 : mLk 204 23 = some (.imul, 1) := rfl
theorem c_204_24 : mLk 204 24 = some (.aload_n 0, 1) := rfl
theorem c_204_25 : mLk 204 25 = some (.iload_n 1, 1) := rfl
theorem c_204_26 : mLk 204 26 = some (.invokevirtual 343, 3) := rfl
theorem c_204_29 : mLk 204 29 = some (.idiv, 1) := rfl
theorem c_204_30 : mLk 204 30 = some (.ireturn, 1) := rfl
theorem c_204_8 : mLk 204 8 = some (.iconst 0, 1) := rfl
theorem c_204_9 : mLk 204 9 = some (.goto 21, 3) := rfl
theorem c_206_22 : mLk 206 22 = some (.aload_n 0, 1) := rfl
theorem c_206_23 : mLk 206 23 = some (.invokevirtual 131, 3) := rfl
theorem c_206_26 : mLk 206 26 = some (.ifCond .eq 77, 3) := rfl
theorem c_206_103 : mLk 206 103 = some (.aload_n 0, 1) := rfl
theorem c_206_104 : mLk 206 104 = some (.iload_n 2, 1) := rfl
theorem c_206_105 : mLk 206 105 = some (.invokevirtual 232, 3) := rfl
theorem c_206_108 : mLk 206 108 = some (.istore_n 3, 1) := rfl
theorem c_206_109 : mLk 206 109 = some (.aload_n 0, 1) := rfl
theorem c_206_110 : mLk 206 110 = some (.getfield 102, 3) := rfl
theorem c_206_113 : mLk 206 113 = some (.iconst (-1), 1) := rfl
theorem c_206_114 : mLk 206 114 = some (.if_icmp .eq 5, 3) := rfl
theorem c_206_117 : mLk 206 117 = some (.iload_n 3, 1) := rfl
theorem c_206_118 : mLk 206 118 = some (.ireturn, 1) := rfl
theorem c_206_29 : mLk 206 29 = some (.aload_n 0, 1) := rfl
theorem c_206_30 : mLk 206 30 = some (.invokevirtual 211, 3) := rfl
theorem c_206_33 : mLk 206 33 = some (.ifCond .eq 70, 3) := rfl
theorem c_206_119 : mLk 206 119 = some (.aload_n 0, 1) := rfl
theorem c_206_120 : mLk 206 120 = some (.iload_n 2, 1) := rfl
theorem c_206_121 : mLk 206 121 = some (.putfield 176, 3) := rfl
theorem c_206_124 : mLk 206 124 = some (.aload_n 0, 1) := rfl
theorem c_206_125 : mLk 206 125 = some (.aload_n 0, 1) := rfl
theorem c_206_126 : mLk 206 126 = some (.getfield 74, 3) := rfl
theorem c_206_129 : mLk 206 129 = some (.aload_n 0, 1) := rfl
theorem c_206_130 : mLk 206 130 = some (.getfield 77, 3) := rfl
theorem c_206_133 : mLk 206 133 = some (.bipush 8, 2) := rfl
theorem c_206_135 : mLk 206 135 = some (.invokevirtual 169, 3) := rfl
theorem c_206_138 : mLk 206 138 = some (.iload_n 3, 1) := rfl
theorem c_206_139 : mLk 206 139 = some (.ireturn, 1) := rfl
theorem c_206_36 : mLk 206 36 = some (.aload_n 0, 1) := rfl
theorem c_206_37 : mLk 206 37 = some (.getfield 108, 3) := rfl
theorem c_206_40 : mLk 206 40 = some (.istore_n 3, 1) := rfl
theorem c_206_41 : mLk 206 41 = some (.aload_n 0, 1) := rfl
theorem c_206_42 : mLk 206 42 = some (.iconst 0, 1) := rfl
theorem c_206_43 : mLk 206 43 = some (.aload_n 0, 1) := rfl
theorem c_206_44 : mLk 206 44 = some (.getfield 163, 3) := rfl
theorem c_206_47 : mLk 206 47 = some (.iconst 1, 1) := rfl
theorem c_206_48 : mLk 206 48 = some (.isub, 1) := rfl
theorem c_206_49 : mLk 206 49 = some (.invokevirtual 199, 3) := rfl
theorem c_206_52 : mLk 206 52 = some (.istore 4, 2) := rfl
theorem c_206_54 : mLk 206 54 = some (.aload_n 0, 1) := rfl
theorem c_206_55 : mLk 206 55 = some (.invokevirtual 131, 3) := rfl
theorem c_206_58 : mLk 206 58 = some (.ifCond .eq 15, 3) := rfl
theorem c_206_73 : mLk 206 73 = some (.aload_n 0, 1) := rfl
theorem c_206_74 : mLk 206 74 = some (.bipush 59, 2) := rfl
theorem c_206_76 : mLk 206 76 = some (.invokevirtual 229, 3) := rfl
theorem c_206_79 : mLk 206 79 = some (.aload_n 0, 1) := rfl
theorem c_206_80 : mLk 206 80 = some (.invokevirtual 131, 3) := rfl
theorem c_206_83 : mLk 206 83 = some (.ifCond .ne 6, 3) := rfl
theorem c_206_86 : mLk 206 86 = some (.goto 17, 3) := rfl
theorem c_206_61 : mLk 206 61 = some (.iload_n 2, 1) := rfl
theorem c_206_62 : mLk 206 62 = some (.bipush 8, 2) := rfl
theorem c_206_64 : mLk 206 64 = some (.if_icmp .ne 9, 3) := rfl
theorem c_206_89 : mLk 206 89 = some (.aload_n 0, 1) := rfl
theorem c_206_90 : mLk 206 90 = some (.getfield 74, 3) := rfl
theorem c_206_93 : mLk 206 93 = some (.iload_n 2, 1) := rfl
theorem c_206_94 : mLk 206 94 = some (.iload 4, 2) := rfl
theorem c_206_96 : mLk 206 96 = some (.iastore, 1) := rfl
theorem c_206_97 : mLk 206 97 = some (.iinc 2 1, 3) := rfl
theorem c_206_100 : mLk 206 100 = some (.goto (-78), 3) := rfl
theorem c_206_67 : mLk 206 67 = some (.aload_n 0, 1) := rfl
theorem c_206_68 : mLk 206 68 = some (.iconst 3, 1) := rfl
theorem c_206_69 : mLk 206 69 = some (.iload_n 3, 1) := rfl
theorem c_206_70 : mLk 206 70 = some (.invokevirtual 138, 3) := rfl
theorem c_206_0 : mLk 206 0 = some (.aload_n 0, 1) := rfl
theorem c_206_1 : mLk 206 1 = some (.iconst 0, 1) := rfl
theorem c_206_2 : mLk 206 2 = some (.putfield 3, 3) := rfl
theorem c_206_5 : mLk 206 5 = some (.aload_n 0, 1) := rfl
theorem c_206_6 : mLk 206 6 = some (.iload_n 1, 1) := rfl
theorem c_206_7 : mLk 206 7 = some (.invokevirtual 381, 3) := rfl
theorem c_205_0 : mLk 205 0 = some (.aload_n 0, 1) := rfl
theorem c_205_1 : mLk 205 1 = some (.iload_n 1, 1) := rfl
theorem c_205_2 : mLk 205 2 = some (.ifCond .lt 21, 3) := rfl
theorem c_205_23 : mLk 205 23 = some (.iconst 0, 1) := rfl
theorem c_205_24 : mLk 205 24 = some (.iconst 1, 1) := rfl
theorem c_205_25 : mLk 205 25 = some (.iconst 1, 1) := rfl
theorem c_205_26 : mLk 205 26 = some (.invokevirtual 203, 3) := rfl
theorem c_205_29 : mLk 205 29 = some (.ireturn, 1) := rfl
theorem c_206_10 : mLk 206 10 = some (.ifCond .ne 5, 3) := rfl
theorem c_206_13 : mLk 206 13 = some (.iconst 0, 1) := rfl
theorem c_206_14 : mLk 206 14 = some (.ireturn, 1) := rfl
theorem c_205_5 : mLk 205 5 = some (.iload_n 1, 1) := rfl
theorem c_205_6 : mLk 205 6 = some (.aload_n 0, 1) := rfl
theorem c_205_7 : mLk 205 7 = some (.getfield 99, 3) := rfl
theorem c_205_10 : mLk 205 10 = some (.if_icmp .gt 13, 3) := rfl
theorem c_205_13 : mLk 205 13 = some (.iload_n 1, 1) := rfl
theorem c_205_14 : mLk 205 14 = some (.bipush 60, 2) := rfl
theorem c_205_16 : mLk 205 16 = some (.if_icmp .gt 7, 3) := rfl
theorem c_205_19 : mLk 205 19 = some (.iconst 1, 1) := rfl
theorem c_205_20 : mLk 205 20 = some (.goto 4, 3) := rfl
theorem c_206_15 : mLk 206 15 = some (.aload_n 0, 1) := rfl
theorem c_206_16 : mLk 206 16 = some (.iload_n 1, 1) := rfl
theorem c_206_17 : mLk 206 17 = some (.invokevirtual 207, 3) := rfl
theorem c_206_20 : mLk 206 20 = some (.iconst 0, 1) := rfl
theorem c_206_21 : mLk 206 21 = some (.istore_n 2, 1) := rfl
theorem kf_8_320 : a_lk (kF 8) 320 = some (8, 37) := rfl
theorem kf_8_323 : a_lk (kF 8) 323 = some (8, 38) := rfl
theorem kf_8_326 : a_lk (kF 8) 326 = some (8, 39) := rfl
theorem kf_8_62 : a_lk (kF 8) 62 = some (8, 33) := rfl
theorem kf_8_71 : a_lk (kF 8) 71 = some (8, 42) := rfl
theorem kf_8_74 : a_lk (kF 8) 74 = some (8, 43) := rfl
theorem kf_8_77 : a_lk (kF 8) 77 = some (8, 44) := rfl
theorem km_8_317 : a_lk (kM 8) 317 = some (0, 186) := rfl
theorem km_8_329 : a_lk (kM 8) 329 = some (0, 201) := rfl
theorem km_8_332 : a_lk (kM 8) 332 = some (0, 200) := rfl
theorem km_8_335 : a_lk (kM 8) 335 = some (0, 188) := rfl
theorem km_8_339 : a_lk (kM 8) 339 = some (0, 193) := rfl
theorem km_8_346 : a_lk (kM 8) 346 = some (0, 194) := rfl
theorem km_8_350 : a_lk (kM 8) 350 = some (0, 198) := rfl
theorem km_8_353 : a_lk (kM 8) 353 = some (0, 199) := rfl
theorem km_8_356 : a_lk (kM 8) 356 = some (0, 180) := rfl
theorem km_8_359 : a_lk (kM 8) 359 = some (0, 195) := rfl
theorem km_8_375 : a_lk (kM 8) 375 = some (0, 196) := rfl
theorem km_8_378 : a_lk (kM 8) 378 = some (0, 197) := rfl
theorem km_8_381 : a_lk (kM 8) 381 = some (0, 205) := rfl
set_option maxRecDepth 100000 in
set_option maxHeartbeats 4000000 in
theorem s_195 {sc : List Int32} {e : Int} {d u P Q : Nat} {c : ME} {a1 : Int} {a2 : Int} {a3 : Int} {a4 : Int} {a5 : Int} {a6 : Int} {a7 : Int} {Z : AR → Prop} (hI : Iv u e P Q c) (ha1 : 0 ≤ a1 ∧ a1 ≤ 9999) (ha2 : 0 ≤ a2 ∧ a2 ≤ 9999) (ha3 : 0 ≤ a3 ∧ a3 ≤ 9999) (ha4 : 0 ≤ a4 ∧ a4 ≤ 9999) (ha5 : (-2147483648) ≤ a5 ∧ a5 ≤ 2147483647) (ha6 : (-2147483648) ≤ a6 ∧ a6 ≤ 2147483647) (ha7 : (-2147483648) ≤ a7 ∧ a7 ≤ 2147483647) (K : ∀ (c2 : ME) (y : Int), Iv u e P Q c2 → (∀ (a : Nat) (j : Int), ¬ (a = 54 ∨ a = 55) → c2 a j = c a j) → 0 ≤ y ∧ y ≤ 99 → Z (.inl (some (vi y)), Wd P Q P P c2, 0, 0)) : Wp sc (d + 10) 195 0 [(0, .ref 41), (1, vi a1), (2, vi a2), (3, vi a3), (4, vi a4), (5, vi a5), (6, vi a6), (7, vi a7)] [] (Wd P Q P P c) 0 0 Z := by
  have hP := iv_P hI
  have hQ := iv_Q hI
  refine q_aload_n c_195_0 rfl (v_gr (t := 55) c_195_1 kf_8_56 rfl (Nat.le_of_ble_eq_true rfl) rfl (q_iconst c_195_4 (q_iload_n c_195_5 rfl (v_is c_195_6 rfl (of_decide_eq_true rfl) (of_decide_eq_true rfl) (of_decide_eq_true rfl) (q_aload_n c_195_7 rfl (v_gr (t := 55) c_195_8 kf_8_56 rfl (Nat.le_of_ble_eq_true rfl) rfl (q_iconst c_195_11 ?_)))))))
  refine q_iload_n c_195_12 rfl (v_is c_195_13 rfl (of_decide_eq_true rfl) (of_decide_eq_true rfl) (of_decide_eq_true rfl) (q_aload_n c_195_14 rfl (v_gr (t := 55) c_195_15 kf_8_56 rfl (Nat.le_of_ble_eq_true rfl) rfl (q_iconst c_195_18 (q_iload_n c_195_19 rfl (v_is c_195_20 rfl (of_decide_eq_true rfl) (of_decide_eq_true rfl) (of_decide_eq_true rfl) (q_aload_n c_195_21 rfl ?_)))))))
  refine v_gr (t := 55) c_195_22 kf_8_56 rfl (Nat.le_of_ble_eq_true rfl) rfl (q_iconst c_195_25 (q_iload c_195_26 rfl (v_is c_195_28 rfl (of_decide_eq_true rfl) (of_decide_eq_true rfl) (of_decide_eq_true rfl) (q_aload_n c_195_29 rfl (v_gr (t := 55) c_195_30 kf_8_56 rfl (Nat.le_of_ble_eq_true rfl) rfl (q_iconst c_195_33 (q_iload_n c_195_34 rfl ?_)))))))
  refine q_iload_n c_195_35 rfl (v_iadd (v := a1 + a2) c_195_36 rfl (q_iload_n c_195_37 rfl (v_iadd (v := a1 + a2 + a3) c_195_38 rfl (q_iload c_195_39 rfl (v_iadd (v := a1 + a2 + a3 + a4) c_195_41 rfl (v_is c_195_42 rfl (of_decide_eq_true rfl) (of_decide_eq_true rfl) (of_decide_eq_true rfl) (q_aload_n c_195_43 rfl ?_)))))))
  refine v_gr (t := 55) c_195_44 kf_8_56 rfl (Nat.le_of_ble_eq_true rfl) rfl (q_iconst c_195_47 (q_iload c_195_48 rfl (v_is c_195_50 rfl (of_decide_eq_true rfl) (of_decide_eq_true rfl) (of_decide_eq_true rfl) (q_aload_n c_195_51 rfl (v_gr (t := 55) c_195_52 kf_8_56 rfl (Nat.le_of_ble_eq_true rfl) rfl (v_bip c_195_55 (of_decide_eq_true rfl) (q_iload c_195_57 rfl ?_)))))))
  refine v_is c_195_59 rfl (of_decide_eq_true rfl) (of_decide_eq_true rfl) (of_decide_eq_true rfl) (q_aload_n c_195_60 rfl (v_gr (t := 55) c_195_61 kf_8_56 rfl (Nat.le_of_ble_eq_true rfl) rfl (v_bip c_195_64 (of_decide_eq_true rfl) (q_iload c_195_66 rfl (v_is c_195_68 rfl (of_decide_eq_true rfl) (of_decide_eq_true rfl) (of_decide_eq_true rfl) (q_aload_n c_195_69 rfl ?_))))))
  have hI_1 := iw_55 (j := 0) (v := a1) hI ⟨(lel ha1.1 rfl), (ler ha1.2 rfl)⟩
  have hI_2 := iw_55 (j := 1) (v := a2) hI_1 ⟨(lel ha2.1 rfl), (ler ha2.2 rfl)⟩
  have hI_3 := iw_55 (j := 2) (v := a3) hI_2 ⟨(lel ha3.1 rfl), (ler ha3.2 rfl)⟩
  have hI_4 := iw_55 (j := 3) (v := a4) hI_3 ⟨(lel ha4.1 rfl), (ler ha4.2 rfl)⟩
  have hI_5 := iw_55 (j := 4) (v := a1 + a2 + a3 + a4) hI_4 ⟨(q_8c4697e7c ha1 ha2 ha3 ha4), (q_46d991406 ha1 ha2 ha3 ha4)⟩
  have hI_6 := iw_55 (j := 5) (v := a5) hI_5 ⟨ha5.1, ha5.2⟩
  have hI_7 := iw_55 (j := 6) (v := a6) hI_6 ⟨ha6.1, ha6.2⟩
  have hI_8 := iw_55 (j := 7) (v := a7) hI_7 ⟨ha7.1, ha7.2⟩
  have h_9 : (up (up (up (up (up (up (up (up c 55 0 a1) 55 1 a2) 55 2 a3) 55 3 a4) 55 4 (a1 + a2 + a3 + a4)) 55 5 a5) 55 6 a6) 55 7 a7) 55 4 = a1 + a2 + a3 + a4 := ((up_n (ni rfl)).trans ((up_n (ni rfl)).trans ((up_n (ni rfl)).trans (up_e rfl))))
  have h_10 : (up (up (up (up (up (up (up (up c 55 0 a1) 55 1 a2) 55 2 a3) 55 3 a4) 55 4 (a1 + a2 + a3 + a4)) 55 5 a5) 55 6 a6) 55 7 a7) 55 0 = a1 := ((up_n (ni rfl)).trans ((up_n (ni rfl)).trans ((up_n (ni rfl)).trans ((up_n (ni rfl)).trans ((up_n (ni rfl)).trans ((up_n (ni rfl)).trans ((up_n (ni rfl)).trans (up_e rfl))))))))
  refine v_cv c_195_70 km_8_356 rfl rfl (Nat.le_of_ble_eq_true rfl) ⟨⟨rfl, rfl⟩, Nat.le_of_ble_eq_true rfl, rfl⟩ (Nat.le_of_ble_eq_true rfl) (Nat.le_of_ble_eq_true rfl) (s_180 hI_8 ⟨(q_3a12ae26c ha1 ha2 ha3 ha4), (q_1bb4088f7 ha1 ha2 ha3 ha4)⟩ ⟨(q_c6ed8760d ha1), (q_f52da7857 ha1)⟩ (fun c_11 y_14 hI_12 hF_13 hy_14 => (bk_inl (q_iret c_195_73 rfl ?_))))
  exact K c_11 y_14 hI_12 (fun a j hm => (hF_13 a j (fun h => hm (Or.inl h))).trans ((up_b (Decidable.or_iff_not_imp_left.mpr (fun h1 h2 => hm (Or.inr (Decidable.not_not.mp h1))))).trans ((up_b (Decidable.or_iff_not_imp_left.mpr (fun h1 h2 => hm (Or.inr (Decidable.not_not.mp h1))))).trans ((up_b (Decidable.or_iff_not_imp_left.mpr (fun h1 h2 => hm (Or.inr (Decidable.not_not.mp h1))))).trans ((up_b (Decidable.or_iff_not_imp_left.mpr (fun h1 h2 => hm (Or.inr (Decidable.not_not.mp h1))))).trans ((up_b (Decidable.or_iff_not_imp_left.mpr (fun h1 h2 => hm (Or.inr (Decidable.not_not.mp h1))))).trans ((up_b (Decidable.or_iff_not_imp_left.mpr (fun h1 h2 => hm (Or.inr (Decidable.not_not.mp h1))))).trans ((up_b (Decidable.or_iff_not_imp_left.mpr (fun h1 h2 => hm (Or.inr (Decidable.not_not.mp h1))))).trans (up_b (Decidable.or_iff_not_imp_left.mpr (fun h1 h2 => hm (Or.inr (Decidable.not_not.mp h1))))))))))))) hy_14

set_option maxRecDepth 100000 in
set_option maxHeartbeats 4000000 in
theorem s_196 {sc : List Int32} {e : Int} {d u P Q : Nat} {c : ME} {a1 : Int} {Z : AR → Prop} (hI : Iv u e P Q c) (ha1 : 0 ≤ a1 ∧ a1 ≤ 5) (K : ∀ (c2 : ME) (y : Int), Iv u e P Q c2 → (∀ (a : Nat) (j : Int), ¬ (a = 54 ∨ a = 55) → c2 a j = c a j) → 0 ≤ y ∧ y ≤ 99 → Z (.inl (some (vi y)), Wd P Q P P c2, 0, 0)) : Wp sc (d + 11) 196 0 [(0, .ref 41), (1, vi a1)] [] (Wd P Q P P c) 0 0 Z := by
  have hP := iv_P hI
  have hQ := iv_Q hI
  refine q_aload_n c_196_0 rfl (q_aload_n c_196_1 rfl (v_gr (t := 59) c_196_2 kf_8_68 rfl (Nat.le_of_ble_eq_true rfl) rfl (q_iconst c_196_5 (q_iload_n c_196_6 rfl (v_imul (v := 4 * a1) c_196_7 rfl ?_)))))
  have h_1 := ir_59_g hI (j := 4 * a1) ((q_9f1d5ffdc ha1))
  refine v_ia (v := c 59 (4 * a1)) c_196_8 rfl (of_decide_eq_true rfl) (of_decide_eq_true rfl) ⟨(q_c065257af ha1), (q_a49915bbb ha1)⟩ rfl (q_aload_n c_196_9 rfl (v_gr (t := 59) c_196_10 kf_8_68 rfl (Nat.le_of_ble_eq_true rfl) rfl (q_iconst c_196_13 (q_iload_n c_196_14 rfl (v_imul (v := 4 * a1) c_196_15 rfl (q_iconst c_196_16 (v_iadd (v := 4 * a1 + 1) c_196_17 rfl ?_)))))))
  have h_2 := ir_59_g hI (j := 4 * a1 + 1) ((q_0a2ee6f8f ha1))
  refine v_ia (v := c 59 (4 * a1 + 1)) c_196_18 rfl (of_decide_eq_true rfl) (of_decide_eq_true rfl) ⟨(q_83fdbd35d ha1), (q_7a0c0a739 ha1)⟩ rfl (q_aload_n c_196_19 rfl (v_gr (t := 59) c_196_20 kf_8_68 rfl (Nat.le_of_ble_eq_true rfl) rfl (q_iconst c_196_23 (q_iload_n c_196_24 rfl (v_imul (v := 4 * a1) c_196_25 rfl (q_iconst c_196_26 (v_iadd (v := 4 * a1 + 2) c_196_27 rfl ?_)))))))
  have h_3 := ir_59_g hI (j := 4 * a1 + 2) ((q_e07a293a2 ha1))
  refine v_ia (v := c 59 (4 * a1 + 2)) c_196_28 rfl (of_decide_eq_true rfl) (of_decide_eq_true rfl) ⟨(q_0f37a0c6e ha1), (q_36e1404d4 ha1)⟩ rfl (q_aload_n c_196_29 rfl (v_gr (t := 59) c_196_30 kf_8_68 rfl (Nat.le_of_ble_eq_true rfl) rfl (q_iconst c_196_33 (q_iload_n c_196_34 rfl (v_imul (v := 4 * a1) c_196_35 rfl (q_iconst c_196_36 (v_iadd (v := 4 * a1 + 3) c_196_37 rfl ?_)))))))
  have h_4 := ir_59_g hI (j := 4 * a1 + 3) ((q_d09cb0b73 ha1))
  refine v_ia (v := c 59 (4 * a1 + 3)) c_196_38 rfl (of_decide_eq_true rfl) (of_decide_eq_true rfl) ⟨(q_f6be69137 ha1), (q_6b2d832d4 ha1)⟩ rfl (q_aload_n c_196_39 rfl (v_gr (t := 59) c_196_40 kf_8_68 rfl (Nat.le_of_ble_eq_true rfl) rfl (v_bip c_196_43 (of_decide_eq_true rfl) (q_iload_n c_196_45 rfl (v_iadd (v := a1 + 24) c_196_46 (by omega) ?_)))))
  have h_5 := ir_59 hI (a1 + 24)
  refine v_ia (v := c 59 (a1 + 24)) c_196_47 rfl (of_decide_eq_true rfl) (of_decide_eq_true rfl) ⟨(rgp_l ha1.1 (of_decide_eq_true rfl)), (q_57f615a18 ha1)⟩ rfl (q_aload_n c_196_48 rfl (v_gr (t := 59) c_196_49 kf_8_68 rfl (Nat.le_of_ble_eq_true rfl) rfl (v_bip c_196_52 (of_decide_eq_true rfl) ?_)))
  have h_6 := ir_59 hI 34
  refine v_ia (v := c 59 34) c_196_54 rfl (of_decide_eq_true rfl) (of_decide_eq_true rfl) (of_decide_eq_true rfl) rfl (q_iload_n c_196_55 rfl (v_cv c_196_56 km_8_359 rfl rfl (Nat.le_of_ble_eq_true rfl) ⟨⟨rfl, rfl⟩, Nat.le_of_ble_eq_true rfl, rfl⟩ (Nat.le_of_ble_eq_true rfl) (Nat.le_of_ble_eq_true rfl) (s_195 (a1 := c 59 (4 * a1)) (a2 := c 59 (4 * a1 + 1)) (a3 := c 59 (4 * a1 + 2)) (a4 := c 59 (4 * a1 + 3)) (a5 := c 59 (a1 + 24)) (a6 := c 59 34) (a7 := a1) hI (show 0 ≤ c 59 (4 * a1) ∧ c 59 (4 * a1) ≤ 9999 from h_1) (show 0 ≤ c 59 (4 * a1 + 1) ∧ c 59 (4 * a1 + 1) ≤ 9999 from h_2) (show 0 ≤ c 59 (4 * a1 + 2) ∧ c 59 (4 * a1 + 2) ≤ 9999 from h_3) (show 0 ≤ c 59 (4 * a1 + 3) ∧ c 59 (4 * a1 + 3) ≤ 9999 from h_4) (show (-2147483648) ≤ c 59 (a1 + 24) ∧ c 59 (a1 + 24) ≤ 2147483647 from h_5) (show (-2147483648) ≤ c 59 34 ∧ c 59 34 ≤ 2147483647 from h_6) (show (-2147483648) ≤ a1 ∧ a1 ≤ 2147483647 from ⟨(lel ha1.1 rfl), (ler ha1.2 rfl)⟩) (fun c_7 y_10 hI_8 hF_9 hy_10 => (bk_inl (q_iret c_196_59 rfl ?_))))))
  exact K c_7 y_10 hI_8 (fun a j hm => hF_9 a j hm) hy_10

set_option maxRecDepth 100000 in
set_option maxHeartbeats 4000000 in
theorem s_197 {sc : List Int32} {e : Int} {d u P Q : Nat} {c : ME} {a1 : Int} {Z : AR → Prop} (hI : Iv u e P Q c) (ha1 : 0 ≤ a1 ∧ a1 ≤ 5) (K : ∀ (c2 : ME) (y : Int), Iv u e P Q c2 → (∀ (a : Nat) (j : Int), ¬ (a = 54 ∨ a = 55) → c2 a j = c a j) → 0 ≤ y ∧ y ≤ 1 → Z (.inl (some (vi y)), Wd P Q P P c2, 0, 0)) : Wp sc (d + 12) 197 0 [(0, .ref 41), (1, vi a1)] [] (Wd P Q P P c) 0 0 Z := by
  have hP := iv_P hI
  have hQ := iv_Q hI
  refine q_aload_n c_197_0 rfl (q_iload_n c_197_1 rfl ?_)
  have h_1 := ir_59_g hI (j := 4 * a1) ((q_9f1d5ffdc ha1))
  have h_2 := ir_59_g hI (j := 4 * a1 + 1) ((q_0a2ee6f8f ha1))
  have h_3 := ir_59_g hI (j := 4 * a1 + 2) ((q_e07a293a2 ha1))
  have h_4 := ir_59_g hI (j := 4 * a1 + 3) ((q_d09cb0b73 ha1))
  refine v_cv c_197_2 km_8_343 rfl rfl (Nat.le_of_ble_eq_true rfl) ⟨⟨rfl, rfl⟩, Nat.le_of_ble_eq_true rfl, rfl⟩ (Nat.le_of_ble_eq_true rfl) (Nat.le_of_ble_eq_true rfl) (s_187 (v1 := c 59 (4 * a1)) (v2 := c 59 (4 * a1 + 1)) (v3 := c 59 (4 * a1 + 2)) (v4 := c 59 (4 * a1 + 3)) (r := c 59 (4 * a1 + 1) + c 59 (4 * a1 + 2) + c 59 (4 * a1 + 3) + c 59 (4 * a1)) (a1 := a1) hI (show 0 ≤ a1 ∧ a1 ≤ 5 from ha1) (rfl) (rfl) (rfl) (rfl) (by omega) (bk_inl ?_))
  by_cases h_5 : c 59 (4 * a1 + 1) + c 59 (4 * a1 + 2) + c 59 (4 * a1 + 3) + c 59 (4 * a1) ≤ 0
  · refine v_if_le_t (t := 22) c_197_5 rfl ⟨(q_e052ef40e h_1 h_2 h_3 h_4), h_5, of_decide_eq_true rfl⟩ (q_iconst c_197_22 (v_zret c_197_23 rfl (of_decide_eq_true rfl) ?_))
    exact K c 0 hI (fun a j hm => rfl) ⟨of_decide_eq_true rfl, of_decide_eq_true rfl⟩
  · refine v_if_le_f (t := 22) c_197_5 rfl ⟨of_decide_eq_true rfl, (Int.not_le.mp h_5), (q_db9ef1f4a h_1 h_2 h_3 h_4)⟩ (q_aload_n c_197_8 rfl (q_iload_n c_197_9 rfl (v_cv c_197_10 km_8_375 rfl rfl (Nat.le_of_ble_eq_true rfl) ⟨⟨rfl, rfl⟩, Nat.le_of_ble_eq_true rfl, rfl⟩ (Nat.le_of_ble_eq_true rfl) (Nat.le_of_ble_eq_true rfl) (s_196 (a1 := a1) hI (show 0 ≤ a1 ∧ a1 ≤ 5 from ha1) (fun c_6 y_9 hI_7 hF_8 hy_9 => (bk_inl (v_bip c_197_13 (of_decide_eq_true rfl) ?_)))))))
    by_cases h_10 : y_9 < 50
    · refine v_ic_lt_t (t := 22) c_197_15 rfl ⟨(lel hy_9.1 rfl), h_10, of_decide_eq_true rfl⟩ (q_iconst c_197_22 (v_zret c_197_23 rfl (of_decide_eq_true rfl) ?_))
      exact K c_6 0 hI_7 (fun a j hm => hF_8 a j hm) ⟨of_decide_eq_true rfl, of_decide_eq_true rfl⟩
    · refine v_ic_lt_f (t := 22) c_197_15 rfl ⟨of_decide_eq_true rfl, (Int.not_lt.mp h_10), (ler hy_9.2 rfl)⟩ (q_iconst c_197_18 (q_goto (t := 23) c_197_19 rfl (v_zret c_197_23 rfl (of_decide_eq_true rfl) ?_)))
      exact K c_6 1 hI_7 (fun a j hm => hF_8 a j hm) ⟨of_decide_eq_true rfl, of_decide_eq_true rfl⟩

set_option maxRecDepth 100000 in
set_option maxHeartbeats 4000000 in
theorem s_198 {sc : List Int32} {d P Q : Nat} {c : ME} {a1 : Int} {Z : AR → Prop} (hI : Iv 0 (-1) P Q c) (ha1 : 0 ≤ a1 ∧ a1 ≤ 5) (K : ∀ (c2 : ME) (y : Int), Iv 0 (-1) P Q c2 → (∀ (a : Nat) (j : Int), ¬ (a = 59 ∨ a = 54 ∨ a = 55) → c2 a j = c a j) → 0 ≤ y ∧ y ≤ 1 → Z (.inl (some (vi y)), Wd P Q P P c2, 0, 0)) : Wp sc (d + 13) 198 0 [(0, .ref 41), (1, vi a1)] [] (Wd P Q P P c) 0 0 Z := by
  have hP := iv_P hI
  have hQ := iv_Q hI
  have hIo : Iv 59 (-1) P Q c := iv_open hI
  have hsum_1 := ir_59_r hI (of_decide_eq_true rfl) (j := a1) (by omega)
  have h_2 := ir_59_g hI (j := 4 * a1) ((q_9f1d5ffdc ha1))
  have h_3 := ir_59_g hI (j := 4 * a1 + 1) ((q_0a2ee6f8f ha1))
  have h_4 := ir_59_g hI (j := 4 * a1 + 2) ((q_e07a293a2 ha1))
  have h_5 := ir_59_g hI (j := 4 * a1 + 3) ((q_d09cb0b73 ha1))
  refine q_aload_n c_198_0 rfl (q_iload_n c_198_1 rfl (v_cv c_198_2 km_8_378 rfl rfl (Nat.le_of_ble_eq_true rfl) ⟨⟨rfl, rfl⟩, Nat.le_of_ble_eq_true rfl, rfl⟩ (Nat.le_of_ble_eq_true rfl) (Nat.le_of_ble_eq_true rfl) (s_197 (a1 := a1) hIo (show 0 ≤ a1 ∧ a1 ≤ 5 from ha1) (fun c_6 y_9 hI_7 hF_8 hy_9 => (bk_inl ?_)))))
  by_cases h_10 : y_9 ≠ 0
  · refine v_if_ne_t (t := 10) c_198_5 rfl ⟨h_10, ⟨(lel hy_9.1 rfl), (ler hy_9.2 rfl)⟩, of_decide_eq_true rfl, of_decide_eq_true rfl⟩ (q_aload_n c_198_10 rfl (v_gr (t := 59) c_198_11 kf_8_68 rfl (Nat.le_of_ble_eq_true rfl) rfl (v_bip c_198_14 (of_decide_eq_true rfl) (q_dup2 c_198_16 ⟨rfl, rfl⟩ ?_))))
    have h_11 := ir_59 hI 36
    have kn_12 : Hid (c_6 59 36 = c 59 36) := hF_8 59 36 (fun q => q.elim (fun h => absurd h (nn rfl)) (fun h => absurd h (nn rfl)))
    refine v_ia (v := c 59 36) c_198_17 rfl (of_decide_eq_true rfl) (of_decide_eq_true rfl) (of_decide_eq_true rfl) (hid kn_12) (q_aload_n c_198_18 rfl (q_iload_n c_198_19 rfl ?_))
    have kn_13 : Hid (c_6 59 (4 * a1) = c 59 (4 * a1)) := hF_8 59 (4 * a1) (fun q => q.elim (fun h => absurd h (nn rfl)) (fun h => absurd h (nn rfl)))
    have kn_14 : Hid (c_6 59 (4 * a1 + 1) = c 59 (4 * a1 + 1)) := hF_8 59 (4 * a1 + 1) (fun q => q.elim (fun h => absurd h (nn rfl)) (fun h => absurd h (nn rfl)))
    have kn_15 : Hid (c_6 59 (4 * a1 + 2) = c 59 (4 * a1 + 2)) := hF_8 59 (4 * a1 + 2) (fun q => q.elim (fun h => absurd h (nn rfl)) (fun h => absurd h (nn rfl)))
    have kn_16 : Hid (c_6 59 (4 * a1 + 3) = c 59 (4 * a1 + 3)) := hF_8 59 (4 * a1 + 3) (fun q => q.elim (fun h => absurd h (nn rfl)) (fun h => absurd h (nn rfl)))
    refine v_cv c_198_20 km_8_343 rfl rfl (Nat.le_of_ble_eq_true rfl) ⟨⟨rfl, rfl⟩, Nat.le_of_ble_eq_true rfl, rfl⟩ (Nat.le_of_ble_eq_true rfl) (Nat.le_of_ble_eq_true rfl) (s_187 (v1 := c 59 (4 * a1)) (v2 := c 59 (4 * a1 + 1)) (v3 := c 59 (4 * a1 + 2)) (v4 := c 59 (4 * a1 + 3)) (r := c 59 (4 * a1 + 1) + c 59 (4 * a1 + 2) + c 59 (4 * a1 + 3) + c 59 (4 * a1)) (a1 := a1) hI_7 (show 0 ≤ a1 ∧ a1 ≤ 5 from ha1) ((hid kn_13)) ((hid kn_14)) ((hid kn_15)) ((hid kn_16)) (by omega) (bk_inl (v_bip c_198_23 (of_decide_eq_true rfl) (v_idiv (v := ((c 59 (4 * a1 + 1) + c 59 (4 * a1 + 2) + c 59 (4 * a1 + 3) + c 59 (4 * a1)) / 10)) rfl (by omega) rfl (v_iadd (v := ((c 59 (4 * a1 + 1) + c 59 (4 * a1 + 2) + c 59 (4 * a1 + 3) + c 59 (4 * a1)) / 10) + c 59 36) rfl (by first | (clear ha1 h_2 h_3 h_4 h_5 hsum_1 h_11 h_10; omega) | omega) (v_nrm (fun y_17 hy_17 => (v_is c_198_27 rfl (of_decide_eq_true rfl) (of_decide_eq_true rfl) (of_decide_eq_true rfl) (q_aload_n c_198_28 rfl ?_)))))))))
    refine q_iload_n c_198_29 rfl ?_
    have hI_18 := iw_row (a := 59) (j := 36) (v := y_17) hI_7 (by omega) (Or.inr (by omega)) ⟨by omega, by omega, by omega⟩
    refine v_cv c_198_30 km_8_372 rfl rfl (Nat.le_of_ble_eq_true rfl) ⟨⟨rfl, rfl⟩, Nat.le_of_ble_eq_true rfl, rfl⟩ (Nat.le_of_ble_eq_true rfl) (Nat.le_of_ble_eq_true rfl) (s_192 (a1 := a1) hI_18 (show 0 ≤ a1 ∧ a1 ≤ 5 from ha1) (fun c_19 hI_20 hF_21 h_22 => (bk_inl ?_)))
    have h_23 := ir_59_g hI_20 (j := 4 * a1 + 1) ((q_0a2ee6f8f ha1))
    have h_24 := ir_59_g hI_20 (j := 4 * a1 + 2) ((q_e07a293a2 ha1))
    have h_25 := ir_59_g hI_20 (j := 4 * a1 + 3) ((q_d09cb0b73 ha1))
    have h_26 := ir_59_g hI_20 (j := 4 * a1) ((q_9f1d5ffdc ha1))
    refine q_iconst c_198_33 (v_zret c_198_34 rfl (of_decide_eq_true rfl) ?_)
    have hr_27 : ∀ j : Int, rs 59 j → c_19 59 j + c_19 59 (j + 1) + c_19 59 (j + 2) + c_19 59 (j + 3) ≤ 9999 := by
      intro j9 hj9
      obtain ⟨k9, rfl, hk9⟩ := rs_59 hj9
      by_cases e_28 : k9 = a1
      · skip
        have h_29 : c_19 59 (4 * k9) = c_19 59 (4 * a1) := (congrArg (c_19 59) (show 4 * k9 = 4 * a1 from by first | assumption | exact Int.le_antisymm (by omega) (by omega)))
        have h_30 : c_19 59 (4 * k9 + 1) = c_19 59 (4 * a1 + 1) := (congrArg (c_19 59) (show 4 * k9 + 1 = 4 * a1 + 1 from by first | assumption | exact Int.le_antisymm (by omega) (by omega)))
        have h_31 : c_19 59 (4 * k9 + 2) = c_19 59 (4 * a1 + 2) := (congrArg (c_19 59) (show 4 * k9 + 2 = 4 * a1 + 2 from by first | assumption | exact Int.le_antisymm (by omega) (by omega)))
        have h_32 : c_19 59 (4 * k9 + 3) = c_19 59 (4 * a1 + 3) := (congrArg (c_19 59) (show 4 * k9 + 3 = 4 * a1 + 3 from by first | assumption | exact Int.le_antisymm (by omega) (by omega)))
        omega
      have h_33 := iv_r hI 59 (4 * k9) hj9 (by omega)
      have h_34 := ir_59_g hI (j := 4 * k9) ((q_9f1d5ffdc hk9))
      have kn_35 : Hid (c_6 59 (4 * k9) = c 59 (4 * k9)) := hF_8 59 (4 * k9) (fun q => q.elim (fun h => absurd h (nn rfl)) (fun h => absurd h (nn rfl)))
      have kn_36 : Hid (c_19 59 (4 * k9) = c 59 (4 * k9)) := (hF_21 59 (4 * k9) (fun q => q.elim (fun h => absurd h.2 ((q_336fb6678 e_28))) (fun q => q.elim (fun h => absurd h.2 ((q_b2cb8bf87))) (fun q => q.elim (fun h => absurd h.2 ((q_c037f51da))) (fun q => q.elim (fun h => absurd h.2 ((q_8ac71c5f3))) (fun h => absurd h.2 (ne_l ((q_4128697c9 ha1 hk9))))))))).trans ((up_n (ne_l ((q_f884e162b hk9)))).trans (hid kn_35))
      have h_37 : c_19 59 (4 * k9) = c 59 (4 * k9) := (hid kn_36)
      have h_38 := ir_59_g hI (j := 4 * k9 + 1) ((q_0a2ee6f8f hk9))
      have kn_39 : Hid (c_6 59 (4 * k9 + 1) = c 59 (4 * k9 + 1)) := hF_8 59 (4 * k9 + 1) (fun q => q.elim (fun h => absurd h (nn rfl)) (fun h => absurd h (nn rfl)))
      have kn_40 : Hid (c_19 59 (4 * k9 + 1) = c 59 (4 * k9 + 1)) := (hF_21 59 (4 * k9 + 1) (fun q => q.elim (fun h => absurd h.2 ((q_e5bcc673e))) (fun q => q.elim (fun h => absurd h.2 ((q_52b51d728 e_28))) (fun q => q.elim (fun h => absurd h.2 ((q_3650b790c))) (fun q => q.elim (fun h => absurd h.2 ((q_7c6b1b09a))) (fun h => absurd h.2 (ne_l ((q_8f2481ba6 ha1 hk9))))))))).trans ((up_n (ne_l ((q_7c3069b03 hk9)))).trans (hid kn_39))
      have h_41 : c_19 59 (4 * k9 + 1) = c 59 (4 * k9 + 1) := (hid kn_40)
      have h_42 := ir_59_g hI (j := 4 * k9 + 2) ((q_e07a293a2 hk9))
      have kn_43 : Hid (c_6 59 (4 * k9 + 2) = c 59 (4 * k9 + 2)) := hF_8 59 (4 * k9 + 2) (fun q => q.elim (fun h => absurd h (nn rfl)) (fun h => absurd h (nn rfl)))
      have kn_44 : Hid (c_19 59 (4 * k9 + 2) = c 59 (4 * k9 + 2)) := (hF_21 59 (4 * k9 + 2) (fun q => q.elim (fun h => absurd h.2 ((q_ae83e86ba))) (fun q => q.elim (fun h => absurd h.2 ((q_08c3d7060))) (fun q => q.elim (fun h => absurd h.2 ((q_27892e29e e_28))) (fun q => q.elim (fun h => absurd h.2 ((q_91c5bd343))) (fun h => absurd h.2 (ne_l ((q_04ab4010a ha1 hk9))))))))).trans ((up_n (ne_l ((q_cab7ad043 hk9)))).trans (hid kn_43))
      have h_45 : c_19 59 (4 * k9 + 2) = c 59 (4 * k9 + 2) := (hid kn_44)
      have h_46 := ir_59_g hI (j := 4 * k9 + 3) ((q_d09cb0b73 hk9))
      have kn_47 : Hid (c_6 59 (4 * k9 + 3) = c 59 (4 * k9 + 3)) := hF_8 59 (4 * k9 + 3) (fun q => q.elim (fun h => absurd h (nn rfl)) (fun h => absurd h (nn rfl)))
      have kn_48 : Hid (c_19 59 (4 * k9 + 3) = c 59 (4 * k9 + 3)) := (hF_21 59 (4 * k9 + 3) (fun q => q.elim (fun h => absurd h.2 ((q_b6789388a))) (fun q => q.elim (fun h => absurd h.2 ((q_6d5c6886e))) (fun q => q.elim (fun h => absurd h.2 ((q_28d70e8e5))) (fun q => q.elim (fun h => absurd h.2 ((q_2db9f474b e_28))) (fun h => absurd h.2 (ne_l ((q_e782b8c3c ha1 hk9))))))))).trans ((up_n (ne_l ((q_8cd5bc852 hk9)))).trans (hid kn_47))
      have h_49 : c_19 59 (4 * k9 + 3) = c 59 (4 * k9 + 3) := (hid kn_48)
      omega
    have hI_50 := iv_close hI_20 hr_27
    exact K c_19 1 hI_50 (fun a j hm => (hF_21 a j (fun q => q.elim (fun h => hm (Or.inl h.1)) (fun q => q.elim (fun h => hm (Or.inl h.1)) (fun q => q.elim (fun h => hm (Or.inl h.1)) (fun q => q.elim (fun h => hm (Or.inl h.1)) (fun h => hm (Or.inl h.1))))))).trans ((up_b (Decidable.or_iff_not_imp_left.mpr (fun h1 h2 => hm (Or.inl (Decidable.not_not.mp h1))))).trans (hF_8 a j (qv_46f80e128 hm)))) ⟨of_decide_eq_true rfl, of_decide_eq_true rfl⟩
  · refine v_if_ne_f (t := 10) c_198_5 rfl (Decidable.not_not.mp h_10) (q_iconst c_198_8 (v_zret c_198_9 rfl (of_decide_eq_true rfl) ?_))
    have hr_51 : ∀ j : Int, rs 59 j → c_6 59 j + c_6 59 (j + 1) + c_6 59 (j + 2) + c_6 59 (j + 3) ≤ 9999 := by
      intro j9 hj9
      obtain ⟨k9, rfl, hk9⟩ := rs_59 hj9
      by_cases e_52 : k9 = a1
      · skip
        have kn_53 : Hid (c_6 59 (4 * a1) = c 59 (4 * a1)) := hF_8 59 (4 * a1) (fun q => q.elim (fun h => absurd h (nn rfl)) (fun h => absurd h (nn rfl)))
        have h_54 : c_6 59 (4 * k9) = c 59 (4 * a1) := (congrArg (c_6 59) (show 4 * k9 = 4 * a1 from by omega)).trans (hid kn_53)
        have kn_55 : Hid (c_6 59 (4 * a1 + 1) = c 59 (4 * a1 + 1)) := hF_8 59 (4 * a1 + 1) (fun q => q.elim (fun h => absurd h (nn rfl)) (fun h => absurd h (nn rfl)))
        have h_56 : c_6 59 (4 * k9 + 1) = c 59 (4 * a1 + 1) := (congrArg (c_6 59) (show 4 * k9 + 1 = 4 * a1 + 1 from by omega)).trans (hid kn_55)
        have kn_57 : Hid (c_6 59 (4 * a1 + 2) = c 59 (4 * a1 + 2)) := hF_8 59 (4 * a1 + 2) (fun q => q.elim (fun h => absurd h (nn rfl)) (fun h => absurd h (nn rfl)))
        have h_58 : c_6 59 (4 * k9 + 2) = c 59 (4 * a1 + 2) := (congrArg (c_6 59) (show 4 * k9 + 2 = 4 * a1 + 2 from by omega)).trans (hid kn_57)
        have kn_59 : Hid (c_6 59 (4 * a1 + 3) = c 59 (4 * a1 + 3)) := hF_8 59 (4 * a1 + 3) (fun q => q.elim (fun h => absurd h (nn rfl)) (fun h => absurd h (nn rfl)))
        have h_60 : c_6 59 (4 * k9 + 3) = c 59 (4 * a1 + 3) := (congrArg (c_6 59) (show 4 * k9 + 3 = 4 * a1 + 3 from by omega)).trans (hid kn_59)
        omega
      have h_61 := iv_r hI 59 (4 * k9) hj9 (by omega)
      have h_62 := ir_59_g hI (j := 4 * k9) ((q_9f1d5ffdc hk9))
      have kn_63 : Hid (c_6 59 (4 * k9) = c 59 (4 * k9)) := hF_8 59 (4 * k9) (fun q => q.elim (fun h => absurd h (nn rfl)) (fun h => absurd h (nn rfl)))
      have h_64 : c_6 59 (4 * k9) = c 59 (4 * k9) := (hid kn_63)
      have h_65 := ir_59_g hI (j := 4 * k9 + 1) ((q_0a2ee6f8f hk9))
      have kn_66 : Hid (c_6 59 (4 * k9 + 1) = c 59 (4 * k9 + 1)) := hF_8 59 (4 * k9 + 1) (fun q => q.elim (fun h => absurd h (nn rfl)) (fun h => absurd h (nn rfl)))
      have h_67 : c_6 59 (4 * k9 + 1) = c 59 (4 * k9 + 1) := (hid kn_66)
      have h_68 := ir_59_g hI (j := 4 * k9 + 2) ((q_e07a293a2 hk9))
      have kn_69 : Hid (c_6 59 (4 * k9 + 2) = c 59 (4 * k9 + 2)) := hF_8 59 (4 * k9 + 2) (fun q => q.elim (fun h => absurd h (nn rfl)) (fun h => absurd h (nn rfl)))
      have h_70 : c_6 59 (4 * k9 + 2) = c 59 (4 * k9 + 2) := (hid kn_69)
      have h_71 := ir_59_g hI (j := 4 * k9 + 3) ((q_d09cb0b73 hk9))
      have kn_72 : Hid (c_6 59 (4 * k9 + 3) = c 59 (4 * k9 + 3)) := hF_8 59 (4 * k9 + 3) (fun q => q.elim (fun h => absurd h (nn rfl)) (fun h => absurd h (nn rfl)))
      have h_73 : c_6 59 (4 * k9 + 3) = c 59 (4 * k9 + 3) := (hid kn_72)
      omega
    have hI_74 := iv_close hI_7 hr_51
    exact K c_6 0 hI_74 (fun a j hm => hF_8 a j (qv_46f80e128 hm)) ⟨of_decide_eq_true rfl, of_decide_eq_true rfl⟩

set_option maxRecDepth 100000 in
set_option maxHeartbeats 4000000 in
theorem s_199_l {sc : List Int32} {e : Int} {d u P Q : Nat} {c : ME} {Z : AR → Prop} (hI : Iv u e P Q c)  (K : ∀ (c2 : ME), Iv u e P Q c2 → (∀ (a : Nat) (j : Int), ¬ (a = 59) → c2 a j = c a j) → Z (.inl (none), Wd P Q P P c2, 0, 0)) : ∀ n : Nat, (∀ (c2 : ME) (v1 : Int), Iv u e P Q c2 → (∀ (a : Nat) (j : Int), ¬ (a = 59) → c2 a j = c a j) → 0 ≤ v1 ∧ v1 ≤ 6 → 13 - 2 * v1 < (n : Int) → Wp sc (d + 8) 199 2 [(0, .ref 41), (1, vi v1)] [] (Wd P Q P P c2) 0 0 Z) := by
  intro n
  induction n with
  | zero => exact (by intro c2 v1 hI2 hF hv1 hm9; have hP := iv_P hI; have hQ := iv_Q hI; exfalso; omega)
  | succ n ih =>
    have hP := iv_P hI
    have hQ := iv_Q hI
    intro c2 v1 hI2 hF hv1 hm9
    refine q_iload_n c_199_2 rfl (q_aload_n c_199_3 rfl ?_)
    have h_1 := ir_41_20 hI
    have kn_2 : Hid (c2 41 20 = c 41 20) := hF 41 20 (fun h => absurd h (nn rfl))
    refine v_gi (z := 20) (v := c 41 20) c_199_4 kf_8_157 rfl (Nat.le_of_ble_eq_true rfl) rfl rfl (hid kn_2) ?_
    by_cases h_3 : v1 ≥ c 41 20
    · refine v_ic_ge_t (t := 41) c_199_7 rfl ⟨(q_730ab5169 h_1), h_3, (ler hv1.2 rfl)⟩ (q_aload_n c_199_41 rfl (v_gr (t := 59) c_199_42 kf_8_68 rfl (Nat.le_of_ble_eq_true rfl) rfl (v_bip c_199_45 (of_decide_eq_true rfl) (q_dup2 c_199_47 ⟨rfl, rfl⟩ ?_))))
      have h_4 := ir_59 hI2 34
      refine v_ia (v := c2 59 34) c_199_48 rfl (of_decide_eq_true rfl) (of_decide_eq_true rfl) (of_decide_eq_true rfl) rfl (q_iconst c_199_49 (v_iadd (v := c2 59 34 + 1) c_199_50 rfl (v_nrm (fun y_5 hy_5 => (v_is c_199_51 rfl (of_decide_eq_true rfl) (of_decide_eq_true rfl) (of_decide_eq_true rfl) (q_vret rfl rfl ?_))))))
      have hI_6 := iw_row (a := 59) (j := 34) (v := y_5) hI2 (by omega) (Or.inr (by omega)) ⟨by omega, by omega, by omega⟩
      exact K (up c2 59 34 y_5) hI_6 (fun a j hm => (up_b (Decidable.or_iff_not_imp_left.mpr (fun h1 h2 => hm (Decidable.not_not.mp h1)))).trans (hF a j hm))
    · refine v_ic_ge_f (t := 41) c_199_7 rfl ⟨(lel hv1.1 rfl), (Int.not_le.mp h_3), (q_b289b7db2 h_1)⟩ (q_aload_n c_199_10 rfl (v_gr (t := 59) c_199_11 kf_8_68 rfl (Nat.le_of_ble_eq_true rfl) rfl (v_bip c_199_14 (of_decide_eq_true rfl) (q_iload_n c_199_16 rfl (v_iadd (v := v1 + 24) c_199_17 (by omega) (q_dup2 c_199_18 ⟨rfl, rfl⟩ ?_))))))
      have h_7 := ir_59 hI2 (v1 + 24)
      refine v_ia (v := c2 59 (v1 + 24)) c_199_19 rfl (of_decide_eq_true rfl) (of_decide_eq_true rfl) ⟨(rgp_l hv1.1 (of_decide_eq_true rfl)), (q_51955fde5 hv1)⟩ rfl (q_aload_n c_199_20 rfl (q_iload_n c_199_21 rfl ?_))
      have h_8 := ir_59_g hI2 (j := 4 * v1) ((q_aa51b186e h_1 h_3))
      have h_9 := ir_59_g hI2 (j := 4 * v1 + 1) ((q_57851f9de h_1 h_3))
      have h_10 := ir_59_g hI2 (j := 4 * v1 + 2) ((q_7296e74e6 h_1 h_3))
      have h_11 := ir_59_g hI2 (j := 4 * v1 + 3) ((q_b15525c4c h_1 h_3))
      refine v_cv c_199_22 km_8_343 rfl rfl (Nat.le_of_ble_eq_true rfl) ⟨⟨rfl, rfl⟩, Nat.le_of_ble_eq_true rfl, rfl⟩ (Nat.le_of_ble_eq_true rfl) (Nat.le_of_ble_eq_true rfl) (s_187 (v1 := c2 59 (4 * v1)) (v2 := c2 59 (4 * v1 + 1)) (v3 := c2 59 (4 * v1 + 2)) (v4 := c2 59 (4 * v1 + 3)) (r := c2 59 (4 * v1 + 1) + c2 59 (4 * v1 + 2) + c2 59 (4 * v1 + 3) + c2 59 (4 * v1)) (a1 := v1) hI2 (show 0 ≤ v1 ∧ v1 ≤ 5 from ⟨hv1.1, (q_d63a8538e h_1 h_3)⟩) (rfl) (rfl) (rfl) (rfl) (by omega) (bk_inl ?_))
      by_cases h_12 : c2 59 (4 * v1 + 1) + c2 59 (4 * v1 + 2) + c2 59 (4 * v1 + 3) + c2 59 (4 * v1) ≤ 0
      · refine v_if_le_t (t := 32) c_199_25 rfl ⟨(q_df6958c12 h_10 h_11 h_8 h_9), h_12, of_decide_eq_true rfl⟩ (q_iconst c_199_32 (v_iadd (v := c2 59 (v1 + 24)) c_199_33 (by omega) (v_is c_199_34 rfl (of_decide_eq_true rfl) (of_decide_eq_true rfl) ⟨(rgp_l hv1.1 (of_decide_eq_true rfl)), (q_51955fde5 hv1)⟩ (v_iinc (v := v1 + 1) c_199_35 rfl (Nat.le_of_ble_eq_true rfl) rfl (q_goto (t := 2) c_199_38 rfl ?_)))))
        have hI_13 := iw_row (a := 59) (j := v1 + 24) (v := c2 59 (v1 + 24)) hI2 (by omega) (Or.inr (by omega)) ⟨by omega, by omega, by omega⟩
        refine Wp_ls [(0, .ref 41), (1, vi (v1 + 1))] (lsub_cons rfl (lsub_cons rfl lsub_nil)) ?_
        exact ih (up c2 59 (v1 + 24) (c2 59 (v1 + 24))) (v1 + 1) hI_13 (fun a j hm => (up_b (Decidable.or_iff_not_imp_left.mpr (fun h1 h2 => hm (Decidable.not_not.mp h1)))).trans (hF a j hm)) ⟨(rgp_l hv1.1 (of_decide_eq_true rfl)), (q_4a76cd9c7 h_1 h_3)⟩ (by omega)
      · refine v_if_le_f (t := 32) c_199_25 rfl ⟨of_decide_eq_true rfl, (Int.not_le.mp h_12), (q_e2451768c h_10 h_11 h_8 h_9)⟩ (q_iconst c_199_28 (q_goto (t := 33) c_199_29 rfl (v_iadd (v := c2 59 (v1 + 24) + 1) c_199_33 rfl (v_nrm (fun y_14 hy_14 => (v_is c_199_34 rfl (of_decide_eq_true rfl) (of_decide_eq_true rfl) ⟨(rgp_l hv1.1 (of_decide_eq_true rfl)), (q_51955fde5 hv1)⟩ (v_iinc (v := v1 + 1) c_199_35 rfl (Nat.le_of_ble_eq_true rfl) rfl (q_goto (t := 2) c_199_38 rfl ?_))))))))
        have hI_15 := iw_row (a := 59) (j := v1 + 24) (v := y_14) hI2 (by omega) (Or.inr (by omega)) ⟨by omega, by omega, by omega⟩
        refine Wp_ls [(0, .ref 41), (1, vi (v1 + 1))] (lsub_cons rfl (lsub_cons rfl lsub_nil)) ?_
        exact ih (up c2 59 (v1 + 24) y_14) (v1 + 1) hI_15 (fun a j hm => (up_b (Decidable.or_iff_not_imp_left.mpr (fun h1 h2 => hm (Decidable.not_not.mp h1)))).trans (hF a j hm)) ⟨(rgp_l hv1.1 (of_decide_eq_true rfl)), (q_4a76cd9c7 h_1 h_3)⟩ (by omega)
set_option maxRecDepth 100000 in
set_option maxHeartbeats 4000000 in
theorem s_199 {sc : List Int32} {e : Int} {d u P Q : Nat} {c : ME} {Z : AR → Prop} (hI : Iv u e P Q c)  (K : ∀ (c2 : ME), Iv u e P Q c2 → (∀ (a : Nat) (j : Int), ¬ (a = 59) → c2 a j = c a j) → Z (.inl (none), Wd P Q P P c2, 0, 0)) : Wp sc (d + 8) 199 0 [(0, .ref 41)] [] (Wd P Q P P c) 0 0 Z := by
  have hP := iv_P hI
  have hQ := iv_Q hI
  refine q_iconst c_199_0 (q_istore_n c_199_1 (Nat.le_of_ble_eq_true rfl) (Wp_ls [(0, .ref 41), (1, vi 0)] (lsub_cons rfl (lsub_cons rfl lsub_nil)) ?_))
  exact (s_199_l (sc := sc) (d := d) hI K 16) c 0 hI (fun a j hm => rfl) ⟨of_decide_eq_true rfl, of_decide_eq_true rfl⟩ (by omega)

set_option maxRecDepth 100000 in
set_option maxHeartbeats 4000000 in
theorem s_200 {sc : List Int32} {d P Q : Nat} {c : ME} {t : Int} {Z : AR → Prop} (hI : Iv 0 (-1) P Q c) (ht : 0 ≤ t ∧ t ≤ 49) (K : ∀ (c2 : ME) (y : Int), Iv 0 (-1) P Q c2 → (∀ (a : Nat) (j : Int), ¬ (a = 59 ∨ a = 54 ∨ a = 55) → c2 a j = c a j) → 0 ≤ y ∧ y ≤ 1 → Z (.inl (some (vi y)), Wd P Q P P c2, 0, 0)) : Wp sc (d + 14) 200 0 [(0, .ref 41), (1, vi (5 * t))] [] (Wd P Q P P c) 0 0 Z := by
  have hP := iv_P hI
  have hQ := iv_Q hI
  have h_1 := ir_57 hI (5 * t)
  have h_2 := ir_57 hI (5 * t + 1)
  have h_3 := ir_57 hI (5 * t + 2)
  have h_4 := ir_ag hI (a := 57) (by omega) (t := t) (by omega) (by omega)
  have h_5 := ir_57 hI (5 * t + 3)
  have h_6 := ir_57 hI (5 * t + 4)
  have hso := ir_so (a := 57) hI (by unfold Sg; omega) (t := t) (by omega) (by omega)
  refine q_aload_n c_200_0 rfl (v_gr (t := 57) c_200_1 kf_8_62 rfl (Nat.le_of_ble_eq_true rfl) rfl (q_iload_n c_200_4 rfl (v_ia (v := c 57 (5 * t)) c_200_5 rfl (of_decide_eq_true rfl) (of_decide_eq_true rfl) ⟨(q_252bfad9e ht), (q_d21114de8 ht)⟩ rfl (q_istore_n c_200_6 (Nat.le_of_ble_eq_true rfl) (q_aload_n c_200_7 rfl (v_gr (t := 57) c_200_8 kf_8_62 rfl (Nat.le_of_ble_eq_true rfl) rfl (q_iload_n c_200_11 rfl ?_)))))))
  refine q_iconst c_200_12 (v_iadd (v := 5 * t + 1) c_200_13 rfl (v_ia (v := c 57 (5 * t + 1)) c_200_14 rfl (of_decide_eq_true rfl) (of_decide_eq_true rfl) ⟨(q_d20ef1097 ht), (q_f1fca8fe8 ht)⟩ rfl (q_istore_n c_200_15 (Nat.le_of_ble_eq_true rfl) (q_aload_n c_200_16 rfl (v_gr (t := 57) c_200_17 kf_8_62 rfl (Nat.le_of_ble_eq_true rfl) rfl (q_iload_n c_200_20 rfl (q_iconst c_200_21 ?_)))))))
  refine v_iadd (v := 5 * t + 2) c_200_22 rfl (v_ia (v := c 57 (5 * t + 2)) c_200_23 rfl (of_decide_eq_true rfl) (of_decide_eq_true rfl) ⟨(q_72e61b4ee ht), (q_0d39d56e6 ht)⟩ rfl (q_istore c_200_24 (Nat.le_of_ble_eq_true rfl) (q_aload_n c_200_26 rfl (v_gr (t := 57) c_200_27 kf_8_62 rfl (Nat.le_of_ble_eq_true rfl) rfl (q_iload_n c_200_30 rfl (q_iconst c_200_31 (v_iadd (v := 5 * t + 3) c_200_32 rfl ?_)))))))
  refine v_ia (v := c 57 (5 * t + 3)) c_200_33 rfl (of_decide_eq_true rfl) (of_decide_eq_true rfl) ⟨(q_1a3991cd6 ht), (q_b6fa79662 ht)⟩ rfl (q_istore c_200_34 (Nat.le_of_ble_eq_true rfl) (q_iload_n c_200_36 rfl ?_))
  by_cases h_7 : c 57 (5 * t) ≠ 0
  · refine v_if_ne_t (t := 48) c_200_37 rfl ⟨h_7, ⟨(lel h_1.1 rfl), (ler h_1.2 rfl)⟩, of_decide_eq_true rfl, of_decide_eq_true rfl⟩ (q_iload_n c_200_48 rfl (q_iconst c_200_49 ?_))
    by_cases h_8 : c 57 (5 * t) ≠ 1
    · refine v_ic_ne_t (t := 71) c_200_50 rfl ⟨h_8, ⟨(lel h_1.1 rfl), (ler h_1.2 rfl)⟩, of_decide_eq_true rfl, of_decide_eq_true rfl⟩ (q_iload_n c_200_71 rfl (q_iconst c_200_72 ?_))
      by_cases h_9 : c 57 (5 * t) ≠ 2
      · refine v_ic_ne_t (t := 89) c_200_73 rfl ⟨h_9, ⟨(lel h_1.1 rfl), (ler h_1.2 rfl)⟩, of_decide_eq_true rfl, of_decide_eq_true rfl⟩ (q_iload_n c_200_89 rfl (q_iconst c_200_90 ?_))
        by_cases h_10 : c 57 (5 * t) ≠ 3
        · refine v_ic_ne_t (t := 104) c_200_91 rfl ⟨h_10, ⟨(lel h_1.1 rfl), (ler h_1.2 rfl)⟩, of_decide_eq_true rfl, of_decide_eq_true rfl⟩ (q_iload_n c_200_104 rfl (q_iconst c_200_105 ?_))
          by_cases h_11 : c 57 (5 * t) ≠ 5
          · refine v_ic_ne_t (t := 115) c_200_106 rfl ⟨h_11, ⟨(lel h_1.1 rfl), (ler h_1.2 rfl)⟩, of_decide_eq_true rfl, of_decide_eq_true rfl⟩ (q_iload_n c_200_115 rfl (v_bip c_200_116 (of_decide_eq_true rfl) ?_))
            by_cases h_12 : c 57 (5 * t) ≠ 6
            · refine v_ic_ne_t (t := 136) c_200_118 rfl ⟨h_12, ⟨(lel h_1.1 rfl), (ler h_1.2 rfl)⟩, of_decide_eq_true rfl, of_decide_eq_true rfl⟩ (q_iload_n c_200_136 rfl (q_iconst c_200_137 ?_))
              by_cases h_13 : c 57 (5 * t) ≠ 4
              · refine v_ic_ne_t (t := 164) c_200_138 rfl ⟨h_13, ⟨(lel h_1.1 rfl), (ler h_1.2 rfl)⟩, of_decide_eq_true rfl, of_decide_eq_true rfl⟩ (q_aload_n c_200_164 rfl (v_cv c_200_165 km_8_353 rfl rfl (Nat.le_of_ble_eq_true rfl) ⟨⟨rfl, rfl⟩, Nat.le_of_ble_eq_true rfl, rfl⟩ (Nat.le_of_ble_eq_true rfl) (Nat.le_of_ble_eq_true rfl) (s_199 hI (fun c_14 hI_15 hF_16 => (bk_inl (q_iconst c_200_168 (v_zret c_200_169 rfl (of_decide_eq_true rfl) ?_)))))))
                exact K c_14 1 hI_15 (fun a j hm => hF_16 a j (fun h => hm (Or.inl h))) ⟨of_decide_eq_true rfl, of_decide_eq_true rfl⟩
              · refine v_ic_ne_f (t := 164) c_200_138 rfl (Decidable.not_not.mp h_13) (q_aload_n c_200_141 rfl (v_gr (t := 59) c_200_142 kf_8_68 rfl (Nat.le_of_ble_eq_true rfl) rfl (v_bip c_200_145 (of_decide_eq_true rfl) (q_iload_n c_200_147 rfl (v_iadd (v := c 57 (5 * t + 1) + 30) c_200_148 (by first | (clear ht h_1 h_2 h_3 h_5 h_6 h_13 h_4 h_7 h_8 h_9 h_10 h_11 h_12; omega) | omega) (q_iconst c_200_149 (q_aload_n c_200_150 rfl ?_)))))))
                refine v_gr (t := 59) c_200_151 kf_8_68 rfl (Nat.le_of_ble_eq_true rfl) rfl (v_bip c_200_154 (of_decide_eq_true rfl) (q_iload_n c_200_156 rfl (v_iadd (v := c 57 (5 * t + 1) + 30) c_200_157 (by first | (clear ht h_1 h_2 h_3 h_5 h_6 h_13 h_4 h_7 h_8 h_9 h_10 h_11 h_12; omega) | omega) ?_)))
                have h_17 := ir_59 hI (c 57 (5 * t + 1) + 30)
                refine v_ia (v := c 59 (c 57 (5 * t + 1) + 30)) c_200_158 rfl (of_decide_eq_true rfl) (of_decide_eq_true rfl) ⟨(rgp_l h_2.1 (of_decide_eq_true rfl)), by first | (clear ht h_1 h_2 h_3 h_5 h_6 h_17 h_4 h_7 h_8 h_9 h_10 h_11 h_12; omega) | omega⟩ rfl (v_isub (v := 1 - c 59 (c 57 (5 * t + 1) + 30)) c_200_159 (by first | (clear ht h_1 h_2 h_3 h_5 h_6 h_13 h_17 h_4 h_7 h_8 h_9 h_10 h_11 h_12; omega) | omega) (v_nrm (fun y_18 hy_18 => (v_is c_200_160 rfl (of_decide_eq_true rfl) (of_decide_eq_true rfl) ⟨(rgp_l h_2.1 (of_decide_eq_true rfl)), by first | (clear ht h_1 h_2 h_3 h_5 h_6 h_17 h_4 h_7 h_8 h_9 h_10 h_11 h_12; omega) | omega⟩ (q_goto (t := 168) c_200_161 rfl (q_iconst c_200_168 (v_zret c_200_169 rfl (of_decide_eq_true rfl) ?_)))))))
                have hI_19 := iw_row (a := 59) (j := c 57 (5 * t + 1) + 30) (v := y_18) hI (by omega) (Or.inr (by omega)) ⟨by omega, by omega, by omega⟩
                exact K (up c 59 (c 57 (5 * t + 1) + 30) y_18) 1 hI_19 (fun a j hm => up_b (Decidable.or_iff_not_imp_left.mpr (fun h1 h2 => hm (Or.inl (Decidable.not_not.mp h1))))) ⟨of_decide_eq_true rfl, of_decide_eq_true rfl⟩
            · refine v_ic_ne_f (t := 136) c_200_118 rfl (Decidable.not_not.mp h_12) (q_aload_n c_200_121 rfl (v_gr (t := 59) c_200_122 kf_8_68 rfl (Nat.le_of_ble_eq_true rfl) rfl (v_bip c_200_125 (of_decide_eq_true rfl) ?_)))
              have h_20 := ir_59 hI 34
              refine v_ia (v := c 59 34) c_200_127 rfl (of_decide_eq_true rfl) (of_decide_eq_true rfl) (of_decide_eq_true rfl) rfl (v_sip c_200_128 (of_decide_eq_true rfl) ?_)
              by_cases h_21 : c 59 34 < 400
              · refine v_ic_lt_t (t := 136) c_200_131 rfl ⟨h_20.1, h_21, of_decide_eq_true rfl⟩ (q_iload_n c_200_136 rfl (q_iconst c_200_137 (v_ic_ne_t (t := 164) c_200_138 rfl ⟨(q_9ce06fa3c h_12), ⟨(lel h_1.1 rfl), (ler h_1.2 rfl)⟩, of_decide_eq_true rfl, of_decide_eq_true rfl⟩ (q_aload_n c_200_164 rfl (v_cv c_200_165 km_8_353 rfl rfl (Nat.le_of_ble_eq_true rfl) ⟨⟨rfl, rfl⟩, Nat.le_of_ble_eq_true rfl, rfl⟩ (Nat.le_of_ble_eq_true rfl) (Nat.le_of_ble_eq_true rfl) (s_199 hI (fun c_22 hI_23 hF_24 => (bk_inl (q_iconst c_200_168 ?_)))))))))
                refine v_zret c_200_169 rfl (of_decide_eq_true rfl) ?_
                exact K c_22 1 hI_23 (fun a j hm => hF_24 a j (fun h => hm (Or.inl h))) ⟨of_decide_eq_true rfl, of_decide_eq_true rfl⟩
              · refine v_ic_lt_f (t := 136) c_200_131 rfl ⟨of_decide_eq_true rfl, (Int.not_lt.mp h_21), h_20.2⟩ (q_iconst c_200_134 (v_zret c_200_135 rfl (of_decide_eq_true rfl) ?_))
                exact K c 0 hI (fun a j hm => rfl) ⟨of_decide_eq_true rfl, of_decide_eq_true rfl⟩
          · refine v_ic_ne_f (t := 115) c_200_106 rfl (Decidable.not_not.mp h_11) (q_aload_n c_200_109 rfl (q_iload_n c_200_110 rfl (v_cv c_200_111 km_8_350 rfl rfl (Nat.le_of_ble_eq_true rfl) ⟨⟨rfl, rfl⟩, Nat.le_of_ble_eq_true rfl, rfl⟩ (Nat.le_of_ble_eq_true rfl) (Nat.le_of_ble_eq_true rfl) (s_198 (a1 := c 57 (5 * t + 1)) hI (show 0 ≤ c 57 (5 * t + 1) ∧ c 57 (5 * t + 1) ≤ 5 from ⟨h_2.1, by first | (clear ht h_1 h_2 h_3 h_5 h_6 h_4 h_7 h_8 h_9 h_10; omega) | omega⟩) (fun c_25 y_28 hI_26 hF_27 hy_28 => (bk_inl (v_zret c_200_114 rfl (by omega) ?_)))))))
            exact K c_25 y_28 hI_26 (fun a j hm => hF_27 a j hm) hy_28
        · refine v_ic_ne_f (t := 104) c_200_91 rfl (Decidable.not_not.mp h_10) (q_aload_n c_200_94 rfl (q_iload_n c_200_95 rfl (q_iload c_200_96 rfl (q_iload c_200_98 rfl (v_cv c_200_100 km_8_346 rfl rfl (Nat.le_of_ble_eq_true rfl) ⟨⟨rfl, rfl⟩, Nat.le_of_ble_eq_true rfl, rfl⟩ (Nat.le_of_ble_eq_true rfl) (Nat.le_of_ble_eq_true rfl) (s_194 (a1 := c 57 (5 * t + 1)) (a2 := c 57 (5 * t + 2)) (a3 := c 57 (5 * t + 3)) hI (show 0 ≤ c 57 (5 * t + 1) ∧ c 57 (5 * t + 1) ≤ 5 from ⟨h_2.1, by first | (clear ht h_1 h_2 h_3 h_5 h_6 h_4 h_7 h_8 h_9; omega) | omega⟩) (show 0 ≤ c 57 (5 * t + 2) ∧ c 57 (5 * t + 2) ≤ 5 from ⟨h_3.1, by first | (clear ht h_1 h_2 h_3 h_5 h_6 h_4 h_7 h_8 h_9; omega) | omega⟩) (show 0 ≤ c 57 (5 * t + 3) ∧ c 57 (5 * t + 3) ≤ 99999 from ⟨h_5.1, (ler h_5.2 rfl)⟩) (fun c_29 y_32 hI_30 hF_31 hy_32 => (bk_inl (v_zret c_200_103 rfl (by omega) ?_)))))))))
          exact K c_29 y_32 hI_30 (fun a j hm => hF_31 a j (fun h => hm (Or.inl h))) hy_32
      · refine v_ic_ne_f (t := 89) c_200_73 rfl (Decidable.not_not.mp h_9) (q_aload_n c_200_76 rfl (q_iload_n c_200_77 rfl (q_iload c_200_78 rfl (q_aload_n c_200_80 rfl (q_iload_n c_200_81 rfl ?_)))))
        have h_33 := ir_59_g hI (j := 4 * c 57 (5 * t + 1)) (by first | (clear ht h_1 h_2 h_3 h_5 h_6 h_4 h_7 h_8; omega) | omega)
        have h_34 := ir_59_g hI (j := 4 * c 57 (5 * t + 1) + 1) (by first | (clear ht h_1 h_2 h_3 h_5 h_6 h_33 h_4 h_7 h_8; omega) | omega)
        have h_35 := ir_59_g hI (j := 4 * c 57 (5 * t + 1) + 2) (by first | (clear ht h_1 h_2 h_3 h_5 h_6 h_33 h_34 h_4 h_7 h_8; omega) | omega)
        have h_36 := ir_59_g hI (j := 4 * c 57 (5 * t + 1) + 3) (by first | (clear ht h_1 h_2 h_3 h_5 h_6 h_33 h_34 h_35 h_4 h_7 h_8; omega) | omega)
        refine v_cv c_200_82 km_8_343 rfl rfl (Nat.le_of_ble_eq_true rfl) ⟨⟨rfl, rfl⟩, Nat.le_of_ble_eq_true rfl, rfl⟩ (Nat.le_of_ble_eq_true rfl) (Nat.le_of_ble_eq_true rfl) (s_187 (v1 := c 59 (4 * c 57 (5 * t + 1))) (v2 := c 59 (4 * c 57 (5 * t + 1) + 1)) (v3 := c 59 (4 * c 57 (5 * t + 1) + 2)) (v4 := c 59 (4 * c 57 (5 * t + 1) + 3)) (r := c 59 (4 * c 57 (5 * t + 1) + 1) + c 59 (4 * c 57 (5 * t + 1) + 2) + c 59 (4 * c 57 (5 * t + 1) + 3) + c 59 (4 * c 57 (5 * t + 1))) (a1 := c 57 (5 * t + 1)) hI (show 0 ≤ c 57 (5 * t + 1) ∧ c 57 (5 * t + 1) ≤ 5 from ⟨h_2.1, by first | (clear ht h_1 h_2 h_3 h_5 h_6 h_4 h_7 h_8; omega) | omega⟩) ((congrArg (c 59) (show 4 * (c 57 (5 * t + 1)) = 4 * c 57 (5 * t + 1) from by first | exact q_4654d868a | assumption | exact Int.le_antisymm (by omega) (by omega)))) ((congrArg (c 59) (show 4 * (c 57 (5 * t + 1)) + 1 = 4 * c 57 (5 * t + 1) + 1 from by first | exact q_2052a6d5e | assumption | exact Int.le_antisymm (by omega) (by omega)))) ((congrArg (c 59) (show 4 * (c 57 (5 * t + 1)) + 2 = 4 * c 57 (5 * t + 1) + 2 from by first | exact q_92c47a6ea | assumption | exact Int.le_antisymm (by omega) (by omega)))) ((congrArg (c 59) (show 4 * (c 57 (5 * t + 1)) + 3 = 4 * c 57 (5 * t + 1) + 3 from by first | exact q_1a023eec4 | assumption | exact Int.le_antisymm (by omega) (by omega)))) (by omega) (bk_inl ?_))
        refine v_cv c_200_85 km_8_346 rfl rfl (Nat.le_of_ble_eq_true rfl) ⟨⟨rfl, rfl⟩, Nat.le_of_ble_eq_true rfl, rfl⟩ (Nat.le_of_ble_eq_true rfl) (Nat.le_of_ble_eq_true rfl) (s_194 (a1 := c 57 (5 * t + 1)) (a2 := c 57 (5 * t + 2)) (a3 := c 59 (4 * c 57 (5 * t + 1) + 1) + c 59 (4 * c 57 (5 * t + 1) + 2) + c 59 (4 * c 57 (5 * t + 1) + 3) + c 59 (4 * c 57 (5 * t + 1))) hI (show 0 ≤ c 57 (5 * t + 1) ∧ c 57 (5 * t + 1) ≤ 5 from ⟨h_2.1, by first | (clear ht h_1 h_2 h_3 h_5 h_6 h_33 h_34 h_35 h_36 h_4 h_7 h_8; omega) | omega⟩) (show 0 ≤ c 57 (5 * t + 2) ∧ c 57 (5 * t + 2) ≤ 5 from ⟨h_3.1, by first | (clear ht h_1 h_2 h_3 h_5 h_6 h_33 h_34 h_35 h_36 h_4 h_7 h_8; omega) | omega⟩) (show 0 ≤ c 59 (4 * c 57 (5 * t + 1) + 1) + c 59 (4 * c 57 (5 * t + 1) + 2) + c 59 (4 * c 57 (5 * t + 1) + 3) + c 59 (4 * c 57 (5 * t + 1)) ∧ c 59 (4 * c 57 (5 * t + 1) + 1) + c 59 (4 * c 57 (5 * t + 1) + 2) + c 59 (4 * c 57 (5 * t + 1) + 3) + c 59 (4 * c 57 (5 * t + 1)) ≤ 99999 from ⟨(q_039f89af9 h_33 h_34 h_35 h_36), (q_386a854c4 h_33 h_34 h_35 h_36)⟩) (fun c_37 y_40 hI_38 hF_39 hy_40 => (bk_inl (v_zret c_200_88 rfl (by omega) ?_))))
        exact K c_37 y_40 hI_38 (fun a j hm => hF_39 a j (fun h => hm (Or.inl h))) hy_40
    · refine v_ic_ne_f (t := 71) c_200_50 rfl (Decidable.not_not.mp h_8) (q_aload_n c_200_53 rfl (q_iload_n c_200_54 rfl (q_iload c_200_55 rfl (q_iload c_200_57 rfl (q_aload_n c_200_59 rfl (v_gr (t := 57) c_200_60 kf_8_62 rfl (Nat.le_of_ble_eq_true rfl) rfl (q_iload_n c_200_63 rfl ?_)))))))
      refine q_iconst c_200_64 (v_iadd (v := 5 * t + 4) c_200_65 rfl (v_ia (v := c 57 (5 * t + 4)) c_200_66 rfl (of_decide_eq_true rfl) (of_decide_eq_true rfl) ⟨(q_23dd42f95 ht), (q_50bb9b2d7 ht)⟩ rfl (v_cv c_200_67 km_8_339 rfl rfl (Nat.le_of_ble_eq_true rfl) ⟨⟨rfl, rfl⟩, Nat.le_of_ble_eq_true rfl, rfl⟩ (Nat.le_of_ble_eq_true rfl) (Nat.le_of_ble_eq_true rfl) (s_193 (a1 := c 57 (5 * t + 1)) (a2 := c 57 (5 * t + 2)) (a3 := c 57 (5 * t + 3)) (a4 := c 57 (5 * t + 4)) hI (show 0 ≤ c 57 (5 * t + 1) ∧ c 57 (5 * t + 1) ≤ 3 from ⟨h_2.1, by first | (clear ht h_1 h_2 h_3 h_5 h_6 h_4 h_7; omega) | omega⟩) (show 0 ≤ c 57 (5 * t + 2) ∧ c 57 (5 * t + 2) ≤ 5 from ⟨h_3.1, by first | (clear ht h_1 h_2 h_3 h_5 h_6 h_4 h_7; omega) | omega⟩) (show 0 ≤ c 57 (5 * t + 3) ∧ c 57 (5 * t + 3) ≤ 5 from ⟨h_5.1, by first | (clear ht h_1 h_2 h_3 h_5 h_6 h_4 h_7; omega) | omega⟩) (show 0 ≤ c 57 (5 * t + 4) ∧ c 57 (5 * t + 4) ≤ 5 from ⟨h_6.1, by first | (clear ht h_1 h_2 h_3 h_5 h_6 h_4 h_7; omega) | omega⟩) (fun c_41 y_44 hI_42 hF_43 hy_44 => (bk_inl (v_zret c_200_70 rfl (by omega) ?_)))))))
      exact K c_41 y_44 hI_42 (fun a j hm => hF_43 a j (fun h => hm (Or.inl h))) hy_44
  · refine v_if_ne_f (t := 48) c_200_37 rfl (Decidable.not_not.mp h_7) (q_aload_n c_200_40 rfl (q_iload_n c_200_41 rfl (q_iload c_200_42 rfl (v_cv c_200_44 km_8_335 rfl rfl (Nat.le_of_ble_eq_true rfl) ⟨⟨rfl, rfl⟩, Nat.le_of_ble_eq_true rfl, rfl⟩ (Nat.le_of_ble_eq_true rfl) (Nat.le_of_ble_eq_true rfl) (s_188 (a1 := c 57 (5 * t + 1)) (a2 := c 57 (5 * t + 2)) hI (show 0 ≤ c 57 (5 * t + 1) ∧ c 57 (5 * t + 1) ≤ 3 from ⟨h_2.1, by first | (clear ht h_1 h_2 h_3 h_5 h_6 h_4; omega) | omega⟩) (show 0 ≤ c 57 (5 * t + 2) ∧ c 57 (5 * t + 2) ≤ 5 from ⟨h_3.1, by first | (clear ht h_1 h_2 h_3 h_5 h_6 h_4; omega) | omega⟩) (fun c_45 y_48 hI_46 hF_47 hy_48 => (bk_inl (v_zret c_200_47 rfl (by omega) ?_))))))))
    exact K c_45 y_48 hI_46 (fun a j hm => hF_47 a j (fun h => hm (Or.inl h))) hy_48

set_option maxRecDepth 100000 in
set_option maxHeartbeats 4000000 in
theorem s_201_l {sc : List Int32} {d P Q : Nat} {c : ME} {t : Int} {a2 : Int} {Z : AR → Prop} (hI : Iv 0 (-1) P Q c) (ht : 0 ≤ t ∧ t ≤ 50) (ha2 : 0 ≤ a2 ∧ a2 ≤ 250) (H201 : ∀ (c : ME) (t2 : Int) (a2 : Int) (z : Int) (Z : AR → Prop), (t + 1 ≤ t2 ∧ t2 ≤ 50) ∧ z = 5 * t2 → Iv 0 (-1) P Q c → 0 ≤ a2 ∧ a2 ≤ 250 → (∀ c2 : ME, Iv 0 (-1) P Q c2 → (∀ (a : Nat) (j : Int), ¬ ((a = 41 ∧ j = 37) ∨ (a = 41 ∧ j = 38) ∨ (a = 41 ∧ j = 39) ∨ a = 59 ∨ a = 54 ∨ a = 55) → c2 a j = c a j) → (c2 41 37 ≥ c 41 37) → Z (.inl none, Wd P Q P P c2, 0, 0)) → Wp sc (d + 15) 201 0 [(0, .ref 41), (1, vi z), (2, vi a2)] [] (Wd P Q P P c) 0 0 Z) (K : ∀ (c2 : ME), Iv 0 (-1) P Q c2 → (∀ (a : Nat) (j : Int), ¬ ((a = 41 ∧ j = 37) ∨ (a = 41 ∧ j = 38) ∨ (a = 41 ∧ j = 39) ∨ a = 59 ∨ a = 54 ∨ a = 55) → c2 a j = c a j) → ((c2 41 37 ≥ c 41 37)) → Z (.inl (none), Wd P Q P P c2, 0, 0)) : ∀ n : Nat, (∀ (c2 : ME) (v3 : Int), Iv 0 (-1) P Q c2 → (∀ (a : Nat) (j : Int), ¬ ((a = 41 ∧ j = 37) ∨ (a = 41 ∧ j = 38) ∨ (a = 41 ∧ j = 39) ∨ a = 59 ∨ a = 54 ∨ a = 55) → c2 a j = c a j) → 0 ≤ v3 ∧ v3 ≤ 50 → ((c2 41 37 ≥ c 41 37)) → ((v3 ≥ t)) → 40002000 - 200010 * c2 41 37 < (n : Int) → Wp sc (d + 16) 201 2 [(0, .ref 41), (1, vi (5 * t)), (2, vi a2), (3, vi (5 * v3))] [] (Wd P Q P P c2) 0 0 Z) ∧ (∀ (c2 : ME) (v3 : Int) (v4 : Int) (v5 : Int), Iv 0 (-1) P Q c2 → (∀ (a : Nat) (j : Int), ¬ ((a = 41 ∧ j = 37) ∨ (a = 41 ∧ j = 38) ∨ (a = 41 ∧ j = 39) ∨ a = 59 ∨ a = 54 ∨ a = 55) → c2 a j = c a j) → 0 ≤ v3 ∧ v3 ≤ 49 → 0 ≤ v4 ∧ v4 ≤ 50 → 0 ≤ v5 ∧ v5 ≤ 999 → ((c2 41 37 ≥ c 41 37)) → ((v3 ≥ t)) → ((v4 ≥ v3 + 1)) → 40202003 - 200010 * c2 41 37 - 2 * v5 < (n : Int) → Wp sc (d + 16) 201 51 [(0, .ref 41), (1, vi (5 * t)), (2, vi a2), (3, vi (5 * v3)), (4, vi (5 * v4)), (5, vi v5)] [] (Wd P Q P P c2) 0 0 Z) := by
  intro n
  induction n with
  | zero => exact (by exact ⟨by (intro c2 v3 hI2 hF hv3 hx0 hx1 hm9; have hP := iv_P hI; have hQ := iv_Q hI; have h_46 := ir_41_37 hI2; exfalso; omega), by (intro c2 v3 v4 v5 hI2 hF hv3 hv4 hv5 hx0 hx1 hx2 hm9; have hP := iv_P hI; have hQ := iv_Q hI; have h_47 := ir_41_37 hI2; exfalso; omega)⟩)
  | succ n ih =>
    have hP := iv_P hI
    have hQ := iv_Q hI
    refine ⟨?_, ?_⟩
    · skip
      intro c2 v3 hI2 hF hv3 hx0 hx1 hm9
      have h_1 := ir_41_37 hI
      have h_2 := ir_41_37 hI2
      refine q_iload_n c_201_2 rfl (q_iload_n c_201_3 rfl ?_)
      by_cases h_3 : 5 * v3 ≥ a2
      · refine v_ic_ge_t (t := 132) c_201_4 rfl ⟨(lel ha2.1 rfl), h_3, (q_4eed03022 hv3)⟩ (q_vret rfl rfl ?_)
        exact K c2 hI2 (fun a j hm => hF a j hm) (by omega)
      · refine v_ic_ge_f (t := 132) c_201_4 rfl ⟨(q_f276f79c5 hv3), (Int.not_le.mp h_3), (ler ha2.2 rfl)⟩ (q_aload_n c_201_7 rfl (v_gi (z := 37) (v := c2 41 37) c_201_8 kf_8_320 rfl (Nat.le_of_ble_eq_true rfl) rfl rfl rfl (v_sip c_201_11 (of_decide_eq_true rfl) ?_)))
        by_cases h_4 : c2 41 37 ≥ 200
        · refine v_ic_ge_t (t := 132) c_201_14 rfl ⟨of_decide_eq_true rfl, h_4, (ler h_2.2 rfl)⟩ (q_vret rfl rfl ?_)
          exact K c2 hI2 (fun a j hm => hF a j hm) (by omega)
        · refine v_ic_ge_f (t := 132) c_201_14 rfl ⟨(lel h_2.1 rfl), (Int.not_le.mp h_4), of_decide_eq_true rfl⟩ (q_aload_n c_201_17 rfl (q_dup c_201_18 rfl (v_gi (z := 37) (v := c2 41 37) c_201_19 kf_8_320 rfl (Nat.le_of_ble_eq_true rfl) rfl rfl rfl (q_iconst c_201_22 (v_iadd (v := c2 41 37 + 1) c_201_23 rfl (v_pi (z := 37) c_201_24 kf_8_320 rfl (Nat.le_of_ble_eq_true rfl) rfl rfl rfl (of_decide_eq_true rfl) (q_aload_n c_201_27 rfl ?_)))))))
          refine v_gr (t := 57) c_201_28 kf_8_62 rfl (Nat.le_of_ble_eq_true rfl) rfl (q_iload_n c_201_31 rfl ?_)
          have h_5 := ir_57 hI (5 * v3)
          have kn_6 : Hid (c2 57 (5 * v3) = c 57 (5 * v3)) := hF 57 (5 * v3) qn_d2085ee3f
          refine v_ia (v := c 57 (5 * v3)) c_201_32 rfl (of_decide_eq_true rfl) (of_decide_eq_true rfl) ⟨(q_31473b65c hv3), (q_ef94ce899 h_3 ha2)⟩ ((up_c (nn rfl)).trans (hid kn_6)) (v_bip c_201_33 (of_decide_eq_true rfl) ?_)
          by_cases h_7 : c 57 (5 * v3) ≠ 7
          · refine v_ic_ne_t (t := 95) c_201_35 rfl ⟨h_7, ⟨(q_03affaadb h_5), (q_cbd2526de h_5)⟩, of_decide_eq_true rfl, of_decide_eq_true rfl⟩ (q_aload_n c_201_95 rfl (q_iload_n c_201_96 rfl ?_))
            have hI_8 := iw_41_37 (v := c2 41 37 + 1) hI2 ⟨(rgp_l h_2.1 (of_decide_eq_true rfl)), (q_6a4e5184f h_4)⟩
            refine v_cv c_201_97 km_8_332 rfl rfl (Nat.le_of_ble_eq_true rfl) ⟨⟨rfl, rfl⟩, Nat.le_of_ble_eq_true rfl, rfl⟩ (Nat.le_of_ble_eq_true rfl) (Nat.le_of_ble_eq_true rfl) (s_200 (t := v3) hI_8 (show 0 ≤ v3 ∧ v3 ≤ 49 from by omega) (fun c_9 y_12 hI_10 hF_11 hy_12 => (bk_inl ?_)))
            by_cases h_13 : y_12 = 0
            · refine v_if_eq_t (t := 116) c_201_100 rfl h_13 (q_aload_n c_201_116 rfl (q_dup c_201_117 rfl ?_))
              have h_14 := ir_41_39 hI2
              have kn_15 : Hid (c_9 41 39 = c2 41 39) := (hF_11 41 39 qn_3259694f0).trans (up_n (ni rfl))
              refine v_gi (z := 39) (v := c2 41 39) c_201_118 kf_8_326 rfl (Nat.le_of_ble_eq_true rfl) rfl rfl (hid kn_15) (q_iconst c_201_121 (v_iadd (v := c2 41 39 + 1) c_201_122 rfl (v_nrm (fun y_16 hy_16 => (v_pi (z := 39) c_201_123 kf_8_326 rfl (Nat.le_of_ble_eq_true rfl) rfl rfl rfl (of_decide_eq_true rfl) (v_iinc (v := 5 * v3 + 5) c_201_126 rfl (Nat.le_of_ble_eq_true rfl) rfl (q_goto (t := 2) c_201_129 rfl ?_)))))))
              have e_17 : 5 * v3 + 5 = 5 * (v3 + 1) := by omega
              have hI_18 := iw_41_39 (v := y_16) hI_10 ⟨hy_16.1, hy_16.2⟩
              refine Wp_ls [(0, .ref 41), (1, vi (5 * t)), (2, vi a2), (3, vi (5 * (v3 + 1)))] (lsub_cons rfl (lsub_cons rfl (lsub_cons rfl (lsub_cons (congrArg (fun w9 => some (vi w9)) e_17) lsub_nil)))) ?_
              have kn_19 : Hid (c_9 41 37 = c2 41 37 + 1) := (hF_11 41 37 qn_3259694f0).trans (up_e rfl)
              have h_20 : (up c_9 41 39 y_16) 41 37 = c2 41 37 + 1 := ((up_n (ni rfl)).trans (hid kn_19))
              exact ih.1 (up c_9 41 39 y_16) (v3 + 1) hI_18 (fun a j hm => (up_b (Decidable.or_iff_not_imp_left.mpr (fun h1 h2 => hm (Or.inr (Or.inr (Or.inl ⟨Decidable.not_not.mp h1, h2⟩)))))).trans ((hF_11 a j (qv_ba7f77c60 hm)).trans ((up_b (Decidable.or_iff_not_imp_left.mpr (fun h1 h2 => hm (Or.inl ⟨Decidable.not_not.mp h1, h2⟩)))).trans (hF a j hm)))) ⟨(rgp_l hv3.1 (of_decide_eq_true rfl)), (q_934b18d73 h_3 ha2)⟩ (by first | (clear ht ha2 hv3 hx1 h_1 h_2 h_3 h_4 h_5 h_13 h_14 h_7; omega) | omega) (by first | (clear ht ha2 hv3 hx0 h_1 h_2 h_3 h_4 h_5 h_13 h_14 h_7; omega) | omega) (by omega)
            · refine v_if_eq_f (t := 116) c_201_100 rfl ⟨h_13, ⟨(lel hy_12.1 rfl), (ler hy_12.2 rfl)⟩, of_decide_eq_true rfl, of_decide_eq_true rfl⟩ (q_aload_n c_201_103 rfl (q_dup c_201_104 rfl ?_))
              have h_21 := ir_41_38 hI2
              have kn_22 : Hid (c_9 41 38 = c2 41 38) := (hF_11 41 38 qn_3259694f0).trans (up_n (ni rfl))
              refine v_gi (z := 38) (v := c2 41 38) c_201_105 kf_8_323 rfl (Nat.le_of_ble_eq_true rfl) rfl rfl (hid kn_22) (q_iconst c_201_108 (v_iadd (v := c2 41 38 + 1) c_201_109 rfl (v_nrm (fun y_23 hy_23 => (v_pi (z := 38) c_201_110 kf_8_323 rfl (Nat.le_of_ble_eq_true rfl) rfl rfl rfl (of_decide_eq_true rfl) (q_goto (t := 126) c_201_113 rfl (v_iinc (v := 5 * v3 + 5) c_201_126 rfl (Nat.le_of_ble_eq_true rfl) rfl (q_goto (t := 2) c_201_129 rfl ?_))))))))
              have e_24 : 5 * v3 + 5 = 5 * (v3 + 1) := by omega
              have hI_25 := iw_41_38 (v := y_23) hI_10 ⟨hy_23.1, hy_23.2⟩
              refine Wp_ls [(0, .ref 41), (1, vi (5 * t)), (2, vi a2), (3, vi (5 * (v3 + 1)))] (lsub_cons rfl (lsub_cons rfl (lsub_cons rfl (lsub_cons (congrArg (fun w9 => some (vi w9)) e_24) lsub_nil)))) ?_
              have kn_26 : Hid (c_9 41 37 = c2 41 37 + 1) := (hF_11 41 37 qn_3259694f0).trans (up_e rfl)
              have h_27 : (up c_9 41 38 y_23) 41 37 = c2 41 37 + 1 := ((up_n (ni rfl)).trans (hid kn_26))
              exact ih.1 (up c_9 41 38 y_23) (v3 + 1) hI_25 (fun a j hm => (up_b (Decidable.or_iff_not_imp_left.mpr (fun h1 h2 => hm (Or.inr (Or.inl ⟨Decidable.not_not.mp h1, h2⟩))))).trans ((hF_11 a j (qv_ba7f77c60 hm)).trans ((up_b (Decidable.or_iff_not_imp_left.mpr (fun h1 h2 => hm (Or.inl ⟨Decidable.not_not.mp h1, h2⟩)))).trans (hF a j hm)))) ⟨(rgp_l hv3.1 (of_decide_eq_true rfl)), (q_934b18d73 h_3 ha2)⟩ (by first | (clear ht ha2 hv3 hx1 h_1 h_2 h_3 h_4 h_5 h_21 h_7 h_13; omega) | omega) (by first | (clear ht ha2 hv3 hx0 h_1 h_2 h_3 h_4 h_5 h_21 h_7 h_13; omega) | omega) (by omega)
          · refine v_ic_ne_f (t := 95) c_201_35 rfl (Decidable.not_not.mp h_7) (q_aload_n c_201_38 rfl (v_gr (t := 57) c_201_39 kf_8_62 rfl (Nat.le_of_ble_eq_true rfl) rfl (q_iload_n c_201_42 rfl (q_iconst c_201_43 (v_iadd (v := 5 * v3 + 2) c_201_44 rfl ?_)))))
            have h_28 := ir_57 hI (5 * v3 + 2)
            have h_29 := ir_ag hI (a := 57) (by omega) (t := v3) (by omega) (by omega)
            have kn_30 : Hid (c2 57 (5 * v3 + 2) = c 57 (5 * v3 + 2)) := hF 57 (5 * v3 + 2) qn_d2085ee3f
            refine v_ia (v := c 57 (5 * v3 + 2)) c_201_45 rfl (of_decide_eq_true rfl) (of_decide_eq_true rfl) ⟨(q_63dfe5ad8 hv3), (q_42fde05c4 h_3 ha2)⟩ ((up_c (nn rfl)).trans (hid kn_30)) (q_istore c_201_46 (Nat.le_of_ble_eq_true rfl) (q_iconst c_201_48 (q_istore c_201_49 (Nat.le_of_ble_eq_true rfl) ?_)))
            obtain ⟨z_31, e_32⟩ : ∃ z : Int, c 57 (5 * v3 + 2) = 5 * z := ⟨(c 57 (5 * v3 + 2)) / 5, by omega⟩
            have hI_33 := iw_41_37 (v := c2 41 37 + 1) hI2 ⟨(rgp_l h_2.1 (of_decide_eq_true rfl)), (q_6a4e5184f h_4)⟩
            refine Wp_ls [(0, .ref 41), (1, vi (5 * t)), (2, vi a2), (3, vi (5 * v3)), (4, vi (5 * z_31)), (5, vi 0)] (lsub_cons rfl (lsub_cons rfl (lsub_cons rfl (lsub_cons rfl (lsub_cons (congrArg (fun w9 => some (vi w9)) e_32) (lsub_cons rfl lsub_nil)))))) ?_
            have h_34 : (up c2 41 37 (c2 41 37 + 1)) 41 37 = c2 41 37 + 1 := (up_e rfl)
            exact ih.2 (up c2 41 37 (c2 41 37 + 1)) v3 z_31 0 hI_33 (fun a j hm => (up_b (Decidable.or_iff_not_imp_left.mpr (fun h1 h2 => hm (Or.inl ⟨Decidable.not_not.mp h1, h2⟩)))).trans (hF a j hm)) ⟨hv3.1, (q_76860e3de h_3 ha2)⟩ ⟨by first | (clear ht ha2 hv3 hx0 hx1 h_1 h_2 h_3 h_4 h_5 h_7 h_29; omega) | omega, by first | (clear ht ha2 hv3 hx0 hx1 h_1 h_2 h_3 h_4 h_5 h_28; omega) | omega⟩ ⟨of_decide_eq_true rfl, of_decide_eq_true rfl⟩ (by first | (clear ht ha2 hv3 hx1 h_1 h_2 h_3 h_4 h_5 h_7 h_28 h_29; omega) | omega) (by first | (clear ht ha2 hv3 hx0 h_1 h_2 h_3 h_4 h_5 h_7 h_28 h_29; omega) | omega) (by first | (clear ht ha2 hv3 hx0 hx1 h_1 h_2 h_3 h_4 h_5 h_28; omega) | omega) (by omega)
    · skip
      intro c2 v3 v4 v5 hI2 hF hv3 hv4 hv5 hx0 hx1 hx2 hm9
      have h_35 := ir_41_37 hI
      have h_36 := ir_41_37 hI2
      refine q_iload c_201_51 rfl (q_aload_n c_201_53 rfl (v_gr (t := 57) c_201_54 kf_8_62 rfl (Nat.le_of_ble_eq_true rfl) rfl (q_iload_n c_201_57 rfl (q_iconst c_201_58 (v_iadd (v := 5 * v3 + 1) c_201_59 rfl ?_)))))
      have h_37 := ir_57 hI (5 * v3 + 1)
      have kn_38 : Hid (c2 57 (5 * v3 + 1) = c 57 (5 * v3 + 1)) := hF 57 (5 * v3 + 1) qn_d2085ee3f
      refine v_ia (v := c 57 (5 * v3 + 1)) c_201_60 rfl (of_decide_eq_true rfl) (of_decide_eq_true rfl) ⟨(q_d20ef1097 hv3), (q_f1fca8fe8 hv3)⟩ (hid kn_38) ?_
      by_cases h_39 : v5 ≥ c 57 (5 * v3 + 1)
      · refine v_ic_ge_t (t := 89) c_201_61 rfl ⟨(q_03affaadb h_37), h_39, (ler hv5.2 rfl)⟩ (q_iload c_201_89 rfl (q_istore_n c_201_91 (Nat.le_of_ble_eq_true rfl) (q_goto (t := 2) c_201_92 rfl (Wp_ls [(0, .ref 41), (1, vi (5 * t)), (2, vi a2), (3, vi (5 * v4))] (lsub_cons rfl (lsub_cons rfl (lsub_cons rfl (lsub_cons rfl lsub_nil)))) ?_))))
        exact ih.1 c2 v4 hI2 (fun a j hm => hF a j hm) hv4 (by omega) (by omega) (by omega)
      · refine v_ic_ge_f (t := 89) c_201_61 rfl ⟨(lel hv5.1 rfl), (Int.not_le.mp h_39), (q_cbd2526de h_37)⟩ (q_aload_n c_201_64 rfl (v_gi (z := 37) (v := c2 41 37) c_201_65 kf_8_320 rfl (Nat.le_of_ble_eq_true rfl) rfl rfl rfl (v_sip c_201_68 (of_decide_eq_true rfl) ?_)))
        by_cases h_40 : c2 41 37 ≥ 200
        · refine v_ic_ge_t (t := 89) c_201_71 rfl ⟨of_decide_eq_true rfl, h_40, (ler h_36.2 rfl)⟩ (q_iload c_201_89 rfl (q_istore_n c_201_91 (Nat.le_of_ble_eq_true rfl) (q_goto (t := 2) c_201_92 rfl (Wp_ls [(0, .ref 41), (1, vi (5 * t)), (2, vi a2), (3, vi (5 * v4))] (lsub_cons rfl (lsub_cons rfl (lsub_cons rfl (lsub_cons rfl lsub_nil)))) ?_))))
          exact ih.1 c2 v4 hI2 (fun a j hm => hF a j hm) hv4 (by omega) (by omega) (by omega)
        · refine v_ic_ge_f (t := 89) c_201_71 rfl ⟨(lel h_36.1 rfl), (Int.not_le.mp h_40), of_decide_eq_true rfl⟩ (q_aload_n c_201_74 rfl (q_iload_n c_201_75 rfl (q_iconst c_201_76 (v_iadd (v := 5 * v3 + 5) c_201_77 rfl (q_iload c_201_78 rfl (v_cv c_201_80 km_8_329 rfl rfl (Nat.le_of_ble_eq_true rfl) ⟨⟨rfl, rfl⟩, Nat.le_of_ble_eq_true rfl, rfl⟩ (Nat.le_of_ble_eq_true rfl) (Nat.le_of_ble_eq_true rfl) (H201 _ (v3 + 1) (5 * v4) _ _ (by omega) hI2 (by omega) (fun c_41 hI_42 hF_43 h_44 => (bk_inl ?_)))))))))
          have h_45 := ir_41_37 hI_42
          refine v_iinc (v := v5 + 1) c_201_83 rfl (Nat.le_of_ble_eq_true rfl) rfl (q_goto (t := 51) c_201_86 rfl (Wp_ls [(0, .ref 41), (1, vi (5 * t)), (2, vi a2), (3, vi (5 * v3)), (4, vi (5 * v4)), (5, vi (v5 + 1))] (lsub_cons rfl (lsub_cons rfl (lsub_cons rfl (lsub_cons rfl (lsub_cons rfl (lsub_cons rfl lsub_nil)))))) ?_))
          exact ih.2 c_41 v3 v4 (v5 + 1) hI_42 (fun a j hm => (hF_43 a j hm).trans (hF a j hm)) hv3 hv4 ⟨(rgp_l hv5.1 (of_decide_eq_true rfl)), (q_2558f8dc6 h_37 h_39)⟩ (by first | (clear ht ha2 hv3 hv4 hv5 hx1 hx2 h_35 h_36 h_37 h_39 h_40 h_45; omega) | omega) (by first | (clear ht ha2 hv3 hv4 hv5 hx0 hx2 h_35 h_36 h_37 h_39 h_40 h_45 h_44; omega) | omega) (by first | (clear ht ha2 hv3 hv4 hv5 hx0 hx1 h_35 h_36 h_37 h_39 h_40 h_45 h_44; omega) | omega) (by omega)
set_option maxRecDepth 100000 in
set_option maxHeartbeats 4000000 in
theorem s_201 {sc : List Int32} {d P Q : Nat} {c : ME} {t : Int} {a2 : Int} {Z : AR → Prop} (hI : Iv 0 (-1) P Q c) (ht : 0 ≤ t ∧ t ≤ 50) (ha2 : 0 ≤ a2 ∧ a2 ≤ 250) (H201 : ∀ (c : ME) (t2 : Int) (a2 : Int) (z : Int) (Z : AR → Prop), (t + 1 ≤ t2 ∧ t2 ≤ 50) ∧ z = 5 * t2 → Iv 0 (-1) P Q c → 0 ≤ a2 ∧ a2 ≤ 250 → (∀ c2 : ME, Iv 0 (-1) P Q c2 → (∀ (a : Nat) (j : Int), ¬ ((a = 41 ∧ j = 37) ∨ (a = 41 ∧ j = 38) ∨ (a = 41 ∧ j = 39) ∨ a = 59 ∨ a = 54 ∨ a = 55) → c2 a j = c a j) → (c2 41 37 ≥ c 41 37) → Z (.inl none, Wd P Q P P c2, 0, 0)) → Wp sc (d + 15) 201 0 [(0, .ref 41), (1, vi z), (2, vi a2)] [] (Wd P Q P P c) 0 0 Z) (K : ∀ (c2 : ME), Iv 0 (-1) P Q c2 → (∀ (a : Nat) (j : Int), ¬ ((a = 41 ∧ j = 37) ∨ (a = 41 ∧ j = 38) ∨ (a = 41 ∧ j = 39) ∨ a = 59 ∨ a = 54 ∨ a = 55) → c2 a j = c a j) → ((c2 41 37 ≥ c 41 37)) → Z (.inl (none), Wd P Q P P c2, 0, 0)) : Wp sc (d + 16) 201 0 [(0, .ref 41), (1, vi (5 * t)), (2, vi a2)] [] (Wd P Q P P c) 0 0 Z := by
  have hP := iv_P hI
  have hQ := iv_Q hI
  refine q_iload_n c_201_0 rfl (q_istore_n c_201_1 (Nat.le_of_ble_eq_true rfl) (Wp_ls [(0, .ref 41), (1, vi (5 * t)), (2, vi a2), (3, vi (5 * t))] (lsub_cons rfl (lsub_cons rfl (lsub_cons rfl (lsub_cons rfl lsub_nil)))) ?_))
  have h_48 := ir_41_37 hI
  exact (s_201_l (sc := sc) (d := d) hI ht ha2 H201 K 40300000).1 c t hI (fun a j hm => rfl) ht ((q_e074ea49a)) ((q_e074ea49a)) (by omega)
set_option maxRecDepth 100000 in
set_option maxHeartbeats 4000000 in
theorem r_201_n {sc : List Int32} {d P Q : Nat} : ∀ (m : Nat) (c : ME) (t a2 : Int) (Z : AR → Prop), 50 - t ≤ (m : Int) → 0 ≤ t ∧ t ≤ 50 → Iv 0 (-1) P Q c → 0 ≤ a2 ∧ a2 ≤ 250 → (∀ c2 : ME, Iv 0 (-1) P Q c2 → (∀ (a : Nat) (j : Int), ¬ ((a = 41 ∧ j = 37) ∨ (a = 41 ∧ j = 38) ∨ (a = 41 ∧ j = 39) ∨ a = 59 ∨ a = 54 ∨ a = 55) → c2 a j = c a j) → (c2 41 37 ≥ c 41 37) → Z (.inl none, Wd P Q P P c2, 0, 0)) → Wp sc (d + m + 16) 201 0 [(0, .ref 41), (1, vi (5 * t)), (2, vi a2)] [] (Wd P Q P P c) 0 0 Z
  | 0, c, t, a2, Z, hm, h0, hI, ha, K => s_201 (d := d) (t := t) (a2 := a2) hI h0 ha (fun c9 t2 a9 z9 Z9 hc => absurd hc (by omega)) K
  | m + 1, c, t, a2, Z, hm, h0, hI, ha, K => s_201 (d := d + (m + 1)) (t := t) (a2 := a2) hI h0 ha (fun c9 t2 a9 z9 Z9 hc hI9 ha9 K9 => by
    have r := r_201_n (sc := sc) (d := d) m c9 t2 a9 Z9 (by omega) (by omega) hI9 ha9 K9
    rw [show d + m + 16 = d + (m + 1) + 15 by omega] at r
    rw [hc.2]
    exact r) K
set_option maxRecDepth 100000 in
set_option maxHeartbeats 4000000 in
theorem r_201 {sc : List Int32} {d P Q : Nat} {c : ME} {t a2 : Int} {Z : AR → Prop} (hI : Iv 0 (-1) P Q c) (ht : 0 ≤ t ∧ t ≤ 50) (ha2 : 0 ≤ a2 ∧ a2 ≤ 250) (K : (∀ c2 : ME, Iv 0 (-1) P Q c2 → (∀ (a : Nat) (j : Int), ¬ ((a = 41 ∧ j = 37) ∨ (a = 41 ∧ j = 38) ∨ (a = 41 ∧ j = 39) ∨ a = 59 ∨ a = 54 ∨ a = 55) → c2 a j = c a j) → (c2 41 37 ≥ c 41 37) → Z (.inl none, Wd P Q P P c2, 0, 0))) : Wp sc (d + 66) 201 0 [(0, .ref 41), (1, vi (5 * t)), (2, vi a2)] [] (Wd P Q P P c) 0 0 Z :=
  r_201_n (d := d) 50 c t a2 Z (by omega) ht hI ha2 K

set_option maxRecDepth 100000 in
set_option maxHeartbeats 4000000 in
theorem s_202c {sc : List Int32} {d P Q : Nat} {c : ME} {Z : AR → Prop} (hI : Iv 0 (-1) P Q c) (hq0 : (c 41 35 ≤ 15)) (hq1 : (((c 41 34) % 5) = 0)) (hq2 : (c 41 34 ≤ 250)) (K : ∀ (c2 : ME) (y : Int), Iv 0 (-1) P Q c2 → (∀ (a : Nat) (j : Int), ¬ ((a = 41 ∧ j = 35) ∨ (a = 41 ∧ j = 36) ∨ (a = 41 ∧ j = 37) ∨ (a = 41 ∧ j = 38) ∨ (a = 41 ∧ j = 39) ∨ a = 58 ∨ a = 59 ∨ a = 54 ∨ a = 55) → c2 a j = c a j) → (-2147483648) ≤ y ∧ y ≤ 2147483647 → Z (.inl (some (vi y)), Wd P Q P P c2, 0, 0)) : Wp sc (d + 67) 202 155 [(0, .ref 41)] [] (Wd P Q P P c) 0 0 Z := by
  have hP := iv_P hI
  have hQ := iv_Q hI
  have h_1 := ir_41_35 hI
  have h_2 := ir_41_34 hI
  refine q_aload_n c_202_155 rfl (q_dup c_202_156 rfl (v_gi (z := 35) (v := c 41 35) c_202_157 kf_8_182 rfl (Nat.le_of_ble_eq_true rfl) rfl rfl rfl (q_iconst c_202_160 (v_iadd (v := c 41 35 + 1) c_202_161 rfl (v_pi (z := 35) c_202_162 kf_8_182 rfl (Nat.le_of_ble_eq_true rfl) rfl rfl rfl (of_decide_eq_true rfl) (q_aload_n c_202_165 rfl ?_))))))
  have hI_3 := iw_41_35 (v := c 41 35 + 1) hI ⟨(rgp_l h_1.1 (of_decide_eq_true rfl)), (q_f67065af8 hq0)⟩
  refine v_cv c_202_166 km_8_317 rfl rfl (Nat.le_of_ble_eq_true rfl) ⟨⟨rfl, rfl⟩, Nat.le_of_ble_eq_true rfl, rfl⟩ (Nat.le_of_ble_eq_true rfl) (Nat.le_of_ble_eq_true rfl) (s_186 hI_3 (fun c_4 hI_5 hF_6 => (bk_inl (q_aload_n c_202_169 rfl (q_iconst c_202_170 (v_pi (z := 37) c_202_171 kf_8_320 rfl (Nat.le_of_ble_eq_true rfl) rfl rfl rfl (of_decide_eq_true rfl) (q_aload_n c_202_174 rfl (q_iconst c_202_175 (v_pi (z := 38) c_202_176 kf_8_323 rfl (Nat.le_of_ble_eq_true rfl) rfl rfl rfl (of_decide_eq_true rfl) ?_)))))))))
  refine q_aload_n c_202_179 rfl (q_iconst c_202_180 (v_pi (z := 39) c_202_181 kf_8_326 rfl (Nat.le_of_ble_eq_true rfl) rfl rfl rfl (of_decide_eq_true rfl) (q_aload_n c_202_184 rfl (q_iconst c_202_185 (q_aload_n c_202_186 rfl ?_)))))
  have kn_7 : Hid (c_4 41 34 = c 41 34) := (hF_6 41 34 (fun h => absurd h (nn rfl))).trans (up_n (ni rfl))
  refine v_gi (z := 34) (v := c 41 34) c_202_187 kf_8_284 rfl (Nat.le_of_ble_eq_true rfl) rfl rfl ((up_n (ni rfl)).trans ((up_n (ni rfl)).trans ((up_n (ni rfl)).trans (hid kn_7)))) ?_
  have hI_8 := iw_41_37 (v := 0) hI_5 ⟨of_decide_eq_true rfl, of_decide_eq_true rfl⟩
  have hI_9 := iw_41_38 (v := 0) hI_8 ⟨of_decide_eq_true rfl, of_decide_eq_true rfl⟩
  have hI_10 := iw_41_39 (v := 0) hI_9 ⟨of_decide_eq_true rfl, of_decide_eq_true rfl⟩
  have h_11 : (up (up (up c_4 41 37 0) 41 38 0) 41 39 0) 41 37 = 0 := ((up_n (ni rfl)).trans ((up_n (ni rfl)).trans (up_e rfl)))
  refine v_cv c_202_190 km_8_329 rfl rfl (Nat.le_of_ble_eq_true rfl) ⟨⟨rfl, rfl⟩, Nat.le_of_ble_eq_true rfl, rfl⟩ (Nat.le_of_ble_eq_true rfl) (Nat.le_of_ble_eq_true rfl) (r_201 (t := 0) (a2 := c 41 34) hI_10 (show 0 ≤ 0 ∧ 0 ≤ 50 from by omega) (show 0 ≤ c 41 34 ∧ c 41 34 ≤ 250 from h_2) (fun c_12 hI_13 hF_14 h_15 => (bk_inl ?_)))
  have h_16 := ir_41_37 hI_13
  refine q_aload_n c_202_193 rfl (q_aload_n c_202_194 rfl (v_gr (t := 59) c_202_195 kf_8_68 rfl (Nat.le_of_ble_eq_true rfl) rfl (q_aload_n c_202_198 rfl (v_gr (t := 58) c_202_199 kf_8_65 rfl (Nat.le_of_ble_eq_true rfl) rfl (v_bip c_202_202 (of_decide_eq_true rfl) (v_cv c_202_204 km_8_169 rfl rfl (Nat.le_of_ble_eq_true rfl) ⟨⟨rfl, rfl⟩, Nat.le_of_ble_eq_true rfl, rfl⟩ (Nat.le_of_ble_eq_true rfl) (Nat.le_of_ble_eq_true rfl) (s_148 (f := 59) (t := 58) (nf := 37) (nt := 37) (n := 37) rfl rfl (of_decide_eq_true rfl) (of_decide_eq_true rfl) (of_decide_eq_true rfl) (of_decide_eq_true rfl) (of_decide_eq_true rfl) (by omega) (bk_inl ?_))))))))
  refine q_aload_n c_202_207 rfl (q_aload_n c_202_208 rfl ?_)
  have h_17 := ir_41_39 hI_13
  refine v_gi (z := 39) (v := c_12 41 39) c_202_209 kf_8_326 rfl (Nat.le_of_ble_eq_true rfl) rfl rfl (upc_c (by omega)) (v_pi (z := 36) c_202_212 kf_8_188 rfl (Nat.le_of_ble_eq_true rfl) rfl rfl rfl (of_decide_eq_true rfl) (q_aload_n c_202_215 rfl ?_))
  have h_18 := ir_41_38 hI_13
  refine v_gi (z := 38) (v := c_12 41 38) c_202_216 kf_8_323 rfl (Nat.le_of_ble_eq_true rfl) rfl rfl ((up_n (ni rfl)).trans (upc_c (by omega))) (q_iret c_202_219 rfl ?_)
  have hI_19 := cp_59_58 hI_13
  have hI_20 := iw_41_36 (v := c_12 41 39) hI_19 ⟨h_17.1, h_17.2⟩
  exact K (up (upc c_12 59 0 58 0 37) 41 36 (c_12 41 39)) (c_12 41 38) hI_20 (fun a j hm => (up_b (Decidable.or_iff_not_imp_left.mpr (fun h1 h2 => hm (Or.inr (Or.inl ⟨Decidable.not_not.mp h1, h2⟩))))).trans ((upc_c (fun h => hm (Or.inr (Or.inr (Or.inr (Or.inr (Or.inr (Or.inl h)))))))).trans ((hF_14 a j (qv_c2f2b1db7 hm)).trans ((up_b (Decidable.or_iff_not_imp_left.mpr (fun h1 h2 => hm (Or.inr (Or.inr (Or.inr (Or.inr (Or.inl ⟨Decidable.not_not.mp h1, h2⟩)))))))).trans ((up_b (Decidable.or_iff_not_imp_left.mpr (fun h1 h2 => hm (Or.inr (Or.inr (Or.inr (Or.inl ⟨Decidable.not_not.mp h1, h2⟩))))))).trans ((up_b (Decidable.or_iff_not_imp_left.mpr (fun h1 h2 => hm (Or.inr (Or.inr (Or.inl ⟨Decidable.not_not.mp h1, h2⟩)))))).trans ((hF_6 a j (fun h => hm (Or.inr (Or.inr (Or.inr (Or.inr (Or.inr (Or.inr (Or.inl h))))))))).trans (up_b (Decidable.or_iff_not_imp_left.mpr (fun h1 h2 => hm (Or.inl ⟨Decidable.not_not.mp h1, h2⟩))))))))))) h_18
set_option maxRecDepth 100000 in
set_option maxHeartbeats 4000000 in
theorem s_202b_l {sc : List Int32} {d P Q : Nat} {c : ME} {Z : AR → Prop} (hI : Iv 60 (-1) P Q c) (hq0 : (c 41 35 ≤ 15)) (hq1 : (((c 41 34) % 5) = 0)) (hq2 : (c 41 34 ≤ 250)) (hq3 : ∀ j : Int, rs 60 j → c 60 j + c 60 (j + 1) + c 60 (j + 2) + c 60 (j + 3) ≤ 9999) (K : ∀ (c2 : ME) (y : Int), Iv 0 (-1) P Q c2 → (∀ (a : Nat) (j : Int), ¬ ((a = 41 ∧ j = 35) ∨ (a = 41 ∧ j = 36) ∨ (a = 41 ∧ j = 37) ∨ (a = 41 ∧ j = 38) ∨ (a = 41 ∧ j = 39) ∨ a = 58 ∨ a = 59 ∨ a = 54 ∨ a = 55 ∨ a = 60) → c2 a j = c a j) → (-2147483648) ≤ y ∧ y ≤ 2147483647 → Z (.inl (some (vi y)), Wd P Q P P c2, 0, 0)) : ∀ n : Nat, (∀ (c2 : ME) (v3 : Int), Iv 60 (-1) P Q c2 → (∀ (a : Nat) (j : Int), ¬ (a = 60) → c2 a j = c a j) → 0 ≤ v3 ∧ v3 ≤ 37 → (∀ j : Int, 0 ≤ j → j < v3 → c2 60 (37 * c 41 35 + j) = c 58 j) → (∀ j : Int, ¬ (37 * c 41 35 ≤ j ∧ j < 37 * c 41 35 + 37) → c2 60 j = c 60 j) → 75 - 2 * v3 < (n : Int) → Wp sc (d + 67) 202 123 [(0, .ref 41), (3, vi v3)] [] (Wd P Q P P c2) 0 0 Z) := by
  intro n
  induction n with
  | zero => exact (by intro c2 v3 hI2 hF hv3 hx0 hx1 hm9; have hP := iv_P hI; have hQ := iv_Q hI; exfalso; omega)
  | succ n ih =>
    have hP := iv_P hI
    have hQ := iv_Q hI
    intro c2 v3 hI2 hF hv3 hx0 hx1 hm9
    have h_1 := ir_41_35 hI
    have h_2 := ir_41_34 hI
    refine q_iload_n c_202_123 rfl (v_bip c_202_124 (of_decide_eq_true rfl) ?_)
    by_cases h_3 : v3 ≥ 37
    · refine v_ic_ge_t (t := 155) c_202_126 rfl ⟨of_decide_eq_true rfl, h_3, (ler hv3.2 rfl)⟩ (Wp_ls [(0, .ref 41)] (lsub_cons rfl lsub_nil) ?_)
      have hc9 : Iv 0 (-1) P Q c2 := iv_close hI2 (fun j hj => by
        by_cases q9 : 37 * c 41 35 ≤ j ∧ j < 37 * c 41 35 + 37
        · rw [ri_60] at hj
          have h8 : j / 37 = c 41 35 := by omega
          obtain ⟨i9, hi9⟩ : ∃ i : Int, j = 37 * c 41 35 + i := ⟨j - 37 * c 41 35, by omega⟩
          subst hi9
          rw [show 37 * c 41 35 + i9 + 1 = 37 * c 41 35 + (i9 + 1) by omega, show 37 * c 41 35 + i9 + 2 = 37 * c 41 35 + (i9 + 2) by omega, show 37 * c 41 35 + i9 + 3 = 37 * c 41 35 + (i9 + 3) by omega, hx0 i9 (by omega) (by omega), hx0 (i9 + 1) (by omega) (by omega), hx0 (i9 + 2) (by omega) (by omega), hx0 (i9 + 3) (by omega) (by omega)]
          exact iv_r hI 58 i9 (by rw [ri_58]; omega) (by omega)
        · have hj9 := hj
          rw [ri_60] at hj9
          have h7 : ¬ j / 37 = c 41 35 := by omega
          rw [hx1 j q9, hx1 (j + 1) (by omega), hx1 (j + 2) (by omega), hx1 (j + 3) (by omega)]
          exact hq3 j hj)
      exact s_202c hc9 (by rw [hF 41 35 (by omega)]; omega) (by rw [hF 41 34 (by omega)]; omega) (by rw [hF 41 34 (by omega)]; omega) (fun c9 y9 hI9 hF9 hy9 => K c9 y9 hI9 (fun a j hm => (hF9 a j (by omega)).trans (hF a j (by omega))) hy9)
    · refine v_ic_ge_f (t := 155) c_202_126 rfl ⟨(lel hv3.1 rfl), (Int.not_le.mp h_3), of_decide_eq_true rfl⟩ (q_aload_n c_202_129 rfl (v_gr (t := 60) c_202_130 kf_8_71 rfl (Nat.le_of_ble_eq_true rfl) rfl (v_bip c_202_133 (of_decide_eq_true rfl) (q_aload_n c_202_135 rfl ?_))))
      have kn_4 : Hid (c2 41 35 = c 41 35) := hF 41 35 (fun h => absurd h (nn rfl))
      refine v_gi (z := 35) (v := c 41 35) c_202_136 kf_8_182 rfl (Nat.le_of_ble_eq_true rfl) rfl rfl (hid kn_4) (v_imul (v := 37 * c 41 35) c_202_139 (by omega) (q_iload_n c_202_140 rfl (v_iadd (v := 37 * c 41 35 + v3) c_202_141 rfl (q_aload_n c_202_142 rfl (v_gr (t := 58) c_202_143 kf_8_65 rfl (Nat.le_of_ble_eq_true rfl) rfl (q_iload_n c_202_146 rfl ?_))))))
      have h_5 := ir_58 hI v3
      have kn_6 : Hid (c2 58 v3 = c 58 v3) := hF 58 v3 (fun h => absurd h (nn rfl))
      refine v_ia (v := c 58 v3) c_202_147 rfl (of_decide_eq_true rfl) (of_decide_eq_true rfl) ⟨hv3.1, (q_3cc4a238e h_3)⟩ (hid kn_6) (v_is c_202_148 rfl (of_decide_eq_true rfl) (of_decide_eq_true rfl) ⟨(q_6c1724e14 h_1 hv3), (q_d8bb91acd h_3 hq0)⟩ (v_iinc (v := v3 + 1) c_202_149 rfl (Nat.le_of_ble_eq_true rfl) rfl (q_goto (t := 123) c_202_152 rfl ?_)))
      have hI_7 := iw_60 (j := 37 * c 41 35 + v3) (v := c 58 v3) hI2 (fun h9 => ir_58_g hI (by omega)) ⟨by omega, by omega⟩
      refine Wp_ls [(0, .ref 41), (3, vi (v3 + 1))] (lsub_cons rfl (lsub_cons rfl lsub_nil)) ?_
      have hr_8 : ∀ j : Int, 0 ≤ j → j < v3 + 1 → (up c2 60 (37 * c 41 35 + v3) (c 58 v3)) 60 (37 * c 41 35 + j) = c 58 j := by
        intro j hj1 hj2
        by_cases e9 : j = v3
        · rw [show (up c2 60 (37 * c 41 35 + v3) (c 58 v3)) 60 (37 * c 41 35 + j) = c 58 v3 from up_e (by omega), e9]
        · rw [show (up c2 60 (37 * c 41 35 + v3) (c 58 v3)) 60 (37 * c 41 35 + j) = c2 60 (37 * c 41 35 + j) from up_n (by omega)]; exact hx0 j hj1 (by omega)
      have hr_9 : ∀ j : Int, ¬ (37 * c 41 35 ≤ j ∧ j < 37 * c 41 35 + 37) → (up c2 60 (37 * c 41 35 + v3) (c 58 v3)) 60 j = c 60 j := by
        intro j hj1
        rw [show (up c2 60 (37 * c 41 35 + v3) (c 58 v3)) 60 j = c2 60 j from up_n (by omega)]; exact hx1 j hj1
      exact ih (up c2 60 (37 * c 41 35 + v3) (c 58 v3)) (v3 + 1) hI_7 (fun a j hm => (up_b (Decidable.or_iff_not_imp_left.mpr (fun h1 h2 => hm (Decidable.not_not.mp h1)))).trans (hF a j hm)) ⟨(rgp_l hv3.1 (of_decide_eq_true rfl)), (q_6a0ddf4b6 h_3)⟩ hr_8 hr_9 (by omega)
set_option maxRecDepth 100000 in
set_option maxHeartbeats 4000000 in
theorem s_202b {sc : List Int32} {d P Q : Nat} {c : ME} {Z : AR → Prop} (hI : Iv 60 (-1) P Q c) (hq0 : (c 41 35 ≤ 15)) (hq1 : (((c 41 34) % 5) = 0)) (hq2 : (c 41 34 ≤ 250)) (hq3 : ∀ j : Int, rs 60 j → c 60 j + c 60 (j + 1) + c 60 (j + 2) + c 60 (j + 3) ≤ 9999) (K : ∀ (c2 : ME) (y : Int), Iv 0 (-1) P Q c2 → (∀ (a : Nat) (j : Int), ¬ ((a = 41 ∧ j = 35) ∨ (a = 41 ∧ j = 36) ∨ (a = 41 ∧ j = 37) ∨ (a = 41 ∧ j = 38) ∨ (a = 41 ∧ j = 39) ∨ a = 58 ∨ a = 59 ∨ a = 54 ∨ a = 55 ∨ a = 60) → c2 a j = c a j) → (-2147483648) ≤ y ∧ y ≤ 2147483647 → Z (.inl (some (vi y)), Wd P Q P P c2, 0, 0)) : Wp sc (d + 67) 202 121 [(0, .ref 41)] [] (Wd P Q P P c) 0 0 Z := by
  have hP := iv_P hI
  have hQ := iv_Q hI
  have h_10 := ir_41_35 hI
  have h_11 := ir_41_34 hI
  refine q_iconst c_202_121 (q_istore_n c_202_122 (Nat.le_of_ble_eq_true rfl) (Wp_ls [(0, .ref 41), (3, vi 0)] (lsub_cons rfl (lsub_cons rfl lsub_nil)) ?_))
  have hr_12 : ∀ j : Int, 0 ≤ j → j < 0 → c 60 (37 * c 41 35 + j) = c 58 j := by
    intro j hj1 hj2
    omega
  have hr_13 : ∀ j : Int, ¬ (37 * c 41 35 ≤ j ∧ j < 37 * c 41 35 + 37) → c 60 j = c 60 j := by
    intro j hj1
    rfl
  exact (s_202b_l (sc := sc) (d := d) hI hq0 hq1 hq2 hq3 K 78) c 0 hI (fun a j hm => rfl) ⟨of_decide_eq_true rfl, of_decide_eq_true rfl⟩ hr_12 hr_13 (by omega)
set_option maxRecDepth 100000 in
set_option maxHeartbeats 4000000 in
theorem s_202_l {sc : List Int32} {d P Q : Nat} {c : ME} {a1 : Int} {Z : AR → Prop} (hI : Iv 0 (-1) P Q c) (ha1 : (-2147483648) ≤ a1 ∧ a1 ≤ 2147483647) (K : ∀ (c2 : ME) (y : Int), Iv 0 (-1) P Q c2 → (∀ (a : Nat) (j : Int), ¬ ((a = 41 ∧ j = 0) ∨ a = 42 ∨ (a = 41 ∧ j = 2) ∨ (a = 41 ∧ j = 3) ∨ (a = 41 ∧ j = 4) ∨ (a = 41 ∧ j = 5) ∨ (a = 41 ∧ j = 6) ∨ (a = 41 ∧ j = 7) ∨ (a = 41 ∧ j = 8) ∨ (a = 41 ∧ j = 34) ∨ a = 56 ∨ a = 57 ∨ a = 60 ∨ (a = 41 ∧ j = 35) ∨ (a = 41 ∧ j = 36) ∨ (a = 41 ∧ j = 37) ∨ (a = 41 ∧ j = 38) ∨ (a = 41 ∧ j = 39) ∨ a = 58 ∨ a = 59 ∨ a = 54 ∨ a = 55) → c2 a j = c a j) → (-2147483648) ≤ y ∧ y ≤ 2147483647 → ((c2 41 2 = 0 ∧ a1 ≥ 0 ∧ a1 ≤ c 41 2 ∧ a1 ≤ 150) ∨ (c2 41 2 = c 41 2 ∧ a1 < 0) ∨ (c2 41 2 = c 41 2 ∧ a1 > c 41 2) ∨ (c2 41 2 = c 41 2 ∧ a1 > 150)) → Z (.inl (some (vi y)), Wd P Q P P c2, 0, 0)) : ∀ n : Nat, (∀ (c2 : ME), Iv 0 (-1) P Q c2 → (∀ (a : Nat) (j : Int), ¬ ((a = 41 ∧ j = 0) ∨ a = 42 ∨ (a = 41 ∧ j = 2) ∨ (a = 41 ∧ j = 3) ∨ (a = 41 ∧ j = 4) ∨ (a = 41 ∧ j = 5) ∨ (a = 41 ∧ j = 6) ∨ (a = 41 ∧ j = 7) ∨ (a = 41 ∧ j = 8) ∨ (a = 41 ∧ j = 34) ∨ a = 56 ∨ a = 57 ∨ a = 60 ∨ (a = 41 ∧ j = 35) ∨ (a = 41 ∧ j = 36) ∨ (a = 41 ∧ j = 37) ∨ (a = 41 ∧ j = 38) ∨ (a = 41 ∧ j = 39) ∨ a = 58 ∨ a = 59 ∨ a = 54 ∨ a = 55) → c2 a j = c a j) → ((c2 41 5 = (-1))) → ((c2 41 4 ≤ c2 41 3)) → ((c2 41 3 ≤ 150)) → ((3 * c2 41 34 ≤ 5 * c2 41 4)) → ((((c2 41 34) % 5) = 0)) → ((c2 41 7 = 0)) → ((c2 41 35 ≤ 15)) → ((c2 41 4 ≥ 0)) → ((c2 41 34 ≥ 0)) → ((c2 41 34 ≤ 250)) → (Ap c2 56 0 (c2 41 34)) → ((c2 41 2 = 0 ∧ a1 ≥ 0 ∧ a1 ≤ c 41 2 ∧ a1 ≤ 150)) → 1211 - 2 * c2 41 4 < (n : Int) → Wp sc (d + 67) 202 75 [(0, .ref 41), (1, vi a1)] [] (Wd P Q P P c2) 0 0 Z) := by
  intro n
  induction n with
  | zero => exact (by intro c2 hI2 hF hx0 hx1 hx2 hx3 hx4 hx5 hx6 hx7 hx8 hx9 hx10 hx11 hm9; have hP := iv_P hI; have hQ := iv_Q hI; have h_74 := ir_41_4 hI2; exfalso; omega)
  | succ n ih =>
    have hP := iv_P hI
    have hQ := iv_Q hI
    intro c2 hI2 hF hx0 hx1 hx2 hx3 hx4 hx5 hx6 hx7 hx8 hx9 hx10 hx11 hm9
    have h_1 := ir_41_5 hI2
    have h_2 := ir_41_3 hI2
    have h_3 := ir_41_4 hI2
    have h_4 := ir_41_34 hI2
    have h_5 := ir_41_7 hI2
    have h_6 := ir_41_35 hI2
    have h_7 := ir_41_2 hI
    have h_8 := ir_41_2 hI2
    refine q_aload_n c_202_75 rfl (v_cv c_202_76 km_8_211 rfl rfl (Nat.le_of_ble_eq_true rfl) ⟨⟨rfl, rfl⟩, Nat.le_of_ble_eq_true rfl, rfl⟩ (Nat.le_of_ble_eq_true rfl) (Nat.le_of_ble_eq_true rfl) (s_162 hI2 (fun c_9 y_12 hI_10 hF_11 hy_12 h_13 h_14 h_15 => (bk_inl ?_))))
    have h_16 := ir_41_4 hI_10
    by_cases h_17 : y_12 = 0
    · refine v_if_eq_t (t := 89) c_202_79 rfl h_17 (q_aload_n c_202_89 rfl (q_iconst c_202_90 (v_cv c_202_91 km_8_232 rfl rfl (Nat.le_of_ble_eq_true rfl) ⟨⟨rfl, rfl⟩, Nat.le_of_ble_eq_true rfl, rfl⟩ (Nat.le_of_ble_eq_true rfl) (Nat.le_of_ble_eq_true rfl) (s_164 (a1 := 0) hI_10 (show (-2147483648) ≤ 0 ∧ 0 ≤ 2147483647 from ⟨of_decide_eq_true rfl, of_decide_eq_true rfl⟩) (fun c_18 y_21 hI_19 hF_20 hy_21 => (bk_inl (q_istore_n c_202_94 (Nat.le_of_ble_eq_true rfl) (q_aload_n c_202_95 rfl ?_))))))))
      have kn_22 : Hid (c_9 41 5 = c2 41 5) := hF_11 41 5 (fun h => absurd h.2 (ni rfl))
      have kn_23 : Hid (c_18 41 5 = c2 41 5) := (hF_20 41 5 (fun h => absurd h.2 (ni rfl))).trans (hid kn_22)
      refine v_gi (z := 5) (v := c2 41 5) c_202_96 kf_8_102 rfl (Nat.le_of_ble_eq_true rfl) rfl rfl (hid kn_23) (q_iconst c_202_99 (v_ic_eq_t (t := 105) c_202_100 rfl (by first | (clear ha1 hx1 hx2 hx3 hx4 hx5 hx6 hx7 hx8 hx9 hx11 h_1 h_2 h_3 h_4 h_5 h_6 h_7 h_8 h_16 h_13 h_17 h_14 h_15; omega) | omega) (q_aload_n c_202_105 rfl (q_aload_n c_202_106 rfl (v_gr (t := 56) c_202_107 kf_8_59 rfl (Nat.le_of_ble_eq_true rfl) rfl (q_aload_n c_202_110 rfl (v_gr (t := 57) c_202_111 kf_8_62 rfl (Nat.le_of_ble_eq_true rfl) rfl ?_)))))))
      refine q_aload_n c_202_114 rfl ?_
      have kn_24 : Hid (c_9 41 34 = c2 41 34) := hF_11 41 34 (fun h => absurd h.2 (ni rfl))
      have kn_25 : Hid (c_18 41 34 = c2 41 34) := (hF_20 41 34 (fun h => absurd h.2 (ni rfl))).trans (hid kn_24)
      refine v_gi (z := 34) (v := c2 41 34) c_202_115 kf_8_284 rfl (Nat.le_of_ble_eq_true rfl) rfl rfl (hid kn_25) (v_cv c_202_118 km_8_169 rfl rfl (Nat.le_of_ble_eq_true rfl) ⟨⟨rfl, rfl⟩, Nat.le_of_ble_eq_true rfl, rfl⟩ (Nat.le_of_ble_eq_true rfl) (Nat.le_of_ble_eq_true rfl) (s_148 (f := 56) (t := 57) (nf := 250) (nt := 250) (n := c2 41 34) rfl rfl (of_decide_eq_true rfl) (of_decide_eq_true rfl) (of_decide_eq_true rfl) (of_decide_eq_true rfl) (of_decide_eq_true rfl) (by omega) (bk_inl ?_)))
      have hI_26 := cp_56_57 (n := c2 41 34) hI_19 (by omega) (ap_fr (c := c2) (hi := c2 41 34) hx10 (by omega) rfl (by omega) (fun j h1 h2 => (hF_20 56 j (fun h => absurd h.1 (nn rfl))).trans (hF_11 56 j (fun h => absurd h.1 (nn rfl)))))
      have kn_27 : Hid (c_9 41 35 = c2 41 35) := hF_11 41 35 (fun h => absurd h.2 (ni rfl))
      have kn_28 : Hid (c_18 41 35 = c2 41 35) := (hF_20 41 35 (fun h => absurd h.2 (ni rfl))).trans (hid kn_27)
      have hw35 : (upc c_18 56 0 57 0 (c2 41 34)) 41 35 = c2 41 35 := ((upc_c (by omega)).trans (hid kn_28))
      have hw34 : (upc c_18 56 0 57 0 (c2 41 34)) 41 34 = c2 41 34 := ((upc_c (by omega)).trans (hid kn_25))
      have kn_29 : Hid (c_9 41 2 = c2 41 2) := hF_11 41 2 (fun h => absurd h.2 (ni rfl))
      have kn_30 : Hid (c_18 41 2 = c2 41 2) := (hF_20 41 2 (fun h => absurd h.2 (ni rfl))).trans (hid kn_29)
      have hz9 : (upc c_18 56 0 57 0 (c2 41 34)) 41 2 = 0 := (((upc_c (by omega)).trans (hid kn_30))).trans (by omega)
      refine Wp_ls [(0, .ref 41)] (lsub_cons rfl lsub_nil) ?_
      exact s_202b (iv_open hI_26) (by omega) (by omega) (by omega) (fun j hj => iv_r hI_26 60 j hj (by omega)) (fun c9 y9 hI9 hF9 hy9 => K c9 y9 hI9 (fun a j hm => (hF9 a j (qv_c507ff00a hm)).trans ((upc_c (fun h => hm (Or.inr (Or.inr (Or.inr (Or.inr (Or.inr (Or.inr (Or.inr (Or.inr (Or.inr (Or.inr (Or.inr (Or.inl h)))))))))))))).trans ((hF_20 a j (qv_c40515afb hm)).trans ((hF_11 a j (fun h => hm (Or.inr (Or.inr (Or.inr (Or.inr (Or.inl h))))))).trans (hF a j hm))))) hy9 (Or.inl ⟨(hF9 41 2 (by omega)).trans hz9, by omega, by omega, by omega⟩))
    · refine v_if_eq_f (t := 89) c_202_79 rfl ⟨h_17, ⟨(lel hy_12.1 rfl), (ler hy_12.2 rfl)⟩, of_decide_eq_true rfl, of_decide_eq_true rfl⟩ (q_aload_n c_202_82 rfl ?_)
      have kn_31 : Hid (c_9 41 5 = c2 41 5) := hF_11 41 5 (fun h => absurd h.2 (ni rfl))
      have h_32 : c_9 41 5 = c2 41 5 := (hid kn_31)
      have kn_33 : Hid (c_9 41 3 = c2 41 3) := hF_11 41 3 (fun h => absurd h.2 (ni rfl))
      have h_34 : c_9 41 3 = c2 41 3 := (hid kn_33)
      have kn_35 : Hid (c_9 41 34 = c2 41 34) := hF_11 41 34 (fun h => absurd h.2 (ni rfl))
      have h_36 : c_9 41 34 = c2 41 34 := (hid kn_35)
      have kn_37 : Hid (c_9 41 7 = c2 41 7) := hF_11 41 7 (fun h => absurd h.2 (ni rfl))
      have h_38 : c_9 41 7 = c2 41 7 := (hid kn_37)
      have h_39 : c_9 41 34 = c2 41 34 := (hid kn_35)
      refine v_cv c_202_83 km_8_305 rfl rfl (Nat.le_of_ble_eq_true rfl) ⟨⟨rfl, rfl⟩, Nat.le_of_ble_eq_true rfl, rfl⟩ (Nat.le_of_ble_eq_true rfl) (Nat.le_of_ble_eq_true rfl) (r_185 (o := 0) hI_10 (show 0 ≤ 0 ∧ 0 ≤ 6 from by omega) (by first | (clear ha1 hx1 hx2 hx3 hx4 hx5 hx6 hx7 hx8 hx9 hx11 h_1 h_2 h_3 h_4 h_5 h_6 h_7 h_8 h_16 h_13 h_14 h_15 h_17; omega) | omega) (by first | (clear ha1 hx0 hx2 hx3 hx4 hx5 hx6 hx7 hx8 hx9 hx11 h_1 h_2 h_3 h_4 h_5 h_6 h_7 h_8 h_16 h_13 h_15 h_17; omega) | omega) (by first | (clear ha1 hx0 hx1 hx3 hx4 hx5 hx6 hx7 hx8 hx9 hx11 h_1 h_2 h_3 h_4 h_5 h_6 h_7 h_8 h_16 h_13 h_14 h_15 h_17; omega) | omega) (by first | (clear ha1 hx0 hx1 hx2 hx4 hx5 hx6 hx7 hx8 hx9 hx11 h_1 h_2 h_3 h_4 h_5 h_6 h_7 h_8 h_16 h_14 h_15 h_17; omega) | omega) (by first | (clear ha1 hx0 hx1 hx2 hx3 hx5 hx6 hx7 hx8 hx9 hx11 h_1 h_2 h_3 h_4 h_5 h_6 h_7 h_8 h_16 h_13 h_14 h_15 h_17; omega) | omega) (by first | (clear ha1 hx0 hx1 hx2 hx3 hx4 hx6 hx7 hx8 hx9 hx11 h_1 h_2 h_3 h_4 h_5 h_6 h_7 h_8 h_16 h_13 h_14 h_15 h_17; omega) | omega) (fun c_40 hI_41 hF_42 h_43 h_44 h_45 h_46 h_47 h_48 hA_49 => (bk_inl ?_)))
      have h_50 := ir_41_4 hI_41
      have h_51 := ir_41_7 hI_41
      have h_52 := ir_41_34 hI_41
      have h_53 := ir_41_5 hI_41
      refine q_goto (t := 68) c_202_86 rfl (q_aload_n c_202_68 rfl (v_cv c_202_69 km_8_131 rfl rfl (Nat.le_of_ble_eq_true rfl) ⟨⟨rfl, rfl⟩, Nat.le_of_ble_eq_true rfl, rfl⟩ (Nat.le_of_ble_eq_true rfl) (Nat.le_of_ble_eq_true rfl) (q_aload_n c_152_0 rfl (v_gi (z := 5) (v := c_40 41 5) c_152_1 kf_8_102 rfl (Nat.le_of_ble_eq_true rfl) rfl rfl rfl (q_iconst c_152_4 ?_)))))
      by_cases h_54 : c_40 41 5 ≠ (-1)
      · refine v_ic_ne_t (t := 12) c_152_5 rfl ⟨h_54, ⟨(lel h_53.1 rfl), (ler h_53.2 rfl)⟩, of_decide_eq_true rfl, of_decide_eq_true rfl⟩ (q_iconst c_152_12 (v_zret c_152_13 rfl (of_decide_eq_true rfl) (bk_inl (v_if_eq_t (t := 89) c_202_72 rfl (of_decide_eq_true rfl) (q_aload_n c_202_89 rfl (q_iconst c_202_90 (v_cv c_202_91 km_8_232 rfl rfl (Nat.le_of_ble_eq_true rfl) ⟨⟨rfl, rfl⟩, Nat.le_of_ble_eq_true rfl, rfl⟩ (Nat.le_of_ble_eq_true rfl) (Nat.le_of_ble_eq_true rfl) (s_164 (a1 := 0) hI_41 (show (-2147483648) ≤ 0 ∧ 0 ≤ 2147483647 from ⟨of_decide_eq_true rfl, of_decide_eq_true rfl⟩) (fun c_55 y_58 hI_56 hF_57 hy_58 => ?_)))))))))
        refine bk_inl (q_istore_n c_202_94 (Nat.le_of_ble_eq_true rfl) (q_aload_n c_202_95 rfl ?_))
        have kn_59 : Hid (c_55 41 5 = c_40 41 5) := hF_57 41 5 (fun h => absurd h.2 (ni rfl))
        refine v_gi (z := 5) (v := c_40 41 5) c_202_96 kf_8_102 rfl (Nat.le_of_ble_eq_true rfl) rfl rfl (hid kn_59) (q_iconst c_202_99 (v_ic_eq_f (t := 105) c_202_100 rfl ⟨(q_bd023a79f h_53 h_54), ⟨(lel h_53.1 rfl), (ler h_53.2 rfl)⟩, of_decide_eq_true rfl, of_decide_eq_true rfl⟩ (q_iload_n c_202_103 rfl (q_iret c_202_104 rfl ?_))))
        have kn_60 : Hid (c_9 41 2 = c2 41 2) := hF_11 41 2 (fun h => absurd h.2 (ni rfl))
        have kn_61 : Hid (c_40 41 2 = c2 41 2) := (hF_42 41 2 (fun q => q.elim (fun h => absurd h.2 (ni rfl)) (fun q => q.elim (fun h => absurd h.2 (ni rfl)) (fun q => q.elim (fun h => absurd h.2 (ni rfl)) (fun q => q.elim (fun h => absurd h.2 (ni rfl)) (fun q => q.elim (fun h => absurd h.2 (ni rfl)) (fun h => absurd h.1 (nn rfl)))))))).trans (hid kn_60)
        have kn_62 : Hid (c_55 41 2 = c2 41 2) := (hF_57 41 2 (fun h => absurd h.2 (ni rfl))).trans (hid kn_61)
        have h_63 : c_55 41 2 = c2 41 2 := (hid kn_62)
        exact K c_55 y_58 hI_56 (fun a j hm => (hF_57 a j (qv_c40515afb hm)).trans ((hF_42 a j (qv_573d069e6 hm)).trans ((hF_11 a j (fun h => hm (Or.inr (Or.inr (Or.inr (Or.inr (Or.inl h))))))).trans (hF a j hm)))) hy_58 (Or.inl ⟨by first | (clear ha1 hx0 hx1 hx2 hx3 hx4 hx5 hx6 hx7 hx8 hx9 h_1 h_2 h_3 h_4 h_5 h_6 h_7 h_8 h_16 h_13 h_50 h_43 h_51 h_44 h_52 h_45 h_53 h_47 h_48 h_14 h_15 h_17 h_46 h_54; omega) | omega, by first | (clear ha1 hx0 hx1 hx2 hx3 hx4 hx5 hx6 hx7 hx8 hx9 h_1 h_2 h_3 h_4 h_5 h_6 h_7 h_8 h_16 h_13 h_50 h_43 h_51 h_44 h_52 h_45 h_53 h_47 h_48 h_14 h_15 h_17 h_46 h_54; omega) | omega, by first | (clear ha1 hx0 hx1 hx2 hx3 hx4 hx5 hx6 hx7 hx8 hx9 h_1 h_2 h_3 h_4 h_5 h_6 h_7 h_8 h_16 h_13 h_50 h_43 h_51 h_44 h_52 h_45 h_53 h_47 h_48 h_14 h_15 h_17 h_46 h_54; omega) | omega, by first | (clear ha1 hx0 hx1 hx2 hx3 hx4 hx5 hx6 hx7 hx8 hx9 h_1 h_2 h_3 h_4 h_5 h_6 h_7 h_8 h_16 h_13 h_50 h_43 h_51 h_44 h_52 h_45 h_53 h_47 h_48 h_14 h_15 h_17 h_46 h_54; omega) | omega⟩)
      · refine v_ic_ne_f (t := 12) c_152_5 rfl (Decidable.not_not.mp h_54) (q_iconst c_152_8 (q_goto (t := 13) c_152_9 rfl (v_zret c_152_13 rfl (of_decide_eq_true rfl) (bk_inl (v_if_eq_f (t := 89) c_202_72 rfl (of_decide_eq_true rfl) (Wp_ls [(0, .ref 41), (1, vi a1)] (lsub_cons rfl (lsub_cons rfl lsub_nil)) ?_))))))
        have kn_64 : Hid (c_9 41 2 = c2 41 2) := hF_11 41 2 (fun h => absurd h.2 (ni rfl))
        have kn_65 : Hid (c_40 41 2 = c2 41 2) := (hF_42 41 2 (fun q => q.elim (fun h => absurd h.2 (ni rfl)) (fun q => q.elim (fun h => absurd h.2 (ni rfl)) (fun q => q.elim (fun h => absurd h.2 (ni rfl)) (fun q => q.elim (fun h => absurd h.2 (ni rfl)) (fun q => q.elim (fun h => absurd h.2 (ni rfl)) (fun h => absurd h.1 (nn rfl)))))))).trans (hid kn_64)
        have h_66 : c_40 41 2 = c2 41 2 := (hid kn_65)
        have kn_67 : Hid (c_40 41 3 = c2 41 3) := (hF_42 41 3 (fun q => q.elim (fun h => absurd h.2 (ni rfl)) (fun q => q.elim (fun h => absurd h.2 (ni rfl)) (fun q => q.elim (fun h => absurd h.2 (ni rfl)) (fun q => q.elim (fun h => absurd h.2 (ni rfl)) (fun q => q.elim (fun h => absurd h.2 (ni rfl)) (fun h => absurd h.1 (nn rfl)))))))).trans (hid kn_33)
        have h_68 : c_40 41 3 = c2 41 3 := (hid kn_67)
        have kn_69 : Hid (c_9 41 35 = c2 41 35) := hF_11 41 35 (fun h => absurd h.2 (ni rfl))
        have kn_70 : Hid (c_40 41 35 = c2 41 35) := (hF_42 41 35 (fun q => q.elim (fun h => absurd h.2 (ni rfl)) (fun q => q.elim (fun h => absurd h.2 (ni rfl)) (fun q => q.elim (fun h => absurd h.2 (ni rfl)) (fun q => q.elim (fun h => absurd h.2 (ni rfl)) (fun q => q.elim (fun h => absurd h.2 (ni rfl)) (fun h => absurd h.1 (nn rfl)))))))).trans (hid kn_69)
        have h_71 : c_40 41 35 = c2 41 35 := (hid kn_70)
        have h_72 : c_40 41 34 = c_40 41 34 := rfl
        have h_73 : c_9 41 34 = c2 41 34 := (hid kn_35)
        exact ih c_40 hI_41 (fun a j hm => (hF_42 a j (qv_573d069e6 hm)).trans ((hF_11 a j (fun h => hm (Or.inr (Or.inr (Or.inr (Or.inr (Or.inl h))))))).trans (hF a j hm))) ((q_65c5ff97d h_53 h_54)) ((q_76b49cfc4 h_46 h_53 h_54 h_34)) (by first | (clear ha1 hx0 hx1 hx3 hx4 hx5 hx6 hx7 hx8 hx9 hx11 h_1 h_2 h_3 h_4 h_5 h_6 h_7 h_8 h_16 h_13 h_50 h_43 h_51 h_44 h_52 h_45 h_53 h_47 h_48 h_54 h_14 h_15 h_17 h_46; omega) | omega) (by first | (clear ha1 hx0 hx1 hx2 hx4 hx5 hx6 hx7 hx8 hx9 hx11 h_1 h_2 h_3 h_4 h_5 h_6 h_7 h_8 h_16 h_50 h_43 h_51 h_44 h_52 h_53 h_47 h_48 h_54 h_14 h_15 h_17 h_46; omega) | omega) ((q_f9c88a064 h_47)) (by first | (clear ha1 hx0 hx1 hx2 hx3 hx4 hx6 hx7 hx8 hx9 hx11 h_1 h_2 h_3 h_4 h_5 h_6 h_7 h_8 h_16 h_13 h_50 h_43 h_52 h_45 h_53 h_47 h_48 h_54 h_14 h_15 h_17 h_46; omega) | omega) (by first | (clear ha1 hx0 hx1 hx2 hx3 hx4 hx5 hx7 hx8 hx9 hx11 h_1 h_2 h_3 h_4 h_5 h_6 h_7 h_8 h_16 h_13 h_50 h_43 h_51 h_44 h_52 h_45 h_53 h_47 h_48 h_54 h_14 h_15 h_17 h_46; omega) | omega) ((q_1dc94a4e9 h_50)) ((q_0802a0138 h_52)) ((q_1bdda21ac h_52)) (ap_join (ap_fr (c2 := c_40) hx10 (by omega) rfl rfl (fun j h1 h2 => (hF_42 56 j (by omega)).trans (hF_11 56 j (fun h => absurd h.1 (nn rfl))))) (show c_9 41 34 = c2 41 34 from by omega) (hA_49 (by omega))) ⟨by first | (clear ha1 hx0 hx1 hx2 hx3 hx4 hx5 hx6 hx7 hx8 hx9 h_1 h_2 h_3 h_4 h_5 h_6 h_7 h_8 h_16 h_13 h_50 h_43 h_51 h_44 h_52 h_45 h_53 h_47 h_48 h_54 h_14 h_15 h_17 h_46; omega) | omega, by first | (clear ha1 hx0 hx1 hx2 hx3 hx4 hx5 hx6 hx7 hx8 hx9 h_1 h_2 h_3 h_4 h_5 h_6 h_7 h_8 h_16 h_13 h_50 h_43 h_51 h_44 h_52 h_45 h_53 h_47 h_48 h_54 h_14 h_15 h_17 h_46; omega) | omega, by first | (clear ha1 hx0 hx1 hx2 hx3 hx4 hx5 hx6 hx7 hx8 hx9 h_1 h_2 h_3 h_4 h_5 h_6 h_7 h_8 h_16 h_13 h_50 h_43 h_51 h_44 h_52 h_45 h_53 h_47 h_48 h_54 h_14 h_15 h_17 h_46; omega) | omega, by first | (clear ha1 hx0 hx1 hx2 hx3 hx4 hx5 hx6 hx7 hx8 hx9 h_1 h_2 h_3 h_4 h_5 h_6 h_7 h_8 h_16 h_13 h_50 h_43 h_51 h_44 h_52 h_45 h_53 h_47 h_48 h_54 h_14 h_15 h_17 h_46; omega) | omega⟩ (by omega)
set_option maxRecDepth 100000 in
set_option maxHeartbeats 4000000 in
theorem s_202 {sc : List Int32} {d P Q : Nat} {c : ME} {a1 : Int} {Z : AR → Prop} (hI : Iv 0 (-1) P Q c) (ha1 : (-2147483648) ≤ a1 ∧ a1 ≤ 2147483647) (K : ∀ (c2 : ME) (y : Int), Iv 0 (-1) P Q c2 → (∀ (a : Nat) (j : Int), ¬ ((a = 41 ∧ j = 0) ∨ a = 42 ∨ (a = 41 ∧ j = 2) ∨ (a = 41 ∧ j = 3) ∨ (a = 41 ∧ j = 4) ∨ (a = 41 ∧ j = 5) ∨ (a = 41 ∧ j = 6) ∨ (a = 41 ∧ j = 7) ∨ (a = 41 ∧ j = 8) ∨ (a = 41 ∧ j = 34) ∨ a = 56 ∨ a = 57 ∨ a = 60 ∨ (a = 41 ∧ j = 35) ∨ (a = 41 ∧ j = 36) ∨ (a = 41 ∧ j = 37) ∨ (a = 41 ∧ j = 38) ∨ (a = 41 ∧ j = 39) ∨ a = 58 ∨ a = 59 ∨ a = 54 ∨ a = 55) → c2 a j = c a j) → (-2147483648) ≤ y ∧ y ≤ 2147483647 → ((c2 41 2 = 0 ∧ a1 ≥ 0 ∧ a1 ≤ c 41 2 ∧ a1 ≤ 150) ∨ (c2 41 2 = c 41 2 ∧ a1 < 0) ∨ (c2 41 2 = c 41 2 ∧ a1 > c 41 2) ∨ (c2 41 2 = c 41 2 ∧ a1 > 150)) → Z (.inl (some (vi y)), Wd P Q P P c2, 0, 0)) : Wp sc (d + 67) 202 0 [(0, .ref 41), (1, vi a1)] [] (Wd P Q P P c) 0 0 Z := by
  have hP := iv_P hI
  have hQ := iv_Q hI
  refine q_aload_n c_202_0 rfl (q_iconst c_202_1 (v_pi (z := 0) c_202_2 kf_8_3 rfl (Nat.le_of_ble_eq_true rfl) rfl rfl rfl (of_decide_eq_true rfl) (q_aload_n c_202_5 rfl (q_iload_n c_202_6 rfl ?_))))
  by_cases h_75 : a1 < 0
  · refine v_if_lt_t (t := 29) c_202_7 rfl ⟨ha1.1, h_75, of_decide_eq_true rfl⟩ (q_iconst c_202_29 (q_iconst c_202_30 (q_iconst c_202_31 (v_cv c_202_32 km_8_203 rfl rfl (Nat.le_of_ble_eq_true rfl) ⟨⟨rfl, rfl⟩, Nat.le_of_ble_eq_true rfl, rfl⟩ (Nat.le_of_ble_eq_true rfl) (Nat.le_of_ble_eq_true rfl) (q_iload_n c_145_0 rfl (v_if_ne_f (t := 26) c_145_1 rfl (of_decide_eq_true rfl) (q_aload_n c_145_4 rfl ?_)))))))
    refine v_gi (z := 0) (v := 0) c_145_5 kf_8_3 rfl (Nat.le_of_ble_eq_true rfl) rfl rfl (up_e rfl) (v_if_ne_f (t := 26) c_145_8 rfl (of_decide_eq_true rfl) (q_aload_n c_145_11 rfl (q_iload_n c_145_12 rfl (v_pi (z := 0) c_145_13 kf_8_3 rfl (Nat.le_of_ble_eq_true rfl) rfl rfl rfl (of_decide_eq_true rfl) (q_aload_n c_145_16 rfl (v_gr (t := 42) c_145_17 kf_8_7 rfl (Nat.le_of_ble_eq_true rfl) rfl (q_iload_n c_145_20 rfl ?_)))))))
    refine q_dup2 c_145_21 ⟨rfl, rfl⟩ ?_
    have h_76 := ir_42 hI 1
    refine v_ia (v := c 42 1) c_145_22 rfl (of_decide_eq_true rfl) (of_decide_eq_true rfl) (of_decide_eq_true rfl) ((up_c (nn rfl)).trans (up_c (nn rfl))) (q_iconst c_145_23 (v_iadd (v := c 42 1 + 1) c_145_24 rfl (v_nrm (fun y_77 hy_77 => (v_is c_145_25 rfl (of_decide_eq_true rfl) (of_decide_eq_true rfl) (of_decide_eq_true rfl) (q_aload_n c_145_26 rfl (v_gi (z := 0) (v := 1) c_145_27 kf_8_3 rfl (Nat.le_of_ble_eq_true rfl) rfl rfl ((up_c (nn rfl)).trans (up_e rfl)) (v_if_ne_t (t := 37) c_145_30 rfl (of_decide_eq_true rfl) ?_))))))))
    refine q_iconst c_145_37 (v_zret c_145_38 rfl (of_decide_eq_true rfl) (bk_inl (v_if_ne_f (t := 40) c_202_35 rfl (of_decide_eq_true rfl) (q_iconst c_202_38 (q_iret c_202_39 rfl ?_)))))
    have hI_78 := iw_41_0 (v := 0) hI ⟨of_decide_eq_true rfl, of_decide_eq_true rfl⟩
    have hI_79 := iw_41_0 (v := 1) hI_78 ⟨of_decide_eq_true rfl, of_decide_eq_true rfl⟩
    have hI_80 := iw_42 (j := 1) (v := y_77) hI_79 ⟨hy_77.1, hy_77.2⟩
    have h_81 := ir_41_2 hI
    have h_82 : (up (up (up c 41 0 0) 41 0 1) 42 1 y_77) 41 2 = c 41 2 := ((up_c (nn rfl)).trans ((up_n (ni rfl)).trans (up_n (ni rfl))))
    exact K (up (up (up c 41 0 0) 41 0 1) 42 1 y_77) 0 hI_80 (fun a j hm => (up_b (Decidable.or_iff_not_imp_left.mpr (fun h1 h2 => hm (Or.inr (Or.inl (Decidable.not_not.mp h1)))))).trans ((up_b (Decidable.or_iff_not_imp_left.mpr (fun h1 h2 => hm (Or.inl ⟨Decidable.not_not.mp h1, h2⟩)))).trans (up_b (Decidable.or_iff_not_imp_left.mpr (fun h1 h2 => hm (Or.inl ⟨Decidable.not_not.mp h1, h2⟩)))))) ⟨of_decide_eq_true rfl, of_decide_eq_true rfl⟩ (Or.inr (Or.inl ⟨by first | assumption | omega, (q_e97a17f6e h_75)⟩))
  · refine v_if_lt_f (t := 29) c_202_7 rfl ⟨of_decide_eq_true rfl, (Int.not_lt.mp h_75), ha1.2⟩ (q_iload_n c_202_10 rfl (q_aload_n c_202_11 rfl ?_))
    have h_83 := ir_41_2 hI
    refine v_gi (z := 2) (v := c 41 2) c_202_12 kf_8_99 rfl (Nat.le_of_ble_eq_true rfl) rfl rfl (up_n (ni rfl)) ?_
    by_cases h_84 : a1 > c 41 2
    · refine v_ic_gt_t (t := 29) c_202_15 rfl ⟨(lel h_83.1 rfl), h_84, ha1.2⟩ (q_iconst c_202_29 (q_iconst c_202_30 (q_iconst c_202_31 (v_cv c_202_32 km_8_203 rfl rfl (Nat.le_of_ble_eq_true rfl) ⟨⟨rfl, rfl⟩, Nat.le_of_ble_eq_true rfl, rfl⟩ (Nat.le_of_ble_eq_true rfl) (Nat.le_of_ble_eq_true rfl) (q_iload_n c_145_0 rfl (v_if_ne_f (t := 26) c_145_1 rfl (of_decide_eq_true rfl) (q_aload_n c_145_4 rfl ?_)))))))
      refine v_gi (z := 0) (v := 0) c_145_5 kf_8_3 rfl (Nat.le_of_ble_eq_true rfl) rfl rfl (up_e rfl) (v_if_ne_f (t := 26) c_145_8 rfl (of_decide_eq_true rfl) (q_aload_n c_145_11 rfl (q_iload_n c_145_12 rfl (v_pi (z := 0) c_145_13 kf_8_3 rfl (Nat.le_of_ble_eq_true rfl) rfl rfl rfl (of_decide_eq_true rfl) (q_aload_n c_145_16 rfl (v_gr (t := 42) c_145_17 kf_8_7 rfl (Nat.le_of_ble_eq_true rfl) rfl (q_iload_n c_145_20 rfl ?_)))))))
      refine q_dup2 c_145_21 ⟨rfl, rfl⟩ ?_
      have h_85 := ir_42 hI 1
      refine v_ia (v := c 42 1) c_145_22 rfl (of_decide_eq_true rfl) (of_decide_eq_true rfl) (of_decide_eq_true rfl) ((up_c (nn rfl)).trans (up_c (nn rfl))) (q_iconst c_145_23 (v_iadd (v := c 42 1 + 1) c_145_24 rfl (v_nrm (fun y_86 hy_86 => (v_is c_145_25 rfl (of_decide_eq_true rfl) (of_decide_eq_true rfl) (of_decide_eq_true rfl) (q_aload_n c_145_26 rfl (v_gi (z := 0) (v := 1) c_145_27 kf_8_3 rfl (Nat.le_of_ble_eq_true rfl) rfl rfl ((up_c (nn rfl)).trans (up_e rfl)) (v_if_ne_t (t := 37) c_145_30 rfl (of_decide_eq_true rfl) ?_))))))))
      refine q_iconst c_145_37 (v_zret c_145_38 rfl (of_decide_eq_true rfl) (bk_inl (v_if_ne_f (t := 40) c_202_35 rfl (of_decide_eq_true rfl) (q_iconst c_202_38 (q_iret c_202_39 rfl ?_)))))
      have hI_87 := iw_41_0 (v := 0) hI ⟨of_decide_eq_true rfl, of_decide_eq_true rfl⟩
      have hI_88 := iw_41_0 (v := 1) hI_87 ⟨of_decide_eq_true rfl, of_decide_eq_true rfl⟩
      have hI_89 := iw_42 (j := 1) (v := y_86) hI_88 ⟨hy_86.1, hy_86.2⟩
      have h_90 : (up (up (up c 41 0 0) 41 0 1) 42 1 y_86) 41 2 = c 41 2 := ((up_c (nn rfl)).trans ((up_n (ni rfl)).trans (up_n (ni rfl))))
      exact K (up (up (up c 41 0 0) 41 0 1) 42 1 y_86) 0 hI_89 (fun a j hm => (up_b (Decidable.or_iff_not_imp_left.mpr (fun h1 h2 => hm (Or.inr (Or.inl (Decidable.not_not.mp h1)))))).trans ((up_b (Decidable.or_iff_not_imp_left.mpr (fun h1 h2 => hm (Or.inl ⟨Decidable.not_not.mp h1, h2⟩)))).trans (up_b (Decidable.or_iff_not_imp_left.mpr (fun h1 h2 => hm (Or.inl ⟨Decidable.not_not.mp h1, h2⟩)))))) ⟨of_decide_eq_true rfl, of_decide_eq_true rfl⟩ (Or.inr (Or.inr (Or.inl ⟨by first | assumption | omega, (q_0e7f65a30 h_84)⟩)))
    · refine v_ic_gt_f (t := 29) c_202_15 rfl ⟨ha1.1, (Int.not_lt.mp h_84), (ler h_83.2 rfl)⟩ (q_iload_n c_202_18 rfl (v_sip c_202_19 (of_decide_eq_true rfl) ?_))
      by_cases h_91 : a1 > 150
      · refine v_ic_gt_t (t := 29) c_202_22 rfl ⟨of_decide_eq_true rfl, h_91, ha1.2⟩ (q_iconst c_202_29 (q_iconst c_202_30 (q_iconst c_202_31 (v_cv c_202_32 km_8_203 rfl rfl (Nat.le_of_ble_eq_true rfl) ⟨⟨rfl, rfl⟩, Nat.le_of_ble_eq_true rfl, rfl⟩ (Nat.le_of_ble_eq_true rfl) (Nat.le_of_ble_eq_true rfl) (q_iload_n c_145_0 rfl (v_if_ne_f (t := 26) c_145_1 rfl (of_decide_eq_true rfl) (q_aload_n c_145_4 rfl ?_)))))))
        refine v_gi (z := 0) (v := 0) c_145_5 kf_8_3 rfl (Nat.le_of_ble_eq_true rfl) rfl rfl (up_e rfl) (v_if_ne_f (t := 26) c_145_8 rfl (of_decide_eq_true rfl) (q_aload_n c_145_11 rfl (q_iload_n c_145_12 rfl (v_pi (z := 0) c_145_13 kf_8_3 rfl (Nat.le_of_ble_eq_true rfl) rfl rfl rfl (of_decide_eq_true rfl) (q_aload_n c_145_16 rfl (v_gr (t := 42) c_145_17 kf_8_7 rfl (Nat.le_of_ble_eq_true rfl) rfl (q_iload_n c_145_20 rfl ?_)))))))
        refine q_dup2 c_145_21 ⟨rfl, rfl⟩ ?_
        have h_92 := ir_42 hI 1
        refine v_ia (v := c 42 1) c_145_22 rfl (of_decide_eq_true rfl) (of_decide_eq_true rfl) (of_decide_eq_true rfl) ((up_c (nn rfl)).trans (up_c (nn rfl))) (q_iconst c_145_23 (v_iadd (v := c 42 1 + 1) c_145_24 rfl (v_nrm (fun y_93 hy_93 => (v_is c_145_25 rfl (of_decide_eq_true rfl) (of_decide_eq_true rfl) (of_decide_eq_true rfl) (q_aload_n c_145_26 rfl (v_gi (z := 0) (v := 1) c_145_27 kf_8_3 rfl (Nat.le_of_ble_eq_true rfl) rfl rfl ((up_c (nn rfl)).trans (up_e rfl)) (v_if_ne_t (t := 37) c_145_30 rfl (of_decide_eq_true rfl) ?_))))))))
        refine q_iconst c_145_37 (v_zret c_145_38 rfl (of_decide_eq_true rfl) (bk_inl (v_if_ne_f (t := 40) c_202_35 rfl (of_decide_eq_true rfl) (q_iconst c_202_38 (q_iret c_202_39 rfl ?_)))))
        have hI_94 := iw_41_0 (v := 0) hI ⟨of_decide_eq_true rfl, of_decide_eq_true rfl⟩
        have hI_95 := iw_41_0 (v := 1) hI_94 ⟨of_decide_eq_true rfl, of_decide_eq_true rfl⟩
        have hI_96 := iw_42 (j := 1) (v := y_93) hI_95 ⟨hy_93.1, hy_93.2⟩
        have h_97 : (up (up (up c 41 0 0) 41 0 1) 42 1 y_93) 41 2 = c 41 2 := ((up_c (nn rfl)).trans ((up_n (ni rfl)).trans (up_n (ni rfl))))
        exact K (up (up (up c 41 0 0) 41 0 1) 42 1 y_93) 0 hI_96 (fun a j hm => (up_b (Decidable.or_iff_not_imp_left.mpr (fun h1 h2 => hm (Or.inr (Or.inl (Decidable.not_not.mp h1)))))).trans ((up_b (Decidable.or_iff_not_imp_left.mpr (fun h1 h2 => hm (Or.inl ⟨Decidable.not_not.mp h1, h2⟩)))).trans (up_b (Decidable.or_iff_not_imp_left.mpr (fun h1 h2 => hm (Or.inl ⟨Decidable.not_not.mp h1, h2⟩)))))) ⟨of_decide_eq_true rfl, of_decide_eq_true rfl⟩ (Or.inr (Or.inr (Or.inr ⟨by first | assumption | omega, (q_8db41993e h_91)⟩)))
      · refine v_ic_gt_f (t := 29) c_202_22 rfl ⟨ha1.1, (Int.not_lt.mp h_91), of_decide_eq_true rfl⟩ (q_iconst c_202_25 (q_goto (t := 30) c_202_26 rfl (q_iconst c_202_30 (q_iconst c_202_31 (v_cv c_202_32 km_8_203 rfl rfl (Nat.le_of_ble_eq_true rfl) ⟨⟨rfl, rfl⟩, Nat.le_of_ble_eq_true rfl, rfl⟩ (Nat.le_of_ble_eq_true rfl) (Nat.le_of_ble_eq_true rfl) (q_iload_n c_145_0 rfl (v_if_ne_t (t := 26) c_145_1 rfl (of_decide_eq_true rfl) ?_)))))))
        refine q_aload_n c_145_26 rfl (v_gi (z := 0) (v := 0) c_145_27 kf_8_3 rfl (Nat.le_of_ble_eq_true rfl) rfl rfl (up_e rfl) (v_if_ne_f (t := 37) c_145_30 rfl (of_decide_eq_true rfl) (q_iconst c_145_33 (q_goto (t := 38) c_145_34 rfl (v_zret c_145_38 rfl (of_decide_eq_true rfl) (bk_inl (v_if_ne_t (t := 40) c_202_35 rfl (of_decide_eq_true rfl) ?_)))))))
        refine q_aload_n c_202_40 rfl (q_iload_n c_202_41 rfl ?_)
        have hI_98 := iw_41_0 (v := 0) hI ⟨of_decide_eq_true rfl, of_decide_eq_true rfl⟩
        refine v_cv c_202_42 km_8_207 rfl rfl (Nat.le_of_ble_eq_true rfl) ⟨⟨rfl, rfl⟩, Nat.le_of_ble_eq_true rfl, rfl⟩ (Nat.le_of_ble_eq_true rfl) (Nat.le_of_ble_eq_true rfl) (s_163 (a1 := a1) hI_98 (show 0 ≤ a1 ∧ a1 ≤ 600 from ⟨(q_720657ba9 h_75), (q_f4271b4e1 h_91)⟩) (fun c_99 hI_100 hF_101 h_102 => (bk_inl ?_)))
        have h_103 := ir_41_2 hI_100
        have h_104 := ir_41_3 hI_100
        have h_105 := ir_41_4 hI_100
        have h_106 := ir_41_5 hI_100
        have h_107 := ir_41_7 hI_100
        refine q_aload_n c_202_45 rfl ?_
        have h_108 := ir_41_35 hI
        have kn_109 : Hid (c_99 41 35 = c 41 35) := (hF_101 41 35 qn_010af1ec6).trans (up_n (ni rfl))
        refine v_gi (z := 35) (v := c 41 35) c_202_46 kf_8_182 rfl (Nat.le_of_ble_eq_true rfl) rfl rfl (hid kn_109) (v_bip c_202_49 (of_decide_eq_true rfl) ?_)
        by_cases h_110 : c 41 35 ≠ 16
        · refine v_ic_ne_t (t := 63) c_202_51 rfl ⟨h_110, ⟨(q_75c67c730 h_108), (q_8258630c3 h_108)⟩, of_decide_eq_true rfl, of_decide_eq_true rfl⟩ (q_aload_n c_202_63 rfl (q_iconst c_202_64 (v_pi (z := 34) c_202_65 kf_8_284 rfl (Nat.le_of_ble_eq_true rfl) rfl rfl rfl (of_decide_eq_true rfl) (q_aload_n c_202_68 rfl (v_cv c_202_69 km_8_131 rfl rfl (Nat.le_of_ble_eq_true rfl) ⟨⟨rfl, rfl⟩, Nat.le_of_ble_eq_true rfl, rfl⟩ (Nat.le_of_ble_eq_true rfl) (Nat.le_of_ble_eq_true rfl) (q_aload_n c_152_0 rfl (v_gi (z := 5) (v := c_99 41 5) c_152_1 kf_8_102 rfl (Nat.le_of_ble_eq_true rfl) rfl rfl (up_n (ni rfl)) ?_)))))))
          refine q_iconst c_152_4 (v_ic_ne_f (t := 12) c_152_5 rfl ((q_6d0a553af h_102 h_106)) (q_iconst c_152_8 (q_goto (t := 13) c_152_9 rfl (v_zret c_152_13 rfl (of_decide_eq_true rfl) (bk_inl (v_if_eq_f (t := 89) c_202_72 rfl (of_decide_eq_true rfl) ?_))))))
          have hI_111 := iw_41_34 (v := 0) hI_100 ⟨of_decide_eq_true rfl, of_decide_eq_true rfl⟩
          refine Wp_ls [(0, .ref 41), (1, vi a1)] (lsub_cons rfl (lsub_cons rfl lsub_nil)) ?_
          have h_112 : (up c_99 41 34 0) 41 34 = 0 := (up_e rfl)
          have h_113 : (up c_99 41 34 0) 41 2 = c_99 41 2 := (up_n (ni rfl))
          have h_114 : (up c_99 41 34 0) 41 3 = c_99 41 3 := (up_n (ni rfl))
          have h_115 : (up c_99 41 34 0) 41 34 = 0 := (up_e rfl)
          have h_116 : (up c_99 41 34 0) 41 35 = c 41 35 := ((up_n (ni rfl)).trans (hid kn_109))
          have h_117 : (up c_99 41 34 0) 41 4 = c_99 41 4 := (up_n (ni rfl))
          have h_118 : (up c_99 41 34 0) 41 5 = c_99 41 5 := (up_n (ni rfl))
          have h_119 : (up c_99 41 34 0) 41 7 = c_99 41 7 := (up_n (ni rfl))
          have h_120 : (up c_99 41 34 0) 41 34 = 0 := (up_e rfl)
          exact (s_202_l (sc := sc) (d := d) hI ha1 K 1214) (up c_99 41 34 0) hI_111 (fun a j hm => (up_b (Decidable.or_iff_not_imp_left.mpr (fun h1 h2 => hm (Or.inr (Or.inr (Or.inr (Or.inr (Or.inr (Or.inr (Or.inr (Or.inr (Or.inr (Or.inl ⟨Decidable.not_not.mp h1, h2⟩))))))))))))).trans ((hF_101 a j (qv_5d0a24d61 hm)).trans (up_b (Decidable.or_iff_not_imp_left.mpr (fun h1 h2 => hm (Or.inl ⟨Decidable.not_not.mp h1, h2⟩)))))) ((q_6d0a553af h_102 h_106)) ((q_aa9195485 h_102 h_104)) ((q_177fc0d22 h_102 h_91)) ((q_95d63d183 h_105)) (by first | assumption | omega) ((q_c5aecebbc h_102 h_107)) ((q_df9bc0968 h_108 h_110)) ((q_1dc94a4e9 h_105)) (by first | decide | omega) (by first | decide | omega) (ap_nil (by omega)) ⟨(q_59baff7b3 h_102 h_103), (q_720657ba9 h_75), (q_0325d56da h_84), (q_803e7bd5f h_91)⟩ (by omega)
        · refine v_ic_ne_f (t := 63) c_202_51 rfl (Decidable.not_not.mp h_110) (q_aload_n c_202_54 rfl (q_iconst c_202_55 (v_cv c_202_56 km_8_232 rfl rfl (Nat.le_of_ble_eq_true rfl) ⟨⟨rfl, rfl⟩, Nat.le_of_ble_eq_true rfl, rfl⟩ (Nat.le_of_ble_eq_true rfl) (Nat.le_of_ble_eq_true rfl) (s_164 (a1 := 0) hI_100 (show (-2147483648) ≤ 0 ∧ 0 ≤ 2147483647 from ⟨of_decide_eq_true rfl, of_decide_eq_true rfl⟩) (fun c_121 y_124 hI_122 hF_123 hy_124 => (bk_inl (q_pop c_202_59 rfl (v_bip c_202_60 (of_decide_eq_true rfl) (q_iret c_202_62 rfl ?_)))))))))
          have kn_125 : Hid (c_121 41 2 = c_99 41 2) := hF_123 41 2 (fun h => absurd h.2 (ni rfl))
          have h_126 : c_121 41 2 = c_99 41 2 := (hid kn_125)
          exact K c_121 (-20) hI_122 (fun a j hm => (hF_123 a j (qv_c40515afb hm)).trans ((hF_101 a j (qv_5d0a24d61 hm)).trans (up_b (Decidable.or_iff_not_imp_left.mpr (fun h1 h2 => hm (Or.inl ⟨Decidable.not_not.mp h1, h2⟩)))))) ⟨of_decide_eq_true rfl, of_decide_eq_true rfl⟩ (Or.inl ⟨(q_59baff7b3 h_102 h_103), (q_720657ba9 h_75), (q_0325d56da h_84), (q_803e7bd5f h_91)⟩)

set_option maxRecDepth 100000 in
set_option maxHeartbeats 4000000 in
theorem s_203_l {sc : List Int32} {e : Int} {d u P Q : Nat} {c : ME} {Z : AR → Prop} (hI : Iv u e P Q c)  (K : ∀ (y : Int), (-2147483648) ≤ y ∧ y ≤ 2147483647 → Z (.inl (some (vi y)), Wd P Q P P c, 0, 0)) : ∀ n : Nat, (∀ (v1 : Int) (v2 : Int), (-2147483648) ≤ v1 ∧ v1 ≤ 2147483647 → 0 ≤ v2 ∧ v2 ≤ 6 → 13 - 2 * v2 < (n : Int) → Wp sc (d + 8) 203 4 [(0, .ref 41), (1, vi v1), (2, vi v2)] [] (Wd P Q P P c) 0 0 Z) := by
  intro n
  induction n with
  | zero => exact (by intro v1 v2 hv1 hv2 hm9; have hP := iv_P hI; have hQ := iv_Q hI; exfalso; omega)
  | succ n ih =>
    have hP := iv_P hI
    have hQ := iv_Q hI
    intro v1 v2 hv1 hv2 hm9
    refine q_iload_n c_203_4 rfl (q_aload_n c_203_5 rfl ?_)
    have h_1 := ir_41_20 hI
    refine v_gi (z := 20) (v := c 41 20) c_203_6 kf_8_157 rfl (Nat.le_of_ble_eq_true rfl) rfl rfl rfl ?_
    by_cases h_2 : v2 ≥ c 41 20
    · refine v_ic_ge_t (t := 26) c_203_9 rfl ⟨(lel h_1.1 rfl), h_2, (ler hv2.2 rfl)⟩ (q_iload_n c_203_26 rfl (q_iret c_203_27 rfl ?_))
      exact K v1 hv1
    · refine v_ic_ge_f (t := 26) c_203_9 rfl ⟨(lel hv2.1 rfl), (Int.not_le.mp h_2), (ler h_1.2 rfl)⟩ (q_iload_n c_203_12 rfl (q_aload_n c_203_13 rfl (q_iload_n c_203_14 rfl ?_)))
      have h_3 := ir_59_g hI (j := 4 * v2) ((q_aa51b186e h_1 h_2))
      have h_4 := ir_59_g hI (j := 4 * v2 + 1) ((q_57851f9de h_1 h_2))
      have h_5 := ir_59_g hI (j := 4 * v2 + 2) ((q_7296e74e6 h_1 h_2))
      have h_6 := ir_59_g hI (j := 4 * v2 + 3) ((q_b15525c4c h_1 h_2))
      refine v_cv c_203_15 km_8_343 rfl rfl (Nat.le_of_ble_eq_true rfl) ⟨⟨rfl, rfl⟩, Nat.le_of_ble_eq_true rfl, rfl⟩ (Nat.le_of_ble_eq_true rfl) (Nat.le_of_ble_eq_true rfl) (s_187 (v1 := c 59 (4 * v2)) (v2 := c 59 (4 * v2 + 1)) (v3 := c 59 (4 * v2 + 2)) (v4 := c 59 (4 * v2 + 3)) (r := c 59 (4 * v2 + 1) + c 59 (4 * v2 + 2) + c 59 (4 * v2 + 3) + c 59 (4 * v2)) (a1 := v2) hI (show 0 ≤ v2 ∧ v2 ≤ 5 from ⟨hv2.1, (q_d63a8538e h_1 h_2)⟩) (rfl) (rfl) (rfl) (rfl) (by omega) (bk_inl (v_iadd (v := c 59 (4 * v2 + 1) + c 59 (4 * v2 + 2) + c 59 (4 * v2 + 3) + c 59 (4 * v2) + v1) c_203_18 (by omega) (v_nrm (fun y_7 hy_7 => (q_istore_n c_203_19 (Nat.le_of_ble_eq_true rfl) (v_iinc (v := v2 + 1) c_203_20 rfl (Nat.le_of_ble_eq_true rfl) rfl (q_goto (t := 4) c_203_23 rfl (Wp_ls [(0, .ref 41), (1, vi y_7), (2, vi (v2 + 1))] (lsub_cons rfl (lsub_cons rfl (lsub_cons rfl lsub_nil))) ?_)))))))))
      exact ih y_7 (v2 + 1) hy_7 ⟨(rgp_l hv2.1 (of_decide_eq_true rfl)), (q_4a76cd9c7 h_1 h_2)⟩ (by omega)
set_option maxRecDepth 100000 in
set_option maxHeartbeats 4000000 in
theorem s_203 {sc : List Int32} {e : Int} {d u P Q : Nat} {c : ME} {Z : AR → Prop} (hI : Iv u e P Q c)  (K : ∀ (y : Int), (-2147483648) ≤ y ∧ y ≤ 2147483647 → Z (.inl (some (vi y)), Wd P Q P P c, 0, 0)) : Wp sc (d + 8) 203 0 [(0, .ref 41)] [] (Wd P Q P P c) 0 0 Z := by
  have hP := iv_P hI
  have hQ := iv_Q hI
  refine q_iconst c_203_0 (q_istore_n c_203_1 (Nat.le_of_ble_eq_true rfl) (q_iconst c_203_2 (q_istore_n c_203_3 (Nat.le_of_ble_eq_true rfl) (Wp_ls [(0, .ref 41), (1, vi 0), (2, vi 0)] (lsub_cons rfl (lsub_cons rfl (lsub_cons rfl lsub_nil))) ?_))))
  exact (s_203_l (sc := sc) (d := d) hI K 16) 0 0 ⟨of_decide_eq_true rfl, of_decide_eq_true rfl⟩ ⟨of_decide_eq_true rfl, of_decide_eq_true rfl⟩ (by omega)

set_option maxRecDepth 100000 in
set_option maxHeartbeats 4000000 in
theorem s_204 {sc : List Int32} {e : Int} {d u P Q : Nat} {c : ME} {a1 : Int} {Z : AR → Prop} (hI : Iv u e P Q c) (ha1 : 0 ≤ a1 ∧ a1 ≤ 5) (K : ∀ (y : Int), (-2147483648) ≤ y ∧ y ≤ 2147483647 → Z (.inl (some (vi y)), Wd P Q P P c, 0, 0)) : Wp sc (d + 8) 204 0 [(0, .ref 41), (1, vi a1)] [] (Wd P Q P P c) 0 0 Z := by
  have hP := iv_P hI
  have hQ := iv_Q hI
  refine q_aload_n c_204_0 rfl (q_iload_n c_204_1 rfl ?_)
  have h_1 := ir_59_g hI (j := 4 * a1) ((q_9f1d5ffdc ha1))
  have h_2 := ir_59_g hI (j := 4 * a1 + 1) ((q_0a2ee6f8f ha1))
  have h_3 := ir_59_g hI (j := 4 * a1 + 2) ((q_e07a293a2 ha1))
  have h_4 := ir_59_g hI (j := 4 * a1 + 3) ((q_d09cb0b73 ha1))
  refine v_cv c_204_2 km_8_343 rfl rfl (Nat.le_of_ble_eq_true rfl) ⟨⟨rfl, rfl⟩, Nat.le_of_ble_eq_true rfl, rfl⟩ (Nat.le_of_ble_eq_true rfl) (Nat.le_of_ble_eq_true rfl) (s_187 (v1 := c 59 (4 * a1)) (v2 := c 59 (4 * a1 + 1)) (v3 := c 59 (4 * a1 + 2)) (v4 := c 59 (4 * a1 + 3)) (r := c 59 (4 * a1 + 1) + c 59 (4 * a1 + 2) + c 59 (4 * a1 + 3) + c 59 (4 * a1)) (a1 := a1) hI (show 0 ≤ a1 ∧ a1 ≤ 5 from ha1) (rfl) (rfl) (rfl) (rfl) (by omega) (bk_inl ?_))
  by_cases h_5 : c 59 (4 * a1 + 1) + c 59 (4 * a1 + 2) + c 59 (4 * a1 + 3) + c 59 (4 * a1) ≠ 0
  · refine v_if_ne_t (t := 12) c_204_5 rfl ⟨h_5, ⟨(q_e052ef40e h_1 h_2 h_3 h_4), (q_db9ef1f4a h_1 h_2 h_3 h_4)⟩, of_decide_eq_true rfl, of_decide_eq_true rfl⟩ (v_sip c_204_12 (of_decide_eq_true rfl) (q_aload_n c_204_15 rfl (v_gr (t := 59) c_204_16 kf_8_68 rfl (Nat.le_of_ble_eq_true rfl) rfl (q_iconst c_204_19 (q_iload_n c_204_20 rfl (v_imul (v := 4 * a1) c_204_21 rfl (v_ia (v := c 59 (4 * a1)) c_204_22 rfl (of_decide_eq_true rfl) (of_decide_eq_true rfl) ⟨(q_c065257af ha1), (q_a49915bbb ha1)⟩ rfl ?_)))))))
    refine v_imul (v := 1000 * c 59 (4 * a1)) c_204_23 (by first | (clear ha1 h_1 h_2 h_3 h_4 h_5; omega) | omega) (q_aload_n c_204_24 rfl (q_iload_n c_204_25 rfl (v_cv c_204_26 km_8_343 rfl rfl (Nat.le_of_ble_eq_true rfl) ⟨⟨rfl, rfl⟩, Nat.le_of_ble_eq_true rfl, rfl⟩ (Nat.le_of_ble_eq_true rfl) (Nat.le_of_ble_eq_true rfl) (s_187 (v1 := c 59 (4 * a1)) (v2 := c 59 (4 * a1 + 1)) (v3 := c 59 (4 * a1 + 2)) (v4 := c 59 (4 * a1 + 3)) (r := c 59 (4 * a1 + 1) + c 59 (4 * a1 + 2) + c 59 (4 * a1 + 3) + c 59 (4 * a1)) (a1 := a1) hI (show 0 ≤ a1 ∧ a1 ≤ 5 from ha1) (rfl) (rfl) (rfl) (rfl) (by omega) (bk_inl (v_idivx c_204_29 ⟨by omega, by omega, by omega⟩ (fun y_6 hy_6 => (q_iret c_204_30 rfl ?_))))))))
    exact K y_6 hy_6
  · refine v_if_ne_f (t := 12) c_204_5 rfl (Decidable.not_not.mp h_5) (q_iconst c_204_8 (q_goto (t := 30) c_204_9 rfl (q_iret c_204_30 rfl ?_)))
    exact K 0 ⟨of_decide_eq_true rfl, of_decide_eq_true rfl⟩

set_option maxRecDepth 100000 in
set_option maxHeartbeats 4000000 in
theorem s_206_l {sc : List Int32} {e : Int} {d u P Q : Nat} {c : ME} {a1 : Int} {Z : AR → Prop} (hI : Iv u e P Q c) (ha1 : (-2147483648) ≤ a1 ∧ a1 ≤ 2147483647) (K : ∀ (c2 : ME) (y : Int), Iv u e P Q c2 → (∀ (a : Nat) (j : Int), ¬ ((a = 41 ∧ j = 0) ∨ a = 42 ∨ (a = 41 ∧ j = 2) ∨ (a = 41 ∧ j = 3) ∨ (a = 41 ∧ j = 4) ∨ (a = 41 ∧ j = 5) ∨ (a = 41 ∧ j = 6) ∨ (a = 41 ∧ j = 7) ∨ (a = 41 ∧ j = 8) ∨ (a = 41 ∧ j = 47) ∨ a = 61 ∨ a = 62) → c2 a j = c a j) → (-2147483648) ≤ y ∧ y ≤ 2147483647 → ((c2 41 2 = 0 ∧ a1 ≥ 0 ∧ a1 ≤ c 41 2 ∧ a1 ≤ 60) ∨ (c2 41 2 = c 41 2 ∧ a1 < 0) ∨ (c2 41 2 = c 41 2 ∧ a1 > c 41 2) ∨ (c2 41 2 = c 41 2 ∧ a1 > 60)) → Z (.inl (some (vi y)), Wd P Q P P c2, 0, 0)) : ∀ n : Nat, (∀ (c2 : ME) (v2 : Int), Iv u e P Q c2 → (∀ (a : Nat) (j : Int), ¬ ((a = 41 ∧ j = 0) ∨ a = 42 ∨ (a = 41 ∧ j = 2) ∨ (a = 41 ∧ j = 3) ∨ (a = 41 ∧ j = 4) ∨ (a = 41 ∧ j = 5) ∨ (a = 41 ∧ j = 6) ∨ (a = 41 ∧ j = 7) ∨ (a = 41 ∧ j = 8) ∨ (a = 41 ∧ j = 47) ∨ a = 61 ∨ a = 62) → c2 a j = c a j) → 0 ≤ v2 ∧ v2 ≤ 8 → ((c2 41 2 = 0 ∧ a1 ≥ 0 ∧ a1 ≤ c 41 2 ∧ a1 ≤ 60)) → 1211 - 2 * c2 41 4 < (n : Int) → Wp sc (d + 9) 206 22 [(0, .ref 41), (1, vi a1), (2, vi v2)] [] (Wd P Q P P c2) 0 0 Z) := by
  intro n
  induction n with
  | zero => exact (by intro c2 v2 hI2 hF hv2 hx0 hm9; have hP := iv_P hI; have hQ := iv_Q hI; have h_133 := ir_41_4 hI2; exfalso; omega)
  | succ n ih =>
    have hP := iv_P hI
    have hQ := iv_Q hI
    intro c2 v2 hI2 hF hv2 hx0 hm9
    have h_1 := ir_41_2 hI
    have h_2 := ir_41_2 hI2
    have h_3 := ir_41_4 hI2
    refine q_aload_n c_206_22 rfl (v_cv c_206_23 km_8_131 rfl rfl (Nat.le_of_ble_eq_true rfl) ⟨⟨rfl, rfl⟩, Nat.le_of_ble_eq_true rfl, rfl⟩ (Nat.le_of_ble_eq_true rfl) (Nat.le_of_ble_eq_true rfl) (q_aload_n c_152_0 rfl ?_))
    have h_4 := ir_41_5 hI2
    refine v_gi (z := 5) (v := c2 41 5) c_152_1 kf_8_102 rfl (Nat.le_of_ble_eq_true rfl) rfl rfl rfl (q_iconst c_152_4 ?_)
    by_cases h_5 : c2 41 5 ≠ (-1)
    · refine v_ic_ne_t (t := 12) c_152_5 rfl ⟨h_5, ⟨(lel h_4.1 rfl), (ler h_4.2 rfl)⟩, of_decide_eq_true rfl, of_decide_eq_true rfl⟩ (q_iconst c_152_12 (v_zret c_152_13 rfl (of_decide_eq_true rfl) (bk_inl (v_if_eq_t (t := 103) c_206_26 rfl (of_decide_eq_true rfl) (q_aload_n c_206_103 rfl (q_iload_n c_206_104 rfl (v_cv c_206_105 km_8_232 rfl rfl (Nat.le_of_ble_eq_true rfl) ⟨⟨rfl, rfl⟩, Nat.le_of_ble_eq_true rfl, rfl⟩ (Nat.le_of_ble_eq_true rfl) (Nat.le_of_ble_eq_true rfl) (s_164 (a1 := v2) hI2 (show (-2147483648) ≤ v2 ∧ v2 ≤ 2147483647 from ⟨(lel hv2.1 rfl), (ler hv2.2 rfl)⟩) (fun c_6 y_9 hI_7 hF_8 hy_9 => ?_)))))))))
      refine bk_inl (q_istore_n c_206_108 (Nat.le_of_ble_eq_true rfl) (q_aload_n c_206_109 rfl ?_))
      have kn_10 : Hid (c_6 41 5 = c2 41 5) := hF_8 41 5 (fun h => absurd h.2 (ni rfl))
      refine v_gi (z := 5) (v := c2 41 5) c_206_110 kf_8_102 rfl (Nat.le_of_ble_eq_true rfl) rfl rfl (hid kn_10) (q_iconst c_206_113 (v_ic_eq_f (t := 119) c_206_114 rfl ⟨(q_bd023a79f h_4 h_5), ⟨(lel h_4.1 rfl), (ler h_4.2 rfl)⟩, of_decide_eq_true rfl, of_decide_eq_true rfl⟩ (q_iload_n c_206_117 rfl (q_iret c_206_118 rfl ?_))))
      have kn_11 : Hid (c_6 41 2 = c2 41 2) := hF_8 41 2 (fun h => absurd h.2 (ni rfl))
      have h_12 : c_6 41 2 = c2 41 2 := (hid kn_11)
      exact K c_6 y_9 hI_7 (fun a j hm => (hF_8 a j (qv_021be712d hm)).trans (hF a j hm)) hy_9 (Or.inl ⟨by first | (clear ha1 hv2 h_1 h_2 h_3 h_4 h_5; omega) | omega, by first | (clear ha1 hv2 h_1 h_2 h_3 h_4 h_5; omega) | omega, by first | (clear ha1 hv2 h_1 h_2 h_3 h_4 h_5; omega) | omega, by first | (clear ha1 hv2 h_1 h_2 h_3 h_4 h_5; omega) | omega⟩)
    · refine v_ic_ne_f (t := 12) c_152_5 rfl (Decidable.not_not.mp h_5) (q_iconst c_152_8 (q_goto (t := 13) c_152_9 rfl (v_zret c_152_13 rfl (of_decide_eq_true rfl) (bk_inl (v_if_eq_f (t := 103) c_206_26 rfl (of_decide_eq_true rfl) (q_aload_n c_206_29 rfl ?_))))))
      have h_13 := ir_41_3 hI2
      refine v_cv c_206_30 km_8_211 rfl rfl (Nat.le_of_ble_eq_true rfl) ⟨⟨rfl, rfl⟩, Nat.le_of_ble_eq_true rfl, rfl⟩ (Nat.le_of_ble_eq_true rfl) (Nat.le_of_ble_eq_true rfl) (s_162 hI2 (fun c_14 y_17 hI_15 hF_16 hy_17 h_18 h_19 h_20 => (bk_inl ?_)))
      have h_21 := ir_41_4 hI_15
      by_cases h_22 : y_17 = 0
      · refine v_if_eq_t (t := 103) c_206_33 rfl h_22 (q_aload_n c_206_103 rfl (q_iload_n c_206_104 rfl (v_cv c_206_105 km_8_232 rfl rfl (Nat.le_of_ble_eq_true rfl) ⟨⟨rfl, rfl⟩, Nat.le_of_ble_eq_true rfl, rfl⟩ (Nat.le_of_ble_eq_true rfl) (Nat.le_of_ble_eq_true rfl) (s_164 (a1 := v2) hI_15 (show (-2147483648) ≤ v2 ∧ v2 ≤ 2147483647 from ⟨(lel hv2.1 rfl), (ler hv2.2 rfl)⟩) (fun c_23 y_26 hI_24 hF_25 hy_26 => (bk_inl (q_istore_n c_206_108 (Nat.le_of_ble_eq_true rfl) (q_aload_n c_206_109 rfl ?_))))))))
        have kn_27 : Hid (c_14 41 5 = c2 41 5) := hF_16 41 5 (fun h => absurd h.2 (ni rfl))
        have kn_28 : Hid (c_23 41 5 = c2 41 5) := (hF_25 41 5 (fun h => absurd h.2 (ni rfl))).trans (hid kn_27)
        refine v_gi (z := 5) (v := c2 41 5) c_206_110 kf_8_102 rfl (Nat.le_of_ble_eq_true rfl) rfl rfl (hid kn_28) (q_iconst c_206_113 (v_ic_eq_t (t := 119) c_206_114 rfl ((q_65c5ff97d h_4 h_5)) (q_aload_n c_206_119 rfl (q_iload_n c_206_120 rfl (v_pi (z := 47) c_206_121 kf_8_176 rfl (Nat.le_of_ble_eq_true rfl) rfl rfl rfl (of_decide_eq_true rfl) (q_aload_n c_206_124 rfl (q_aload_n c_206_125 rfl ?_)))))))
        refine v_gr (t := 61) c_206_126 kf_8_74 rfl (Nat.le_of_ble_eq_true rfl) rfl (q_aload_n c_206_129 rfl (v_gr (t := 62) c_206_130 kf_8_77 rfl (Nat.le_of_ble_eq_true rfl) rfl (v_bip c_206_133 (of_decide_eq_true rfl) (v_cv c_206_135 km_8_169 rfl rfl (Nat.le_of_ble_eq_true rfl) ⟨⟨rfl, rfl⟩, Nat.le_of_ble_eq_true rfl, rfl⟩ (Nat.le_of_ble_eq_true rfl) (Nat.le_of_ble_eq_true rfl) (s_148 (f := 61) (t := 62) (nf := 8) (nt := 8) (n := 8) rfl rfl (of_decide_eq_true rfl) (of_decide_eq_true rfl) (of_decide_eq_true rfl) (of_decide_eq_true rfl) (of_decide_eq_true rfl) (by omega) (bk_inl (q_iload_n c_206_138 rfl (q_iret c_206_139 rfl ?_))))))))
        have hI_29 := iw_41_47 (v := v2) hI_24 ⟨hv2.1, hv2.2⟩
        have hI_30 := cp_61_62 hI_29
        have kn_31 : Hid (c_14 41 2 = c2 41 2) := hF_16 41 2 (fun h => absurd h.2 (ni rfl))
        have kn_32 : Hid (c_23 41 2 = c2 41 2) := (hF_25 41 2 (fun h => absurd h.2 (ni rfl))).trans (hid kn_31)
        have h_33 : (upc (up c_23 41 47 v2) 61 0 62 0 8) 41 2 = c2 41 2 := ((upc_c (by omega)).trans ((up_n (ni rfl)).trans (hid kn_32)))
        exact K (upc (up c_23 41 47 v2) 61 0 62 0 8) y_26 hI_30 (fun a j hm => (upc_c (fun h => hm (Or.inr (Or.inr (Or.inr (Or.inr (Or.inr (Or.inr (Or.inr (Or.inr (Or.inr (Or.inr (Or.inr h))))))))))))).trans ((up_b (Decidable.or_iff_not_imp_left.mpr (fun h1 h2 => hm (Or.inr (Or.inr (Or.inr (Or.inr (Or.inr (Or.inr (Or.inr (Or.inr (Or.inr (Or.inl ⟨Decidable.not_not.mp h1, h2⟩))))))))))))).trans ((hF_25 a j (qv_021be712d hm)).trans ((hF_16 a j (fun h => hm (Or.inr (Or.inr (Or.inr (Or.inr (Or.inl h))))))).trans (hF a j hm))))) hy_26 (Or.inl ⟨by first | (clear ha1 hv2 h_1 h_2 h_3 h_4 h_5 h_13 h_21 h_18 h_22 h_19 h_20; omega) | omega, by first | (clear ha1 hv2 h_1 h_2 h_3 h_4 h_5 h_13 h_21 h_18 h_22 h_19 h_20; omega) | omega, by first | (clear ha1 hv2 h_1 h_2 h_3 h_4 h_5 h_13 h_21 h_18 h_22 h_19 h_20; omega) | omega, by first | (clear ha1 hv2 h_1 h_2 h_3 h_4 h_5 h_13 h_21 h_18 h_22 h_19 h_20; omega) | omega⟩)
      · refine v_if_eq_f (t := 103) c_206_33 rfl ⟨h_22, ⟨(lel hy_17.1 rfl), (ler hy_17.2 rfl)⟩, of_decide_eq_true rfl, of_decide_eq_true rfl⟩ (q_aload_n c_206_36 rfl (v_gi (z := 4) (v := c_14 41 4) c_206_37 kf_8_108 rfl (Nat.le_of_ble_eq_true rfl) rfl rfl rfl (q_istore_n c_206_40 (Nat.le_of_ble_eq_true rfl) (q_aload_n c_206_41 rfl (q_iconst c_206_42 (q_aload_n c_206_43 rfl ?_))))))
        have h_34 := ir_41_22 hI
        have kn_35 : Hid (c2 41 22 = c 41 22) := hF 41 22 qn_702a72872
        have kn_36 : Hid (c_14 41 22 = c 41 22) := (hF_16 41 22 (fun h => absurd h.2 (ni rfl))).trans (hid kn_35)
        refine v_gi (z := 22) (v := c 41 22) c_206_44 kf_8_163 rfl (Nat.le_of_ble_eq_true rfl) rfl rfl (hid kn_36) (q_iconst c_206_47 (v_isub (v := c 41 22 - 1) c_206_48 rfl ?_))
        have kn_37 : Hid (c_14 41 3 = c2 41 3) := hF_16 41 3 (fun h => absurd h.2 (ni rfl))
        have h_38 : c_14 41 3 = c2 41 3 := (hid kn_37)
        have kn_39 : Hid (c_14 41 5 = c2 41 5) := hF_16 41 5 (fun h => absurd h.2 (ni rfl))
        have h_40 : c_14 41 5 = c2 41 5 := (hid kn_39)
        refine v_cv c_206_49 km_8_199 rfl rfl (Nat.le_of_ble_eq_true rfl) ⟨⟨rfl, rfl⟩, Nat.le_of_ble_eq_true rfl, rfl⟩ (Nat.le_of_ble_eq_true rfl) (Nat.le_of_ble_eq_true rfl) (s_160 (a1 := 0) (a2 := c 41 22 - 1) hI_15 (show 0 ≤ 0 ∧ 0 ≤ 1 from ⟨of_decide_eq_true rfl, of_decide_eq_true rfl⟩) (show (-1) ≤ c 41 22 - 1 ∧ c 41 22 - 1 ≤ 9999 from ⟨(q_452b39485 h_34), (q_6915b49e7 h_34)⟩) (fun c_41 y_44 hI_42 hF_43 hy_44 h_45 h_46 h_47 h_48 h_49 => (bk_inl ?_)))
        have h_50 := ir_41_4 hI_42
        have h_51 := ir_41_5 hI_42
        refine q_istore c_206_52 (Nat.le_of_ble_eq_true rfl) (q_aload_n c_206_54 rfl (v_cv c_206_55 km_8_131 rfl rfl (Nat.le_of_ble_eq_true rfl) ⟨⟨rfl, rfl⟩, Nat.le_of_ble_eq_true rfl, rfl⟩ (Nat.le_of_ble_eq_true rfl) (Nat.le_of_ble_eq_true rfl) (q_aload_n c_152_0 rfl (v_gi (z := 5) (v := c_41 41 5) c_152_1 kf_8_102 rfl (Nat.le_of_ble_eq_true rfl) rfl rfl rfl (q_iconst c_152_4 ?_)))))
        by_cases h_52 : c_41 41 5 ≠ (-1)
        · refine v_ic_ne_t (t := 12) c_152_5 rfl ⟨h_52, ⟨(lel h_51.1 rfl), (ler h_51.2 rfl)⟩, of_decide_eq_true rfl, of_decide_eq_true rfl⟩ (q_iconst c_152_12 (v_zret c_152_13 rfl (of_decide_eq_true rfl) (bk_inl (v_if_eq_t (t := 73) c_206_58 rfl (of_decide_eq_true rfl) (q_aload_n c_206_73 rfl (v_bip c_206_74 (of_decide_eq_true rfl) ?_))))))
          have kn_53 : Hid (c_41 41 3 = c2 41 3) := (hF_43 41 3 qn_97fd72088).trans (hid kn_37)
          have h_54 : c_41 41 3 = c2 41 3 := (hid kn_53)
          refine v_cv c_206_76 km_8_229 rfl rfl (Nat.le_of_ble_eq_true rfl) ⟨⟨rfl, rfl⟩, Nat.le_of_ble_eq_true rfl, rfl⟩ (Nat.le_of_ble_eq_true rfl) (Nat.le_of_ble_eq_true rfl) (s_161 (a1 := 59) hI_42 (show 1 ≤ 59 ∧ 59 ≤ 255 from ⟨of_decide_eq_true rfl, of_decide_eq_true rfl⟩) (fun c_55 hI_56 hF_57 h_58 h_59 h_60 h_61 => (bk_inl ?_)))
          have h_62 := ir_41_4 hI_56
          have h_63 := ir_41_5 hI_56
          refine q_aload_n c_206_79 rfl (v_cv c_206_80 km_8_131 rfl rfl (Nat.le_of_ble_eq_true rfl) ⟨⟨rfl, rfl⟩, Nat.le_of_ble_eq_true rfl, rfl⟩ (Nat.le_of_ble_eq_true rfl) (Nat.le_of_ble_eq_true rfl) (q_aload_n c_152_0 rfl (v_gi (z := 5) (v := c_55 41 5) c_152_1 kf_8_102 rfl (Nat.le_of_ble_eq_true rfl) rfl rfl rfl (q_iconst c_152_4 (v_ic_ne_t (t := 12) c_152_5 rfl ⟨(q_9ee567b18 h_52 h_60), ⟨(lel h_63.1 rfl), (ler h_63.2 rfl)⟩, of_decide_eq_true rfl, of_decide_eq_true rfl⟩ (q_iconst c_152_12 (v_zret c_152_13 rfl (of_decide_eq_true rfl) ?_)))))))
          refine bk_inl (v_if_ne_f (t := 89) c_206_83 rfl (of_decide_eq_true rfl) (q_goto (t := 103) c_206_86 rfl (q_aload_n c_206_103 rfl (q_iload_n c_206_104 rfl (v_cv c_206_105 km_8_232 rfl rfl (Nat.le_of_ble_eq_true rfl) ⟨⟨rfl, rfl⟩, Nat.le_of_ble_eq_true rfl, rfl⟩ (Nat.le_of_ble_eq_true rfl) (Nat.le_of_ble_eq_true rfl) (s_164 (a1 := v2) hI_56 (show (-2147483648) ≤ v2 ∧ v2 ≤ 2147483647 from ⟨(lel hv2.1 rfl), (ler hv2.2 rfl)⟩) (fun c_64 y_67 hI_65 hF_66 hy_67 => (bk_inl (q_istore_n c_206_108 (Nat.le_of_ble_eq_true rfl) ?_)))))))))
          refine q_aload_n c_206_109 rfl ?_
          have kn_68 : Hid (c_64 41 5 = c_55 41 5) := hF_66 41 5 (fun h => absurd h.2 (ni rfl))
          refine v_gi (z := 5) (v := c_55 41 5) c_206_110 kf_8_102 rfl (Nat.le_of_ble_eq_true rfl) rfl rfl (hid kn_68) (q_iconst c_206_113 (v_ic_eq_f (t := 119) c_206_114 rfl ⟨(q_9ee567b18 h_52 h_60), ⟨(lel h_63.1 rfl), (ler h_63.2 rfl)⟩, of_decide_eq_true rfl, of_decide_eq_true rfl⟩ (q_iload_n c_206_117 rfl (q_iret c_206_118 rfl ?_))))
          have kn_69 : Hid (c_14 41 2 = c2 41 2) := hF_16 41 2 (fun h => absurd h.2 (ni rfl))
          have kn_70 : Hid (c_41 41 2 = c2 41 2) := (hF_43 41 2 qn_6151d08e8).trans (hid kn_69)
          have kn_71 : Hid (c_55 41 2 = c2 41 2) := (hF_57 41 2 qn_6151d08e8).trans (hid kn_70)
          have kn_72 : Hid (c_64 41 2 = c2 41 2) := (hF_66 41 2 (fun h => absurd h.2 (ni rfl))).trans (hid kn_71)
          have h_73 : c_64 41 2 = c2 41 2 := (hid kn_72)
          exact K c_64 y_67 hI_65 (fun a j hm => (hF_66 a j (qv_021be712d hm)).trans ((hF_57 a j (qv_0817adc36 hm)).trans ((hF_43 a j (qv_0817adc36 hm)).trans ((hF_16 a j (fun h => hm (Or.inr (Or.inr (Or.inr (Or.inr (Or.inl h))))))).trans (hF a j hm))))) hy_67 (Or.inl ⟨by first | (clear ha1 hv2 h_1 h_2 h_3 h_4 h_5 h_13 h_21 h_18 h_34 h_50 h_45 h_51 h_62 h_58 h_63 h_19 h_20 h_22 h_46 h_47 h_48 h_49 h_52 h_59 h_60 h_61; omega) | omega, by first | (clear ha1 hv2 h_1 h_2 h_3 h_4 h_5 h_13 h_21 h_18 h_34 h_50 h_45 h_51 h_62 h_58 h_63 h_19 h_20 h_22 h_46 h_47 h_48 h_49 h_52 h_59 h_60 h_61; omega) | omega, by first | (clear ha1 hv2 h_1 h_2 h_3 h_4 h_5 h_13 h_21 h_18 h_34 h_50 h_45 h_51 h_62 h_58 h_63 h_19 h_20 h_22 h_46 h_47 h_48 h_49 h_52 h_59 h_60 h_61; omega) | omega, by first | (clear ha1 hv2 h_1 h_2 h_3 h_4 h_5 h_13 h_21 h_18 h_34 h_50 h_45 h_51 h_62 h_58 h_63 h_19 h_20 h_22 h_46 h_47 h_48 h_49 h_52 h_59 h_60 h_61; omega) | omega⟩)
        · refine v_ic_ne_f (t := 12) c_152_5 rfl (Decidable.not_not.mp h_52) (q_iconst c_152_8 (q_goto (t := 13) c_152_9 rfl (v_zret c_152_13 rfl (of_decide_eq_true rfl) (bk_inl (v_if_eq_f (t := 73) c_206_58 rfl (of_decide_eq_true rfl) (q_iload_n c_206_61 rfl (v_bip c_206_62 (of_decide_eq_true rfl) ?_)))))))
          by_cases h_74 : v2 ≠ 8
          · refine v_ic_ne_t (t := 73) c_206_64 rfl ⟨h_74, ⟨(lel hv2.1 rfl), (ler hv2.2 rfl)⟩, of_decide_eq_true rfl, of_decide_eq_true rfl⟩ (q_aload_n c_206_73 rfl (v_bip c_206_74 (of_decide_eq_true rfl) ?_))
            have kn_75 : Hid (c_41 41 3 = c2 41 3) := (hF_43 41 3 qn_97fd72088).trans (hid kn_37)
            have h_76 : c_41 41 3 = c2 41 3 := (hid kn_75)
            refine v_cv c_206_76 km_8_229 rfl rfl (Nat.le_of_ble_eq_true rfl) ⟨⟨rfl, rfl⟩, Nat.le_of_ble_eq_true rfl, rfl⟩ (Nat.le_of_ble_eq_true rfl) (Nat.le_of_ble_eq_true rfl) (s_161 (a1 := 59) hI_42 (show 1 ≤ 59 ∧ 59 ≤ 255 from ⟨of_decide_eq_true rfl, of_decide_eq_true rfl⟩) (fun c_77 hI_78 hF_79 h_80 h_81 h_82 h_83 => (bk_inl ?_)))
            have h_84 := ir_41_4 hI_78
            have h_85 := ir_41_5 hI_78
            refine q_aload_n c_206_79 rfl (v_cv c_206_80 km_8_131 rfl rfl (Nat.le_of_ble_eq_true rfl) ⟨⟨rfl, rfl⟩, Nat.le_of_ble_eq_true rfl, rfl⟩ (Nat.le_of_ble_eq_true rfl) (Nat.le_of_ble_eq_true rfl) (q_aload_n c_152_0 rfl (v_gi (z := 5) (v := c_77 41 5) c_152_1 kf_8_102 rfl (Nat.le_of_ble_eq_true rfl) rfl rfl rfl (q_iconst c_152_4 ?_))))
            by_cases h_86 : c_77 41 5 ≠ (-1)
            · refine v_ic_ne_t (t := 12) c_152_5 rfl ⟨h_86, ⟨(lel h_85.1 rfl), (ler h_85.2 rfl)⟩, of_decide_eq_true rfl, of_decide_eq_true rfl⟩ (q_iconst c_152_12 (v_zret c_152_13 rfl (of_decide_eq_true rfl) (bk_inl (v_if_ne_f (t := 89) c_206_83 rfl (of_decide_eq_true rfl) (q_goto (t := 103) c_206_86 rfl (q_aload_n c_206_103 rfl (q_iload_n c_206_104 rfl ?_)))))))
              refine v_cv c_206_105 km_8_232 rfl rfl (Nat.le_of_ble_eq_true rfl) ⟨⟨rfl, rfl⟩, Nat.le_of_ble_eq_true rfl, rfl⟩ (Nat.le_of_ble_eq_true rfl) (Nat.le_of_ble_eq_true rfl) (s_164 (a1 := v2) hI_78 (show (-2147483648) ≤ v2 ∧ v2 ≤ 2147483647 from ⟨(lel hv2.1 rfl), (ler hv2.2 rfl)⟩) (fun c_87 y_90 hI_88 hF_89 hy_90 => (bk_inl (q_istore_n c_206_108 (Nat.le_of_ble_eq_true rfl) (q_aload_n c_206_109 rfl ?_)))))
              have kn_91 : Hid (c_87 41 5 = c_77 41 5) := hF_89 41 5 (fun h => absurd h.2 (ni rfl))
              refine v_gi (z := 5) (v := c_77 41 5) c_206_110 kf_8_102 rfl (Nat.le_of_ble_eq_true rfl) rfl rfl (hid kn_91) (q_iconst c_206_113 (v_ic_eq_f (t := 119) c_206_114 rfl ⟨(q_bd023a79f h_85 h_86), ⟨(lel h_85.1 rfl), (ler h_85.2 rfl)⟩, of_decide_eq_true rfl, of_decide_eq_true rfl⟩ (q_iload_n c_206_117 rfl (q_iret c_206_118 rfl ?_))))
              have kn_92 : Hid (c_14 41 2 = c2 41 2) := hF_16 41 2 (fun h => absurd h.2 (ni rfl))
              have kn_93 : Hid (c_41 41 2 = c2 41 2) := (hF_43 41 2 qn_6151d08e8).trans (hid kn_92)
              have kn_94 : Hid (c_77 41 2 = c2 41 2) := (hF_79 41 2 qn_6151d08e8).trans (hid kn_93)
              have kn_95 : Hid (c_87 41 2 = c2 41 2) := (hF_89 41 2 (fun h => absurd h.2 (ni rfl))).trans (hid kn_94)
              have h_96 : c_87 41 2 = c2 41 2 := (hid kn_95)
              exact K c_87 y_90 hI_88 (fun a j hm => (hF_89 a j (qv_021be712d hm)).trans ((hF_79 a j (qv_0817adc36 hm)).trans ((hF_43 a j (qv_0817adc36 hm)).trans ((hF_16 a j (fun h => hm (Or.inr (Or.inr (Or.inr (Or.inr (Or.inl h))))))).trans (hF a j hm))))) hy_90 (Or.inl ⟨by first | (clear ha1 hv2 h_1 h_2 h_3 h_4 h_5 h_13 h_21 h_18 h_34 h_50 h_45 h_51 h_52 h_84 h_80 h_85 h_19 h_20 h_22 h_46 h_47 h_48 h_49 h_74 h_81 h_82 h_83 h_86; omega) | omega, by first | (clear ha1 hv2 h_1 h_2 h_3 h_4 h_5 h_13 h_21 h_18 h_34 h_50 h_45 h_51 h_52 h_84 h_80 h_85 h_19 h_20 h_22 h_46 h_47 h_48 h_49 h_74 h_81 h_82 h_83 h_86; omega) | omega, by first | (clear ha1 hv2 h_1 h_2 h_3 h_4 h_5 h_13 h_21 h_18 h_34 h_50 h_45 h_51 h_52 h_84 h_80 h_85 h_19 h_20 h_22 h_46 h_47 h_48 h_49 h_74 h_81 h_82 h_83 h_86; omega) | omega, by first | (clear ha1 hv2 h_1 h_2 h_3 h_4 h_5 h_13 h_21 h_18 h_34 h_50 h_45 h_51 h_52 h_84 h_80 h_85 h_19 h_20 h_22 h_46 h_47 h_48 h_49 h_74 h_81 h_82 h_83 h_86; omega) | omega⟩)
            · refine v_ic_ne_f (t := 12) c_152_5 rfl (Decidable.not_not.mp h_86) (q_iconst c_152_8 (q_goto (t := 13) c_152_9 rfl (v_zret c_152_13 rfl (of_decide_eq_true rfl) (bk_inl (v_if_ne_t (t := 89) c_206_83 rfl (of_decide_eq_true rfl) (q_aload_n c_206_89 rfl (v_gr (t := 61) c_206_90 kf_8_74 rfl (Nat.le_of_ble_eq_true rfl) rfl ?_)))))))
              refine q_iload_n c_206_93 rfl (q_iload c_206_94 rfl (v_is c_206_96 rfl (of_decide_eq_true rfl) (of_decide_eq_true rfl) ⟨hv2.1, (q_dcc5894f5 h_74 hv2)⟩ (v_iinc (v := v2 + 1) c_206_97 rfl (Nat.le_of_ble_eq_true rfl) rfl (q_goto (t := 22) c_206_100 rfl ?_))))
              have hI_97 := iw_61 (j := v2) (v := y_44) hI_78 ⟨hy_44.1, (q_b3cc29c66 h_34 h_47)⟩
              refine Wp_ls [(0, .ref 41), (1, vi a1), (2, vi (v2 + 1))] (lsub_cons rfl (lsub_cons rfl (lsub_cons rfl lsub_nil))) ?_
              have kn_98 : Hid (c_14 41 2 = c2 41 2) := hF_16 41 2 (fun h => absurd h.2 (ni rfl))
              have kn_99 : Hid (c_41 41 2 = c2 41 2) := (hF_43 41 2 qn_6151d08e8).trans (hid kn_98)
              have kn_100 : Hid (c_77 41 2 = c2 41 2) := (hF_79 41 2 qn_6151d08e8).trans (hid kn_99)
              have h_101 : (up c_77 61 v2 y_44) 41 2 = c2 41 2 := ((up_c (nn rfl)).trans (hid kn_100))
              have h_102 : (up c_77 61 v2 y_44) 41 4 = c_77 41 4 := (up_c (nn rfl))
              exact ih (up c_77 61 v2 y_44) (v2 + 1) hI_97 (fun a j hm => (up_b (Decidable.or_iff_not_imp_left.mpr (fun h1 h2 => hm (Or.inr (Or.inr (Or.inr (Or.inr (Or.inr (Or.inr (Or.inr (Or.inr (Or.inr (Or.inr (Or.inl (Decidable.not_not.mp h1))))))))))))))).trans ((hF_79 a j (qv_0817adc36 hm)).trans ((hF_43 a j (qv_0817adc36 hm)).trans ((hF_16 a j (fun h => hm (Or.inr (Or.inr (Or.inr (Or.inr (Or.inl h))))))).trans (hF a j hm))))) ⟨(rgp_l hv2.1 (of_decide_eq_true rfl)), (q_6dd620985 h_74 hv2)⟩ ⟨by first | (clear ha1 hv2 h_1 h_2 h_3 h_4 h_5 h_13 h_21 h_18 h_34 h_50 h_45 h_51 h_52 h_84 h_80 h_85 h_86 h_19 h_20 h_22 h_46 h_47 h_48 h_49 h_74 h_81 h_82 h_83; omega) | omega, by first | (clear ha1 hv2 h_1 h_2 h_3 h_4 h_5 h_13 h_21 h_18 h_34 h_50 h_45 h_51 h_52 h_84 h_80 h_85 h_86 h_19 h_20 h_22 h_46 h_47 h_48 h_49 h_74 h_81 h_82 h_83; omega) | omega, by first | (clear ha1 hv2 h_1 h_2 h_3 h_4 h_5 h_13 h_21 h_18 h_34 h_50 h_45 h_51 h_52 h_84 h_80 h_85 h_86 h_19 h_20 h_22 h_46 h_47 h_48 h_49 h_74 h_81 h_82 h_83; omega) | omega, by first | (clear ha1 hv2 h_1 h_2 h_3 h_4 h_5 h_13 h_21 h_18 h_34 h_50 h_45 h_51 h_52 h_84 h_80 h_85 h_86 h_19 h_20 h_22 h_46 h_47 h_48 h_49 h_74 h_81 h_82 h_83; omega) | omega⟩ (by omega)
          · refine v_ic_ne_f (t := 73) c_206_64 rfl (Decidable.not_not.mp h_74) (q_aload_n c_206_67 rfl (q_iconst c_206_68 (q_iload_n c_206_69 rfl (v_cv c_206_70 km_8_138 rfl rfl (Nat.le_of_ble_eq_true rfl) ⟨⟨rfl, rfl⟩, Nat.le_of_ble_eq_true rfl, rfl⟩ (Nat.le_of_ble_eq_true rfl) (Nat.le_of_ble_eq_true rfl) (s_153 (a1 := 3) (a2 := c_14 41 4) hI_42 (show 1 ≤ 3 ∧ 3 ≤ 3 from ⟨of_decide_eq_true rfl, of_decide_eq_true rfl⟩) (show 0 ≤ c_14 41 4 ∧ c_14 41 4 ≤ 605 from h_21) (fun c_103 hI_104 hF_105 h_106 => (bk_inl ?_)))))))
            have h_107 := ir_41_5 hI_104
            refine q_aload_n c_206_73 rfl (v_bip c_206_74 (of_decide_eq_true rfl) ?_)
            have kn_108 : Hid (c_103 41 4 = c_41 41 4) := hF_105 41 4 (fun q => q.elim (fun h => absurd h.2 (ni rfl)) (fun h => absurd h.2 (ni rfl)))
            have h_109 : c_103 41 4 = c_41 41 4 := (hid kn_108)
            have kn_110 : Hid (c_41 41 3 = c2 41 3) := (hF_43 41 3 qn_97fd72088).trans (hid kn_37)
            have kn_111 : Hid (c_103 41 3 = c2 41 3) := (hF_105 41 3 (fun q => q.elim (fun h => absurd h.2 (ni rfl)) (fun h => absurd h.2 (ni rfl)))).trans (hid kn_110)
            have h_112 : c_103 41 3 = c2 41 3 := (hid kn_111)
            refine v_cv c_206_76 km_8_229 rfl rfl (Nat.le_of_ble_eq_true rfl) ⟨⟨rfl, rfl⟩, Nat.le_of_ble_eq_true rfl, rfl⟩ (Nat.le_of_ble_eq_true rfl) (Nat.le_of_ble_eq_true rfl) (s_161 (a1 := 59) hI_104 (show 1 ≤ 59 ∧ 59 ≤ 255 from ⟨of_decide_eq_true rfl, of_decide_eq_true rfl⟩) (fun c_113 hI_114 hF_115 h_116 h_117 h_118 h_119 => (bk_inl ?_)))
            have h_120 := ir_41_4 hI_114
            have h_121 := ir_41_5 hI_114
            refine q_aload_n c_206_79 rfl (v_cv c_206_80 km_8_131 rfl rfl (Nat.le_of_ble_eq_true rfl) ⟨⟨rfl, rfl⟩, Nat.le_of_ble_eq_true rfl, rfl⟩ (Nat.le_of_ble_eq_true rfl) (Nat.le_of_ble_eq_true rfl) (q_aload_n c_152_0 rfl (v_gi (z := 5) (v := c_113 41 5) c_152_1 kf_8_102 rfl (Nat.le_of_ble_eq_true rfl) rfl rfl rfl (q_iconst c_152_4 (v_ic_ne_t (t := 12) c_152_5 rfl ⟨(q_306c376e8 h_106 h_118), ⟨(lel h_121.1 rfl), (ler h_121.2 rfl)⟩, of_decide_eq_true rfl, of_decide_eq_true rfl⟩ (q_iconst c_152_12 (v_zret c_152_13 rfl (of_decide_eq_true rfl) ?_)))))))
            refine bk_inl (v_if_ne_f (t := 89) c_206_83 rfl (of_decide_eq_true rfl) (q_goto (t := 103) c_206_86 rfl (q_aload_n c_206_103 rfl (q_iload_n c_206_104 rfl (v_cv c_206_105 km_8_232 rfl rfl (Nat.le_of_ble_eq_true rfl) ⟨⟨rfl, rfl⟩, Nat.le_of_ble_eq_true rfl, rfl⟩ (Nat.le_of_ble_eq_true rfl) (Nat.le_of_ble_eq_true rfl) (s_164 (a1 := v2) hI_114 (show (-2147483648) ≤ v2 ∧ v2 ≤ 2147483647 from ⟨(lel hv2.1 rfl), (ler hv2.2 rfl)⟩) (fun c_122 y_125 hI_123 hF_124 hy_125 => (bk_inl (q_istore_n c_206_108 (Nat.le_of_ble_eq_true rfl) ?_)))))))))
            refine q_aload_n c_206_109 rfl ?_
            have kn_126 : Hid (c_122 41 5 = c_113 41 5) := hF_124 41 5 (fun h => absurd h.2 (ni rfl))
            refine v_gi (z := 5) (v := c_113 41 5) c_206_110 kf_8_102 rfl (Nat.le_of_ble_eq_true rfl) rfl rfl (hid kn_126) (q_iconst c_206_113 (v_ic_eq_f (t := 119) c_206_114 rfl ⟨(q_306c376e8 h_106 h_118), ⟨(lel h_121.1 rfl), (ler h_121.2 rfl)⟩, of_decide_eq_true rfl, of_decide_eq_true rfl⟩ (q_iload_n c_206_117 rfl (q_iret c_206_118 rfl ?_))))
            have kn_127 : Hid (c_14 41 2 = c2 41 2) := hF_16 41 2 (fun h => absurd h.2 (ni rfl))
            have kn_128 : Hid (c_41 41 2 = c2 41 2) := (hF_43 41 2 qn_6151d08e8).trans (hid kn_127)
            have kn_129 : Hid (c_103 41 2 = c2 41 2) := (hF_105 41 2 (fun q => q.elim (fun h => absurd h.2 (ni rfl)) (fun h => absurd h.2 (ni rfl)))).trans (hid kn_128)
            have kn_130 : Hid (c_113 41 2 = c2 41 2) := (hF_115 41 2 qn_6151d08e8).trans (hid kn_129)
            have kn_131 : Hid (c_122 41 2 = c2 41 2) := (hF_124 41 2 (fun h => absurd h.2 (ni rfl))).trans (hid kn_130)
            have h_132 : c_122 41 2 = c2 41 2 := (hid kn_131)
            exact K c_122 y_125 hI_123 (fun a j hm => (hF_124 a j (qv_021be712d hm)).trans ((hF_115 a j (qv_0817adc36 hm)).trans ((hF_105 a j (qv_f86f83f63 hm)).trans ((hF_43 a j (qv_0817adc36 hm)).trans ((hF_16 a j (fun h => hm (Or.inr (Or.inr (Or.inr (Or.inr (Or.inl h))))))).trans (hF a j hm)))))) hy_125 (Or.inl ⟨by first | (clear ha1 hv2 h_1 h_2 h_3 h_4 h_5 h_13 h_21 h_18 h_34 h_50 h_45 h_51 h_52 h_74 h_107 h_120 h_116 h_121 h_19 h_20 h_22 h_46 h_47 h_48 h_49 h_106 h_117 h_118 h_119; omega) | omega, by first | (clear ha1 hv2 h_1 h_2 h_3 h_4 h_5 h_13 h_21 h_18 h_34 h_50 h_45 h_51 h_52 h_74 h_107 h_120 h_116 h_121 h_19 h_20 h_22 h_46 h_47 h_48 h_49 h_106 h_117 h_118 h_119; omega) | omega, by first | (clear ha1 hv2 h_1 h_2 h_3 h_4 h_5 h_13 h_21 h_18 h_34 h_50 h_45 h_51 h_52 h_74 h_107 h_120 h_116 h_121 h_19 h_20 h_22 h_46 h_47 h_48 h_49 h_106 h_117 h_118 h_119; omega) | omega, by first | (clear ha1 hv2 h_1 h_2 h_3 h_4 h_5 h_13 h_21 h_18 h_34 h_50 h_45 h_51 h_52 h_74 h_107 h_120 h_116 h_121 h_19 h_20 h_22 h_46 h_47 h_48 h_49 h_106 h_117 h_118 h_119; omega) | omega⟩)
set_option maxRecDepth 100000 in
set_option maxHeartbeats 4000000 in
theorem s_206 {sc : List Int32} {e : Int} {d u P Q : Nat} {c : ME} {a1 : Int} {Z : AR → Prop} (hI : Iv u e P Q c) (ha1 : (-2147483648) ≤ a1 ∧ a1 ≤ 2147483647) (K : ∀ (c2 : ME) (y : Int), Iv u e P Q c2 → (∀ (a : Nat) (j : Int), ¬ ((a = 41 ∧ j = 0) ∨ a = 42 ∨ (a = 41 ∧ j = 2) ∨ (a = 41 ∧ j = 3) ∨ (a = 41 ∧ j = 4) ∨ (a = 41 ∧ j = 5) ∨ (a = 41 ∧ j = 6) ∨ (a = 41 ∧ j = 7) ∨ (a = 41 ∧ j = 8) ∨ (a = 41 ∧ j = 47) ∨ a = 61 ∨ a = 62) → c2 a j = c a j) → (-2147483648) ≤ y ∧ y ≤ 2147483647 → ((c2 41 2 = 0 ∧ a1 ≥ 0 ∧ a1 ≤ c 41 2 ∧ a1 ≤ 60) ∨ (c2 41 2 = c 41 2 ∧ a1 < 0) ∨ (c2 41 2 = c 41 2 ∧ a1 > c 41 2) ∨ (c2 41 2 = c 41 2 ∧ a1 > 60)) → Z (.inl (some (vi y)), Wd P Q P P c2, 0, 0)) : Wp sc (d + 9) 206 0 [(0, .ref 41), (1, vi a1)] [] (Wd P Q P P c) 0 0 Z := by
  have hP := iv_P hI
  have hQ := iv_Q hI
  refine q_aload_n c_206_0 rfl (q_iconst c_206_1 (v_pi (z := 0) c_206_2 kf_8_3 rfl (Nat.le_of_ble_eq_true rfl) rfl rfl rfl (of_decide_eq_true rfl) (q_aload_n c_206_5 rfl (q_iload_n c_206_6 rfl (v_cv c_206_7 km_8_381 rfl rfl (Nat.le_of_ble_eq_true rfl) ⟨⟨rfl, rfl⟩, Nat.le_of_ble_eq_true rfl, rfl⟩ (Nat.le_of_ble_eq_true rfl) (Nat.le_of_ble_eq_true rfl) (q_aload_n c_205_0 rfl (q_iload_n c_205_1 rfl ?_)))))))
  by_cases h_134 : a1 < 0
  · refine v_if_lt_t (t := 23) c_205_2 rfl ⟨ha1.1, h_134, of_decide_eq_true rfl⟩ (q_iconst c_205_23 (q_iconst c_205_24 (q_iconst c_205_25 (v_cv c_205_26 km_8_203 rfl rfl (Nat.le_of_ble_eq_true rfl) ⟨⟨rfl, rfl⟩, Nat.le_of_ble_eq_true rfl, rfl⟩ (Nat.le_of_ble_eq_true rfl) (Nat.le_of_ble_eq_true rfl) (q_iload_n c_145_0 rfl (v_if_ne_f (t := 26) c_145_1 rfl (of_decide_eq_true rfl) (q_aload_n c_145_4 rfl ?_)))))))
    refine v_gi (z := 0) (v := 0) c_145_5 kf_8_3 rfl (Nat.le_of_ble_eq_true rfl) rfl rfl (up_e rfl) (v_if_ne_f (t := 26) c_145_8 rfl (of_decide_eq_true rfl) (q_aload_n c_145_11 rfl (q_iload_n c_145_12 rfl (v_pi (z := 0) c_145_13 kf_8_3 rfl (Nat.le_of_ble_eq_true rfl) rfl rfl rfl (of_decide_eq_true rfl) (q_aload_n c_145_16 rfl (v_gr (t := 42) c_145_17 kf_8_7 rfl (Nat.le_of_ble_eq_true rfl) rfl (q_iload_n c_145_20 rfl ?_)))))))
    refine q_dup2 c_145_21 ⟨rfl, rfl⟩ ?_
    have h_135 := ir_42 hI 1
    refine v_ia (v := c 42 1) c_145_22 rfl (of_decide_eq_true rfl) (of_decide_eq_true rfl) (of_decide_eq_true rfl) ((up_c (nn rfl)).trans (up_c (nn rfl))) (q_iconst c_145_23 (v_iadd (v := c 42 1 + 1) c_145_24 rfl (v_nrm (fun y_136 hy_136 => (v_is c_145_25 rfl (of_decide_eq_true rfl) (of_decide_eq_true rfl) (of_decide_eq_true rfl) (q_aload_n c_145_26 rfl (v_gi (z := 0) (v := 1) c_145_27 kf_8_3 rfl (Nat.le_of_ble_eq_true rfl) rfl rfl ((up_c (nn rfl)).trans (up_e rfl)) (v_if_ne_t (t := 37) c_145_30 rfl (of_decide_eq_true rfl) ?_))))))))
    refine q_iconst c_145_37 (v_zret c_145_38 rfl (of_decide_eq_true rfl) (bk_inl (v_zret c_205_29 rfl (of_decide_eq_true rfl) (bk_inl (v_if_ne_f (t := 15) c_206_10 rfl (of_decide_eq_true rfl) (q_iconst c_206_13 (q_iret c_206_14 rfl ?_)))))))
    have hI_137 := iw_41_0 (v := 0) hI ⟨of_decide_eq_true rfl, of_decide_eq_true rfl⟩
    have hI_138 := iw_41_0 (v := 1) hI_137 ⟨of_decide_eq_true rfl, of_decide_eq_true rfl⟩
    have hI_139 := iw_42 (j := 1) (v := y_136) hI_138 ⟨hy_136.1, hy_136.2⟩
    have h_140 := ir_41_2 hI
    have h_141 : (up (up (up c 41 0 0) 41 0 1) 42 1 y_136) 41 2 = c 41 2 := ((up_c (nn rfl)).trans ((up_n (ni rfl)).trans (up_n (ni rfl))))
    exact K (up (up (up c 41 0 0) 41 0 1) 42 1 y_136) 0 hI_139 (fun a j hm => (up_b (Decidable.or_iff_not_imp_left.mpr (fun h1 h2 => hm (Or.inr (Or.inl (Decidable.not_not.mp h1)))))).trans ((up_b (Decidable.or_iff_not_imp_left.mpr (fun h1 h2 => hm (Or.inl ⟨Decidable.not_not.mp h1, h2⟩)))).trans (up_b (Decidable.or_iff_not_imp_left.mpr (fun h1 h2 => hm (Or.inl ⟨Decidable.not_not.mp h1, h2⟩)))))) ⟨of_decide_eq_true rfl, of_decide_eq_true rfl⟩ (Or.inr (Or.inl ⟨by first | assumption | omega, (q_e97a17f6e h_134)⟩))
  · refine v_if_lt_f (t := 23) c_205_2 rfl ⟨of_decide_eq_true rfl, (Int.not_lt.mp h_134), ha1.2⟩ (q_iload_n c_205_5 rfl (q_aload_n c_205_6 rfl ?_))
    have h_142 := ir_41_2 hI
    refine v_gi (z := 2) (v := c 41 2) c_205_7 kf_8_99 rfl (Nat.le_of_ble_eq_true rfl) rfl rfl (up_n (ni rfl)) ?_
    by_cases h_143 : a1 > c 41 2
    · refine v_ic_gt_t (t := 23) c_205_10 rfl ⟨(lel h_142.1 rfl), h_143, ha1.2⟩ (q_iconst c_205_23 (q_iconst c_205_24 (q_iconst c_205_25 (v_cv c_205_26 km_8_203 rfl rfl (Nat.le_of_ble_eq_true rfl) ⟨⟨rfl, rfl⟩, Nat.le_of_ble_eq_true rfl, rfl⟩ (Nat.le_of_ble_eq_true rfl) (Nat.le_of_ble_eq_true rfl) (q_iload_n c_145_0 rfl (v_if_ne_f (t := 26) c_145_1 rfl (of_decide_eq_true rfl) (q_aload_n c_145_4 rfl ?_)))))))
      refine v_gi (z := 0) (v := 0) c_145_5 kf_8_3 rfl (Nat.le_of_ble_eq_true rfl) rfl rfl (up_e rfl) (v_if_ne_f (t := 26) c_145_8 rfl (of_decide_eq_true rfl) (q_aload_n c_145_11 rfl (q_iload_n c_145_12 rfl (v_pi (z := 0) c_145_13 kf_8_3 rfl (Nat.le_of_ble_eq_true rfl) rfl rfl rfl (of_decide_eq_true rfl) (q_aload_n c_145_16 rfl (v_gr (t := 42) c_145_17 kf_8_7 rfl (Nat.le_of_ble_eq_true rfl) rfl (q_iload_n c_145_20 rfl ?_)))))))
      refine q_dup2 c_145_21 ⟨rfl, rfl⟩ ?_
      have h_144 := ir_42 hI 1
      refine v_ia (v := c 42 1) c_145_22 rfl (of_decide_eq_true rfl) (of_decide_eq_true rfl) (of_decide_eq_true rfl) ((up_c (nn rfl)).trans (up_c (nn rfl))) (q_iconst c_145_23 (v_iadd (v := c 42 1 + 1) c_145_24 rfl (v_nrm (fun y_145 hy_145 => (v_is c_145_25 rfl (of_decide_eq_true rfl) (of_decide_eq_true rfl) (of_decide_eq_true rfl) (q_aload_n c_145_26 rfl (v_gi (z := 0) (v := 1) c_145_27 kf_8_3 rfl (Nat.le_of_ble_eq_true rfl) rfl rfl ((up_c (nn rfl)).trans (up_e rfl)) (v_if_ne_t (t := 37) c_145_30 rfl (of_decide_eq_true rfl) ?_))))))))
      refine q_iconst c_145_37 (v_zret c_145_38 rfl (of_decide_eq_true rfl) (bk_inl (v_zret c_205_29 rfl (of_decide_eq_true rfl) (bk_inl (v_if_ne_f (t := 15) c_206_10 rfl (of_decide_eq_true rfl) (q_iconst c_206_13 (q_iret c_206_14 rfl ?_)))))))
      have hI_146 := iw_41_0 (v := 0) hI ⟨of_decide_eq_true rfl, of_decide_eq_true rfl⟩
      have hI_147 := iw_41_0 (v := 1) hI_146 ⟨of_decide_eq_true rfl, of_decide_eq_true rfl⟩
      have hI_148 := iw_42 (j := 1) (v := y_145) hI_147 ⟨hy_145.1, hy_145.2⟩
      have h_149 : (up (up (up c 41 0 0) 41 0 1) 42 1 y_145) 41 2 = c 41 2 := ((up_c (nn rfl)).trans ((up_n (ni rfl)).trans (up_n (ni rfl))))
      exact K (up (up (up c 41 0 0) 41 0 1) 42 1 y_145) 0 hI_148 (fun a j hm => (up_b (Decidable.or_iff_not_imp_left.mpr (fun h1 h2 => hm (Or.inr (Or.inl (Decidable.not_not.mp h1)))))).trans ((up_b (Decidable.or_iff_not_imp_left.mpr (fun h1 h2 => hm (Or.inl ⟨Decidable.not_not.mp h1, h2⟩)))).trans (up_b (Decidable.or_iff_not_imp_left.mpr (fun h1 h2 => hm (Or.inl ⟨Decidable.not_not.mp h1, h2⟩)))))) ⟨of_decide_eq_true rfl, of_decide_eq_true rfl⟩ (Or.inr (Or.inr (Or.inl ⟨by first | assumption | omega, (q_0e7f65a30 h_143)⟩)))
    · refine v_ic_gt_f (t := 23) c_205_10 rfl ⟨ha1.1, (Int.not_lt.mp h_143), (ler h_142.2 rfl)⟩ (q_iload_n c_205_13 rfl (v_bip c_205_14 (of_decide_eq_true rfl) ?_))
      by_cases h_150 : a1 > 60
      · refine v_ic_gt_t (t := 23) c_205_16 rfl ⟨of_decide_eq_true rfl, h_150, ha1.2⟩ (q_iconst c_205_23 (q_iconst c_205_24 (q_iconst c_205_25 (v_cv c_205_26 km_8_203 rfl rfl (Nat.le_of_ble_eq_true rfl) ⟨⟨rfl, rfl⟩, Nat.le_of_ble_eq_true rfl, rfl⟩ (Nat.le_of_ble_eq_true rfl) (Nat.le_of_ble_eq_true rfl) (q_iload_n c_145_0 rfl (v_if_ne_f (t := 26) c_145_1 rfl (of_decide_eq_true rfl) (q_aload_n c_145_4 rfl ?_)))))))
        refine v_gi (z := 0) (v := 0) c_145_5 kf_8_3 rfl (Nat.le_of_ble_eq_true rfl) rfl rfl (up_e rfl) (v_if_ne_f (t := 26) c_145_8 rfl (of_decide_eq_true rfl) (q_aload_n c_145_11 rfl (q_iload_n c_145_12 rfl (v_pi (z := 0) c_145_13 kf_8_3 rfl (Nat.le_of_ble_eq_true rfl) rfl rfl rfl (of_decide_eq_true rfl) (q_aload_n c_145_16 rfl (v_gr (t := 42) c_145_17 kf_8_7 rfl (Nat.le_of_ble_eq_true rfl) rfl (q_iload_n c_145_20 rfl ?_)))))))
        refine q_dup2 c_145_21 ⟨rfl, rfl⟩ ?_
        have h_151 := ir_42 hI 1
        refine v_ia (v := c 42 1) c_145_22 rfl (of_decide_eq_true rfl) (of_decide_eq_true rfl) (of_decide_eq_true rfl) ((up_c (nn rfl)).trans (up_c (nn rfl))) (q_iconst c_145_23 (v_iadd (v := c 42 1 + 1) c_145_24 rfl (v_nrm (fun y_152 hy_152 => (v_is c_145_25 rfl (of_decide_eq_true rfl) (of_decide_eq_true rfl) (of_decide_eq_true rfl) (q_aload_n c_145_26 rfl (v_gi (z := 0) (v := 1) c_145_27 kf_8_3 rfl (Nat.le_of_ble_eq_true rfl) rfl rfl ((up_c (nn rfl)).trans (up_e rfl)) (v_if_ne_t (t := 37) c_145_30 rfl (of_decide_eq_true rfl) ?_))))))))
        refine q_iconst c_145_37 (v_zret c_145_38 rfl (of_decide_eq_true rfl) (bk_inl (v_zret c_205_29 rfl (of_decide_eq_true rfl) (bk_inl (v_if_ne_f (t := 15) c_206_10 rfl (of_decide_eq_true rfl) (q_iconst c_206_13 (q_iret c_206_14 rfl ?_)))))))
        have hI_153 := iw_41_0 (v := 0) hI ⟨of_decide_eq_true rfl, of_decide_eq_true rfl⟩
        have hI_154 := iw_41_0 (v := 1) hI_153 ⟨of_decide_eq_true rfl, of_decide_eq_true rfl⟩
        have hI_155 := iw_42 (j := 1) (v := y_152) hI_154 ⟨hy_152.1, hy_152.2⟩
        have h_156 : (up (up (up c 41 0 0) 41 0 1) 42 1 y_152) 41 2 = c 41 2 := ((up_c (nn rfl)).trans ((up_n (ni rfl)).trans (up_n (ni rfl))))
        exact K (up (up (up c 41 0 0) 41 0 1) 42 1 y_152) 0 hI_155 (fun a j hm => (up_b (Decidable.or_iff_not_imp_left.mpr (fun h1 h2 => hm (Or.inr (Or.inl (Decidable.not_not.mp h1)))))).trans ((up_b (Decidable.or_iff_not_imp_left.mpr (fun h1 h2 => hm (Or.inl ⟨Decidable.not_not.mp h1, h2⟩)))).trans (up_b (Decidable.or_iff_not_imp_left.mpr (fun h1 h2 => hm (Or.inl ⟨Decidable.not_not.mp h1, h2⟩)))))) ⟨of_decide_eq_true rfl, of_decide_eq_true rfl⟩ (Or.inr (Or.inr (Or.inr ⟨by first | assumption | omega, (q_9336c0ad2 h_150)⟩)))
      · refine v_ic_gt_f (t := 23) c_205_16 rfl ⟨ha1.1, (Int.not_lt.mp h_150), of_decide_eq_true rfl⟩ (q_iconst c_205_19 (q_goto (t := 24) c_205_20 rfl (q_iconst c_205_24 (q_iconst c_205_25 (v_cv c_205_26 km_8_203 rfl rfl (Nat.le_of_ble_eq_true rfl) ⟨⟨rfl, rfl⟩, Nat.le_of_ble_eq_true rfl, rfl⟩ (Nat.le_of_ble_eq_true rfl) (Nat.le_of_ble_eq_true rfl) (q_iload_n c_145_0 rfl (v_if_ne_t (t := 26) c_145_1 rfl (of_decide_eq_true rfl) ?_)))))))
        refine q_aload_n c_145_26 rfl (v_gi (z := 0) (v := 0) c_145_27 kf_8_3 rfl (Nat.le_of_ble_eq_true rfl) rfl rfl (up_e rfl) (v_if_ne_f (t := 37) c_145_30 rfl (of_decide_eq_true rfl) (q_iconst c_145_33 (q_goto (t := 38) c_145_34 rfl (v_zret c_145_38 rfl (of_decide_eq_true rfl) (bk_inl (v_zret c_205_29 rfl (of_decide_eq_true rfl) ?_)))))))
        refine bk_inl (v_if_ne_t (t := 15) c_206_10 rfl (of_decide_eq_true rfl) (q_aload_n c_206_15 rfl (q_iload_n c_206_16 rfl ?_)))
        have hI_157 := iw_41_0 (v := 0) hI ⟨of_decide_eq_true rfl, of_decide_eq_true rfl⟩
        refine v_cv c_206_17 km_8_207 rfl rfl (Nat.le_of_ble_eq_true rfl) ⟨⟨rfl, rfl⟩, Nat.le_of_ble_eq_true rfl, rfl⟩ (Nat.le_of_ble_eq_true rfl) (Nat.le_of_ble_eq_true rfl) (s_163 (a1 := a1) hI_157 (show 0 ≤ a1 ∧ a1 ≤ 600 from ⟨(q_720657ba9 h_134), (q_6d55548be h_150)⟩) (fun c_158 hI_159 hF_160 h_161 => (bk_inl ?_)))
        have h_162 := ir_41_2 hI_159
        have h_163 := ir_41_3 hI_159
        have h_164 := ir_41_4 hI_159
        have h_165 := ir_41_5 hI_159
        have h_166 := ir_41_7 hI_159
        refine q_iconst c_206_20 (q_istore_n c_206_21 (Nat.le_of_ble_eq_true rfl) (Wp_ls [(0, .ref 41), (1, vi a1), (2, vi 0)] (lsub_cons rfl (lsub_cons rfl (lsub_cons rfl lsub_nil))) ?_))
        exact (s_206_l (sc := sc) (d := d) hI ha1 K 1214) c_158 0 hI_159 (fun a j hm => (hF_160 a j (qv_bce25eb69 hm)).trans (up_b (Decidable.or_iff_not_imp_left.mpr (fun h1 h2 => hm (Or.inl ⟨Decidable.not_not.mp h1, h2⟩))))) ⟨of_decide_eq_true rfl, of_decide_eq_true rfl⟩ ⟨(q_59baff7b3 h_161 h_162), (q_720657ba9 h_134), (q_0325d56da h_143), (q_8be6814e3 h_150)⟩ (by omega)

