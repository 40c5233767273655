/-! ===== class and reference side by side 7 ===== -/
theorem q_d12bc8d2a {x0 x1 : Int} (f0 : (x0 ≥ 0 ∧ x0 ≤ x1 ∧ x0 ≤ 150)) : 0 ≤ x0 := by omega
theorem q_5ade8dffc {x0 x1 : Int} (f0 : (x0 ≥ 0 ∧ x0 ≤ x1 ∧ x0 ≤ 150)) : x0 ≤ x1 := by omega
theorem q_c25acb4df {x0 x1 : Int} (f0 : (x0 ≥ 0 ∧ x0 ≤ x1 ∧ x0 ≤ 150)) : x0 ≤ 150 := by omega
theorem q_f37fc148c {x0 x1 : Int} (f0 : (x0 ≥ 0 ∧ x0 ≤ x1 ∧ x0 ≤ 150)) : x0 ≤ 600 := by omega
theorem qn_010af1ec6 : ¬ (((41 : Nat) = 41 ∧ (35 : Int) = 2) ∨ ((41 : Nat) = 41 ∧ (35 : Int) = 3) ∨ ((41 : Nat) = 41 ∧ (35 : Int) = 4) ∨ ((41 : Nat) = 41 ∧ (35 : Int) = 5) ∨ ((41 : Nat) = 41 ∧ (35 : Int) = 7) ∨ ((41 : Nat) = 41 ∧ (35 : Int) = 8)) := (fun q => q.elim (fun h => absurd h.2 (ni rfl)) (fun q => q.elim (fun h => absurd h.2 (ni rfl)) (fun q => q.elim (fun h => absurd h.2 (ni rfl)) (fun q => q.elim (fun h => absurd h.2 (ni rfl)) (fun q => q.elim (fun h => absurd h.2 (ni rfl)) (fun h => absurd h.2 (ni rfl)))))))
theorem q_091f1144d {x0 : Int} (f0 : x0 < 16) : ¬ x0 = 16 := by omega
theorem qn_7452710ff : ¬ (((41 : Nat) = 41 ∧ (20 : Int) = 2) ∨ ((41 : Nat) = 41 ∧ (20 : Int) = 3) ∨ ((41 : Nat) = 41 ∧ (20 : Int) = 4) ∨ ((41 : Nat) = 41 ∧ (20 : Int) = 5) ∨ ((41 : Nat) = 41 ∧ (20 : Int) = 7) ∨ ((41 : Nat) = 41 ∧ (20 : Int) = 8)) := (fun q => q.elim (fun h => absurd h.2 (ni rfl)) (fun q => q.elim (fun h => absurd h.2 (ni rfl)) (fun q => q.elim (fun h => absurd h.2 (ni rfl)) (fun q => q.elim (fun h => absurd h.2 (ni rfl)) (fun q => q.elim (fun h => absurd h.2 (ni rfl)) (fun h => absurd h.2 (ni rfl)))))))
theorem qn_b78d71421 : ¬ (((41 : Nat) = 41 ∧ (21 : Int) = 2) ∨ ((41 : Nat) = 41 ∧ (21 : Int) = 3) ∨ ((41 : Nat) = 41 ∧ (21 : Int) = 4) ∨ ((41 : Nat) = 41 ∧ (21 : Int) = 5) ∨ ((41 : Nat) = 41 ∧ (21 : Int) = 7) ∨ ((41 : Nat) = 41 ∧ (21 : Int) = 8)) := (fun q => q.elim (fun h => absurd h.2 (ni rfl)) (fun q => q.elim (fun h => absurd h.2 (ni rfl)) (fun q => q.elim (fun h => absurd h.2 (ni rfl)) (fun q => q.elim (fun h => absurd h.2 (ni rfl)) (fun q => q.elim (fun h => absurd h.2 (ni rfl)) (fun h => absurd h.2 (ni rfl)))))))
theorem qn_702f7a732 : ¬ (((41 : Nat) = 41 ∧ (22 : Int) = 2) ∨ ((41 : Nat) = 41 ∧ (22 : Int) = 3) ∨ ((41 : Nat) = 41 ∧ (22 : Int) = 4) ∨ ((41 : Nat) = 41 ∧ (22 : Int) = 5) ∨ ((41 : Nat) = 41 ∧ (22 : Int) = 7) ∨ ((41 : Nat) = 41 ∧ (22 : Int) = 8)) := (fun q => q.elim (fun h => absurd h.2 (ni rfl)) (fun q => q.elim (fun h => absurd h.2 (ni rfl)) (fun q => q.elim (fun h => absurd h.2 (ni rfl)) (fun q => q.elim (fun h => absurd h.2 (ni rfl)) (fun q => q.elim (fun h => absurd h.2 (ni rfl)) (fun h => absurd h.2 (ni rfl)))))))
theorem qn_eb0d473e8 : ¬ (((41 : Nat) = 41 ∧ (6 : Int) = 2) ∨ ((41 : Nat) = 41 ∧ (6 : Int) = 3) ∨ ((41 : Nat) = 41 ∧ (6 : Int) = 4) ∨ ((41 : Nat) = 41 ∧ (6 : Int) = 5) ∨ ((41 : Nat) = 41 ∧ (6 : Int) = 7) ∨ ((41 : Nat) = 41 ∧ (6 : Int) = 8)) := (fun q => q.elim (fun h => absurd h.2 (ni rfl)) (fun q => q.elim (fun h => absurd h.2 (ni rfl)) (fun q => q.elim (fun h => absurd h.2 (ni rfl)) (fun q => q.elim (fun h => absurd h.2 (ni rfl)) (fun q => q.elim (fun h => absurd h.2 (ni rfl)) (fun h => absurd h.2 (ni rfl)))))))
theorem qn_78d42cb5c {j : Int} : ¬ (((43 : Nat) = 41 ∧ j = 2) ∨ ((43 : Nat) = 41 ∧ j = 3) ∨ ((43 : Nat) = 41 ∧ j = 4) ∨ ((43 : Nat) = 41 ∧ j = 5) ∨ ((43 : Nat) = 41 ∧ j = 7) ∨ ((43 : Nat) = 41 ∧ j = 8)) := (fun q => q.elim (fun h => absurd h.1 (nn rfl)) (fun q => q.elim (fun h => absurd h.1 (nn rfl)) (fun q => q.elim (fun h => absurd h.1 (nn rfl)) (fun q => q.elim (fun h => absurd h.1 (nn rfl)) (fun q => q.elim (fun h => absurd h.1 (nn rfl)) (fun h => absurd h.1 (nn rfl)))))))
theorem qn_18af663b8 : ¬ (((41 : Nat) = 41 ∧ (0 : Int) = 2) ∨ ((41 : Nat) = 41 ∧ (0 : Int) = 3) ∨ ((41 : Nat) = 41 ∧ (0 : Int) = 4) ∨ ((41 : Nat) = 41 ∧ (0 : Int) = 5) ∨ ((41 : Nat) = 41 ∧ (0 : Int) = 7) ∨ ((41 : Nat) = 41 ∧ (0 : Int) = 8)) := (fun q => q.elim (fun h => absurd h.2 (ni rfl)) (fun q => q.elim (fun h => absurd h.2 (ni rfl)) (fun q => q.elim (fun h => absurd h.2 (ni rfl)) (fun q => q.elim (fun h => absurd h.2 (ni rfl)) (fun q => q.elim (fun h => absurd h.2 (ni rfl)) (fun h => absurd h.2 (ni rfl)))))))
theorem qv_573d069e6 {a : Nat} {j : Int} {t0 : Int} (hm : ¬ ((a = 41 ∧ j = 0) ∨ a = 42 ∨ (a = 41 ∧ j = 2) ∨ (a = 41 ∧ j = 3) ∨ (a = 41 ∧ j = 4) ∨ (a = 41 ∧ j = 5) ∨ (a = 41 ∧ j = 6) ∨ (a = 41 ∧ j = 7) ∨ (a = 41 ∧ j = 8) ∨ (a = 41 ∧ j = 34) ∨ a = 56 ∨ a = 57 ∨ a = 60 ∨ (a = 41 ∧ j = 35) ∨ (a = 41 ∧ j = 36) ∨ (a = 41 ∧ j = 37) ∨ (a = 41 ∧ j = 38) ∨ (a = 41 ∧ j = 39) ∨ a = 58 ∨ a = 59 ∨ a = 54 ∨ a = 55)) : ¬ ((a = 41 ∧ j = 4) ∨ (a = 41 ∧ j = 5) ∨ (a = 41 ∧ j = 6) ∨ (a = 41 ∧ j = 7) ∨ (a = 41 ∧ j = 34) ∨ (a = 56 ∧ j ≥ t0)) := (fun q => q.elim (fun h => hm (Or.inr (Or.inr (Or.inr (Or.inr (Or.inl h)))))) (fun q => q.elim (fun h => hm (Or.inr (Or.inr (Or.inr (Or.inr (Or.inr (Or.inl h))))))) (fun q => q.elim (fun h => hm (Or.inr (Or.inr (Or.inr (Or.inr (Or.inr (Or.inr (Or.inl h)))))))) (fun q => q.elim (fun h => hm (Or.inr (Or.inr (Or.inr (Or.inr (Or.inr (Or.inr (Or.inr (Or.inl h))))))))) (fun q => q.elim (fun h => hm (Or.inr (Or.inr (Or.inr (Or.inr (Or.inr (Or.inr (Or.inr (Or.inr (Or.inr (Or.inl h))))))))))) (fun h => hm (Or.inr (Or.inr (Or.inr (Or.inr (Or.inr (Or.inr (Or.inr (Or.inr (Or.inr (Or.inr (Or.inl h.1)))))))))))))))))
theorem qv_5d0a24d61 {a : Nat} {j : Int} (hm : ¬ ((a = 41 ∧ j = 0) ∨ a = 42 ∨ (a = 41 ∧ j = 2) ∨ (a = 41 ∧ j = 3) ∨ (a = 41 ∧ j = 4) ∨ (a = 41 ∧ j = 5) ∨ (a = 41 ∧ j = 6) ∨ (a = 41 ∧ j = 7) ∨ (a = 41 ∧ j = 8) ∨ (a = 41 ∧ j = 34) ∨ a = 56 ∨ a = 57 ∨ a = 60 ∨ (a = 41 ∧ j = 35) ∨ (a = 41 ∧ j = 36) ∨ (a = 41 ∧ j = 37) ∨ (a = 41 ∧ j = 38) ∨ (a = 41 ∧ j = 39) ∨ a = 58 ∨ a = 59 ∨ a = 54 ∨ a = 55)) : ¬ ((a = 41 ∧ j = 2) ∨ (a = 41 ∧ j = 3) ∨ (a = 41 ∧ j = 4) ∨ (a = 41 ∧ j = 5) ∨ (a = 41 ∧ j = 7) ∨ (a = 41 ∧ j = 8)) := (fun q => q.elim (fun h => hm (Or.inr (Or.inr (Or.inl h)))) (fun q => q.elim (fun h => hm (Or.inr (Or.inr (Or.inr (Or.inl h))))) (fun q => q.elim (fun h => hm (Or.inr (Or.inr (Or.inr (Or.inr (Or.inl h)))))) (fun q => q.elim (fun h => hm (Or.inr (Or.inr (Or.inr (Or.inr (Or.inr (Or.inl h))))))) (fun q => q.elim (fun h => hm (Or.inr (Or.inr (Or.inr (Or.inr (Or.inr (Or.inr (Or.inr (Or.inl h))))))))) (fun h => hm (Or.inr (Or.inr (Or.inr (Or.inr (Or.inr (Or.inr (Or.inr (Or.inr (Or.inl h)))))))))))))))
theorem qn_71b2ffb85 {P : Nat} {j : Int} (hP : P = 13 ∨ P = 25) : ¬ (((1 : Nat) = 7 ∧ j = 1) ∨ ((1 : Nat) = 7 ∧ j = 3) ∨ ((1 : Nat) = 7 ∧ j = 4) ∨ (1 : Nat) = 38 ∨ (1 : Nat) = (P + 10) ∨ (1 : Nat) = (P + 11)) := (fun q => q.elim (fun h => absurd h.1 (nn rfl)) (fun q => q.elim (fun h => absurd h.1 (nn rfl)) (fun q => q.elim (fun h => absurd h.1 (nn rfl)) (fun q => q.elim (fun h => absurd h (nn rfl)) (fun q => q.elim (fun h => absurd h (pn hP rfl rfl)) (fun h => absurd h (pn hP rfl rfl)))))))
theorem qn_269a67b9a {P : Nat} {j : Int} (hP : P = 13 ∨ P = 25) : ¬ (((3 : Nat) = 7 ∧ j = 1) ∨ ((3 : Nat) = 7 ∧ j = 3) ∨ ((3 : Nat) = 7 ∧ j = 4) ∨ (3 : Nat) = 38 ∨ (3 : Nat) = (P + 10) ∨ (3 : Nat) = (P + 11)) := (fun q => q.elim (fun h => absurd h.1 (nn rfl)) (fun q => q.elim (fun h => absurd h.1 (nn rfl)) (fun q => q.elim (fun h => absurd h.1 (nn rfl)) (fun q => q.elim (fun h => absurd h (nn rfl)) (fun q => q.elim (fun h => absurd h (pn hP rfl rfl)) (fun h => absurd h (pn hP rfl rfl)))))))
theorem qn_efe248bd6 : ¬ (((41 : Nat) = 41 ∧ (2 : Int) = 35) ∨ ((41 : Nat) = 41 ∧ (2 : Int) = 36) ∨ ((41 : Nat) = 41 ∧ (2 : Int) = 37) ∨ ((41 : Nat) = 41 ∧ (2 : Int) = 38) ∨ ((41 : Nat) = 41 ∧ (2 : Int) = 39) ∨ (41 : Nat) = 58 ∨ (41 : Nat) = 59 ∨ (41 : Nat) = 54 ∨ (41 : Nat) = 55 ∨ (41 : Nat) = 60) := (fun q => q.elim (fun h => absurd h.2 (ni rfl)) (fun q => q.elim (fun h => absurd h.2 (ni rfl)) (fun q => q.elim (fun h => absurd h.2 (ni rfl)) (fun q => q.elim (fun h => absurd h.2 (ni rfl)) (fun q => q.elim (fun h => absurd h.2 (ni rfl)) (fun q => q.elim (fun h => absurd h (nn rfl)) (fun q => q.elim (fun h => absurd h (nn rfl)) (fun q => q.elim (fun h => absurd h (nn rfl)) (fun q => q.elim (fun h => absurd h (nn rfl)) (fun h => absurd h (nn rfl)))))))))))
theorem qn_432ecd73e : ¬ (((41 : Nat) = 41 ∧ (8 : Int) = 35) ∨ ((41 : Nat) = 41 ∧ (8 : Int) = 36) ∨ ((41 : Nat) = 41 ∧ (8 : Int) = 37) ∨ ((41 : Nat) = 41 ∧ (8 : Int) = 38) ∨ ((41 : Nat) = 41 ∧ (8 : Int) = 39) ∨ (41 : Nat) = 58 ∨ (41 : Nat) = 59 ∨ (41 : Nat) = 54 ∨ (41 : Nat) = 55 ∨ (41 : Nat) = 60) := (fun q => q.elim (fun h => absurd h.2 (ni rfl)) (fun q => q.elim (fun h => absurd h.2 (ni rfl)) (fun q => q.elim (fun h => absurd h.2 (ni rfl)) (fun q => q.elim (fun h => absurd h.2 (ni rfl)) (fun q => q.elim (fun h => absurd h.2 (ni rfl)) (fun q => q.elim (fun h => absurd h (nn rfl)) (fun q => q.elim (fun h => absurd h (nn rfl)) (fun q => q.elim (fun h => absurd h (nn rfl)) (fun q => q.elim (fun h => absurd h (nn rfl)) (fun h => absurd h (nn rfl)))))))))))
theorem qn_db91eb030 : ¬ (((41 : Nat) = 41 ∧ (0 : Int) = 35) ∨ ((41 : Nat) = 41 ∧ (0 : Int) = 36) ∨ ((41 : Nat) = 41 ∧ (0 : Int) = 37) ∨ ((41 : Nat) = 41 ∧ (0 : Int) = 38) ∨ ((41 : Nat) = 41 ∧ (0 : Int) = 39) ∨ (41 : Nat) = 58 ∨ (41 : Nat) = 59 ∨ (41 : Nat) = 54 ∨ (41 : Nat) = 55 ∨ (41 : Nat) = 60) := (fun q => q.elim (fun h => absurd h.2 (ni rfl)) (fun q => q.elim (fun h => absurd h.2 (ni rfl)) (fun q => q.elim (fun h => absurd h.2 (ni rfl)) (fun q => q.elim (fun h => absurd h.2 (ni rfl)) (fun q => q.elim (fun h => absurd h.2 (ni rfl)) (fun q => q.elim (fun h => absurd h (nn rfl)) (fun q => q.elim (fun h => absurd h (nn rfl)) (fun q => q.elim (fun h => absurd h (nn rfl)) (fun q => q.elim (fun h => absurd h (nn rfl)) (fun h => absurd h (nn rfl)))))))))))
theorem qv_c507ff00a {a : Nat} {j : Int} (hm : ¬ ((a = 41 ∧ j = 0) ∨ a = 42 ∨ (a = 41 ∧ j = 2) ∨ (a = 41 ∧ j = 3) ∨ (a = 41 ∧ j = 4) ∨ (a = 41 ∧ j = 5) ∨ (a = 41 ∧ j = 6) ∨ (a = 41 ∧ j = 7) ∨ (a = 41 ∧ j = 8) ∨ (a = 41 ∧ j = 34) ∨ a = 56 ∨ a = 57 ∨ a = 60 ∨ (a = 41 ∧ j = 35) ∨ (a = 41 ∧ j = 36) ∨ (a = 41 ∧ j = 37) ∨ (a = 41 ∧ j = 38) ∨ (a = 41 ∧ j = 39) ∨ a = 58 ∨ a = 59 ∨ a = 54 ∨ a = 55)) : ¬ ((a = 41 ∧ j = 35) ∨ (a = 41 ∧ j = 36) ∨ (a = 41 ∧ j = 37) ∨ (a = 41 ∧ j = 38) ∨ (a = 41 ∧ j = 39) ∨ a = 58 ∨ a = 59 ∨ a = 54 ∨ a = 55 ∨ a = 60) := (fun q => q.elim (fun h => hm (Or.inr (Or.inr (Or.inr (Or.inr (Or.inr (Or.inr (Or.inr (Or.inr (Or.inr (Or.inr (Or.inr (Or.inr (Or.inr (Or.inl h))))))))))))))) (fun q => q.elim (fun h => hm (Or.inr (Or.inr (Or.inr (Or.inr (Or.inr (Or.inr (Or.inr (Or.inr (Or.inr (Or.inr (Or.inr (Or.inr (Or.inr (Or.inr (Or.inl h)))))))))))))))) (fun q => q.elim (fun h => hm (Or.inr (Or.inr (Or.inr (Or.inr (Or.inr (Or.inr (Or.inr (Or.inr (Or.inr (Or.inr (Or.inr (Or.inr (Or.inr (Or.inr (Or.inr (Or.inl h))))))))))))))))) (fun q => q.elim (fun h => hm (Or.inr (Or.inr (Or.inr (Or.inr (Or.inr (Or.inr (Or.inr (Or.inr (Or.inr (Or.inr (Or.inr (Or.inr (Or.inr (Or.inr (Or.inr (Or.inr (Or.inl h)))))))))))))))))) (fun q => q.elim (fun h => hm (Or.inr (Or.inr (Or.inr (Or.inr (Or.inr (Or.inr (Or.inr (Or.inr (Or.inr (Or.inr (Or.inr (Or.inr (Or.inr (Or.inr (Or.inr (Or.inr (Or.inr (Or.inl h))))))))))))))))))) (fun q => q.elim (fun h => hm (Or.inr (Or.inr (Or.inr (Or.inr (Or.inr (Or.inr (Or.inr (Or.inr (Or.inr (Or.inr (Or.inr (Or.inr (Or.inr (Or.inr (Or.inr (Or.inr (Or.inr (Or.inr (Or.inl h)))))))))))))))))))) (fun q => q.elim (fun h => hm (Or.inr (Or.inr (Or.inr (Or.inr (Or.inr (Or.inr (Or.inr (Or.inr (Or.inr (Or.inr (Or.inr (Or.inr (Or.inr (Or.inr (Or.inr (Or.inr (Or.inr (Or.inr (Or.inr (Or.inl h))))))))))))))))))))) (fun q => q.elim (fun h => hm (Or.inr (Or.inr (Or.inr (Or.inr (Or.inr (Or.inr (Or.inr (Or.inr (Or.inr (Or.inr (Or.inr (Or.inr (Or.inr (Or.inr (Or.inr (Or.inr (Or.inr (Or.inr (Or.inr (Or.inr (Or.inl h)))))))))))))))))))))) (fun q => q.elim (fun h => hm (Or.inr (Or.inr (Or.inr (Or.inr (Or.inr (Or.inr (Or.inr (Or.inr (Or.inr (Or.inr (Or.inr (Or.inr (Or.inr (Or.inr (Or.inr (Or.inr (Or.inr (Or.inr (Or.inr (Or.inr (Or.inr h)))))))))))))))))))))) (fun h => hm (Or.inr (Or.inr (Or.inr (Or.inr (Or.inr (Or.inr (Or.inr (Or.inr (Or.inr (Or.inr (Or.inr (Or.inr (Or.inl h)))))))))))))))))))))))
theorem q_d508f85d1 {x0 x1 : Int} (f0 : ¬ (x0 < 16)) (f1 : 0 ≤ x1 ∧ x1 ≤ 16) (f2 : x1 = x0) : x0 = 16 := by omega
theorem c_86_0 : mLk 86 0 = some (.aload_n 0, 1) := rfl
theorem c_86_1 : mLk 86 1 = some (.iload_n 1, 1) := rfl
theorem c_86_2 : mLk 86 2 = some (.sipush 150, 3) := rfl
theorem c_86_5 : mLk 86 5 = some (.invokevirtual 81, 3) := rfl
theorem c_82_0 : mLk 82 0 = some (.aload_n 0, 1) := rfl
theorem c_82_1 : mLk 82 1 = some (.iload_n 1, 1) := rfl
theorem c_82_2 : mLk 82 2 = some (.iconst 0, 1) := rfl
theorem c_82_3 : mLk 82 3 = some (.iload_n 2, 1) := rfl
theorem c_82_4 : mLk 82 4 = some (.aload_n 0, 1) := rfl
theorem c_82_5 : mLk 82 5 = some (.getfield 10, 3) := rfl
theorem c_82_8 : mLk 82 8 = some (.getfield 77, 3) := rfl
theorem c_82_11 : mLk 82 11 = some (.invokestatic 278, 3) := rfl
theorem c_82_14 : mLk 82 14 = some (.invokestatic 157, 3) := rfl
theorem c_80_0 : mLk 80 0 = some (.iload_n 0, 1) := rfl
theorem c_80_1 : mLk 80 1 = some (.iload_n 1, 1) := rfl
theorem c_80_2 : mLk 80 2 = some (.if_icmp .lt 12, 3) := rfl
theorem c_80_5 : mLk 80 5 = some (.iload_n 0, 1) := rfl
theorem c_80_6 : mLk 80 6 = some (.iload_n 2, 1) := rfl
theorem c_80_7 : mLk 80 7 = some (.if_icmp .gt 7, 3) := rfl
theorem c_80_10 : mLk 80 10 = some (.iconst 1, 1) := rfl
theorem c_80_11 : mLk 80 11 = some (.goto 4, 3) := rfl
theorem c_80_15 : mLk 80 15 = some (.ireturn, 1) := rfl
theorem c_82_17 : mLk 82 17 = some (.invokevirtual 161, 3) := rfl
theorem c_81_0 : mLk 81 0 = some (.iload_n 1, 1) := rfl
theorem c_81_1 : mLk 81 1 = some (.ifCond .ne 24, 3) := rfl
theorem c_81_25 : mLk 81 25 = some (.return_, 1) := rfl
theorem c_82_20 : mLk 82 20 = some (.aload_n 0, 1) := rfl
theorem c_82_21 : mLk 82 21 = some (.getfield 10, 3) := rfl
theorem c_82_24 : mLk 82 24 = some (.iload_n 1, 1) := rfl
theorem c_82_25 : mLk 82 25 = some (.invokevirtual 348, 3) := rfl
theorem c_74_0 : mLk 74 0 = some (.aload_n 0, 1) := rfl
theorem c_74_1 : mLk 74 1 = some (.iload_n 1, 1) := rfl
theorem c_74_2 : mLk 74 2 = some (.aload_n 0, 1) := rfl
theorem c_74_3 : mLk 74 3 = some (.getfield 19, 3) := rfl
theorem c_74_6 : mLk 74 6 = some (.invokestatic 26, 3) := rfl
theorem c_74_9 : mLk 74 9 = some (.putfield 32, 3) := rfl
theorem c_74_12 : mLk 74 12 = some (.aload_n 0, 1) := rfl
theorem c_74_13 : mLk 74 13 = some (.iconst 0, 1) := rfl
theorem c_74_14 : mLk 74 14 = some (.putfield 35, 3) := rfl
theorem c_74_17 : mLk 74 17 = some (.aload_n 0, 1) := rfl
theorem c_74_18 : mLk 74 18 = some (.iconst 0, 1) := rfl
theorem c_74_19 : mLk 74 19 = some (.putfield 19, 3) := rfl
theorem c_74_22 : mLk 74 22 = some (.aload_n 0, 1) := rfl
theorem c_74_23 : mLk 74 23 = some (.iconst 0, 1) := rfl
theorem c_74_24 : mLk 74 24 = some (.putfield 38, 3) := rfl
theorem c_74_27 : mLk 74 27 = some (.aload_n 0, 1) := rfl
theorem c_74_28 : mLk 74 28 = some (.iconst (-1), 1) := rfl
theorem c_74_29 : mLk 74 29 = some (.putfield 15, 3) := rfl
theorem c_74_32 : mLk 74 32 = some (.return_, 1) := rfl
theorem c_82_28 : mLk 82 28 = some (.return_, 1) := rfl
theorem c_86_8 : mLk 86 8 = some (.aload_n 0, 1) := rfl
theorem c_86_9 : mLk 86 9 = some (.getfield 19, 3) := rfl
theorem c_86_12 : mLk 86 12 = some (.invokevirtual 118, 3) := rfl
theorem c_23_0 : mLk 23 0 = some (.aload_n 0, 1) := rfl
theorem c_23_1 : mLk 23 1 = some (.getfield 21, 3) := rfl
theorem c_23_4 : mLk 23 4 = some (.bipush 16, 2) := rfl
theorem c_23_6 : mLk 23 6 = some (.if_icmp .lt 7, 3) := rfl
theorem c_23_13 : mLk 23 13 = some (.iconst 0, 1) := rfl
theorem c_23_14 : mLk 23 14 = some (.ireturn, 1) := rfl
theorem c_86_15 : mLk 86 15 = some (.ifCond .eq 6, 3) := rfl
theorem c_86_21 : mLk 86 21 = some (.aload_n 0, 1) := rfl
theorem c_86_22 : mLk 86 22 = some (.getfield 26, 3) := rfl
theorem c_86_25 : mLk 86 25 = some (.aload_n 0, 1) := rfl
theorem c_86_26 : mLk 86 26 = some (.getfield 10, 3) := rfl
theorem c_86_29 : mLk 86 29 = some (.aload_n 0, 1) := rfl
theorem c_86_30 : mLk 86 30 = some (.getfield 50, 3) := rfl
theorem c_86_33 : mLk 86 33 = some (.invokevirtual 121, 3) := rfl
theorem c_42_0 : mLk 42 0 = some (.aload_n 0, 1) := rfl
theorem c_42_1 : mLk 42 1 = some (.iconst 0, 1) := rfl
theorem c_42_2 : mLk 42 2 = some (.putfield 15, 3) := rfl
theorem c_42_5 : mLk 42 5 = some (.aload_n 0, 1) := rfl
theorem c_42_6 : mLk 42 6 = some (.iconst 0, 1) := rfl
theorem c_42_7 : mLk 42 7 = some (.putfield 19, 3) := rfl
theorem c_42_10 : mLk 42 10 = some (.aload_n 0, 1) := rfl
theorem c_42_11 : mLk 42 11 = some (.iconst 0, 1) := rfl
theorem c_42_12 : mLk 42 12 = some (.putfield 22, 3) := rfl
theorem c_42_15 : mLk 42 15 = some (.aload_n 0, 1) := rfl
theorem c_42_16 : mLk 42 16 = some (.iconst 0, 1) := rfl
theorem c_42_17 : mLk 42 17 = some (.putfield 25, 3) := rfl
theorem c_42_20 : mLk 42 20 = some (.aload_n 0, 1) := rfl
theorem c_42_21 : mLk 42 21 = some (.aload_n 1, 1) := rfl
theorem c_42_22 : mLk 42 22 = some (.aload_n 2, 1) := rfl
theorem c_42_23 : mLk 42 23 = some (.iconst 0, 1) := rfl
theorem c_42_24 : mLk 42 24 = some (.invokevirtual 28, 3) := rfl
theorem c_42_27 : mLk 42 27 = some (.return_, 1) := rfl
theorem c_86_36 : mLk 86 36 = some (.aload_n 0, 1) := rfl
theorem c_86_37 : mLk 86 37 = some (.getfield 10, 3) := rfl
theorem c_86_40 : mLk 86 40 = some (.invokevirtual 89, 3) := rfl
theorem c_86_43 : mLk 86 43 = some (.ifCond .eq 45, 3) := rfl
theorem c_86_88 : mLk 86 88 = some (.aload_n 0, 1) := rfl
theorem c_86_89 : mLk 86 89 = some (.aload_n 0, 1) := rfl
theorem c_86_90 : mLk 86 90 = some (.getfield 26, 3) := rfl
theorem c_86_93 : mLk 86 93 = some (.getfield 139, 3) := rfl
theorem c_86_96 : mLk 86 96 = some (.invokevirtual 105, 3) := rfl
theorem c_83_0 : mLk 83 0 = some (.aload_n 0, 1) := rfl
theorem c_83_1 : mLk 83 1 = some (.getfield 10, 3) := rfl
theorem c_83_4 : mLk 83 4 = some (.invokevirtual 89, 3) := rfl
theorem c_83_7 : mLk 83 7 = some (.ifCond .eq 7, 3) := rfl
theorem c_83_14 : mLk 83 14 = some (.aload_n 0, 1) := rfl
theorem c_83_15 : mLk 83 15 = some (.getfield 10, 3) := rfl
theorem c_83_18 : mLk 83 18 = some (.getfield 351, 3) := rfl
theorem c_83_21 : mLk 83 21 = some (.bipush 10, 2) := rfl
theorem c_83_23 : mLk 83 23 = some (.isub, 1) := rfl
theorem c_83_24 : mLk 83 24 = some (.ireturn, 1) := rfl
theorem c_86_99 : mLk 86 99 = some (.ireturn, 1) := rfl
theorem c_202_0 : mLk 202 0 = some (.aload_n 0, 1) := rfl
theorem c_202_1 : mLk 202 1 = some (.iconst 0, 1) := rfl
theorem c_202_2 : mLk 202 2 = some (.putfield 3, 3) := rfl
theorem c_202_5 : mLk 202 5 = some (.aload_n 0, 1) := rfl
theorem c_202_6 : mLk 202 6 = some (.iload_n 1, 1) := rfl
theorem c_202_7 : mLk 202 7 = some (.ifCond .lt 22, 3) := rfl
theorem c_202_10 : mLk 202 10 = some (.iload_n 1, 1) := rfl
theorem c_202_11 : mLk 202 11 = some (.aload_n 0, 1) := rfl
theorem c_202_12 : mLk 202 12 = some (.getfield 99, 3) := rfl
theorem c_202_15 : mLk 202 15 = some (.if_icmp .gt 14, 3) := rfl
theorem c_202_18 : mLk 202 18 = some (.iload_n 1, 1) := rfl
theorem c_202_19 : mLk 202 19 = some (.sipush 150, 3) := rfl
theorem c_202_22 : mLk 202 22 = some (.if_icmp .gt 7, 3) := rfl
theorem c_202_25 : mLk 202 25 = some (.iconst 1, 1) := rfl
theorem c_202_26 : mLk 202 26 = some (.goto 4, 3) := rfl
theorem c_202_30 : mLk 202 30 = some (.iconst 1, 1) := rfl
theorem c_202_31 : mLk 202 31 = some (.iconst 1, 1) := rfl
theorem c_202_32 : mLk 202 32 = some (.invokevirtual 203, 3) := rfl
theorem c_145_0 : mLk 145 0 = some (.iload_n 1, 1) := rfl
theorem c_145_1 : mLk 145 1 = some (.ifCond .ne 25, 3) := rfl
theorem c_145_26 : mLk 145 26 = some (.aload_n 0, 1) := rfl
theorem c_145_27 : mLk 145 27 = some (.getfield 3, 3) := rfl
theorem c_145_30 : mLk 145 30 = some (.ifCond .ne 7, 3) := rfl
theorem c_145_33 : mLk 145 33 = some (.iconst 1, 1) := rfl
theorem c_145_34 : mLk 145 34 = some (.goto 4, 3) := rfl
theorem c_145_38 : mLk 145 38 = some (.ireturn, 1) := rfl
theorem c_202_35 : mLk 202 35 = some (.ifCond .ne 5, 3) := rfl
theorem c_202_40 : mLk 202 40 = some (.aload_n 0, 1) := rfl
theorem c_202_41 : mLk 202 41 = some (.iload_n 1, 1) := rfl
theorem c_202_42 : mLk 202 42 = some (.invokevirtual 207, 3) := rfl
theorem c_202_45 : mLk 202 45 = some (.aload_n 0, 1) := rfl
theorem c_202_46 : mLk 202 46 = some (.getfield 182, 3) := rfl
theorem c_202_49 : mLk 202 49 = some (.bipush 16, 2) := rfl
theorem c_202_51 : mLk 202 51 = some (.if_icmp .ne 12, 3) := rfl
theorem c_202_63 : mLk 202 63 = some (.aload_n 0, 1) := rfl
theorem c_202_64 : mLk 202 64 = some (.iconst 0, 1) := rfl
theorem c_202_65 : mLk 202 65 = some (.putfield 284, 3) := rfl
theorem c_202_89 : mLk 202 89 = some (.aload_n 0, 1) := rfl
theorem c_202_90 : mLk 202 90 = some (.iconst 0, 1) := rfl
theorem c_202_91 : mLk 202 91 = some (.invokevirtual 232, 3) := rfl
theorem c_164_0 : mLk 164 0 = some (.aload_n 0, 1) := rfl
theorem c_164_1 : mLk 164 1 = some (.aload_n 0, 1) := rfl
theorem c_164_2 : mLk 164 2 = some (.getfield 102, 3) := rfl
theorem c_164_5 : mLk 164 5 = some (.putfield 17, 3) := rfl
theorem c_164_8 : mLk 164 8 = some (.aload_n 0, 1) := rfl
theorem c_164_9 : mLk 164 9 = some (.invokevirtual 131, 3) := rfl
theorem c_164_12 : mLk 164 12 = some (.ifCond .eq 7, 3) := rfl
theorem c_164_19 : mLk 164 19 = some (.aload_n 0, 1) := rfl
theorem c_164_20 : mLk 164 20 = some (.getfield 105, 3) := rfl
theorem c_164_23 : mLk 164 23 = some (.bipush 10, 2) := rfl
theorem c_164_25 : mLk 164 25 = some (.isub, 1) := rfl
theorem c_164_26 : mLk 164 26 = some (.ireturn, 1) := rfl
theorem c_202_94 : mLk 202 94 = some (.istore_n 2, 1) := rfl
theorem c_202_95 : mLk 202 95 = some (.aload_n 0, 1) := rfl
theorem c_202_96 : mLk 202 96 = some (.getfield 102, 3) := rfl
theorem c_202_99 : mLk 202 99 = some (.iconst (-1), 1) := rfl
theorem c_202_100 : mLk 202 100 = some (.if_icmp .eq 5, 3) := rfl
theorem c_202_103 : mLk 202 103 = some (.iload_n 2, 1) := rfl
theorem c_202_104 : mLk 202 104 = some (.ireturn, 1) := rfl
theorem c_86_46 : mLk 86 46 = some (.aload_n 0, 1) := rfl
theorem c_86_47 : mLk 86 47 = some (.getfield 19, 3) := rfl
theorem c_86_50 : mLk 86 50 = some (.aload_n 0, 1) := rfl
theorem c_86_51 : mLk 86 51 = some (.getfield 62, 3) := rfl
theorem c_86_54 : mLk 86 54 = some (.invokevirtual 125, 3) := rfl
theorem c_86_57 : mLk 86 57 = some (.aload_n 0, 1) := rfl
theorem c_86_58 : mLk 86 58 = some (.getfield 26, 3) := rfl
theorem c_86_61 : mLk 86 61 = some (.aload_n 0, 1) := rfl
theorem c_86_62 : mLk 86 62 = some (.getfield 62, 3) := rfl
theorem c_86_65 : mLk 86 65 = some (.iconst 0, 1) := rfl
theorem c_86_66 : mLk 86 66 = some (.aload_n 0, 1) := rfl
theorem c_86_67 : mLk 86 67 = some (.getfield 26, 3) := rfl
theorem c_86_70 : mLk 86 70 = some (.getfield 129, 3) := rfl
theorem c_86_73 : mLk 86 73 = some (.iconst 0, 1) := rfl
theorem c_86_74 : mLk 86 74 = some (.invokevirtual 132, 3) := rfl
theorem c_86_77 : mLk 86 77 = some (.aload_n 0, 1) := rfl
theorem c_86_78 : mLk 86 78 = some (.aload_n 0, 1) := rfl
theorem c_86_79 : mLk 86 79 = some (.getfield 26, 3) := rfl
theorem c_86_82 : mLk 86 82 = some (.getfield 136, 3) := rfl
theorem c_86_85 : mLk 86 85 = some (.putfield 99, 3) := rfl
theorem c_83_10 : mLk 83 10 = some (.iload_n 1, 1) := rfl
theorem c_83_11 : mLk 83 11 = some (.goto 13, 3) := rfl
theorem c_164_15 : mLk 164 15 = some (.iload_n 1, 1) := rfl
theorem c_164_16 : mLk 164 16 = some (.goto 10, 3) := rfl
theorem c_202_105 : mLk 202 105 = some (.aload_n 0, 1) := rfl
theorem c_202_106 : mLk 202 106 = some (.aload_n 0, 1) := rfl
theorem c_202_107 : mLk 202 107 = some (.getfield 59, 3) := rfl
theorem c_202_110 : mLk 202 110 = some (.aload_n 0, 1) := rfl
theorem c_202_111 : mLk 202 111 = some (.getfield 62, 3) := rfl
theorem c_202_114 : mLk 202 114 = some (.aload_n 0, 1) := rfl
theorem c_202_115 : mLk 202 115 = some (.getfield 284, 3) := rfl
theorem c_202_118 : mLk 202 118 = some (.invokevirtual 169, 3) := rfl
theorem c_23_9 : mLk 23 9 = some (.iconst 1, 1) := rfl
theorem c_23_10 : mLk 23 10 = some (.goto 4, 3) := rfl
theorem c_86_18 : mLk 86 18 = some (.bipush (-20), 2) := rfl
theorem c_86_20 : mLk 86 20 = some (.ireturn, 1) := rfl
theorem c_202_54 : mLk 202 54 = some (.aload_n 0, 1) := rfl
theorem c_202_55 : mLk 202 55 = some (.iconst 0, 1) := rfl
theorem c_202_56 : mLk 202 56 = some (.invokevirtual 232, 3) := rfl
theorem c_202_59 : mLk 202 59 = some (.pop, 1) := rfl
theorem c_202_60 : mLk 202 60 = some (.bipush (-20), 2) := rfl
theorem c_202_62 : mLk 202 62 = some (.ireturn, 1) := rfl
theorem km_7_81 : a_lk (kM 7) 81 = some (0, 82) := rfl
theorem kf_7_10 : a_lk (kF 7) 10 = some (7, 0) := rfl
theorem kf_7_77 : a_lk (kF 7) 77 = some (5, 3) := rfl
theorem km_7_161 : a_lk (kM 7) 161 = some (0, 81) := rfl
theorem km_7_348 : a_lk (kM 7) 348 = some (0, 74) := rfl
theorem kf_5_19 : a_lk (kF 5) 19 = some (5, 3) := rfl
theorem kf_7_19 : a_lk (kF 7) 19 = some (7, 1) := rfl
theorem km_7_118 : a_lk (kM 7) 118 = some (0, 23) := rfl
theorem kf_1_21 : a_lk (kF 1) 21 = some (1, 3) := rfl
theorem kf_7_26 : a_lk (kF 7) 26 = some (7, 2) := rfl
theorem kf_7_50 : a_lk (kF 7) 50 = some (7, 7) := rfl
theorem km_7_121 : a_lk (kM 7) 121 = some (0, 42) := rfl
theorem kf_3_15 : a_lk (kF 3) 15 = some (3, 1) := rfl
theorem kf_3_22 : a_lk (kF 3) 22 = some (3, 3) := rfl
theorem kf_3_25 : a_lk (kF 3) 25 = some (3, 4) := rfl
theorem km_7_89 : a_lk (kM 7) 89 = some (0, 2) := rfl
theorem kf_7_139 : a_lk (kF 7) 139 = some (3, 3) := rfl
theorem km_7_105 : a_lk (kM 7) 105 = some (0, 83) := rfl
theorem kf_7_351 : a_lk (kF 7) 351 = some (5, 4) := rfl
theorem kf_8_3 : a_lk (kF 8) 3 = some (8, 0) := rfl
theorem kf_8_99 : a_lk (kF 8) 99 = some (8, 2) := rfl
theorem km_8_203 : a_lk (kM 8) 203 = some (0, 145) := rfl
theorem km_8_207 : a_lk (kM 8) 207 = some (0, 163) := rfl
theorem kf_8_182 : a_lk (kF 8) 182 = some (8, 35) := rfl
theorem km_8_232 : a_lk (kM 8) 232 = some (0, 164) := rfl
theorem kf_8_17 : a_lk (kF 8) 17 = some (8, 8) := rfl
theorem kf_7_62 : a_lk (kF 7) 62 = some (7, 9) := rfl
theorem km_7_125 : a_lk (kM 7) 125 = some (0, 24) := rfl
theorem kf_7_129 : a_lk (kF 7) 129 = some (3, 2) := rfl
theorem km_7_132 : a_lk (kM 7) 132 = some (0, 63) := rfl
theorem kf_7_136 : a_lk (kF 7) 136 = some (3, 4) := rfl
theorem kf_7_99 : a_lk (kF 7) 99 = some (7, 11) := rfl
theorem kf_8_62 : a_lk (kF 8) 62 = some (8, 33) := rfl
theorem km_8_169 : a_lk (kM 8) 169 = some (0, 148) := rfl
set_option maxRecDepth 100000 in
set_option maxHeartbeats 4000000 in
theorem L_86t {sc : List Int32} {d dh P Q P2 Q2 : Nat} {c m m9 : ME} {a1 yg t9 wk n0 n1 n2 : Int} {F H : Int → Int} {Z : AR → Prop} (hI : Iv 0 (-1) P2 Q2 c) (hJ : Iv 0 (-1) P Q m) (hJ9 : Iv 0 (-1) P Q m9) (ha1 : (-2147483648) ≤ a1 ∧ a1 ≤ 2147483647) (hyg : (-2147483648) ≤ yg ∧ yg ≤ 2147483647) (hq0 : (a1 ≥ 0 ∧ a1 ≤ t9 ∧ a1 ≤ 150)) (hg_t9 : m 1 3 = t9) (hr_t9 : c 41 2 = t9) (hg_wk : m 3 3 = wk) (hr_wk : c 41 35 = wk) (hg_n0 : m P 0 = n0) (hr_n0 : c 41 20 = n0) (hg_n1 : m P 1 = n1) (hr_n1 : c 41 21 = n1) (hg_n2 : m P 2 = n2) (hr_n2 : c 41 22 = n2) (hF : ∀ j : Int, m 2 j = F j) (hH : ∀ j : Int, c 43 j = H j) (hU : Ub F H) (hG : Wp sc (dh + 50) 86 0 [(0, .ref 0), (1, vi a1)] [] (Wd P Q P P m) 0 0 (fun q => q = (.inl (some (vi yg)), Wd P Q P P m9, 0, 0))) (K : ∀ (c2 : ME) (y : Int), Iv 0 (-1) P2 Q2 c2 → (∀ (a : Nat) (j : Int), ¬ ((a = 41 ∧ j = 0) ∨ a = 42 ∨ (a = 41 ∧ j = 2) ∨ (a = 41 ∧ j = 3) ∨ (a = 41 ∧ j = 4) ∨ (a = 41 ∧ j = 5) ∨ (a = 41 ∧ j = 6) ∨ (a = 41 ∧ j = 7) ∨ (a = 41 ∧ j = 8) ∨ (a = 41 ∧ j = 34) ∨ a = 56 ∨ a = 57 ∨ a = 60 ∨ (a = 41 ∧ j = 35) ∨ (a = 41 ∧ j = 36) ∨ (a = 41 ∧ j = 37) ∨ (a = 41 ∧ j = 38) ∨ (a = 41 ∧ j = 39) ∨ a = 58 ∨ a = 59 ∨ a = 54 ∨ a = 55) → c2 a j = c a j) → (-2147483648) ≤ y ∧ y ≤ 2147483647 → ((c2 41 2 = 0)) → ((c2 41 8 = m9 1 5)) → ((c2 41 0 = 0)) → ((m9 3 3 = c2 41 35)) → Z (.inl (some (vi y)), Wd P2 Q2 P2 P2 c2, 0, 0)) : Wp sc (d + 44) 202 0 [(0, .ref 41), (1, vi a1)] [] (Wd P2 Q2 P2 P2 c) 0 0 Z := by
  have hP := iv_P hJ
  have hQ := iv_Q hJ
  have h_1 := ir_1_3 hJ
  have h_2 := ir_41_2 hI
  have h_3 := ir_3_3 hJ
  have h_4 := ir_41_35 hI
  have h_5 := ir_p0_0 hJ hP
  have h_6 := ir_41_20 hI
  have h_7 := ir_p0_1 hJ hP
  have h_8 := ir_41_21 hI
  have h_9 := ir_p0_2 hJ hP
  have h_10 := ir_41_22 hI
  refine gh hG (q_aload_n c_86_0 rfl (q_iload_n c_86_1 rfl (v_sip c_86_2 (by decide) (v_cv c_86_5 km_7_81 rfl rfl (Nat.le_of_ble_eq_true rfl) ⟨⟨rfl, rfl⟩, Nat.le_of_ble_eq_true rfl, rfl⟩ (Nat.le_of_ble_eq_true rfl) (Nat.le_of_ble_eq_true rfl) (q_aload_n c_82_0 rfl (q_iload_n c_82_1 rfl (q_iconst c_82_2 ?_)))))))
  refine q_iload_n c_82_3 rfl (q_aload_n c_82_4 rfl (v_gr (t := 1) c_82_5 kf_7_10 rfl (Nat.le_of_ble_eq_true rfl) rfl (v_gi (z := 3) (v := t9) c_82_8 kf_7_77 rfl (Nat.le_of_ble_eq_true rfl) rfl rfl (hg_t9) (v_minx c_82_11 rfl (by omega) (Nat.le_of_ble_eq_true rfl) ⟨by omega, by omega, by omega, by omega⟩ (fun y_11 hy_11 => (q_call c_82_14 rfl rfl rfl (q_iload_n c_80_0 rfl (q_iload_n c_80_1 rfl ?_))))))))
  refine v_ic_lt_f (t := 14) c_80_2 rfl ⟨by decide, by first | exact q_d12bc8d2a hq0 | (clear ha1 h_1 hg_t9 h_2 hr_t9 h_3 hg_wk h_4 hr_wk h_5 hg_n0 h_6 hr_n0 h_7 hg_n1 h_8 hr_n1 h_9 hg_n2 h_10 hr_n2; omega) | omega, ha1.2⟩ (q_iload_n c_80_5 rfl (q_iload_n c_80_6 rfl (v_ic_gt_f (t := 14) c_80_7 rfl ⟨ha1.1, by first | (clear h_1 hg_t9 h_2 hr_t9 h_3 hg_wk h_4 hr_wk h_5 hg_n0 h_6 hr_n0 h_7 hg_n1 h_8 hr_n1 h_9 hg_n2 h_10 hr_n2; omega) | omega, by first | (clear ha1 hq0 h_1 hg_t9 h_2 hr_t9 h_3 hg_wk h_4 hr_wk h_5 hg_n0 h_6 hr_n0 h_7 hg_n1 h_8 hr_n1 h_9 hg_n2 h_10 hr_n2; omega) | omega⟩ (q_iconst c_80_10 (q_goto (t := 15) c_80_11 rfl (v_zret c_80_15 rfl (by decide) (bk_inl ?_)))))))
  refine v_cv c_82_17 km_7_161 rfl rfl (Nat.le_of_ble_eq_true rfl) ⟨⟨rfl, rfl⟩, Nat.le_of_ble_eq_true rfl, rfl⟩ (Nat.le_of_ble_eq_true rfl) (Nat.le_of_ble_eq_true rfl) (q_iload_n c_81_0 rfl (v_if_ne_t (t := 25) c_81_1 rfl (by decide) (q_vret c_81_25 rfl (bk_inl (q_aload_n c_82_20 rfl (v_gr (t := 1) c_82_21 kf_7_10 rfl (Nat.le_of_ble_eq_true rfl) rfl (q_iload_n c_82_24 rfl ?_)))))))
  refine v_cv c_82_25 km_7_348 rfl rfl (Nat.le_of_ble_eq_true rfl) ⟨⟨rfl, rfl⟩, Nat.le_of_ble_eq_true rfl, rfl⟩ (Nat.le_of_ble_eq_true rfl) (Nat.le_of_ble_eq_true rfl) (q_aload_n c_74_0 rfl (q_iload_n c_74_1 rfl (q_aload_n c_74_2 rfl (v_gi (z := 3) (v := t9) c_74_3 kf_5_19 rfl (Nat.le_of_ble_eq_true rfl) rfl rfl (hg_t9) (v_minx c_74_6 rfl (by omega) (Nat.le_of_ble_eq_true rfl) ⟨by omega, by omega, by omega, by omega⟩ (fun y_12 hy_12 => (v_pi (z := 1) c_74_9 kf_5_32 rfl (Nat.le_of_ble_eq_true rfl) rfl rfl rfl (by decide) (q_aload_n c_74_12 rfl ?_))))))))
  refine q_iconst c_74_13 (v_pi (z := 2) c_74_14 kf_5_35 rfl (Nat.le_of_ble_eq_true rfl) rfl rfl rfl (by decide) (q_aload_n c_74_17 rfl (q_iconst c_74_18 (v_pi (z := 3) c_74_19 kf_5_19 rfl (Nat.le_of_ble_eq_true rfl) rfl rfl rfl (by decide) (q_aload_n c_74_22 rfl (q_iconst c_74_23 (v_pi (z := 4) c_74_24 kf_5_38 rfl (Nat.le_of_ble_eq_true rfl) rfl rfl rfl (by decide) ?_)))))))
  refine q_aload_n c_74_27 rfl (q_iconst c_74_28 (v_pi (z := 5) c_74_29 kf_5_15 rfl (Nat.le_of_ble_eq_true rfl) rfl rfl rfl (by decide) (q_vret c_74_32 rfl (bk_inl (q_vret c_82_28 rfl (bk_inl (q_aload_n c_86_8 rfl ?_)))))))
  refine v_gr (t := 3) c_86_9 kf_7_19 rfl (Nat.le_of_ble_eq_true rfl) rfl (v_cv c_86_12 km_7_118 rfl rfl (Nat.le_of_ble_eq_true rfl) ⟨⟨rfl, rfl⟩, Nat.le_of_ble_eq_true rfl, rfl⟩ (Nat.le_of_ble_eq_true rfl) (Nat.le_of_ble_eq_true rfl) (q_aload_n c_23_0 rfl (v_gi (z := 3) (v := wk) c_23_1 kf_1_21 rfl (Nat.le_of_ble_eq_true rfl) rfl rfl ((up_c (nn rfl)).trans ((up_c (nn rfl)).trans ((up_c (nn rfl)).trans ((up_c (nn rfl)).trans ((up_c (nn rfl)).trans (hg_wk)))))) (v_bip c_23_4 (by decide) ?_))))
  by_cases h_13 : wk < 16
  · refine v_ic_lt_t (t := 13) c_23_6 rfl ⟨(Int.le_trans (by decide) (rg_eq hg_wk h_3).1), h_13, by decide⟩ (q_iconst c_23_13 (v_zret c_23_14 rfl (by decide) (bk_inl (v_if_eq_t (t := 21) c_86_15 rfl (by decide) (q_aload_n c_86_21 rfl (v_gr (t := 7) c_86_22 kf_7_26 rfl (Nat.le_of_ble_eq_true rfl) rfl (q_aload_n c_86_25 rfl ?_)))))))
    refine v_gr (t := 1) c_86_26 kf_7_10 rfl (Nat.le_of_ble_eq_true rfl) rfl (q_aload_n c_86_29 rfl (v_gr (t := P) c_86_30 kf_7_50 rfl (Nat.le_of_ble_eq_true rfl) rfl (v_cv c_86_33 km_7_121 rfl rfl (Nat.le_of_ble_eq_true rfl) ⟨⟨rfl, rfl⟩, Nat.le_of_ble_eq_true rfl, rfl⟩ (Nat.le_of_ble_eq_true rfl) (Nat.le_of_ble_eq_true rfl) (q_aload_n c_42_0 rfl (q_iconst c_42_1 (v_pi (z := 1) c_42_2 kf_3_15 rfl (Nat.le_of_ble_eq_true rfl) rfl rfl rfl (by decide) (q_aload_n c_42_5 rfl ?_)))))))
    refine q_iconst c_42_6 (v_pi (z := 2) c_42_7 kf_3_19 rfl (Nat.le_of_ble_eq_true rfl) rfl rfl rfl (by decide) (q_aload_n c_42_10 rfl (q_iconst c_42_11 (v_pi (z := 3) c_42_12 kf_3_22 rfl (Nat.le_of_ble_eq_true rfl) rfl rfl rfl (by decide) (q_aload_n c_42_15 rfl (q_iconst c_42_16 (v_pi (z := 4) c_42_17 kf_3_25 rfl (Nat.le_of_ble_eq_true rfl) rfl rfl rfl (by decide) ?_)))))))
    refine q_aload_n c_42_20 rfl (q_aload_n c_42_21 rfl (q_aload_n c_42_22 rfl (q_iconst c_42_23 ?_)))
    have hI_14 := iw_1_1 (v := y_12) hJ ⟨by omega, by first | (clear ha1 h_1 hg_t9 h_2 hr_t9 h_3 hg_wk h_4 hr_wk h_5 hg_n0 h_6 hr_n0 h_7 hg_n1 h_8 hr_n1 h_9 hg_n2 h_10 hr_n2 h_13; omega) | omega⟩
    have hI_15 := iw_1_2 (v := 0) hI_14 ⟨by decide, by decide⟩
    have hI_16 := iw_1_3 (v := 0) hI_15 ⟨by decide, by decide⟩
    have hI_17 := iw_1_4 (v := 0) hI_16 ⟨by decide, by decide⟩
    have hI_18 := iw_1_5 (v := (-1)) hI_17 ⟨by decide, by decide⟩
    have hI_19 := iw_7_1 (v := 0) hI_18 ⟨by decide, by decide⟩
    have hI_20 := iw_7_2 (v := 0) hI_19 ⟨by decide, by decide⟩
    have hI_21 := iw_7_3 (v := 0) hI_20 ⟨by decide, by decide⟩
    have hI_22 := iw_7_4 (v := 0) hI_21 ⟨by decide, by decide⟩
    have h_23 : (up (up (up (up (up (up (up (up (up m 1 1 y_12) 1 2 0) 1 3 0) 1 4 0) 1 5 (-1)) 7 1 0) 7 2 0) 7 3 0) 7 4 0) 7 2 = 0 := ((up_n (by decide)).trans ((up_n (by decide)).trans (up_e rfl)))
    have h_24 : (up (up (up (up (up (up (up (up (up m 1 1 y_12) 1 2 0) 1 3 0) 1 4 0) 1 5 (-1)) 7 1 0) 7 2 0) 7 3 0) 7 4 0) 7 2 = 0 := ((up_n (by decide)).trans ((up_n (by decide)).trans (up_e rfl)))
    refine v_cv c_42_24 km_3_28 rfl rfl (Nat.le_of_ble_eq_true rfl) ⟨⟨rfl, rfl⟩, Nat.le_of_ble_eq_true rfl, rfl⟩ (Nat.le_of_ble_eq_true rfl) (Nat.le_of_ble_eq_true rfl) (fn_of (r_41 (a4 := 0) hI_22 (show 0 ≤ 0 ∧ 0 ≤ 6 from ⟨by decide, by decide⟩) (fun c_25 hI_26 hF_27 h_28 => ?_)))
    intro hG_30
    refine bk_inl ?_
    have h_29 := ir_7_2 hI_26
    refine q_vret c_42_27 rfl (bk_inl (q_aload_n c_86_36 rfl (v_gr (t := 1) c_86_37 kf_7_10 rfl (Nat.le_of_ble_eq_true rfl) rfl (v_cv c_86_40 km_7_89 rfl rfl (Nat.le_of_ble_eq_true rfl) ⟨⟨rfl, rfl⟩, Nat.le_of_ble_eq_true rfl, rfl⟩ (Nat.le_of_ble_eq_true rfl) (Nat.le_of_ble_eq_true rfl) (q_aload_n c_2_0 rfl ?_)))))
    have h_31 := ir_1_4 hI_26
    refine v_gi (z := 4) (v := c_25 1 4) c_2_1 kf_5_38 rfl (Nat.le_of_ble_eq_true rfl) rfl rfl rfl ?_
    by_cases h_32 : c_25 1 4 ≠ 0
    · refine v_if_ne_t (t := 11) c_2_4 rfl ⟨h_32, ⟨(Int.le_trans (by decide) h_31.1), (Int.le_trans h_31.2 (by decide))⟩, by decide, by decide⟩ (q_iconst c_2_11 (v_zret c_2_12 rfl (by decide) (bk_inl (v_if_eq_t (t := 88) c_86_43 rfl (by decide) (q_aload_n c_86_88 rfl (q_aload_n c_86_89 rfl (v_gr (t := 7) c_86_90 kf_7_26 rfl (Nat.le_of_ble_eq_true rfl) rfl ?_)))))))
      have kn_33 : Hid (c_25 7 3 = 0) := (hF_27 7 3 (fun q => q.elim (fun h => absurd h.1 (nn rfl)) (fun q => q.elim (fun h => absurd h.1 (nn rfl)) (fun q => q.elim (fun h => absurd h.1 (nn rfl)) (fun q => q.elim (fun h => absurd h.2 (ni rfl)) (fun h => absurd h.1 (nn rfl))))))).trans ((up_n (by decide)).trans (up_e rfl))
      refine v_gi (z := 3) (v := 0) c_86_93 kf_7_139 rfl (Nat.le_of_ble_eq_true rfl) rfl rfl (hid kn_33) (v_cv c_86_96 km_7_105 rfl rfl (Nat.le_of_ble_eq_true rfl) ⟨⟨rfl, rfl⟩, Nat.le_of_ble_eq_true rfl, rfl⟩ (Nat.le_of_ble_eq_true rfl) (Nat.le_of_ble_eq_true rfl) (q_aload_n c_83_0 rfl (v_gr (t := 1) c_83_1 kf_7_10 rfl (Nat.le_of_ble_eq_true rfl) rfl (v_cv c_83_4 km_7_89 rfl rfl (Nat.le_of_ble_eq_true rfl) ⟨⟨rfl, rfl⟩, Nat.le_of_ble_eq_true rfl, rfl⟩ (Nat.le_of_ble_eq_true rfl) (Nat.le_of_ble_eq_true rfl) (q_aload_n c_2_0 rfl (v_gi (z := 4) (v := c_25 1 4) c_2_1 kf_5_38 rfl (Nat.le_of_ble_eq_true rfl) rfl rfl rfl (v_if_ne_t (t := 11) c_2_4 rfl ⟨by first | exact q_646bc4652 h_31 h_32 | (clear ha1 hq0 h_1 hg_t9 h_2 hr_t9 h_3 hg_wk h_4 hr_wk h_5 hg_n0 h_6 hr_n0 h_7 hg_n1 h_8 hr_n1 h_9 hg_n2 h_10 hr_n2 h_13 h_29 h_28; omega) | omega, ⟨(Int.le_trans (by decide) h_31.1), (Int.le_trans h_31.2 (by decide))⟩, by decide, by decide⟩ ?_)))))))
      refine q_iconst c_2_11 (v_zret c_2_12 rfl (by decide) (bk_inl (v_if_eq_t (t := 14) c_83_7 rfl (by decide) (q_aload_n c_83_14 rfl (v_gr (t := 1) c_83_15 kf_7_10 rfl (Nat.le_of_ble_eq_true rfl) rfl (v_gi (z := 4) (v := c_25 1 4) c_83_18 kf_7_351 rfl (Nat.le_of_ble_eq_true rfl) rfl rfl rfl (v_bip c_83_21 (by decide) ?_)))))))
      refine v_isub (v := c_25 1 4 - 10) c_83_23 rfl (q_iret c_83_24 rfl (bk_inl (q_iret c_86_99 rfl ?_)))
      intro hE_34
      have h_35 : yg = c_25 1 4 - 10 := (vi_inj ⟨by omega, by omega⟩ ⟨by omega, by omega⟩ (Option.some.inj (Sum.inl.inj (Prod.mk.inj hE_34).1))).symm
      have hW : Wd P Q P P c_25 = Wd P Q P P m9 := (Prod.mk.inj (Prod.mk.inj hE_34).2).1
      have h_36 := ir_1_5 hI_26
      have h_37 := ir_1_5 hJ9
      have h_38 : m9 1 5 = c_25 1 5 := wd_fv (z := 5) 5 rfl hW rfl rfl rfl rfl (by decide) rfl ⟨(Int.le_trans (by decide) h_36.1), (Int.le_trans h_36.2 (by decide))⟩ ⟨(Int.le_trans (by decide) h_37.1), (Int.le_trans h_37.2 (by decide))⟩
      have kn_39 : Hid (c_25 3 3 = wk) := (hF_27 3 3 (fun q => q.elim (fun h => absurd h.1 (nn rfl)) (fun q => q.elim (fun h => absurd h.1 (nn rfl)) (fun q => q.elim (fun h => absurd h.1 (nn rfl)) (fun q => q.elim (fun h => absurd h.1 (nn rfl)) (fun h => absurd h.1 (nn rfl))))))).trans ((up_c (nn rfl)).trans ((up_c (nn rfl)).trans ((up_c (nn rfl)).trans ((up_c (nn rfl)).trans ((up_c (nn rfl)).trans ((up_c (nn rfl)).trans ((up_c (nn rfl)).trans ((up_c (nn rfl)).trans ((up_c (nn rfl)).trans (hg_wk))))))))))
      have h_40 := ir_3_3 hJ9
      have h_41 : m9 3 3 = wk := wd_fv (z := 3) 3 rfl hW rfl rfl rfl rfl (by decide) (hid kn_39) ⟨(Int.le_trans (by decide) (rg_eq hg_wk h_3).1), (Int.le_trans (rg_eq hg_wk h_3).2 (by decide))⟩ ⟨(Int.le_trans (by decide) h_40.1), (Int.le_trans h_40.2 (by decide))⟩
      refine q_aload_n c_202_0 rfl (q_iconst c_202_1 (v_pi (z := 0) c_202_2 kf_8_3 rfl (Nat.le_of_ble_eq_true rfl) rfl rfl rfl (by decide) (q_aload_n c_202_5 rfl (q_iload_n c_202_6 rfl (v_if_lt_f (t := 29) c_202_7 rfl ⟨by decide, by first | exact q_d12bc8d2a hq0 | (clear ha1 h_1 hg_t9 h_2 hr_t9 h_3 hg_wk h_4 hr_wk h_5 hg_n0 h_6 hr_n0 h_7 hg_n1 h_8 hr_n1 h_9 hg_n2 h_10 hr_n2 h_13 h_29 h_28 h_31 h_35 h_36 h_37 h_38 h_40 h_41 h_32; omega) | omega, ha1.2⟩ (q_iload_n c_202_10 rfl (q_aload_n c_202_11 rfl ?_)))))))
      refine v_gi (z := 2) (v := t9) c_202_12 kf_8_99 rfl (Nat.le_of_ble_eq_true rfl) rfl rfl ((up_n (by decide)).trans (hr_t9)) (v_ic_gt_f (t := 29) c_202_15 rfl ⟨ha1.1, by first | exact q_5ade8dffc hq0 | (clear ha1 h_1 hg_t9 h_2 hr_t9 h_3 hg_wk h_4 hr_wk h_5 hg_n0 h_6 hr_n0 h_7 hg_n1 h_8 hr_n1 h_9 hg_n2 h_10 hr_n2 h_13 h_29 h_28 h_31 h_35 h_36 h_37 h_38 h_40 h_41 h_32; omega) | omega, (Int.le_trans (rg_eq hg_t9 h_1).2 (by decide))⟩ (q_iload_n c_202_18 rfl (v_sip c_202_19 (by decide) (v_ic_gt_f (t := 29) c_202_22 rfl ⟨ha1.1, by first | exact q_c25acb4df hq0 | (clear ha1 h_1 hg_t9 h_2 hr_t9 h_3 hg_wk h_4 hr_wk h_5 hg_n0 h_6 hr_n0 h_7 hg_n1 h_8 hr_n1 h_9 hg_n2 h_10 hr_n2 h_13 h_29 h_28 h_31 h_35 h_36 h_37 h_38 h_40 h_41 h_32; omega) | omega, by decide⟩ (q_iconst c_202_25 (q_goto (t := 30) c_202_26 rfl (q_iconst c_202_30 ?_)))))))
      refine q_iconst c_202_31 (v_cv c_202_32 km_8_203 rfl rfl (Nat.le_of_ble_eq_true rfl) ⟨⟨rfl, rfl⟩, Nat.le_of_ble_eq_true rfl, rfl⟩ (Nat.le_of_ble_eq_true rfl) (Nat.le_of_ble_eq_true rfl) (q_iload_n c_145_0 rfl (v_if_ne_t (t := 26) c_145_1 rfl (by decide) (q_aload_n c_145_26 rfl (v_gi (z := 0) (v := 0) c_145_27 kf_8_3 rfl (Nat.le_of_ble_eq_true rfl) rfl rfl (up_e rfl) (v_if_ne_f (t := 37) c_145_30 rfl (by decide) (q_iconst c_145_33 ?_)))))))
      refine q_goto (t := 38) c_145_34 rfl (v_zret c_145_38 rfl (by decide) (bk_inl (v_if_ne_t (t := 40) c_202_35 rfl (by decide) (q_aload_n c_202_40 rfl (q_iload_n c_202_41 rfl ?_)))))
      have hI_42 := iw_41_0 (v := 0) hI ⟨by decide, by decide⟩
      refine v_cv c_202_42 km_8_207 rfl rfl (Nat.le_of_ble_eq_true rfl) ⟨⟨rfl, rfl⟩, Nat.le_of_ble_eq_true rfl, rfl⟩ (Nat.le_of_ble_eq_true rfl) (Nat.le_of_ble_eq_true rfl) (s_163 (a1 := a1) hI_42 (show 0 ≤ a1 ∧ a1 ≤ 600 from ⟨by first | exact q_d12bc8d2a hq0 | (clear ha1 h_1 hg_t9 h_2 hr_t9 h_3 hg_wk h_4 hr_wk h_5 hg_n0 h_6 hr_n0 h_7 hg_n1 h_8 hr_n1 h_9 hg_n2 h_10 hr_n2 h_13 h_29 h_28 h_31 h_35 h_36 h_37 h_38 h_40 h_41 h_32; omega) | omega, by first | exact q_f37fc148c hq0 | (clear ha1 h_1 hg_t9 h_2 hr_t9 h_3 hg_wk h_4 hr_wk h_5 hg_n0 h_6 hr_n0 h_7 hg_n1 h_8 hr_n1 h_9 hg_n2 h_10 hr_n2 h_13 h_29 h_28 h_31 h_35 h_36 h_37 h_38 h_40 h_41 h_32; omega) | omega⟩) (fun c_43 hI_44 hF_45 h_46 => (bk_inl ?_)))
      have h_47 := ir_41_2 hI_44
      have h_48 := ir_41_3 hI_44
      have h_49 := ir_41_4 hI_44
      have h_50 := ir_41_5 hI_44
      have h_51 := ir_41_7 hI_44
      refine q_aload_n c_202_45 rfl ?_
      have kn_52 : Hid (c_43 41 35 = wk) := (hF_45 41 35 qn_010af1ec6).trans ((up_n (by decide)).trans (hr_wk))
      refine v_gi (z := 35) (v := wk) c_202_46 kf_8_182 rfl (Nat.le_of_ble_eq_true rfl) rfl rfl (hid kn_52) (v_bip c_202_49 (by decide) (v_ic_ne_t (t := 63) c_202_51 rfl ⟨by first | exact q_091f1144d h_13 | (clear ha1 hq0 h_1 hg_t9 h_2 hr_t9 h_3 hg_wk h_4 hr_wk h_5 hg_n0 h_6 hr_n0 h_7 hg_n1 h_8 hr_n1 h_9 hg_n2 h_10 hr_n2 h_29 h_28 h_31 h_35 h_36 h_37 h_38 h_40 h_41 h_47 h_48 h_49 h_50 h_51 h_46 h_32; omega) | omega, ⟨(Int.le_trans (by decide) (rg_eq hg_wk h_3).1), (Int.le_trans (rg_eq hg_wk h_3).2 (by decide))⟩, by decide, by decide⟩ (q_aload_n c_202_63 rfl (q_iconst c_202_64 (v_pi (z := 34) c_202_65 kf_8_284 rfl (Nat.le_of_ble_eq_true rfl) rfl rfl rfl (by decide) (Wp_ls [(0, .ref 41), (1, vi a1)] (lsub_cons rfl (lsub_cons rfl lsub_nil)) ?_))))))
      have hI_53 := iw_41_34 (v := 0) hI_44 ⟨by decide, by decide⟩
      have kn_54 : Hid (c_43 41 20 = n0) := (hF_45 41 20 qn_7452710ff).trans ((up_n (by decide)).trans (hr_n0))
      have kn_55 : Hid (c_43 41 21 = n1) := (hF_45 41 21 qn_b78d71421).trans ((up_n (by decide)).trans (hr_n1))
      have kn_56 : Hid (c_43 41 22 = n2) := (hF_45 41 22 qn_702f7a732).trans ((up_n (by decide)).trans (hr_n2))
      have h_57 : (up (up (up (up (up (up (up (up (up m 1 1 y_12) 1 2 0) 1 3 0) 1 4 0) 1 5 (-1)) 7 1 0) 7 2 0) 7 3 0) 7 4 0) 1 4 = 0 := ((up_c (nn rfl)).trans ((up_c (nn rfl)).trans ((up_c (nn rfl)).trans ((up_c (nn rfl)).trans ((up_n (by decide)).trans (up_e rfl))))))
      have h_58 : (up (up (up (up (up (up (up (up (up m 1 1 y_12) 1 2 0) 1 3 0) 1 4 0) 1 5 (-1)) 7 1 0) 7 2 0) 7 3 0) 7 4 0) 1 2 = 0 := ((up_c (nn rfl)).trans ((up_c (nn rfl)).trans ((up_c (nn rfl)).trans ((up_c (nn rfl)).trans ((up_n (by decide)).trans ((up_n (by decide)).trans ((up_n (by decide)).trans (up_e rfl))))))))
      have h_59 : (up (up (up (up (up (up (up (up (up m 1 1 y_12) 1 2 0) 1 3 0) 1 4 0) 1 5 (-1)) 7 1 0) 7 2 0) 7 3 0) 7 4 0) 1 5 = (-1) := ((up_c (nn rfl)).trans ((up_c (nn rfl)).trans ((up_c (nn rfl)).trans ((up_c (nn rfl)).trans (up_e rfl)))))
      have h_60 : (up c_43 41 34 0) 41 5 = c_43 41 5 := (up_n (by decide))
      have h_61 : (up c_43 41 34 0) 41 4 = c_43 41 4 := (up_n (by decide))
      have h_62 := ir_41_6 hI
      have kn_63 : Hid (c_43 41 6 = c 41 6) := (hF_45 41 6 qn_eb0d473e8).trans (up_n (by decide))
      have h_64 : (up c_43 41 34 0) 41 6 = c 41 6 := ((up_n (by decide)).trans (hid kn_63))
      refine L_41t (m := up (up (up (up (up (up (up (up (up m 1 1 y_12) 1 2 0) 1 3 0) 1 4 0) 1 5 (-1)) 7 1 0) 7 2 0) 7 3 0) 7 4 0) (a1 := a1) (e1 := y_12) (f0 := 0) (g0 := (-1)) (p0 := 0) (n0 := n0) (n1 := n1) (n2 := n2) (ns0 := 0) (r0 := 0) (o0 := c_43 41 7) (F := F) (H := H) hI_53 hI_22 hI_26 (show (-2147483648) ≤ a1 ∧ a1 ≤ 2147483647 from ha1) (by first | decide | (clear ha1 hq0 h_1 hg_t9 h_2 hr_t9 h_3 hg_wk h_4 hr_wk h_5 hg_n0 h_6 hr_n0 h_7 hg_n1 h_8 hr_n1 h_9 hg_n2 h_10 hr_n2 h_13 h_29 h_28 h_31 h_35 h_36 h_37 h_38 h_40 h_41 h_47 h_48 h_49 h_50 h_51 h_46 h_32; omega) | omega) (by first | decide | (clear ha1 hq0 h_1 hg_t9 h_2 hr_t9 h_3 hg_wk h_4 hr_wk h_5 hg_n0 h_6 hr_n0 h_7 hg_n1 h_8 hr_n1 h_9 hg_n2 h_10 hr_n2 h_13 h_29 h_28 h_31 h_35 h_36 h_37 h_38 h_40 h_41 h_47 h_48 h_49 h_50 h_51 h_46 h_32; omega) | omega) (by first | decide | (clear ha1 hq0 h_1 hg_t9 h_2 hr_t9 h_3 hg_wk h_4 hr_wk h_5 hg_n0 h_6 hr_n0 h_7 hg_n1 h_8 hr_n1 h_9 hg_n2 h_10 hr_n2 h_13 h_29 h_28 h_31 h_35 h_36 h_37 h_38 h_40 h_41 h_47 h_48 h_49 h_50 h_51 h_46 h_32; omega) | omega) (by first | decide | (clear ha1 hq0 h_1 hg_t9 h_2 hr_t9 h_3 hg_wk h_4 hr_wk h_5 hg_n0 h_6 hr_n0 h_7 hg_n1 h_8 hr_n1 h_9 hg_n2 h_10 hr_n2 h_13 h_29 h_28 h_31 h_35 h_36 h_37 h_38 h_40 h_41 h_47 h_48 h_49 h_50 h_51 h_46 h_32; omega) | omega) (by omega) (by first | (clear ha1 h_1 hg_t9 h_2 hr_t9 h_3 hg_wk h_4 hr_wk h_5 hg_n0 h_6 hr_n0 h_7 hg_n1 h_8 hr_n1 h_9 hg_n2 h_10 hr_n2 h_13 h_29 h_28 h_31 h_35 h_36 h_37 h_38 h_40 h_41 h_47 h_48 h_49 h_50 h_51 h_46 h_32; omega) | omega) (by first | (clear ha1 hq0 h_1 hg_t9 h_2 hr_t9 h_3 hg_wk h_4 hr_wk h_5 hg_n0 h_6 hr_n0 h_7 hg_n1 h_8 hr_n1 h_9 hg_n2 h_10 hr_n2 h_13 h_29 h_28 h_31 h_35 h_36 h_37 h_38 h_40 h_41 h_47 h_48 h_49 h_50 h_32; omega) | omega) (((up_c (nn rfl)).trans ((up_c (nn rfl)).trans ((up_c (nn rfl)).trans ((up_c (nn rfl)).trans ((up_n (by decide)).trans ((up_n (by decide)).trans ((up_n (by decide)).trans ((up_n (by decide)).trans (up_e rfl)))))))))) (((show _ = c_43 41 3 from (up_n (by decide))).trans (by omega))) (((up_c (nn rfl)).trans ((up_c (nn rfl)).trans ((up_c (nn rfl)).trans ((up_c (nn rfl)).trans ((up_n (by decide)).trans (up_e rfl))))))) (((up_c (nn rfl)).trans ((up_c (nn rfl)).trans ((up_c (nn rfl)).trans ((up_c (nn rfl)).trans (up_e rfl)))))) (((up_c (nn rfl)).trans ((up_c (nn rfl)).trans ((up_c (nn rfl)).trans ((up_c (nn rfl)).trans ((up_n (by decide)).trans ((up_n (by decide)).trans ((up_n (by decide)).trans (up_e rfl))))))))) (((up_c (np0 hP rfl)).trans ((up_c (np0 hP rfl)).trans ((up_c (np0 hP rfl)).trans ((up_c (np0 hP rfl)).trans ((up_c (np0 hP rfl)).trans ((up_c (np0 hP rfl)).trans ((up_c (np0 hP rfl)).trans ((up_c (np0 hP rfl)).trans ((up_c (np0 hP rfl)).trans (hg_n0))))))))))) (((up_n (by decide)).trans (hid kn_54))) (((up_c (np0 hP rfl)).trans ((up_c (np0 hP rfl)).trans ((up_c (np0 hP rfl)).trans ((up_c (np0 hP rfl)).trans ((up_c (np0 hP rfl)).trans ((up_c (np0 hP rfl)).trans ((up_c (np0 hP rfl)).trans ((up_c (np0 hP rfl)).trans ((up_c (np0 hP rfl)).trans (hg_n1))))))))))) (((up_n (by decide)).trans (hid kn_55))) (((up_c (np0 hP rfl)).trans ((up_c (np0 hP rfl)).trans ((up_c (np0 hP rfl)).trans ((up_c (np0 hP rfl)).trans ((up_c (np0 hP rfl)).trans ((up_c (np0 hP rfl)).trans ((up_c (np0 hP rfl)).trans ((up_c (np0 hP rfl)).trans ((up_c (np0 hP rfl)).trans (hg_n2))))))))))) (((up_n (by decide)).trans (hid kn_56))) (((up_n (by decide)).trans ((up_n (by decide)).trans (up_e rfl)))) ((up_e rfl)) ((up_n (by decide))) (fun j => ((up_c (nn rfl)).trans ((up_c (nn rfl)).trans ((up_c (nn rfl)).trans ((up_c (nn rfl)).trans ((up_c (nn rfl)).trans ((up_c (nn rfl)).trans ((up_c (nn rfl)).trans ((up_c (nn rfl)).trans (up_c (nn rfl)))))))))).trans (hF j)) (fun j => ((up_c (nn rfl)).trans ((hF_45 43 j qn_78d42cb5c).trans (up_c (nn rfl)))).trans (hH j)) hU (rt_i1 ⟨by first | decide | (clear ha1 hq0 h_1 hg_t9 h_2 hr_t9 h_3 hg_wk h_4 hr_wk h_5 hg_n0 h_6 hr_n0 h_7 hg_n1 h_8 hr_n1 h_9 hg_n2 h_10 hr_n2 h_13 h_29 h_28 h_31 h_35 h_36 h_37 h_38 h_40 h_41 h_47 h_48 h_49 h_50 h_51 h_46 h_62 h_32; omega) | omega, by first | (clear ha1 hq0 h_1 hg_t9 h_2 hr_t9 h_3 hg_wk h_4 hr_wk h_5 hg_n0 h_6 hr_n0 h_7 hg_n1 h_8 hr_n1 h_9 hg_n2 h_10 hr_n2 h_13 h_29 h_28 h_31 h_35 h_36 h_37 h_38 h_40 h_41 h_47 h_48 h_49 h_51 h_62 h_32; omega) | omega, by first | (clear ha1 hq0 h_1 hg_t9 h_2 hr_t9 h_3 hg_wk h_4 hr_wk h_5 hg_n0 h_6 hr_n0 h_7 hg_n1 h_8 hr_n1 h_9 hg_n2 h_10 hr_n2 h_13 h_29 h_28 h_31 h_35 h_36 h_37 h_38 h_40 h_41 h_47 h_48 h_50 h_51 h_62 h_32; omega) | omega, by first | decide | (clear ha1 hq0 h_1 hg_t9 h_2 hr_t9 h_3 hg_wk h_4 hr_wk h_5 hg_n0 h_6 hr_n0 h_7 hg_n1 h_8 hr_n1 h_9 hg_n2 h_10 hr_n2 h_13 h_29 h_28 h_31 h_35 h_36 h_37 h_38 h_40 h_41 h_47 h_48 h_49 h_50 h_51 h_46 h_62 h_32; omega) | omega⟩) hG_30 (fun c_65 hI_66 hF_67 hR_69 h_70 h_71 hA_72 => ?_)
      have h_73 : (up c_43 41 34 0) 41 34 = 0 := (up_e rfl)
      have h_74 := ir_41_34 hI_66
      have h_75 := ir_1_2 hI_26
      have h_76 := ir_41_7 hI_66
      refine q_aload_n c_202_89 rfl (q_iconst c_202_90 (v_cv c_202_91 km_8_232 rfl rfl (Nat.le_of_ble_eq_true rfl) ⟨⟨rfl, rfl⟩, Nat.le_of_ble_eq_true rfl, rfl⟩ (Nat.le_of_ble_eq_true rfl) (Nat.le_of_ble_eq_true rfl) (q_aload_n c_164_0 rfl (q_aload_n c_164_1 rfl ?_))))
      have h_77 := ir_41_5 hI_66
      have h_78 := ir_41_4 hI_66
      have h_79 := ir_41_6 hI_66
      have h_80 := rt_bad hR_69 (by first | exact q_646bc4652 h_31 h_32 | (clear ha1 hq0 h_1 hg_t9 h_2 hr_t9 h_3 hg_wk h_4 hr_wk h_5 hg_n0 h_6 hr_n0 h_7 hg_n1 h_8 hr_n1 h_9 hg_n2 h_10 hr_n2 h_13 h_29 h_28 h_35 h_36 h_37 h_38 h_40 h_41 h_47 h_48 h_49 h_50 h_51 h_46 h_62 h_74 h_75 h_76 h_71 h_77 h_78 h_79 h_70; omega) | omega)
      have hrb_hR_69 := rt_bad hR_69 (by first | exact q_f7b7d720f h_80 | (clear ha1 hq0 h_1 hg_t9 h_2 hr_t9 h_3 hg_wk h_4 hr_wk h_5 hg_n0 h_6 hr_n0 h_7 hg_n1 h_8 hr_n1 h_9 hg_n2 h_10 hr_n2 h_13 h_29 h_28 h_31 h_35 h_36 h_37 h_38 h_40 h_41 h_47 h_48 h_49 h_50 h_51 h_46 h_62 h_74 h_75 h_76 h_71 h_77 h_78 h_79 h_32 h_70; omega) | omega)
      refine v_gi (z := 5) (v := c_25 1 5) c_164_2 kf_8_102 rfl (Nat.le_of_ble_eq_true rfl) rfl rfl hrb_hR_69.2.1 (v_pi (z := 8) c_164_5 kf_8_17 rfl (Nat.le_of_ble_eq_true rfl) rfl rfl rfl (by decide) (q_aload_n c_164_8 rfl (v_cv c_164_9 km_8_131 rfl rfl (Nat.le_of_ble_eq_true rfl) ⟨⟨rfl, rfl⟩, Nat.le_of_ble_eq_true rfl, rfl⟩ (Nat.le_of_ble_eq_true rfl) (Nat.le_of_ble_eq_true rfl) (q_aload_n c_152_0 rfl (v_gi (z := 5) (v := c_25 1 5) c_152_1 kf_8_102 rfl (Nat.le_of_ble_eq_true rfl) rfl rfl (((up_n (by decide))).trans (hrb_hR_69.2.1)) (q_iconst c_152_4 (v_ic_ne_t (t := 12) c_152_5 rfl ⟨by first | exact q_0f78863d3 h_80 | (clear ha1 hq0 h_1 hg_t9 h_2 hr_t9 h_3 hg_wk h_4 hr_wk h_5 hg_n0 h_6 hr_n0 h_7 hg_n1 h_8 hr_n1 h_9 hg_n2 h_10 hr_n2 h_13 h_29 h_28 h_31 h_35 h_36 h_37 h_38 h_40 h_41 h_47 h_48 h_49 h_50 h_51 h_46 h_62 h_74 h_75 h_76 h_71 h_77 h_78 h_79 h_32 h_70; omega) | omega, ⟨(Int.le_trans (by decide) h_36.1), (Int.le_trans h_36.2 (by decide))⟩, by decide, by decide⟩ ?_)))))))
      refine q_iconst c_152_12 (v_zret c_152_13 rfl (by decide) (bk_inl (v_if_eq_t (t := 19) c_164_12 rfl (by decide) (q_aload_n c_164_19 rfl (v_gi (z := 6) (v := c_25 1 4) c_164_20 kf_8_105 rfl (Nat.le_of_ble_eq_true rfl) rfl rfl (((up_n (by decide))).trans (hrb_hR_69.2.2.2)) (v_bip c_164_23 (by decide) (v_isub (v := c_25 1 4 - 10) c_164_25 rfl ?_)))))))
      refine q_iret c_164_26 rfl (bk_inl (q_istore_n c_202_94 (Nat.le_of_ble_eq_true rfl) (q_aload_n c_202_95 rfl (v_gi (z := 5) (v := c_25 1 5) c_202_96 kf_8_102 rfl (Nat.le_of_ble_eq_true rfl) rfl rfl (((up_n (by decide))).trans (hrb_hR_69.2.1)) (q_iconst c_202_99 (v_ic_eq_f (t := 105) c_202_100 rfl ⟨by first | exact q_0f78863d3 h_80 | (clear ha1 hq0 h_1 hg_t9 h_2 hr_t9 h_3 hg_wk h_4 hr_wk h_5 hg_n0 h_6 hr_n0 h_7 hg_n1 h_8 hr_n1 h_9 hg_n2 h_10 hr_n2 h_13 h_29 h_28 h_31 h_35 h_36 h_37 h_38 h_40 h_41 h_47 h_48 h_49 h_50 h_51 h_46 h_62 h_74 h_75 h_76 h_71 h_77 h_78 h_79 h_32 h_70; omega) | omega, ⟨(Int.le_trans (by decide) h_36.1), (Int.le_trans h_36.2 (by decide))⟩, by decide, by decide⟩ (q_iload_n c_202_103 rfl ?_)))))))
      refine q_iret c_202_104 rfl ?_
      have hI_81 := iw_41_8 (v := c_25 1 5) hI_66 ⟨h_36.1, (Int.le_trans h_36.2 (by decide))⟩
      have kn_82 : Hid (c_65 41 2 = c_43 41 2) := (hF_67 41 2 (fun q => q.elim (fun h => absurd h.2 (ni rfl)) (fun q => q.elim (fun h => absurd h.2 (ni rfl)) (fun q => q.elim (fun h => absurd h.2 (ni rfl)) (fun q => q.elim (fun h => absurd h.2 (ni rfl)) (fun q => q.elim (fun h => absurd h.2 (ni rfl)) (fun h => absurd h.1 (nn rfl)))))))).trans (up_n (by decide))
      have h_83 : (up c_65 41 8 (c_25 1 5)) 41 2 = c_43 41 2 := ((up_n (by decide)).trans (hid kn_82))
      have h_84 : (up c_65 41 8 (c_25 1 5)) 41 8 = c_25 1 5 := (up_e rfl)
      have kn_85 : Hid (c_43 41 0 = 0) := (hF_45 41 0 qn_18af663b8).trans (up_e rfl)
      have kn_86 : Hid (c_65 41 0 = 0) := (hF_67 41 0 (fun q => q.elim (fun h => absurd h.2 (ni rfl)) (fun q => q.elim (fun h => absurd h.2 (ni rfl)) (fun q => q.elim (fun h => absurd h.2 (ni rfl)) (fun q => q.elim (fun h => absurd h.2 (ni rfl)) (fun q => q.elim (fun h => absurd h.2 (ni rfl)) (fun h => absurd h.1 (nn rfl)))))))).trans ((up_n (by decide)).trans (hid kn_85))
      have h_87 : (up c_65 41 8 (c_25 1 5)) 41 0 = 0 := ((up_n (by decide)).trans (hid kn_86))
      have kn_88 : Hid (c_65 41 35 = wk) := (hF_67 41 35 (fun q => q.elim (fun h => absurd h.2 (ni rfl)) (fun q => q.elim (fun h => absurd h.2 (ni rfl)) (fun q => q.elim (fun h => absurd h.2 (ni rfl)) (fun q => q.elim (fun h => absurd h.2 (ni rfl)) (fun q => q.elim (fun h => absurd h.2 (ni rfl)) (fun h => absurd h.1 (nn rfl)))))))).trans ((up_n (by decide)).trans (hid kn_52))
      have h_89 : (up c_65 41 8 (c_25 1 5)) 41 35 = wk := ((up_n (by decide)).trans (hid kn_88))
      exact K (up c_65 41 8 (c_25 1 5)) (c_25 1 4 - 10) hI_81 (fun a j hm => (up_b (Decidable.or_iff_not_imp_left.mpr (fun h1 h2 => hm (Or.inr (Or.inr (Or.inr (Or.inr (Or.inr (Or.inr (Or.inr (Or.inr (Or.inl ⟨Decidable.not_not.mp h1, h2⟩)))))))))))).trans ((hF_67 a j (qv_573d069e6 hm)).trans ((up_b (Decidable.or_iff_not_imp_left.mpr (fun h1 h2 => hm (Or.inr (Or.inr (Or.inr (Or.inr (Or.inr (Or.inr (Or.inr (Or.inr (Or.inr (Or.inl ⟨Decidable.not_not.mp h1, h2⟩))))))))))))).trans ((hF_45 a j (qv_5d0a24d61 hm)).trans (up_b (Decidable.or_iff_not_imp_left.mpr (fun h1 h2 => hm (Or.inl ⟨Decidable.not_not.mp h1, h2⟩)))))))) ⟨by omega, by omega⟩ (by first | (clear ha1 hq0 h_1 hg_t9 h_2 hr_t9 h_3 hg_wk h_4 hr_wk h_5 hg_n0 h_6 hr_n0 h_7 hg_n1 h_8 hr_n1 h_9 hg_n2 h_10 hr_n2 h_13 h_29 h_28 h_31 h_35 h_36 h_37 h_38 h_40 h_41 h_48 h_49 h_50 h_51 h_62 h_74 h_75 h_76 h_71 h_77 h_78 h_79 h_80 h_32 h_70; omega) | omega) (by first | exact q_88dc5fb99 h_38 | (clear ha1 hq0 h_1 hg_t9 h_2 hr_t9 h_3 hg_wk h_4 hr_wk h_5 hg_n0 h_6 hr_n0 h_7 hg_n1 h_8 hr_n1 h_9 hg_n2 h_10 hr_n2 h_13 h_29 h_28 h_31 h_35 h_36 h_37 h_40 h_41 h_47 h_48 h_49 h_50 h_51 h_46 h_62 h_74 h_75 h_76 h_71 h_77 h_78 h_79 h_80 h_32 h_70; omega) | omega) (by first | decide | (clear ha1 hq0 h_1 hg_t9 h_2 hr_t9 h_3 hg_wk h_4 hr_wk h_5 hg_n0 h_6 hr_n0 h_7 hg_n1 h_8 hr_n1 h_9 hg_n2 h_10 hr_n2 h_13 h_29 h_28 h_31 h_35 h_36 h_37 h_38 h_40 h_41 h_47 h_48 h_49 h_50 h_51 h_46 h_62 h_74 h_75 h_76 h_71 h_77 h_78 h_79 h_80 h_32 h_70; omega) | omega) (by first | exact q_d8da297ae h_41 | (clear ha1 hq0 h_1 hg_t9 h_2 hr_t9 h_3 hg_wk h_4 hr_wk h_5 hg_n0 h_6 hr_n0 h_7 hg_n1 h_8 hr_n1 h_9 hg_n2 h_10 hr_n2 h_13 h_29 h_28 h_31 h_35 h_36 h_37 h_38 h_40 h_47 h_48 h_49 h_50 h_51 h_46 h_62 h_74 h_75 h_76 h_71 h_77 h_78 h_79 h_80 h_32 h_70; omega) | omega)
    · refine v_if_ne_f (t := 11) c_2_4 rfl (Decidable.not_not.mp h_32) (q_iconst c_2_7 (q_goto (t := 12) c_2_8 rfl (v_zret c_2_12 rfl (by decide) (bk_inl (v_if_eq_f (t := 88) c_86_43 rfl (by decide) (q_aload_n c_86_46 rfl (v_gr (t := 3) c_86_47 kf_7_19 rfl (Nat.le_of_ble_eq_true rfl) rfl ?_)))))))
      refine q_aload_n c_86_50 rfl (v_gr (t := 37) c_86_51 kf_7_62 rfl (Nat.le_of_ble_eq_true rfl) rfl ?_)
      have kn_90 : Hid (c_25 3 3 = wk) := (hF_27 3 3 (fun q => q.elim (fun h => absurd h.1 (nn rfl)) (fun q => q.elim (fun h => absurd h.1 (nn rfl)) (fun q => q.elim (fun h => absurd h.1 (nn rfl)) (fun q => q.elim (fun h => absurd h.1 (nn rfl)) (fun h => absurd h.1 (nn rfl))))))).trans ((up_c (nn rfl)).trans ((up_c (nn rfl)).trans ((up_c (nn rfl)).trans ((up_c (nn rfl)).trans ((up_c (nn rfl)).trans ((up_c (nn rfl)).trans ((up_c (nn rfl)).trans ((up_c (nn rfl)).trans ((up_c (nn rfl)).trans (hg_wk))))))))))
      have h_91 : c_25 3 3 = wk := (hid kn_90)
      refine v_cv c_86_54 km_7_125 rfl rfl (Nat.le_of_ble_eq_true rfl) ⟨⟨rfl, rfl⟩, Nat.le_of_ble_eq_true rfl, rfl⟩ (Nat.le_of_ble_eq_true rfl) (Nat.le_of_ble_eq_true rfl) (s_24 hI_26 (fun c_92 hI_93 hF_94 h_95 => (bk_inl ?_)))
      have h_96 := ir_3_3 hI_93
      refine q_aload_n c_86_57 rfl (v_gr (t := 7) c_86_58 kf_7_26 rfl (Nat.le_of_ble_eq_true rfl) rfl (q_aload_n c_86_61 rfl (v_gr (t := 37) c_86_62 kf_7_62 rfl (Nat.le_of_ble_eq_true rfl) rfl (q_iconst c_86_65 (q_aload_n c_86_66 rfl (v_gr (t := 7) c_86_67 kf_7_26 rfl (Nat.le_of_ble_eq_true rfl) rfl ?_))))))
      have kn_97 : Hid (c_92 7 2 = c_25 7 2) := hF_94 7 2 (fun q => q.elim (fun h => absurd h.1 (nn rfl)) (fun h => absurd h (nn rfl)))
      refine v_gi (z := 2) (v := c_25 7 2) c_86_70 kf_7_129 rfl (Nat.le_of_ble_eq_true rfl) rfl rfl (hid kn_97) (q_iconst c_86_73 ?_)
      have kn_98 : Hid (c_25 7 1 = 0) := (hF_27 7 1 (fun q => q.elim (fun h => absurd h.1 (nn rfl)) (fun q => q.elim (fun h => absurd h.1 (nn rfl)) (fun q => q.elim (fun h => absurd h.1 (nn rfl)) (fun q => q.elim (fun h => absurd h.2 (ni rfl)) (fun h => absurd h.1 (nn rfl))))))).trans ((up_n (by decide)).trans ((up_n (by decide)).trans ((up_n (by decide)).trans (up_e rfl))))
      have kn_99 : Hid (c_92 7 1 = 0) := (hF_94 7 1 (fun q => q.elim (fun h => absurd h.1 (nn rfl)) (fun h => absurd h (nn rfl)))).trans (hid kn_98)
      have h_100 : c_92 7 1 = 0 := (hid kn_99)
      refine v_cv c_86_74 km_7_132 rfl rfl (Nat.le_of_ble_eq_true rfl) ⟨⟨rfl, rfl⟩, Nat.le_of_ble_eq_true rfl, rfl⟩ (Nat.le_of_ble_eq_true rfl) (Nat.le_of_ble_eq_true rfl) (r_63 (a2 := 0) (a3 := c_25 7 2) (a4 := 0) hI_93 (show 0 ≤ 0 ∧ 0 ≤ 38 from ⟨by decide, by decide⟩) (show 0 ≤ c_25 7 2 ∧ c_25 7 2 ≤ 38 from h_29) (show 0 ≤ 0 ∧ 0 ≤ 7 from ⟨by decide, by decide⟩) (fun c_101 hI_102 hF_103 h_104 => (bk_inl ?_)))
      have h_105 := ir_7_1 hI_102
      refine q_aload_n c_86_77 rfl (q_aload_n c_86_78 rfl (v_gr (t := 7) c_86_79 kf_7_26 rfl (Nat.le_of_ble_eq_true rfl) rfl ?_))
      have h_106 := ir_7_4 hI_102
      refine v_gi (z := 4) (v := c_101 7 4) c_86_82 kf_7_136 rfl (Nat.le_of_ble_eq_true rfl) rfl rfl rfl (v_pi (z := 11) c_86_85 kf_7_99 rfl (Nat.le_of_ble_eq_true rfl) rfl rfl rfl (by decide) (q_aload_n c_86_88 rfl (q_aload_n c_86_89 rfl (v_gr (t := 7) c_86_90 kf_7_26 rfl (Nat.le_of_ble_eq_true rfl) rfl ?_))))
      have h_107 := ir_7_3 hI_102
      refine v_gi (z := 3) (v := c_101 7 3) c_86_93 kf_7_139 rfl (Nat.le_of_ble_eq_true rfl) rfl rfl (up_c (nn rfl)) (v_cv c_86_96 km_7_105 rfl rfl (Nat.le_of_ble_eq_true rfl) ⟨⟨rfl, rfl⟩, Nat.le_of_ble_eq_true rfl, rfl⟩ (Nat.le_of_ble_eq_true rfl) (Nat.le_of_ble_eq_true rfl) (q_aload_n c_83_0 rfl (v_gr (t := 1) c_83_1 kf_7_10 rfl (Nat.le_of_ble_eq_true rfl) rfl (v_cv c_83_4 km_7_89 rfl rfl (Nat.le_of_ble_eq_true rfl) ⟨⟨rfl, rfl⟩, Nat.le_of_ble_eq_true rfl, rfl⟩ (Nat.le_of_ble_eq_true rfl) (Nat.le_of_ble_eq_true rfl) (q_aload_n c_2_0 rfl ?_)))))
      have kn_108 : Hid (c_92 1 4 = c_25 1 4) := hF_94 1 4 (fun q => q.elim (fun h => absurd h.1 (nn rfl)) (fun h => absurd h (nn rfl)))
      have kn_109 : Hid (c_101 1 4 = c_25 1 4) := (hF_103 1 4 (qn_71b2ffb85 hP)).trans (hid kn_108)
      refine v_gi (z := 4) (v := c_25 1 4) c_2_1 kf_5_38 rfl (Nat.le_of_ble_eq_true rfl) rfl rfl ((up_c (nn rfl)).trans (hid kn_109)) (v_if_ne_f (t := 11) c_2_4 rfl (by first | exact q_163d1c5eb h_31 h_32 | (clear ha1 hq0 h_1 hg_t9 h_2 hr_t9 h_3 hg_wk h_4 hr_wk h_5 hg_n0 h_6 hr_n0 h_7 hg_n1 h_8 hr_n1 h_9 hg_n2 h_10 hr_n2 h_13 h_29 h_28 h_96 h_105 h_104 h_106 h_107 h_95; omega) | omega) (q_iconst c_2_7 (q_goto (t := 12) c_2_8 rfl (v_zret c_2_12 rfl (by decide) (bk_inl (v_if_eq_f (t := 14) c_83_7 rfl (by decide) (q_iload_n c_83_10 rfl ?_)))))))
      refine q_goto (t := 24) c_83_11 rfl (q_iret c_83_24 rfl (bk_inl (q_iret c_86_99 rfl ?_)))
      have hI_110 := iw_0_11 (v := c_101 7 4) hI_102 ⟨h_106.1, h_106.2⟩
      intro hE_111
      have h_112 : yg = c_101 7 3 := (vi_inj ⟨by omega, by omega⟩ ⟨by omega, by omega⟩ (Option.some.inj (Sum.inl.inj (Prod.mk.inj hE_111).1))).symm
      have hW : Wd P Q P P (up c_101 0 11 (c_101 7 4)) = Wd P Q P P m9 := (Prod.mk.inj (Prod.mk.inj hE_111).2).1
      have h_113 := ir_1_5 hI_26
      have kn_114 : Hid (c_92 1 5 = c_25 1 5) := hF_94 1 5 (fun q => q.elim (fun h => absurd h.1 (nn rfl)) (fun h => absurd h (nn rfl)))
      have kn_115 : Hid (c_101 1 5 = c_25 1 5) := (hF_103 1 5 (qn_71b2ffb85 hP)).trans (hid kn_114)
      have h_116 := ir_1_5 hJ9
      have h_117 : m9 1 5 = c_25 1 5 := wd_fv (z := 5) 5 rfl hW rfl rfl rfl rfl (by decide) ((up_c (nn rfl)).trans (hid kn_115)) ⟨by first | exact q_a93a79546 h_113 | (clear ha1 hq0 h_1 hg_t9 h_2 hr_t9 h_3 hg_wk h_4 hr_wk h_5 hg_n0 h_6 hr_n0 h_7 hg_n1 h_8 hr_n1 h_9 hg_n2 h_10 hr_n2 h_13 h_29 h_28 h_31 h_32 h_96 h_105 h_104 h_106 h_107 h_112 h_116 h_95; omega) | omega, by first | exact q_64fbdbf81 h_113 | (clear ha1 hq0 h_1 hg_t9 h_2 hr_t9 h_3 hg_wk h_4 hr_wk h_5 hg_n0 h_6 hr_n0 h_7 hg_n1 h_8 hr_n1 h_9 hg_n2 h_10 hr_n2 h_13 h_29 h_28 h_31 h_32 h_96 h_105 h_104 h_106 h_107 h_112 h_116 h_95; omega) | omega⟩ ⟨(Int.le_trans (by decide) h_116.1), (Int.le_trans h_116.2 (by decide))⟩
      have kn_118 : Hid (c_101 3 3 = c_92 3 3) := hF_103 3 3 (qn_269a67b9a hP)
      have h_119 := ir_3_3 hJ9
      have h_120 : m9 3 3 = c_92 3 3 := wd_fv (z := 3) 3 rfl hW rfl rfl rfl rfl (by decide) ((up_c (nn rfl)).trans (hid kn_118)) ⟨(Int.le_trans (by decide) h_96.1), (Int.le_trans h_96.2 (by decide))⟩ ⟨(Int.le_trans (by decide) h_119.1), (Int.le_trans h_119.2 (by decide))⟩
      refine q_aload_n c_202_0 rfl (q_iconst c_202_1 (v_pi (z := 0) c_202_2 kf_8_3 rfl (Nat.le_of_ble_eq_true rfl) rfl rfl rfl (by decide) (q_aload_n c_202_5 rfl (q_iload_n c_202_6 rfl (v_if_lt_f (t := 29) c_202_7 rfl ⟨by decide, by first | exact q_d12bc8d2a hq0 | (clear ha1 h_1 hg_t9 h_2 hr_t9 h_3 hg_wk h_4 hr_wk h_5 hg_n0 h_6 hr_n0 h_7 hg_n1 h_8 hr_n1 h_9 hg_n2 h_10 hr_n2 h_13 h_29 h_28 h_31 h_32 h_96 h_105 h_104 h_106 h_107 h_112 h_113 h_116 h_117 h_119 h_120 h_95; omega) | omega, ha1.2⟩ (q_iload_n c_202_10 rfl (q_aload_n c_202_11 rfl ?_)))))))
      refine v_gi (z := 2) (v := t9) c_202_12 kf_8_99 rfl (Nat.le_of_ble_eq_true rfl) rfl rfl ((up_n (by decide)).trans (hr_t9)) (v_ic_gt_f (t := 29) c_202_15 rfl ⟨ha1.1, by first | exact q_5ade8dffc hq0 | (clear ha1 h_1 hg_t9 h_2 hr_t9 h_3 hg_wk h_4 hr_wk h_5 hg_n0 h_6 hr_n0 h_7 hg_n1 h_8 hr_n1 h_9 hg_n2 h_10 hr_n2 h_13 h_29 h_28 h_31 h_32 h_96 h_105 h_104 h_106 h_107 h_112 h_113 h_116 h_117 h_119 h_120 h_95; omega) | omega, (Int.le_trans (rg_eq hg_t9 h_1).2 (by decide))⟩ (q_iload_n c_202_18 rfl (v_sip c_202_19 (by decide) (v_ic_gt_f (t := 29) c_202_22 rfl ⟨ha1.1, by first | exact q_c25acb4df hq0 | (clear ha1 h_1 hg_t9 h_2 hr_t9 h_3 hg_wk h_4 hr_wk h_5 hg_n0 h_6 hr_n0 h_7 hg_n1 h_8 hr_n1 h_9 hg_n2 h_10 hr_n2 h_13 h_29 h_28 h_31 h_32 h_96 h_105 h_104 h_106 h_107 h_112 h_113 h_116 h_117 h_119 h_120 h_95; omega) | omega, by decide⟩ (q_iconst c_202_25 (q_goto (t := 30) c_202_26 rfl (q_iconst c_202_30 ?_)))))))
      refine q_iconst c_202_31 (v_cv c_202_32 km_8_203 rfl rfl (Nat.le_of_ble_eq_true rfl) ⟨⟨rfl, rfl⟩, Nat.le_of_ble_eq_true rfl, rfl⟩ (Nat.le_of_ble_eq_true rfl) (Nat.le_of_ble_eq_true rfl) (q_iload_n c_145_0 rfl (v_if_ne_t (t := 26) c_145_1 rfl (by decide) (q_aload_n c_145_26 rfl (v_gi (z := 0) (v := 0) c_145_27 kf_8_3 rfl (Nat.le_of_ble_eq_true rfl) rfl rfl (up_e rfl) (v_if_ne_f (t := 37) c_145_30 rfl (by decide) (q_iconst c_145_33 ?_)))))))
      refine q_goto (t := 38) c_145_34 rfl (v_zret c_145_38 rfl (by decide) (bk_inl (v_if_ne_t (t := 40) c_202_35 rfl (by decide) (q_aload_n c_202_40 rfl (q_iload_n c_202_41 rfl ?_)))))
      have hI_121 := iw_41_0 (v := 0) hI ⟨by decide, by decide⟩
      refine v_cv c_202_42 km_8_207 rfl rfl (Nat.le_of_ble_eq_true rfl) ⟨⟨rfl, rfl⟩, Nat.le_of_ble_eq_true rfl, rfl⟩ (Nat.le_of_ble_eq_true rfl) (Nat.le_of_ble_eq_true rfl) (s_163 (a1 := a1) hI_121 (show 0 ≤ a1 ∧ a1 ≤ 600 from ⟨by first | exact q_d12bc8d2a hq0 | (clear ha1 h_1 hg_t9 h_2 hr_t9 h_3 hg_wk h_4 hr_wk h_5 hg_n0 h_6 hr_n0 h_7 hg_n1 h_8 hr_n1 h_9 hg_n2 h_10 hr_n2 h_13 h_29 h_28 h_31 h_32 h_96 h_105 h_104 h_106 h_107 h_112 h_113 h_116 h_117 h_119 h_120 h_95; omega) | omega, by first | exact q_f37fc148c hq0 | (clear ha1 h_1 hg_t9 h_2 hr_t9 h_3 hg_wk h_4 hr_wk h_5 hg_n0 h_6 hr_n0 h_7 hg_n1 h_8 hr_n1 h_9 hg_n2 h_10 hr_n2 h_13 h_29 h_28 h_31 h_32 h_96 h_105 h_104 h_106 h_107 h_112 h_113 h_116 h_117 h_119 h_120 h_95; omega) | omega⟩) (fun c_122 hI_123 hF_124 h_125 => (bk_inl ?_)))
      have h_126 := ir_41_2 hI_123
      have h_127 := ir_41_3 hI_123
      have h_128 := ir_41_4 hI_123
      have h_129 := ir_41_5 hI_123
      have h_130 := ir_41_7 hI_123
      refine q_aload_n c_202_45 rfl ?_
      have kn_131 : Hid (c_122 41 35 = wk) := (hF_124 41 35 qn_010af1ec6).trans ((up_n (by decide)).trans (hr_wk))
      refine v_gi (z := 35) (v := wk) c_202_46 kf_8_182 rfl (Nat.le_of_ble_eq_true rfl) rfl rfl (hid kn_131) (v_bip c_202_49 (by decide) (v_ic_ne_t (t := 63) c_202_51 rfl ⟨by first | exact q_091f1144d h_13 | (clear ha1 hq0 h_1 hg_t9 h_2 hr_t9 h_3 hg_wk h_4 hr_wk h_5 hg_n0 h_6 hr_n0 h_7 hg_n1 h_8 hr_n1 h_9 hg_n2 h_10 hr_n2 h_29 h_28 h_31 h_32 h_96 h_105 h_104 h_106 h_107 h_112 h_113 h_116 h_117 h_119 h_120 h_126 h_127 h_128 h_129 h_130 h_125 h_95; omega) | omega, ⟨(Int.le_trans (by decide) (rg_eq hg_wk h_3).1), (Int.le_trans (rg_eq hg_wk h_3).2 (by decide))⟩, by decide, by decide⟩ (q_aload_n c_202_63 rfl (q_iconst c_202_64 (v_pi (z := 34) c_202_65 kf_8_284 rfl (Nat.le_of_ble_eq_true rfl) rfl rfl rfl (by decide) (Wp_ls [(0, .ref 41), (1, vi a1)] (lsub_cons rfl (lsub_cons rfl lsub_nil)) ?_))))))
      have hI_132 := iw_41_34 (v := 0) hI_123 ⟨by decide, by decide⟩
      have kn_133 : Hid (c_122 41 20 = n0) := (hF_124 41 20 qn_7452710ff).trans ((up_n (by decide)).trans (hr_n0))
      have kn_134 : Hid (c_122 41 21 = n1) := (hF_124 41 21 qn_b78d71421).trans ((up_n (by decide)).trans (hr_n1))
      have kn_135 : Hid (c_122 41 22 = n2) := (hF_124 41 22 qn_702f7a732).trans ((up_n (by decide)).trans (hr_n2))
      have h_136 : (up (up (up (up (up (up (up (up (up m 1 1 y_12) 1 2 0) 1 3 0) 1 4 0) 1 5 (-1)) 7 1 0) 7 2 0) 7 3 0) 7 4 0) 1 4 = 0 := ((up_c (nn rfl)).trans ((up_c (nn rfl)).trans ((up_c (nn rfl)).trans ((up_c (nn rfl)).trans ((up_n (by decide)).trans (up_e rfl))))))
      have h_137 : (up (up (up (up (up (up (up (up (up m 1 1 y_12) 1 2 0) 1 3 0) 1 4 0) 1 5 (-1)) 7 1 0) 7 2 0) 7 3 0) 7 4 0) 1 2 = 0 := ((up_c (nn rfl)).trans ((up_c (nn rfl)).trans ((up_c (nn rfl)).trans ((up_c (nn rfl)).trans ((up_n (by decide)).trans ((up_n (by decide)).trans ((up_n (by decide)).trans (up_e rfl))))))))
      have h_138 : (up (up (up (up (up (up (up (up (up m 1 1 y_12) 1 2 0) 1 3 0) 1 4 0) 1 5 (-1)) 7 1 0) 7 2 0) 7 3 0) 7 4 0) 1 5 = (-1) := ((up_c (nn rfl)).trans ((up_c (nn rfl)).trans ((up_c (nn rfl)).trans ((up_c (nn rfl)).trans (up_e rfl)))))
      have h_139 : (up c_122 41 34 0) 41 5 = c_122 41 5 := (up_n (by decide))
      have h_140 : (up c_122 41 34 0) 41 4 = c_122 41 4 := (up_n (by decide))
      have h_141 := ir_41_6 hI
      have kn_142 : Hid (c_122 41 6 = c 41 6) := (hF_124 41 6 qn_eb0d473e8).trans (up_n (by decide))
      have h_143 : (up c_122 41 34 0) 41 6 = c 41 6 := ((up_n (by decide)).trans (hid kn_142))
      refine L_41t (m := up (up (up (up (up (up (up (up (up m 1 1 y_12) 1 2 0) 1 3 0) 1 4 0) 1 5 (-1)) 7 1 0) 7 2 0) 7 3 0) 7 4 0) (a1 := a1) (e1 := y_12) (f0 := 0) (g0 := (-1)) (p0 := 0) (n0 := n0) (n1 := n1) (n2 := n2) (ns0 := 0) (r0 := 0) (o0 := c_122 41 7) (F := F) (H := H) hI_132 hI_22 hI_26 (show (-2147483648) ≤ a1 ∧ a1 ≤ 2147483647 from ha1) (by first | decide | (clear ha1 hq0 h_1 hg_t9 h_2 hr_t9 h_3 hg_wk h_4 hr_wk h_5 hg_n0 h_6 hr_n0 h_7 hg_n1 h_8 hr_n1 h_9 hg_n2 h_10 hr_n2 h_13 h_29 h_28 h_31 h_32 h_96 h_105 h_104 h_106 h_107 h_112 h_113 h_116 h_117 h_119 h_120 h_126 h_127 h_128 h_129 h_130 h_125 h_95; omega) | omega) (by first | decide | (clear ha1 hq0 h_1 hg_t9 h_2 hr_t9 h_3 hg_wk h_4 hr_wk h_5 hg_n0 h_6 hr_n0 h_7 hg_n1 h_8 hr_n1 h_9 hg_n2 h_10 hr_n2 h_13 h_29 h_28 h_31 h_32 h_96 h_105 h_104 h_106 h_107 h_112 h_113 h_116 h_117 h_119 h_120 h_126 h_127 h_128 h_129 h_130 h_125 h_95; omega) | omega) (by first | decide | (clear ha1 hq0 h_1 hg_t9 h_2 hr_t9 h_3 hg_wk h_4 hr_wk h_5 hg_n0 h_6 hr_n0 h_7 hg_n1 h_8 hr_n1 h_9 hg_n2 h_10 hr_n2 h_13 h_29 h_28 h_31 h_32 h_96 h_105 h_104 h_106 h_107 h_112 h_113 h_116 h_117 h_119 h_120 h_126 h_127 h_128 h_129 h_130 h_125 h_95; omega) | omega) (by first | decide | (clear ha1 hq0 h_1 hg_t9 h_2 hr_t9 h_3 hg_wk h_4 hr_wk h_5 hg_n0 h_6 hr_n0 h_7 hg_n1 h_8 hr_n1 h_9 hg_n2 h_10 hr_n2 h_13 h_29 h_28 h_31 h_32 h_96 h_105 h_104 h_106 h_107 h_112 h_113 h_116 h_117 h_119 h_120 h_126 h_127 h_128 h_129 h_130 h_125 h_95; omega) | omega) (by omega) (by first | (clear ha1 h_1 hg_t9 h_2 hr_t9 h_3 hg_wk h_4 hr_wk h_5 hg_n0 h_6 hr_n0 h_7 hg_n1 h_8 hr_n1 h_9 hg_n2 h_10 hr_n2 h_13 h_29 h_28 h_31 h_32 h_96 h_105 h_104 h_106 h_107 h_112 h_113 h_116 h_117 h_119 h_120 h_126 h_127 h_128 h_129 h_130 h_125 h_95; omega) | omega) (by first | (clear ha1 hq0 h_1 hg_t9 h_2 hr_t9 h_3 hg_wk h_4 hr_wk h_5 hg_n0 h_6 hr_n0 h_7 hg_n1 h_8 hr_n1 h_9 hg_n2 h_10 hr_n2 h_13 h_29 h_28 h_31 h_32 h_96 h_105 h_104 h_106 h_107 h_112 h_113 h_116 h_117 h_119 h_120 h_126 h_127 h_128 h_129 h_95; omega) | omega) (((up_c (nn rfl)).trans ((up_c (nn rfl)).trans ((up_c (nn rfl)).trans ((up_c (nn rfl)).trans ((up_n (by decide)).trans ((up_n (by decide)).trans ((up_n (by decide)).trans ((up_n (by decide)).trans (up_e rfl)))))))))) (((show _ = c_122 41 3 from (up_n (by decide))).trans (by omega))) (((up_c (nn rfl)).trans ((up_c (nn rfl)).trans ((up_c (nn rfl)).trans ((up_c (nn rfl)).trans ((up_n (by decide)).trans (up_e rfl))))))) (((up_c (nn rfl)).trans ((up_c (nn rfl)).trans ((up_c (nn rfl)).trans ((up_c (nn rfl)).trans (up_e rfl)))))) (((up_c (nn rfl)).trans ((up_c (nn rfl)).trans ((up_c (nn rfl)).trans ((up_c (nn rfl)).trans ((up_n (by decide)).trans ((up_n (by decide)).trans ((up_n (by decide)).trans (up_e rfl))))))))) (((up_c (np0 hP rfl)).trans ((up_c (np0 hP rfl)).trans ((up_c (np0 hP rfl)).trans ((up_c (np0 hP rfl)).trans ((up_c (np0 hP rfl)).trans ((up_c (np0 hP rfl)).trans ((up_c (np0 hP rfl)).trans ((up_c (np0 hP rfl)).trans ((up_c (np0 hP rfl)).trans (hg_n0))))))))))) (((up_n (by decide)).trans (hid kn_133))) (((up_c (np0 hP rfl)).trans ((up_c (np0 hP rfl)).trans ((up_c (np0 hP rfl)).trans ((up_c (np0 hP rfl)).trans ((up_c (np0 hP rfl)).trans ((up_c (np0 hP rfl)).trans ((up_c (np0 hP rfl)).trans ((up_c (np0 hP rfl)).trans ((up_c (np0 hP rfl)).trans (hg_n1))))))))))) (((up_n (by decide)).trans (hid kn_134))) (((up_c (np0 hP rfl)).trans ((up_c (np0 hP rfl)).trans ((up_c (np0 hP rfl)).trans ((up_c (np0 hP rfl)).trans ((up_c (np0 hP rfl)).trans ((up_c (np0 hP rfl)).trans ((up_c (np0 hP rfl)).trans ((up_c (np0 hP rfl)).trans ((up_c (np0 hP rfl)).trans (hg_n2))))))))))) (((up_n (by decide)).trans (hid kn_135))) (((up_n (by decide)).trans ((up_n (by decide)).trans (up_e rfl)))) ((up_e rfl)) ((up_n (by decide))) (fun j => ((up_c (nn rfl)).trans ((up_c (nn rfl)).trans ((up_c (nn rfl)).trans ((up_c (nn rfl)).trans ((up_c (nn rfl)).trans ((up_c (nn rfl)).trans ((up_c (nn rfl)).trans ((up_c (nn rfl)).trans (up_c (nn rfl)))))))))).trans (hF j)) (fun j => ((up_c (nn rfl)).trans ((hF_124 43 j qn_78d42cb5c).trans (up_c (nn rfl)))).trans (hH j)) hU (rt_i1 ⟨by first | decide | (clear ha1 hq0 h_1 hg_t9 h_2 hr_t9 h_3 hg_wk h_4 hr_wk h_5 hg_n0 h_6 hr_n0 h_7 hg_n1 h_8 hr_n1 h_9 hg_n2 h_10 hr_n2 h_13 h_29 h_28 h_31 h_32 h_96 h_105 h_104 h_106 h_107 h_112 h_113 h_116 h_117 h_119 h_120 h_126 h_127 h_128 h_129 h_130 h_125 h_141 h_95; omega) | omega, by first | (clear ha1 hq0 h_1 hg_t9 h_2 hr_t9 h_3 hg_wk h_4 hr_wk h_5 hg_n0 h_6 hr_n0 h_7 hg_n1 h_8 hr_n1 h_9 hg_n2 h_10 hr_n2 h_13 h_29 h_28 h_31 h_32 h_96 h_105 h_104 h_106 h_107 h_112 h_113 h_116 h_117 h_119 h_120 h_126 h_127 h_128 h_130 h_141 h_95; omega) | omega, by first | (clear ha1 hq0 h_1 hg_t9 h_2 hr_t9 h_3 hg_wk h_4 hr_wk h_5 hg_n0 h_6 hr_n0 h_7 hg_n1 h_8 hr_n1 h_9 hg_n2 h_10 hr_n2 h_13 h_29 h_28 h_31 h_32 h_96 h_105 h_104 h_106 h_107 h_112 h_113 h_116 h_117 h_119 h_120 h_126 h_127 h_129 h_130 h_141 h_95; omega) | omega, by first | decide | (clear ha1 hq0 h_1 hg_t9 h_2 hr_t9 h_3 hg_wk h_4 hr_wk h_5 hg_n0 h_6 hr_n0 h_7 hg_n1 h_8 hr_n1 h_9 hg_n2 h_10 hr_n2 h_13 h_29 h_28 h_31 h_32 h_96 h_105 h_104 h_106 h_107 h_112 h_113 h_116 h_117 h_119 h_120 h_126 h_127 h_128 h_129 h_130 h_125 h_141 h_95; omega) | omega⟩) hG_30 (fun c_144 hI_145 hF_146 hR_148 h_149 h_150 hA_151 => ?_)
      have h_152 : (up c_122 41 34 0) 41 34 = 0 := (up_e rfl)
      have h_153 := ir_41_34 hI_145
      have h_154 := ir_1_2 hI_26
      have h_155 := ir_41_7 hI_145
      refine q_aload_n c_202_89 rfl (q_iconst c_202_90 (v_cv c_202_91 km_8_232 rfl rfl (Nat.le_of_ble_eq_true rfl) ⟨⟨rfl, rfl⟩, Nat.le_of_ble_eq_true rfl, rfl⟩ (Nat.le_of_ble_eq_true rfl) (Nat.le_of_ble_eq_true rfl) (q_aload_n c_164_0 rfl (q_aload_n c_164_1 rfl ?_))))
      have h_156 := ir_41_5 hI_145
      have h_157 := ir_41_4 hI_145
      have h_158 := ir_41_6 hI_145
      have h_159 := rt_ok hR_148 (by first | exact q_163d1c5eb h_31 h_32 | (clear ha1 hq0 h_1 hg_t9 h_2 hr_t9 h_3 hg_wk h_4 hr_wk h_5 hg_n0 h_6 hr_n0 h_7 hg_n1 h_8 hr_n1 h_9 hg_n2 h_10 hr_n2 h_13 h_29 h_28 h_96 h_105 h_104 h_106 h_107 h_112 h_113 h_116 h_117 h_119 h_120 h_126 h_127 h_128 h_129 h_130 h_125 h_141 h_153 h_154 h_155 h_150 h_156 h_157 h_158 h_95 h_149; omega) | omega)
      have hro_hR_148 := rt_ok hR_148 (by first | exact q_163d1c5eb h_31 h_32 | (clear ha1 hq0 h_1 hg_t9 h_2 hr_t9 h_3 hg_wk h_4 hr_wk h_5 hg_n0 h_6 hr_n0 h_7 hg_n1 h_8 hr_n1 h_9 hg_n2 h_10 hr_n2 h_13 h_29 h_28 h_96 h_105 h_104 h_106 h_107 h_112 h_113 h_116 h_117 h_119 h_120 h_126 h_127 h_128 h_129 h_130 h_125 h_141 h_153 h_154 h_155 h_150 h_156 h_157 h_158 h_159 h_95 h_149; omega) | omega)
      refine v_gi (z := 5) (v := (-1)) c_164_2 kf_8_102 rfl (Nat.le_of_ble_eq_true rfl) rfl rfl hro_hR_148.2.1 (v_pi (z := 8) c_164_5 kf_8_17 rfl (Nat.le_of_ble_eq_true rfl) rfl rfl rfl (by decide) (q_aload_n c_164_8 rfl (v_cv c_164_9 km_8_131 rfl rfl (Nat.le_of_ble_eq_true rfl) ⟨⟨rfl, rfl⟩, Nat.le_of_ble_eq_true rfl, rfl⟩ (Nat.le_of_ble_eq_true rfl) (Nat.le_of_ble_eq_true rfl) (q_aload_n c_152_0 rfl (v_gi (z := 5) (v := (-1)) c_152_1 kf_8_102 rfl (Nat.le_of_ble_eq_true rfl) rfl rfl (((up_n (by decide))).trans (hro_hR_148.2.1)) (q_iconst c_152_4 (v_ic_ne_f (t := 12) c_152_5 rfl (by decide) ?_)))))))
      refine q_iconst c_152_8 (q_goto (t := 13) c_152_9 rfl (v_zret c_152_13 rfl (by decide) (bk_inl (v_if_eq_f (t := 19) c_164_12 rfl (by decide) (q_iload_n c_164_15 rfl (q_goto (t := 26) c_164_16 rfl (q_iret c_164_26 rfl ?_)))))))
      refine bk_inl (q_istore_n c_202_94 (Nat.le_of_ble_eq_true rfl) (q_aload_n c_202_95 rfl (v_gi (z := 5) (v := (-1)) c_202_96 kf_8_102 rfl (Nat.le_of_ble_eq_true rfl) rfl rfl (((up_n (by decide))).trans (hro_hR_148.2.1)) (q_iconst c_202_99 (v_ic_eq_t (t := 105) c_202_100 rfl (by decide) (q_aload_n c_202_105 rfl (q_aload_n c_202_106 rfl ?_)))))))
      refine v_gr (t := 56) c_202_107 kf_8_59 rfl (Nat.le_of_ble_eq_true rfl) rfl (q_aload_n c_202_110 rfl (v_gr (t := 57) c_202_111 kf_8_62 rfl (Nat.le_of_ble_eq_true rfl) rfl (q_aload_n c_202_114 rfl (v_gi (z := 34) (v := c_144 41 34) c_202_115 kf_8_284 rfl (Nat.le_of_ble_eq_true rfl) rfl rfl (up_n (by decide)) (v_cv c_202_118 km_8_169 rfl rfl (Nat.le_of_ble_eq_true rfl) ⟨⟨rfl, rfl⟩, Nat.le_of_ble_eq_true rfl, rfl⟩ (Nat.le_of_ble_eq_true rfl) (Nat.le_of_ble_eq_true rfl) (s_148 (f := 56) (t := 57) (nf := 250) (nt := 250) (n := c_144 41 34) rfl rfl (by decide) (by decide) (by decide) (by decide) (by decide) (by omega) (bk_inl ?_)))))))
      have hI_160 := iw_41_8 (v := (-1)) hI_145 ⟨by decide, by decide⟩
      have hA_162 : St n2 0 (c_25 7 2) ((up c_101 0 11 (c_101 7 4)) 8) ((up c_144 41 8 (-1)) 56) := st_fr (hA_151 (by omega)) (fun j h1 h2 => (up_c (nn rfl)).trans ((hF_103 8 j (by omega)).trans (hF_94 8 j (by omega)))) (fun j h1 h2 => up_c (nn rfl))
      have hI_161 := cp_56_57 (n := c_144 41 34) hI_160 (by omega) (st_ap hA_162 (by omega))
      have kn_163 : Hid (c_144 41 35 = wk) := (hF_146 41 35 (fun q => q.elim (fun h => absurd h.2 (ni rfl)) (fun q => q.elim (fun h => absurd h.2 (ni rfl)) (fun q => q.elim (fun h => absurd h.2 (ni rfl)) (fun q => q.elim (fun h => absurd h.2 (ni rfl)) (fun q => q.elim (fun h => absurd h.2 (ni rfl)) (fun h => absurd h.1 (nn rfl)))))))).trans ((up_n (by decide)).trans (hid kn_131))
      have hw35 : (upc (up c_144 41 8 (-1)) 56 0 57 0 (c_144 41 34)) 41 35 = wk := ((upc_c (by omega)).trans ((up_n (by decide)).trans (hid kn_163)))
      have hw34 : (upc (up c_144 41 8 (-1)) 56 0 57 0 (c_144 41 34)) 41 34 = c_144 41 34 := ((upc_c (by omega)).trans (up_n (by decide)))
      refine Wp_ls [(0, .ref 41)] (lsub_cons rfl lsub_nil) (s_202bx (iv_open hI_161) (by omega) (by omega) (by omega) (fun j hj => iv_r hI_161 60 j hj (by omega)) (fun c_164 y_165 hI_166 hF_167 hy_168 h_169 => ?_))
      have h_170 := ir_41_35 hI_166
      have kn_171 : Hid (c_144 41 2 = c_122 41 2) := (hF_146 41 2 (fun q => q.elim (fun h => absurd h.2 (ni rfl)) (fun q => q.elim (fun h => absurd h.2 (ni rfl)) (fun q => q.elim (fun h => absurd h.2 (ni rfl)) (fun q => q.elim (fun h => absurd h.2 (ni rfl)) (fun q => q.elim (fun h => absurd h.2 (ni rfl)) (fun h => absurd h.1 (nn rfl)))))))).trans (up_n (by decide))
      have kn_172 : Hid (c_164 41 2 = c_122 41 2) := (hF_167 41 2 qn_efe248bd6).trans ((upc_c (by omega)).trans ((up_n (by decide)).trans (hid kn_171)))
      have h_173 : c_164 41 2 = c_122 41 2 := (hid kn_172)
      have kn_174 : Hid (c_164 41 8 = (-1)) := (hF_167 41 8 qn_432ecd73e).trans ((upc_c (by omega)).trans (up_e rfl))
      have h_175 : c_164 41 8 = (-1) := (hid kn_174)
      have kn_176 : Hid (c_122 41 0 = 0) := (hF_124 41 0 qn_18af663b8).trans (up_e rfl)
      have kn_177 : Hid (c_144 41 0 = 0) := (hF_146 41 0 (fun q => q.elim (fun h => absurd h.2 (ni rfl)) (fun q => q.elim (fun h => absurd h.2 (ni rfl)) (fun q => q.elim (fun h => absurd h.2 (ni rfl)) (fun q => q.elim (fun h => absurd h.2 (ni rfl)) (fun q => q.elim (fun h => absurd h.2 (ni rfl)) (fun h => absurd h.1 (nn rfl)))))))).trans ((up_n (by decide)).trans (hid kn_176))
      have kn_178 : Hid (c_164 41 0 = 0) := (hF_167 41 0 qn_db91eb030).trans ((upc_c (by omega)).trans ((up_n (by decide)).trans (hid kn_177)))
      have h_179 : c_164 41 0 = 0 := (hid kn_178)
      exact K c_164 y_165 hI_166 (fun a j hm => (hF_167 a j (qv_c507ff00a hm)).trans ((upc_c (fun h => hm (Or.inr (Or.inr (Or.inr (Or.inr (Or.inr (Or.inr (Or.inr (Or.inr (Or.inr (Or.inr (Or.inr (Or.inl h)))))))))))))).trans ((up_b (Decidable.or_iff_not_imp_left.mpr (fun h1 h2 => hm (Or.inr (Or.inr (Or.inr (Or.inr (Or.inr (Or.inr (Or.inr (Or.inr (Or.inl ⟨Decidable.not_not.mp h1, h2⟩)))))))))))).trans ((hF_146 a j (qv_573d069e6 hm)).trans ((up_b (Decidable.or_iff_not_imp_left.mpr (fun h1 h2 => hm (Or.inr (Or.inr (Or.inr (Or.inr (Or.inr (Or.inr (Or.inr (Or.inr (Or.inr (Or.inl ⟨Decidable.not_not.mp h1, h2⟩))))))))))))).trans ((hF_124 a j (qv_5d0a24d61 hm)).trans (up_b (Decidable.or_iff_not_imp_left.mpr (fun h1 h2 => hm (Or.inl ⟨Decidable.not_not.mp h1, h2⟩)))))))))) ⟨by omega, by omega⟩ (by first | (clear ha1 hq0 h_1 hg_t9 h_2 hr_t9 h_3 hg_wk h_4 hr_wk h_5 hg_n0 h_6 hr_n0 h_7 hg_n1 h_8 hr_n1 h_9 hg_n2 h_10 hr_n2 h_13 h_29 h_28 h_31 h_32 h_96 h_105 h_104 h_106 h_107 h_112 h_113 h_116 h_117 h_119 h_120 h_127 h_128 h_129 h_130 h_141 h_153 h_154 h_155 h_150 h_156 h_157 h_158 h_159 h_170 h_95 h_149; omega) | omega) (by first | exact q_019e65e0c h_116 h_117 h_159 | (clear ha1 hq0 h_1 hg_t9 h_2 hr_t9 h_3 hg_wk h_4 hr_wk h_5 hg_n0 h_6 hr_n0 h_7 hg_n1 h_8 hr_n1 h_9 hg_n2 h_10 hr_n2 h_13 h_29 h_28 h_31 h_32 h_96 h_105 h_104 h_106 h_107 h_112 h_113 h_119 h_120 h_126 h_127 h_128 h_129 h_130 h_125 h_141 h_153 h_154 h_155 h_150 h_156 h_157 h_158 h_170 h_95 h_149; omega) | omega) (by first | decide | (clear ha1 hq0 h_1 hg_t9 h_2 hr_t9 h_3 hg_wk h_4 hr_wk h_5 hg_n0 h_6 hr_n0 h_7 hg_n1 h_8 hr_n1 h_9 hg_n2 h_10 hr_n2 h_13 h_29 h_28 h_31 h_32 h_96 h_105 h_104 h_106 h_107 h_112 h_113 h_116 h_117 h_119 h_120 h_126 h_127 h_128 h_129 h_130 h_125 h_141 h_153 h_154 h_155 h_150 h_156 h_157 h_158 h_159 h_170 h_95 h_149; omega) | omega) (by first | (clear ha1 hq0 h_1 hg_t9 h_2 hr_t9 h_3 hg_wk h_4 hr_wk h_5 hg_n0 h_6 hr_n0 h_7 hg_n1 h_8 hr_n1 h_9 hg_n2 h_10 hr_n2 h_29 h_28 h_31 h_32 h_96 h_105 h_104 h_106 h_107 h_112 h_113 h_116 h_117 h_126 h_127 h_128 h_129 h_130 h_125 h_141 h_153 h_154 h_155 h_150 h_156 h_157 h_158 h_159 h_149; omega) | omega)
  · refine v_ic_lt_f (t := 13) c_23_6 rfl ⟨by decide, (Int.not_lt.mp h_13), (Int.le_trans (rg_eq hg_wk h_3).2 (by decide))⟩ (q_iconst c_23_9 (q_goto (t := 14) c_23_10 rfl (v_zret c_23_14 rfl (by decide) (bk_inl (v_if_eq_f (t := 21) c_86_15 rfl (by decide) (v_bip c_86_18 (by decide) (q_iret c_86_20 rfl ?_)))))))
    have hI_180 := iw_1_1 (v := y_12) hJ ⟨by omega, by first | (clear ha1 h_1 hg_t9 h_2 hr_t9 h_3 hg_wk h_4 hr_wk h_5 hg_n0 h_6 hr_n0 h_7 hg_n1 h_8 hr_n1 h_9 hg_n2 h_10 hr_n2 h_13; omega) | omega⟩
    have hI_181 := iw_1_2 (v := 0) hI_180 ⟨by decide, by decide⟩
    have hI_182 := iw_1_3 (v := 0) hI_181 ⟨by decide, by decide⟩
    have hI_183 := iw_1_4 (v := 0) hI_182 ⟨by decide, by decide⟩
    have hI_184 := iw_1_5 (v := (-1)) hI_183 ⟨by decide, by decide⟩
    intro hE_185
    have h_186 : yg = (-20) := (vi_inj ⟨by omega, by omega⟩ ⟨by omega, by omega⟩ (Option.some.inj (Sum.inl.inj (Prod.mk.inj hE_185).1))).symm
    have hW : Wd P Q P P (up (up (up (up (up m 1 1 y_12) 1 2 0) 1 3 0) 1 4 0) 1 5 (-1)) = Wd P Q P P m9 := (Prod.mk.inj (Prod.mk.inj hE_185).2).1
    have h_187 := ir_1_5 hJ9
    have h_188 : m9 1 5 = (-1) := wd_fv (z := 5) 5 rfl hW rfl rfl rfl rfl (by decide) (up_e rfl) ⟨by decide, by decide⟩ ⟨(Int.le_trans (by decide) h_187.1), (Int.le_trans h_187.2 (by decide))⟩
    have h_189 := ir_3_3 hJ9
    have h_190 : m9 3 3 = wk := wd_fv (z := 3) 3 rfl hW rfl rfl rfl rfl (by decide) ((up_c (nn rfl)).trans ((up_c (nn rfl)).trans ((up_c (nn rfl)).trans ((up_c (nn rfl)).trans ((up_c (nn rfl)).trans (hg_wk)))))) ⟨(Int.le_trans (by decide) (rg_eq hg_wk h_3).1), (Int.le_trans (rg_eq hg_wk h_3).2 (by decide))⟩ ⟨(Int.le_trans (by decide) h_189.1), (Int.le_trans h_189.2 (by decide))⟩
    refine q_aload_n c_202_0 rfl (q_iconst c_202_1 (v_pi (z := 0) c_202_2 kf_8_3 rfl (Nat.le_of_ble_eq_true rfl) rfl rfl rfl (by decide) (q_aload_n c_202_5 rfl (q_iload_n c_202_6 rfl (v_if_lt_f (t := 29) c_202_7 rfl ⟨by decide, by first | exact q_d12bc8d2a hq0 | (clear ha1 h_1 hg_t9 h_2 hr_t9 h_3 hg_wk h_4 hr_wk h_5 hg_n0 h_6 hr_n0 h_7 hg_n1 h_8 hr_n1 h_9 hg_n2 h_10 hr_n2 h_13 h_186 h_187 h_188 h_189 h_190; omega) | omega, ha1.2⟩ (q_iload_n c_202_10 rfl (q_aload_n c_202_11 rfl ?_)))))))
    refine v_gi (z := 2) (v := t9) c_202_12 kf_8_99 rfl (Nat.le_of_ble_eq_true rfl) rfl rfl ((up_n (by decide)).trans (hr_t9)) (v_ic_gt_f (t := 29) c_202_15 rfl ⟨ha1.1, by first | exact q_5ade8dffc hq0 | (clear ha1 h_1 hg_t9 h_2 hr_t9 h_3 hg_wk h_4 hr_wk h_5 hg_n0 h_6 hr_n0 h_7 hg_n1 h_8 hr_n1 h_9 hg_n2 h_10 hr_n2 h_13 h_186 h_187 h_188 h_189 h_190; omega) | omega, (Int.le_trans (rg_eq hg_t9 h_1).2 (by decide))⟩ (q_iload_n c_202_18 rfl (v_sip c_202_19 (by decide) (v_ic_gt_f (t := 29) c_202_22 rfl ⟨ha1.1, by first | exact q_c25acb4df hq0 | (clear ha1 h_1 hg_t9 h_2 hr_t9 h_3 hg_wk h_4 hr_wk h_5 hg_n0 h_6 hr_n0 h_7 hg_n1 h_8 hr_n1 h_9 hg_n2 h_10 hr_n2 h_13 h_186 h_187 h_188 h_189 h_190; omega) | omega, by decide⟩ (q_iconst c_202_25 (q_goto (t := 30) c_202_26 rfl (q_iconst c_202_30 ?_)))))))
    refine q_iconst c_202_31 (v_cv c_202_32 km_8_203 rfl rfl (Nat.le_of_ble_eq_true rfl) ⟨⟨rfl, rfl⟩, Nat.le_of_ble_eq_true rfl, rfl⟩ (Nat.le_of_ble_eq_true rfl) (Nat.le_of_ble_eq_true rfl) (q_iload_n c_145_0 rfl (v_if_ne_t (t := 26) c_145_1 rfl (by decide) (q_aload_n c_145_26 rfl (v_gi (z := 0) (v := 0) c_145_27 kf_8_3 rfl (Nat.le_of_ble_eq_true rfl) rfl rfl (up_e rfl) (v_if_ne_f (t := 37) c_145_30 rfl (by decide) (q_iconst c_145_33 ?_)))))))
    refine q_goto (t := 38) c_145_34 rfl (v_zret c_145_38 rfl (by decide) (bk_inl (v_if_ne_t (t := 40) c_202_35 rfl (by decide) (q_aload_n c_202_40 rfl (q_iload_n c_202_41 rfl ?_)))))
    have hI_191 := iw_41_0 (v := 0) hI ⟨by decide, by decide⟩
    refine v_cv c_202_42 km_8_207 rfl rfl (Nat.le_of_ble_eq_true rfl) ⟨⟨rfl, rfl⟩, Nat.le_of_ble_eq_true rfl, rfl⟩ (Nat.le_of_ble_eq_true rfl) (Nat.le_of_ble_eq_true rfl) (s_163 (a1 := a1) hI_191 (show 0 ≤ a1 ∧ a1 ≤ 600 from ⟨by first | exact q_d12bc8d2a hq0 | (clear ha1 h_1 hg_t9 h_2 hr_t9 h_3 hg_wk h_4 hr_wk h_5 hg_n0 h_6 hr_n0 h_7 hg_n1 h_8 hr_n1 h_9 hg_n2 h_10 hr_n2 h_13 h_186 h_187 h_188 h_189 h_190; omega) | omega, by first | exact q_f37fc148c hq0 | (clear ha1 h_1 hg_t9 h_2 hr_t9 h_3 hg_wk h_4 hr_wk h_5 hg_n0 h_6 hr_n0 h_7 hg_n1 h_8 hr_n1 h_9 hg_n2 h_10 hr_n2 h_13 h_186 h_187 h_188 h_189 h_190; omega) | omega⟩) (fun c_192 hI_193 hF_194 h_195 => (bk_inl ?_)))
    have h_196 := ir_41_2 hI_193
    have h_197 := ir_41_3 hI_193
    have h_198 := ir_41_4 hI_193
    have h_199 := ir_41_5 hI_193
    have h_200 := ir_41_7 hI_193
    refine q_aload_n c_202_45 rfl ?_
    have kn_201 : Hid (c_192 41 35 = wk) := (hF_194 41 35 qn_010af1ec6).trans ((up_n (by decide)).trans (hr_wk))
    refine v_gi (z := 35) (v := wk) c_202_46 kf_8_182 rfl (Nat.le_of_ble_eq_true rfl) rfl rfl (hid kn_201) (v_bip c_202_49 (by decide) (v_ic_ne_f (t := 63) c_202_51 rfl (by first | exact q_d508f85d1 h_13 h_4 hr_wk | (clear ha1 hq0 h_1 hg_t9 h_2 hr_t9 h_3 hg_wk h_5 hg_n0 h_6 hr_n0 h_7 hg_n1 h_8 hr_n1 h_9 hg_n2 h_10 hr_n2 h_186 h_187 h_188 h_189 h_190 h_196 h_197 h_198 h_199 h_200 h_195; omega) | omega) (q_aload_n c_202_54 rfl (q_iconst c_202_55 (v_cv c_202_56 km_8_232 rfl rfl (Nat.le_of_ble_eq_true rfl) ⟨⟨rfl, rfl⟩, Nat.le_of_ble_eq_true rfl, rfl⟩ (Nat.le_of_ble_eq_true rfl) (Nat.le_of_ble_eq_true rfl) (q_aload_n c_164_0 rfl (q_aload_n c_164_1 rfl ?_)))))))
    refine v_gi (z := 5) (v := c_192 41 5) c_164_2 kf_8_102 rfl (Nat.le_of_ble_eq_true rfl) rfl rfl rfl (v_pi (z := 8) c_164_5 kf_8_17 rfl (Nat.le_of_ble_eq_true rfl) rfl rfl rfl (by decide) (q_aload_n c_164_8 rfl (v_cv c_164_9 km_8_131 rfl rfl (Nat.le_of_ble_eq_true rfl) ⟨⟨rfl, rfl⟩, Nat.le_of_ble_eq_true rfl, rfl⟩ (Nat.le_of_ble_eq_true rfl) (Nat.le_of_ble_eq_true rfl) (q_aload_n c_152_0 rfl (v_gi (z := 5) (v := c_192 41 5) c_152_1 kf_8_102 rfl (Nat.le_of_ble_eq_true rfl) rfl rfl (up_n (by decide)) (q_iconst c_152_4 (v_ic_ne_f (t := 12) c_152_5 rfl (by first | (clear ha1 hq0 h_1 hg_t9 h_2 hr_t9 h_3 hg_wk h_4 hr_wk h_5 hg_n0 h_6 hr_n0 h_7 hg_n1 h_8 hr_n1 h_9 hg_n2 h_10 hr_n2 h_13 h_186 h_187 h_188 h_189 h_190 h_196 h_197 h_198 h_200; omega) | omega) ?_)))))))
    refine q_iconst c_152_8 (q_goto (t := 13) c_152_9 rfl (v_zret c_152_13 rfl (by decide) (bk_inl (v_if_eq_f (t := 19) c_164_12 rfl (by decide) (q_iload_n c_164_15 rfl (q_goto (t := 26) c_164_16 rfl (q_iret c_164_26 rfl ?_)))))))
    refine bk_inl (q_pop c_202_59 rfl (v_bip c_202_60 (by decide) (q_iret c_202_62 rfl ?_)))
    have hI_202 := iw_41_8 (v := c_192 41 5) hI_193 ⟨h_199.1, h_199.2⟩
    have h_203 : (up c_192 41 8 (c_192 41 5)) 41 2 = c_192 41 2 := (up_n (by decide))
    have h_204 : (up c_192 41 8 (c_192 41 5)) 41 8 = c_192 41 5 := (up_e rfl)
    have kn_205 : Hid (c_192 41 0 = 0) := (hF_194 41 0 qn_18af663b8).trans (up_e rfl)
    have h_206 : (up c_192 41 8 (c_192 41 5)) 41 0 = 0 := ((up_n (by decide)).trans (hid kn_205))
    have h_207 : (up c_192 41 8 (c_192 41 5)) 41 35 = wk := ((up_n (by decide)).trans (hid kn_201))
    exact K (up c_192 41 8 (c_192 41 5)) (-20) hI_202 (fun a j hm => (up_b (Decidable.or_iff_not_imp_left.mpr (fun h1 h2 => hm (Or.inr (Or.inr (Or.inr (Or.inr (Or.inr (Or.inr (Or.inr (Or.inr (Or.inl ⟨Decidable.not_not.mp h1, h2⟩)))))))))))).trans ((hF_194 a j (qv_5d0a24d61 hm)).trans (up_b (Decidable.or_iff_not_imp_left.mpr (fun h1 h2 => hm (Or.inl ⟨Decidable.not_not.mp h1, h2⟩)))))) ⟨by omega, by omega⟩ (by first | (clear ha1 hq0 h_1 hg_t9 h_2 hr_t9 h_3 hg_wk h_4 hr_wk h_5 hg_n0 h_6 hr_n0 h_7 hg_n1 h_8 hr_n1 h_9 hg_n2 h_10 hr_n2 h_13 h_186 h_187 h_188 h_189 h_190 h_197 h_198 h_199 h_200; omega) | omega) (by first | (clear ha1 hq0 h_1 hg_t9 h_2 hr_t9 h_3 hg_wk h_4 hr_wk h_5 hg_n0 h_6 hr_n0 h_7 hg_n1 h_8 hr_n1 h_9 hg_n2 h_10 hr_n2 h_13 h_186 h_189 h_190 h_196 h_197 h_198 h_200; omega) | omega) (by first | decide | (clear ha1 hq0 h_1 hg_t9 h_2 hr_t9 h_3 hg_wk h_4 hr_wk h_5 hg_n0 h_6 hr_n0 h_7 hg_n1 h_8 hr_n1 h_9 hg_n2 h_10 hr_n2 h_13 h_186 h_187 h_188 h_189 h_190 h_196 h_197 h_198 h_199 h_200 h_195; omega) | omega) (by first | exact q_d8da297ae h_190 | (clear ha1 hq0 h_1 hg_t9 h_2 hr_t9 h_3 hg_wk h_4 hr_wk h_5 hg_n0 h_6 hr_n0 h_7 hg_n1 h_8 hr_n1 h_9 hg_n2 h_10 hr_n2 h_13 h_186 h_187 h_188 h_189 h_196 h_197 h_198 h_199 h_200 h_195; omega) | omega)

