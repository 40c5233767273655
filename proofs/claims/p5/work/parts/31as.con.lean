/-! ===== contracts 13 ===== -/
theorem q_6d7d7611f {x0 : Int} (f0 : (-1) ≤ x0 ∧ x0 ≤ 605) (f1 : (x0 < (-1)) ∨ (x0 > (-1))) : ¬ x0 = (-1) := by omega
theorem q_669679922 {x0 x1 : Int} (f0 : 0 ≤ x0 ∧ x0 ≤ 6) (f1 : (x1 = x0)) : x1 ≤ 6 := by omega
theorem q_f3b097ab5 {x0 x1 : Int} (f0 : (x0 ≤ 150)) (f1 : (x1 ≤ x0 - 1)) : x1 ≤ 600 := by omega
theorem qn_e8a085a5c : ¬ (((41 : Nat) = 41 ∧ (3 : Int) = 4) ∨ ((41 : Nat) = 41 ∧ (3 : Int) = 5) ∨ ((41 : Nat) = 41 ∧ (3 : Int) = 6) ∨ ((41 : Nat) = 41 ∧ (3 : Int) = 7)) := (fun q => q.elim (fun h => absurd h.2 (ni rfl)) (fun q => q.elim (fun h => absurd h.2 (ni rfl)) (fun q => q.elim (fun h => absurd h.2 (ni rfl)) (fun h => absurd h.2 (ni rfl)))))
theorem qn_ae3f17736 : ¬ (((41 : Nat) = 41 ∧ (29 : Int) = 4) ∨ ((41 : Nat) = 41 ∧ (29 : Int) = 5) ∨ ((41 : Nat) = 41 ∧ (29 : Int) = 6) ∨ ((41 : Nat) = 41 ∧ (29 : Int) = 7)) := (fun q => q.elim (fun h => absurd h.2 (ni rfl)) (fun q => q.elim (fun h => absurd h.2 (ni rfl)) (fun q => q.elim (fun h => absurd h.2 (ni rfl)) (fun h => absurd h.2 (ni rfl)))))
theorem qn_56e241d1f : ¬ (((41 : Nat) = 41 ∧ (29 : Int) = 4) ∨ ((41 : Nat) = 41 ∧ (29 : Int) = 5) ∨ ((41 : Nat) = 41 ∧ (29 : Int) = 6)) := (fun q => q.elim (fun h => absurd h.2 (ni rfl)) (fun q => q.elim (fun h => absurd h.2 (ni rfl)) (fun h => absurd h.2 (ni rfl))))
theorem qn_fb1117a24 : ¬ (((41 : Nat) = 41 ∧ (7 : Int) = 4) ∨ ((41 : Nat) = 41 ∧ (7 : Int) = 5) ∨ ((41 : Nat) = 41 ∧ (7 : Int) = 6)) := (fun q => q.elim (fun h => absurd h.2 (ni rfl)) (fun q => q.elim (fun h => absurd h.2 (ni rfl)) (fun h => absurd h.2 (ni rfl))))
theorem qn_a830d9710 {j : Int} : ¬ (((50 : Nat) = 41 ∧ j = 4) ∨ ((50 : Nat) = 41 ∧ j = 5) ∨ ((50 : Nat) = 41 ∧ j = 6)) := (fun q => q.elim (fun h => absurd h.1 (nn rfl)) (fun q => q.elim (fun h => absurd h.1 (nn rfl)) (fun h => absurd h.1 (nn rfl))))
theorem qn_6ba3ccab5 {j : Int} : ¬ (((50 : Nat) = 41 ∧ j = 4) ∨ ((50 : Nat) = 41 ∧ j = 5) ∨ ((50 : Nat) = 41 ∧ j = 6) ∨ ((50 : Nat) = 41 ∧ j = 7)) := (fun q => q.elim (fun h => absurd h.1 (nn rfl)) (fun q => q.elim (fun h => absurd h.1 (nn rfl)) (fun q => q.elim (fun h => absurd h.1 (nn rfl)) (fun h => absurd h.1 (nn rfl)))))
theorem qn_b10baaf0c {j : Int} : ¬ (((51 : Nat) = 41 ∧ j = 4) ∨ ((51 : Nat) = 41 ∧ j = 5) ∨ ((51 : Nat) = 41 ∧ j = 6)) := (fun q => q.elim (fun h => absurd h.1 (nn rfl)) (fun q => q.elim (fun h => absurd h.1 (nn rfl)) (fun h => absurd h.1 (nn rfl))))
theorem qn_a6960f5c9 {j : Int} : ¬ (((51 : Nat) = 41 ∧ j = 4) ∨ ((51 : Nat) = 41 ∧ j = 5) ∨ ((51 : Nat) = 41 ∧ j = 6) ∨ ((51 : Nat) = 41 ∧ j = 7)) := (fun q => q.elim (fun h => absurd h.1 (nn rfl)) (fun q => q.elim (fun h => absurd h.1 (nn rfl)) (fun q => q.elim (fun h => absurd h.1 (nn rfl)) (fun h => absurd h.1 (nn rfl)))))
theorem q_7024b37ce {x0 : Int} (f0 : (x0 ≤ 150)) : x0 ≤ 150 := by omega
theorem q_74b75ddac {x0 x1 x2 x3 : Int} (f0 : (x0 ≥ x1)) (f1 : (x1 ≥ x2)) (f2 : (x3 ≤ x2)) : x3 ≤ x0 := by omega
theorem qn_d31ba9b5e : ¬ (((41 : Nat) = 41 ∧ (3 : Int) = 4) ∨ ((41 : Nat) = 41 ∧ (3 : Int) = 5) ∨ ((41 : Nat) = 41 ∧ (3 : Int) = 6) ∨ ((41 : Nat) = 41 ∧ (3 : Int) = 7) ∨ ((41 : Nat) = 41 ∧ (3 : Int) = 29) ∨ (41 : Nat) = 50 ∨ (41 : Nat) = 51) := (fun q => q.elim (fun h => absurd h.2 (ni rfl)) (fun q => q.elim (fun h => absurd h.2 (ni rfl)) (fun q => q.elim (fun h => absurd h.2 (ni rfl)) (fun q => q.elim (fun h => absurd h.2 (ni rfl)) (fun q => q.elim (fun h => absurd h.2 (ni rfl)) (fun q => q.elim (fun h => absurd h (nn rfl)) (fun h => absurd h (nn rfl))))))))
theorem q_1d7484626 {x0 x1 x2 x3 x4 x5 x6 x7 : Int} (f0 : (x0 ≥ x1)) (f1 : (x0 + x2 ≤ x3 + x4)) (f2 : (x5 ≥ x4)) (f3 : (x1 ≥ x6)) (f4 : (x7 ≤ x6)) (f5 : x3 = x7) : x2 ≤ x5 := by omega
theorem q_a488cbdaf {x0 x1 x2 x3 x4 x5 : Int} (f0 : (x0 = x1 + 1)) (f1 : (x2 = x3)) (f2 : 0 ≤ x1 ∧ x1 ≤ 7) (f3 : (x4 = x5)) (f4 : x3 = x0) (f5 : x5 = x2) : 0 ≤ x4 - 1 := by omega
theorem q_db5d28903 {x0 : Int} (f0 : 6 ≤ x0 ∧ x0 ≤ 7) : ¬ x0 = 1 := by omega
theorem qn_fcc0aaabe : ¬ (((41 : Nat) = 41 ∧ (4 : Int) = 29) ∨ (41 : Nat) = 50 ∨ (41 : Nat) = 51) := (fun q => q.elim (fun h => absurd h.2 (ni rfl)) (fun q => q.elim (fun h => absurd h (nn rfl)) (fun h => absurd h (nn rfl))))
theorem qn_c65a44569 : ¬ (((41 : Nat) = 41 ∧ (5 : Int) = 29) ∨ (41 : Nat) = 50 ∨ (41 : Nat) = 51) := (fun q => q.elim (fun h => absurd h.2 (ni rfl)) (fun q => q.elim (fun h => absurd h (nn rfl)) (fun h => absurd h (nn rfl))))
theorem qn_5700af53f : ¬ (((41 : Nat) = 41 ∧ (7 : Int) = 29) ∨ (41 : Nat) = 50 ∨ (41 : Nat) = 51) := (fun q => q.elim (fun h => absurd h.2 (ni rfl)) (fun q => q.elim (fun h => absurd h (nn rfl)) (fun h => absurd h (nn rfl))))
theorem qv_d7b4eb562 {a : Nat} {j : Int} (hm : ¬ ((a = 41 ∧ j = 4) ∨ (a = 41 ∧ j = 5) ∨ (a = 41 ∧ j = 6) ∨ (a = 41 ∧ j = 7) ∨ (a = 41 ∧ j = 29) ∨ a = 50 ∨ a = 51)) : ¬ ((a = 41 ∧ j = 29) ∨ a = 50 ∨ a = 51) := (fun q => q.elim (fun h => hm (Or.inr (Or.inr (Or.inr (Or.inr (Or.inl h)))))) (fun q => q.elim (fun h => hm (Or.inr (Or.inr (Or.inr (Or.inr (Or.inr (Or.inl h))))))) (fun h => hm (Or.inr (Or.inr (Or.inr (Or.inr (Or.inr (Or.inr h)))))))))
theorem qv_79b37c5f3 {a : Nat} {j : Int} (hm : ¬ ((a = 41 ∧ j = 4) ∨ (a = 41 ∧ j = 5) ∨ (a = 41 ∧ j = 6) ∨ (a = 41 ∧ j = 7) ∨ (a = 41 ∧ j = 29) ∨ a = 50 ∨ a = 51)) : ¬ ((a = 41 ∧ j = 4) ∨ (a = 41 ∧ j = 5) ∨ (a = 41 ∧ j = 6)) := (fun q => q.elim (fun h => hm (Or.inl h)) (fun q => q.elim (fun h => hm (Or.inr (Or.inl h))) (fun h => hm (Or.inr (Or.inr (Or.inl h))))))
theorem qv_d0add4e0b {a : Nat} {j : Int} (hm : ¬ ((a = 41 ∧ j = 4) ∨ (a = 41 ∧ j = 5) ∨ (a = 41 ∧ j = 6) ∨ (a = 41 ∧ j = 7) ∨ (a = 41 ∧ j = 29) ∨ a = 50 ∨ a = 51)) : ¬ ((a = 41 ∧ j = 4) ∨ (a = 41 ∧ j = 5) ∨ (a = 41 ∧ j = 6) ∨ (a = 41 ∧ j = 7)) := (fun q => q.elim (fun h => hm (Or.inl h)) (fun q => q.elim (fun h => hm (Or.inr (Or.inl h))) (fun q => q.elim (fun h => hm (Or.inr (Or.inr (Or.inl h)))) (fun h => hm (Or.inr (Or.inr (Or.inr (Or.inl h))))))))
theorem q_796198873 {x0 x1 x2 x3 x4 x5 x6 : Int} (f0 : (x0 ≥ x1)) (f1 : (x2 ≥ x0)) (f2 : (x3 ≥ x2)) (f3 : (x4 ≥ x3)) (f4 : (x5 ≥ x4)) (f5 : (x1 ≥ x6)) : x6 ≤ x5 := by omega
theorem q_0c164124e {x0 x1 x2 x3 x4 x5 : Int} (f0 : (x0 = x1 + 1)) (f1 : (x2 = x3)) (f2 : (x4 = x5)) (f3 : x3 = x0) (f4 : x5 = x2) : x4 - 1 = x1 := by omega
theorem q_15f2fbd29 {x0 x1 x2 x3 : Int} (f0 : (x0 = x1 + 1)) (f1 : (x2 = x3)) (f2 : 0 ≤ x1 ∧ x1 ≤ 7) (f3 : x3 = x0) : 0 ≤ x2 - 1 := by omega
theorem q_10c60cb60 {x0 x1 x2 x3 x4 x5 : Int} (f0 : (x0 ≥ x1)) (f1 : (x2 ≥ x3)) (f2 : (x4 ≥ x2)) (f3 : (x1 ≥ x4)) (f4 : (x3 ≥ x5)) : x5 ≤ x0 := by omega
theorem q_c30709b32 {x0 x1 x2 x3 : Int} (f0 : (x0 = x1 + 1)) (f1 : (x2 = x3)) (f2 : x3 = x0) : x2 - 1 = x1 := by omega
theorem q_3a97aaad7 {x0 x1 : Int} (f0 : (x0 = x1 + 1)) (f1 : 0 ≤ x1 ∧ x1 ≤ 7) : 0 ≤ x0 - 1 := by omega
theorem q_9bdbff860 {x0 x1 x2 x3 x4 : Int} (f0 : (x0 ≥ x1)) (f1 : (x2 ≥ x0)) (f2 : (x1 ≥ x3)) (f3 : (x3 ≥ x4)) : x4 ≤ x2 := by omega
theorem q_65aaae687 {x0 x1 : Int} (f0 : (x0 = x1 + 1)) : x0 - 1 = x1 := by omega
theorem c_176_0 : mLk 176 0 = some (.aload_n 0, 1) := rfl
theorem c_176_1 : mLk 176 1 = some (.invokevirtual 131, 3) := rfl
theorem c_176_4 : mLk 176 4 = some (.ifCond .ne 4, 3) := rfl
theorem c_173_0 : mLk 173 0 = some (.aload_n 0, 1) := rfl
theorem c_173_1 : mLk 173 1 = some (.invokevirtual 245, 3) := rfl
theorem c_173_4 : mLk 173 4 = some (.aload_n 0, 1) := rfl
theorem c_173_5 : mLk 173 5 = some (.invokevirtual 131, 3) := rfl
theorem c_173_8 : mLk 173 8 = some (.ifCond .eq 82, 3) := rfl
theorem c_174_0 : mLk 174 0 = some (.aload_n 0, 1) := rfl
theorem c_174_1 : mLk 174 1 = some (.invokevirtual 239, 3) := rfl
theorem c_174_4 : mLk 174 4 = some (.aload_n 0, 1) := rfl
theorem c_174_5 : mLk 174 5 = some (.invokevirtual 131, 3) := rfl
theorem c_174_8 : mLk 174 8 = some (.ifCond .eq 59, 3) := rfl
theorem c_175_0 : mLk 175 0 = some (.aload_n 0, 1) := rfl
theorem c_175_1 : mLk 175 1 = some (.iload_n 1, 1) := rfl
theorem c_175_2 : mLk 175 2 = some (.invokevirtual 248, 3) := rfl
theorem c_175_5 : mLk 175 5 = some (.aload_n 0, 1) := rfl
theorem c_175_6 : mLk 175 6 = some (.bipush 91, 2) := rfl
theorem c_175_8 : mLk 175 8 = some (.invokevirtual 229, 3) := rfl
theorem c_175_11 : mLk 175 11 = some (.aload_n 0, 1) := rfl
theorem c_175_12 : mLk 175 12 = some (.invokevirtual 251, 3) := rfl
theorem c_175_15 : mLk 175 15 = some (.aload_n 0, 1) := rfl
theorem c_175_16 : mLk 175 16 = some (.bipush 44, 2) := rfl
theorem c_175_18 : mLk 175 18 = some (.invokevirtual 229, 3) := rfl
theorem c_175_21 : mLk 175 21 = some (.aload_n 0, 1) := rfl
theorem c_175_22 : mLk 175 22 = some (.invokevirtual 251, 3) := rfl
theorem c_175_25 : mLk 175 25 = some (.aload_n 0, 1) := rfl
theorem c_175_26 : mLk 175 26 = some (.bipush 93, 2) := rfl
theorem c_175_28 : mLk 175 28 = some (.invokevirtual 229, 3) := rfl
theorem c_175_31 : mLk 175 31 = some (.aload_n 0, 1) := rfl
theorem c_175_32 : mLk 175 32 = some (.dup, 1) := rfl
theorem c_175_33 : mLk 175 33 = some (.getfield 142, 3) := rfl
theorem c_175_36 : mLk 175 36 = some (.iconst 1, 1) := rfl
theorem c_175_37 : mLk 175 37 = some (.isub, 1) := rfl
theorem c_175_38 : mLk 175 38 = some (.putfield 142, 3) := rfl
theorem c_175_41 : mLk 175 41 = some (.aload_n 0, 1) := rfl
theorem c_175_42 : mLk 175 42 = some (.iload_n 2, 1) := rfl
theorem c_175_43 : mLk 175 43 = some (.iconst 0, 1) := rfl
theorem c_175_44 : mLk 175 44 = some (.invokevirtual 242, 3) := rfl
theorem km_8_239 : a_lk (kM 8) 239 = some (0, 173) := rfl
theorem km_8_242 : a_lk (kM 8) 242 = some (0, 170) := rfl
theorem km_8_245 : a_lk (kM 8) 245 = some (0, 176) := rfl
theorem km_8_248 : a_lk (kM 8) 248 = some (0, 171) := rfl
theorem km_8_251 : a_lk (kM 8) 251 = some (0, 174) := rfl
theorem hgt_nn {f g : Int → Int} {n : Int} (h : Hw f g n) : ∀ m : Nat, (m : Int) ≤ n → 0 ≤ hgt f m
  | 0, _ => Int.le_refl 0
  | m + 1, hm => by
    have ih := hgt_nn h m (by omega)
    have h1 := (h m (by omega)).1
    show 0 ≤ (if f m ≤ 1 then hgt f m + 1 else hgt f m - 1)
    split
    · omega
    · have h2 := h1 (by omega)
      omega
theorem nw_nn {c : ME} (h : Nw c) (h0 : 0 ≤ c 41 29) : 0 ≤ Nh c := hgt_nn h _ (by omega)
set_option maxRecDepth 100000 in
set_option maxHeartbeats 4000000 in
theorem n_176 {sc : List Int32} {e : Int} {d u P Q : Nat} {c : ME} {Z : AR → Prop} (hI : Iv u e P Q c) (hq0 : (c 41 5 < (-1)) ∨ (c 41 5 > (-1))) (K : Z (.inl (none), Wd P Q P P c, 0, 0)) : Wp sc (d + 8) 176 0 [(0, .ref 41)] [] (Wd P Q P P c) 0 0 Z := by
  have hP := iv_P hI
  have hQ := iv_Q hI
  have h_1 := ir_41_5 hI
  refine q_aload_n c_176_0 rfl (v_cv c_176_1 km_8_131 rfl rfl (Nat.le_of_ble_eq_true rfl) ⟨⟨rfl, rfl⟩, Nat.le_of_ble_eq_true rfl, rfl⟩ (Nat.le_of_ble_eq_true rfl) (Nat.le_of_ble_eq_true rfl) (q_aload_n c_152_0 rfl (v_gi (z := 5) (v := c 41 5) c_152_1 kf_8_102 rfl (Nat.le_of_ble_eq_true rfl) rfl rfl rfl (q_iconst c_152_4 (v_ic_ne_t (t := 12) c_152_5 rfl ⟨(q_6d7d7611f h_1 hq0), ⟨(lel h_1.1 rfl), (ler h_1.2 rfl)⟩, of_decide_eq_true rfl, of_decide_eq_true rfl⟩ (q_iconst c_152_12 (v_zret c_152_13 rfl (of_decide_eq_true rfl) ?_)))))))
  refine bk_inl (v_if_ne_f (t := 8) c_176_4 rfl (of_decide_eq_true rfl) (q_vret rfl rfl ?_))
  exact K
set_option maxRecDepth 100000 in
set_option maxHeartbeats 4000000 in
theorem n_173 {sc : List Int32} {e : Int} {d u P Q : Nat} {c : ME} {Z : AR → Prop} (hI : Iv u e P Q c) (hq0 : (c 41 5 < (-1)) ∨ (c 41 5 > (-1))) (K : Z (.inl (none), Wd P Q P P c, 0, 0)) : Wp sc (d + 10) 173 0 [(0, .ref 41)] [] (Wd P Q P P c) 0 0 Z := by
  have hP := iv_P hI
  have hQ := iv_Q hI
  have h_1 := ir_41_5 hI
  refine q_aload_n c_173_0 rfl ?_
  have h_2 : ¬ c 41 5 = -1 := by rw [show c 41 5 = c 41 5 from rfl]; omega
  refine v_cv c_173_1 km_8_245 rfl rfl (Nat.le_of_ble_eq_true rfl) ⟨⟨rfl, rfl⟩, Nat.le_of_ble_eq_true rfl, rfl⟩ (Nat.le_of_ble_eq_true rfl) (Nat.le_of_ble_eq_true rfl) (n_176 hI (by omega) (bk_inl (q_aload_n c_173_4 rfl (v_cv c_173_5 km_8_131 rfl rfl (Nat.le_of_ble_eq_true rfl) ⟨⟨rfl, rfl⟩, Nat.le_of_ble_eq_true rfl, rfl⟩ (Nat.le_of_ble_eq_true rfl) (Nat.le_of_ble_eq_true rfl) (q_aload_n c_152_0 rfl (v_gi (z := 5) (v := c 41 5) c_152_1 kf_8_102 rfl (Nat.le_of_ble_eq_true rfl) rfl rfl rfl (q_iconst c_152_4 (v_ic_ne_t (t := 12) c_152_5 rfl ⟨(q_6d7d7611f h_1 hq0), ⟨(lel h_1.1 rfl), (ler h_1.2 rfl)⟩, of_decide_eq_true rfl, of_decide_eq_true rfl⟩ ?_))))))))
  refine q_iconst c_152_12 (v_zret c_152_13 rfl (of_decide_eq_true rfl) (bk_inl (v_if_eq_t (t := 90) c_173_8 rfl (of_decide_eq_true rfl) (q_vret rfl rfl ?_))))
  exact K
set_option maxRecDepth 100000 in
set_option maxHeartbeats 4000000 in
theorem n_174 {sc : List Int32} {e : Int} {d u P Q : Nat} {c : ME} {Z : AR → Prop} (hI : Iv u e P Q c) (hq0 : (c 41 5 < (-1)) ∨ (c 41 5 > (-1))) (K : Z (.inl (none), Wd P Q P P c, 0, 0)) : Wp sc (d + 12) 174 0 [(0, .ref 41)] [] (Wd P Q P P c) 0 0 Z := by
  have hP := iv_P hI
  have hQ := iv_Q hI
  have h_1 := ir_41_5 hI
  refine q_aload_n c_174_0 rfl ?_
  have h_2 : ¬ c 41 5 = -1 := by rw [show c 41 5 = c 41 5 from rfl]; omega
  refine v_cv c_174_1 km_8_239 rfl rfl (Nat.le_of_ble_eq_true rfl) ⟨⟨rfl, rfl⟩, Nat.le_of_ble_eq_true rfl, rfl⟩ (Nat.le_of_ble_eq_true rfl) (Nat.le_of_ble_eq_true rfl) (n_173 hI (by omega) (bk_inl (q_aload_n c_174_4 rfl (v_cv c_174_5 km_8_131 rfl rfl (Nat.le_of_ble_eq_true rfl) ⟨⟨rfl, rfl⟩, Nat.le_of_ble_eq_true rfl, rfl⟩ (Nat.le_of_ble_eq_true rfl) (Nat.le_of_ble_eq_true rfl) (q_aload_n c_152_0 rfl (v_gi (z := 5) (v := c 41 5) c_152_1 kf_8_102 rfl (Nat.le_of_ble_eq_true rfl) rfl rfl rfl (q_iconst c_152_4 (v_ic_ne_t (t := 12) c_152_5 rfl ⟨(q_6d7d7611f h_1 hq0), ⟨(lel h_1.1 rfl), (ler h_1.2 rfl)⟩, of_decide_eq_true rfl, of_decide_eq_true rfl⟩ ?_))))))))
  refine q_iconst c_152_12 (v_zret c_152_13 rfl (of_decide_eq_true rfl) (bk_inl (v_if_eq_t (t := 67) c_174_8 rfl (of_decide_eq_true rfl) (q_vret rfl rfl ?_))))
  exact K
set_option maxRecDepth 100000 in
set_option maxHeartbeats 4000000 in
theorem s_175 {sc : List Int32} {e : Int} {d u P Q : Nat} {c : ME} {a1 : Int} {a2 : Int} {o : Int} {Z : AR → Prop} (hI : Iv u e P Q c) (ha1 : 4 ≤ a1 ∧ a1 ≤ 5) (ha2 : 6 ≤ a2 ∧ a2 ≤ 7) (ho : 0 ≤ o ∧ o ≤ 6) (hW : Nw c) (hq0 : (c 41 5 = (-1))) (hq1 : (c 41 4 ≤ c 41 3)) (hq2 : (c 41 3 ≤ 150)) (hq3 : (c 41 29 ≤ c 41 4)) (hq4 : (c 41 7 = o)) (hq5 : (c 41 4 ≤ c 41 3 - 1)) (H174 : ∀ (d9 : Nat) (c : ME) (Z : AR → Prop), d ≤ d9 → o + 1 ≤ 6 → Iv u e P Q c → Nw c → ((c 41 5 = (-1))) → ((c 41 4 ≤ c 41 3)) → ((c 41 3 ≤ 150)) → ((c 41 29 ≤ c 41 4)) → (c 41 7 = o + 1) → (∀ c2 : ME, Iv u e P Q c2 → (∀ (a : Nat) (j : Int), ¬ ((a = 41 ∧ j = 4) ∨ (a = 41 ∧ j = 5) ∨ (a = 41 ∧ j = 6) ∨ (a = 41 ∧ j = 7) ∨ (a = 41 ∧ j = 29) ∨ a = 50 ∨ a = 51) → c2 a j = c a j) → Nw c2 → ((c2 41 4 ≥ c 41 4)) → ((c2 41 7 = c 41 7)) → ((c 41 4 + c2 41 29 ≤ c 41 29 + c2 41 4)) → ((c2 41 5 < (-1)) ∨ (c2 41 5 > (-1)) ∨ (c2 41 4 ≤ c 41 3)) → ((c2 41 5 < (-1)) ∨ (c2 41 5 > (-1)) ∨ (Nh c2 = Nh c + 1)) → Z (.inl none, Wd P Q P P c2, 0, 0)) → Wp sc (d9 + 12) 174 0 [(0, .ref 41)] [] (Wd P Q P P c) 0 0 Z) (K : ∀ (c2 : ME), Iv u e P Q c2 → (∀ (a : Nat) (j : Int), ¬ ((a = 41 ∧ j = 4) ∨ (a = 41 ∧ j = 5) ∨ (a = 41 ∧ j = 6) ∨ (a = 41 ∧ j = 7) ∨ (a = 41 ∧ j = 29) ∨ a = 50 ∨ a = 51) → c2 a j = c a j) → Nw c2 → ((c2 41 4 ≥ c 41 4)) → ((c2 41 7 = c 41 7)) → ((c 41 4 + c2 41 29 ≤ c 41 29 + c2 41 4)) → ((c2 41 5 < (-1)) ∨ (c2 41 5 > (-1)) ∨ (c2 41 4 ≤ c 41 3)) → ((c2 41 5 < (-1)) ∨ (c2 41 5 > (-1)) ∨ (Nh c2 = Nh c + 1)) → Z (.inl (none), Wd P Q P P c2, 0, 0)) : Wp sc (d + 13) 175 0 [(0, .ref 41), (1, vi a1), (2, vi a2)] [] (Wd P Q P P c) 0 0 Z := by
  have hP := iv_P hI
  have hQ := iv_Q hI
  have h_1 := ir_41_5 hI
  have h_2 := ir_41_3 hI
  have h_3 := ir_41_4 hI
  have h_4 := ir_41_29 hI
  have h_5 := ir_41_7 hI
  have hnn := nw_nn hW (ir_41_29 hI).1
  refine q_aload_n c_175_0 rfl (q_iload_n c_175_1 rfl (v_cv c_175_2 km_8_248 rfl rfl (Nat.le_of_ble_eq_true rfl) ⟨⟨rfl, rfl⟩, Nat.le_of_ble_eq_true rfl, rfl⟩ (Nat.le_of_ble_eq_true rfl) (Nat.le_of_ble_eq_true rfl) (s_171 (a1 := a1) hI (show 1 ≤ a1 ∧ a1 ≤ 5 from ⟨(lel ha1.1 rfl), ha1.2⟩) ((q_669679922 ho hq4)) ((q_f3b097ab5 hq2 hq5)) (fun c_6 hI_7 hF_8 h_9 h_10 h_11 h_12 => (bk_inl ?_)))))
  have h_13 := ir_41_4 hI_7
  have h_14 := ir_41_7 hI_7
  have h_15 := ir_41_5 hI_7
  refine q_aload_n c_175_5 rfl (v_bip c_175_6 (of_decide_eq_true rfl) ?_)
  have kn_16 : Hid (c_6 41 3 = c 41 3) := hF_8 41 3 qn_e8a085a5c
  have h_17 : c_6 41 3 = c 41 3 := (hid kn_16)
  refine v_cv c_175_8 km_8_229 rfl rfl (Nat.le_of_ble_eq_true rfl) ⟨⟨rfl, rfl⟩, Nat.le_of_ble_eq_true rfl, rfl⟩ (Nat.le_of_ble_eq_true rfl) (Nat.le_of_ble_eq_true rfl) (s_161 (a1 := 91) hI_7 (show 1 ≤ 91 ∧ 91 ≤ 255 from ⟨of_decide_eq_true rfl, of_decide_eq_true rfl⟩) (fun c_18 hI_19 hF_20 h_21 h_22 h_23 h_24 => (bk_inl ?_)))
  have h_25 := ir_41_4 hI_19
  have h_26 := ir_41_5 hI_19
  refine q_aload_n c_175_11 rfl ?_
  by_cases h_27 : c_18 41 5 = -1
  · skip
    have kn_28 : Hid (c_18 41 3 = c 41 3) := (hF_20 41 3 qn_97fd72088).trans (hid kn_16)
    have h_29 : c_18 41 3 = c 41 3 := (hid kn_28)
    have kn_30 : Hid (c_6 41 29 = c 41 29) := hF_8 41 29 qn_ae3f17736
    have kn_31 : Hid (c_18 41 29 = c 41 29) := (hF_20 41 29 qn_56e241d1f).trans (hid kn_30)
    have h_32 : c_18 41 29 = c 41 29 := (hid kn_31)
    have kn_33 : Hid (c_18 41 7 = c_6 41 7) := hF_20 41 7 qn_fb1117a24
    have h_34 : c_18 41 7 = c_6 41 7 := (hid kn_33)
    obtain ⟨hW_35, hN_36⟩ : Nw c_18 ∧ Nh c_18 = Nh c := nh_fr hW (fun j => (hF_20 50 j qn_a830d9710).trans (hF_8 50 j qn_6ba3ccab5)) (fun j => (hF_20 51 j qn_b10baaf0c).trans (hF_8 51 j qn_a6960f5c9)) ((hF_20 41 29 qn_56e241d1f).trans (hF_8 41 29 qn_ae3f17736))
    refine v_cv c_175_12 km_8_251 rfl rfl (Nat.le_of_ble_eq_true rfl) ⟨⟨rfl, rfl⟩, Nat.le_of_ble_eq_true rfl, rfl⟩ (Nat.le_of_ble_eq_true rfl) (Nat.le_of_ble_eq_true rfl) (H174 _ _ _ (by omega) (by omega) hI_19 hW_35 (by first | (clear ha1 ha2 ho hq0 hq1 hq2 hq3 hq4 hq5 h_1 h_2 h_3 h_4 h_5 hnn h_13 h_9 h_14 h_10 h_15 h_25 h_21 h_11 h_12 h_22 h_23 h_24; omega) | omega) (by first | (clear ha1 ha2 ho hq0 hq1 hq2 hq3 hq4 hq5 h_1 h_2 h_3 h_4 h_5 hnn h_13 h_9 h_14 h_10 h_15 h_25 h_21 h_11 h_12 h_22 h_23; omega) | omega) ((q_7024b37ce hq2)) ((q_74b75ddac h_21 h_9 hq3)) (by omega) (fun c_37 hI_38 hF_39 hW_40 h_41 h_42 h_43 h_44 h_45 => (bk_inl ?_)))
    have h_46 := ir_41_4 hI_38
    have h_47 := ir_41_7 hI_38
    have h_48 := ir_41_29 hI_38
    have h_49 := ir_41_5 hI_38
    refine q_aload_n c_175_15 rfl (v_bip c_175_16 (of_decide_eq_true rfl) ?_)
    have kn_50 : Hid (c_37 41 3 = c 41 3) := (hF_39 41 3 qn_d31ba9b5e).trans (hid kn_28)
    have h_51 : c_37 41 3 = c 41 3 := (hid kn_50)
    refine v_cv c_175_18 km_8_229 rfl rfl (Nat.le_of_ble_eq_true rfl) ⟨⟨rfl, rfl⟩, Nat.le_of_ble_eq_true rfl, rfl⟩ (Nat.le_of_ble_eq_true rfl) (Nat.le_of_ble_eq_true rfl) (s_161 (a1 := 44) hI_38 (show 1 ≤ 44 ∧ 44 ≤ 255 from ⟨of_decide_eq_true rfl, of_decide_eq_true rfl⟩) (fun c_52 hI_53 hF_54 h_55 h_56 h_57 h_58 => (bk_inl ?_)))
    have h_59 := ir_41_4 hI_53
    have h_60 := ir_41_5 hI_53
    refine q_aload_n c_175_21 rfl ?_
    by_cases h_61 : c_52 41 5 = -1
    · skip
      have kn_62 : Hid (c_52 41 3 = c 41 3) := (hF_54 41 3 qn_97fd72088).trans (hid kn_50)
      have h_63 : c_52 41 3 = c 41 3 := (hid kn_62)
      have kn_64 : Hid (c_52 41 29 = c_37 41 29) := hF_54 41 29 qn_56e241d1f
      have h_65 : c_52 41 29 = c_37 41 29 := (hid kn_64)
      have kn_66 : Hid (c_52 41 7 = c_37 41 7) := hF_54 41 7 qn_fb1117a24
      have h_67 : c_52 41 7 = c_37 41 7 := (hid kn_66)
      obtain ⟨hW_68, hN_69⟩ : Nw c_52 ∧ Nh c_52 = Nh c_37 := nh_fr hW_40 (fun j => hF_54 50 j qn_a830d9710) (fun j => hF_54 51 j qn_b10baaf0c) (hF_54 41 29 qn_56e241d1f)
      refine v_cv c_175_22 km_8_251 rfl rfl (Nat.le_of_ble_eq_true rfl) ⟨⟨rfl, rfl⟩, Nat.le_of_ble_eq_true rfl, rfl⟩ (Nat.le_of_ble_eq_true rfl) (Nat.le_of_ble_eq_true rfl) (H174 _ _ _ (by omega) (by omega) hI_53 hW_68 (by first | (clear ha1 ha2 ho hq0 hq1 hq2 hq3 hq4 hq5 h_1 h_2 h_3 h_4 h_5 hnn h_13 h_9 h_14 h_10 h_15 h_25 h_21 h_26 h_27 h_46 h_41 h_47 h_42 h_48 h_43 h_49 h_59 h_55 h_11 h_12 h_22 h_23 h_24 h_44 h_45 h_56 h_57 h_58; omega) | omega) (by first | (clear ha1 ha2 ho hq0 hq1 hq2 hq3 hq4 hq5 h_1 h_2 h_3 h_4 h_5 hnn h_13 h_9 h_14 h_10 h_15 h_25 h_21 h_26 h_27 h_46 h_41 h_47 h_42 h_48 h_43 h_49 h_59 h_55 h_11 h_12 h_22 h_23 h_24 h_44 h_45 h_56 h_57; omega) | omega) ((q_7024b37ce hq2)) ((q_1d7484626 h_21 h_43 h_55 h_9 hq3 h_32)) (by omega) (fun c_70 hI_71 hF_72 hW_73 h_74 h_75 h_76 h_77 h_78 => (bk_inl ?_)))
      have h_79 := ir_41_4 hI_71
      have h_80 := ir_41_7 hI_71
      have h_81 := ir_41_29 hI_71
      have h_82 := ir_41_5 hI_71
      refine q_aload_n c_175_25 rfl (v_bip c_175_26 (of_decide_eq_true rfl) ?_)
      have kn_83 : Hid (c_70 41 3 = c 41 3) := (hF_72 41 3 qn_d31ba9b5e).trans (hid kn_62)
      have h_84 : c_70 41 3 = c 41 3 := (hid kn_83)
      refine v_cv c_175_28 km_8_229 rfl rfl (Nat.le_of_ble_eq_true rfl) ⟨⟨rfl, rfl⟩, Nat.le_of_ble_eq_true rfl, rfl⟩ (Nat.le_of_ble_eq_true rfl) (Nat.le_of_ble_eq_true rfl) (s_161 (a1 := 93) hI_71 (show 1 ≤ 93 ∧ 93 ≤ 255 from ⟨of_decide_eq_true rfl, of_decide_eq_true rfl⟩) (fun c_85 hI_86 hF_87 h_88 h_89 h_90 h_91 => (bk_inl ?_)))
      have h_92 := ir_41_4 hI_86
      have h_93 := ir_41_5 hI_86
      refine q_aload_n c_175_31 rfl (q_dup c_175_32 rfl ?_)
      have kn_94 : Hid (c_85 41 7 = c_70 41 7) := hF_87 41 7 qn_fb1117a24
      refine v_gi (z := 7) (v := c_70 41 7) c_175_33 kf_8_142 rfl (Nat.le_of_ble_eq_true rfl) rfl rfl (hid kn_94) (q_iconst c_175_36 (v_isub (v := c_70 41 7 - 1) c_175_37 rfl (v_pi (z := 7) c_175_38 kf_8_142 rfl (Nat.le_of_ble_eq_true rfl) rfl rfl rfl (of_decide_eq_true rfl) (q_aload_n c_175_41 rfl (q_iload_n c_175_42 rfl (q_iconst c_175_43 ?_))))))
      have hI_95 := iw_41_7 (v := c_70 41 7 - 1) hI_86 ⟨(q_a488cbdaf h_10 h_42 h_5 h_75 h_34 h_67), (rgm_h h_80.2 (of_decide_eq_true rfl))⟩
      have kn_96 : Hid (c_85 41 29 = c_70 41 29) := hF_87 41 29 qn_56e241d1f
      have h_97 : (up c_85 41 7 (c_70 41 7 - 1)) 41 29 = c_70 41 29 := ((up_n (ni rfl)).trans (hid kn_96))
      have h_98 : (up c_85 41 7 (c_70 41 7 - 1)) 41 5 = c_85 41 5 := (up_n (ni rfl))
      obtain ⟨hW_99, hN_100⟩ : Nw (up c_85 41 7 (c_70 41 7 - 1)) ∧ Nh (up c_85 41 7 (c_70 41 7 - 1)) = Nh c_70 := nh_fr hW_73 (fun j => (up_c (nn rfl)).trans (hF_87 50 j qn_a830d9710)) (fun j => (up_c (nn rfl)).trans (hF_87 51 j qn_b10baaf0c)) ((up_n (ni rfl)).trans (hF_87 41 29 qn_56e241d1f))
      refine v_cv c_175_44 km_8_242 rfl rfl (Nat.le_of_ble_eq_true rfl) ⟨⟨rfl, rfl⟩, Nat.le_of_ble_eq_true rfl, rfl⟩ (Nat.le_of_ble_eq_true rfl) (Nat.le_of_ble_eq_true rfl) (s_170 (a1 := a2) (a2 := 0) hI_95 (show 0 ≤ a2 ∧ a2 ≤ 8 from ⟨(lel ha2.1 rfl), (ler ha2.2 rfl)⟩) (show 0 ≤ 0 ∧ 0 ≤ 999 from ⟨of_decide_eq_true rfl, of_decide_eq_true rfl⟩) hW_99 (by omega) (by omega) (Or.inr (Or.inr (Or.inl ((q_db5d28903 ha2))))) (fun c_101 hI_102 hF_103 hW_104 h_105 h_106 h_107 h_108 => (bk_inl ?_)))
      have h_109 := ir_41_29 hI_102
      refine q_vret rfl rfl ?_
      have kn_110 : Hid (c_101 41 4 = c_85 41 4) := (hF_103 41 4 qn_fcc0aaabe).trans (up_n (ni rfl))
      have h_111 : c_101 41 4 = c_85 41 4 := (hid kn_110)
      have kn_112 : Hid (c_101 41 5 = c_85 41 5) := (hF_103 41 5 qn_c65a44569).trans (up_n (ni rfl))
      have h_113 : c_101 41 5 = c_85 41 5 := (hid kn_112)
      have kn_114 : Hid (c_101 41 7 = c_70 41 7 - 1) := (hF_103 41 7 qn_5700af53f).trans (up_e rfl)
      have h_115 : c_101 41 7 = c_70 41 7 - 1 := (hid kn_114)
      exact K c_101 hI_102 (fun a j hm => (hF_103 a j (qv_d7b4eb562 hm)).trans ((up_b (Decidable.or_iff_not_imp_left.mpr (fun h1 h2 => hm (Or.inr (Or.inr (Or.inr (Or.inl ⟨Decidable.not_not.mp h1, h2⟩))))))).trans ((hF_87 a j (qv_79b37c5f3 hm)).trans ((hF_72 a j hm).trans ((hF_54 a j (qv_79b37c5f3 hm)).trans ((hF_39 a j hm).trans ((hF_20 a j (qv_79b37c5f3 hm)).trans (hF_8 a j (qv_d0add4e0b hm))))))))) hW_104 ((q_796198873 h_21 h_41 h_55 h_74 h_88 h_9)) ((q_0c164124e h_10 h_42 h_75 h_34 h_67)) (by first | (clear ha1 ha2 ho hq0 hq1 hq2 hq3 hq4 hq5 h_1 h_2 h_3 h_4 h_5 hnn h_13 h_14 h_10 h_15 h_25 h_26 h_27 h_46 h_41 h_47 h_42 h_48 h_49 h_59 h_60 h_61 h_79 h_74 h_80 h_75 h_81 h_82 h_92 h_93 h_109 h_11 h_12 h_22 h_23 h_24 h_44 h_45 h_56 h_57 h_58 h_77 h_78 h_89 h_90 h_107 h_108; omega) | omega) (by omega) (by omega)
    · skip
      have h_116 : ¬ c_52 41 5 = -1 := by rw [show c_52 41 5 = c_52 41 5 from rfl]; omega
      refine v_cv c_175_22 km_8_251 rfl rfl (Nat.le_of_ble_eq_true rfl) ⟨⟨rfl, rfl⟩, Nat.le_of_ble_eq_true rfl, rfl⟩ (Nat.le_of_ble_eq_true rfl) (Nat.le_of_ble_eq_true rfl) (n_174 hI_53 (by omega) (bk_inl (q_aload_n c_175_25 rfl (v_bip c_175_26 (of_decide_eq_true rfl) ?_))))
      have kn_117 : Hid (c_52 41 3 = c 41 3) := (hF_54 41 3 qn_97fd72088).trans (hid kn_50)
      have h_118 : c_52 41 3 = c 41 3 := (hid kn_117)
      refine v_cv c_175_28 km_8_229 rfl rfl (Nat.le_of_ble_eq_true rfl) ⟨⟨rfl, rfl⟩, Nat.le_of_ble_eq_true rfl, rfl⟩ (Nat.le_of_ble_eq_true rfl) (Nat.le_of_ble_eq_true rfl) (s_161 (a1 := 93) hI_53 (show 1 ≤ 93 ∧ 93 ≤ 255 from ⟨of_decide_eq_true rfl, of_decide_eq_true rfl⟩) (fun c_119 hI_120 hF_121 h_122 h_123 h_124 h_125 => (bk_inl ?_)))
      have h_126 := ir_41_4 hI_120
      have h_127 := ir_41_5 hI_120
      refine q_aload_n c_175_31 rfl (q_dup c_175_32 rfl ?_)
      have kn_128 : Hid (c_52 41 7 = c_37 41 7) := hF_54 41 7 qn_fb1117a24
      have kn_129 : Hid (c_119 41 7 = c_37 41 7) := (hF_121 41 7 qn_fb1117a24).trans (hid kn_128)
      refine v_gi (z := 7) (v := c_37 41 7) c_175_33 kf_8_142 rfl (Nat.le_of_ble_eq_true rfl) rfl rfl (hid kn_129) (q_iconst c_175_36 (v_isub (v := c_37 41 7 - 1) c_175_37 rfl (v_pi (z := 7) c_175_38 kf_8_142 rfl (Nat.le_of_ble_eq_true rfl) rfl rfl rfl (of_decide_eq_true rfl) (q_aload_n c_175_41 rfl (q_iload_n c_175_42 rfl (q_iconst c_175_43 ?_))))))
      have hI_130 := iw_41_7 (v := c_37 41 7 - 1) hI_120 ⟨(q_15f2fbd29 h_10 h_42 h_5 h_34), (rgm_h h_47.2 (of_decide_eq_true rfl))⟩
      have kn_131 : Hid (c_52 41 29 = c_37 41 29) := hF_54 41 29 qn_56e241d1f
      have kn_132 : Hid (c_119 41 29 = c_37 41 29) := (hF_121 41 29 qn_56e241d1f).trans (hid kn_131)
      have h_133 : (up c_119 41 7 (c_37 41 7 - 1)) 41 29 = c_37 41 29 := ((up_n (ni rfl)).trans (hid kn_132))
      have h_134 : (up c_119 41 7 (c_37 41 7 - 1)) 41 5 = c_119 41 5 := (up_n (ni rfl))
      obtain ⟨hW_135, hN_136⟩ : Nw (up c_119 41 7 (c_37 41 7 - 1)) ∧ Nh (up c_119 41 7 (c_37 41 7 - 1)) = Nh c_37 := nh_fr hW_40 (fun j => (up_c (nn rfl)).trans ((hF_121 50 j qn_a830d9710).trans (hF_54 50 j qn_a830d9710))) (fun j => (up_c (nn rfl)).trans ((hF_121 51 j qn_b10baaf0c).trans (hF_54 51 j qn_b10baaf0c))) ((up_n (ni rfl)).trans ((hF_121 41 29 qn_56e241d1f).trans (hF_54 41 29 qn_56e241d1f)))
      refine v_cv c_175_44 km_8_242 rfl rfl (Nat.le_of_ble_eq_true rfl) ⟨⟨rfl, rfl⟩, Nat.le_of_ble_eq_true rfl, rfl⟩ (Nat.le_of_ble_eq_true rfl) (Nat.le_of_ble_eq_true rfl) (s_170 (a1 := a2) (a2 := 0) hI_130 (show 0 ≤ a2 ∧ a2 ≤ 8 from ⟨(lel ha2.1 rfl), (ler ha2.2 rfl)⟩) (show 0 ≤ 0 ∧ 0 ≤ 999 from ⟨of_decide_eq_true rfl, of_decide_eq_true rfl⟩) hW_135 (Or.inr (Or.inl (by first | (clear ha1 ha2 ho hq0 hq1 hq2 hq3 hq4 hq5 h_1 h_2 h_3 h_4 h_5 hnn h_13 h_9 h_14 h_10 h_15 h_25 h_21 h_26 h_27 h_46 h_41 h_47 h_42 h_48 h_43 h_49 h_59 h_55 h_60 h_126 h_122 h_11 h_12 h_22 h_23 h_24 h_44 h_45 h_56 h_57 h_58 h_123 h_125; omega) | omega))) (Or.inr (Or.inl (by first | (clear ha1 ha2 ho hq0 hq1 hq2 hq3 hq4 hq5 h_1 h_2 h_3 h_4 h_5 hnn h_13 h_9 h_14 h_10 h_15 h_25 h_21 h_26 h_27 h_46 h_41 h_47 h_42 h_48 h_43 h_49 h_59 h_55 h_60 h_126 h_122 h_11 h_12 h_22 h_23 h_24 h_44 h_45 h_56 h_57 h_58 h_123 h_125; omega) | omega))) (Or.inr (Or.inl (by first | (clear ha1 ha2 ho hq0 hq1 hq2 hq3 hq4 hq5 h_1 h_2 h_3 h_4 h_5 hnn h_13 h_9 h_14 h_10 h_15 h_25 h_21 h_26 h_27 h_46 h_41 h_47 h_42 h_48 h_43 h_49 h_59 h_55 h_60 h_126 h_122 h_11 h_12 h_22 h_23 h_24 h_44 h_45 h_56 h_57 h_58 h_123 h_125; omega) | omega))) (fun c_137 hI_138 hF_139 hW_140 h_141 h_142 h_143 h_144 => (bk_inl ?_)))
      have h_145 := ir_41_29 hI_138
      refine q_vret rfl rfl ?_
      have kn_146 : Hid (c_137 41 4 = c_119 41 4) := (hF_139 41 4 qn_fcc0aaabe).trans (up_n (ni rfl))
      have h_147 : c_137 41 4 = c_119 41 4 := (hid kn_146)
      have kn_148 : Hid (c_137 41 5 = c_119 41 5) := (hF_139 41 5 qn_c65a44569).trans (up_n (ni rfl))
      have h_149 : c_137 41 5 = c_119 41 5 := (hid kn_148)
      have kn_150 : Hid (c_137 41 7 = c_37 41 7 - 1) := (hF_139 41 7 qn_5700af53f).trans (up_e rfl)
      have h_151 : c_137 41 7 = c_37 41 7 - 1 := (hid kn_150)
      exact K c_137 hI_138 (fun a j hm => (hF_139 a j (qv_d7b4eb562 hm)).trans ((up_b (Decidable.or_iff_not_imp_left.mpr (fun h1 h2 => hm (Or.inr (Or.inr (Or.inr (Or.inl ⟨Decidable.not_not.mp h1, h2⟩))))))).trans ((hF_121 a j (qv_79b37c5f3 hm)).trans ((hF_54 a j (qv_79b37c5f3 hm)).trans ((hF_39 a j hm).trans ((hF_20 a j (qv_79b37c5f3 hm)).trans (hF_8 a j (qv_d0add4e0b hm)))))))) hW_140 ((q_10c60cb60 h_122 h_21 h_41 h_55 h_9)) ((q_c30709b32 h_10 h_42 h_34)) (by first | (clear ha1 ha2 ho hq0 hq1 hq2 hq3 hq4 hq5 h_1 h_2 h_3 h_4 h_5 hnn h_13 h_14 h_10 h_15 h_25 h_26 h_27 h_46 h_41 h_47 h_42 h_48 h_49 h_59 h_60 h_126 h_127 h_145 h_11 h_12 h_22 h_23 h_24 h_44 h_45 h_56 h_57 h_58 h_123 h_124 h_141 h_143 h_144; omega) | omega) (Or.inr (Or.inl (by first | (clear ha1 ha2 ho hq0 hq1 hq2 hq3 hq4 hq5 h_1 h_2 h_3 h_4 h_5 hnn h_13 h_9 h_14 h_10 h_15 h_25 h_21 h_26 h_27 h_46 h_41 h_47 h_42 h_48 h_43 h_49 h_59 h_55 h_60 h_126 h_122 h_145 h_11 h_12 h_22 h_23 h_24 h_44 h_45 h_56 h_57 h_58 h_123 h_125 h_141 h_142 h_143 h_144; omega) | omega))) (Or.inr (Or.inl (by first | (clear ha1 ha2 ho hq0 hq1 hq2 hq3 hq4 hq5 h_1 h_2 h_3 h_4 h_5 hnn h_13 h_9 h_14 h_10 h_15 h_25 h_21 h_26 h_27 h_46 h_41 h_47 h_42 h_48 h_43 h_49 h_59 h_55 h_60 h_126 h_122 h_145 h_11 h_12 h_22 h_23 h_24 h_44 h_45 h_56 h_57 h_58 h_123 h_125 h_141 h_142 h_143 h_144; omega) | omega)))
  · skip
    have h_152 : ¬ c_18 41 5 = -1 := by rw [show c_18 41 5 = c_18 41 5 from rfl]; omega
    refine v_cv c_175_12 km_8_251 rfl rfl (Nat.le_of_ble_eq_true rfl) ⟨⟨rfl, rfl⟩, Nat.le_of_ble_eq_true rfl, rfl⟩ (Nat.le_of_ble_eq_true rfl) (Nat.le_of_ble_eq_true rfl) (n_174 hI_19 (by omega) (bk_inl (q_aload_n c_175_15 rfl (v_bip c_175_16 (of_decide_eq_true rfl) ?_))))
    have kn_153 : Hid (c_18 41 3 = c 41 3) := (hF_20 41 3 qn_97fd72088).trans (hid kn_16)
    have h_154 : c_18 41 3 = c 41 3 := (hid kn_153)
    refine v_cv c_175_18 km_8_229 rfl rfl (Nat.le_of_ble_eq_true rfl) ⟨⟨rfl, rfl⟩, Nat.le_of_ble_eq_true rfl, rfl⟩ (Nat.le_of_ble_eq_true rfl) (Nat.le_of_ble_eq_true rfl) (s_161 (a1 := 44) hI_19 (show 1 ≤ 44 ∧ 44 ≤ 255 from ⟨of_decide_eq_true rfl, of_decide_eq_true rfl⟩) (fun c_155 hI_156 hF_157 h_158 h_159 h_160 h_161 => (bk_inl ?_)))
    have h_162 := ir_41_4 hI_156
    have h_163 := ir_41_5 hI_156
    refine q_aload_n c_175_21 rfl ?_
    have h_164 : ¬ c_155 41 5 = -1 := by rw [show c_155 41 5 = c_155 41 5 from rfl]; omega
    refine v_cv c_175_22 km_8_251 rfl rfl (Nat.le_of_ble_eq_true rfl) ⟨⟨rfl, rfl⟩, Nat.le_of_ble_eq_true rfl, rfl⟩ (Nat.le_of_ble_eq_true rfl) (Nat.le_of_ble_eq_true rfl) (n_174 hI_156 (by omega) (bk_inl (q_aload_n c_175_25 rfl (v_bip c_175_26 (of_decide_eq_true rfl) ?_))))
    have kn_165 : Hid (c_155 41 3 = c 41 3) := (hF_157 41 3 qn_97fd72088).trans (hid kn_153)
    have h_166 : c_155 41 3 = c 41 3 := (hid kn_165)
    refine v_cv c_175_28 km_8_229 rfl rfl (Nat.le_of_ble_eq_true rfl) ⟨⟨rfl, rfl⟩, Nat.le_of_ble_eq_true rfl, rfl⟩ (Nat.le_of_ble_eq_true rfl) (Nat.le_of_ble_eq_true rfl) (s_161 (a1 := 93) hI_156 (show 1 ≤ 93 ∧ 93 ≤ 255 from ⟨of_decide_eq_true rfl, of_decide_eq_true rfl⟩) (fun c_167 hI_168 hF_169 h_170 h_171 h_172 h_173 => (bk_inl ?_)))
    have h_174 := ir_41_4 hI_168
    have h_175 := ir_41_5 hI_168
    refine q_aload_n c_175_31 rfl (q_dup c_175_32 rfl ?_)
    have kn_176 : Hid (c_18 41 7 = c_6 41 7) := hF_20 41 7 qn_fb1117a24
    have kn_177 : Hid (c_155 41 7 = c_6 41 7) := (hF_157 41 7 qn_fb1117a24).trans (hid kn_176)
    have kn_178 : Hid (c_167 41 7 = c_6 41 7) := (hF_169 41 7 qn_fb1117a24).trans (hid kn_177)
    refine v_gi (z := 7) (v := c_6 41 7) c_175_33 kf_8_142 rfl (Nat.le_of_ble_eq_true rfl) rfl rfl (hid kn_178) (q_iconst c_175_36 (v_isub (v := c_6 41 7 - 1) c_175_37 rfl (v_pi (z := 7) c_175_38 kf_8_142 rfl (Nat.le_of_ble_eq_true rfl) rfl rfl rfl (of_decide_eq_true rfl) (q_aload_n c_175_41 rfl (q_iload_n c_175_42 rfl (q_iconst c_175_43 ?_))))))
    have hI_179 := iw_41_7 (v := c_6 41 7 - 1) hI_168 ⟨(q_3a97aaad7 h_10 h_5), (rgm_h h_14.2 (of_decide_eq_true rfl))⟩
    have kn_180 : Hid (c_6 41 29 = c 41 29) := hF_8 41 29 qn_ae3f17736
    have kn_181 : Hid (c_18 41 29 = c 41 29) := (hF_20 41 29 qn_56e241d1f).trans (hid kn_180)
    have kn_182 : Hid (c_155 41 29 = c 41 29) := (hF_157 41 29 qn_56e241d1f).trans (hid kn_181)
    have kn_183 : Hid (c_167 41 29 = c 41 29) := (hF_169 41 29 qn_56e241d1f).trans (hid kn_182)
    have h_184 : (up c_167 41 7 (c_6 41 7 - 1)) 41 29 = c 41 29 := ((up_n (ni rfl)).trans (hid kn_183))
    have h_185 : (up c_167 41 7 (c_6 41 7 - 1)) 41 5 = c_167 41 5 := (up_n (ni rfl))
    obtain ⟨hW_186, hN_187⟩ : Nw (up c_167 41 7 (c_6 41 7 - 1)) ∧ Nh (up c_167 41 7 (c_6 41 7 - 1)) = Nh c := nh_fr hW (fun j => (up_c (nn rfl)).trans ((hF_169 50 j qn_a830d9710).trans ((hF_157 50 j qn_a830d9710).trans ((hF_20 50 j qn_a830d9710).trans (hF_8 50 j qn_6ba3ccab5))))) (fun j => (up_c (nn rfl)).trans ((hF_169 51 j qn_b10baaf0c).trans ((hF_157 51 j qn_b10baaf0c).trans ((hF_20 51 j qn_b10baaf0c).trans (hF_8 51 j qn_a6960f5c9))))) ((up_n (ni rfl)).trans ((hF_169 41 29 qn_56e241d1f).trans ((hF_157 41 29 qn_56e241d1f).trans ((hF_20 41 29 qn_56e241d1f).trans (hF_8 41 29 qn_ae3f17736)))))
    refine v_cv c_175_44 km_8_242 rfl rfl (Nat.le_of_ble_eq_true rfl) ⟨⟨rfl, rfl⟩, Nat.le_of_ble_eq_true rfl, rfl⟩ (Nat.le_of_ble_eq_true rfl) (Nat.le_of_ble_eq_true rfl) (s_170 (a1 := a2) (a2 := 0) hI_179 (show 0 ≤ a2 ∧ a2 ≤ 8 from ⟨(lel ha2.1 rfl), (ler ha2.2 rfl)⟩) (show 0 ≤ 0 ∧ 0 ≤ 999 from ⟨of_decide_eq_true rfl, of_decide_eq_true rfl⟩) hW_186 (Or.inr (Or.inl (by first | (clear ha1 ha2 ho hq0 hq1 hq2 hq3 hq4 hq5 h_1 h_2 h_3 h_4 h_5 hnn h_13 h_9 h_14 h_10 h_15 h_25 h_21 h_26 h_162 h_158 h_163 h_174 h_170 h_11 h_12 h_22 h_23 h_24 h_159 h_161 h_171 h_173; omega) | omega))) (Or.inr (Or.inl (by first | (clear ha1 ha2 ho hq0 hq1 hq2 hq3 hq4 hq5 h_1 h_2 h_3 h_4 h_5 hnn h_13 h_9 h_14 h_10 h_15 h_25 h_21 h_26 h_162 h_158 h_163 h_174 h_170 h_11 h_12 h_22 h_23 h_24 h_159 h_161 h_171 h_173; omega) | omega))) (Or.inr (Or.inl (by first | (clear ha1 ha2 ho hq0 hq1 hq2 hq3 hq4 hq5 h_1 h_2 h_3 h_4 h_5 hnn h_13 h_9 h_14 h_10 h_15 h_25 h_21 h_26 h_162 h_158 h_163 h_174 h_170 h_11 h_12 h_22 h_23 h_24 h_159 h_161 h_171 h_173; omega) | omega))) (fun c_188 hI_189 hF_190 hW_191 h_192 h_193 h_194 h_195 => (bk_inl ?_)))
    have h_196 := ir_41_29 hI_189
    refine q_vret rfl rfl ?_
    have kn_197 : Hid (c_188 41 4 = c_167 41 4) := (hF_190 41 4 qn_fcc0aaabe).trans (up_n (ni rfl))
    have h_198 : c_188 41 4 = c_167 41 4 := (hid kn_197)
    have kn_199 : Hid (c_188 41 5 = c_167 41 5) := (hF_190 41 5 qn_c65a44569).trans (up_n (ni rfl))
    have h_200 : c_188 41 5 = c_167 41 5 := (hid kn_199)
    have kn_201 : Hid (c_188 41 7 = c_6 41 7 - 1) := (hF_190 41 7 qn_5700af53f).trans (up_e rfl)
    have h_202 : c_188 41 7 = c_6 41 7 - 1 := (hid kn_201)
    exact K c_188 hI_189 (fun a j hm => (hF_190 a j (qv_d7b4eb562 hm)).trans ((up_b (Decidable.or_iff_not_imp_left.mpr (fun h1 h2 => hm (Or.inr (Or.inr (Or.inr (Or.inl ⟨Decidable.not_not.mp h1, h2⟩))))))).trans ((hF_169 a j (qv_79b37c5f3 hm)).trans ((hF_157 a j (qv_79b37c5f3 hm)).trans ((hF_20 a j (qv_79b37c5f3 hm)).trans (hF_8 a j (qv_d0add4e0b hm))))))) hW_191 ((q_9bdbff860 h_158 h_170 h_21 h_9)) ((q_65aaae687 h_10)) (by first | (clear ha1 ha2 ho hq0 hq1 hq2 hq3 hq4 hq5 h_1 h_2 h_3 h_4 h_5 hnn h_13 h_14 h_10 h_15 h_25 h_26 h_162 h_163 h_174 h_175 h_196 h_11 h_12 h_22 h_23 h_24 h_159 h_160 h_161 h_171 h_172 h_194 h_195; omega) | omega) (Or.inr (Or.inl (by first | (clear ha1 ha2 ho hq0 hq1 hq2 hq3 hq4 hq5 h_1 h_2 h_3 h_4 h_5 hnn h_13 h_9 h_14 h_10 h_15 h_25 h_21 h_26 h_162 h_158 h_163 h_174 h_170 h_196 h_11 h_12 h_22 h_23 h_24 h_159 h_161 h_171 h_173 h_192 h_193 h_194 h_195; omega) | omega))) (Or.inr (Or.inl (by first | (clear ha1 ha2 ho hq0 hq1 hq2 hq3 hq4 hq5 h_1 h_2 h_3 h_4 h_5 hnn h_13 h_9 h_14 h_10 h_15 h_25 h_21 h_26 h_162 h_158 h_163 h_174 h_170 h_196 h_11 h_12 h_22 h_23 h_24 h_159 h_161 h_171 h_173 h_192 h_193 h_194 h_195; omega) | omega)))
