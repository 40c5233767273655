/-! ===== contracts 6 ===== -/
theorem qn_50c79f576 {P : Nat} {j : Int} (hP : P = 13 ∨ P = 25) : ¬ (((8 : Nat) = 7 ∧ j = 1) ∨ ((8 : Nat) = 7 ∧ j = 3) ∨ ((8 : Nat) = 7 ∧ j = 4) ∨ (8 : Nat) = 38 ∨ (8 : Nat) = (P + 10) ∨ (8 : Nat) = (P + 11)) := (fun q => q.elim (fun h => absurd h.1 (nn rfl)) (fun q => q.elim (fun h => absurd h.1 (nn rfl)) (fun q => q.elim (fun h => absurd h.1 (nn rfl)) (fun q => q.elim (fun h => absurd h (nn rfl)) (fun q => q.elim (fun h => absurd h (pn hP rfl rfl)) (fun h => absurd h (pn hP rfl rfl)))))))
theorem q_a19b34be3 {x0 x1 : Int} (f0 : ¬ (x0 ≥ x1)) (f1 : 0 ≤ x1 ∧ x1 ≤ 38) : 5 * x0 < 190 := by omega
theorem q_02a5b5c27 {x0 : Int} (f0 : 0 ≤ x0 ∧ x0 ≤ 99999) : (-2147483648) ≤ x0 := by omega
theorem q_f4295f9df {x0 : Int} (f0 : 0 ≤ x0 ∧ x0 ≤ 99999) : x0 ≤ 2147483647 := by omega
theorem q_6a4e5184f {x0 : Int} (f0 : ¬ (x0 ≥ 200)) : x0 + 1 ≤ 200 := by omega
theorem qn_5bba11e65 {P : Nat} (hP : P = 13 ∨ P = 25) : ¬ ((7 : Nat) = 38 ∨ (7 : Nat) = (P + 10) ∨ (7 : Nat) = (P + 11)) := (fun q => q.elim (fun h => absurd h (nn rfl)) (fun q => q.elim (fun h => absurd h (pn hP rfl rfl)) (fun h => absurd h (pn hP rfl rfl))))
theorem qv_b29cc1a18 {P : Nat} {a : Nat} {j : Int} (hm : ¬ ((a = 7 ∧ j = 1) ∨ (a = 7 ∧ j = 3) ∨ (a = 7 ∧ j = 4) ∨ a = 38 ∨ a = (P + 10) ∨ a = (P + 11))) : ¬ (a = 38 ∨ a = (P + 10) ∨ a = (P + 11)) := (fun q => q.elim (fun h => hm (Or.inr (Or.inr (Or.inr (Or.inl h))))) (fun q => q.elim (fun h => hm (Or.inr (Or.inr (Or.inr (Or.inr (Or.inl h)))))) (fun h => hm (Or.inr (Or.inr (Or.inr (Or.inr (Or.inr h))))))))
theorem q_f1fd3febd {x0 x1 : Int} (f0 : ¬ (x0 ≥ x1)) (f1 : 0 ≤ x1 ∧ x1 ≤ 38) : x0 + 1 ≤ 38 := by omega
theorem q_da5b99998 {x0 : Int} (f0 : 0 ≤ x0 ∧ x0 ≤ 38) : 0 ≤ 5 * x0 + 2 := by omega
theorem q_aabb04a91 {x0 x1 : Int} (f0 : ¬ (x0 ≥ x1)) (f1 : 0 ≤ x1 ∧ x1 ≤ 38) : 5 * x0 + 2 < 190 := by omega
theorem q_8213456cf {x0 x1 : Int} (f0 : ¬ (x0 ≥ x1)) (f1 : 0 ≤ x1 ∧ x1 ≤ 38) : 5 * x0 ≤ 185 := by omega
theorem q_07e1df2eb {x0 : Int} (f0 : 0 ≤ x0 ∧ x0 ≤ 99999) : 0 ≤ x0 := by omega
theorem q_7af0ec580 {x0 : Int} (f0 : x0 ≤ 38) : x0 ≤ 38 := by omega
theorem q_e2a7bf5e9 {x0 : Int} (f0 : ¬ (x0 > 6)) : x0 ≤ 6 := by omega
theorem q_f5f6b62ea {x0 : Int} (f0 : 0 ≤ x0 ∧ x0 ≤ 185) : x0 + 1 < 190 := by omega
theorem q_9b8e93030 {x0 x1 : Int} (f0 : 0 ≤ x0 ∧ x0 ≤ 99999) (f1 : ¬ (x1 ≥ x0)) : x1 + 1 ≤ 99999 := by omega
theorem q_b64c086c4 {x0 : Int} (f0 : 0 ≤ x0 ∧ x0 ≤ 185) : 0 ≤ x0 := by omega
theorem c_63_3 : mLk 63 3 = some (.iload 5, 2) := rfl
theorem c_63_5 : mLk 63 5 = some (.iload_n 3, 1) := rfl
theorem c_63_6 : mLk 63 6 = some (.if_icmp .ge 156, 3) := rfl
theorem c_63_9 : mLk 63 9 = some (.aload_n 0, 1) := rfl
theorem c_63_10 : mLk 63 10 = some (.getfield 15, 3) := rfl
theorem c_63_13 : mLk 63 13 = some (.sipush 200, 3) := rfl
theorem c_63_16 : mLk 63 16 = some (.if_icmp .ge 146, 3) := rfl
theorem c_63_19 : mLk 63 19 = some (.iload 4, 2) := rfl
theorem c_63_21 : mLk 63 21 = some (.bipush 6, 2) := rfl
theorem c_63_23 : mLk 63 23 = some (.if_icmp .gt 139, 3) := rfl
theorem c_63_26 : mLk 63 26 = some (.iload 5, 2) := rfl
theorem c_63_28 : mLk 63 28 = some (.iconst 5, 1) := rfl
theorem c_63_29 : mLk 63 29 = some (.imul, 1) := rfl
theorem c_63_30 : mLk 63 30 = some (.istore 6, 2) := rfl
theorem c_63_32 : mLk 63 32 = some (.aload_n 0, 1) := rfl
theorem c_63_33 : mLk 63 33 = some (.dup, 1) := rfl
theorem c_63_34 : mLk 63 34 = some (.getfield 15, 3) := rfl
theorem c_63_37 : mLk 63 37 = some (.iconst 1, 1) := rfl
theorem c_63_38 : mLk 63 38 = some (.iadd, 1) := rfl
theorem c_63_39 : mLk 63 39 = some (.putfield 15, 3) := rfl
theorem c_63_42 : mLk 63 42 = some (.iinc 5 1, 3) := rfl
theorem c_63_45 : mLk 63 45 = some (.aload_n 0, 1) := rfl
theorem c_63_46 : mLk 63 46 = some (.getfield 11, 3) := rfl
theorem c_63_49 : mLk 63 49 = some (.iload 6, 2) := rfl
theorem c_63_51 : mLk 63 51 = some (.iaload, 1) := rfl
theorem c_63_52 : mLk 63 52 = some (.bipush 7, 2) := rfl
theorem c_63_54 : mLk 63 54 = some (.if_icmp .ne 72, 3) := rfl
theorem c_63_126 : mLk 63 126 = some (.aload_n 0, 1) := rfl
theorem c_63_127 : mLk 63 127 = some (.aload_n 1, 1) := rfl
theorem c_63_128 : mLk 63 128 = some (.iload 6, 2) := rfl
theorem c_63_130 : mLk 63 130 = some (.invokevirtual 101, 3) := rfl
theorem c_63_133 : mLk 63 133 = some (.ifCond .eq 16, 3) := rfl
theorem c_63_149 : mLk 63 149 = some (.aload_n 0, 1) := rfl
theorem c_63_150 : mLk 63 150 = some (.dup, 1) := rfl
theorem c_63_151 : mLk 63 151 = some (.getfield 25, 3) := rfl
theorem c_63_154 : mLk 63 154 = some (.iconst 1, 1) := rfl
theorem c_63_155 : mLk 63 155 = some (.iadd, 1) := rfl
theorem c_63_156 : mLk 63 156 = some (.putfield 25, 3) := rfl
theorem c_63_159 : mLk 63 159 = some (.goto (-156), 3) := rfl
theorem c_63_136 : mLk 63 136 = some (.aload_n 0, 1) := rfl
theorem c_63_137 : mLk 63 137 = some (.dup, 1) := rfl
theorem c_63_138 : mLk 63 138 = some (.getfield 22, 3) := rfl
theorem c_63_141 : mLk 63 141 = some (.iconst 1, 1) := rfl
theorem c_63_142 : mLk 63 142 = some (.iadd, 1) := rfl
theorem c_63_143 : mLk 63 143 = some (.putfield 22, 3) := rfl
theorem c_63_146 : mLk 63 146 = some (.goto 13, 3) := rfl
theorem c_63_57 : mLk 63 57 = some (.aload_n 0, 1) := rfl
theorem c_63_58 : mLk 63 58 = some (.getfield 11, 3) := rfl
theorem c_63_61 : mLk 63 61 = some (.iload 6, 2) := rfl
theorem c_63_63 : mLk 63 63 = some (.iconst 2, 1) := rfl
theorem c_63_64 : mLk 63 64 = some (.iadd, 1) := rfl
theorem c_63_65 : mLk 63 65 = some (.iaload, 1) := rfl
theorem c_63_66 : mLk 63 66 = some (.istore 7, 2) := rfl
theorem c_63_68 : mLk 63 68 = some (.iconst 0, 1) := rfl
theorem c_63_69 : mLk 63 69 = some (.istore 8, 2) := rfl
theorem c_63_71 : mLk 63 71 = some (.iload 8, 2) := rfl
theorem c_63_73 : mLk 63 73 = some (.aload_n 0, 1) := rfl
theorem c_63_74 : mLk 63 74 = some (.getfield 11, 3) := rfl
theorem c_63_77 : mLk 63 77 = some (.iload 6, 2) := rfl
theorem c_63_79 : mLk 63 79 = some (.iconst 1, 1) := rfl
theorem c_63_80 : mLk 63 80 = some (.iadd, 1) := rfl
theorem c_63_81 : mLk 63 81 = some (.iaload, 1) := rfl
theorem c_63_82 : mLk 63 82 = some (.if_icmp .ge 32, 3) := rfl
theorem c_63_114 : mLk 63 114 = some (.iload 5, 2) := rfl
theorem c_63_116 : mLk 63 116 = some (.iload 7, 2) := rfl
theorem c_63_118 : mLk 63 118 = some (.invokestatic 95, 3) := rfl
theorem c_63_121 : mLk 63 121 = some (.istore 5, 2) := rfl
theorem c_63_123 : mLk 63 123 = some (.goto 36, 3) := rfl
theorem c_63_85 : mLk 63 85 = some (.aload_n 0, 1) := rfl
theorem c_63_86 : mLk 63 86 = some (.getfield 15, 3) := rfl
theorem c_63_89 : mLk 63 89 = some (.sipush 200, 3) := rfl
theorem c_63_92 : mLk 63 92 = some (.if_icmp .ge 22, 3) := rfl
theorem c_63_95 : mLk 63 95 = some (.aload_n 0, 1) := rfl
theorem c_63_96 : mLk 63 96 = some (.aload_n 1, 1) := rfl
theorem c_63_97 : mLk 63 97 = some (.iload 5, 2) := rfl
theorem c_63_99 : mLk 63 99 = some (.iload 7, 2) := rfl
theorem c_63_101 : mLk 63 101 = some (.iload 4, 2) := rfl
theorem c_63_103 : mLk 63 103 = some (.iconst 1, 1) := rfl
theorem c_63_104 : mLk 63 104 = some (.iadd, 1) := rfl
theorem c_63_105 : mLk 63 105 = some (.invokevirtual 91, 3) := rfl
theorem c_63_108 : mLk 63 108 = some (.iinc 8 1, 3) := rfl
theorem c_63_111 : mLk 63 111 = some (.goto (-40), 3) := rfl
theorem c_63_0 : mLk 63 0 = some (.iload_n 2, 1) := rfl
theorem c_63_1 : mLk 63 1 = some (.istore 5, 2) := rfl
theorem km_3_101 : a_lk (kM 3) 101 = some (0, 62) := rfl
theorem km_3_91 : a_lk (kM 3) 91 = some (0, 63) := rfl
set_option maxRecDepth 100000 in
set_option maxHeartbeats 4000000 in
theorem s_63_l {sc : List Int32} {d P Q : Nat} {c : ME} {a2 : Int} {a3 : Int} {a4 : Int} {Z : AR → Prop} (hI : Iv 0 (-1) P Q c) (ha2 : 0 ≤ a2 ∧ a2 ≤ 38) (ha3 : 0 ≤ a3 ∧ a3 ≤ 38) (ha4 : 0 ≤ a4 ∧ a4 ≤ 7) (H63 : ∀ (c : ME) (a2 : Int) (a3 : Int) (Z : AR → Prop), a4 + 1 ≤ 7 → Iv 0 (-1) P Q c → 0 ≤ a2 ∧ a2 ≤ 38 → 0 ≤ a3 ∧ a3 ≤ 38 → (∀ c2 : ME, Iv 0 (-1) P Q c2 → (∀ (a : Nat) (j : Int), ¬ ((a = 7 ∧ j = 1) ∨ (a = 7 ∧ j = 3) ∨ (a = 7 ∧ j = 4) ∨ a = 38 ∨ a = (P + 10) ∨ a = (P + 11)) → c2 a j = c a j) → (c2 7 1 ≥ c 7 1) → Z (.inl none, Wd P Q P P c2, 0, 0)) → Wp sc (d + 13) 63 0 [(0, .ref 7), (1, .ref 37), (2, vi a2), (3, vi a3), (4, vi (a4 + 1))] [] (Wd P Q P P c) 0 0 Z) (K : ∀ (c2 : ME), Iv 0 (-1) P Q c2 → (∀ (a : Nat) (j : Int), ¬ ((a = 7 ∧ j = 1) ∨ (a = 7 ∧ j = 3) ∨ (a = 7 ∧ j = 4) ∨ a = 38 ∨ a = (P + 10) ∨ a = (P + 11)) → c2 a j = c a j) → ((c2 7 1 ≥ c 7 1)) → Z (.inl (none), Wd P Q P P c2, 0, 0)) : ∀ n : Nat, (∀ (c2 : ME) (v5 : Int), Iv 0 (-1) P Q c2 → (∀ (a : Nat) (j : Int), ¬ ((a = 7 ∧ j = 1) ∨ (a = 7 ∧ j = 3) ∨ (a = 7 ∧ j = 4) ∨ a = 38 ∨ a = (P + 10) ∨ a = (P + 11)) → c2 a j = c a j) → 0 ≤ v5 ∧ v5 ≤ 38 → ((c2 7 1 ≥ c 7 1)) → 40002000 - 200010 * c2 7 1 < (n : Int) → Wp sc (d + 14) 63 3 [(0, .ref 7), (1, .ref 37), (2, vi a2), (3, vi a3), (4, vi a4), (5, vi v5)] [] (Wd P Q P P c2) 0 0 Z) ∧ (∀ (c2 : ME) (v5 : Int) (v6 : Int) (v7 : Int) (v8 : Int), Iv 0 (-1) P Q c2 → (∀ (a : Nat) (j : Int), ¬ ((a = 7 ∧ j = 1) ∨ (a = 7 ∧ j = 3) ∨ (a = 7 ∧ j = 4) ∨ a = 38 ∨ a = (P + 10) ∨ a = (P + 11)) → c2 a j = c a j) → 1 ≤ v5 ∧ v5 ≤ 38 → 0 ≤ v6 ∧ v6 ≤ 185 → 0 ≤ v7 ∧ v7 ≤ 38 → 0 ≤ v8 ∧ v8 ≤ 99999 → ((v6 = 5 * v5 - 5)) → ((v6 ≥ 0)) → ((a4 ≤ 6)) → ((c2 7 1 ≥ c 7 1)) → 40202003 - 200010 * c2 7 1 - 2 * v8 < (n : Int) → Wp sc (d + 14) 63 71 [(0, .ref 7), (1, .ref 37), (2, vi a2), (3, vi a3), (4, vi a4), (5, vi v5), (6, vi v6), (7, vi v7), (8, vi v8)] [] (Wd P Q P P c2) 0 0 Z) := by
  intro n
  induction n with
  | zero => exact (by exact ⟨by (intro c2 v5 hI2 hF hv5 hx0 hm9; have hP := iv_P hI; have hQ := iv_Q hI; have h_45 := ir_7_1 hI2; exfalso; omega), by (intro c2 v5 v6 v7 v8 hI2 hF hv5 hv6 hv7 hv8 hx0 hx1 hx2 hx3 hm9; have hP := iv_P hI; have hQ := iv_Q hI; have h_46 := ir_7_1 hI2; exfalso; omega)⟩)
  | succ n ih =>
    have hP := iv_P hI
    have hQ := iv_Q hI
    refine ⟨?_, ?_⟩
    · skip
      intro c2 v5 hI2 hF hv5 hx0 hm9
      have h_1 := ir_7_1 hI
      have h_2 := ir_7_1 hI2
      refine q_iload c_63_3 rfl (q_iload_n c_63_5 rfl ?_)
      by_cases h_3 : v5 ≥ a3
      · refine v_ic_ge_t (t := 162) c_63_6 rfl ⟨(lel ha3.1 rfl), h_3, (ler hv5.2 rfl)⟩ (q_vret rfl rfl ?_)
        exact K c2 hI2 (fun a j hm => hF a j hm) (by omega)
      · refine v_ic_ge_f (t := 162) c_63_6 rfl ⟨(lel hv5.1 rfl), (Int.not_le.mp h_3), (ler ha3.2 rfl)⟩ (q_aload_n c_63_9 rfl (v_gi (z := 1) (v := c2 7 1) c_63_10 kf_3_15 rfl (Nat.le_of_ble_eq_true rfl) rfl rfl rfl (v_sip c_63_13 (of_decide_eq_true rfl) ?_)))
        by_cases h_4 : c2 7 1 ≥ 200
        · refine v_ic_ge_t (t := 162) c_63_16 rfl ⟨of_decide_eq_true rfl, h_4, (ler h_2.2 rfl)⟩ (q_vret rfl rfl ?_)
          exact K c2 hI2 (fun a j hm => hF a j hm) (by omega)
        · refine v_ic_ge_f (t := 162) c_63_16 rfl ⟨(lel h_2.1 rfl), (Int.not_le.mp h_4), of_decide_eq_true rfl⟩ (q_iload c_63_19 rfl (v_bip c_63_21 (of_decide_eq_true rfl) ?_))
          by_cases h_5 : a4 > 6
          · refine v_ic_gt_t (t := 162) c_63_23 rfl ⟨of_decide_eq_true rfl, h_5, (ler ha4.2 rfl)⟩ (q_vret rfl rfl ?_)
            exact K c2 hI2 (fun a j hm => hF a j hm) (by omega)
          · refine v_ic_gt_f (t := 162) c_63_23 rfl ⟨(lel ha4.1 rfl), (Int.not_lt.mp h_5), of_decide_eq_true rfl⟩ (q_iload c_63_26 rfl (q_iconst c_63_28 (v_imul (v := 5 * v5) c_63_29 (by omega) (q_istore c_63_30 (Nat.le_of_ble_eq_true rfl) (q_aload_n c_63_32 rfl (q_dup c_63_33 rfl (v_gi (z := 1) (v := c2 7 1) c_63_34 kf_3_15 rfl (Nat.le_of_ble_eq_true rfl) rfl rfl rfl ?_)))))))
            refine q_iconst c_63_37 (v_iadd (v := c2 7 1 + 1) c_63_38 rfl (v_pi (z := 1) c_63_39 kf_3_15 rfl (Nat.le_of_ble_eq_true rfl) rfl rfl rfl (of_decide_eq_true rfl) (v_iinc (v := v5 + 1) c_63_42 rfl (Nat.le_of_ble_eq_true rfl) rfl (q_aload_n c_63_45 rfl (v_gr (t := 8) c_63_46 kf_3_11 rfl (Nat.le_of_ble_eq_true rfl) rfl (q_iload c_63_49 rfl ?_))))))
            have h_6 := ir_8 hI (5 * v5)
            have kn_7 : Hid (c2 8 (5 * v5) = c 8 (5 * v5)) := hF 8 (5 * v5) (qn_50c79f576 hP)
            refine v_ia (v := c 8 (5 * v5)) c_63_51 rfl (of_decide_eq_true rfl) (of_decide_eq_true rfl) ⟨(q_2c11af296 hv5), (q_a19b34be3 h_3 ha3)⟩ ((up_c (nn rfl)).trans (hid kn_7)) (v_bip c_63_52 (of_decide_eq_true rfl) ?_)
            by_cases h_8 : c 8 (5 * v5) ≠ 7
            · refine v_ic_ne_t (t := 126) c_63_54 rfl ⟨h_8, ⟨(q_02a5b5c27 h_6), (q_f4295f9df h_6)⟩, of_decide_eq_true rfl, of_decide_eq_true rfl⟩ (q_aload_n c_63_126 rfl (q_aload_n c_63_127 rfl (q_iload c_63_128 rfl ?_)))
              have hI_9 := iw_7_1 (v := c2 7 1 + 1) hI2 ⟨(rgp_l h_2.1 (of_decide_eq_true rfl)), (q_6a4e5184f h_4)⟩
              refine v_cv c_63_130 km_3_101 rfl rfl (Nat.le_of_ble_eq_true rfl) ⟨⟨rfl, rfl⟩, Nat.le_of_ble_eq_true rfl, rfl⟩ (Nat.le_of_ble_eq_true rfl) (Nat.le_of_ble_eq_true rfl) (s_62 (t := v5) hI_9 (show 0 ≤ v5 ∧ v5 ≤ 37 from by omega) (fun c_10 y_13 hI_11 hF_12 hy_13 => (bk_inl ?_)))
              by_cases h_14 : y_13 = 0
              · refine v_if_eq_t (t := 149) c_63_133 rfl h_14 (q_aload_n c_63_149 rfl (q_dup c_63_150 rfl ?_))
                have h_15 := ir_7_4 hI2
                have kn_16 : Hid (c_10 7 4 = c2 7 4) := (hF_12 7 4 (qn_5bba11e65 hP)).trans (up_n (ni rfl))
                refine v_gi (z := 4) (v := c2 7 4) c_63_151 kf_3_25 rfl (Nat.le_of_ble_eq_true rfl) rfl rfl (hid kn_16) (q_iconst c_63_154 (v_iadd (v := c2 7 4 + 1) c_63_155 rfl (v_nrm (fun y_17 hy_17 => (v_pi (z := 4) c_63_156 kf_3_25 rfl (Nat.le_of_ble_eq_true rfl) rfl rfl rfl (of_decide_eq_true rfl) (q_goto (t := 3) c_63_159 rfl ?_))))))
                have hI_18 := iw_7_4 (v := y_17) hI_11 ⟨hy_17.1, hy_17.2⟩
                refine Wp_ls [(0, .ref 7), (1, .ref 37), (2, vi a2), (3, vi a3), (4, vi a4), (5, vi (v5 + 1))] (lsub_cons rfl (lsub_cons rfl (lsub_cons rfl (lsub_cons rfl (lsub_cons rfl (lsub_cons rfl lsub_nil)))))) ?_
                have kn_19 : Hid (c_10 7 1 = c2 7 1 + 1) := (hF_12 7 1 (qn_5bba11e65 hP)).trans (up_e rfl)
                have h_20 : (up c_10 7 4 y_17) 7 1 = c2 7 1 + 1 := ((up_n (ni rfl)).trans (hid kn_19))
                exact ih.1 (up c_10 7 4 y_17) (v5 + 1) hI_18 (fun a j hm => (up_b (Decidable.or_iff_not_imp_left.mpr (fun h1 h2 => hm (Or.inr (Or.inr (Or.inl ⟨Decidable.not_not.mp h1, h2⟩)))))).trans ((hF_12 a j (qv_b29cc1a18 hm)).trans ((up_b (Decidable.or_iff_not_imp_left.mpr (fun h1 h2 => hm (Or.inl ⟨Decidable.not_not.mp h1, h2⟩)))).trans (hF a j hm)))) ⟨(rgp_l hv5.1 (of_decide_eq_true rfl)), (q_f1fd3febd h_3 ha3)⟩ (by first | (clear ha2 ha3 ha4 hv5 h_1 h_2 h_3 h_4 h_5 h_6 h_14 h_15 h_8; omega) | omega) (by omega)
              · refine v_if_eq_f (t := 149) c_63_133 rfl ⟨h_14, ⟨(lel hy_13.1 rfl), (ler hy_13.2 rfl)⟩, of_decide_eq_true rfl, of_decide_eq_true rfl⟩ (q_aload_n c_63_136 rfl (q_dup c_63_137 rfl ?_))
                have h_21 := ir_7_3 hI2
                have kn_22 : Hid (c_10 7 3 = c2 7 3) := (hF_12 7 3 (qn_5bba11e65 hP)).trans (up_n (ni rfl))
                refine v_gi (z := 3) (v := c2 7 3) c_63_138 kf_3_22 rfl (Nat.le_of_ble_eq_true rfl) rfl rfl (hid kn_22) (q_iconst c_63_141 (v_iadd (v := c2 7 3 + 1) c_63_142 rfl (v_nrm (fun y_23 hy_23 => (v_pi (z := 3) c_63_143 kf_3_22 rfl (Nat.le_of_ble_eq_true rfl) rfl rfl rfl (of_decide_eq_true rfl) (q_goto (t := 159) c_63_146 rfl (q_goto (t := 3) c_63_159 rfl ?_)))))))
                have hI_24 := iw_7_3 (v := y_23) hI_11 ⟨hy_23.1, hy_23.2⟩
                refine Wp_ls [(0, .ref 7), (1, .ref 37), (2, vi a2), (3, vi a3), (4, vi a4), (5, vi (v5 + 1))] (lsub_cons rfl (lsub_cons rfl (lsub_cons rfl (lsub_cons rfl (lsub_cons rfl (lsub_cons rfl lsub_nil)))))) ?_
                have kn_25 : Hid (c_10 7 1 = c2 7 1 + 1) := (hF_12 7 1 (qn_5bba11e65 hP)).trans (up_e rfl)
                have h_26 : (up c_10 7 3 y_23) 7 1 = c2 7 1 + 1 := ((up_n (ni rfl)).trans (hid kn_25))
                exact ih.1 (up c_10 7 3 y_23) (v5 + 1) hI_24 (fun a j hm => (up_b (Decidable.or_iff_not_imp_left.mpr (fun h1 h2 => hm (Or.inr (Or.inl ⟨Decidable.not_not.mp h1, h2⟩))))).trans ((hF_12 a j (qv_b29cc1a18 hm)).trans ((up_b (Decidable.or_iff_not_imp_left.mpr (fun h1 h2 => hm (Or.inl ⟨Decidable.not_not.mp h1, h2⟩)))).trans (hF a j hm)))) ⟨(rgp_l hv5.1 (of_decide_eq_true rfl)), (q_f1fd3febd h_3 ha3)⟩ (by first | (clear ha2 ha3 ha4 hv5 h_1 h_2 h_3 h_4 h_5 h_6 h_21 h_8 h_14; omega) | omega) (by omega)
            · refine v_ic_ne_f (t := 126) c_63_54 rfl (Decidable.not_not.mp h_8) (q_aload_n c_63_57 rfl (v_gr (t := 8) c_63_58 kf_3_11 rfl (Nat.le_of_ble_eq_true rfl) rfl (q_iload c_63_61 rfl (q_iconst c_63_63 (v_iadd (v := 5 * v5 + 2) c_63_64 rfl ?_)))))
              have h_27 := ir_8 hI (5 * v5 + 2)
              have h_28 := ir_8_2 hI (j := 5 * v5 + 2) (by first | (clear ha2 ha3 ha4 hv5 hx0 h_1 h_2 h_3 h_4 h_5 h_6 h_8 h_27; omega) | omega)
              have kn_29 : Hid (c2 8 (5 * v5 + 2) = c 8 (5 * v5 + 2)) := hF 8 (5 * v5 + 2) (qn_50c79f576 hP)
              refine v_ia (v := c 8 (5 * v5 + 2)) c_63_65 rfl (of_decide_eq_true rfl) (of_decide_eq_true rfl) ⟨(q_da5b99998 hv5), (q_aabb04a91 h_3 ha3)⟩ ((up_c (nn rfl)).trans (hid kn_29)) (q_istore c_63_66 (Nat.le_of_ble_eq_true rfl) (q_iconst c_63_68 (q_istore c_63_69 (Nat.le_of_ble_eq_true rfl) ?_)))
              have hI_30 := iw_7_1 (v := c2 7 1 + 1) hI2 ⟨(rgp_l h_2.1 (of_decide_eq_true rfl)), (q_6a4e5184f h_4)⟩
              refine Wp_ls [(0, .ref 7), (1, .ref 37), (2, vi a2), (3, vi a3), (4, vi a4), (5, vi (v5 + 1)), (6, vi (5 * v5)), (7, vi (c 8 (5 * v5 + 2))), (8, vi 0)] (lsub_cons rfl (lsub_cons rfl (lsub_cons rfl (lsub_cons rfl (lsub_cons rfl (lsub_cons rfl (lsub_cons rfl (lsub_cons rfl (lsub_cons rfl lsub_nil))))))))) ?_
              have h_31 : (up c2 7 1 (c2 7 1 + 1)) 7 1 = c2 7 1 + 1 := (up_e rfl)
              exact ih.2 (up c2 7 1 (c2 7 1 + 1)) (v5 + 1) (5 * v5) (c 8 (5 * v5 + 2)) 0 hI_30 (fun a j hm => (up_b (Decidable.or_iff_not_imp_left.mpr (fun h1 h2 => hm (Or.inl ⟨Decidable.not_not.mp h1, h2⟩)))).trans (hF a j hm)) ⟨(rgp_l hv5.1 (of_decide_eq_true rfl)), (q_f1fd3febd h_3 ha3)⟩ ⟨(q_2c11af296 hv5), (q_8213456cf h_3 ha3)⟩ ⟨(q_07e1df2eb h_27), (q_7af0ec580 h_28)⟩ ⟨of_decide_eq_true rfl, of_decide_eq_true rfl⟩ (by first | assumption | omega) ((q_2c11af296 hv5)) ((q_e2a7bf5e9 h_5)) (by first | (clear ha2 ha3 ha4 hv5 h_1 h_2 h_3 h_4 h_5 h_6 h_8 h_27 h_28; omega) | omega) (by omega)
    · skip
      intro c2 v5 v6 v7 v8 hI2 hF hv5 hv6 hv7 hv8 hx0 hx1 hx2 hx3 hm9
      have h_32 := ir_7_1 hI
      have h_33 := ir_7_1 hI2
      refine q_iload c_63_71 rfl (q_aload_n c_63_73 rfl (v_gr (t := 8) c_63_74 kf_3_11 rfl (Nat.le_of_ble_eq_true rfl) rfl (q_iload c_63_77 rfl (q_iconst c_63_79 (v_iadd (v := v6 + 1) c_63_80 rfl ?_)))))
      have h_34 := ir_8 hI (v6 + 1)
      have kn_35 : Hid (c2 8 (v6 + 1) = c 8 (v6 + 1)) := hF 8 (v6 + 1) (qn_50c79f576 hP)
      refine v_ia (v := c 8 (v6 + 1)) c_63_81 rfl (of_decide_eq_true rfl) (of_decide_eq_true rfl) ⟨(rgp_l hv6.1 (of_decide_eq_true rfl)), (q_f5f6b62ea hv6)⟩ (hid kn_35) ?_
      by_cases h_36 : v8 ≥ c 8 (v6 + 1)
      · refine v_ic_ge_t (t := 114) c_63_82 rfl ⟨(q_02a5b5c27 h_34), h_36, (ler hv8.2 rfl)⟩ (q_iload c_63_114 rfl (q_iload c_63_116 rfl (v_maxx c_63_118 rfl (by omega) (Nat.le_of_ble_eq_true rfl) ⟨by omega, by omega, by omega, by omega⟩ (fun y_37 hy_37 => (q_istore c_63_121 (Nat.le_of_ble_eq_true rfl) (q_goto (t := 159) c_63_123 rfl (q_goto (t := 3) c_63_159 rfl (Wp_ls [(0, .ref 7), (1, .ref 37), (2, vi a2), (3, vi a3), (4, vi a4), (5, vi y_37)] (lsub_cons rfl (lsub_cons rfl (lsub_cons rfl (lsub_cons rfl (lsub_cons rfl (lsub_cons rfl lsub_nil)))))) ?_))))))))
        exact ih.1 c2 y_37 hI2 (fun a j hm => hF a j hm) ⟨by first | (clear ha2 ha3 ha4 hv5 hv7 hv8 hx1 hx2 hx3 h_32 h_33 h_34 h_36; omega) | omega, by first | (clear ha2 ha3 ha4 hv6 hv8 hx0 hx1 hx2 hx3 h_32 h_33 h_34 h_36; omega) | omega⟩ (by first | (clear ha2 ha3 ha4 hv5 hv6 hv7 hv8 hx0 hx1 hx2 h_32 h_33 h_34 h_36; omega) | omega) (by omega)
      · refine v_ic_ge_f (t := 114) c_63_82 rfl ⟨(lel hv8.1 rfl), (Int.not_le.mp h_36), (q_f4295f9df h_34)⟩ (q_aload_n c_63_85 rfl (v_gi (z := 1) (v := c2 7 1) c_63_86 kf_3_15 rfl (Nat.le_of_ble_eq_true rfl) rfl rfl rfl (v_sip c_63_89 (of_decide_eq_true rfl) ?_)))
        by_cases h_38 : c2 7 1 ≥ 200
        · refine v_ic_ge_t (t := 114) c_63_92 rfl ⟨of_decide_eq_true rfl, h_38, (ler h_33.2 rfl)⟩ (q_iload c_63_114 rfl (q_iload c_63_116 rfl (v_maxx c_63_118 rfl (by omega) (Nat.le_of_ble_eq_true rfl) ⟨by omega, by omega, by omega, by omega⟩ (fun y_39 hy_39 => (q_istore c_63_121 (Nat.le_of_ble_eq_true rfl) (q_goto (t := 159) c_63_123 rfl (q_goto (t := 3) c_63_159 rfl (Wp_ls [(0, .ref 7), (1, .ref 37), (2, vi a2), (3, vi a3), (4, vi a4), (5, vi y_39)] (lsub_cons rfl (lsub_cons rfl (lsub_cons rfl (lsub_cons rfl (lsub_cons rfl (lsub_cons rfl lsub_nil)))))) ?_))))))))
          exact ih.1 c2 y_39 hI2 (fun a j hm => hF a j hm) ⟨by first | (clear ha2 ha3 ha4 hv5 hv7 hv8 hx1 hx2 hx3 h_32 h_33 h_34 h_36 h_38; omega) | omega, by first | (clear ha2 ha3 ha4 hv5 hv8 hx1 hx2 hx3 h_32 h_33 h_34 h_36 h_38; omega) | omega⟩ (by first | (clear ha2 ha3 ha4 hv5 hv6 hv7 hv8 hx0 hx1 hx2 h_32 h_33 h_34 h_36 h_38; omega) | omega) (by omega)
        · refine v_ic_ge_f (t := 114) c_63_92 rfl ⟨(lel h_33.1 rfl), (Int.not_le.mp h_38), of_decide_eq_true rfl⟩ (q_aload_n c_63_95 rfl (q_aload_n c_63_96 rfl (q_iload c_63_97 rfl (q_iload c_63_99 rfl (q_iload c_63_101 rfl (q_iconst c_63_103 (v_iadd (v := a4 + 1) c_63_104 rfl ?_)))))))
          refine v_cv c_63_105 km_3_91 rfl rfl (Nat.le_of_ble_eq_true rfl) ⟨⟨rfl, rfl⟩, Nat.le_of_ble_eq_true rfl, rfl⟩ (Nat.le_of_ble_eq_true rfl) (Nat.le_of_ble_eq_true rfl) (H63 _ v5 v7 _ (by omega) hI2 (by omega) (by omega) (fun c_40 hI_41 hF_42 h_43 => (bk_inl ?_)))
          have h_44 := ir_7_1 hI_41
          refine v_iinc (v := v8 + 1) c_63_108 rfl (Nat.le_of_ble_eq_true rfl) rfl (q_goto (t := 71) c_63_111 rfl (Wp_ls [(0, .ref 7), (1, .ref 37), (2, vi a2), (3, vi a3), (4, vi a4), (5, vi v5), (6, vi v6), (7, vi v7), (8, vi (v8 + 1))] (lsub_cons rfl (lsub_cons rfl (lsub_cons rfl (lsub_cons rfl (lsub_cons rfl (lsub_cons rfl (lsub_cons rfl (lsub_cons rfl (lsub_cons rfl lsub_nil))))))))) ?_))
          exact ih.2 c_40 v5 v6 v7 (v8 + 1) hI_41 (fun a j hm => (hF_42 a j hm).trans (hF a j hm)) hv5 hv6 hv7 ⟨(rgp_l hv8.1 (of_decide_eq_true rfl)), (q_9b8e93030 h_34 h_36)⟩ (by first | (clear ha2 ha3 ha4 hv5 hv6 hv7 hv8 hx1 hx2 hx3 h_32 h_33 h_34 h_36 h_38 h_44 h_43; omega) | omega) ((q_b64c086c4 hv6)) (by first | (clear ha2 ha3 ha4 hv5 hv6 hv7 hv8 hx0 hx1 hx3 h_32 h_33 h_34 h_36 h_38 h_44 h_43; omega) | omega) (by first | (clear ha2 ha3 ha4 hv5 hv6 hv7 hv8 hx0 hx1 hx2 h_32 h_33 h_34 h_36 h_38 h_44; omega) | omega) (by omega)
set_option maxRecDepth 100000 in
set_option maxHeartbeats 4000000 in
theorem s_63 {sc : List Int32} {d P Q : Nat} {c : ME} {a2 : Int} {a3 : Int} {a4 : Int} {Z : AR → Prop} (hI : Iv 0 (-1) P Q c) (ha2 : 0 ≤ a2 ∧ a2 ≤ 38) (ha3 : 0 ≤ a3 ∧ a3 ≤ 38) (ha4 : 0 ≤ a4 ∧ a4 ≤ 7) (H63 : ∀ (c : ME) (a2 : Int) (a3 : Int) (Z : AR → Prop), a4 + 1 ≤ 7 → Iv 0 (-1) P Q c → 0 ≤ a2 ∧ a2 ≤ 38 → 0 ≤ a3 ∧ a3 ≤ 38 → (∀ c2 : ME, Iv 0 (-1) P Q c2 → (∀ (a : Nat) (j : Int), ¬ ((a = 7 ∧ j = 1) ∨ (a = 7 ∧ j = 3) ∨ (a = 7 ∧ j = 4) ∨ a = 38 ∨ a = (P + 10) ∨ a = (P + 11)) → c2 a j = c a j) → (c2 7 1 ≥ c 7 1) → Z (.inl none, Wd P Q P P c2, 0, 0)) → Wp sc (d + 13) 63 0 [(0, .ref 7), (1, .ref 37), (2, vi a2), (3, vi a3), (4, vi (a4 + 1))] [] (Wd P Q P P c) 0 0 Z) (K : ∀ (c2 : ME), Iv 0 (-1) P Q c2 → (∀ (a : Nat) (j : Int), ¬ ((a = 7 ∧ j = 1) ∨ (a = 7 ∧ j = 3) ∨ (a = 7 ∧ j = 4) ∨ a = 38 ∨ a = (P + 10) ∨ a = (P + 11)) → c2 a j = c a j) → ((c2 7 1 ≥ c 7 1)) → Z (.inl (none), Wd P Q P P c2, 0, 0)) : Wp sc (d + 14) 63 0 [(0, .ref 7), (1, .ref 37), (2, vi a2), (3, vi a3), (4, vi a4)] [] (Wd P Q P P c) 0 0 Z := by
  have hP := iv_P hI
  have hQ := iv_Q hI
  refine q_iload_n c_63_0 rfl (q_istore c_63_1 (Nat.le_of_ble_eq_true rfl) (Wp_ls [(0, .ref 7), (1, .ref 37), (2, vi a2), (3, vi a3), (4, vi a4), (5, vi a2)] (lsub_cons rfl (lsub_cons rfl (lsub_cons rfl (lsub_cons rfl (lsub_cons rfl (lsub_cons rfl lsub_nil)))))) ?_))
  have h_47 := ir_7_1 hI
  exact (s_63_l (sc := sc) (d := d) hI ha2 ha3 ha4 H63 K 40300000).1 c a2 hI (fun a j hm => rfl) ha2 ((q_e074ea49a)) (by omega)
set_option maxRecDepth 100000 in
set_option maxHeartbeats 4000000 in
theorem r_63_n {sc : List Int32} {d P Q : Nat} : ∀ (m : Nat) (c : ME) (a4 : Int) (a2 : Int) (a3 : Int) (Z : AR → Prop), a4 + (m : Int) = 7 → 0 ≤ a4 → Iv 0 (-1) P Q c → 0 ≤ a2 ∧ a2 ≤ 38 → 0 ≤ a3 ∧ a3 ≤ 38 → (∀ c2 : ME, Iv 0 (-1) P Q c2 → (∀ (a : Nat) (j : Int), ¬ ((a = 7 ∧ j = 1) ∨ (a = 7 ∧ j = 3) ∨ (a = 7 ∧ j = 4) ∨ a = 38 ∨ a = (P + 10) ∨ a = (P + 11)) → c2 a j = c a j) → (c2 7 1 ≥ c 7 1) → Z (.inl none, Wd P Q P P c2, 0, 0)) → Wp sc (d + 1 * m + 14) 63 0 [(0, .ref 7), (1, .ref 37), (2, vi a2), (3, vi a3), (4, vi a4)] [] (Wd P Q P P c) 0 0 Z
  | 0, c, a4, a2, a3, Z, hm, h0, hI, ha2, ha3, K => s_63 (d := d) (a4 := a4) hI ha2 ha3 (show 0 ≤ a4 ∧ a4 ≤ 7 from ⟨by omega, by omega⟩) (fun c9 a29 a39 Z9 hc => absurd hc (by omega)) K
  | m + 1, c, a4, a2, a3, Z, hm, h0, hI, ha2, ha3, K => by
    have ih := r_63_n (sc := sc) (d := d) (P := P) (Q := Q) m
    rw [show d + 1 * (m + 1) + 14 = (d + 1 * m + 1) + 14 by omega]
    refine s_63 (d := d + 1 * m + 1) (a4 := a4) hI ha2 ha3 (show 0 ≤ a4 ∧ a4 ≤ 7 from ⟨by omega, by omega⟩) (fun c9 a29 a39 Z9 hc hI9 ha29 ha39 K9 => ?_) K
    have r := ih c9 (a4 + 1) a29 a39 Z9 (by omega) (by omega) hI9 ha29 ha39 K9
    rw [show d + 1 * m + 14 = (d + 1 * m + 1) + 13 by omega] at r
    exact r
set_option maxRecDepth 100000 in
set_option maxHeartbeats 4000000 in
theorem r_63 {sc : List Int32} {d P Q : Nat} {c : ME} {a4 : Int} {a2 : Int} {a3 : Int} {Z : AR → Prop} (hI : Iv 0 (-1) P Q c) (ha2 : 0 ≤ a2 ∧ a2 ≤ 38) (ha3 : 0 ≤ a3 ∧ a3 ≤ 38) (ha4 : 0 ≤ a4 ∧ a4 ≤ 7) (K : (∀ c2 : ME, Iv 0 (-1) P Q c2 → (∀ (a : Nat) (j : Int), ¬ ((a = 7 ∧ j = 1) ∨ (a = 7 ∧ j = 3) ∨ (a = 7 ∧ j = 4) ∨ a = 38 ∨ a = (P + 10) ∨ a = (P + 11)) → c2 a j = c a j) → (c2 7 1 ≥ c 7 1) → Z (.inl none, Wd P Q P P c2, 0, 0))) : Wp sc (d + 21) 63 0 [(0, .ref 7), (1, .ref 37), (2, vi a2), (3, vi a3), (4, vi a4)] [] (Wd P Q P P c) 0 0 Z := by
  obtain ⟨m, hm⟩ : ∃ m : Nat, (m : Int) = 7 - a4 := ⟨(7 - a4).toNat, by omega⟩
  rw [show d + 21 = (d + 7 - 1 * m) + 1 * m + 14 by omega]
  exact r_63_n m c a4 a2 a3 Z (by omega) (by omega) hI ha2 ha3 K
