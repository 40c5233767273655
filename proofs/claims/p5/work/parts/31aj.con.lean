/-! ===== contracts 6 ===== -/
theorem q_b0510b73e {x0 : Int} (f0 : x0 ≤ 0) : x0 < 3 := by omega
theorem q_f2816912d {x0 x1 : Int} (f0 : ¬ (x0 ≥ x1)) (f1 : 1 ≤ x1 ∧ x1 ≤ 48) : x0 + 1 ≤ 48 := by omega
theorem q_6c49a4ad1 {x0 : Int} (f0 : ¬ (x0 ≤ 0)) : 1 ≤ x0 := by omega
theorem q_03fad182f {x0 x1 : Int} (f0 : (x0 < x1)) (f1 : x1 < 3) : x0 ≤ 5 := by omega
theorem qv_f005124bb {P : Nat} {a : Nat} {j : Int} (hm : ¬ ((a = 9 ∧ j = 0) ∨ a = 40 ∨ a = (P + 10) ∨ a = (P + 11))) : ¬ (a = 40 ∨ a = (P + 10) ∨ a = (P + 11)) := (fun q => q.elim (fun h => hm (Or.inr (Or.inl h))) (fun q => q.elim (fun h => hm (Or.inr (Or.inr (Or.inl h)))) (fun h => hm (Or.inr (Or.inr (Or.inr h))))))
theorem q_9fda982ed {x0 : Int} (f0 : ¬ (x0 < 3)) : 0 < x0 := by omega
theorem q_909f086bb {x0 : Int} (f0 : ¬ (x0 < 3)) : 1 ≤ x0 := by omega
theorem q_4176b68dd {x0 x1 : Int} (f0 : (x0 < x1)) (f1 : 0 ≤ x1 ∧ x1 ≤ 6) : x0 ≤ 5 := by omega
theorem q_5c3b51790 {x0 x1 : Int} (f0 : (x0 < x1)) (f1 : 0 ≤ x1 ∧ x1 ≤ 4) : x0 ≤ 3 := by omega
theorem q_5fbbc52e7 {x0 x1 : Int} (f0 : 0 ≤ x0 ∧ x0 < x1) (f1 : 0 ≤ x1 ∧ x1 ≤ 6) : x0 ≤ 5 := by omega
theorem q_47e876c22 {x0 x1 : Int} (f0 : x0 < 3) (f1 : (x1 < x0)) : x1 ≤ 5 := by omega
theorem c_77_35 : mLk 77 35 = some (.iload 8, 2) := rfl
theorem c_77_37 : mLk 77 37 = some (.iload 4, 2) := rfl
theorem c_77_39 : mLk 77 39 = some (.if_icmp .ge 120, 3) := rfl
theorem c_77_42 : mLk 77 42 = some (.iload 5, 2) := rfl
theorem c_77_44 : mLk 77 44 = some (.ifCond .le 29, 3) := rfl
theorem c_77_73 : mLk 77 73 = some (.iload 5, 2) := rfl
theorem c_77_75 : mLk 77 75 = some (.iconst 3, 1) := rfl
theorem c_77_76 : mLk 77 76 = some (.if_icmp .lt 57, 3) := rfl
theorem c_77_133 : mLk 77 133 = some (.iload 5, 2) := rfl
theorem c_77_135 : mLk 77 135 = some (.ifCond .le 14, 3) := rfl
theorem c_77_149 : mLk 77 149 = some (.aload_n 1, 1) := rfl
theorem c_77_150 : mLk 77 150 = some (.invokevirtual 46, 3) := rfl
theorem c_77_153 : mLk 77 153 = some (.iinc 8 1, 3) := rfl
theorem c_77_156 : mLk 77 156 = some (.goto (-121), 3) := rfl
theorem c_77_47 : mLk 77 47 = some (.iload 6, 2) := rfl
theorem c_77_49 : mLk 77 49 = some (.ifCond .le 24, 3) := rfl
theorem c_77_138 : mLk 77 138 = some (.aload_n 1, 1) := rfl
theorem c_77_139 : mLk 77 139 = some (.aload_n 0, 1) := rfl
theorem c_77_140 : mLk 77 140 = some (.iload 5, 2) := rfl
theorem c_77_142 : mLk 77 142 = some (.invokevirtual 30, 3) := rfl
theorem c_77_145 : mLk 77 145 = some (.invokevirtual 42, 3) := rfl
theorem c_77_148 : mLk 77 148 = some (.pop, 1) := rfl
theorem c_77_79 : mLk 77 79 = some (.iload 7, 2) := rfl
theorem c_77_81 : mLk 77 81 = some (.ifCond .le 52, 3) := rfl
theorem c_77_84 : mLk 77 84 = some (.aload_n 0, 1) := rfl
theorem c_77_85 : mLk 77 85 = some (.iload 7, 2) := rfl
theorem c_77_87 : mLk 77 87 = some (.invokevirtual 30, 3) := rfl
theorem c_77_90 : mLk 77 90 = some (.istore 9, 2) := rfl
theorem c_77_92 : mLk 77 92 = some (.aload_n 0, 1) := rfl
theorem c_77_93 : mLk 77 93 = some (.iload 5, 2) := rfl
theorem c_77_95 : mLk 77 95 = some (.invokevirtual 30, 3) := rfl
theorem c_77_98 : mLk 77 98 = some (.istore 10, 2) := rfl
theorem c_77_100 : mLk 77 100 = some (.aload_n 0, 1) := rfl
theorem c_77_101 : mLk 77 101 = some (.bipush 16, 2) := rfl
theorem c_77_103 : mLk 77 103 = some (.invokevirtual 30, 3) := rfl
theorem c_77_106 : mLk 77 106 = some (.iload_n 3, 1) := rfl
theorem c_77_107 : mLk 77 107 = some (.if_icmp .ge 26, 3) := rfl
theorem c_77_110 : mLk 77 110 = some (.aload_n 1, 1) := rfl
theorem c_77_111 : mLk 77 111 = some (.iload 9, 2) := rfl
theorem c_77_113 : mLk 77 113 = some (.iload 10, 2) := rfl
theorem c_77_115 : mLk 77 115 = some (.iload 10, 2) := rfl
theorem c_77_117 : mLk 77 117 = some (.iconst 1, 1) := rfl
theorem c_77_118 : mLk 77 118 = some (.iadd, 1) := rfl
theorem c_77_119 : mLk 77 119 = some (.iload 5, 2) := rfl
theorem c_77_121 : mLk 77 121 = some (.irem, 1) := rfl
theorem c_77_122 : mLk 77 122 = some (.iload 10, 2) := rfl
theorem c_77_124 : mLk 77 124 = some (.iconst 2, 1) := rfl
theorem c_77_125 : mLk 77 125 = some (.iadd, 1) := rfl
theorem c_77_126 : mLk 77 126 = some (.iload 5, 2) := rfl
theorem c_77_128 : mLk 77 128 = some (.irem, 1) := rfl
theorem c_77_129 : mLk 77 129 = some (.invokevirtual 38, 3) := rfl
theorem c_77_132 : mLk 77 132 = some (.pop, 1) := rfl
theorem c_77_52 : mLk 77 52 = some (.aload_n 0, 1) := rfl
theorem c_77_53 : mLk 77 53 = some (.iload 6, 2) := rfl
theorem c_77_55 : mLk 77 55 = some (.invokevirtual 30, 3) := rfl
theorem c_77_58 : mLk 77 58 = some (.istore 9, 2) := rfl
theorem c_77_60 : mLk 77 60 = some (.aload_n 1, 1) := rfl
theorem c_77_61 : mLk 77 61 = some (.iload 9, 2) := rfl
theorem c_77_63 : mLk 77 63 = some (.aload_n 0, 1) := rfl
theorem c_77_64 : mLk 77 64 = some (.iload 5, 2) := rfl
theorem c_77_66 : mLk 77 66 = some (.invokevirtual 30, 3) := rfl
theorem c_77_69 : mLk 77 69 = some (.invokevirtual 34, 3) := rfl
theorem c_77_72 : mLk 77 72 = some (.pop, 1) := rfl
theorem c_77_0 : mLk 77 0 = some (.aload_n 0, 1) := rfl
theorem c_77_1 : mLk 77 1 = some (.iload_n 2, 1) := rfl
theorem c_77_2 : mLk 77 2 = some (.putfield 7, 3) := rfl
theorem c_77_5 : mLk 77 5 = some (.aload_n 1, 1) := rfl
theorem c_77_6 : mLk 77 6 = some (.getfield 13, 3) := rfl
theorem c_77_9 : mLk 77 9 = some (.getfield 19, 3) := rfl
theorem c_77_12 : mLk 77 12 = some (.istore 5, 2) := rfl
theorem c_77_14 : mLk 77 14 = some (.aload_n 1, 1) := rfl
theorem c_77_15 : mLk 77 15 = some (.getfield 13, 3) := rfl
theorem c_77_18 : mLk 77 18 = some (.getfield 24, 3) := rfl
theorem c_77_21 : mLk 77 21 = some (.istore 6, 2) := rfl
theorem c_77_23 : mLk 77 23 = some (.aload_n 1, 1) := rfl
theorem c_77_24 : mLk 77 24 = some (.getfield 13, 3) := rfl
theorem c_77_27 : mLk 77 27 = some (.getfield 27, 3) := rfl
theorem c_77_30 : mLk 77 30 = some (.istore 7, 2) := rfl
theorem c_77_32 : mLk 77 32 = some (.iconst 0, 1) := rfl
theorem c_77_33 : mLk 77 33 = some (.istore 8, 2) := rfl
theorem kf_6_13 : a_lk (kF 6) 13 = some (4, 1) := rfl
theorem kf_6_19 : a_lk (kF 6) 19 = some (2, 0) := rfl
theorem kf_6_24 : a_lk (kF 6) 24 = some (2, 1) := rfl
theorem kf_6_27 : a_lk (kF 6) 27 = some (2, 2) := rfl
theorem km_6_30 : a_lk (kM 6) 30 = some (0, 76) := rfl
theorem km_6_34 : a_lk (kM 6) 34 = some (0, 44) := rfl
theorem km_6_38 : a_lk (kM 6) 38 = some (0, 53) := rfl
theorem km_6_42 : a_lk (kM 6) 42 = some (0, 58) := rfl
theorem km_6_46 : a_lk (kM 6) 46 = some (0, 59) := rfl
set_option maxRecDepth 100000 in
set_option maxHeartbeats 4000000 in
theorem s_77_l {sc : List Int32} {d P Q : Nat} {c : ME} {a2 : Int} {a3 : Int} {a4 : Int} {Z : AR → Prop} (hI : Iv 0 (-1) P Q c) (ha2 : (-2147483648) ≤ a2 ∧ a2 ≤ 2147483647) (ha3 : 0 ≤ a3 ∧ a3 ≤ 16) (ha4 : 1 ≤ a4 ∧ a4 ≤ 48) (K : ∀ (c2 : ME), Iv 0 (-1) P Q c2 → (∀ (a : Nat) (j : Int), ¬ ((a = 9 ∧ j = 0) ∨ a = 40 ∨ a = (P + 10) ∨ a = (P + 11)) → c2 a j = c a j) → Z (.inl (none), Wd P Q P P c2, 0, 0)) : ∀ n : Nat, (∀ (c2 : ME) (v5 : Int) (v6 : Int) (v7 : Int) (v8 : Int), Iv 0 (-1) P Q c2 → (∀ (a : Nat) (j : Int), ¬ ((a = 9 ∧ j = 0) ∨ a = 40 ∨ a = (P + 10) ∨ a = (P + 11)) → c2 a j = c a j) → 0 ≤ v5 ∧ v5 ≤ 6 → 0 ≤ v6 ∧ v6 ≤ 4 → 0 ≤ v7 ∧ v7 ≤ 4 → 0 ≤ v8 ∧ v8 ≤ 48 → 97 - 2 * v8 < (n : Int) → Wp sc (d + 12) 77 35 [(0, .ref 9), (1, .ref 39), (2, vi a2), (3, vi a3), (4, vi a4), (5, vi v5), (6, vi v6), (7, vi v7), (8, vi v8)] [] (Wd P Q P P c2) 0 0 Z) := by
  intro n
  induction n with
  | zero => exact (by intro c2 v5 v6 v7 v8 hI2 hF hv5 hv6 hv7 hv8 hm9; have hP := iv_P hI; have hQ := iv_Q hI; exfalso; omega)
  | succ n ih =>
    have hP := iv_P hI
    have hQ := iv_Q hI
    intro c2 v5 v6 v7 v8 hI2 hF hv5 hv6 hv7 hv8 hm9
    refine q_iload c_77_35 rfl (q_iload c_77_37 rfl ?_)
    by_cases h_1 : v8 ≥ a4
    · refine v_ic_ge_t (t := 159) c_77_39 rfl ⟨(lel ha4.1 rfl), h_1, (ler hv8.2 rfl)⟩ (q_vret rfl rfl ?_)
      exact K c2 hI2 (fun a j hm => hF a j hm)
    · refine v_ic_ge_f (t := 159) c_77_39 rfl ⟨(lel hv8.1 rfl), (Int.not_le.mp h_1), (ler ha4.2 rfl)⟩ (q_iload c_77_42 rfl ?_)
      by_cases h_2 : v5 ≤ 0
      · refine v_if_le_t (t := 73) c_77_44 rfl ⟨(lel hv5.1 rfl), h_2, of_decide_eq_true rfl⟩ (q_iload c_77_73 rfl (q_iconst c_77_75 (v_ic_lt_t (t := 133) c_77_76 rfl ⟨(lel hv5.1 rfl), (q_b0510b73e h_2), of_decide_eq_true rfl⟩ (q_iload c_77_133 rfl (v_if_le_t (t := 149) c_77_135 rfl ⟨(lel hv5.1 rfl), (q_f0d4f2762 h_2), of_decide_eq_true rfl⟩ (q_aload_n c_77_149 rfl (v_cv c_77_150 km_6_46 rfl rfl (Nat.le_of_ble_eq_true rfl) ⟨⟨rfl, rfl⟩, Nat.le_of_ble_eq_true rfl, rfl⟩ (Nat.le_of_ble_eq_true rfl) (Nat.le_of_ble_eq_true rfl) (s_59 hI2 (.inr ⟨rfl, rfl⟩) (fun c_3 hI_4 hF_5 => ?_)))))))))
        refine bk_inl (v_iinc (v := v8 + 1) c_77_153 rfl (Nat.le_of_ble_eq_true rfl) rfl (q_goto (t := 35) c_77_156 rfl (Wp_ls [(0, .ref 9), (1, .ref 39), (2, vi a2), (3, vi a3), (4, vi a4), (5, vi v5), (6, vi v6), (7, vi v7), (8, vi (v8 + 1))] (lsub_cons rfl (lsub_cons rfl (lsub_cons rfl (lsub_cons rfl (lsub_cons rfl (lsub_cons rfl (lsub_cons rfl (lsub_cons rfl (lsub_cons rfl lsub_nil))))))))) ?_)))
        exact ih c_3 v5 v6 v7 (v8 + 1) hI_4 (fun a j hm => (hF_5 a j (fun h => hm (Or.inr (Or.inl h)))).trans (hF a j hm)) hv5 hv6 hv7 ⟨(rgp_l hv8.1 (of_decide_eq_true rfl)), (q_f2816912d h_1 ha4)⟩ (by omega)
      · refine v_if_le_f (t := 73) c_77_44 rfl ⟨of_decide_eq_true rfl, (Int.not_le.mp h_2), (ler hv5.2 rfl)⟩ (q_iload c_77_47 rfl ?_)
        by_cases h_6 : v6 ≤ 0
        · refine v_if_le_t (t := 73) c_77_49 rfl ⟨(lel hv6.1 rfl), h_6, of_decide_eq_true rfl⟩ (q_iload c_77_73 rfl (q_iconst c_77_75 ?_))
          by_cases h_7 : v5 < 3
          · refine v_ic_lt_t (t := 133) c_77_76 rfl ⟨(lel hv5.1 rfl), h_7, of_decide_eq_true rfl⟩ (q_iload c_77_133 rfl (v_if_le_f (t := 149) c_77_135 rfl ⟨of_decide_eq_true rfl, (q_ca88f5637 h_2), (ler hv5.2 rfl)⟩ (q_aload_n c_77_138 rfl (q_aload_n c_77_139 rfl (q_iload c_77_140 rfl (v_cv c_77_142 km_6_30 rfl rfl (Nat.le_of_ble_eq_true rfl) ⟨⟨rfl, rfl⟩, Nat.le_of_ble_eq_true rfl, rfl⟩ (Nat.le_of_ble_eq_true rfl) (Nat.le_of_ble_eq_true rfl) (s_76 (a1 := v5) hI2 (show 1 ≤ v5 ∧ v5 ≤ 16 from ⟨(q_6c49a4ad1 h_2), (ler hv5.2 rfl)⟩) (fun c_8 y_11 hI_9 hF_10 hy_11 h_12 => (bk_inl ?_)))))))))
            refine v_cv c_77_145 km_6_42 rfl rfl (Nat.le_of_ble_eq_true rfl) ⟨⟨rfl, rfl⟩, Nat.le_of_ble_eq_true rfl, rfl⟩ (Nat.le_of_ble_eq_true rfl) (Nat.le_of_ble_eq_true rfl) (s_58 (a1 := y_11) hI_9 (.inr ⟨rfl, rfl⟩) (show 0 ≤ y_11 ∧ y_11 ≤ 5 from ⟨hy_11.1, (q_03fad182f h_12 h_7)⟩) (fun c_13 y_16 hI_14 hF_15 hy_16 => (bk_inl (q_pop c_77_148 rfl (q_aload_n c_77_149 rfl (v_cv c_77_150 km_6_46 rfl rfl (Nat.le_of_ble_eq_true rfl) ⟨⟨rfl, rfl⟩, Nat.le_of_ble_eq_true rfl, rfl⟩ (Nat.le_of_ble_eq_true rfl) (Nat.le_of_ble_eq_true rfl) (s_59 hI_14 (.inr ⟨rfl, rfl⟩) (fun c_17 hI_18 hF_19 => (bk_inl (v_iinc (v := v8 + 1) c_77_153 rfl (Nat.le_of_ble_eq_true rfl) rfl (q_goto (t := 35) c_77_156 rfl ?_)))))))))))
            refine Wp_ls [(0, .ref 9), (1, .ref 39), (2, vi a2), (3, vi a3), (4, vi a4), (5, vi v5), (6, vi v6), (7, vi v7), (8, vi (v8 + 1))] (lsub_cons rfl (lsub_cons rfl (lsub_cons rfl (lsub_cons rfl (lsub_cons rfl (lsub_cons rfl (lsub_cons rfl (lsub_cons rfl (lsub_cons rfl lsub_nil))))))))) ?_
            exact ih c_17 v5 v6 v7 (v8 + 1) hI_18 (fun a j hm => (hF_19 a j (fun h => hm (Or.inr (Or.inl h)))).trans ((hF_15 a j (qv_f005124bb hm)).trans ((hF_10 a j (fun h => hm (Or.inl h))).trans (hF a j hm)))) hv5 hv6 hv7 ⟨(rgp_l hv8.1 (of_decide_eq_true rfl)), (q_f2816912d h_1 ha4)⟩ (by omega)
          · refine v_ic_lt_f (t := 133) c_77_76 rfl ⟨of_decide_eq_true rfl, (Int.not_lt.mp h_7), (ler hv5.2 rfl)⟩ (q_iload c_77_79 rfl ?_)
            by_cases h_20 : v7 ≤ 0
            · refine v_if_le_t (t := 133) c_77_81 rfl ⟨(lel hv7.1 rfl), h_20, of_decide_eq_true rfl⟩ (q_iload c_77_133 rfl (v_if_le_f (t := 149) c_77_135 rfl ⟨of_decide_eq_true rfl, (q_9fda982ed h_7), (ler hv5.2 rfl)⟩ (q_aload_n c_77_138 rfl (q_aload_n c_77_139 rfl (q_iload c_77_140 rfl (v_cv c_77_142 km_6_30 rfl rfl (Nat.le_of_ble_eq_true rfl) ⟨⟨rfl, rfl⟩, Nat.le_of_ble_eq_true rfl, rfl⟩ (Nat.le_of_ble_eq_true rfl) (Nat.le_of_ble_eq_true rfl) (s_76 (a1 := v5) hI2 (show 1 ≤ v5 ∧ v5 ≤ 16 from ⟨(q_909f086bb h_7), (ler hv5.2 rfl)⟩) (fun c_21 y_24 hI_22 hF_23 hy_24 h_25 => (bk_inl ?_)))))))))
              refine v_cv c_77_145 km_6_42 rfl rfl (Nat.le_of_ble_eq_true rfl) ⟨⟨rfl, rfl⟩, Nat.le_of_ble_eq_true rfl, rfl⟩ (Nat.le_of_ble_eq_true rfl) (Nat.le_of_ble_eq_true rfl) (s_58 (a1 := y_24) hI_22 (.inr ⟨rfl, rfl⟩) (show 0 ≤ y_24 ∧ y_24 ≤ 5 from ⟨hy_24.1, (q_4176b68dd h_25 hv5)⟩) (fun c_26 y_29 hI_27 hF_28 hy_29 => (bk_inl (q_pop c_77_148 rfl (q_aload_n c_77_149 rfl (v_cv c_77_150 km_6_46 rfl rfl (Nat.le_of_ble_eq_true rfl) ⟨⟨rfl, rfl⟩, Nat.le_of_ble_eq_true rfl, rfl⟩ (Nat.le_of_ble_eq_true rfl) (Nat.le_of_ble_eq_true rfl) (s_59 hI_27 (.inr ⟨rfl, rfl⟩) (fun c_30 hI_31 hF_32 => (bk_inl (v_iinc (v := v8 + 1) c_77_153 rfl (Nat.le_of_ble_eq_true rfl) rfl (q_goto (t := 35) c_77_156 rfl ?_)))))))))))
              refine Wp_ls [(0, .ref 9), (1, .ref 39), (2, vi a2), (3, vi a3), (4, vi a4), (5, vi v5), (6, vi v6), (7, vi v7), (8, vi (v8 + 1))] (lsub_cons rfl (lsub_cons rfl (lsub_cons rfl (lsub_cons rfl (lsub_cons rfl (lsub_cons rfl (lsub_cons rfl (lsub_cons rfl (lsub_cons rfl lsub_nil))))))))) ?_
              exact ih c_30 v5 v6 v7 (v8 + 1) hI_31 (fun a j hm => (hF_32 a j (fun h => hm (Or.inr (Or.inl h)))).trans ((hF_28 a j (qv_f005124bb hm)).trans ((hF_23 a j (fun h => hm (Or.inl h))).trans (hF a j hm)))) hv5 hv6 hv7 ⟨(rgp_l hv8.1 (of_decide_eq_true rfl)), (q_f2816912d h_1 ha4)⟩ (by omega)
            · refine v_if_le_f (t := 133) c_77_81 rfl ⟨of_decide_eq_true rfl, (Int.not_le.mp h_20), (ler hv7.2 rfl)⟩ (q_aload_n c_77_84 rfl (q_iload c_77_85 rfl (v_cv c_77_87 km_6_30 rfl rfl (Nat.le_of_ble_eq_true rfl) ⟨⟨rfl, rfl⟩, Nat.le_of_ble_eq_true rfl, rfl⟩ (Nat.le_of_ble_eq_true rfl) (Nat.le_of_ble_eq_true rfl) (s_76 (a1 := v7) hI2 (show 1 ≤ v7 ∧ v7 ≤ 16 from ⟨(q_6c49a4ad1 h_20), (ler hv7.2 rfl)⟩) (fun c_33 y_36 hI_34 hF_35 hy_36 h_37 => (bk_inl (q_istore c_77_90 (Nat.le_of_ble_eq_true rfl) (q_aload_n c_77_92 rfl (q_iload c_77_93 rfl ?_)))))))))
              refine v_cv c_77_95 km_6_30 rfl rfl (Nat.le_of_ble_eq_true rfl) ⟨⟨rfl, rfl⟩, Nat.le_of_ble_eq_true rfl, rfl⟩ (Nat.le_of_ble_eq_true rfl) (Nat.le_of_ble_eq_true rfl) (s_76 (a1 := v5) hI_34 (show 1 ≤ v5 ∧ v5 ≤ 16 from ⟨(q_909f086bb h_7), (ler hv5.2 rfl)⟩) (fun c_38 y_41 hI_39 hF_40 hy_41 h_42 => (bk_inl (q_istore c_77_98 (Nat.le_of_ble_eq_true rfl) (q_aload_n c_77_100 rfl (v_bip c_77_101 (of_decide_eq_true rfl) (v_cv c_77_103 km_6_30 rfl rfl (Nat.le_of_ble_eq_true rfl) ⟨⟨rfl, rfl⟩, Nat.le_of_ble_eq_true rfl, rfl⟩ (Nat.le_of_ble_eq_true rfl) (Nat.le_of_ble_eq_true rfl) (s_76 (a1 := 16) hI_39 (show 1 ≤ 16 ∧ 16 ≤ 16 from ⟨of_decide_eq_true rfl, of_decide_eq_true rfl⟩) (fun c_43 y_46 hI_44 hF_45 hy_46 h_47 => (bk_inl (q_iload_n c_77_106 rfl ?_)))))))))))
              by_cases h_48 : y_46 ≥ a3
              · refine v_ic_ge_t (t := 133) c_77_107 rfl ⟨(lel ha3.1 rfl), h_48, (ler hy_46.2 rfl)⟩ (q_iload c_77_133 rfl (v_if_le_f (t := 149) c_77_135 rfl ⟨of_decide_eq_true rfl, (q_9fda982ed h_7), (ler hv5.2 rfl)⟩ (q_aload_n c_77_138 rfl (q_aload_n c_77_139 rfl (q_iload c_77_140 rfl (v_cv c_77_142 km_6_30 rfl rfl (Nat.le_of_ble_eq_true rfl) ⟨⟨rfl, rfl⟩, Nat.le_of_ble_eq_true rfl, rfl⟩ (Nat.le_of_ble_eq_true rfl) (Nat.le_of_ble_eq_true rfl) (s_76 (a1 := v5) hI_44 (show 1 ≤ v5 ∧ v5 ≤ 16 from ⟨(q_909f086bb h_7), (ler hv5.2 rfl)⟩) (fun c_49 y_52 hI_50 hF_51 hy_52 h_53 => (bk_inl ?_)))))))))
                refine v_cv c_77_145 km_6_42 rfl rfl (Nat.le_of_ble_eq_true rfl) ⟨⟨rfl, rfl⟩, Nat.le_of_ble_eq_true rfl, rfl⟩ (Nat.le_of_ble_eq_true rfl) (Nat.le_of_ble_eq_true rfl) (s_58 (a1 := y_52) hI_50 (.inr ⟨rfl, rfl⟩) (show 0 ≤ y_52 ∧ y_52 ≤ 5 from ⟨hy_52.1, (q_4176b68dd h_53 hv5)⟩) (fun c_54 y_57 hI_55 hF_56 hy_57 => (bk_inl (q_pop c_77_148 rfl (q_aload_n c_77_149 rfl (v_cv c_77_150 km_6_46 rfl rfl (Nat.le_of_ble_eq_true rfl) ⟨⟨rfl, rfl⟩, Nat.le_of_ble_eq_true rfl, rfl⟩ (Nat.le_of_ble_eq_true rfl) (Nat.le_of_ble_eq_true rfl) (s_59 hI_55 (.inr ⟨rfl, rfl⟩) (fun c_58 hI_59 hF_60 => (bk_inl (v_iinc (v := v8 + 1) c_77_153 rfl (Nat.le_of_ble_eq_true rfl) rfl (q_goto (t := 35) c_77_156 rfl ?_)))))))))))
                refine Wp_ls [(0, .ref 9), (1, .ref 39), (2, vi a2), (3, vi a3), (4, vi a4), (5, vi v5), (6, vi v6), (7, vi v7), (8, vi (v8 + 1))] (lsub_cons rfl (lsub_cons rfl (lsub_cons rfl (lsub_cons rfl (lsub_cons rfl (lsub_cons rfl (lsub_cons rfl (lsub_cons rfl (lsub_cons rfl lsub_nil))))))))) ?_
                exact ih c_58 v5 v6 v7 (v8 + 1) hI_59 (fun a j hm => (hF_60 a j (fun h => hm (Or.inr (Or.inl h)))).trans ((hF_56 a j (qv_f005124bb hm)).trans ((hF_51 a j (fun h => hm (Or.inl h))).trans ((hF_45 a j (fun h => hm (Or.inl h))).trans ((hF_40 a j (fun h => hm (Or.inl h))).trans ((hF_35 a j (fun h => hm (Or.inl h))).trans (hF a j hm))))))) hv5 hv6 hv7 ⟨(rgp_l hv8.1 (of_decide_eq_true rfl)), (q_f2816912d h_1 ha4)⟩ (by omega)
              · refine v_ic_ge_f (t := 133) c_77_107 rfl ⟨(lel hy_46.1 rfl), (Int.not_le.mp h_48), (ler ha3.2 rfl)⟩ (q_aload_n c_77_110 rfl (q_iload c_77_111 rfl (q_iload c_77_113 rfl (q_iload c_77_115 rfl (q_iconst c_77_117 (v_iadd (v := y_41 + 1) c_77_118 rfl (q_iload c_77_119 rfl ?_)))))))
                have h_61 : 0 ≤ ((y_41 + 1) % v5) ∧ ((y_41 + 1) % v5) < v5 := rem_bd (by omega)
                refine v_irem (v := ((y_41 + 1) % v5)) c_77_121 (by omega) rfl (q_iload c_77_122 rfl (q_iconst c_77_124 (v_iadd (v := y_41 + 2) c_77_125 rfl (q_iload c_77_126 rfl ?_))))
                have h_62 : 0 ≤ ((y_41 + 2) % v5) ∧ ((y_41 + 2) % v5) < v5 := rem_bd (by omega)
                refine v_irem (v := ((y_41 + 2) % v5)) c_77_128 (by omega) rfl (v_cv c_77_129 km_6_38 rfl rfl (Nat.le_of_ble_eq_true rfl) ⟨⟨rfl, rfl⟩, Nat.le_of_ble_eq_true rfl, rfl⟩ (Nat.le_of_ble_eq_true rfl) (Nat.le_of_ble_eq_true rfl) (s_53 (a1 := y_36) (a2 := y_41) (a3 := ((y_41 + 1) % v5)) (a4 := ((y_41 + 2) % v5)) hI_44 (.inr ⟨rfl, rfl⟩) (show 0 ≤ y_36 ∧ y_36 ≤ 3 from ⟨hy_36.1, (q_5c3b51790 h_37 hv7)⟩) (show 0 ≤ y_41 ∧ y_41 ≤ 5 from ⟨hy_41.1, (q_4176b68dd h_42 hv5)⟩) (show 0 ≤ ((y_41 + 1) % v5) ∧ ((y_41 + 1) % v5) ≤ 5 from ⟨(q_c4fec1d75 h_61), (q_5fbbc52e7 h_61 hv5)⟩) (show 0 ≤ ((y_41 + 2) % v5) ∧ ((y_41 + 2) % v5) ≤ 5 from ⟨(q_c4fec1d75 h_62), (q_5fbbc52e7 h_62 hv5)⟩) (fun c_63 y_66 hI_64 hF_65 hy_66 => (bk_inl (q_pop c_77_132 rfl (q_iload c_77_133 rfl (v_if_le_f (t := 149) c_77_135 rfl ⟨of_decide_eq_true rfl, (q_9fda982ed h_7), (ler hv5.2 rfl)⟩ (q_aload_n c_77_138 rfl (q_aload_n c_77_139 rfl ?_)))))))))
                refine q_iload c_77_140 rfl (v_cv c_77_142 km_6_30 rfl rfl (Nat.le_of_ble_eq_true rfl) ⟨⟨rfl, rfl⟩, Nat.le_of_ble_eq_true rfl, rfl⟩ (Nat.le_of_ble_eq_true rfl) (Nat.le_of_ble_eq_true rfl) (s_76 (a1 := v5) hI_64 (show 1 ≤ v5 ∧ v5 ≤ 16 from ⟨(q_909f086bb h_7), (ler hv5.2 rfl)⟩) (fun c_67 y_70 hI_68 hF_69 hy_70 h_71 => (bk_inl (v_cv c_77_145 km_6_42 rfl rfl (Nat.le_of_ble_eq_true rfl) ⟨⟨rfl, rfl⟩, Nat.le_of_ble_eq_true rfl, rfl⟩ (Nat.le_of_ble_eq_true rfl) (Nat.le_of_ble_eq_true rfl) (s_58 (a1 := y_70) hI_68 (.inr ⟨rfl, rfl⟩) (show 0 ≤ y_70 ∧ y_70 ≤ 5 from ⟨hy_70.1, (q_4176b68dd h_71 hv5)⟩) (fun c_72 y_75 hI_73 hF_74 hy_75 => (bk_inl (q_pop c_77_148 rfl (q_aload_n c_77_149 rfl (v_cv c_77_150 km_6_46 rfl rfl (Nat.le_of_ble_eq_true rfl) ⟨⟨rfl, rfl⟩, Nat.le_of_ble_eq_true rfl, rfl⟩ (Nat.le_of_ble_eq_true rfl) (Nat.le_of_ble_eq_true rfl) (s_59 hI_73 (.inr ⟨rfl, rfl⟩) (fun c_76 hI_77 hF_78 => ?_)))))))))))))
                refine bk_inl (v_iinc (v := v8 + 1) c_77_153 rfl (Nat.le_of_ble_eq_true rfl) rfl (q_goto (t := 35) c_77_156 rfl (Wp_ls [(0, .ref 9), (1, .ref 39), (2, vi a2), (3, vi a3), (4, vi a4), (5, vi v5), (6, vi v6), (7, vi v7), (8, vi (v8 + 1))] (lsub_cons rfl (lsub_cons rfl (lsub_cons rfl (lsub_cons rfl (lsub_cons rfl (lsub_cons rfl (lsub_cons rfl (lsub_cons rfl (lsub_cons rfl lsub_nil))))))))) ?_)))
                exact ih c_76 v5 v6 v7 (v8 + 1) hI_77 (fun a j hm => (hF_78 a j (fun h => hm (Or.inr (Or.inl h)))).trans ((hF_74 a j (qv_f005124bb hm)).trans ((hF_69 a j (fun h => hm (Or.inl h))).trans ((hF_65 a j (fun h => hm (Or.inr (Or.inl h)))).trans ((hF_45 a j (fun h => hm (Or.inl h))).trans ((hF_40 a j (fun h => hm (Or.inl h))).trans ((hF_35 a j (fun h => hm (Or.inl h))).trans (hF a j hm)))))))) hv5 hv6 hv7 ⟨(rgp_l hv8.1 (of_decide_eq_true rfl)), (q_f2816912d h_1 ha4)⟩ (by omega)
        · refine v_if_le_f (t := 73) c_77_49 rfl ⟨of_decide_eq_true rfl, (Int.not_le.mp h_6), (ler hv6.2 rfl)⟩ (q_aload_n c_77_52 rfl (q_iload c_77_53 rfl (v_cv c_77_55 km_6_30 rfl rfl (Nat.le_of_ble_eq_true rfl) ⟨⟨rfl, rfl⟩, Nat.le_of_ble_eq_true rfl, rfl⟩ (Nat.le_of_ble_eq_true rfl) (Nat.le_of_ble_eq_true rfl) (s_76 (a1 := v6) hI2 (show 1 ≤ v6 ∧ v6 ≤ 16 from ⟨(q_6c49a4ad1 h_6), (ler hv6.2 rfl)⟩) (fun c_79 y_82 hI_80 hF_81 hy_82 h_83 => (bk_inl (q_istore c_77_58 (Nat.le_of_ble_eq_true rfl) (q_aload_n c_77_60 rfl (q_iload c_77_61 rfl ?_)))))))))
          refine q_aload_n c_77_63 rfl (q_iload c_77_64 rfl (v_cv c_77_66 km_6_30 rfl rfl (Nat.le_of_ble_eq_true rfl) ⟨⟨rfl, rfl⟩, Nat.le_of_ble_eq_true rfl, rfl⟩ (Nat.le_of_ble_eq_true rfl) (Nat.le_of_ble_eq_true rfl) (s_76 (a1 := v5) hI_80 (show 1 ≤ v5 ∧ v5 ≤ 16 from ⟨(q_6c49a4ad1 h_2), (ler hv5.2 rfl)⟩) (fun c_84 y_87 hI_85 hF_86 hy_87 h_88 => (bk_inl (v_cv c_77_69 km_6_34 rfl rfl (Nat.le_of_ble_eq_true rfl) ⟨⟨rfl, rfl⟩, Nat.le_of_ble_eq_true rfl, rfl⟩ (Nat.le_of_ble_eq_true rfl) (Nat.le_of_ble_eq_true rfl) (s_44 (a1 := y_82) (a2 := y_87) hI_85 (.inr ⟨rfl, rfl⟩) (show 0 ≤ y_82 ∧ y_82 ≤ 3 from ⟨hy_82.1, (q_5c3b51790 h_83 hv6)⟩) (show 0 ≤ y_87 ∧ y_87 ≤ 5 from ⟨hy_87.1, (q_4176b68dd h_88 hv5)⟩) (fun c_89 y_92 hI_90 hF_91 hy_92 => (bk_inl (q_pop c_77_72 rfl (q_iload c_77_73 rfl ?_)))))))))))
          refine q_iconst c_77_75 ?_
          by_cases h_93 : v5 < 3
          · refine v_ic_lt_t (t := 133) c_77_76 rfl ⟨(lel hv5.1 rfl), h_93, of_decide_eq_true rfl⟩ (q_iload c_77_133 rfl (v_if_le_f (t := 149) c_77_135 rfl ⟨of_decide_eq_true rfl, (q_ca88f5637 h_2), (ler hv5.2 rfl)⟩ (q_aload_n c_77_138 rfl (q_aload_n c_77_139 rfl (q_iload c_77_140 rfl (v_cv c_77_142 km_6_30 rfl rfl (Nat.le_of_ble_eq_true rfl) ⟨⟨rfl, rfl⟩, Nat.le_of_ble_eq_true rfl, rfl⟩ (Nat.le_of_ble_eq_true rfl) (Nat.le_of_ble_eq_true rfl) (s_76 (a1 := v5) hI_90 (show 1 ≤ v5 ∧ v5 ≤ 16 from ⟨(q_6c49a4ad1 h_2), (ler hv5.2 rfl)⟩) (fun c_94 y_97 hI_95 hF_96 hy_97 h_98 => (bk_inl ?_)))))))))
            refine v_cv c_77_145 km_6_42 rfl rfl (Nat.le_of_ble_eq_true rfl) ⟨⟨rfl, rfl⟩, Nat.le_of_ble_eq_true rfl, rfl⟩ (Nat.le_of_ble_eq_true rfl) (Nat.le_of_ble_eq_true rfl) (s_58 (a1 := y_97) hI_95 (.inr ⟨rfl, rfl⟩) (show 0 ≤ y_97 ∧ y_97 ≤ 5 from ⟨hy_97.1, (q_47e876c22 h_93 h_98)⟩) (fun c_99 y_102 hI_100 hF_101 hy_102 => (bk_inl (q_pop c_77_148 rfl (q_aload_n c_77_149 rfl (v_cv c_77_150 km_6_46 rfl rfl (Nat.le_of_ble_eq_true rfl) ⟨⟨rfl, rfl⟩, Nat.le_of_ble_eq_true rfl, rfl⟩ (Nat.le_of_ble_eq_true rfl) (Nat.le_of_ble_eq_true rfl) (s_59 hI_100 (.inr ⟨rfl, rfl⟩) (fun c_103 hI_104 hF_105 => (bk_inl (v_iinc (v := v8 + 1) c_77_153 rfl (Nat.le_of_ble_eq_true rfl) rfl (q_goto (t := 35) c_77_156 rfl ?_)))))))))))
            refine Wp_ls [(0, .ref 9), (1, .ref 39), (2, vi a2), (3, vi a3), (4, vi a4), (5, vi v5), (6, vi v6), (7, vi v7), (8, vi (v8 + 1))] (lsub_cons rfl (lsub_cons rfl (lsub_cons rfl (lsub_cons rfl (lsub_cons rfl (lsub_cons rfl (lsub_cons rfl (lsub_cons rfl (lsub_cons rfl lsub_nil))))))))) ?_
            exact ih c_103 v5 v6 v7 (v8 + 1) hI_104 (fun a j hm => (hF_105 a j (fun h => hm (Or.inr (Or.inl h)))).trans ((hF_101 a j (qv_f005124bb hm)).trans ((hF_96 a j (fun h => hm (Or.inl h))).trans ((hF_91 a j (fun h => hm (Or.inr (Or.inl h)))).trans ((hF_86 a j (fun h => hm (Or.inl h))).trans ((hF_81 a j (fun h => hm (Or.inl h))).trans (hF a j hm))))))) hv5 hv6 hv7 ⟨(rgp_l hv8.1 (of_decide_eq_true rfl)), (q_f2816912d h_1 ha4)⟩ (by omega)
          · refine v_ic_lt_f (t := 133) c_77_76 rfl ⟨of_decide_eq_true rfl, (Int.not_lt.mp h_93), (ler hv5.2 rfl)⟩ (q_iload c_77_79 rfl ?_)
            by_cases h_106 : v7 ≤ 0
            · refine v_if_le_t (t := 133) c_77_81 rfl ⟨(lel hv7.1 rfl), h_106, of_decide_eq_true rfl⟩ (q_iload c_77_133 rfl (v_if_le_f (t := 149) c_77_135 rfl ⟨of_decide_eq_true rfl, (q_9fda982ed h_93), (ler hv5.2 rfl)⟩ (q_aload_n c_77_138 rfl (q_aload_n c_77_139 rfl (q_iload c_77_140 rfl (v_cv c_77_142 km_6_30 rfl rfl (Nat.le_of_ble_eq_true rfl) ⟨⟨rfl, rfl⟩, Nat.le_of_ble_eq_true rfl, rfl⟩ (Nat.le_of_ble_eq_true rfl) (Nat.le_of_ble_eq_true rfl) (s_76 (a1 := v5) hI_90 (show 1 ≤ v5 ∧ v5 ≤ 16 from ⟨(q_909f086bb h_93), (ler hv5.2 rfl)⟩) (fun c_107 y_110 hI_108 hF_109 hy_110 h_111 => (bk_inl ?_)))))))))
              refine v_cv c_77_145 km_6_42 rfl rfl (Nat.le_of_ble_eq_true rfl) ⟨⟨rfl, rfl⟩, Nat.le_of_ble_eq_true rfl, rfl⟩ (Nat.le_of_ble_eq_true rfl) (Nat.le_of_ble_eq_true rfl) (s_58 (a1 := y_110) hI_108 (.inr ⟨rfl, rfl⟩) (show 0 ≤ y_110 ∧ y_110 ≤ 5 from ⟨hy_110.1, (q_4176b68dd h_111 hv5)⟩) (fun c_112 y_115 hI_113 hF_114 hy_115 => (bk_inl (q_pop c_77_148 rfl (q_aload_n c_77_149 rfl (v_cv c_77_150 km_6_46 rfl rfl (Nat.le_of_ble_eq_true rfl) ⟨⟨rfl, rfl⟩, Nat.le_of_ble_eq_true rfl, rfl⟩ (Nat.le_of_ble_eq_true rfl) (Nat.le_of_ble_eq_true rfl) (s_59 hI_113 (.inr ⟨rfl, rfl⟩) (fun c_116 hI_117 hF_118 => (bk_inl (v_iinc (v := v8 + 1) c_77_153 rfl (Nat.le_of_ble_eq_true rfl) rfl (q_goto (t := 35) c_77_156 rfl ?_)))))))))))
              refine Wp_ls [(0, .ref 9), (1, .ref 39), (2, vi a2), (3, vi a3), (4, vi a4), (5, vi v5), (6, vi v6), (7, vi v7), (8, vi (v8 + 1))] (lsub_cons rfl (lsub_cons rfl (lsub_cons rfl (lsub_cons rfl (lsub_cons rfl (lsub_cons rfl (lsub_cons rfl (lsub_cons rfl (lsub_cons rfl lsub_nil))))))))) ?_
              exact ih c_116 v5 v6 v7 (v8 + 1) hI_117 (fun a j hm => (hF_118 a j (fun h => hm (Or.inr (Or.inl h)))).trans ((hF_114 a j (qv_f005124bb hm)).trans ((hF_109 a j (fun h => hm (Or.inl h))).trans ((hF_91 a j (fun h => hm (Or.inr (Or.inl h)))).trans ((hF_86 a j (fun h => hm (Or.inl h))).trans ((hF_81 a j (fun h => hm (Or.inl h))).trans (hF a j hm))))))) hv5 hv6 hv7 ⟨(rgp_l hv8.1 (of_decide_eq_true rfl)), (q_f2816912d h_1 ha4)⟩ (by omega)
            · refine v_if_le_f (t := 133) c_77_81 rfl ⟨of_decide_eq_true rfl, (Int.not_le.mp h_106), (ler hv7.2 rfl)⟩ (q_aload_n c_77_84 rfl (q_iload c_77_85 rfl (v_cv c_77_87 km_6_30 rfl rfl (Nat.le_of_ble_eq_true rfl) ⟨⟨rfl, rfl⟩, Nat.le_of_ble_eq_true rfl, rfl⟩ (Nat.le_of_ble_eq_true rfl) (Nat.le_of_ble_eq_true rfl) (s_76 (a1 := v7) hI_90 (show 1 ≤ v7 ∧ v7 ≤ 16 from ⟨(q_6c49a4ad1 h_106), (ler hv7.2 rfl)⟩) (fun c_119 y_122 hI_120 hF_121 hy_122 h_123 => (bk_inl (q_istore c_77_90 (Nat.le_of_ble_eq_true rfl) (q_aload_n c_77_92 rfl (q_iload c_77_93 rfl ?_)))))))))
              refine v_cv c_77_95 km_6_30 rfl rfl (Nat.le_of_ble_eq_true rfl) ⟨⟨rfl, rfl⟩, Nat.le_of_ble_eq_true rfl, rfl⟩ (Nat.le_of_ble_eq_true rfl) (Nat.le_of_ble_eq_true rfl) (s_76 (a1 := v5) hI_120 (show 1 ≤ v5 ∧ v5 ≤ 16 from ⟨(q_909f086bb h_93), (ler hv5.2 rfl)⟩) (fun c_124 y_127 hI_125 hF_126 hy_127 h_128 => (bk_inl (q_istore c_77_98 (Nat.le_of_ble_eq_true rfl) (q_aload_n c_77_100 rfl (v_bip c_77_101 (of_decide_eq_true rfl) (v_cv c_77_103 km_6_30 rfl rfl (Nat.le_of_ble_eq_true rfl) ⟨⟨rfl, rfl⟩, Nat.le_of_ble_eq_true rfl, rfl⟩ (Nat.le_of_ble_eq_true rfl) (Nat.le_of_ble_eq_true rfl) (s_76 (a1 := 16) hI_125 (show 1 ≤ 16 ∧ 16 ≤ 16 from ⟨of_decide_eq_true rfl, of_decide_eq_true rfl⟩) (fun c_129 y_132 hI_130 hF_131 hy_132 h_133 => (bk_inl (q_iload_n c_77_106 rfl ?_)))))))))))
              by_cases h_134 : y_132 ≥ a3
              · refine v_ic_ge_t (t := 133) c_77_107 rfl ⟨(lel ha3.1 rfl), h_134, (ler hy_132.2 rfl)⟩ (q_iload c_77_133 rfl (v_if_le_f (t := 149) c_77_135 rfl ⟨of_decide_eq_true rfl, (q_9fda982ed h_93), (ler hv5.2 rfl)⟩ (q_aload_n c_77_138 rfl (q_aload_n c_77_139 rfl (q_iload c_77_140 rfl (v_cv c_77_142 km_6_30 rfl rfl (Nat.le_of_ble_eq_true rfl) ⟨⟨rfl, rfl⟩, Nat.le_of_ble_eq_true rfl, rfl⟩ (Nat.le_of_ble_eq_true rfl) (Nat.le_of_ble_eq_true rfl) (s_76 (a1 := v5) hI_130 (show 1 ≤ v5 ∧ v5 ≤ 16 from ⟨(q_909f086bb h_93), (ler hv5.2 rfl)⟩) (fun c_135 y_138 hI_136 hF_137 hy_138 h_139 => (bk_inl ?_)))))))))
                refine v_cv c_77_145 km_6_42 rfl rfl (Nat.le_of_ble_eq_true rfl) ⟨⟨rfl, rfl⟩, Nat.le_of_ble_eq_true rfl, rfl⟩ (Nat.le_of_ble_eq_true rfl) (Nat.le_of_ble_eq_true rfl) (s_58 (a1 := y_138) hI_136 (.inr ⟨rfl, rfl⟩) (show 0 ≤ y_138 ∧ y_138 ≤ 5 from ⟨hy_138.1, (q_4176b68dd h_139 hv5)⟩) (fun c_140 y_143 hI_141 hF_142 hy_143 => (bk_inl (q_pop c_77_148 rfl (q_aload_n c_77_149 rfl (v_cv c_77_150 km_6_46 rfl rfl (Nat.le_of_ble_eq_true rfl) ⟨⟨rfl, rfl⟩, Nat.le_of_ble_eq_true rfl, rfl⟩ (Nat.le_of_ble_eq_true rfl) (Nat.le_of_ble_eq_true rfl) (s_59 hI_141 (.inr ⟨rfl, rfl⟩) (fun c_144 hI_145 hF_146 => (bk_inl (v_iinc (v := v8 + 1) c_77_153 rfl (Nat.le_of_ble_eq_true rfl) rfl (q_goto (t := 35) c_77_156 rfl ?_)))))))))))
                refine Wp_ls [(0, .ref 9), (1, .ref 39), (2, vi a2), (3, vi a3), (4, vi a4), (5, vi v5), (6, vi v6), (7, vi v7), (8, vi (v8 + 1))] (lsub_cons rfl (lsub_cons rfl (lsub_cons rfl (lsub_cons rfl (lsub_cons rfl (lsub_cons rfl (lsub_cons rfl (lsub_cons rfl (lsub_cons rfl lsub_nil))))))))) ?_
                exact ih c_144 v5 v6 v7 (v8 + 1) hI_145 (fun a j hm => (hF_146 a j (fun h => hm (Or.inr (Or.inl h)))).trans ((hF_142 a j (qv_f005124bb hm)).trans ((hF_137 a j (fun h => hm (Or.inl h))).trans ((hF_131 a j (fun h => hm (Or.inl h))).trans ((hF_126 a j (fun h => hm (Or.inl h))).trans ((hF_121 a j (fun h => hm (Or.inl h))).trans ((hF_91 a j (fun h => hm (Or.inr (Or.inl h)))).trans ((hF_86 a j (fun h => hm (Or.inl h))).trans ((hF_81 a j (fun h => hm (Or.inl h))).trans (hF a j hm)))))))))) hv5 hv6 hv7 ⟨(rgp_l hv8.1 (of_decide_eq_true rfl)), (q_f2816912d h_1 ha4)⟩ (by omega)
              · refine v_ic_ge_f (t := 133) c_77_107 rfl ⟨(lel hy_132.1 rfl), (Int.not_le.mp h_134), (ler ha3.2 rfl)⟩ (q_aload_n c_77_110 rfl (q_iload c_77_111 rfl (q_iload c_77_113 rfl (q_iload c_77_115 rfl (q_iconst c_77_117 (v_iadd (v := y_127 + 1) c_77_118 rfl (q_iload c_77_119 rfl ?_)))))))
                have h_147 : 0 ≤ ((y_127 + 1) % v5) ∧ ((y_127 + 1) % v5) < v5 := rem_bd (by omega)
                refine v_irem (v := ((y_127 + 1) % v5)) c_77_121 (by omega) rfl (q_iload c_77_122 rfl (q_iconst c_77_124 (v_iadd (v := y_127 + 2) c_77_125 rfl (q_iload c_77_126 rfl ?_))))
                have h_148 : 0 ≤ ((y_127 + 2) % v5) ∧ ((y_127 + 2) % v5) < v5 := rem_bd (by omega)
                refine v_irem (v := ((y_127 + 2) % v5)) c_77_128 (by omega) rfl (v_cv c_77_129 km_6_38 rfl rfl (Nat.le_of_ble_eq_true rfl) ⟨⟨rfl, rfl⟩, Nat.le_of_ble_eq_true rfl, rfl⟩ (Nat.le_of_ble_eq_true rfl) (Nat.le_of_ble_eq_true rfl) (s_53 (a1 := y_122) (a2 := y_127) (a3 := ((y_127 + 1) % v5)) (a4 := ((y_127 + 2) % v5)) hI_130 (.inr ⟨rfl, rfl⟩) (show 0 ≤ y_122 ∧ y_122 ≤ 3 from ⟨hy_122.1, (q_5c3b51790 h_123 hv7)⟩) (show 0 ≤ y_127 ∧ y_127 ≤ 5 from ⟨hy_127.1, (q_4176b68dd h_128 hv5)⟩) (show 0 ≤ ((y_127 + 1) % v5) ∧ ((y_127 + 1) % v5) ≤ 5 from ⟨(q_c4fec1d75 h_147), (q_5fbbc52e7 h_147 hv5)⟩) (show 0 ≤ ((y_127 + 2) % v5) ∧ ((y_127 + 2) % v5) ≤ 5 from ⟨(q_c4fec1d75 h_148), (q_5fbbc52e7 h_148 hv5)⟩) (fun c_149 y_152 hI_150 hF_151 hy_152 => (bk_inl (q_pop c_77_132 rfl (q_iload c_77_133 rfl (v_if_le_f (t := 149) c_77_135 rfl ⟨of_decide_eq_true rfl, (q_9fda982ed h_93), (ler hv5.2 rfl)⟩ (q_aload_n c_77_138 rfl (q_aload_n c_77_139 rfl ?_)))))))))
                refine q_iload c_77_140 rfl (v_cv c_77_142 km_6_30 rfl rfl (Nat.le_of_ble_eq_true rfl) ⟨⟨rfl, rfl⟩, Nat.le_of_ble_eq_true rfl, rfl⟩ (Nat.le_of_ble_eq_true rfl) (Nat.le_of_ble_eq_true rfl) (s_76 (a1 := v5) hI_150 (show 1 ≤ v5 ∧ v5 ≤ 16 from ⟨(q_909f086bb h_93), (ler hv5.2 rfl)⟩) (fun c_153 y_156 hI_154 hF_155 hy_156 h_157 => (bk_inl (v_cv c_77_145 km_6_42 rfl rfl (Nat.le_of_ble_eq_true rfl) ⟨⟨rfl, rfl⟩, Nat.le_of_ble_eq_true rfl, rfl⟩ (Nat.le_of_ble_eq_true rfl) (Nat.le_of_ble_eq_true rfl) (s_58 (a1 := y_156) hI_154 (.inr ⟨rfl, rfl⟩) (show 0 ≤ y_156 ∧ y_156 ≤ 5 from ⟨hy_156.1, (q_4176b68dd h_157 hv5)⟩) (fun c_158 y_161 hI_159 hF_160 hy_161 => (bk_inl (q_pop c_77_148 rfl (q_aload_n c_77_149 rfl (v_cv c_77_150 km_6_46 rfl rfl (Nat.le_of_ble_eq_true rfl) ⟨⟨rfl, rfl⟩, Nat.le_of_ble_eq_true rfl, rfl⟩ (Nat.le_of_ble_eq_true rfl) (Nat.le_of_ble_eq_true rfl) (s_59 hI_159 (.inr ⟨rfl, rfl⟩) (fun c_162 hI_163 hF_164 => ?_)))))))))))))
                refine bk_inl (v_iinc (v := v8 + 1) c_77_153 rfl (Nat.le_of_ble_eq_true rfl) rfl (q_goto (t := 35) c_77_156 rfl (Wp_ls [(0, .ref 9), (1, .ref 39), (2, vi a2), (3, vi a3), (4, vi a4), (5, vi v5), (6, vi v6), (7, vi v7), (8, vi (v8 + 1))] (lsub_cons rfl (lsub_cons rfl (lsub_cons rfl (lsub_cons rfl (lsub_cons rfl (lsub_cons rfl (lsub_cons rfl (lsub_cons rfl (lsub_cons rfl lsub_nil))))))))) ?_)))
                exact ih c_162 v5 v6 v7 (v8 + 1) hI_163 (fun a j hm => (hF_164 a j (fun h => hm (Or.inr (Or.inl h)))).trans ((hF_160 a j (qv_f005124bb hm)).trans ((hF_155 a j (fun h => hm (Or.inl h))).trans ((hF_151 a j (fun h => hm (Or.inr (Or.inl h)))).trans ((hF_131 a j (fun h => hm (Or.inl h))).trans ((hF_126 a j (fun h => hm (Or.inl h))).trans ((hF_121 a j (fun h => hm (Or.inl h))).trans ((hF_91 a j (fun h => hm (Or.inr (Or.inl h)))).trans ((hF_86 a j (fun h => hm (Or.inl h))).trans ((hF_81 a j (fun h => hm (Or.inl h))).trans (hF a j hm))))))))))) hv5 hv6 hv7 ⟨(rgp_l hv8.1 (of_decide_eq_true rfl)), (q_f2816912d h_1 ha4)⟩ (by omega)
set_option maxRecDepth 100000 in
set_option maxHeartbeats 4000000 in
theorem s_77 {sc : List Int32} {d P Q : Nat} {c : ME} {a2 : Int} {a3 : Int} {a4 : Int} {Z : AR → Prop} (hI : Iv 0 (-1) P Q c) (ha2 : (-2147483648) ≤ a2 ∧ a2 ≤ 2147483647) (ha3 : 0 ≤ a3 ∧ a3 ≤ 16) (ha4 : 1 ≤ a4 ∧ a4 ≤ 48) (K : ∀ (c2 : ME), Iv 0 (-1) P Q c2 → (∀ (a : Nat) (j : Int), ¬ ((a = 9 ∧ j = 0) ∨ a = 40 ∨ a = (P + 10) ∨ a = (P + 11)) → c2 a j = c a j) → Z (.inl (none), Wd P Q P P c2, 0, 0)) : Wp sc (d + 12) 77 0 [(0, .ref 9), (1, .ref 39), (2, vi a2), (3, vi a3), (4, vi a4)] [] (Wd P Q P P c) 0 0 Z := by
  have hP := iv_P hI
  have hQ := iv_Q hI
  refine q_aload_n c_77_0 rfl (q_iload_n c_77_1 rfl (v_pi (z := 0) c_77_2 kf_6_7 rfl (Nat.le_of_ble_eq_true rfl) rfl rfl rfl (of_decide_eq_true rfl) (q_aload_n c_77_5 rfl (v_gr (t := P) c_77_6 kf_6_13 rfl (Nat.le_of_ble_eq_true rfl) rfl ?_))))
  have h_165 := ir_p0_0 hI hP
  refine v_gi (z := 0) (v := c P 0) c_77_9 kf_6_19 (ck_p0 hP) (a68z hP) rfl rfl (up_c (np0 hP rfl)) (q_istore c_77_12 (Nat.le_of_ble_eq_true rfl) (q_aload_n c_77_14 rfl (v_gr (t := P) c_77_15 kf_6_13 rfl (Nat.le_of_ble_eq_true rfl) rfl ?_)))
  have h_166 := ir_p0_1 hI hP
  refine v_gi (z := 1) (v := c P 1) c_77_18 kf_6_24 (ck_p0 hP) (a68z hP) rfl rfl (up_c (np0 hP rfl)) (q_istore c_77_21 (Nat.le_of_ble_eq_true rfl) (q_aload_n c_77_23 rfl (v_gr (t := P) c_77_24 kf_6_13 rfl (Nat.le_of_ble_eq_true rfl) rfl ?_)))
  have h_167 := ir_p0_2 hI hP
  refine v_gi (z := 2) (v := c P 2) c_77_27 kf_6_27 (ck_p0 hP) (a68z hP) rfl rfl (up_c (np0 hP rfl)) (q_istore c_77_30 (Nat.le_of_ble_eq_true rfl) (q_iconst c_77_32 (q_istore c_77_33 (Nat.le_of_ble_eq_true rfl) ?_)))
  have hI_168 := iw_9_0 (v := a2) hI ⟨ha2.1, ha2.2⟩
  refine Wp_ls [(0, .ref 9), (1, .ref 39), (2, vi a2), (3, vi a3), (4, vi a4), (5, vi (c P 0)), (6, vi (c P 1)), (7, vi (c P 2)), (8, vi 0)] (lsub_cons rfl (lsub_cons rfl (lsub_cons rfl (lsub_cons rfl (lsub_cons rfl (lsub_cons rfl (lsub_cons rfl (lsub_cons rfl (lsub_cons rfl lsub_nil))))))))) ?_
  exact (s_77_l (sc := sc) (d := d) hI ha2 ha3 ha4 K 100) (up c 9 0 a2) (c P 0) (c P 1) (c P 2) 0 hI_168 (fun a j hm => up_b (Decidable.or_iff_not_imp_left.mpr (fun h1 h2 => hm (Or.inl ⟨Decidable.not_not.mp h1, h2⟩)))) h_165 h_166 h_167 ⟨of_decide_eq_true rfl, of_decide_eq_true rfl⟩ (by omega)
