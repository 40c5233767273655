/-! ===== contracts 5 ===== -/
theorem q_5f45bd9da {x0 x1 x2 x3 x4 : Int} (f0 : 0 ≤ x0 ∧ x0 ≤ 99999) (f1 : x1 + x2 + x3 + x4 ≤ 9999) : x0 + x2 + x3 + x4 + x1 ≤ 2147483647 := by omega
theorem q_62ebcb2f9 {x0 x1 x2 x3 x4 : Int} (f0 : 0 ≤ x0 ∧ x0 ≤ 9999) (f1 : 0 ≤ x1 ∧ x1 ≤ 9999) (f2 : 0 ≤ x2 ∧ x2 ≤ 9999) (f3 : 0 ≤ x3 ∧ x3 ≤ 9999) (f4 : 0 ≤ x4 ∧ x4 ≤ 99999) : (-2147483648) ≤ x4 + x2 + x3 + x0 + x1 := by omega
theorem c_54_31 : mLk 54 31 = some (.iload 5, 2) := rfl
theorem c_54_33 : mLk 54 33 = some (.iconst 4, 1) := rfl
theorem c_54_34 : mLk 54 34 = some (.if_icmp .ge 40, 3) := rfl
theorem c_54_37 : mLk 54 37 = some (.iload 4, 2) := rfl
theorem c_54_39 : mLk 54 39 = some (.aload_n 0, 1) := rfl
theorem c_54_40 : mLk 54 40 = some (.iload_n 1, 1) := rfl
theorem c_54_41 : mLk 54 41 = some (.iload 5, 2) := rfl
theorem c_54_43 : mLk 54 43 = some (.invokevirtual 34, 3) := rfl
theorem c_54_46 : mLk 54 46 = some (.invokestatic 93, 3) := rfl
theorem c_54_49 : mLk 54 49 = some (.istore 6, 2) := rfl
theorem c_54_51 : mLk 54 51 = some (.aload_n 0, 1) := rfl
theorem c_54_52 : mLk 54 52 = some (.iload_n 1, 1) := rfl
theorem c_54_53 : mLk 54 53 = some (.iload_n 2, 1) := rfl
theorem c_54_54 : mLk 54 54 = some (.iload 5, 2) := rfl
theorem c_54_56 : mLk 54 56 = some (.iload 6, 2) := rfl
theorem c_54_58 : mLk 54 58 = some (.invokevirtual 85, 3) := rfl
theorem c_54_61 : mLk 54 61 = some (.iload 4, 2) := rfl
theorem c_54_63 : mLk 54 63 = some (.iload 6, 2) := rfl
theorem c_54_65 : mLk 54 65 = some (.isub, 1) := rfl
theorem c_54_66 : mLk 54 66 = some (.istore 4, 2) := rfl
theorem c_54_68 : mLk 54 68 = some (.iinc 5 1, 3) := rfl
theorem c_54_71 : mLk 54 71 = some (.goto (-40), 3) := rfl
theorem c_54_74 : mLk 54 74 = some (.aload_n 0, 1) := rfl
theorem c_54_75 : mLk 54 75 = some (.iload_n 1, 1) := rfl
theorem c_54_76 : mLk 54 76 = some (.invokevirtual 38, 3) := rfl
theorem c_54_79 : mLk 54 79 = some (.ifCond .ne 13, 3) := rfl
theorem c_54_92 : mLk 54 92 = some (.iconst 1, 1) := rfl
theorem c_54_93 : mLk 54 93 = some (.ireturn, 1) := rfl
theorem c_54_82 : mLk 54 82 = some (.aload_n 0, 1) := rfl
theorem c_54_83 : mLk 54 83 = some (.getfield 11, 3) := rfl
theorem c_54_86 : mLk 54 86 = some (.bipush 24, 2) := rfl
theorem c_54_88 : mLk 54 88 = some (.iload_n 1, 1) := rfl
theorem c_54_89 : mLk 54 89 = some (.iadd, 1) := rfl
theorem c_54_90 : mLk 54 90 = some (.iconst 0, 1) := rfl
theorem c_54_91 : mLk 54 91 = some (.iastore, 1) := rfl
theorem c_54_0 : mLk 54 0 = some (.iload_n 1, 1) := rfl
theorem c_54_1 : mLk 54 1 = some (.iload_n 2, 1) := rfl
theorem c_54_2 : mLk 54 2 = some (.if_icmp .eq 21, 3) := rfl
theorem c_54_23 : mLk 54 23 = some (.iconst 0, 1) := rfl
theorem c_54_24 : mLk 54 24 = some (.ireturn, 1) := rfl
theorem c_54_5 : mLk 54 5 = some (.aload_n 0, 1) := rfl
theorem c_54_6 : mLk 54 6 = some (.iload_n 1, 1) := rfl
theorem c_54_7 : mLk 54 7 = some (.invokevirtual 38, 3) := rfl
theorem c_54_10 : mLk 54 10 = some (.iload_n 3, 1) := rfl
theorem c_54_11 : mLk 54 11 = some (.if_icmp .lt 12, 3) := rfl
theorem c_54_14 : mLk 54 14 = some (.aload_n 0, 1) := rfl
theorem c_54_15 : mLk 54 15 = some (.iload_n 2, 1) := rfl
theorem c_54_16 : mLk 54 16 = some (.iload_n 3, 1) := rfl
theorem c_54_17 : mLk 54 17 = some (.invokevirtual 81, 3) := rfl
theorem c_50_6 : mLk 50 6 = some (.iadd, 1) := rfl
theorem c_54_20 : mLk 54 20 = some (.ifCond .ne 5, 3) := rfl
theorem c_54_25 : mLk 54 25 = some (.iload_n 3, 1) := rfl
theorem c_54_26 : mLk 54 26 = some (.istore 4, 2) := rfl
theorem c_54_28 : mLk 54 28 = some (.iconst 0, 1) := rfl
theorem c_54_29 : mLk 54 29 = some (.istore 5, 2) := rfl
set_option maxRecDepth 100000 in
set_option maxHeartbeats 4000000 in
theorem s_54_3 {sc : List Int32} {d P Q sh s : Nat} {c : ME} {x0 x1 x2 x3 u0 u1 u2 u3 : Int} {a1 : Int} {a2 : Int} {a4 : Int} {Z : AR → Prop} (hI : Iv s (-1) P Q c) (hs : (sh = 37 ∧ s = 38) ∨ (sh = 39 ∧ s = 40)) (ha1 : 0 ≤ a1 ∧ a1 ≤ 5) (ha2 : 0 ≤ a2 ∧ a2 ≤ 5) (ha4 : 0 ≤ a4 ∧ a4 ≤ 99999) (hq0 : (a1 < a2) ∨ (a1 > a2)) (hq1 : (a4 + u0 + u1 + u2 + u3 ≤ 9999)) (hq2 : (x0 + x1 + x2 + x3 ≤ 9999)) (hq3 : ∀ j : Int, rs s j → ¬ j = 4 * a1 → ¬ j = 4 * a2 → c s j + c s (j + 1) + c s (j + 2) + c s (j + 3) ≤ 9999) (hv0 : c s (4 * a1) = x0) (hv1 : c s (4 * a1 + 1) = x1) (hv2 : c s (4 * a1 + 2) = x2) (hv3 : c s (4 * a1 + 3) = x3) (hv4 : c s (4 * a2) = u0) (hv5 : c s (4 * a2 + 1) = u1) (hv6 : c s (4 * a2 + 2) = u2) (hv7 : c s (4 * a2 + 3) = u3) (K : ∀ (c2 : ME) (y : Int), Iv 0 (-1) P Q c2 → (∀ (a : Nat) (j : Int), ¬ (a = s) → c2 a j = c a j) → 0 ≤ y ∧ y ≤ 1 → Z (.inl (some (vi y)), Wd P Q P P c2, 0, 0)) : Wp sc (d + 9) 54 31 [(0, .ref sh), (1, vi a1), (2, vi a2), (4, vi a4), (5, vi 3)] [] (Wd P Q P P c) 0 0 Z := by
  have hP := iv_P hI
  have hQ := iv_Q hI
  have h_1 := ir_s_g hI hs (j := 4 * a1) ((q_9f1d5ffdc ha1))
  have h_2 := ir_s_g hI hs (j := 4 * a1 + 1) ((q_0a2ee6f8f ha1))
  have h_3 := ir_s_g hI hs (j := 4 * a1 + 2) ((q_e07a293a2 ha1))
  have h_4 := ir_s_g hI hs (j := 4 * a1 + 3) ((q_d09cb0b73 ha1))
  have h_5 := ir_s_g hI hs (j := 4 * a2) ((q_9f1d5ffdc ha2))
  have h_6 := ir_s_g hI hs (j := 4 * a2 + 1) ((q_0a2ee6f8f ha2))
  have h_7 := ir_s_g hI hs (j := 4 * a2 + 2) ((q_e07a293a2 ha2))
  have h_8 := ir_s_g hI hs (j := 4 * a2 + 3) ((q_d09cb0b73 ha2))
  have hqo := hq3
  refine q_iload c_54_31 rfl (q_iconst c_54_33 (v_ic_ge_f (t := 74) c_54_34 rfl (of_decide_eq_true rfl) (q_iload c_54_37 rfl (q_aload_n c_54_39 rfl (q_iload_n c_54_40 rfl (q_iload c_54_41 rfl (v_cv c_54_43 km_4_34 rfl (ck_sh hs) (by omega) ⟨⟨rfl, rfl⟩, of_decide_eq_true rfl, rfl⟩ (Nat.le_of_ble_eq_true rfl) (Nat.le_of_ble_eq_true rfl) (s_45 (v1 := x3) (r := x3) (a1 := a1) (a2 := 3) hI hs (show 0 ≤ a1 ∧ a1 ≤ 5 from ha1) (show 0 ≤ 3 ∧ 3 ≤ 3 from ⟨of_decide_eq_true rfl, of_decide_eq_true rfl⟩) ((hv3)) (by omega) ?_))))))))
  refine bk_inl (v_minp c_54_46 rfl (by omega) (Nat.le_of_ble_eq_true rfl) ⟨by omega, by omega, by omega, by omega⟩ (fun y_9 hy_9 => (q_istore c_54_49 (Nat.le_of_ble_eq_true rfl) (q_aload_n c_54_51 rfl (q_iload_n c_54_52 rfl (q_iload_n c_54_53 rfl (q_iload c_54_54 rfl (q_iload c_54_56 rfl ?_))))))))
  have h_10 : c s (4 * a1 + 3) = x3 := (hv3)
  have h_11 : c s (4 * a2 + 3) = u3 := (hv7)
  refine v_cv c_54_58 km_4_85 rfl (ck_sh hs) (by omega) ⟨⟨rfl, rfl⟩, of_decide_eq_true rfl, rfl⟩ (Nat.le_of_ble_eq_true rfl) (Nat.le_of_ble_eq_true rfl) (s_52 (a1 := a1) (a2 := a2) (a3 := 3) (a4 := y_9) hI hs (show 0 ≤ a1 ∧ a1 ≤ 5 from ha1) (show 0 ≤ a2 ∧ a2 ≤ 5 from ha2) (show 0 ≤ 3 ∧ 3 ≤ 3 from ⟨of_decide_eq_true rfl, of_decide_eq_true rfl⟩) (show 0 ≤ y_9 ∧ y_9 ≤ 9999 from ⟨by first | (clear ha1 ha2 ha4 hq1 hq2 h_1 hv0 h_2 hv1 h_3 hv2 h_4 hv3 h_5 hv4 h_6 hv5 h_7 hv6 h_8 hv7 hq0; omega) | omega, by first | (clear ha1 ha2 ha4 hq1 hq2 h_1 hv0 h_2 hv1 h_3 hv2 h_5 hv4 h_6 hv5 h_7 hv6 h_8 hv7 hq0; omega) | omega⟩) (by omega) (by first | (clear ha1 ha2 ha4 hq1 hq2 h_1 hv0 h_2 hv1 h_3 hv2 h_4 hv3 h_5 hv4 h_6 hv5 h_7 hv6 h_8 hv7 hq0; omega) | omega) (by first | (clear ha1 ha2 ha4 hq2 h_1 hv0 h_2 hv1 h_3 hv2 h_4 hv3 h_8 hv7 hq0; omega) | omega) (fun c_12 hI_13 hF_14 h_15 => (bk_inl ?_)))
  have h_16 := ir_s_g hI_13 hs (j := 4 * a1 + 3) ((q_d09cb0b73 ha1))
  have h_17 := ir_s_g hI_13 hs (j := 4 * a2 + 3) ((q_d09cb0b73 ha2))
  refine q_iload c_54_61 rfl (q_iload c_54_63 rfl (v_isub (v := a4 - y_9) c_54_65 rfl (q_istore c_54_66 (Nat.le_of_ble_eq_true rfl) (v_iinc (v := 4) c_54_68 rfl (Nat.le_of_ble_eq_true rfl) (of_decide_eq_true rfl) (q_goto (t := 31) c_54_71 rfl (q_iload c_54_31 rfl (q_iconst c_54_33 ?_)))))))
  refine v_ic_ge_t (t := 74) c_54_34 rfl (of_decide_eq_true rfl) (q_aload_n c_54_74 rfl (q_iload_n c_54_75 rfl ?_))
  have kn_18 : Hid (c_12 s (4 * a1) = x0) := (hF_14 s (4 * a1) (fun q => q.elim (fun h => absurd h.2 (ne_l ((q_fb9abb0e1)))) (fun q => q.elim (fun h => absurd h.2 ((q_8ac71c5f3))) (fun h => absurd h.2 (ne_l ((q_2b13428e8 ha1 ha2))))))).trans (hv0)
  have kn_19 : Hid (c_12 s (4 * a1 + 1) = x1) := (hF_14 s (4 * a1 + 1) (fun q => q.elim (fun h => absurd h.2 (ne_l ((q_4e2243c37)))) (fun q => q.elim (fun h => absurd h.2 ((q_7c6b1b09a))) (fun h => absurd h.2 (ne_l ((q_3178328df ha1 ha2))))))).trans (hv1)
  have kn_20 : Hid (c_12 s (4 * a1 + 2) = x2) := (hF_14 s (4 * a1 + 2) (fun q => q.elim (fun h => absurd h.2 (ne_l ((q_693f489f1)))) (fun q => q.elim (fun h => absurd h.2 ((q_91c5bd343))) (fun h => absurd h.2 (ne_l ((q_428481d46 ha1 ha2))))))).trans (hv2)
  refine v_cv c_54_76 km_4_38 rfl (ck_sh hs) (by omega) ⟨⟨rfl, rfl⟩, of_decide_eq_true rfl, rfl⟩ (Nat.le_of_ble_eq_true rfl) (Nat.le_of_ble_eq_true rfl) (s_43 (v1 := x0) (v2 := x1) (v3 := x2) (v4 := c_12 s (4 * a1 + 3)) (r := c_12 s (4 * a1 + 3) + x0 + x1 + x2) (a1 := a1) hI_13 hs (show 0 ≤ a1 ∧ a1 ≤ 5 from ha1) ((hid kn_18)) ((hid kn_19)) ((hid kn_20)) (rfl) (by omega) (bk_inl ?_))
  by_cases h_21 : c_12 s (4 * a1 + 3) + x0 + x1 + x2 ≠ 0
  · refine v_if_ne_t (t := 92) c_54_79 rfl ⟨h_21, ⟨by first | (clear ha1 ha2 ha4 hq1 hq2 h_4 hv3 h_5 hv4 h_6 hv5 h_7 hv6 h_8 hv7 h_17 h_15 hq0; omega) | omega, by first | (clear ha1 ha2 ha4 hq1 h_1 hv0 h_2 hv1 h_3 hv2 h_4 hv3 h_5 hv4 h_6 hv5 h_7 hv6 h_8 hv7 h_16 h_17 hq0; omega) | omega⟩, of_decide_eq_true rfl, of_decide_eq_true rfl⟩ (q_iconst c_54_92 (v_zret c_54_93 rfl (of_decide_eq_true rfl) ?_))
    have hr_22 : ∀ j : Int, rs s j → c_12 s j + c_12 s (j + 1) + c_12 s (j + 2) + c_12 s (j + 3) ≤ 9999 := by
      intro j9 hj9
      obtain ⟨k9, rfl, hk9⟩ := rs_s hs hj9
      by_cases e_23 : k9 = a1
      · skip
        have h_24 : c_12 s (4 * k9) = x0 := (congrArg (c_12 s) (show 4 * k9 = 4 * a1 from by first | assumption | exact Int.le_antisymm (by omega) (by omega))).trans (hid kn_18)
        have h_25 : c_12 s (4 * k9 + 1) = x1 := (congrArg (c_12 s) (show 4 * k9 + 1 = 4 * a1 + 1 from by first | assumption | exact Int.le_antisymm (by omega) (by omega))).trans (hid kn_19)
        have h_26 : c_12 s (4 * k9 + 2) = x2 := (congrArg (c_12 s) (show 4 * k9 + 2 = 4 * a1 + 2 from by first | assumption | exact Int.le_antisymm (by omega) (by omega))).trans (hid kn_20)
        have h_27 : c_12 s (4 * k9 + 3) = c_12 s (4 * a1 + 3) := (congrArg (c_12 s) (show 4 * k9 + 3 = 4 * a1 + 3 from by first | assumption | exact Int.le_antisymm (by omega) (by omega)))
        omega
      by_cases e_28 : k9 = a2
      · skip
        have kn_29 : Hid (c_12 s (4 * a2) = u0) := (hF_14 s (4 * a2) (fun q => q.elim (fun h => absurd h.2 ((q_8ac71c5f3))) (fun q => q.elim (fun h => absurd h.2 (ne_l ((q_fb9abb0e1)))) (fun h => absurd h.2 (ne_l ((q_788f4b81f ha2))))))).trans (hv4)
        have h_30 : c_12 s (4 * k9) = u0 := (congrArg (c_12 s) (show 4 * k9 = 4 * a2 from by first | assumption | exact Int.le_antisymm (by omega) (by omega))).trans (hid kn_29)
        have kn_31 : Hid (c_12 s (4 * a2 + 1) = u1) := (hF_14 s (4 * a2 + 1) (fun q => q.elim (fun h => absurd h.2 ((q_7c6b1b09a))) (fun q => q.elim (fun h => absurd h.2 (ne_l ((q_4e2243c37)))) (fun h => absurd h.2 (ne_l ((q_60c9feeee ha2))))))).trans (hv5)
        have h_32 : c_12 s (4 * k9 + 1) = u1 := (congrArg (c_12 s) (show 4 * k9 + 1 = 4 * a2 + 1 from by first | assumption | exact Int.le_antisymm (by omega) (by omega))).trans (hid kn_31)
        have kn_33 : Hid (c_12 s (4 * a2 + 2) = u2) := (hF_14 s (4 * a2 + 2) (fun q => q.elim (fun h => absurd h.2 ((q_91c5bd343))) (fun q => q.elim (fun h => absurd h.2 (ne_l ((q_693f489f1)))) (fun h => absurd h.2 (ne_l ((q_27ec1b4d7 ha2))))))).trans (hv6)
        have h_34 : c_12 s (4 * k9 + 2) = u2 := (congrArg (c_12 s) (show 4 * k9 + 2 = 4 * a2 + 2 from by first | assumption | exact Int.le_antisymm (by omega) (by omega))).trans (hid kn_33)
        have h_35 : c_12 s (4 * k9 + 3) = c_12 s (4 * a2 + 3) := (congrArg (c_12 s) (show 4 * k9 + 3 = 4 * a2 + 3 from by first | assumption | exact Int.le_antisymm (by omega) (by omega)))
        omega
      have h_36 := hqo (4 * k9) hj9 (by omega) (by omega)
      have h_37 := ir_s_g hI hs (j := 4 * k9) ((q_9f1d5ffdc hk9))
      have kn_38 : Hid (c_12 s (4 * k9) = c s (4 * k9)) := hF_14 s (4 * k9) (fun q => q.elim (fun h => absurd h.2 ((q_8ac71c5f3))) (fun q => q.elim (fun h => absurd h.2 ((q_8ac71c5f3))) (fun h => absurd h.2 (ne_l ((q_4128697c9 ha2 hk9))))))
      have h_39 : c_12 s (4 * k9) = c s (4 * k9) := (hid kn_38)
      have h_40 := ir_s_g hI hs (j := 4 * k9 + 1) ((q_0a2ee6f8f hk9))
      have kn_41 : Hid (c_12 s (4 * k9 + 1) = c s (4 * k9 + 1)) := hF_14 s (4 * k9 + 1) (fun q => q.elim (fun h => absurd h.2 ((q_7c6b1b09a))) (fun q => q.elim (fun h => absurd h.2 ((q_7c6b1b09a))) (fun h => absurd h.2 (ne_l ((q_8f2481ba6 ha2 hk9))))))
      have h_42 : c_12 s (4 * k9 + 1) = c s (4 * k9 + 1) := (hid kn_41)
      have h_43 := ir_s_g hI hs (j := 4 * k9 + 2) ((q_e07a293a2 hk9))
      have kn_44 : Hid (c_12 s (4 * k9 + 2) = c s (4 * k9 + 2)) := hF_14 s (4 * k9 + 2) (fun q => q.elim (fun h => absurd h.2 ((q_91c5bd343))) (fun q => q.elim (fun h => absurd h.2 ((q_91c5bd343))) (fun h => absurd h.2 (ne_l ((q_04ab4010a ha2 hk9))))))
      have h_45 : c_12 s (4 * k9 + 2) = c s (4 * k9 + 2) := (hid kn_44)
      have h_46 := ir_s_g hI hs (j := 4 * k9 + 3) ((q_d09cb0b73 hk9))
      have kn_47 : Hid (c_12 s (4 * k9 + 3) = c s (4 * k9 + 3)) := hF_14 s (4 * k9 + 3) (fun q => q.elim (fun h => absurd h.2 ((q_2db9f474b e_23))) (fun q => q.elim (fun h => absurd h.2 ((q_2db9f474b e_28))) (fun h => absurd h.2 (ne_l ((q_e782b8c3c ha2 hk9))))))
      have h_48 : c_12 s (4 * k9 + 3) = c s (4 * k9 + 3) := (hid kn_47)
      omega
    have hI_49 := iv_close hI_13 hr_22
    exact K c_12 1 hI_49 (fun a j hm => hF_14 a j (fun q => q.elim (fun h => hm h.1) (fun q => q.elim (fun h => hm h.1) (fun h => hm h.1)))) ⟨of_decide_eq_true rfl, of_decide_eq_true rfl⟩
  · refine v_if_ne_f (t := 92) c_54_79 rfl (Decidable.not_not.mp h_21) (q_aload_n c_54_82 rfl (v_gr (t := s) c_54_83 kf_4_11 (ck_sh hs) (by omega) rfl (v_bip c_54_86 (of_decide_eq_true rfl) (q_iload_n c_54_88 rfl (v_iadd (v := a1 + 24) c_54_89 (by first | (clear ha1 ha2 ha4 hq1 hq2 h_1 hv0 h_2 hv1 h_3 hv2 h_4 hv3 h_5 hv4 h_6 hv5 h_7 hv6 h_8 hv7 h_16 h_17 h_15 h_21 hq0; omega) | omega) (q_iconst c_54_90 (v_is c_54_91 (ck_s hs) (by omega) (of_decide_eq_true rfl) ⟨(rgp_l ha1.1 (of_decide_eq_true rfl)), (q_99d6360e7 ha1)⟩ ?_)))))))
    refine q_iconst c_54_92 (v_zret c_54_93 rfl (of_decide_eq_true rfl) ?_)
    have hI_50 := iw_row (a := s) (j := a1 + 24) (v := 0) hI_13 (by omega) (Or.inl rfl) ⟨by omega, by omega, by omega⟩
    have hr_51 : ∀ j : Int, rs s j → (up c_12 s (a1 + 24) 0) s j + (up c_12 s (a1 + 24) 0) s (j + 1) + (up c_12 s (a1 + 24) 0) s (j + 2) + (up c_12 s (a1 + 24) 0) s (j + 3) ≤ 9999 := by
      intro j9 hj9
      obtain ⟨k9, rfl, hk9⟩ := rs_s hs hj9
      by_cases e_52 : k9 = a1
      · skip
        have h_53 : (up c_12 s (a1 + 24) 0) s (4 * k9) = x0 := (congrArg ((up c_12 s (a1 + 24) 0) s) (show 4 * k9 = 4 * a1 from by first | assumption | exact Int.le_antisymm (by omega) (by omega))).trans ((up_n (ne_l ((q_788f4b81f ha1)))).trans (hid kn_18))
        have h_54 : (up c_12 s (a1 + 24) 0) s (4 * k9 + 1) = x1 := (congrArg ((up c_12 s (a1 + 24) 0) s) (show 4 * k9 + 1 = 4 * a1 + 1 from by first | assumption | exact Int.le_antisymm (by omega) (by omega))).trans ((up_n (ne_l ((q_60c9feeee ha1)))).trans (hid kn_19))
        have h_55 : (up c_12 s (a1 + 24) 0) s (4 * k9 + 2) = x2 := (congrArg ((up c_12 s (a1 + 24) 0) s) (show 4 * k9 + 2 = 4 * a1 + 2 from by first | assumption | exact Int.le_antisymm (by omega) (by omega))).trans ((up_n (ne_l ((q_27ec1b4d7 ha1)))).trans (hid kn_20))
        have h_56 : (up c_12 s (a1 + 24) 0) s (4 * k9 + 3) = c_12 s (4 * a1 + 3) := (congrArg ((up c_12 s (a1 + 24) 0) s) (show 4 * k9 + 3 = 4 * a1 + 3 from by first | assumption | exact Int.le_antisymm (by omega) (by omega))).trans (up_n (ne_l ((q_fd9aac8f8 ha1))))
        omega
      by_cases e_57 : k9 = a2
      · skip
        have kn_58 : Hid (c_12 s (4 * a2) = u0) := (hF_14 s (4 * a2) (fun q => q.elim (fun h => absurd h.2 ((q_8ac71c5f3))) (fun q => q.elim (fun h => absurd h.2 (ne_l ((q_fb9abb0e1)))) (fun h => absurd h.2 (ne_l ((q_788f4b81f ha2))))))).trans (hv4)
        have h_59 : (up c_12 s (a1 + 24) 0) s (4 * k9) = u0 := (congrArg ((up c_12 s (a1 + 24) 0) s) (show 4 * k9 = 4 * a2 from by first | assumption | exact Int.le_antisymm (by omega) (by omega))).trans ((up_n (ne_l ((q_4128697c9 ha1 ha2)))).trans (hid kn_58))
        have kn_60 : Hid (c_12 s (4 * a2 + 1) = u1) := (hF_14 s (4 * a2 + 1) (fun q => q.elim (fun h => absurd h.2 ((q_7c6b1b09a))) (fun q => q.elim (fun h => absurd h.2 (ne_l ((q_4e2243c37)))) (fun h => absurd h.2 (ne_l ((q_60c9feeee ha2))))))).trans (hv5)
        have h_61 : (up c_12 s (a1 + 24) 0) s (4 * k9 + 1) = u1 := (congrArg ((up c_12 s (a1 + 24) 0) s) (show 4 * k9 + 1 = 4 * a2 + 1 from by first | assumption | exact Int.le_antisymm (by omega) (by omega))).trans ((up_n (ne_l ((q_8f2481ba6 ha1 ha2)))).trans (hid kn_60))
        have kn_62 : Hid (c_12 s (4 * a2 + 2) = u2) := (hF_14 s (4 * a2 + 2) (fun q => q.elim (fun h => absurd h.2 ((q_91c5bd343))) (fun q => q.elim (fun h => absurd h.2 (ne_l ((q_693f489f1)))) (fun h => absurd h.2 (ne_l ((q_27ec1b4d7 ha2))))))).trans (hv6)
        have h_63 : (up c_12 s (a1 + 24) 0) s (4 * k9 + 2) = u2 := (congrArg ((up c_12 s (a1 + 24) 0) s) (show 4 * k9 + 2 = 4 * a2 + 2 from by first | assumption | exact Int.le_antisymm (by omega) (by omega))).trans ((up_n (ne_l ((q_04ab4010a ha1 ha2)))).trans (hid kn_62))
        have h_64 : (up c_12 s (a1 + 24) 0) s (4 * k9 + 3) = c_12 s (4 * a2 + 3) := (congrArg ((up c_12 s (a1 + 24) 0) s) (show 4 * k9 + 3 = 4 * a2 + 3 from by first | assumption | exact Int.le_antisymm (by omega) (by omega))).trans (up_n (ne_l ((q_e782b8c3c ha1 ha2))))
        omega
      have h_65 := hqo (4 * k9) hj9 (by omega) (by omega)
      have h_66 := ir_s_g hI hs (j := 4 * k9) ((q_9f1d5ffdc hk9))
      have kn_67 : Hid (c_12 s (4 * k9) = c s (4 * k9)) := hF_14 s (4 * k9) (fun q => q.elim (fun h => absurd h.2 ((q_8ac71c5f3))) (fun q => q.elim (fun h => absurd h.2 ((q_8ac71c5f3))) (fun h => absurd h.2 (ne_l ((q_4128697c9 ha2 hk9))))))
      have h_68 : (up c_12 s (a1 + 24) 0) s (4 * k9) = c s (4 * k9) := ((up_n (ne_l ((q_4128697c9 ha1 hk9)))).trans (hid kn_67))
      have h_69 := ir_s_g hI hs (j := 4 * k9 + 1) ((q_0a2ee6f8f hk9))
      have kn_70 : Hid (c_12 s (4 * k9 + 1) = c s (4 * k9 + 1)) := hF_14 s (4 * k9 + 1) (fun q => q.elim (fun h => absurd h.2 ((q_7c6b1b09a))) (fun q => q.elim (fun h => absurd h.2 ((q_7c6b1b09a))) (fun h => absurd h.2 (ne_l ((q_8f2481ba6 ha2 hk9))))))
      have h_71 : (up c_12 s (a1 + 24) 0) s (4 * k9 + 1) = c s (4 * k9 + 1) := ((up_n (ne_l ((q_8f2481ba6 ha1 hk9)))).trans (hid kn_70))
      have h_72 := ir_s_g hI hs (j := 4 * k9 + 2) ((q_e07a293a2 hk9))
      have kn_73 : Hid (c_12 s (4 * k9 + 2) = c s (4 * k9 + 2)) := hF_14 s (4 * k9 + 2) (fun q => q.elim (fun h => absurd h.2 ((q_91c5bd343))) (fun q => q.elim (fun h => absurd h.2 ((q_91c5bd343))) (fun h => absurd h.2 (ne_l ((q_04ab4010a ha2 hk9))))))
      have h_74 : (up c_12 s (a1 + 24) 0) s (4 * k9 + 2) = c s (4 * k9 + 2) := ((up_n (ne_l ((q_04ab4010a ha1 hk9)))).trans (hid kn_73))
      have h_75 := ir_s_g hI hs (j := 4 * k9 + 3) ((q_d09cb0b73 hk9))
      have kn_76 : Hid (c_12 s (4 * k9 + 3) = c s (4 * k9 + 3)) := hF_14 s (4 * k9 + 3) (fun q => q.elim (fun h => absurd h.2 ((q_2db9f474b e_52))) (fun q => q.elim (fun h => absurd h.2 ((q_2db9f474b e_57))) (fun h => absurd h.2 (ne_l ((q_e782b8c3c ha2 hk9))))))
      have h_77 : (up c_12 s (a1 + 24) 0) s (4 * k9 + 3) = c s (4 * k9 + 3) := ((up_n (ne_l ((q_e782b8c3c ha1 hk9)))).trans (hid kn_76))
      omega
    have hI_78 := iv_close hI_50 hr_51
    exact K (up c_12 s (a1 + 24) 0) 1 hI_78 (fun a j hm => (up_b (Decidable.or_iff_not_imp_left.mpr (fun h1 h2 => hm (Decidable.not_not.mp h1)))).trans (hF_14 a j (fun q => q.elim (fun h => hm h.1) (fun q => q.elim (fun h => hm h.1) (fun h => hm h.1))))) ⟨of_decide_eq_true rfl, of_decide_eq_true rfl⟩
set_option maxRecDepth 100000 in
set_option maxHeartbeats 4000000 in
theorem s_54_2 {sc : List Int32} {d P Q sh s : Nat} {c : ME} {x0 x1 x2 x3 u0 u1 u2 u3 : Int} {a1 : Int} {a2 : Int} {a4 : Int} {Z : AR → Prop} (hI : Iv s (-1) P Q c) (hs : (sh = 37 ∧ s = 38) ∨ (sh = 39 ∧ s = 40)) (ha1 : 0 ≤ a1 ∧ a1 ≤ 5) (ha2 : 0 ≤ a2 ∧ a2 ≤ 5) (ha4 : 0 ≤ a4 ∧ a4 ≤ 99999) (hq0 : (a1 < a2) ∨ (a1 > a2)) (hq1 : (a4 + u0 + u1 + u2 + u3 ≤ 9999)) (hq2 : (x0 + x1 + x2 + x3 ≤ 9999)) (hq3 : ∀ j : Int, rs s j → ¬ j = 4 * a1 → ¬ j = 4 * a2 → c s j + c s (j + 1) + c s (j + 2) + c s (j + 3) ≤ 9999) (hv0 : c s (4 * a1) = x0) (hv1 : c s (4 * a1 + 1) = x1) (hv2 : c s (4 * a1 + 2) = x2) (hv3 : c s (4 * a1 + 3) = x3) (hv4 : c s (4 * a2) = u0) (hv5 : c s (4 * a2 + 1) = u1) (hv6 : c s (4 * a2 + 2) = u2) (hv7 : c s (4 * a2 + 3) = u3) (K : ∀ (c2 : ME) (y : Int), Iv 0 (-1) P Q c2 → (∀ (a : Nat) (j : Int), ¬ (a = s) → c2 a j = c a j) → 0 ≤ y ∧ y ≤ 1 → Z (.inl (some (vi y)), Wd P Q P P c2, 0, 0)) : Wp sc (d + 9) 54 31 [(0, .ref sh), (1, vi a1), (2, vi a2), (4, vi a4), (5, vi 2)] [] (Wd P Q P P c) 0 0 Z := by
  have hP := iv_P hI
  have hQ := iv_Q hI
  have h_1 := ir_s_g hI hs (j := 4 * a1) ((q_9f1d5ffdc ha1))
  have h_2 := ir_s_g hI hs (j := 4 * a1 + 1) ((q_0a2ee6f8f ha1))
  have h_3 := ir_s_g hI hs (j := 4 * a1 + 2) ((q_e07a293a2 ha1))
  have h_4 := ir_s_g hI hs (j := 4 * a1 + 3) ((q_d09cb0b73 ha1))
  have h_5 := ir_s_g hI hs (j := 4 * a2) ((q_9f1d5ffdc ha2))
  have h_6 := ir_s_g hI hs (j := 4 * a2 + 1) ((q_0a2ee6f8f ha2))
  have h_7 := ir_s_g hI hs (j := 4 * a2 + 2) ((q_e07a293a2 ha2))
  have h_8 := ir_s_g hI hs (j := 4 * a2 + 3) ((q_d09cb0b73 ha2))
  have hqo := hq3
  refine q_iload c_54_31 rfl (q_iconst c_54_33 (v_ic_ge_f (t := 74) c_54_34 rfl (of_decide_eq_true rfl) (q_iload c_54_37 rfl (q_aload_n c_54_39 rfl (q_iload_n c_54_40 rfl (q_iload c_54_41 rfl (v_cv c_54_43 km_4_34 rfl (ck_sh hs) (by omega) ⟨⟨rfl, rfl⟩, of_decide_eq_true rfl, rfl⟩ (Nat.le_of_ble_eq_true rfl) (Nat.le_of_ble_eq_true rfl) (s_45 (v1 := x2) (r := x2) (a1 := a1) (a2 := 2) hI hs (show 0 ≤ a1 ∧ a1 ≤ 5 from ha1) (show 0 ≤ 2 ∧ 2 ≤ 3 from ⟨of_decide_eq_true rfl, of_decide_eq_true rfl⟩) ((hv2)) (by omega) ?_))))))))
  refine bk_inl (v_minp c_54_46 rfl (by omega) (Nat.le_of_ble_eq_true rfl) ⟨by omega, by omega, by omega, by omega⟩ (fun y_9 hy_9 => (q_istore c_54_49 (Nat.le_of_ble_eq_true rfl) (q_aload_n c_54_51 rfl (q_iload_n c_54_52 rfl (q_iload_n c_54_53 rfl (q_iload c_54_54 rfl (q_iload c_54_56 rfl ?_))))))))
  have h_10 : c s (4 * a1 + 2) = x2 := (hv2)
  have h_11 : c s (4 * a2 + 2) = u2 := (hv6)
  refine v_cv c_54_58 km_4_85 rfl (ck_sh hs) (by omega) ⟨⟨rfl, rfl⟩, of_decide_eq_true rfl, rfl⟩ (Nat.le_of_ble_eq_true rfl) (Nat.le_of_ble_eq_true rfl) (s_52 (a1 := a1) (a2 := a2) (a3 := 2) (a4 := y_9) hI hs (show 0 ≤ a1 ∧ a1 ≤ 5 from ha1) (show 0 ≤ a2 ∧ a2 ≤ 5 from ha2) (show 0 ≤ 2 ∧ 2 ≤ 3 from ⟨of_decide_eq_true rfl, of_decide_eq_true rfl⟩) (show 0 ≤ y_9 ∧ y_9 ≤ 9999 from ⟨by first | (clear ha1 ha2 ha4 hq1 hq2 h_1 hv0 h_2 hv1 h_3 hv2 h_4 hv3 h_5 hv4 h_6 hv5 h_7 hv6 h_8 hv7 hq0; omega) | omega, by first | (clear ha1 ha2 ha4 hq1 hq2 h_1 hv0 h_2 hv1 h_4 hv3 h_5 hv4 h_6 hv5 h_7 hv6 h_8 hv7 hq0; omega) | omega⟩) (by omega) (by first | (clear ha1 ha2 ha4 hq1 hq2 h_1 hv0 h_2 hv1 h_3 hv2 h_4 hv3 h_5 hv4 h_6 hv5 h_7 hv6 h_8 hv7 hq0; omega) | omega) (by first | (clear ha1 ha2 ha4 hq2 h_1 hv0 h_2 hv1 h_3 hv2 h_4 hv3 h_7 hv6 hq0; omega) | omega) (fun c_12 hI_13 hF_14 h_15 => (bk_inl ?_)))
  have h_16 := ir_s_g hI_13 hs (j := 4 * a1 + 2) ((q_e07a293a2 ha1))
  have h_17 := ir_s_g hI_13 hs (j := 4 * a2 + 2) ((q_e07a293a2 ha2))
  refine q_iload c_54_61 rfl (q_iload c_54_63 rfl (v_isub (v := a4 - y_9) c_54_65 rfl (q_istore c_54_66 (Nat.le_of_ble_eq_true rfl) (v_iinc (v := 3) c_54_68 rfl (Nat.le_of_ble_eq_true rfl) (of_decide_eq_true rfl) (q_goto (t := 31) c_54_71 rfl ?_)))))
  have kn_18 : Hid (c_12 s (4 * a1) = x0) := (hF_14 s (4 * a1) (fun q => q.elim (fun h => absurd h.2 (ne_l ((q_1cdd15b2c)))) (fun q => q.elim (fun h => absurd h.2 ((q_c037f51da))) (fun h => absurd h.2 (ne_l ((q_2b13428e8 ha1 ha2))))))).trans (hv0)
  have kn_19 : Hid (c_12 s (4 * a1 + 1) = x1) := (hF_14 s (4 * a1 + 1) (fun q => q.elim (fun h => absurd h.2 (ne_l ((q_af9ea9c7d)))) (fun q => q.elim (fun h => absurd h.2 ((q_3650b790c))) (fun h => absurd h.2 (ne_l ((q_3178328df ha1 ha2))))))).trans (hv1)
  have kn_20 : Hid (c_12 s (4 * a1 + 3) = x3) := (hF_14 s (4 * a1 + 3) (fun q => q.elim (fun h => absurd h.2 (ne_g ((q_693f489f1)))) (fun q => q.elim (fun h => absurd h.2 ((q_28d70e8e5))) (fun h => absurd h.2 (ne_l ((q_2771393a8 ha1 ha2))))))).trans (hv3)
  have kn_21 : Hid (c_12 s (4 * a2) = u0) := (hF_14 s (4 * a2) (fun q => q.elim (fun h => absurd h.2 ((q_c037f51da))) (fun q => q.elim (fun h => absurd h.2 (ne_l ((q_1cdd15b2c)))) (fun h => absurd h.2 (ne_l ((q_788f4b81f ha2))))))).trans (hv4)
  have kn_22 : Hid (c_12 s (4 * a2 + 1) = u1) := (hF_14 s (4 * a2 + 1) (fun q => q.elim (fun h => absurd h.2 ((q_3650b790c))) (fun q => q.elim (fun h => absurd h.2 (ne_l ((q_af9ea9c7d)))) (fun h => absurd h.2 (ne_l ((q_60c9feeee ha2))))))).trans (hv5)
  have kn_23 : Hid (c_12 s (4 * a2 + 3) = u3) := (hF_14 s (4 * a2 + 3) (fun q => q.elim (fun h => absurd h.2 ((q_28d70e8e5))) (fun q => q.elim (fun h => absurd h.2 (ne_g ((q_693f489f1)))) (fun h => absurd h.2 (ne_l ((q_fd9aac8f8 ha2))))))).trans (hv7)
  have hqo_24 : ∀ j : Int, rs s j → ¬ j = 4 * a1 → ¬ j = 4 * a2 → c_12 s j + c_12 s (j + 1) + c_12 s (j + 2) + c_12 s (j + 3) ≤ 9999 := by
    intro j9 hj9 hz0 hz1
    obtain ⟨k9, rfl, hk9⟩ := rs_s hs hj9
    have h_25 := hqo (4 * k9) hj9 (by omega) (by omega)
    have h_26 := ir_s_g hI hs (j := 4 * k9) ((q_9f1d5ffdc hk9))
    have kn_27 : Hid (c_12 s (4 * k9) = c s (4 * k9)) := hF_14 s (4 * k9) (fun q => q.elim (fun h => absurd h.2 ((q_c037f51da))) (fun q => q.elim (fun h => absurd h.2 ((q_c037f51da))) (fun h => absurd h.2 (ne_l ((q_4128697c9 ha2 hk9))))))
    have h_28 : c_12 s (4 * k9) = c s (4 * k9) := (hid kn_27)
    have h_29 := ir_s_g hI hs (j := 4 * k9 + 1) ((q_0a2ee6f8f hk9))
    have kn_30 : Hid (c_12 s (4 * k9 + 1) = c s (4 * k9 + 1)) := hF_14 s (4 * k9 + 1) (fun q => q.elim (fun h => absurd h.2 ((q_3650b790c))) (fun q => q.elim (fun h => absurd h.2 ((q_3650b790c))) (fun h => absurd h.2 (ne_l ((q_8f2481ba6 ha2 hk9))))))
    have h_31 : c_12 s (4 * k9 + 1) = c s (4 * k9 + 1) := (hid kn_30)
    have h_32 := ir_s_g hI hs (j := 4 * k9 + 2) ((q_e07a293a2 hk9))
    have kn_33 : Hid (c_12 s (4 * k9 + 2) = c s (4 * k9 + 2)) := hF_14 s (4 * k9 + 2) (fun q => q.elim (fun h => absurd h.2 (by first | (clear ha1 ha2 ha4 hq1 hq2 h_1 hv0 h_2 hv1 h_3 hv2 h_4 hv3 h_5 hv4 h_6 hv5 h_7 hv6 h_8 hv7 h_16 h_17 h_15 hk9 h_26 h_29 h_32 hq0; omega) | omega)) (fun q => q.elim (fun h => absurd h.2 (by first | (clear ha1 ha2 ha4 hq1 hq2 h_1 hv0 h_2 hv1 h_3 hv2 h_4 hv3 h_5 hv4 h_6 hv5 h_7 hv6 h_8 hv7 h_16 h_17 h_15 hk9 h_26 h_29 h_32 hq0; omega) | omega)) (fun h => absurd h.2 (ne_l ((q_04ab4010a ha2 hk9))))))
    have h_34 : c_12 s (4 * k9 + 2) = c s (4 * k9 + 2) := (hid kn_33)
    have h_35 := ir_s_g hI hs (j := 4 * k9 + 3) ((q_d09cb0b73 hk9))
    have kn_36 : Hid (c_12 s (4 * k9 + 3) = c s (4 * k9 + 3)) := hF_14 s (4 * k9 + 3) (fun q => q.elim (fun h => absurd h.2 ((q_28d70e8e5))) (fun q => q.elim (fun h => absurd h.2 ((q_28d70e8e5))) (fun h => absurd h.2 (ne_l ((q_e782b8c3c ha2 hk9))))))
    have h_37 : c_12 s (4 * k9 + 3) = c s (4 * k9 + 3) := (hid kn_36)
    omega
  refine Wp_ls [(0, .ref sh), (1, vi a1), (2, vi a2), (4, vi (a4 - y_9)), (5, vi 3)] (lsub_cons rfl (lsub_cons rfl (lsub_cons rfl (lsub_cons rfl (lsub_cons rfl lsub_nil))))) ?_
  exact s_54_3 (x0 := x0) (x1 := x1) (x2 := c_12 s (4 * a1 + 2)) (x3 := x3) (u0 := u0) (u1 := u1) (u2 := c_12 s (4 * a2 + 2)) (u3 := u3) (a4 := a4 - y_9) hI_13 hs (by omega) (by omega) (by omega) (by omega) (by omega) (by omega) hqo_24 ((hid kn_18)) ((hid kn_19)) rfl ((hid kn_20)) ((hid kn_21)) ((hid kn_22)) rfl ((hid kn_23)) (fun c9 y9 hI9 hF9 hy9 => K c9 y9 hI9 (fun a j hm => (hF9 a j (by omega)).trans (hF_14 a j (by omega))) hy9)
set_option maxRecDepth 100000 in
set_option maxHeartbeats 4000000 in
theorem s_54_1 {sc : List Int32} {d P Q sh s : Nat} {c : ME} {x0 x1 x2 x3 u0 u1 u2 u3 : Int} {a1 : Int} {a2 : Int} {a4 : Int} {Z : AR → Prop} (hI : Iv s (-1) P Q c) (hs : (sh = 37 ∧ s = 38) ∨ (sh = 39 ∧ s = 40)) (ha1 : 0 ≤ a1 ∧ a1 ≤ 5) (ha2 : 0 ≤ a2 ∧ a2 ≤ 5) (ha4 : 0 ≤ a4 ∧ a4 ≤ 99999) (hq0 : (a1 < a2) ∨ (a1 > a2)) (hq1 : (a4 + u0 + u1 + u2 + u3 ≤ 9999)) (hq2 : (x0 + x1 + x2 + x3 ≤ 9999)) (hq3 : ∀ j : Int, rs s j → ¬ j = 4 * a1 → ¬ j = 4 * a2 → c s j + c s (j + 1) + c s (j + 2) + c s (j + 3) ≤ 9999) (hv0 : c s (4 * a1) = x0) (hv1 : c s (4 * a1 + 1) = x1) (hv2 : c s (4 * a1 + 2) = x2) (hv3 : c s (4 * a1 + 3) = x3) (hv4 : c s (4 * a2) = u0) (hv5 : c s (4 * a2 + 1) = u1) (hv6 : c s (4 * a2 + 2) = u2) (hv7 : c s (4 * a2 + 3) = u3) (K : ∀ (c2 : ME) (y : Int), Iv 0 (-1) P Q c2 → (∀ (a : Nat) (j : Int), ¬ (a = s) → c2 a j = c a j) → 0 ≤ y ∧ y ≤ 1 → Z (.inl (some (vi y)), Wd P Q P P c2, 0, 0)) : Wp sc (d + 9) 54 31 [(0, .ref sh), (1, vi a1), (2, vi a2), (4, vi a4), (5, vi 1)] [] (Wd P Q P P c) 0 0 Z := by
  have hP := iv_P hI
  have hQ := iv_Q hI
  have h_1 := ir_s_g hI hs (j := 4 * a1) ((q_9f1d5ffdc ha1))
  have h_2 := ir_s_g hI hs (j := 4 * a1 + 1) ((q_0a2ee6f8f ha1))
  have h_3 := ir_s_g hI hs (j := 4 * a1 + 2) ((q_e07a293a2 ha1))
  have h_4 := ir_s_g hI hs (j := 4 * a1 + 3) ((q_d09cb0b73 ha1))
  have h_5 := ir_s_g hI hs (j := 4 * a2) ((q_9f1d5ffdc ha2))
  have h_6 := ir_s_g hI hs (j := 4 * a2 + 1) ((q_0a2ee6f8f ha2))
  have h_7 := ir_s_g hI hs (j := 4 * a2 + 2) ((q_e07a293a2 ha2))
  have h_8 := ir_s_g hI hs (j := 4 * a2 + 3) ((q_d09cb0b73 ha2))
  have hqo := hq3
  refine q_iload c_54_31 rfl (q_iconst c_54_33 (v_ic_ge_f (t := 74) c_54_34 rfl (of_decide_eq_true rfl) (q_iload c_54_37 rfl (q_aload_n c_54_39 rfl (q_iload_n c_54_40 rfl (q_iload c_54_41 rfl (v_cv c_54_43 km_4_34 rfl (ck_sh hs) (by omega) ⟨⟨rfl, rfl⟩, of_decide_eq_true rfl, rfl⟩ (Nat.le_of_ble_eq_true rfl) (Nat.le_of_ble_eq_true rfl) (s_45 (v1 := x1) (r := x1) (a1 := a1) (a2 := 1) hI hs (show 0 ≤ a1 ∧ a1 ≤ 5 from ha1) (show 0 ≤ 1 ∧ 1 ≤ 3 from ⟨of_decide_eq_true rfl, of_decide_eq_true rfl⟩) ((hv1)) (by omega) ?_))))))))
  refine bk_inl (v_minp c_54_46 rfl (by omega) (Nat.le_of_ble_eq_true rfl) ⟨by omega, by omega, by omega, by omega⟩ (fun y_9 hy_9 => (q_istore c_54_49 (Nat.le_of_ble_eq_true rfl) (q_aload_n c_54_51 rfl (q_iload_n c_54_52 rfl (q_iload_n c_54_53 rfl (q_iload c_54_54 rfl (q_iload c_54_56 rfl ?_))))))))
  have h_10 : c s (4 * a1 + 1) = x1 := (hv1)
  have h_11 : c s (4 * a2 + 1) = u1 := (hv5)
  refine v_cv c_54_58 km_4_85 rfl (ck_sh hs) (by omega) ⟨⟨rfl, rfl⟩, of_decide_eq_true rfl, rfl⟩ (Nat.le_of_ble_eq_true rfl) (Nat.le_of_ble_eq_true rfl) (s_52 (a1 := a1) (a2 := a2) (a3 := 1) (a4 := y_9) hI hs (show 0 ≤ a1 ∧ a1 ≤ 5 from ha1) (show 0 ≤ a2 ∧ a2 ≤ 5 from ha2) (show 0 ≤ 1 ∧ 1 ≤ 3 from ⟨of_decide_eq_true rfl, of_decide_eq_true rfl⟩) (show 0 ≤ y_9 ∧ y_9 ≤ 9999 from ⟨by first | (clear ha1 ha2 ha4 hq1 hq2 h_1 hv0 h_2 hv1 h_3 hv2 h_4 hv3 h_5 hv4 h_6 hv5 h_7 hv6 h_8 hv7 hq0; omega) | omega, by first | (clear ha1 ha2 ha4 hq1 hq2 h_1 hv0 h_3 hv2 h_4 hv3 h_5 hv4 h_6 hv5 h_7 hv6 h_8 hv7 hq0; omega) | omega⟩) (by omega) (by first | (clear ha1 ha2 ha4 hq1 hq2 h_1 hv0 h_2 hv1 h_3 hv2 h_4 hv3 h_5 hv4 h_6 hv5 h_7 hv6 h_8 hv7 hq0; omega) | omega) (by first | (clear ha1 ha2 ha4 hq2 h_1 hv0 h_2 hv1 h_3 hv2 h_4 hv3 h_6 hv5 hq0; omega) | omega) (fun c_12 hI_13 hF_14 h_15 => (bk_inl ?_)))
  have h_16 := ir_s_g hI_13 hs (j := 4 * a1 + 1) ((q_0a2ee6f8f ha1))
  have h_17 := ir_s_g hI_13 hs (j := 4 * a2 + 1) ((q_0a2ee6f8f ha2))
  refine q_iload c_54_61 rfl (q_iload c_54_63 rfl (v_isub (v := a4 - y_9) c_54_65 rfl (q_istore c_54_66 (Nat.le_of_ble_eq_true rfl) (v_iinc (v := 2) c_54_68 rfl (Nat.le_of_ble_eq_true rfl) (of_decide_eq_true rfl) (q_goto (t := 31) c_54_71 rfl ?_)))))
  have kn_18 : Hid (c_12 s (4 * a1) = x0) := (hF_14 s (4 * a1) (fun q => q.elim (fun h => absurd h.2 (ne_l ((q_4994d6793)))) (fun q => q.elim (fun h => absurd h.2 ((q_b2cb8bf87))) (fun h => absurd h.2 (ne_l ((q_2b13428e8 ha1 ha2))))))).trans (hv0)
  have kn_19 : Hid (c_12 s (4 * a1 + 2) = x2) := (hF_14 s (4 * a1 + 2) (fun q => q.elim (fun h => absurd h.2 (ne_g ((q_af9ea9c7d)))) (fun q => q.elim (fun h => absurd h.2 ((q_08c3d7060))) (fun h => absurd h.2 (ne_l ((q_428481d46 ha1 ha2))))))).trans (hv2)
  have kn_20 : Hid (c_12 s (4 * a1 + 3) = x3) := (hF_14 s (4 * a1 + 3) (fun q => q.elim (fun h => absurd h.2 (ne_g ((q_4e2243c37)))) (fun q => q.elim (fun h => absurd h.2 ((q_6d5c6886e))) (fun h => absurd h.2 (ne_l ((q_2771393a8 ha1 ha2))))))).trans (hv3)
  have kn_21 : Hid (c_12 s (4 * a2) = u0) := (hF_14 s (4 * a2) (fun q => q.elim (fun h => absurd h.2 ((q_b2cb8bf87))) (fun q => q.elim (fun h => absurd h.2 (ne_l ((q_4994d6793)))) (fun h => absurd h.2 (ne_l ((q_788f4b81f ha2))))))).trans (hv4)
  have kn_22 : Hid (c_12 s (4 * a2 + 2) = u2) := (hF_14 s (4 * a2 + 2) (fun q => q.elim (fun h => absurd h.2 ((q_08c3d7060))) (fun q => q.elim (fun h => absurd h.2 (ne_g ((q_af9ea9c7d)))) (fun h => absurd h.2 (ne_l ((q_27ec1b4d7 ha2))))))).trans (hv6)
  have kn_23 : Hid (c_12 s (4 * a2 + 3) = u3) := (hF_14 s (4 * a2 + 3) (fun q => q.elim (fun h => absurd h.2 ((q_6d5c6886e))) (fun q => q.elim (fun h => absurd h.2 (ne_g ((q_4e2243c37)))) (fun h => absurd h.2 (ne_l ((q_fd9aac8f8 ha2))))))).trans (hv7)
  have hqo_24 : ∀ j : Int, rs s j → ¬ j = 4 * a1 → ¬ j = 4 * a2 → c_12 s j + c_12 s (j + 1) + c_12 s (j + 2) + c_12 s (j + 3) ≤ 9999 := by
    intro j9 hj9 hz0 hz1
    obtain ⟨k9, rfl, hk9⟩ := rs_s hs hj9
    have h_25 := hqo (4 * k9) hj9 (by omega) (by omega)
    have h_26 := ir_s_g hI hs (j := 4 * k9) ((q_9f1d5ffdc hk9))
    have kn_27 : Hid (c_12 s (4 * k9) = c s (4 * k9)) := hF_14 s (4 * k9) (fun q => q.elim (fun h => absurd h.2 ((q_b2cb8bf87))) (fun q => q.elim (fun h => absurd h.2 ((q_b2cb8bf87))) (fun h => absurd h.2 (ne_l ((q_4128697c9 ha2 hk9))))))
    have h_28 : c_12 s (4 * k9) = c s (4 * k9) := (hid kn_27)
    have h_29 := ir_s_g hI hs (j := 4 * k9 + 1) ((q_0a2ee6f8f hk9))
    have kn_30 : Hid (c_12 s (4 * k9 + 1) = c s (4 * k9 + 1)) := hF_14 s (4 * k9 + 1) (fun q => q.elim (fun h => absurd h.2 (by first | (clear ha1 ha2 ha4 hq1 hq2 h_1 hv0 h_2 hv1 h_3 hv2 h_4 hv3 h_5 hv4 h_6 hv5 h_7 hv6 h_8 hv7 h_16 h_17 h_15 hk9 h_26 h_29 hq0; omega) | omega)) (fun q => q.elim (fun h => absurd h.2 (by first | (clear ha1 ha2 ha4 hq1 hq2 h_1 hv0 h_2 hv1 h_3 hv2 h_4 hv3 h_5 hv4 h_6 hv5 h_7 hv6 h_8 hv7 h_16 h_17 h_15 hk9 h_26 h_29 hq0; omega) | omega)) (fun h => absurd h.2 (ne_l ((q_8f2481ba6 ha2 hk9))))))
    have h_31 : c_12 s (4 * k9 + 1) = c s (4 * k9 + 1) := (hid kn_30)
    have h_32 := ir_s_g hI hs (j := 4 * k9 + 2) ((q_e07a293a2 hk9))
    have kn_33 : Hid (c_12 s (4 * k9 + 2) = c s (4 * k9 + 2)) := hF_14 s (4 * k9 + 2) (fun q => q.elim (fun h => absurd h.2 ((q_08c3d7060))) (fun q => q.elim (fun h => absurd h.2 ((q_08c3d7060))) (fun h => absurd h.2 (ne_l ((q_04ab4010a ha2 hk9))))))
    have h_34 : c_12 s (4 * k9 + 2) = c s (4 * k9 + 2) := (hid kn_33)
    have h_35 := ir_s_g hI hs (j := 4 * k9 + 3) ((q_d09cb0b73 hk9))
    have kn_36 : Hid (c_12 s (4 * k9 + 3) = c s (4 * k9 + 3)) := hF_14 s (4 * k9 + 3) (fun q => q.elim (fun h => absurd h.2 ((q_6d5c6886e))) (fun q => q.elim (fun h => absurd h.2 ((q_6d5c6886e))) (fun h => absurd h.2 (ne_l ((q_e782b8c3c ha2 hk9))))))
    have h_37 : c_12 s (4 * k9 + 3) = c s (4 * k9 + 3) := (hid kn_36)
    omega
  refine Wp_ls [(0, .ref sh), (1, vi a1), (2, vi a2), (4, vi (a4 - y_9)), (5, vi 2)] (lsub_cons rfl (lsub_cons rfl (lsub_cons rfl (lsub_cons rfl (lsub_cons rfl lsub_nil))))) ?_
  exact s_54_2 (x0 := x0) (x1 := c_12 s (4 * a1 + 1)) (x2 := x2) (x3 := x3) (u0 := u0) (u1 := c_12 s (4 * a2 + 1)) (u2 := u2) (u3 := u3) (a4 := a4 - y_9) hI_13 hs (by omega) (by omega) (by omega) (by omega) (by omega) (by omega) hqo_24 ((hid kn_18)) rfl ((hid kn_19)) ((hid kn_20)) ((hid kn_21)) rfl ((hid kn_22)) ((hid kn_23)) (fun c9 y9 hI9 hF9 hy9 => K c9 y9 hI9 (fun a j hm => (hF9 a j (by omega)).trans (hF_14 a j (by omega))) hy9)
set_option maxRecDepth 100000 in
set_option maxHeartbeats 4000000 in
theorem s_54_0 {sc : List Int32} {d P Q sh s : Nat} {c : ME} {x0 x1 x2 x3 u0 u1 u2 u3 : Int} {a1 : Int} {a2 : Int} {a4 : Int} {Z : AR → Prop} (hI : Iv s (-1) P Q c) (hs : (sh = 37 ∧ s = 38) ∨ (sh = 39 ∧ s = 40)) (ha1 : 0 ≤ a1 ∧ a1 ≤ 5) (ha2 : 0 ≤ a2 ∧ a2 ≤ 5) (ha4 : 0 ≤ a4 ∧ a4 ≤ 99999) (hq0 : (a1 < a2) ∨ (a1 > a2)) (hq1 : (a4 + u0 + u1 + u2 + u3 ≤ 9999)) (hq2 : (x0 + x1 + x2 + x3 ≤ 9999)) (hq3 : ∀ j : Int, rs s j → ¬ j = 4 * a1 → ¬ j = 4 * a2 → c s j + c s (j + 1) + c s (j + 2) + c s (j + 3) ≤ 9999) (hv0 : c s (4 * a1) = x0) (hv1 : c s (4 * a1 + 1) = x1) (hv2 : c s (4 * a1 + 2) = x2) (hv3 : c s (4 * a1 + 3) = x3) (hv4 : c s (4 * a2) = u0) (hv5 : c s (4 * a2 + 1) = u1) (hv6 : c s (4 * a2 + 2) = u2) (hv7 : c s (4 * a2 + 3) = u3) (K : ∀ (c2 : ME) (y : Int), Iv 0 (-1) P Q c2 → (∀ (a : Nat) (j : Int), ¬ (a = s) → c2 a j = c a j) → 0 ≤ y ∧ y ≤ 1 → Z (.inl (some (vi y)), Wd P Q P P c2, 0, 0)) : Wp sc (d + 9) 54 31 [(0, .ref sh), (1, vi a1), (2, vi a2), (4, vi a4), (5, vi 0)] [] (Wd P Q P P c) 0 0 Z := by
  have hP := iv_P hI
  have hQ := iv_Q hI
  have h_1 := ir_s_g hI hs (j := 4 * a1) ((q_9f1d5ffdc ha1))
  have h_2 := ir_s_g hI hs (j := 4 * a1 + 1) ((q_0a2ee6f8f ha1))
  have h_3 := ir_s_g hI hs (j := 4 * a1 + 2) ((q_e07a293a2 ha1))
  have h_4 := ir_s_g hI hs (j := 4 * a1 + 3) ((q_d09cb0b73 ha1))
  have h_5 := ir_s_g hI hs (j := 4 * a2) ((q_9f1d5ffdc ha2))
  have h_6 := ir_s_g hI hs (j := 4 * a2 + 1) ((q_0a2ee6f8f ha2))
  have h_7 := ir_s_g hI hs (j := 4 * a2 + 2) ((q_e07a293a2 ha2))
  have h_8 := ir_s_g hI hs (j := 4 * a2 + 3) ((q_d09cb0b73 ha2))
  have hqo := hq3
  refine q_iload c_54_31 rfl (q_iconst c_54_33 (v_ic_ge_f (t := 74) c_54_34 rfl (of_decide_eq_true rfl) (q_iload c_54_37 rfl (q_aload_n c_54_39 rfl (q_iload_n c_54_40 rfl (q_iload c_54_41 rfl (v_cv c_54_43 km_4_34 rfl (ck_sh hs) (by omega) ⟨⟨rfl, rfl⟩, of_decide_eq_true rfl, rfl⟩ (Nat.le_of_ble_eq_true rfl) (Nat.le_of_ble_eq_true rfl) (s_45 (v1 := x0) (r := x0) (a1 := a1) (a2 := 0) hI hs (show 0 ≤ a1 ∧ a1 ≤ 5 from ha1) (show 0 ≤ 0 ∧ 0 ≤ 3 from ⟨of_decide_eq_true rfl, of_decide_eq_true rfl⟩) ((congrArg (c s) (show 4 * a1 + 0 = 4 * a1 from by first | exact q_8baad3eb5 | assumption | exact Int.le_antisymm (by omega) (by omega))).trans (hv0)) (by omega) ?_))))))))
  refine bk_inl (v_minp c_54_46 rfl (by omega) (Nat.le_of_ble_eq_true rfl) ⟨by omega, by omega, by omega, by omega⟩ (fun y_9 hy_9 => (q_istore c_54_49 (Nat.le_of_ble_eq_true rfl) (q_aload_n c_54_51 rfl (q_iload_n c_54_52 rfl (q_iload_n c_54_53 rfl (q_iload c_54_54 rfl (q_iload c_54_56 rfl ?_))))))))
  have h_10 : c s (4 * a1) = x0 := (hv0)
  have h_11 : c s (4 * a1 + 0) = x0 := (congrArg (c s) (by first | assumption | exact Int.le_antisymm (by omega) (by omega))).trans (hv0)
  have h_12 : c s (4 * a2) = u0 := (hv4)
  have h_13 : c s (4 * a2 + 0) = u0 := (congrArg (c s) (by first | assumption | exact Int.le_antisymm (by omega) (by omega))).trans (hv4)
  refine v_cv c_54_58 km_4_85 rfl (ck_sh hs) (by omega) ⟨⟨rfl, rfl⟩, of_decide_eq_true rfl, rfl⟩ (Nat.le_of_ble_eq_true rfl) (Nat.le_of_ble_eq_true rfl) (s_52 (a1 := a1) (a2 := a2) (a3 := 0) (a4 := y_9) hI hs (show 0 ≤ a1 ∧ a1 ≤ 5 from ha1) (show 0 ≤ a2 ∧ a2 ≤ 5 from ha2) (show 0 ≤ 0 ∧ 0 ≤ 3 from ⟨of_decide_eq_true rfl, of_decide_eq_true rfl⟩) (show 0 ≤ y_9 ∧ y_9 ≤ 9999 from ⟨by first | (clear ha1 ha2 ha4 hq1 hq2 h_1 hv0 h_2 hv1 h_3 hv2 h_4 hv3 h_5 hv4 h_6 hv5 h_7 hv6 h_8 hv7 hq0; omega) | omega, by first | (clear ha1 ha2 ha4 hq1 hq2 h_2 hv1 h_3 hv2 h_4 hv3 h_5 hv4 h_6 hv5 h_7 hv6 h_8 hv7 hq0; omega) | omega⟩) (by omega) (by first | (clear ha1 ha2 ha4 hq1 hq2 h_1 hv0 h_2 hv1 h_3 hv2 h_4 hv3 h_5 hv4 h_6 hv5 h_7 hv6 h_8 hv7 hq0; omega) | omega) (by first | (clear ha1 ha2 ha4 hq2 h_1 hv0 h_2 hv1 h_3 hv2 h_4 hv3 h_5 hv4 hq0; omega) | omega) (fun c_14 hI_15 hF_16 h_17 => (bk_inl ?_)))
  have h_18 : c_14 s (4 * a1 + 0) = c_14 s (4 * a1) := congrArg (c_14 s) (by first | exact q_8baad3eb5 | assumption | exact Int.le_antisymm ((q_79744aec6)) ((q_79744aec6)))
  have h_19 := ir_s_g hI_15 hs (j := 4 * a1) ((q_9f1d5ffdc ha1))
  have h_20 : c_14 s (4 * a2 + 0) = c_14 s (4 * a2) := congrArg (c_14 s) (by first | exact q_8baad3eb5 | assumption | exact Int.le_antisymm ((q_79744aec6)) ((q_79744aec6)))
  have h_21 := ir_s_g hI_15 hs (j := 4 * a2) ((q_9f1d5ffdc ha2))
  refine q_iload c_54_61 rfl (q_iload c_54_63 rfl (v_isub (v := a4 - y_9) c_54_65 rfl (q_istore c_54_66 (Nat.le_of_ble_eq_true rfl) (v_iinc (v := 1) c_54_68 rfl (Nat.le_of_ble_eq_true rfl) (of_decide_eq_true rfl) (q_goto (t := 31) c_54_71 rfl ?_)))))
  have kn_22 : Hid (c_14 s (4 * a1 + 1) = x1) := (hF_16 s (4 * a1 + 1) (fun q => q.elim (fun h => absurd h.2 (ne_g ((q_4994d6793)))) (fun q => q.elim (fun h => absurd h.2 ((q_e5bcc673e))) (fun h => absurd h.2 (ne_l ((q_3178328df ha1 ha2))))))).trans (hv1)
  have kn_23 : Hid (c_14 s (4 * a1 + 2) = x2) := (hF_16 s (4 * a1 + 2) (fun q => q.elim (fun h => absurd h.2 (ne_g ((q_1cdd15b2c)))) (fun q => q.elim (fun h => absurd h.2 ((q_ae83e86ba))) (fun h => absurd h.2 (ne_l ((q_428481d46 ha1 ha2))))))).trans (hv2)
  have kn_24 : Hid (c_14 s (4 * a1 + 3) = x3) := (hF_16 s (4 * a1 + 3) (fun q => q.elim (fun h => absurd h.2 (ne_g ((q_fb9abb0e1)))) (fun q => q.elim (fun h => absurd h.2 ((q_b6789388a))) (fun h => absurd h.2 (ne_l ((q_2771393a8 ha1 ha2))))))).trans (hv3)
  have kn_25 : Hid (c_14 s (4 * a2 + 1) = u1) := (hF_16 s (4 * a2 + 1) (fun q => q.elim (fun h => absurd h.2 ((q_e5bcc673e))) (fun q => q.elim (fun h => absurd h.2 (ne_g ((q_4994d6793)))) (fun h => absurd h.2 (ne_l ((q_60c9feeee ha2))))))).trans (hv5)
  have kn_26 : Hid (c_14 s (4 * a2 + 2) = u2) := (hF_16 s (4 * a2 + 2) (fun q => q.elim (fun h => absurd h.2 ((q_ae83e86ba))) (fun q => q.elim (fun h => absurd h.2 (ne_g ((q_1cdd15b2c)))) (fun h => absurd h.2 (ne_l ((q_27ec1b4d7 ha2))))))).trans (hv6)
  have kn_27 : Hid (c_14 s (4 * a2 + 3) = u3) := (hF_16 s (4 * a2 + 3) (fun q => q.elim (fun h => absurd h.2 ((q_b6789388a))) (fun q => q.elim (fun h => absurd h.2 (ne_g ((q_fb9abb0e1)))) (fun h => absurd h.2 (ne_l ((q_fd9aac8f8 ha2))))))).trans (hv7)
  have hqo_28 : ∀ j : Int, rs s j → ¬ j = 4 * a1 → ¬ j = 4 * a2 → c_14 s j + c_14 s (j + 1) + c_14 s (j + 2) + c_14 s (j + 3) ≤ 9999 := by
    intro j9 hj9 hz0 hz1
    obtain ⟨k9, rfl, hk9⟩ := rs_s hs hj9
    have h_29 := hqo (4 * k9) hj9 (by omega) (by omega)
    have h_30 := ir_s_g hI hs (j := 4 * k9) ((q_9f1d5ffdc hk9))
    have kn_31 : Hid (c_14 s (4 * k9) = c s (4 * k9)) := hF_16 s (4 * k9) (fun q => q.elim (fun h => absurd h.2 (by first | (clear ha1 ha2 ha4 hq1 hq2 h_1 hv0 h_2 hv1 h_3 hv2 h_4 hv3 h_5 hv4 h_6 hv5 h_7 hv6 h_8 hv7 h_19 h_21 h_17 hk9 h_30 hq0; omega) | omega)) (fun q => q.elim (fun h => absurd h.2 (by first | (clear ha1 ha2 ha4 hq1 hq2 h_1 hv0 h_2 hv1 h_3 hv2 h_4 hv3 h_5 hv4 h_6 hv5 h_7 hv6 h_8 hv7 h_19 h_21 h_17 hk9 h_30 hq0; omega) | omega)) (fun h => absurd h.2 (ne_l ((q_4128697c9 ha2 hk9))))))
    have h_32 : c_14 s (4 * k9) = c s (4 * k9) := (hid kn_31)
    have h_33 := ir_s_g hI hs (j := 4 * k9 + 1) ((q_0a2ee6f8f hk9))
    have kn_34 : Hid (c_14 s (4 * k9 + 1) = c s (4 * k9 + 1)) := hF_16 s (4 * k9 + 1) (fun q => q.elim (fun h => absurd h.2 ((q_e5bcc673e))) (fun q => q.elim (fun h => absurd h.2 ((q_e5bcc673e))) (fun h => absurd h.2 (ne_l ((q_8f2481ba6 ha2 hk9))))))
    have h_35 : c_14 s (4 * k9 + 1) = c s (4 * k9 + 1) := (hid kn_34)
    have h_36 := ir_s_g hI hs (j := 4 * k9 + 2) ((q_e07a293a2 hk9))
    have kn_37 : Hid (c_14 s (4 * k9 + 2) = c s (4 * k9 + 2)) := hF_16 s (4 * k9 + 2) (fun q => q.elim (fun h => absurd h.2 ((q_ae83e86ba))) (fun q => q.elim (fun h => absurd h.2 ((q_ae83e86ba))) (fun h => absurd h.2 (ne_l ((q_04ab4010a ha2 hk9))))))
    have h_38 : c_14 s (4 * k9 + 2) = c s (4 * k9 + 2) := (hid kn_37)
    have h_39 := ir_s_g hI hs (j := 4 * k9 + 3) ((q_d09cb0b73 hk9))
    have kn_40 : Hid (c_14 s (4 * k9 + 3) = c s (4 * k9 + 3)) := hF_16 s (4 * k9 + 3) (fun q => q.elim (fun h => absurd h.2 ((q_b6789388a))) (fun q => q.elim (fun h => absurd h.2 ((q_b6789388a))) (fun h => absurd h.2 (ne_l ((q_e782b8c3c ha2 hk9))))))
    have h_41 : c_14 s (4 * k9 + 3) = c s (4 * k9 + 3) := (hid kn_40)
    omega
  refine Wp_ls [(0, .ref sh), (1, vi a1), (2, vi a2), (4, vi (a4 - y_9)), (5, vi 1)] (lsub_cons rfl (lsub_cons rfl (lsub_cons rfl (lsub_cons rfl (lsub_cons rfl lsub_nil))))) ?_
  exact s_54_1 (x0 := c_14 s (4 * a1)) (x1 := x1) (x2 := x2) (x3 := x3) (u0 := c_14 s (4 * a2)) (u1 := u1) (u2 := u2) (u3 := u3) (a4 := a4 - y_9) hI_15 hs (by omega) (by omega) (by omega) (by omega) (by omega) (by omega) hqo_28 rfl ((hid kn_22)) ((hid kn_23)) ((hid kn_24)) rfl ((hid kn_25)) ((hid kn_26)) ((hid kn_27)) (fun c9 y9 hI9 hF9 hy9 => K c9 y9 hI9 (fun a j hm => (hF9 a j (by omega)).trans (hF_16 a j (by omega))) hy9)
set_option maxRecDepth 100000 in
set_option maxHeartbeats 4000000 in
theorem s_54 {sc : List Int32} {d P Q sh s : Nat} {c : ME} {a1 : Int} {a2 : Int} {a3 : Int} {Z : AR → Prop} (hI : Iv 0 (-1) P Q c) (hs : (sh = 37 ∧ s = 38) ∨ (sh = 39 ∧ s = 40)) (ha1 : 0 ≤ a1 ∧ a1 ≤ 5) (ha2 : 0 ≤ a2 ∧ a2 ≤ 5) (ha3 : 0 ≤ a3 ∧ a3 ≤ 99999) (K : ∀ (c2 : ME) (y : Int), Iv 0 (-1) P Q c2 → (∀ (a : Nat) (j : Int), ¬ (a = s) → c2 a j = c a j) → 0 ≤ y ∧ y ≤ 1 → Z (.inl (some (vi y)), Wd P Q P P c2, 0, 0)) : Wp sc (d + 9) 54 0 [(0, .ref sh), (1, vi a1), (2, vi a2), (3, vi a3)] [] (Wd P Q P P c) 0 0 Z := by
  have hP := iv_P hI
  have hQ := iv_Q hI
  have hIo : Iv s (-1) P Q c := iv_open hI
  have hsum_1 := ir_s_r hI hs (by omega) (j := a1) (by omega)
  have h_2 := ir_s_g hI hs (j := 4 * a1) ((q_9f1d5ffdc ha1))
  have h_3 := ir_s_g hI hs (j := 4 * a1 + 1) ((q_0a2ee6f8f ha1))
  have h_4 := ir_s_g hI hs (j := 4 * a1 + 2) ((q_e07a293a2 ha1))
  have h_5 := ir_s_g hI hs (j := 4 * a1 + 3) ((q_d09cb0b73 ha1))
  have hsum_6 := ir_s_r hI hs (by omega) (j := a2) (by omega)
  have h_7 := ir_s_g hI hs (j := 4 * a2) ((q_9f1d5ffdc ha2))
  have h_8 := ir_s_g hI hs (j := 4 * a2 + 1) ((q_0a2ee6f8f ha2))
  have h_9 := ir_s_g hI hs (j := 4 * a2 + 2) ((q_e07a293a2 ha2))
  have h_10 := ir_s_g hI hs (j := 4 * a2 + 3) ((q_d09cb0b73 ha2))
  refine q_iload_n c_54_0 rfl (q_iload_n c_54_1 rfl ?_)
  by_cases h_11 : a1 = a2
  · refine v_ic_eq_t (t := 23) c_54_2 rfl h_11 (q_iconst c_54_23 (v_zret c_54_24 rfl (of_decide_eq_true rfl) ?_))
    have hr_12 : ∀ j : Int, rs s j → c s j + c s (j + 1) + c s (j + 2) + c s (j + 3) ≤ 9999 := by
      intro j9 hj9
      obtain ⟨k9, rfl, hk9⟩ := rs_s hs hj9
      by_cases e_13 : k9 = a1
      · skip
        have h_14 : c s (4 * k9) = c s (4 * a1) := (congrArg (c s) (show 4 * k9 = 4 * a1 from by omega))
        have h_15 : c s (4 * k9 + 1) = c s (4 * a1 + 1) := (congrArg (c s) (show 4 * k9 + 1 = 4 * a1 + 1 from by omega))
        have h_16 : c s (4 * k9 + 2) = c s (4 * a1 + 2) := (congrArg (c s) (show 4 * k9 + 2 = 4 * a1 + 2 from by omega))
        have h_17 : c s (4 * k9 + 3) = c s (4 * a1 + 3) := (congrArg (c s) (show 4 * k9 + 3 = 4 * a1 + 3 from by omega))
        omega
      by_cases e_18 : k9 = a2
      · skip
        have h_19 : c s (4 * k9) = c s (4 * a2) := (congrArg (c s) (show 4 * k9 = 4 * a2 from by omega))
        have h_20 : c s (4 * k9 + 1) = c s (4 * a2 + 1) := (congrArg (c s) (show 4 * k9 + 1 = 4 * a2 + 1 from by omega))
        have h_21 : c s (4 * k9 + 2) = c s (4 * a2 + 2) := (congrArg (c s) (show 4 * k9 + 2 = 4 * a2 + 2 from by omega))
        have h_22 : c s (4 * k9 + 3) = c s (4 * a2 + 3) := (congrArg (c s) (show 4 * k9 + 3 = 4 * a2 + 3 from by omega))
        omega
      have h_23 := iv_r hI s (4 * k9) hj9 (by omega)
      have h_24 := ir_s_g hI hs (j := 4 * k9) ((q_9f1d5ffdc hk9))
      have h_25 : c s (4 * k9) = c s (4 * k9) := rfl
      have h_26 := ir_s_g hI hs (j := 4 * k9 + 1) ((q_0a2ee6f8f hk9))
      have h_27 : c s (4 * k9 + 1) = c s (4 * k9 + 1) := rfl
      have h_28 := ir_s_g hI hs (j := 4 * k9 + 2) ((q_e07a293a2 hk9))
      have h_29 : c s (4 * k9 + 2) = c s (4 * k9 + 2) := rfl
      have h_30 := ir_s_g hI hs (j := 4 * k9 + 3) ((q_d09cb0b73 hk9))
      have h_31 : c s (4 * k9 + 3) = c s (4 * k9 + 3) := rfl
      omega
    have hI_32 := iv_close hIo hr_12
    exact K c 0 hI_32 (fun a j hm => rfl) ⟨of_decide_eq_true rfl, of_decide_eq_true rfl⟩
  · refine v_ic_eq_f (t := 23) c_54_2 rfl ⟨h_11, ⟨(lel ha1.1 rfl), (ler ha1.2 rfl)⟩, (lel ha2.1 rfl), (ler ha2.2 rfl)⟩ (q_aload_n c_54_5 rfl (q_iload_n c_54_6 rfl (v_cv c_54_7 km_4_38 rfl (ck_sh hs) (by omega) ⟨⟨rfl, rfl⟩, of_decide_eq_true rfl, rfl⟩ (Nat.le_of_ble_eq_true rfl) (Nat.le_of_ble_eq_true rfl) (s_43 (v1 := c s (4 * a1)) (v2 := c s (4 * a1 + 1)) (v3 := c s (4 * a1 + 2)) (v4 := c s (4 * a1 + 3)) (r := c s (4 * a1 + 1) + c s (4 * a1 + 2) + c s (4 * a1 + 3) + c s (4 * a1)) (a1 := a1) hIo hs (show 0 ≤ a1 ∧ a1 ≤ 5 from ha1) (rfl) (rfl) (rfl) (rfl) (by omega) (bk_inl (q_iload_n c_54_10 rfl ?_))))))
    by_cases h_33 : c s (4 * a1 + 1) + c s (4 * a1 + 2) + c s (4 * a1 + 3) + c s (4 * a1) < a3
    · refine v_ic_lt_t (t := 23) c_54_11 rfl ⟨(q_e052ef40e h_2 h_3 h_4 h_5), h_33, (ler ha3.2 rfl)⟩ (q_iconst c_54_23 (v_zret c_54_24 rfl (of_decide_eq_true rfl) ?_))
      have hr_34 : ∀ j : Int, rs s j → c s j + c s (j + 1) + c s (j + 2) + c s (j + 3) ≤ 9999 := by
        intro j9 hj9
        obtain ⟨k9, rfl, hk9⟩ := rs_s hs hj9
        by_cases e_35 : k9 = a1
        · skip
          have h_36 : c s (4 * k9) = c s (4 * a1) := (congrArg (c s) (show 4 * k9 = 4 * a1 from by first | assumption | exact Int.le_antisymm (by omega) (by omega)))
          have h_37 : c s (4 * k9 + 1) = c s (4 * a1 + 1) := (congrArg (c s) (show 4 * k9 + 1 = 4 * a1 + 1 from by first | assumption | exact Int.le_antisymm (by omega) (by omega)))
          have h_38 : c s (4 * k9 + 2) = c s (4 * a1 + 2) := (congrArg (c s) (show 4 * k9 + 2 = 4 * a1 + 2 from by first | assumption | exact Int.le_antisymm (by omega) (by omega)))
          have h_39 : c s (4 * k9 + 3) = c s (4 * a1 + 3) := (congrArg (c s) (show 4 * k9 + 3 = 4 * a1 + 3 from by first | assumption | exact Int.le_antisymm (by omega) (by omega)))
          omega
        by_cases e_40 : k9 = a2
        · skip
          have h_41 : c s (4 * k9) = c s (4 * a2) := (congrArg (c s) (show 4 * k9 = 4 * a2 from by first | assumption | exact Int.le_antisymm (by omega) (by omega)))
          have h_42 : c s (4 * k9 + 1) = c s (4 * a2 + 1) := (congrArg (c s) (show 4 * k9 + 1 = 4 * a2 + 1 from by first | assumption | exact Int.le_antisymm (by omega) (by omega)))
          have h_43 : c s (4 * k9 + 2) = c s (4 * a2 + 2) := (congrArg (c s) (show 4 * k9 + 2 = 4 * a2 + 2 from by first | assumption | exact Int.le_antisymm (by omega) (by omega)))
          have h_44 : c s (4 * k9 + 3) = c s (4 * a2 + 3) := (congrArg (c s) (show 4 * k9 + 3 = 4 * a2 + 3 from by first | assumption | exact Int.le_antisymm (by omega) (by omega)))
          omega
        have h_45 := iv_r hI s (4 * k9) hj9 (by omega)
        have h_46 := ir_s_g hI hs (j := 4 * k9) ((q_9f1d5ffdc hk9))
        have h_47 : c s (4 * k9) = c s (4 * k9) := rfl
        have h_48 := ir_s_g hI hs (j := 4 * k9 + 1) ((q_0a2ee6f8f hk9))
        have h_49 : c s (4 * k9 + 1) = c s (4 * k9 + 1) := rfl
        have h_50 := ir_s_g hI hs (j := 4 * k9 + 2) ((q_e07a293a2 hk9))
        have h_51 : c s (4 * k9 + 2) = c s (4 * k9 + 2) := rfl
        have h_52 := ir_s_g hI hs (j := 4 * k9 + 3) ((q_d09cb0b73 hk9))
        have h_53 : c s (4 * k9 + 3) = c s (4 * k9 + 3) := rfl
        omega
      have hI_54 := iv_close hIo hr_34
      exact K c 0 hI_54 (fun a j hm => rfl) ⟨of_decide_eq_true rfl, of_decide_eq_true rfl⟩
    · refine v_ic_lt_f (t := 23) c_54_11 rfl ⟨(lel ha3.1 rfl), (Int.not_lt.mp h_33), (q_6719c4bfd hsum_1)⟩ (q_aload_n c_54_14 rfl (q_iload_n c_54_15 rfl (q_iload_n c_54_16 rfl (v_cv c_54_17 km_4_81 rfl (ck_sh hs) (by omega) ⟨⟨rfl, rfl⟩, of_decide_eq_true rfl, rfl⟩ (Nat.le_of_ble_eq_true rfl) (Nat.le_of_ble_eq_true rfl) (q_aload_n c_50_0 rfl (q_iload_n c_50_1 rfl (v_cv c_50_2 km_4_38 rfl (ck_sh hs) (by omega) ⟨⟨rfl, rfl⟩, of_decide_eq_true rfl, rfl⟩ (Nat.le_of_ble_eq_true rfl) (Nat.le_of_ble_eq_true rfl) (s_43 (v1 := c s (4 * a2)) (v2 := c s (4 * a2 + 1)) (v3 := c s (4 * a2 + 2)) (v4 := c s (4 * a2 + 3)) (r := c s (4 * a2 + 1) + c s (4 * a2 + 2) + c s (4 * a2 + 3) + c s (4 * a2)) (a1 := a2) hIo hs (show 0 ≤ a2 ∧ a2 ≤ 5 from ha2) (rfl) (rfl) (rfl) (rfl) (by omega) ?_))))))))
      refine bk_inl (q_iload_n c_50_5 rfl (v_iadd (v := a3 + c s (4 * a2 + 1) + c s (4 * a2 + 2) + c s (4 * a2 + 3) + c s (4 * a2)) c_50_6 (by first | (clear ha1 ha2 ha3 h_2 h_3 h_4 h_5 hsum_1 h_7 h_8 h_9 h_10 hsum_6 h_33 h_11; omega) | omega) (v_sip c_50_7 (of_decide_eq_true rfl) ?_)))
      by_cases h_55 : a3 + c s (4 * a2 + 1) + c s (4 * a2 + 2) + c s (4 * a2 + 3) + c s (4 * a2) > 9999
      · refine v_ic_gt_t (t := 17) c_50_10 rfl ⟨of_decide_eq_true rfl, h_55, (q_5f45bd9da ha3 hsum_6)⟩ (q_iconst c_50_17 (v_zret c_50_18 rfl (of_decide_eq_true rfl) (bk_inl (v_if_ne_f (t := 25) c_54_20 rfl (of_decide_eq_true rfl) (q_iconst c_54_23 (v_zret c_54_24 rfl (of_decide_eq_true rfl) ?_))))))
        have hr_56 : ∀ j : Int, rs s j → c s j + c s (j + 1) + c s (j + 2) + c s (j + 3) ≤ 9999 := by
          intro j9 hj9
          obtain ⟨k9, rfl, hk9⟩ := rs_s hs hj9
          by_cases e_57 : k9 = a1
          · skip
            have h_58 : c s (4 * k9) = c s (4 * a1) := (congrArg (c s) (show 4 * k9 = 4 * a1 from by first | assumption | exact Int.le_antisymm (by omega) (by omega)))
            have h_59 : c s (4 * k9 + 1) = c s (4 * a1 + 1) := (congrArg (c s) (show 4 * k9 + 1 = 4 * a1 + 1 from by first | assumption | exact Int.le_antisymm (by omega) (by omega)))
            have h_60 : c s (4 * k9 + 2) = c s (4 * a1 + 2) := (congrArg (c s) (show 4 * k9 + 2 = 4 * a1 + 2 from by first | assumption | exact Int.le_antisymm (by omega) (by omega)))
            have h_61 : c s (4 * k9 + 3) = c s (4 * a1 + 3) := (congrArg (c s) (show 4 * k9 + 3 = 4 * a1 + 3 from by first | assumption | exact Int.le_antisymm (by omega) (by omega)))
            omega
          by_cases e_62 : k9 = a2
          · skip
            have h_63 : c s (4 * k9) = c s (4 * a2) := (congrArg (c s) (show 4 * k9 = 4 * a2 from by first | assumption | exact Int.le_antisymm (by omega) (by omega)))
            have h_64 : c s (4 * k9 + 1) = c s (4 * a2 + 1) := (congrArg (c s) (show 4 * k9 + 1 = 4 * a2 + 1 from by first | assumption | exact Int.le_antisymm (by omega) (by omega)))
            have h_65 : c s (4 * k9 + 2) = c s (4 * a2 + 2) := (congrArg (c s) (show 4 * k9 + 2 = 4 * a2 + 2 from by first | assumption | exact Int.le_antisymm (by omega) (by omega)))
            have h_66 : c s (4 * k9 + 3) = c s (4 * a2 + 3) := (congrArg (c s) (show 4 * k9 + 3 = 4 * a2 + 3 from by first | assumption | exact Int.le_antisymm (by omega) (by omega)))
            omega
          have h_67 := iv_r hI s (4 * k9) hj9 (by omega)
          have h_68 := ir_s_g hI hs (j := 4 * k9) ((q_9f1d5ffdc hk9))
          have h_69 : c s (4 * k9) = c s (4 * k9) := rfl
          have h_70 := ir_s_g hI hs (j := 4 * k9 + 1) ((q_0a2ee6f8f hk9))
          have h_71 : c s (4 * k9 + 1) = c s (4 * k9 + 1) := rfl
          have h_72 := ir_s_g hI hs (j := 4 * k9 + 2) ((q_e07a293a2 hk9))
          have h_73 : c s (4 * k9 + 2) = c s (4 * k9 + 2) := rfl
          have h_74 := ir_s_g hI hs (j := 4 * k9 + 3) ((q_d09cb0b73 hk9))
          have h_75 : c s (4 * k9 + 3) = c s (4 * k9 + 3) := rfl
          omega
        have hI_76 := iv_close hIo hr_56
        exact K c 0 hI_76 (fun a j hm => rfl) ⟨of_decide_eq_true rfl, of_decide_eq_true rfl⟩
      · refine v_ic_gt_f (t := 17) c_50_10 rfl ⟨(q_62ebcb2f9 h_10 h_7 h_8 h_9 ha3), (Int.not_lt.mp h_55), of_decide_eq_true rfl⟩ (q_iconst c_50_13 (q_goto (t := 18) c_50_14 rfl (v_zret c_50_18 rfl (of_decide_eq_true rfl) (bk_inl (v_if_ne_t (t := 25) c_54_20 rfl (of_decide_eq_true rfl) (q_iload_n c_54_25 rfl (q_istore c_54_26 (Nat.le_of_ble_eq_true rfl) ?_)))))))
        refine q_iconst c_54_28 (q_istore c_54_29 (Nat.le_of_ble_eq_true rfl) ?_)
        have hqo_77 : ∀ j : Int, rs s j → ¬ j = 4 * a1 → ¬ j = 4 * a2 → c s j + c s (j + 1) + c s (j + 2) + c s (j + 3) ≤ 9999 := by
          intro j9 hj9 hz0 hz1
          obtain ⟨k9, rfl, hk9⟩ := rs_s hs hj9
          have h_78 := iv_r hI s (4 * k9) hj9 (by omega)
          have h_79 := ir_s_g hI hs (j := 4 * k9) ((q_9f1d5ffdc hk9))
          have h_80 : c s (4 * k9) = c s (4 * k9) := rfl
          have h_81 := ir_s_g hI hs (j := 4 * k9 + 1) ((q_0a2ee6f8f hk9))
          have h_82 : c s (4 * k9 + 1) = c s (4 * k9 + 1) := rfl
          have h_83 := ir_s_g hI hs (j := 4 * k9 + 2) ((q_e07a293a2 hk9))
          have h_84 : c s (4 * k9 + 2) = c s (4 * k9 + 2) := rfl
          have h_85 := ir_s_g hI hs (j := 4 * k9 + 3) ((q_d09cb0b73 hk9))
          have h_86 : c s (4 * k9 + 3) = c s (4 * k9 + 3) := rfl
          omega
        refine Wp_ls [(0, .ref sh), (1, vi a1), (2, vi a2), (4, vi a3), (5, vi 0)] (lsub_cons rfl (lsub_cons rfl (lsub_cons rfl (lsub_cons rfl (lsub_cons rfl lsub_nil))))) ?_
        exact s_54_0 (x0 := c s (4 * a1)) (x1 := c s (4 * a1 + 1)) (x2 := c s (4 * a1 + 2)) (x3 := c s (4 * a1 + 3)) (u0 := c s (4 * a2)) (u1 := c s (4 * a2 + 1)) (u2 := c s (4 * a2 + 2)) (u3 := c s (4 * a2 + 3)) (a4 := a3) hIo hs (by omega) (by omega) (by omega) (by omega) (by omega) (by omega) hqo_77 rfl rfl rfl rfl rfl rfl rfl rfl (fun c9 y9 hI9 hF9 hy9 => K c9 y9 hI9 (fun a j hm => (hF9 a j (by omega)).trans (rfl)) hy9)

