/-! ===== contracts 13 ===== -/
theorem q_d70967205 {x0 x1 x2 x3 : Int} (f0 : (x0 < x1 ∧ x2 = x3) ∨ (x1 ≤ x0 ∧ x2 = 0)) (f1 : x2 = 43) : ¬ x3 = 32 := by omega
theorem q_51fc41203 {x0 : Int} (f0 : x0 = 43) : x0 = 43 := by omega
theorem q_f50714d1a {x0 x1 x2 x3 : Int} (f0 : (x0 < x1 ∧ x2 = x3) ∨ (x1 ≤ x0 ∧ x2 = 0)) (f1 : x2 = 43) : x0 + 1 ≤ x1 := by omega
theorem q_0892e72fe {x0 x1 x2 x3 : Int} (f0 : (x0 < x1 ∧ x2 = x3) ∨ (x1 ≤ x0 ∧ x2 = 0)) (f1 : ¬ (x2 ≠ 45)) : ¬ x3 = 32 := by omega
theorem q_e7493e343 {x0 : Int} (f0 : ¬ (x0 ≠ 45)) : ¬ x0 = 43 := by omega
theorem q_4cc3156b3 {x0 x1 x2 x3 : Int} (f0 : (x0 < x1 ∧ x2 = x3) ∨ (x1 ≤ x0 ∧ x2 = 0)) (f1 : ¬ (x2 ≠ 45)) : x0 + 1 ≤ x1 := by omega
theorem c_174_11 : mLk 174 11 = some (.aload_n 0, 1) := rfl
theorem c_174_12 : mLk 174 12 = some (.invokevirtual 114, 3) := rfl
theorem c_174_15 : mLk 174 15 = some (.bipush 43, 2) := rfl
theorem c_174_17 : mLk 174 17 = some (.if_icmp .eq 12, 3) := rfl
theorem c_174_29 : mLk 174 29 = some (.aload_n 0, 1) := rfl
theorem c_174_30 : mLk 174 30 = some (.invokevirtual 114, 3) := rfl
theorem c_174_33 : mLk 174 33 = some (.bipush 43, 2) := rfl
theorem c_174_35 : mLk 174 35 = some (.if_icmp .ne 7, 3) := rfl
theorem c_174_38 : mLk 174 38 = some (.iconst 2, 1) := rfl
theorem c_174_39 : mLk 174 39 = some (.goto 4, 3) := rfl
theorem c_174_43 : mLk 174 43 = some (.istore_n 1, 1) := rfl
theorem c_174_44 : mLk 174 44 = some (.aload_n 0, 1) := rfl
theorem c_174_45 : mLk 174 45 = some (.dup, 1) := rfl
theorem c_174_46 : mLk 174 46 = some (.getfield 108, 3) := rfl
theorem c_174_49 : mLk 174 49 = some (.iconst 1, 1) := rfl
theorem c_174_50 : mLk 174 50 = some (.iadd, 1) := rfl
theorem c_174_51 : mLk 174 51 = some (.putfield 108, 3) := rfl
theorem c_174_54 : mLk 174 54 = some (.aload_n 0, 1) := rfl
theorem c_174_55 : mLk 174 55 = some (.invokevirtual 239, 3) := rfl
theorem c_174_58 : mLk 174 58 = some (.aload_n 0, 1) := rfl
theorem c_174_59 : mLk 174 59 = some (.iload_n 1, 1) := rfl
theorem c_174_60 : mLk 174 60 = some (.iconst 0, 1) := rfl
theorem c_174_61 : mLk 174 61 = some (.invokevirtual 242, 3) := rfl
theorem c_174_64 : mLk 174 64 = some (.goto (-60), 3) := rfl
theorem c_174_20 : mLk 174 20 = some (.aload_n 0, 1) := rfl
theorem c_174_21 : mLk 174 21 = some (.invokevirtual 114, 3) := rfl
theorem c_174_24 : mLk 174 24 = some (.bipush 45, 2) := rfl
theorem c_174_26 : mLk 174 26 = some (.if_icmp .ne 41, 3) := rfl
theorem c_174_42 : mLk 174 42 = some (.iconst 3, 1) := rfl
set_option maxRecDepth 100000 in
set_option maxHeartbeats 4000000 in
theorem s_174_l {sc : List Int32} {e : Int} {d u P Q : Nat} {c : ME} {o : Int} {Z : AR → Prop} (hI : Iv u e P Q c) (ho : 0 ≤ o ∧ o ≤ 6) (hW : Nw c) (hq0 : (c 41 5 = (-1))) (hq1 : (c 41 4 ≤ c 41 3)) (hq2 : (c 41 3 ≤ 150)) (hq3 : (c 41 29 ≤ c 41 4)) (hq4 : (c 41 7 = o)) (H174 : ∀ (d9 : Nat) (c : ME) (Z : AR → Prop), d ≤ d9 → o + 1 ≤ 6 → Iv u e P Q c → Nw c → ((c 41 5 = (-1))) → ((c 41 4 ≤ c 41 3)) → ((c 41 3 ≤ 150)) → ((c 41 29 ≤ c 41 4)) → (c 41 7 = o + 1) → (∀ c2 : ME, Iv u e P Q c2 → (∀ (a : Nat) (j : Int), ¬ ((a = 41 ∧ j = 4) ∨ (a = 41 ∧ j = 5) ∨ (a = 41 ∧ j = 6) ∨ (a = 41 ∧ j = 7) ∨ (a = 41 ∧ j = 29) ∨ a = 50 ∨ a = 51) → c2 a j = c a j) → Nw c2 → ((c2 41 4 ≥ c 41 4)) → ((c2 41 7 = c 41 7)) → ((c 41 4 + c2 41 29 ≤ c 41 29 + c2 41 4)) → ((c2 41 5 < (-1)) ∨ (c2 41 5 > (-1)) ∨ (c2 41 4 ≤ c 41 3)) → ((c2 41 5 < (-1)) ∨ (c2 41 5 > (-1)) ∨ (Nh c2 = Nh c + 1)) → Z (.inl none, Wd P Q P P c2, 0, 0)) → Wp sc (d9 + 12) 174 0 [(0, .ref 41)] [] (Wd P Q P P c) 0 0 Z) (K : ∀ (c2 : ME), Iv u e P Q c2 → (∀ (a : Nat) (j : Int), ¬ ((a = 41 ∧ j = 4) ∨ (a = 41 ∧ j = 5) ∨ (a = 41 ∧ j = 6) ∨ (a = 41 ∧ j = 7) ∨ (a = 41 ∧ j = 29) ∨ a = 50 ∨ a = 51) → c2 a j = c a j) → Nw c2 → ((c2 41 4 ≥ c 41 4)) → ((c2 41 7 = c 41 7)) → ((c 41 4 + c2 41 29 ≤ c 41 29 + c2 41 4)) → ((c2 41 5 < (-1)) ∨ (c2 41 5 > (-1)) ∨ (c2 41 4 ≤ c 41 3)) → ((c2 41 5 < (-1)) ∨ (c2 41 5 > (-1)) ∨ (Nh c2 = Nh c + 1)) → Z (.inl (none), Wd P Q P P c2, 0, 0)) : ∀ n : Nat, (∀ (c2 : ME), Iv u e P Q c2 → (∀ (a : Nat) (j : Int), ¬ ((a = 41 ∧ j = 4) ∨ (a = 41 ∧ j = 5) ∨ (a = 41 ∧ j = 6) ∨ (a = 41 ∧ j = 7) ∨ (a = 41 ∧ j = 29) ∨ a = 50 ∨ a = 51) → c2 a j = c a j) → Nw c2 → ((c2 41 4 ≥ c 41 4)) → ((c2 41 7 = c 41 7)) → ((c 41 4 + c2 41 29 ≤ c 41 29 + c2 41 4)) → ((c2 41 5 < (-1)) ∨ (c2 41 5 > (-1)) ∨ (c2 41 4 ≤ c 41 3)) → ((c2 41 5 < (-1)) ∨ (c2 41 5 > (-1)) ∨ (Nh c2 = Nh c + 1)) → 1211 - 2 * c2 41 4 < (n : Int) → Wp sc (d + 16) 174 4 [(0, .ref 41)] [] (Wd P Q P P c2) 0 0 Z) := by
  intro n
  induction n with
  | zero => exact (by intro c2 hI2 hF hW2 hx0 hx1 hx2 hx3 hx4 hm9; have hP := iv_P hI; have hQ := iv_Q hI; have h_139 := ir_41_4 hI2; exfalso; omega)
  | succ n ih =>
    have hP := iv_P hI
    have hQ := iv_Q hI
    intro c2 hI2 hF hW2 hx0 hx1 hx2 hx3 hx4 hm9
    have h_1 := ir_41_4 hI
    have h_2 := ir_41_4 hI2
    have h_3 := ir_41_7 hI
    have h_4 := ir_41_7 hI2
    have h_5 := ir_41_29 hI
    have h_6 := ir_41_29 hI2
    have h_7 := ir_41_3 hI
    have h_8 := ir_41_5 hI2
    have hnn := nw_nn hW (ir_41_29 hI).1
    refine q_aload_n c_174_4 rfl (v_cv c_174_5 km_8_131 rfl rfl (Nat.le_of_ble_eq_true rfl) ⟨⟨rfl, rfl⟩, Nat.le_of_ble_eq_true rfl, rfl⟩ (Nat.le_of_ble_eq_true rfl) (Nat.le_of_ble_eq_true rfl) (q_aload_n c_152_0 rfl (v_gi (z := 5) (v := c2 41 5) c_152_1 kf_8_102 rfl (Nat.le_of_ble_eq_true rfl) rfl rfl rfl (q_iconst c_152_4 ?_))))
    by_cases h_9 : c2 41 5 ≠ (-1)
    · refine v_ic_ne_t (t := 12) c_152_5 rfl ⟨h_9, ⟨(lel h_8.1 rfl), (ler h_8.2 rfl)⟩, of_decide_eq_true rfl, of_decide_eq_true rfl⟩ (q_iconst c_152_12 (v_zret c_152_13 rfl (of_decide_eq_true rfl) (bk_inl (v_if_eq_t (t := 67) c_174_8 rfl (of_decide_eq_true rfl) (q_vret rfl rfl ?_)))))
      exact K c2 hI2 (fun a j hm => hF a j hm) hW2 (by first | (clear ho hq0 hq1 hq2 hq3 hq4 hx1 hx2 h_1 h_2 h_3 h_4 h_5 h_6 h_7 h_8 hnn hx3 hx4 h_9; omega) | omega) (by first | (clear ho hq0 hq1 hq2 hq3 hq4 hx0 hx2 h_1 h_2 h_3 h_4 h_5 h_6 h_7 h_8 hnn hx3 hx4 h_9; omega) | omega) (by first | (clear ho hq0 hq1 hq2 hq3 hq4 hx0 hx1 h_1 h_2 h_3 h_4 h_5 h_6 h_7 h_8 hnn hx3 hx4 h_9; omega) | omega) (Or.inr (Or.inl ((q_2c2c046ea h_8 h_9)))) (Or.inr (Or.inl ((q_2c2c046ea h_8 h_9))))
    · refine v_ic_ne_f (t := 12) c_152_5 rfl (Decidable.not_not.mp h_9) (q_iconst c_152_8 (q_goto (t := 13) c_152_9 rfl (v_zret c_152_13 rfl (of_decide_eq_true rfl) (bk_inl (v_if_eq_f (t := 67) c_174_8 rfl (of_decide_eq_true rfl) (q_aload_n c_174_11 rfl ?_))))))
      have kn_10 : Hid (c2 41 3 = c 41 3) := hF 41 3 qn_d31ba9b5e
      have h_11 := ir_43 hI (c2 41 4)
      have h_12 := nx_be (b := c 43) (e := c 41 3) (a := c2 41 4) (by first | (clear ho hq0 hq1 hq2 hq3 hq4 hx0 hx1 hx2 h_1 h_2 h_3 h_4 h_5 h_6 h_7 hnn h_11 hx4; omega) | omega)
      have h_13 := ir_43 hI (nx (c 43) (c 41 3) (c2 41 4))
      have h_14 := nx_n (b := c 43) (e := c 41 3) (a := c2 41 4)
      have h_15 := hb_or (b := c 43) (e := c 41 3) (r := (nx (c 43) (c 41 3) (c2 41 4)))
      have h_16 := hb_bd (b := c 43) (e := c 41 3) (r := (nx (c 43) (c 41 3) (c2 41 4))) (lo := -2147483648) (hi := 2147483647) h_13 (of_decide_eq_true rfl)
      refine v_cv c_174_12 km_8_114 rfl rfl (Nat.le_of_ble_eq_true rfl) ⟨⟨rfl, rfl⟩, Nat.le_of_ble_eq_true rfl, rfl⟩ (Nat.le_of_ble_eq_true rfl) (Nat.le_of_ble_eq_true rfl) (f_154 (e1 := c 41 3) (a9 := c2 41 4) (B := c 43) (r8 := (nx (c 43) (c 41 3) (c2 41 4))) (r := (hb (c 43) (c 41 3) (nx (c 43) (c 41 3) (c2 41 4)))) hI2 ((hid kn_10)) (rfl) (fun j => hF 43 j qn_9b8df3fcd) rfl rfl (fun c_17 hI_18 hF_19 h_20 => (bk_inl (v_bip c_174_15 (of_decide_eq_true rfl) ?_))))
      by_cases h_21 : (hb (c 43) (c 41 3) (nx (c 43) (c 41 3) (c2 41 4))) = 43
      · refine v_ic_eq_t (t := 29) c_174_17 rfl h_21 (q_aload_n c_174_29 rfl ?_)
        have kn_22 : Hid (c_17 41 3 = c 41 3) := (hF_19 41 3 (fun h => absurd h.2 (ni rfl))).trans (hid kn_10)
        refine v_cv c_174_30 km_8_114 rfl rfl (Nat.le_of_ble_eq_true rfl) ⟨⟨rfl, rfl⟩, Nat.le_of_ble_eq_true rfl, rfl⟩ (Nat.le_of_ble_eq_true rfl) (Nat.le_of_ble_eq_true rfl) (f_154 (e1 := c 41 3) (a9 := (nx (c 43) (c 41 3) (c2 41 4))) (B := c 43) (r8 := (nx (c 43) (c 41 3) (c2 41 4))) (r := (hb (c 43) (c 41 3) (nx (c 43) (c 41 3) (c2 41 4)))) hI_18 ((hid kn_22)) ((h_20)) (fun j => (hF_19 43 j (fun h => absurd h.1 (nn rfl))).trans (hF 43 j qn_9b8df3fcd)) (nx_z (Or.inr ((q_d70967205 h_15 h_21)))) rfl (fun c_23 hI_24 hF_25 h_26 => (bk_inl (v_bip c_174_33 (of_decide_eq_true rfl) (v_ic_ne_f (t := 42) c_174_35 rfl ((q_51fc41203 h_21)) (q_iconst c_174_38 (q_goto (t := 43) c_174_39 rfl (q_istore_n c_174_43 (Nat.le_of_ble_eq_true rfl) (q_aload_n c_174_44 rfl ?_)))))))))
        refine q_dup c_174_45 rfl (v_gi (z := 4) (v := (nx (c 43) (c 41 3) (c2 41 4))) c_174_46 kf_8_108 rfl (Nat.le_of_ble_eq_true rfl) rfl rfl (h_26) (q_iconst c_174_49 (v_iadd (v := (nx (c 43) (c 41 3) (c2 41 4)) + 1) c_174_50 rfl (v_pi (z := 4) c_174_51 kf_8_108 rfl (Nat.le_of_ble_eq_true rfl) rfl rfl rfl (of_decide_eq_true rfl) (q_aload_n c_174_54 rfl ?_)))))
        have kn_27 : Hid (c_17 41 5 = c2 41 5) := hF_19 41 5 (fun h => absurd h.2 (ni rfl))
        have kn_28 : Hid (c_23 41 5 = c2 41 5) := (hF_25 41 5 (fun h => absurd h.2 (ni rfl))).trans (hid kn_27)
        have hI_29 := iw_41_4 (v := (nx (c 43) (c 41 3) (c2 41 4)) + 1) hI_24 ⟨(rgp_l (rg_be h_12 (h_2.1) (h_7.2)).1 (of_decide_eq_true rfl)), (rgp_h (rg_be h_12 (h_2.1) (h_7.2)).2 (of_decide_eq_true rfl))⟩
        have h_30 : (up c_23 41 4 ((nx (c 43) (c 41 3) (c2 41 4)) + 1)) 41 5 = c2 41 5 := ((up_n (ni rfl)).trans (hid kn_28))
        have kn_31 : Hid (c_23 41 3 = c 41 3) := (hF_25 41 3 (fun h => absurd h.2 (ni rfl))).trans (hid kn_22)
        have h_32 : (up c_23 41 4 ((nx (c 43) (c 41 3) (c2 41 4)) + 1)) 41 3 = c 41 3 := ((up_n (ni rfl)).trans (hid kn_31))
        have h_33 : (up c_23 41 4 ((nx (c 43) (c 41 3) (c2 41 4)) + 1)) 41 4 = (nx (c 43) (c 41 3) (c2 41 4)) + 1 := (up_e rfl)
        have kn_34 : Hid (c_17 41 29 = c2 41 29) := hF_19 41 29 (fun h => absurd h.2 (ni rfl))
        have kn_35 : Hid (c_23 41 29 = c2 41 29) := (hF_25 41 29 (fun h => absurd h.2 (ni rfl))).trans (hid kn_34)
        have h_36 : (up c_23 41 4 ((nx (c 43) (c 41 3) (c2 41 4)) + 1)) 41 29 = c2 41 29 := ((up_n (ni rfl)).trans (hid kn_35))
        have kn_37 : Hid (c_17 41 7 = c2 41 7) := hF_19 41 7 (fun h => absurd h.2 (ni rfl))
        have kn_38 : Hid (c_23 41 7 = c2 41 7) := (hF_25 41 7 (fun h => absurd h.2 (ni rfl))).trans (hid kn_37)
        have h_39 : (up c_23 41 4 ((nx (c 43) (c 41 3) (c2 41 4)) + 1)) 41 7 = c2 41 7 := ((up_n (ni rfl)).trans (hid kn_38))
        obtain ⟨hW_40, hN_41⟩ : Nw (up c_23 41 4 ((nx (c 43) (c 41 3) (c2 41 4)) + 1)) ∧ Nh (up c_23 41 4 ((nx (c 43) (c 41 3) (c2 41 4)) + 1)) = Nh c2 := nh_fr hW2 (fun j => (up_c (nn rfl)).trans ((hF_25 50 j (fun h => absurd h.1 (nn rfl))).trans (hF_19 50 j (fun h => absurd h.1 (nn rfl))))) (fun j => (up_c (nn rfl)).trans ((hF_25 51 j (fun h => absurd h.1 (nn rfl))).trans (hF_19 51 j (fun h => absurd h.1 (nn rfl))))) ((up_n (ni rfl)).trans ((hF_25 41 29 (fun h => absurd h.2 (ni rfl))).trans (hF_19 41 29 (fun h => absurd h.2 (ni rfl)))))
        refine v_cv c_174_55 km_8_239 rfl rfl (Nat.le_of_ble_eq_true rfl) ⟨⟨rfl, rfl⟩, Nat.le_of_ble_eq_true rfl, rfl⟩ (Nat.le_of_ble_eq_true rfl) (Nat.le_of_ble_eq_true rfl) (s_173 (o := o) hI_29 (show 0 ≤ o ∧ o ≤ 6 from by omega) hW_40 ((q_65c5ff97d h_8 h_9)) ((q_f50714d1a h_15 h_21)) ((q_7024b37ce hq2)) (by first | (clear ho hq0 hq1 hq2 hq4 hx0 hx1 h_1 h_2 h_3 h_4 h_5 h_6 h_7 h_8 hnn h_9 h_11 h_13 h_16 h_21 hx3 hx4 h_14 h_15; omega) | omega) (by first | (clear ho hq0 hq1 hq2 hq3 hx0 hx2 h_1 h_2 h_3 h_4 h_5 h_6 h_7 h_8 hnn h_9 h_11 h_12 h_13 h_16 h_21 hx3 hx4 h_14 h_15; omega) | omega) H174 (fun c_42 hI_43 hF_44 hW_45 h_46 h_47 h_48 h_49 h_50 => (bk_inl ?_)))
        have h_51 := ir_41_4 hI_43
        have h_52 := ir_41_7 hI_43
        have h_53 := ir_41_29 hI_43
        have h_54 := ir_41_5 hI_43
        refine q_aload_n c_174_58 rfl (q_iload_n c_174_59 rfl (q_iconst c_174_60 (v_cv c_174_61 km_8_242 rfl rfl (Nat.le_of_ble_eq_true rfl) ⟨⟨rfl, rfl⟩, Nat.le_of_ble_eq_true rfl, rfl⟩ (Nat.le_of_ble_eq_true rfl) (Nat.le_of_ble_eq_true rfl) (s_170 (a1 := 2) (a2 := 0) hI_43 (show 0 ≤ 2 ∧ 2 ≤ 8 from ⟨of_decide_eq_true rfl, of_decide_eq_true rfl⟩) (show 0 ≤ 0 ∧ 0 ≤ 999 from ⟨of_decide_eq_true rfl, of_decide_eq_true rfl⟩) hW_45 (by omega) (by omega) (Or.inr (Or.inr (Or.inl (by first | decide | omega)))) (fun c_55 hI_56 hF_57 hW_58 h_59 h_60 h_61 h_62 => (bk_inl ?_))))))
        have h_63 := ir_41_29 hI_56
        refine q_goto (t := 4) c_174_64 rfl (Wp_ls [(0, .ref 41)] (lsub_cons rfl lsub_nil) ?_)
        have kn_64 : Hid (c_55 41 4 = c_42 41 4) := hF_57 41 4 qn_fcc0aaabe
        have h_65 : c_55 41 4 = c_42 41 4 := (hid kn_64)
        have kn_66 : Hid (c_55 41 5 = c_42 41 5) := hF_57 41 5 qn_c65a44569
        have h_67 : c_55 41 5 = c_42 41 5 := (hid kn_66)
        have kn_68 : Hid (c_55 41 7 = c_42 41 7) := hF_57 41 7 qn_5700af53f
        have h_69 : c_55 41 7 = c_42 41 7 := (hid kn_68)
        exact ih c_55 hI_56 (fun a j hm => (hF_57 a j (qv_d7b4eb562 hm)).trans ((hF_44 a j hm).trans ((up_b (Decidable.or_iff_not_imp_left.mpr (fun h1 h2 => hm (Or.inl ⟨Decidable.not_not.mp h1, h2⟩)))).trans ((hF_25 a j (fun h => hm (Or.inl h))).trans ((hF_19 a j (fun h => hm (Or.inl h))).trans (hF a j hm)))))) hW_58 (by first | (clear ho hq0 hq1 hq2 hq3 hq4 hx1 hx2 h_1 h_2 h_3 h_4 h_5 h_6 h_7 h_8 hnn h_9 h_11 h_13 h_16 h_21 h_51 h_52 h_47 h_53 h_48 h_54 h_63 hx3 hx4 h_14 h_15 h_49 h_50 h_59 h_60 h_61 h_62; omega) | omega) (by first | (clear ho hq0 hq1 hq2 hq3 hq4 hx0 hx2 h_1 h_2 h_3 h_4 h_5 h_6 h_7 h_8 hnn h_9 h_11 h_12 h_13 h_16 h_21 h_51 h_46 h_52 h_53 h_48 h_54 h_63 hx3 hx4 h_14 h_15 h_49 h_50 h_59 h_60 h_61 h_62; omega) | omega) (by first | (clear ho hq0 hq1 hq2 hq3 hq4 hx0 hx1 h_1 h_2 h_3 h_4 h_5 h_6 h_7 h_8 hnn h_9 h_11 h_13 h_16 h_21 h_51 h_46 h_52 h_47 h_53 h_54 h_63 hx3 hx4 h_14 h_15 h_49 h_50 h_61 h_62; omega) | omega) (by omega) (by omega) (by omega)
      · refine v_ic_eq_f (t := 29) c_174_17 rfl ⟨h_21, ⟨h_16.1, h_16.2⟩, of_decide_eq_true rfl, of_decide_eq_true rfl⟩ (q_aload_n c_174_20 rfl ?_)
        have kn_70 : Hid (c_17 41 3 = c 41 3) := (hF_19 41 3 (fun h => absurd h.2 (ni rfl))).trans (hid kn_10)
        refine v_cv c_174_21 km_8_114 rfl rfl (Nat.le_of_ble_eq_true rfl) ⟨⟨rfl, rfl⟩, Nat.le_of_ble_eq_true rfl, rfl⟩ (Nat.le_of_ble_eq_true rfl) (Nat.le_of_ble_eq_true rfl) (f_154 (e1 := c 41 3) (a9 := (nx (c 43) (c 41 3) (c2 41 4))) (B := c 43) (r8 := (nx (c 43) (c 41 3) (c2 41 4))) (r := (hb (c 43) (c 41 3) (nx (c 43) (c 41 3) (c2 41 4)))) hI_18 ((hid kn_70)) ((h_20)) (fun j => (hF_19 43 j (fun h => absurd h.1 (nn rfl))).trans (hF 43 j qn_9b8df3fcd)) (nx_z (by omega)) rfl (fun c_71 hI_72 hF_73 h_74 => (bk_inl (v_bip c_174_24 (of_decide_eq_true rfl) ?_))))
        by_cases h_75 : (hb (c 43) (c 41 3) (nx (c 43) (c 41 3) (c2 41 4))) ≠ 45
        · refine v_ic_ne_t (t := 67) c_174_26 rfl ⟨h_75, ⟨h_16.1, h_16.2⟩, of_decide_eq_true rfl, of_decide_eq_true rfl⟩ (q_vret rfl rfl ?_)
          obtain ⟨hW_76, hN_77⟩ : Nw c_71 ∧ Nh c_71 = Nh c2 := nh_fr hW2 (fun j => (hF_73 50 j (fun h => absurd h.1 (nn rfl))).trans (hF_19 50 j (fun h => absurd h.1 (nn rfl)))) (fun j => (hF_73 51 j (fun h => absurd h.1 (nn rfl))).trans (hF_19 51 j (fun h => absurd h.1 (nn rfl)))) ((hF_73 41 29 (fun h => absurd h.2 (ni rfl))).trans (hF_19 41 29 (fun h => absurd h.2 (ni rfl))))
          have kn_78 : Hid (c_17 41 29 = c2 41 29) := hF_19 41 29 (fun h => absurd h.2 (ni rfl))
          have kn_79 : Hid (c_71 41 29 = c2 41 29) := (hF_73 41 29 (fun h => absurd h.2 (ni rfl))).trans (hid kn_78)
          have h_80 : c_71 41 29 = c2 41 29 := (hid kn_79)
          have h_81 : c_71 41 4 = (nx (c 43) (c 41 3) (c2 41 4)) := (h_74)
          have kn_82 : Hid (c_17 41 5 = c2 41 5) := hF_19 41 5 (fun h => absurd h.2 (ni rfl))
          have kn_83 : Hid (c_71 41 5 = c2 41 5) := (hF_73 41 5 (fun h => absurd h.2 (ni rfl))).trans (hid kn_82)
          have h_84 : c_71 41 5 = c2 41 5 := (hid kn_83)
          have kn_85 : Hid (c_17 41 7 = c2 41 7) := hF_19 41 7 (fun h => absurd h.2 (ni rfl))
          have kn_86 : Hid (c_71 41 7 = c2 41 7) := (hF_73 41 7 (fun h => absurd h.2 (ni rfl))).trans (hid kn_85)
          have h_87 : c_71 41 7 = c2 41 7 := (hid kn_86)
          exact K c_71 hI_72 (fun a j hm => (hF_73 a j (fun h => hm (Or.inl h))).trans ((hF_19 a j (fun h => hm (Or.inl h))).trans (hF a j hm))) hW_76 (by first | (clear ho hq0 hq1 hq2 hq3 hq4 hx1 hx2 h_1 h_2 h_3 h_4 h_5 h_6 h_7 h_8 hnn h_9 h_11 h_13 h_16 hx3 hx4 h_14 h_15 h_21 h_75; omega) | omega) (by first | (clear ho hq0 hq1 hq2 hq3 hq4 hx0 hx2 h_1 h_2 h_3 h_4 h_5 h_6 h_7 h_8 hnn h_9 h_11 h_12 h_13 h_16 hx3 hx4 h_14 h_15 h_21 h_75; omega) | omega) (by first | (clear ho hq0 hq1 hq2 hq3 hq4 hx0 hx1 h_1 h_2 h_3 h_4 h_5 h_6 h_7 h_8 hnn h_9 h_11 h_13 h_16 hx3 hx4 h_14 h_15 h_21 h_75; omega) | omega) (Or.inr (Or.inr ((q_9de36a18e h_12)))) (Or.inr (Or.inr (by first | (clear ho hq0 hq1 hq2 hq3 hq4 hx0 hx1 hx2 h_1 h_2 h_3 h_4 h_5 h_6 h_7 hnn h_11 h_12 h_13 h_16 hx3 h_14 h_15 h_21 h_75; omega) | omega)))
        · refine v_ic_ne_f (t := 67) c_174_26 rfl (Decidable.not_not.mp h_75) (q_aload_n c_174_29 rfl ?_)
          have kn_88 : Hid (c_71 41 3 = c 41 3) := (hF_73 41 3 (fun h => absurd h.2 (ni rfl))).trans (hid kn_70)
          refine v_cv c_174_30 km_8_114 rfl rfl (Nat.le_of_ble_eq_true rfl) ⟨⟨rfl, rfl⟩, Nat.le_of_ble_eq_true rfl, rfl⟩ (Nat.le_of_ble_eq_true rfl) (Nat.le_of_ble_eq_true rfl) (f_154 (e1 := c 41 3) (a9 := (nx (c 43) (c 41 3) (c2 41 4))) (B := c 43) (r8 := (nx (c 43) (c 41 3) (c2 41 4))) (r := (hb (c 43) (c 41 3) (nx (c 43) (c 41 3) (c2 41 4)))) hI_72 ((hid kn_88)) ((h_74)) (fun j => (hF_73 43 j (fun h => absurd h.1 (nn rfl))).trans ((hF_19 43 j (fun h => absurd h.1 (nn rfl))).trans (hF 43 j qn_9b8df3fcd))) (nx_z (Or.inr ((q_0892e72fe h_15 h_75)))) rfl (fun c_89 hI_90 hF_91 h_92 => (bk_inl (v_bip c_174_33 (of_decide_eq_true rfl) (v_ic_ne_t (t := 42) c_174_35 rfl ⟨(q_e7493e343 h_75), ⟨h_16.1, h_16.2⟩, of_decide_eq_true rfl, of_decide_eq_true rfl⟩ (q_iconst c_174_42 (q_istore_n c_174_43 (Nat.le_of_ble_eq_true rfl) (q_aload_n c_174_44 rfl (q_dup c_174_45 rfl ?_)))))))))
          refine v_gi (z := 4) (v := (nx (c 43) (c 41 3) (c2 41 4))) c_174_46 kf_8_108 rfl (Nat.le_of_ble_eq_true rfl) rfl rfl (h_92) (q_iconst c_174_49 (v_iadd (v := (nx (c 43) (c 41 3) (c2 41 4)) + 1) c_174_50 rfl (v_pi (z := 4) c_174_51 kf_8_108 rfl (Nat.le_of_ble_eq_true rfl) rfl rfl rfl (of_decide_eq_true rfl) (q_aload_n c_174_54 rfl ?_))))
          have kn_93 : Hid (c_17 41 5 = c2 41 5) := hF_19 41 5 (fun h => absurd h.2 (ni rfl))
          have kn_94 : Hid (c_71 41 5 = c2 41 5) := (hF_73 41 5 (fun h => absurd h.2 (ni rfl))).trans (hid kn_93)
          have kn_95 : Hid (c_89 41 5 = c2 41 5) := (hF_91 41 5 (fun h => absurd h.2 (ni rfl))).trans (hid kn_94)
          have hI_96 := iw_41_4 (v := (nx (c 43) (c 41 3) (c2 41 4)) + 1) hI_90 ⟨(rgp_l (rg_be h_12 (h_2.1) (h_7.2)).1 (of_decide_eq_true rfl)), (rgp_h (rg_be h_12 (h_2.1) (h_7.2)).2 (of_decide_eq_true rfl))⟩
          have h_97 : (up c_89 41 4 ((nx (c 43) (c 41 3) (c2 41 4)) + 1)) 41 5 = c2 41 5 := ((up_n (ni rfl)).trans (hid kn_95))
          have kn_98 : Hid (c_89 41 3 = c 41 3) := (hF_91 41 3 (fun h => absurd h.2 (ni rfl))).trans (hid kn_88)
          have h_99 : (up c_89 41 4 ((nx (c 43) (c 41 3) (c2 41 4)) + 1)) 41 3 = c 41 3 := ((up_n (ni rfl)).trans (hid kn_98))
          have h_100 : (up c_89 41 4 ((nx (c 43) (c 41 3) (c2 41 4)) + 1)) 41 4 = (nx (c 43) (c 41 3) (c2 41 4)) + 1 := (up_e rfl)
          have kn_101 : Hid (c_17 41 29 = c2 41 29) := hF_19 41 29 (fun h => absurd h.2 (ni rfl))
          have kn_102 : Hid (c_71 41 29 = c2 41 29) := (hF_73 41 29 (fun h => absurd h.2 (ni rfl))).trans (hid kn_101)
          have kn_103 : Hid (c_89 41 29 = c2 41 29) := (hF_91 41 29 (fun h => absurd h.2 (ni rfl))).trans (hid kn_102)
          have h_104 : (up c_89 41 4 ((nx (c 43) (c 41 3) (c2 41 4)) + 1)) 41 29 = c2 41 29 := ((up_n (ni rfl)).trans (hid kn_103))
          have kn_105 : Hid (c_17 41 7 = c2 41 7) := hF_19 41 7 (fun h => absurd h.2 (ni rfl))
          have kn_106 : Hid (c_71 41 7 = c2 41 7) := (hF_73 41 7 (fun h => absurd h.2 (ni rfl))).trans (hid kn_105)
          have kn_107 : Hid (c_89 41 7 = c2 41 7) := (hF_91 41 7 (fun h => absurd h.2 (ni rfl))).trans (hid kn_106)
          have h_108 : (up c_89 41 4 ((nx (c 43) (c 41 3) (c2 41 4)) + 1)) 41 7 = c2 41 7 := ((up_n (ni rfl)).trans (hid kn_107))
          obtain ⟨hW_109, hN_110⟩ : Nw (up c_89 41 4 ((nx (c 43) (c 41 3) (c2 41 4)) + 1)) ∧ Nh (up c_89 41 4 ((nx (c 43) (c 41 3) (c2 41 4)) + 1)) = Nh c2 := nh_fr hW2 (fun j => (up_c (nn rfl)).trans ((hF_91 50 j (fun h => absurd h.1 (nn rfl))).trans ((hF_73 50 j (fun h => absurd h.1 (nn rfl))).trans (hF_19 50 j (fun h => absurd h.1 (nn rfl)))))) (fun j => (up_c (nn rfl)).trans ((hF_91 51 j (fun h => absurd h.1 (nn rfl))).trans ((hF_73 51 j (fun h => absurd h.1 (nn rfl))).trans (hF_19 51 j (fun h => absurd h.1 (nn rfl)))))) ((up_n (ni rfl)).trans ((hF_91 41 29 (fun h => absurd h.2 (ni rfl))).trans ((hF_73 41 29 (fun h => absurd h.2 (ni rfl))).trans (hF_19 41 29 (fun h => absurd h.2 (ni rfl))))))
          refine v_cv c_174_55 km_8_239 rfl rfl (Nat.le_of_ble_eq_true rfl) ⟨⟨rfl, rfl⟩, Nat.le_of_ble_eq_true rfl, rfl⟩ (Nat.le_of_ble_eq_true rfl) (Nat.le_of_ble_eq_true rfl) (s_173 (o := o) hI_96 (show 0 ≤ o ∧ o ≤ 6 from by omega) hW_109 ((q_65c5ff97d h_8 h_9)) ((q_4cc3156b3 h_15 h_75)) ((q_7024b37ce hq2)) (by first | (clear ho hq0 hq1 hq2 hq4 hx0 hx1 h_1 h_2 h_3 h_4 h_5 h_6 h_7 h_8 hnn h_9 h_11 h_13 h_16 h_75 hx3 hx4 h_14 h_15 h_21; omega) | omega) (by first | (clear ho hq0 hq1 hq2 hq3 hx0 hx2 h_1 h_2 h_3 h_4 h_5 h_6 h_7 h_8 hnn h_9 h_11 h_12 h_13 h_16 h_75 hx3 hx4 h_14 h_15 h_21; omega) | omega) H174 (fun c_111 hI_112 hF_113 hW_114 h_115 h_116 h_117 h_118 h_119 => (bk_inl ?_)))
          have h_120 := ir_41_4 hI_112
          have h_121 := ir_41_7 hI_112
          have h_122 := ir_41_29 hI_112
          have h_123 := ir_41_5 hI_112
          refine q_aload_n c_174_58 rfl (q_iload_n c_174_59 rfl (q_iconst c_174_60 (v_cv c_174_61 km_8_242 rfl rfl (Nat.le_of_ble_eq_true rfl) ⟨⟨rfl, rfl⟩, Nat.le_of_ble_eq_true rfl, rfl⟩ (Nat.le_of_ble_eq_true rfl) (Nat.le_of_ble_eq_true rfl) (s_170 (a1 := 3) (a2 := 0) hI_112 (show 0 ≤ 3 ∧ 3 ≤ 8 from ⟨of_decide_eq_true rfl, of_decide_eq_true rfl⟩) (show 0 ≤ 0 ∧ 0 ≤ 999 from ⟨of_decide_eq_true rfl, of_decide_eq_true rfl⟩) hW_114 (by omega) (by omega) (Or.inr (Or.inr (Or.inl (by first | decide | omega)))) (fun c_124 hI_125 hF_126 hW_127 h_128 h_129 h_130 h_131 => (bk_inl ?_))))))
          have h_132 := ir_41_29 hI_125
          refine q_goto (t := 4) c_174_64 rfl (Wp_ls [(0, .ref 41)] (lsub_cons rfl lsub_nil) ?_)
          have kn_133 : Hid (c_124 41 4 = c_111 41 4) := hF_126 41 4 qn_fcc0aaabe
          have h_134 : c_124 41 4 = c_111 41 4 := (hid kn_133)
          have kn_135 : Hid (c_124 41 5 = c_111 41 5) := hF_126 41 5 qn_c65a44569
          have h_136 : c_124 41 5 = c_111 41 5 := (hid kn_135)
          have kn_137 : Hid (c_124 41 7 = c_111 41 7) := hF_126 41 7 qn_5700af53f
          have h_138 : c_124 41 7 = c_111 41 7 := (hid kn_137)
          exact ih c_124 hI_125 (fun a j hm => (hF_126 a j (qv_d7b4eb562 hm)).trans ((hF_113 a j hm).trans ((up_b (Decidable.or_iff_not_imp_left.mpr (fun h1 h2 => hm (Or.inl ⟨Decidable.not_not.mp h1, h2⟩)))).trans ((hF_91 a j (fun h => hm (Or.inl h))).trans ((hF_73 a j (fun h => hm (Or.inl h))).trans ((hF_19 a j (fun h => hm (Or.inl h))).trans (hF a j hm))))))) hW_127 (by first | (clear ho hq0 hq1 hq2 hq3 hq4 hx1 hx2 h_1 h_2 h_3 h_4 h_5 h_6 h_7 h_8 hnn h_9 h_11 h_13 h_16 h_75 h_120 h_121 h_116 h_122 h_117 h_123 h_132 hx3 hx4 h_14 h_15 h_21 h_118 h_119 h_128 h_129 h_130 h_131; omega) | omega) (by first | (clear ho hq0 hq1 hq2 hq3 hq4 hx0 hx2 h_1 h_2 h_3 h_4 h_5 h_6 h_7 h_8 hnn h_9 h_11 h_12 h_13 h_16 h_75 h_120 h_115 h_121 h_122 h_117 h_123 h_132 hx3 hx4 h_14 h_15 h_21 h_118 h_119 h_128 h_129 h_130 h_131; omega) | omega) (by first | (clear ho hq0 hq1 hq2 hq3 hq4 hx0 hx1 h_1 h_2 h_3 h_4 h_5 h_6 h_7 h_8 hnn h_9 h_11 h_13 h_16 h_75 h_120 h_115 h_121 h_116 h_122 h_123 h_132 hx3 hx4 h_14 h_15 h_21 h_118 h_119 h_130 h_131; omega) | omega) (by omega) (by omega) (by omega)
set_option maxRecDepth 100000 in
set_option maxHeartbeats 4000000 in
theorem s_174 {sc : List Int32} {e : Int} {d u P Q : Nat} {c : ME} {o : Int} {Z : AR → Prop} (hI : Iv u e P Q c) (ho : 0 ≤ o ∧ o ≤ 6) (hW : Nw c) (hq0 : (c 41 5 = (-1))) (hq1 : (c 41 4 ≤ c 41 3)) (hq2 : (c 41 3 ≤ 150)) (hq3 : (c 41 29 ≤ c 41 4)) (hq4 : (c 41 7 = o)) (H174 : ∀ (d9 : Nat) (c : ME) (Z : AR → Prop), d ≤ d9 → o + 1 ≤ 6 → Iv u e P Q c → Nw c → ((c 41 5 = (-1))) → ((c 41 4 ≤ c 41 3)) → ((c 41 3 ≤ 150)) → ((c 41 29 ≤ c 41 4)) → (c 41 7 = o + 1) → (∀ c2 : ME, Iv u e P Q c2 → (∀ (a : Nat) (j : Int), ¬ ((a = 41 ∧ j = 4) ∨ (a = 41 ∧ j = 5) ∨ (a = 41 ∧ j = 6) ∨ (a = 41 ∧ j = 7) ∨ (a = 41 ∧ j = 29) ∨ a = 50 ∨ a = 51) → c2 a j = c a j) → Nw c2 → ((c2 41 4 ≥ c 41 4)) → ((c2 41 7 = c 41 7)) → ((c 41 4 + c2 41 29 ≤ c 41 29 + c2 41 4)) → ((c2 41 5 < (-1)) ∨ (c2 41 5 > (-1)) ∨ (c2 41 4 ≤ c 41 3)) → ((c2 41 5 < (-1)) ∨ (c2 41 5 > (-1)) ∨ (Nh c2 = Nh c + 1)) → Z (.inl none, Wd P Q P P c2, 0, 0)) → Wp sc (d9 + 12) 174 0 [(0, .ref 41)] [] (Wd P Q P P c) 0 0 Z) (K : ∀ (c2 : ME), Iv u e P Q c2 → (∀ (a : Nat) (j : Int), ¬ ((a = 41 ∧ j = 4) ∨ (a = 41 ∧ j = 5) ∨ (a = 41 ∧ j = 6) ∨ (a = 41 ∧ j = 7) ∨ (a = 41 ∧ j = 29) ∨ a = 50 ∨ a = 51) → c2 a j = c a j) → Nw c2 → ((c2 41 4 ≥ c 41 4)) → ((c2 41 7 = c 41 7)) → ((c 41 4 + c2 41 29 ≤ c 41 29 + c2 41 4)) → ((c2 41 5 < (-1)) ∨ (c2 41 5 > (-1)) ∨ (c2 41 4 ≤ c 41 3)) → ((c2 41 5 < (-1)) ∨ (c2 41 5 > (-1)) ∨ (Nh c2 = Nh c + 1)) → Z (.inl (none), Wd P Q P P c2, 0, 0)) : Wp sc (d + 16) 174 0 [(0, .ref 41)] [] (Wd P Q P P c) 0 0 Z := by
  have hP := iv_P hI
  have hQ := iv_Q hI
  have h_140 := ir_41_5 hI
  have h_141 := ir_41_3 hI
  have h_142 := ir_41_4 hI
  have h_143 := ir_41_29 hI
  have h_144 := ir_41_7 hI
  have hnn := nw_nn hW (ir_41_29 hI).1
  refine q_aload_n c_174_0 rfl (v_cv c_174_1 km_8_239 rfl rfl (Nat.le_of_ble_eq_true rfl) ⟨⟨rfl, rfl⟩, Nat.le_of_ble_eq_true rfl, rfl⟩ (Nat.le_of_ble_eq_true rfl) (Nat.le_of_ble_eq_true rfl) (s_173 (o := o) hI (show 0 ≤ o ∧ o ≤ 6 from by omega) hW ((q_ef26995af hq0)) ((q_eb7e24553 hq1)) ((q_7024b37ce hq2)) ((q_eb7e24553 hq3)) ((q_cea541e22 hq4)) H174 (fun c_145 hI_146 hF_147 hW_148 h_149 h_150 h_151 h_152 h_153 => (bk_inl ?_))))
  have h_154 := ir_41_4 hI_146
  have h_155 := ir_41_7 hI_146
  have h_156 := ir_41_29 hI_146
  have h_157 := ir_41_5 hI_146
  refine Wp_ls [(0, .ref 41)] (lsub_cons rfl lsub_nil) ?_
  exact (s_174_l (sc := sc) (d := d) hI ho hW hq0 hq1 hq2 hq3 hq4 H174 K 1214) c_145 hI_146 (fun a j hm => hF_147 a j hm) hW_148 ((q_a2ce855bf h_149)) ((q_cea541e22 h_150)) ((q_56f770f3e h_151)) (by omega) (by omega) (by omega)
set_option maxRecDepth 100000 in
set_option maxHeartbeats 4000000 in
theorem r_174_n {sc : List Int32} {e : Int} {u P Q : Nat} : ∀ (m : Nat) (d : Nat) (c : ME) (o : Int) (Z : AR → Prop), o + (m : Int) = 6 → 0 ≤ o → Iv u e P Q c → Nw c → ((c 41 5 = (-1))) → ((c 41 4 ≤ c 41 3)) → ((c 41 3 ≤ 150)) → ((c 41 29 ≤ c 41 4)) → (c 41 7 = o) → (∀ c2 : ME, Iv u e P Q c2 → (∀ (a : Nat) (j : Int), ¬ ((a = 41 ∧ j = 4) ∨ (a = 41 ∧ j = 5) ∨ (a = 41 ∧ j = 6) ∨ (a = 41 ∧ j = 7) ∨ (a = 41 ∧ j = 29) ∨ a = 50 ∨ a = 51) → c2 a j = c a j) → Nw c2 → ((c2 41 4 ≥ c 41 4)) → ((c2 41 7 = c 41 7)) → ((c 41 4 + c2 41 29 ≤ c 41 29 + c2 41 4)) → ((c2 41 5 < (-1)) ∨ (c2 41 5 > (-1)) ∨ (c2 41 4 ≤ c 41 3)) → ((c2 41 5 < (-1)) ∨ (c2 41 5 > (-1)) ∨ (Nh c2 = Nh c + 1)) → Z (.inl none, Wd P Q P P c2, 0, 0)) → Wp sc (d + 4 * m + 16) 174 0 [(0, .ref 41)] [] (Wd P Q P P c) 0 0 Z
  | 0, d, c, o, Z, hm, h0, hI, hW, p0, p1, p2, p3, p4, K => s_174 (d := d) (o := o) hI ⟨by omega, by omega⟩ hW p0 p1 p2 p3 p4 (fun d9 c9 Z9 hd hc => absurd hc (by omega)) K
  | m + 1, d, c, o, Z, hm, h0, hI, hW, p0, p1, p2, p3, p4, K => by
    rw [show d + 4 * (m + 1) + 16 = (d + 4 * m + 4) + 16 by omega]
    refine s_174 (d := d + 4 * m + 4) (o := o) hI ⟨by omega, by omega⟩ hW p0 p1 p2 p3 p4 (fun d9 c9 Z9 hd hc hI9 hW9 q0 q1 q2 q3 q4 K9 => ?_) K
    have r := r_174_n (sc := sc) m (d9 - 4 * m - 4) c9 (o + 1) Z9 (by omega) (by omega) hI9 hW9 q0 q1 q2 q3 q4 K9
    rw [show d9 - 4 * m - 4 + 4 * m + 16 = d9 + 12 by omega] at r
    exact r
set_option maxRecDepth 100000 in
set_option maxHeartbeats 4000000 in
theorem r_174 {sc : List Int32} {e : Int} {d u P Q : Nat} {c : ME} {o : Int} {Z : AR → Prop} (hI : Iv u e P Q c) (ho : 0 ≤ o ∧ o ≤ 6) (hW : Nw c) (p0 : ((c 41 5 = (-1)))) (p1 : ((c 41 4 ≤ c 41 3))) (p2 : ((c 41 3 ≤ 150))) (p3 : ((c 41 29 ≤ c 41 4))) (p4 : c 41 7 = o) (K : (∀ c2 : ME, Iv u e P Q c2 → (∀ (a : Nat) (j : Int), ¬ ((a = 41 ∧ j = 4) ∨ (a = 41 ∧ j = 5) ∨ (a = 41 ∧ j = 6) ∨ (a = 41 ∧ j = 7) ∨ (a = 41 ∧ j = 29) ∨ a = 50 ∨ a = 51) → c2 a j = c a j) → Nw c2 → ((c2 41 4 ≥ c 41 4)) → ((c2 41 7 = c 41 7)) → ((c 41 4 + c2 41 29 ≤ c 41 29 + c2 41 4)) → ((c2 41 5 < (-1)) ∨ (c2 41 5 > (-1)) ∨ (c2 41 4 ≤ c 41 3)) → ((c2 41 5 < (-1)) ∨ (c2 41 5 > (-1)) ∨ (Nh c2 = Nh c + 1)) → Z (.inl none, Wd P Q P P c2, 0, 0))) : Wp sc (d + 40) 174 0 [(0, .ref 41)] [] (Wd P Q P P c) 0 0 Z := by
  obtain ⟨m, hm⟩ : ∃ m : Nat, (m : Int) = 6 - o := ⟨(6 - o).toNat, by omega⟩
  rw [show d + 40 = (d + 24 - 4 * m) + 4 * m + 16 by omega]
  exact r_174_n m _ c o Z (by omega) (by omega) hI hW p0 p1 p2 p3 p4 K
