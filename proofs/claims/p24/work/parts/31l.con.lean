/-! ===== contracts 12 ===== -/
set_option maxRecDepth 100000 in
set_option maxHeartbeats 4000000 in
theorem s_160_l {sc : List Int32} {e : Int} {d u P Q : Nat} {c : ME} {a1 : Int} {a2 : Int} {Z : AR → Prop} (hI : Iv u e P Q c) (ha1 : 0 ≤ a1 ∧ a1 ≤ 1) (ha2 : (-1) ≤ a2 ∧ a2 ≤ 9999) (K : ∀ (c2 : ME) (y : Int), Iv u e P Q c2 → (∀ (a : Nat) (j : Int), ¬ ((a = 41 ∧ j = 4) ∨ (a = 41 ∧ j = 5) ∨ (a = 41 ∧ j = 6)) → c2 a j = c a j) → 0 ≤ y ∧ y ≤ 9999 → ((c2 41 4 ≥ c 41 4)) → ((c2 41 4 ≤ c 41 3) ∨ (c2 41 4 = c 41 4)) → ((y = 0) ∨ (y ≥ a1 ∧ y ≤ a2)) → ((c 41 5 = (-1)) ∨ (c2 41 5 = c 41 5)) → ((c2 41 5 < (-1)) ∨ (c2 41 5 > (-1)) ∨ (c2 41 4 > c 41 4 ∧ c2 41 4 ≤ c 41 3 ∧ c 41 5 = (-1))) → Z (.inl (some (vi y)), Wd P Q P P c2, 0, 0)) : ∀ n : Nat, (∀ (c2 : ME) (v3 : Int) (v4 : Int) (v5 : Int), Iv u e P Q c2 → (∀ (a : Nat) (j : Int), ¬ ((a = 41 ∧ j = 4) ∨ (a = 41 ∧ j = 5) ∨ (a = 41 ∧ j = 6)) → c2 a j = c a j) → 0 ≤ v3 ∧ v3 ≤ 255 → 0 ≤ v4 ∧ v4 ≤ 605 → 0 ≤ v5 ∧ v5 ≤ 99999 → ((c2 41 4 ≥ c 41 4)) → ((c2 41 5 = (-1))) → ((c 41 5 = (-1))) → ((v4 ≥ c 41 4)) → ((c2 41 4 > v4 ∧ c2 41 4 ≤ c 41 3) ∨ (c2 41 4 = v4 ∧ c 43 (c2 41 4) ≥ 48 ∧ c 43 (c2 41 4) ≤ 57 ∧ c2 41 4 < c 41 3)) → 1211 - 2 * c2 41 4 < (n : Int) → Wp sc (d + 8) 160 41 [(0, .ref 41), (1, vi a1), (2, vi a2), (3, vi v3), (4, vi v4), (5, vi v5)] [] (Wd P Q P P c2) 0 0 Z)
  | 0 => by intro c2 v3 v4 v5 hI2 hF hv3 hv4 hv5 hx0 hx1 hx2 hx3 hx4 hm9; have hP := iv_P hI; have hQ := iv_Q hI; have h_65 := ir_41_4 hI2; exfalso; omega
  | n + 1 => by
    have hP := iv_P hI
    have hQ := iv_Q hI
    have ih := s_160_l (sc := sc) (d := d) hI ha1 ha2 K n
    intro c2 v3 v4 v5 hI2 hF hv3 hv4 hv5 hx0 hx1 hx2 hx3 hx4 hm9
    have h_1 := ir_41_4 hI
    have h_2 := ir_41_4 hI2
    have h_3 := ir_41_5 hI2
    have h_4 := ir_41_5 hI
    have h_5 := ir_41_3 hI
    have h_6 := ir_43 hI (c2 41 4)
    refine q_aload_n rfl rfl ?_
    refine v_gi (z := 4) (v := c2 41 4) rfl rfl rfl (by decide) rfl rfl rfl ?_
    refine q_aload_n rfl rfl ?_
    refine v_gi (z := 3) (v := c 41 3) rfl rfl rfl (by decide) rfl rfl (hF 41 3 (by omega)) ?_
    by_cases h_7 : c2 41 4 ≥ c 41 3
    · refine v_ic_ge_t (t := 114) rfl (by decide) (by omega) ?_
      refine q_iload rfl rfl ?_
      refine q_iload_n rfl rfl ?_
      by_cases h_8 : v5 < a1
      · refine v_ic_lt_t (t := 126) rfl (by decide) (by omega) ?_
        refine q_aload_n rfl rfl ?_
        refine q_iconst rfl ?_
        refine q_iload rfl rfl ?_
        refine v_cv rfl rfl rfl rfl (by decide) ⟨⟨rfl, rfl⟩, by decide, rfl⟩ (Nat.le_of_ble_eq_true rfl) (Nat.le_of_ble_eq_true rfl) (s_153 (a1 := 2) (a2 := v4) hI2 (show 1 ≤ 2 ∧ 2 ≤ 3 from by omega) (show 0 ≤ v4 ∧ v4 ≤ 605 from by omega) (fun c_9 hI_10 hF_11 h_12 => ?_))
        refine bk_inl ?_
        have h_13 := ir_41_5 hI_10
        refine q_iconst rfl ?_
        refine q_iret rfl rfl ?_
        have h_14 : c_9 41 4 = c2 41 4 := (hF_11 41 4 (by omega))
        exact K c_9 0 hI_10 (fun a j hm => (hF_11 a j (by omega)).trans (hF a j (by omega))) ⟨by decide, by decide⟩ (by omega) (by omega) (by omega) (by omega) (by omega)
      · refine v_ic_lt_f (t := 126) rfl (by decide) (by omega) ?_
        refine q_iload rfl rfl ?_
        refine q_iload_n rfl rfl ?_
        by_cases h_15 : v5 ≤ a2
        · refine v_ic_le_t (t := 135) rfl (by decide) (by omega) ?_
          refine q_iload rfl rfl ?_
          refine q_iret rfl rfl ?_
          exact K c2 v5 hI2 (fun a j hm => hF a j (by omega)) ⟨by omega, by omega⟩ (by omega) (by omega) (by omega) (by omega) (by omega)
        · refine v_ic_le_f (t := 135) rfl (by decide) (by omega) ?_
          refine q_aload_n rfl rfl ?_
          refine q_iconst rfl ?_
          refine q_iload rfl rfl ?_
          refine v_cv rfl rfl rfl rfl (by decide) ⟨⟨rfl, rfl⟩, by decide, rfl⟩ (Nat.le_of_ble_eq_true rfl) (Nat.le_of_ble_eq_true rfl) (s_153 (a1 := 2) (a2 := v4) hI2 (show 1 ≤ 2 ∧ 2 ≤ 3 from by omega) (show 0 ≤ v4 ∧ v4 ≤ 605 from by omega) (fun c_16 hI_17 hF_18 h_19 => ?_))
          refine bk_inl ?_
          have h_20 := ir_41_5 hI_17
          refine q_iconst rfl ?_
          refine q_iret rfl rfl ?_
          have h_21 : c_16 41 4 = c2 41 4 := (hF_18 41 4 (by omega))
          exact K c_16 0 hI_17 (fun a j hm => (hF_18 a j (by omega)).trans (hF a j (by omega))) ⟨by decide, by decide⟩ (by omega) (by omega) (by omega) (by omega) (by omega)
    · refine v_ic_ge_f (t := 114) rfl (by decide) (by omega) ?_
      refine q_aload_n rfl rfl ?_
      refine v_gr (t := 43) rfl rfl rfl (by decide) rfl ?_
      refine q_aload_n rfl rfl ?_
      refine v_gi (z := 4) (v := c2 41 4) rfl rfl rfl (by decide) rfl rfl rfl ?_
      refine v_ia (v := c 43 (c2 41 4)) rfl rfl (by decide) (by decide) (by omega) (hF 43 (c2 41 4) (by omega)) ?_
      refine q_call rfl rfl rfl rfl ?_
      refine q_iload_n rfl rfl ?_
      refine v_bip rfl (by decide) ?_
      by_cases h_22 : c 43 (c2 41 4) < 48
      · refine v_ic_lt_t (t := 16) rfl (by decide) (by omega) ?_
        refine q_iconst rfl ?_
        refine v_zret rfl rfl (by omega) ?_
        refine bk_inl ?_
        refine v_if_eq_t (t := 114) rfl (by decide) (by decide) ?_
        refine q_iload rfl rfl ?_
        refine q_iload_n rfl rfl ?_
        by_cases h_23 : v5 < a1
        · refine v_ic_lt_t (t := 126) rfl (by decide) (by omega) ?_
          refine q_aload_n rfl rfl ?_
          refine q_iconst rfl ?_
          refine q_iload rfl rfl ?_
          refine v_cv rfl rfl rfl rfl (by decide) ⟨⟨rfl, rfl⟩, by decide, rfl⟩ (Nat.le_of_ble_eq_true rfl) (Nat.le_of_ble_eq_true rfl) (s_153 (a1 := 2) (a2 := v4) hI2 (show 1 ≤ 2 ∧ 2 ≤ 3 from by omega) (show 0 ≤ v4 ∧ v4 ≤ 605 from by omega) (fun c_24 hI_25 hF_26 h_27 => ?_))
          refine bk_inl ?_
          have h_28 := ir_41_5 hI_25
          refine q_iconst rfl ?_
          refine q_iret rfl rfl ?_
          have h_29 : c_24 41 4 = c2 41 4 := (hF_26 41 4 (by omega))
          exact K c_24 0 hI_25 (fun a j hm => (hF_26 a j (by omega)).trans (hF a j (by omega))) ⟨by decide, by decide⟩ (by omega) (by omega) (by omega) (by omega) (by omega)
        · refine v_ic_lt_f (t := 126) rfl (by decide) (by omega) ?_
          refine q_iload rfl rfl ?_
          refine q_iload_n rfl rfl ?_
          by_cases h_30 : v5 ≤ a2
          · refine v_ic_le_t (t := 135) rfl (by decide) (by omega) ?_
            refine q_iload rfl rfl ?_
            refine q_iret rfl rfl ?_
            exact K c2 v5 hI2 (fun a j hm => hF a j (by omega)) ⟨by omega, by omega⟩ (by omega) (by omega) (by omega) (by omega) (by omega)
          · refine v_ic_le_f (t := 135) rfl (by decide) (by omega) ?_
            refine q_aload_n rfl rfl ?_
            refine q_iconst rfl ?_
            refine q_iload rfl rfl ?_
            refine v_cv rfl rfl rfl rfl (by decide) ⟨⟨rfl, rfl⟩, by decide, rfl⟩ (Nat.le_of_ble_eq_true rfl) (Nat.le_of_ble_eq_true rfl) (s_153 (a1 := 2) (a2 := v4) hI2 (show 1 ≤ 2 ∧ 2 ≤ 3 from by omega) (show 0 ≤ v4 ∧ v4 ≤ 605 from by omega) (fun c_31 hI_32 hF_33 h_34 => ?_))
            refine bk_inl ?_
            have h_35 := ir_41_5 hI_32
            refine q_iconst rfl ?_
            refine q_iret rfl rfl ?_
            have h_36 : c_31 41 4 = c2 41 4 := (hF_33 41 4 (by omega))
            exact K c_31 0 hI_32 (fun a j hm => (hF_33 a j (by omega)).trans (hF a j (by omega))) ⟨by decide, by decide⟩ (by omega) (by omega) (by omega) (by omega) (by omega)
      · refine v_ic_lt_f (t := 16) rfl (by decide) (by omega) ?_
        refine q_iload_n rfl rfl ?_
        refine v_bip rfl (by decide) ?_
        by_cases h_37 : c 43 (c2 41 4) > 57
        · refine v_ic_gt_t (t := 16) rfl (by decide) (by omega) ?_
          refine q_iconst rfl ?_
          refine v_zret rfl rfl (by omega) ?_
          refine bk_inl ?_
          refine v_if_eq_t (t := 114) rfl (by decide) (by decide) ?_
          refine q_iload rfl rfl ?_
          refine q_iload_n rfl rfl ?_
          by_cases h_38 : v5 < a1
          · refine v_ic_lt_t (t := 126) rfl (by decide) (by omega) ?_
            refine q_aload_n rfl rfl ?_
            refine q_iconst rfl ?_
            refine q_iload rfl rfl ?_
            refine v_cv rfl rfl rfl rfl (by decide) ⟨⟨rfl, rfl⟩, by decide, rfl⟩ (Nat.le_of_ble_eq_true rfl) (Nat.le_of_ble_eq_true rfl) (s_153 (a1 := 2) (a2 := v4) hI2 (show 1 ≤ 2 ∧ 2 ≤ 3 from by omega) (show 0 ≤ v4 ∧ v4 ≤ 605 from by omega) (fun c_39 hI_40 hF_41 h_42 => ?_))
            refine bk_inl ?_
            have h_43 := ir_41_5 hI_40
            refine q_iconst rfl ?_
            refine q_iret rfl rfl ?_
            have h_44 : c_39 41 4 = c2 41 4 := (hF_41 41 4 (by omega))
            exact K c_39 0 hI_40 (fun a j hm => (hF_41 a j (by omega)).trans (hF a j (by omega))) ⟨by decide, by decide⟩ (by omega) (by omega) (by omega) (by omega) (by omega)
          · refine v_ic_lt_f (t := 126) rfl (by decide) (by omega) ?_
            refine q_iload rfl rfl ?_
            refine q_iload_n rfl rfl ?_
            by_cases h_45 : v5 ≤ a2
            · refine v_ic_le_t (t := 135) rfl (by decide) (by omega) ?_
              refine q_iload rfl rfl ?_
              refine q_iret rfl rfl ?_
              exact K c2 v5 hI2 (fun a j hm => hF a j (by omega)) ⟨by omega, by omega⟩ (by omega) (by omega) (by omega) (by omega) (by omega)
            · refine v_ic_le_f (t := 135) rfl (by decide) (by omega) ?_
              refine q_aload_n rfl rfl ?_
              refine q_iconst rfl ?_
              refine q_iload rfl rfl ?_
              refine v_cv rfl rfl rfl rfl (by decide) ⟨⟨rfl, rfl⟩, by decide, rfl⟩ (Nat.le_of_ble_eq_true rfl) (Nat.le_of_ble_eq_true rfl) (s_153 (a1 := 2) (a2 := v4) hI2 (show 1 ≤ 2 ∧ 2 ≤ 3 from by omega) (show 0 ≤ v4 ∧ v4 ≤ 605 from by omega) (fun c_46 hI_47 hF_48 h_49 => ?_))
              refine bk_inl ?_
              have h_50 := ir_41_5 hI_47
              refine q_iconst rfl ?_
              refine q_iret rfl rfl ?_
              have h_51 : c_46 41 4 = c2 41 4 := (hF_48 41 4 (by omega))
              exact K c_46 0 hI_47 (fun a j hm => (hF_48 a j (by omega)).trans (hF a j (by omega))) ⟨by decide, by decide⟩ (by omega) (by omega) (by omega) (by omega) (by omega)
        · refine v_ic_gt_f (t := 16) rfl (by decide) (by omega) ?_
          refine q_iconst rfl ?_
          refine q_goto (t := 17) rfl (by decide) ?_
          refine v_zret rfl rfl (by omega) ?_
          refine bk_inl ?_
          refine v_if_eq_f (t := 114) rfl (by decide) (by decide) ?_
          refine q_iload rfl rfl ?_
          refine v_sip rfl (by decide) ?_
          by_cases h_52 : v5 ≤ 9999
          · refine v_ic_le_t (t := 81) rfl (by decide) (by omega) ?_
            refine v_bip rfl (by decide) ?_
            refine q_iload rfl rfl ?_
            refine v_imul (v := 10 * v5) rfl (by omega) ?_
            refine q_aload_n rfl rfl ?_
            refine v_gr (t := 43) rfl rfl rfl (by decide) rfl ?_
            refine q_aload_n rfl rfl ?_
            refine v_gi (z := 4) (v := c2 41 4) rfl rfl rfl (by decide) rfl rfl rfl ?_
            refine v_ia (v := c 43 (c2 41 4)) rfl rfl (by decide) (by decide) (by omega) (hF 43 (c2 41 4) (by omega)) ?_
            refine v_iadd (v := c 43 (c2 41 4) + 10 * v5) rfl (by omega) ?_
            refine v_bip rfl (by decide) ?_
            refine v_isub (v := c 43 (c2 41 4) + 10 * v5 - 48) rfl (by omega) ?_
            refine q_istore rfl (by decide) ?_
            refine q_aload_n rfl rfl ?_
            refine q_dup rfl rfl ?_
            refine v_gi (z := 4) (v := c2 41 4) rfl rfl rfl (by decide) rfl rfl rfl ?_
            refine q_iconst rfl ?_
            refine v_iadd (v := c2 41 4 + 1) rfl (by omega) ?_
            refine v_pi (z := 4) rfl rfl rfl (by decide) rfl rfl rfl (by decide) ?_
            refine q_goto (t := 41) rfl (by decide) ?_
            have hI_53 := iw_41_4 (v := c2 41 4 + 1) hI2 ⟨by omega, by omega⟩
            refine Wp_ls [(0, .ref 41), (1, vi a1), (2, vi a2), (3, vi v3), (4, vi v4), (5, vi (c 43 (c2 41 4) + 10 * v5 - 48))] (lsub_cons rfl (lsub_cons rfl (lsub_cons rfl (lsub_cons rfl (lsub_cons rfl (lsub_cons rfl lsub_nil)))))) ?_
            have h_54 : (up c2 41 4 (c2 41 4 + 1)) 41 4 = c2 41 4 + 1 := (up_e rfl)
            have h_55 := ir_43 hI (c2 41 4 + 1)
            have h_56 : c 43 (((up c2 41 4 (c2 41 4 + 1)) 41 4)) = c 43 (c2 41 4 + 1) := congrArg (c 43) (by omega)
            have h_57 : (up c2 41 4 (c2 41 4 + 1)) 41 4 = c2 41 4 + 1 := (up_e rfl)
            have h_58 : (up c2 41 4 (c2 41 4 + 1)) 41 5 = c2 41 5 := (up_n (by decide))
            exact ih (up c2 41 4 (c2 41 4 + 1)) v3 v4 (c 43 (c2 41 4) + 10 * v5 - 48) hI_53 (fun a j hm => (up_b (by omega)).trans (hF a j (by omega))) ⟨by omega, by omega⟩ ⟨by omega, by omega⟩ ⟨by omega, by omega⟩ (by omega) (by omega) (by omega) (by omega) (by omega) (by omega)
          · refine v_ic_le_f (t := 81) rfl (by decide) (by omega) ?_
            refine v_sip rfl (by decide) ?_
            refine q_goto (t := 99) rfl (by decide) ?_
            refine q_istore rfl (by decide) ?_
            refine q_aload_n rfl rfl ?_
            refine q_dup rfl rfl ?_
            refine v_gi (z := 4) (v := c2 41 4) rfl rfl rfl (by decide) rfl rfl rfl ?_
            refine q_iconst rfl ?_
            refine v_iadd (v := c2 41 4 + 1) rfl (by omega) ?_
            refine v_pi (z := 4) rfl rfl rfl (by decide) rfl rfl rfl (by decide) ?_
            refine q_goto (t := 41) rfl (by decide) ?_
            have hI_59 := iw_41_4 (v := c2 41 4 + 1) hI2 ⟨by omega, by omega⟩
            refine Wp_ls [(0, .ref 41), (1, vi a1), (2, vi a2), (3, vi v3), (4, vi v4), (5, vi 10000)] (lsub_cons rfl (lsub_cons rfl (lsub_cons rfl (lsub_cons rfl (lsub_cons rfl (lsub_cons rfl lsub_nil)))))) ?_
            have h_60 : (up c2 41 4 (c2 41 4 + 1)) 41 4 = c2 41 4 + 1 := (up_e rfl)
            have h_61 := ir_43 hI (c2 41 4 + 1)
            have h_62 : c 43 (((up c2 41 4 (c2 41 4 + 1)) 41 4)) = c 43 (c2 41 4 + 1) := congrArg (c 43) (by omega)
            have h_63 : (up c2 41 4 (c2 41 4 + 1)) 41 4 = c2 41 4 + 1 := (up_e rfl)
            have h_64 : (up c2 41 4 (c2 41 4 + 1)) 41 5 = c2 41 5 := (up_n (by decide))
            exact ih (up c2 41 4 (c2 41 4 + 1)) v3 v4 10000 hI_59 (fun a j hm => (up_b (by omega)).trans (hF a j (by omega))) ⟨by omega, by omega⟩ ⟨by omega, by omega⟩ ⟨by decide, by decide⟩ (by omega) (by omega) (by omega) (by omega) (by omega) (by omega)
set_option maxRecDepth 100000 in
set_option maxHeartbeats 4000000 in
theorem s_160 {sc : List Int32} {e : Int} {d u P Q : Nat} {c : ME} {a1 : Int} {a2 : Int} {Z : AR → Prop} (hI : Iv u e P Q c) (ha1 : 0 ≤ a1 ∧ a1 ≤ 1) (ha2 : (-1) ≤ a2 ∧ a2 ≤ 9999) (K : ∀ (c2 : ME) (y : Int), Iv u e P Q c2 → (∀ (a : Nat) (j : Int), ¬ ((a = 41 ∧ j = 4) ∨ (a = 41 ∧ j = 5) ∨ (a = 41 ∧ j = 6)) → c2 a j = c a j) → 0 ≤ y ∧ y ≤ 9999 → ((c2 41 4 ≥ c 41 4)) → ((c2 41 4 ≤ c 41 3) ∨ (c2 41 4 = c 41 4)) → ((y = 0) ∨ (y ≥ a1 ∧ y ≤ a2)) → ((c 41 5 = (-1)) ∨ (c2 41 5 = c 41 5)) → ((c2 41 5 < (-1)) ∨ (c2 41 5 > (-1)) ∨ (c2 41 4 > c 41 4 ∧ c2 41 4 ≤ c 41 3 ∧ c 41 5 = (-1))) → Z (.inl (some (vi y)), Wd P Q P P c2, 0, 0)) : Wp sc (d + 8) 160 0 [(0, .ref 41), (1, vi a1), (2, vi a2)] [] (Wd P Q P P c) 0 0 Z := by
  have hP := iv_P hI
  have hQ := iv_Q hI
  refine q_aload_n rfl rfl ?_
  refine v_cv rfl rfl rfl rfl (by decide) ⟨⟨rfl, rfl⟩, by decide, rfl⟩ (Nat.le_of_ble_eq_true rfl) (Nat.le_of_ble_eq_true rfl) ?_
  refine q_aload_n rfl rfl ?_
  have h_66 := ir_41_5 hI
  refine v_gi (z := 5) (v := c 41 5) rfl rfl rfl (by decide) rfl rfl rfl ?_
  refine q_iconst rfl ?_
  by_cases h_67 : c 41 5 ≠ (-1)
  · refine v_ic_ne_t (t := 12) rfl (by decide) (by omega) ?_
    refine q_iconst rfl ?_
    refine v_zret rfl rfl (by omega) ?_
    refine bk_inl ?_
    refine v_if_ne_f (t := 9) rfl (by decide) (by decide) ?_
    refine q_iconst rfl ?_
    refine q_iret rfl rfl ?_
    have h_68 := ir_41_4 hI
    exact K c 0 hI (fun a j hm => rfl) ⟨by decide, by decide⟩ (by omega) (by omega) (by omega) (by omega) (by omega)
  · refine v_ic_ne_f (t := 12) rfl (by decide) (by omega) ?_
    refine q_iconst rfl ?_
    refine q_goto (t := 13) rfl (by decide) ?_
    refine v_zret rfl rfl (by omega) ?_
    refine bk_inl ?_
    refine v_if_ne_t (t := 9) rfl (by decide) (by decide) ?_
    refine q_aload_n rfl rfl ?_
    have h_69 := ir_41_4 hI
    have h_70 := ir_41_3 hI
    refine v_cv rfl rfl rfl rfl (by decide) ⟨⟨rfl, rfl⟩, by decide, rfl⟩ (Nat.le_of_ble_eq_true rfl) (Nat.le_of_ble_eq_true rfl) (s_154 hI (fun c_71 y_74 hI_72 hF_73 hy_74 h_75 h_76 h_77 h_78 => ?_))
    refine bk_inl ?_
    have h_79 := ir_41_4 hI_72
    have h_80 := ir_43 hI (c_71 41 4)
    refine q_istore_n rfl (by decide) ?_
    refine q_aload_n rfl rfl ?_
    refine v_gi (z := 4) (v := c_71 41 4) rfl rfl rfl (by decide) rfl rfl rfl ?_
    refine q_istore rfl (by decide) ?_
    refine q_iconst rfl ?_
    refine q_istore rfl (by decide) ?_
    refine q_iload_n rfl rfl ?_
    refine q_call rfl rfl rfl rfl ?_
    refine q_iload_n rfl rfl ?_
    refine v_bip rfl (by decide) ?_
    by_cases h_81 : y_74 < 48
    · refine v_ic_lt_t (t := 16) rfl (by decide) (by omega) ?_
      refine q_iconst rfl ?_
      refine v_zret rfl rfl (by omega) ?_
      refine bk_inl ?_
      refine v_if_ne_f (t := 41) rfl (by decide) (by decide) ?_
      refine q_aload_n rfl rfl ?_
      refine q_iconst rfl ?_
      refine q_aload_n rfl rfl ?_
      refine v_gi (z := 4) (v := c_71 41 4) rfl rfl rfl (by decide) rfl rfl rfl ?_
      refine v_cv rfl rfl rfl rfl (by decide) ⟨⟨rfl, rfl⟩, by decide, rfl⟩ (Nat.le_of_ble_eq_true rfl) (Nat.le_of_ble_eq_true rfl) (s_153 (a1 := 1) (a2 := c_71 41 4) hI_72 (show 1 ≤ 1 ∧ 1 ≤ 3 from by omega) (show 0 ≤ c_71 41 4 ∧ c_71 41 4 ≤ 605 from by omega) (fun c_82 hI_83 hF_84 h_85 => ?_))
      refine bk_inl ?_
      have h_86 := ir_41_5 hI_83
      refine q_iconst rfl ?_
      refine q_iret rfl rfl ?_
      have h_87 : c_82 41 4 = c_71 41 4 := (hF_84 41 4 (by omega))
      exact K c_82 0 hI_83 (fun a j hm => (hF_84 a j (by omega)).trans (hF_73 a j (by omega))) ⟨by decide, by decide⟩ (by omega) (by omega) (by omega) (by omega) (by omega)
    · refine v_ic_lt_f (t := 16) rfl (by decide) (by omega) ?_
      refine q_iload_n rfl rfl ?_
      refine v_bip rfl (by decide) ?_
      by_cases h_88 : y_74 > 57
      · refine v_ic_gt_t (t := 16) rfl (by decide) (by omega) ?_
        refine q_iconst rfl ?_
        refine v_zret rfl rfl (by omega) ?_
        refine bk_inl ?_
        refine v_if_ne_f (t := 41) rfl (by decide) (by decide) ?_
        refine q_aload_n rfl rfl ?_
        refine q_iconst rfl ?_
        refine q_aload_n rfl rfl ?_
        refine v_gi (z := 4) (v := c_71 41 4) rfl rfl rfl (by decide) rfl rfl rfl ?_
        refine v_cv rfl rfl rfl rfl (by decide) ⟨⟨rfl, rfl⟩, by decide, rfl⟩ (Nat.le_of_ble_eq_true rfl) (Nat.le_of_ble_eq_true rfl) (s_153 (a1 := 1) (a2 := c_71 41 4) hI_72 (show 1 ≤ 1 ∧ 1 ≤ 3 from by omega) (show 0 ≤ c_71 41 4 ∧ c_71 41 4 ≤ 605 from by omega) (fun c_89 hI_90 hF_91 h_92 => ?_))
        refine bk_inl ?_
        have h_93 := ir_41_5 hI_90
        refine q_iconst rfl ?_
        refine q_iret rfl rfl ?_
        have h_94 : c_89 41 4 = c_71 41 4 := (hF_91 41 4 (by omega))
        exact K c_89 0 hI_90 (fun a j hm => (hF_91 a j (by omega)).trans (hF_73 a j (by omega))) ⟨by decide, by decide⟩ (by omega) (by omega) (by omega) (by omega) (by omega)
      · refine v_ic_gt_f (t := 16) rfl (by decide) (by omega) ?_
        refine q_iconst rfl ?_
        refine q_goto (t := 17) rfl (by decide) ?_
        refine v_zret rfl rfl (by omega) ?_
        refine bk_inl ?_
        refine v_if_ne_t (t := 41) rfl (by decide) (by decide) ?_
        refine Wp_ls [(0, .ref 41), (1, vi a1), (2, vi a2), (3, vi y_74), (4, vi (c_71 41 4)), (5, vi 0)] (lsub_cons rfl (lsub_cons rfl (lsub_cons rfl (lsub_cons rfl (lsub_cons rfl (lsub_cons rfl lsub_nil)))))) ?_
        have h_95 : c 43 ((c_71 41 4)) = c 43 (c_71 41 4) := congrArg (c 43) (by omega)
        have h_96 : c_71 41 5 = c 41 5 := (hF_73 41 5 (by omega))
        exact (s_160_l (sc := sc) (d := d) hI ha1 ha2 K 1214) c_71 y_74 (c_71 41 4) 0 hI_72 (fun a j hm => hF_73 a j (by omega)) ⟨by omega, by omega⟩ ⟨by omega, by omega⟩ ⟨by decide, by decide⟩ (by omega) (by omega) (by omega) (by omega) (by omega) (by omega)

set_option maxRecDepth 100000 in
set_option maxHeartbeats 4000000 in
theorem s_161 {sc : List Int32} {e : Int} {d u P Q : Nat} {c : ME} {a1 : Int} {Z : AR → Prop} (hI : Iv u e P Q c) (ha1 : 1 ≤ a1 ∧ a1 ≤ 255) (K : ∀ (c2 : ME), Iv u e P Q c2 → (∀ (a : Nat) (j : Int), ¬ ((a = 41 ∧ j = 4) ∨ (a = 41 ∧ j = 5) ∨ (a = 41 ∧ j = 6)) → c2 a j = c a j) → ((c2 41 4 ≥ c 41 4)) → ((c2 41 4 ≤ c 41 3) ∨ (c2 41 4 = c 41 4)) → ((c 41 5 = (-1)) ∨ (c2 41 5 = c 41 5)) → ((c2 41 5 < (-1)) ∨ (c2 41 5 > (-1)) ∨ (c2 41 4 > c 41 4 ∧ c2 41 4 ≤ c 41 3 ∧ c 41 5 = (-1))) → Z (.inl (none), Wd P Q P P c2, 0, 0)) : Wp sc (d + 8) 161 0 [(0, .ref 41), (1, vi a1)] [] (Wd P Q P P c) 0 0 Z := by
  have hP := iv_P hI
  have hQ := iv_Q hI
  refine q_aload_n rfl rfl ?_
  refine v_cv rfl rfl rfl rfl (by decide) ⟨⟨rfl, rfl⟩, by decide, rfl⟩ (Nat.le_of_ble_eq_true rfl) (Nat.le_of_ble_eq_true rfl) ?_
  refine q_aload_n rfl rfl ?_
  have h_1 := ir_41_5 hI
  refine v_gi (z := 5) (v := c 41 5) rfl rfl rfl (by decide) rfl rfl rfl ?_
  refine q_iconst rfl ?_
  by_cases h_2 : c 41 5 ≠ (-1)
  · refine v_ic_ne_t (t := 12) rfl (by decide) (by omega) ?_
    refine q_iconst rfl ?_
    refine v_zret rfl rfl (by omega) ?_
    refine bk_inl ?_
    refine v_if_eq_t (t := 24) rfl (by decide) (by decide) ?_
    refine q_aload_n rfl rfl ?_
    refine v_cv rfl rfl rfl rfl (by decide) ⟨⟨rfl, rfl⟩, by decide, rfl⟩ (Nat.le_of_ble_eq_true rfl) (Nat.le_of_ble_eq_true rfl) ?_
    refine q_aload_n rfl rfl ?_
    refine v_gi (z := 5) (v := c 41 5) rfl rfl rfl (by decide) rfl rfl rfl ?_
    refine q_iconst rfl ?_
    refine v_ic_ne_t (t := 12) rfl (by decide) (by omega) ?_
    refine q_iconst rfl ?_
    refine v_zret rfl rfl (by omega) ?_
    refine bk_inl ?_
    refine v_if_eq_t (t := 41) rfl (by decide) (by decide) ?_
    refine q_vret rfl rfl ?_
    have h_3 := ir_41_4 hI
    exact K c hI (fun a j hm => rfl) (by omega) (by omega) (by omega) (by omega)
  · refine v_ic_ne_f (t := 12) rfl (by decide) (by omega) ?_
    refine q_iconst rfl ?_
    refine q_goto (t := 13) rfl (by decide) ?_
    refine v_zret rfl rfl (by omega) ?_
    refine bk_inl ?_
    refine v_if_eq_f (t := 24) rfl (by decide) (by decide) ?_
    refine q_aload_n rfl rfl ?_
    have h_4 := ir_41_4 hI
    have h_5 := ir_41_3 hI
    refine v_cv rfl rfl rfl rfl (by decide) ⟨⟨rfl, rfl⟩, by decide, rfl⟩ (Nat.le_of_ble_eq_true rfl) (Nat.le_of_ble_eq_true rfl) (s_154 hI (fun c_6 y_9 hI_7 hF_8 hy_9 h_10 h_11 h_12 h_13 => ?_))
    refine bk_inl ?_
    have h_14 := ir_41_4 hI_7
    have h_15 := ir_43 hI (c_6 41 4)
    refine q_iload_n rfl rfl ?_
    by_cases h_16 : y_9 = a1
    · refine v_ic_eq_t (t := 24) rfl (by decide) (by omega) ?_
      refine q_aload_n rfl rfl ?_
      refine v_cv rfl rfl rfl rfl (by decide) ⟨⟨rfl, rfl⟩, by decide, rfl⟩ (Nat.le_of_ble_eq_true rfl) (Nat.le_of_ble_eq_true rfl) ?_
      refine q_aload_n rfl rfl ?_
      refine v_gi (z := 5) (v := c 41 5) rfl rfl rfl (by decide) rfl rfl (hF_8 41 5 (by omega)) ?_
      refine q_iconst rfl ?_
      refine v_ic_ne_f (t := 12) rfl (by decide) (by omega) ?_
      refine q_iconst rfl ?_
      refine q_goto (t := 13) rfl (by decide) ?_
      refine v_zret rfl rfl (by omega) ?_
      refine bk_inl ?_
      refine v_if_eq_f (t := 41) rfl (by decide) (by decide) ?_
      refine q_aload_n rfl rfl ?_
      refine q_dup rfl rfl ?_
      refine v_gi (z := 4) (v := c_6 41 4) rfl rfl rfl (by decide) rfl rfl rfl ?_
      refine q_iconst rfl ?_
      refine v_iadd (v := c_6 41 4 + 1) rfl (by omega) ?_
      refine v_pi (z := 4) rfl rfl rfl (by decide) rfl rfl rfl (by decide) ?_
      refine q_vret rfl rfl ?_
      have hI_17 := iw_41_4 (v := c_6 41 4 + 1) hI_7 ⟨by omega, by omega⟩
      have h_18 : (up c_6 41 4 (c_6 41 4 + 1)) 41 4 = c_6 41 4 + 1 := (up_e rfl)
      have h_19 : (up c_6 41 4 (c_6 41 4 + 1)) 41 5 = c 41 5 := ((up_n (by decide)).trans (hF_8 41 5 (by omega)))
      exact K (up c_6 41 4 (c_6 41 4 + 1)) hI_17 (fun a j hm => (up_b (by omega)).trans (hF_8 a j (by omega))) (by omega) (by omega) (by omega) (by omega)
    · refine v_ic_eq_f (t := 24) rfl (by decide) (by omega) ?_
      refine q_aload_n rfl rfl ?_
      refine q_iconst rfl ?_
      refine q_aload_n rfl rfl ?_
      refine v_gi (z := 4) (v := c_6 41 4) rfl rfl rfl (by decide) rfl rfl rfl ?_
      refine v_cv rfl rfl rfl rfl (by decide) ⟨⟨rfl, rfl⟩, by decide, rfl⟩ (Nat.le_of_ble_eq_true rfl) (Nat.le_of_ble_eq_true rfl) (s_153 (a1 := 1) (a2 := c_6 41 4) hI_7 (show 1 ≤ 1 ∧ 1 ≤ 3 from by omega) (show 0 ≤ c_6 41 4 ∧ c_6 41 4 ≤ 605 from by omega) (fun c_20 hI_21 hF_22 h_23 => ?_))
      refine bk_inl ?_
      have h_24 := ir_41_5 hI_21
      refine q_aload_n rfl rfl ?_
      refine v_cv rfl rfl rfl rfl (by decide) ⟨⟨rfl, rfl⟩, by decide, rfl⟩ (Nat.le_of_ble_eq_true rfl) (Nat.le_of_ble_eq_true rfl) ?_
      refine q_aload_n rfl rfl ?_
      refine v_gi (z := 5) (v := c_20 41 5) rfl rfl rfl (by decide) rfl rfl rfl ?_
      refine q_iconst rfl ?_
      refine v_ic_ne_t (t := 12) rfl (by decide) (by omega) ?_
      refine q_iconst rfl ?_
      refine v_zret rfl rfl (by omega) ?_
      refine bk_inl ?_
      refine v_if_eq_t (t := 41) rfl (by decide) (by decide) ?_
      refine q_vret rfl rfl ?_
      have h_25 : c_20 41 4 = c_6 41 4 := (hF_22 41 4 (by omega))
      exact K c_20 hI_21 (fun a j hm => (hF_22 a j (by omega)).trans (hF_8 a j (by omega))) (by omega) (by omega) (by omega) (by omega)

set_option maxRecDepth 100000 in
set_option maxHeartbeats 4000000 in
theorem s_162 {sc : List Int32} {e : Int} {d u P Q : Nat} {c : ME} {Z : AR → Prop} (hI : Iv u e P Q c)  (K : ∀ (c2 : ME) (y : Int), Iv u e P Q c2 → (∀ (a : Nat) (j : Int), ¬ ((a = 41 ∧ j = 4)) → c2 a j = c a j) → 0 ≤ y ∧ y ≤ 1 → ((c2 41 4 ≥ c 41 4)) → ((c2 41 4 ≤ c 41 3) ∨ (c2 41 4 = c 41 4)) → ((y = 0) ∨ (c2 41 4 < c 41 3)) → Z (.inl (some (vi y)), Wd P Q P P c2, 0, 0)) : Wp sc (d + 8) 162 0 [(0, .ref 41)] [] (Wd P Q P P c) 0 0 Z := by
  have hP := iv_P hI
  have hQ := iv_Q hI
  refine q_aload_n rfl rfl ?_
  have h_1 := ir_41_4 hI
  have h_2 := ir_41_3 hI
  refine v_cv rfl rfl rfl rfl (by decide) ⟨⟨rfl, rfl⟩, by decide, rfl⟩ (Nat.le_of_ble_eq_true rfl) (Nat.le_of_ble_eq_true rfl) (s_154 hI (fun c_3 y_6 hI_4 hF_5 hy_6 h_7 h_8 h_9 h_10 => ?_))
  refine bk_inl ?_
  have h_11 := ir_41_4 hI_4
  have h_12 := ir_43 hI (c_3 41 4)
  refine q_pop rfl rfl ?_
  refine q_aload_n rfl rfl ?_
  refine v_gi (z := 4) (v := c_3 41 4) rfl rfl rfl (by decide) rfl rfl rfl ?_
  refine q_aload_n rfl rfl ?_
  refine v_gi (z := 3) (v := c 41 3) rfl rfl rfl (by decide) rfl rfl (hF_5 41 3 (by omega)) ?_
  by_cases h_13 : c_3 41 4 ≥ c 41 3
  · refine v_ic_ge_t (t := 20) rfl (by decide) (by omega) ?_
    refine q_iconst rfl ?_
    refine v_zret rfl rfl (by omega) ?_
    exact K c_3 0 hI_4 (fun a j hm => hF_5 a j (by omega)) ⟨by decide, by decide⟩ (by omega) (by omega) (by omega)
  · refine v_ic_ge_f (t := 20) rfl (by decide) (by omega) ?_
    refine q_iconst rfl ?_
    refine q_goto (t := 21) rfl (by decide) ?_
    refine v_zret rfl rfl (by omega) ?_
    exact K c_3 1 hI_4 (fun a j hm => hF_5 a j (by omega)) ⟨by decide, by decide⟩ (by omega) (by omega) (by omega)

set_option maxRecDepth 100000 in
set_option maxHeartbeats 4000000 in
theorem s_163 {sc : List Int32} {e : Int} {d u P Q : Nat} {c : ME} {a1 : Int} {Z : AR → Prop} (hI : Iv u e P Q c) (ha1 : 0 ≤ a1 ∧ a1 ≤ 600) (K : ∀ (c2 : ME), Iv u e P Q c2 → (∀ (a : Nat) (j : Int), ¬ ((a = 41 ∧ j = 2) ∨ (a = 41 ∧ j = 3) ∨ (a = 41 ∧ j = 4) ∨ (a = 41 ∧ j = 5) ∨ (a = 41 ∧ j = 7) ∨ (a = 41 ∧ j = 8)) → c2 a j = c a j) → ((c2 41 3 = a1 ∧ c2 41 4 = 0 ∧ c2 41 5 = (-1) ∧ c2 41 7 = 0 ∧ c2 41 2 = 0)) → Z (.inl (none), Wd P Q P P c2, 0, 0)) : Wp sc (d + 7) 163 0 [(0, .ref 41), (1, vi a1)] [] (Wd P Q P P c) 0 0 Z := by
  have hP := iv_P hI
  have hQ := iv_Q hI
  refine q_aload_n rfl rfl ?_
  refine q_iconst rfl ?_
  refine v_pi (z := 2) rfl rfl rfl (by decide) rfl rfl rfl (by decide) ?_
  refine q_aload_n rfl rfl ?_
  refine q_iconst rfl ?_
  refine v_pi (z := 8) rfl rfl rfl (by decide) rfl rfl rfl (by decide) ?_
  refine q_aload_n rfl rfl ?_
  refine q_iload_n rfl rfl ?_
  refine v_pi (z := 3) rfl rfl rfl (by decide) rfl rfl rfl (by decide) ?_
  refine q_aload_n rfl rfl ?_
  refine q_iconst rfl ?_
  refine v_pi (z := 4) rfl rfl rfl (by decide) rfl rfl rfl (by decide) ?_
  refine q_aload_n rfl rfl ?_
  refine q_iconst rfl ?_
  refine v_pi (z := 5) rfl rfl rfl (by decide) rfl rfl rfl (by decide) ?_
  refine q_aload_n rfl rfl ?_
  refine q_iconst rfl ?_
  refine v_pi (z := 7) rfl rfl rfl (by decide) rfl rfl rfl (by decide) ?_
  refine q_vret rfl rfl ?_
  have hI_1 := iw_41_2 (v := 0) hI ⟨by decide, by decide⟩
  have hI_2 := iw_41_8 (v := (-1)) hI_1 ⟨by decide, by decide⟩
  have hI_3 := iw_41_3 (v := a1) hI_2 ⟨by omega, by omega⟩
  have hI_4 := iw_41_4 (v := 0) hI_3 ⟨by decide, by decide⟩
  have hI_5 := iw_41_5 (v := (-1)) hI_4 ⟨by decide, by decide⟩
  have hI_6 := iw_41_7 (v := 0) hI_5 ⟨by decide, by decide⟩
  have h_7 : (up (up (up (up (up (up c 41 2 0) 41 8 (-1)) 41 3 a1) 41 4 0) 41 5 (-1)) 41 7 0) 41 2 = 0 := ((up_n (by decide)).trans ((up_n (by decide)).trans ((up_n (by decide)).trans ((up_n (by decide)).trans ((up_n (by decide)).trans (up_e rfl))))))
  have h_8 : (up (up (up (up (up (up c 41 2 0) 41 8 (-1)) 41 3 a1) 41 4 0) 41 5 (-1)) 41 7 0) 41 3 = a1 := ((up_n (by decide)).trans ((up_n (by decide)).trans ((up_n (by decide)).trans (up_e rfl))))
  have h_9 : (up (up (up (up (up (up c 41 2 0) 41 8 (-1)) 41 3 a1) 41 4 0) 41 5 (-1)) 41 7 0) 41 4 = 0 := ((up_n (by decide)).trans ((up_n (by decide)).trans (up_e rfl)))
  have h_10 : (up (up (up (up (up (up c 41 2 0) 41 8 (-1)) 41 3 a1) 41 4 0) 41 5 (-1)) 41 7 0) 41 5 = (-1) := ((up_n (by decide)).trans (up_e rfl))
  have h_11 : (up (up (up (up (up (up c 41 2 0) 41 8 (-1)) 41 3 a1) 41 4 0) 41 5 (-1)) 41 7 0) 41 7 = 0 := (up_e rfl)
  exact K (up (up (up (up (up (up c 41 2 0) 41 8 (-1)) 41 3 a1) 41 4 0) 41 5 (-1)) 41 7 0) hI_6 (fun a j hm => (up_b (by omega)).trans ((up_b (by omega)).trans ((up_b (by omega)).trans ((up_b (by omega)).trans ((up_b (by omega)).trans (up_b (by omega))))))) (by omega)

set_option maxRecDepth 100000 in
set_option maxHeartbeats 4000000 in
theorem s_164 {sc : List Int32} {e : Int} {d u P Q : Nat} {c : ME} {a1 : Int} {Z : AR → Prop} (hI : Iv u e P Q c) (ha1 : (-2147483648) ≤ a1 ∧ a1 ≤ 2147483647) (K : ∀ (c2 : ME) (y : Int), Iv u e P Q c2 → (∀ (a : Nat) (j : Int), ¬ ((a = 41 ∧ j = 8)) → c2 a j = c a j) → (-2147483648) ≤ y ∧ y ≤ 2147483647 → Z (.inl (some (vi y)), Wd P Q P P c2, 0, 0)) : Wp sc (d + 8) 164 0 [(0, .ref 41), (1, vi a1)] [] (Wd P Q P P c) 0 0 Z := by
  have hP := iv_P hI
  have hQ := iv_Q hI
  refine q_aload_n rfl rfl ?_
  refine q_aload_n rfl rfl ?_
  have h_1 := ir_41_5 hI
  refine v_gi (z := 5) (v := c 41 5) rfl rfl rfl (by decide) rfl rfl rfl ?_
  refine v_pi (z := 8) rfl rfl rfl (by decide) rfl rfl rfl (by decide) ?_
  refine q_aload_n rfl rfl ?_
  refine v_cv rfl rfl rfl rfl (by decide) ⟨⟨rfl, rfl⟩, by decide, rfl⟩ (Nat.le_of_ble_eq_true rfl) (Nat.le_of_ble_eq_true rfl) ?_
  refine q_aload_n rfl rfl ?_
  refine v_gi (z := 5) (v := c 41 5) rfl rfl rfl (by decide) rfl rfl (up_n (by decide)) ?_
  refine q_iconst rfl ?_
  by_cases h_2 : c 41 5 ≠ (-1)
  · refine v_ic_ne_t (t := 12) rfl (by decide) (by omega) ?_
    refine q_iconst rfl ?_
    refine v_zret rfl rfl (by omega) ?_
    refine bk_inl ?_
    refine v_if_eq_t (t := 19) rfl (by decide) (by decide) ?_
    refine q_aload_n rfl rfl ?_
    have h_3 := ir_41_6 hI
    refine v_gi (z := 6) (v := c 41 6) rfl rfl rfl (by decide) rfl rfl (up_n (by decide)) ?_
    refine v_bip rfl (by decide) ?_
    refine v_isub (v := c 41 6 - 10) rfl (by omega) ?_
    refine q_iret rfl rfl ?_
    have hI_4 := iw_41_8 (v := c 41 5) hI ⟨by omega, by omega⟩
    exact K (up c 41 8 (c 41 5)) (c 41 6 - 10) hI_4 (fun a j hm => up_b (by omega)) ⟨by omega, by omega⟩
  · refine v_ic_ne_f (t := 12) rfl (by decide) (by omega) ?_
    refine q_iconst rfl ?_
    refine q_goto (t := 13) rfl (by decide) ?_
    refine v_zret rfl rfl (by omega) ?_
    refine bk_inl ?_
    refine v_if_eq_f (t := 19) rfl (by decide) (by decide) ?_
    refine q_iload_n rfl rfl ?_
    refine q_goto (t := 26) rfl (by decide) ?_
    refine q_iret rfl rfl ?_
    have hI_5 := iw_41_8 (v := c 41 5) hI ⟨by omega, by omega⟩
    exact K (up c 41 8 (c 41 5)) a1 hI_5 (fun a j hm => up_b (by omega)) ⟨by omega, by omega⟩

set_option maxRecDepth 100000 in
set_option maxHeartbeats 4000000 in
theorem s_165 {sc : List Int32} {e : Int} {d u P Q : Nat} {c : ME} {Z : AR → Prop} (hI : Iv u e P Q c)  (K : ∀ (c2 : ME) (y : Int), Iv u e P Q c2 → (∀ (a : Nat) (j : Int), ¬ ((a = 41 ∧ j = 0)) → c2 a j = c a j) → (-1) ≤ y ∧ y ≤ 605 → Z (.inl (some (vi y)), Wd P Q P P c2, 0, 0)) : Wp sc (d + 7) 165 0 [(0, .ref 41)] [] (Wd P Q P P c) 0 0 Z := by
  have hP := iv_P hI
  have hQ := iv_Q hI
  refine q_aload_n rfl rfl ?_
  refine q_iconst rfl ?_
  refine v_pi (z := 0) rfl rfl rfl (by decide) rfl rfl rfl (by decide) ?_
  refine q_aload_n rfl rfl ?_
  have h_1 := ir_41_8 hI
  refine v_gi (z := 8) (v := c 41 8) rfl rfl rfl (by decide) rfl rfl (up_n (by decide)) ?_
  refine q_iret rfl rfl ?_
  have hI_2 := iw_41_0 (v := 0) hI ⟨by decide, by decide⟩
  exact K (up c 41 0 0) (c 41 8) hI_2 (fun a j hm => up_b (by omega)) ⟨by omega, by omega⟩

set_option maxRecDepth 100000 in
set_option maxHeartbeats 4000000 in
theorem s_166 {sc : List Int32} {e : Int} {d u P Q : Nat} {c : ME} {a0 : Int} {Z : AR → Prop} (hI : Iv u e P Q c) (ha0 : (-2147483648) ≤ a0 ∧ a0 ≤ 2147483647) (K : ∀ (y : Int), 0 ≤ y ∧ y ≤ 1 → ((y = 0) ∨ (a0 > 0)) → Z (.inl (some (vi y)), Wd P Q P P c, 0, 0)) : Wp sc (d + 8) 166 0 [(0, vi a0)] [] (Wd P Q P P c) 0 0 Z := by
  have hP := iv_P hI
  have hQ := iv_Q hI
  refine q_iload_n rfl rfl ?_
  refine q_ldc_s rfl rfl rfl (by decide) ?_
  refine q_call rfl rfl rfl rfl (s_158_16 ?_)
  refine bk_inl ?_
  by_cases h_1 : a0 = 10290
  · refine v_ic_eq_t (t := 36) rfl (by decide) (by omega) ?_
    refine q_iconst rfl ?_
    refine q_goto (t := 41) rfl (by decide) ?_
    refine v_zret rfl rfl (by omega) ?_
    exact K 1 ⟨by decide, by decide⟩ (by omega)
  · refine v_ic_eq_f (t := 36) rfl (by decide) (by omega) ?_
    refine q_iload_n rfl rfl ?_
    refine q_ldc_s rfl rfl rfl (by decide) ?_
    refine q_call rfl rfl rfl rfl (s_158_17 ?_)
    refine bk_inl ?_
    by_cases h_2 : a0 = 20594117
    · refine v_ic_eq_t (t := 36) rfl (by decide) (by omega) ?_
      refine q_iconst rfl ?_
      refine q_goto (t := 41) rfl (by decide) ?_
      refine v_zret rfl rfl (by omega) ?_
      exact K 1 ⟨by decide, by decide⟩ (by omega)
    · refine v_ic_eq_f (t := 36) rfl (by decide) (by omega) ?_
      refine q_iload_n rfl rfl ?_
      refine q_ldc_s rfl rfl rfl (by decide) ?_
      refine q_call rfl rfl rfl rfl (s_158_18 ?_)
      refine bk_inl ?_
      by_cases h_3 : a0 = 20223685
      · refine v_ic_eq_t (t := 36) rfl (by decide) (by omega) ?_
        refine q_iconst rfl ?_
        refine q_goto (t := 41) rfl (by decide) ?_
        refine v_zret rfl rfl (by omega) ?_
        exact K 1 ⟨by decide, by decide⟩ (by omega)
      · refine v_ic_eq_f (t := 36) rfl (by decide) (by omega) ?_
        refine q_iload_n rfl rfl ?_
        refine q_ldc_s rfl rfl rfl (by decide) ?_
        refine q_call rfl rfl rfl rfl (s_158_19 ?_)
        refine bk_inl ?_
        by_cases h_4 : a0 ≠ 153204
        · refine v_ic_ne_t (t := 40) rfl (by decide) (by omega) ?_
          refine q_iconst rfl ?_
          refine v_zret rfl rfl (by omega) ?_
          exact K 0 ⟨by decide, by decide⟩ (by omega)
        · refine v_ic_ne_f (t := 40) rfl (by decide) (by omega) ?_
          refine q_iconst rfl ?_
          refine q_goto (t := 41) rfl (by decide) ?_
          refine v_zret rfl rfl (by omega) ?_
          exact K 1 ⟨by decide, by decide⟩ (by omega)

set_option maxRecDepth 100000 in
set_option maxHeartbeats 4000000 in
theorem s_168_l {sc : List Int32} {e : Int} {d u P Q : Nat} {c : ME} {a1 : Int} {Z : AR → Prop} (hI : Iv u e P Q c) (ha1 : (-2147483648) ≤ a1 ∧ a1 ≤ 2147483647) (hq0 : (a1 ≠ 10290) ∨ (c 41 16 ≤ 5)) (hq1 : (a1 ≠ 20594117) ∨ (c 41 17 ≤ 3)) (hq2 : (a1 ≠ 20223685) ∨ (c 41 18 ≤ 3)) (K : ∀ (c2 : ME), Iv u e P Q c2 → (∀ (a : Nat) (j : Int), ¬ ((a = 41 ∧ j = 4) ∨ (a = 41 ∧ j = 5) ∨ (a = 41 ∧ j = 6) ∨ (a = 41 ∧ j = 16) ∨ (a = 41 ∧ j = 17) ∨ (a = 41 ∧ j = 18) ∨ (a = 41 ∧ j = 19) ∨ a = 44 ∨ a = 45 ∨ a = 46) → c2 a j = c a j) → ((c2 41 4 ≥ c 41 4)) → Z (.inl (none), Wd P Q P P c2, 0, 0)) : ∀ n : Nat, (∀ (c2 : ME) (v2 : Int), Iv u e P Q c2 → (∀ (a : Nat) (j : Int), ¬ ((a = 41 ∧ j = 4) ∨ (a = 41 ∧ j = 5) ∨ (a = 41 ∧ j = 6) ∨ (a = 41 ∧ j = 16) ∨ (a = 41 ∧ j = 17) ∨ (a = 41 ∧ j = 18) ∨ (a = 41 ∧ j = 19) ∨ a = 44 ∨ a = 45 ∨ a = 46) → c2 a j = c a j) → 0 ≤ v2 ∧ v2 ≤ 4 → ((c2 41 16 ≤ 5)) → ((c2 41 4 ≥ c 41 4)) → 18 - 2 * v2 < (n : Int) → Wp sc (d + 9) 168 11 [(0, .ref 41), (1, vi a1), (2, vi v2)] [] (Wd P Q P P c2) 0 0 Z) ∧ (∀ (c2 : ME) (v2 : Int), Iv u e P Q c2 → (∀ (a : Nat) (j : Int), ¬ ((a = 41 ∧ j = 4) ∨ (a = 41 ∧ j = 5) ∨ (a = 41 ∧ j = 6) ∨ (a = 41 ∧ j = 16) ∨ (a = 41 ∧ j = 17) ∨ (a = 41 ∧ j = 18) ∨ (a = 41 ∧ j = 19) ∨ a = 44 ∨ a = 45 ∨ a = 46) → c2 a j = c a j) → 0 ≤ v2 ∧ v2 ≤ 3 → ((c2 41 17 ≤ 3)) → ((c2 41 4 ≥ c 41 4)) → 7 - 2 * v2 < (n : Int) → Wp sc (d + 9) 168 67 [(0, .ref 41), (1, vi a1), (2, vi v2)] [] (Wd P Q P P c2) 0 0 Z)
  | 0 => by exact ⟨by (intro c2 v2 hI2 hF hv2 hx0 hx1 hm9; have hP := iv_P hI; have hQ := iv_Q hI; exfalso; omega), by (intro c2 v2 hI2 hF hv2 hx0 hx1 hm9; have hP := iv_P hI; have hQ := iv_Q hI; exfalso; omega)⟩
  | n + 1 => by
    have hP := iv_P hI
    have hQ := iv_Q hI
    have ih := s_168_l (sc := sc) (d := d) hI ha1 hq0 hq1 hq2 K n
    refine ⟨?_, ?_⟩
    · skip
      intro c2 v2 hI2 hF hv2 hx0 hx1 hm9
      have h_1 := ir_41_16 hI2
      have h_2 := ir_41_4 hI
      have h_3 := ir_41_4 hI2
      refine q_iload_n rfl rfl ?_
      refine q_iconst rfl ?_
      by_cases h_4 : v2 ≥ 4
      · refine v_ic_ge_t (t := 43) rfl (by decide) (by omega) ?_
        refine q_aload_n rfl rfl ?_
        refine q_dup rfl rfl ?_
        refine v_gi (z := 16) (v := c2 41 16) rfl rfl rfl (by decide) rfl rfl rfl ?_
        refine q_iconst rfl ?_
        refine v_iadd (v := c2 41 16 + 1) rfl (by omega) ?_
        refine v_pi (z := 16) rfl rfl rfl (by decide) rfl rfl rfl (by decide) ?_
        refine q_goto (t := 159) rfl (by decide) ?_
        refine q_vret rfl rfl ?_
        have hI_5 := iw_41_16 (v := c2 41 16 + 1) hI2 ⟨by omega, by omega⟩
        have h_6 : (up c2 41 16 (c2 41 16 + 1)) 41 4 = c2 41 4 := (up_n (by decide))
        exact K (up c2 41 16 (c2 41 16 + 1)) hI_5 (fun a j hm => (up_b (by omega)).trans (hF a j (by omega))) (by omega)
      · refine v_ic_ge_f (t := 43) rfl (by decide) (by omega) ?_
        refine q_aload_n rfl rfl ?_
        refine v_gr (t := 44) rfl rfl rfl (by decide) rfl ?_
        refine q_iconst rfl ?_
        refine q_aload_n rfl rfl ?_
        refine v_gi (z := 16) (v := c2 41 16) rfl rfl rfl (by decide) rfl rfl rfl ?_
        refine v_imul (v := 4 * c2 41 16) rfl (by omega) ?_
        refine q_iload_n rfl rfl ?_
        refine v_iadd (v := 4 * c2 41 16 + v2) rfl (by omega) ?_
        refine q_aload_n rfl rfl ?_
        refine q_iconst rfl ?_
        refine v_sip rfl (by decide) ?_
        have h_7 := ir_41_3 hI
        have h_8 : c2 41 3 = c 41 3 := (hF 41 3 (by omega))
        have h_9 := ir_41_5 hI2
        refine v_cv rfl rfl rfl rfl (by decide) ⟨⟨rfl, rfl⟩, by decide, rfl⟩ (Nat.le_of_ble_eq_true rfl) (Nat.le_of_ble_eq_true rfl) (s_160 (a1 := 0) (a2 := 999) hI2 (show 0 ≤ 0 ∧ 0 ≤ 1 from by omega) (show (-1) ≤ 999 ∧ 999 ≤ 9999 from by omega) (fun c_10 y_13 hI_11 hF_12 hy_13 h_14 h_15 h_16 h_17 h_18 => ?_))
        refine bk_inl ?_
        have h_19 := ir_41_4 hI_11
        have h_20 := ir_41_5 hI_11
        refine v_is rfl rfl (by decide) (by decide) (by omega) ?_
        refine v_iinc (v := v2 + 1) rfl rfl (by decide) (by omega) ?_
        refine q_goto (t := 11) rfl (by decide) ?_
        have hI_21 := iw_44 (j := 4 * c2 41 16 + v2) (v := y_13) hI_11 ⟨by omega, by omega⟩
        refine Wp_ls [(0, .ref 41), (1, vi a1), (2, vi (v2 + 1))] (lsub_cons rfl (lsub_cons rfl (lsub_cons rfl lsub_nil))) ?_
        have h_22 : (up c_10 44 (4 * c2 41 16 + v2) y_13) 41 16 = c2 41 16 := ((up_c (by decide)).trans (hF_12 41 16 (by omega)))
        have h_23 : (up c_10 44 (4 * c2 41 16 + v2) y_13) 41 4 = c_10 41 4 := (up_c (by decide))
        exact ih.1 (up c_10 44 (4 * c2 41 16 + v2) y_13) (v2 + 1) hI_21 (fun a j hm => (up_b (by omega)).trans ((hF_12 a j (by omega)).trans (hF a j (by omega)))) ⟨by omega, by omega⟩ (by omega) (by omega) (by omega)
    · skip
      intro c2 v2 hI2 hF hv2 hx0 hx1 hm9
      have h_24 := ir_41_17 hI2
      have h_25 := ir_41_4 hI
      have h_26 := ir_41_4 hI2
      refine q_iload_n rfl rfl ?_
      refine q_iconst rfl ?_
      by_cases h_27 : v2 ≥ 3
      · refine v_ic_ge_t (t := 98) rfl (by decide) (by omega) ?_
        refine q_aload_n rfl rfl ?_
        refine q_dup rfl rfl ?_
        refine v_gi (z := 17) (v := c2 41 17) rfl rfl rfl (by decide) rfl rfl rfl ?_
        refine q_iconst rfl ?_
        refine v_iadd (v := c2 41 17 + 1) rfl (by omega) ?_
        refine v_pi (z := 17) rfl rfl rfl (by decide) rfl rfl rfl (by decide) ?_
        refine q_goto (t := 159) rfl (by decide) ?_
        refine q_vret rfl rfl ?_
        have hI_28 := iw_41_17 (v := c2 41 17 + 1) hI2 ⟨by omega, by omega⟩
        have h_29 : (up c2 41 17 (c2 41 17 + 1)) 41 4 = c2 41 4 := (up_n (by decide))
        exact K (up c2 41 17 (c2 41 17 + 1)) hI_28 (fun a j hm => (up_b (by omega)).trans (hF a j (by omega))) (by omega)
      · refine v_ic_ge_f (t := 98) rfl (by decide) (by omega) ?_
        refine q_aload_n rfl rfl ?_
        refine v_gr (t := 45) rfl rfl rfl (by decide) rfl ?_
        refine q_iconst rfl ?_
        refine q_aload_n rfl rfl ?_
        refine v_gi (z := 17) (v := c2 41 17) rfl rfl rfl (by decide) rfl rfl rfl ?_
        refine v_imul (v := 3 * c2 41 17) rfl (by omega) ?_
        refine q_iload_n rfl rfl ?_
        refine v_iadd (v := 3 * c2 41 17 + v2) rfl (by omega) ?_
        refine q_aload_n rfl rfl ?_
        refine q_iconst rfl ?_
        refine v_bip rfl (by decide) ?_
        have h_30 := ir_41_3 hI
        have h_31 : c2 41 3 = c 41 3 := (hF 41 3 (by omega))
        have h_32 := ir_41_5 hI2
        refine v_cv rfl rfl rfl rfl (by decide) ⟨⟨rfl, rfl⟩, by decide, rfl⟩ (Nat.le_of_ble_eq_true rfl) (Nat.le_of_ble_eq_true rfl) (s_160 (a1 := 0) (a2 := 10) hI2 (show 0 ≤ 0 ∧ 0 ≤ 1 from by omega) (show (-1) ≤ 10 ∧ 10 ≤ 9999 from by omega) (fun c_33 y_36 hI_34 hF_35 hy_36 h_37 h_38 h_39 h_40 h_41 => ?_))
        refine bk_inl ?_
        have h_42 := ir_41_4 hI_34
        have h_43 := ir_41_5 hI_34
        refine v_is rfl rfl (by decide) (by decide) (by omega) ?_
        refine v_iinc (v := v2 + 1) rfl rfl (by decide) (by omega) ?_
        refine q_goto (t := 67) rfl (by decide) ?_
        have hI_44 := iw_45 (j := 3 * c2 41 17 + v2) (v := y_36) hI_34 ⟨by omega, by omega⟩
        refine Wp_ls [(0, .ref 41), (1, vi a1), (2, vi (v2 + 1))] (lsub_cons rfl (lsub_cons rfl (lsub_cons rfl lsub_nil))) ?_
        have h_45 : (up c_33 45 (3 * c2 41 17 + v2) y_36) 41 17 = c2 41 17 := ((up_c (by decide)).trans (hF_35 41 17 (by omega)))
        have h_46 : (up c_33 45 (3 * c2 41 17 + v2) y_36) 41 4 = c_33 41 4 := (up_c (by decide))
        exact ih.2 (up c_33 45 (3 * c2 41 17 + v2) y_36) (v2 + 1) hI_44 (fun a j hm => (up_b (by omega)).trans ((hF_35 a j (by omega)).trans (hF a j (by omega)))) ⟨by omega, by omega⟩ (by omega) (by omega) (by omega)
set_option maxRecDepth 100000 in
set_option maxHeartbeats 4000000 in
theorem s_168 {sc : List Int32} {e : Int} {d u P Q : Nat} {c : ME} {a1 : Int} {Z : AR → Prop} (hI : Iv u e P Q c) (ha1 : (-2147483648) ≤ a1 ∧ a1 ≤ 2147483647) (hq0 : (a1 ≠ 10290) ∨ (c 41 16 ≤ 5)) (hq1 : (a1 ≠ 20594117) ∨ (c 41 17 ≤ 3)) (hq2 : (a1 ≠ 20223685) ∨ (c 41 18 ≤ 3)) (K : ∀ (c2 : ME), Iv u e P Q c2 → (∀ (a : Nat) (j : Int), ¬ ((a = 41 ∧ j = 4) ∨ (a = 41 ∧ j = 5) ∨ (a = 41 ∧ j = 6) ∨ (a = 41 ∧ j = 16) ∨ (a = 41 ∧ j = 17) ∨ (a = 41 ∧ j = 18) ∨ (a = 41 ∧ j = 19) ∨ a = 44 ∨ a = 45 ∨ a = 46) → c2 a j = c a j) → ((c2 41 4 ≥ c 41 4)) → Z (.inl (none), Wd P Q P P c2, 0, 0)) : Wp sc (d + 9) 168 0 [(0, .ref 41), (1, vi a1)] [] (Wd P Q P P c) 0 0 Z := by
  have hP := iv_P hI
  have hQ := iv_Q hI
  have h_47 := ir_41_16 hI
  have h_48 := ir_41_17 hI
  have h_49 := ir_41_18 hI
  refine q_iload_n rfl rfl ?_
  refine q_ldc_s rfl rfl rfl (by decide) ?_
  refine q_call rfl rfl rfl rfl (s_158_16 ?_)
  refine bk_inl ?_
  by_cases h_50 : a1 ≠ 10290
  · refine v_ic_ne_t (t := 56) rfl (by decide) (by omega) ?_
    refine q_iload_n rfl rfl ?_
    refine q_ldc_s rfl rfl rfl (by decide) ?_
    refine q_call rfl rfl rfl rfl (s_158_17 ?_)
    refine bk_inl ?_
    by_cases h_51 : a1 ≠ 20594117
    · refine v_ic_ne_t (t := 111) rfl (by decide) (by omega) ?_
      refine q_iload_n rfl rfl ?_
      refine q_ldc_s rfl rfl rfl (by decide) ?_
      refine q_call rfl rfl rfl rfl (s_158_18 ?_)
      refine bk_inl ?_
      by_cases h_52 : a1 ≠ 20223685
      · refine v_ic_ne_t (t := 148) rfl (by decide) (by omega) ?_
        refine q_aload_n rfl rfl ?_
        refine q_aload_n rfl rfl ?_
        refine q_iconst rfl ?_
        refine v_bip rfl (by decide) ?_
        have h_53 := ir_41_4 hI
        have h_54 := ir_41_3 hI
        have h_55 := ir_41_5 hI
        refine v_cv rfl rfl rfl rfl (by decide) ⟨⟨rfl, rfl⟩, by decide, rfl⟩ (Nat.le_of_ble_eq_true rfl) (Nat.le_of_ble_eq_true rfl) (s_160 (a1 := 0) (a2 := 50) hI (show 0 ≤ 0 ∧ 0 ≤ 1 from by omega) (show (-1) ≤ 50 ∧ 50 ≤ 9999 from by omega) (fun c_56 y_59 hI_57 hF_58 hy_59 h_60 h_61 h_62 h_63 h_64 => ?_))
        refine bk_inl ?_
        have h_65 := ir_41_4 hI_57
        have h_66 := ir_41_5 hI_57
        refine v_pi (z := 19) rfl rfl rfl (by decide) rfl rfl rfl (by decide) ?_
        refine q_vret rfl rfl ?_
        have hI_67 := iw_41_19 (v := y_59) hI_57 ⟨by omega, by omega⟩
        have h_68 : (up c_56 41 19 y_59) 41 4 = c_56 41 4 := (up_n (by decide))
        exact K (up c_56 41 19 y_59) hI_67 (fun a j hm => (up_b (by omega)).trans (hF_58 a j (by omega))) (by omega)
      · refine v_ic_ne_f (t := 148) rfl (by decide) (by omega) ?_
        refine q_aload_n rfl rfl ?_
        refine v_gr (t := 46) rfl rfl rfl (by decide) rfl ?_
        refine q_aload_n rfl rfl ?_
        refine v_gi (z := 18) (v := c 41 18) rfl rfl rfl (by decide) rfl rfl rfl ?_
        refine q_aload_n rfl rfl ?_
        refine q_iconst rfl ?_
        refine q_iconst rfl ?_
        have h_69 := ir_41_4 hI
        have h_70 := ir_41_3 hI
        have h_71 := ir_41_5 hI
        refine v_cv rfl rfl rfl rfl (by decide) ⟨⟨rfl, rfl⟩, by decide, rfl⟩ (Nat.le_of_ble_eq_true rfl) (Nat.le_of_ble_eq_true rfl) (s_160 (a1 := 0) (a2 := 2) hI (show 0 ≤ 0 ∧ 0 ≤ 1 from by omega) (show (-1) ≤ 2 ∧ 2 ≤ 9999 from by omega) (fun c_72 y_75 hI_73 hF_74 hy_75 h_76 h_77 h_78 h_79 h_80 => ?_))
        refine bk_inl ?_
        have h_81 := ir_41_4 hI_73
        have h_82 := ir_41_5 hI_73
        refine v_is rfl rfl (by decide) (by decide) (by omega) ?_
        refine q_aload_n rfl rfl ?_
        refine q_dup rfl rfl ?_
        refine v_gi (z := 18) (v := c 41 18) rfl rfl rfl (by decide) rfl rfl ((up_c (by decide)).trans (hF_74 41 18 (by omega))) ?_
        refine q_iconst rfl ?_
        refine v_iadd (v := c 41 18 + 1) rfl (by omega) ?_
        refine v_pi (z := 18) rfl rfl rfl (by decide) rfl rfl rfl (by decide) ?_
        refine q_goto (t := 159) rfl (by decide) ?_
        refine q_vret rfl rfl ?_
        have hI_83 := iw_46 (j := c 41 18) (v := y_75) hI_73 ⟨by omega, by omega⟩
        have hI_84 := iw_41_18 (v := c 41 18 + 1) hI_83 ⟨by omega, by omega⟩
        have h_85 : (up (up c_72 46 (c 41 18) y_75) 41 18 (c 41 18 + 1)) 41 4 = c_72 41 4 := ((up_n (by decide)).trans (up_c (by decide)))
        exact K (up (up c_72 46 (c 41 18) y_75) 41 18 (c 41 18 + 1)) hI_84 (fun a j hm => (up_b (by omega)).trans ((up_b (by omega)).trans (hF_74 a j (by omega)))) (by omega)
    · refine v_ic_ne_f (t := 111) rfl (by decide) (by omega) ?_
      refine q_iconst rfl ?_
      refine q_istore_n rfl (by decide) ?_
      refine Wp_ls [(0, .ref 41), (1, vi a1), (2, vi 0)] (lsub_cons rfl (lsub_cons rfl (lsub_cons rfl lsub_nil))) ?_
      have h_86 := ir_41_4 hI
      exact (s_168_l (sc := sc) (d := d) hI ha1 hq0 hq1 hq2 K 21).2 c 0 hI (fun a j hm => rfl) ⟨by decide, by decide⟩ (by omega) (by omega) (by omega)
  · refine v_ic_ne_f (t := 56) rfl (by decide) (by omega) ?_
    refine q_iconst rfl ?_
    refine q_istore_n rfl (by decide) ?_
    refine Wp_ls [(0, .ref 41), (1, vi a1), (2, vi 0)] (lsub_cons rfl (lsub_cons rfl (lsub_cons rfl lsub_nil))) ?_
    have h_87 := ir_41_4 hI
    exact (s_168_l (sc := sc) (d := d) hI ha1 hq0 hq1 hq2 K 21).1 c 0 hI (fun a j hm => rfl) ⟨by decide, by decide⟩ (by omega) (by omega) (by omega)

set_option maxRecDepth 100000 in
set_option maxHeartbeats 4000000 in
theorem s_169_l {sc : List Int32} {d P Q : Nat} {c : ME} {a1 : Int} {Z : AR → Prop} (hI : Iv 0 (-1) P Q c) (ha1 : (-2147483648) ≤ a1 ∧ a1 ≤ 2147483647) (K : ∀ (c2 : ME) (y : Int), Iv 0 (-1) P Q c2 → (∀ (a : Nat) (j : Int), ¬ ((a = 41 ∧ j = 0) ∨ a = 42 ∨ (a = 41 ∧ j = 2) ∨ (a = 41 ∧ j = 3) ∨ (a = 41 ∧ j = 4) ∨ (a = 41 ∧ j = 5) ∨ (a = 41 ∧ j = 6) ∨ (a = 41 ∧ j = 7) ∨ (a = 41 ∧ j = 8) ∨ (a = 41 ∧ j = 16) ∨ (a = 41 ∧ j = 17) ∨ (a = 41 ∧ j = 18) ∨ (a = 41 ∧ j = 19) ∨ a = 44 ∨ a = 45 ∨ a = 46 ∨ (a = 41 ∧ j = 20) ∨ (a = 41 ∧ j = 21) ∨ (a = 41 ∧ j = 22) ∨ (a = 41 ∧ j = 23) ∨ (a = 41 ∧ j = 30) ∨ (a = 41 ∧ j = 35) ∨ (a = 41 ∧ j = 36) ∨ (a = 41 ∧ j = 47) ∨ (a = 41 ∧ j = 48) ∨ (a = 41 ∧ j = 52) ∨ a = 47 ∨ a = 48 ∨ a = 49 ∨ a = 58 ∨ a = 64) → c2 a j = c a j) → (-2147483648) ≤ y ∧ y ≤ 2147483647 → Z (.inl (some (vi y)), Wd P Q P P c2, 0, 0)) : ∀ n : Nat, (∀ (c2 : ME) (v2 : Int), Iv 0 (-1) P Q c2 → (∀ (a : Nat) (j : Int), ¬ ((a = 41 ∧ j = 0) ∨ a = 42 ∨ (a = 41 ∧ j = 2) ∨ (a = 41 ∧ j = 3) ∨ (a = 41 ∧ j = 4) ∨ (a = 41 ∧ j = 5) ∨ (a = 41 ∧ j = 6) ∨ (a = 41 ∧ j = 7) ∨ (a = 41 ∧ j = 8) ∨ (a = 41 ∧ j = 16) ∨ (a = 41 ∧ j = 17) ∨ (a = 41 ∧ j = 18) ∨ (a = 41 ∧ j = 19) ∨ a = 44 ∨ a = 45 ∨ a = 46 ∨ (a = 41 ∧ j = 20) ∨ (a = 41 ∧ j = 21) ∨ (a = 41 ∧ j = 22) ∨ (a = 41 ∧ j = 23) ∨ (a = 41 ∧ j = 30) ∨ (a = 41 ∧ j = 35) ∨ (a = 41 ∧ j = 36) ∨ (a = 41 ∧ j = 47) ∨ (a = 41 ∧ j = 48) ∨ (a = 41 ∧ j = 52) ∨ a = 47 ∨ a = 48 ∨ a = 49 ∨ a = 58 ∨ a = 64) → c2 a j = c a j) → 0 ≤ v2 ∧ v2 ≤ 60 → 1211 - 2 * c2 41 4 < (n : Int) → Wp sc (d + 10) 169 44 [(0, .ref 41), (1, vi a1), (2, vi v2)] [] (Wd P Q P P c2) 0 0 Z)
  | 0 => by intro c2 v2 hI2 hF hv2 hm9; have hP := iv_P hI; have hQ := iv_Q hI; have h_239 := ir_41_4 hI2; exfalso; omega
  | n + 1 => by
    have hP := iv_P hI
    have hQ := iv_Q hI
    have ih := s_169_l (sc := sc) (d := d) hI ha1 K n
    intro c2 v2 hI2 hF hv2 hm9
    have h_1 := ir_41_4 hI2
    refine q_aload_n rfl rfl ?_
    refine v_cv rfl rfl rfl rfl (by decide) ⟨⟨rfl, rfl⟩, by decide, rfl⟩ (Nat.le_of_ble_eq_true rfl) (Nat.le_of_ble_eq_true rfl) ?_
    refine q_aload_n rfl rfl ?_
    have h_2 := ir_41_5 hI2
    refine v_gi (z := 5) (v := c2 41 5) rfl rfl rfl (by decide) rfl rfl rfl ?_
    refine q_iconst rfl ?_
    by_cases h_3 : c2 41 5 ≠ (-1)
    · refine v_ic_ne_t (t := 12) rfl (by decide) (by omega) ?_
      refine q_iconst rfl ?_
      refine v_zret rfl rfl (by omega) ?_
      refine bk_inl ?_
      refine v_if_eq_t (t := 136) rfl (by decide) (by decide) ?_
      refine q_aload_n rfl rfl ?_
      refine q_aload_n rfl rfl ?_
      have h_4 := ir_41_16 hI2
      refine v_gi (z := 16) (v := c2 41 16) rfl rfl rfl (by decide) rfl rfl rfl ?_
      refine v_cv rfl rfl rfl rfl (by decide) ⟨⟨rfl, rfl⟩, by decide, rfl⟩ (Nat.le_of_ble_eq_true rfl) (Nat.le_of_ble_eq_true rfl) (s_164 (a1 := c2 41 16) hI2 (show (-2147483648) ≤ c2 41 16 ∧ c2 41 16 ≤ 2147483647 from by omega) (fun c_5 y_8 hI_6 hF_7 hy_8 => ?_))
      refine bk_inl ?_
      refine q_istore_n rfl (by decide) ?_
      refine q_aload_n rfl rfl ?_
      refine v_gi (z := 5) (v := c2 41 5) rfl rfl rfl (by decide) rfl rfl (hF_7 41 5 (by omega)) ?_
      refine q_iconst rfl ?_
      refine v_ic_ne_t (t := 157) rfl (by decide) (by omega) ?_
      refine q_iload_n rfl rfl ?_
      refine q_iret rfl rfl ?_
      exact K c_5 y_8 hI_6 (fun a j hm => (hF_7 a j (by omega)).trans (hF a j (by omega))) ⟨by omega, by omega⟩
    · refine v_ic_ne_f (t := 12) rfl (by decide) (by omega) ?_
      refine q_iconst rfl ?_
      refine q_goto (t := 13) rfl (by decide) ?_
      refine v_zret rfl rfl (by omega) ?_
      refine bk_inl ?_
      refine v_if_eq_f (t := 136) rfl (by decide) (by decide) ?_
      refine q_aload_n rfl rfl ?_
      have h_9 := ir_41_3 hI2
      refine v_cv rfl rfl rfl rfl (by decide) ⟨⟨rfl, rfl⟩, by decide, rfl⟩ (Nat.le_of_ble_eq_true rfl) (Nat.le_of_ble_eq_true rfl) (s_162 hI2 (fun c_10 y_13 hI_11 hF_12 hy_13 h_14 h_15 h_16 => ?_))
      refine bk_inl ?_
      have h_17 := ir_41_4 hI_11
      by_cases h_18 : y_13 = 0
      · refine v_if_eq_t (t := 136) rfl (by decide) (by omega) ?_
        refine q_aload_n rfl rfl ?_
        refine q_aload_n rfl rfl ?_
        have h_19 := ir_41_16 hI2
        refine v_gi (z := 16) (v := c2 41 16) rfl rfl rfl (by decide) rfl rfl (hF_12 41 16 (by omega)) ?_
        refine v_cv rfl rfl rfl rfl (by decide) ⟨⟨rfl, rfl⟩, by decide, rfl⟩ (Nat.le_of_ble_eq_true rfl) (Nat.le_of_ble_eq_true rfl) (s_164 (a1 := c2 41 16) hI_11 (show (-2147483648) ≤ c2 41 16 ∧ c2 41 16 ≤ 2147483647 from by omega) (fun c_20 y_23 hI_21 hF_22 hy_23 => ?_))
        refine bk_inl ?_
        refine q_istore_n rfl (by decide) ?_
        refine q_aload_n rfl rfl ?_
        refine v_gi (z := 5) (v := c2 41 5) rfl rfl rfl (by decide) rfl rfl ((hF_22 41 5 (by omega)).trans (hF_12 41 5 (by omega))) ?_
        refine q_iconst rfl ?_
        refine v_ic_ne_f (t := 157) rfl (by decide) (by omega) ?_
        refine q_aload_n rfl rfl ?_
        refine v_cv rfl rfl rfl rfl (by decide) ⟨⟨rfl, rfl⟩, by decide, rfl⟩ (Nat.le_of_ble_eq_true rfl) (Nat.le_of_ble_eq_true rfl) (s_149 (iv_open hI_21) (fun c_24 hI_25 hF_26 => ?_))
        refine bk_inl ?_
        refine q_iload_n rfl rfl ?_
        refine q_iret rfl rfl ?_
        exact K c_24 y_23 hI_25 (fun a j hm => (hF_26 a j (by omega)).trans ((hF_22 a j (by omega)).trans ((hF_12 a j (by omega)).trans (hF a j (by omega))))) ⟨by omega, by omega⟩
      · refine v_if_eq_f (t := 136) rfl (by decide) (by omega) ?_
        refine q_aload_n rfl rfl ?_
        have h_27 : c_10 41 3 = c2 41 3 := (hF_12 41 3 (by omega))
        refine v_cv rfl rfl rfl rfl (by decide) ⟨⟨rfl, rfl⟩, by decide, rfl⟩ (Nat.le_of_ble_eq_true rfl) (Nat.le_of_ble_eq_true rfl) (s_157 hI_11 (fun c_28 y_31 hI_29 hF_30 hy_31 h_32 h_33 h_34 h_35 h_36 => ?_))
        refine bk_inl ?_
        have h_37 := ir_41_4 hI_29
        have h_38 := ir_43 hI (c_28 41 4)
        have h_39 : c_10 43 (c_28 41 4) = c 43 (c_28 41 4) := ((hF_12 43 (c_28 41 4) (by omega)).trans (hF 43 (c_28 41 4) (by omega)))
        have h_40 := ir_43 hI (c_28 41 4 + 1)
        have h_41 : c_10 43 (c_28 41 4 + 1) = c 43 (c_28 41 4 + 1) := ((hF_12 43 (c_28 41 4 + 1) (by omega)).trans (hF 43 (c_28 41 4 + 1) (by omega)))
        have h_42 := ir_43 hI (c_28 41 4 + 2)
        have h_43 : c_10 43 (c_28 41 4 + 2) = c 43 (c_28 41 4 + 2) := ((hF_12 43 (c_28 41 4 + 2) (by omega)).trans (hF 43 (c_28 41 4 + 2) (by omega)))
        refine q_istore_n rfl (by decide) ?_
        refine q_iload_n rfl rfl ?_
        refine q_call rfl rfl rfl rfl (s_166 (a0 := y_31) hI_29 (show (-2147483648) ≤ y_31 ∧ y_31 ≤ 2147483647 from by omega) (fun y_44 hy_44 h_45 => ?_))
        refine bk_inl ?_
        by_cases h_46 : y_44 ≠ 0
        · refine v_if_ne_t (t := 82) rfl (by decide) (by omega) ?_
          refine q_iload_n rfl rfl ?_
          refine v_bip rfl (by decide) ?_
          by_cases h_47 : v2 = 60
          · refine v_ic_eq_t (t := 96) rfl (by decide) (by omega) ?_
            refine q_aload_n rfl rfl ?_
            refine q_iconst rfl ?_
            refine q_aload_n rfl rfl ?_
            refine v_gi (z := 4) (v := c_28 41 4) rfl rfl rfl (by decide) rfl rfl rfl ?_
            refine v_cv rfl rfl rfl rfl (by decide) ⟨⟨rfl, rfl⟩, by decide, rfl⟩ (Nat.le_of_ble_eq_true rfl) (Nat.le_of_ble_eq_true rfl) (s_153 (a1 := 3) (a2 := c_28 41 4) hI_29 (show 1 ≤ 3 ∧ 3 ≤ 3 from by omega) (show 0 ≤ c_28 41 4 ∧ c_28 41 4 ≤ 605 from by omega) (fun c_48 hI_49 hF_50 h_51 => ?_))
            refine bk_inl ?_
            have h_52 := ir_41_5 hI_49
            refine q_aload_n rfl rfl ?_
            refine v_cv rfl rfl rfl rfl (by decide) ⟨⟨rfl, rfl⟩, by decide, rfl⟩ (Nat.le_of_ble_eq_true rfl) (Nat.le_of_ble_eq_true rfl) ?_
            refine q_aload_n rfl rfl ?_
            refine v_gi (z := 5) (v := c_48 41 5) rfl rfl rfl (by decide) rfl rfl rfl ?_
            refine q_iconst rfl ?_
            refine v_ic_ne_t (t := 12) rfl (by decide) (by omega) ?_
            refine q_iconst rfl ?_
            refine v_zret rfl rfl (by omega) ?_
            refine bk_inl ?_
            refine v_if_ne_f (t := 115) rfl (by decide) (by decide) ?_
            refine q_goto (t := 136) rfl (by decide) ?_
            refine q_aload_n rfl rfl ?_
            refine q_aload_n rfl rfl ?_
            have h_53 := ir_41_16 hI2
            refine v_gi (z := 16) (v := c2 41 16) rfl rfl rfl (by decide) rfl rfl ((hF_50 41 16 (by omega)).trans ((hF_30 41 16 (by omega)).trans (hF_12 41 16 (by omega)))) ?_
            refine v_cv rfl rfl rfl rfl (by decide) ⟨⟨rfl, rfl⟩, by decide, rfl⟩ (Nat.le_of_ble_eq_true rfl) (Nat.le_of_ble_eq_true rfl) (s_164 (a1 := c2 41 16) hI_49 (show (-2147483648) ≤ c2 41 16 ∧ c2 41 16 ≤ 2147483647 from by omega) (fun c_54 y_57 hI_55 hF_56 hy_57 => ?_))
            refine bk_inl ?_
            refine q_istore_n rfl (by decide) ?_
            refine q_aload_n rfl rfl ?_
            refine v_gi (z := 5) (v := c_48 41 5) rfl rfl rfl (by decide) rfl rfl (hF_56 41 5 (by omega)) ?_
            refine q_iconst rfl ?_
            refine v_ic_ne_t (t := 157) rfl (by decide) (by omega) ?_
            refine q_iload_n rfl rfl ?_
            refine q_iret rfl rfl ?_
            exact K c_54 y_57 hI_55 (fun a j hm => (hF_56 a j (by omega)).trans ((hF_50 a j (by omega)).trans ((hF_30 a j (by omega)).trans ((hF_12 a j (by omega)).trans (hF a j (by omega)))))) ⟨by omega, by omega⟩
          · refine v_ic_eq_f (t := 96) rfl (by decide) (by omega) ?_
            refine q_aload_n rfl rfl ?_
            refine q_iload_n rfl rfl ?_
            refine v_cv rfl rfl rfl rfl (by decide) ⟨⟨rfl, rfl⟩, by decide, rfl⟩ (Nat.le_of_ble_eq_true rfl) (Nat.le_of_ble_eq_true rfl) ?_
            refine q_iload_n rfl rfl ?_
            refine q_ldc_s rfl rfl rfl (by decide) ?_
            refine q_call rfl rfl rfl rfl (s_158_16 ?_)
            refine bk_inl ?_
            by_cases h_58 : y_31 ≠ 10290
            · refine v_ic_ne_t (t := 26) rfl (by decide) (by omega) ?_
              refine q_iload_n rfl rfl ?_
              refine q_ldc_s rfl rfl rfl (by decide) ?_
              refine q_call rfl rfl rfl rfl (s_158_17 ?_)
              refine bk_inl ?_
              by_cases h_59 : y_31 ≠ 20594117
              · refine v_ic_ne_t (t := 51) rfl (by decide) (by omega) ?_
                refine q_iload_n rfl rfl ?_
                refine q_ldc_s rfl rfl rfl (by decide) ?_
                refine q_call rfl rfl rfl rfl (s_158_18 ?_)
                refine bk_inl ?_
                by_cases h_60 : y_31 ≠ 20223685
                · refine v_ic_ne_t (t := 72) rfl (by decide) (by omega) ?_
                  refine q_iconst rfl ?_
                  refine v_zret rfl rfl (by omega) ?_
                  refine bk_inl ?_
                  refine v_if_eq_t (t := 105) rfl (by decide) (by decide) ?_
                  refine q_aload_n rfl rfl ?_
                  refine v_cv rfl rfl rfl rfl (by decide) ⟨⟨rfl, rfl⟩, by decide, rfl⟩ (Nat.le_of_ble_eq_true rfl) (Nat.le_of_ble_eq_true rfl) ?_
                  refine q_aload_n rfl rfl ?_
                  refine v_gi (z := 5) (v := c2 41 5) rfl rfl rfl (by decide) rfl rfl ((hF_30 41 5 (by omega)).trans (hF_12 41 5 (by omega))) ?_
                  refine q_iconst rfl ?_
                  refine v_ic_ne_f (t := 12) rfl (by decide) (by omega) ?_
                  refine q_iconst rfl ?_
                  refine q_goto (t := 13) rfl (by decide) ?_
                  refine v_zret rfl rfl (by omega) ?_
                  refine bk_inl ?_
                  refine v_if_ne_t (t := 115) rfl (by decide) (by decide) ?_
                  refine q_aload_n rfl rfl ?_
                  have h_61 : c_28 41 3 = c2 41 3 := ((hF_30 41 3 (by omega)).trans (hF_12 41 3 (by omega)))
                  have h_62 : c_28 43 (c_28 41 4) = c 43 (c_28 41 4) := ((hF_30 43 (c_28 41 4) (by omega)).trans ((hF_12 43 (c_28 41 4) (by omega)).trans (hF 43 (c_28 41 4) (by omega))))
                  have h_63 : c_28 43 (c_28 41 4 + 1) = c 43 (c_28 41 4 + 1) := ((hF_30 43 (c_28 41 4 + 1) (by omega)).trans ((hF_12 43 (c_28 41 4 + 1) (by omega)).trans (hF 43 (c_28 41 4 + 1) (by omega))))
                  have h_64 : c_28 43 (c_28 41 4 + 2) = c 43 (c_28 41 4 + 2) := ((hF_30 43 (c_28 41 4 + 2) (by omega)).trans ((hF_12 43 (c_28 41 4 + 2) (by omega)).trans (hF 43 (c_28 41 4 + 2) (by omega))))
                  refine v_cv rfl rfl rfl rfl (by decide) ⟨⟨rfl, rfl⟩, by decide, rfl⟩ (Nat.le_of_ble_eq_true rfl) (Nat.le_of_ble_eq_true rfl) (s_159 hI_29 (fun c_65 hI_66 hF_67 h_68 h_69 h_70 h_71 => ?_))
                  refine bk_inl ?_
                  have h_72 := ir_41_4 hI_66
                  refine q_aload_n rfl rfl ?_
                  refine q_iload_n rfl rfl ?_
                  have h_73 := ir_41_16 hI2
                  have h_74 : c_65 41 16 = c2 41 16 := ((hF_67 41 16 (by omega)).trans ((hF_30 41 16 (by omega)).trans (hF_12 41 16 (by omega))))
                  have h_75 := ir_41_17 hI2
                  have h_76 : c_65 41 17 = c2 41 17 := ((hF_67 41 17 (by omega)).trans ((hF_30 41 17 (by omega)).trans (hF_12 41 17 (by omega))))
                  have h_77 := ir_41_18 hI2
                  have h_78 : c_65 41 18 = c2 41 18 := ((hF_67 41 18 (by omega)).trans ((hF_30 41 18 (by omega)).trans (hF_12 41 18 (by omega))))
                  refine v_cv rfl rfl rfl rfl (by decide) ⟨⟨rfl, rfl⟩, by decide, rfl⟩ (Nat.le_of_ble_eq_true rfl) (Nat.le_of_ble_eq_true rfl) (s_168 (a1 := y_31) hI_66 (show (-2147483648) ≤ y_31 ∧ y_31 ≤ 2147483647 from by omega) (by omega) (by omega) (by omega) (fun c_79 hI_80 hF_81 h_82 => ?_))
                  refine bk_inl ?_
                  have h_83 := ir_41_4 hI_80
                  refine q_aload_n rfl rfl ?_
                  refine v_bip rfl (by decide) ?_
                  have h_84 : c_79 41 3 = c2 41 3 := ((hF_81 41 3 (by omega)).trans ((hF_67 41 3 (by omega)).trans ((hF_30 41 3 (by omega)).trans (hF_12 41 3 (by omega)))))
                  have h_85 := ir_41_5 hI_80
                  refine v_cv rfl rfl rfl rfl (by decide) ⟨⟨rfl, rfl⟩, by decide, rfl⟩ (Nat.le_of_ble_eq_true rfl) (Nat.le_of_ble_eq_true rfl) (s_161 (a1 := 59) hI_80 (show 1 ≤ 59 ∧ 59 ≤ 255 from by omega) (fun c_86 hI_87 hF_88 h_89 h_90 h_91 h_92 => ?_))
                  refine bk_inl ?_
                  have h_93 := ir_41_4 hI_87
                  have h_94 := ir_41_5 hI_87
                  refine v_iinc (v := v2 + 1) rfl rfl (by decide) (by omega) ?_
                  refine q_goto (t := 44) rfl (by decide) ?_
                  refine Wp_ls [(0, .ref 41), (1, vi a1), (2, vi (v2 + 1))] (lsub_cons rfl (lsub_cons rfl (lsub_cons rfl lsub_nil))) ?_
                  exact ih c_86 (v2 + 1) hI_87 (fun a j hm => (hF_88 a j (by omega)).trans ((hF_81 a j (by omega)).trans ((hF_67 a j (by omega)).trans ((hF_30 a j (by omega)).trans ((hF_12 a j (by omega)).trans (hF a j (by omega))))))) ⟨by omega, by omega⟩ (by omega)
                · refine v_ic_ne_f (t := 72) rfl (by decide) (by omega) ?_
                  refine q_aload_n rfl rfl ?_
                  have h_95 := ir_41_18 hI2
                  refine v_gi (z := 18) (v := c2 41 18) rfl rfl rfl (by decide) rfl rfl ((hF_30 41 18 (by omega)).trans (hF_12 41 18 (by omega))) ?_
                  refine q_iconst rfl ?_
                  by_cases h_96 : c2 41 18 ≠ 4
                  · refine v_ic_ne_t (t := 72) rfl (by decide) (by omega) ?_
                    refine q_iconst rfl ?_
                    refine v_zret rfl rfl (by omega) ?_
                    refine bk_inl ?_
                    refine v_if_eq_t (t := 105) rfl (by decide) (by decide) ?_
                    refine q_aload_n rfl rfl ?_
                    refine v_cv rfl rfl rfl rfl (by decide) ⟨⟨rfl, rfl⟩, by decide, rfl⟩ (Nat.le_of_ble_eq_true rfl) (Nat.le_of_ble_eq_true rfl) ?_
                    refine q_aload_n rfl rfl ?_
                    refine v_gi (z := 5) (v := c2 41 5) rfl rfl rfl (by decide) rfl rfl ((hF_30 41 5 (by omega)).trans (hF_12 41 5 (by omega))) ?_
                    refine q_iconst rfl ?_
                    refine v_ic_ne_f (t := 12) rfl (by decide) (by omega) ?_
                    refine q_iconst rfl ?_
                    refine q_goto (t := 13) rfl (by decide) ?_
                    refine v_zret rfl rfl (by omega) ?_
                    refine bk_inl ?_
                    refine v_if_ne_t (t := 115) rfl (by decide) (by decide) ?_
                    refine q_aload_n rfl rfl ?_
                    have h_97 : c_28 41 3 = c2 41 3 := ((hF_30 41 3 (by omega)).trans (hF_12 41 3 (by omega)))
                    have h_98 : c_28 43 (c_28 41 4) = c 43 (c_28 41 4) := ((hF_30 43 (c_28 41 4) (by omega)).trans ((hF_12 43 (c_28 41 4) (by omega)).trans (hF 43 (c_28 41 4) (by omega))))
                    have h_99 : c_28 43 (c_28 41 4 + 1) = c 43 (c_28 41 4 + 1) := ((hF_30 43 (c_28 41 4 + 1) (by omega)).trans ((hF_12 43 (c_28 41 4 + 1) (by omega)).trans (hF 43 (c_28 41 4 + 1) (by omega))))
                    have h_100 : c_28 43 (c_28 41 4 + 2) = c 43 (c_28 41 4 + 2) := ((hF_30 43 (c_28 41 4 + 2) (by omega)).trans ((hF_12 43 (c_28 41 4 + 2) (by omega)).trans (hF 43 (c_28 41 4 + 2) (by omega))))
                    refine v_cv rfl rfl rfl rfl (by decide) ⟨⟨rfl, rfl⟩, by decide, rfl⟩ (Nat.le_of_ble_eq_true rfl) (Nat.le_of_ble_eq_true rfl) (s_159 hI_29 (fun c_101 hI_102 hF_103 h_104 h_105 h_106 h_107 => ?_))
                    refine bk_inl ?_
                    have h_108 := ir_41_4 hI_102
                    refine q_aload_n rfl rfl ?_
                    refine q_iload_n rfl rfl ?_
                    have h_109 := ir_41_16 hI2
                    have h_110 : c_101 41 16 = c2 41 16 := ((hF_103 41 16 (by omega)).trans ((hF_30 41 16 (by omega)).trans (hF_12 41 16 (by omega))))
                    have h_111 := ir_41_17 hI2
                    have h_112 : c_101 41 17 = c2 41 17 := ((hF_103 41 17 (by omega)).trans ((hF_30 41 17 (by omega)).trans (hF_12 41 17 (by omega))))
                    have h_113 : c_101 41 18 = c2 41 18 := ((hF_103 41 18 (by omega)).trans ((hF_30 41 18 (by omega)).trans (hF_12 41 18 (by omega))))
                    refine v_cv rfl rfl rfl rfl (by decide) ⟨⟨rfl, rfl⟩, by decide, rfl⟩ (Nat.le_of_ble_eq_true rfl) (Nat.le_of_ble_eq_true rfl) (s_168 (a1 := y_31) hI_102 (show (-2147483648) ≤ y_31 ∧ y_31 ≤ 2147483647 from by omega) (by omega) (by omega) (by omega) (fun c_114 hI_115 hF_116 h_117 => ?_))
                    refine bk_inl ?_
                    have h_118 := ir_41_4 hI_115
                    refine q_aload_n rfl rfl ?_
                    refine v_bip rfl (by decide) ?_
                    have h_119 : c_114 41 3 = c2 41 3 := ((hF_116 41 3 (by omega)).trans ((hF_103 41 3 (by omega)).trans ((hF_30 41 3 (by omega)).trans (hF_12 41 3 (by omega)))))
                    have h_120 := ir_41_5 hI_115
                    refine v_cv rfl rfl rfl rfl (by decide) ⟨⟨rfl, rfl⟩, by decide, rfl⟩ (Nat.le_of_ble_eq_true rfl) (Nat.le_of_ble_eq_true rfl) (s_161 (a1 := 59) hI_115 (show 1 ≤ 59 ∧ 59 ≤ 255 from by omega) (fun c_121 hI_122 hF_123 h_124 h_125 h_126 h_127 => ?_))
                    refine bk_inl ?_
                    have h_128 := ir_41_4 hI_122
                    have h_129 := ir_41_5 hI_122
                    refine v_iinc (v := v2 + 1) rfl rfl (by decide) (by omega) ?_
                    refine q_goto (t := 44) rfl (by decide) ?_
                    refine Wp_ls [(0, .ref 41), (1, vi a1), (2, vi (v2 + 1))] (lsub_cons rfl (lsub_cons rfl (lsub_cons rfl lsub_nil))) ?_
                    exact ih c_121 (v2 + 1) hI_122 (fun a j hm => (hF_123 a j (by omega)).trans ((hF_116 a j (by omega)).trans ((hF_103 a j (by omega)).trans ((hF_30 a j (by omega)).trans ((hF_12 a j (by omega)).trans (hF a j (by omega))))))) ⟨by omega, by omega⟩ (by omega)
                  · refine v_ic_ne_f (t := 72) rfl (by decide) (by omega) ?_
                    refine q_iconst rfl ?_
                    refine q_goto (t := 73) rfl (by decide) ?_
                    refine v_zret rfl rfl (by omega) ?_
                    refine bk_inl ?_
                    refine v_if_eq_f (t := 105) rfl (by decide) (by decide) ?_
                    refine q_aload_n rfl rfl ?_
                    refine q_iconst rfl ?_
                    refine q_aload_n rfl rfl ?_
                    refine v_gi (z := 4) (v := c_28 41 4) rfl rfl rfl (by decide) rfl rfl rfl ?_
                    refine v_cv rfl rfl rfl rfl (by decide) ⟨⟨rfl, rfl⟩, by decide, rfl⟩ (Nat.le_of_ble_eq_true rfl) (Nat.le_of_ble_eq_true rfl) (s_153 (a1 := 3) (a2 := c_28 41 4) hI_29 (show 1 ≤ 3 ∧ 3 ≤ 3 from by omega) (show 0 ≤ c_28 41 4 ∧ c_28 41 4 ≤ 605 from by omega) (fun c_130 hI_131 hF_132 h_133 => ?_))
                    refine bk_inl ?_
                    have h_134 := ir_41_5 hI_131
                    refine q_aload_n rfl rfl ?_
                    refine v_cv rfl rfl rfl rfl (by decide) ⟨⟨rfl, rfl⟩, by decide, rfl⟩ (Nat.le_of_ble_eq_true rfl) (Nat.le_of_ble_eq_true rfl) ?_
                    refine q_aload_n rfl rfl ?_
                    refine v_gi (z := 5) (v := c_130 41 5) rfl rfl rfl (by decide) rfl rfl rfl ?_
                    refine q_iconst rfl ?_
                    refine v_ic_ne_t (t := 12) rfl (by decide) (by omega) ?_
                    refine q_iconst rfl ?_
                    refine v_zret rfl rfl (by omega) ?_
                    refine bk_inl ?_
                    refine v_if_ne_f (t := 115) rfl (by decide) (by decide) ?_
                    refine q_goto (t := 136) rfl (by decide) ?_
                    refine q_aload_n rfl rfl ?_
                    refine q_aload_n rfl rfl ?_
                    have h_135 := ir_41_16 hI2
                    refine v_gi (z := 16) (v := c2 41 16) rfl rfl rfl (by decide) rfl rfl ((hF_132 41 16 (by omega)).trans ((hF_30 41 16 (by omega)).trans (hF_12 41 16 (by omega)))) ?_
                    refine v_cv rfl rfl rfl rfl (by decide) ⟨⟨rfl, rfl⟩, by decide, rfl⟩ (Nat.le_of_ble_eq_true rfl) (Nat.le_of_ble_eq_true rfl) (s_164 (a1 := c2 41 16) hI_131 (show (-2147483648) ≤ c2 41 16 ∧ c2 41 16 ≤ 2147483647 from by omega) (fun c_136 y_139 hI_137 hF_138 hy_139 => ?_))
                    refine bk_inl ?_
                    refine q_istore_n rfl (by decide) ?_
                    refine q_aload_n rfl rfl ?_
                    refine v_gi (z := 5) (v := c_130 41 5) rfl rfl rfl (by decide) rfl rfl (hF_138 41 5 (by omega)) ?_
                    refine q_iconst rfl ?_
                    refine v_ic_ne_t (t := 157) rfl (by decide) (by omega) ?_
                    refine q_iload_n rfl rfl ?_
                    refine q_iret rfl rfl ?_
                    exact K c_136 y_139 hI_137 (fun a j hm => (hF_138 a j (by omega)).trans ((hF_132 a j (by omega)).trans ((hF_30 a j (by omega)).trans ((hF_12 a j (by omega)).trans (hF a j (by omega)))))) ⟨by omega, by omega⟩
              · refine v_ic_ne_f (t := 51) rfl (by decide) (by omega) ?_
                refine q_aload_n rfl rfl ?_
                have h_140 := ir_41_17 hI2
                refine v_gi (z := 17) (v := c2 41 17) rfl rfl rfl (by decide) rfl rfl ((hF_30 41 17 (by omega)).trans (hF_12 41 17 (by omega))) ?_
                refine q_iconst rfl ?_
                by_cases h_141 : c2 41 17 ≠ 4
                · refine v_ic_ne_t (t := 47) rfl (by decide) (by omega) ?_
                  refine q_iconst rfl ?_
                  refine q_goto (t := 73) rfl (by decide) ?_
                  refine v_zret rfl rfl (by omega) ?_
                  refine bk_inl ?_
                  refine v_if_eq_t (t := 105) rfl (by decide) (by decide) ?_
                  refine q_aload_n rfl rfl ?_
                  refine v_cv rfl rfl rfl rfl (by decide) ⟨⟨rfl, rfl⟩, by decide, rfl⟩ (Nat.le_of_ble_eq_true rfl) (Nat.le_of_ble_eq_true rfl) ?_
                  refine q_aload_n rfl rfl ?_
                  refine v_gi (z := 5) (v := c2 41 5) rfl rfl rfl (by decide) rfl rfl ((hF_30 41 5 (by omega)).trans (hF_12 41 5 (by omega))) ?_
                  refine q_iconst rfl ?_
                  refine v_ic_ne_f (t := 12) rfl (by decide) (by omega) ?_
                  refine q_iconst rfl ?_
                  refine q_goto (t := 13) rfl (by decide) ?_
                  refine v_zret rfl rfl (by omega) ?_
                  refine bk_inl ?_
                  refine v_if_ne_t (t := 115) rfl (by decide) (by decide) ?_
                  refine q_aload_n rfl rfl ?_
                  have h_142 : c_28 41 3 = c2 41 3 := ((hF_30 41 3 (by omega)).trans (hF_12 41 3 (by omega)))
                  have h_143 : c_28 43 (c_28 41 4) = c 43 (c_28 41 4) := ((hF_30 43 (c_28 41 4) (by omega)).trans ((hF_12 43 (c_28 41 4) (by omega)).trans (hF 43 (c_28 41 4) (by omega))))
                  have h_144 : c_28 43 (c_28 41 4 + 1) = c 43 (c_28 41 4 + 1) := ((hF_30 43 (c_28 41 4 + 1) (by omega)).trans ((hF_12 43 (c_28 41 4 + 1) (by omega)).trans (hF 43 (c_28 41 4 + 1) (by omega))))
                  have h_145 : c_28 43 (c_28 41 4 + 2) = c 43 (c_28 41 4 + 2) := ((hF_30 43 (c_28 41 4 + 2) (by omega)).trans ((hF_12 43 (c_28 41 4 + 2) (by omega)).trans (hF 43 (c_28 41 4 + 2) (by omega))))
                  refine v_cv rfl rfl rfl rfl (by decide) ⟨⟨rfl, rfl⟩, by decide, rfl⟩ (Nat.le_of_ble_eq_true rfl) (Nat.le_of_ble_eq_true rfl) (s_159 hI_29 (fun c_146 hI_147 hF_148 h_149 h_150 h_151 h_152 => ?_))
                  refine bk_inl ?_
                  have h_153 := ir_41_4 hI_147
                  refine q_aload_n rfl rfl ?_
                  refine q_iload_n rfl rfl ?_
                  have h_154 := ir_41_16 hI2
                  have h_155 : c_146 41 16 = c2 41 16 := ((hF_148 41 16 (by omega)).trans ((hF_30 41 16 (by omega)).trans (hF_12 41 16 (by omega))))
                  have h_156 : c_146 41 17 = c2 41 17 := ((hF_148 41 17 (by omega)).trans ((hF_30 41 17 (by omega)).trans (hF_12 41 17 (by omega))))
                  have h_157 := ir_41_18 hI2
                  have h_158 : c_146 41 18 = c2 41 18 := ((hF_148 41 18 (by omega)).trans ((hF_30 41 18 (by omega)).trans (hF_12 41 18 (by omega))))
                  refine v_cv rfl rfl rfl rfl (by decide) ⟨⟨rfl, rfl⟩, by decide, rfl⟩ (Nat.le_of_ble_eq_true rfl) (Nat.le_of_ble_eq_true rfl) (s_168 (a1 := y_31) hI_147 (show (-2147483648) ≤ y_31 ∧ y_31 ≤ 2147483647 from by omega) (by omega) (by omega) (by omega) (fun c_159 hI_160 hF_161 h_162 => ?_))
                  refine bk_inl ?_
                  have h_163 := ir_41_4 hI_160
                  refine q_aload_n rfl rfl ?_
                  refine v_bip rfl (by decide) ?_
                  have h_164 : c_159 41 3 = c2 41 3 := ((hF_161 41 3 (by omega)).trans ((hF_148 41 3 (by omega)).trans ((hF_30 41 3 (by omega)).trans (hF_12 41 3 (by omega)))))
                  have h_165 := ir_41_5 hI_160
                  refine v_cv rfl rfl rfl rfl (by decide) ⟨⟨rfl, rfl⟩, by decide, rfl⟩ (Nat.le_of_ble_eq_true rfl) (Nat.le_of_ble_eq_true rfl) (s_161 (a1 := 59) hI_160 (show 1 ≤ 59 ∧ 59 ≤ 255 from by omega) (fun c_166 hI_167 hF_168 h_169 h_170 h_171 h_172 => ?_))
                  refine bk_inl ?_
                  have h_173 := ir_41_4 hI_167
                  have h_174 := ir_41_5 hI_167
                  refine v_iinc (v := v2 + 1) rfl rfl (by decide) (by omega) ?_
                  refine q_goto (t := 44) rfl (by decide) ?_
                  refine Wp_ls [(0, .ref 41), (1, vi a1), (2, vi (v2 + 1))] (lsub_cons rfl (lsub_cons rfl (lsub_cons rfl lsub_nil))) ?_
                  exact ih c_166 (v2 + 1) hI_167 (fun a j hm => (hF_168 a j (by omega)).trans ((hF_161 a j (by omega)).trans ((hF_148 a j (by omega)).trans ((hF_30 a j (by omega)).trans ((hF_12 a j (by omega)).trans (hF a j (by omega))))))) ⟨by omega, by omega⟩ (by omega)
                · refine v_ic_ne_f (t := 47) rfl (by decide) (by omega) ?_
                  refine q_iconst rfl ?_
                  refine q_goto (t := 73) rfl (by decide) ?_
                  refine v_zret rfl rfl (by omega) ?_
                  refine bk_inl ?_
                  refine v_if_eq_f (t := 105) rfl (by decide) (by decide) ?_
                  refine q_aload_n rfl rfl ?_
                  refine q_iconst rfl ?_
                  refine q_aload_n rfl rfl ?_
                  refine v_gi (z := 4) (v := c_28 41 4) rfl rfl rfl (by decide) rfl rfl rfl ?_
                  refine v_cv rfl rfl rfl rfl (by decide) ⟨⟨rfl, rfl⟩, by decide, rfl⟩ (Nat.le_of_ble_eq_true rfl) (Nat.le_of_ble_eq_true rfl) (s_153 (a1 := 3) (a2 := c_28 41 4) hI_29 (show 1 ≤ 3 ∧ 3 ≤ 3 from by omega) (show 0 ≤ c_28 41 4 ∧ c_28 41 4 ≤ 605 from by omega) (fun c_175 hI_176 hF_177 h_178 => ?_))
                  refine bk_inl ?_
                  have h_179 := ir_41_5 hI_176
                  refine q_aload_n rfl rfl ?_
                  refine v_cv rfl rfl rfl rfl (by decide) ⟨⟨rfl, rfl⟩, by decide, rfl⟩ (Nat.le_of_ble_eq_true rfl) (Nat.le_of_ble_eq_true rfl) ?_
                  refine q_aload_n rfl rfl ?_
                  refine v_gi (z := 5) (v := c_175 41 5) rfl rfl rfl (by decide) rfl rfl rfl ?_
                  refine q_iconst rfl ?_
                  refine v_ic_ne_t (t := 12) rfl (by decide) (by omega) ?_
                  refine q_iconst rfl ?_
                  refine v_zret rfl rfl (by omega) ?_
                  refine bk_inl ?_
                  refine v_if_ne_f (t := 115) rfl (by decide) (by decide) ?_
                  refine q_goto (t := 136) rfl (by decide) ?_
                  refine q_aload_n rfl rfl ?_
                  refine q_aload_n rfl rfl ?_
                  have h_180 := ir_41_16 hI2
                  refine v_gi (z := 16) (v := c2 41 16) rfl rfl rfl (by decide) rfl rfl ((hF_177 41 16 (by omega)).trans ((hF_30 41 16 (by omega)).trans (hF_12 41 16 (by omega)))) ?_
                  refine v_cv rfl rfl rfl rfl (by decide) ⟨⟨rfl, rfl⟩, by decide, rfl⟩ (Nat.le_of_ble_eq_true rfl) (Nat.le_of_ble_eq_true rfl) (s_164 (a1 := c2 41 16) hI_176 (show (-2147483648) ≤ c2 41 16 ∧ c2 41 16 ≤ 2147483647 from by omega) (fun c_181 y_184 hI_182 hF_183 hy_184 => ?_))
                  refine bk_inl ?_
                  refine q_istore_n rfl (by decide) ?_
                  refine q_aload_n rfl rfl ?_
                  refine v_gi (z := 5) (v := c_175 41 5) rfl rfl rfl (by decide) rfl rfl (hF_183 41 5 (by omega)) ?_
                  refine q_iconst rfl ?_
                  refine v_ic_ne_t (t := 157) rfl (by decide) (by omega) ?_
                  refine q_iload_n rfl rfl ?_
                  refine q_iret rfl rfl ?_
                  exact K c_181 y_184 hI_182 (fun a j hm => (hF_183 a j (by omega)).trans ((hF_177 a j (by omega)).trans ((hF_30 a j (by omega)).trans ((hF_12 a j (by omega)).trans (hF a j (by omega)))))) ⟨by omega, by omega⟩
            · refine v_ic_ne_f (t := 26) rfl (by decide) (by omega) ?_
              refine q_aload_n rfl rfl ?_
              have h_185 := ir_41_16 hI2
              refine v_gi (z := 16) (v := c2 41 16) rfl rfl rfl (by decide) rfl rfl ((hF_30 41 16 (by omega)).trans (hF_12 41 16 (by omega))) ?_
              refine v_bip rfl (by decide) ?_
              by_cases h_186 : c2 41 16 ≠ 6
              · refine v_ic_ne_t (t := 22) rfl (by decide) (by omega) ?_
                refine q_iconst rfl ?_
                refine q_goto (t := 73) rfl (by decide) ?_
                refine v_zret rfl rfl (by omega) ?_
                refine bk_inl ?_
                refine v_if_eq_t (t := 105) rfl (by decide) (by decide) ?_
                refine q_aload_n rfl rfl ?_
                refine v_cv rfl rfl rfl rfl (by decide) ⟨⟨rfl, rfl⟩, by decide, rfl⟩ (Nat.le_of_ble_eq_true rfl) (Nat.le_of_ble_eq_true rfl) ?_
                refine q_aload_n rfl rfl ?_
                refine v_gi (z := 5) (v := c2 41 5) rfl rfl rfl (by decide) rfl rfl ((hF_30 41 5 (by omega)).trans (hF_12 41 5 (by omega))) ?_
                refine q_iconst rfl ?_
                refine v_ic_ne_f (t := 12) rfl (by decide) (by omega) ?_
                refine q_iconst rfl ?_
                refine q_goto (t := 13) rfl (by decide) ?_
                refine v_zret rfl rfl (by omega) ?_
                refine bk_inl ?_
                refine v_if_ne_t (t := 115) rfl (by decide) (by decide) ?_
                refine q_aload_n rfl rfl ?_
                have h_187 : c_28 41 3 = c2 41 3 := ((hF_30 41 3 (by omega)).trans (hF_12 41 3 (by omega)))
                have h_188 : c_28 43 (c_28 41 4) = c 43 (c_28 41 4) := ((hF_30 43 (c_28 41 4) (by omega)).trans ((hF_12 43 (c_28 41 4) (by omega)).trans (hF 43 (c_28 41 4) (by omega))))
                have h_189 : c_28 43 (c_28 41 4 + 1) = c 43 (c_28 41 4 + 1) := ((hF_30 43 (c_28 41 4 + 1) (by omega)).trans ((hF_12 43 (c_28 41 4 + 1) (by omega)).trans (hF 43 (c_28 41 4 + 1) (by omega))))
                have h_190 : c_28 43 (c_28 41 4 + 2) = c 43 (c_28 41 4 + 2) := ((hF_30 43 (c_28 41 4 + 2) (by omega)).trans ((hF_12 43 (c_28 41 4 + 2) (by omega)).trans (hF 43 (c_28 41 4 + 2) (by omega))))
                refine v_cv rfl rfl rfl rfl (by decide) ⟨⟨rfl, rfl⟩, by decide, rfl⟩ (Nat.le_of_ble_eq_true rfl) (Nat.le_of_ble_eq_true rfl) (s_159 hI_29 (fun c_191 hI_192 hF_193 h_194 h_195 h_196 h_197 => ?_))
                refine bk_inl ?_
                have h_198 := ir_41_4 hI_192
                refine q_aload_n rfl rfl ?_
                refine q_iload_n rfl rfl ?_
                have h_199 : c_191 41 16 = c2 41 16 := ((hF_193 41 16 (by omega)).trans ((hF_30 41 16 (by omega)).trans (hF_12 41 16 (by omega))))
                have h_200 := ir_41_17 hI2
                have h_201 : c_191 41 17 = c2 41 17 := ((hF_193 41 17 (by omega)).trans ((hF_30 41 17 (by omega)).trans (hF_12 41 17 (by omega))))
                have h_202 := ir_41_18 hI2
                have h_203 : c_191 41 18 = c2 41 18 := ((hF_193 41 18 (by omega)).trans ((hF_30 41 18 (by omega)).trans (hF_12 41 18 (by omega))))
                refine v_cv rfl rfl rfl rfl (by decide) ⟨⟨rfl, rfl⟩, by decide, rfl⟩ (Nat.le_of_ble_eq_true rfl) (Nat.le_of_ble_eq_true rfl) (s_168 (a1 := y_31) hI_192 (show (-2147483648) ≤ y_31 ∧ y_31 ≤ 2147483647 from by omega) (by omega) (by omega) (by omega) (fun c_204 hI_205 hF_206 h_207 => ?_))
                refine bk_inl ?_
                have h_208 := ir_41_4 hI_205
                refine q_aload_n rfl rfl ?_
                refine v_bip rfl (by decide) ?_
                have h_209 : c_204 41 3 = c2 41 3 := ((hF_206 41 3 (by omega)).trans ((hF_193 41 3 (by omega)).trans ((hF_30 41 3 (by omega)).trans (hF_12 41 3 (by omega)))))
                have h_210 := ir_41_5 hI_205
                refine v_cv rfl rfl rfl rfl (by decide) ⟨⟨rfl, rfl⟩, by decide, rfl⟩ (Nat.le_of_ble_eq_true rfl) (Nat.le_of_ble_eq_true rfl) (s_161 (a1 := 59) hI_205 (show 1 ≤ 59 ∧ 59 ≤ 255 from by omega) (fun c_211 hI_212 hF_213 h_214 h_215 h_216 h_217 => ?_))
                refine bk_inl ?_
                have h_218 := ir_41_4 hI_212
                have h_219 := ir_41_5 hI_212
                refine v_iinc (v := v2 + 1) rfl rfl (by decide) (by omega) ?_
                refine q_goto (t := 44) rfl (by decide) ?_
                refine Wp_ls [(0, .ref 41), (1, vi a1), (2, vi (v2 + 1))] (lsub_cons rfl (lsub_cons rfl (lsub_cons rfl lsub_nil))) ?_
                exact ih c_211 (v2 + 1) hI_212 (fun a j hm => (hF_213 a j (by omega)).trans ((hF_206 a j (by omega)).trans ((hF_193 a j (by omega)).trans ((hF_30 a j (by omega)).trans ((hF_12 a j (by omega)).trans (hF a j (by omega))))))) ⟨by omega, by omega⟩ (by omega)
              · refine v_ic_ne_f (t := 22) rfl (by decide) (by omega) ?_
                refine q_iconst rfl ?_
                refine q_goto (t := 73) rfl (by decide) ?_
                refine v_zret rfl rfl (by omega) ?_
                refine bk_inl ?_
                refine v_if_eq_f (t := 105) rfl (by decide) (by decide) ?_
                refine q_aload_n rfl rfl ?_
                refine q_iconst rfl ?_
                refine q_aload_n rfl rfl ?_
                refine v_gi (z := 4) (v := c_28 41 4) rfl rfl rfl (by decide) rfl rfl rfl ?_
                refine v_cv rfl rfl rfl rfl (by decide) ⟨⟨rfl, rfl⟩, by decide, rfl⟩ (Nat.le_of_ble_eq_true rfl) (Nat.le_of_ble_eq_true rfl) (s_153 (a1 := 3) (a2 := c_28 41 4) hI_29 (show 1 ≤ 3 ∧ 3 ≤ 3 from by omega) (show 0 ≤ c_28 41 4 ∧ c_28 41 4 ≤ 605 from by omega) (fun c_220 hI_221 hF_222 h_223 => ?_))
                refine bk_inl ?_
                have h_224 := ir_41_5 hI_221
                refine q_aload_n rfl rfl ?_
                refine v_cv rfl rfl rfl rfl (by decide) ⟨⟨rfl, rfl⟩, by decide, rfl⟩ (Nat.le_of_ble_eq_true rfl) (Nat.le_of_ble_eq_true rfl) ?_
                refine q_aload_n rfl rfl ?_
                refine v_gi (z := 5) (v := c_220 41 5) rfl rfl rfl (by decide) rfl rfl rfl ?_
                refine q_iconst rfl ?_
                refine v_ic_ne_t (t := 12) rfl (by decide) (by omega) ?_
                refine q_iconst rfl ?_
                refine v_zret rfl rfl (by omega) ?_
                refine bk_inl ?_
                refine v_if_ne_f (t := 115) rfl (by decide) (by decide) ?_
                refine q_goto (t := 136) rfl (by decide) ?_
                refine q_aload_n rfl rfl ?_
                refine q_aload_n rfl rfl ?_
                refine v_gi (z := 16) (v := c2 41 16) rfl rfl rfl (by decide) rfl rfl ((hF_222 41 16 (by omega)).trans ((hF_30 41 16 (by omega)).trans (hF_12 41 16 (by omega)))) ?_
                refine v_cv rfl rfl rfl rfl (by decide) ⟨⟨rfl, rfl⟩, by decide, rfl⟩ (Nat.le_of_ble_eq_true rfl) (Nat.le_of_ble_eq_true rfl) (s_164 (a1 := c2 41 16) hI_221 (show (-2147483648) ≤ c2 41 16 ∧ c2 41 16 ≤ 2147483647 from by omega) (fun c_225 y_228 hI_226 hF_227 hy_228 => ?_))
                refine bk_inl ?_
                refine q_istore_n rfl (by decide) ?_
                refine q_aload_n rfl rfl ?_
                refine v_gi (z := 5) (v := c_220 41 5) rfl rfl rfl (by decide) rfl rfl (hF_227 41 5 (by omega)) ?_
                refine q_iconst rfl ?_
                refine v_ic_ne_t (t := 157) rfl (by decide) (by omega) ?_
                refine q_iload_n rfl rfl ?_
                refine q_iret rfl rfl ?_
                exact K c_225 y_228 hI_226 (fun a j hm => (hF_227 a j (by omega)).trans ((hF_222 a j (by omega)).trans ((hF_30 a j (by omega)).trans ((hF_12 a j (by omega)).trans (hF a j (by omega)))))) ⟨by omega, by omega⟩
        · refine v_if_ne_f (t := 82) rfl (by decide) (by omega) ?_
          refine q_aload_n rfl rfl ?_
          refine q_iconst rfl ?_
          refine q_aload_n rfl rfl ?_
          refine v_gi (z := 4) (v := c_28 41 4) rfl rfl rfl (by decide) rfl rfl rfl ?_
          refine v_cv rfl rfl rfl rfl (by decide) ⟨⟨rfl, rfl⟩, by decide, rfl⟩ (Nat.le_of_ble_eq_true rfl) (Nat.le_of_ble_eq_true rfl) (s_153 (a1 := 1) (a2 := c_28 41 4) hI_29 (show 1 ≤ 1 ∧ 1 ≤ 3 from by omega) (show 0 ≤ c_28 41 4 ∧ c_28 41 4 ≤ 605 from by omega) (fun c_229 hI_230 hF_231 h_232 => ?_))
          refine bk_inl ?_
          have h_233 := ir_41_5 hI_230
          refine q_goto (t := 105) rfl (by decide) ?_
          refine q_aload_n rfl rfl ?_
          refine v_cv rfl rfl rfl rfl (by decide) ⟨⟨rfl, rfl⟩, by decide, rfl⟩ (Nat.le_of_ble_eq_true rfl) (Nat.le_of_ble_eq_true rfl) ?_
          refine q_aload_n rfl rfl ?_
          refine v_gi (z := 5) (v := c_229 41 5) rfl rfl rfl (by decide) rfl rfl rfl ?_
          refine q_iconst rfl ?_
          refine v_ic_ne_t (t := 12) rfl (by decide) (by omega) ?_
          refine q_iconst rfl ?_
          refine v_zret rfl rfl (by omega) ?_
          refine bk_inl ?_
          refine v_if_ne_f (t := 115) rfl (by decide) (by decide) ?_
          refine q_goto (t := 136) rfl (by decide) ?_
          refine q_aload_n rfl rfl ?_
          refine q_aload_n rfl rfl ?_
          have h_234 := ir_41_16 hI2
          refine v_gi (z := 16) (v := c2 41 16) rfl rfl rfl (by decide) rfl rfl ((hF_231 41 16 (by omega)).trans ((hF_30 41 16 (by omega)).trans (hF_12 41 16 (by omega)))) ?_
          refine v_cv rfl rfl rfl rfl (by decide) ⟨⟨rfl, rfl⟩, by decide, rfl⟩ (Nat.le_of_ble_eq_true rfl) (Nat.le_of_ble_eq_true rfl) (s_164 (a1 := c2 41 16) hI_230 (show (-2147483648) ≤ c2 41 16 ∧ c2 41 16 ≤ 2147483647 from by omega) (fun c_235 y_238 hI_236 hF_237 hy_238 => ?_))
          refine bk_inl ?_
          refine q_istore_n rfl (by decide) ?_
          refine q_aload_n rfl rfl ?_
          refine v_gi (z := 5) (v := c_229 41 5) rfl rfl rfl (by decide) rfl rfl (hF_237 41 5 (by omega)) ?_
          refine q_iconst rfl ?_
          refine v_ic_ne_t (t := 157) rfl (by decide) (by omega) ?_
          refine q_iload_n rfl rfl ?_
          refine q_iret rfl rfl ?_
          exact K c_235 y_238 hI_236 (fun a j hm => (hF_237 a j (by omega)).trans ((hF_231 a j (by omega)).trans ((hF_30 a j (by omega)).trans ((hF_12 a j (by omega)).trans (hF a j (by omega)))))) ⟨by omega, by omega⟩
set_option maxRecDepth 100000 in
set_option maxHeartbeats 4000000 in
theorem s_169 {sc : List Int32} {d P Q : Nat} {c : ME} {a1 : Int} {Z : AR → Prop} (hI : Iv 0 (-1) P Q c) (ha1 : (-2147483648) ≤ a1 ∧ a1 ≤ 2147483647) (K : ∀ (c2 : ME) (y : Int), Iv 0 (-1) P Q c2 → (∀ (a : Nat) (j : Int), ¬ ((a = 41 ∧ j = 0) ∨ a = 42 ∨ (a = 41 ∧ j = 2) ∨ (a = 41 ∧ j = 3) ∨ (a = 41 ∧ j = 4) ∨ (a = 41 ∧ j = 5) ∨ (a = 41 ∧ j = 6) ∨ (a = 41 ∧ j = 7) ∨ (a = 41 ∧ j = 8) ∨ (a = 41 ∧ j = 16) ∨ (a = 41 ∧ j = 17) ∨ (a = 41 ∧ j = 18) ∨ (a = 41 ∧ j = 19) ∨ a = 44 ∨ a = 45 ∨ a = 46 ∨ (a = 41 ∧ j = 20) ∨ (a = 41 ∧ j = 21) ∨ (a = 41 ∧ j = 22) ∨ (a = 41 ∧ j = 23) ∨ (a = 41 ∧ j = 30) ∨ (a = 41 ∧ j = 35) ∨ (a = 41 ∧ j = 36) ∨ (a = 41 ∧ j = 47) ∨ (a = 41 ∧ j = 48) ∨ (a = 41 ∧ j = 52) ∨ a = 47 ∨ a = 48 ∨ a = 49 ∨ a = 58 ∨ a = 64) → c2 a j = c a j) → (-2147483648) ≤ y ∧ y ≤ 2147483647 → Z (.inl (some (vi y)), Wd P Q P P c2, 0, 0)) : Wp sc (d + 10) 169 0 [(0, .ref 41), (1, vi a1)] [] (Wd P Q P P c) 0 0 Z := by
  have hP := iv_P hI
  have hQ := iv_Q hI
  refine q_aload_n rfl rfl ?_
  refine q_iconst rfl ?_
  refine v_pi (z := 0) rfl rfl rfl (by decide) rfl rfl rfl (by decide) ?_
  refine q_aload_n rfl rfl ?_
  refine q_iload_n rfl rfl ?_
  by_cases h_240 : a1 < 0
  · refine v_if_lt_t (t := 22) rfl (by decide) (by omega) ?_
    refine q_iconst rfl ?_
    refine q_iconst rfl ?_
    refine q_iconst rfl ?_
    refine v_cv rfl rfl rfl rfl (by decide) ⟨⟨rfl, rfl⟩, by decide, rfl⟩ (Nat.le_of_ble_eq_true rfl) (Nat.le_of_ble_eq_true rfl) ?_
    refine q_iload_n rfl rfl ?_
    refine v_if_ne_f (t := 26) rfl (by decide) (by decide) ?_
    refine q_aload_n rfl rfl ?_
    refine v_gi (z := 0) (v := 0) rfl rfl rfl (by decide) rfl rfl (up_e rfl) ?_
    refine v_if_ne_f (t := 26) rfl (by decide) (by decide) ?_
    refine q_aload_n rfl rfl ?_
    refine q_iload_n rfl rfl ?_
    refine v_pi (z := 0) rfl rfl rfl (by decide) rfl rfl rfl (by decide) ?_
    refine q_aload_n rfl rfl ?_
    refine v_gr (t := 42) rfl rfl rfl (by decide) rfl ?_
    refine q_iload_n rfl rfl ?_
    refine q_dup2 rfl ⟨rfl, rfl⟩ ?_
    have h_241 := ir_42 hI 1
    refine v_ia (v := c 42 1) rfl rfl (by decide) (by decide) (by decide) ((up_c (by decide)).trans (up_c (by decide))) ?_
    refine q_iconst rfl ?_
    refine v_iadd (v := c 42 1 + 1) rfl (by omega) ?_
    refine v_nrm (fun y_242 hy_242 => ?_)
    refine v_is rfl rfl (by decide) (by decide) (by decide) ?_
    refine q_aload_n rfl rfl ?_
    refine v_gi (z := 0) (v := 1) rfl rfl rfl (by decide) rfl rfl ((up_c (by decide)).trans (up_e rfl)) ?_
    refine v_if_ne_t (t := 37) rfl (by decide) (by decide) ?_
    refine q_iconst rfl ?_
    refine v_zret rfl rfl (by omega) ?_
    refine bk_inl ?_
    refine v_if_ne_f (t := 33) rfl (by decide) (by decide) ?_
    refine q_iconst rfl ?_
    refine q_iret rfl rfl ?_
    have hI_243 := iw_41_0 (v := 0) hI ⟨by decide, by decide⟩
    have hI_244 := iw_41_0 (v := 1) hI_243 ⟨by decide, by decide⟩
    have hI_245 := iw_42 (j := 1) (v := y_242) hI_244 ⟨by omega, by omega⟩
    exact K (up (up (up c 41 0 0) 41 0 1) 42 1 y_242) 0 hI_245 (fun a j hm => (up_b (by omega)).trans ((up_b (by omega)).trans (up_b (by omega)))) ⟨by decide, by decide⟩
  · refine v_if_lt_f (t := 22) rfl (by decide) (by omega) ?_
    refine q_iload_n rfl rfl ?_
    refine q_aload_n rfl rfl ?_
    have h_246 := ir_41_2 hI
    refine v_gi (z := 2) (v := c 41 2) rfl rfl rfl (by decide) rfl rfl (up_n (by decide)) ?_
    by_cases h_247 : a1 > c 41 2
    · refine v_ic_gt_t (t := 22) rfl (by decide) (by omega) ?_
      refine q_iconst rfl ?_
      refine q_iconst rfl ?_
      refine q_iconst rfl ?_
      refine v_cv rfl rfl rfl rfl (by decide) ⟨⟨rfl, rfl⟩, by decide, rfl⟩ (Nat.le_of_ble_eq_true rfl) (Nat.le_of_ble_eq_true rfl) ?_
      refine q_iload_n rfl rfl ?_
      refine v_if_ne_f (t := 26) rfl (by decide) (by decide) ?_
      refine q_aload_n rfl rfl ?_
      refine v_gi (z := 0) (v := 0) rfl rfl rfl (by decide) rfl rfl (up_e rfl) ?_
      refine v_if_ne_f (t := 26) rfl (by decide) (by decide) ?_
      refine q_aload_n rfl rfl ?_
      refine q_iload_n rfl rfl ?_
      refine v_pi (z := 0) rfl rfl rfl (by decide) rfl rfl rfl (by decide) ?_
      refine q_aload_n rfl rfl ?_
      refine v_gr (t := 42) rfl rfl rfl (by decide) rfl ?_
      refine q_iload_n rfl rfl ?_
      refine q_dup2 rfl ⟨rfl, rfl⟩ ?_
      have h_248 := ir_42 hI 1
      refine v_ia (v := c 42 1) rfl rfl (by decide) (by decide) (by decide) ((up_c (by decide)).trans (up_c (by decide))) ?_
      refine q_iconst rfl ?_
      refine v_iadd (v := c 42 1 + 1) rfl (by omega) ?_
      refine v_nrm (fun y_249 hy_249 => ?_)
      refine v_is rfl rfl (by decide) (by decide) (by decide) ?_
      refine q_aload_n rfl rfl ?_
      refine v_gi (z := 0) (v := 1) rfl rfl rfl (by decide) rfl rfl ((up_c (by decide)).trans (up_e rfl)) ?_
      refine v_if_ne_t (t := 37) rfl (by decide) (by decide) ?_
      refine q_iconst rfl ?_
      refine v_zret rfl rfl (by omega) ?_
      refine bk_inl ?_
      refine v_if_ne_f (t := 33) rfl (by decide) (by decide) ?_
      refine q_iconst rfl ?_
      refine q_iret rfl rfl ?_
      have hI_250 := iw_41_0 (v := 0) hI ⟨by decide, by decide⟩
      have hI_251 := iw_41_0 (v := 1) hI_250 ⟨by decide, by decide⟩
      have hI_252 := iw_42 (j := 1) (v := y_249) hI_251 ⟨by omega, by omega⟩
      exact K (up (up (up c 41 0 0) 41 0 1) 42 1 y_249) 0 hI_252 (fun a j hm => (up_b (by omega)).trans ((up_b (by omega)).trans (up_b (by omega)))) ⟨by decide, by decide⟩
    · refine v_ic_gt_f (t := 22) rfl (by decide) (by omega) ?_
      refine q_iconst rfl ?_
      refine q_goto (t := 23) rfl (by decide) ?_
      refine q_iconst rfl ?_
      refine q_iconst rfl ?_
      refine v_cv rfl rfl rfl rfl (by decide) ⟨⟨rfl, rfl⟩, by decide, rfl⟩ (Nat.le_of_ble_eq_true rfl) (Nat.le_of_ble_eq_true rfl) ?_
      refine q_iload_n rfl rfl ?_
      refine v_if_ne_t (t := 26) rfl (by decide) (by decide) ?_
      refine q_aload_n rfl rfl ?_
      refine v_gi (z := 0) (v := 0) rfl rfl rfl (by decide) rfl rfl (up_e rfl) ?_
      refine v_if_ne_f (t := 37) rfl (by decide) (by decide) ?_
      refine q_iconst rfl ?_
      refine q_goto (t := 38) rfl (by decide) ?_
      refine v_zret rfl rfl (by omega) ?_
      refine bk_inl ?_
      refine v_if_ne_t (t := 33) rfl (by decide) (by decide) ?_
      refine q_aload_n rfl rfl ?_
      refine q_iload_n rfl rfl ?_
      have hI_253 := iw_41_0 (v := 0) hI ⟨by decide, by decide⟩
      refine v_cv rfl rfl rfl rfl (by decide) ⟨⟨rfl, rfl⟩, by decide, rfl⟩ (Nat.le_of_ble_eq_true rfl) (Nat.le_of_ble_eq_true rfl) (s_163 (a1 := a1) hI_253 (show 0 ≤ a1 ∧ a1 ≤ 600 from by omega) (fun c_254 hI_255 hF_256 h_257 => ?_))
      refine bk_inl ?_
      have h_258 := ir_41_2 hI_255
      have h_259 := ir_41_3 hI_255
      have h_260 := ir_41_4 hI_255
      have h_261 := ir_41_5 hI_255
      have h_262 := ir_41_7 hI_255
      refine q_aload_n rfl rfl ?_
      refine v_cv rfl rfl rfl rfl (by decide) ⟨⟨rfl, rfl⟩, by decide, rfl⟩ (Nat.le_of_ble_eq_true rfl) (Nat.le_of_ble_eq_true rfl) (s_147 hI_255 (fun c_263 hI_264 hF_265 h_266 => ?_))
      refine bk_inl ?_
      have h_267 := ir_41_16 hI_264
      have h_268 := ir_41_17 hI_264
      have h_269 := ir_41_18 hI_264
      refine q_iconst rfl ?_
      refine q_istore_n rfl (by decide) ?_
      refine Wp_ls [(0, .ref 41), (1, vi a1), (2, vi 0)] (lsub_cons rfl (lsub_cons rfl (lsub_cons rfl lsub_nil))) ?_
      have h_270 : c_263 41 4 = c_254 41 4 := (hF_265 41 4 (by omega))
      exact (s_169_l (sc := sc) (d := d) hI ha1 K 1214) c_263 0 hI_264 (fun a j hm => (hF_265 a j (by omega)).trans ((hF_256 a j (by omega)).trans (up_b (by omega)))) ⟨by decide, by decide⟩ (by omega)

set_option maxRecDepth 100000 in
set_option maxHeartbeats 4000000 in
theorem s_170 {sc : List Int32} {e : Int} {d u P Q : Nat} {c : ME} {a1 : Int} {a2 : Int} {Z : AR → Prop} (hI : Iv u e P Q c) (ha1 : 0 ≤ a1 ∧ a1 ≤ 8) (ha2 : 0 ≤ a2 ∧ a2 ≤ 999) (hW : Nw c) (hq0 : (c 41 5 < (-1)) ∨ (c 41 5 > (-1)) ∨ (c 41 29 ≤ 149)) (hq1 : (c 41 5 < (-1)) ∨ (c 41 5 > (-1)) ∨ (a1 ≤ 1) ∨ (Nh c ≥ 2)) (hq2 : (c 41 5 < (-1)) ∨ (c 41 5 > (-1)) ∨ (a1 ≠ 1) ∨ (a2 ≤ 7)) (K : ∀ (c2 : ME), Iv u e P Q c2 → (∀ (a : Nat) (j : Int), ¬ ((a = 41 ∧ j = 29) ∨ a = 50 ∨ a = 51) → c2 a j = c a j) → Nw c2 → ((c 41 5 < (-1)) ∨ (c 41 5 > (-1)) ∨ (c2 41 29 = c 41 29 + 1)) → ((c 41 5 = (-1)) ∨ (c2 41 29 = c 41 29)) → ((c 41 5 < (-1)) ∨ (c 41 5 > (-1)) ∨ (a1 ≥ 2) ∨ (Nh c2 = Nh c + 1)) → ((c 41 5 < (-1)) ∨ (c 41 5 > (-1)) ∨ (a1 ≤ 1) ∨ (Nh c2 = Nh c - 1)) → Z (.inl (none), Wd P Q P P c2, 0, 0)) : Wp sc (d + 8) 170 0 [(0, .ref 41), (1, vi a1), (2, vi a2)] [] (Wd P Q P P c) 0 0 Z := by
  have hP := iv_P hI
  have hQ := iv_Q hI
  have h_1 := ir_41_29 hI
  have h_2 := ir_41_5 hI
  refine q_aload_n rfl rfl ?_
  refine v_cv rfl rfl rfl rfl (by decide) ⟨⟨rfl, rfl⟩, by decide, rfl⟩ (Nat.le_of_ble_eq_true rfl) (Nat.le_of_ble_eq_true rfl) ?_
  refine q_aload_n rfl rfl ?_
  refine v_gi (z := 5) (v := c 41 5) rfl rfl rfl (by decide) rfl rfl rfl ?_
  refine q_iconst rfl ?_
  by_cases h_3 : c 41 5 ≠ (-1)
  · refine v_ic_ne_t (t := 12) rfl (by decide) (by omega) ?_
    refine q_iconst rfl ?_
    refine v_zret rfl rfl (by omega) ?_
    refine bk_inl ?_
    refine v_if_ne_f (t := 8) rfl (by decide) (by decide) ?_
    refine q_vret rfl rfl ?_
    exact K c hI (fun a j hm => rfl) hW (by omega) (by omega) (by omega) (by omega)
  · refine v_ic_ne_f (t := 12) rfl (by decide) (by omega) ?_
    refine q_iconst rfl ?_
    refine q_goto (t := 13) rfl (by decide) ?_
    refine v_zret rfl rfl (by omega) ?_
    refine bk_inl ?_
    refine v_if_ne_t (t := 8) rfl (by decide) (by decide) ?_
    refine q_aload_n rfl rfl ?_
    refine v_gr (t := 50) rfl rfl rfl (by decide) rfl ?_
    refine q_aload_n rfl rfl ?_
    refine v_gi (z := 29) (v := c 41 29) rfl rfl rfl (by decide) rfl rfl rfl ?_
    refine q_iload_n rfl rfl ?_
    refine v_is rfl rfl (by decide) (by decide) (by omega) ?_
    refine q_aload_n rfl rfl ?_
    refine v_gr (t := 51) rfl rfl rfl (by decide) rfl ?_
    refine q_aload_n rfl rfl ?_
    refine v_gi (z := 29) (v := c 41 29) rfl rfl rfl (by decide) rfl rfl (up_c (by decide)) ?_
    refine q_iload_n rfl rfl ?_
    refine v_is rfl rfl (by decide) (by decide) (by omega) ?_
    refine q_aload_n rfl rfl ?_
    refine q_dup rfl rfl ?_
    refine v_gi (z := 29) (v := c 41 29) rfl rfl rfl (by decide) rfl rfl ((up_c (by decide)).trans (up_c (by decide))) ?_
    refine q_iconst rfl ?_
    refine v_iadd (v := c 41 29 + 1) rfl (by omega) ?_
    refine v_pi (z := 29) rfl rfl rfl (by decide) rfl rfl rfl (by decide) ?_
    refine q_vret rfl rfl ?_
    have hI_4 := iw_50 (j := c 41 29) (v := a1) hI ⟨by omega, by omega⟩
    have hI_5 := iw_51 (j := c 41 29) (v := a2) hI_4 ⟨by omega, by omega⟩
    have hI_6 := iw_41_29 (v := c 41 29 + 1) hI_5 ⟨by omega, by omega⟩
    obtain ⟨hW9, hN9⟩ := nh_emit (what := a1) (of := a2) hW rfl (by omega) (by omega) (by omega)
    have h_7 : (up (up (up c 50 (c 41 29) a1) 51 (c 41 29) a2) 41 29 (c 41 29 + 1)) 41 29 = c 41 29 + 1 := (up_e rfl)
    exact K (up (up (up c 50 (c 41 29) a1) 51 (c 41 29) a2) 41 29 (c 41 29 + 1)) hI_6 (fun a j hm => (up_b (by omega)).trans ((up_b (by omega)).trans (up_b (by omega)))) hW9 (by omega) (by omega) (by omega) (by omega)

set_option maxRecDepth 100000 in
set_option maxHeartbeats 4000000 in
theorem s_171 {sc : List Int32} {e : Int} {d u P Q : Nat} {c : ME} {a1 : Int} {Z : AR → Prop} (hI : Iv u e P Q c) (ha1 : 1 ≤ a1 ∧ a1 ≤ 5) (hq0 : (c 41 7 ≤ 6)) (hq1 : (c 41 4 ≤ 600)) (K : ∀ (c2 : ME), Iv u e P Q c2 → (∀ (a : Nat) (j : Int), ¬ ((a = 41 ∧ j = 4) ∨ (a = 41 ∧ j = 5) ∨ (a = 41 ∧ j = 6) ∨ (a = 41 ∧ j = 7)) → c2 a j = c a j) → ((c2 41 4 ≥ c 41 4)) → ((c2 41 7 = c 41 7 + 1)) → ((c 41 5 = (-1)) ∨ (c2 41 5 = c 41 5)) → ((c2 41 5 < (-1)) ∨ (c2 41 5 > (-1)) ∨ (c2 41 4 = a1 + c 41 4 ∧ c 41 7 ≤ 5 ∧ c 41 5 = (-1))) → Z (.inl (none), Wd P Q P P c2, 0, 0)) : Wp sc (d + 8) 171 0 [(0, .ref 41), (1, vi a1)] [] (Wd P Q P P c) 0 0 Z := by
  have hP := iv_P hI
  have hQ := iv_Q hI
  have h_1 := ir_41_7 hI
  have h_2 := ir_41_4 hI
  refine q_aload_n rfl rfl ?_
  refine v_cv rfl rfl rfl rfl (by decide) ⟨⟨rfl, rfl⟩, by decide, rfl⟩ (Nat.le_of_ble_eq_true rfl) (Nat.le_of_ble_eq_true rfl) ?_
  refine q_aload_n rfl rfl ?_
  have h_3 := ir_41_5 hI
  refine v_gi (z := 5) (v := c 41 5) rfl rfl rfl (by decide) rfl rfl rfl ?_
  refine q_iconst rfl ?_
  by_cases h_4 : c 41 5 ≠ (-1)
  · refine v_ic_ne_t (t := 12) rfl (by decide) (by omega) ?_
    refine q_iconst rfl ?_
    refine v_zret rfl rfl (by omega) ?_
    refine bk_inl ?_
    refine v_if_eq_t (t := 25) rfl (by decide) (by decide) ?_
    refine q_aload_n rfl rfl ?_
    refine v_cv rfl rfl rfl rfl (by decide) ⟨⟨rfl, rfl⟩, by decide, rfl⟩ (Nat.le_of_ble_eq_true rfl) (Nat.le_of_ble_eq_true rfl) ?_
    refine q_aload_n rfl rfl ?_
    refine v_gi (z := 5) (v := c 41 5) rfl rfl rfl (by decide) rfl rfl rfl ?_
    refine q_iconst rfl ?_
    refine v_ic_ne_t (t := 12) rfl (by decide) (by omega) ?_
    refine q_iconst rfl ?_
    refine v_zret rfl rfl (by omega) ?_
    refine bk_inl ?_
    refine v_if_eq_t (t := 42) rfl (by decide) (by decide) ?_
    refine q_aload_n rfl rfl ?_
    refine q_dup rfl rfl ?_
    refine v_gi (z := 7) (v := c 41 7) rfl rfl rfl (by decide) rfl rfl rfl ?_
    refine q_iconst rfl ?_
    refine v_iadd (v := c 41 7 + 1) rfl (by omega) ?_
    refine v_pi (z := 7) rfl rfl rfl (by decide) rfl rfl rfl (by decide) ?_
    refine q_vret rfl rfl ?_
    have hI_5 := iw_41_7 (v := c 41 7 + 1) hI ⟨by omega, by omega⟩
    have h_6 : (up c 41 7 (c 41 7 + 1)) 41 4 = c 41 4 := (up_n (by decide))
    have h_7 : (up c 41 7 (c 41 7 + 1)) 41 5 = c 41 5 := (up_n (by decide))
    have h_8 : (up c 41 7 (c 41 7 + 1)) 41 7 = c 41 7 + 1 := (up_e rfl)
    exact K (up c 41 7 (c 41 7 + 1)) hI_5 (fun a j hm => up_b (by omega)) (by omega) (by omega) (by omega) (by omega)
  · refine v_ic_ne_f (t := 12) rfl (by decide) (by omega) ?_
    refine q_iconst rfl ?_
    refine q_goto (t := 13) rfl (by decide) ?_
    refine v_zret rfl rfl (by omega) ?_
    refine bk_inl ?_
    refine v_if_eq_f (t := 25) rfl (by decide) (by decide) ?_
    refine q_aload_n rfl rfl ?_
    refine v_gi (z := 7) (v := c 41 7) rfl rfl rfl (by decide) rfl rfl rfl ?_
    refine v_bip rfl (by decide) ?_
    by_cases h_9 : c 41 7 ≠ 6
    · refine v_ic_ne_t (t := 25) rfl (by decide) (by omega) ?_
      refine q_aload_n rfl rfl ?_
      refine v_cv rfl rfl rfl rfl (by decide) ⟨⟨rfl, rfl⟩, by decide, rfl⟩ (Nat.le_of_ble_eq_true rfl) (Nat.le_of_ble_eq_true rfl) ?_
      refine q_aload_n rfl rfl ?_
      refine v_gi (z := 5) (v := c 41 5) rfl rfl rfl (by decide) rfl rfl rfl ?_
      refine q_iconst rfl ?_
      refine v_ic_ne_f (t := 12) rfl (by decide) (by omega) ?_
      refine q_iconst rfl ?_
      refine q_goto (t := 13) rfl (by decide) ?_
      refine v_zret rfl rfl (by omega) ?_
      refine bk_inl ?_
      refine v_if_eq_f (t := 42) rfl (by decide) (by decide) ?_
      refine q_aload_n rfl rfl ?_
      refine q_dup rfl rfl ?_
      refine v_gi (z := 4) (v := c 41 4) rfl rfl rfl (by decide) rfl rfl rfl ?_
      refine q_iload_n rfl rfl ?_
      refine v_iadd (v := a1 + c 41 4) rfl (by omega) ?_
      refine v_pi (z := 4) rfl rfl rfl (by decide) rfl rfl rfl (by decide) ?_
      refine q_aload_n rfl rfl ?_
      refine q_dup rfl rfl ?_
      refine v_gi (z := 7) (v := c 41 7) rfl rfl rfl (by decide) rfl rfl (up_n (by decide)) ?_
      refine q_iconst rfl ?_
      refine v_iadd (v := c 41 7 + 1) rfl (by omega) ?_
      refine v_pi (z := 7) rfl rfl rfl (by decide) rfl rfl rfl (by decide) ?_
      refine q_vret rfl rfl ?_
      have hI_10 := iw_41_4 (v := a1 + c 41 4) hI ⟨by omega, by omega⟩
      have hI_11 := iw_41_7 (v := c 41 7 + 1) hI_10 ⟨by omega, by omega⟩
      have h_12 : (up (up c 41 4 (a1 + c 41 4)) 41 7 (c 41 7 + 1)) 41 4 = a1 + c 41 4 := ((up_n (by decide)).trans (up_e rfl))
      have h_13 : (up (up c 41 4 (a1 + c 41 4)) 41 7 (c 41 7 + 1)) 41 5 = c 41 5 := ((up_n (by decide)).trans (up_n (by decide)))
      have h_14 : (up (up c 41 4 (a1 + c 41 4)) 41 7 (c 41 7 + 1)) 41 7 = c 41 7 + 1 := (up_e rfl)
      exact K (up (up c 41 4 (a1 + c 41 4)) 41 7 (c 41 7 + 1)) hI_11 (fun a j hm => (up_b (by omega)).trans (up_b (by omega))) (by omega) (by omega) (by omega) (by omega)
    · refine v_ic_ne_f (t := 25) rfl (by decide) (by omega) ?_
      refine q_aload_n rfl rfl ?_
      refine q_iconst rfl ?_
      refine q_aload_n rfl rfl ?_
      refine v_gi (z := 4) (v := c 41 4) rfl rfl rfl (by decide) rfl rfl rfl ?_
      refine v_cv rfl rfl rfl rfl (by decide) ⟨⟨rfl, rfl⟩, by decide, rfl⟩ (Nat.le_of_ble_eq_true rfl) (Nat.le_of_ble_eq_true rfl) (s_153 (a1 := 3) (a2 := c 41 4) hI (show 1 ≤ 3 ∧ 3 ≤ 3 from by omega) (show 0 ≤ c 41 4 ∧ c 41 4 ≤ 605 from by omega) (fun c_15 hI_16 hF_17 h_18 => ?_))
      refine bk_inl ?_
      have h_19 := ir_41_5 hI_16
      refine q_aload_n rfl rfl ?_
      refine v_cv rfl rfl rfl rfl (by decide) ⟨⟨rfl, rfl⟩, by decide, rfl⟩ (Nat.le_of_ble_eq_true rfl) (Nat.le_of_ble_eq_true rfl) ?_
      refine q_aload_n rfl rfl ?_
      refine v_gi (z := 5) (v := c_15 41 5) rfl rfl rfl (by decide) rfl rfl rfl ?_
      refine q_iconst rfl ?_
      refine v_ic_ne_t (t := 12) rfl (by decide) (by omega) ?_
      refine q_iconst rfl ?_
      refine v_zret rfl rfl (by omega) ?_
      refine bk_inl ?_
      refine v_if_eq_t (t := 42) rfl (by decide) (by decide) ?_
      refine q_aload_n rfl rfl ?_
      refine q_dup rfl rfl ?_
      refine v_gi (z := 7) (v := c 41 7) rfl rfl rfl (by decide) rfl rfl (hF_17 41 7 (by omega)) ?_
      refine q_iconst rfl ?_
      refine v_iadd (v := c 41 7 + 1) rfl (by omega) ?_
      refine v_pi (z := 7) rfl rfl rfl (by decide) rfl rfl rfl (by decide) ?_
      refine q_vret rfl rfl ?_
      have hI_20 := iw_41_7 (v := c 41 7 + 1) hI_16 ⟨by omega, by omega⟩
      have h_21 : (up c_15 41 7 (c 41 7 + 1)) 41 4 = c 41 4 := ((up_n (by decide)).trans (hF_17 41 4 (by omega)))
      have h_22 : (up c_15 41 7 (c 41 7 + 1)) 41 5 = c_15 41 5 := (up_n (by decide))
      have h_23 : (up c_15 41 7 (c 41 7 + 1)) 41 7 = c 41 7 + 1 := (up_e rfl)
      exact K (up c_15 41 7 (c 41 7 + 1)) hI_20 (fun a j hm => (up_b (by omega)).trans (hF_17 a j (by omega))) (by omega) (by omega) (by omega) (by omega)

set_option maxRecDepth 100000 in
set_option maxHeartbeats 4000000 in
theorem s_172 {sc : List Int32} {e : Int} {d u P Q : Nat} {c : ME} {Z : AR → Prop} (hI : Iv u e P Q c)  (K : ∀ (c2 : ME) (y : Int), Iv u e P Q c2 → (∀ (a : Nat) (j : Int), ¬ ((a = 41 ∧ j = 4)) → c2 a j = c a j) → (-1) ≤ y ∧ y ≤ 7 → ((c2 41 4 ≥ c 41 4)) → ((c2 41 4 ≤ c 41 3) ∨ (c2 41 4 = c 41 4)) → ((y < 0) ∨ (c2 41 4 < c 41 3)) → ((y < 0) ∨ (c 43 (c2 41 4) ≥ 97 ∧ c 43 (c2 41 4) ≤ 122)) → Z (.inl (some (vi y)), Wd P Q P P c2, 0, 0)) : Wp sc (d + 9) 172 0 [(0, .ref 41)] [] (Wd P Q P P c) 0 0 Z := by
  have hP := iv_P hI
  have hQ := iv_Q hI
  refine q_aload_n rfl rfl ?_
  have h_1 := ir_41_4 hI
  have h_2 := ir_41_3 hI
  refine v_cv rfl rfl rfl rfl (by decide) ⟨⟨rfl, rfl⟩, by decide, rfl⟩ (Nat.le_of_ble_eq_true rfl) (Nat.le_of_ble_eq_true rfl) (s_157 hI (fun c_3 y_6 hI_4 hF_5 hy_6 h_7 h_8 h_9 h_10 h_11 => ?_))
  refine bk_inl ?_
  have h_12 := ir_41_4 hI_4
  have h_13 := ir_43 hI (c_3 41 4)
  have h_14 := ir_43 hI (c_3 41 4 + 1)
  have h_15 := ir_43 hI (c_3 41 4 + 2)
  refine q_istore_n rfl (by decide) ?_
  refine q_iload_n rfl rfl ?_
  refine q_ldc_s rfl rfl rfl (by decide) ?_
  refine q_call rfl rfl rfl rfl (s_158_22 ?_)
  refine bk_inl ?_
  by_cases h_16 : y_6 ≠ 206277
  · refine v_ic_ne_t (t := 18) rfl (by decide) (by omega) ?_
    refine q_iload_n rfl rfl ?_
    refine q_ldc_s rfl rfl rfl (by decide) ?_
    refine q_call rfl rfl rfl rfl (s_158_23 ?_)
    refine bk_inl ?_
    by_cases h_17 : y_6 ≠ 13604
    · refine v_ic_ne_t (t := 31) rfl (by decide) (by omega) ?_
      refine q_iload_n rfl rfl ?_
      refine q_ldc_w_s rfl rfl rfl (by decide) ?_
      refine q_call rfl rfl rfl rfl (s_158_24 ?_)
      refine bk_inl ?_
      by_cases h_18 : y_6 ≠ 116443749
      · refine v_ic_ne_t (t := 45) rfl (by decide) (by omega) ?_
        refine q_iload_n rfl rfl ?_
        refine q_ldc_w_s rfl rfl rfl (by decide) ?_
        refine q_call rfl rfl rfl rfl (s_158_25 ?_)
        refine bk_inl ?_
        by_cases h_19 : y_6 ≠ 284267
        · refine v_ic_ne_t (t := 59) rfl (by decide) (by omega) ?_
          refine q_iload_n rfl rfl ?_
          refine q_ldc_w_s rfl rfl rfl (by decide) ?_
          refine q_call rfl rfl rfl rfl (s_158_26 ?_)
          refine bk_inl ?_
          by_cases h_20 : y_6 ≠ 1420
          · refine v_ic_ne_t (t := 73) rfl (by decide) (by omega) ?_
            refine q_iload_n rfl rfl ?_
            refine q_ldc_w_s rfl rfl rfl (by decide) ?_
            refine q_call rfl rfl rfl rfl (s_158_27 ?_)
            refine bk_inl ?_
            by_cases h_21 : y_6 ≠ 1253
            · refine v_ic_ne_t (t := 87) rfl (by decide) (by omega) ?_
              refine q_iload_n rfl rfl ?_
              refine q_ldc_w_s rfl rfl rfl (by decide) ?_
              refine q_call rfl rfl rfl rfl (s_158_28 ?_)
              refine bk_inl ?_
              by_cases h_22 : y_6 ≠ 4153
              · refine v_ic_ne_t (t := 102) rfl (by decide) (by omega) ?_
                refine q_iload_n rfl rfl ?_
                refine q_ldc_s rfl rfl rfl (by decide) ?_
                refine q_call rfl rfl rfl rfl (s_158_16 ?_)
                refine bk_inl ?_
                by_cases h_23 : y_6 ≠ 10290
                · refine v_ic_ne_t (t := 116) rfl (by decide) (by omega) ?_
                  refine q_iconst rfl ?_
                  refine q_iret rfl rfl ?_
                  have h_24 : c 43 ((c_3 41 4)) = c 43 (c_3 41 4) := congrArg (c 43) (by omega)
                  exact K c_3 (-1) hI_4 (fun a j hm => hF_5 a j (by omega)) ⟨by decide, by decide⟩ (by omega) (by omega) (by omega) (by omega)
                · refine v_ic_ne_f (t := 116) rfl (by decide) (by omega) ?_
                  refine v_bip rfl (by decide) ?_
                  refine q_goto (t := 117) rfl (by decide) ?_
                  refine q_iret rfl rfl ?_
                  have h_25 : c 43 ((c_3 41 4)) = c 43 (c_3 41 4) := congrArg (c 43) (by omega)
                  exact K c_3 7 hI_4 (fun a j hm => hF_5 a j (by omega)) ⟨by decide, by decide⟩ (by omega) (by omega) (by omega) (by omega)
              · refine v_ic_ne_f (t := 102) rfl (by decide) (by omega) ?_
                refine v_bip rfl (by decide) ?_
                refine q_goto (t := 117) rfl (by decide) ?_
                refine q_iret rfl rfl ?_
                have h_26 : c 43 ((c_3 41 4)) = c 43 (c_3 41 4) := congrArg (c 43) (by omega)
                exact K c_3 6 hI_4 (fun a j hm => hF_5 a j (by omega)) ⟨by decide, by decide⟩ (by omega) (by omega) (by omega) (by omega)
            · refine v_ic_ne_f (t := 87) rfl (by decide) (by omega) ?_
              refine q_iconst rfl ?_
              refine q_goto (t := 117) rfl (by decide) ?_
              refine q_iret rfl rfl ?_
              have h_27 : c 43 ((c_3 41 4)) = c 43 (c_3 41 4) := congrArg (c 43) (by omega)
              exact K c_3 5 hI_4 (fun a j hm => hF_5 a j (by omega)) ⟨by decide, by decide⟩ (by omega) (by omega) (by omega) (by omega)
          · refine v_ic_ne_f (t := 73) rfl (by decide) (by omega) ?_
            refine q_iconst rfl ?_
            refine q_goto (t := 117) rfl (by decide) ?_
            refine q_iret rfl rfl ?_
            have h_28 : c 43 ((c_3 41 4)) = c 43 (c_3 41 4) := congrArg (c 43) (by omega)
            exact K c_3 4 hI_4 (fun a j hm => hF_5 a j (by omega)) ⟨by decide, by decide⟩ (by omega) (by omega) (by omega) (by omega)
        · refine v_ic_ne_f (t := 59) rfl (by decide) (by omega) ?_
          refine q_iconst rfl ?_
          refine q_goto (t := 117) rfl (by decide) ?_
          refine q_iret rfl rfl ?_
          have h_29 : c 43 ((c_3 41 4)) = c 43 (c_3 41 4) := congrArg (c 43) (by omega)
          exact K c_3 3 hI_4 (fun a j hm => hF_5 a j (by omega)) ⟨by decide, by decide⟩ (by omega) (by omega) (by omega) (by omega)
      · refine v_ic_ne_f (t := 45) rfl (by decide) (by omega) ?_
        refine q_iconst rfl ?_
        refine q_goto (t := 117) rfl (by decide) ?_
        refine q_iret rfl rfl ?_
        have h_30 : c 43 ((c_3 41 4)) = c 43 (c_3 41 4) := congrArg (c 43) (by omega)
        exact K c_3 2 hI_4 (fun a j hm => hF_5 a j (by omega)) ⟨by decide, by decide⟩ (by omega) (by omega) (by omega) (by omega)
    · refine v_ic_ne_f (t := 31) rfl (by decide) (by omega) ?_
      refine q_iconst rfl ?_
      refine q_goto (t := 117) rfl (by decide) ?_
      refine q_iret rfl rfl ?_
      have h_31 : c 43 ((c_3 41 4)) = c 43 (c_3 41 4) := congrArg (c 43) (by omega)
      exact K c_3 1 hI_4 (fun a j hm => hF_5 a j (by omega)) ⟨by decide, by decide⟩ (by omega) (by omega) (by omega) (by omega)
  · refine v_ic_ne_f (t := 18) rfl (by decide) (by omega) ?_
    refine q_iconst rfl ?_
    refine q_goto (t := 117) rfl (by decide) ?_
    refine q_iret rfl rfl ?_
    have h_32 : c 43 ((c_3 41 4)) = c 43 (c_3 41 4) := congrArg (c 43) (by omega)
    exact K c_3 0 hI_4 (fun a j hm => hF_5 a j (by omega)) ⟨by decide, by decide⟩ (by omega) (by omega) (by omega) (by omega)

set_option maxRecDepth 100000 in
set_option maxHeartbeats 4000000 in
theorem n_176 {sc : List Int32} {e : Int} {d u P Q : Nat} {c : ME} {Z : AR → Prop} (hI : Iv u e P Q c) (hq0 : (c 41 5 < (-1)) ∨ (c 41 5 > (-1))) (K : Z (.inl (none), Wd P Q P P c, 0, 0)) : Wp sc (d + 12) 176 0 [(0, .ref 41)] [] (Wd P Q P P c) 0 0 Z := by
  have hP := iv_P hI
  have hQ := iv_Q hI
  have h_1 := ir_41_5 hI
  refine q_aload_n rfl rfl ?_
  refine v_cv rfl rfl rfl rfl (by decide) ⟨⟨rfl, rfl⟩, by decide, rfl⟩ (Nat.le_of_ble_eq_true rfl) (Nat.le_of_ble_eq_true rfl) ?_
  refine q_aload_n rfl rfl ?_
  refine v_gi (z := 5) (v := c 41 5) rfl rfl rfl (by decide) rfl rfl rfl ?_
  refine q_iconst rfl ?_
  refine v_ic_ne_t (t := 12) rfl (by decide) (by omega) ?_
  refine q_iconst rfl ?_
  refine v_zret rfl rfl (by omega) ?_
  refine bk_inl ?_
  refine v_if_ne_f (t := 8) rfl (by decide) (by decide) ?_
  refine q_vret rfl rfl ?_
  exact K
set_option maxRecDepth 100000 in
set_option maxHeartbeats 4000000 in
theorem n_173 {sc : List Int32} {e : Int} {d u P Q : Nat} {c : ME} {Z : AR → Prop} (hI : Iv u e P Q c) (hq0 : (c 41 5 < (-1)) ∨ (c 41 5 > (-1))) (K : Z (.inl (none), Wd P Q P P c, 0, 0)) : Wp sc (d + 14) 173 0 [(0, .ref 41)] [] (Wd P Q P P c) 0 0 Z := by
  have hP := iv_P hI
  have hQ := iv_Q hI
  have h_1 := ir_41_5 hI
  refine q_aload_n rfl rfl ?_
  have h_2 : ¬ c 41 5 = -1 := by rw [show c 41 5 = c 41 5 from rfl]; omega
  refine v_cv rfl rfl rfl rfl (by decide) ⟨⟨rfl, rfl⟩, by decide, rfl⟩ (Nat.le_of_ble_eq_true rfl) (Nat.le_of_ble_eq_true rfl) (n_176 hI (by omega) ?_)
  refine bk_inl ?_
  refine q_aload_n rfl rfl ?_
  refine v_cv rfl rfl rfl rfl (by decide) ⟨⟨rfl, rfl⟩, by decide, rfl⟩ (Nat.le_of_ble_eq_true rfl) (Nat.le_of_ble_eq_true rfl) ?_
  refine q_aload_n rfl rfl ?_
  refine v_gi (z := 5) (v := c 41 5) rfl rfl rfl (by decide) rfl rfl rfl ?_
  refine q_iconst rfl ?_
  refine v_ic_ne_t (t := 12) rfl (by decide) (by omega) ?_
  refine q_iconst rfl ?_
  refine v_zret rfl rfl (by omega) ?_
  refine bk_inl ?_
  refine v_if_eq_t (t := 90) rfl (by decide) (by decide) ?_
  refine q_vret rfl rfl ?_
  exact K
set_option maxRecDepth 100000 in
set_option maxHeartbeats 4000000 in
theorem n_174 {sc : List Int32} {e : Int} {d u P Q : Nat} {c : ME} {Z : AR → Prop} (hI : Iv u e P Q c) (hq0 : (c 41 5 < (-1)) ∨ (c 41 5 > (-1))) (K : Z (.inl (none), Wd P Q P P c, 0, 0)) : Wp sc (d + 16) 174 0 [(0, .ref 41)] [] (Wd P Q P P c) 0 0 Z := by
  have hP := iv_P hI
  have hQ := iv_Q hI
  have h_1 := ir_41_5 hI
  refine q_aload_n rfl rfl ?_
  have h_2 : ¬ c 41 5 = -1 := by rw [show c 41 5 = c 41 5 from rfl]; omega
  refine v_cv rfl rfl rfl rfl (by decide) ⟨⟨rfl, rfl⟩, by decide, rfl⟩ (Nat.le_of_ble_eq_true rfl) (Nat.le_of_ble_eq_true rfl) (n_173 hI (by omega) ?_)
  refine bk_inl ?_
  refine q_aload_n rfl rfl ?_
  refine v_cv rfl rfl rfl rfl (by decide) ⟨⟨rfl, rfl⟩, by decide, rfl⟩ (Nat.le_of_ble_eq_true rfl) (Nat.le_of_ble_eq_true rfl) ?_
  refine q_aload_n rfl rfl ?_
  refine v_gi (z := 5) (v := c 41 5) rfl rfl rfl (by decide) rfl rfl rfl ?_
  refine q_iconst rfl ?_
  refine v_ic_ne_t (t := 12) rfl (by decide) (by omega) ?_
  refine q_iconst rfl ?_
  refine v_zret rfl rfl (by omega) ?_
  refine bk_inl ?_
  refine v_if_eq_t (t := 67) rfl (by decide) (by decide) ?_
  refine q_vret rfl rfl ?_
  exact K
set_option maxRecDepth 100000 in
set_option maxHeartbeats 4000000 in
theorem s_175 {sc : List Int32} {e : Int} {d u P Q : Nat} {c : ME} {a1 : Int} {a2 : Int} {o : Int} {Z : AR → Prop} (hI : Iv u e P Q c) (ha1 : 4 ≤ a1 ∧ a1 ≤ 5) (ha2 : 6 ≤ a2 ∧ a2 ≤ 7) (ho : 0 ≤ o ∧ o ≤ 6) (hW : Nw c) (hq0 : (c 41 5 = (-1))) (hq1 : (c 41 4 ≤ c 41 3)) (hq2 : (c 41 3 ≤ 150)) (hq3 : (c 41 29 ≤ c 41 4)) (hq4 : (c 41 7 = o)) (hq5 : (c 41 4 ≤ c 41 3 - 1)) (H174 : ∀ (d9 : Nat) (c : ME) (Z : AR → Prop), d ≤ d9 → o + 1 ≤ 6 → Iv u e P Q c → Nw c → ((c 41 5 = (-1))) → ((c 41 4 ≤ c 41 3)) → ((c 41 3 ≤ 150)) → ((c 41 29 ≤ c 41 4)) → (c 41 7 = o + 1) → (∀ c2 : ME, Iv u e P Q c2 → (∀ (a : Nat) (j : Int), ¬ ((a = 41 ∧ j = 4) ∨ (a = 41 ∧ j = 5) ∨ (a = 41 ∧ j = 6) ∨ (a = 41 ∧ j = 7) ∨ (a = 41 ∧ j = 29) ∨ a = 50 ∨ a = 51) → c2 a j = c a j) → Nw c2 → ((c2 41 4 ≥ c 41 4)) → ((c2 41 7 = c 41 7)) → ((c 41 4 + c2 41 29 ≤ c 41 29 + c2 41 4)) → ((c2 41 5 < (-1)) ∨ (c2 41 5 > (-1)) ∨ (c2 41 4 ≤ c 41 3)) → ((c2 41 5 < (-1)) ∨ (c2 41 5 > (-1)) ∨ (Nh c2 = Nh c + 1)) → Z (.inl none, Wd P Q P P c2, 0, 0)) → Wp sc (d9 + 12) 174 0 [(0, .ref 41)] [] (Wd P Q P P c) 0 0 Z) (K : ∀ (c2 : ME), Iv u e P Q c2 → (∀ (a : Nat) (j : Int), ¬ ((a = 41 ∧ j = 4) ∨ (a = 41 ∧ j = 5) ∨ (a = 41 ∧ j = 6) ∨ (a = 41 ∧ j = 7) ∨ (a = 41 ∧ j = 29) ∨ a = 50 ∨ a = 51) → c2 a j = c a j) → Nw c2 → ((c2 41 4 ≥ c 41 4)) → ((c2 41 7 = c 41 7)) → ((c 41 4 + c2 41 29 ≤ c 41 29 + c2 41 4)) → ((c2 41 5 < (-1)) ∨ (c2 41 5 > (-1)) ∨ (c2 41 4 ≤ c 41 3)) → ((c2 41 5 < (-1)) ∨ (c2 41 5 > (-1)) ∨ (Nh c2 = Nh c + 1)) → Z (.inl (none), Wd P Q P P c2, 0, 0)) : Wp sc (d + 13) 175 0 [(0, .ref 41), (1, vi a1), (2, vi a2)] [] (Wd P Q P P c) 0 0 Z := by
  have hP := iv_P hI
  have hQ := iv_Q hI
  have h_1 := ir_41_5 hI
  have h_2 := ir_41_3 hI
  have h_3 := ir_41_4 hI
  have h_4 := ir_41_29 hI
  have h_5 := ir_41_7 hI
  refine q_aload_n rfl rfl ?_
  refine q_iload_n rfl rfl ?_
  refine v_cv rfl rfl rfl rfl (by decide) ⟨⟨rfl, rfl⟩, by decide, rfl⟩ (Nat.le_of_ble_eq_true rfl) (Nat.le_of_ble_eq_true rfl) (s_171 (a1 := a1) hI (show 1 ≤ a1 ∧ a1 ≤ 5 from by omega) (by omega) (by omega) (fun c_6 hI_7 hF_8 h_9 h_10 h_11 h_12 => ?_))
  refine bk_inl ?_
  have h_13 := ir_41_4 hI_7
  have h_14 := ir_41_7 hI_7
  have h_15 := ir_41_5 hI_7
  refine q_aload_n rfl rfl ?_
  refine v_bip rfl (by decide) ?_
  have h_16 : c_6 41 3 = c 41 3 := (hF_8 41 3 (by omega))
  refine v_cv rfl rfl rfl rfl (by decide) ⟨⟨rfl, rfl⟩, by decide, rfl⟩ (Nat.le_of_ble_eq_true rfl) (Nat.le_of_ble_eq_true rfl) (s_161 (a1 := 91) hI_7 (show 1 ≤ 91 ∧ 91 ≤ 255 from by omega) (fun c_17 hI_18 hF_19 h_20 h_21 h_22 h_23 => ?_))
  refine bk_inl ?_
  have h_24 := ir_41_4 hI_18
  have h_25 := ir_41_5 hI_18
  refine q_aload_n rfl rfl ?_
  by_cases h_26 : c_17 41 5 = -1
  · skip
    have h_27 : c_17 41 3 = c 41 3 := ((hF_19 41 3 (by omega)).trans (hF_8 41 3 (by omega)))
    have h_28 : c_17 41 29 = c 41 29 := ((hF_19 41 29 (by omega)).trans (hF_8 41 29 (by omega)))
    have h_29 : c_17 41 7 = c_6 41 7 := (hF_19 41 7 (by omega))
    obtain ⟨hW_30, hN_31⟩ : Nw c_17 ∧ Nh c_17 = Nh c := nh_fr hW (fun j => (hF_19 50 j (by omega)).trans (hF_8 50 j (by omega))) (fun j => (hF_19 51 j (by omega)).trans (hF_8 51 j (by omega))) ((hF_19 41 29 (by omega)).trans (hF_8 41 29 (by omega)))
    refine v_cv rfl rfl rfl rfl (by decide) ⟨⟨rfl, rfl⟩, by decide, rfl⟩ (Nat.le_of_ble_eq_true rfl) (Nat.le_of_ble_eq_true rfl) (H174 _ _ _ (by omega) (by omega) hI_18 hW_30 (by omega) (by omega) (by omega) (by omega) (by omega) (fun c_32 hI_33 hF_34 hW_35 h_36 h_37 h_38 h_39 h_40 => ?_))
    refine bk_inl ?_
    have h_41 := ir_41_4 hI_33
    have h_42 := ir_41_7 hI_33
    have h_43 := ir_41_29 hI_33
    have h_44 := ir_41_5 hI_33
    refine q_aload_n rfl rfl ?_
    refine v_bip rfl (by decide) ?_
    have h_45 : c_32 41 3 = c 41 3 := ((hF_34 41 3 (by omega)).trans ((hF_19 41 3 (by omega)).trans (hF_8 41 3 (by omega))))
    refine v_cv rfl rfl rfl rfl (by decide) ⟨⟨rfl, rfl⟩, by decide, rfl⟩ (Nat.le_of_ble_eq_true rfl) (Nat.le_of_ble_eq_true rfl) (s_161 (a1 := 44) hI_33 (show 1 ≤ 44 ∧ 44 ≤ 255 from by omega) (fun c_46 hI_47 hF_48 h_49 h_50 h_51 h_52 => ?_))
    refine bk_inl ?_
    have h_53 := ir_41_4 hI_47
    have h_54 := ir_41_5 hI_47
    refine q_aload_n rfl rfl ?_
    by_cases h_55 : c_46 41 5 = -1
    · skip
      have h_56 : c_46 41 3 = c 41 3 := ((hF_48 41 3 (by omega)).trans ((hF_34 41 3 (by omega)).trans ((hF_19 41 3 (by omega)).trans (hF_8 41 3 (by omega)))))
      have h_57 : c_46 41 29 = c_32 41 29 := (hF_48 41 29 (by omega))
      have h_58 : c_46 41 7 = c_32 41 7 := (hF_48 41 7 (by omega))
      obtain ⟨hW_59, hN_60⟩ : Nw c_46 ∧ Nh c_46 = Nh c_32 := nh_fr hW_35 (fun j => hF_48 50 j (by omega)) (fun j => hF_48 51 j (by omega)) (hF_48 41 29 (by omega))
      refine v_cv rfl rfl rfl rfl (by decide) ⟨⟨rfl, rfl⟩, by decide, rfl⟩ (Nat.le_of_ble_eq_true rfl) (Nat.le_of_ble_eq_true rfl) (H174 _ _ _ (by omega) (by omega) hI_47 hW_59 (by omega) (by omega) (by omega) (by omega) (by omega) (fun c_61 hI_62 hF_63 hW_64 h_65 h_66 h_67 h_68 h_69 => ?_))
      refine bk_inl ?_
      have h_70 := ir_41_4 hI_62
      have h_71 := ir_41_7 hI_62
      have h_72 := ir_41_29 hI_62
      have h_73 := ir_41_5 hI_62
      refine q_aload_n rfl rfl ?_
      refine v_bip rfl (by decide) ?_
      have h_74 : c_61 41 3 = c 41 3 := ((hF_63 41 3 (by omega)).trans ((hF_48 41 3 (by omega)).trans ((hF_34 41 3 (by omega)).trans ((hF_19 41 3 (by omega)).trans (hF_8 41 3 (by omega))))))
      refine v_cv rfl rfl rfl rfl (by decide) ⟨⟨rfl, rfl⟩, by decide, rfl⟩ (Nat.le_of_ble_eq_true rfl) (Nat.le_of_ble_eq_true rfl) (s_161 (a1 := 93) hI_62 (show 1 ≤ 93 ∧ 93 ≤ 255 from by omega) (fun c_75 hI_76 hF_77 h_78 h_79 h_80 h_81 => ?_))
      refine bk_inl ?_
      have h_82 := ir_41_4 hI_76
      have h_83 := ir_41_5 hI_76
      refine q_aload_n rfl rfl ?_
      refine q_dup rfl rfl ?_
      refine v_gi (z := 7) (v := c_61 41 7) rfl rfl rfl (by decide) rfl rfl (hF_77 41 7 (by omega)) ?_
      refine q_iconst rfl ?_
      refine v_isub (v := c_61 41 7 - 1) rfl (by omega) ?_
      refine v_pi (z := 7) rfl rfl rfl (by decide) rfl rfl rfl (by decide) ?_
      refine q_aload_n rfl rfl ?_
      refine q_iload_n rfl rfl ?_
      refine q_iconst rfl ?_
      have hI_84 := iw_41_7 (v := c_61 41 7 - 1) hI_76 ⟨by omega, by omega⟩
      have h_85 : (up c_75 41 7 (c_61 41 7 - 1)) 41 29 = c_61 41 29 := ((up_n (by decide)).trans (hF_77 41 29 (by omega)))
      have h_86 : (up c_75 41 7 (c_61 41 7 - 1)) 41 5 = c_75 41 5 := (up_n (by decide))
      obtain ⟨hW_87, hN_88⟩ : Nw (up c_75 41 7 (c_61 41 7 - 1)) ∧ Nh (up c_75 41 7 (c_61 41 7 - 1)) = Nh c_61 := nh_fr hW_64 (fun j => (up_c (by omega)).trans (hF_77 50 j (by omega))) (fun j => (up_c (by omega)).trans (hF_77 51 j (by omega))) ((up_n (by decide)).trans (hF_77 41 29 (by omega)))
      refine v_cv rfl rfl rfl rfl (by decide) ⟨⟨rfl, rfl⟩, by decide, rfl⟩ (Nat.le_of_ble_eq_true rfl) (Nat.le_of_ble_eq_true rfl) (s_170 (a1 := a2) (a2 := 0) hI_84 (show 0 ≤ a2 ∧ a2 ≤ 8 from by omega) (show 0 ≤ 0 ∧ 0 ≤ 999 from by omega) hW_87 (by omega) (by omega) (by omega) (fun c_89 hI_90 hF_91 hW_92 h_93 h_94 h_95 h_96 => ?_))
      refine bk_inl ?_
      have h_97 := ir_41_29 hI_90
      refine q_vret rfl rfl ?_
      have h_98 : c_89 41 4 = c_75 41 4 := ((hF_91 41 4 (by omega)).trans (up_n (by decide)))
      have h_99 : c_89 41 5 = c_75 41 5 := ((hF_91 41 5 (by omega)).trans (up_n (by decide)))
      have h_100 : c_89 41 7 = c_61 41 7 - 1 := ((hF_91 41 7 (by omega)).trans (up_e rfl))
      exact K c_89 hI_90 (fun a j hm => (hF_91 a j (by omega)).trans ((up_b (by omega)).trans ((hF_77 a j (by omega)).trans ((hF_63 a j (by omega)).trans ((hF_48 a j (by omega)).trans ((hF_34 a j (by omega)).trans ((hF_19 a j (by omega)).trans (hF_8 a j (by omega))))))))) hW_92 (by omega) (by omega) (by omega) (by omega) (by omega)
    · skip
      have h_101 : ¬ c_46 41 5 = -1 := by rw [show c_46 41 5 = c_46 41 5 from rfl]; omega
      refine v_cv rfl rfl rfl rfl (by decide) ⟨⟨rfl, rfl⟩, by decide, rfl⟩ (Nat.le_of_ble_eq_true rfl) (Nat.le_of_ble_eq_true rfl) (n_174 hI_47 (by omega) ?_)
      refine bk_inl ?_
      refine q_aload_n rfl rfl ?_
      refine v_bip rfl (by decide) ?_
      have h_102 : c_46 41 3 = c 41 3 := ((hF_48 41 3 (by omega)).trans ((hF_34 41 3 (by omega)).trans ((hF_19 41 3 (by omega)).trans (hF_8 41 3 (by omega)))))
      refine v_cv rfl rfl rfl rfl (by decide) ⟨⟨rfl, rfl⟩, by decide, rfl⟩ (Nat.le_of_ble_eq_true rfl) (Nat.le_of_ble_eq_true rfl) (s_161 (a1 := 93) hI_47 (show 1 ≤ 93 ∧ 93 ≤ 255 from by omega) (fun c_103 hI_104 hF_105 h_106 h_107 h_108 h_109 => ?_))
      refine bk_inl ?_
      have h_110 := ir_41_4 hI_104
      have h_111 := ir_41_5 hI_104
      refine q_aload_n rfl rfl ?_
      refine q_dup rfl rfl ?_
      refine v_gi (z := 7) (v := c_32 41 7) rfl rfl rfl (by decide) rfl rfl ((hF_105 41 7 (by omega)).trans (hF_48 41 7 (by omega))) ?_
      refine q_iconst rfl ?_
      refine v_isub (v := c_32 41 7 - 1) rfl (by omega) ?_
      refine v_pi (z := 7) rfl rfl rfl (by decide) rfl rfl rfl (by decide) ?_
      refine q_aload_n rfl rfl ?_
      refine q_iload_n rfl rfl ?_
      refine q_iconst rfl ?_
      have hI_112 := iw_41_7 (v := c_32 41 7 - 1) hI_104 ⟨by omega, by omega⟩
      have h_113 : (up c_103 41 7 (c_32 41 7 - 1)) 41 29 = c_32 41 29 := ((up_n (by decide)).trans ((hF_105 41 29 (by omega)).trans (hF_48 41 29 (by omega))))
      have h_114 : (up c_103 41 7 (c_32 41 7 - 1)) 41 5 = c_103 41 5 := (up_n (by decide))
      obtain ⟨hW_115, hN_116⟩ : Nw (up c_103 41 7 (c_32 41 7 - 1)) ∧ Nh (up c_103 41 7 (c_32 41 7 - 1)) = Nh c_32 := nh_fr hW_35 (fun j => (up_c (by omega)).trans ((hF_105 50 j (by omega)).trans (hF_48 50 j (by omega)))) (fun j => (up_c (by omega)).trans ((hF_105 51 j (by omega)).trans (hF_48 51 j (by omega)))) ((up_n (by decide)).trans ((hF_105 41 29 (by omega)).trans (hF_48 41 29 (by omega))))
      refine v_cv rfl rfl rfl rfl (by decide) ⟨⟨rfl, rfl⟩, by decide, rfl⟩ (Nat.le_of_ble_eq_true rfl) (Nat.le_of_ble_eq_true rfl) (s_170 (a1 := a2) (a2 := 0) hI_112 (show 0 ≤ a2 ∧ a2 ≤ 8 from by omega) (show 0 ≤ 0 ∧ 0 ≤ 999 from by omega) hW_115 (by omega) (by omega) (by omega) (fun c_117 hI_118 hF_119 hW_120 h_121 h_122 h_123 h_124 => ?_))
      refine bk_inl ?_
      have h_125 := ir_41_29 hI_118
      refine q_vret rfl rfl ?_
      have h_126 : c_117 41 4 = c_103 41 4 := ((hF_119 41 4 (by omega)).trans (up_n (by decide)))
      have h_127 : c_117 41 5 = c_103 41 5 := ((hF_119 41 5 (by omega)).trans (up_n (by decide)))
      have h_128 : c_117 41 7 = c_32 41 7 - 1 := ((hF_119 41 7 (by omega)).trans (up_e rfl))
      exact K c_117 hI_118 (fun a j hm => (hF_119 a j (by omega)).trans ((up_b (by omega)).trans ((hF_105 a j (by omega)).trans ((hF_48 a j (by omega)).trans ((hF_34 a j (by omega)).trans ((hF_19 a j (by omega)).trans (hF_8 a j (by omega)))))))) hW_120 (by omega) (by omega) (by omega) (by omega) (by omega)
  · skip
    have h_129 : ¬ c_17 41 5 = -1 := by rw [show c_17 41 5 = c_17 41 5 from rfl]; omega
    refine v_cv rfl rfl rfl rfl (by decide) ⟨⟨rfl, rfl⟩, by decide, rfl⟩ (Nat.le_of_ble_eq_true rfl) (Nat.le_of_ble_eq_true rfl) (n_174 hI_18 (by omega) ?_)
    refine bk_inl ?_
    refine q_aload_n rfl rfl ?_
    refine v_bip rfl (by decide) ?_
    have h_130 : c_17 41 3 = c 41 3 := ((hF_19 41 3 (by omega)).trans (hF_8 41 3 (by omega)))
    refine v_cv rfl rfl rfl rfl (by decide) ⟨⟨rfl, rfl⟩, by decide, rfl⟩ (Nat.le_of_ble_eq_true rfl) (Nat.le_of_ble_eq_true rfl) (s_161 (a1 := 44) hI_18 (show 1 ≤ 44 ∧ 44 ≤ 255 from by omega) (fun c_131 hI_132 hF_133 h_134 h_135 h_136 h_137 => ?_))
    refine bk_inl ?_
    have h_138 := ir_41_4 hI_132
    have h_139 := ir_41_5 hI_132
    refine q_aload_n rfl rfl ?_
    have h_140 : ¬ c_131 41 5 = -1 := by rw [show c_131 41 5 = c_131 41 5 from rfl]; omega
    refine v_cv rfl rfl rfl rfl (by decide) ⟨⟨rfl, rfl⟩, by decide, rfl⟩ (Nat.le_of_ble_eq_true rfl) (Nat.le_of_ble_eq_true rfl) (n_174 hI_132 (by omega) ?_)
    refine bk_inl ?_
    refine q_aload_n rfl rfl ?_
    refine v_bip rfl (by decide) ?_
    have h_141 : c_131 41 3 = c 41 3 := ((hF_133 41 3 (by omega)).trans ((hF_19 41 3 (by omega)).trans (hF_8 41 3 (by omega))))
    refine v_cv rfl rfl rfl rfl (by decide) ⟨⟨rfl, rfl⟩, by decide, rfl⟩ (Nat.le_of_ble_eq_true rfl) (Nat.le_of_ble_eq_true rfl) (s_161 (a1 := 93) hI_132 (show 1 ≤ 93 ∧ 93 ≤ 255 from by omega) (fun c_142 hI_143 hF_144 h_145 h_146 h_147 h_148 => ?_))
    refine bk_inl ?_
    have h_149 := ir_41_4 hI_143
    have h_150 := ir_41_5 hI_143
    refine q_aload_n rfl rfl ?_
    refine q_dup rfl rfl ?_
    refine v_gi (z := 7) (v := c_6 41 7) rfl rfl rfl (by decide) rfl rfl ((hF_144 41 7 (by omega)).trans ((hF_133 41 7 (by omega)).trans (hF_19 41 7 (by omega)))) ?_
    refine q_iconst rfl ?_
    refine v_isub (v := c_6 41 7 - 1) rfl (by omega) ?_
    refine v_pi (z := 7) rfl rfl rfl (by decide) rfl rfl rfl (by decide) ?_
    refine q_aload_n rfl rfl ?_
    refine q_iload_n rfl rfl ?_
    refine q_iconst rfl ?_
    have hI_151 := iw_41_7 (v := c_6 41 7 - 1) hI_143 ⟨by omega, by omega⟩
    have h_152 : (up c_142 41 7 (c_6 41 7 - 1)) 41 29 = c 41 29 := ((up_n (by decide)).trans ((hF_144 41 29 (by omega)).trans ((hF_133 41 29 (by omega)).trans ((hF_19 41 29 (by omega)).trans (hF_8 41 29 (by omega))))))
    have h_153 : (up c_142 41 7 (c_6 41 7 - 1)) 41 5 = c_142 41 5 := (up_n (by decide))
    obtain ⟨hW_154, hN_155⟩ : Nw (up c_142 41 7 (c_6 41 7 - 1)) ∧ Nh (up c_142 41 7 (c_6 41 7 - 1)) = Nh c := nh_fr hW (fun j => (up_c (by omega)).trans ((hF_144 50 j (by omega)).trans ((hF_133 50 j (by omega)).trans ((hF_19 50 j (by omega)).trans (hF_8 50 j (by omega)))))) (fun j => (up_c (by omega)).trans ((hF_144 51 j (by omega)).trans ((hF_133 51 j (by omega)).trans ((hF_19 51 j (by omega)).trans (hF_8 51 j (by omega)))))) ((up_n (by decide)).trans ((hF_144 41 29 (by omega)).trans ((hF_133 41 29 (by omega)).trans ((hF_19 41 29 (by omega)).trans (hF_8 41 29 (by omega))))))
    refine v_cv rfl rfl rfl rfl (by decide) ⟨⟨rfl, rfl⟩, by decide, rfl⟩ (Nat.le_of_ble_eq_true rfl) (Nat.le_of_ble_eq_true rfl) (s_170 (a1 := a2) (a2 := 0) hI_151 (show 0 ≤ a2 ∧ a2 ≤ 8 from by omega) (show 0 ≤ 0 ∧ 0 ≤ 999 from by omega) hW_154 (by omega) (by omega) (by omega) (fun c_156 hI_157 hF_158 hW_159 h_160 h_161 h_162 h_163 => ?_))
    refine bk_inl ?_
    have h_164 := ir_41_29 hI_157
    refine q_vret rfl rfl ?_
    have h_165 : c_156 41 4 = c_142 41 4 := ((hF_158 41 4 (by omega)).trans (up_n (by decide)))
    have h_166 : c_156 41 5 = c_142 41 5 := ((hF_158 41 5 (by omega)).trans (up_n (by decide)))
    have h_167 : c_156 41 7 = c_6 41 7 - 1 := ((hF_158 41 7 (by omega)).trans (up_e rfl))
    exact K c_156 hI_157 (fun a j hm => (hF_158 a j (by omega)).trans ((up_b (by omega)).trans ((hF_144 a j (by omega)).trans ((hF_133 a j (by omega)).trans ((hF_19 a j (by omega)).trans (hF_8 a j (by omega))))))) hW_159 (by omega) (by omega) (by omega) (by omega) (by omega)

