/-! ===== contracts 12 ===== -/
set_option maxRecDepth 100000 in
set_option maxHeartbeats 4000000 in
theorem s_160_l {sc : List Int32} {e : Int} {d u P Q : Nat} {c : ME} {a1 : Int} {a2 : Int} {Z : AR → Prop} (hI : Iv u e P Q c) (ha1 : 0 ≤ a1 ∧ a1 ≤ 1) (ha2 : (-1) ≤ a2 ∧ a2 ≤ 9999) (K : ∀ (c2 : ME) (y : Int), Iv u e P Q c2 → (∀ (a : Nat) (j : Int), ¬ ((a = 41 ∧ j = 4) ∨ (a = 41 ∧ j = 5) ∨ (a = 41 ∧ j = 6)) → c2 a j = c a j) → 0 ≤ y ∧ y ≤ 9999 → ((c2 41 4 ≥ c 41 4)) → ((c2 41 4 ≤ c 41 3) ∨ (c2 41 4 = c 41 4)) → ((y = 0) ∨ (y ≥ a1 ∧ y ≤ a2)) → ((c 41 5 = (-1)) ∨ (c2 41 5 = c 41 5)) → ((c2 41 5 < (-1)) ∨ (c2 41 5 > (-1)) ∨ (c2 41 4 > c 41 4 ∧ c2 41 4 ≤ c 41 3 ∧ c 41 5 = (-1))) → Z (.inl (some (vi y)), Wd P Q P P c2, 0, 0)) : ∀ n : Nat, (∀ (c2 : ME) (v3 : Int) (v4 : Int) (v5 : Int), Iv u e P Q c2 → (∀ (a : Nat) (j : Int), ¬ ((a = 41 ∧ j = 4) ∨ (a = 41 ∧ j = 5) ∨ (a = 41 ∧ j = 6)) → c2 a j = c a j) → (-2147483648) ≤ v3 ∧ v3 ≤ 2147483647 → 0 ≤ v4 ∧ v4 ≤ 605 → 0 ≤ v5 ∧ v5 ≤ 99999 → ((c2 41 4 ≥ c 41 4)) → ((c2 41 5 = (-1))) → ((c 41 5 = (-1))) → ((v4 ≥ c 41 4)) → ((c2 41 4 > v4 ∧ c2 41 4 ≤ c 41 3) ∨ (c2 41 4 = v4 ∧ c 43 (c2 41 4) ≥ 48 ∧ c 43 (c2 41 4) ≤ 57 ∧ c2 41 4 < c 41 3)) → 1211 - 2 * c2 41 4 < (n : Int) → Wp sc (d + 8) 160 41 [(0, .ref 41), (1, vi a1), (2, vi a2), (3, vi v3), (4, vi v4), (5, vi v5)] [] (Wd P Q P P c2) 0 0 Z)
  | 0 => by intro c2 v3 v4 v5 hI2 hF hv3 hv4 hv5 hx0 hx1 hx2 hx3 hx4 hm9; have hP := iv_P hI; have hQ := iv_Q hI; have h_73 := ir_41_4 hI2; exfalso; omega
  | n + 1 => by
    have hP := iv_P hI
    have hQ := iv_Q hI
    have ih := s_160_l (sc := sc) (d := d) hI ha1 ha2 K n
    intro c2 v3 v4 v5 hI2 hF hv3 hv4 hv5 hx0 hx1 hx2 hx3 hx4 hm9
    have h_1 := ir_41_4 hI
    have h_2 := ir_41_4 hI2
    have h_3 := ir_41_5 hI2
    have h_4 := ir_41_5 hI
    have h_5 := ir_41_3 hI
    have h_6 := ir_43 hI (c2 41 4)
    refine q_aload_n rfl rfl ?_
    refine v_gi (z := 4) (v := c2 41 4) rfl rfl rfl (by decide) rfl rfl rfl ?_
    refine q_aload_n rfl rfl ?_
    have kn_7 : Hid (c2 41 3 = c 41 3) := hF 41 3 (fun q => q.elim (fun h => absurd h.2 (ni rfl)) (fun q => q.elim (fun h => absurd h.2 (ni rfl)) (fun h => absurd h.2 (ni rfl))))
    refine v_gi (z := 3) (v := c 41 3) rfl rfl rfl (by decide) rfl rfl (hid kn_7) ?_
    by_cases h_8 : c2 41 4 ≥ c 41 3
    · refine v_ic_ge_t (t := 114) rfl (by decide) ⟨(Int.le_trans (by decide) h_5.1), h_8, (Int.le_trans h_2.2 (by decide))⟩ ?_
      refine q_iload rfl rfl ?_
      refine q_iload_n rfl rfl ?_
      by_cases h_9 : v5 < a1
      · refine v_ic_lt_t (t := 126) rfl (by decide) ⟨(Int.le_trans (by decide) hv5.1), h_9, (Int.le_trans ha1.2 (by decide))⟩ ?_
        refine q_aload_n rfl rfl ?_
        refine q_iconst rfl ?_
        refine q_iload rfl rfl ?_
        refine v_cv rfl rfl rfl rfl (by decide) ⟨⟨rfl, rfl⟩, by decide, rfl⟩ (Nat.le_of_ble_eq_true rfl) (Nat.le_of_ble_eq_true rfl) (s_153 (a1 := 2) (a2 := v4) hI2 (show 1 ≤ 2 ∧ 2 ≤ 3 from ⟨by decide, by decide⟩) (show 0 ≤ v4 ∧ v4 ≤ 605 from hv4) (fun c_10 hI_11 hF_12 h_13 => ?_))
        refine bk_inl ?_
        have h_14 := ir_41_5 hI_11
        refine q_iconst rfl ?_
        refine q_iret rfl rfl ?_
        have kn_15 : Hid (c_10 41 4 = c2 41 4) := hF_12 41 4 (fun q => q.elim (fun h => absurd h.2 (ni rfl)) (fun h => absurd h.2 (ni rfl)))
        have h_16 : c_10 41 4 = c2 41 4 := (hid kn_15)
        exact K c_10 0 hI_11 (fun a j hm => (hF_12 a j (fun q => q.elim (fun h => hm (Or.inr (Or.inl h))) (fun h => hm (Or.inr (Or.inr h))))).trans (hF a j (fun q => q.elim (fun h => hm (Or.inl h)) (fun q => q.elim (fun h => hm (Or.inr (Or.inl h))) (fun h => hm (Or.inr (Or.inr h))))))) ⟨by decide, by decide⟩ (by omega) (Or.inl (by omega)) (Or.inl (by omega)) (Or.inl (by omega)) (Or.inr (Or.inl (by omega)))
      · refine v_ic_lt_f (t := 126) rfl (by decide) ⟨(Int.le_trans (by decide) ha1.1), (Int.not_lt.mp h_9), (Int.le_trans hv5.2 (by decide))⟩ ?_
        refine q_iload rfl rfl ?_
        refine q_iload_n rfl rfl ?_
        by_cases h_17 : v5 ≤ a2
        · refine v_ic_le_t (t := 135) rfl (by decide) ⟨(Int.le_trans (by decide) hv5.1), h_17, (Int.le_trans ha2.2 (by decide))⟩ ?_
          refine q_iload rfl rfl ?_
          refine q_iret rfl rfl ?_
          exact K c2 v5 hI2 (fun a j hm => hF a j (fun q => q.elim (fun h => hm (Or.inl h)) (fun q => q.elim (fun h => hm (Or.inr (Or.inl h))) (fun h => hm (Or.inr (Or.inr h)))))) ⟨hv5.1, by omega⟩ (by omega) (Or.inl (by omega)) (Or.inr ⟨by omega, by omega⟩) (Or.inl (by omega)) (Or.inr (Or.inr ⟨by omega, by omega, by omega⟩))
        · refine v_ic_le_f (t := 135) rfl (by decide) ⟨(Int.le_trans (by decide) ha2.1), (Int.not_le.mp h_17), (Int.le_trans hv5.2 (by decide))⟩ ?_
          refine q_aload_n rfl rfl ?_
          refine q_iconst rfl ?_
          refine q_iload rfl rfl ?_
          refine v_cv rfl rfl rfl rfl (by decide) ⟨⟨rfl, rfl⟩, by decide, rfl⟩ (Nat.le_of_ble_eq_true rfl) (Nat.le_of_ble_eq_true rfl) (s_153 (a1 := 2) (a2 := v4) hI2 (show 1 ≤ 2 ∧ 2 ≤ 3 from ⟨by decide, by decide⟩) (show 0 ≤ v4 ∧ v4 ≤ 605 from hv4) (fun c_18 hI_19 hF_20 h_21 => ?_))
          refine bk_inl ?_
          have h_22 := ir_41_5 hI_19
          refine q_iconst rfl ?_
          refine q_iret rfl rfl ?_
          have kn_23 : Hid (c_18 41 4 = c2 41 4) := hF_20 41 4 (fun q => q.elim (fun h => absurd h.2 (ni rfl)) (fun h => absurd h.2 (ni rfl)))
          have h_24 : c_18 41 4 = c2 41 4 := (hid kn_23)
          exact K c_18 0 hI_19 (fun a j hm => (hF_20 a j (fun q => q.elim (fun h => hm (Or.inr (Or.inl h))) (fun h => hm (Or.inr (Or.inr h))))).trans (hF a j (fun q => q.elim (fun h => hm (Or.inl h)) (fun q => q.elim (fun h => hm (Or.inr (Or.inl h))) (fun h => hm (Or.inr (Or.inr h))))))) ⟨by decide, by decide⟩ (by omega) (Or.inl (by omega)) (Or.inl (by omega)) (Or.inl (by omega)) (Or.inr (Or.inl (by omega)))
    · refine v_ic_ge_f (t := 114) rfl (by decide) ⟨(Int.le_trans (by decide) h_2.1), (Int.not_le.mp h_8), (Int.le_trans h_5.2 (by decide))⟩ ?_
      refine q_aload_n rfl rfl ?_
      refine v_gr (t := 43) rfl rfl rfl (by decide) rfl ?_
      refine q_aload_n rfl rfl ?_
      refine v_gi (z := 4) (v := c2 41 4) rfl rfl rfl (by decide) rfl rfl rfl ?_
      have kn_25 : Hid (c2 43 (c2 41 4) = c 43 (c2 41 4)) := hF 43 (c2 41 4) (fun q => q.elim (fun h => absurd h.1 (nn rfl)) (fun q => q.elim (fun h => absurd h.1 (nn rfl)) (fun h => absurd h.1 (nn rfl))))
      refine v_ia (v := c 43 (c2 41 4)) rfl rfl (by decide) (by decide) (by omega) (hid kn_25) ?_
      refine q_call rfl rfl rfl rfl ?_
      refine q_iload_n rfl rfl ?_
      refine v_bip rfl (by decide) ?_
      by_cases h_26 : c 43 (c2 41 4) < 48
      · refine v_ic_lt_t (t := 16) rfl (by decide) ⟨h_6.1, h_26, by decide⟩ ?_
        refine q_iconst rfl ?_
        refine v_zret rfl rfl (by decide) ?_
        refine bk_inl ?_
        refine v_if_eq_t (t := 114) rfl (by decide) (by decide) ?_
        refine q_iload rfl rfl ?_
        refine q_iload_n rfl rfl ?_
        by_cases h_27 : v5 < a1
        · refine v_ic_lt_t (t := 126) rfl (by decide) ⟨(Int.le_trans (by decide) hv5.1), h_27, (Int.le_trans ha1.2 (by decide))⟩ ?_
          refine q_aload_n rfl rfl ?_
          refine q_iconst rfl ?_
          refine q_iload rfl rfl ?_
          refine v_cv rfl rfl rfl rfl (by decide) ⟨⟨rfl, rfl⟩, by decide, rfl⟩ (Nat.le_of_ble_eq_true rfl) (Nat.le_of_ble_eq_true rfl) (s_153 (a1 := 2) (a2 := v4) hI2 (show 1 ≤ 2 ∧ 2 ≤ 3 from ⟨by decide, by decide⟩) (show 0 ≤ v4 ∧ v4 ≤ 605 from hv4) (fun c_28 hI_29 hF_30 h_31 => ?_))
          refine bk_inl ?_
          have h_32 := ir_41_5 hI_29
          refine q_iconst rfl ?_
          refine q_iret rfl rfl ?_
          have kn_33 : Hid (c_28 41 4 = c2 41 4) := hF_30 41 4 (fun q => q.elim (fun h => absurd h.2 (ni rfl)) (fun h => absurd h.2 (ni rfl)))
          have h_34 : c_28 41 4 = c2 41 4 := (hid kn_33)
          exact K c_28 0 hI_29 (fun a j hm => (hF_30 a j (fun q => q.elim (fun h => hm (Or.inr (Or.inl h))) (fun h => hm (Or.inr (Or.inr h))))).trans (hF a j (fun q => q.elim (fun h => hm (Or.inl h)) (fun q => q.elim (fun h => hm (Or.inr (Or.inl h))) (fun h => hm (Or.inr (Or.inr h))))))) ⟨by decide, by decide⟩ (by omega) (Or.inl (by omega)) (Or.inl (by omega)) (Or.inl (by omega)) (Or.inr (Or.inl (by omega)))
        · refine v_ic_lt_f (t := 126) rfl (by decide) ⟨(Int.le_trans (by decide) ha1.1), (Int.not_lt.mp h_27), (Int.le_trans hv5.2 (by decide))⟩ ?_
          refine q_iload rfl rfl ?_
          refine q_iload_n rfl rfl ?_
          by_cases h_35 : v5 ≤ a2
          · refine v_ic_le_t (t := 135) rfl (by decide) ⟨(Int.le_trans (by decide) hv5.1), h_35, (Int.le_trans ha2.2 (by decide))⟩ ?_
            refine q_iload rfl rfl ?_
            refine q_iret rfl rfl ?_
            exact K c2 v5 hI2 (fun a j hm => hF a j (fun q => q.elim (fun h => hm (Or.inl h)) (fun q => q.elim (fun h => hm (Or.inr (Or.inl h))) (fun h => hm (Or.inr (Or.inr h)))))) ⟨hv5.1, by omega⟩ (by omega) (Or.inl (by omega)) (Or.inr ⟨by omega, by omega⟩) (Or.inl (by omega)) (Or.inr (Or.inr ⟨by omega, by omega, by omega⟩))
          · refine v_ic_le_f (t := 135) rfl (by decide) ⟨(Int.le_trans (by decide) ha2.1), (Int.not_le.mp h_35), (Int.le_trans hv5.2 (by decide))⟩ ?_
            refine q_aload_n rfl rfl ?_
            refine q_iconst rfl ?_
            refine q_iload rfl rfl ?_
            refine v_cv rfl rfl rfl rfl (by decide) ⟨⟨rfl, rfl⟩, by decide, rfl⟩ (Nat.le_of_ble_eq_true rfl) (Nat.le_of_ble_eq_true rfl) (s_153 (a1 := 2) (a2 := v4) hI2 (show 1 ≤ 2 ∧ 2 ≤ 3 from ⟨by decide, by decide⟩) (show 0 ≤ v4 ∧ v4 ≤ 605 from hv4) (fun c_36 hI_37 hF_38 h_39 => ?_))
            refine bk_inl ?_
            have h_40 := ir_41_5 hI_37
            refine q_iconst rfl ?_
            refine q_iret rfl rfl ?_
            have kn_41 : Hid (c_36 41 4 = c2 41 4) := hF_38 41 4 (fun q => q.elim (fun h => absurd h.2 (ni rfl)) (fun h => absurd h.2 (ni rfl)))
            have h_42 : c_36 41 4 = c2 41 4 := (hid kn_41)
            exact K c_36 0 hI_37 (fun a j hm => (hF_38 a j (fun q => q.elim (fun h => hm (Or.inr (Or.inl h))) (fun h => hm (Or.inr (Or.inr h))))).trans (hF a j (fun q => q.elim (fun h => hm (Or.inl h)) (fun q => q.elim (fun h => hm (Or.inr (Or.inl h))) (fun h => hm (Or.inr (Or.inr h))))))) ⟨by decide, by decide⟩ (by omega) (Or.inl (by omega)) (Or.inl (by omega)) (Or.inl (by omega)) (Or.inr (Or.inl (by omega)))
      · refine v_ic_lt_f (t := 16) rfl (by decide) ⟨by decide, (Int.not_lt.mp h_26), h_6.2⟩ ?_
        refine q_iload_n rfl rfl ?_
        refine v_bip rfl (by decide) ?_
        by_cases h_43 : c 43 (c2 41 4) > 57
        · refine v_ic_gt_t (t := 16) rfl (by decide) ⟨by decide, h_43, h_6.2⟩ ?_
          refine q_iconst rfl ?_
          refine v_zret rfl rfl (by decide) ?_
          refine bk_inl ?_
          refine v_if_eq_t (t := 114) rfl (by decide) (by decide) ?_
          refine q_iload rfl rfl ?_
          refine q_iload_n rfl rfl ?_
          by_cases h_44 : v5 < a1
          · refine v_ic_lt_t (t := 126) rfl (by decide) ⟨(Int.le_trans (by decide) hv5.1), h_44, (Int.le_trans ha1.2 (by decide))⟩ ?_
            refine q_aload_n rfl rfl ?_
            refine q_iconst rfl ?_
            refine q_iload rfl rfl ?_
            refine v_cv rfl rfl rfl rfl (by decide) ⟨⟨rfl, rfl⟩, by decide, rfl⟩ (Nat.le_of_ble_eq_true rfl) (Nat.le_of_ble_eq_true rfl) (s_153 (a1 := 2) (a2 := v4) hI2 (show 1 ≤ 2 ∧ 2 ≤ 3 from ⟨by decide, by decide⟩) (show 0 ≤ v4 ∧ v4 ≤ 605 from hv4) (fun c_45 hI_46 hF_47 h_48 => ?_))
            refine bk_inl ?_
            have h_49 := ir_41_5 hI_46
            refine q_iconst rfl ?_
            refine q_iret rfl rfl ?_
            have kn_50 : Hid (c_45 41 4 = c2 41 4) := hF_47 41 4 (fun q => q.elim (fun h => absurd h.2 (ni rfl)) (fun h => absurd h.2 (ni rfl)))
            have h_51 : c_45 41 4 = c2 41 4 := (hid kn_50)
            exact K c_45 0 hI_46 (fun a j hm => (hF_47 a j (fun q => q.elim (fun h => hm (Or.inr (Or.inl h))) (fun h => hm (Or.inr (Or.inr h))))).trans (hF a j (fun q => q.elim (fun h => hm (Or.inl h)) (fun q => q.elim (fun h => hm (Or.inr (Or.inl h))) (fun h => hm (Or.inr (Or.inr h))))))) ⟨by decide, by decide⟩ (by omega) (Or.inl (by omega)) (Or.inl (by omega)) (Or.inl (by omega)) (Or.inr (Or.inl (by omega)))
          · refine v_ic_lt_f (t := 126) rfl (by decide) ⟨(Int.le_trans (by decide) ha1.1), (Int.not_lt.mp h_44), (Int.le_trans hv5.2 (by decide))⟩ ?_
            refine q_iload rfl rfl ?_
            refine q_iload_n rfl rfl ?_
            by_cases h_52 : v5 ≤ a2
            · refine v_ic_le_t (t := 135) rfl (by decide) ⟨(Int.le_trans (by decide) hv5.1), h_52, (Int.le_trans ha2.2 (by decide))⟩ ?_
              refine q_iload rfl rfl ?_
              refine q_iret rfl rfl ?_
              exact K c2 v5 hI2 (fun a j hm => hF a j (fun q => q.elim (fun h => hm (Or.inl h)) (fun q => q.elim (fun h => hm (Or.inr (Or.inl h))) (fun h => hm (Or.inr (Or.inr h)))))) ⟨hv5.1, by omega⟩ (by omega) (Or.inl (by omega)) (Or.inr ⟨by omega, by omega⟩) (Or.inl (by omega)) (Or.inr (Or.inr ⟨by omega, by omega, by omega⟩))
            · refine v_ic_le_f (t := 135) rfl (by decide) ⟨(Int.le_trans (by decide) ha2.1), (Int.not_le.mp h_52), (Int.le_trans hv5.2 (by decide))⟩ ?_
              refine q_aload_n rfl rfl ?_
              refine q_iconst rfl ?_
              refine q_iload rfl rfl ?_
              refine v_cv rfl rfl rfl rfl (by decide) ⟨⟨rfl, rfl⟩, by decide, rfl⟩ (Nat.le_of_ble_eq_true rfl) (Nat.le_of_ble_eq_true rfl) (s_153 (a1 := 2) (a2 := v4) hI2 (show 1 ≤ 2 ∧ 2 ≤ 3 from ⟨by decide, by decide⟩) (show 0 ≤ v4 ∧ v4 ≤ 605 from hv4) (fun c_53 hI_54 hF_55 h_56 => ?_))
              refine bk_inl ?_
              have h_57 := ir_41_5 hI_54
              refine q_iconst rfl ?_
              refine q_iret rfl rfl ?_
              have kn_58 : Hid (c_53 41 4 = c2 41 4) := hF_55 41 4 (fun q => q.elim (fun h => absurd h.2 (ni rfl)) (fun h => absurd h.2 (ni rfl)))
              have h_59 : c_53 41 4 = c2 41 4 := (hid kn_58)
              exact K c_53 0 hI_54 (fun a j hm => (hF_55 a j (fun q => q.elim (fun h => hm (Or.inr (Or.inl h))) (fun h => hm (Or.inr (Or.inr h))))).trans (hF a j (fun q => q.elim (fun h => hm (Or.inl h)) (fun q => q.elim (fun h => hm (Or.inr (Or.inl h))) (fun h => hm (Or.inr (Or.inr h))))))) ⟨by decide, by decide⟩ (by omega) (Or.inl (by omega)) (Or.inl (by omega)) (Or.inl (by omega)) (Or.inr (Or.inl (by omega)))
        · refine v_ic_gt_f (t := 16) rfl (by decide) ⟨h_6.1, (Int.not_lt.mp h_43), by decide⟩ ?_
          refine q_iconst rfl ?_
          refine q_goto (t := 17) rfl (by decide) ?_
          refine v_zret rfl rfl (by decide) ?_
          refine bk_inl ?_
          refine v_if_eq_f (t := 114) rfl (by decide) (by decide) ?_
          refine q_iload rfl rfl ?_
          refine v_sip rfl (by decide) ?_
          by_cases h_60 : v5 ≤ 9999
          · refine v_ic_le_t (t := 81) rfl (by decide) ⟨(Int.le_trans (by decide) hv5.1), h_60, by decide⟩ ?_
            refine v_bip rfl (by decide) ?_
            refine q_iload rfl rfl ?_
            refine v_imul (v := 10 * v5) rfl rfl ?_
            refine q_aload_n rfl rfl ?_
            refine v_gr (t := 43) rfl rfl rfl (by decide) rfl ?_
            refine q_aload_n rfl rfl ?_
            refine v_gi (z := 4) (v := c2 41 4) rfl rfl rfl (by decide) rfl rfl rfl ?_
            refine v_ia (v := c 43 (c2 41 4)) rfl rfl (by decide) (by decide) (by omega) (hid kn_25) ?_
            refine v_iadd (v := c 43 (c2 41 4) + 10 * v5) rfl (by omega) ?_
            refine v_bip rfl (by decide) ?_
            refine v_isub (v := c 43 (c2 41 4) + 10 * v5 - 48) rfl rfl ?_
            refine q_istore rfl (by decide) ?_
            refine q_aload_n rfl rfl ?_
            refine q_dup rfl rfl ?_
            refine v_gi (z := 4) (v := c2 41 4) rfl rfl rfl (by decide) rfl rfl rfl ?_
            refine q_iconst rfl ?_
            refine v_iadd (v := c2 41 4 + 1) rfl rfl ?_
            refine v_pi (z := 4) rfl rfl rfl (by decide) rfl rfl rfl (by decide) ?_
            refine q_goto (t := 41) rfl (by decide) ?_
            have hI_61 := iw_41_4 (v := c2 41 4 + 1) hI2 ⟨by first | exact rgp_l h_2.1 (by decide) | omega, by omega⟩
            refine Wp_ls [(0, .ref 41), (1, vi a1), (2, vi a2), (3, vi v3), (4, vi v4), (5, vi (c 43 (c2 41 4) + 10 * v5 - 48))] (lsub_cons rfl (lsub_cons rfl (lsub_cons rfl (lsub_cons rfl (lsub_cons rfl (lsub_cons rfl lsub_nil)))))) ?_
            have h_62 : (up c2 41 4 (c2 41 4 + 1)) 41 4 = c2 41 4 + 1 := (up_e rfl)
            have h_63 := ir_43 hI (c2 41 4 + 1)
            have h_64 : c 43 (((up c2 41 4 (c2 41 4 + 1)) 41 4)) = c 43 (c2 41 4 + 1) := congrArg (c 43) (by omega)
            have h_65 : (up c2 41 4 (c2 41 4 + 1)) 41 4 = c2 41 4 + 1 := (up_e rfl)
            have h_66 : (up c2 41 4 (c2 41 4 + 1)) 41 5 = c2 41 5 := (up_n (by decide))
            exact ih (up c2 41 4 (c2 41 4 + 1)) v3 v4 (c 43 (c2 41 4) + 10 * v5 - 48) hI_61 (fun a j hm => (up_b (Decidable.or_iff_not_imp_left.mpr (fun h1 h2 => hm (Or.inl ⟨Decidable.not_not.mp h1, h2⟩)))).trans (hF a j (fun q => q.elim (fun h => hm (Or.inl h)) (fun q => q.elim (fun h => hm (Or.inr (Or.inl h))) (fun h => hm (Or.inr (Or.inr h))))))) hv3 hv4 ⟨by omega, by omega⟩ (by omega) (by omega) (by omega) (by omega) (Or.inl ⟨by omega, by omega⟩) (by omega)
          · refine v_ic_le_f (t := 81) rfl (by decide) ⟨by decide, (Int.not_le.mp h_60), (Int.le_trans hv5.2 (by decide))⟩ ?_
            refine v_sip rfl (by decide) ?_
            refine q_goto (t := 99) rfl (by decide) ?_
            refine q_istore rfl (by decide) ?_
            refine q_aload_n rfl rfl ?_
            refine q_dup rfl rfl ?_
            refine v_gi (z := 4) (v := c2 41 4) rfl rfl rfl (by decide) rfl rfl rfl ?_
            refine q_iconst rfl ?_
            refine v_iadd (v := c2 41 4 + 1) rfl rfl ?_
            refine v_pi (z := 4) rfl rfl rfl (by decide) rfl rfl rfl (by decide) ?_
            refine q_goto (t := 41) rfl (by decide) ?_
            have hI_67 := iw_41_4 (v := c2 41 4 + 1) hI2 ⟨by first | exact rgp_l h_2.1 (by decide) | omega, by omega⟩
            refine Wp_ls [(0, .ref 41), (1, vi a1), (2, vi a2), (3, vi v3), (4, vi v4), (5, vi 10000)] (lsub_cons rfl (lsub_cons rfl (lsub_cons rfl (lsub_cons rfl (lsub_cons rfl (lsub_cons rfl lsub_nil)))))) ?_
            have h_68 : (up c2 41 4 (c2 41 4 + 1)) 41 4 = c2 41 4 + 1 := (up_e rfl)
            have h_69 := ir_43 hI (c2 41 4 + 1)
            have h_70 : c 43 (((up c2 41 4 (c2 41 4 + 1)) 41 4)) = c 43 (c2 41 4 + 1) := congrArg (c 43) (by omega)
            have h_71 : (up c2 41 4 (c2 41 4 + 1)) 41 4 = c2 41 4 + 1 := (up_e rfl)
            have h_72 : (up c2 41 4 (c2 41 4 + 1)) 41 5 = c2 41 5 := (up_n (by decide))
            exact ih (up c2 41 4 (c2 41 4 + 1)) v3 v4 10000 hI_67 (fun a j hm => (up_b (Decidable.or_iff_not_imp_left.mpr (fun h1 h2 => hm (Or.inl ⟨Decidable.not_not.mp h1, h2⟩)))).trans (hF a j (fun q => q.elim (fun h => hm (Or.inl h)) (fun q => q.elim (fun h => hm (Or.inr (Or.inl h))) (fun h => hm (Or.inr (Or.inr h))))))) hv3 hv4 ⟨by decide, by decide⟩ (by omega) (by omega) (by omega) (by omega) (Or.inl ⟨by omega, by omega⟩) (by omega)
set_option maxRecDepth 100000 in
set_option maxHeartbeats 4000000 in
theorem s_160 {sc : List Int32} {e : Int} {d u P Q : Nat} {c : ME} {a1 : Int} {a2 : Int} {Z : AR → Prop} (hI : Iv u e P Q c) (ha1 : 0 ≤ a1 ∧ a1 ≤ 1) (ha2 : (-1) ≤ a2 ∧ a2 ≤ 9999) (K : ∀ (c2 : ME) (y : Int), Iv u e P Q c2 → (∀ (a : Nat) (j : Int), ¬ ((a = 41 ∧ j = 4) ∨ (a = 41 ∧ j = 5) ∨ (a = 41 ∧ j = 6)) → c2 a j = c a j) → 0 ≤ y ∧ y ≤ 9999 → ((c2 41 4 ≥ c 41 4)) → ((c2 41 4 ≤ c 41 3) ∨ (c2 41 4 = c 41 4)) → ((y = 0) ∨ (y ≥ a1 ∧ y ≤ a2)) → ((c 41 5 = (-1)) ∨ (c2 41 5 = c 41 5)) → ((c2 41 5 < (-1)) ∨ (c2 41 5 > (-1)) ∨ (c2 41 4 > c 41 4 ∧ c2 41 4 ≤ c 41 3 ∧ c 41 5 = (-1))) → Z (.inl (some (vi y)), Wd P Q P P c2, 0, 0)) : Wp sc (d + 8) 160 0 [(0, .ref 41), (1, vi a1), (2, vi a2)] [] (Wd P Q P P c) 0 0 Z := by
  have hP := iv_P hI
  have hQ := iv_Q hI
  refine q_aload_n rfl rfl ?_
  refine v_cv rfl rfl rfl rfl (by decide) ⟨⟨rfl, rfl⟩, by decide, rfl⟩ (Nat.le_of_ble_eq_true rfl) (Nat.le_of_ble_eq_true rfl) ?_
  refine q_aload_n rfl rfl ?_
  have h_74 := ir_41_5 hI
  refine v_gi (z := 5) (v := c 41 5) rfl rfl rfl (by decide) rfl rfl rfl ?_
  refine q_iconst rfl ?_
  by_cases h_75 : c 41 5 ≠ (-1)
  · refine v_ic_ne_t (t := 12) rfl (by decide) ⟨h_75, ⟨(Int.le_trans (by decide) h_74.1), (Int.le_trans h_74.2 (by decide))⟩, by decide, by decide⟩ ?_
    refine q_iconst rfl ?_
    refine v_zret rfl rfl (by decide) ?_
    refine bk_inl ?_
    refine v_if_ne_f (t := 9) rfl (by decide) (by decide) ?_
    refine q_iconst rfl ?_
    refine q_iret rfl rfl ?_
    have h_76 := ir_41_4 hI
    exact K c 0 hI (fun a j hm => rfl) ⟨by decide, by decide⟩ (by omega) (Or.inr (by omega)) (Or.inl (by omega)) (Or.inr (by omega)) (Or.inr (Or.inl (by omega)))
  · refine v_ic_ne_f (t := 12) rfl (by decide) (Decidable.not_not.mp h_75) ?_
    refine q_iconst rfl ?_
    refine q_goto (t := 13) rfl (by decide) ?_
    refine v_zret rfl rfl (by decide) ?_
    refine bk_inl ?_
    refine v_if_ne_t (t := 9) rfl (by decide) (by decide) ?_
    refine q_aload_n rfl rfl ?_
    have h_77 := ir_41_4 hI
    have h_78 := ir_41_3 hI
    refine v_cv rfl rfl rfl rfl (by decide) ⟨⟨rfl, rfl⟩, by decide, rfl⟩ (Nat.le_of_ble_eq_true rfl) (Nat.le_of_ble_eq_true rfl) (s_154 hI (fun c_79 y_82 hI_80 hF_81 hy_82 h_83 h_84 h_85 h_86 => ?_))
    refine bk_inl ?_
    have h_87 := ir_41_4 hI_80
    have h_88 := ir_43 hI (c_79 41 4)
    refine q_istore_n rfl (by decide) ?_
    refine q_aload_n rfl rfl ?_
    refine v_gi (z := 4) (v := c_79 41 4) rfl rfl rfl (by decide) rfl rfl rfl ?_
    refine q_istore rfl (by decide) ?_
    refine q_iconst rfl ?_
    refine q_istore rfl (by decide) ?_
    refine q_iload_n rfl rfl ?_
    refine q_call rfl rfl rfl rfl ?_
    refine q_iload_n rfl rfl ?_
    refine v_bip rfl (by decide) ?_
    by_cases h_89 : y_82 < 48
    · refine v_ic_lt_t (t := 16) rfl (by decide) ⟨hy_82.1, h_89, by decide⟩ ?_
      refine q_iconst rfl ?_
      refine v_zret rfl rfl (by decide) ?_
      refine bk_inl ?_
      refine v_if_ne_f (t := 41) rfl (by decide) (by decide) ?_
      refine q_aload_n rfl rfl ?_
      refine q_iconst rfl ?_
      refine q_aload_n rfl rfl ?_
      refine v_gi (z := 4) (v := c_79 41 4) rfl rfl rfl (by decide) rfl rfl rfl ?_
      refine v_cv rfl rfl rfl rfl (by decide) ⟨⟨rfl, rfl⟩, by decide, rfl⟩ (Nat.le_of_ble_eq_true rfl) (Nat.le_of_ble_eq_true rfl) (s_153 (a1 := 1) (a2 := c_79 41 4) hI_80 (show 1 ≤ 1 ∧ 1 ≤ 3 from ⟨by decide, by decide⟩) (show 0 ≤ c_79 41 4 ∧ c_79 41 4 ≤ 605 from h_87) (fun c_90 hI_91 hF_92 h_93 => ?_))
      refine bk_inl ?_
      have h_94 := ir_41_5 hI_91
      refine q_iconst rfl ?_
      refine q_iret rfl rfl ?_
      have kn_95 : Hid (c_90 41 4 = c_79 41 4) := hF_92 41 4 (fun q => q.elim (fun h => absurd h.2 (ni rfl)) (fun h => absurd h.2 (ni rfl)))
      have h_96 : c_90 41 4 = c_79 41 4 := (hid kn_95)
      exact K c_90 0 hI_91 (fun a j hm => (hF_92 a j (fun q => q.elim (fun h => hm (Or.inr (Or.inl h))) (fun h => hm (Or.inr (Or.inr h))))).trans (hF_81 a j (fun h => hm (Or.inl h)))) ⟨by decide, by decide⟩ (by omega) (by omega) (Or.inl (by omega)) (Or.inl (by omega)) (Or.inr (Or.inl (by omega)))
    · refine v_ic_lt_f (t := 16) rfl (by decide) ⟨by decide, (Int.not_lt.mp h_89), hy_82.2⟩ ?_
      refine q_iload_n rfl rfl ?_
      refine v_bip rfl (by decide) ?_
      by_cases h_97 : y_82 > 57
      · refine v_ic_gt_t (t := 16) rfl (by decide) ⟨by decide, h_97, hy_82.2⟩ ?_
        refine q_iconst rfl ?_
        refine v_zret rfl rfl (by decide) ?_
        refine bk_inl ?_
        refine v_if_ne_f (t := 41) rfl (by decide) (by decide) ?_
        refine q_aload_n rfl rfl ?_
        refine q_iconst rfl ?_
        refine q_aload_n rfl rfl ?_
        refine v_gi (z := 4) (v := c_79 41 4) rfl rfl rfl (by decide) rfl rfl rfl ?_
        refine v_cv rfl rfl rfl rfl (by decide) ⟨⟨rfl, rfl⟩, by decide, rfl⟩ (Nat.le_of_ble_eq_true rfl) (Nat.le_of_ble_eq_true rfl) (s_153 (a1 := 1) (a2 := c_79 41 4) hI_80 (show 1 ≤ 1 ∧ 1 ≤ 3 from ⟨by decide, by decide⟩) (show 0 ≤ c_79 41 4 ∧ c_79 41 4 ≤ 605 from h_87) (fun c_98 hI_99 hF_100 h_101 => ?_))
        refine bk_inl ?_
        have h_102 := ir_41_5 hI_99
        refine q_iconst rfl ?_
        refine q_iret rfl rfl ?_
        have kn_103 : Hid (c_98 41 4 = c_79 41 4) := hF_100 41 4 (fun q => q.elim (fun h => absurd h.2 (ni rfl)) (fun h => absurd h.2 (ni rfl)))
        have h_104 : c_98 41 4 = c_79 41 4 := (hid kn_103)
        exact K c_98 0 hI_99 (fun a j hm => (hF_100 a j (fun q => q.elim (fun h => hm (Or.inr (Or.inl h))) (fun h => hm (Or.inr (Or.inr h))))).trans (hF_81 a j (fun h => hm (Or.inl h)))) ⟨by decide, by decide⟩ (by omega) (Or.inl (by omega)) (Or.inl (by omega)) (Or.inl (by omega)) (Or.inr (Or.inl (by omega)))
      · refine v_ic_gt_f (t := 16) rfl (by decide) ⟨hy_82.1, (Int.not_lt.mp h_97), by decide⟩ ?_
        refine q_iconst rfl ?_
        refine q_goto (t := 17) rfl (by decide) ?_
        refine v_zret rfl rfl (by decide) ?_
        refine bk_inl ?_
        refine v_if_ne_t (t := 41) rfl (by decide) (by decide) ?_
        refine Wp_ls [(0, .ref 41), (1, vi a1), (2, vi a2), (3, vi y_82), (4, vi (c_79 41 4)), (5, vi 0)] (lsub_cons rfl (lsub_cons rfl (lsub_cons rfl (lsub_cons rfl (lsub_cons rfl (lsub_cons rfl lsub_nil)))))) ?_
        have h_105 : c 43 ((c_79 41 4)) = c 43 (c_79 41 4) := congrArg (c 43) (by omega)
        have kn_106 : Hid (c_79 41 5 = c 41 5) := hF_81 41 5 (fun h => absurd h.2 (ni rfl))
        have h_107 : c_79 41 5 = c 41 5 := (hid kn_106)
        exact (s_160_l (sc := sc) (d := d) hI ha1 ha2 K 1214) c_79 y_82 (c_79 41 4) 0 hI_80 (fun a j hm => hF_81 a j (fun h => hm (Or.inl h))) hy_82 h_87 ⟨by decide, by decide⟩ (by omega) (by omega) (by omega) (by omega) (Or.inr ⟨by omega, by omega, by omega, by omega⟩) (by omega)

set_option maxRecDepth 100000 in
set_option maxHeartbeats 4000000 in
theorem s_161 {sc : List Int32} {e : Int} {d u P Q : Nat} {c : ME} {a1 : Int} {Z : AR → Prop} (hI : Iv u e P Q c) (ha1 : 1 ≤ a1 ∧ a1 ≤ 255) (K : ∀ (c2 : ME), Iv u e P Q c2 → (∀ (a : Nat) (j : Int), ¬ ((a = 41 ∧ j = 4) ∨ (a = 41 ∧ j = 5) ∨ (a = 41 ∧ j = 6)) → c2 a j = c a j) → ((c2 41 4 ≥ c 41 4)) → ((c2 41 4 ≤ c 41 3) ∨ (c2 41 4 = c 41 4)) → ((c 41 5 = (-1)) ∨ (c2 41 5 = c 41 5)) → ((c2 41 5 < (-1)) ∨ (c2 41 5 > (-1)) ∨ (c2 41 4 > c 41 4 ∧ c2 41 4 ≤ c 41 3 ∧ c 41 5 = (-1))) → Z (.inl (none), Wd P Q P P c2, 0, 0)) : Wp sc (d + 8) 161 0 [(0, .ref 41), (1, vi a1)] [] (Wd P Q P P c) 0 0 Z := by
  have hP := iv_P hI
  have hQ := iv_Q hI
  refine q_aload_n rfl rfl ?_
  refine v_cv rfl rfl rfl rfl (by decide) ⟨⟨rfl, rfl⟩, by decide, rfl⟩ (Nat.le_of_ble_eq_true rfl) (Nat.le_of_ble_eq_true rfl) ?_
  refine q_aload_n rfl rfl ?_
  have h_1 := ir_41_5 hI
  refine v_gi (z := 5) (v := c 41 5) rfl rfl rfl (by decide) rfl rfl rfl ?_
  refine q_iconst rfl ?_
  by_cases h_2 : c 41 5 ≠ (-1)
  · refine v_ic_ne_t (t := 12) rfl (by decide) ⟨h_2, ⟨(Int.le_trans (by decide) h_1.1), (Int.le_trans h_1.2 (by decide))⟩, by decide, by decide⟩ ?_
    refine q_iconst rfl ?_
    refine v_zret rfl rfl (by decide) ?_
    refine bk_inl ?_
    refine v_if_eq_t (t := 24) rfl (by decide) (by decide) ?_
    refine q_aload_n rfl rfl ?_
    refine v_cv rfl rfl rfl rfl (by decide) ⟨⟨rfl, rfl⟩, by decide, rfl⟩ (Nat.le_of_ble_eq_true rfl) (Nat.le_of_ble_eq_true rfl) ?_
    refine q_aload_n rfl rfl ?_
    refine v_gi (z := 5) (v := c 41 5) rfl rfl rfl (by decide) rfl rfl rfl ?_
    refine q_iconst rfl ?_
    refine v_ic_ne_t (t := 12) rfl (by decide) ⟨by omega, ⟨(Int.le_trans (by decide) h_1.1), (Int.le_trans h_1.2 (by decide))⟩, by decide, by decide⟩ ?_
    refine q_iconst rfl ?_
    refine v_zret rfl rfl (by decide) ?_
    refine bk_inl ?_
    refine v_if_eq_t (t := 41) rfl (by decide) (by decide) ?_
    refine q_vret rfl rfl ?_
    have h_3 := ir_41_4 hI
    exact K c hI (fun a j hm => rfl) (by omega) (Or.inr (by omega)) (Or.inr (by omega)) (Or.inr (Or.inl (by omega)))
  · refine v_ic_ne_f (t := 12) rfl (by decide) (Decidable.not_not.mp h_2) ?_
    refine q_iconst rfl ?_
    refine q_goto (t := 13) rfl (by decide) ?_
    refine v_zret rfl rfl (by decide) ?_
    refine bk_inl ?_
    refine v_if_eq_f (t := 24) rfl (by decide) (by decide) ?_
    refine q_aload_n rfl rfl ?_
    have h_4 := ir_41_4 hI
    have h_5 := ir_41_3 hI
    refine v_cv rfl rfl rfl rfl (by decide) ⟨⟨rfl, rfl⟩, by decide, rfl⟩ (Nat.le_of_ble_eq_true rfl) (Nat.le_of_ble_eq_true rfl) (s_154 hI (fun c_6 y_9 hI_7 hF_8 hy_9 h_10 h_11 h_12 h_13 => ?_))
    refine bk_inl ?_
    have h_14 := ir_41_4 hI_7
    have h_15 := ir_43 hI (c_6 41 4)
    refine q_iload_n rfl rfl ?_
    by_cases h_16 : y_9 = a1
    · refine v_ic_eq_t (t := 24) rfl (by decide) h_16 ?_
      refine q_aload_n rfl rfl ?_
      refine v_cv rfl rfl rfl rfl (by decide) ⟨⟨rfl, rfl⟩, by decide, rfl⟩ (Nat.le_of_ble_eq_true rfl) (Nat.le_of_ble_eq_true rfl) ?_
      refine q_aload_n rfl rfl ?_
      have kn_17 : Hid (c_6 41 5 = c 41 5) := hF_8 41 5 (fun h => absurd h.2 (ni rfl))
      refine v_gi (z := 5) (v := c 41 5) rfl rfl rfl (by decide) rfl rfl (hid kn_17) ?_
      refine q_iconst rfl ?_
      refine v_ic_ne_f (t := 12) rfl (by decide) (by omega) ?_
      refine q_iconst rfl ?_
      refine q_goto (t := 13) rfl (by decide) ?_
      refine v_zret rfl rfl (by decide) ?_
      refine bk_inl ?_
      refine v_if_eq_f (t := 41) rfl (by decide) (by decide) ?_
      refine q_aload_n rfl rfl ?_
      refine q_dup rfl rfl ?_
      refine v_gi (z := 4) (v := c_6 41 4) rfl rfl rfl (by decide) rfl rfl rfl ?_
      refine q_iconst rfl ?_
      refine v_iadd (v := c_6 41 4 + 1) rfl rfl ?_
      refine v_pi (z := 4) rfl rfl rfl (by decide) rfl rfl rfl (by decide) ?_
      refine q_vret rfl rfl ?_
      have hI_18 := iw_41_4 (v := c_6 41 4 + 1) hI_7 ⟨by first | exact rgp_l h_14.1 (by decide) | omega, by omega⟩
      have h_19 : (up c_6 41 4 (c_6 41 4 + 1)) 41 4 = c_6 41 4 + 1 := (up_e rfl)
      have h_20 : (up c_6 41 4 (c_6 41 4 + 1)) 41 5 = c 41 5 := ((up_n (by decide)).trans (hid kn_17))
      exact K (up c_6 41 4 (c_6 41 4 + 1)) hI_18 (fun a j hm => (up_b (Decidable.or_iff_not_imp_left.mpr (fun h1 h2 => hm (Or.inl ⟨Decidable.not_not.mp h1, h2⟩)))).trans (hF_8 a j (fun h => hm (Or.inl h)))) (by omega) (Or.inl (by omega)) (Or.inl (by omega)) (Or.inr (Or.inr ⟨by omega, by omega, by omega⟩))
    · refine v_ic_eq_f (t := 24) rfl (by decide) ⟨h_16, ⟨hy_9.1, hy_9.2⟩, (Int.le_trans (by decide) ha1.1), (Int.le_trans ha1.2 (by decide))⟩ ?_
      refine q_aload_n rfl rfl ?_
      refine q_iconst rfl ?_
      refine q_aload_n rfl rfl ?_
      refine v_gi (z := 4) (v := c_6 41 4) rfl rfl rfl (by decide) rfl rfl rfl ?_
      refine v_cv rfl rfl rfl rfl (by decide) ⟨⟨rfl, rfl⟩, by decide, rfl⟩ (Nat.le_of_ble_eq_true rfl) (Nat.le_of_ble_eq_true rfl) (s_153 (a1 := 1) (a2 := c_6 41 4) hI_7 (show 1 ≤ 1 ∧ 1 ≤ 3 from ⟨by decide, by decide⟩) (show 0 ≤ c_6 41 4 ∧ c_6 41 4 ≤ 605 from h_14) (fun c_21 hI_22 hF_23 h_24 => ?_))
      refine bk_inl ?_
      have h_25 := ir_41_5 hI_22
      refine q_aload_n rfl rfl ?_
      refine v_cv rfl rfl rfl rfl (by decide) ⟨⟨rfl, rfl⟩, by decide, rfl⟩ (Nat.le_of_ble_eq_true rfl) (Nat.le_of_ble_eq_true rfl) ?_
      refine q_aload_n rfl rfl ?_
      refine v_gi (z := 5) (v := c_21 41 5) rfl rfl rfl (by decide) rfl rfl rfl ?_
      refine q_iconst rfl ?_
      refine v_ic_ne_t (t := 12) rfl (by decide) ⟨by omega, ⟨(Int.le_trans (by decide) h_25.1), (Int.le_trans h_25.2 (by decide))⟩, by decide, by decide⟩ ?_
      refine q_iconst rfl ?_
      refine v_zret rfl rfl (by decide) ?_
      refine bk_inl ?_
      refine v_if_eq_t (t := 41) rfl (by decide) (by decide) ?_
      refine q_vret rfl rfl ?_
      have kn_26 : Hid (c_21 41 4 = c_6 41 4) := hF_23 41 4 (fun q => q.elim (fun h => absurd h.2 (ni rfl)) (fun h => absurd h.2 (ni rfl)))
      have h_27 : c_21 41 4 = c_6 41 4 := (hid kn_26)
      exact K c_21 hI_22 (fun a j hm => (hF_23 a j (fun q => q.elim (fun h => hm (Or.inr (Or.inl h))) (fun h => hm (Or.inr (Or.inr h))))).trans (hF_8 a j (fun h => hm (Or.inl h)))) (by omega) (by omega) (Or.inl (by omega)) (Or.inr (Or.inl (by omega)))

set_option maxRecDepth 100000 in
set_option maxHeartbeats 4000000 in
theorem s_162 {sc : List Int32} {e : Int} {d u P Q : Nat} {c : ME} {Z : AR → Prop} (hI : Iv u e P Q c)  (K : ∀ (c2 : ME) (y : Int), Iv u e P Q c2 → (∀ (a : Nat) (j : Int), ¬ ((a = 41 ∧ j = 4)) → c2 a j = c a j) → 0 ≤ y ∧ y ≤ 1 → ((c2 41 4 ≥ c 41 4)) → ((c2 41 4 ≤ c 41 3) ∨ (c2 41 4 = c 41 4)) → ((y = 0) ∨ (c2 41 4 < c 41 3)) → Z (.inl (some (vi y)), Wd P Q P P c2, 0, 0)) : Wp sc (d + 8) 162 0 [(0, .ref 41)] [] (Wd P Q P P c) 0 0 Z := by
  have hP := iv_P hI
  have hQ := iv_Q hI
  refine q_aload_n rfl rfl ?_
  have h_1 := ir_41_4 hI
  have h_2 := ir_41_3 hI
  refine v_cv rfl rfl rfl rfl (by decide) ⟨⟨rfl, rfl⟩, by decide, rfl⟩ (Nat.le_of_ble_eq_true rfl) (Nat.le_of_ble_eq_true rfl) (s_154 hI (fun c_3 y_6 hI_4 hF_5 hy_6 h_7 h_8 h_9 h_10 => ?_))
  refine bk_inl ?_
  have h_11 := ir_41_4 hI_4
  have h_12 := ir_43 hI (c_3 41 4)
  refine q_pop rfl rfl ?_
  refine q_aload_n rfl rfl ?_
  refine v_gi (z := 4) (v := c_3 41 4) rfl rfl rfl (by decide) rfl rfl rfl ?_
  refine q_aload_n rfl rfl ?_
  have kn_13 : Hid (c_3 41 3 = c 41 3) := hF_5 41 3 (fun h => absurd h.2 (ni rfl))
  refine v_gi (z := 3) (v := c 41 3) rfl rfl rfl (by decide) rfl rfl (hid kn_13) ?_
  by_cases h_14 : c_3 41 4 ≥ c 41 3
  · refine v_ic_ge_t (t := 20) rfl (by decide) ⟨(Int.le_trans (by decide) h_2.1), h_14, (Int.le_trans h_11.2 (by decide))⟩ ?_
    refine q_iconst rfl ?_
    refine v_zret rfl rfl (by decide) ?_
    exact K c_3 0 hI_4 (fun a j hm => hF_5 a j (fun h => hm h)) ⟨by decide, by decide⟩ (by omega) (by omega) (Or.inl (by omega))
  · refine v_ic_ge_f (t := 20) rfl (by decide) ⟨(Int.le_trans (by decide) h_11.1), (Int.not_le.mp h_14), (Int.le_trans h_2.2 (by decide))⟩ ?_
    refine q_iconst rfl ?_
    refine q_goto (t := 21) rfl (by decide) ?_
    refine v_zret rfl rfl (by decide) ?_
    exact K c_3 1 hI_4 (fun a j hm => hF_5 a j (fun h => hm h)) ⟨by decide, by decide⟩ (by omega) (Or.inl (by omega)) (Or.inr (by omega))

set_option maxRecDepth 100000 in
set_option maxHeartbeats 4000000 in
theorem s_163 {sc : List Int32} {e : Int} {d u P Q : Nat} {c : ME} {a1 : Int} {Z : AR → Prop} (hI : Iv u e P Q c) (ha1 : 0 ≤ a1 ∧ a1 ≤ 600) (K : ∀ (c2 : ME), Iv u e P Q c2 → (∀ (a : Nat) (j : Int), ¬ ((a = 41 ∧ j = 2) ∨ (a = 41 ∧ j = 3) ∨ (a = 41 ∧ j = 4) ∨ (a = 41 ∧ j = 5) ∨ (a = 41 ∧ j = 7) ∨ (a = 41 ∧ j = 8)) → c2 a j = c a j) → ((c2 41 3 = a1 ∧ c2 41 4 = 0 ∧ c2 41 5 = (-1) ∧ c2 41 7 = 0 ∧ c2 41 2 = 0)) → Z (.inl (none), Wd P Q P P c2, 0, 0)) : Wp sc (d + 7) 163 0 [(0, .ref 41), (1, vi a1)] [] (Wd P Q P P c) 0 0 Z := by
  have hP := iv_P hI
  have hQ := iv_Q hI
  refine q_aload_n rfl rfl ?_
  refine q_iconst rfl ?_
  refine v_pi (z := 2) rfl rfl rfl (by decide) rfl rfl rfl (by decide) ?_
  refine q_aload_n rfl rfl ?_
  refine q_iconst rfl ?_
  refine v_pi (z := 8) rfl rfl rfl (by decide) rfl rfl rfl (by decide) ?_
  refine q_aload_n rfl rfl ?_
  refine q_iload_n rfl rfl ?_
  refine v_pi (z := 3) rfl rfl rfl (by decide) rfl rfl rfl (by decide) ?_
  refine q_aload_n rfl rfl ?_
  refine q_iconst rfl ?_
  refine v_pi (z := 4) rfl rfl rfl (by decide) rfl rfl rfl (by decide) ?_
  refine q_aload_n rfl rfl ?_
  refine q_iconst rfl ?_
  refine v_pi (z := 5) rfl rfl rfl (by decide) rfl rfl rfl (by decide) ?_
  refine q_aload_n rfl rfl ?_
  refine q_iconst rfl ?_
  refine v_pi (z := 7) rfl rfl rfl (by decide) rfl rfl rfl (by decide) ?_
  refine q_vret rfl rfl ?_
  have hI_1 := iw_41_2 (v := 0) hI ⟨by decide, by decide⟩
  have hI_2 := iw_41_8 (v := (-1)) hI_1 ⟨by decide, by decide⟩
  have hI_3 := iw_41_3 (v := a1) hI_2 ⟨ha1.1, ha1.2⟩
  have hI_4 := iw_41_4 (v := 0) hI_3 ⟨by decide, by decide⟩
  have hI_5 := iw_41_5 (v := (-1)) hI_4 ⟨by decide, by decide⟩
  have hI_6 := iw_41_7 (v := 0) hI_5 ⟨by decide, by decide⟩
  have h_7 : (up (up (up (up (up (up c 41 2 0) 41 8 (-1)) 41 3 a1) 41 4 0) 41 5 (-1)) 41 7 0) 41 2 = 0 := ((up_n (by decide)).trans ((up_n (by decide)).trans ((up_n (by decide)).trans ((up_n (by decide)).trans ((up_n (by decide)).trans (up_e rfl))))))
  have h_8 : (up (up (up (up (up (up c 41 2 0) 41 8 (-1)) 41 3 a1) 41 4 0) 41 5 (-1)) 41 7 0) 41 3 = a1 := ((up_n (by decide)).trans ((up_n (by decide)).trans ((up_n (by decide)).trans (up_e rfl))))
  have h_9 : (up (up (up (up (up (up c 41 2 0) 41 8 (-1)) 41 3 a1) 41 4 0) 41 5 (-1)) 41 7 0) 41 4 = 0 := ((up_n (by decide)).trans ((up_n (by decide)).trans (up_e rfl)))
  have h_10 : (up (up (up (up (up (up c 41 2 0) 41 8 (-1)) 41 3 a1) 41 4 0) 41 5 (-1)) 41 7 0) 41 5 = (-1) := ((up_n (by decide)).trans (up_e rfl))
  have h_11 : (up (up (up (up (up (up c 41 2 0) 41 8 (-1)) 41 3 a1) 41 4 0) 41 5 (-1)) 41 7 0) 41 7 = 0 := (up_e rfl)
  exact K (up (up (up (up (up (up c 41 2 0) 41 8 (-1)) 41 3 a1) 41 4 0) 41 5 (-1)) 41 7 0) hI_6 (fun a j hm => (up_b (Decidable.or_iff_not_imp_left.mpr (fun h1 h2 => hm (Or.inr (Or.inr (Or.inr (Or.inr (Or.inl ⟨Decidable.not_not.mp h1, h2⟩)))))))).trans ((up_b (Decidable.or_iff_not_imp_left.mpr (fun h1 h2 => hm (Or.inr (Or.inr (Or.inr (Or.inl ⟨Decidable.not_not.mp h1, h2⟩))))))).trans ((up_b (Decidable.or_iff_not_imp_left.mpr (fun h1 h2 => hm (Or.inr (Or.inr (Or.inl ⟨Decidable.not_not.mp h1, h2⟩)))))).trans ((up_b (Decidable.or_iff_not_imp_left.mpr (fun h1 h2 => hm (Or.inr (Or.inl ⟨Decidable.not_not.mp h1, h2⟩))))).trans ((up_b (Decidable.or_iff_not_imp_left.mpr (fun h1 h2 => hm (Or.inr (Or.inr (Or.inr (Or.inr (Or.inr ⟨Decidable.not_not.mp h1, h2⟩)))))))).trans (up_b (Decidable.or_iff_not_imp_left.mpr (fun h1 h2 => hm (Or.inl ⟨Decidable.not_not.mp h1, h2⟩))))))))) ⟨by omega, by omega, by omega, by omega, by omega⟩

set_option maxRecDepth 100000 in
set_option maxHeartbeats 4000000 in
theorem s_164 {sc : List Int32} {e : Int} {d u P Q : Nat} {c : ME} {a1 : Int} {Z : AR → Prop} (hI : Iv u e P Q c) (ha1 : (-2147483648) ≤ a1 ∧ a1 ≤ 2147483647) (K : ∀ (c2 : ME) (y : Int), Iv u e P Q c2 → (∀ (a : Nat) (j : Int), ¬ ((a = 41 ∧ j = 8)) → c2 a j = c a j) → (-2147483648) ≤ y ∧ y ≤ 2147483647 → Z (.inl (some (vi y)), Wd P Q P P c2, 0, 0)) : Wp sc (d + 8) 164 0 [(0, .ref 41), (1, vi a1)] [] (Wd P Q P P c) 0 0 Z := by
  have hP := iv_P hI
  have hQ := iv_Q hI
  refine q_aload_n rfl rfl ?_
  refine q_aload_n rfl rfl ?_
  have h_1 := ir_41_5 hI
  refine v_gi (z := 5) (v := c 41 5) rfl rfl rfl (by decide) rfl rfl rfl ?_
  refine v_pi (z := 8) rfl rfl rfl (by decide) rfl rfl rfl (by decide) ?_
  refine q_aload_n rfl rfl ?_
  refine v_cv rfl rfl rfl rfl (by decide) ⟨⟨rfl, rfl⟩, by decide, rfl⟩ (Nat.le_of_ble_eq_true rfl) (Nat.le_of_ble_eq_true rfl) ?_
  refine q_aload_n rfl rfl ?_
  refine v_gi (z := 5) (v := c 41 5) rfl rfl rfl (by decide) rfl rfl (up_n (by decide)) ?_
  refine q_iconst rfl ?_
  by_cases h_2 : c 41 5 ≠ (-1)
  · refine v_ic_ne_t (t := 12) rfl (by decide) ⟨h_2, ⟨(Int.le_trans (by decide) h_1.1), (Int.le_trans h_1.2 (by decide))⟩, by decide, by decide⟩ ?_
    refine q_iconst rfl ?_
    refine v_zret rfl rfl (by decide) ?_
    refine bk_inl ?_
    refine v_if_eq_t (t := 19) rfl (by decide) (by decide) ?_
    refine q_aload_n rfl rfl ?_
    have h_3 := ir_41_6 hI
    refine v_gi (z := 6) (v := c 41 6) rfl rfl rfl (by decide) rfl rfl (up_n (by decide)) ?_
    refine v_bip rfl (by decide) ?_
    refine v_isub (v := c 41 6 - 10) rfl rfl ?_
    refine q_iret rfl rfl ?_
    have hI_4 := iw_41_8 (v := c 41 5) hI ⟨h_1.1, h_1.2⟩
    exact K (up c 41 8 (c 41 5)) (c 41 6 - 10) hI_4 (fun a j hm => up_b (Decidable.or_iff_not_imp_left.mpr (fun h1 h2 => hm ⟨Decidable.not_not.mp h1, h2⟩))) ⟨by first | exact rgm_l h_3.1 (by decide) | omega, by first | exact rgm_h h_3.2 (by decide) | omega⟩
  · refine v_ic_ne_f (t := 12) rfl (by decide) (Decidable.not_not.mp h_2) ?_
    refine q_iconst rfl ?_
    refine q_goto (t := 13) rfl (by decide) ?_
    refine v_zret rfl rfl (by decide) ?_
    refine bk_inl ?_
    refine v_if_eq_f (t := 19) rfl (by decide) (by decide) ?_
    refine q_iload_n rfl rfl ?_
    refine q_goto (t := 26) rfl (by decide) ?_
    refine q_iret rfl rfl ?_
    have hI_5 := iw_41_8 (v := c 41 5) hI ⟨h_1.1, h_1.2⟩
    exact K (up c 41 8 (c 41 5)) a1 hI_5 (fun a j hm => up_b (Decidable.or_iff_not_imp_left.mpr (fun h1 h2 => hm ⟨Decidable.not_not.mp h1, h2⟩))) ha1

set_option maxRecDepth 100000 in
set_option maxHeartbeats 4000000 in
theorem s_165 {sc : List Int32} {e : Int} {d u P Q : Nat} {c : ME} {Z : AR → Prop} (hI : Iv u e P Q c)  (K : ∀ (c2 : ME) (y : Int), Iv u e P Q c2 → (∀ (a : Nat) (j : Int), ¬ ((a = 41 ∧ j = 0)) → c2 a j = c a j) → (-1) ≤ y ∧ y ≤ 605 → Z (.inl (some (vi y)), Wd P Q P P c2, 0, 0)) : Wp sc (d + 7) 165 0 [(0, .ref 41)] [] (Wd P Q P P c) 0 0 Z := by
  have hP := iv_P hI
  have hQ := iv_Q hI
  refine q_aload_n rfl rfl ?_
  refine q_iconst rfl ?_
  refine v_pi (z := 0) rfl rfl rfl (by decide) rfl rfl rfl (by decide) ?_
  refine q_aload_n rfl rfl ?_
  have h_1 := ir_41_8 hI
  refine v_gi (z := 8) (v := c 41 8) rfl rfl rfl (by decide) rfl rfl (up_n (by decide)) ?_
  refine q_iret rfl rfl ?_
  have hI_2 := iw_41_0 (v := 0) hI ⟨by decide, by decide⟩
  exact K (up c 41 0 0) (c 41 8) hI_2 (fun a j hm => up_b (Decidable.or_iff_not_imp_left.mpr (fun h1 h2 => hm ⟨Decidable.not_not.mp h1, h2⟩))) h_1

set_option maxRecDepth 100000 in
set_option maxHeartbeats 4000000 in
theorem s_166 {sc : List Int32} {e : Int} {d u P Q : Nat} {c : ME} {a0 : Int} {Z : AR → Prop} (hI : Iv u e P Q c) (ha0 : (-2147483648) ≤ a0 ∧ a0 ≤ 2147483647) (K : ∀ (y : Int), 0 ≤ y ∧ y ≤ 1 → ((y = 0) ∨ (a0 > 0)) → Z (.inl (some (vi y)), Wd P Q P P c, 0, 0)) : Wp sc (d + 8) 166 0 [(0, vi a0)] [] (Wd P Q P P c) 0 0 Z := by
  have hP := iv_P hI
  have hQ := iv_Q hI
  refine q_iload_n rfl rfl ?_
  refine q_ldc_s rfl rfl rfl (by decide) ?_
  refine q_call rfl rfl rfl rfl (s_158_16 ?_)
  refine bk_inl ?_
  by_cases h_1 : a0 = 10290
  · refine v_ic_eq_t (t := 36) rfl (by decide) h_1 ?_
    refine q_iconst rfl ?_
    refine q_goto (t := 41) rfl (by decide) ?_
    refine v_zret rfl rfl (by decide) ?_
    exact K 1 ⟨by decide, by decide⟩ (Or.inr (by omega))
  · refine v_ic_eq_f (t := 36) rfl (by decide) ⟨h_1, ⟨ha0.1, ha0.2⟩, by decide, by decide⟩ ?_
    refine q_iload_n rfl rfl ?_
    refine q_ldc_s rfl rfl rfl (by decide) ?_
    refine q_call rfl rfl rfl rfl (s_158_17 ?_)
    refine bk_inl ?_
    by_cases h_2 : a0 = 20594117
    · refine v_ic_eq_t (t := 36) rfl (by decide) h_2 ?_
      refine q_iconst rfl ?_
      refine q_goto (t := 41) rfl (by decide) ?_
      refine v_zret rfl rfl (by decide) ?_
      exact K 1 ⟨by decide, by decide⟩ (Or.inr (by omega))
    · refine v_ic_eq_f (t := 36) rfl (by decide) ⟨h_2, ⟨ha0.1, ha0.2⟩, by decide, by decide⟩ ?_
      refine q_iload_n rfl rfl ?_
      refine q_ldc_s rfl rfl rfl (by decide) ?_
      refine q_call rfl rfl rfl rfl (s_158_18 ?_)
      refine bk_inl ?_
      by_cases h_3 : a0 = 20223685
      · refine v_ic_eq_t (t := 36) rfl (by decide) h_3 ?_
        refine q_iconst rfl ?_
        refine q_goto (t := 41) rfl (by decide) ?_
        refine v_zret rfl rfl (by decide) ?_
        exact K 1 ⟨by decide, by decide⟩ (Or.inr (by omega))
      · refine v_ic_eq_f (t := 36) rfl (by decide) ⟨h_3, ⟨ha0.1, ha0.2⟩, by decide, by decide⟩ ?_
        refine q_iload_n rfl rfl ?_
        refine q_ldc_s rfl rfl rfl (by decide) ?_
        refine q_call rfl rfl rfl rfl (s_158_19 ?_)
        refine bk_inl ?_
        by_cases h_4 : a0 ≠ 153204
        · refine v_ic_ne_t (t := 40) rfl (by decide) ⟨h_4, ⟨ha0.1, ha0.2⟩, by decide, by decide⟩ ?_
          refine q_iconst rfl ?_
          refine v_zret rfl rfl (by decide) ?_
          exact K 0 ⟨by decide, by decide⟩ (Or.inl (by omega))
        · refine v_ic_ne_f (t := 40) rfl (by decide) (Decidable.not_not.mp h_4) ?_
          refine q_iconst rfl ?_
          refine q_goto (t := 41) rfl (by decide) ?_
          refine v_zret rfl rfl (by decide) ?_
          exact K 1 ⟨by decide, by decide⟩ (Or.inr (by omega))

set_option maxRecDepth 100000 in
set_option maxHeartbeats 4000000 in
theorem s_168_l {sc : List Int32} {e : Int} {d u P Q : Nat} {c : ME} {a1 : Int} {Z : AR → Prop} (hI : Iv u e P Q c) (ha1 : (-2147483648) ≤ a1 ∧ a1 ≤ 2147483647) (hq0 : (a1 ≠ 10290) ∨ (c 41 16 ≤ 5)) (hq1 : (a1 ≠ 20594117) ∨ (c 41 17 ≤ 3)) (hq2 : (a1 ≠ 20223685) ∨ (c 41 18 ≤ 3)) (K : ∀ (c2 : ME), Iv u e P Q c2 → (∀ (a : Nat) (j : Int), ¬ ((a = 41 ∧ j = 4) ∨ (a = 41 ∧ j = 5) ∨ (a = 41 ∧ j = 6) ∨ (a = 41 ∧ j = 16) ∨ (a = 41 ∧ j = 17) ∨ (a = 41 ∧ j = 18) ∨ (a = 41 ∧ j = 19) ∨ a = 44 ∨ a = 45 ∨ a = 46) → c2 a j = c a j) → ((c2 41 4 ≥ c 41 4)) → Z (.inl (none), Wd P Q P P c2, 0, 0)) : ∀ n : Nat, (∀ (c2 : ME) (v2 : Int), Iv u e P Q c2 → (∀ (a : Nat) (j : Int), ¬ ((a = 41 ∧ j = 4) ∨ (a = 41 ∧ j = 5) ∨ (a = 41 ∧ j = 6) ∨ (a = 41 ∧ j = 16) ∨ (a = 41 ∧ j = 17) ∨ (a = 41 ∧ j = 18) ∨ (a = 41 ∧ j = 19) ∨ a = 44 ∨ a = 45 ∨ a = 46) → c2 a j = c a j) → 0 ≤ v2 ∧ v2 ≤ 4 → ((c2 41 16 ≤ 5)) → ((c2 41 4 ≥ c 41 4)) → 18 - 2 * v2 < (n : Int) → Wp sc (d + 9) 168 11 [(0, .ref 41), (1, vi a1), (2, vi v2)] [] (Wd P Q P P c2) 0 0 Z) ∧ (∀ (c2 : ME) (v2 : Int), Iv u e P Q c2 → (∀ (a : Nat) (j : Int), ¬ ((a = 41 ∧ j = 4) ∨ (a = 41 ∧ j = 5) ∨ (a = 41 ∧ j = 6) ∨ (a = 41 ∧ j = 16) ∨ (a = 41 ∧ j = 17) ∨ (a = 41 ∧ j = 18) ∨ (a = 41 ∧ j = 19) ∨ a = 44 ∨ a = 45 ∨ a = 46) → c2 a j = c a j) → 0 ≤ v2 ∧ v2 ≤ 3 → ((c2 41 17 ≤ 3)) → ((c2 41 4 ≥ c 41 4)) → 7 - 2 * v2 < (n : Int) → Wp sc (d + 9) 168 67 [(0, .ref 41), (1, vi a1), (2, vi v2)] [] (Wd P Q P P c2) 0 0 Z)
  | 0 => by exact ⟨by (intro c2 v2 hI2 hF hv2 hx0 hx1 hm9; have hP := iv_P hI; have hQ := iv_Q hI; exfalso; omega), by (intro c2 v2 hI2 hF hv2 hx0 hx1 hm9; have hP := iv_P hI; have hQ := iv_Q hI; exfalso; omega)⟩
  | n + 1 => by
    have hP := iv_P hI
    have hQ := iv_Q hI
    have ih := s_168_l (sc := sc) (d := d) hI ha1 hq0 hq1 hq2 K n
    refine ⟨?_, ?_⟩
    · skip
      intro c2 v2 hI2 hF hv2 hx0 hx1 hm9
      have h_1 := ir_41_16 hI2
      have h_2 := ir_41_4 hI
      have h_3 := ir_41_4 hI2
      refine q_iload_n rfl rfl ?_
      refine q_iconst rfl ?_
      by_cases h_4 : v2 ≥ 4
      · refine v_ic_ge_t (t := 43) rfl (by decide) ⟨by decide, h_4, (Int.le_trans hv2.2 (by decide))⟩ ?_
        refine q_aload_n rfl rfl ?_
        refine q_dup rfl rfl ?_
        refine v_gi (z := 16) (v := c2 41 16) rfl rfl rfl (by decide) rfl rfl rfl ?_
        refine q_iconst rfl ?_
        refine v_iadd (v := c2 41 16 + 1) rfl rfl ?_
        refine v_pi (z := 16) rfl rfl rfl (by decide) rfl rfl rfl (by decide) ?_
        refine q_goto (t := 159) rfl (by decide) ?_
        refine q_vret rfl rfl ?_
        have hI_5 := iw_41_16 (v := c2 41 16 + 1) hI2 ⟨by first | exact rgp_l h_1.1 (by decide) | omega, by omega⟩
        have h_6 : (up c2 41 16 (c2 41 16 + 1)) 41 4 = c2 41 4 := (up_n (by decide))
        exact K (up c2 41 16 (c2 41 16 + 1)) hI_5 (fun a j hm => (up_b (Decidable.or_iff_not_imp_left.mpr (fun h1 h2 => hm (Or.inr (Or.inr (Or.inr (Or.inl ⟨Decidable.not_not.mp h1, h2⟩))))))).trans (hF a j (fun q => q.elim (fun h => hm (Or.inl h)) (fun q => q.elim (fun h => hm (Or.inr (Or.inl h))) (fun q => q.elim (fun h => hm (Or.inr (Or.inr (Or.inl h)))) (fun q => q.elim (fun h => hm (Or.inr (Or.inr (Or.inr (Or.inl h))))) (fun q => q.elim (fun h => hm (Or.inr (Or.inr (Or.inr (Or.inr (Or.inl h)))))) (fun q => q.elim (fun h => hm (Or.inr (Or.inr (Or.inr (Or.inr (Or.inr (Or.inl h))))))) (fun q => q.elim (fun h => hm (Or.inr (Or.inr (Or.inr (Or.inr (Or.inr (Or.inr (Or.inl h)))))))) (fun q => q.elim (fun h => hm (Or.inr (Or.inr (Or.inr (Or.inr (Or.inr (Or.inr (Or.inr (Or.inl h))))))))) (fun q => q.elim (fun h => hm (Or.inr (Or.inr (Or.inr (Or.inr (Or.inr (Or.inr (Or.inr (Or.inr (Or.inl h)))))))))) (fun h => hm (Or.inr (Or.inr (Or.inr (Or.inr (Or.inr (Or.inr (Or.inr (Or.inr (Or.inr h))))))))))))))))))))) (by omega)
      · refine v_ic_ge_f (t := 43) rfl (by decide) ⟨(Int.le_trans (by decide) hv2.1), (Int.not_le.mp h_4), by decide⟩ ?_
        refine q_aload_n rfl rfl ?_
        refine v_gr (t := 44) rfl rfl rfl (by decide) rfl ?_
        refine q_iconst rfl ?_
        refine q_aload_n rfl rfl ?_
        refine v_gi (z := 16) (v := c2 41 16) rfl rfl rfl (by decide) rfl rfl rfl ?_
        refine v_imul (v := 4 * c2 41 16) rfl (by omega) ?_
        refine q_iload_n rfl rfl ?_
        refine v_iadd (v := 4 * c2 41 16 + v2) rfl rfl ?_
        refine q_aload_n rfl rfl ?_
        refine q_iconst rfl ?_
        refine v_sip rfl (by decide) ?_
        have h_7 := ir_41_3 hI
        have kn_8 : Hid (c2 41 3 = c 41 3) := hF 41 3 (fun q => q.elim (fun h => absurd h.2 (ni rfl)) (fun q => q.elim (fun h => absurd h.2 (ni rfl)) (fun q => q.elim (fun h => absurd h.2 (ni rfl)) (fun q => q.elim (fun h => absurd h.2 (ni rfl)) (fun q => q.elim (fun h => absurd h.2 (ni rfl)) (fun q => q.elim (fun h => absurd h.2 (ni rfl)) (fun q => q.elim (fun h => absurd h.2 (ni rfl)) (fun q => q.elim (fun h => absurd h (nn rfl)) (fun q => q.elim (fun h => absurd h (nn rfl)) (fun h => absurd h (nn rfl)))))))))))
        have h_9 : c2 41 3 = c 41 3 := (hid kn_8)
        have h_10 := ir_41_5 hI2
        refine v_cv rfl rfl rfl rfl (by decide) ⟨⟨rfl, rfl⟩, by decide, rfl⟩ (Nat.le_of_ble_eq_true rfl) (Nat.le_of_ble_eq_true rfl) (s_160 (a1 := 0) (a2 := 999) hI2 (show 0 ≤ 0 ∧ 0 ≤ 1 from ⟨by decide, by decide⟩) (show (-1) ≤ 999 ∧ 999 ≤ 9999 from ⟨by decide, by decide⟩) (fun c_11 y_14 hI_12 hF_13 hy_14 h_15 h_16 h_17 h_18 h_19 => ?_))
        refine bk_inl ?_
        have h_20 := ir_41_4 hI_12
        have h_21 := ir_41_5 hI_12
        refine v_is rfl rfl (by decide) (by decide) (by omega) ?_
        refine v_iinc (v := v2 + 1) rfl rfl (by decide) rfl ?_
        refine q_goto (t := 11) rfl (by decide) ?_
        have hI_22 := iw_44 (j := 4 * c2 41 16 + v2) (v := y_14) hI_12 ⟨hy_14.1, by omega⟩
        refine Wp_ls [(0, .ref 41), (1, vi a1), (2, vi (v2 + 1))] (lsub_cons rfl (lsub_cons rfl (lsub_cons rfl lsub_nil))) ?_
        have kn_23 : Hid (c_11 41 16 = c2 41 16) := hF_13 41 16 (fun q => q.elim (fun h => absurd h.2 (ni rfl)) (fun q => q.elim (fun h => absurd h.2 (ni rfl)) (fun h => absurd h.2 (ni rfl))))
        have h_24 : (up c_11 44 (4 * c2 41 16 + v2) y_14) 41 16 = c2 41 16 := ((up_c (nn rfl)).trans (hid kn_23))
        have h_25 : (up c_11 44 (4 * c2 41 16 + v2) y_14) 41 4 = c_11 41 4 := (up_c (nn rfl))
        exact ih.1 (up c_11 44 (4 * c2 41 16 + v2) y_14) (v2 + 1) hI_22 (fun a j hm => (up_b (Decidable.or_iff_not_imp_left.mpr (fun h1 h2 => hm (Or.inr (Or.inr (Or.inr (Or.inr (Or.inr (Or.inr (Or.inr (Or.inl (Decidable.not_not.mp h1)))))))))))).trans ((hF_13 a j (fun q => q.elim (fun h => hm (Or.inl h)) (fun q => q.elim (fun h => hm (Or.inr (Or.inl h))) (fun h => hm (Or.inr (Or.inr (Or.inl h))))))).trans (hF a j (fun q => q.elim (fun h => hm (Or.inl h)) (fun q => q.elim (fun h => hm (Or.inr (Or.inl h))) (fun q => q.elim (fun h => hm (Or.inr (Or.inr (Or.inl h)))) (fun q => q.elim (fun h => hm (Or.inr (Or.inr (Or.inr (Or.inl h))))) (fun q => q.elim (fun h => hm (Or.inr (Or.inr (Or.inr (Or.inr (Or.inl h)))))) (fun q => q.elim (fun h => hm (Or.inr (Or.inr (Or.inr (Or.inr (Or.inr (Or.inl h))))))) (fun q => q.elim (fun h => hm (Or.inr (Or.inr (Or.inr (Or.inr (Or.inr (Or.inr (Or.inl h)))))))) (fun q => q.elim (fun h => hm (Or.inr (Or.inr (Or.inr (Or.inr (Or.inr (Or.inr (Or.inr (Or.inl h))))))))) (fun q => q.elim (fun h => hm (Or.inr (Or.inr (Or.inr (Or.inr (Or.inr (Or.inr (Or.inr (Or.inr (Or.inl h)))))))))) (fun h => hm (Or.inr (Or.inr (Or.inr (Or.inr (Or.inr (Or.inr (Or.inr (Or.inr (Or.inr h)))))))))))))))))))))) ⟨by first | exact rgp_l hv2.1 (by decide) | omega, by omega⟩ (by omega) (by omega) (by omega)
    · skip
      intro c2 v2 hI2 hF hv2 hx0 hx1 hm9
      have h_26 := ir_41_17 hI2
      have h_27 := ir_41_4 hI
      have h_28 := ir_41_4 hI2
      refine q_iload_n rfl rfl ?_
      refine q_iconst rfl ?_
      by_cases h_29 : v2 ≥ 3
      · refine v_ic_ge_t (t := 98) rfl (by decide) ⟨by decide, h_29, (Int.le_trans hv2.2 (by decide))⟩ ?_
        refine q_aload_n rfl rfl ?_
        refine q_dup rfl rfl ?_
        refine v_gi (z := 17) (v := c2 41 17) rfl rfl rfl (by decide) rfl rfl rfl ?_
        refine q_iconst rfl ?_
        refine v_iadd (v := c2 41 17 + 1) rfl rfl ?_
        refine v_pi (z := 17) rfl rfl rfl (by decide) rfl rfl rfl (by decide) ?_
        refine q_goto (t := 159) rfl (by decide) ?_
        refine q_vret rfl rfl ?_
        have hI_30 := iw_41_17 (v := c2 41 17 + 1) hI2 ⟨by first | exact rgp_l h_26.1 (by decide) | omega, by omega⟩
        have h_31 : (up c2 41 17 (c2 41 17 + 1)) 41 4 = c2 41 4 := (up_n (by decide))
        exact K (up c2 41 17 (c2 41 17 + 1)) hI_30 (fun a j hm => (up_b (Decidable.or_iff_not_imp_left.mpr (fun h1 h2 => hm (Or.inr (Or.inr (Or.inr (Or.inr (Or.inl ⟨Decidable.not_not.mp h1, h2⟩)))))))).trans (hF a j (fun q => q.elim (fun h => hm (Or.inl h)) (fun q => q.elim (fun h => hm (Or.inr (Or.inl h))) (fun q => q.elim (fun h => hm (Or.inr (Or.inr (Or.inl h)))) (fun q => q.elim (fun h => hm (Or.inr (Or.inr (Or.inr (Or.inl h))))) (fun q => q.elim (fun h => hm (Or.inr (Or.inr (Or.inr (Or.inr (Or.inl h)))))) (fun q => q.elim (fun h => hm (Or.inr (Or.inr (Or.inr (Or.inr (Or.inr (Or.inl h))))))) (fun q => q.elim (fun h => hm (Or.inr (Or.inr (Or.inr (Or.inr (Or.inr (Or.inr (Or.inl h)))))))) (fun q => q.elim (fun h => hm (Or.inr (Or.inr (Or.inr (Or.inr (Or.inr (Or.inr (Or.inr (Or.inl h))))))))) (fun q => q.elim (fun h => hm (Or.inr (Or.inr (Or.inr (Or.inr (Or.inr (Or.inr (Or.inr (Or.inr (Or.inl h)))))))))) (fun h => hm (Or.inr (Or.inr (Or.inr (Or.inr (Or.inr (Or.inr (Or.inr (Or.inr (Or.inr h))))))))))))))))))))) (by omega)
      · refine v_ic_ge_f (t := 98) rfl (by decide) ⟨(Int.le_trans (by decide) hv2.1), (Int.not_le.mp h_29), by decide⟩ ?_
        refine q_aload_n rfl rfl ?_
        refine v_gr (t := 45) rfl rfl rfl (by decide) rfl ?_
        refine q_iconst rfl ?_
        refine q_aload_n rfl rfl ?_
        refine v_gi (z := 17) (v := c2 41 17) rfl rfl rfl (by decide) rfl rfl rfl ?_
        refine v_imul (v := 3 * c2 41 17) rfl (by omega) ?_
        refine q_iload_n rfl rfl ?_
        refine v_iadd (v := 3 * c2 41 17 + v2) rfl rfl ?_
        refine q_aload_n rfl rfl ?_
        refine q_iconst rfl ?_
        refine v_bip rfl (by decide) ?_
        have h_32 := ir_41_3 hI
        have kn_33 : Hid (c2 41 3 = c 41 3) := hF 41 3 (fun q => q.elim (fun h => absurd h.2 (ni rfl)) (fun q => q.elim (fun h => absurd h.2 (ni rfl)) (fun q => q.elim (fun h => absurd h.2 (ni rfl)) (fun q => q.elim (fun h => absurd h.2 (ni rfl)) (fun q => q.elim (fun h => absurd h.2 (ni rfl)) (fun q => q.elim (fun h => absurd h.2 (ni rfl)) (fun q => q.elim (fun h => absurd h.2 (ni rfl)) (fun q => q.elim (fun h => absurd h (nn rfl)) (fun q => q.elim (fun h => absurd h (nn rfl)) (fun h => absurd h (nn rfl)))))))))))
        have h_34 : c2 41 3 = c 41 3 := (hid kn_33)
        have h_35 := ir_41_5 hI2
        refine v_cv rfl rfl rfl rfl (by decide) ⟨⟨rfl, rfl⟩, by decide, rfl⟩ (Nat.le_of_ble_eq_true rfl) (Nat.le_of_ble_eq_true rfl) (s_160 (a1 := 0) (a2 := 10) hI2 (show 0 ≤ 0 ∧ 0 ≤ 1 from ⟨by decide, by decide⟩) (show (-1) ≤ 10 ∧ 10 ≤ 9999 from ⟨by decide, by decide⟩) (fun c_36 y_39 hI_37 hF_38 hy_39 h_40 h_41 h_42 h_43 h_44 => ?_))
        refine bk_inl ?_
        have h_45 := ir_41_4 hI_37
        have h_46 := ir_41_5 hI_37
        refine v_is rfl rfl (by decide) (by decide) (by omega) ?_
        refine v_iinc (v := v2 + 1) rfl rfl (by decide) rfl ?_
        refine q_goto (t := 67) rfl (by decide) ?_
        have hI_47 := iw_45 (j := 3 * c2 41 17 + v2) (v := y_39) hI_37 ⟨hy_39.1, by omega⟩
        refine Wp_ls [(0, .ref 41), (1, vi a1), (2, vi (v2 + 1))] (lsub_cons rfl (lsub_cons rfl (lsub_cons rfl lsub_nil))) ?_
        have kn_48 : Hid (c_36 41 17 = c2 41 17) := hF_38 41 17 (fun q => q.elim (fun h => absurd h.2 (ni rfl)) (fun q => q.elim (fun h => absurd h.2 (ni rfl)) (fun h => absurd h.2 (ni rfl))))
        have h_49 : (up c_36 45 (3 * c2 41 17 + v2) y_39) 41 17 = c2 41 17 := ((up_c (nn rfl)).trans (hid kn_48))
        have h_50 : (up c_36 45 (3 * c2 41 17 + v2) y_39) 41 4 = c_36 41 4 := (up_c (nn rfl))
        exact ih.2 (up c_36 45 (3 * c2 41 17 + v2) y_39) (v2 + 1) hI_47 (fun a j hm => (up_b (Decidable.or_iff_not_imp_left.mpr (fun h1 h2 => hm (Or.inr (Or.inr (Or.inr (Or.inr (Or.inr (Or.inr (Or.inr (Or.inr (Or.inl (Decidable.not_not.mp h1))))))))))))).trans ((hF_38 a j (fun q => q.elim (fun h => hm (Or.inl h)) (fun q => q.elim (fun h => hm (Or.inr (Or.inl h))) (fun h => hm (Or.inr (Or.inr (Or.inl h))))))).trans (hF a j (fun q => q.elim (fun h => hm (Or.inl h)) (fun q => q.elim (fun h => hm (Or.inr (Or.inl h))) (fun q => q.elim (fun h => hm (Or.inr (Or.inr (Or.inl h)))) (fun q => q.elim (fun h => hm (Or.inr (Or.inr (Or.inr (Or.inl h))))) (fun q => q.elim (fun h => hm (Or.inr (Or.inr (Or.inr (Or.inr (Or.inl h)))))) (fun q => q.elim (fun h => hm (Or.inr (Or.inr (Or.inr (Or.inr (Or.inr (Or.inl h))))))) (fun q => q.elim (fun h => hm (Or.inr (Or.inr (Or.inr (Or.inr (Or.inr (Or.inr (Or.inl h)))))))) (fun q => q.elim (fun h => hm (Or.inr (Or.inr (Or.inr (Or.inr (Or.inr (Or.inr (Or.inr (Or.inl h))))))))) (fun q => q.elim (fun h => hm (Or.inr (Or.inr (Or.inr (Or.inr (Or.inr (Or.inr (Or.inr (Or.inr (Or.inl h)))))))))) (fun h => hm (Or.inr (Or.inr (Or.inr (Or.inr (Or.inr (Or.inr (Or.inr (Or.inr (Or.inr h)))))))))))))))))))))) ⟨by first | exact rgp_l hv2.1 (by decide) | omega, by omega⟩ (by omega) (by omega) (by omega)
set_option maxRecDepth 100000 in
set_option maxHeartbeats 4000000 in
theorem s_168 {sc : List Int32} {e : Int} {d u P Q : Nat} {c : ME} {a1 : Int} {Z : AR → Prop} (hI : Iv u e P Q c) (ha1 : (-2147483648) ≤ a1 ∧ a1 ≤ 2147483647) (hq0 : (a1 ≠ 10290) ∨ (c 41 16 ≤ 5)) (hq1 : (a1 ≠ 20594117) ∨ (c 41 17 ≤ 3)) (hq2 : (a1 ≠ 20223685) ∨ (c 41 18 ≤ 3)) (K : ∀ (c2 : ME), Iv u e P Q c2 → (∀ (a : Nat) (j : Int), ¬ ((a = 41 ∧ j = 4) ∨ (a = 41 ∧ j = 5) ∨ (a = 41 ∧ j = 6) ∨ (a = 41 ∧ j = 16) ∨ (a = 41 ∧ j = 17) ∨ (a = 41 ∧ j = 18) ∨ (a = 41 ∧ j = 19) ∨ a = 44 ∨ a = 45 ∨ a = 46) → c2 a j = c a j) → ((c2 41 4 ≥ c 41 4)) → Z (.inl (none), Wd P Q P P c2, 0, 0)) : Wp sc (d + 9) 168 0 [(0, .ref 41), (1, vi a1)] [] (Wd P Q P P c) 0 0 Z := by
  have hP := iv_P hI
  have hQ := iv_Q hI
  have h_51 := ir_41_16 hI
  have h_52 := ir_41_17 hI
  have h_53 := ir_41_18 hI
  refine q_iload_n rfl rfl ?_
  refine q_ldc_s rfl rfl rfl (by decide) ?_
  refine q_call rfl rfl rfl rfl (s_158_16 ?_)
  refine bk_inl ?_
  by_cases h_54 : a1 ≠ 10290
  · refine v_ic_ne_t (t := 56) rfl (by decide) ⟨h_54, ⟨ha1.1, ha1.2⟩, by decide, by decide⟩ ?_
    refine q_iload_n rfl rfl ?_
    refine q_ldc_s rfl rfl rfl (by decide) ?_
    refine q_call rfl rfl rfl rfl (s_158_17 ?_)
    refine bk_inl ?_
    by_cases h_55 : a1 ≠ 20594117
    · refine v_ic_ne_t (t := 111) rfl (by decide) ⟨h_55, ⟨ha1.1, ha1.2⟩, by decide, by decide⟩ ?_
      refine q_iload_n rfl rfl ?_
      refine q_ldc_s rfl rfl rfl (by decide) ?_
      refine q_call rfl rfl rfl rfl (s_158_18 ?_)
      refine bk_inl ?_
      by_cases h_56 : a1 ≠ 20223685
      · refine v_ic_ne_t (t := 148) rfl (by decide) ⟨h_56, ⟨ha1.1, ha1.2⟩, by decide, by decide⟩ ?_
        refine q_aload_n rfl rfl ?_
        refine q_aload_n rfl rfl ?_
        refine q_iconst rfl ?_
        refine v_bip rfl (by decide) ?_
        have h_57 := ir_41_4 hI
        have h_58 := ir_41_3 hI
        have h_59 := ir_41_5 hI
        refine v_cv rfl rfl rfl rfl (by decide) ⟨⟨rfl, rfl⟩, by decide, rfl⟩ (Nat.le_of_ble_eq_true rfl) (Nat.le_of_ble_eq_true rfl) (s_160 (a1 := 0) (a2 := 50) hI (show 0 ≤ 0 ∧ 0 ≤ 1 from ⟨by decide, by decide⟩) (show (-1) ≤ 50 ∧ 50 ≤ 9999 from ⟨by decide, by decide⟩) (fun c_60 y_63 hI_61 hF_62 hy_63 h_64 h_65 h_66 h_67 h_68 => ?_))
        refine bk_inl ?_
        have h_69 := ir_41_4 hI_61
        have h_70 := ir_41_5 hI_61
        refine v_pi (z := 19) rfl rfl rfl (by decide) rfl rfl rfl (by decide) ?_
        refine q_vret rfl rfl ?_
        have hI_71 := iw_41_19 (v := y_63) hI_61 ⟨hy_63.1, by first | (clear h_51 h_52 h_53 h_57 h_58 h_59 h_69 h_64 h_70 h_54 h_55 h_56 h_65 h_67 h_68; omega) | omega⟩
        have h_72 : (up c_60 41 19 y_63) 41 4 = c_60 41 4 := (up_n (by decide))
        exact K (up c_60 41 19 y_63) hI_71 (fun a j hm => (up_b (Decidable.or_iff_not_imp_left.mpr (fun h1 h2 => hm (Or.inr (Or.inr (Or.inr (Or.inr (Or.inr (Or.inr (Or.inl ⟨Decidable.not_not.mp h1, h2⟩)))))))))).trans (hF_62 a j (fun q => q.elim (fun h => hm (Or.inl h)) (fun q => q.elim (fun h => hm (Or.inr (Or.inl h))) (fun h => hm (Or.inr (Or.inr (Or.inl h)))))))) (by first | (clear h_51 h_52 h_53 h_57 h_58 h_59 h_69 h_70 h_54 h_55 h_56 h_65 h_66 h_67 h_68; omega) | omega)
      · refine v_ic_ne_f (t := 148) rfl (by decide) (Decidable.not_not.mp h_56) ?_
        refine q_aload_n rfl rfl ?_
        refine v_gr (t := 46) rfl rfl rfl (by decide) rfl ?_
        refine q_aload_n rfl rfl ?_
        refine v_gi (z := 18) (v := c 41 18) rfl rfl rfl (by decide) rfl rfl rfl ?_
        refine q_aload_n rfl rfl ?_
        refine q_iconst rfl ?_
        refine q_iconst rfl ?_
        have h_73 := ir_41_4 hI
        have h_74 := ir_41_3 hI
        have h_75 := ir_41_5 hI
        refine v_cv rfl rfl rfl rfl (by decide) ⟨⟨rfl, rfl⟩, by decide, rfl⟩ (Nat.le_of_ble_eq_true rfl) (Nat.le_of_ble_eq_true rfl) (s_160 (a1 := 0) (a2 := 2) hI (show 0 ≤ 0 ∧ 0 ≤ 1 from ⟨by decide, by decide⟩) (show (-1) ≤ 2 ∧ 2 ≤ 9999 from ⟨by decide, by decide⟩) (fun c_76 y_79 hI_77 hF_78 hy_79 h_80 h_81 h_82 h_83 h_84 => ?_))
        refine bk_inl ?_
        have h_85 := ir_41_4 hI_77
        have h_86 := ir_41_5 hI_77
        refine v_is rfl rfl (by decide) (by decide) (by omega) ?_
        refine q_aload_n rfl rfl ?_
        refine q_dup rfl rfl ?_
        have kn_87 : Hid (c_76 41 18 = c 41 18) := hF_78 41 18 (fun q => q.elim (fun h => absurd h.2 (ni rfl)) (fun q => q.elim (fun h => absurd h.2 (ni rfl)) (fun h => absurd h.2 (ni rfl))))
        refine v_gi (z := 18) (v := c 41 18) rfl rfl rfl (by decide) rfl rfl ((up_c (nn rfl)).trans (hid kn_87)) ?_
        refine q_iconst rfl ?_
        refine v_iadd (v := c 41 18 + 1) rfl rfl ?_
        refine v_pi (z := 18) rfl rfl rfl (by decide) rfl rfl rfl (by decide) ?_
        refine q_goto (t := 159) rfl (by decide) ?_
        refine q_vret rfl rfl ?_
        have hI_88 := iw_46 (j := c 41 18) (v := y_79) hI_77 ⟨hy_79.1, by first | (clear h_51 h_52 h_53 h_73 h_74 h_75 h_85 h_80 h_86 h_54 h_55 h_81 h_83 h_84; omega) | omega⟩
        have hI_89 := iw_41_18 (v := c 41 18 + 1) hI_88 ⟨by first | exact rgp_l h_53.1 (by decide) | omega, by first | (clear h_51 h_52 h_53 h_73 h_74 h_75 h_85 h_80 h_86 h_54 h_55 h_81 h_82 h_83 h_84; omega) | omega⟩
        have h_90 : (up (up c_76 46 (c 41 18) y_79) 41 18 (c 41 18 + 1)) 41 4 = c_76 41 4 := ((up_n (by decide)).trans (up_c (nn rfl)))
        exact K (up (up c_76 46 (c 41 18) y_79) 41 18 (c 41 18 + 1)) hI_89 (fun a j hm => (up_b (Decidable.or_iff_not_imp_left.mpr (fun h1 h2 => hm (Or.inr (Or.inr (Or.inr (Or.inr (Or.inr (Or.inl ⟨Decidable.not_not.mp h1, h2⟩))))))))).trans ((up_b (Decidable.or_iff_not_imp_left.mpr (fun h1 h2 => hm (Or.inr (Or.inr (Or.inr (Or.inr (Or.inr (Or.inr (Or.inr (Or.inr (Or.inr (Decidable.not_not.mp h1))))))))))))).trans (hF_78 a j (fun q => q.elim (fun h => hm (Or.inl h)) (fun q => q.elim (fun h => hm (Or.inr (Or.inl h))) (fun h => hm (Or.inr (Or.inr (Or.inl h))))))))) (by first | (clear h_51 h_52 h_53 h_73 h_74 h_75 h_85 h_86 h_54 h_55 h_81 h_82 h_83 h_84; omega) | omega)
    · refine v_ic_ne_f (t := 111) rfl (by decide) (Decidable.not_not.mp h_55) ?_
      refine q_iconst rfl ?_
      refine q_istore_n rfl (by decide) ?_
      refine Wp_ls [(0, .ref 41), (1, vi a1), (2, vi 0)] (lsub_cons rfl (lsub_cons rfl (lsub_cons rfl lsub_nil))) ?_
      have h_91 := ir_41_4 hI
      exact (s_168_l (sc := sc) (d := d) hI ha1 hq0 hq1 hq2 K 21).2 c 0 hI (fun a j hm => rfl) ⟨by decide, by decide⟩ (by omega) (by omega) (by omega)
  · refine v_ic_ne_f (t := 56) rfl (by decide) (Decidable.not_not.mp h_54) ?_
    refine q_iconst rfl ?_
    refine q_istore_n rfl (by decide) ?_
    refine Wp_ls [(0, .ref 41), (1, vi a1), (2, vi 0)] (lsub_cons rfl (lsub_cons rfl (lsub_cons rfl lsub_nil))) ?_
    have h_92 := ir_41_4 hI
    exact (s_168_l (sc := sc) (d := d) hI ha1 hq0 hq1 hq2 K 21).1 c 0 hI (fun a j hm => rfl) ⟨by decide, by decide⟩ (by omega) (by omega) (by omega)

set_option maxRecDepth 100000 in
set_option maxHeartbeats 4000000 in
theorem s_169_l {sc : List Int32} {d P Q : Nat} {c : ME} {a1 : Int} {Z : AR → Prop} (hI : Iv 0 (-1) P Q c) (ha1 : (-2147483648) ≤ a1 ∧ a1 ≤ 2147483647) (K : ∀ (c2 : ME) (y : Int), Iv 0 (-1) P Q c2 → (∀ (a : Nat) (j : Int), ¬ ((a = 41 ∧ j = 0) ∨ a = 42 ∨ (a = 41 ∧ j = 2) ∨ (a = 41 ∧ j = 3) ∨ (a = 41 ∧ j = 4) ∨ (a = 41 ∧ j = 5) ∨ (a = 41 ∧ j = 6) ∨ (a = 41 ∧ j = 7) ∨ (a = 41 ∧ j = 8) ∨ (a = 41 ∧ j = 16) ∨ (a = 41 ∧ j = 17) ∨ (a = 41 ∧ j = 18) ∨ (a = 41 ∧ j = 19) ∨ a = 44 ∨ a = 45 ∨ a = 46 ∨ (a = 41 ∧ j = 20) ∨ (a = 41 ∧ j = 21) ∨ (a = 41 ∧ j = 22) ∨ (a = 41 ∧ j = 23) ∨ (a = 41 ∧ j = 30) ∨ (a = 41 ∧ j = 35) ∨ (a = 41 ∧ j = 36) ∨ (a = 41 ∧ j = 47) ∨ (a = 41 ∧ j = 48) ∨ (a = 41 ∧ j = 52) ∨ a = 47 ∨ a = 48 ∨ a = 49 ∨ a = 58 ∨ a = 64) → c2 a j = c a j) → (-2147483648) ≤ y ∧ y ≤ 2147483647 → ((c2 41 2 = 0 ∧ a1 ≥ 0 ∧ a1 ≤ c 41 2 ∧ a1 ≤ 600) ∨ (c2 41 2 = c 41 2 ∧ a1 < 0) ∨ (c2 41 2 = c 41 2 ∧ a1 > c 41 2) ∨ (c2 41 2 = c 41 2 ∧ a1 > 600)) → Z (.inl (some (vi y)), Wd P Q P P c2, 0, 0)) : ∀ n : Nat, (∀ (c2 : ME) (v2 : Int), Iv 0 (-1) P Q c2 → (∀ (a : Nat) (j : Int), ¬ ((a = 41 ∧ j = 0) ∨ a = 42 ∨ (a = 41 ∧ j = 2) ∨ (a = 41 ∧ j = 3) ∨ (a = 41 ∧ j = 4) ∨ (a = 41 ∧ j = 5) ∨ (a = 41 ∧ j = 6) ∨ (a = 41 ∧ j = 7) ∨ (a = 41 ∧ j = 8) ∨ (a = 41 ∧ j = 16) ∨ (a = 41 ∧ j = 17) ∨ (a = 41 ∧ j = 18) ∨ (a = 41 ∧ j = 19) ∨ a = 44 ∨ a = 45 ∨ a = 46 ∨ (a = 41 ∧ j = 20) ∨ (a = 41 ∧ j = 21) ∨ (a = 41 ∧ j = 22) ∨ (a = 41 ∧ j = 23) ∨ (a = 41 ∧ j = 30) ∨ (a = 41 ∧ j = 35) ∨ (a = 41 ∧ j = 36) ∨ (a = 41 ∧ j = 47) ∨ (a = 41 ∧ j = 48) ∨ (a = 41 ∧ j = 52) ∨ a = 47 ∨ a = 48 ∨ a = 49 ∨ a = 58 ∨ a = 64) → c2 a j = c a j) → 0 ≤ v2 ∧ v2 ≤ 60 → ((c2 41 2 = 0 ∧ a1 ≥ 0 ∧ a1 ≤ c 41 2 ∧ a1 ≤ 600)) → 1211 - 2 * c2 41 4 < (n : Int) → Wp sc (d + 10) 169 44 [(0, .ref 41), (1, vi a1), (2, vi v2)] [] (Wd P Q P P c2) 0 0 Z)
  | 0 => by intro c2 v2 hI2 hF hv2 hx0 hm9; have hP := iv_P hI; have hQ := iv_Q hI; have h_418 := ir_41_4 hI2; exfalso; omega
  | n + 1 => by
    have hP := iv_P hI
    have hQ := iv_Q hI
    have ih := s_169_l (sc := sc) (d := d) hI ha1 K n
    intro c2 v2 hI2 hF hv2 hx0 hm9
    have h_1 := ir_41_2 hI
    have h_2 := ir_41_2 hI2
    have h_3 := ir_41_4 hI2
    refine q_aload_n rfl rfl ?_
    refine v_cv rfl rfl rfl rfl (by decide) ⟨⟨rfl, rfl⟩, by decide, rfl⟩ (Nat.le_of_ble_eq_true rfl) (Nat.le_of_ble_eq_true rfl) ?_
    refine q_aload_n rfl rfl ?_
    have h_4 := ir_41_5 hI2
    refine v_gi (z := 5) (v := c2 41 5) rfl rfl rfl (by decide) rfl rfl rfl ?_
    refine q_iconst rfl ?_
    by_cases h_5 : c2 41 5 ≠ (-1)
    · refine v_ic_ne_t (t := 12) rfl (by decide) ⟨h_5, ⟨(Int.le_trans (by decide) h_4.1), (Int.le_trans h_4.2 (by decide))⟩, by decide, by decide⟩ ?_
      refine q_iconst rfl ?_
      refine v_zret rfl rfl (by decide) ?_
      refine bk_inl ?_
      refine v_if_eq_t (t := 136) rfl (by decide) (by decide) ?_
      refine q_aload_n rfl rfl ?_
      refine q_aload_n rfl rfl ?_
      have h_6 := ir_41_16 hI2
      refine v_gi (z := 16) (v := c2 41 16) rfl rfl rfl (by decide) rfl rfl rfl ?_
      refine v_cv rfl rfl rfl rfl (by decide) ⟨⟨rfl, rfl⟩, by decide, rfl⟩ (Nat.le_of_ble_eq_true rfl) (Nat.le_of_ble_eq_true rfl) (s_164 (a1 := c2 41 16) hI2 (show (-2147483648) ≤ c2 41 16 ∧ c2 41 16 ≤ 2147483647 from ⟨(Int.le_trans (by decide) h_6.1), (Int.le_trans h_6.2 (by decide))⟩) (fun c_7 y_10 hI_8 hF_9 hy_10 => ?_))
      refine bk_inl ?_
      refine q_istore_n rfl (by decide) ?_
      refine q_aload_n rfl rfl ?_
      have kn_11 : Hid (c_7 41 5 = c2 41 5) := hF_9 41 5 (fun h => absurd h.2 (ni rfl))
      refine v_gi (z := 5) (v := c2 41 5) rfl rfl rfl (by decide) rfl rfl (hid kn_11) ?_
      refine q_iconst rfl ?_
      refine v_ic_ne_t (t := 157) rfl (by decide) ⟨by omega, ⟨(Int.le_trans (by decide) h_4.1), (Int.le_trans h_4.2 (by decide))⟩, by decide, by decide⟩ ?_
      refine q_iload_n rfl rfl ?_
      refine q_iret rfl rfl ?_
      have kn_12 : Hid (c_7 41 2 = c2 41 2) := hF_9 41 2 (fun h => absurd h.2 (ni rfl))
      have h_13 : c_7 41 2 = c2 41 2 := (hid kn_12)
      exact K c_7 y_10 hI_8 (fun a j hm => (hF_9 a j (fun h => hm (Or.inr (Or.inr (Or.inr (Or.inr (Or.inr (Or.inr (Or.inr (Or.inr (Or.inl h))))))))))).trans (hF a j (fun q => q.elim (fun h => hm (Or.inl h)) (fun q => q.elim (fun h => hm (Or.inr (Or.inl h))) (fun q => q.elim (fun h => hm (Or.inr (Or.inr (Or.inl h)))) (fun q => q.elim (fun h => hm (Or.inr (Or.inr (Or.inr (Or.inl h))))) (fun q => q.elim (fun h => hm (Or.inr (Or.inr (Or.inr (Or.inr (Or.inl h)))))) (fun q => q.elim (fun h => hm (Or.inr (Or.inr (Or.inr (Or.inr (Or.inr (Or.inl h))))))) (fun q => q.elim (fun h => hm (Or.inr (Or.inr (Or.inr (Or.inr (Or.inr (Or.inr (Or.inl h)))))))) (fun q => q.elim (fun h => hm (Or.inr (Or.inr (Or.inr (Or.inr (Or.inr (Or.inr (Or.inr (Or.inl h))))))))) (fun q => q.elim (fun h => hm (Or.inr (Or.inr (Or.inr (Or.inr (Or.inr (Or.inr (Or.inr (Or.inr (Or.inl h)))))))))) (fun q => q.elim (fun h => hm (Or.inr (Or.inr (Or.inr (Or.inr (Or.inr (Or.inr (Or.inr (Or.inr (Or.inr (Or.inl h))))))))))) (fun q => q.elim (fun h => hm (Or.inr (Or.inr (Or.inr (Or.inr (Or.inr (Or.inr (Or.inr (Or.inr (Or.inr (Or.inr (Or.inl h)))))))))))) (fun q => q.elim (fun h => hm (Or.inr (Or.inr (Or.inr (Or.inr (Or.inr (Or.inr (Or.inr (Or.inr (Or.inr (Or.inr (Or.inr (Or.inl h))))))))))))) (fun q => q.elim (fun h => hm (Or.inr (Or.inr (Or.inr (Or.inr (Or.inr (Or.inr (Or.inr (Or.inr (Or.inr (Or.inr (Or.inr (Or.inr (Or.inl h)))))))))))))) (fun q => q.elim (fun h => hm (Or.inr (Or.inr (Or.inr (Or.inr (Or.inr (Or.inr (Or.inr (Or.inr (Or.inr (Or.inr (Or.inr (Or.inr (Or.inr (Or.inl h))))))))))))))) (fun q => q.elim (fun h => hm (Or.inr (Or.inr (Or.inr (Or.inr (Or.inr (Or.inr (Or.inr (Or.inr (Or.inr (Or.inr (Or.inr (Or.inr (Or.inr (Or.inr (Or.inl h)))))))))))))))) (fun q => q.elim (fun h => hm (Or.inr (Or.inr (Or.inr (Or.inr (Or.inr (Or.inr (Or.inr (Or.inr (Or.inr (Or.inr (Or.inr (Or.inr (Or.inr (Or.inr (Or.inr (Or.inl h))))))))))))))))) (fun q => q.elim (fun h => hm (Or.inr (Or.inr (Or.inr (Or.inr (Or.inr (Or.inr (Or.inr (Or.inr (Or.inr (Or.inr (Or.inr (Or.inr (Or.inr (Or.inr (Or.inr (Or.inr (Or.inl h)))))))))))))))))) (fun q => q.elim (fun h => hm (Or.inr (Or.inr (Or.inr (Or.inr (Or.inr (Or.inr (Or.inr (Or.inr (Or.inr (Or.inr (Or.inr (Or.inr (Or.inr (Or.inr (Or.inr (Or.inr (Or.inr (Or.inl h))))))))))))))))))) (fun q => q.elim (fun h => hm (Or.inr (Or.inr (Or.inr (Or.inr (Or.inr (Or.inr (Or.inr (Or.inr (Or.inr (Or.inr (Or.inr (Or.inr (Or.inr (Or.inr (Or.inr (Or.inr (Or.inr (Or.inr (Or.inl h)))))))))))))))))))) (fun q => q.elim (fun h => hm (Or.inr (Or.inr (Or.inr (Or.inr (Or.inr (Or.inr (Or.inr (Or.inr (Or.inr (Or.inr (Or.inr (Or.inr (Or.inr (Or.inr (Or.inr (Or.inr (Or.inr (Or.inr (Or.inr (Or.inl h))))))))))))))))))))) (fun q => q.elim (fun h => hm (Or.inr (Or.inr (Or.inr (Or.inr (Or.inr (Or.inr (Or.inr (Or.inr (Or.inr (Or.inr (Or.inr (Or.inr (Or.inr (Or.inr (Or.inr (Or.inr (Or.inr (Or.inr (Or.inr (Or.inr (Or.inl h)))))))))))))))))))))) (fun q => q.elim (fun h => hm (Or.inr (Or.inr (Or.inr (Or.inr (Or.inr (Or.inr (Or.inr (Or.inr (Or.inr (Or.inr (Or.inr (Or.inr (Or.inr (Or.inr (Or.inr (Or.inr (Or.inr (Or.inr (Or.inr (Or.inr (Or.inr (Or.inl h))))))))))))))))))))))) (fun q => q.elim (fun h => hm (Or.inr (Or.inr (Or.inr (Or.inr (Or.inr (Or.inr (Or.inr (Or.inr (Or.inr (Or.inr (Or.inr (Or.inr (Or.inr (Or.inr (Or.inr (Or.inr (Or.inr (Or.inr (Or.inr (Or.inr (Or.inr (Or.inr (Or.inl h)))))))))))))))))))))))) (fun q => q.elim (fun h => hm (Or.inr (Or.inr (Or.inr (Or.inr (Or.inr (Or.inr (Or.inr (Or.inr (Or.inr (Or.inr (Or.inr (Or.inr (Or.inr (Or.inr (Or.inr (Or.inr (Or.inr (Or.inr (Or.inr (Or.inr (Or.inr (Or.inr (Or.inr (Or.inl h))))))))))))))))))))))))) (fun q => q.elim (fun h => hm (Or.inr (Or.inr (Or.inr (Or.inr (Or.inr (Or.inr (Or.inr (Or.inr (Or.inr (Or.inr (Or.inr (Or.inr (Or.inr (Or.inr (Or.inr (Or.inr (Or.inr (Or.inr (Or.inr (Or.inr (Or.inr (Or.inr (Or.inr (Or.inr (Or.inl h)))))))))))))))))))))))))) (fun q => q.elim (fun h => hm (Or.inr (Or.inr (Or.inr (Or.inr (Or.inr (Or.inr (Or.inr (Or.inr (Or.inr (Or.inr (Or.inr (Or.inr (Or.inr (Or.inr (Or.inr (Or.inr (Or.inr (Or.inr (Or.inr (Or.inr (Or.inr (Or.inr (Or.inr (Or.inr (Or.inr (Or.inl h))))))))))))))))))))))))))) (fun q => q.elim (fun h => hm (Or.inr (Or.inr (Or.inr (Or.inr (Or.inr (Or.inr (Or.inr (Or.inr (Or.inr (Or.inr (Or.inr (Or.inr (Or.inr (Or.inr (Or.inr (Or.inr (Or.inr (Or.inr (Or.inr (Or.inr (Or.inr (Or.inr (Or.inr (Or.inr (Or.inr (Or.inr (Or.inl h)))))))))))))))))))))))))))) (fun q => q.elim (fun h => hm (Or.inr (Or.inr (Or.inr (Or.inr (Or.inr (Or.inr (Or.inr (Or.inr (Or.inr (Or.inr (Or.inr (Or.inr (Or.inr (Or.inr (Or.inr (Or.inr (Or.inr (Or.inr (Or.inr (Or.inr (Or.inr (Or.inr (Or.inr (Or.inr (Or.inr (Or.inr (Or.inr (Or.inl h))))))))))))))))))))))))))))) (fun q => q.elim (fun h => hm (Or.inr (Or.inr (Or.inr (Or.inr (Or.inr (Or.inr (Or.inr (Or.inr (Or.inr (Or.inr (Or.inr (Or.inr (Or.inr (Or.inr (Or.inr (Or.inr (Or.inr (Or.inr (Or.inr (Or.inr (Or.inr (Or.inr (Or.inr (Or.inr (Or.inr (Or.inr (Or.inr (Or.inr (Or.inl h)))))))))))))))))))))))))))))) (fun q => q.elim (fun h => hm (Or.inr (Or.inr (Or.inr (Or.inr (Or.inr (Or.inr (Or.inr (Or.inr (Or.inr (Or.inr (Or.inr (Or.inr (Or.inr (Or.inr (Or.inr (Or.inr (Or.inr (Or.inr (Or.inr (Or.inr (Or.inr (Or.inr (Or.inr (Or.inr (Or.inr (Or.inr (Or.inr (Or.inr (Or.inr (Or.inl h))))))))))))))))))))))))))))))) (fun h => hm (Or.inr (Or.inr (Or.inr (Or.inr (Or.inr (Or.inr (Or.inr (Or.inr (Or.inr (Or.inr (Or.inr (Or.inr (Or.inr (Or.inr (Or.inr (Or.inr (Or.inr (Or.inr (Or.inr (Or.inr (Or.inr (Or.inr (Or.inr (Or.inr (Or.inr (Or.inr (Or.inr (Or.inr (Or.inr (Or.inr h))))))))))))))))))))))))))))))))))))))))))))))))))))))))))))))) hy_10 (Or.inl ⟨by omega, by omega, by omega, by omega⟩)
    · refine v_ic_ne_f (t := 12) rfl (by decide) (Decidable.not_not.mp h_5) ?_
      refine q_iconst rfl ?_
      refine q_goto (t := 13) rfl (by decide) ?_
      refine v_zret rfl rfl (by decide) ?_
      refine bk_inl ?_
      refine v_if_eq_f (t := 136) rfl (by decide) (by decide) ?_
      refine q_aload_n rfl rfl ?_
      have h_14 := ir_41_3 hI2
      refine v_cv rfl rfl rfl rfl (by decide) ⟨⟨rfl, rfl⟩, by decide, rfl⟩ (Nat.le_of_ble_eq_true rfl) (Nat.le_of_ble_eq_true rfl) (s_162 hI2 (fun c_15 y_18 hI_16 hF_17 hy_18 h_19 h_20 h_21 => ?_))
      refine bk_inl ?_
      have h_22 := ir_41_4 hI_16
      by_cases h_23 : y_18 = 0
      · refine v_if_eq_t (t := 136) rfl (by decide) h_23 ?_
        refine q_aload_n rfl rfl ?_
        refine q_aload_n rfl rfl ?_
        have h_24 := ir_41_16 hI2
        have kn_25 : Hid (c_15 41 16 = c2 41 16) := hF_17 41 16 (fun h => absurd h.2 (ni rfl))
        refine v_gi (z := 16) (v := c2 41 16) rfl rfl rfl (by decide) rfl rfl (hid kn_25) ?_
        refine v_cv rfl rfl rfl rfl (by decide) ⟨⟨rfl, rfl⟩, by decide, rfl⟩ (Nat.le_of_ble_eq_true rfl) (Nat.le_of_ble_eq_true rfl) (s_164 (a1 := c2 41 16) hI_16 (show (-2147483648) ≤ c2 41 16 ∧ c2 41 16 ≤ 2147483647 from ⟨by omega, by omega⟩) (fun c_26 y_29 hI_27 hF_28 hy_29 => ?_))
        refine bk_inl ?_
        refine q_istore_n rfl (by decide) ?_
        refine q_aload_n rfl rfl ?_
        have kn_30 : Hid (c_15 41 5 = c2 41 5) := hF_17 41 5 (fun h => absurd h.2 (ni rfl))
        have kn_31 : Hid (c_26 41 5 = c2 41 5) := (hF_28 41 5 (fun h => absurd h.2 (ni rfl))).trans (hid kn_30)
        refine v_gi (z := 5) (v := c2 41 5) rfl rfl rfl (by decide) rfl rfl (hid kn_31) ?_
        refine q_iconst rfl ?_
        refine v_ic_ne_f (t := 157) rfl (by decide) (by omega) ?_
        refine q_aload_n rfl rfl ?_
        have kn_32 : Hid (c_26 41 16 = c2 41 16) := (hF_28 41 16 (fun h => absurd h.2 (ni rfl))).trans (hid kn_25)
        have h_33 : c_26 41 16 = c2 41 16 := (hid kn_32)
        have h_34 := ir_41_17 hI2
        have kn_35 : Hid (c_15 41 17 = c2 41 17) := hF_17 41 17 (fun h => absurd h.2 (ni rfl))
        have kn_36 : Hid (c_26 41 17 = c2 41 17) := (hF_28 41 17 (fun h => absurd h.2 (ni rfl))).trans (hid kn_35)
        have h_37 : c_26 41 17 = c2 41 17 := (hid kn_36)
        have h_38 := ir_41_18 hI2
        have kn_39 : Hid (c_15 41 18 = c2 41 18) := hF_17 41 18 (fun h => absurd h.2 (ni rfl))
        have kn_40 : Hid (c_26 41 18 = c2 41 18) := (hF_28 41 18 (fun h => absurd h.2 (ni rfl))).trans (hid kn_39)
        have h_41 : c_26 41 18 = c2 41 18 := (hid kn_40)
        have h_42 := ir_41_19 hI2
        have kn_43 : Hid (c_15 41 19 = c2 41 19) := hF_17 41 19 (fun h => absurd h.2 (ni rfl))
        have kn_44 : Hid (c_26 41 19 = c2 41 19) := (hF_28 41 19 (fun h => absurd h.2 (ni rfl))).trans (hid kn_43)
        have h_45 : c_26 41 19 = c2 41 19 := (hid kn_44)
        refine v_cv rfl rfl rfl rfl (by decide) ⟨⟨rfl, rfl⟩, by decide, rfl⟩ (Nat.le_of_ble_eq_true rfl) (Nat.le_of_ble_eq_true rfl) (s_149 (iv_open hI_27) (fun c_46 hI_47 hF_48 h_49 => ?_))
        refine bk_inl ?_
        have h_50 := ir_41_20 hI_47
        have h_51 := ir_41_21 hI_47
        have h_52 := ir_41_22 hI_47
        have h_53 := ir_41_23 hI_47
        have h_54 := ir_41_30 hI_47
        have h_55 := ir_41_35 hI_47
        have h_56 := ir_41_36 hI_47
        have h_57 := ir_41_47 hI_47
        have h_58 := ir_41_48 hI_47
        have h_59 := ir_41_52 hI_47
        refine q_iload_n rfl rfl ?_
        refine q_iret rfl rfl ?_
        have kn_60 : Hid (c_15 41 2 = c2 41 2) := hF_17 41 2 (fun h => absurd h.2 (ni rfl))
        have kn_61 : Hid (c_26 41 2 = c2 41 2) := (hF_28 41 2 (fun h => absurd h.2 (ni rfl))).trans (hid kn_60)
        have kn_62 : Hid (c_46 41 2 = c2 41 2) := (hF_48 41 2 (fun q => q.elim (fun h => absurd h.2 (ni rfl)) (fun q => q.elim (fun h => absurd h.2 (ni rfl)) (fun q => q.elim (fun h => absurd h.2 (ni rfl)) (fun q => q.elim (fun h => absurd h.2 (ni rfl)) (fun q => q.elim (fun h => absurd h.2 (ni rfl)) (fun q => q.elim (fun h => absurd h.2 (ni rfl)) (fun q => q.elim (fun h => absurd h.2 (ni rfl)) (fun q => q.elim (fun h => absurd h.2 (ni rfl)) (fun q => q.elim (fun h => absurd h.2 (ni rfl)) (fun q => q.elim (fun h => absurd h.2 (ni rfl)) (fun q => q.elim (fun h => absurd h (nn rfl)) (fun q => q.elim (fun h => absurd h (nn rfl)) (fun q => q.elim (fun h => absurd h (nn rfl)) (fun q => q.elim (fun h => absurd h (nn rfl)) (fun h => absurd h (nn rfl))))))))))))))))).trans (hid kn_61)
        have h_63 : c_46 41 2 = c2 41 2 := (hid kn_62)
        exact K c_46 y_29 hI_47 (fun a j hm => (hF_48 a j (fun q => q.elim (fun h => hm (Or.inr (Or.inr (Or.inr (Or.inr (Or.inr (Or.inr (Or.inr (Or.inr (Or.inr (Or.inr (Or.inr (Or.inr (Or.inr (Or.inr (Or.inr (Or.inr (Or.inl h)))))))))))))))))) (fun q => q.elim (fun h => hm (Or.inr (Or.inr (Or.inr (Or.inr (Or.inr (Or.inr (Or.inr (Or.inr (Or.inr (Or.inr (Or.inr (Or.inr (Or.inr (Or.inr (Or.inr (Or.inr (Or.inr (Or.inl h))))))))))))))))))) (fun q => q.elim (fun h => hm (Or.inr (Or.inr (Or.inr (Or.inr (Or.inr (Or.inr (Or.inr (Or.inr (Or.inr (Or.inr (Or.inr (Or.inr (Or.inr (Or.inr (Or.inr (Or.inr (Or.inr (Or.inr (Or.inl h)))))))))))))))))))) (fun q => q.elim (fun h => hm (Or.inr (Or.inr (Or.inr (Or.inr (Or.inr (Or.inr (Or.inr (Or.inr (Or.inr (Or.inr (Or.inr (Or.inr (Or.inr (Or.inr (Or.inr (Or.inr (Or.inr (Or.inr (Or.inr (Or.inl h))))))))))))))))))))) (fun q => q.elim (fun h => hm (Or.inr (Or.inr (Or.inr (Or.inr (Or.inr (Or.inr (Or.inr (Or.inr (Or.inr (Or.inr (Or.inr (Or.inr (Or.inr (Or.inr (Or.inr (Or.inr (Or.inr (Or.inr (Or.inr (Or.inr (Or.inl h)))))))))))))))))))))) (fun q => q.elim (fun h => hm (Or.inr (Or.inr (Or.inr (Or.inr (Or.inr (Or.inr (Or.inr (Or.inr (Or.inr (Or.inr (Or.inr (Or.inr (Or.inr (Or.inr (Or.inr (Or.inr (Or.inr (Or.inr (Or.inr (Or.inr (Or.inr (Or.inl h))))))))))))))))))))))) (fun q => q.elim (fun h => hm (Or.inr (Or.inr (Or.inr (Or.inr (Or.inr (Or.inr (Or.inr (Or.inr (Or.inr (Or.inr (Or.inr (Or.inr (Or.inr (Or.inr (Or.inr (Or.inr (Or.inr (Or.inr (Or.inr (Or.inr (Or.inr (Or.inr (Or.inl h)))))))))))))))))))))))) (fun q => q.elim (fun h => hm (Or.inr (Or.inr (Or.inr (Or.inr (Or.inr (Or.inr (Or.inr (Or.inr (Or.inr (Or.inr (Or.inr (Or.inr (Or.inr (Or.inr (Or.inr (Or.inr (Or.inr (Or.inr (Or.inr (Or.inr (Or.inr (Or.inr (Or.inr (Or.inl h))))))))))))))))))))))))) (fun q => q.elim (fun h => hm (Or.inr (Or.inr (Or.inr (Or.inr (Or.inr (Or.inr (Or.inr (Or.inr (Or.inr (Or.inr (Or.inr (Or.inr (Or.inr (Or.inr (Or.inr (Or.inr (Or.inr (Or.inr (Or.inr (Or.inr (Or.inr (Or.inr (Or.inr (Or.inr (Or.inl h)))))))))))))))))))))))))) (fun q => q.elim (fun h => hm (Or.inr (Or.inr (Or.inr (Or.inr (Or.inr (Or.inr (Or.inr (Or.inr (Or.inr (Or.inr (Or.inr (Or.inr (Or.inr (Or.inr (Or.inr (Or.inr (Or.inr (Or.inr (Or.inr (Or.inr (Or.inr (Or.inr (Or.inr (Or.inr (Or.inr (Or.inl h))))))))))))))))))))))))))) (fun q => q.elim (fun h => hm (Or.inr (Or.inr (Or.inr (Or.inr (Or.inr (Or.inr (Or.inr (Or.inr (Or.inr (Or.inr (Or.inr (Or.inr (Or.inr (Or.inr (Or.inr (Or.inr (Or.inr (Or.inr (Or.inr (Or.inr (Or.inr (Or.inr (Or.inr (Or.inr (Or.inr (Or.inr (Or.inl h)))))))))))))))))))))))))))) (fun q => q.elim (fun h => hm (Or.inr (Or.inr (Or.inr (Or.inr (Or.inr (Or.inr (Or.inr (Or.inr (Or.inr (Or.inr (Or.inr (Or.inr (Or.inr (Or.inr (Or.inr (Or.inr (Or.inr (Or.inr (Or.inr (Or.inr (Or.inr (Or.inr (Or.inr (Or.inr (Or.inr (Or.inr (Or.inr (Or.inl h))))))))))))))))))))))))))))) (fun q => q.elim (fun h => hm (Or.inr (Or.inr (Or.inr (Or.inr (Or.inr (Or.inr (Or.inr (Or.inr (Or.inr (Or.inr (Or.inr (Or.inr (Or.inr (Or.inr (Or.inr (Or.inr (Or.inr (Or.inr (Or.inr (Or.inr (Or.inr (Or.inr (Or.inr (Or.inr (Or.inr (Or.inr (Or.inr (Or.inr (Or.inl h)))))))))))))))))))))))))))))) (fun q => q.elim (fun h => hm (Or.inr (Or.inr (Or.inr (Or.inr (Or.inr (Or.inr (Or.inr (Or.inr (Or.inr (Or.inr (Or.inr (Or.inr (Or.inr (Or.inr (Or.inr (Or.inr (Or.inr (Or.inr (Or.inr (Or.inr (Or.inr (Or.inr (Or.inr (Or.inr (Or.inr (Or.inr (Or.inr (Or.inr (Or.inr (Or.inl h))))))))))))))))))))))))))))))) (fun h => hm (Or.inr (Or.inr (Or.inr (Or.inr (Or.inr (Or.inr (Or.inr (Or.inr (Or.inr (Or.inr (Or.inr (Or.inr (Or.inr (Or.inr (Or.inr (Or.inr (Or.inr (Or.inr (Or.inr (Or.inr (Or.inr (Or.inr (Or.inr (Or.inr (Or.inr (Or.inr (Or.inr (Or.inr (Or.inr (Or.inr h)))))))))))))))))))))))))))))))))))))))))))))).trans ((hF_28 a j (fun h => hm (Or.inr (Or.inr (Or.inr (Or.inr (Or.inr (Or.inr (Or.inr (Or.inr (Or.inl h))))))))))).trans ((hF_17 a j (fun h => hm (Or.inr (Or.inr (Or.inr (Or.inr (Or.inl h))))))).trans (hF a j (fun q => q.elim (fun h => hm (Or.inl h)) (fun q => q.elim (fun h => hm (Or.inr (Or.inl h))) (fun q => q.elim (fun h => hm (Or.inr (Or.inr (Or.inl h)))) (fun q => q.elim (fun h => hm (Or.inr (Or.inr (Or.inr (Or.inl h))))) (fun q => q.elim (fun h => hm (Or.inr (Or.inr (Or.inr (Or.inr (Or.inl h)))))) (fun q => q.elim (fun h => hm (Or.inr (Or.inr (Or.inr (Or.inr (Or.inr (Or.inl h))))))) (fun q => q.elim (fun h => hm (Or.inr (Or.inr (Or.inr (Or.inr (Or.inr (Or.inr (Or.inl h)))))))) (fun q => q.elim (fun h => hm (Or.inr (Or.inr (Or.inr (Or.inr (Or.inr (Or.inr (Or.inr (Or.inl h))))))))) (fun q => q.elim (fun h => hm (Or.inr (Or.inr (Or.inr (Or.inr (Or.inr (Or.inr (Or.inr (Or.inr (Or.inl h)))))))))) (fun q => q.elim (fun h => hm (Or.inr (Or.inr (Or.inr (Or.inr (Or.inr (Or.inr (Or.inr (Or.inr (Or.inr (Or.inl h))))))))))) (fun q => q.elim (fun h => hm (Or.inr (Or.inr (Or.inr (Or.inr (Or.inr (Or.inr (Or.inr (Or.inr (Or.inr (Or.inr (Or.inl h)))))))))))) (fun q => q.elim (fun h => hm (Or.inr (Or.inr (Or.inr (Or.inr (Or.inr (Or.inr (Or.inr (Or.inr (Or.inr (Or.inr (Or.inr (Or.inl h))))))))))))) (fun q => q.elim (fun h => hm (Or.inr (Or.inr (Or.inr (Or.inr (Or.inr (Or.inr (Or.inr (Or.inr (Or.inr (Or.inr (Or.inr (Or.inr (Or.inl h)))))))))))))) (fun q => q.elim (fun h => hm (Or.inr (Or.inr (Or.inr (Or.inr (Or.inr (Or.inr (Or.inr (Or.inr (Or.inr (Or.inr (Or.inr (Or.inr (Or.inr (Or.inl h))))))))))))))) (fun q => q.elim (fun h => hm (Or.inr (Or.inr (Or.inr (Or.inr (Or.inr (Or.inr (Or.inr (Or.inr (Or.inr (Or.inr (Or.inr (Or.inr (Or.inr (Or.inr (Or.inl h)))))))))))))))) (fun q => q.elim (fun h => hm (Or.inr (Or.inr (Or.inr (Or.inr (Or.inr (Or.inr (Or.inr (Or.inr (Or.inr (Or.inr (Or.inr (Or.inr (Or.inr (Or.inr (Or.inr (Or.inl h))))))))))))))))) (fun q => q.elim (fun h => hm (Or.inr (Or.inr (Or.inr (Or.inr (Or.inr (Or.inr (Or.inr (Or.inr (Or.inr (Or.inr (Or.inr (Or.inr (Or.inr (Or.inr (Or.inr (Or.inr (Or.inl h)))))))))))))))))) (fun q => q.elim (fun h => hm (Or.inr (Or.inr (Or.inr (Or.inr (Or.inr (Or.inr (Or.inr (Or.inr (Or.inr (Or.inr (Or.inr (Or.inr (Or.inr (Or.inr (Or.inr (Or.inr (Or.inr (Or.inl h))))))))))))))))))) (fun q => q.elim (fun h => hm (Or.inr (Or.inr (Or.inr (Or.inr (Or.inr (Or.inr (Or.inr (Or.inr (Or.inr (Or.inr (Or.inr (Or.inr (Or.inr (Or.inr (Or.inr (Or.inr (Or.inr (Or.inr (Or.inl h)))))))))))))))))))) (fun q => q.elim (fun h => hm (Or.inr (Or.inr (Or.inr (Or.inr (Or.inr (Or.inr (Or.inr (Or.inr (Or.inr (Or.inr (Or.inr (Or.inr (Or.inr (Or.inr (Or.inr (Or.inr (Or.inr (Or.inr (Or.inr (Or.inl h))))))))))))))))))))) (fun q => q.elim (fun h => hm (Or.inr (Or.inr (Or.inr (Or.inr (Or.inr (Or.inr (Or.inr (Or.inr (Or.inr (Or.inr (Or.inr (Or.inr (Or.inr (Or.inr (Or.inr (Or.inr (Or.inr (Or.inr (Or.inr (Or.inr (Or.inl h)))))))))))))))))))))) (fun q => q.elim (fun h => hm (Or.inr (Or.inr (Or.inr (Or.inr (Or.inr (Or.inr (Or.inr (Or.inr (Or.inr (Or.inr (Or.inr (Or.inr (Or.inr (Or.inr (Or.inr (Or.inr (Or.inr (Or.inr (Or.inr (Or.inr (Or.inr (Or.inl h))))))))))))))))))))))) (fun q => q.elim (fun h => hm (Or.inr (Or.inr (Or.inr (Or.inr (Or.inr (Or.inr (Or.inr (Or.inr (Or.inr (Or.inr (Or.inr (Or.inr (Or.inr (Or.inr (Or.inr (Or.inr (Or.inr (Or.inr (Or.inr (Or.inr (Or.inr (Or.inr (Or.inl h)))))))))))))))))))))))) (fun q => q.elim (fun h => hm (Or.inr (Or.inr (Or.inr (Or.inr (Or.inr (Or.inr (Or.inr (Or.inr (Or.inr (Or.inr (Or.inr (Or.inr (Or.inr (Or.inr (Or.inr (Or.inr (Or.inr (Or.inr (Or.inr (Or.inr (Or.inr (Or.inr (Or.inr (Or.inl h))))))))))))))))))))))))) (fun q => q.elim (fun h => hm (Or.inr (Or.inr (Or.inr (Or.inr (Or.inr (Or.inr (Or.inr (Or.inr (Or.inr (Or.inr (Or.inr (Or.inr (Or.inr (Or.inr (Or.inr (Or.inr (Or.inr (Or.inr (Or.inr (Or.inr (Or.inr (Or.inr (Or.inr (Or.inr (Or.inl h)))))))))))))))))))))))))) (fun q => q.elim (fun h => hm (Or.inr (Or.inr (Or.inr (Or.inr (Or.inr (Or.inr (Or.inr (Or.inr (Or.inr (Or.inr (Or.inr (Or.inr (Or.inr (Or.inr (Or.inr (Or.inr (Or.inr (Or.inr (Or.inr (Or.inr (Or.inr (Or.inr (Or.inr (Or.inr (Or.inr (Or.inl h))))))))))))))))))))))))))) (fun q => q.elim (fun h => hm (Or.inr (Or.inr (Or.inr (Or.inr (Or.inr (Or.inr (Or.inr (Or.inr (Or.inr (Or.inr (Or.inr (Or.inr (Or.inr (Or.inr (Or.inr (Or.inr (Or.inr (Or.inr (Or.inr (Or.inr (Or.inr (Or.inr (Or.inr (Or.inr (Or.inr (Or.inr (Or.inl h)))))))))))))))))))))))))))) (fun q => q.elim (fun h => hm (Or.inr (Or.inr (Or.inr (Or.inr (Or.inr (Or.inr (Or.inr (Or.inr (Or.inr (Or.inr (Or.inr (Or.inr (Or.inr (Or.inr (Or.inr (Or.inr (Or.inr (Or.inr (Or.inr (Or.inr (Or.inr (Or.inr (Or.inr (Or.inr (Or.inr (Or.inr (Or.inr (Or.inl h))))))))))))))))))))))))))))) (fun q => q.elim (fun h => hm (Or.inr (Or.inr (Or.inr (Or.inr (Or.inr (Or.inr (Or.inr (Or.inr (Or.inr (Or.inr (Or.inr (Or.inr (Or.inr (Or.inr (Or.inr (Or.inr (Or.inr (Or.inr (Or.inr (Or.inr (Or.inr (Or.inr (Or.inr (Or.inr (Or.inr (Or.inr (Or.inr (Or.inr (Or.inl h)))))))))))))))))))))))))))))) (fun q => q.elim (fun h => hm (Or.inr (Or.inr (Or.inr (Or.inr (Or.inr (Or.inr (Or.inr (Or.inr (Or.inr (Or.inr (Or.inr (Or.inr (Or.inr (Or.inr (Or.inr (Or.inr (Or.inr (Or.inr (Or.inr (Or.inr (Or.inr (Or.inr (Or.inr (Or.inr (Or.inr (Or.inr (Or.inr (Or.inr (Or.inr (Or.inl h))))))))))))))))))))))))))))))) (fun h => hm (Or.inr (Or.inr (Or.inr (Or.inr (Or.inr (Or.inr (Or.inr (Or.inr (Or.inr (Or.inr (Or.inr (Or.inr (Or.inr (Or.inr (Or.inr (Or.inr (Or.inr (Or.inr (Or.inr (Or.inr (Or.inr (Or.inr (Or.inr (Or.inr (Or.inr (Or.inr (Or.inr (Or.inr (Or.inr (Or.inr h))))))))))))))))))))))))))))))))))))))))))))))))))))))))))))))))) hy_29 (Or.inl ⟨by first | (clear h_1 h_2 h_3 h_4 h_14 h_22 h_19 h_23 h_24 h_34 h_38 h_42 h_50 h_51 h_52 h_53 h_54 h_55 h_56 h_57 h_58 h_59 h_49 h_20 h_21; omega) | omega, by first | (clear h_1 h_2 h_3 h_4 h_14 h_22 h_19 h_23 h_24 h_34 h_38 h_42 h_50 h_51 h_52 h_53 h_54 h_55 h_56 h_57 h_58 h_59 h_49 h_20 h_21; omega) | omega, by first | (clear h_1 h_2 h_3 h_4 h_14 h_22 h_19 h_23 h_24 h_34 h_38 h_42 h_50 h_51 h_52 h_53 h_54 h_55 h_56 h_57 h_58 h_59 h_49 h_20 h_21; omega) | omega, by first | (clear h_1 h_2 h_3 h_4 h_14 h_22 h_19 h_23 h_24 h_34 h_38 h_42 h_50 h_51 h_52 h_53 h_54 h_55 h_56 h_57 h_58 h_59 h_49 h_20 h_21; omega) | omega⟩)
      · refine v_if_eq_f (t := 136) rfl (by decide) ⟨h_23, ⟨(Int.le_trans (by decide) hy_18.1), (Int.le_trans hy_18.2 (by decide))⟩, by decide, by decide⟩ ?_
        refine q_aload_n rfl rfl ?_
        have kn_64 : Hid (c_15 41 3 = c2 41 3) := hF_17 41 3 (fun h => absurd h.2 (ni rfl))
        have h_65 : c_15 41 3 = c2 41 3 := (hid kn_64)
        refine v_cv rfl rfl rfl rfl (by decide) ⟨⟨rfl, rfl⟩, by decide, rfl⟩ (Nat.le_of_ble_eq_true rfl) (Nat.le_of_ble_eq_true rfl) (s_157 hI_16 (fun c_66 y_69 hI_67 hF_68 hy_69 h_70 h_71 h_72 h_73 h_74 => ?_))
        refine bk_inl ?_
        have h_75 := ir_41_4 hI_67
        have h_76 := ir_43 hI (c_66 41 4)
        have kn_77 : Hid (c2 43 (c_66 41 4) = c 43 (c_66 41 4)) := hF 43 (c_66 41 4) (fun q => q.elim (fun h => absurd h.1 (nn rfl)) (fun q => q.elim (fun h => absurd h (nn rfl)) (fun q => q.elim (fun h => absurd h.1 (nn rfl)) (fun q => q.elim (fun h => absurd h.1 (nn rfl)) (fun q => q.elim (fun h => absurd h.1 (nn rfl)) (fun q => q.elim (fun h => absurd h.1 (nn rfl)) (fun q => q.elim (fun h => absurd h.1 (nn rfl)) (fun q => q.elim (fun h => absurd h.1 (nn rfl)) (fun q => q.elim (fun h => absurd h.1 (nn rfl)) (fun q => q.elim (fun h => absurd h.1 (nn rfl)) (fun q => q.elim (fun h => absurd h.1 (nn rfl)) (fun q => q.elim (fun h => absurd h.1 (nn rfl)) (fun q => q.elim (fun h => absurd h.1 (nn rfl)) (fun q => q.elim (fun h => absurd h (nn rfl)) (fun q => q.elim (fun h => absurd h (nn rfl)) (fun q => q.elim (fun h => absurd h (nn rfl)) (fun q => q.elim (fun h => absurd h.1 (nn rfl)) (fun q => q.elim (fun h => absurd h.1 (nn rfl)) (fun q => q.elim (fun h => absurd h.1 (nn rfl)) (fun q => q.elim (fun h => absurd h.1 (nn rfl)) (fun q => q.elim (fun h => absurd h.1 (nn rfl)) (fun q => q.elim (fun h => absurd h.1 (nn rfl)) (fun q => q.elim (fun h => absurd h.1 (nn rfl)) (fun q => q.elim (fun h => absurd h.1 (nn rfl)) (fun q => q.elim (fun h => absurd h.1 (nn rfl)) (fun q => q.elim (fun h => absurd h.1 (nn rfl)) (fun q => q.elim (fun h => absurd h (nn rfl)) (fun q => q.elim (fun h => absurd h (nn rfl)) (fun q => q.elim (fun h => absurd h (nn rfl)) (fun q => q.elim (fun h => absurd h (nn rfl)) (fun h => absurd h (nn rfl))))))))))))))))))))))))))))))))
        have kn_78 : Hid (c_15 43 (c_66 41 4) = c 43 (c_66 41 4)) := (hF_17 43 (c_66 41 4) (fun h => absurd h.1 (nn rfl))).trans (hid kn_77)
        have h_79 : c_15 43 (c_66 41 4) = c 43 (c_66 41 4) := (hid kn_78)
        have h_80 := ir_43 hI (c_66 41 4 + 1)
        have kn_81 : Hid (c2 43 (c_66 41 4 + 1) = c 43 (c_66 41 4 + 1)) := hF 43 (c_66 41 4 + 1) (fun q => q.elim (fun h => absurd h.1 (nn rfl)) (fun q => q.elim (fun h => absurd h (nn rfl)) (fun q => q.elim (fun h => absurd h.1 (nn rfl)) (fun q => q.elim (fun h => absurd h.1 (nn rfl)) (fun q => q.elim (fun h => absurd h.1 (nn rfl)) (fun q => q.elim (fun h => absurd h.1 (nn rfl)) (fun q => q.elim (fun h => absurd h.1 (nn rfl)) (fun q => q.elim (fun h => absurd h.1 (nn rfl)) (fun q => q.elim (fun h => absurd h.1 (nn rfl)) (fun q => q.elim (fun h => absurd h.1 (nn rfl)) (fun q => q.elim (fun h => absurd h.1 (nn rfl)) (fun q => q.elim (fun h => absurd h.1 (nn rfl)) (fun q => q.elim (fun h => absurd h.1 (nn rfl)) (fun q => q.elim (fun h => absurd h (nn rfl)) (fun q => q.elim (fun h => absurd h (nn rfl)) (fun q => q.elim (fun h => absurd h (nn rfl)) (fun q => q.elim (fun h => absurd h.1 (nn rfl)) (fun q => q.elim (fun h => absurd h.1 (nn rfl)) (fun q => q.elim (fun h => absurd h.1 (nn rfl)) (fun q => q.elim (fun h => absurd h.1 (nn rfl)) (fun q => q.elim (fun h => absurd h.1 (nn rfl)) (fun q => q.elim (fun h => absurd h.1 (nn rfl)) (fun q => q.elim (fun h => absurd h.1 (nn rfl)) (fun q => q.elim (fun h => absurd h.1 (nn rfl)) (fun q => q.elim (fun h => absurd h.1 (nn rfl)) (fun q => q.elim (fun h => absurd h.1 (nn rfl)) (fun q => q.elim (fun h => absurd h (nn rfl)) (fun q => q.elim (fun h => absurd h (nn rfl)) (fun q => q.elim (fun h => absurd h (nn rfl)) (fun q => q.elim (fun h => absurd h (nn rfl)) (fun h => absurd h (nn rfl))))))))))))))))))))))))))))))))
        have kn_82 : Hid (c_15 43 (c_66 41 4 + 1) = c 43 (c_66 41 4 + 1)) := (hF_17 43 (c_66 41 4 + 1) (fun h => absurd h.1 (nn rfl))).trans (hid kn_81)
        have h_83 : c_15 43 (c_66 41 4 + 1) = c 43 (c_66 41 4 + 1) := (hid kn_82)
        have h_84 := ir_43 hI (c_66 41 4 + 2)
        have kn_85 : Hid (c2 43 (c_66 41 4 + 2) = c 43 (c_66 41 4 + 2)) := hF 43 (c_66 41 4 + 2) (fun q => q.elim (fun h => absurd h.1 (nn rfl)) (fun q => q.elim (fun h => absurd h (nn rfl)) (fun q => q.elim (fun h => absurd h.1 (nn rfl)) (fun q => q.elim (fun h => absurd h.1 (nn rfl)) (fun q => q.elim (fun h => absurd h.1 (nn rfl)) (fun q => q.elim (fun h => absurd h.1 (nn rfl)) (fun q => q.elim (fun h => absurd h.1 (nn rfl)) (fun q => q.elim (fun h => absurd h.1 (nn rfl)) (fun q => q.elim (fun h => absurd h.1 (nn rfl)) (fun q => q.elim (fun h => absurd h.1 (nn rfl)) (fun q => q.elim (fun h => absurd h.1 (nn rfl)) (fun q => q.elim (fun h => absurd h.1 (nn rfl)) (fun q => q.elim (fun h => absurd h.1 (nn rfl)) (fun q => q.elim (fun h => absurd h (nn rfl)) (fun q => q.elim (fun h => absurd h (nn rfl)) (fun q => q.elim (fun h => absurd h (nn rfl)) (fun q => q.elim (fun h => absurd h.1 (nn rfl)) (fun q => q.elim (fun h => absurd h.1 (nn rfl)) (fun q => q.elim (fun h => absurd h.1 (nn rfl)) (fun q => q.elim (fun h => absurd h.1 (nn rfl)) (fun q => q.elim (fun h => absurd h.1 (nn rfl)) (fun q => q.elim (fun h => absurd h.1 (nn rfl)) (fun q => q.elim (fun h => absurd h.1 (nn rfl)) (fun q => q.elim (fun h => absurd h.1 (nn rfl)) (fun q => q.elim (fun h => absurd h.1 (nn rfl)) (fun q => q.elim (fun h => absurd h.1 (nn rfl)) (fun q => q.elim (fun h => absurd h (nn rfl)) (fun q => q.elim (fun h => absurd h (nn rfl)) (fun q => q.elim (fun h => absurd h (nn rfl)) (fun q => q.elim (fun h => absurd h (nn rfl)) (fun h => absurd h (nn rfl))))))))))))))))))))))))))))))))
        have kn_86 : Hid (c_15 43 (c_66 41 4 + 2) = c 43 (c_66 41 4 + 2)) := (hF_17 43 (c_66 41 4 + 2) (fun h => absurd h.1 (nn rfl))).trans (hid kn_85)
        have h_87 : c_15 43 (c_66 41 4 + 2) = c 43 (c_66 41 4 + 2) := (hid kn_86)
        refine q_istore_n rfl (by decide) ?_
        refine q_iload_n rfl rfl ?_
        refine q_call rfl rfl rfl rfl (s_166 (a0 := y_69) hI_67 (show (-2147483648) ≤ y_69 ∧ y_69 ≤ 2147483647 from hy_69) (fun y_88 hy_88 h_89 => ?_))
        refine bk_inl ?_
        by_cases h_90 : y_88 ≠ 0
        · refine v_if_ne_t (t := 82) rfl (by decide) ⟨h_90, ⟨(Int.le_trans (by decide) hy_88.1), (Int.le_trans hy_88.2 (by decide))⟩, by decide, by decide⟩ ?_
          refine q_iload_n rfl rfl ?_
          refine v_bip rfl (by decide) ?_
          by_cases h_91 : v2 = 60
          · refine v_ic_eq_t (t := 96) rfl (by decide) h_91 ?_
            refine q_aload_n rfl rfl ?_
            refine q_iconst rfl ?_
            refine q_aload_n rfl rfl ?_
            refine v_gi (z := 4) (v := c_66 41 4) rfl rfl rfl (by decide) rfl rfl rfl ?_
            refine v_cv rfl rfl rfl rfl (by decide) ⟨⟨rfl, rfl⟩, by decide, rfl⟩ (Nat.le_of_ble_eq_true rfl) (Nat.le_of_ble_eq_true rfl) (s_153 (a1 := 3) (a2 := c_66 41 4) hI_67 (show 1 ≤ 3 ∧ 3 ≤ 3 from ⟨by decide, by decide⟩) (show 0 ≤ c_66 41 4 ∧ c_66 41 4 ≤ 605 from h_75) (fun c_92 hI_93 hF_94 h_95 => ?_))
            refine bk_inl ?_
            have h_96 := ir_41_5 hI_93
            refine q_aload_n rfl rfl ?_
            refine v_cv rfl rfl rfl rfl (by decide) ⟨⟨rfl, rfl⟩, by decide, rfl⟩ (Nat.le_of_ble_eq_true rfl) (Nat.le_of_ble_eq_true rfl) ?_
            refine q_aload_n rfl rfl ?_
            refine v_gi (z := 5) (v := c_92 41 5) rfl rfl rfl (by decide) rfl rfl rfl ?_
            refine q_iconst rfl ?_
            refine v_ic_ne_t (t := 12) rfl (by decide) ⟨by first | (clear h_1 h_2 h_3 h_4 h_14 h_22 h_19 h_75 h_70 h_76 h_80 h_84 h_91 h_20 h_21 h_71 h_72 h_73 h_74 h_89 h_90; omega) | omega, ⟨(Int.le_trans (by decide) h_96.1), (Int.le_trans h_96.2 (by decide))⟩, by decide, by decide⟩ ?_
            refine q_iconst rfl ?_
            refine v_zret rfl rfl (by decide) ?_
            refine bk_inl ?_
            refine v_if_ne_f (t := 115) rfl (by decide) (by decide) ?_
            refine q_goto (t := 136) rfl (by decide) ?_
            refine q_aload_n rfl rfl ?_
            refine q_aload_n rfl rfl ?_
            have h_97 := ir_41_16 hI2
            have kn_98 : Hid (c_15 41 16 = c2 41 16) := hF_17 41 16 (fun h => absurd h.2 (ni rfl))
            have kn_99 : Hid (c_66 41 16 = c2 41 16) := (hF_68 41 16 (fun h => absurd h.2 (ni rfl))).trans (hid kn_98)
            have kn_100 : Hid (c_92 41 16 = c2 41 16) := (hF_94 41 16 (fun q => q.elim (fun h => absurd h.2 (ni rfl)) (fun h => absurd h.2 (ni rfl)))).trans (hid kn_99)
            refine v_gi (z := 16) (v := c2 41 16) rfl rfl rfl (by decide) rfl rfl (hid kn_100) ?_
            refine v_cv rfl rfl rfl rfl (by decide) ⟨⟨rfl, rfl⟩, by decide, rfl⟩ (Nat.le_of_ble_eq_true rfl) (Nat.le_of_ble_eq_true rfl) (s_164 (a1 := c2 41 16) hI_93 (show (-2147483648) ≤ c2 41 16 ∧ c2 41 16 ≤ 2147483647 from ⟨by first | (clear h_1 h_2 h_3 h_4 h_14 h_22 h_19 h_75 h_70 h_76 h_80 h_84 h_91 h_96 h_20 h_21 h_71 h_72 h_73 h_74 h_89 h_90 h_95; omega) | omega, by first | (clear h_1 h_2 h_3 h_4 h_14 h_22 h_19 h_75 h_70 h_76 h_80 h_84 h_91 h_96 h_20 h_21 h_71 h_72 h_73 h_74 h_89 h_90 h_95; omega) | omega⟩) (fun c_101 y_104 hI_102 hF_103 hy_104 => ?_))
            refine bk_inl ?_
            refine q_istore_n rfl (by decide) ?_
            refine q_aload_n rfl rfl ?_
            have kn_105 : Hid (c_101 41 5 = c_92 41 5) := hF_103 41 5 (fun h => absurd h.2 (ni rfl))
            refine v_gi (z := 5) (v := c_92 41 5) rfl rfl rfl (by decide) rfl rfl (hid kn_105) ?_
            refine q_iconst rfl ?_
            refine v_ic_ne_t (t := 157) rfl (by decide) ⟨by first | (clear h_1 h_2 h_3 h_4 h_14 h_22 h_19 h_75 h_70 h_76 h_80 h_84 h_91 h_97 h_20 h_21 h_71 h_72 h_73 h_74 h_89 h_90; omega) | omega, ⟨(Int.le_trans (by decide) h_96.1), (Int.le_trans h_96.2 (by decide))⟩, by decide, by decide⟩ ?_
            refine q_iload_n rfl rfl ?_
            refine q_iret rfl rfl ?_
            have kn_106 : Hid (c_15 41 2 = c2 41 2) := hF_17 41 2 (fun h => absurd h.2 (ni rfl))
            have kn_107 : Hid (c_66 41 2 = c2 41 2) := (hF_68 41 2 (fun h => absurd h.2 (ni rfl))).trans (hid kn_106)
            have kn_108 : Hid (c_92 41 2 = c2 41 2) := (hF_94 41 2 (fun q => q.elim (fun h => absurd h.2 (ni rfl)) (fun h => absurd h.2 (ni rfl)))).trans (hid kn_107)
            have kn_109 : Hid (c_101 41 2 = c2 41 2) := (hF_103 41 2 (fun h => absurd h.2 (ni rfl))).trans (hid kn_108)
            have h_110 : c_101 41 2 = c2 41 2 := (hid kn_109)
            exact K c_101 y_104 hI_102 (fun a j hm => (hF_103 a j (fun h => hm (Or.inr (Or.inr (Or.inr (Or.inr (Or.inr (Or.inr (Or.inr (Or.inr (Or.inl h))))))))))).trans ((hF_94 a j (fun q => q.elim (fun h => hm (Or.inr (Or.inr (Or.inr (Or.inr (Or.inr (Or.inl h))))))) (fun h => hm (Or.inr (Or.inr (Or.inr (Or.inr (Or.inr (Or.inr (Or.inl h)))))))))).trans ((hF_68 a j (fun h => hm (Or.inr (Or.inr (Or.inr (Or.inr (Or.inl h))))))).trans ((hF_17 a j (fun h => hm (Or.inr (Or.inr (Or.inr (Or.inr (Or.inl h))))))).trans (hF a j (fun q => q.elim (fun h => hm (Or.inl h)) (fun q => q.elim (fun h => hm (Or.inr (Or.inl h))) (fun q => q.elim (fun h => hm (Or.inr (Or.inr (Or.inl h)))) (fun q => q.elim (fun h => hm (Or.inr (Or.inr (Or.inr (Or.inl h))))) (fun q => q.elim (fun h => hm (Or.inr (Or.inr (Or.inr (Or.inr (Or.inl h)))))) (fun q => q.elim (fun h => hm (Or.inr (Or.inr (Or.inr (Or.inr (Or.inr (Or.inl h))))))) (fun q => q.elim (fun h => hm (Or.inr (Or.inr (Or.inr (Or.inr (Or.inr (Or.inr (Or.inl h)))))))) (fun q => q.elim (fun h => hm (Or.inr (Or.inr (Or.inr (Or.inr (Or.inr (Or.inr (Or.inr (Or.inl h))))))))) (fun q => q.elim (fun h => hm (Or.inr (Or.inr (Or.inr (Or.inr (Or.inr (Or.inr (Or.inr (Or.inr (Or.inl h)))))))))) (fun q => q.elim (fun h => hm (Or.inr (Or.inr (Or.inr (Or.inr (Or.inr (Or.inr (Or.inr (Or.inr (Or.inr (Or.inl h))))))))))) (fun q => q.elim (fun h => hm (Or.inr (Or.inr (Or.inr (Or.inr (Or.inr (Or.inr (Or.inr (Or.inr (Or.inr (Or.inr (Or.inl h)))))))))))) (fun q => q.elim (fun h => hm (Or.inr (Or.inr (Or.inr (Or.inr (Or.inr (Or.inr (Or.inr (Or.inr (Or.inr (Or.inr (Or.inr (Or.inl h))))))))))))) (fun q => q.elim (fun h => hm (Or.inr (Or.inr (Or.inr (Or.inr (Or.inr (Or.inr (Or.inr (Or.inr (Or.inr (Or.inr (Or.inr (Or.inr (Or.inl h)))))))))))))) (fun q => q.elim (fun h => hm (Or.inr (Or.inr (Or.inr (Or.inr (Or.inr (Or.inr (Or.inr (Or.inr (Or.inr (Or.inr (Or.inr (Or.inr (Or.inr (Or.inl h))))))))))))))) (fun q => q.elim (fun h => hm (Or.inr (Or.inr (Or.inr (Or.inr (Or.inr (Or.inr (Or.inr (Or.inr (Or.inr (Or.inr (Or.inr (Or.inr (Or.inr (Or.inr (Or.inl h)))))))))))))))) (fun q => q.elim (fun h => hm (Or.inr (Or.inr (Or.inr (Or.inr (Or.inr (Or.inr (Or.inr (Or.inr (Or.inr (Or.inr (Or.inr (Or.inr (Or.inr (Or.inr (Or.inr (Or.inl h))))))))))))))))) (fun q => q.elim (fun h => hm (Or.inr (Or.inr (Or.inr (Or.inr (Or.inr (Or.inr (Or.inr (Or.inr (Or.inr (Or.inr (Or.inr (Or.inr (Or.inr (Or.inr (Or.inr (Or.inr (Or.inl h)))))))))))))))))) (fun q => q.elim (fun h => hm (Or.inr (Or.inr (Or.inr (Or.inr (Or.inr (Or.inr (Or.inr (Or.inr (Or.inr (Or.inr (Or.inr (Or.inr (Or.inr (Or.inr (Or.inr (Or.inr (Or.inr (Or.inl h))))))))))))))))))) (fun q => q.elim (fun h => hm (Or.inr (Or.inr (Or.inr (Or.inr (Or.inr (Or.inr (Or.inr (Or.inr (Or.inr (Or.inr (Or.inr (Or.inr (Or.inr (Or.inr (Or.inr (Or.inr (Or.inr (Or.inr (Or.inl h)))))))))))))))))))) (fun q => q.elim (fun h => hm (Or.inr (Or.inr (Or.inr (Or.inr (Or.inr (Or.inr (Or.inr (Or.inr (Or.inr (Or.inr (Or.inr (Or.inr (Or.inr (Or.inr (Or.inr (Or.inr (Or.inr (Or.inr (Or.inr (Or.inl h))))))))))))))))))))) (fun q => q.elim (fun h => hm (Or.inr (Or.inr (Or.inr (Or.inr (Or.inr (Or.inr (Or.inr (Or.inr (Or.inr (Or.inr (Or.inr (Or.inr (Or.inr (Or.inr (Or.inr (Or.inr (Or.inr (Or.inr (Or.inr (Or.inr (Or.inl h)))))))))))))))))))))) (fun q => q.elim (fun h => hm (Or.inr (Or.inr (Or.inr (Or.inr (Or.inr (Or.inr (Or.inr (Or.inr (Or.inr (Or.inr (Or.inr (Or.inr (Or.inr (Or.inr (Or.inr (Or.inr (Or.inr (Or.inr (Or.inr (Or.inr (Or.inr (Or.inl h))))))))))))))))))))))) (fun q => q.elim (fun h => hm (Or.inr (Or.inr (Or.inr (Or.inr (Or.inr (Or.inr (Or.inr (Or.inr (Or.inr (Or.inr (Or.inr (Or.inr (Or.inr (Or.inr (Or.inr (Or.inr (Or.inr (Or.inr (Or.inr (Or.inr (Or.inr (Or.inr (Or.inl h)))))))))))))))))))))))) (fun q => q.elim (fun h => hm (Or.inr (Or.inr (Or.inr (Or.inr (Or.inr (Or.inr (Or.inr (Or.inr (Or.inr (Or.inr (Or.inr (Or.inr (Or.inr (Or.inr (Or.inr (Or.inr (Or.inr (Or.inr (Or.inr (Or.inr (Or.inr (Or.inr (Or.inr (Or.inl h))))))))))))))))))))))))) (fun q => q.elim (fun h => hm (Or.inr (Or.inr (Or.inr (Or.inr (Or.inr (Or.inr (Or.inr (Or.inr (Or.inr (Or.inr (Or.inr (Or.inr (Or.inr (Or.inr (Or.inr (Or.inr (Or.inr (Or.inr (Or.inr (Or.inr (Or.inr (Or.inr (Or.inr (Or.inr (Or.inl h)))))))))))))))))))))))))) (fun q => q.elim (fun h => hm (Or.inr (Or.inr (Or.inr (Or.inr (Or.inr (Or.inr (Or.inr (Or.inr (Or.inr (Or.inr (Or.inr (Or.inr (Or.inr (Or.inr (Or.inr (Or.inr (Or.inr (Or.inr (Or.inr (Or.inr (Or.inr (Or.inr (Or.inr (Or.inr (Or.inr (Or.inl h))))))))))))))))))))))))))) (fun q => q.elim (fun h => hm (Or.inr (Or.inr (Or.inr (Or.inr (Or.inr (Or.inr (Or.inr (Or.inr (Or.inr (Or.inr (Or.inr (Or.inr (Or.inr (Or.inr (Or.inr (Or.inr (Or.inr (Or.inr (Or.inr (Or.inr (Or.inr (Or.inr (Or.inr (Or.inr (Or.inr (Or.inr (Or.inl h)))))))))))))))))))))))))))) (fun q => q.elim (fun h => hm (Or.inr (Or.inr (Or.inr (Or.inr (Or.inr (Or.inr (Or.inr (Or.inr (Or.inr (Or.inr (Or.inr (Or.inr (Or.inr (Or.inr (Or.inr (Or.inr (Or.inr (Or.inr (Or.inr (Or.inr (Or.inr (Or.inr (Or.inr (Or.inr (Or.inr (Or.inr (Or.inr (Or.inl h))))))))))))))))))))))))))))) (fun q => q.elim (fun h => hm (Or.inr (Or.inr (Or.inr (Or.inr (Or.inr (Or.inr (Or.inr (Or.inr (Or.inr (Or.inr (Or.inr (Or.inr (Or.inr (Or.inr (Or.inr (Or.inr (Or.inr (Or.inr (Or.inr (Or.inr (Or.inr (Or.inr (Or.inr (Or.inr (Or.inr (Or.inr (Or.inr (Or.inr (Or.inl h)))))))))))))))))))))))))))))) (fun q => q.elim (fun h => hm (Or.inr (Or.inr (Or.inr (Or.inr (Or.inr (Or.inr (Or.inr (Or.inr (Or.inr (Or.inr (Or.inr (Or.inr (Or.inr (Or.inr (Or.inr (Or.inr (Or.inr (Or.inr (Or.inr (Or.inr (Or.inr (Or.inr (Or.inr (Or.inr (Or.inr (Or.inr (Or.inr (Or.inr (Or.inr (Or.inl h))))))))))))))))))))))))))))))) (fun h => hm (Or.inr (Or.inr (Or.inr (Or.inr (Or.inr (Or.inr (Or.inr (Or.inr (Or.inr (Or.inr (Or.inr (Or.inr (Or.inr (Or.inr (Or.inr (Or.inr (Or.inr (Or.inr (Or.inr (Or.inr (Or.inr (Or.inr (Or.inr (Or.inr (Or.inr (Or.inr (Or.inr (Or.inr (Or.inr (Or.inr h)))))))))))))))))))))))))))))))))))))))))))))))))))))))))))))))))) hy_104 (Or.inl ⟨by first | (clear h_1 h_2 h_3 h_4 h_14 h_22 h_19 h_75 h_70 h_76 h_80 h_84 h_91 h_96 h_97 h_20 h_21 h_71 h_72 h_73 h_74 h_89 h_90 h_95; omega) | omega, by first | (clear h_1 h_2 h_3 h_4 h_14 h_22 h_19 h_75 h_70 h_76 h_80 h_84 h_91 h_96 h_97 h_20 h_21 h_71 h_72 h_73 h_74 h_89 h_90 h_95; omega) | omega, by first | (clear h_1 h_2 h_3 h_4 h_14 h_22 h_19 h_75 h_70 h_76 h_80 h_84 h_91 h_96 h_97 h_20 h_21 h_71 h_72 h_73 h_74 h_89 h_90 h_95; omega) | omega, by first | (clear h_1 h_2 h_3 h_4 h_14 h_22 h_19 h_75 h_70 h_76 h_80 h_84 h_91 h_96 h_97 h_20 h_21 h_71 h_72 h_73 h_74 h_89 h_90 h_95; omega) | omega⟩)
          · refine v_ic_eq_f (t := 96) rfl (by decide) ⟨h_91, ⟨(Int.le_trans (by decide) hv2.1), (Int.le_trans hv2.2 (by decide))⟩, by decide, by decide⟩ ?_
            refine q_aload_n rfl rfl ?_
            refine q_iload_n rfl rfl ?_
            refine v_cv rfl rfl rfl rfl (by decide) ⟨⟨rfl, rfl⟩, by decide, rfl⟩ (Nat.le_of_ble_eq_true rfl) (Nat.le_of_ble_eq_true rfl) ?_
            refine q_iload_n rfl rfl ?_
            refine q_ldc_s rfl rfl rfl (by decide) ?_
            refine q_call rfl rfl rfl rfl (s_158_16 ?_)
            refine bk_inl ?_
            by_cases h_111 : y_69 ≠ 10290
            · refine v_ic_ne_t (t := 26) rfl (by decide) ⟨h_111, ⟨hy_69.1, hy_69.2⟩, by decide, by decide⟩ ?_
              refine q_iload_n rfl rfl ?_
              refine q_ldc_s rfl rfl rfl (by decide) ?_
              refine q_call rfl rfl rfl rfl (s_158_17 ?_)
              refine bk_inl ?_
              by_cases h_112 : y_69 ≠ 20594117
              · refine v_ic_ne_t (t := 51) rfl (by decide) ⟨h_112, ⟨hy_69.1, hy_69.2⟩, by decide, by decide⟩ ?_
                refine q_iload_n rfl rfl ?_
                refine q_ldc_s rfl rfl rfl (by decide) ?_
                refine q_call rfl rfl rfl rfl (s_158_18 ?_)
                refine bk_inl ?_
                by_cases h_113 : y_69 ≠ 20223685
                · refine v_ic_ne_t (t := 72) rfl (by decide) ⟨h_113, ⟨hy_69.1, hy_69.2⟩, by decide, by decide⟩ ?_
                  refine q_iconst rfl ?_
                  refine v_zret rfl rfl (by decide) ?_
                  refine bk_inl ?_
                  refine v_if_eq_t (t := 105) rfl (by decide) (by decide) ?_
                  refine q_aload_n rfl rfl ?_
                  refine v_cv rfl rfl rfl rfl (by decide) ⟨⟨rfl, rfl⟩, by decide, rfl⟩ (Nat.le_of_ble_eq_true rfl) (Nat.le_of_ble_eq_true rfl) ?_
                  refine q_aload_n rfl rfl ?_
                  have kn_114 : Hid (c_15 41 5 = c2 41 5) := hF_17 41 5 (fun h => absurd h.2 (ni rfl))
                  have kn_115 : Hid (c_66 41 5 = c2 41 5) := (hF_68 41 5 (fun h => absurd h.2 (ni rfl))).trans (hid kn_114)
                  refine v_gi (z := 5) (v := c2 41 5) rfl rfl rfl (by decide) rfl rfl (hid kn_115) ?_
                  refine q_iconst rfl ?_
                  refine v_ic_ne_f (t := 12) rfl (by decide) (by first | (clear h_1 h_2 h_3 h_14 h_22 h_19 h_75 h_70 h_76 h_80 h_84 h_20 h_21 h_71 h_72 h_73 h_74 h_89 h_90 h_111 h_112 h_113; omega) | omega) ?_
                  refine q_iconst rfl ?_
                  refine q_goto (t := 13) rfl (by decide) ?_
                  refine v_zret rfl rfl (by decide) ?_
                  refine bk_inl ?_
                  refine v_if_ne_t (t := 115) rfl (by decide) (by decide) ?_
                  refine q_aload_n rfl rfl ?_
                  have kn_116 : Hid (c_66 41 3 = c2 41 3) := (hF_68 41 3 (fun h => absurd h.2 (ni rfl))).trans (hid kn_64)
                  have h_117 : c_66 41 3 = c2 41 3 := (hid kn_116)
                  have kn_118 : Hid (c_66 43 (c_66 41 4) = c 43 (c_66 41 4)) := (hF_68 43 (c_66 41 4) (fun h => absurd h.1 (nn rfl))).trans (hid kn_78)
                  have h_119 : c_66 43 (c_66 41 4) = c 43 (c_66 41 4) := (hid kn_118)
                  have kn_120 : Hid (c_66 43 (c_66 41 4 + 1) = c 43 (c_66 41 4 + 1)) := (hF_68 43 (c_66 41 4 + 1) (fun h => absurd h.1 (nn rfl))).trans (hid kn_82)
                  have h_121 : c_66 43 (c_66 41 4 + 1) = c 43 (c_66 41 4 + 1) := (hid kn_120)
                  have kn_122 : Hid (c_66 43 (c_66 41 4 + 2) = c 43 (c_66 41 4 + 2)) := (hF_68 43 (c_66 41 4 + 2) (fun h => absurd h.1 (nn rfl))).trans (hid kn_86)
                  have h_123 : c_66 43 (c_66 41 4 + 2) = c 43 (c_66 41 4 + 2) := (hid kn_122)
                  refine v_cv rfl rfl rfl rfl (by decide) ⟨⟨rfl, rfl⟩, by decide, rfl⟩ (Nat.le_of_ble_eq_true rfl) (Nat.le_of_ble_eq_true rfl) (s_159 hI_67 (fun c_124 hI_125 hF_126 h_127 h_128 h_129 h_130 => ?_))
                  refine bk_inl ?_
                  have h_131 := ir_41_4 hI_125
                  refine q_aload_n rfl rfl ?_
                  refine q_iload_n rfl rfl ?_
                  have h_132 := ir_41_16 hI2
                  have kn_133 : Hid (c_15 41 16 = c2 41 16) := hF_17 41 16 (fun h => absurd h.2 (ni rfl))
                  have kn_134 : Hid (c_66 41 16 = c2 41 16) := (hF_68 41 16 (fun h => absurd h.2 (ni rfl))).trans (hid kn_133)
                  have kn_135 : Hid (c_124 41 16 = c2 41 16) := (hF_126 41 16 (fun h => absurd h.2 (ni rfl))).trans (hid kn_134)
                  have h_136 : c_124 41 16 = c2 41 16 := (hid kn_135)
                  have h_137 := ir_41_17 hI2
                  have kn_138 : Hid (c_15 41 17 = c2 41 17) := hF_17 41 17 (fun h => absurd h.2 (ni rfl))
                  have kn_139 : Hid (c_66 41 17 = c2 41 17) := (hF_68 41 17 (fun h => absurd h.2 (ni rfl))).trans (hid kn_138)
                  have kn_140 : Hid (c_124 41 17 = c2 41 17) := (hF_126 41 17 (fun h => absurd h.2 (ni rfl))).trans (hid kn_139)
                  have h_141 : c_124 41 17 = c2 41 17 := (hid kn_140)
                  have h_142 := ir_41_18 hI2
                  have kn_143 : Hid (c_15 41 18 = c2 41 18) := hF_17 41 18 (fun h => absurd h.2 (ni rfl))
                  have kn_144 : Hid (c_66 41 18 = c2 41 18) := (hF_68 41 18 (fun h => absurd h.2 (ni rfl))).trans (hid kn_143)
                  have kn_145 : Hid (c_124 41 18 = c2 41 18) := (hF_126 41 18 (fun h => absurd h.2 (ni rfl))).trans (hid kn_144)
                  have h_146 : c_124 41 18 = c2 41 18 := (hid kn_145)
                  refine v_cv rfl rfl rfl rfl (by decide) ⟨⟨rfl, rfl⟩, by decide, rfl⟩ (Nat.le_of_ble_eq_true rfl) (Nat.le_of_ble_eq_true rfl) (s_168 (a1 := y_69) hI_125 (show (-2147483648) ≤ y_69 ∧ y_69 ≤ 2147483647 from hy_69) (Or.inl (by first | (clear h_1 h_2 h_3 h_4 h_14 h_22 h_19 h_75 h_70 h_76 h_80 h_84 h_131 h_127 h_132 h_137 h_142 h_20 h_21 h_71 h_90 h_128 h_129 h_130; omega) | omega)) (Or.inl (by first | (clear h_1 h_2 h_3 h_4 h_14 h_22 h_19 h_75 h_70 h_76 h_80 h_84 h_131 h_127 h_132 h_137 h_142 h_20 h_21 h_71 h_90 h_128 h_129 h_130; omega) | omega)) (Or.inl (by first | (clear h_1 h_2 h_3 h_4 h_14 h_22 h_19 h_75 h_70 h_76 h_80 h_84 h_131 h_127 h_132 h_137 h_142 h_20 h_21 h_71 h_90 h_128 h_129 h_130; omega) | omega)) (fun c_147 hI_148 hF_149 h_150 => ?_))
                  refine bk_inl ?_
                  have h_151 := ir_41_4 hI_148
                  refine q_aload_n rfl rfl ?_
                  refine v_bip rfl (by decide) ?_
                  have kn_152 : Hid (c_124 41 3 = c2 41 3) := (hF_126 41 3 (fun h => absurd h.2 (ni rfl))).trans (hid kn_116)
                  have kn_153 : Hid (c_147 41 3 = c2 41 3) := (hF_149 41 3 (fun q => q.elim (fun h => absurd h.2 (ni rfl)) (fun q => q.elim (fun h => absurd h.2 (ni rfl)) (fun q => q.elim (fun h => absurd h.2 (ni rfl)) (fun q => q.elim (fun h => absurd h.2 (ni rfl)) (fun q => q.elim (fun h => absurd h.2 (ni rfl)) (fun q => q.elim (fun h => absurd h.2 (ni rfl)) (fun q => q.elim (fun h => absurd h.2 (ni rfl)) (fun q => q.elim (fun h => absurd h (nn rfl)) (fun q => q.elim (fun h => absurd h (nn rfl)) (fun h => absurd h (nn rfl)))))))))))).trans (hid kn_152)
                  have h_154 : c_147 41 3 = c2 41 3 := (hid kn_153)
                  have h_155 := ir_41_5 hI_148
                  refine v_cv rfl rfl rfl rfl (by decide) ⟨⟨rfl, rfl⟩, by decide, rfl⟩ (Nat.le_of_ble_eq_true rfl) (Nat.le_of_ble_eq_true rfl) (s_161 (a1 := 59) hI_148 (show 1 ≤ 59 ∧ 59 ≤ 255 from ⟨by decide, by decide⟩) (fun c_156 hI_157 hF_158 h_159 h_160 h_161 h_162 => ?_))
                  refine bk_inl ?_
                  have h_163 := ir_41_4 hI_157
                  have h_164 := ir_41_5 hI_157
                  refine v_iinc (v := v2 + 1) rfl rfl (by decide) rfl ?_
                  refine q_goto (t := 44) rfl (by decide) ?_
                  refine Wp_ls [(0, .ref 41), (1, vi a1), (2, vi (v2 + 1))] (lsub_cons rfl (lsub_cons rfl (lsub_cons rfl lsub_nil))) ?_
                  have kn_165 : Hid (c_15 41 2 = c2 41 2) := hF_17 41 2 (fun h => absurd h.2 (ni rfl))
                  have kn_166 : Hid (c_66 41 2 = c2 41 2) := (hF_68 41 2 (fun h => absurd h.2 (ni rfl))).trans (hid kn_165)
                  have kn_167 : Hid (c_124 41 2 = c2 41 2) := (hF_126 41 2 (fun h => absurd h.2 (ni rfl))).trans (hid kn_166)
                  have kn_168 : Hid (c_147 41 2 = c2 41 2) := (hF_149 41 2 (fun q => q.elim (fun h => absurd h.2 (ni rfl)) (fun q => q.elim (fun h => absurd h.2 (ni rfl)) (fun q => q.elim (fun h => absurd h.2 (ni rfl)) (fun q => q.elim (fun h => absurd h.2 (ni rfl)) (fun q => q.elim (fun h => absurd h.2 (ni rfl)) (fun q => q.elim (fun h => absurd h.2 (ni rfl)) (fun q => q.elim (fun h => absurd h.2 (ni rfl)) (fun q => q.elim (fun h => absurd h (nn rfl)) (fun q => q.elim (fun h => absurd h (nn rfl)) (fun h => absurd h (nn rfl)))))))))))).trans (hid kn_167)
                  have kn_169 : Hid (c_156 41 2 = c2 41 2) := (hF_158 41 2 (fun q => q.elim (fun h => absurd h.2 (ni rfl)) (fun q => q.elim (fun h => absurd h.2 (ni rfl)) (fun h => absurd h.2 (ni rfl))))).trans (hid kn_168)
                  have h_170 : c_156 41 2 = c2 41 2 := (hid kn_169)
                  exact ih c_156 (v2 + 1) hI_157 (fun a j hm => (hF_158 a j (fun q => q.elim (fun h => hm (Or.inr (Or.inr (Or.inr (Or.inr (Or.inl h)))))) (fun q => q.elim (fun h => hm (Or.inr (Or.inr (Or.inr (Or.inr (Or.inr (Or.inl h))))))) (fun h => hm (Or.inr (Or.inr (Or.inr (Or.inr (Or.inr (Or.inr (Or.inl h))))))))))).trans ((hF_149 a j (fun q => q.elim (fun h => hm (Or.inr (Or.inr (Or.inr (Or.inr (Or.inl h)))))) (fun q => q.elim (fun h => hm (Or.inr (Or.inr (Or.inr (Or.inr (Or.inr (Or.inl h))))))) (fun q => q.elim (fun h => hm (Or.inr (Or.inr (Or.inr (Or.inr (Or.inr (Or.inr (Or.inl h)))))))) (fun q => q.elim (fun h => hm (Or.inr (Or.inr (Or.inr (Or.inr (Or.inr (Or.inr (Or.inr (Or.inr (Or.inr (Or.inl h))))))))))) (fun q => q.elim (fun h => hm (Or.inr (Or.inr (Or.inr (Or.inr (Or.inr (Or.inr (Or.inr (Or.inr (Or.inr (Or.inr (Or.inl h)))))))))))) (fun q => q.elim (fun h => hm (Or.inr (Or.inr (Or.inr (Or.inr (Or.inr (Or.inr (Or.inr (Or.inr (Or.inr (Or.inr (Or.inr (Or.inl h))))))))))))) (fun q => q.elim (fun h => hm (Or.inr (Or.inr (Or.inr (Or.inr (Or.inr (Or.inr (Or.inr (Or.inr (Or.inr (Or.inr (Or.inr (Or.inr (Or.inl h)))))))))))))) (fun q => q.elim (fun h => hm (Or.inr (Or.inr (Or.inr (Or.inr (Or.inr (Or.inr (Or.inr (Or.inr (Or.inr (Or.inr (Or.inr (Or.inr (Or.inr (Or.inl h))))))))))))))) (fun q => q.elim (fun h => hm (Or.inr (Or.inr (Or.inr (Or.inr (Or.inr (Or.inr (Or.inr (Or.inr (Or.inr (Or.inr (Or.inr (Or.inr (Or.inr (Or.inr (Or.inl h)))))))))))))))) (fun h => hm (Or.inr (Or.inr (Or.inr (Or.inr (Or.inr (Or.inr (Or.inr (Or.inr (Or.inr (Or.inr (Or.inr (Or.inr (Or.inr (Or.inr (Or.inr (Or.inl h))))))))))))))))))))))))))).trans ((hF_126 a j (fun h => hm (Or.inr (Or.inr (Or.inr (Or.inr (Or.inl h))))))).trans ((hF_68 a j (fun h => hm (Or.inr (Or.inr (Or.inr (Or.inr (Or.inl h))))))).trans ((hF_17 a j (fun h => hm (Or.inr (Or.inr (Or.inr (Or.inr (Or.inl h))))))).trans (hF a j (fun q => q.elim (fun h => hm (Or.inl h)) (fun q => q.elim (fun h => hm (Or.inr (Or.inl h))) (fun q => q.elim (fun h => hm (Or.inr (Or.inr (Or.inl h)))) (fun q => q.elim (fun h => hm (Or.inr (Or.inr (Or.inr (Or.inl h))))) (fun q => q.elim (fun h => hm (Or.inr (Or.inr (Or.inr (Or.inr (Or.inl h)))))) (fun q => q.elim (fun h => hm (Or.inr (Or.inr (Or.inr (Or.inr (Or.inr (Or.inl h))))))) (fun q => q.elim (fun h => hm (Or.inr (Or.inr (Or.inr (Or.inr (Or.inr (Or.inr (Or.inl h)))))))) (fun q => q.elim (fun h => hm (Or.inr (Or.inr (Or.inr (Or.inr (Or.inr (Or.inr (Or.inr (Or.inl h))))))))) (fun q => q.elim (fun h => hm (Or.inr (Or.inr (Or.inr (Or.inr (Or.inr (Or.inr (Or.inr (Or.inr (Or.inl h)))))))))) (fun q => q.elim (fun h => hm (Or.inr (Or.inr (Or.inr (Or.inr (Or.inr (Or.inr (Or.inr (Or.inr (Or.inr (Or.inl h))))))))))) (fun q => q.elim (fun h => hm (Or.inr (Or.inr (Or.inr (Or.inr (Or.inr (Or.inr (Or.inr (Or.inr (Or.inr (Or.inr (Or.inl h)))))))))))) (fun q => q.elim (fun h => hm (Or.inr (Or.inr (Or.inr (Or.inr (Or.inr (Or.inr (Or.inr (Or.inr (Or.inr (Or.inr (Or.inr (Or.inl h))))))))))))) (fun q => q.elim (fun h => hm (Or.inr (Or.inr (Or.inr (Or.inr (Or.inr (Or.inr (Or.inr (Or.inr (Or.inr (Or.inr (Or.inr (Or.inr (Or.inl h)))))))))))))) (fun q => q.elim (fun h => hm (Or.inr (Or.inr (Or.inr (Or.inr (Or.inr (Or.inr (Or.inr (Or.inr (Or.inr (Or.inr (Or.inr (Or.inr (Or.inr (Or.inl h))))))))))))))) (fun q => q.elim (fun h => hm (Or.inr (Or.inr (Or.inr (Or.inr (Or.inr (Or.inr (Or.inr (Or.inr (Or.inr (Or.inr (Or.inr (Or.inr (Or.inr (Or.inr (Or.inl h)))))))))))))))) (fun q => q.elim (fun h => hm (Or.inr (Or.inr (Or.inr (Or.inr (Or.inr (Or.inr (Or.inr (Or.inr (Or.inr (Or.inr (Or.inr (Or.inr (Or.inr (Or.inr (Or.inr (Or.inl h))))))))))))))))) (fun q => q.elim (fun h => hm (Or.inr (Or.inr (Or.inr (Or.inr (Or.inr (Or.inr (Or.inr (Or.inr (Or.inr (Or.inr (Or.inr (Or.inr (Or.inr (Or.inr (Or.inr (Or.inr (Or.inl h)))))))))))))))))) (fun q => q.elim (fun h => hm (Or.inr (Or.inr (Or.inr (Or.inr (Or.inr (Or.inr (Or.inr (Or.inr (Or.inr (Or.inr (Or.inr (Or.inr (Or.inr (Or.inr (Or.inr (Or.inr (Or.inr (Or.inl h))))))))))))))))))) (fun q => q.elim (fun h => hm (Or.inr (Or.inr (Or.inr (Or.inr (Or.inr (Or.inr (Or.inr (Or.inr (Or.inr (Or.inr (Or.inr (Or.inr (Or.inr (Or.inr (Or.inr (Or.inr (Or.inr (Or.inr (Or.inl h)))))))))))))))))))) (fun q => q.elim (fun h => hm (Or.inr (Or.inr (Or.inr (Or.inr (Or.inr (Or.inr (Or.inr (Or.inr (Or.inr (Or.inr (Or.inr (Or.inr (Or.inr (Or.inr (Or.inr (Or.inr (Or.inr (Or.inr (Or.inr (Or.inl h))))))))))))))))))))) (fun q => q.elim (fun h => hm (Or.inr (Or.inr (Or.inr (Or.inr (Or.inr (Or.inr (Or.inr (Or.inr (Or.inr (Or.inr (Or.inr (Or.inr (Or.inr (Or.inr (Or.inr (Or.inr (Or.inr (Or.inr (Or.inr (Or.inr (Or.inl h)))))))))))))))))))))) (fun q => q.elim (fun h => hm (Or.inr (Or.inr (Or.inr (Or.inr (Or.inr (Or.inr (Or.inr (Or.inr (Or.inr (Or.inr (Or.inr (Or.inr (Or.inr (Or.inr (Or.inr (Or.inr (Or.inr (Or.inr (Or.inr (Or.inr (Or.inr (Or.inl h))))))))))))))))))))))) (fun q => q.elim (fun h => hm (Or.inr (Or.inr (Or.inr (Or.inr (Or.inr (Or.inr (Or.inr (Or.inr (Or.inr (Or.inr (Or.inr (Or.inr (Or.inr (Or.inr (Or.inr (Or.inr (Or.inr (Or.inr (Or.inr (Or.inr (Or.inr (Or.inr (Or.inl h)))))))))))))))))))))))) (fun q => q.elim (fun h => hm (Or.inr (Or.inr (Or.inr (Or.inr (Or.inr (Or.inr (Or.inr (Or.inr (Or.inr (Or.inr (Or.inr (Or.inr (Or.inr (Or.inr (Or.inr (Or.inr (Or.inr (Or.inr (Or.inr (Or.inr (Or.inr (Or.inr (Or.inr (Or.inl h))))))))))))))))))))))))) (fun q => q.elim (fun h => hm (Or.inr (Or.inr (Or.inr (Or.inr (Or.inr (Or.inr (Or.inr (Or.inr (Or.inr (Or.inr (Or.inr (Or.inr (Or.inr (Or.inr (Or.inr (Or.inr (Or.inr (Or.inr (Or.inr (Or.inr (Or.inr (Or.inr (Or.inr (Or.inr (Or.inl h)))))))))))))))))))))))))) (fun q => q.elim (fun h => hm (Or.inr (Or.inr (Or.inr (Or.inr (Or.inr (Or.inr (Or.inr (Or.inr (Or.inr (Or.inr (Or.inr (Or.inr (Or.inr (Or.inr (Or.inr (Or.inr (Or.inr (Or.inr (Or.inr (Or.inr (Or.inr (Or.inr (Or.inr (Or.inr (Or.inr (Or.inl h))))))))))))))))))))))))))) (fun q => q.elim (fun h => hm (Or.inr (Or.inr (Or.inr (Or.inr (Or.inr (Or.inr (Or.inr (Or.inr (Or.inr (Or.inr (Or.inr (Or.inr (Or.inr (Or.inr (Or.inr (Or.inr (Or.inr (Or.inr (Or.inr (Or.inr (Or.inr (Or.inr (Or.inr (Or.inr (Or.inr (Or.inr (Or.inl h)))))))))))))))))))))))))))) (fun q => q.elim (fun h => hm (Or.inr (Or.inr (Or.inr (Or.inr (Or.inr (Or.inr (Or.inr (Or.inr (Or.inr (Or.inr (Or.inr (Or.inr (Or.inr (Or.inr (Or.inr (Or.inr (Or.inr (Or.inr (Or.inr (Or.inr (Or.inr (Or.inr (Or.inr (Or.inr (Or.inr (Or.inr (Or.inr (Or.inl h))))))))))))))))))))))))))))) (fun q => q.elim (fun h => hm (Or.inr (Or.inr (Or.inr (Or.inr (Or.inr (Or.inr (Or.inr (Or.inr (Or.inr (Or.inr (Or.inr (Or.inr (Or.inr (Or.inr (Or.inr (Or.inr (Or.inr (Or.inr (Or.inr (Or.inr (Or.inr (Or.inr (Or.inr (Or.inr (Or.inr (Or.inr (Or.inr (Or.inr (Or.inl h)))))))))))))))))))))))))))))) (fun q => q.elim (fun h => hm (Or.inr (Or.inr (Or.inr (Or.inr (Or.inr (Or.inr (Or.inr (Or.inr (Or.inr (Or.inr (Or.inr (Or.inr (Or.inr (Or.inr (Or.inr (Or.inr (Or.inr (Or.inr (Or.inr (Or.inr (Or.inr (Or.inr (Or.inr (Or.inr (Or.inr (Or.inr (Or.inr (Or.inr (Or.inr (Or.inl h))))))))))))))))))))))))))))))) (fun h => hm (Or.inr (Or.inr (Or.inr (Or.inr (Or.inr (Or.inr (Or.inr (Or.inr (Or.inr (Or.inr (Or.inr (Or.inr (Or.inr (Or.inr (Or.inr (Or.inr (Or.inr (Or.inr (Or.inr (Or.inr (Or.inr (Or.inr (Or.inr (Or.inr (Or.inr (Or.inr (Or.inr (Or.inr (Or.inr (Or.inr h))))))))))))))))))))))))))))))))))))))))))))))))))))))))))))))))))) ⟨by first | exact rgp_l hv2.1 (by decide) | omega, by first | (clear h_1 h_2 h_3 h_4 h_14 h_22 h_19 h_75 h_70 h_76 h_80 h_84 h_131 h_127 h_132 h_137 h_142 h_151 h_150 h_155 h_163 h_159 h_164 h_20 h_21 h_71 h_72 h_73 h_74 h_89 h_90 h_111 h_112 h_113 h_128 h_129 h_130 h_160 h_161 h_162; omega) | omega⟩ ⟨by first | (clear h_1 h_2 h_3 h_4 h_14 h_22 h_19 h_75 h_70 h_76 h_80 h_84 h_131 h_127 h_132 h_137 h_142 h_151 h_150 h_155 h_163 h_159 h_164 h_20 h_21 h_71 h_72 h_73 h_74 h_89 h_90 h_111 h_112 h_113 h_128 h_129 h_130 h_160 h_161 h_162; omega) | omega, by first | (clear h_1 h_2 h_3 h_4 h_14 h_22 h_19 h_75 h_70 h_76 h_80 h_84 h_131 h_127 h_132 h_137 h_142 h_151 h_150 h_155 h_163 h_159 h_164 h_20 h_21 h_71 h_72 h_73 h_74 h_89 h_90 h_111 h_112 h_113 h_128 h_129 h_130 h_160 h_161 h_162; omega) | omega, by first | (clear h_1 h_2 h_3 h_4 h_14 h_22 h_19 h_75 h_70 h_76 h_80 h_84 h_131 h_127 h_132 h_137 h_142 h_151 h_150 h_155 h_163 h_159 h_164 h_20 h_21 h_71 h_72 h_73 h_74 h_89 h_90 h_111 h_112 h_113 h_128 h_129 h_130 h_160 h_161 h_162; omega) | omega, by first | (clear h_1 h_2 h_3 h_4 h_14 h_22 h_19 h_75 h_70 h_76 h_80 h_84 h_131 h_127 h_132 h_137 h_142 h_151 h_150 h_155 h_163 h_159 h_164 h_20 h_21 h_71 h_72 h_73 h_74 h_89 h_90 h_111 h_112 h_113 h_128 h_129 h_130 h_160 h_161 h_162; omega) | omega⟩ (by omega)
                · refine v_ic_ne_f (t := 72) rfl (by decide) (Decidable.not_not.mp h_113) ?_
                  refine q_aload_n rfl rfl ?_
                  have h_171 := ir_41_18 hI2
                  have kn_172 : Hid (c_15 41 18 = c2 41 18) := hF_17 41 18 (fun h => absurd h.2 (ni rfl))
                  have kn_173 : Hid (c_66 41 18 = c2 41 18) := (hF_68 41 18 (fun h => absurd h.2 (ni rfl))).trans (hid kn_172)
                  refine v_gi (z := 18) (v := c2 41 18) rfl rfl rfl (by decide) rfl rfl (hid kn_173) ?_
                  refine q_iconst rfl ?_
                  by_cases h_174 : c2 41 18 ≠ 4
                  · refine v_ic_ne_t (t := 72) rfl (by decide) ⟨h_174, ⟨by first | (clear h_1 h_2 h_3 h_4 h_14 h_22 h_19 h_75 h_70 h_76 h_80 h_84 h_20 h_21 h_71 h_72 h_73 h_74 h_89 h_90 h_111 h_112; omega) | omega, by first | (clear h_1 h_2 h_3 h_4 h_14 h_22 h_19 h_75 h_70 h_76 h_80 h_84 h_20 h_21 h_71 h_72 h_73 h_74 h_89 h_90 h_111 h_112; omega) | omega⟩, by decide, by decide⟩ ?_
                    refine q_iconst rfl ?_
                    refine v_zret rfl rfl (by decide) ?_
                    refine bk_inl ?_
                    refine v_if_eq_t (t := 105) rfl (by decide) (by decide) ?_
                    refine q_aload_n rfl rfl ?_
                    refine v_cv rfl rfl rfl rfl (by decide) ⟨⟨rfl, rfl⟩, by decide, rfl⟩ (Nat.le_of_ble_eq_true rfl) (Nat.le_of_ble_eq_true rfl) ?_
                    refine q_aload_n rfl rfl ?_
                    have kn_175 : Hid (c_15 41 5 = c2 41 5) := hF_17 41 5 (fun h => absurd h.2 (ni rfl))
                    have kn_176 : Hid (c_66 41 5 = c2 41 5) := (hF_68 41 5 (fun h => absurd h.2 (ni rfl))).trans (hid kn_175)
                    refine v_gi (z := 5) (v := c2 41 5) rfl rfl rfl (by decide) rfl rfl (hid kn_176) ?_
                    refine q_iconst rfl ?_
                    refine v_ic_ne_f (t := 12) rfl (by decide) (by first | (clear h_1 h_2 h_3 h_14 h_22 h_19 h_75 h_70 h_76 h_80 h_84 h_171 h_20 h_21 h_71 h_72 h_73 h_74 h_89 h_90 h_111 h_112 h_174; omega) | omega) ?_
                    refine q_iconst rfl ?_
                    refine q_goto (t := 13) rfl (by decide) ?_
                    refine v_zret rfl rfl (by decide) ?_
                    refine bk_inl ?_
                    refine v_if_ne_t (t := 115) rfl (by decide) (by decide) ?_
                    refine q_aload_n rfl rfl ?_
                    have kn_177 : Hid (c_66 41 3 = c2 41 3) := (hF_68 41 3 (fun h => absurd h.2 (ni rfl))).trans (hid kn_64)
                    have h_178 : c_66 41 3 = c2 41 3 := (hid kn_177)
                    have kn_179 : Hid (c_66 43 (c_66 41 4) = c 43 (c_66 41 4)) := (hF_68 43 (c_66 41 4) (fun h => absurd h.1 (nn rfl))).trans (hid kn_78)
                    have h_180 : c_66 43 (c_66 41 4) = c 43 (c_66 41 4) := (hid kn_179)
                    have kn_181 : Hid (c_66 43 (c_66 41 4 + 1) = c 43 (c_66 41 4 + 1)) := (hF_68 43 (c_66 41 4 + 1) (fun h => absurd h.1 (nn rfl))).trans (hid kn_82)
                    have h_182 : c_66 43 (c_66 41 4 + 1) = c 43 (c_66 41 4 + 1) := (hid kn_181)
                    have kn_183 : Hid (c_66 43 (c_66 41 4 + 2) = c 43 (c_66 41 4 + 2)) := (hF_68 43 (c_66 41 4 + 2) (fun h => absurd h.1 (nn rfl))).trans (hid kn_86)
                    have h_184 : c_66 43 (c_66 41 4 + 2) = c 43 (c_66 41 4 + 2) := (hid kn_183)
                    refine v_cv rfl rfl rfl rfl (by decide) ⟨⟨rfl, rfl⟩, by decide, rfl⟩ (Nat.le_of_ble_eq_true rfl) (Nat.le_of_ble_eq_true rfl) (s_159 hI_67 (fun c_185 hI_186 hF_187 h_188 h_189 h_190 h_191 => ?_))
                    refine bk_inl ?_
                    have h_192 := ir_41_4 hI_186
                    refine q_aload_n rfl rfl ?_
                    refine q_iload_n rfl rfl ?_
                    have h_193 := ir_41_16 hI2
                    have kn_194 : Hid (c_15 41 16 = c2 41 16) := hF_17 41 16 (fun h => absurd h.2 (ni rfl))
                    have kn_195 : Hid (c_66 41 16 = c2 41 16) := (hF_68 41 16 (fun h => absurd h.2 (ni rfl))).trans (hid kn_194)
                    have kn_196 : Hid (c_185 41 16 = c2 41 16) := (hF_187 41 16 (fun h => absurd h.2 (ni rfl))).trans (hid kn_195)
                    have h_197 : c_185 41 16 = c2 41 16 := (hid kn_196)
                    have h_198 := ir_41_17 hI2
                    have kn_199 : Hid (c_15 41 17 = c2 41 17) := hF_17 41 17 (fun h => absurd h.2 (ni rfl))
                    have kn_200 : Hid (c_66 41 17 = c2 41 17) := (hF_68 41 17 (fun h => absurd h.2 (ni rfl))).trans (hid kn_199)
                    have kn_201 : Hid (c_185 41 17 = c2 41 17) := (hF_187 41 17 (fun h => absurd h.2 (ni rfl))).trans (hid kn_200)
                    have h_202 : c_185 41 17 = c2 41 17 := (hid kn_201)
                    have kn_203 : Hid (c_185 41 18 = c2 41 18) := (hF_187 41 18 (fun h => absurd h.2 (ni rfl))).trans (hid kn_173)
                    have h_204 : c_185 41 18 = c2 41 18 := (hid kn_203)
                    refine v_cv rfl rfl rfl rfl (by decide) ⟨⟨rfl, rfl⟩, by decide, rfl⟩ (Nat.le_of_ble_eq_true rfl) (Nat.le_of_ble_eq_true rfl) (s_168 (a1 := y_69) hI_186 (show (-2147483648) ≤ y_69 ∧ y_69 ≤ 2147483647 from hy_69) (Or.inl (by first | (clear h_1 h_2 h_3 h_4 h_14 h_22 h_19 h_75 h_70 h_76 h_80 h_84 h_171 h_192 h_188 h_193 h_198 h_20 h_21 h_71 h_72 h_73 h_74 h_89 h_90 h_111 h_112 h_174 h_189 h_190 h_191; omega) | omega)) (Or.inl (by first | (clear h_1 h_2 h_3 h_4 h_14 h_22 h_19 h_75 h_70 h_76 h_80 h_84 h_171 h_192 h_188 h_193 h_198 h_20 h_21 h_71 h_72 h_73 h_74 h_89 h_90 h_111 h_112 h_174 h_189 h_190 h_191; omega) | omega)) (Or.inr (by first | (clear h_1 h_2 h_3 h_4 h_14 h_22 h_19 h_75 h_70 h_76 h_80 h_84 h_192 h_188 h_193 h_198 h_20 h_21 h_71 h_72 h_73 h_74 h_89 h_90 h_111 h_112 h_189 h_190 h_191; omega) | omega)) (fun c_205 hI_206 hF_207 h_208 => ?_))
                    refine bk_inl ?_
                    have h_209 := ir_41_4 hI_206
                    refine q_aload_n rfl rfl ?_
                    refine v_bip rfl (by decide) ?_
                    have kn_210 : Hid (c_185 41 3 = c2 41 3) := (hF_187 41 3 (fun h => absurd h.2 (ni rfl))).trans (hid kn_177)
                    have kn_211 : Hid (c_205 41 3 = c2 41 3) := (hF_207 41 3 (fun q => q.elim (fun h => absurd h.2 (ni rfl)) (fun q => q.elim (fun h => absurd h.2 (ni rfl)) (fun q => q.elim (fun h => absurd h.2 (ni rfl)) (fun q => q.elim (fun h => absurd h.2 (ni rfl)) (fun q => q.elim (fun h => absurd h.2 (ni rfl)) (fun q => q.elim (fun h => absurd h.2 (ni rfl)) (fun q => q.elim (fun h => absurd h.2 (ni rfl)) (fun q => q.elim (fun h => absurd h (nn rfl)) (fun q => q.elim (fun h => absurd h (nn rfl)) (fun h => absurd h (nn rfl)))))))))))).trans (hid kn_210)
                    have h_212 : c_205 41 3 = c2 41 3 := (hid kn_211)
                    have h_213 := ir_41_5 hI_206
                    refine v_cv rfl rfl rfl rfl (by decide) ⟨⟨rfl, rfl⟩, by decide, rfl⟩ (Nat.le_of_ble_eq_true rfl) (Nat.le_of_ble_eq_true rfl) (s_161 (a1 := 59) hI_206 (show 1 ≤ 59 ∧ 59 ≤ 255 from ⟨by decide, by decide⟩) (fun c_214 hI_215 hF_216 h_217 h_218 h_219 h_220 => ?_))
                    refine bk_inl ?_
                    have h_221 := ir_41_4 hI_215
                    have h_222 := ir_41_5 hI_215
                    refine v_iinc (v := v2 + 1) rfl rfl (by decide) rfl ?_
                    refine q_goto (t := 44) rfl (by decide) ?_
                    refine Wp_ls [(0, .ref 41), (1, vi a1), (2, vi (v2 + 1))] (lsub_cons rfl (lsub_cons rfl (lsub_cons rfl lsub_nil))) ?_
                    have kn_223 : Hid (c_15 41 2 = c2 41 2) := hF_17 41 2 (fun h => absurd h.2 (ni rfl))
                    have kn_224 : Hid (c_66 41 2 = c2 41 2) := (hF_68 41 2 (fun h => absurd h.2 (ni rfl))).trans (hid kn_223)
                    have kn_225 : Hid (c_185 41 2 = c2 41 2) := (hF_187 41 2 (fun h => absurd h.2 (ni rfl))).trans (hid kn_224)
                    have kn_226 : Hid (c_205 41 2 = c2 41 2) := (hF_207 41 2 (fun q => q.elim (fun h => absurd h.2 (ni rfl)) (fun q => q.elim (fun h => absurd h.2 (ni rfl)) (fun q => q.elim (fun h => absurd h.2 (ni rfl)) (fun q => q.elim (fun h => absurd h.2 (ni rfl)) (fun q => q.elim (fun h => absurd h.2 (ni rfl)) (fun q => q.elim (fun h => absurd h.2 (ni rfl)) (fun q => q.elim (fun h => absurd h.2 (ni rfl)) (fun q => q.elim (fun h => absurd h (nn rfl)) (fun q => q.elim (fun h => absurd h (nn rfl)) (fun h => absurd h (nn rfl)))))))))))).trans (hid kn_225)
                    have kn_227 : Hid (c_214 41 2 = c2 41 2) := (hF_216 41 2 (fun q => q.elim (fun h => absurd h.2 (ni rfl)) (fun q => q.elim (fun h => absurd h.2 (ni rfl)) (fun h => absurd h.2 (ni rfl))))).trans (hid kn_226)
                    have h_228 : c_214 41 2 = c2 41 2 := (hid kn_227)
                    exact ih c_214 (v2 + 1) hI_215 (fun a j hm => (hF_216 a j (fun q => q.elim (fun h => hm (Or.inr (Or.inr (Or.inr (Or.inr (Or.inl h)))))) (fun q => q.elim (fun h => hm (Or.inr (Or.inr (Or.inr (Or.inr (Or.inr (Or.inl h))))))) (fun h => hm (Or.inr (Or.inr (Or.inr (Or.inr (Or.inr (Or.inr (Or.inl h))))))))))).trans ((hF_207 a j (fun q => q.elim (fun h => hm (Or.inr (Or.inr (Or.inr (Or.inr (Or.inl h)))))) (fun q => q.elim (fun h => hm (Or.inr (Or.inr (Or.inr (Or.inr (Or.inr (Or.inl h))))))) (fun q => q.elim (fun h => hm (Or.inr (Or.inr (Or.inr (Or.inr (Or.inr (Or.inr (Or.inl h)))))))) (fun q => q.elim (fun h => hm (Or.inr (Or.inr (Or.inr (Or.inr (Or.inr (Or.inr (Or.inr (Or.inr (Or.inr (Or.inl h))))))))))) (fun q => q.elim (fun h => hm (Or.inr (Or.inr (Or.inr (Or.inr (Or.inr (Or.inr (Or.inr (Or.inr (Or.inr (Or.inr (Or.inl h)))))))))))) (fun q => q.elim (fun h => hm (Or.inr (Or.inr (Or.inr (Or.inr (Or.inr (Or.inr (Or.inr (Or.inr (Or.inr (Or.inr (Or.inr (Or.inl h))))))))))))) (fun q => q.elim (fun h => hm (Or.inr (Or.inr (Or.inr (Or.inr (Or.inr (Or.inr (Or.inr (Or.inr (Or.inr (Or.inr (Or.inr (Or.inr (Or.inl h)))))))))))))) (fun q => q.elim (fun h => hm (Or.inr (Or.inr (Or.inr (Or.inr (Or.inr (Or.inr (Or.inr (Or.inr (Or.inr (Or.inr (Or.inr (Or.inr (Or.inr (Or.inl h))))))))))))))) (fun q => q.elim (fun h => hm (Or.inr (Or.inr (Or.inr (Or.inr (Or.inr (Or.inr (Or.inr (Or.inr (Or.inr (Or.inr (Or.inr (Or.inr (Or.inr (Or.inr (Or.inl h)))))))))))))))) (fun h => hm (Or.inr (Or.inr (Or.inr (Or.inr (Or.inr (Or.inr (Or.inr (Or.inr (Or.inr (Or.inr (Or.inr (Or.inr (Or.inr (Or.inr (Or.inr (Or.inl h))))))))))))))))))))))))))).trans ((hF_187 a j (fun h => hm (Or.inr (Or.inr (Or.inr (Or.inr (Or.inl h))))))).trans ((hF_68 a j (fun h => hm (Or.inr (Or.inr (Or.inr (Or.inr (Or.inl h))))))).trans ((hF_17 a j (fun h => hm (Or.inr (Or.inr (Or.inr (Or.inr (Or.inl h))))))).trans (hF a j (fun q => q.elim (fun h => hm (Or.inl h)) (fun q => q.elim (fun h => hm (Or.inr (Or.inl h))) (fun q => q.elim (fun h => hm (Or.inr (Or.inr (Or.inl h)))) (fun q => q.elim (fun h => hm (Or.inr (Or.inr (Or.inr (Or.inl h))))) (fun q => q.elim (fun h => hm (Or.inr (Or.inr (Or.inr (Or.inr (Or.inl h)))))) (fun q => q.elim (fun h => hm (Or.inr (Or.inr (Or.inr (Or.inr (Or.inr (Or.inl h))))))) (fun q => q.elim (fun h => hm (Or.inr (Or.inr (Or.inr (Or.inr (Or.inr (Or.inr (Or.inl h)))))))) (fun q => q.elim (fun h => hm (Or.inr (Or.inr (Or.inr (Or.inr (Or.inr (Or.inr (Or.inr (Or.inl h))))))))) (fun q => q.elim (fun h => hm (Or.inr (Or.inr (Or.inr (Or.inr (Or.inr (Or.inr (Or.inr (Or.inr (Or.inl h)))))))))) (fun q => q.elim (fun h => hm (Or.inr (Or.inr (Or.inr (Or.inr (Or.inr (Or.inr (Or.inr (Or.inr (Or.inr (Or.inl h))))))))))) (fun q => q.elim (fun h => hm (Or.inr (Or.inr (Or.inr (Or.inr (Or.inr (Or.inr (Or.inr (Or.inr (Or.inr (Or.inr (Or.inl h)))))))))))) (fun q => q.elim (fun h => hm (Or.inr (Or.inr (Or.inr (Or.inr (Or.inr (Or.inr (Or.inr (Or.inr (Or.inr (Or.inr (Or.inr (Or.inl h))))))))))))) (fun q => q.elim (fun h => hm (Or.inr (Or.inr (Or.inr (Or.inr (Or.inr (Or.inr (Or.inr (Or.inr (Or.inr (Or.inr (Or.inr (Or.inr (Or.inl h)))))))))))))) (fun q => q.elim (fun h => hm (Or.inr (Or.inr (Or.inr (Or.inr (Or.inr (Or.inr (Or.inr (Or.inr (Or.inr (Or.inr (Or.inr (Or.inr (Or.inr (Or.inl h))))))))))))))) (fun q => q.elim (fun h => hm (Or.inr (Or.inr (Or.inr (Or.inr (Or.inr (Or.inr (Or.inr (Or.inr (Or.inr (Or.inr (Or.inr (Or.inr (Or.inr (Or.inr (Or.inl h)))))))))))))))) (fun q => q.elim (fun h => hm (Or.inr (Or.inr (Or.inr (Or.inr (Or.inr (Or.inr (Or.inr (Or.inr (Or.inr (Or.inr (Or.inr (Or.inr (Or.inr (Or.inr (Or.inr (Or.inl h))))))))))))))))) (fun q => q.elim (fun h => hm (Or.inr (Or.inr (Or.inr (Or.inr (Or.inr (Or.inr (Or.inr (Or.inr (Or.inr (Or.inr (Or.inr (Or.inr (Or.inr (Or.inr (Or.inr (Or.inr (Or.inl h)))))))))))))))))) (fun q => q.elim (fun h => hm (Or.inr (Or.inr (Or.inr (Or.inr (Or.inr (Or.inr (Or.inr (Or.inr (Or.inr (Or.inr (Or.inr (Or.inr (Or.inr (Or.inr (Or.inr (Or.inr (Or.inr (Or.inl h))))))))))))))))))) (fun q => q.elim (fun h => hm (Or.inr (Or.inr (Or.inr (Or.inr (Or.inr (Or.inr (Or.inr (Or.inr (Or.inr (Or.inr (Or.inr (Or.inr (Or.inr (Or.inr (Or.inr (Or.inr (Or.inr (Or.inr (Or.inl h)))))))))))))))))))) (fun q => q.elim (fun h => hm (Or.inr (Or.inr (Or.inr (Or.inr (Or.inr (Or.inr (Or.inr (Or.inr (Or.inr (Or.inr (Or.inr (Or.inr (Or.inr (Or.inr (Or.inr (Or.inr (Or.inr (Or.inr (Or.inr (Or.inl h))))))))))))))))))))) (fun q => q.elim (fun h => hm (Or.inr (Or.inr (Or.inr (Or.inr (Or.inr (Or.inr (Or.inr (Or.inr (Or.inr (Or.inr (Or.inr (Or.inr (Or.inr (Or.inr (Or.inr (Or.inr (Or.inr (Or.inr (Or.inr (Or.inr (Or.inl h)))))))))))))))))))))) (fun q => q.elim (fun h => hm (Or.inr (Or.inr (Or.inr (Or.inr (Or.inr (Or.inr (Or.inr (Or.inr (Or.inr (Or.inr (Or.inr (Or.inr (Or.inr (Or.inr (Or.inr (Or.inr (Or.inr (Or.inr (Or.inr (Or.inr (Or.inr (Or.inl h))))))))))))))))))))))) (fun q => q.elim (fun h => hm (Or.inr (Or.inr (Or.inr (Or.inr (Or.inr (Or.inr (Or.inr (Or.inr (Or.inr (Or.inr (Or.inr (Or.inr (Or.inr (Or.inr (Or.inr (Or.inr (Or.inr (Or.inr (Or.inr (Or.inr (Or.inr (Or.inr (Or.inl h)))))))))))))))))))))))) (fun q => q.elim (fun h => hm (Or.inr (Or.inr (Or.inr (Or.inr (Or.inr (Or.inr (Or.inr (Or.inr (Or.inr (Or.inr (Or.inr (Or.inr (Or.inr (Or.inr (Or.inr (Or.inr (Or.inr (Or.inr (Or.inr (Or.inr (Or.inr (Or.inr (Or.inr (Or.inl h))))))))))))))))))))))))) (fun q => q.elim (fun h => hm (Or.inr (Or.inr (Or.inr (Or.inr (Or.inr (Or.inr (Or.inr (Or.inr (Or.inr (Or.inr (Or.inr (Or.inr (Or.inr (Or.inr (Or.inr (Or.inr (Or.inr (Or.inr (Or.inr (Or.inr (Or.inr (Or.inr (Or.inr (Or.inr (Or.inl h)))))))))))))))))))))))))) (fun q => q.elim (fun h => hm (Or.inr (Or.inr (Or.inr (Or.inr (Or.inr (Or.inr (Or.inr (Or.inr (Or.inr (Or.inr (Or.inr (Or.inr (Or.inr (Or.inr (Or.inr (Or.inr (Or.inr (Or.inr (Or.inr (Or.inr (Or.inr (Or.inr (Or.inr (Or.inr (Or.inr (Or.inl h))))))))))))))))))))))))))) (fun q => q.elim (fun h => hm (Or.inr (Or.inr (Or.inr (Or.inr (Or.inr (Or.inr (Or.inr (Or.inr (Or.inr (Or.inr (Or.inr (Or.inr (Or.inr (Or.inr (Or.inr (Or.inr (Or.inr (Or.inr (Or.inr (Or.inr (Or.inr (Or.inr (Or.inr (Or.inr (Or.inr (Or.inr (Or.inl h)))))))))))))))))))))))))))) (fun q => q.elim (fun h => hm (Or.inr (Or.inr (Or.inr (Or.inr (Or.inr (Or.inr (Or.inr (Or.inr (Or.inr (Or.inr (Or.inr (Or.inr (Or.inr (Or.inr (Or.inr (Or.inr (Or.inr (Or.inr (Or.inr (Or.inr (Or.inr (Or.inr (Or.inr (Or.inr (Or.inr (Or.inr (Or.inr (Or.inl h))))))))))))))))))))))))))))) (fun q => q.elim (fun h => hm (Or.inr (Or.inr (Or.inr (Or.inr (Or.inr (Or.inr (Or.inr (Or.inr (Or.inr (Or.inr (Or.inr (Or.inr (Or.inr (Or.inr (Or.inr (Or.inr (Or.inr (Or.inr (Or.inr (Or.inr (Or.inr (Or.inr (Or.inr (Or.inr (Or.inr (Or.inr (Or.inr (Or.inr (Or.inl h)))))))))))))))))))))))))))))) (fun q => q.elim (fun h => hm (Or.inr (Or.inr (Or.inr (Or.inr (Or.inr (Or.inr (Or.inr (Or.inr (Or.inr (Or.inr (Or.inr (Or.inr (Or.inr (Or.inr (Or.inr (Or.inr (Or.inr (Or.inr (Or.inr (Or.inr (Or.inr (Or.inr (Or.inr (Or.inr (Or.inr (Or.inr (Or.inr (Or.inr (Or.inr (Or.inl h))))))))))))))))))))))))))))))) (fun h => hm (Or.inr (Or.inr (Or.inr (Or.inr (Or.inr (Or.inr (Or.inr (Or.inr (Or.inr (Or.inr (Or.inr (Or.inr (Or.inr (Or.inr (Or.inr (Or.inr (Or.inr (Or.inr (Or.inr (Or.inr (Or.inr (Or.inr (Or.inr (Or.inr (Or.inr (Or.inr (Or.inr (Or.inr (Or.inr (Or.inr h))))))))))))))))))))))))))))))))))))))))))))))))))))))))))))))))))) ⟨by first | exact rgp_l hv2.1 (by decide) | omega, by first | (clear h_1 h_2 h_3 h_4 h_14 h_22 h_19 h_75 h_70 h_76 h_80 h_84 h_171 h_192 h_188 h_193 h_198 h_209 h_208 h_213 h_221 h_217 h_222 h_20 h_21 h_71 h_72 h_73 h_74 h_89 h_90 h_111 h_112 h_174 h_189 h_190 h_191 h_218 h_219 h_220; omega) | omega⟩ ⟨by first | (clear h_1 h_2 h_3 h_4 h_14 h_22 h_19 h_75 h_70 h_76 h_80 h_84 h_171 h_192 h_188 h_193 h_198 h_209 h_208 h_213 h_221 h_217 h_222 h_20 h_21 h_71 h_72 h_73 h_74 h_89 h_90 h_111 h_112 h_174 h_189 h_190 h_191 h_218 h_219 h_220; omega) | omega, by first | (clear h_1 h_2 h_3 h_4 h_14 h_22 h_19 h_75 h_70 h_76 h_80 h_84 h_171 h_192 h_188 h_193 h_198 h_209 h_208 h_213 h_221 h_217 h_222 h_20 h_21 h_71 h_72 h_73 h_74 h_89 h_90 h_111 h_112 h_174 h_189 h_190 h_191 h_218 h_219 h_220; omega) | omega, by first | (clear h_1 h_2 h_3 h_4 h_14 h_22 h_19 h_75 h_70 h_76 h_80 h_84 h_171 h_192 h_188 h_193 h_198 h_209 h_208 h_213 h_221 h_217 h_222 h_20 h_21 h_71 h_72 h_73 h_74 h_89 h_90 h_111 h_112 h_174 h_189 h_190 h_191 h_218 h_219 h_220; omega) | omega, by first | (clear h_1 h_2 h_3 h_4 h_14 h_22 h_19 h_75 h_70 h_76 h_80 h_84 h_171 h_192 h_188 h_193 h_198 h_209 h_208 h_213 h_221 h_217 h_222 h_20 h_21 h_71 h_72 h_73 h_74 h_89 h_90 h_111 h_112 h_174 h_189 h_190 h_191 h_218 h_219 h_220; omega) | omega⟩ (by omega)
                  · refine v_ic_ne_f (t := 72) rfl (by decide) (Decidable.not_not.mp h_174) ?_
                    refine q_iconst rfl ?_
                    refine q_goto (t := 73) rfl (by decide) ?_
                    refine v_zret rfl rfl (by decide) ?_
                    refine bk_inl ?_
                    refine v_if_eq_f (t := 105) rfl (by decide) (by decide) ?_
                    refine q_aload_n rfl rfl ?_
                    refine q_iconst rfl ?_
                    refine q_aload_n rfl rfl ?_
                    refine v_gi (z := 4) (v := c_66 41 4) rfl rfl rfl (by decide) rfl rfl rfl ?_
                    refine v_cv rfl rfl rfl rfl (by decide) ⟨⟨rfl, rfl⟩, by decide, rfl⟩ (Nat.le_of_ble_eq_true rfl) (Nat.le_of_ble_eq_true rfl) (s_153 (a1 := 3) (a2 := c_66 41 4) hI_67 (show 1 ≤ 3 ∧ 3 ≤ 3 from ⟨by decide, by decide⟩) (show 0 ≤ c_66 41 4 ∧ c_66 41 4 ≤ 605 from h_75) (fun c_229 hI_230 hF_231 h_232 => ?_))
                    refine bk_inl ?_
                    have h_233 := ir_41_5 hI_230
                    refine q_aload_n rfl rfl ?_
                    refine v_cv rfl rfl rfl rfl (by decide) ⟨⟨rfl, rfl⟩, by decide, rfl⟩ (Nat.le_of_ble_eq_true rfl) (Nat.le_of_ble_eq_true rfl) ?_
                    refine q_aload_n rfl rfl ?_
                    refine v_gi (z := 5) (v := c_229 41 5) rfl rfl rfl (by decide) rfl rfl rfl ?_
                    refine q_iconst rfl ?_
                    refine v_ic_ne_t (t := 12) rfl (by decide) ⟨by first | (clear h_1 h_2 h_3 h_4 h_14 h_22 h_19 h_75 h_70 h_76 h_80 h_84 h_171 h_20 h_21 h_71 h_72 h_73 h_74 h_89 h_90 h_111 h_112; omega) | omega, ⟨(Int.le_trans (by decide) h_233.1), (Int.le_trans h_233.2 (by decide))⟩, by decide, by decide⟩ ?_
                    refine q_iconst rfl ?_
                    refine v_zret rfl rfl (by decide) ?_
                    refine bk_inl ?_
                    refine v_if_ne_f (t := 115) rfl (by decide) (by decide) ?_
                    refine q_goto (t := 136) rfl (by decide) ?_
                    refine q_aload_n rfl rfl ?_
                    refine q_aload_n rfl rfl ?_
                    have h_234 := ir_41_16 hI2
                    have kn_235 : Hid (c_15 41 16 = c2 41 16) := hF_17 41 16 (fun h => absurd h.2 (ni rfl))
                    have kn_236 : Hid (c_66 41 16 = c2 41 16) := (hF_68 41 16 (fun h => absurd h.2 (ni rfl))).trans (hid kn_235)
                    have kn_237 : Hid (c_229 41 16 = c2 41 16) := (hF_231 41 16 (fun q => q.elim (fun h => absurd h.2 (ni rfl)) (fun h => absurd h.2 (ni rfl)))).trans (hid kn_236)
                    refine v_gi (z := 16) (v := c2 41 16) rfl rfl rfl (by decide) rfl rfl (hid kn_237) ?_
                    refine v_cv rfl rfl rfl rfl (by decide) ⟨⟨rfl, rfl⟩, by decide, rfl⟩ (Nat.le_of_ble_eq_true rfl) (Nat.le_of_ble_eq_true rfl) (s_164 (a1 := c2 41 16) hI_230 (show (-2147483648) ≤ c2 41 16 ∧ c2 41 16 ≤ 2147483647 from ⟨by first | (clear h_1 h_2 h_3 h_4 h_14 h_22 h_19 h_75 h_70 h_76 h_80 h_84 h_171 h_233 h_20 h_21 h_71 h_72 h_73 h_74 h_89 h_90 h_111 h_112 h_232; omega) | omega, by first | (clear h_1 h_2 h_3 h_4 h_14 h_22 h_19 h_75 h_70 h_76 h_80 h_84 h_171 h_233 h_20 h_21 h_71 h_72 h_73 h_74 h_89 h_90 h_111 h_112 h_232; omega) | omega⟩) (fun c_238 y_241 hI_239 hF_240 hy_241 => ?_))
                    refine bk_inl ?_
                    refine q_istore_n rfl (by decide) ?_
                    refine q_aload_n rfl rfl ?_
                    have kn_242 : Hid (c_238 41 5 = c_229 41 5) := hF_240 41 5 (fun h => absurd h.2 (ni rfl))
                    refine v_gi (z := 5) (v := c_229 41 5) rfl rfl rfl (by decide) rfl rfl (hid kn_242) ?_
                    refine q_iconst rfl ?_
                    refine v_ic_ne_t (t := 157) rfl (by decide) ⟨by first | (clear h_1 h_2 h_3 h_4 h_14 h_22 h_19 h_75 h_70 h_76 h_80 h_84 h_171 h_234 h_20 h_21 h_71 h_72 h_73 h_74 h_89 h_90 h_111 h_112; omega) | omega, ⟨(Int.le_trans (by decide) h_233.1), (Int.le_trans h_233.2 (by decide))⟩, by decide, by decide⟩ ?_
                    refine q_iload_n rfl rfl ?_
                    refine q_iret rfl rfl ?_
                    have kn_243 : Hid (c_15 41 2 = c2 41 2) := hF_17 41 2 (fun h => absurd h.2 (ni rfl))
                    have kn_244 : Hid (c_66 41 2 = c2 41 2) := (hF_68 41 2 (fun h => absurd h.2 (ni rfl))).trans (hid kn_243)
                    have kn_245 : Hid (c_229 41 2 = c2 41 2) := (hF_231 41 2 (fun q => q.elim (fun h => absurd h.2 (ni rfl)) (fun h => absurd h.2 (ni rfl)))).trans (hid kn_244)
                    have kn_246 : Hid (c_238 41 2 = c2 41 2) := (hF_240 41 2 (fun h => absurd h.2 (ni rfl))).trans (hid kn_245)
                    have h_247 : c_238 41 2 = c2 41 2 := (hid kn_246)
                    exact K c_238 y_241 hI_239 (fun a j hm => (hF_240 a j (fun h => hm (Or.inr (Or.inr (Or.inr (Or.inr (Or.inr (Or.inr (Or.inr (Or.inr (Or.inl h))))))))))).trans ((hF_231 a j (fun q => q.elim (fun h => hm (Or.inr (Or.inr (Or.inr (Or.inr (Or.inr (Or.inl h))))))) (fun h => hm (Or.inr (Or.inr (Or.inr (Or.inr (Or.inr (Or.inr (Or.inl h)))))))))).trans ((hF_68 a j (fun h => hm (Or.inr (Or.inr (Or.inr (Or.inr (Or.inl h))))))).trans ((hF_17 a j (fun h => hm (Or.inr (Or.inr (Or.inr (Or.inr (Or.inl h))))))).trans (hF a j (fun q => q.elim (fun h => hm (Or.inl h)) (fun q => q.elim (fun h => hm (Or.inr (Or.inl h))) (fun q => q.elim (fun h => hm (Or.inr (Or.inr (Or.inl h)))) (fun q => q.elim (fun h => hm (Or.inr (Or.inr (Or.inr (Or.inl h))))) (fun q => q.elim (fun h => hm (Or.inr (Or.inr (Or.inr (Or.inr (Or.inl h)))))) (fun q => q.elim (fun h => hm (Or.inr (Or.inr (Or.inr (Or.inr (Or.inr (Or.inl h))))))) (fun q => q.elim (fun h => hm (Or.inr (Or.inr (Or.inr (Or.inr (Or.inr (Or.inr (Or.inl h)))))))) (fun q => q.elim (fun h => hm (Or.inr (Or.inr (Or.inr (Or.inr (Or.inr (Or.inr (Or.inr (Or.inl h))))))))) (fun q => q.elim (fun h => hm (Or.inr (Or.inr (Or.inr (Or.inr (Or.inr (Or.inr (Or.inr (Or.inr (Or.inl h)))))))))) (fun q => q.elim (fun h => hm (Or.inr (Or.inr (Or.inr (Or.inr (Or.inr (Or.inr (Or.inr (Or.inr (Or.inr (Or.inl h))))))))))) (fun q => q.elim (fun h => hm (Or.inr (Or.inr (Or.inr (Or.inr (Or.inr (Or.inr (Or.inr (Or.inr (Or.inr (Or.inr (Or.inl h)))))))))))) (fun q => q.elim (fun h => hm (Or.inr (Or.inr (Or.inr (Or.inr (Or.inr (Or.inr (Or.inr (Or.inr (Or.inr (Or.inr (Or.inr (Or.inl h))))))))))))) (fun q => q.elim (fun h => hm (Or.inr (Or.inr (Or.inr (Or.inr (Or.inr (Or.inr (Or.inr (Or.inr (Or.inr (Or.inr (Or.inr (Or.inr (Or.inl h)))))))))))))) (fun q => q.elim (fun h => hm (Or.inr (Or.inr (Or.inr (Or.inr (Or.inr (Or.inr (Or.inr (Or.inr (Or.inr (Or.inr (Or.inr (Or.inr (Or.inr (Or.inl h))))))))))))))) (fun q => q.elim (fun h => hm (Or.inr (Or.inr (Or.inr (Or.inr (Or.inr (Or.inr (Or.inr (Or.inr (Or.inr (Or.inr (Or.inr (Or.inr (Or.inr (Or.inr (Or.inl h)))))))))))))))) (fun q => q.elim (fun h => hm (Or.inr (Or.inr (Or.inr (Or.inr (Or.inr (Or.inr (Or.inr (Or.inr (Or.inr (Or.inr (Or.inr (Or.inr (Or.inr (Or.inr (Or.inr (Or.inl h))))))))))))))))) (fun q => q.elim (fun h => hm (Or.inr (Or.inr (Or.inr (Or.inr (Or.inr (Or.inr (Or.inr (Or.inr (Or.inr (Or.inr (Or.inr (Or.inr (Or.inr (Or.inr (Or.inr (Or.inr (Or.inl h)))))))))))))))))) (fun q => q.elim (fun h => hm (Or.inr (Or.inr (Or.inr (Or.inr (Or.inr (Or.inr (Or.inr (Or.inr (Or.inr (Or.inr (Or.inr (Or.inr (Or.inr (Or.inr (Or.inr (Or.inr (Or.inr (Or.inl h))))))))))))))))))) (fun q => q.elim (fun h => hm (Or.inr (Or.inr (Or.inr (Or.inr (Or.inr (Or.inr (Or.inr (Or.inr (Or.inr (Or.inr (Or.inr (Or.inr (Or.inr (Or.inr (Or.inr (Or.inr (Or.inr (Or.inr (Or.inl h)))))))))))))))))))) (fun q => q.elim (fun h => hm (Or.inr (Or.inr (Or.inr (Or.inr (Or.inr (Or.inr (Or.inr (Or.inr (Or.inr (Or.inr (Or.inr (Or.inr (Or.inr (Or.inr (Or.inr (Or.inr (Or.inr (Or.inr (Or.inr (Or.inl h))))))))))))))))))))) (fun q => q.elim (fun h => hm (Or.inr (Or.inr (Or.inr (Or.inr (Or.inr (Or.inr (Or.inr (Or.inr (Or.inr (Or.inr (Or.inr (Or.inr (Or.inr (Or.inr (Or.inr (Or.inr (Or.inr (Or.inr (Or.inr (Or.inr (Or.inl h)))))))))))))))))))))) (fun q => q.elim (fun h => hm (Or.inr (Or.inr (Or.inr (Or.inr (Or.inr (Or.inr (Or.inr (Or.inr (Or.inr (Or.inr (Or.inr (Or.inr (Or.inr (Or.inr (Or.inr (Or.inr (Or.inr (Or.inr (Or.inr (Or.inr (Or.inr (Or.inl h))))))))))))))))))))))) (fun q => q.elim (fun h => hm (Or.inr (Or.inr (Or.inr (Or.inr (Or.inr (Or.inr (Or.inr (Or.inr (Or.inr (Or.inr (Or.inr (Or.inr (Or.inr (Or.inr (Or.inr (Or.inr (Or.inr (Or.inr (Or.inr (Or.inr (Or.inr (Or.inr (Or.inl h)))))))))))))))))))))))) (fun q => q.elim (fun h => hm (Or.inr (Or.inr (Or.inr (Or.inr (Or.inr (Or.inr (Or.inr (Or.inr (Or.inr (Or.inr (Or.inr (Or.inr (Or.inr (Or.inr (Or.inr (Or.inr (Or.inr (Or.inr (Or.inr (Or.inr (Or.inr (Or.inr (Or.inr (Or.inl h))))))))))))))))))))))))) (fun q => q.elim (fun h => hm (Or.inr (Or.inr (Or.inr (Or.inr (Or.inr (Or.inr (Or.inr (Or.inr (Or.inr (Or.inr (Or.inr (Or.inr (Or.inr (Or.inr (Or.inr (Or.inr (Or.inr (Or.inr (Or.inr (Or.inr (Or.inr (Or.inr (Or.inr (Or.inr (Or.inl h)))))))))))))))))))))))))) (fun q => q.elim (fun h => hm (Or.inr (Or.inr (Or.inr (Or.inr (Or.inr (Or.inr (Or.inr (Or.inr (Or.inr (Or.inr (Or.inr (Or.inr (Or.inr (Or.inr (Or.inr (Or.inr (Or.inr (Or.inr (Or.inr (Or.inr (Or.inr (Or.inr (Or.inr (Or.inr (Or.inr (Or.inl h))))))))))))))))))))))))))) (fun q => q.elim (fun h => hm (Or.inr (Or.inr (Or.inr (Or.inr (Or.inr (Or.inr (Or.inr (Or.inr (Or.inr (Or.inr (Or.inr (Or.inr (Or.inr (Or.inr (Or.inr (Or.inr (Or.inr (Or.inr (Or.inr (Or.inr (Or.inr (Or.inr (Or.inr (Or.inr (Or.inr (Or.inr (Or.inl h)))))))))))))))))))))))))))) (fun q => q.elim (fun h => hm (Or.inr (Or.inr (Or.inr (Or.inr (Or.inr (Or.inr (Or.inr (Or.inr (Or.inr (Or.inr (Or.inr (Or.inr (Or.inr (Or.inr (Or.inr (Or.inr (Or.inr (Or.inr (Or.inr (Or.inr (Or.inr (Or.inr (Or.inr (Or.inr (Or.inr (Or.inr (Or.inr (Or.inl h))))))))))))))))))))))))))))) (fun q => q.elim (fun h => hm (Or.inr (Or.inr (Or.inr (Or.inr (Or.inr (Or.inr (Or.inr (Or.inr (Or.inr (Or.inr (Or.inr (Or.inr (Or.inr (Or.inr (Or.inr (Or.inr (Or.inr (Or.inr (Or.inr (Or.inr (Or.inr (Or.inr (Or.inr (Or.inr (Or.inr (Or.inr (Or.inr (Or.inr (Or.inl h)))))))))))))))))))))))))))))) (fun q => q.elim (fun h => hm (Or.inr (Or.inr (Or.inr (Or.inr (Or.inr (Or.inr (Or.inr (Or.inr (Or.inr (Or.inr (Or.inr (Or.inr (Or.inr (Or.inr (Or.inr (Or.inr (Or.inr (Or.inr (Or.inr (Or.inr (Or.inr (Or.inr (Or.inr (Or.inr (Or.inr (Or.inr (Or.inr (Or.inr (Or.inr (Or.inl h))))))))))))))))))))))))))))))) (fun h => hm (Or.inr (Or.inr (Or.inr (Or.inr (Or.inr (Or.inr (Or.inr (Or.inr (Or.inr (Or.inr (Or.inr (Or.inr (Or.inr (Or.inr (Or.inr (Or.inr (Or.inr (Or.inr (Or.inr (Or.inr (Or.inr (Or.inr (Or.inr (Or.inr (Or.inr (Or.inr (Or.inr (Or.inr (Or.inr (Or.inr h)))))))))))))))))))))))))))))))))))))))))))))))))))))))))))))))))) hy_241 (Or.inl ⟨by first | (clear h_1 h_2 h_3 h_4 h_14 h_22 h_19 h_75 h_70 h_76 h_80 h_84 h_171 h_233 h_234 h_20 h_21 h_71 h_72 h_73 h_74 h_89 h_90 h_111 h_112 h_232; omega) | omega, by first | (clear h_1 h_2 h_3 h_4 h_14 h_22 h_19 h_75 h_70 h_76 h_80 h_84 h_171 h_233 h_234 h_20 h_21 h_71 h_72 h_73 h_74 h_89 h_90 h_111 h_112 h_232; omega) | omega, by first | (clear h_1 h_2 h_3 h_4 h_14 h_22 h_19 h_75 h_70 h_76 h_80 h_84 h_171 h_233 h_234 h_20 h_21 h_71 h_72 h_73 h_74 h_89 h_90 h_111 h_112 h_232; omega) | omega, by first | (clear h_1 h_2 h_3 h_4 h_14 h_22 h_19 h_75 h_70 h_76 h_80 h_84 h_171 h_233 h_234 h_20 h_21 h_71 h_72 h_73 h_74 h_89 h_90 h_111 h_112 h_232; omega) | omega⟩)
              · refine v_ic_ne_f (t := 51) rfl (by decide) (Decidable.not_not.mp h_112) ?_
                refine q_aload_n rfl rfl ?_
                have h_248 := ir_41_17 hI2
                have kn_249 : Hid (c_15 41 17 = c2 41 17) := hF_17 41 17 (fun h => absurd h.2 (ni rfl))
                have kn_250 : Hid (c_66 41 17 = c2 41 17) := (hF_68 41 17 (fun h => absurd h.2 (ni rfl))).trans (hid kn_249)
                refine v_gi (z := 17) (v := c2 41 17) rfl rfl rfl (by decide) rfl rfl (hid kn_250) ?_
                refine q_iconst rfl ?_
                by_cases h_251 : c2 41 17 ≠ 4
                · refine v_ic_ne_t (t := 47) rfl (by decide) ⟨h_251, ⟨by first | (clear h_1 h_2 h_3 h_4 h_14 h_22 h_19 h_75 h_70 h_76 h_80 h_84 h_20 h_21 h_71 h_72 h_73 h_74 h_89 h_90 h_111; omega) | omega, by first | (clear h_1 h_2 h_3 h_4 h_14 h_22 h_19 h_75 h_70 h_76 h_80 h_84 h_20 h_21 h_71 h_72 h_73 h_74 h_89 h_90 h_111; omega) | omega⟩, by decide, by decide⟩ ?_
                  refine q_iconst rfl ?_
                  refine q_goto (t := 73) rfl (by decide) ?_
                  refine v_zret rfl rfl (by decide) ?_
                  refine bk_inl ?_
                  refine v_if_eq_t (t := 105) rfl (by decide) (by decide) ?_
                  refine q_aload_n rfl rfl ?_
                  refine v_cv rfl rfl rfl rfl (by decide) ⟨⟨rfl, rfl⟩, by decide, rfl⟩ (Nat.le_of_ble_eq_true rfl) (Nat.le_of_ble_eq_true rfl) ?_
                  refine q_aload_n rfl rfl ?_
                  have kn_252 : Hid (c_15 41 5 = c2 41 5) := hF_17 41 5 (fun h => absurd h.2 (ni rfl))
                  have kn_253 : Hid (c_66 41 5 = c2 41 5) := (hF_68 41 5 (fun h => absurd h.2 (ni rfl))).trans (hid kn_252)
                  refine v_gi (z := 5) (v := c2 41 5) rfl rfl rfl (by decide) rfl rfl (hid kn_253) ?_
                  refine q_iconst rfl ?_
                  refine v_ic_ne_f (t := 12) rfl (by decide) (by first | (clear h_1 h_2 h_3 h_14 h_22 h_19 h_75 h_70 h_76 h_80 h_84 h_248 h_20 h_21 h_71 h_72 h_73 h_74 h_89 h_90 h_111 h_251; omega) | omega) ?_
                  refine q_iconst rfl ?_
                  refine q_goto (t := 13) rfl (by decide) ?_
                  refine v_zret rfl rfl (by decide) ?_
                  refine bk_inl ?_
                  refine v_if_ne_t (t := 115) rfl (by decide) (by decide) ?_
                  refine q_aload_n rfl rfl ?_
                  have kn_254 : Hid (c_66 41 3 = c2 41 3) := (hF_68 41 3 (fun h => absurd h.2 (ni rfl))).trans (hid kn_64)
                  have h_255 : c_66 41 3 = c2 41 3 := (hid kn_254)
                  have kn_256 : Hid (c_66 43 (c_66 41 4) = c 43 (c_66 41 4)) := (hF_68 43 (c_66 41 4) (fun h => absurd h.1 (nn rfl))).trans (hid kn_78)
                  have h_257 : c_66 43 (c_66 41 4) = c 43 (c_66 41 4) := (hid kn_256)
                  have kn_258 : Hid (c_66 43 (c_66 41 4 + 1) = c 43 (c_66 41 4 + 1)) := (hF_68 43 (c_66 41 4 + 1) (fun h => absurd h.1 (nn rfl))).trans (hid kn_82)
                  have h_259 : c_66 43 (c_66 41 4 + 1) = c 43 (c_66 41 4 + 1) := (hid kn_258)
                  have kn_260 : Hid (c_66 43 (c_66 41 4 + 2) = c 43 (c_66 41 4 + 2)) := (hF_68 43 (c_66 41 4 + 2) (fun h => absurd h.1 (nn rfl))).trans (hid kn_86)
                  have h_261 : c_66 43 (c_66 41 4 + 2) = c 43 (c_66 41 4 + 2) := (hid kn_260)
                  refine v_cv rfl rfl rfl rfl (by decide) ⟨⟨rfl, rfl⟩, by decide, rfl⟩ (Nat.le_of_ble_eq_true rfl) (Nat.le_of_ble_eq_true rfl) (s_159 hI_67 (fun c_262 hI_263 hF_264 h_265 h_266 h_267 h_268 => ?_))
                  refine bk_inl ?_
                  have h_269 := ir_41_4 hI_263
                  refine q_aload_n rfl rfl ?_
                  refine q_iload_n rfl rfl ?_
                  have h_270 := ir_41_16 hI2
                  have kn_271 : Hid (c_15 41 16 = c2 41 16) := hF_17 41 16 (fun h => absurd h.2 (ni rfl))
                  have kn_272 : Hid (c_66 41 16 = c2 41 16) := (hF_68 41 16 (fun h => absurd h.2 (ni rfl))).trans (hid kn_271)
                  have kn_273 : Hid (c_262 41 16 = c2 41 16) := (hF_264 41 16 (fun h => absurd h.2 (ni rfl))).trans (hid kn_272)
                  have h_274 : c_262 41 16 = c2 41 16 := (hid kn_273)
                  have kn_275 : Hid (c_262 41 17 = c2 41 17) := (hF_264 41 17 (fun h => absurd h.2 (ni rfl))).trans (hid kn_250)
                  have h_276 : c_262 41 17 = c2 41 17 := (hid kn_275)
                  have h_277 := ir_41_18 hI2
                  have kn_278 : Hid (c_15 41 18 = c2 41 18) := hF_17 41 18 (fun h => absurd h.2 (ni rfl))
                  have kn_279 : Hid (c_66 41 18 = c2 41 18) := (hF_68 41 18 (fun h => absurd h.2 (ni rfl))).trans (hid kn_278)
                  have kn_280 : Hid (c_262 41 18 = c2 41 18) := (hF_264 41 18 (fun h => absurd h.2 (ni rfl))).trans (hid kn_279)
                  have h_281 : c_262 41 18 = c2 41 18 := (hid kn_280)
                  refine v_cv rfl rfl rfl rfl (by decide) ⟨⟨rfl, rfl⟩, by decide, rfl⟩ (Nat.le_of_ble_eq_true rfl) (Nat.le_of_ble_eq_true rfl) (s_168 (a1 := y_69) hI_263 (show (-2147483648) ≤ y_69 ∧ y_69 ≤ 2147483647 from hy_69) (Or.inl (by first | (clear h_1 h_2 h_3 h_4 h_14 h_22 h_19 h_75 h_70 h_76 h_80 h_84 h_248 h_269 h_265 h_270 h_277 h_20 h_21 h_71 h_72 h_73 h_74 h_89 h_90 h_111 h_251 h_266 h_267 h_268; omega) | omega)) (Or.inr (by first | (clear h_1 h_2 h_3 h_4 h_14 h_22 h_19 h_75 h_70 h_76 h_80 h_84 h_269 h_265 h_270 h_277 h_20 h_21 h_71 h_72 h_73 h_74 h_89 h_90 h_111 h_266 h_267 h_268; omega) | omega)) (Or.inl (by first | (clear h_1 h_2 h_3 h_4 h_14 h_22 h_19 h_75 h_70 h_76 h_80 h_84 h_248 h_269 h_265 h_270 h_277 h_20 h_21 h_71 h_72 h_73 h_74 h_89 h_90 h_111 h_251 h_266 h_267 h_268; omega) | omega)) (fun c_282 hI_283 hF_284 h_285 => ?_))
                  refine bk_inl ?_
                  have h_286 := ir_41_4 hI_283
                  refine q_aload_n rfl rfl ?_
                  refine v_bip rfl (by decide) ?_
                  have kn_287 : Hid (c_262 41 3 = c2 41 3) := (hF_264 41 3 (fun h => absurd h.2 (ni rfl))).trans (hid kn_254)
                  have kn_288 : Hid (c_282 41 3 = c2 41 3) := (hF_284 41 3 (fun q => q.elim (fun h => absurd h.2 (ni rfl)) (fun q => q.elim (fun h => absurd h.2 (ni rfl)) (fun q => q.elim (fun h => absurd h.2 (ni rfl)) (fun q => q.elim (fun h => absurd h.2 (ni rfl)) (fun q => q.elim (fun h => absurd h.2 (ni rfl)) (fun q => q.elim (fun h => absurd h.2 (ni rfl)) (fun q => q.elim (fun h => absurd h.2 (ni rfl)) (fun q => q.elim (fun h => absurd h (nn rfl)) (fun q => q.elim (fun h => absurd h (nn rfl)) (fun h => absurd h (nn rfl)))))))))))).trans (hid kn_287)
                  have h_289 : c_282 41 3 = c2 41 3 := (hid kn_288)
                  have h_290 := ir_41_5 hI_283
                  refine v_cv rfl rfl rfl rfl (by decide) ⟨⟨rfl, rfl⟩, by decide, rfl⟩ (Nat.le_of_ble_eq_true rfl) (Nat.le_of_ble_eq_true rfl) (s_161 (a1 := 59) hI_283 (show 1 ≤ 59 ∧ 59 ≤ 255 from ⟨by decide, by decide⟩) (fun c_291 hI_292 hF_293 h_294 h_295 h_296 h_297 => ?_))
                  refine bk_inl ?_
                  have h_298 := ir_41_4 hI_292
                  have h_299 := ir_41_5 hI_292
                  refine v_iinc (v := v2 + 1) rfl rfl (by decide) rfl ?_
                  refine q_goto (t := 44) rfl (by decide) ?_
                  refine Wp_ls [(0, .ref 41), (1, vi a1), (2, vi (v2 + 1))] (lsub_cons rfl (lsub_cons rfl (lsub_cons rfl lsub_nil))) ?_
                  have kn_300 : Hid (c_15 41 2 = c2 41 2) := hF_17 41 2 (fun h => absurd h.2 (ni rfl))
                  have kn_301 : Hid (c_66 41 2 = c2 41 2) := (hF_68 41 2 (fun h => absurd h.2 (ni rfl))).trans (hid kn_300)
                  have kn_302 : Hid (c_262 41 2 = c2 41 2) := (hF_264 41 2 (fun h => absurd h.2 (ni rfl))).trans (hid kn_301)
                  have kn_303 : Hid (c_282 41 2 = c2 41 2) := (hF_284 41 2 (fun q => q.elim (fun h => absurd h.2 (ni rfl)) (fun q => q.elim (fun h => absurd h.2 (ni rfl)) (fun q => q.elim (fun h => absurd h.2 (ni rfl)) (fun q => q.elim (fun h => absurd h.2 (ni rfl)) (fun q => q.elim (fun h => absurd h.2 (ni rfl)) (fun q => q.elim (fun h => absurd h.2 (ni rfl)) (fun q => q.elim (fun h => absurd h.2 (ni rfl)) (fun q => q.elim (fun h => absurd h (nn rfl)) (fun q => q.elim (fun h => absurd h (nn rfl)) (fun h => absurd h (nn rfl)))))))))))).trans (hid kn_302)
                  have kn_304 : Hid (c_291 41 2 = c2 41 2) := (hF_293 41 2 (fun q => q.elim (fun h => absurd h.2 (ni rfl)) (fun q => q.elim (fun h => absurd h.2 (ni rfl)) (fun h => absurd h.2 (ni rfl))))).trans (hid kn_303)
                  have h_305 : c_291 41 2 = c2 41 2 := (hid kn_304)
                  exact ih c_291 (v2 + 1) hI_292 (fun a j hm => (hF_293 a j (fun q => q.elim (fun h => hm (Or.inr (Or.inr (Or.inr (Or.inr (Or.inl h)))))) (fun q => q.elim (fun h => hm (Or.inr (Or.inr (Or.inr (Or.inr (Or.inr (Or.inl h))))))) (fun h => hm (Or.inr (Or.inr (Or.inr (Or.inr (Or.inr (Or.inr (Or.inl h))))))))))).trans ((hF_284 a j (fun q => q.elim (fun h => hm (Or.inr (Or.inr (Or.inr (Or.inr (Or.inl h)))))) (fun q => q.elim (fun h => hm (Or.inr (Or.inr (Or.inr (Or.inr (Or.inr (Or.inl h))))))) (fun q => q.elim (fun h => hm (Or.inr (Or.inr (Or.inr (Or.inr (Or.inr (Or.inr (Or.inl h)))))))) (fun q => q.elim (fun h => hm (Or.inr (Or.inr (Or.inr (Or.inr (Or.inr (Or.inr (Or.inr (Or.inr (Or.inr (Or.inl h))))))))))) (fun q => q.elim (fun h => hm (Or.inr (Or.inr (Or.inr (Or.inr (Or.inr (Or.inr (Or.inr (Or.inr (Or.inr (Or.inr (Or.inl h)))))))))))) (fun q => q.elim (fun h => hm (Or.inr (Or.inr (Or.inr (Or.inr (Or.inr (Or.inr (Or.inr (Or.inr (Or.inr (Or.inr (Or.inr (Or.inl h))))))))))))) (fun q => q.elim (fun h => hm (Or.inr (Or.inr (Or.inr (Or.inr (Or.inr (Or.inr (Or.inr (Or.inr (Or.inr (Or.inr (Or.inr (Or.inr (Or.inl h)))))))))))))) (fun q => q.elim (fun h => hm (Or.inr (Or.inr (Or.inr (Or.inr (Or.inr (Or.inr (Or.inr (Or.inr (Or.inr (Or.inr (Or.inr (Or.inr (Or.inr (Or.inl h))))))))))))))) (fun q => q.elim (fun h => hm (Or.inr (Or.inr (Or.inr (Or.inr (Or.inr (Or.inr (Or.inr (Or.inr (Or.inr (Or.inr (Or.inr (Or.inr (Or.inr (Or.inr (Or.inl h)))))))))))))))) (fun h => hm (Or.inr (Or.inr (Or.inr (Or.inr (Or.inr (Or.inr (Or.inr (Or.inr (Or.inr (Or.inr (Or.inr (Or.inr (Or.inr (Or.inr (Or.inr (Or.inl h))))))))))))))))))))))))))).trans ((hF_264 a j (fun h => hm (Or.inr (Or.inr (Or.inr (Or.inr (Or.inl h))))))).trans ((hF_68 a j (fun h => hm (Or.inr (Or.inr (Or.inr (Or.inr (Or.inl h))))))).trans ((hF_17 a j (fun h => hm (Or.inr (Or.inr (Or.inr (Or.inr (Or.inl h))))))).trans (hF a j (fun q => q.elim (fun h => hm (Or.inl h)) (fun q => q.elim (fun h => hm (Or.inr (Or.inl h))) (fun q => q.elim (fun h => hm (Or.inr (Or.inr (Or.inl h)))) (fun q => q.elim (fun h => hm (Or.inr (Or.inr (Or.inr (Or.inl h))))) (fun q => q.elim (fun h => hm (Or.inr (Or.inr (Or.inr (Or.inr (Or.inl h)))))) (fun q => q.elim (fun h => hm (Or.inr (Or.inr (Or.inr (Or.inr (Or.inr (Or.inl h))))))) (fun q => q.elim (fun h => hm (Or.inr (Or.inr (Or.inr (Or.inr (Or.inr (Or.inr (Or.inl h)))))))) (fun q => q.elim (fun h => hm (Or.inr (Or.inr (Or.inr (Or.inr (Or.inr (Or.inr (Or.inr (Or.inl h))))))))) (fun q => q.elim (fun h => hm (Or.inr (Or.inr (Or.inr (Or.inr (Or.inr (Or.inr (Or.inr (Or.inr (Or.inl h)))))))))) (fun q => q.elim (fun h => hm (Or.inr (Or.inr (Or.inr (Or.inr (Or.inr (Or.inr (Or.inr (Or.inr (Or.inr (Or.inl h))))))))))) (fun q => q.elim (fun h => hm (Or.inr (Or.inr (Or.inr (Or.inr (Or.inr (Or.inr (Or.inr (Or.inr (Or.inr (Or.inr (Or.inl h)))))))))))) (fun q => q.elim (fun h => hm (Or.inr (Or.inr (Or.inr (Or.inr (Or.inr (Or.inr (Or.inr (Or.inr (Or.inr (Or.inr (Or.inr (Or.inl h))))))))))))) (fun q => q.elim (fun h => hm (Or.inr (Or.inr (Or.inr (Or.inr (Or.inr (Or.inr (Or.inr (Or.inr (Or.inr (Or.inr (Or.inr (Or.inr (Or.inl h)))))))))))))) (fun q => q.elim (fun h => hm (Or.inr (Or.inr (Or.inr (Or.inr (Or.inr (Or.inr (Or.inr (Or.inr (Or.inr (Or.inr (Or.inr (Or.inr (Or.inr (Or.inl h))))))))))))))) (fun q => q.elim (fun h => hm (Or.inr (Or.inr (Or.inr (Or.inr (Or.inr (Or.inr (Or.inr (Or.inr (Or.inr (Or.inr (Or.inr (Or.inr (Or.inr (Or.inr (Or.inl h)))))))))))))))) (fun q => q.elim (fun h => hm (Or.inr (Or.inr (Or.inr (Or.inr (Or.inr (Or.inr (Or.inr (Or.inr (Or.inr (Or.inr (Or.inr (Or.inr (Or.inr (Or.inr (Or.inr (Or.inl h))))))))))))))))) (fun q => q.elim (fun h => hm (Or.inr (Or.inr (Or.inr (Or.inr (Or.inr (Or.inr (Or.inr (Or.inr (Or.inr (Or.inr (Or.inr (Or.inr (Or.inr (Or.inr (Or.inr (Or.inr (Or.inl h)))))))))))))))))) (fun q => q.elim (fun h => hm (Or.inr (Or.inr (Or.inr (Or.inr (Or.inr (Or.inr (Or.inr (Or.inr (Or.inr (Or.inr (Or.inr (Or.inr (Or.inr (Or.inr (Or.inr (Or.inr (Or.inr (Or.inl h))))))))))))))))))) (fun q => q.elim (fun h => hm (Or.inr (Or.inr (Or.inr (Or.inr (Or.inr (Or.inr (Or.inr (Or.inr (Or.inr (Or.inr (Or.inr (Or.inr (Or.inr (Or.inr (Or.inr (Or.inr (Or.inr (Or.inr (Or.inl h)))))))))))))))))))) (fun q => q.elim (fun h => hm (Or.inr (Or.inr (Or.inr (Or.inr (Or.inr (Or.inr (Or.inr (Or.inr (Or.inr (Or.inr (Or.inr (Or.inr (Or.inr (Or.inr (Or.inr (Or.inr (Or.inr (Or.inr (Or.inr (Or.inl h))))))))))))))))))))) (fun q => q.elim (fun h => hm (Or.inr (Or.inr (Or.inr (Or.inr (Or.inr (Or.inr (Or.inr (Or.inr (Or.inr (Or.inr (Or.inr (Or.inr (Or.inr (Or.inr (Or.inr (Or.inr (Or.inr (Or.inr (Or.inr (Or.inr (Or.inl h)))))))))))))))))))))) (fun q => q.elim (fun h => hm (Or.inr (Or.inr (Or.inr (Or.inr (Or.inr (Or.inr (Or.inr (Or.inr (Or.inr (Or.inr (Or.inr (Or.inr (Or.inr (Or.inr (Or.inr (Or.inr (Or.inr (Or.inr (Or.inr (Or.inr (Or.inr (Or.inl h))))))))))))))))))))))) (fun q => q.elim (fun h => hm (Or.inr (Or.inr (Or.inr (Or.inr (Or.inr (Or.inr (Or.inr (Or.inr (Or.inr (Or.inr (Or.inr (Or.inr (Or.inr (Or.inr (Or.inr (Or.inr (Or.inr (Or.inr (Or.inr (Or.inr (Or.inr (Or.inr (Or.inl h)))))))))))))))))))))))) (fun q => q.elim (fun h => hm (Or.inr (Or.inr (Or.inr (Or.inr (Or.inr (Or.inr (Or.inr (Or.inr (Or.inr (Or.inr (Or.inr (Or.inr (Or.inr (Or.inr (Or.inr (Or.inr (Or.inr (Or.inr (Or.inr (Or.inr (Or.inr (Or.inr (Or.inr (Or.inl h))))))))))))))))))))))))) (fun q => q.elim (fun h => hm (Or.inr (Or.inr (Or.inr (Or.inr (Or.inr (Or.inr (Or.inr (Or.inr (Or.inr (Or.inr (Or.inr (Or.inr (Or.inr (Or.inr (Or.inr (Or.inr (Or.inr (Or.inr (Or.inr (Or.inr (Or.inr (Or.inr (Or.inr (Or.inr (Or.inl h)))))))))))))))))))))))))) (fun q => q.elim (fun h => hm (Or.inr (Or.inr (Or.inr (Or.inr (Or.inr (Or.inr (Or.inr (Or.inr (Or.inr (Or.inr (Or.inr (Or.inr (Or.inr (Or.inr (Or.inr (Or.inr (Or.inr (Or.inr (Or.inr (Or.inr (Or.inr (Or.inr (Or.inr (Or.inr (Or.inr (Or.inl h))))))))))))))))))))))))))) (fun q => q.elim (fun h => hm (Or.inr (Or.inr (Or.inr (Or.inr (Or.inr (Or.inr (Or.inr (Or.inr (Or.inr (Or.inr (Or.inr (Or.inr (Or.inr (Or.inr (Or.inr (Or.inr (Or.inr (Or.inr (Or.inr (Or.inr (Or.inr (Or.inr (Or.inr (Or.inr (Or.inr (Or.inr (Or.inl h)))))))))))))))))))))))))))) (fun q => q.elim (fun h => hm (Or.inr (Or.inr (Or.inr (Or.inr (Or.inr (Or.inr (Or.inr (Or.inr (Or.inr (Or.inr (Or.inr (Or.inr (Or.inr (Or.inr (Or.inr (Or.inr (Or.inr (Or.inr (Or.inr (Or.inr (Or.inr (Or.inr (Or.inr (Or.inr (Or.inr (Or.inr (Or.inr (Or.inl h))))))))))))))))))))))))))))) (fun q => q.elim (fun h => hm (Or.inr (Or.inr (Or.inr (Or.inr (Or.inr (Or.inr (Or.inr (Or.inr (Or.inr (Or.inr (Or.inr (Or.inr (Or.inr (Or.inr (Or.inr (Or.inr (Or.inr (Or.inr (Or.inr (Or.inr (Or.inr (Or.inr (Or.inr (Or.inr (Or.inr (Or.inr (Or.inr (Or.inr (Or.inl h)))))))))))))))))))))))))))))) (fun q => q.elim (fun h => hm (Or.inr (Or.inr (Or.inr (Or.inr (Or.inr (Or.inr (Or.inr (Or.inr (Or.inr (Or.inr (Or.inr (Or.inr (Or.inr (Or.inr (Or.inr (Or.inr (Or.inr (Or.inr (Or.inr (Or.inr (Or.inr (Or.inr (Or.inr (Or.inr (Or.inr (Or.inr (Or.inr (Or.inr (Or.inr (Or.inl h))))))))))))))))))))))))))))))) (fun h => hm (Or.inr (Or.inr (Or.inr (Or.inr (Or.inr (Or.inr (Or.inr (Or.inr (Or.inr (Or.inr (Or.inr (Or.inr (Or.inr (Or.inr (Or.inr (Or.inr (Or.inr (Or.inr (Or.inr (Or.inr (Or.inr (Or.inr (Or.inr (Or.inr (Or.inr (Or.inr (Or.inr (Or.inr (Or.inr (Or.inr h))))))))))))))))))))))))))))))))))))))))))))))))))))))))))))))))))) ⟨by first | exact rgp_l hv2.1 (by decide) | omega, by first | (clear h_1 h_2 h_3 h_4 h_14 h_22 h_19 h_75 h_70 h_76 h_80 h_84 h_248 h_269 h_265 h_270 h_277 h_286 h_285 h_290 h_298 h_294 h_299 h_20 h_21 h_71 h_72 h_73 h_74 h_89 h_90 h_111 h_251 h_266 h_267 h_268 h_295 h_296 h_297; omega) | omega⟩ ⟨by first | (clear h_1 h_2 h_3 h_4 h_14 h_22 h_19 h_75 h_70 h_76 h_80 h_84 h_248 h_269 h_265 h_270 h_277 h_286 h_285 h_290 h_298 h_294 h_299 h_20 h_21 h_71 h_72 h_73 h_74 h_89 h_90 h_111 h_251 h_266 h_267 h_268 h_295 h_296 h_297; omega) | omega, by first | (clear h_1 h_2 h_3 h_4 h_14 h_22 h_19 h_75 h_70 h_76 h_80 h_84 h_248 h_269 h_265 h_270 h_277 h_286 h_285 h_290 h_298 h_294 h_299 h_20 h_21 h_71 h_72 h_73 h_74 h_89 h_90 h_111 h_251 h_266 h_267 h_268 h_295 h_296 h_297; omega) | omega, by first | (clear h_1 h_2 h_3 h_4 h_14 h_22 h_19 h_75 h_70 h_76 h_80 h_84 h_248 h_269 h_265 h_270 h_277 h_286 h_285 h_290 h_298 h_294 h_299 h_20 h_21 h_71 h_72 h_73 h_74 h_89 h_90 h_111 h_251 h_266 h_267 h_268 h_295 h_296 h_297; omega) | omega, by first | (clear h_1 h_2 h_3 h_4 h_14 h_22 h_19 h_75 h_70 h_76 h_80 h_84 h_248 h_269 h_265 h_270 h_277 h_286 h_285 h_290 h_298 h_294 h_299 h_20 h_21 h_71 h_72 h_73 h_74 h_89 h_90 h_111 h_251 h_266 h_267 h_268 h_295 h_296 h_297; omega) | omega⟩ (by omega)
                · refine v_ic_ne_f (t := 47) rfl (by decide) (Decidable.not_not.mp h_251) ?_
                  refine q_iconst rfl ?_
                  refine q_goto (t := 73) rfl (by decide) ?_
                  refine v_zret rfl rfl (by decide) ?_
                  refine bk_inl ?_
                  refine v_if_eq_f (t := 105) rfl (by decide) (by decide) ?_
                  refine q_aload_n rfl rfl ?_
                  refine q_iconst rfl ?_
                  refine q_aload_n rfl rfl ?_
                  refine v_gi (z := 4) (v := c_66 41 4) rfl rfl rfl (by decide) rfl rfl rfl ?_
                  refine v_cv rfl rfl rfl rfl (by decide) ⟨⟨rfl, rfl⟩, by decide, rfl⟩ (Nat.le_of_ble_eq_true rfl) (Nat.le_of_ble_eq_true rfl) (s_153 (a1 := 3) (a2 := c_66 41 4) hI_67 (show 1 ≤ 3 ∧ 3 ≤ 3 from ⟨by decide, by decide⟩) (show 0 ≤ c_66 41 4 ∧ c_66 41 4 ≤ 605 from h_75) (fun c_306 hI_307 hF_308 h_309 => ?_))
                  refine bk_inl ?_
                  have h_310 := ir_41_5 hI_307
                  refine q_aload_n rfl rfl ?_
                  refine v_cv rfl rfl rfl rfl (by decide) ⟨⟨rfl, rfl⟩, by decide, rfl⟩ (Nat.le_of_ble_eq_true rfl) (Nat.le_of_ble_eq_true rfl) ?_
                  refine q_aload_n rfl rfl ?_
                  refine v_gi (z := 5) (v := c_306 41 5) rfl rfl rfl (by decide) rfl rfl rfl ?_
                  refine q_iconst rfl ?_
                  refine v_ic_ne_t (t := 12) rfl (by decide) ⟨by first | (clear h_1 h_2 h_3 h_4 h_14 h_22 h_19 h_75 h_70 h_76 h_80 h_84 h_248 h_20 h_21 h_71 h_72 h_73 h_74 h_89 h_90 h_111; omega) | omega, ⟨(Int.le_trans (by decide) h_310.1), (Int.le_trans h_310.2 (by decide))⟩, by decide, by decide⟩ ?_
                  refine q_iconst rfl ?_
                  refine v_zret rfl rfl (by decide) ?_
                  refine bk_inl ?_
                  refine v_if_ne_f (t := 115) rfl (by decide) (by decide) ?_
                  refine q_goto (t := 136) rfl (by decide) ?_
                  refine q_aload_n rfl rfl ?_
                  refine q_aload_n rfl rfl ?_
                  have h_311 := ir_41_16 hI2
                  have kn_312 : Hid (c_15 41 16 = c2 41 16) := hF_17 41 16 (fun h => absurd h.2 (ni rfl))
                  have kn_313 : Hid (c_66 41 16 = c2 41 16) := (hF_68 41 16 (fun h => absurd h.2 (ni rfl))).trans (hid kn_312)
                  have kn_314 : Hid (c_306 41 16 = c2 41 16) := (hF_308 41 16 (fun q => q.elim (fun h => absurd h.2 (ni rfl)) (fun h => absurd h.2 (ni rfl)))).trans (hid kn_313)
                  refine v_gi (z := 16) (v := c2 41 16) rfl rfl rfl (by decide) rfl rfl (hid kn_314) ?_
                  refine v_cv rfl rfl rfl rfl (by decide) ⟨⟨rfl, rfl⟩, by decide, rfl⟩ (Nat.le_of_ble_eq_true rfl) (Nat.le_of_ble_eq_true rfl) (s_164 (a1 := c2 41 16) hI_307 (show (-2147483648) ≤ c2 41 16 ∧ c2 41 16 ≤ 2147483647 from ⟨by first | (clear h_1 h_2 h_3 h_4 h_14 h_22 h_19 h_75 h_70 h_76 h_80 h_84 h_248 h_310 h_20 h_21 h_71 h_72 h_73 h_74 h_89 h_90 h_111 h_309; omega) | omega, by first | (clear h_1 h_2 h_3 h_4 h_14 h_22 h_19 h_75 h_70 h_76 h_80 h_84 h_248 h_310 h_20 h_21 h_71 h_72 h_73 h_74 h_89 h_90 h_111 h_309; omega) | omega⟩) (fun c_315 y_318 hI_316 hF_317 hy_318 => ?_))
                  refine bk_inl ?_
                  refine q_istore_n rfl (by decide) ?_
                  refine q_aload_n rfl rfl ?_
                  have kn_319 : Hid (c_315 41 5 = c_306 41 5) := hF_317 41 5 (fun h => absurd h.2 (ni rfl))
                  refine v_gi (z := 5) (v := c_306 41 5) rfl rfl rfl (by decide) rfl rfl (hid kn_319) ?_
                  refine q_iconst rfl ?_
                  refine v_ic_ne_t (t := 157) rfl (by decide) ⟨by first | (clear h_1 h_2 h_3 h_4 h_14 h_22 h_19 h_75 h_70 h_76 h_80 h_84 h_248 h_311 h_20 h_21 h_71 h_72 h_73 h_74 h_89 h_90 h_111; omega) | omega, ⟨(Int.le_trans (by decide) h_310.1), (Int.le_trans h_310.2 (by decide))⟩, by decide, by decide⟩ ?_
                  refine q_iload_n rfl rfl ?_
                  refine q_iret rfl rfl ?_
                  have kn_320 : Hid (c_15 41 2 = c2 41 2) := hF_17 41 2 (fun h => absurd h.2 (ni rfl))
                  have kn_321 : Hid (c_66 41 2 = c2 41 2) := (hF_68 41 2 (fun h => absurd h.2 (ni rfl))).trans (hid kn_320)
                  have kn_322 : Hid (c_306 41 2 = c2 41 2) := (hF_308 41 2 (fun q => q.elim (fun h => absurd h.2 (ni rfl)) (fun h => absurd h.2 (ni rfl)))).trans (hid kn_321)
                  have kn_323 : Hid (c_315 41 2 = c2 41 2) := (hF_317 41 2 (fun h => absurd h.2 (ni rfl))).trans (hid kn_322)
                  have h_324 : c_315 41 2 = c2 41 2 := (hid kn_323)
                  exact K c_315 y_318 hI_316 (fun a j hm => (hF_317 a j (fun h => hm (Or.inr (Or.inr (Or.inr (Or.inr (Or.inr (Or.inr (Or.inr (Or.inr (Or.inl h))))))))))).trans ((hF_308 a j (fun q => q.elim (fun h => hm (Or.inr (Or.inr (Or.inr (Or.inr (Or.inr (Or.inl h))))))) (fun h => hm (Or.inr (Or.inr (Or.inr (Or.inr (Or.inr (Or.inr (Or.inl h)))))))))).trans ((hF_68 a j (fun h => hm (Or.inr (Or.inr (Or.inr (Or.inr (Or.inl h))))))).trans ((hF_17 a j (fun h => hm (Or.inr (Or.inr (Or.inr (Or.inr (Or.inl h))))))).trans (hF a j (fun q => q.elim (fun h => hm (Or.inl h)) (fun q => q.elim (fun h => hm (Or.inr (Or.inl h))) (fun q => q.elim (fun h => hm (Or.inr (Or.inr (Or.inl h)))) (fun q => q.elim (fun h => hm (Or.inr (Or.inr (Or.inr (Or.inl h))))) (fun q => q.elim (fun h => hm (Or.inr (Or.inr (Or.inr (Or.inr (Or.inl h)))))) (fun q => q.elim (fun h => hm (Or.inr (Or.inr (Or.inr (Or.inr (Or.inr (Or.inl h))))))) (fun q => q.elim (fun h => hm (Or.inr (Or.inr (Or.inr (Or.inr (Or.inr (Or.inr (Or.inl h)))))))) (fun q => q.elim (fun h => hm (Or.inr (Or.inr (Or.inr (Or.inr (Or.inr (Or.inr (Or.inr (Or.inl h))))))))) (fun q => q.elim (fun h => hm (Or.inr (Or.inr (Or.inr (Or.inr (Or.inr (Or.inr (Or.inr (Or.inr (Or.inl h)))))))))) (fun q => q.elim (fun h => hm (Or.inr (Or.inr (Or.inr (Or.inr (Or.inr (Or.inr (Or.inr (Or.inr (Or.inr (Or.inl h))))))))))) (fun q => q.elim (fun h => hm (Or.inr (Or.inr (Or.inr (Or.inr (Or.inr (Or.inr (Or.inr (Or.inr (Or.inr (Or.inr (Or.inl h)))))))))))) (fun q => q.elim (fun h => hm (Or.inr (Or.inr (Or.inr (Or.inr (Or.inr (Or.inr (Or.inr (Or.inr (Or.inr (Or.inr (Or.inr (Or.inl h))))))))))))) (fun q => q.elim (fun h => hm (Or.inr (Or.inr (Or.inr (Or.inr (Or.inr (Or.inr (Or.inr (Or.inr (Or.inr (Or.inr (Or.inr (Or.inr (Or.inl h)))))))))))))) (fun q => q.elim (fun h => hm (Or.inr (Or.inr (Or.inr (Or.inr (Or.inr (Or.inr (Or.inr (Or.inr (Or.inr (Or.inr (Or.inr (Or.inr (Or.inr (Or.inl h))))))))))))))) (fun q => q.elim (fun h => hm (Or.inr (Or.inr (Or.inr (Or.inr (Or.inr (Or.inr (Or.inr (Or.inr (Or.inr (Or.inr (Or.inr (Or.inr (Or.inr (Or.inr (Or.inl h)))))))))))))))) (fun q => q.elim (fun h => hm (Or.inr (Or.inr (Or.inr (Or.inr (Or.inr (Or.inr (Or.inr (Or.inr (Or.inr (Or.inr (Or.inr (Or.inr (Or.inr (Or.inr (Or.inr (Or.inl h))))))))))))))))) (fun q => q.elim (fun h => hm (Or.inr (Or.inr (Or.inr (Or.inr (Or.inr (Or.inr (Or.inr (Or.inr (Or.inr (Or.inr (Or.inr (Or.inr (Or.inr (Or.inr (Or.inr (Or.inr (Or.inl h)))))))))))))))))) (fun q => q.elim (fun h => hm (Or.inr (Or.inr (Or.inr (Or.inr (Or.inr (Or.inr (Or.inr (Or.inr (Or.inr (Or.inr (Or.inr (Or.inr (Or.inr (Or.inr (Or.inr (Or.inr (Or.inr (Or.inl h))))))))))))))))))) (fun q => q.elim (fun h => hm (Or.inr (Or.inr (Or.inr (Or.inr (Or.inr (Or.inr (Or.inr (Or.inr (Or.inr (Or.inr (Or.inr (Or.inr (Or.inr (Or.inr (Or.inr (Or.inr (Or.inr (Or.inr (Or.inl h)))))))))))))))))))) (fun q => q.elim (fun h => hm (Or.inr (Or.inr (Or.inr (Or.inr (Or.inr (Or.inr (Or.inr (Or.inr (Or.inr (Or.inr (Or.inr (Or.inr (Or.inr (Or.inr (Or.inr (Or.inr (Or.inr (Or.inr (Or.inr (Or.inl h))))))))))))))))))))) (fun q => q.elim (fun h => hm (Or.inr (Or.inr (Or.inr (Or.inr (Or.inr (Or.inr (Or.inr (Or.inr (Or.inr (Or.inr (Or.inr (Or.inr (Or.inr (Or.inr (Or.inr (Or.inr (Or.inr (Or.inr (Or.inr (Or.inr (Or.inl h)))))))))))))))))))))) (fun q => q.elim (fun h => hm (Or.inr (Or.inr (Or.inr (Or.inr (Or.inr (Or.inr (Or.inr (Or.inr (Or.inr (Or.inr (Or.inr (Or.inr (Or.inr (Or.inr (Or.inr (Or.inr (Or.inr (Or.inr (Or.inr (Or.inr (Or.inr (Or.inl h))))))))))))))))))))))) (fun q => q.elim (fun h => hm (Or.inr (Or.inr (Or.inr (Or.inr (Or.inr (Or.inr (Or.inr (Or.inr (Or.inr (Or.inr (Or.inr (Or.inr (Or.inr (Or.inr (Or.inr (Or.inr (Or.inr (Or.inr (Or.inr (Or.inr (Or.inr (Or.inr (Or.inl h)))))))))))))))))))))))) (fun q => q.elim (fun h => hm (Or.inr (Or.inr (Or.inr (Or.inr (Or.inr (Or.inr (Or.inr (Or.inr (Or.inr (Or.inr (Or.inr (Or.inr (Or.inr (Or.inr (Or.inr (Or.inr (Or.inr (Or.inr (Or.inr (Or.inr (Or.inr (Or.inr (Or.inr (Or.inl h))))))))))))))))))))))))) (fun q => q.elim (fun h => hm (Or.inr (Or.inr (Or.inr (Or.inr (Or.inr (Or.inr (Or.inr (Or.inr (Or.inr (Or.inr (Or.inr (Or.inr (Or.inr (Or.inr (Or.inr (Or.inr (Or.inr (Or.inr (Or.inr (Or.inr (Or.inr (Or.inr (Or.inr (Or.inr (Or.inl h)))))))))))))))))))))))))) (fun q => q.elim (fun h => hm (Or.inr (Or.inr (Or.inr (Or.inr (Or.inr (Or.inr (Or.inr (Or.inr (Or.inr (Or.inr (Or.inr (Or.inr (Or.inr (Or.inr (Or.inr (Or.inr (Or.inr (Or.inr (Or.inr (Or.inr (Or.inr (Or.inr (Or.inr (Or.inr (Or.inr (Or.inl h))))))))))))))))))))))))))) (fun q => q.elim (fun h => hm (Or.inr (Or.inr (Or.inr (Or.inr (Or.inr (Or.inr (Or.inr (Or.inr (Or.inr (Or.inr (Or.inr (Or.inr (Or.inr (Or.inr (Or.inr (Or.inr (Or.inr (Or.inr (Or.inr (Or.inr (Or.inr (Or.inr (Or.inr (Or.inr (Or.inr (Or.inr (Or.inl h)))))))))))))))))))))))))))) (fun q => q.elim (fun h => hm (Or.inr (Or.inr (Or.inr (Or.inr (Or.inr (Or.inr (Or.inr (Or.inr (Or.inr (Or.inr (Or.inr (Or.inr (Or.inr (Or.inr (Or.inr (Or.inr (Or.inr (Or.inr (Or.inr (Or.inr (Or.inr (Or.inr (Or.inr (Or.inr (Or.inr (Or.inr (Or.inr (Or.inl h))))))))))))))))))))))))))))) (fun q => q.elim (fun h => hm (Or.inr (Or.inr (Or.inr (Or.inr (Or.inr (Or.inr (Or.inr (Or.inr (Or.inr (Or.inr (Or.inr (Or.inr (Or.inr (Or.inr (Or.inr (Or.inr (Or.inr (Or.inr (Or.inr (Or.inr (Or.inr (Or.inr (Or.inr (Or.inr (Or.inr (Or.inr (Or.inr (Or.inr (Or.inl h)))))))))))))))))))))))))))))) (fun q => q.elim (fun h => hm (Or.inr (Or.inr (Or.inr (Or.inr (Or.inr (Or.inr (Or.inr (Or.inr (Or.inr (Or.inr (Or.inr (Or.inr (Or.inr (Or.inr (Or.inr (Or.inr (Or.inr (Or.inr (Or.inr (Or.inr (Or.inr (Or.inr (Or.inr (Or.inr (Or.inr (Or.inr (Or.inr (Or.inr (Or.inr (Or.inl h))))))))))))))))))))))))))))))) (fun h => hm (Or.inr (Or.inr (Or.inr (Or.inr (Or.inr (Or.inr (Or.inr (Or.inr (Or.inr (Or.inr (Or.inr (Or.inr (Or.inr (Or.inr (Or.inr (Or.inr (Or.inr (Or.inr (Or.inr (Or.inr (Or.inr (Or.inr (Or.inr (Or.inr (Or.inr (Or.inr (Or.inr (Or.inr (Or.inr (Or.inr h)))))))))))))))))))))))))))))))))))))))))))))))))))))))))))))))))) hy_318 (Or.inl ⟨by first | (clear h_1 h_2 h_3 h_4 h_14 h_22 h_19 h_75 h_70 h_76 h_80 h_84 h_248 h_310 h_311 h_20 h_21 h_71 h_72 h_73 h_74 h_89 h_90 h_111 h_309; omega) | omega, by first | (clear h_1 h_2 h_3 h_4 h_14 h_22 h_19 h_75 h_70 h_76 h_80 h_84 h_248 h_310 h_311 h_20 h_21 h_71 h_72 h_73 h_74 h_89 h_90 h_111 h_309; omega) | omega, by first | (clear h_1 h_2 h_3 h_4 h_14 h_22 h_19 h_75 h_70 h_76 h_80 h_84 h_248 h_310 h_311 h_20 h_21 h_71 h_72 h_73 h_74 h_89 h_90 h_111 h_309; omega) | omega, by first | (clear h_1 h_2 h_3 h_4 h_14 h_22 h_19 h_75 h_70 h_76 h_80 h_84 h_248 h_310 h_311 h_20 h_21 h_71 h_72 h_73 h_74 h_89 h_90 h_111 h_309; omega) | omega⟩)
            · refine v_ic_ne_f (t := 26) rfl (by decide) (Decidable.not_not.mp h_111) ?_
              refine q_aload_n rfl rfl ?_
              have h_325 := ir_41_16 hI2
              have kn_326 : Hid (c_15 41 16 = c2 41 16) := hF_17 41 16 (fun h => absurd h.2 (ni rfl))
              have kn_327 : Hid (c_66 41 16 = c2 41 16) := (hF_68 41 16 (fun h => absurd h.2 (ni rfl))).trans (hid kn_326)
              refine v_gi (z := 16) (v := c2 41 16) rfl rfl rfl (by decide) rfl rfl (hid kn_327) ?_
              refine v_bip rfl (by decide) ?_
              by_cases h_328 : c2 41 16 ≠ 6
              · refine v_ic_ne_t (t := 22) rfl (by decide) ⟨h_328, ⟨by first | (clear h_1 h_2 h_3 h_4 h_14 h_22 h_19 h_75 h_70 h_76 h_80 h_84 h_20 h_21 h_71 h_72 h_73 h_74 h_89 h_90; omega) | omega, by first | (clear h_1 h_2 h_3 h_4 h_14 h_22 h_19 h_75 h_70 h_76 h_80 h_84 h_20 h_21 h_71 h_72 h_73 h_74 h_89 h_90; omega) | omega⟩, by decide, by decide⟩ ?_
                refine q_iconst rfl ?_
                refine q_goto (t := 73) rfl (by decide) ?_
                refine v_zret rfl rfl (by decide) ?_
                refine bk_inl ?_
                refine v_if_eq_t (t := 105) rfl (by decide) (by decide) ?_
                refine q_aload_n rfl rfl ?_
                refine v_cv rfl rfl rfl rfl (by decide) ⟨⟨rfl, rfl⟩, by decide, rfl⟩ (Nat.le_of_ble_eq_true rfl) (Nat.le_of_ble_eq_true rfl) ?_
                refine q_aload_n rfl rfl ?_
                have kn_329 : Hid (c_15 41 5 = c2 41 5) := hF_17 41 5 (fun h => absurd h.2 (ni rfl))
                have kn_330 : Hid (c_66 41 5 = c2 41 5) := (hF_68 41 5 (fun h => absurd h.2 (ni rfl))).trans (hid kn_329)
                refine v_gi (z := 5) (v := c2 41 5) rfl rfl rfl (by decide) rfl rfl (hid kn_330) ?_
                refine q_iconst rfl ?_
                refine v_ic_ne_f (t := 12) rfl (by decide) (by first | (clear h_1 h_2 h_3 h_14 h_22 h_19 h_75 h_70 h_76 h_80 h_84 h_325 h_20 h_21 h_71 h_72 h_73 h_74 h_89 h_90 h_328; omega) | omega) ?_
                refine q_iconst rfl ?_
                refine q_goto (t := 13) rfl (by decide) ?_
                refine v_zret rfl rfl (by decide) ?_
                refine bk_inl ?_
                refine v_if_ne_t (t := 115) rfl (by decide) (by decide) ?_
                refine q_aload_n rfl rfl ?_
                have kn_331 : Hid (c_66 41 3 = c2 41 3) := (hF_68 41 3 (fun h => absurd h.2 (ni rfl))).trans (hid kn_64)
                have h_332 : c_66 41 3 = c2 41 3 := (hid kn_331)
                have kn_333 : Hid (c_66 43 (c_66 41 4) = c 43 (c_66 41 4)) := (hF_68 43 (c_66 41 4) (fun h => absurd h.1 (nn rfl))).trans (hid kn_78)
                have h_334 : c_66 43 (c_66 41 4) = c 43 (c_66 41 4) := (hid kn_333)
                have kn_335 : Hid (c_66 43 (c_66 41 4 + 1) = c 43 (c_66 41 4 + 1)) := (hF_68 43 (c_66 41 4 + 1) (fun h => absurd h.1 (nn rfl))).trans (hid kn_82)
                have h_336 : c_66 43 (c_66 41 4 + 1) = c 43 (c_66 41 4 + 1) := (hid kn_335)
                have kn_337 : Hid (c_66 43 (c_66 41 4 + 2) = c 43 (c_66 41 4 + 2)) := (hF_68 43 (c_66 41 4 + 2) (fun h => absurd h.1 (nn rfl))).trans (hid kn_86)
                have h_338 : c_66 43 (c_66 41 4 + 2) = c 43 (c_66 41 4 + 2) := (hid kn_337)
                refine v_cv rfl rfl rfl rfl (by decide) ⟨⟨rfl, rfl⟩, by decide, rfl⟩ (Nat.le_of_ble_eq_true rfl) (Nat.le_of_ble_eq_true rfl) (s_159 hI_67 (fun c_339 hI_340 hF_341 h_342 h_343 h_344 h_345 => ?_))
                refine bk_inl ?_
                have h_346 := ir_41_4 hI_340
                refine q_aload_n rfl rfl ?_
                refine q_iload_n rfl rfl ?_
                have kn_347 : Hid (c_339 41 16 = c2 41 16) := (hF_341 41 16 (fun h => absurd h.2 (ni rfl))).trans (hid kn_327)
                have h_348 : c_339 41 16 = c2 41 16 := (hid kn_347)
                have h_349 := ir_41_17 hI2
                have kn_350 : Hid (c_15 41 17 = c2 41 17) := hF_17 41 17 (fun h => absurd h.2 (ni rfl))
                have kn_351 : Hid (c_66 41 17 = c2 41 17) := (hF_68 41 17 (fun h => absurd h.2 (ni rfl))).trans (hid kn_350)
                have kn_352 : Hid (c_339 41 17 = c2 41 17) := (hF_341 41 17 (fun h => absurd h.2 (ni rfl))).trans (hid kn_351)
                have h_353 : c_339 41 17 = c2 41 17 := (hid kn_352)
                have h_354 := ir_41_18 hI2
                have kn_355 : Hid (c_15 41 18 = c2 41 18) := hF_17 41 18 (fun h => absurd h.2 (ni rfl))
                have kn_356 : Hid (c_66 41 18 = c2 41 18) := (hF_68 41 18 (fun h => absurd h.2 (ni rfl))).trans (hid kn_355)
                have kn_357 : Hid (c_339 41 18 = c2 41 18) := (hF_341 41 18 (fun h => absurd h.2 (ni rfl))).trans (hid kn_356)
                have h_358 : c_339 41 18 = c2 41 18 := (hid kn_357)
                refine v_cv rfl rfl rfl rfl (by decide) ⟨⟨rfl, rfl⟩, by decide, rfl⟩ (Nat.le_of_ble_eq_true rfl) (Nat.le_of_ble_eq_true rfl) (s_168 (a1 := y_69) hI_340 (show (-2147483648) ≤ y_69 ∧ y_69 ≤ 2147483647 from hy_69) (Or.inr (by first | (clear h_1 h_2 h_3 h_4 h_14 h_22 h_19 h_75 h_70 h_76 h_80 h_84 h_346 h_342 h_349 h_354 h_20 h_21 h_71 h_72 h_73 h_74 h_89 h_90 h_343 h_344 h_345; omega) | omega)) (Or.inl (by first | (clear h_1 h_2 h_3 h_4 h_14 h_22 h_19 h_75 h_70 h_76 h_80 h_84 h_325 h_346 h_342 h_349 h_354 h_20 h_21 h_71 h_72 h_73 h_74 h_89 h_90 h_328 h_343 h_344 h_345; omega) | omega)) (Or.inl (by first | (clear h_1 h_2 h_3 h_4 h_14 h_22 h_19 h_75 h_70 h_76 h_80 h_84 h_325 h_346 h_342 h_349 h_354 h_20 h_21 h_71 h_72 h_73 h_74 h_89 h_90 h_328 h_343 h_344 h_345; omega) | omega)) (fun c_359 hI_360 hF_361 h_362 => ?_))
                refine bk_inl ?_
                have h_363 := ir_41_4 hI_360
                refine q_aload_n rfl rfl ?_
                refine v_bip rfl (by decide) ?_
                have kn_364 : Hid (c_339 41 3 = c2 41 3) := (hF_341 41 3 (fun h => absurd h.2 (ni rfl))).trans (hid kn_331)
                have kn_365 : Hid (c_359 41 3 = c2 41 3) := (hF_361 41 3 (fun q => q.elim (fun h => absurd h.2 (ni rfl)) (fun q => q.elim (fun h => absurd h.2 (ni rfl)) (fun q => q.elim (fun h => absurd h.2 (ni rfl)) (fun q => q.elim (fun h => absurd h.2 (ni rfl)) (fun q => q.elim (fun h => absurd h.2 (ni rfl)) (fun q => q.elim (fun h => absurd h.2 (ni rfl)) (fun q => q.elim (fun h => absurd h.2 (ni rfl)) (fun q => q.elim (fun h => absurd h (nn rfl)) (fun q => q.elim (fun h => absurd h (nn rfl)) (fun h => absurd h (nn rfl)))))))))))).trans (hid kn_364)
                have h_366 : c_359 41 3 = c2 41 3 := (hid kn_365)
                have h_367 := ir_41_5 hI_360
                refine v_cv rfl rfl rfl rfl (by decide) ⟨⟨rfl, rfl⟩, by decide, rfl⟩ (Nat.le_of_ble_eq_true rfl) (Nat.le_of_ble_eq_true rfl) (s_161 (a1 := 59) hI_360 (show 1 ≤ 59 ∧ 59 ≤ 255 from ⟨by decide, by decide⟩) (fun c_368 hI_369 hF_370 h_371 h_372 h_373 h_374 => ?_))
                refine bk_inl ?_
                have h_375 := ir_41_4 hI_369
                have h_376 := ir_41_5 hI_369
                refine v_iinc (v := v2 + 1) rfl rfl (by decide) rfl ?_
                refine q_goto (t := 44) rfl (by decide) ?_
                refine Wp_ls [(0, .ref 41), (1, vi a1), (2, vi (v2 + 1))] (lsub_cons rfl (lsub_cons rfl (lsub_cons rfl lsub_nil))) ?_
                have kn_377 : Hid (c_15 41 2 = c2 41 2) := hF_17 41 2 (fun h => absurd h.2 (ni rfl))
                have kn_378 : Hid (c_66 41 2 = c2 41 2) := (hF_68 41 2 (fun h => absurd h.2 (ni rfl))).trans (hid kn_377)
                have kn_379 : Hid (c_339 41 2 = c2 41 2) := (hF_341 41 2 (fun h => absurd h.2 (ni rfl))).trans (hid kn_378)
                have kn_380 : Hid (c_359 41 2 = c2 41 2) := (hF_361 41 2 (fun q => q.elim (fun h => absurd h.2 (ni rfl)) (fun q => q.elim (fun h => absurd h.2 (ni rfl)) (fun q => q.elim (fun h => absurd h.2 (ni rfl)) (fun q => q.elim (fun h => absurd h.2 (ni rfl)) (fun q => q.elim (fun h => absurd h.2 (ni rfl)) (fun q => q.elim (fun h => absurd h.2 (ni rfl)) (fun q => q.elim (fun h => absurd h.2 (ni rfl)) (fun q => q.elim (fun h => absurd h (nn rfl)) (fun q => q.elim (fun h => absurd h (nn rfl)) (fun h => absurd h (nn rfl)))))))))))).trans (hid kn_379)
                have kn_381 : Hid (c_368 41 2 = c2 41 2) := (hF_370 41 2 (fun q => q.elim (fun h => absurd h.2 (ni rfl)) (fun q => q.elim (fun h => absurd h.2 (ni rfl)) (fun h => absurd h.2 (ni rfl))))).trans (hid kn_380)
                have h_382 : c_368 41 2 = c2 41 2 := (hid kn_381)
                exact ih c_368 (v2 + 1) hI_369 (fun a j hm => (hF_370 a j (fun q => q.elim (fun h => hm (Or.inr (Or.inr (Or.inr (Or.inr (Or.inl h)))))) (fun q => q.elim (fun h => hm (Or.inr (Or.inr (Or.inr (Or.inr (Or.inr (Or.inl h))))))) (fun h => hm (Or.inr (Or.inr (Or.inr (Or.inr (Or.inr (Or.inr (Or.inl h))))))))))).trans ((hF_361 a j (fun q => q.elim (fun h => hm (Or.inr (Or.inr (Or.inr (Or.inr (Or.inl h)))))) (fun q => q.elim (fun h => hm (Or.inr (Or.inr (Or.inr (Or.inr (Or.inr (Or.inl h))))))) (fun q => q.elim (fun h => hm (Or.inr (Or.inr (Or.inr (Or.inr (Or.inr (Or.inr (Or.inl h)))))))) (fun q => q.elim (fun h => hm (Or.inr (Or.inr (Or.inr (Or.inr (Or.inr (Or.inr (Or.inr (Or.inr (Or.inr (Or.inl h))))))))))) (fun q => q.elim (fun h => hm (Or.inr (Or.inr (Or.inr (Or.inr (Or.inr (Or.inr (Or.inr (Or.inr (Or.inr (Or.inr (Or.inl h)))))))))))) (fun q => q.elim (fun h => hm (Or.inr (Or.inr (Or.inr (Or.inr (Or.inr (Or.inr (Or.inr (Or.inr (Or.inr (Or.inr (Or.inr (Or.inl h))))))))))))) (fun q => q.elim (fun h => hm (Or.inr (Or.inr (Or.inr (Or.inr (Or.inr (Or.inr (Or.inr (Or.inr (Or.inr (Or.inr (Or.inr (Or.inr (Or.inl h)))))))))))))) (fun q => q.elim (fun h => hm (Or.inr (Or.inr (Or.inr (Or.inr (Or.inr (Or.inr (Or.inr (Or.inr (Or.inr (Or.inr (Or.inr (Or.inr (Or.inr (Or.inl h))))))))))))))) (fun q => q.elim (fun h => hm (Or.inr (Or.inr (Or.inr (Or.inr (Or.inr (Or.inr (Or.inr (Or.inr (Or.inr (Or.inr (Or.inr (Or.inr (Or.inr (Or.inr (Or.inl h)))))))))))))))) (fun h => hm (Or.inr (Or.inr (Or.inr (Or.inr (Or.inr (Or.inr (Or.inr (Or.inr (Or.inr (Or.inr (Or.inr (Or.inr (Or.inr (Or.inr (Or.inr (Or.inl h))))))))))))))))))))))))))).trans ((hF_341 a j (fun h => hm (Or.inr (Or.inr (Or.inr (Or.inr (Or.inl h))))))).trans ((hF_68 a j (fun h => hm (Or.inr (Or.inr (Or.inr (Or.inr (Or.inl h))))))).trans ((hF_17 a j (fun h => hm (Or.inr (Or.inr (Or.inr (Or.inr (Or.inl h))))))).trans (hF a j (fun q => q.elim (fun h => hm (Or.inl h)) (fun q => q.elim (fun h => hm (Or.inr (Or.inl h))) (fun q => q.elim (fun h => hm (Or.inr (Or.inr (Or.inl h)))) (fun q => q.elim (fun h => hm (Or.inr (Or.inr (Or.inr (Or.inl h))))) (fun q => q.elim (fun h => hm (Or.inr (Or.inr (Or.inr (Or.inr (Or.inl h)))))) (fun q => q.elim (fun h => hm (Or.inr (Or.inr (Or.inr (Or.inr (Or.inr (Or.inl h))))))) (fun q => q.elim (fun h => hm (Or.inr (Or.inr (Or.inr (Or.inr (Or.inr (Or.inr (Or.inl h)))))))) (fun q => q.elim (fun h => hm (Or.inr (Or.inr (Or.inr (Or.inr (Or.inr (Or.inr (Or.inr (Or.inl h))))))))) (fun q => q.elim (fun h => hm (Or.inr (Or.inr (Or.inr (Or.inr (Or.inr (Or.inr (Or.inr (Or.inr (Or.inl h)))))))))) (fun q => q.elim (fun h => hm (Or.inr (Or.inr (Or.inr (Or.inr (Or.inr (Or.inr (Or.inr (Or.inr (Or.inr (Or.inl h))))))))))) (fun q => q.elim (fun h => hm (Or.inr (Or.inr (Or.inr (Or.inr (Or.inr (Or.inr (Or.inr (Or.inr (Or.inr (Or.inr (Or.inl h)))))))))))) (fun q => q.elim (fun h => hm (Or.inr (Or.inr (Or.inr (Or.inr (Or.inr (Or.inr (Or.inr (Or.inr (Or.inr (Or.inr (Or.inr (Or.inl h))))))))))))) (fun q => q.elim (fun h => hm (Or.inr (Or.inr (Or.inr (Or.inr (Or.inr (Or.inr (Or.inr (Or.inr (Or.inr (Or.inr (Or.inr (Or.inr (Or.inl h)))))))))))))) (fun q => q.elim (fun h => hm (Or.inr (Or.inr (Or.inr (Or.inr (Or.inr (Or.inr (Or.inr (Or.inr (Or.inr (Or.inr (Or.inr (Or.inr (Or.inr (Or.inl h))))))))))))))) (fun q => q.elim (fun h => hm (Or.inr (Or.inr (Or.inr (Or.inr (Or.inr (Or.inr (Or.inr (Or.inr (Or.inr (Or.inr (Or.inr (Or.inr (Or.inr (Or.inr (Or.inl h)))))))))))))))) (fun q => q.elim (fun h => hm (Or.inr (Or.inr (Or.inr (Or.inr (Or.inr (Or.inr (Or.inr (Or.inr (Or.inr (Or.inr (Or.inr (Or.inr (Or.inr (Or.inr (Or.inr (Or.inl h))))))))))))))))) (fun q => q.elim (fun h => hm (Or.inr (Or.inr (Or.inr (Or.inr (Or.inr (Or.inr (Or.inr (Or.inr (Or.inr (Or.inr (Or.inr (Or.inr (Or.inr (Or.inr (Or.inr (Or.inr (Or.inl h)))))))))))))))))) (fun q => q.elim (fun h => hm (Or.inr (Or.inr (Or.inr (Or.inr (Or.inr (Or.inr (Or.inr (Or.inr (Or.inr (Or.inr (Or.inr (Or.inr (Or.inr (Or.inr (Or.inr (Or.inr (Or.inr (Or.inl h))))))))))))))))))) (fun q => q.elim (fun h => hm (Or.inr (Or.inr (Or.inr (Or.inr (Or.inr (Or.inr (Or.inr (Or.inr (Or.inr (Or.inr (Or.inr (Or.inr (Or.inr (Or.inr (Or.inr (Or.inr (Or.inr (Or.inr (Or.inl h)))))))))))))))))))) (fun q => q.elim (fun h => hm (Or.inr (Or.inr (Or.inr (Or.inr (Or.inr (Or.inr (Or.inr (Or.inr (Or.inr (Or.inr (Or.inr (Or.inr (Or.inr (Or.inr (Or.inr (Or.inr (Or.inr (Or.inr (Or.inr (Or.inl h))))))))))))))))))))) (fun q => q.elim (fun h => hm (Or.inr (Or.inr (Or.inr (Or.inr (Or.inr (Or.inr (Or.inr (Or.inr (Or.inr (Or.inr (Or.inr (Or.inr (Or.inr (Or.inr (Or.inr (Or.inr (Or.inr (Or.inr (Or.inr (Or.inr (Or.inl h)))))))))))))))))))))) (fun q => q.elim (fun h => hm (Or.inr (Or.inr (Or.inr (Or.inr (Or.inr (Or.inr (Or.inr (Or.inr (Or.inr (Or.inr (Or.inr (Or.inr (Or.inr (Or.inr (Or.inr (Or.inr (Or.inr (Or.inr (Or.inr (Or.inr (Or.inr (Or.inl h))))))))))))))))))))))) (fun q => q.elim (fun h => hm (Or.inr (Or.inr (Or.inr (Or.inr (Or.inr (Or.inr (Or.inr (Or.inr (Or.inr (Or.inr (Or.inr (Or.inr (Or.inr (Or.inr (Or.inr (Or.inr (Or.inr (Or.inr (Or.inr (Or.inr (Or.inr (Or.inr (Or.inl h)))))))))))))))))))))))) (fun q => q.elim (fun h => hm (Or.inr (Or.inr (Or.inr (Or.inr (Or.inr (Or.inr (Or.inr (Or.inr (Or.inr (Or.inr (Or.inr (Or.inr (Or.inr (Or.inr (Or.inr (Or.inr (Or.inr (Or.inr (Or.inr (Or.inr (Or.inr (Or.inr (Or.inr (Or.inl h))))))))))))))))))))))))) (fun q => q.elim (fun h => hm (Or.inr (Or.inr (Or.inr (Or.inr (Or.inr (Or.inr (Or.inr (Or.inr (Or.inr (Or.inr (Or.inr (Or.inr (Or.inr (Or.inr (Or.inr (Or.inr (Or.inr (Or.inr (Or.inr (Or.inr (Or.inr (Or.inr (Or.inr (Or.inr (Or.inl h)))))))))))))))))))))))))) (fun q => q.elim (fun h => hm (Or.inr (Or.inr (Or.inr (Or.inr (Or.inr (Or.inr (Or.inr (Or.inr (Or.inr (Or.inr (Or.inr (Or.inr (Or.inr (Or.inr (Or.inr (Or.inr (Or.inr (Or.inr (Or.inr (Or.inr (Or.inr (Or.inr (Or.inr (Or.inr (Or.inr (Or.inl h))))))))))))))))))))))))))) (fun q => q.elim (fun h => hm (Or.inr (Or.inr (Or.inr (Or.inr (Or.inr (Or.inr (Or.inr (Or.inr (Or.inr (Or.inr (Or.inr (Or.inr (Or.inr (Or.inr (Or.inr (Or.inr (Or.inr (Or.inr (Or.inr (Or.inr (Or.inr (Or.inr (Or.inr (Or.inr (Or.inr (Or.inr (Or.inl h)))))))))))))))))))))))))))) (fun q => q.elim (fun h => hm (Or.inr (Or.inr (Or.inr (Or.inr (Or.inr (Or.inr (Or.inr (Or.inr (Or.inr (Or.inr (Or.inr (Or.inr (Or.inr (Or.inr (Or.inr (Or.inr (Or.inr (Or.inr (Or.inr (Or.inr (Or.inr (Or.inr (Or.inr (Or.inr (Or.inr (Or.inr (Or.inr (Or.inl h))))))))))))))))))))))))))))) (fun q => q.elim (fun h => hm (Or.inr (Or.inr (Or.inr (Or.inr (Or.inr (Or.inr (Or.inr (Or.inr (Or.inr (Or.inr (Or.inr (Or.inr (Or.inr (Or.inr (Or.inr (Or.inr (Or.inr (Or.inr (Or.inr (Or.inr (Or.inr (Or.inr (Or.inr (Or.inr (Or.inr (Or.inr (Or.inr (Or.inr (Or.inl h)))))))))))))))))))))))))))))) (fun q => q.elim (fun h => hm (Or.inr (Or.inr (Or.inr (Or.inr (Or.inr (Or.inr (Or.inr (Or.inr (Or.inr (Or.inr (Or.inr (Or.inr (Or.inr (Or.inr (Or.inr (Or.inr (Or.inr (Or.inr (Or.inr (Or.inr (Or.inr (Or.inr (Or.inr (Or.inr (Or.inr (Or.inr (Or.inr (Or.inr (Or.inr (Or.inl h))))))))))))))))))))))))))))))) (fun h => hm (Or.inr (Or.inr (Or.inr (Or.inr (Or.inr (Or.inr (Or.inr (Or.inr (Or.inr (Or.inr (Or.inr (Or.inr (Or.inr (Or.inr (Or.inr (Or.inr (Or.inr (Or.inr (Or.inr (Or.inr (Or.inr (Or.inr (Or.inr (Or.inr (Or.inr (Or.inr (Or.inr (Or.inr (Or.inr (Or.inr h))))))))))))))))))))))))))))))))))))))))))))))))))))))))))))))))))) ⟨by first | exact rgp_l hv2.1 (by decide) | omega, by first | (clear h_1 h_2 h_3 h_4 h_14 h_22 h_19 h_75 h_70 h_76 h_80 h_84 h_325 h_346 h_342 h_349 h_354 h_363 h_362 h_367 h_375 h_371 h_376 h_20 h_21 h_71 h_72 h_73 h_74 h_89 h_90 h_328 h_343 h_344 h_345 h_372 h_373 h_374; omega) | omega⟩ ⟨by first | (clear h_1 h_2 h_3 h_4 h_14 h_22 h_19 h_75 h_70 h_76 h_80 h_84 h_325 h_346 h_342 h_349 h_354 h_363 h_362 h_367 h_375 h_371 h_376 h_20 h_21 h_71 h_72 h_73 h_74 h_89 h_90 h_328 h_343 h_344 h_345 h_372 h_373 h_374; omega) | omega, by first | (clear h_1 h_2 h_3 h_4 h_14 h_22 h_19 h_75 h_70 h_76 h_80 h_84 h_325 h_346 h_342 h_349 h_354 h_363 h_362 h_367 h_375 h_371 h_376 h_20 h_21 h_71 h_72 h_73 h_74 h_89 h_90 h_328 h_343 h_344 h_345 h_372 h_373 h_374; omega) | omega, by first | (clear h_1 h_2 h_3 h_4 h_14 h_22 h_19 h_75 h_70 h_76 h_80 h_84 h_325 h_346 h_342 h_349 h_354 h_363 h_362 h_367 h_375 h_371 h_376 h_20 h_21 h_71 h_72 h_73 h_74 h_89 h_90 h_328 h_343 h_344 h_345 h_372 h_373 h_374; omega) | omega, by first | (clear h_1 h_2 h_3 h_4 h_14 h_22 h_19 h_75 h_70 h_76 h_80 h_84 h_325 h_346 h_342 h_349 h_354 h_363 h_362 h_367 h_375 h_371 h_376 h_20 h_21 h_71 h_72 h_73 h_74 h_89 h_90 h_328 h_343 h_344 h_345 h_372 h_373 h_374; omega) | omega⟩ (by omega)
              · refine v_ic_ne_f (t := 22) rfl (by decide) (Decidable.not_not.mp h_328) ?_
                refine q_iconst rfl ?_
                refine q_goto (t := 73) rfl (by decide) ?_
                refine v_zret rfl rfl (by decide) ?_
                refine bk_inl ?_
                refine v_if_eq_f (t := 105) rfl (by decide) (by decide) ?_
                refine q_aload_n rfl rfl ?_
                refine q_iconst rfl ?_
                refine q_aload_n rfl rfl ?_
                refine v_gi (z := 4) (v := c_66 41 4) rfl rfl rfl (by decide) rfl rfl rfl ?_
                refine v_cv rfl rfl rfl rfl (by decide) ⟨⟨rfl, rfl⟩, by decide, rfl⟩ (Nat.le_of_ble_eq_true rfl) (Nat.le_of_ble_eq_true rfl) (s_153 (a1 := 3) (a2 := c_66 41 4) hI_67 (show 1 ≤ 3 ∧ 3 ≤ 3 from ⟨by decide, by decide⟩) (show 0 ≤ c_66 41 4 ∧ c_66 41 4 ≤ 605 from h_75) (fun c_383 hI_384 hF_385 h_386 => ?_))
                refine bk_inl ?_
                have h_387 := ir_41_5 hI_384
                refine q_aload_n rfl rfl ?_
                refine v_cv rfl rfl rfl rfl (by decide) ⟨⟨rfl, rfl⟩, by decide, rfl⟩ (Nat.le_of_ble_eq_true rfl) (Nat.le_of_ble_eq_true rfl) ?_
                refine q_aload_n rfl rfl ?_
                refine v_gi (z := 5) (v := c_383 41 5) rfl rfl rfl (by decide) rfl rfl rfl ?_
                refine q_iconst rfl ?_
                refine v_ic_ne_t (t := 12) rfl (by decide) ⟨by first | (clear h_1 h_2 h_3 h_4 h_14 h_22 h_19 h_75 h_70 h_76 h_80 h_84 h_325 h_20 h_21 h_71 h_72 h_73 h_74 h_89 h_90; omega) | omega, ⟨(Int.le_trans (by decide) h_387.1), (Int.le_trans h_387.2 (by decide))⟩, by decide, by decide⟩ ?_
                refine q_iconst rfl ?_
                refine v_zret rfl rfl (by decide) ?_
                refine bk_inl ?_
                refine v_if_ne_f (t := 115) rfl (by decide) (by decide) ?_
                refine q_goto (t := 136) rfl (by decide) ?_
                refine q_aload_n rfl rfl ?_
                refine q_aload_n rfl rfl ?_
                have kn_388 : Hid (c_383 41 16 = c2 41 16) := (hF_385 41 16 (fun q => q.elim (fun h => absurd h.2 (ni rfl)) (fun h => absurd h.2 (ni rfl)))).trans (hid kn_327)
                refine v_gi (z := 16) (v := c2 41 16) rfl rfl rfl (by decide) rfl rfl (hid kn_388) ?_
                refine v_cv rfl rfl rfl rfl (by decide) ⟨⟨rfl, rfl⟩, by decide, rfl⟩ (Nat.le_of_ble_eq_true rfl) (Nat.le_of_ble_eq_true rfl) (s_164 (a1 := c2 41 16) hI_384 (show (-2147483648) ≤ c2 41 16 ∧ c2 41 16 ≤ 2147483647 from ⟨by first | (clear h_1 h_2 h_3 h_4 h_14 h_22 h_19 h_75 h_70 h_76 h_80 h_84 h_325 h_387 h_20 h_21 h_71 h_72 h_73 h_74 h_89 h_90 h_386; omega) | omega, by first | (clear h_1 h_2 h_3 h_4 h_14 h_22 h_19 h_75 h_70 h_76 h_80 h_84 h_387 h_20 h_21 h_71 h_72 h_73 h_74 h_89 h_90 h_386; omega) | omega⟩) (fun c_389 y_392 hI_390 hF_391 hy_392 => ?_))
                refine bk_inl ?_
                refine q_istore_n rfl (by decide) ?_
                refine q_aload_n rfl rfl ?_
                have kn_393 : Hid (c_389 41 5 = c_383 41 5) := hF_391 41 5 (fun h => absurd h.2 (ni rfl))
                refine v_gi (z := 5) (v := c_383 41 5) rfl rfl rfl (by decide) rfl rfl (hid kn_393) ?_
                refine q_iconst rfl ?_
                refine v_ic_ne_t (t := 157) rfl (by decide) ⟨by first | (clear h_1 h_2 h_3 h_4 h_14 h_22 h_19 h_75 h_70 h_76 h_80 h_84 h_325 h_20 h_21 h_71 h_72 h_73 h_74 h_89 h_90; omega) | omega, ⟨(Int.le_trans (by decide) h_387.1), (Int.le_trans h_387.2 (by decide))⟩, by decide, by decide⟩ ?_
                refine q_iload_n rfl rfl ?_
                refine q_iret rfl rfl ?_
                have kn_394 : Hid (c_15 41 2 = c2 41 2) := hF_17 41 2 (fun h => absurd h.2 (ni rfl))
                have kn_395 : Hid (c_66 41 2 = c2 41 2) := (hF_68 41 2 (fun h => absurd h.2 (ni rfl))).trans (hid kn_394)
                have kn_396 : Hid (c_383 41 2 = c2 41 2) := (hF_385 41 2 (fun q => q.elim (fun h => absurd h.2 (ni rfl)) (fun h => absurd h.2 (ni rfl)))).trans (hid kn_395)
                have kn_397 : Hid (c_389 41 2 = c2 41 2) := (hF_391 41 2 (fun h => absurd h.2 (ni rfl))).trans (hid kn_396)
                have h_398 : c_389 41 2 = c2 41 2 := (hid kn_397)
                exact K c_389 y_392 hI_390 (fun a j hm => (hF_391 a j (fun h => hm (Or.inr (Or.inr (Or.inr (Or.inr (Or.inr (Or.inr (Or.inr (Or.inr (Or.inl h))))))))))).trans ((hF_385 a j (fun q => q.elim (fun h => hm (Or.inr (Or.inr (Or.inr (Or.inr (Or.inr (Or.inl h))))))) (fun h => hm (Or.inr (Or.inr (Or.inr (Or.inr (Or.inr (Or.inr (Or.inl h)))))))))).trans ((hF_68 a j (fun h => hm (Or.inr (Or.inr (Or.inr (Or.inr (Or.inl h))))))).trans ((hF_17 a j (fun h => hm (Or.inr (Or.inr (Or.inr (Or.inr (Or.inl h))))))).trans (hF a j (fun q => q.elim (fun h => hm (Or.inl h)) (fun q => q.elim (fun h => hm (Or.inr (Or.inl h))) (fun q => q.elim (fun h => hm (Or.inr (Or.inr (Or.inl h)))) (fun q => q.elim (fun h => hm (Or.inr (Or.inr (Or.inr (Or.inl h))))) (fun q => q.elim (fun h => hm (Or.inr (Or.inr (Or.inr (Or.inr (Or.inl h)))))) (fun q => q.elim (fun h => hm (Or.inr (Or.inr (Or.inr (Or.inr (Or.inr (Or.inl h))))))) (fun q => q.elim (fun h => hm (Or.inr (Or.inr (Or.inr (Or.inr (Or.inr (Or.inr (Or.inl h)))))))) (fun q => q.elim (fun h => hm (Or.inr (Or.inr (Or.inr (Or.inr (Or.inr (Or.inr (Or.inr (Or.inl h))))))))) (fun q => q.elim (fun h => hm (Or.inr (Or.inr (Or.inr (Or.inr (Or.inr (Or.inr (Or.inr (Or.inr (Or.inl h)))))))))) (fun q => q.elim (fun h => hm (Or.inr (Or.inr (Or.inr (Or.inr (Or.inr (Or.inr (Or.inr (Or.inr (Or.inr (Or.inl h))))))))))) (fun q => q.elim (fun h => hm (Or.inr (Or.inr (Or.inr (Or.inr (Or.inr (Or.inr (Or.inr (Or.inr (Or.inr (Or.inr (Or.inl h)))))))))))) (fun q => q.elim (fun h => hm (Or.inr (Or.inr (Or.inr (Or.inr (Or.inr (Or.inr (Or.inr (Or.inr (Or.inr (Or.inr (Or.inr (Or.inl h))))))))))))) (fun q => q.elim (fun h => hm (Or.inr (Or.inr (Or.inr (Or.inr (Or.inr (Or.inr (Or.inr (Or.inr (Or.inr (Or.inr (Or.inr (Or.inr (Or.inl h)))))))))))))) (fun q => q.elim (fun h => hm (Or.inr (Or.inr (Or.inr (Or.inr (Or.inr (Or.inr (Or.inr (Or.inr (Or.inr (Or.inr (Or.inr (Or.inr (Or.inr (Or.inl h))))))))))))))) (fun q => q.elim (fun h => hm (Or.inr (Or.inr (Or.inr (Or.inr (Or.inr (Or.inr (Or.inr (Or.inr (Or.inr (Or.inr (Or.inr (Or.inr (Or.inr (Or.inr (Or.inl h)))))))))))))))) (fun q => q.elim (fun h => hm (Or.inr (Or.inr (Or.inr (Or.inr (Or.inr (Or.inr (Or.inr (Or.inr (Or.inr (Or.inr (Or.inr (Or.inr (Or.inr (Or.inr (Or.inr (Or.inl h))))))))))))))))) (fun q => q.elim (fun h => hm (Or.inr (Or.inr (Or.inr (Or.inr (Or.inr (Or.inr (Or.inr (Or.inr (Or.inr (Or.inr (Or.inr (Or.inr (Or.inr (Or.inr (Or.inr (Or.inr (Or.inl h)))))))))))))))))) (fun q => q.elim (fun h => hm (Or.inr (Or.inr (Or.inr (Or.inr (Or.inr (Or.inr (Or.inr (Or.inr (Or.inr (Or.inr (Or.inr (Or.inr (Or.inr (Or.inr (Or.inr (Or.inr (Or.inr (Or.inl h))))))))))))))))))) (fun q => q.elim (fun h => hm (Or.inr (Or.inr (Or.inr (Or.inr (Or.inr (Or.inr (Or.inr (Or.inr (Or.inr (Or.inr (Or.inr (Or.inr (Or.inr (Or.inr (Or.inr (Or.inr (Or.inr (Or.inr (Or.inl h)))))))))))))))))))) (fun q => q.elim (fun h => hm (Or.inr (Or.inr (Or.inr (Or.inr (Or.inr (Or.inr (Or.inr (Or.inr (Or.inr (Or.inr (Or.inr (Or.inr (Or.inr (Or.inr (Or.inr (Or.inr (Or.inr (Or.inr (Or.inr (Or.inl h))))))))))))))))))))) (fun q => q.elim (fun h => hm (Or.inr (Or.inr (Or.inr (Or.inr (Or.inr (Or.inr (Or.inr (Or.inr (Or.inr (Or.inr (Or.inr (Or.inr (Or.inr (Or.inr (Or.inr (Or.inr (Or.inr (Or.inr (Or.inr (Or.inr (Or.inl h)))))))))))))))))))))) (fun q => q.elim (fun h => hm (Or.inr (Or.inr (Or.inr (Or.inr (Or.inr (Or.inr (Or.inr (Or.inr (Or.inr (Or.inr (Or.inr (Or.inr (Or.inr (Or.inr (Or.inr (Or.inr (Or.inr (Or.inr (Or.inr (Or.inr (Or.inr (Or.inl h))))))))))))))))))))))) (fun q => q.elim (fun h => hm (Or.inr (Or.inr (Or.inr (Or.inr (Or.inr (Or.inr (Or.inr (Or.inr (Or.inr (Or.inr (Or.inr (Or.inr (Or.inr (Or.inr (Or.inr (Or.inr (Or.inr (Or.inr (Or.inr (Or.inr (Or.inr (Or.inr (Or.inl h)))))))))))))))))))))))) (fun q => q.elim (fun h => hm (Or.inr (Or.inr (Or.inr (Or.inr (Or.inr (Or.inr (Or.inr (Or.inr (Or.inr (Or.inr (Or.inr (Or.inr (Or.inr (Or.inr (Or.inr (Or.inr (Or.inr (Or.inr (Or.inr (Or.inr (Or.inr (Or.inr (Or.inr (Or.inl h))))))))))))))))))))))))) (fun q => q.elim (fun h => hm (Or.inr (Or.inr (Or.inr (Or.inr (Or.inr (Or.inr (Or.inr (Or.inr (Or.inr (Or.inr (Or.inr (Or.inr (Or.inr (Or.inr (Or.inr (Or.inr (Or.inr (Or.inr (Or.inr (Or.inr (Or.inr (Or.inr (Or.inr (Or.inr (Or.inl h)))))))))))))))))))))))))) (fun q => q.elim (fun h => hm (Or.inr (Or.inr (Or.inr (Or.inr (Or.inr (Or.inr (Or.inr (Or.inr (Or.inr (Or.inr (Or.inr (Or.inr (Or.inr (Or.inr (Or.inr (Or.inr (Or.inr (Or.inr (Or.inr (Or.inr (Or.inr (Or.inr (Or.inr (Or.inr (Or.inr (Or.inl h))))))))))))))))))))))))))) (fun q => q.elim (fun h => hm (Or.inr (Or.inr (Or.inr (Or.inr (Or.inr (Or.inr (Or.inr (Or.inr (Or.inr (Or.inr (Or.inr (Or.inr (Or.inr (Or.inr (Or.inr (Or.inr (Or.inr (Or.inr (Or.inr (Or.inr (Or.inr (Or.inr (Or.inr (Or.inr (Or.inr (Or.inr (Or.inl h)))))))))))))))))))))))))))) (fun q => q.elim (fun h => hm (Or.inr (Or.inr (Or.inr (Or.inr (Or.inr (Or.inr (Or.inr (Or.inr (Or.inr (Or.inr (Or.inr (Or.inr (Or.inr (Or.inr (Or.inr (Or.inr (Or.inr (Or.inr (Or.inr (Or.inr (Or.inr (Or.inr (Or.inr (Or.inr (Or.inr (Or.inr (Or.inr (Or.inl h))))))))))))))))))))))))))))) (fun q => q.elim (fun h => hm (Or.inr (Or.inr (Or.inr (Or.inr (Or.inr (Or.inr (Or.inr (Or.inr (Or.inr (Or.inr (Or.inr (Or.inr (Or.inr (Or.inr (Or.inr (Or.inr (Or.inr (Or.inr (Or.inr (Or.inr (Or.inr (Or.inr (Or.inr (Or.inr (Or.inr (Or.inr (Or.inr (Or.inr (Or.inl h)))))))))))))))))))))))))))))) (fun q => q.elim (fun h => hm (Or.inr (Or.inr (Or.inr (Or.inr (Or.inr (Or.inr (Or.inr (Or.inr (Or.inr (Or.inr (Or.inr (Or.inr (Or.inr (Or.inr (Or.inr (Or.inr (Or.inr (Or.inr (Or.inr (Or.inr (Or.inr (Or.inr (Or.inr (Or.inr (Or.inr (Or.inr (Or.inr (Or.inr (Or.inr (Or.inl h))))))))))))))))))))))))))))))) (fun h => hm (Or.inr (Or.inr (Or.inr (Or.inr (Or.inr (Or.inr (Or.inr (Or.inr (Or.inr (Or.inr (Or.inr (Or.inr (Or.inr (Or.inr (Or.inr (Or.inr (Or.inr (Or.inr (Or.inr (Or.inr (Or.inr (Or.inr (Or.inr (Or.inr (Or.inr (Or.inr (Or.inr (Or.inr (Or.inr (Or.inr h)))))))))))))))))))))))))))))))))))))))))))))))))))))))))))))))))) hy_392 (Or.inl ⟨by first | (clear h_1 h_2 h_3 h_4 h_14 h_22 h_19 h_75 h_70 h_76 h_80 h_84 h_325 h_387 h_20 h_21 h_71 h_72 h_73 h_74 h_89 h_90 h_386; omega) | omega, by first | (clear h_1 h_2 h_3 h_4 h_14 h_22 h_19 h_75 h_70 h_76 h_80 h_84 h_325 h_387 h_20 h_21 h_71 h_72 h_73 h_74 h_89 h_90 h_386; omega) | omega, by first | (clear h_1 h_2 h_3 h_4 h_14 h_22 h_19 h_75 h_70 h_76 h_80 h_84 h_325 h_387 h_20 h_21 h_71 h_72 h_73 h_74 h_89 h_90 h_386; omega) | omega, by first | (clear h_1 h_2 h_3 h_4 h_14 h_22 h_19 h_75 h_70 h_76 h_80 h_84 h_325 h_387 h_20 h_21 h_71 h_72 h_73 h_74 h_89 h_90 h_386; omega) | omega⟩)
        · refine v_if_ne_f (t := 82) rfl (by decide) (Decidable.not_not.mp h_90) ?_
          refine q_aload_n rfl rfl ?_
          refine q_iconst rfl ?_
          refine q_aload_n rfl rfl ?_
          refine v_gi (z := 4) (v := c_66 41 4) rfl rfl rfl (by decide) rfl rfl rfl ?_
          refine v_cv rfl rfl rfl rfl (by decide) ⟨⟨rfl, rfl⟩, by decide, rfl⟩ (Nat.le_of_ble_eq_true rfl) (Nat.le_of_ble_eq_true rfl) (s_153 (a1 := 1) (a2 := c_66 41 4) hI_67 (show 1 ≤ 1 ∧ 1 ≤ 3 from ⟨by decide, by decide⟩) (show 0 ≤ c_66 41 4 ∧ c_66 41 4 ≤ 605 from h_75) (fun c_399 hI_400 hF_401 h_402 => ?_))
          refine bk_inl ?_
          have h_403 := ir_41_5 hI_400
          refine q_goto (t := 105) rfl (by decide) ?_
          refine q_aload_n rfl rfl ?_
          refine v_cv rfl rfl rfl rfl (by decide) ⟨⟨rfl, rfl⟩, by decide, rfl⟩ (Nat.le_of_ble_eq_true rfl) (Nat.le_of_ble_eq_true rfl) ?_
          refine q_aload_n rfl rfl ?_
          refine v_gi (z := 5) (v := c_399 41 5) rfl rfl rfl (by decide) rfl rfl rfl ?_
          refine q_iconst rfl ?_
          refine v_ic_ne_t (t := 12) rfl (by decide) ⟨by first | (clear h_1 h_2 h_3 h_4 h_14 h_22 h_19 h_75 h_70 h_76 h_80 h_84 h_20 h_21 h_71 h_72 h_73 h_74 h_89; omega) | omega, ⟨(Int.le_trans (by decide) h_403.1), (Int.le_trans h_403.2 (by decide))⟩, by decide, by decide⟩ ?_
          refine q_iconst rfl ?_
          refine v_zret rfl rfl (by decide) ?_
          refine bk_inl ?_
          refine v_if_ne_f (t := 115) rfl (by decide) (by decide) ?_
          refine q_goto (t := 136) rfl (by decide) ?_
          refine q_aload_n rfl rfl ?_
          refine q_aload_n rfl rfl ?_
          have h_404 := ir_41_16 hI2
          have kn_405 : Hid (c_15 41 16 = c2 41 16) := hF_17 41 16 (fun h => absurd h.2 (ni rfl))
          have kn_406 : Hid (c_66 41 16 = c2 41 16) := (hF_68 41 16 (fun h => absurd h.2 (ni rfl))).trans (hid kn_405)
          have kn_407 : Hid (c_399 41 16 = c2 41 16) := (hF_401 41 16 (fun q => q.elim (fun h => absurd h.2 (ni rfl)) (fun h => absurd h.2 (ni rfl)))).trans (hid kn_406)
          refine v_gi (z := 16) (v := c2 41 16) rfl rfl rfl (by decide) rfl rfl (hid kn_407) ?_
          refine v_cv rfl rfl rfl rfl (by decide) ⟨⟨rfl, rfl⟩, by decide, rfl⟩ (Nat.le_of_ble_eq_true rfl) (Nat.le_of_ble_eq_true rfl) (s_164 (a1 := c2 41 16) hI_400 (show (-2147483648) ≤ c2 41 16 ∧ c2 41 16 ≤ 2147483647 from ⟨by first | (clear h_1 h_2 h_3 h_4 h_14 h_22 h_19 h_75 h_70 h_76 h_80 h_84 h_403 h_20 h_21 h_71 h_72 h_73 h_74 h_89 h_402; omega) | omega, by first | (clear h_1 h_2 h_3 h_4 h_14 h_22 h_19 h_75 h_70 h_76 h_80 h_84 h_403 h_20 h_21 h_71 h_72 h_73 h_74 h_89 h_402; omega) | omega⟩) (fun c_408 y_411 hI_409 hF_410 hy_411 => ?_))
          refine bk_inl ?_
          refine q_istore_n rfl (by decide) ?_
          refine q_aload_n rfl rfl ?_
          have kn_412 : Hid (c_408 41 5 = c_399 41 5) := hF_410 41 5 (fun h => absurd h.2 (ni rfl))
          refine v_gi (z := 5) (v := c_399 41 5) rfl rfl rfl (by decide) rfl rfl (hid kn_412) ?_
          refine q_iconst rfl ?_
          refine v_ic_ne_t (t := 157) rfl (by decide) ⟨by first | (clear h_1 h_2 h_3 h_4 h_14 h_22 h_19 h_75 h_70 h_76 h_80 h_84 h_404 h_20 h_21 h_71 h_72 h_73 h_74 h_89; omega) | omega, ⟨(Int.le_trans (by decide) h_403.1), (Int.le_trans h_403.2 (by decide))⟩, by decide, by decide⟩ ?_
          refine q_iload_n rfl rfl ?_
          refine q_iret rfl rfl ?_
          have kn_413 : Hid (c_15 41 2 = c2 41 2) := hF_17 41 2 (fun h => absurd h.2 (ni rfl))
          have kn_414 : Hid (c_66 41 2 = c2 41 2) := (hF_68 41 2 (fun h => absurd h.2 (ni rfl))).trans (hid kn_413)
          have kn_415 : Hid (c_399 41 2 = c2 41 2) := (hF_401 41 2 (fun q => q.elim (fun h => absurd h.2 (ni rfl)) (fun h => absurd h.2 (ni rfl)))).trans (hid kn_414)
          have kn_416 : Hid (c_408 41 2 = c2 41 2) := (hF_410 41 2 (fun h => absurd h.2 (ni rfl))).trans (hid kn_415)
          have h_417 : c_408 41 2 = c2 41 2 := (hid kn_416)
          exact K c_408 y_411 hI_409 (fun a j hm => (hF_410 a j (fun h => hm (Or.inr (Or.inr (Or.inr (Or.inr (Or.inr (Or.inr (Or.inr (Or.inr (Or.inl h))))))))))).trans ((hF_401 a j (fun q => q.elim (fun h => hm (Or.inr (Or.inr (Or.inr (Or.inr (Or.inr (Or.inl h))))))) (fun h => hm (Or.inr (Or.inr (Or.inr (Or.inr (Or.inr (Or.inr (Or.inl h)))))))))).trans ((hF_68 a j (fun h => hm (Or.inr (Or.inr (Or.inr (Or.inr (Or.inl h))))))).trans ((hF_17 a j (fun h => hm (Or.inr (Or.inr (Or.inr (Or.inr (Or.inl h))))))).trans (hF a j (fun q => q.elim (fun h => hm (Or.inl h)) (fun q => q.elim (fun h => hm (Or.inr (Or.inl h))) (fun q => q.elim (fun h => hm (Or.inr (Or.inr (Or.inl h)))) (fun q => q.elim (fun h => hm (Or.inr (Or.inr (Or.inr (Or.inl h))))) (fun q => q.elim (fun h => hm (Or.inr (Or.inr (Or.inr (Or.inr (Or.inl h)))))) (fun q => q.elim (fun h => hm (Or.inr (Or.inr (Or.inr (Or.inr (Or.inr (Or.inl h))))))) (fun q => q.elim (fun h => hm (Or.inr (Or.inr (Or.inr (Or.inr (Or.inr (Or.inr (Or.inl h)))))))) (fun q => q.elim (fun h => hm (Or.inr (Or.inr (Or.inr (Or.inr (Or.inr (Or.inr (Or.inr (Or.inl h))))))))) (fun q => q.elim (fun h => hm (Or.inr (Or.inr (Or.inr (Or.inr (Or.inr (Or.inr (Or.inr (Or.inr (Or.inl h)))))))))) (fun q => q.elim (fun h => hm (Or.inr (Or.inr (Or.inr (Or.inr (Or.inr (Or.inr (Or.inr (Or.inr (Or.inr (Or.inl h))))))))))) (fun q => q.elim (fun h => hm (Or.inr (Or.inr (Or.inr (Or.inr (Or.inr (Or.inr (Or.inr (Or.inr (Or.inr (Or.inr (Or.inl h)))))))))))) (fun q => q.elim (fun h => hm (Or.inr (Or.inr (Or.inr (Or.inr (Or.inr (Or.inr (Or.inr (Or.inr (Or.inr (Or.inr (Or.inr (Or.inl h))))))))))))) (fun q => q.elim (fun h => hm (Or.inr (Or.inr (Or.inr (Or.inr (Or.inr (Or.inr (Or.inr (Or.inr (Or.inr (Or.inr (Or.inr (Or.inr (Or.inl h)))))))))))))) (fun q => q.elim (fun h => hm (Or.inr (Or.inr (Or.inr (Or.inr (Or.inr (Or.inr (Or.inr (Or.inr (Or.inr (Or.inr (Or.inr (Or.inr (Or.inr (Or.inl h))))))))))))))) (fun q => q.elim (fun h => hm (Or.inr (Or.inr (Or.inr (Or.inr (Or.inr (Or.inr (Or.inr (Or.inr (Or.inr (Or.inr (Or.inr (Or.inr (Or.inr (Or.inr (Or.inl h)))))))))))))))) (fun q => q.elim (fun h => hm (Or.inr (Or.inr (Or.inr (Or.inr (Or.inr (Or.inr (Or.inr (Or.inr (Or.inr (Or.inr (Or.inr (Or.inr (Or.inr (Or.inr (Or.inr (Or.inl h))))))))))))))))) (fun q => q.elim (fun h => hm (Or.inr (Or.inr (Or.inr (Or.inr (Or.inr (Or.inr (Or.inr (Or.inr (Or.inr (Or.inr (Or.inr (Or.inr (Or.inr (Or.inr (Or.inr (Or.inr (Or.inl h)))))))))))))))))) (fun q => q.elim (fun h => hm (Or.inr (Or.inr (Or.inr (Or.inr (Or.inr (Or.inr (Or.inr (Or.inr (Or.inr (Or.inr (Or.inr (Or.inr (Or.inr (Or.inr (Or.inr (Or.inr (Or.inr (Or.inl h))))))))))))))))))) (fun q => q.elim (fun h => hm (Or.inr (Or.inr (Or.inr (Or.inr (Or.inr (Or.inr (Or.inr (Or.inr (Or.inr (Or.inr (Or.inr (Or.inr (Or.inr (Or.inr (Or.inr (Or.inr (Or.inr (Or.inr (Or.inl h)))))))))))))))))))) (fun q => q.elim (fun h => hm (Or.inr (Or.inr (Or.inr (Or.inr (Or.inr (Or.inr (Or.inr (Or.inr (Or.inr (Or.inr (Or.inr (Or.inr (Or.inr (Or.inr (Or.inr (Or.inr (Or.inr (Or.inr (Or.inr (Or.inl h))))))))))))))))))))) (fun q => q.elim (fun h => hm (Or.inr (Or.inr (Or.inr (Or.inr (Or.inr (Or.inr (Or.inr (Or.inr (Or.inr (Or.inr (Or.inr (Or.inr (Or.inr (Or.inr (Or.inr (Or.inr (Or.inr (Or.inr (Or.inr (Or.inr (Or.inl h)))))))))))))))))))))) (fun q => q.elim (fun h => hm (Or.inr (Or.inr (Or.inr (Or.inr (Or.inr (Or.inr (Or.inr (Or.inr (Or.inr (Or.inr (Or.inr (Or.inr (Or.inr (Or.inr (Or.inr (Or.inr (Or.inr (Or.inr (Or.inr (Or.inr (Or.inr (Or.inl h))))))))))))))))))))))) (fun q => q.elim (fun h => hm (Or.inr (Or.inr (Or.inr (Or.inr (Or.inr (Or.inr (Or.inr (Or.inr (Or.inr (Or.inr (Or.inr (Or.inr (Or.inr (Or.inr (Or.inr (Or.inr (Or.inr (Or.inr (Or.inr (Or.inr (Or.inr (Or.inr (Or.inl h)))))))))))))))))))))))) (fun q => q.elim (fun h => hm (Or.inr (Or.inr (Or.inr (Or.inr (Or.inr (Or.inr (Or.inr (Or.inr (Or.inr (Or.inr (Or.inr (Or.inr (Or.inr (Or.inr (Or.inr (Or.inr (Or.inr (Or.inr (Or.inr (Or.inr (Or.inr (Or.inr (Or.inr (Or.inl h))))))))))))))))))))))))) (fun q => q.elim (fun h => hm (Or.inr (Or.inr (Or.inr (Or.inr (Or.inr (Or.inr (Or.inr (Or.inr (Or.inr (Or.inr (Or.inr (Or.inr (Or.inr (Or.inr (Or.inr (Or.inr (Or.inr (Or.inr (Or.inr (Or.inr (Or.inr (Or.inr (Or.inr (Or.inr (Or.inl h)))))))))))))))))))))))))) (fun q => q.elim (fun h => hm (Or.inr (Or.inr (Or.inr (Or.inr (Or.inr (Or.inr (Or.inr (Or.inr (Or.inr (Or.inr (Or.inr (Or.inr (Or.inr (Or.inr (Or.inr (Or.inr (Or.inr (Or.inr (Or.inr (Or.inr (Or.inr (Or.inr (Or.inr (Or.inr (Or.inr (Or.inl h))))))))))))))))))))))))))) (fun q => q.elim (fun h => hm (Or.inr (Or.inr (Or.inr (Or.inr (Or.inr (Or.inr (Or.inr (Or.inr (Or.inr (Or.inr (Or.inr (Or.inr (Or.inr (Or.inr (Or.inr (Or.inr (Or.inr (Or.inr (Or.inr (Or.inr (Or.inr (Or.inr (Or.inr (Or.inr (Or.inr (Or.inr (Or.inl h)))))))))))))))))))))))))))) (fun q => q.elim (fun h => hm (Or.inr (Or.inr (Or.inr (Or.inr (Or.inr (Or.inr (Or.inr (Or.inr (Or.inr (Or.inr (Or.inr (Or.inr (Or.inr (Or.inr (Or.inr (Or.inr (Or.inr (Or.inr (Or.inr (Or.inr (Or.inr (Or.inr (Or.inr (Or.inr (Or.inr (Or.inr (Or.inr (Or.inl h))))))))))))))))))))))))))))) (fun q => q.elim (fun h => hm (Or.inr (Or.inr (Or.inr (Or.inr (Or.inr (Or.inr (Or.inr (Or.inr (Or.inr (Or.inr (Or.inr (Or.inr (Or.inr (Or.inr (Or.inr (Or.inr (Or.inr (Or.inr (Or.inr (Or.inr (Or.inr (Or.inr (Or.inr (Or.inr (Or.inr (Or.inr (Or.inr (Or.inr (Or.inl h)))))))))))))))))))))))))))))) (fun q => q.elim (fun h => hm (Or.inr (Or.inr (Or.inr (Or.inr (Or.inr (Or.inr (Or.inr (Or.inr (Or.inr (Or.inr (Or.inr (Or.inr (Or.inr (Or.inr (Or.inr (Or.inr (Or.inr (Or.inr (Or.inr (Or.inr (Or.inr (Or.inr (Or.inr (Or.inr (Or.inr (Or.inr (Or.inr (Or.inr (Or.inr (Or.inl h))))))))))))))))))))))))))))))) (fun h => hm (Or.inr (Or.inr (Or.inr (Or.inr (Or.inr (Or.inr (Or.inr (Or.inr (Or.inr (Or.inr (Or.inr (Or.inr (Or.inr (Or.inr (Or.inr (Or.inr (Or.inr (Or.inr (Or.inr (Or.inr (Or.inr (Or.inr (Or.inr (Or.inr (Or.inr (Or.inr (Or.inr (Or.inr (Or.inr (Or.inr h)))))))))))))))))))))))))))))))))))))))))))))))))))))))))))))))))) hy_411 (Or.inl ⟨by first | (clear h_1 h_2 h_3 h_4 h_14 h_22 h_19 h_75 h_70 h_76 h_80 h_84 h_403 h_404 h_20 h_21 h_71 h_72 h_73 h_74 h_89 h_402; omega) | omega, by first | (clear h_1 h_2 h_3 h_4 h_14 h_22 h_19 h_75 h_70 h_76 h_80 h_84 h_403 h_404 h_20 h_21 h_71 h_72 h_73 h_74 h_89 h_402; omega) | omega, by first | (clear h_1 h_2 h_3 h_4 h_14 h_22 h_19 h_75 h_70 h_76 h_80 h_84 h_403 h_404 h_20 h_21 h_71 h_72 h_73 h_74 h_89 h_402; omega) | omega, by first | (clear h_1 h_2 h_3 h_4 h_14 h_22 h_19 h_75 h_70 h_76 h_80 h_84 h_403 h_404 h_20 h_21 h_71 h_72 h_73 h_74 h_89 h_402; omega) | omega⟩)
set_option maxRecDepth 100000 in
set_option maxHeartbeats 4000000 in
theorem s_169 {sc : List Int32} {d P Q : Nat} {c : ME} {a1 : Int} {Z : AR → Prop} (hI : Iv 0 (-1) P Q c) (ha1 : (-2147483648) ≤ a1 ∧ a1 ≤ 2147483647) (K : ∀ (c2 : ME) (y : Int), Iv 0 (-1) P Q c2 → (∀ (a : Nat) (j : Int), ¬ ((a = 41 ∧ j = 0) ∨ a = 42 ∨ (a = 41 ∧ j = 2) ∨ (a = 41 ∧ j = 3) ∨ (a = 41 ∧ j = 4) ∨ (a = 41 ∧ j = 5) ∨ (a = 41 ∧ j = 6) ∨ (a = 41 ∧ j = 7) ∨ (a = 41 ∧ j = 8) ∨ (a = 41 ∧ j = 16) ∨ (a = 41 ∧ j = 17) ∨ (a = 41 ∧ j = 18) ∨ (a = 41 ∧ j = 19) ∨ a = 44 ∨ a = 45 ∨ a = 46 ∨ (a = 41 ∧ j = 20) ∨ (a = 41 ∧ j = 21) ∨ (a = 41 ∧ j = 22) ∨ (a = 41 ∧ j = 23) ∨ (a = 41 ∧ j = 30) ∨ (a = 41 ∧ j = 35) ∨ (a = 41 ∧ j = 36) ∨ (a = 41 ∧ j = 47) ∨ (a = 41 ∧ j = 48) ∨ (a = 41 ∧ j = 52) ∨ a = 47 ∨ a = 48 ∨ a = 49 ∨ a = 58 ∨ a = 64) → c2 a j = c a j) → (-2147483648) ≤ y ∧ y ≤ 2147483647 → ((c2 41 2 = 0 ∧ a1 ≥ 0 ∧ a1 ≤ c 41 2 ∧ a1 ≤ 600) ∨ (c2 41 2 = c 41 2 ∧ a1 < 0) ∨ (c2 41 2 = c 41 2 ∧ a1 > c 41 2) ∨ (c2 41 2 = c 41 2 ∧ a1 > 600)) → Z (.inl (some (vi y)), Wd P Q P P c2, 0, 0)) : Wp sc (d + 10) 169 0 [(0, .ref 41), (1, vi a1)] [] (Wd P Q P P c) 0 0 Z := by
  have hP := iv_P hI
  have hQ := iv_Q hI
  refine q_aload_n rfl rfl ?_
  refine q_iconst rfl ?_
  refine v_pi (z := 0) rfl rfl rfl (by decide) rfl rfl rfl (by decide) ?_
  refine q_aload_n rfl rfl ?_
  refine q_iload_n rfl rfl ?_
  by_cases h_419 : a1 < 0
  · refine v_if_lt_t (t := 22) rfl (by decide) ⟨ha1.1, h_419, by decide⟩ ?_
    refine q_iconst rfl ?_
    refine q_iconst rfl ?_
    refine q_iconst rfl ?_
    refine v_cv rfl rfl rfl rfl (by decide) ⟨⟨rfl, rfl⟩, by decide, rfl⟩ (Nat.le_of_ble_eq_true rfl) (Nat.le_of_ble_eq_true rfl) ?_
    refine q_iload_n rfl rfl ?_
    refine v_if_ne_f (t := 26) rfl (by decide) (by decide) ?_
    refine q_aload_n rfl rfl ?_
    refine v_gi (z := 0) (v := 0) rfl rfl rfl (by decide) rfl rfl (up_e rfl) ?_
    refine v_if_ne_f (t := 26) rfl (by decide) (by decide) ?_
    refine q_aload_n rfl rfl ?_
    refine q_iload_n rfl rfl ?_
    refine v_pi (z := 0) rfl rfl rfl (by decide) rfl rfl rfl (by decide) ?_
    refine q_aload_n rfl rfl ?_
    refine v_gr (t := 42) rfl rfl rfl (by decide) rfl ?_
    refine q_iload_n rfl rfl ?_
    refine q_dup2 rfl ⟨rfl, rfl⟩ ?_
    have h_420 := ir_42 hI 1
    refine v_ia (v := c 42 1) rfl rfl (by decide) (by decide) (by decide) ((up_c (nn rfl)).trans (up_c (nn rfl))) ?_
    refine q_iconst rfl ?_
    refine v_iadd (v := c 42 1 + 1) rfl rfl ?_
    refine v_nrm (fun y_421 hy_421 => ?_)
    refine v_is rfl rfl (by decide) (by decide) (by decide) ?_
    refine q_aload_n rfl rfl ?_
    refine v_gi (z := 0) (v := 1) rfl rfl rfl (by decide) rfl rfl ((up_c (nn rfl)).trans (up_e rfl)) ?_
    refine v_if_ne_t (t := 37) rfl (by decide) (by decide) ?_
    refine q_iconst rfl ?_
    refine v_zret rfl rfl (by decide) ?_
    refine bk_inl ?_
    refine v_if_ne_f (t := 33) rfl (by decide) (by decide) ?_
    refine q_iconst rfl ?_
    refine q_iret rfl rfl ?_
    have hI_422 := iw_41_0 (v := 0) hI ⟨by decide, by decide⟩
    have hI_423 := iw_41_0 (v := 1) hI_422 ⟨by decide, by decide⟩
    have hI_424 := iw_42 (j := 1) (v := y_421) hI_423 ⟨hy_421.1, hy_421.2⟩
    have h_425 := ir_41_2 hI
    have h_426 : (up (up (up c 41 0 0) 41 0 1) 42 1 y_421) 41 2 = c 41 2 := ((up_c (nn rfl)).trans ((up_n (by decide)).trans (up_n (by decide))))
    exact K (up (up (up c 41 0 0) 41 0 1) 42 1 y_421) 0 hI_424 (fun a j hm => (up_b (Decidable.or_iff_not_imp_left.mpr (fun h1 h2 => hm (Or.inr (Or.inl (Decidable.not_not.mp h1)))))).trans ((up_b (Decidable.or_iff_not_imp_left.mpr (fun h1 h2 => hm (Or.inl ⟨Decidable.not_not.mp h1, h2⟩)))).trans (up_b (Decidable.or_iff_not_imp_left.mpr (fun h1 h2 => hm (Or.inl ⟨Decidable.not_not.mp h1, h2⟩)))))) ⟨by decide, by decide⟩ (Or.inr (Or.inl ⟨by omega, by omega⟩))
  · refine v_if_lt_f (t := 22) rfl (by decide) ⟨by decide, (Int.not_lt.mp h_419), ha1.2⟩ ?_
    refine q_iload_n rfl rfl ?_
    refine q_aload_n rfl rfl ?_
    have h_427 := ir_41_2 hI
    refine v_gi (z := 2) (v := c 41 2) rfl rfl rfl (by decide) rfl rfl (up_n (by decide)) ?_
    by_cases h_428 : a1 > c 41 2
    · refine v_ic_gt_t (t := 22) rfl (by decide) ⟨(Int.le_trans (by decide) h_427.1), h_428, ha1.2⟩ ?_
      refine q_iconst rfl ?_
      refine q_iconst rfl ?_
      refine q_iconst rfl ?_
      refine v_cv rfl rfl rfl rfl (by decide) ⟨⟨rfl, rfl⟩, by decide, rfl⟩ (Nat.le_of_ble_eq_true rfl) (Nat.le_of_ble_eq_true rfl) ?_
      refine q_iload_n rfl rfl ?_
      refine v_if_ne_f (t := 26) rfl (by decide) (by decide) ?_
      refine q_aload_n rfl rfl ?_
      refine v_gi (z := 0) (v := 0) rfl rfl rfl (by decide) rfl rfl (up_e rfl) ?_
      refine v_if_ne_f (t := 26) rfl (by decide) (by decide) ?_
      refine q_aload_n rfl rfl ?_
      refine q_iload_n rfl rfl ?_
      refine v_pi (z := 0) rfl rfl rfl (by decide) rfl rfl rfl (by decide) ?_
      refine q_aload_n rfl rfl ?_
      refine v_gr (t := 42) rfl rfl rfl (by decide) rfl ?_
      refine q_iload_n rfl rfl ?_
      refine q_dup2 rfl ⟨rfl, rfl⟩ ?_
      have h_429 := ir_42 hI 1
      refine v_ia (v := c 42 1) rfl rfl (by decide) (by decide) (by decide) ((up_c (nn rfl)).trans (up_c (nn rfl))) ?_
      refine q_iconst rfl ?_
      refine v_iadd (v := c 42 1 + 1) rfl rfl ?_
      refine v_nrm (fun y_430 hy_430 => ?_)
      refine v_is rfl rfl (by decide) (by decide) (by decide) ?_
      refine q_aload_n rfl rfl ?_
      refine v_gi (z := 0) (v := 1) rfl rfl rfl (by decide) rfl rfl ((up_c (nn rfl)).trans (up_e rfl)) ?_
      refine v_if_ne_t (t := 37) rfl (by decide) (by decide) ?_
      refine q_iconst rfl ?_
      refine v_zret rfl rfl (by decide) ?_
      refine bk_inl ?_
      refine v_if_ne_f (t := 33) rfl (by decide) (by decide) ?_
      refine q_iconst rfl ?_
      refine q_iret rfl rfl ?_
      have hI_431 := iw_41_0 (v := 0) hI ⟨by decide, by decide⟩
      have hI_432 := iw_41_0 (v := 1) hI_431 ⟨by decide, by decide⟩
      have hI_433 := iw_42 (j := 1) (v := y_430) hI_432 ⟨hy_430.1, hy_430.2⟩
      have h_434 : (up (up (up c 41 0 0) 41 0 1) 42 1 y_430) 41 2 = c 41 2 := ((up_c (nn rfl)).trans ((up_n (by decide)).trans (up_n (by decide))))
      exact K (up (up (up c 41 0 0) 41 0 1) 42 1 y_430) 0 hI_433 (fun a j hm => (up_b (Decidable.or_iff_not_imp_left.mpr (fun h1 h2 => hm (Or.inr (Or.inl (Decidable.not_not.mp h1)))))).trans ((up_b (Decidable.or_iff_not_imp_left.mpr (fun h1 h2 => hm (Or.inl ⟨Decidable.not_not.mp h1, h2⟩)))).trans (up_b (Decidable.or_iff_not_imp_left.mpr (fun h1 h2 => hm (Or.inl ⟨Decidable.not_not.mp h1, h2⟩)))))) ⟨by decide, by decide⟩ (Or.inr (Or.inr (Or.inl ⟨by omega, by omega⟩)))
    · refine v_ic_gt_f (t := 22) rfl (by decide) ⟨ha1.1, (Int.not_lt.mp h_428), (Int.le_trans h_427.2 (by decide))⟩ ?_
      refine q_iconst rfl ?_
      refine q_goto (t := 23) rfl (by decide) ?_
      refine q_iconst rfl ?_
      refine q_iconst rfl ?_
      refine v_cv rfl rfl rfl rfl (by decide) ⟨⟨rfl, rfl⟩, by decide, rfl⟩ (Nat.le_of_ble_eq_true rfl) (Nat.le_of_ble_eq_true rfl) ?_
      refine q_iload_n rfl rfl ?_
      refine v_if_ne_t (t := 26) rfl (by decide) (by decide) ?_
      refine q_aload_n rfl rfl ?_
      refine v_gi (z := 0) (v := 0) rfl rfl rfl (by decide) rfl rfl (up_e rfl) ?_
      refine v_if_ne_f (t := 37) rfl (by decide) (by decide) ?_
      refine q_iconst rfl ?_
      refine q_goto (t := 38) rfl (by decide) ?_
      refine v_zret rfl rfl (by decide) ?_
      refine bk_inl ?_
      refine v_if_ne_t (t := 33) rfl (by decide) (by decide) ?_
      refine q_aload_n rfl rfl ?_
      refine q_iload_n rfl rfl ?_
      have hI_435 := iw_41_0 (v := 0) hI ⟨by decide, by decide⟩
      refine v_cv rfl rfl rfl rfl (by decide) ⟨⟨rfl, rfl⟩, by decide, rfl⟩ (Nat.le_of_ble_eq_true rfl) (Nat.le_of_ble_eq_true rfl) (s_163 (a1 := a1) hI_435 (show 0 ≤ a1 ∧ a1 ≤ 600 from ⟨by omega, by omega⟩) (fun c_436 hI_437 hF_438 h_439 => ?_))
      refine bk_inl ?_
      have h_440 := ir_41_2 hI_437
      have h_441 := ir_41_3 hI_437
      have h_442 := ir_41_4 hI_437
      have h_443 := ir_41_5 hI_437
      have h_444 := ir_41_7 hI_437
      refine q_aload_n rfl rfl ?_
      refine v_cv rfl rfl rfl rfl (by decide) ⟨⟨rfl, rfl⟩, by decide, rfl⟩ (Nat.le_of_ble_eq_true rfl) (Nat.le_of_ble_eq_true rfl) (s_147 hI_437 (fun c_445 hI_446 hF_447 h_448 => ?_))
      refine bk_inl ?_
      have h_449 := ir_41_16 hI_446
      have h_450 := ir_41_17 hI_446
      have h_451 := ir_41_18 hI_446
      have h_452 := ir_41_19 hI_446
      refine q_iconst rfl ?_
      refine q_istore_n rfl (by decide) ?_
      refine Wp_ls [(0, .ref 41), (1, vi a1), (2, vi 0)] (lsub_cons rfl (lsub_cons rfl (lsub_cons rfl lsub_nil))) ?_
      have kn_453 : Hid (c_445 41 2 = c_436 41 2) := hF_447 41 2 (fun q => q.elim (fun h => absurd h.2 (ni rfl)) (fun q => q.elim (fun h => absurd h.2 (ni rfl)) (fun q => q.elim (fun h => absurd h.2 (ni rfl)) (fun h => absurd h.2 (ni rfl)))))
      have h_454 : c_445 41 2 = c_436 41 2 := (hid kn_453)
      have kn_455 : Hid (c_445 41 4 = c_436 41 4) := hF_447 41 4 (fun q => q.elim (fun h => absurd h.2 (ni rfl)) (fun q => q.elim (fun h => absurd h.2 (ni rfl)) (fun q => q.elim (fun h => absurd h.2 (ni rfl)) (fun h => absurd h.2 (ni rfl)))))
      have h_456 : c_445 41 4 = c_436 41 4 := (hid kn_455)
      exact (s_169_l (sc := sc) (d := d) hI ha1 K 1214) c_445 0 hI_446 (fun a j hm => (hF_447 a j (fun q => q.elim (fun h => hm (Or.inr (Or.inr (Or.inr (Or.inr (Or.inr (Or.inr (Or.inr (Or.inr (Or.inr (Or.inl h))))))))))) (fun q => q.elim (fun h => hm (Or.inr (Or.inr (Or.inr (Or.inr (Or.inr (Or.inr (Or.inr (Or.inr (Or.inr (Or.inr (Or.inl h)))))))))))) (fun q => q.elim (fun h => hm (Or.inr (Or.inr (Or.inr (Or.inr (Or.inr (Or.inr (Or.inr (Or.inr (Or.inr (Or.inr (Or.inr (Or.inl h))))))))))))) (fun h => hm (Or.inr (Or.inr (Or.inr (Or.inr (Or.inr (Or.inr (Or.inr (Or.inr (Or.inr (Or.inr (Or.inr (Or.inr (Or.inl h)))))))))))))))))).trans ((hF_438 a j (fun q => q.elim (fun h => hm (Or.inr (Or.inr (Or.inl h)))) (fun q => q.elim (fun h => hm (Or.inr (Or.inr (Or.inr (Or.inl h))))) (fun q => q.elim (fun h => hm (Or.inr (Or.inr (Or.inr (Or.inr (Or.inl h)))))) (fun q => q.elim (fun h => hm (Or.inr (Or.inr (Or.inr (Or.inr (Or.inr (Or.inl h))))))) (fun q => q.elim (fun h => hm (Or.inr (Or.inr (Or.inr (Or.inr (Or.inr (Or.inr (Or.inr (Or.inl h))))))))) (fun h => hm (Or.inr (Or.inr (Or.inr (Or.inr (Or.inr (Or.inr (Or.inr (Or.inr (Or.inl h)))))))))))))))).trans (up_b (Decidable.or_iff_not_imp_left.mpr (fun h1 h2 => hm (Or.inl ⟨Decidable.not_not.mp h1, h2⟩)))))) ⟨by decide, by decide⟩ ⟨by omega, by omega, by omega, by omega⟩ (by omega)

set_option maxRecDepth 100000 in
set_option maxHeartbeats 4000000 in
theorem s_170 {sc : List Int32} {e : Int} {d u P Q : Nat} {c : ME} {a1 : Int} {a2 : Int} {Z : AR → Prop} (hI : Iv u e P Q c) (ha1 : 0 ≤ a1 ∧ a1 ≤ 8) (ha2 : 0 ≤ a2 ∧ a2 ≤ 999) (hW : Nw c) (hq0 : (c 41 5 < (-1)) ∨ (c 41 5 > (-1)) ∨ (c 41 29 ≤ 149)) (hq1 : (c 41 5 < (-1)) ∨ (c 41 5 > (-1)) ∨ (a1 ≤ 1) ∨ (Nh c ≥ 2)) (hq2 : (c 41 5 < (-1)) ∨ (c 41 5 > (-1)) ∨ (a1 ≠ 1) ∨ (a2 ≤ 7)) (K : ∀ (c2 : ME), Iv u e P Q c2 → (∀ (a : Nat) (j : Int), ¬ ((a = 41 ∧ j = 29) ∨ a = 50 ∨ a = 51) → c2 a j = c a j) → Nw c2 → ((c 41 5 < (-1)) ∨ (c 41 5 > (-1)) ∨ (c2 41 29 = c 41 29 + 1)) → ((c 41 5 = (-1)) ∨ (c2 41 29 = c 41 29)) → ((c 41 5 < (-1)) ∨ (c 41 5 > (-1)) ∨ (a1 ≥ 2) ∨ (Nh c2 = Nh c + 1)) → ((c 41 5 < (-1)) ∨ (c 41 5 > (-1)) ∨ (a1 ≤ 1) ∨ (Nh c2 = Nh c - 1)) → Z (.inl (none), Wd P Q P P c2, 0, 0)) : Wp sc (d + 8) 170 0 [(0, .ref 41), (1, vi a1), (2, vi a2)] [] (Wd P Q P P c) 0 0 Z := by
  have hP := iv_P hI
  have hQ := iv_Q hI
  have h_1 := ir_41_29 hI
  have h_2 := ir_41_5 hI
  refine q_aload_n rfl rfl ?_
  refine v_cv rfl rfl rfl rfl (by decide) ⟨⟨rfl, rfl⟩, by decide, rfl⟩ (Nat.le_of_ble_eq_true rfl) (Nat.le_of_ble_eq_true rfl) ?_
  refine q_aload_n rfl rfl ?_
  refine v_gi (z := 5) (v := c 41 5) rfl rfl rfl (by decide) rfl rfl rfl ?_
  refine q_iconst rfl ?_
  by_cases h_3 : c 41 5 ≠ (-1)
  · refine v_ic_ne_t (t := 12) rfl (by decide) ⟨h_3, ⟨(Int.le_trans (by decide) h_2.1), (Int.le_trans h_2.2 (by decide))⟩, by decide, by decide⟩ ?_
    refine q_iconst rfl ?_
    refine v_zret rfl rfl (by decide) ?_
    refine bk_inl ?_
    refine v_if_ne_f (t := 8) rfl (by decide) (by decide) ?_
    refine q_vret rfl rfl ?_
    exact K c hI (fun a j hm => rfl) hW (Or.inr (Or.inl (by omega))) (Or.inr (by omega)) (Or.inr (Or.inl (by omega))) (Or.inr (Or.inl (by omega)))
  · refine v_ic_ne_f (t := 12) rfl (by decide) (Decidable.not_not.mp h_3) ?_
    refine q_iconst rfl ?_
    refine q_goto (t := 13) rfl (by decide) ?_
    refine v_zret rfl rfl (by decide) ?_
    refine bk_inl ?_
    refine v_if_ne_t (t := 8) rfl (by decide) (by decide) ?_
    refine q_aload_n rfl rfl ?_
    refine v_gr (t := 50) rfl rfl rfl (by decide) rfl ?_
    refine q_aload_n rfl rfl ?_
    refine v_gi (z := 29) (v := c 41 29) rfl rfl rfl (by decide) rfl rfl rfl ?_
    refine q_iload_n rfl rfl ?_
    refine v_is rfl rfl (by decide) (by decide) (by omega) ?_
    refine q_aload_n rfl rfl ?_
    refine v_gr (t := 51) rfl rfl rfl (by decide) rfl ?_
    refine q_aload_n rfl rfl ?_
    refine v_gi (z := 29) (v := c 41 29) rfl rfl rfl (by decide) rfl rfl (up_c (nn rfl)) ?_
    refine q_iload_n rfl rfl ?_
    refine v_is rfl rfl (by decide) (by decide) (by omega) ?_
    refine q_aload_n rfl rfl ?_
    refine q_dup rfl rfl ?_
    refine v_gi (z := 29) (v := c 41 29) rfl rfl rfl (by decide) rfl rfl ((up_c (nn rfl)).trans (up_c (nn rfl))) ?_
    refine q_iconst rfl ?_
    refine v_iadd (v := c 41 29 + 1) rfl rfl ?_
    refine v_pi (z := 29) rfl rfl rfl (by decide) rfl rfl rfl (by decide) ?_
    refine q_vret rfl rfl ?_
    have hI_4 := iw_50 (j := c 41 29) (v := a1) hI ⟨ha1.1, ha1.2⟩
    have hI_5 := iw_51 (j := c 41 29) (v := a2) hI_4 ⟨ha2.1, ha2.2⟩
    have hI_6 := iw_41_29 (v := c 41 29 + 1) hI_5 ⟨by first | exact rgp_l h_1.1 (by decide) | omega, by omega⟩
    obtain ⟨hW9, hN9⟩ := nh_emit (what := a1) (of := a2) hW rfl (by omega) (by omega) (by omega)
    have h_7 : (up (up (up c 50 (c 41 29) a1) 51 (c 41 29) a2) 41 29 (c 41 29 + 1)) 41 29 = c 41 29 + 1 := (up_e rfl)
    exact K (up (up (up c 50 (c 41 29) a1) 51 (c 41 29) a2) 41 29 (c 41 29 + 1)) hI_6 (fun a j hm => (up_b (Decidable.or_iff_not_imp_left.mpr (fun h1 h2 => hm (Or.inl ⟨Decidable.not_not.mp h1, h2⟩)))).trans ((up_b (Decidable.or_iff_not_imp_left.mpr (fun h1 h2 => hm (Or.inr (Or.inr (Decidable.not_not.mp h1)))))).trans (up_b (Decidable.or_iff_not_imp_left.mpr (fun h1 h2 => hm (Or.inr (Or.inl (Decidable.not_not.mp h1)))))))) hW9 (Or.inr (Or.inr (by omega))) (Or.inl (by omega)) (by omega) (by omega)

set_option maxRecDepth 100000 in
set_option maxHeartbeats 4000000 in
theorem s_171 {sc : List Int32} {e : Int} {d u P Q : Nat} {c : ME} {a1 : Int} {Z : AR → Prop} (hI : Iv u e P Q c) (ha1 : 1 ≤ a1 ∧ a1 ≤ 5) (hq0 : (c 41 7 ≤ 6)) (hq1 : (c 41 4 ≤ 600)) (K : ∀ (c2 : ME), Iv u e P Q c2 → (∀ (a : Nat) (j : Int), ¬ ((a = 41 ∧ j = 4) ∨ (a = 41 ∧ j = 5) ∨ (a = 41 ∧ j = 6) ∨ (a = 41 ∧ j = 7)) → c2 a j = c a j) → ((c2 41 4 ≥ c 41 4)) → ((c2 41 7 = c 41 7 + 1)) → ((c 41 5 = (-1)) ∨ (c2 41 5 = c 41 5)) → ((c2 41 5 < (-1)) ∨ (c2 41 5 > (-1)) ∨ (c2 41 4 = a1 + c 41 4 ∧ c 41 7 ≤ 5 ∧ c 41 5 = (-1))) → Z (.inl (none), Wd P Q P P c2, 0, 0)) : Wp sc (d + 8) 171 0 [(0, .ref 41), (1, vi a1)] [] (Wd P Q P P c) 0 0 Z := by
  have hP := iv_P hI
  have hQ := iv_Q hI
  have h_1 := ir_41_7 hI
  have h_2 := ir_41_4 hI
  refine q_aload_n rfl rfl ?_
  refine v_cv rfl rfl rfl rfl (by decide) ⟨⟨rfl, rfl⟩, by decide, rfl⟩ (Nat.le_of_ble_eq_true rfl) (Nat.le_of_ble_eq_true rfl) ?_
  refine q_aload_n rfl rfl ?_
  have h_3 := ir_41_5 hI
  refine v_gi (z := 5) (v := c 41 5) rfl rfl rfl (by decide) rfl rfl rfl ?_
  refine q_iconst rfl ?_
  by_cases h_4 : c 41 5 ≠ (-1)
  · refine v_ic_ne_t (t := 12) rfl (by decide) ⟨h_4, ⟨(Int.le_trans (by decide) h_3.1), (Int.le_trans h_3.2 (by decide))⟩, by decide, by decide⟩ ?_
    refine q_iconst rfl ?_
    refine v_zret rfl rfl (by decide) ?_
    refine bk_inl ?_
    refine v_if_eq_t (t := 25) rfl (by decide) (by decide) ?_
    refine q_aload_n rfl rfl ?_
    refine v_cv rfl rfl rfl rfl (by decide) ⟨⟨rfl, rfl⟩, by decide, rfl⟩ (Nat.le_of_ble_eq_true rfl) (Nat.le_of_ble_eq_true rfl) ?_
    refine q_aload_n rfl rfl ?_
    refine v_gi (z := 5) (v := c 41 5) rfl rfl rfl (by decide) rfl rfl rfl ?_
    refine q_iconst rfl ?_
    refine v_ic_ne_t (t := 12) rfl (by decide) ⟨by omega, ⟨(Int.le_trans (by decide) h_3.1), (Int.le_trans h_3.2 (by decide))⟩, by decide, by decide⟩ ?_
    refine q_iconst rfl ?_
    refine v_zret rfl rfl (by decide) ?_
    refine bk_inl ?_
    refine v_if_eq_t (t := 42) rfl (by decide) (by decide) ?_
    refine q_aload_n rfl rfl ?_
    refine q_dup rfl rfl ?_
    refine v_gi (z := 7) (v := c 41 7) rfl rfl rfl (by decide) rfl rfl rfl ?_
    refine q_iconst rfl ?_
    refine v_iadd (v := c 41 7 + 1) rfl rfl ?_
    refine v_pi (z := 7) rfl rfl rfl (by decide) rfl rfl rfl (by decide) ?_
    refine q_vret rfl rfl ?_
    have hI_5 := iw_41_7 (v := c 41 7 + 1) hI ⟨by first | exact rgp_l h_1.1 (by decide) | omega, by omega⟩
    have h_6 : (up c 41 7 (c 41 7 + 1)) 41 4 = c 41 4 := (up_n (by decide))
    have h_7 : (up c 41 7 (c 41 7 + 1)) 41 5 = c 41 5 := (up_n (by decide))
    have h_8 : (up c 41 7 (c 41 7 + 1)) 41 7 = c 41 7 + 1 := (up_e rfl)
    exact K (up c 41 7 (c 41 7 + 1)) hI_5 (fun a j hm => up_b (Decidable.or_iff_not_imp_left.mpr (fun h1 h2 => hm (Or.inr (Or.inr (Or.inr ⟨Decidable.not_not.mp h1, h2⟩)))))) (by omega) (by omega) (Or.inr (by omega)) (Or.inr (Or.inl (by omega)))
  · refine v_ic_ne_f (t := 12) rfl (by decide) (Decidable.not_not.mp h_4) ?_
    refine q_iconst rfl ?_
    refine q_goto (t := 13) rfl (by decide) ?_
    refine v_zret rfl rfl (by decide) ?_
    refine bk_inl ?_
    refine v_if_eq_f (t := 25) rfl (by decide) (by decide) ?_
    refine q_aload_n rfl rfl ?_
    refine v_gi (z := 7) (v := c 41 7) rfl rfl rfl (by decide) rfl rfl rfl ?_
    refine v_bip rfl (by decide) ?_
    by_cases h_9 : c 41 7 ≠ 6
    · refine v_ic_ne_t (t := 25) rfl (by decide) ⟨h_9, ⟨(Int.le_trans (by decide) h_1.1), (Int.le_trans h_1.2 (by decide))⟩, by decide, by decide⟩ ?_
      refine q_aload_n rfl rfl ?_
      refine v_cv rfl rfl rfl rfl (by decide) ⟨⟨rfl, rfl⟩, by decide, rfl⟩ (Nat.le_of_ble_eq_true rfl) (Nat.le_of_ble_eq_true rfl) ?_
      refine q_aload_n rfl rfl ?_
      refine v_gi (z := 5) (v := c 41 5) rfl rfl rfl (by decide) rfl rfl rfl ?_
      refine q_iconst rfl ?_
      refine v_ic_ne_f (t := 12) rfl (by decide) (by omega) ?_
      refine q_iconst rfl ?_
      refine q_goto (t := 13) rfl (by decide) ?_
      refine v_zret rfl rfl (by decide) ?_
      refine bk_inl ?_
      refine v_if_eq_f (t := 42) rfl (by decide) (by decide) ?_
      refine q_aload_n rfl rfl ?_
      refine q_dup rfl rfl ?_
      refine v_gi (z := 4) (v := c 41 4) rfl rfl rfl (by decide) rfl rfl rfl ?_
      refine q_iload_n rfl rfl ?_
      refine v_iadd (v := a1 + c 41 4) rfl (by omega) ?_
      refine v_pi (z := 4) rfl rfl rfl (by decide) rfl rfl rfl (by decide) ?_
      refine q_aload_n rfl rfl ?_
      refine q_dup rfl rfl ?_
      refine v_gi (z := 7) (v := c 41 7) rfl rfl rfl (by decide) rfl rfl (up_n (by decide)) ?_
      refine q_iconst rfl ?_
      refine v_iadd (v := c 41 7 + 1) rfl rfl ?_
      refine v_pi (z := 7) rfl rfl rfl (by decide) rfl rfl rfl (by decide) ?_
      refine q_vret rfl rfl ?_
      have hI_10 := iw_41_4 (v := a1 + c 41 4) hI ⟨by omega, by omega⟩
      have hI_11 := iw_41_7 (v := c 41 7 + 1) hI_10 ⟨by first | exact rgp_l h_1.1 (by decide) | omega, by omega⟩
      have h_12 : (up (up c 41 4 (a1 + c 41 4)) 41 7 (c 41 7 + 1)) 41 4 = a1 + c 41 4 := ((up_n (by decide)).trans (up_e rfl))
      have h_13 : (up (up c 41 4 (a1 + c 41 4)) 41 7 (c 41 7 + 1)) 41 5 = c 41 5 := ((up_n (by decide)).trans (up_n (by decide)))
      have h_14 : (up (up c 41 4 (a1 + c 41 4)) 41 7 (c 41 7 + 1)) 41 7 = c 41 7 + 1 := (up_e rfl)
      exact K (up (up c 41 4 (a1 + c 41 4)) 41 7 (c 41 7 + 1)) hI_11 (fun a j hm => (up_b (Decidable.or_iff_not_imp_left.mpr (fun h1 h2 => hm (Or.inr (Or.inr (Or.inr ⟨Decidable.not_not.mp h1, h2⟩)))))).trans (up_b (Decidable.or_iff_not_imp_left.mpr (fun h1 h2 => hm (Or.inl ⟨Decidable.not_not.mp h1, h2⟩))))) (by omega) (by omega) (Or.inl (by omega)) (Or.inr (Or.inr ⟨by omega, by omega, by omega⟩))
    · refine v_ic_ne_f (t := 25) rfl (by decide) (Decidable.not_not.mp h_9) ?_
      refine q_aload_n rfl rfl ?_
      refine q_iconst rfl ?_
      refine q_aload_n rfl rfl ?_
      refine v_gi (z := 4) (v := c 41 4) rfl rfl rfl (by decide) rfl rfl rfl ?_
      refine v_cv rfl rfl rfl rfl (by decide) ⟨⟨rfl, rfl⟩, by decide, rfl⟩ (Nat.le_of_ble_eq_true rfl) (Nat.le_of_ble_eq_true rfl) (s_153 (a1 := 3) (a2 := c 41 4) hI (show 1 ≤ 3 ∧ 3 ≤ 3 from ⟨by decide, by decide⟩) (show 0 ≤ c 41 4 ∧ c 41 4 ≤ 605 from h_2) (fun c_15 hI_16 hF_17 h_18 => ?_))
      refine bk_inl ?_
      have h_19 := ir_41_5 hI_16
      refine q_aload_n rfl rfl ?_
      refine v_cv rfl rfl rfl rfl (by decide) ⟨⟨rfl, rfl⟩, by decide, rfl⟩ (Nat.le_of_ble_eq_true rfl) (Nat.le_of_ble_eq_true rfl) ?_
      refine q_aload_n rfl rfl ?_
      refine v_gi (z := 5) (v := c_15 41 5) rfl rfl rfl (by decide) rfl rfl rfl ?_
      refine q_iconst rfl ?_
      refine v_ic_ne_t (t := 12) rfl (by decide) ⟨by omega, ⟨(Int.le_trans (by decide) h_19.1), (Int.le_trans h_19.2 (by decide))⟩, by decide, by decide⟩ ?_
      refine q_iconst rfl ?_
      refine v_zret rfl rfl (by decide) ?_
      refine bk_inl ?_
      refine v_if_eq_t (t := 42) rfl (by decide) (by decide) ?_
      refine q_aload_n rfl rfl ?_
      refine q_dup rfl rfl ?_
      have kn_20 : Hid (c_15 41 7 = c 41 7) := hF_17 41 7 (fun q => q.elim (fun h => absurd h.2 (ni rfl)) (fun h => absurd h.2 (ni rfl)))
      refine v_gi (z := 7) (v := c 41 7) rfl rfl rfl (by decide) rfl rfl (hid kn_20) ?_
      refine q_iconst rfl ?_
      refine v_iadd (v := c 41 7 + 1) rfl rfl ?_
      refine v_pi (z := 7) rfl rfl rfl (by decide) rfl rfl rfl (by decide) ?_
      refine q_vret rfl rfl ?_
      have hI_21 := iw_41_7 (v := c 41 7 + 1) hI_16 ⟨by first | exact rgp_l h_1.1 (by decide) | omega, by omega⟩
      have kn_22 : Hid (c_15 41 4 = c 41 4) := hF_17 41 4 (fun q => q.elim (fun h => absurd h.2 (ni rfl)) (fun h => absurd h.2 (ni rfl)))
      have h_23 : (up c_15 41 7 (c 41 7 + 1)) 41 4 = c 41 4 := ((up_n (by decide)).trans (hid kn_22))
      have h_24 : (up c_15 41 7 (c 41 7 + 1)) 41 5 = c_15 41 5 := (up_n (by decide))
      have h_25 : (up c_15 41 7 (c 41 7 + 1)) 41 7 = c 41 7 + 1 := (up_e rfl)
      exact K (up c_15 41 7 (c 41 7 + 1)) hI_21 (fun a j hm => (up_b (Decidable.or_iff_not_imp_left.mpr (fun h1 h2 => hm (Or.inr (Or.inr (Or.inr ⟨Decidable.not_not.mp h1, h2⟩)))))).trans (hF_17 a j (fun q => q.elim (fun h => hm (Or.inr (Or.inl h))) (fun h => hm (Or.inr (Or.inr (Or.inl h))))))) (by omega) (by omega) (Or.inl (by omega)) (Or.inr (Or.inl (by omega)))

set_option maxRecDepth 100000 in
set_option maxHeartbeats 4000000 in
theorem s_172 {sc : List Int32} {e : Int} {d u P Q : Nat} {c : ME} {Z : AR → Prop} (hI : Iv u e P Q c)  (K : ∀ (c2 : ME) (y : Int), Iv u e P Q c2 → (∀ (a : Nat) (j : Int), ¬ ((a = 41 ∧ j = 4)) → c2 a j = c a j) → (-1) ≤ y ∧ y ≤ 7 → ((c2 41 4 ≥ c 41 4)) → ((c2 41 4 ≤ c 41 3) ∨ (c2 41 4 = c 41 4)) → ((y < 0) ∨ (c2 41 4 < c 41 3)) → ((y < 0) ∨ (c 43 (c2 41 4) ≥ 97 ∧ c 43 (c2 41 4) ≤ 122)) → Z (.inl (some (vi y)), Wd P Q P P c2, 0, 0)) : Wp sc (d + 9) 172 0 [(0, .ref 41)] [] (Wd P Q P P c) 0 0 Z := by
  have hP := iv_P hI
  have hQ := iv_Q hI
  refine q_aload_n rfl rfl ?_
  have h_1 := ir_41_4 hI
  have h_2 := ir_41_3 hI
  refine v_cv rfl rfl rfl rfl (by decide) ⟨⟨rfl, rfl⟩, by decide, rfl⟩ (Nat.le_of_ble_eq_true rfl) (Nat.le_of_ble_eq_true rfl) (s_157 hI (fun c_3 y_6 hI_4 hF_5 hy_6 h_7 h_8 h_9 h_10 h_11 => ?_))
  refine bk_inl ?_
  have h_12 := ir_41_4 hI_4
  have h_13 := ir_43 hI (c_3 41 4)
  have h_14 := ir_43 hI (c_3 41 4 + 1)
  have h_15 := ir_43 hI (c_3 41 4 + 2)
  refine q_istore_n rfl (by decide) ?_
  refine q_iload_n rfl rfl ?_
  refine q_ldc_s rfl rfl rfl (by decide) ?_
  refine q_call rfl rfl rfl rfl (s_158_22 ?_)
  refine bk_inl ?_
  by_cases h_16 : y_6 ≠ 206277
  · refine v_ic_ne_t (t := 18) rfl (by decide) ⟨h_16, ⟨hy_6.1, hy_6.2⟩, by decide, by decide⟩ ?_
    refine q_iload_n rfl rfl ?_
    refine q_ldc_s rfl rfl rfl (by decide) ?_
    refine q_call rfl rfl rfl rfl (s_158_23 ?_)
    refine bk_inl ?_
    by_cases h_17 : y_6 ≠ 13604
    · refine v_ic_ne_t (t := 31) rfl (by decide) ⟨h_17, ⟨hy_6.1, hy_6.2⟩, by decide, by decide⟩ ?_
      refine q_iload_n rfl rfl ?_
      refine q_ldc_w_s rfl rfl rfl (by decide) ?_
      refine q_call rfl rfl rfl rfl (s_158_24 ?_)
      refine bk_inl ?_
      by_cases h_18 : y_6 ≠ 116443749
      · refine v_ic_ne_t (t := 45) rfl (by decide) ⟨h_18, ⟨hy_6.1, hy_6.2⟩, by decide, by decide⟩ ?_
        refine q_iload_n rfl rfl ?_
        refine q_ldc_w_s rfl rfl rfl (by decide) ?_
        refine q_call rfl rfl rfl rfl (s_158_25 ?_)
        refine bk_inl ?_
        by_cases h_19 : y_6 ≠ 284267
        · refine v_ic_ne_t (t := 59) rfl (by decide) ⟨h_19, ⟨hy_6.1, hy_6.2⟩, by decide, by decide⟩ ?_
          refine q_iload_n rfl rfl ?_
          refine q_ldc_w_s rfl rfl rfl (by decide) ?_
          refine q_call rfl rfl rfl rfl (s_158_26 ?_)
          refine bk_inl ?_
          by_cases h_20 : y_6 ≠ 1420
          · refine v_ic_ne_t (t := 73) rfl (by decide) ⟨h_20, ⟨hy_6.1, hy_6.2⟩, by decide, by decide⟩ ?_
            refine q_iload_n rfl rfl ?_
            refine q_ldc_w_s rfl rfl rfl (by decide) ?_
            refine q_call rfl rfl rfl rfl (s_158_27 ?_)
            refine bk_inl ?_
            by_cases h_21 : y_6 ≠ 1253
            · refine v_ic_ne_t (t := 87) rfl (by decide) ⟨h_21, ⟨hy_6.1, hy_6.2⟩, by decide, by decide⟩ ?_
              refine q_iload_n rfl rfl ?_
              refine q_ldc_w_s rfl rfl rfl (by decide) ?_
              refine q_call rfl rfl rfl rfl (s_158_28 ?_)
              refine bk_inl ?_
              by_cases h_22 : y_6 ≠ 4153
              · refine v_ic_ne_t (t := 102) rfl (by decide) ⟨h_22, ⟨hy_6.1, hy_6.2⟩, by decide, by decide⟩ ?_
                refine q_iload_n rfl rfl ?_
                refine q_ldc_s rfl rfl rfl (by decide) ?_
                refine q_call rfl rfl rfl rfl (s_158_16 ?_)
                refine bk_inl ?_
                by_cases h_23 : y_6 ≠ 10290
                · refine v_ic_ne_t (t := 116) rfl (by decide) ⟨h_23, ⟨hy_6.1, hy_6.2⟩, by decide, by decide⟩ ?_
                  refine q_iconst rfl ?_
                  refine q_iret rfl rfl ?_
                  have h_24 : c 43 ((c_3 41 4)) = c 43 (c_3 41 4) := congrArg (c 43) (by omega)
                  exact K c_3 (-1) hI_4 (fun a j hm => hF_5 a j (fun h => hm h)) ⟨by decide, by decide⟩ (by first | (clear h_1 h_2 h_12 h_13 h_14 h_15 h_8 h_9 h_10 h_11 h_16 h_17 h_18 h_19 h_20 h_21 h_22 h_23; omega) | omega) (by omega) (Or.inl (by first | (clear h_1 h_2 h_12 h_7 h_13 h_14 h_15 h_8 h_9 h_10 h_11 h_16 h_17 h_18 h_19 h_20 h_21 h_22 h_23; omega) | omega)) (Or.inl (by first | (clear h_1 h_2 h_12 h_7 h_13 h_14 h_15 h_8 h_9 h_10 h_11 h_16 h_17 h_18 h_19 h_20 h_21 h_22 h_23; omega) | omega))
                · refine v_ic_ne_f (t := 116) rfl (by decide) (Decidable.not_not.mp h_23) ?_
                  refine v_bip rfl (by decide) ?_
                  refine q_goto (t := 117) rfl (by decide) ?_
                  refine q_iret rfl rfl ?_
                  have h_25 : c 43 ((c_3 41 4)) = c 43 (c_3 41 4) := congrArg (c 43) (by omega)
                  exact K c_3 7 hI_4 (fun a j hm => hF_5 a j (fun h => hm h)) ⟨by decide, by decide⟩ (by first | (clear h_1 h_2 h_12 h_13 h_14 h_15 h_8 h_9 h_10 h_11 h_16 h_17 h_18 h_19 h_20 h_21 h_22; omega) | omega) (Or.inl (by first | (clear h_1 h_13 h_14 h_15 h_10 h_16 h_17 h_18 h_19 h_20 h_21 h_22; omega) | omega)) (Or.inr (by first | (clear h_1 h_13 h_14 h_15 h_10 h_16 h_17 h_18 h_19 h_20 h_21 h_22; omega) | omega)) (Or.inr ⟨by first | (clear h_1 h_2 h_12 h_7 h_14 h_15 h_8 h_9 h_11 h_16 h_17 h_18 h_19 h_20 h_21 h_22; omega) | omega, by first | (clear h_1 h_2 h_12 h_7 h_14 h_15 h_8 h_9 h_11 h_16 h_17 h_18 h_19 h_20 h_21 h_22; omega) | omega⟩)
              · refine v_ic_ne_f (t := 102) rfl (by decide) (Decidable.not_not.mp h_22) ?_
                refine v_bip rfl (by decide) ?_
                refine q_goto (t := 117) rfl (by decide) ?_
                refine q_iret rfl rfl ?_
                have h_26 : c 43 ((c_3 41 4)) = c 43 (c_3 41 4) := congrArg (c 43) (by omega)
                exact K c_3 6 hI_4 (fun a j hm => hF_5 a j (fun h => hm h)) ⟨by decide, by decide⟩ (by first | (clear h_1 h_2 h_12 h_13 h_14 h_15 h_8 h_9 h_10 h_11 h_16 h_17 h_18 h_19 h_20 h_21; omega) | omega) (Or.inl (by first | (clear h_1 h_13 h_14 h_15 h_10 h_16 h_17 h_18 h_19 h_20 h_21; omega) | omega)) (Or.inr (by first | (clear h_1 h_13 h_14 h_15 h_10 h_16 h_17 h_18 h_19 h_20 h_21; omega) | omega)) (Or.inr ⟨by first | (clear h_1 h_2 h_12 h_7 h_14 h_15 h_8 h_9 h_11 h_16 h_17 h_18 h_19 h_20 h_21; omega) | omega, by first | (clear h_1 h_2 h_12 h_7 h_14 h_15 h_8 h_9 h_11 h_16 h_17 h_18 h_19 h_20 h_21; omega) | omega⟩)
            · refine v_ic_ne_f (t := 87) rfl (by decide) (Decidable.not_not.mp h_21) ?_
              refine q_iconst rfl ?_
              refine q_goto (t := 117) rfl (by decide) ?_
              refine q_iret rfl rfl ?_
              have h_27 : c 43 ((c_3 41 4)) = c 43 (c_3 41 4) := congrArg (c 43) (by omega)
              exact K c_3 5 hI_4 (fun a j hm => hF_5 a j (fun h => hm h)) ⟨by decide, by decide⟩ (by first | (clear h_1 h_2 h_12 h_13 h_14 h_15 h_8 h_9 h_10 h_11 h_16 h_17 h_18 h_19 h_20; omega) | omega) (Or.inl (by first | (clear h_1 h_13 h_14 h_15 h_10 h_16 h_17 h_18 h_19 h_20; omega) | omega)) (Or.inr (by first | (clear h_1 h_13 h_14 h_15 h_10 h_16 h_17 h_18 h_19 h_20; omega) | omega)) (Or.inr ⟨by first | (clear h_1 h_2 h_12 h_7 h_14 h_15 h_8 h_9 h_11 h_16 h_17 h_18 h_19 h_20; omega) | omega, by first | (clear h_1 h_2 h_12 h_7 h_14 h_15 h_8 h_9 h_11 h_16 h_17 h_18 h_19 h_20; omega) | omega⟩)
          · refine v_ic_ne_f (t := 73) rfl (by decide) (Decidable.not_not.mp h_20) ?_
            refine q_iconst rfl ?_
            refine q_goto (t := 117) rfl (by decide) ?_
            refine q_iret rfl rfl ?_
            have h_28 : c 43 ((c_3 41 4)) = c 43 (c_3 41 4) := congrArg (c 43) (by omega)
            exact K c_3 4 hI_4 (fun a j hm => hF_5 a j (fun h => hm h)) ⟨by decide, by decide⟩ (by first | (clear h_1 h_2 h_12 h_13 h_14 h_15 h_8 h_9 h_10 h_11 h_16 h_17 h_18 h_19; omega) | omega) (Or.inl (by omega)) (Or.inr (by omega)) (Or.inr ⟨by first | (clear h_1 h_2 h_12 h_7 h_14 h_15 h_8 h_9 h_11 h_16 h_17 h_18 h_19; omega) | omega, by first | (clear h_1 h_2 h_12 h_7 h_14 h_15 h_8 h_9 h_11 h_16 h_17 h_18 h_19; omega) | omega⟩)
        · refine v_ic_ne_f (t := 59) rfl (by decide) (Decidable.not_not.mp h_19) ?_
          refine q_iconst rfl ?_
          refine q_goto (t := 117) rfl (by decide) ?_
          refine q_iret rfl rfl ?_
          have h_29 : c 43 ((c_3 41 4)) = c 43 (c_3 41 4) := congrArg (c 43) (by omega)
          exact K c_3 3 hI_4 (fun a j hm => hF_5 a j (fun h => hm h)) ⟨by decide, by decide⟩ (by first | (clear h_1 h_2 h_12 h_13 h_14 h_15 h_8 h_9 h_10 h_11 h_16 h_17 h_18; omega) | omega) (Or.inl (by omega)) (Or.inr (by omega)) (Or.inr ⟨by first | (clear h_1 h_2 h_12 h_7 h_14 h_15 h_8 h_9 h_11 h_16 h_17 h_18; omega) | omega, by first | (clear h_1 h_2 h_12 h_7 h_14 h_15 h_8 h_9 h_11 h_16 h_17 h_18; omega) | omega⟩)
      · refine v_ic_ne_f (t := 45) rfl (by decide) (Decidable.not_not.mp h_18) ?_
        refine q_iconst rfl ?_
        refine q_goto (t := 117) rfl (by decide) ?_
        refine q_iret rfl rfl ?_
        have h_30 : c 43 ((c_3 41 4)) = c 43 (c_3 41 4) := congrArg (c 43) (by omega)
        exact K c_3 2 hI_4 (fun a j hm => hF_5 a j (fun h => hm h)) ⟨by decide, by decide⟩ (by omega) (Or.inl (by omega)) (Or.inr (by omega)) (Or.inr ⟨by omega, by omega⟩)
    · refine v_ic_ne_f (t := 31) rfl (by decide) (Decidable.not_not.mp h_17) ?_
      refine q_iconst rfl ?_
      refine q_goto (t := 117) rfl (by decide) ?_
      refine q_iret rfl rfl ?_
      have h_31 : c 43 ((c_3 41 4)) = c 43 (c_3 41 4) := congrArg (c 43) (by omega)
      exact K c_3 1 hI_4 (fun a j hm => hF_5 a j (fun h => hm h)) ⟨by decide, by decide⟩ (by omega) (Or.inl (by omega)) (Or.inr (by omega)) (Or.inr ⟨by omega, by omega⟩)
  · refine v_ic_ne_f (t := 18) rfl (by decide) (Decidable.not_not.mp h_16) ?_
    refine q_iconst rfl ?_
    refine q_goto (t := 117) rfl (by decide) ?_
    refine q_iret rfl rfl ?_
    have h_32 : c 43 ((c_3 41 4)) = c 43 (c_3 41 4) := congrArg (c 43) (by omega)
    exact K c_3 0 hI_4 (fun a j hm => hF_5 a j (fun h => hm h)) ⟨by decide, by decide⟩ (by omega) (Or.inl (by omega)) (Or.inr (by omega)) (Or.inr ⟨by omega, by omega⟩)

