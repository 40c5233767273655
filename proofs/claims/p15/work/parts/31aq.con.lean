/-! ===== contracts 11 ===== -/
set_option maxRecDepth 100000 in
set_option maxHeartbeats 4000000 in
theorem s_157_l {sc : List Int32} {e : Int} {d u P Q : Nat} {c : ME} {Z : AR → Prop} (hI : Iv u e P Q c)  (K : ∀ (c2 : ME) (y : Int), Iv u e P Q c2 → (∀ (a : Nat) (j : Int), ¬ ((a = 41 ∧ j = 4)) → c2 a j = c a j) → (-2147483648) ≤ y ∧ y ≤ 2147483647 → ((c2 41 4 ≥ c 41 4)) → ((c2 41 4 ≤ c 41 3) ∨ (c2 41 4 = c 41 4)) → ((y = 0) ∨ (c2 41 4 < c 41 3)) → ((y = 0) ∨ (c 43 (c2 41 4) ≥ 97 ∧ c 43 (c2 41 4) ≤ 122)) → ((y ≥ 0 ∧ y ≤ 1023) ∨ (c 43 (c2 41 4 + 1) ≥ 97 ∧ c 43 (c2 41 4 + 1) ≤ 122 ∧ c 43 (c2 41 4 + 2) ≥ 97 ∧ c 43 (c2 41 4 + 2) ≤ 122 ∧ c2 41 4 + 3 ≤ c 41 3)) → Z (.inl (some (vi y)), Wd P Q P P c2, 0, 0)) : ∀ n : Nat, (∀ (c2 : ME) (v1 : Int) (v2 : Int) (v3 : Int), Iv u e P Q c2 → (∀ (a : Nat) (j : Int), ¬ ((a = 41 ∧ j = 4)) → c2 a j = c a j) → (-2147483648) ≤ v1 ∧ v1 ≤ 2147483647 → 0 ≤ v2 ∧ v2 ≤ 600 → 0 ≤ v3 ∧ v3 ≤ 605 → ((c2 41 4 ≥ c 41 4)) → ((c2 41 4 ≤ c 41 3) ∨ (c2 41 4 = c 41 4)) → ((v3 = c2 41 4 + v2)) → ((v2 ≥ 0)) → ((v2 ≥ 1) ∨ (v1 = 0)) → ((v2 = 0) ∨ (c 43 (c2 41 4) ≥ 97 ∧ c 43 (c2 41 4) ≤ 122)) → ((v2 ≤ 1) ∨ (c 43 (c2 41 4 + 1) ≥ 97 ∧ c 43 (c2 41 4 + 1) ≤ 122)) → ((v2 ≤ 2) ∨ (c 43 (c2 41 4 + 2) ≥ 97 ∧ c 43 (c2 41 4 + 2) ≤ 122)) → ((v2 ≥ 2) ∨ (v1 ≥ 0 ∧ v1 ≤ 31)) → ((v2 ≥ 3) ∨ (v1 ≥ 0 ∧ v1 ≤ 1023)) → ((v2 = 0) ∨ (v3 ≤ c 41 3)) → 1211 - 2 * v3 < (n : Int) → Wp sc (d + 8) 157 14 [(0, .ref 41), (1, vi v1), (2, vi v2), (3, vi v3)] [] (Wd P Q P P c2) 0 0 Z)
  | 0 => by intro c2 v1 v2 v3 hI2 hF hv1 hv2 hv3 hx0 hx1 hx2 hx3 hx4 hx5 hx6 hx7 hx8 hx9 hx10 hm9; have hP := iv_P hI; have hQ := iv_Q hI; exfalso; omega
  | n + 1 => by
    have hP := iv_P hI
    have hQ := iv_Q hI
    have ih := s_157_l (sc := sc) (d := d) hI K n
    intro c2 v1 v2 v3 hI2 hF hv1 hv2 hv3 hx0 hx1 hx2 hx3 hx4 hx5 hx6 hx7 hx8 hx9 hx10 hm9
    have h_1 := ir_41_4 hI
    have h_2 := ir_41_4 hI2
    have h_3 := ir_41_3 hI
    have h_4 := ir_43 hI (c2 41 4)
    have h_5 := ir_43 hI (c2 41 4 + 1)
    have h_6 := ir_43 hI (c2 41 4 + 2)
    refine q_iload_n rfl rfl ?_
    refine q_aload_n rfl rfl ?_
    have kn_7 : Hid (c2 41 3 = c 41 3) := hF 41 3 (fun h => absurd h.2 (ni rfl))
    refine v_gi (z := 3) (v := c 41 3) rfl rfl rfl (by decide) rfl rfl (hid kn_7) ?_
    by_cases h_8 : v3 ≥ c 41 3
    · refine v_ic_ge_t (t := 67) rfl (by decide) ⟨(Int.le_trans (by decide) h_3.1), h_8, (Int.le_trans hv3.2 (by decide))⟩ ?_
      refine q_iload_n rfl rfl ?_
      refine v_bip rfl (by decide) ?_
      by_cases h_9 : v2 ≤ 6
      · refine v_ic_le_t (t := 77) rfl (by decide) ⟨(Int.le_trans (by decide) hv2.1), h_9, by decide⟩ ?_
        refine q_iload_n rfl rfl ?_
        refine q_iret rfl rfl ?_
        have h_10 : c 43 ((c2 41 4) + 1) = c 43 (c2 41 4 + 1) := congrArg (c 43) (by omega)
        have h_11 : c 43 ((c2 41 4) + 2) = c 43 (c2 41 4 + 2) := congrArg (c 43) (by omega)
        have h_12 : c 43 ((c2 41 4)) = c 43 (c2 41 4) := congrArg (c 43) (by omega)
        exact K c2 v1 hI2 (fun a j hm => hF a j (fun h => hm h)) hv1 (by omega) (by omega) (by omega) (by omega) (by omega)
      · refine v_ic_le_f (t := 77) rfl (by decide) ⟨by decide, (Int.not_le.mp h_9), (Int.le_trans hv2.2 (by decide))⟩ ?_
        refine q_iconst rfl ?_
        refine q_goto (t := 78) rfl (by decide) ?_
        refine q_iret rfl rfl ?_
        have h_13 : c 43 ((c2 41 4) + 1) = c 43 (c2 41 4 + 1) := congrArg (c 43) (by omega)
        have h_14 : c 43 ((c2 41 4) + 2) = c 43 (c2 41 4 + 2) := congrArg (c 43) (by omega)
        have h_15 : c 43 ((c2 41 4)) = c 43 (c2 41 4) := congrArg (c 43) (by omega)
        exact K c2 0 hI2 (fun a j hm => hF a j (fun h => hm h)) ⟨by decide, by decide⟩ (by omega) (Or.inl (by omega)) (Or.inl (by omega)) (Or.inl (by omega)) (Or.inl ⟨by omega, by omega⟩)
    · refine v_ic_ge_f (t := 67) rfl (by decide) ⟨(Int.le_trans (by decide) hv3.1), (Int.not_le.mp h_8), (Int.le_trans h_3.2 (by decide))⟩ ?_
      refine q_aload_n rfl rfl ?_
      refine v_gr (t := 43) rfl rfl rfl (by decide) rfl ?_
      refine q_iload_n rfl rfl ?_
      have h_16 := ir_43 hI v3
      have kn_17 : Hid (c2 43 v3 = c 43 v3) := hF 43 v3 (fun h => absurd h.1 (nn rfl))
      refine v_ia (v := c 43 v3) rfl rfl (by decide) (by decide) (by omega) (hid kn_17) ?_
      refine q_call rfl rfl rfl rfl ?_
      refine q_iload_n rfl rfl ?_
      refine v_bip rfl (by decide) ?_
      by_cases h_18 : c 43 v3 < 97
      · refine v_ic_lt_t (t := 16) rfl (by decide) ⟨by omega, h_18, by decide⟩ ?_
        refine q_iconst rfl ?_
        refine v_zret rfl rfl (by decide) ?_
        refine bk_inl ?_
        refine v_if_eq_t (t := 67) rfl (by decide) (by decide) ?_
        refine q_iload_n rfl rfl ?_
        refine v_bip rfl (by decide) ?_
        by_cases h_19 : v2 ≤ 6
        · refine v_ic_le_t (t := 77) rfl (by decide) ⟨(Int.le_trans (by decide) hv2.1), h_19, by decide⟩ ?_
          refine q_iload_n rfl rfl ?_
          refine q_iret rfl rfl ?_
          have h_20 : c 43 ((c2 41 4) + 1) = c 43 (c2 41 4 + 1) := congrArg (c 43) (by omega)
          have h_21 : c 43 ((c2 41 4) + 2) = c 43 (c2 41 4 + 2) := congrArg (c 43) (by omega)
          have h_22 : c 43 ((c2 41 4)) = c 43 (c2 41 4) := congrArg (c 43) (by omega)
          exact K c2 v1 hI2 (fun a j hm => hF a j (fun h => hm h)) hv1 (by omega) (Or.inl (by omega)) (Or.inr (by omega)) (by omega) (by omega)
        · refine v_ic_le_f (t := 77) rfl (by decide) ⟨by decide, (Int.not_le.mp h_19), (Int.le_trans hv2.2 (by decide))⟩ ?_
          refine q_iconst rfl ?_
          refine q_goto (t := 78) rfl (by decide) ?_
          refine q_iret rfl rfl ?_
          have h_23 : c 43 ((c2 41 4) + 1) = c 43 (c2 41 4 + 1) := congrArg (c 43) (by omega)
          have h_24 : c 43 ((c2 41 4) + 2) = c 43 (c2 41 4 + 2) := congrArg (c 43) (by omega)
          have h_25 : c 43 ((c2 41 4)) = c 43 (c2 41 4) := congrArg (c 43) (by omega)
          exact K c2 0 hI2 (fun a j hm => hF a j (fun h => hm h)) ⟨by decide, by decide⟩ (by omega) (Or.inl (by omega)) (Or.inl (by omega)) (Or.inl (by omega)) (Or.inl ⟨by omega, by omega⟩)
      · refine v_ic_lt_f (t := 16) rfl (by decide) ⟨by decide, (Int.not_lt.mp h_18), by omega⟩ ?_
        refine q_iload_n rfl rfl ?_
        refine v_bip rfl (by decide) ?_
        by_cases h_26 : c 43 v3 > 122
        · refine v_ic_gt_t (t := 16) rfl (by decide) ⟨by decide, h_26, by omega⟩ ?_
          refine q_iconst rfl ?_
          refine v_zret rfl rfl (by decide) ?_
          refine bk_inl ?_
          refine v_if_eq_t (t := 67) rfl (by decide) (by decide) ?_
          refine q_iload_n rfl rfl ?_
          refine v_bip rfl (by decide) ?_
          by_cases h_27 : v2 ≤ 6
          · refine v_ic_le_t (t := 77) rfl (by decide) ⟨(Int.le_trans (by decide) hv2.1), h_27, by decide⟩ ?_
            refine q_iload_n rfl rfl ?_
            refine q_iret rfl rfl ?_
            have h_28 : c 43 ((c2 41 4) + 1) = c 43 (c2 41 4 + 1) := congrArg (c 43) (by omega)
            have h_29 : c 43 ((c2 41 4) + 2) = c 43 (c2 41 4 + 2) := congrArg (c 43) (by omega)
            have h_30 : c 43 ((c2 41 4)) = c 43 (c2 41 4) := congrArg (c 43) (by omega)
            exact K c2 v1 hI2 (fun a j hm => hF a j (fun h => hm h)) hv1 (by omega) (Or.inl (by omega)) (Or.inr (by omega)) (by omega) (by omega)
          · refine v_ic_le_f (t := 77) rfl (by decide) ⟨by decide, (Int.not_le.mp h_27), (Int.le_trans hv2.2 (by decide))⟩ ?_
            refine q_iconst rfl ?_
            refine q_goto (t := 78) rfl (by decide) ?_
            refine q_iret rfl rfl ?_
            have h_31 : c 43 ((c2 41 4) + 1) = c 43 (c2 41 4 + 1) := congrArg (c 43) (by omega)
            have h_32 : c 43 ((c2 41 4) + 2) = c 43 (c2 41 4 + 2) := congrArg (c 43) (by omega)
            have h_33 : c 43 ((c2 41 4)) = c 43 (c2 41 4) := congrArg (c 43) (by omega)
            exact K c2 0 hI2 (fun a j hm => hF a j (fun h => hm h)) ⟨by decide, by decide⟩ (by omega) (Or.inl (by omega)) (Or.inl (by omega)) (Or.inl (by omega)) (Or.inl ⟨by omega, by omega⟩)
        · refine v_ic_gt_f (t := 16) rfl (by decide) ⟨by omega, (Int.not_lt.mp h_26), by decide⟩ ?_
          refine q_iconst rfl ?_
          refine q_goto (t := 17) rfl (by decide) ?_
          refine v_zret rfl rfl (by decide) ?_
          refine bk_inl ?_
          refine v_if_eq_f (t := 67) rfl (by decide) (by decide) ?_
          refine q_iload_n rfl rfl ?_
          refine v_bip rfl (by decide) ?_
          by_cases h_34 : v2 ≥ 6
          · refine v_ic_ge_t (t := 56) rfl (by decide) ⟨by decide, h_34, (Int.le_trans hv2.2 (by decide))⟩ ?_
            refine q_iconst rfl ?_
            refine q_istore_n rfl (by decide) ?_
            refine v_iinc (v := v2 + 1) rfl rfl (by decide) rfl ?_
            refine v_iinc (v := v3 + 1) rfl rfl (by decide) rfl ?_
            refine q_goto (t := 14) rfl (by decide) ?_
            refine Wp_ls [(0, .ref 41), (1, vi 0), (2, vi (v2 + 1)), (3, vi (v3 + 1))] (lsub_cons rfl (lsub_cons rfl (lsub_cons rfl (lsub_cons rfl lsub_nil)))) ?_
            have h_35 : v3 = c2 41 4 → c 43 v3 = c 43 (c2 41 4) := fun e9 => congrArg (c 43) e9
            have h_36 : v3 = c2 41 4 + 1 → c 43 v3 = c 43 (c2 41 4 + 1) := fun e9 => congrArg (c 43) e9
            have h_37 : v3 = c2 41 4 + 2 → c 43 v3 = c 43 (c2 41 4 + 2) := fun e9 => congrArg (c 43) e9
            have h_38 : c 43 ((c2 41 4) + 1) = c 43 (c2 41 4 + 1) := congrArg (c 43) (by omega)
            have h_39 : c 43 ((c2 41 4) + 2) = c 43 (c2 41 4 + 2) := congrArg (c 43) (by omega)
            have h_40 : c 43 ((c2 41 4)) = c 43 (c2 41 4) := congrArg (c 43) (by omega)
            exact ih c2 0 (v2 + 1) (v3 + 1) hI2 (fun a j hm => hF a j (fun h => hm h)) ⟨by decide, by decide⟩ ⟨by first | exact rgp_l hv2.1 (by decide) | omega, by omega⟩ ⟨by first | exact rgp_l hv3.1 (by decide) | omega, by omega⟩ (by omega) (Or.inl (by omega)) (by omega) (by omega) (Or.inl (by omega)) (Or.inr ⟨by omega, by omega⟩) (Or.inr ⟨by omega, by omega⟩) (Or.inr ⟨by omega, by omega⟩) (Or.inl (by omega)) (Or.inl (by omega)) (Or.inr (by omega)) (by omega)
          · refine v_ic_ge_f (t := 56) rfl (by decide) ⟨(Int.le_trans (by decide) hv2.1), (Int.not_le.mp h_34), by decide⟩ ?_
            refine q_iload_n rfl rfl ?_
            refine q_iconst rfl ?_
            refine v_ishl5 rfl (fun y_41 hy_41 h_42 => ?_)
            refine q_aload_n rfl rfl ?_
            refine v_gr (t := 43) rfl rfl rfl (by decide) rfl ?_
            refine q_iload_n rfl rfl ?_
            refine v_ia (v := c 43 v3) rfl rfl (by decide) (by decide) (by omega) (hid kn_17) ?_
            refine v_bip rfl (by decide) ?_
            refine v_isub (v := c 43 v3 - 96) rfl rfl ?_
            refine v_ior5 rfl (fun y_43 hy_43 h_44 h_45 => ?_)
            refine q_goto (t := 57) rfl (by decide) ?_
            refine q_istore_n rfl (by decide) ?_
            refine v_iinc (v := v2 + 1) rfl rfl (by decide) rfl ?_
            refine v_iinc (v := v3 + 1) rfl rfl (by decide) rfl ?_
            refine q_goto (t := 14) rfl (by decide) ?_
            refine Wp_ls [(0, .ref 41), (1, vi y_43), (2, vi (v2 + 1)), (3, vi (v3 + 1))] (lsub_cons rfl (lsub_cons rfl (lsub_cons rfl (lsub_cons rfl lsub_nil)))) ?_
            have h_46 : v3 = c2 41 4 → c 43 v3 = c 43 (c2 41 4) := fun e9 => congrArg (c 43) e9
            have h_47 : v3 = c2 41 4 + 1 → c 43 v3 = c 43 (c2 41 4 + 1) := fun e9 => congrArg (c 43) e9
            have h_48 : v3 = c2 41 4 + 2 → c 43 v3 = c 43 (c2 41 4 + 2) := fun e9 => congrArg (c 43) e9
            have h_49 : c 43 ((c2 41 4) + 1) = c 43 (c2 41 4 + 1) := congrArg (c 43) (by omega)
            have h_50 : c 43 ((c2 41 4) + 2) = c 43 (c2 41 4 + 2) := congrArg (c 43) (by omega)
            have h_51 : c 43 ((c2 41 4)) = c 43 (c2 41 4) := congrArg (c 43) (by omega)
            exact ih c2 y_43 (v2 + 1) (v3 + 1) hI2 (fun a j hm => hF a j (fun h => hm h)) hy_43 ⟨by first | exact rgp_l hv2.1 (by decide) | omega, by omega⟩ ⟨by first | exact rgp_l hv3.1 (by decide) | omega, by omega⟩ (by omega) (Or.inl (by omega)) (by omega) (by omega) (Or.inl (by omega)) (Or.inr ⟨by omega, by omega⟩) (by omega) (by omega) (by omega) (by omega) (Or.inr (by omega)) (by omega)
set_option maxRecDepth 100000 in
set_option maxHeartbeats 4000000 in
theorem s_157 {sc : List Int32} {e : Int} {d u P Q : Nat} {c : ME} {Z : AR → Prop} (hI : Iv u e P Q c)  (K : ∀ (c2 : ME) (y : Int), Iv u e P Q c2 → (∀ (a : Nat) (j : Int), ¬ ((a = 41 ∧ j = 4)) → c2 a j = c a j) → (-2147483648) ≤ y ∧ y ≤ 2147483647 → ((c2 41 4 ≥ c 41 4)) → ((c2 41 4 ≤ c 41 3) ∨ (c2 41 4 = c 41 4)) → ((y = 0) ∨ (c2 41 4 < c 41 3)) → ((y = 0) ∨ (c 43 (c2 41 4) ≥ 97 ∧ c 43 (c2 41 4) ≤ 122)) → ((y ≥ 0 ∧ y ≤ 1023) ∨ (c 43 (c2 41 4 + 1) ≥ 97 ∧ c 43 (c2 41 4 + 1) ≤ 122 ∧ c 43 (c2 41 4 + 2) ≥ 97 ∧ c 43 (c2 41 4 + 2) ≤ 122 ∧ c2 41 4 + 3 ≤ c 41 3)) → Z (.inl (some (vi y)), Wd P Q P P c2, 0, 0)) : Wp sc (d + 8) 157 0 [(0, .ref 41)] [] (Wd P Q P P c) 0 0 Z := by
  have hP := iv_P hI
  have hQ := iv_Q hI
  refine q_aload_n rfl rfl ?_
  have h_52 := ir_41_4 hI
  have h_53 := ir_41_3 hI
  refine v_cv rfl rfl rfl rfl (by decide) ⟨⟨rfl, rfl⟩, by decide, rfl⟩ (Nat.le_of_ble_eq_true rfl) (Nat.le_of_ble_eq_true rfl) (s_154 hI (fun c_54 y_57 hI_55 hF_56 hy_57 h_58 h_59 h_60 h_61 => ?_))
  refine bk_inl ?_
  have h_62 := ir_41_4 hI_55
  have h_63 := ir_43 hI (c_54 41 4)
  refine q_pop rfl rfl ?_
  refine q_iconst rfl ?_
  refine q_istore_n rfl (by decide) ?_
  refine q_iconst rfl ?_
  refine q_istore_n rfl (by decide) ?_
  refine q_aload_n rfl rfl ?_
  refine v_gi (z := 4) (v := c_54 41 4) rfl rfl rfl (by decide) rfl rfl rfl ?_
  refine q_istore_n rfl (by decide) ?_
  refine Wp_ls [(0, .ref 41), (1, vi 0), (2, vi 0), (3, vi (c_54 41 4))] (lsub_cons rfl (lsub_cons rfl (lsub_cons rfl (lsub_cons rfl lsub_nil)))) ?_
  have h_64 := ir_43 hI (c_54 41 4 + 1)
  have h_65 : c 43 ((c_54 41 4) + 1) = c 43 (c_54 41 4 + 1) := congrArg (c 43) (by omega)
  have h_66 := ir_43 hI (c_54 41 4 + 2)
  have h_67 : c 43 ((c_54 41 4) + 2) = c 43 (c_54 41 4 + 2) := congrArg (c 43) (by omega)
  have h_68 : c 43 ((c_54 41 4)) = c 43 (c_54 41 4) := congrArg (c 43) (by omega)
  exact (s_157_l (sc := sc) (d := d) hI K 1214) c_54 0 0 (c_54 41 4) hI_55 (fun a j hm => hF_56 a j (fun h => hm h)) ⟨by decide, by decide⟩ ⟨by decide, by decide⟩ h_62 (by omega) (by omega) (by omega) (by omega) (Or.inr (by omega)) (Or.inl (by omega)) (Or.inl (by omega)) (Or.inl (by omega)) (Or.inr ⟨by omega, by omega⟩) (Or.inr ⟨by omega, by omega⟩) (Or.inl (by omega)) (by omega)

set_option maxRecDepth 100000 in
set_option maxHeartbeats 4000000 in
theorem s_158_16 {sc : List Int32} {d : Nat} {w : AW} {Z : AR → Prop} (K : Z (.inl (some (vi 10290)), w, 0, 0)) : Wp sc (d + 7) 158 0 [(0, .ref (a_SB + 16))] [] w 0 0 Z := by
  refine q_iconst rfl ?_
  refine q_istore_n rfl (by decide) ?_
  refine q_iconst rfl ?_
  refine q_istore_n rfl (by decide) ?_
  refine q_iload_n rfl rfl ?_
  refine q_aload_n rfl rfl ?_
  refine v_sln 3 rfl rfl (by omega) (Nat.le_of_ble_eq_true rfl) (by decide) (by decide) ?_
  refine v_ic_ge_f (t := 31) rfl (by decide) (by decide) ?_
  refine q_iload_n rfl rfl ?_
  refine q_iconst rfl ?_
  refine v_ishlc (v := 0) rfl (by decide) ?_
  refine q_aload_n rfl rfl ?_
  refine q_iload_n rfl rfl ?_
  refine v_sch 106 rfl rfl (by omega) (Nat.le_of_ble_eq_true rfl) (by decide) (by decide) (by decide) ?_
  refine v_bip rfl (by decide) ?_
  refine v_isub (v := 10) rfl (by decide) ?_
  refine v_iorc (v := 10) rfl (by decide) ?_
  refine q_istore_n rfl (by decide) ?_
  refine v_iinc (v := 1) rfl rfl (by decide) (by decide) ?_
  refine q_goto (t := 4) rfl (by decide) ?_
  refine q_iload_n rfl rfl ?_
  refine q_aload_n rfl rfl ?_
  refine v_sln 3 rfl rfl (by omega) (Nat.le_of_ble_eq_true rfl) (by decide) (by decide) ?_
  refine v_ic_ge_f (t := 31) rfl (by decide) (by decide) ?_
  refine q_iload_n rfl rfl ?_
  refine q_iconst rfl ?_
  refine v_ishlc (v := 320) rfl (by decide) ?_
  refine q_aload_n rfl rfl ?_
  refine q_iload_n rfl rfl ?_
  refine v_sch 97 rfl rfl (by omega) (Nat.le_of_ble_eq_true rfl) (by decide) (by decide) (by decide) ?_
  refine v_bip rfl (by decide) ?_
  refine v_isub (v := 1) rfl (by decide) ?_
  refine v_iorc (v := 321) rfl (by decide) ?_
  refine q_istore_n rfl (by decide) ?_
  refine Wp_ls [(1, vi 321), (2, vi 1), (0, .ref (a_SB + 16))] (lsub_cons rfl (lsub_cons rfl (lsub_cons rfl lsub_nil))) ?_
  refine v_iinc (v := 2) rfl rfl (by decide) (by decide) ?_
  refine q_goto (t := 4) rfl (by decide) ?_
  refine q_iload_n rfl rfl ?_
  refine q_aload_n rfl rfl ?_
  refine v_sln 3 rfl rfl (by omega) (Nat.le_of_ble_eq_true rfl) (by decide) (by decide) ?_
  refine v_ic_ge_f (t := 31) rfl (by decide) (by decide) ?_
  refine q_iload_n rfl rfl ?_
  refine q_iconst rfl ?_
  refine v_ishlc (v := 10272) rfl (by decide) ?_
  refine q_aload_n rfl rfl ?_
  refine q_iload_n rfl rfl ?_
  refine v_sch 114 rfl rfl (by omega) (Nat.le_of_ble_eq_true rfl) (by decide) (by decide) (by decide) ?_
  refine v_bip rfl (by decide) ?_
  refine v_isub (v := 18) rfl (by decide) ?_
  refine v_iorc (v := 10290) rfl (by decide) ?_
  refine q_istore_n rfl (by decide) ?_
  refine v_iinc (v := 3) rfl rfl (by decide) (by decide) ?_
  refine q_goto (t := 4) rfl (by decide) ?_
  refine q_iload_n rfl rfl ?_
  refine q_aload_n rfl rfl ?_
  refine v_sln 3 rfl rfl (by omega) (Nat.le_of_ble_eq_true rfl) (by decide) (by decide) ?_
  refine v_ic_ge_t (t := 31) rfl (by decide) (by decide) ?_
  refine q_iload_n rfl rfl ?_
  refine q_iret rfl rfl ?_
  exact K
set_option maxRecDepth 100000 in
set_option maxHeartbeats 4000000 in
theorem s_158_17 {sc : List Int32} {d : Nat} {w : AW} {Z : AR → Prop} (K : Z (.inl (some (vi 20594117)), w, 0, 0)) : Wp sc (d + 7) 158 0 [(0, .ref (a_SB + 17))] [] w 0 0 Z := by
  refine q_iconst rfl ?_
  refine q_istore_n rfl (by decide) ?_
  refine q_iconst rfl ?_
  refine q_istore_n rfl (by decide) ?_
  refine q_iload_n rfl rfl ?_
  refine q_aload_n rfl rfl ?_
  refine v_sln 5 rfl rfl (by omega) (Nat.le_of_ble_eq_true rfl) (by decide) (by decide) ?_
  refine v_ic_ge_f (t := 31) rfl (by decide) (by decide) ?_
  refine q_iload_n rfl rfl ?_
  refine q_iconst rfl ?_
  refine v_ishlc (v := 0) rfl (by decide) ?_
  refine q_aload_n rfl rfl ?_
  refine q_iload_n rfl rfl ?_
  refine v_sch 115 rfl rfl (by omega) (Nat.le_of_ble_eq_true rfl) (by decide) (by decide) (by decide) ?_
  refine v_bip rfl (by decide) ?_
  refine v_isub (v := 19) rfl (by decide) ?_
  refine v_iorc (v := 19) rfl (by decide) ?_
  refine q_istore_n rfl (by decide) ?_
  refine v_iinc (v := 1) rfl rfl (by decide) (by decide) ?_
  refine q_goto (t := 4) rfl (by decide) ?_
  refine q_iload_n rfl rfl ?_
  refine q_aload_n rfl rfl ?_
  refine v_sln 5 rfl rfl (by omega) (Nat.le_of_ble_eq_true rfl) (by decide) (by decide) ?_
  refine v_ic_ge_f (t := 31) rfl (by decide) (by decide) ?_
  refine q_iload_n rfl rfl ?_
  refine q_iconst rfl ?_
  refine v_ishlc (v := 608) rfl (by decide) ?_
  refine q_aload_n rfl rfl ?_
  refine q_iload_n rfl rfl ?_
  refine v_sch 116 rfl rfl (by omega) (Nat.le_of_ble_eq_true rfl) (by decide) (by decide) (by decide) ?_
  refine v_bip rfl (by decide) ?_
  refine v_isub (v := 20) rfl (by decide) ?_
  refine v_iorc (v := 628) rfl (by decide) ?_
  refine q_istore_n rfl (by decide) ?_
  refine Wp_ls [(1, vi 628), (2, vi 1), (0, .ref (a_SB + 17))] (lsub_cons rfl (lsub_cons rfl (lsub_cons rfl lsub_nil))) ?_
  refine v_iinc (v := 2) rfl rfl (by decide) (by decide) ?_
  refine q_goto (t := 4) rfl (by decide) ?_
  refine q_iload_n rfl rfl ?_
  refine q_aload_n rfl rfl ?_
  refine v_sln 5 rfl rfl (by omega) (Nat.le_of_ble_eq_true rfl) (by decide) (by decide) ?_
  refine v_ic_ge_f (t := 31) rfl (by decide) (by decide) ?_
  refine q_iload_n rfl rfl ?_
  refine q_iconst rfl ?_
  refine v_ishlc (v := 20096) rfl (by decide) ?_
  refine q_aload_n rfl rfl ?_
  refine q_iload_n rfl rfl ?_
  refine v_sch 111 rfl rfl (by omega) (Nat.le_of_ble_eq_true rfl) (by decide) (by decide) (by decide) ?_
  refine v_bip rfl (by decide) ?_
  refine v_isub (v := 15) rfl (by decide) ?_
  refine v_iorc (v := 20111) rfl (by decide) ?_
  refine q_istore_n rfl (by decide) ?_
  refine v_iinc (v := 3) rfl rfl (by decide) (by decide) ?_
  refine q_goto (t := 4) rfl (by decide) ?_
  refine q_iload_n rfl rfl ?_
  refine q_aload_n rfl rfl ?_
  refine v_sln 5 rfl rfl (by omega) (Nat.le_of_ble_eq_true rfl) (by decide) (by decide) ?_
  refine v_ic_ge_f (t := 31) rfl (by decide) (by decide) ?_
  refine q_iload_n rfl rfl ?_
  refine q_iconst rfl ?_
  refine v_ishlc (v := 643552) rfl (by decide) ?_
  refine q_aload_n rfl rfl ?_
  refine q_iload_n rfl rfl ?_
  refine v_sch 110 rfl rfl (by omega) (Nat.le_of_ble_eq_true rfl) (by decide) (by decide) (by decide) ?_
  refine v_bip rfl (by decide) ?_
  refine v_isub (v := 14) rfl (by decide) ?_
  refine v_iorc (v := 643566) rfl (by decide) ?_
  refine q_istore_n rfl (by decide) ?_
  refine v_iinc (v := 4) rfl rfl (by decide) (by decide) ?_
  refine Wp_ls [(2, vi 4), (1, vi 643566), (0, .ref (a_SB + 17))] (lsub_cons rfl (lsub_cons rfl (lsub_cons rfl lsub_nil))) ?_
  refine q_goto (t := 4) rfl (by decide) ?_
  refine q_iload_n rfl rfl ?_
  refine q_aload_n rfl rfl ?_
  refine v_sln 5 rfl rfl (by omega) (Nat.le_of_ble_eq_true rfl) (by decide) (by decide) ?_
  refine v_ic_ge_f (t := 31) rfl (by decide) (by decide) ?_
  refine q_iload_n rfl rfl ?_
  refine q_iconst rfl ?_
  refine v_ishlc (v := 20594112) rfl (by decide) ?_
  refine q_aload_n rfl rfl ?_
  refine q_iload_n rfl rfl ?_
  refine v_sch 101 rfl rfl (by omega) (Nat.le_of_ble_eq_true rfl) (by decide) (by decide) (by decide) ?_
  refine v_bip rfl (by decide) ?_
  refine v_isub (v := 5) rfl (by decide) ?_
  refine v_iorc (v := 20594117) rfl (by decide) ?_
  refine q_istore_n rfl (by decide) ?_
  refine v_iinc (v := 5) rfl rfl (by decide) (by decide) ?_
  refine q_goto (t := 4) rfl (by decide) ?_
  refine q_iload_n rfl rfl ?_
  refine q_aload_n rfl rfl ?_
  refine v_sln 5 rfl rfl (by omega) (Nat.le_of_ble_eq_true rfl) (by decide) (by decide) ?_
  refine v_ic_ge_t (t := 31) rfl (by decide) (by decide) ?_
  refine q_iload_n rfl rfl ?_
  refine q_iret rfl rfl ?_
  exact K
set_option maxRecDepth 100000 in
set_option maxHeartbeats 4000000 in
theorem s_158_18 {sc : List Int32} {d : Nat} {w : AW} {Z : AR → Prop} (K : Z (.inl (some (vi 20223685)), w, 0, 0)) : Wp sc (d + 7) 158 0 [(0, .ref (a_SB + 18))] [] w 0 0 Z := by
  refine q_iconst rfl ?_
  refine q_istore_n rfl (by decide) ?_
  refine q_iconst rfl ?_
  refine q_istore_n rfl (by decide) ?_
  refine q_iload_n rfl rfl ?_
  refine q_aload_n rfl rfl ?_
  refine v_sln 5 rfl rfl (by omega) (Nat.le_of_ble_eq_true rfl) (by decide) (by decide) ?_
  refine v_ic_ge_f (t := 31) rfl (by decide) (by decide) ?_
  refine q_iload_n rfl rfl ?_
  refine q_iconst rfl ?_
  refine v_ishlc (v := 0) rfl (by decide) ?_
  refine q_aload_n rfl rfl ?_
  refine q_iload_n rfl rfl ?_
  refine v_sch 115 rfl rfl (by omega) (Nat.le_of_ble_eq_true rfl) (by decide) (by decide) (by decide) ?_
  refine v_bip rfl (by decide) ?_
  refine v_isub (v := 19) rfl (by decide) ?_
  refine v_iorc (v := 19) rfl (by decide) ?_
  refine q_istore_n rfl (by decide) ?_
  refine v_iinc (v := 1) rfl rfl (by decide) (by decide) ?_
  refine q_goto (t := 4) rfl (by decide) ?_
  refine q_iload_n rfl rfl ?_
  refine q_aload_n rfl rfl ?_
  refine v_sln 5 rfl rfl (by omega) (Nat.le_of_ble_eq_true rfl) (by decide) (by decide) ?_
  refine v_ic_ge_f (t := 31) rfl (by decide) (by decide) ?_
  refine q_iload_n rfl rfl ?_
  refine q_iconst rfl ?_
  refine v_ishlc (v := 608) rfl (by decide) ?_
  refine q_aload_n rfl rfl ?_
  refine q_iload_n rfl rfl ?_
  refine v_sch 105 rfl rfl (by omega) (Nat.le_of_ble_eq_true rfl) (by decide) (by decide) (by decide) ?_
  refine v_bip rfl (by decide) ?_
  refine v_isub (v := 9) rfl (by decide) ?_
  refine v_iorc (v := 617) rfl (by decide) ?_
  refine q_istore_n rfl (by decide) ?_
  refine Wp_ls [(1, vi 617), (2, vi 1), (0, .ref (a_SB + 18))] (lsub_cons rfl (lsub_cons rfl (lsub_cons rfl lsub_nil))) ?_
  refine v_iinc (v := 2) rfl rfl (by decide) (by decide) ?_
  refine q_goto (t := 4) rfl (by decide) ?_
  refine q_iload_n rfl rfl ?_
  refine q_aload_n rfl rfl ?_
  refine v_sln 5 rfl rfl (by omega) (Nat.le_of_ble_eq_true rfl) (by decide) (by decide) ?_
  refine v_ic_ge_f (t := 31) rfl (by decide) (by decide) ?_
  refine q_iload_n rfl rfl ?_
  refine q_iconst rfl ?_
  refine v_ishlc (v := 19744) rfl (by decide) ?_
  refine q_aload_n rfl rfl ?_
  refine q_iload_n rfl rfl ?_
  refine v_sch 101 rfl rfl (by omega) (Nat.le_of_ble_eq_true rfl) (by decide) (by decide) (by decide) ?_
  refine v_bip rfl (by decide) ?_
  refine v_isub (v := 5) rfl (by decide) ?_
  refine v_iorc (v := 19749) rfl (by decide) ?_
  refine q_istore_n rfl (by decide) ?_
  refine v_iinc (v := 3) rfl rfl (by decide) (by decide) ?_
  refine q_goto (t := 4) rfl (by decide) ?_
  refine q_iload_n rfl rfl ?_
  refine q_aload_n rfl rfl ?_
  refine v_sln 5 rfl rfl (by omega) (Nat.le_of_ble_eq_true rfl) (by decide) (by decide) ?_
  refine v_ic_ge_f (t := 31) rfl (by decide) (by decide) ?_
  refine q_iload_n rfl rfl ?_
  refine q_iconst rfl ?_
  refine v_ishlc (v := 631968) rfl (by decide) ?_
  refine q_aload_n rfl rfl ?_
  refine q_iload_n rfl rfl ?_
  refine v_sch 118 rfl rfl (by omega) (Nat.le_of_ble_eq_true rfl) (by decide) (by decide) (by decide) ?_
  refine v_bip rfl (by decide) ?_
  refine v_isub (v := 22) rfl (by decide) ?_
  refine v_iorc (v := 631990) rfl (by decide) ?_
  refine q_istore_n rfl (by decide) ?_
  refine v_iinc (v := 4) rfl rfl (by decide) (by decide) ?_
  refine Wp_ls [(2, vi 4), (1, vi 631990), (0, .ref (a_SB + 18))] (lsub_cons rfl (lsub_cons rfl (lsub_cons rfl lsub_nil))) ?_
  refine q_goto (t := 4) rfl (by decide) ?_
  refine q_iload_n rfl rfl ?_
  refine q_aload_n rfl rfl ?_
  refine v_sln 5 rfl rfl (by omega) (Nat.le_of_ble_eq_true rfl) (by decide) (by decide) ?_
  refine v_ic_ge_f (t := 31) rfl (by decide) (by decide) ?_
  refine q_iload_n rfl rfl ?_
  refine q_iconst rfl ?_
  refine v_ishlc (v := 20223680) rfl (by decide) ?_
  refine q_aload_n rfl rfl ?_
  refine q_iload_n rfl rfl ?_
  refine v_sch 101 rfl rfl (by omega) (Nat.le_of_ble_eq_true rfl) (by decide) (by decide) (by decide) ?_
  refine v_bip rfl (by decide) ?_
  refine v_isub (v := 5) rfl (by decide) ?_
  refine v_iorc (v := 20223685) rfl (by decide) ?_
  refine q_istore_n rfl (by decide) ?_
  refine v_iinc (v := 5) rfl rfl (by decide) (by decide) ?_
  refine q_goto (t := 4) rfl (by decide) ?_
  refine q_iload_n rfl rfl ?_
  refine q_aload_n rfl rfl ?_
  refine v_sln 5 rfl rfl (by omega) (Nat.le_of_ble_eq_true rfl) (by decide) (by decide) ?_
  refine v_ic_ge_t (t := 31) rfl (by decide) (by decide) ?_
  refine q_iload_n rfl rfl ?_
  refine q_iret rfl rfl ?_
  exact K
set_option maxRecDepth 100000 in
set_option maxHeartbeats 4000000 in
theorem s_158_19 {sc : List Int32} {d : Nat} {w : AW} {Z : AR → Prop} (K : Z (.inl (some (vi 153204)), w, 0, 0)) : Wp sc (d + 7) 158 0 [(0, .ref (a_SB + 19))] [] w 0 0 Z := by
  refine q_iconst rfl ?_
  refine q_istore_n rfl (by decide) ?_
  refine q_iconst rfl ?_
  refine q_istore_n rfl (by decide) ?_
  refine q_iload_n rfl rfl ?_
  refine q_aload_n rfl rfl ?_
  refine v_sln 4 rfl rfl (by omega) (Nat.le_of_ble_eq_true rfl) (by decide) (by decide) ?_
  refine v_ic_ge_f (t := 31) rfl (by decide) (by decide) ?_
  refine q_iload_n rfl rfl ?_
  refine q_iconst rfl ?_
  refine v_ishlc (v := 0) rfl (by decide) ?_
  refine q_aload_n rfl rfl ?_
  refine q_iload_n rfl rfl ?_
  refine v_sch 100 rfl rfl (by omega) (Nat.le_of_ble_eq_true rfl) (by decide) (by decide) (by decide) ?_
  refine v_bip rfl (by decide) ?_
  refine v_isub (v := 4) rfl (by decide) ?_
  refine v_iorc (v := 4) rfl (by decide) ?_
  refine q_istore_n rfl (by decide) ?_
  refine v_iinc (v := 1) rfl rfl (by decide) (by decide) ?_
  refine q_goto (t := 4) rfl (by decide) ?_
  refine q_iload_n rfl rfl ?_
  refine q_aload_n rfl rfl ?_
  refine v_sln 4 rfl rfl (by omega) (Nat.le_of_ble_eq_true rfl) (by decide) (by decide) ?_
  refine v_ic_ge_f (t := 31) rfl (by decide) (by decide) ?_
  refine q_iload_n rfl rfl ?_
  refine q_iconst rfl ?_
  refine v_ishlc (v := 128) rfl (by decide) ?_
  refine q_aload_n rfl rfl ?_
  refine q_iload_n rfl rfl ?_
  refine v_sch 117 rfl rfl (by omega) (Nat.le_of_ble_eq_true rfl) (by decide) (by decide) (by decide) ?_
  refine v_bip rfl (by decide) ?_
  refine v_isub (v := 21) rfl (by decide) ?_
  refine v_iorc (v := 149) rfl (by decide) ?_
  refine q_istore_n rfl (by decide) ?_
  refine Wp_ls [(1, vi 149), (2, vi 1), (0, .ref (a_SB + 19))] (lsub_cons rfl (lsub_cons rfl (lsub_cons rfl lsub_nil))) ?_
  refine v_iinc (v := 2) rfl rfl (by decide) (by decide) ?_
  refine q_goto (t := 4) rfl (by decide) ?_
  refine q_iload_n rfl rfl ?_
  refine q_aload_n rfl rfl ?_
  refine v_sln 4 rfl rfl (by omega) (Nat.le_of_ble_eq_true rfl) (by decide) (by decide) ?_
  refine v_ic_ge_f (t := 31) rfl (by decide) (by decide) ?_
  refine q_iload_n rfl rfl ?_
  refine q_iconst rfl ?_
  refine v_ishlc (v := 4768) rfl (by decide) ?_
  refine q_aload_n rfl rfl ?_
  refine q_iload_n rfl rfl ?_
  refine v_sch 115 rfl rfl (by omega) (Nat.le_of_ble_eq_true rfl) (by decide) (by decide) (by decide) ?_
  refine v_bip rfl (by decide) ?_
  refine v_isub (v := 19) rfl (by decide) ?_
  refine v_iorc (v := 4787) rfl (by decide) ?_
  refine q_istore_n rfl (by decide) ?_
  refine v_iinc (v := 3) rfl rfl (by decide) (by decide) ?_
  refine q_goto (t := 4) rfl (by decide) ?_
  refine q_iload_n rfl rfl ?_
  refine q_aload_n rfl rfl ?_
  refine v_sln 4 rfl rfl (by omega) (Nat.le_of_ble_eq_true rfl) (by decide) (by decide) ?_
  refine v_ic_ge_f (t := 31) rfl (by decide) (by decide) ?_
  refine q_iload_n rfl rfl ?_
  refine q_iconst rfl ?_
  refine v_ishlc (v := 153184) rfl (by decide) ?_
  refine q_aload_n rfl rfl ?_
  refine q_iload_n rfl rfl ?_
  refine v_sch 116 rfl rfl (by omega) (Nat.le_of_ble_eq_true rfl) (by decide) (by decide) (by decide) ?_
  refine v_bip rfl (by decide) ?_
  refine v_isub (v := 20) rfl (by decide) ?_
  refine v_iorc (v := 153204) rfl (by decide) ?_
  refine q_istore_n rfl (by decide) ?_
  refine v_iinc (v := 4) rfl rfl (by decide) (by decide) ?_
  refine Wp_ls [(2, vi 4), (1, vi 153204), (0, .ref (a_SB + 19))] (lsub_cons rfl (lsub_cons rfl (lsub_cons rfl lsub_nil))) ?_
  refine q_goto (t := 4) rfl (by decide) ?_
  refine q_iload_n rfl rfl ?_
  refine q_aload_n rfl rfl ?_
  refine v_sln 4 rfl rfl (by omega) (Nat.le_of_ble_eq_true rfl) (by decide) (by decide) ?_
  refine v_ic_ge_t (t := 31) rfl (by decide) (by decide) ?_
  refine q_iload_n rfl rfl ?_
  refine q_iret rfl rfl ?_
  exact K
set_option maxRecDepth 100000 in
set_option maxHeartbeats 4000000 in
theorem s_158_20 {sc : List Int32} {d : Nat} {w : AW} {Z : AR → Prop} (K : Z (.inl (some (vi 12748404)), w, 0, 0)) : Wp sc (d + 7) 158 0 [(0, .ref (a_SB + 20))] [] w 0 0 Z := by
  refine q_iconst rfl ?_
  refine q_istore_n rfl (by decide) ?_
  refine q_iconst rfl ?_
  refine q_istore_n rfl (by decide) ?_
  refine q_iload_n rfl rfl ?_
  refine q_aload_n rfl rfl ?_
  refine v_sln 5 rfl rfl (by omega) (Nat.le_of_ble_eq_true rfl) (by decide) (by decide) ?_
  refine v_ic_ge_f (t := 31) rfl (by decide) (by decide) ?_
  refine q_iload_n rfl rfl ?_
  refine q_iconst rfl ?_
  refine v_ishlc (v := 0) rfl (by decide) ?_
  refine q_aload_n rfl rfl ?_
  refine q_iload_n rfl rfl ?_
  refine v_sch 108 rfl rfl (by omega) (Nat.le_of_ble_eq_true rfl) (by decide) (by decide) (by decide) ?_
  refine v_bip rfl (by decide) ?_
  refine v_isub (v := 12) rfl (by decide) ?_
  refine v_iorc (v := 12) rfl (by decide) ?_
  refine q_istore_n rfl (by decide) ?_
  refine v_iinc (v := 1) rfl rfl (by decide) (by decide) ?_
  refine q_goto (t := 4) rfl (by decide) ?_
  refine q_iload_n rfl rfl ?_
  refine q_aload_n rfl rfl ?_
  refine v_sln 5 rfl rfl (by omega) (Nat.le_of_ble_eq_true rfl) (by decide) (by decide) ?_
  refine v_ic_ge_f (t := 31) rfl (by decide) (by decide) ?_
  refine q_iload_n rfl rfl ?_
  refine q_iconst rfl ?_
  refine v_ishlc (v := 384) rfl (by decide) ?_
  refine q_aload_n rfl rfl ?_
  refine q_iload_n rfl rfl ?_
  refine v_sch 101 rfl rfl (by omega) (Nat.le_of_ble_eq_true rfl) (by decide) (by decide) (by decide) ?_
  refine v_bip rfl (by decide) ?_
  refine v_isub (v := 5) rfl (by decide) ?_
  refine v_iorc (v := 389) rfl (by decide) ?_
  refine q_istore_n rfl (by decide) ?_
  refine Wp_ls [(1, vi 389), (2, vi 1), (0, .ref (a_SB + 20))] (lsub_cons rfl (lsub_cons rfl (lsub_cons rfl lsub_nil))) ?_
  refine v_iinc (v := 2) rfl rfl (by decide) (by decide) ?_
  refine q_goto (t := 4) rfl (by decide) ?_
  refine q_iload_n rfl rfl ?_
  refine q_aload_n rfl rfl ?_
  refine v_sln 5 rfl rfl (by omega) (Nat.le_of_ble_eq_true rfl) (by decide) (by decide) ?_
  refine v_ic_ge_f (t := 31) rfl (by decide) (by decide) ?_
  refine q_iload_n rfl rfl ?_
  refine q_iconst rfl ?_
  refine v_ishlc (v := 12448) rfl (by decide) ?_
  refine q_aload_n rfl rfl ?_
  refine q_iload_n rfl rfl ?_
  refine v_sch 97 rfl rfl (by omega) (Nat.le_of_ble_eq_true rfl) (by decide) (by decide) (by decide) ?_
  refine v_bip rfl (by decide) ?_
  refine v_isub (v := 1) rfl (by decide) ?_
  refine v_iorc (v := 12449) rfl (by decide) ?_
  refine q_istore_n rfl (by decide) ?_
  refine v_iinc (v := 3) rfl rfl (by decide) (by decide) ?_
  refine q_goto (t := 4) rfl (by decide) ?_
  refine q_iload_n rfl rfl ?_
  refine q_aload_n rfl rfl ?_
  refine v_sln 5 rfl rfl (by omega) (Nat.le_of_ble_eq_true rfl) (by decide) (by decide) ?_
  refine v_ic_ge_f (t := 31) rfl (by decide) (by decide) ?_
  refine q_iload_n rfl rfl ?_
  refine q_iconst rfl ?_
  refine v_ishlc (v := 398368) rfl (by decide) ?_
  refine q_aload_n rfl rfl ?_
  refine q_iload_n rfl rfl ?_
  refine v_sch 115 rfl rfl (by omega) (Nat.le_of_ble_eq_true rfl) (by decide) (by decide) (by decide) ?_
  refine v_bip rfl (by decide) ?_
  refine v_isub (v := 19) rfl (by decide) ?_
  refine v_iorc (v := 398387) rfl (by decide) ?_
  refine q_istore_n rfl (by decide) ?_
  refine v_iinc (v := 4) rfl rfl (by decide) (by decide) ?_
  refine Wp_ls [(2, vi 4), (1, vi 398387), (0, .ref (a_SB + 20))] (lsub_cons rfl (lsub_cons rfl (lsub_cons rfl lsub_nil))) ?_
  refine q_goto (t := 4) rfl (by decide) ?_
  refine q_iload_n rfl rfl ?_
  refine q_aload_n rfl rfl ?_
  refine v_sln 5 rfl rfl (by omega) (Nat.le_of_ble_eq_true rfl) (by decide) (by decide) ?_
  refine v_ic_ge_f (t := 31) rfl (by decide) (by decide) ?_
  refine q_iload_n rfl rfl ?_
  refine q_iconst rfl ?_
  refine v_ishlc (v := 12748384) rfl (by decide) ?_
  refine q_aload_n rfl rfl ?_
  refine q_iload_n rfl rfl ?_
  refine v_sch 116 rfl rfl (by omega) (Nat.le_of_ble_eq_true rfl) (by decide) (by decide) (by decide) ?_
  refine v_bip rfl (by decide) ?_
  refine v_isub (v := 20) rfl (by decide) ?_
  refine v_iorc (v := 12748404) rfl (by decide) ?_
  refine q_istore_n rfl (by decide) ?_
  refine v_iinc (v := 5) rfl rfl (by decide) (by decide) ?_
  refine q_goto (t := 4) rfl (by decide) ?_
  refine q_iload_n rfl rfl ?_
  refine q_aload_n rfl rfl ?_
  refine v_sln 5 rfl rfl (by omega) (Nat.le_of_ble_eq_true rfl) (by decide) (by decide) ?_
  refine v_ic_ge_t (t := 31) rfl (by decide) (by decide) ?_
  refine q_iload_n rfl rfl ?_
  refine q_iret rfl rfl ?_
  exact K
set_option maxRecDepth 100000 in
set_option maxHeartbeats 4000000 in
theorem s_158_21 {sc : List Int32} {d : Nat} {w : AW} {Z : AR → Prop} (K : Z (.inl (some (vi 441972)), w, 0, 0)) : Wp sc (d + 7) 158 0 [(0, .ref (a_SB + 21))] [] w 0 0 Z := by
  refine q_iconst rfl ?_
  refine q_istore_n rfl (by decide) ?_
  refine q_iconst rfl ?_
  refine q_istore_n rfl (by decide) ?_
  refine q_iload_n rfl rfl ?_
  refine q_aload_n rfl rfl ?_
  refine v_sln 4 rfl rfl (by omega) (Nat.le_of_ble_eq_true rfl) (by decide) (by decide) ?_
  refine v_ic_ge_f (t := 31) rfl (by decide) (by decide) ?_
  refine q_iload_n rfl rfl ?_
  refine q_iconst rfl ?_
  refine v_ishlc (v := 0) rfl (by decide) ?_
  refine q_aload_n rfl rfl ?_
  refine q_iload_n rfl rfl ?_
  refine v_sch 109 rfl rfl (by omega) (Nat.le_of_ble_eq_true rfl) (by decide) (by decide) (by decide) ?_
  refine v_bip rfl (by decide) ?_
  refine v_isub (v := 13) rfl (by decide) ?_
  refine v_iorc (v := 13) rfl (by decide) ?_
  refine q_istore_n rfl (by decide) ?_
  refine v_iinc (v := 1) rfl rfl (by decide) (by decide) ?_
  refine q_goto (t := 4) rfl (by decide) ?_
  refine q_iload_n rfl rfl ?_
  refine q_aload_n rfl rfl ?_
  refine v_sln 4 rfl rfl (by omega) (Nat.le_of_ble_eq_true rfl) (by decide) (by decide) ?_
  refine v_ic_ge_f (t := 31) rfl (by decide) (by decide) ?_
  refine q_iload_n rfl rfl ?_
  refine q_iconst rfl ?_
  refine v_ishlc (v := 416) rfl (by decide) ?_
  refine q_aload_n rfl rfl ?_
  refine q_iload_n rfl rfl ?_
  refine v_sch 111 rfl rfl (by omega) (Nat.le_of_ble_eq_true rfl) (by decide) (by decide) (by decide) ?_
  refine v_bip rfl (by decide) ?_
  refine v_isub (v := 15) rfl (by decide) ?_
  refine v_iorc (v := 431) rfl (by decide) ?_
  refine q_istore_n rfl (by decide) ?_
  refine Wp_ls [(1, vi 431), (2, vi 1), (0, .ref (a_SB + 21))] (lsub_cons rfl (lsub_cons rfl (lsub_cons rfl lsub_nil))) ?_
  refine v_iinc (v := 2) rfl rfl (by decide) (by decide) ?_
  refine q_goto (t := 4) rfl (by decide) ?_
  refine q_iload_n rfl rfl ?_
  refine q_aload_n rfl rfl ?_
  refine v_sln 4 rfl rfl (by omega) (Nat.le_of_ble_eq_true rfl) (by decide) (by decide) ?_
  refine v_ic_ge_f (t := 31) rfl (by decide) (by decide) ?_
  refine q_iload_n rfl rfl ?_
  refine q_iconst rfl ?_
  refine v_ishlc (v := 13792) rfl (by decide) ?_
  refine q_aload_n rfl rfl ?_
  refine q_iload_n rfl rfl ?_
  refine v_sch 115 rfl rfl (by omega) (Nat.le_of_ble_eq_true rfl) (by decide) (by decide) (by decide) ?_
  refine v_bip rfl (by decide) ?_
  refine v_isub (v := 19) rfl (by decide) ?_
  refine v_iorc (v := 13811) rfl (by decide) ?_
  refine q_istore_n rfl (by decide) ?_
  refine v_iinc (v := 3) rfl rfl (by decide) (by decide) ?_
  refine q_goto (t := 4) rfl (by decide) ?_
  refine q_iload_n rfl rfl ?_
  refine q_aload_n rfl rfl ?_
  refine v_sln 4 rfl rfl (by omega) (Nat.le_of_ble_eq_true rfl) (by decide) (by decide) ?_
  refine v_ic_ge_f (t := 31) rfl (by decide) (by decide) ?_
  refine q_iload_n rfl rfl ?_
  refine q_iconst rfl ?_
  refine v_ishlc (v := 441952) rfl (by decide) ?_
  refine q_aload_n rfl rfl ?_
  refine q_iload_n rfl rfl ?_
  refine v_sch 116 rfl rfl (by omega) (Nat.le_of_ble_eq_true rfl) (by decide) (by decide) (by decide) ?_
  refine v_bip rfl (by decide) ?_
  refine v_isub (v := 20) rfl (by decide) ?_
  refine v_iorc (v := 441972) rfl (by decide) ?_
  refine q_istore_n rfl (by decide) ?_
  refine v_iinc (v := 4) rfl rfl (by decide) (by decide) ?_
  refine Wp_ls [(2, vi 4), (1, vi 441972), (0, .ref (a_SB + 21))] (lsub_cons rfl (lsub_cons rfl (lsub_cons rfl lsub_nil))) ?_
  refine q_goto (t := 4) rfl (by decide) ?_
  refine q_iload_n rfl rfl ?_
  refine q_aload_n rfl rfl ?_
  refine v_sln 4 rfl rfl (by omega) (Nat.le_of_ble_eq_true rfl) (by decide) (by decide) ?_
  refine v_ic_ge_t (t := 31) rfl (by decide) (by decide) ?_
  refine q_iload_n rfl rfl ?_
  refine q_iret rfl rfl ?_
  exact K
set_option maxRecDepth 100000 in
set_option maxHeartbeats 4000000 in
theorem s_158_22 {sc : List Int32} {d : Nat} {w : AW} {Z : AR → Prop} (K : Z (.inl (some (vi 206277)), w, 0, 0)) : Wp sc (d + 7) 158 0 [(0, .ref (a_SB + 22))] [] w 0 0 Z := by
  refine q_iconst rfl ?_
  refine q_istore_n rfl (by decide) ?_
  refine q_iconst rfl ?_
  refine q_istore_n rfl (by decide) ?_
  refine q_iload_n rfl rfl ?_
  refine q_aload_n rfl rfl ?_
  refine v_sln 4 rfl rfl (by omega) (Nat.le_of_ble_eq_true rfl) (by decide) (by decide) ?_
  refine v_ic_ge_f (t := 31) rfl (by decide) (by decide) ?_
  refine q_iload_n rfl rfl ?_
  refine q_iconst rfl ?_
  refine v_ishlc (v := 0) rfl (by decide) ?_
  refine q_aload_n rfl rfl ?_
  refine q_iload_n rfl rfl ?_
  refine v_sch 102 rfl rfl (by omega) (Nat.le_of_ble_eq_true rfl) (by decide) (by decide) (by decide) ?_
  refine v_bip rfl (by decide) ?_
  refine v_isub (v := 6) rfl (by decide) ?_
  refine v_iorc (v := 6) rfl (by decide) ?_
  refine q_istore_n rfl (by decide) ?_
  refine v_iinc (v := 1) rfl rfl (by decide) (by decide) ?_
  refine q_goto (t := 4) rfl (by decide) ?_
  refine q_iload_n rfl rfl ?_
  refine q_aload_n rfl rfl ?_
  refine v_sln 4 rfl rfl (by omega) (Nat.le_of_ble_eq_true rfl) (by decide) (by decide) ?_
  refine v_ic_ge_f (t := 31) rfl (by decide) (by decide) ?_
  refine q_iload_n rfl rfl ?_
  refine q_iconst rfl ?_
  refine v_ishlc (v := 192) rfl (by decide) ?_
  refine q_aload_n rfl rfl ?_
  refine q_iload_n rfl rfl ?_
  refine v_sch 105 rfl rfl (by omega) (Nat.le_of_ble_eq_true rfl) (by decide) (by decide) (by decide) ?_
  refine v_bip rfl (by decide) ?_
  refine v_isub (v := 9) rfl (by decide) ?_
  refine v_iorc (v := 201) rfl (by decide) ?_
  refine q_istore_n rfl (by decide) ?_
  refine Wp_ls [(1, vi 201), (2, vi 1), (0, .ref (a_SB + 22))] (lsub_cons rfl (lsub_cons rfl (lsub_cons rfl lsub_nil))) ?_
  refine v_iinc (v := 2) rfl rfl (by decide) (by decide) ?_
  refine q_goto (t := 4) rfl (by decide) ?_
  refine q_iload_n rfl rfl ?_
  refine q_aload_n rfl rfl ?_
  refine v_sln 4 rfl rfl (by omega) (Nat.le_of_ble_eq_true rfl) (by decide) (by decide) ?_
  refine v_ic_ge_f (t := 31) rfl (by decide) (by decide) ?_
  refine q_iload_n rfl rfl ?_
  refine q_iconst rfl ?_
  refine v_ishlc (v := 6432) rfl (by decide) ?_
  refine q_aload_n rfl rfl ?_
  refine q_iload_n rfl rfl ?_
  refine v_sch 110 rfl rfl (by omega) (Nat.le_of_ble_eq_true rfl) (by decide) (by decide) (by decide) ?_
  refine v_bip rfl (by decide) ?_
  refine v_isub (v := 14) rfl (by decide) ?_
  refine v_iorc (v := 6446) rfl (by decide) ?_
  refine q_istore_n rfl (by decide) ?_
  refine v_iinc (v := 3) rfl rfl (by decide) (by decide) ?_
  refine q_goto (t := 4) rfl (by decide) ?_
  refine q_iload_n rfl rfl ?_
  refine q_aload_n rfl rfl ?_
  refine v_sln 4 rfl rfl (by omega) (Nat.le_of_ble_eq_true rfl) (by decide) (by decide) ?_
  refine v_ic_ge_f (t := 31) rfl (by decide) (by decide) ?_
  refine q_iload_n rfl rfl ?_
  refine q_iconst rfl ?_
  refine v_ishlc (v := 206272) rfl (by decide) ?_
  refine q_aload_n rfl rfl ?_
  refine q_iload_n rfl rfl ?_
  refine v_sch 101 rfl rfl (by omega) (Nat.le_of_ble_eq_true rfl) (by decide) (by decide) (by decide) ?_
  refine v_bip rfl (by decide) ?_
  refine v_isub (v := 5) rfl (by decide) ?_
  refine v_iorc (v := 206277) rfl (by decide) ?_
  refine q_istore_n rfl (by decide) ?_
  refine v_iinc (v := 4) rfl rfl (by decide) (by decide) ?_
  refine Wp_ls [(2, vi 4), (1, vi 206277), (0, .ref (a_SB + 22))] (lsub_cons rfl (lsub_cons rfl (lsub_cons rfl lsub_nil))) ?_
  refine q_goto (t := 4) rfl (by decide) ?_
  refine q_iload_n rfl rfl ?_
  refine q_aload_n rfl rfl ?_
  refine v_sln 4 rfl rfl (by omega) (Nat.le_of_ble_eq_true rfl) (by decide) (by decide) ?_
  refine v_ic_ge_t (t := 31) rfl (by decide) (by decide) ?_
  refine q_iload_n rfl rfl ?_
  refine q_iret rfl rfl ?_
  exact K
set_option maxRecDepth 100000 in
set_option maxHeartbeats 4000000 in
theorem s_158_23 {sc : List Int32} {d : Nat} {w : AW} {Z : AR → Prop} (K : Z (.inl (some (vi 13604)), w, 0, 0)) : Wp sc (d + 7) 158 0 [(0, .ref (a_SB + 23))] [] w 0 0 Z := by
  refine q_iconst rfl ?_
  refine q_istore_n rfl (by decide) ?_
  refine q_iconst rfl ?_
  refine q_istore_n rfl (by decide) ?_
  refine q_iload_n rfl rfl ?_
  refine q_aload_n rfl rfl ?_
  refine v_sln 3 rfl rfl (by omega) (Nat.le_of_ble_eq_true rfl) (by decide) (by decide) ?_
  refine v_ic_ge_f (t := 31) rfl (by decide) (by decide) ?_
  refine q_iload_n rfl rfl ?_
  refine q_iconst rfl ?_
  refine v_ishlc (v := 0) rfl (by decide) ?_
  refine q_aload_n rfl rfl ?_
  refine q_iload_n rfl rfl ?_
  refine v_sch 109 rfl rfl (by omega) (Nat.le_of_ble_eq_true rfl) (by decide) (by decide) (by decide) ?_
  refine v_bip rfl (by decide) ?_
  refine v_isub (v := 13) rfl (by decide) ?_
  refine v_iorc (v := 13) rfl (by decide) ?_
  refine q_istore_n rfl (by decide) ?_
  refine v_iinc (v := 1) rfl rfl (by decide) (by decide) ?_
  refine q_goto (t := 4) rfl (by decide) ?_
  refine q_iload_n rfl rfl ?_
  refine q_aload_n rfl rfl ?_
  refine v_sln 3 rfl rfl (by omega) (Nat.le_of_ble_eq_true rfl) (by decide) (by decide) ?_
  refine v_ic_ge_f (t := 31) rfl (by decide) (by decide) ?_
  refine q_iload_n rfl rfl ?_
  refine q_iconst rfl ?_
  refine v_ishlc (v := 416) rfl (by decide) ?_
  refine q_aload_n rfl rfl ?_
  refine q_iload_n rfl rfl ?_
  refine v_sch 105 rfl rfl (by omega) (Nat.le_of_ble_eq_true rfl) (by decide) (by decide) (by decide) ?_
  refine v_bip rfl (by decide) ?_
  refine v_isub (v := 9) rfl (by decide) ?_
  refine v_iorc (v := 425) rfl (by decide) ?_
  refine q_istore_n rfl (by decide) ?_
  refine Wp_ls [(1, vi 425), (2, vi 1), (0, .ref (a_SB + 23))] (lsub_cons rfl (lsub_cons rfl (lsub_cons rfl lsub_nil))) ?_
  refine v_iinc (v := 2) rfl rfl (by decide) (by decide) ?_
  refine q_goto (t := 4) rfl (by decide) ?_
  refine q_iload_n rfl rfl ?_
  refine q_aload_n rfl rfl ?_
  refine v_sln 3 rfl rfl (by omega) (Nat.le_of_ble_eq_true rfl) (by decide) (by decide) ?_
  refine v_ic_ge_f (t := 31) rfl (by decide) (by decide) ?_
  refine q_iload_n rfl rfl ?_
  refine q_iconst rfl ?_
  refine v_ishlc (v := 13600) rfl (by decide) ?_
  refine q_aload_n rfl rfl ?_
  refine q_iload_n rfl rfl ?_
  refine v_sch 100 rfl rfl (by omega) (Nat.le_of_ble_eq_true rfl) (by decide) (by decide) (by decide) ?_
  refine v_bip rfl (by decide) ?_
  refine v_isub (v := 4) rfl (by decide) ?_
  refine v_iorc (v := 13604) rfl (by decide) ?_
  refine q_istore_n rfl (by decide) ?_
  refine v_iinc (v := 3) rfl rfl (by decide) (by decide) ?_
  refine q_goto (t := 4) rfl (by decide) ?_
  refine q_iload_n rfl rfl ?_
  refine q_aload_n rfl rfl ?_
  refine v_sln 3 rfl rfl (by omega) (Nat.le_of_ble_eq_true rfl) (by decide) (by decide) ?_
  refine v_ic_ge_t (t := 31) rfl (by decide) (by decide) ?_
  refine q_iload_n rfl rfl ?_
  refine q_iret rfl rfl ?_
  exact K
set_option maxRecDepth 100000 in
set_option maxHeartbeats 4000000 in
theorem s_158_24 {sc : List Int32} {d : Nat} {w : AW} {Z : AR → Prop} (K : Z (.inl (some (vi 116443749)), w, 0, 0)) : Wp sc (d + 7) 158 0 [(0, .ref (a_SB + 24))] [] w 0 0 Z := by
  refine q_iconst rfl ?_
  refine q_istore_n rfl (by decide) ?_
  refine q_iconst rfl ?_
  refine q_istore_n rfl (by decide) ?_
  refine q_iload_n rfl rfl ?_
  refine q_aload_n rfl rfl ?_
  refine v_sln 6 rfl rfl (by omega) (Nat.le_of_ble_eq_true rfl) (by decide) (by decide) ?_
  refine v_ic_ge_f (t := 31) rfl (by decide) (by decide) ?_
  refine q_iload_n rfl rfl ?_
  refine q_iconst rfl ?_
  refine v_ishlc (v := 0) rfl (by decide) ?_
  refine q_aload_n rfl rfl ?_
  refine q_iload_n rfl rfl ?_
  refine v_sch 99 rfl rfl (by omega) (Nat.le_of_ble_eq_true rfl) (by decide) (by decide) (by decide) ?_
  refine v_bip rfl (by decide) ?_
  refine v_isub (v := 3) rfl (by decide) ?_
  refine v_iorc (v := 3) rfl (by decide) ?_
  refine q_istore_n rfl (by decide) ?_
  refine v_iinc (v := 1) rfl rfl (by decide) (by decide) ?_
  refine q_goto (t := 4) rfl (by decide) ?_
  refine q_iload_n rfl rfl ?_
  refine q_aload_n rfl rfl ?_
  refine v_sln 6 rfl rfl (by omega) (Nat.le_of_ble_eq_true rfl) (by decide) (by decide) ?_
  refine v_ic_ge_f (t := 31) rfl (by decide) (by decide) ?_
  refine q_iload_n rfl rfl ?_
  refine q_iconst rfl ?_
  refine v_ishlc (v := 96) rfl (by decide) ?_
  refine q_aload_n rfl rfl ?_
  refine q_iload_n rfl rfl ?_
  refine v_sch 111 rfl rfl (by omega) (Nat.le_of_ble_eq_true rfl) (by decide) (by decide) (by decide) ?_
  refine v_bip rfl (by decide) ?_
  refine v_isub (v := 15) rfl (by decide) ?_
  refine v_iorc (v := 111) rfl (by decide) ?_
  refine q_istore_n rfl (by decide) ?_
  refine Wp_ls [(1, vi 111), (2, vi 1), (0, .ref (a_SB + 24))] (lsub_cons rfl (lsub_cons rfl (lsub_cons rfl lsub_nil))) ?_
  refine v_iinc (v := 2) rfl rfl (by decide) (by decide) ?_
  refine q_goto (t := 4) rfl (by decide) ?_
  refine q_iload_n rfl rfl ?_
  refine q_aload_n rfl rfl ?_
  refine v_sln 6 rfl rfl (by omega) (Nat.le_of_ble_eq_true rfl) (by decide) (by decide) ?_
  refine v_ic_ge_f (t := 31) rfl (by decide) (by decide) ?_
  refine q_iload_n rfl rfl ?_
  refine q_iconst rfl ?_
  refine v_ishlc (v := 3552) rfl (by decide) ?_
  refine q_aload_n rfl rfl ?_
  refine q_iload_n rfl rfl ?_
  refine v_sch 97 rfl rfl (by omega) (Nat.le_of_ble_eq_true rfl) (by decide) (by decide) (by decide) ?_
  refine v_bip rfl (by decide) ?_
  refine v_isub (v := 1) rfl (by decide) ?_
  refine v_iorc (v := 3553) rfl (by decide) ?_
  refine q_istore_n rfl (by decide) ?_
  refine v_iinc (v := 3) rfl rfl (by decide) (by decide) ?_
  refine q_goto (t := 4) rfl (by decide) ?_
  refine q_iload_n rfl rfl ?_
  refine q_aload_n rfl rfl ?_
  refine v_sln 6 rfl rfl (by omega) (Nat.le_of_ble_eq_true rfl) (by decide) (by decide) ?_
  refine v_ic_ge_f (t := 31) rfl (by decide) (by decide) ?_
  refine q_iload_n rfl rfl ?_
  refine q_iconst rfl ?_
  refine v_ishlc (v := 113696) rfl (by decide) ?_
  refine q_aload_n rfl rfl ?_
  refine q_iload_n rfl rfl ?_
  refine v_sch 114 rfl rfl (by omega) (Nat.le_of_ble_eq_true rfl) (by decide) (by decide) (by decide) ?_
  refine v_bip rfl (by decide) ?_
  refine v_isub (v := 18) rfl (by decide) ?_
  refine v_iorc (v := 113714) rfl (by decide) ?_
  refine q_istore_n rfl (by decide) ?_
  refine v_iinc (v := 4) rfl rfl (by decide) (by decide) ?_
  refine Wp_ls [(2, vi 4), (1, vi 113714), (0, .ref (a_SB + 24))] (lsub_cons rfl (lsub_cons rfl (lsub_cons rfl lsub_nil))) ?_
  refine q_goto (t := 4) rfl (by decide) ?_
  refine q_iload_n rfl rfl ?_
  refine q_aload_n rfl rfl ?_
  refine v_sln 6 rfl rfl (by omega) (Nat.le_of_ble_eq_true rfl) (by decide) (by decide) ?_
  refine v_ic_ge_f (t := 31) rfl (by decide) (by decide) ?_
  refine q_iload_n rfl rfl ?_
  refine q_iconst rfl ?_
  refine v_ishlc (v := 3638848) rfl (by decide) ?_
  refine q_aload_n rfl rfl ?_
  refine q_iload_n rfl rfl ?_
  refine v_sch 115 rfl rfl (by omega) (Nat.le_of_ble_eq_true rfl) (by decide) (by decide) (by decide) ?_
  refine v_bip rfl (by decide) ?_
  refine v_isub (v := 19) rfl (by decide) ?_
  refine v_iorc (v := 3638867) rfl (by decide) ?_
  refine q_istore_n rfl (by decide) ?_
  refine v_iinc (v := 5) rfl rfl (by decide) (by decide) ?_
  refine q_goto (t := 4) rfl (by decide) ?_
  refine q_iload_n rfl rfl ?_
  refine q_aload_n rfl rfl ?_
  refine v_sln 6 rfl rfl (by omega) (Nat.le_of_ble_eq_true rfl) (by decide) (by decide) ?_
  refine v_ic_ge_f (t := 31) rfl (by decide) (by decide) ?_
  refine q_iload_n rfl rfl ?_
  refine q_iconst rfl ?_
  refine v_ishlc (v := 116443744) rfl (by decide) ?_
  refine q_aload_n rfl rfl ?_
  refine q_iload_n rfl rfl ?_
  refine v_sch 101 rfl rfl (by omega) (Nat.le_of_ble_eq_true rfl) (by decide) (by decide) (by decide) ?_
  refine v_bip rfl (by decide) ?_
  refine v_isub (v := 5) rfl (by decide) ?_
  refine v_iorc (v := 116443749) rfl (by decide) ?_
  refine q_istore_n rfl (by decide) ?_
  refine v_iinc (v := 6) rfl rfl (by decide) (by decide) ?_
  refine q_goto (t := 4) rfl (by decide) ?_
  refine q_iload_n rfl rfl ?_
  refine q_aload_n rfl rfl ?_
  refine v_sln 6 rfl rfl (by omega) (Nat.le_of_ble_eq_true rfl) (by decide) (by decide) ?_
  refine v_ic_ge_t (t := 31) rfl (by decide) (by decide) ?_
  refine q_iload_n rfl rfl ?_
  refine q_iret rfl rfl ?_
  exact K
set_option maxRecDepth 100000 in
set_option maxHeartbeats 4000000 in
theorem s_158_25 {sc : List Int32} {d : Nat} {w : AW} {Z : AR → Prop} (K : Z (.inl (some (vi 284267)), w, 0, 0)) : Wp sc (d + 7) 158 0 [(0, .ref (a_SB + 25))] [] w 0 0 Z := by
  refine q_iconst rfl ?_
  refine q_istore_n rfl (by decide) ?_
  refine q_iconst rfl ?_
  refine q_istore_n rfl (by decide) ?_
  refine q_iload_n rfl rfl ?_
  refine q_aload_n rfl rfl ?_
  refine v_sln 4 rfl rfl (by omega) (Nat.le_of_ble_eq_true rfl) (by decide) (by decide) ?_
  refine v_ic_ge_f (t := 31) rfl (by decide) (by decide) ?_
  refine q_iload_n rfl rfl ?_
  refine q_iconst rfl ?_
  refine v_ishlc (v := 0) rfl (by decide) ?_
  refine q_aload_n rfl rfl ?_
  refine q_iload_n rfl rfl ?_
  refine v_sch 104 rfl rfl (by omega) (Nat.le_of_ble_eq_true rfl) (by decide) (by decide) (by decide) ?_
  refine v_bip rfl (by decide) ?_
  refine v_isub (v := 8) rfl (by decide) ?_
  refine v_iorc (v := 8) rfl (by decide) ?_
  refine q_istore_n rfl (by decide) ?_
  refine v_iinc (v := 1) rfl rfl (by decide) (by decide) ?_
  refine q_goto (t := 4) rfl (by decide) ?_
  refine q_iload_n rfl rfl ?_
  refine q_aload_n rfl rfl ?_
  refine v_sln 4 rfl rfl (by omega) (Nat.le_of_ble_eq_true rfl) (by decide) (by decide) ?_
  refine v_ic_ge_f (t := 31) rfl (by decide) (by decide) ?_
  refine q_iload_n rfl rfl ?_
  refine q_iconst rfl ?_
  refine v_ishlc (v := 256) rfl (by decide) ?_
  refine q_aload_n rfl rfl ?_
  refine q_iload_n rfl rfl ?_
  refine v_sch 117 rfl rfl (by omega) (Nat.le_of_ble_eq_true rfl) (by decide) (by decide) (by decide) ?_
  refine v_bip rfl (by decide) ?_
  refine v_isub (v := 21) rfl (by decide) ?_
  refine v_iorc (v := 277) rfl (by decide) ?_
  refine q_istore_n rfl (by decide) ?_
  refine Wp_ls [(1, vi 277), (2, vi 1), (0, .ref (a_SB + 25))] (lsub_cons rfl (lsub_cons rfl (lsub_cons rfl lsub_nil))) ?_
  refine v_iinc (v := 2) rfl rfl (by decide) (by decide) ?_
  refine q_goto (t := 4) rfl (by decide) ?_
  refine q_iload_n rfl rfl ?_
  refine q_aload_n rfl rfl ?_
  refine v_sln 4 rfl rfl (by omega) (Nat.le_of_ble_eq_true rfl) (by decide) (by decide) ?_
  refine v_ic_ge_f (t := 31) rfl (by decide) (by decide) ?_
  refine q_iload_n rfl rfl ?_
  refine q_iconst rfl ?_
  refine v_ishlc (v := 8864) rfl (by decide) ?_
  refine q_aload_n rfl rfl ?_
  refine q_iload_n rfl rfl ?_
  refine v_sch 115 rfl rfl (by omega) (Nat.le_of_ble_eq_true rfl) (by decide) (by decide) (by decide) ?_
  refine v_bip rfl (by decide) ?_
  refine v_isub (v := 19) rfl (by decide) ?_
  refine v_iorc (v := 8883) rfl (by decide) ?_
  refine q_istore_n rfl (by decide) ?_
  refine v_iinc (v := 3) rfl rfl (by decide) (by decide) ?_
  refine q_goto (t := 4) rfl (by decide) ?_
  refine q_iload_n rfl rfl ?_
  refine q_aload_n rfl rfl ?_
  refine v_sln 4 rfl rfl (by omega) (Nat.le_of_ble_eq_true rfl) (by decide) (by decide) ?_
  refine v_ic_ge_f (t := 31) rfl (by decide) (by decide) ?_
  refine q_iload_n rfl rfl ?_
  refine q_iconst rfl ?_
  refine v_ishlc (v := 284256) rfl (by decide) ?_
  refine q_aload_n rfl rfl ?_
  refine q_iload_n rfl rfl ?_
  refine v_sch 107 rfl rfl (by omega) (Nat.le_of_ble_eq_true rfl) (by decide) (by decide) (by decide) ?_
  refine v_bip rfl (by decide) ?_
  refine v_isub (v := 11) rfl (by decide) ?_
  refine v_iorc (v := 284267) rfl (by decide) ?_
  refine q_istore_n rfl (by decide) ?_
  refine v_iinc (v := 4) rfl rfl (by decide) (by decide) ?_
  refine Wp_ls [(2, vi 4), (1, vi 284267), (0, .ref (a_SB + 25))] (lsub_cons rfl (lsub_cons rfl (lsub_cons rfl lsub_nil))) ?_
  refine q_goto (t := 4) rfl (by decide) ?_
  refine q_iload_n rfl rfl ?_
  refine q_aload_n rfl rfl ?_
  refine v_sln 4 rfl rfl (by omega) (Nat.le_of_ble_eq_true rfl) (by decide) (by decide) ?_
  refine v_ic_ge_t (t := 31) rfl (by decide) (by decide) ?_
  refine q_iload_n rfl rfl ?_
  refine q_iret rfl rfl ?_
  exact K
set_option maxRecDepth 100000 in
set_option maxHeartbeats 4000000 in
theorem s_158_26 {sc : List Int32} {d : Nat} {w : AW} {Z : AR → Prop} (K : Z (.inl (some (vi 1420)), w, 0, 0)) : Wp sc (d + 7) 158 0 [(0, .ref (a_SB + 26))] [] w 0 0 Z := by
  refine q_iconst rfl ?_
  refine q_istore_n rfl (by decide) ?_
  refine q_iconst rfl ?_
  refine q_istore_n rfl (by decide) ?_
  refine q_iload_n rfl rfl ?_
  refine q_aload_n rfl rfl ?_
  refine v_sln 3 rfl rfl (by omega) (Nat.le_of_ble_eq_true rfl) (by decide) (by decide) ?_
  refine v_ic_ge_f (t := 31) rfl (by decide) (by decide) ?_
  refine q_iload_n rfl rfl ?_
  refine q_iconst rfl ?_
  refine v_ishlc (v := 0) rfl (by decide) ?_
  refine q_aload_n rfl rfl ?_
  refine q_iload_n rfl rfl ?_
  refine v_sch 97 rfl rfl (by omega) (Nat.le_of_ble_eq_true rfl) (by decide) (by decide) (by decide) ?_
  refine v_bip rfl (by decide) ?_
  refine v_isub (v := 1) rfl (by decide) ?_
  refine v_iorc (v := 1) rfl (by decide) ?_
  refine q_istore_n rfl (by decide) ?_
  refine v_iinc (v := 1) rfl rfl (by decide) (by decide) ?_
  refine q_goto (t := 4) rfl (by decide) ?_
  refine q_iload_n rfl rfl ?_
  refine q_aload_n rfl rfl ?_
  refine v_sln 3 rfl rfl (by omega) (Nat.le_of_ble_eq_true rfl) (by decide) (by decide) ?_
  refine v_ic_ge_f (t := 31) rfl (by decide) (by decide) ?_
  refine q_iload_n rfl rfl ?_
  refine q_iconst rfl ?_
  refine v_ishlc (v := 32) rfl (by decide) ?_
  refine q_aload_n rfl rfl ?_
  refine q_iload_n rfl rfl ?_
  refine v_sch 108 rfl rfl (by omega) (Nat.le_of_ble_eq_true rfl) (by decide) (by decide) (by decide) ?_
  refine v_bip rfl (by decide) ?_
  refine v_isub (v := 12) rfl (by decide) ?_
  refine v_iorc (v := 44) rfl (by decide) ?_
  refine q_istore_n rfl (by decide) ?_
  refine Wp_ls [(1, vi 44), (2, vi 1), (0, .ref (a_SB + 26))] (lsub_cons rfl (lsub_cons rfl (lsub_cons rfl lsub_nil))) ?_
  refine v_iinc (v := 2) rfl rfl (by decide) (by decide) ?_
  refine q_goto (t := 4) rfl (by decide) ?_
  refine q_iload_n rfl rfl ?_
  refine q_aload_n rfl rfl ?_
  refine v_sln 3 rfl rfl (by omega) (Nat.le_of_ble_eq_true rfl) (by decide) (by decide) ?_
  refine v_ic_ge_f (t := 31) rfl (by decide) (by decide) ?_
  refine q_iload_n rfl rfl ?_
  refine q_iconst rfl ?_
  refine v_ishlc (v := 1408) rfl (by decide) ?_
  refine q_aload_n rfl rfl ?_
  refine q_iload_n rfl rfl ?_
  refine v_sch 108 rfl rfl (by omega) (Nat.le_of_ble_eq_true rfl) (by decide) (by decide) (by decide) ?_
  refine v_bip rfl (by decide) ?_
  refine v_isub (v := 12) rfl (by decide) ?_
  refine v_iorc (v := 1420) rfl (by decide) ?_
  refine q_istore_n rfl (by decide) ?_
  refine v_iinc (v := 3) rfl rfl (by decide) (by decide) ?_
  refine q_goto (t := 4) rfl (by decide) ?_
  refine q_iload_n rfl rfl ?_
  refine q_aload_n rfl rfl ?_
  refine v_sln 3 rfl rfl (by omega) (Nat.le_of_ble_eq_true rfl) (by decide) (by decide) ?_
  refine v_ic_ge_t (t := 31) rfl (by decide) (by decide) ?_
  refine q_iload_n rfl rfl ?_
  refine q_iret rfl rfl ?_
  exact K
set_option maxRecDepth 100000 in
set_option maxHeartbeats 4000000 in
theorem s_158_27 {sc : List Int32} {d : Nat} {w : AW} {Z : AR → Prop} (K : Z (.inl (some (vi 1253)), w, 0, 0)) : Wp sc (d + 7) 158 0 [(0, .ref (a_SB + 27))] [] w 0 0 Z := by
  refine q_iconst rfl ?_
  refine q_istore_n rfl (by decide) ?_
  refine q_iconst rfl ?_
  refine q_istore_n rfl (by decide) ?_
  refine q_iload_n rfl rfl ?_
  refine q_aload_n rfl rfl ?_
  refine v_sln 3 rfl rfl (by omega) (Nat.le_of_ble_eq_true rfl) (by decide) (by decide) ?_
  refine v_ic_ge_f (t := 31) rfl (by decide) (by decide) ?_
  refine q_iload_n rfl rfl ?_
  refine q_iconst rfl ?_
  refine v_ishlc (v := 0) rfl (by decide) ?_
  refine q_aload_n rfl rfl ?_
  refine q_iload_n rfl rfl ?_
  refine v_sch 97 rfl rfl (by omega) (Nat.le_of_ble_eq_true rfl) (by decide) (by decide) (by decide) ?_
  refine v_bip rfl (by decide) ?_
  refine v_isub (v := 1) rfl (by decide) ?_
  refine v_iorc (v := 1) rfl (by decide) ?_
  refine q_istore_n rfl (by decide) ?_
  refine v_iinc (v := 1) rfl rfl (by decide) (by decide) ?_
  refine q_goto (t := 4) rfl (by decide) ?_
  refine q_iload_n rfl rfl ?_
  refine q_aload_n rfl rfl ?_
  refine v_sln 3 rfl rfl (by omega) (Nat.le_of_ble_eq_true rfl) (by decide) (by decide) ?_
  refine v_ic_ge_f (t := 31) rfl (by decide) (by decide) ?_
  refine q_iload_n rfl rfl ?_
  refine q_iconst rfl ?_
  refine v_ishlc (v := 32) rfl (by decide) ?_
  refine q_aload_n rfl rfl ?_
  refine q_iload_n rfl rfl ?_
  refine v_sch 103 rfl rfl (by omega) (Nat.le_of_ble_eq_true rfl) (by decide) (by decide) (by decide) ?_
  refine v_bip rfl (by decide) ?_
  refine v_isub (v := 7) rfl (by decide) ?_
  refine v_iorc (v := 39) rfl (by decide) ?_
  refine q_istore_n rfl (by decide) ?_
  refine Wp_ls [(1, vi 39), (2, vi 1), (0, .ref (a_SB + 27))] (lsub_cons rfl (lsub_cons rfl (lsub_cons rfl lsub_nil))) ?_
  refine v_iinc (v := 2) rfl rfl (by decide) (by decide) ?_
  refine q_goto (t := 4) rfl (by decide) ?_
  refine q_iload_n rfl rfl ?_
  refine q_aload_n rfl rfl ?_
  refine v_sln 3 rfl rfl (by omega) (Nat.le_of_ble_eq_true rfl) (by decide) (by decide) ?_
  refine v_ic_ge_f (t := 31) rfl (by decide) (by decide) ?_
  refine q_iload_n rfl rfl ?_
  refine q_iconst rfl ?_
  refine v_ishlc (v := 1248) rfl (by decide) ?_
  refine q_aload_n rfl rfl ?_
  refine q_iload_n rfl rfl ?_
  refine v_sch 101 rfl rfl (by omega) (Nat.le_of_ble_eq_true rfl) (by decide) (by decide) (by decide) ?_
  refine v_bip rfl (by decide) ?_
  refine v_isub (v := 5) rfl (by decide) ?_
  refine v_iorc (v := 1253) rfl (by decide) ?_
  refine q_istore_n rfl (by decide) ?_
  refine v_iinc (v := 3) rfl rfl (by decide) (by decide) ?_
  refine q_goto (t := 4) rfl (by decide) ?_
  refine q_iload_n rfl rfl ?_
  refine q_aload_n rfl rfl ?_
  refine v_sln 3 rfl rfl (by omega) (Nat.le_of_ble_eq_true rfl) (by decide) (by decide) ?_
  refine v_ic_ge_t (t := 31) rfl (by decide) (by decide) ?_
  refine q_iload_n rfl rfl ?_
  refine q_iret rfl rfl ?_
  exact K
set_option maxRecDepth 100000 in
set_option maxHeartbeats 4000000 in
theorem s_158_28 {sc : List Int32} {d : Nat} {w : AW} {Z : AR → Prop} (K : Z (.inl (some (vi 4153)), w, 0, 0)) : Wp sc (d + 7) 158 0 [(0, .ref (a_SB + 28))] [] w 0 0 Z := by
  refine q_iconst rfl ?_
  refine q_istore_n rfl (by decide) ?_
  refine q_iconst rfl ?_
  refine q_istore_n rfl (by decide) ?_
  refine q_iload_n rfl rfl ?_
  refine q_aload_n rfl rfl ?_
  refine v_sln 3 rfl rfl (by omega) (Nat.le_of_ble_eq_true rfl) (by decide) (by decide) ?_
  refine v_ic_ge_f (t := 31) rfl (by decide) (by decide) ?_
  refine q_iload_n rfl rfl ?_
  refine q_iconst rfl ?_
  refine v_ishlc (v := 0) rfl (by decide) ?_
  refine q_aload_n rfl rfl ?_
  refine q_iload_n rfl rfl ?_
  refine v_sch 100 rfl rfl (by omega) (Nat.le_of_ble_eq_true rfl) (by decide) (by decide) (by decide) ?_
  refine v_bip rfl (by decide) ?_
  refine v_isub (v := 4) rfl (by decide) ?_
  refine v_iorc (v := 4) rfl (by decide) ?_
  refine q_istore_n rfl (by decide) ?_
  refine v_iinc (v := 1) rfl rfl (by decide) (by decide) ?_
  refine q_goto (t := 4) rfl (by decide) ?_
  refine q_iload_n rfl rfl ?_
  refine q_aload_n rfl rfl ?_
  refine v_sln 3 rfl rfl (by omega) (Nat.le_of_ble_eq_true rfl) (by decide) (by decide) ?_
  refine v_ic_ge_f (t := 31) rfl (by decide) (by decide) ?_
  refine q_iload_n rfl rfl ?_
  refine q_iconst rfl ?_
  refine v_ishlc (v := 128) rfl (by decide) ?_
  refine q_aload_n rfl rfl ?_
  refine q_iload_n rfl rfl ?_
  refine v_sch 97 rfl rfl (by omega) (Nat.le_of_ble_eq_true rfl) (by decide) (by decide) (by decide) ?_
  refine v_bip rfl (by decide) ?_
  refine v_isub (v := 1) rfl (by decide) ?_
  refine v_iorc (v := 129) rfl (by decide) ?_
  refine q_istore_n rfl (by decide) ?_
  refine Wp_ls [(1, vi 129), (2, vi 1), (0, .ref (a_SB + 28))] (lsub_cons rfl (lsub_cons rfl (lsub_cons rfl lsub_nil))) ?_
  refine v_iinc (v := 2) rfl rfl (by decide) (by decide) ?_
  refine q_goto (t := 4) rfl (by decide) ?_
  refine q_iload_n rfl rfl ?_
  refine q_aload_n rfl rfl ?_
  refine v_sln 3 rfl rfl (by omega) (Nat.le_of_ble_eq_true rfl) (by decide) (by decide) ?_
  refine v_ic_ge_f (t := 31) rfl (by decide) (by decide) ?_
  refine q_iload_n rfl rfl ?_
  refine q_iconst rfl ?_
  refine v_ishlc (v := 4128) rfl (by decide) ?_
  refine q_aload_n rfl rfl ?_
  refine q_iload_n rfl rfl ?_
  refine v_sch 121 rfl rfl (by omega) (Nat.le_of_ble_eq_true rfl) (by decide) (by decide) (by decide) ?_
  refine v_bip rfl (by decide) ?_
  refine v_isub (v := 25) rfl (by decide) ?_
  refine v_iorc (v := 4153) rfl (by decide) ?_
  refine q_istore_n rfl (by decide) ?_
  refine v_iinc (v := 3) rfl rfl (by decide) (by decide) ?_
  refine q_goto (t := 4) rfl (by decide) ?_
  refine q_iload_n rfl rfl ?_
  refine q_aload_n rfl rfl ?_
  refine v_sln 3 rfl rfl (by omega) (Nat.le_of_ble_eq_true rfl) (by decide) (by decide) ?_
  refine v_ic_ge_t (t := 31) rfl (by decide) (by decide) ?_
  refine q_iload_n rfl rfl ?_
  refine q_iret rfl rfl ?_
  exact K
set_option maxRecDepth 100000 in
set_option maxHeartbeats 4000000 in
theorem s_158_29 {sc : List Int32} {d : Nat} {w : AW} {Z : AR → Prop} (K : Z (.inl (some (vi 7939524)), w, 0, 0)) : Wp sc (d + 7) 158 0 [(0, .ref (a_SB + 29))] [] w 0 0 Z := by
  refine q_iconst rfl ?_
  refine q_istore_n rfl (by decide) ?_
  refine q_iconst rfl ?_
  refine q_istore_n rfl (by decide) ?_
  refine q_iload_n rfl rfl ?_
  refine q_aload_n rfl rfl ?_
  refine v_sln 5 rfl rfl (by omega) (Nat.le_of_ble_eq_true rfl) (by decide) (by decide) ?_
  refine v_ic_ge_f (t := 31) rfl (by decide) (by decide) ?_
  refine q_iload_n rfl rfl ?_
  refine q_iconst rfl ?_
  refine v_ishlc (v := 0) rfl (by decide) ?_
  refine q_aload_n rfl rfl ?_
  refine q_iload_n rfl rfl ?_
  refine v_sch 103 rfl rfl (by omega) (Nat.le_of_ble_eq_true rfl) (by decide) (by decide) (by decide) ?_
  refine v_bip rfl (by decide) ?_
  refine v_isub (v := 7) rfl (by decide) ?_
  refine v_iorc (v := 7) rfl (by decide) ?_
  refine q_istore_n rfl (by decide) ?_
  refine v_iinc (v := 1) rfl rfl (by decide) (by decide) ?_
  refine q_goto (t := 4) rfl (by decide) ?_
  refine q_iload_n rfl rfl ?_
  refine q_aload_n rfl rfl ?_
  refine v_sln 5 rfl rfl (by omega) (Nat.le_of_ble_eq_true rfl) (by decide) (by decide) ?_
  refine v_ic_ge_f (t := 31) rfl (by decide) (by decide) ?_
  refine q_iload_n rfl rfl ?_
  refine q_iconst rfl ?_
  refine v_ishlc (v := 224) rfl (by decide) ?_
  refine q_aload_n rfl rfl ?_
  refine q_iload_n rfl rfl ?_
  refine v_sch 114 rfl rfl (by omega) (Nat.le_of_ble_eq_true rfl) (by decide) (by decide) (by decide) ?_
  refine v_bip rfl (by decide) ?_
  refine v_isub (v := 18) rfl (by decide) ?_
  refine v_iorc (v := 242) rfl (by decide) ?_
  refine q_istore_n rfl (by decide) ?_
  refine Wp_ls [(1, vi 242), (2, vi 1), (0, .ref (a_SB + 29))] (lsub_cons rfl (lsub_cons rfl (lsub_cons rfl lsub_nil))) ?_
  refine v_iinc (v := 2) rfl rfl (by decide) (by decide) ?_
  refine q_goto (t := 4) rfl (by decide) ?_
  refine q_iload_n rfl rfl ?_
  refine q_aload_n rfl rfl ?_
  refine v_sln 5 rfl rfl (by omega) (Nat.le_of_ble_eq_true rfl) (by decide) (by decide) ?_
  refine v_ic_ge_f (t := 31) rfl (by decide) (by decide) ?_
  refine q_iload_n rfl rfl ?_
  refine q_iconst rfl ?_
  refine v_ishlc (v := 7744) rfl (by decide) ?_
  refine q_aload_n rfl rfl ?_
  refine q_iload_n rfl rfl ?_
  refine v_sch 105 rfl rfl (by omega) (Nat.le_of_ble_eq_true rfl) (by decide) (by decide) (by decide) ?_
  refine v_bip rfl (by decide) ?_
  refine v_isub (v := 9) rfl (by decide) ?_
  refine v_iorc (v := 7753) rfl (by decide) ?_
  refine q_istore_n rfl (by decide) ?_
  refine v_iinc (v := 3) rfl rfl (by decide) (by decide) ?_
  refine q_goto (t := 4) rfl (by decide) ?_
  refine q_iload_n rfl rfl ?_
  refine q_aload_n rfl rfl ?_
  refine v_sln 5 rfl rfl (by omega) (Nat.le_of_ble_eq_true rfl) (by decide) (by decide) ?_
  refine v_ic_ge_f (t := 31) rfl (by decide) (by decide) ?_
  refine q_iload_n rfl rfl ?_
  refine q_iconst rfl ?_
  refine v_ishlc (v := 248096) rfl (by decide) ?_
  refine q_aload_n rfl rfl ?_
  refine q_iload_n rfl rfl ?_
  refine v_sch 110 rfl rfl (by omega) (Nat.le_of_ble_eq_true rfl) (by decide) (by decide) (by decide) ?_
  refine v_bip rfl (by decide) ?_
  refine v_isub (v := 14) rfl (by decide) ?_
  refine v_iorc (v := 248110) rfl (by decide) ?_
  refine q_istore_n rfl (by decide) ?_
  refine v_iinc (v := 4) rfl rfl (by decide) (by decide) ?_
  refine Wp_ls [(2, vi 4), (1, vi 248110), (0, .ref (a_SB + 29))] (lsub_cons rfl (lsub_cons rfl (lsub_cons rfl lsub_nil))) ?_
  refine q_goto (t := 4) rfl (by decide) ?_
  refine q_iload_n rfl rfl ?_
  refine q_aload_n rfl rfl ?_
  refine v_sln 5 rfl rfl (by omega) (Nat.le_of_ble_eq_true rfl) (by decide) (by decide) ?_
  refine v_ic_ge_f (t := 31) rfl (by decide) (by decide) ?_
  refine q_iload_n rfl rfl ?_
  refine q_iconst rfl ?_
  refine v_ishlc (v := 7939520) rfl (by decide) ?_
  refine q_aload_n rfl rfl ?_
  refine q_iload_n rfl rfl ?_
  refine v_sch 100 rfl rfl (by omega) (Nat.le_of_ble_eq_true rfl) (by decide) (by decide) (by decide) ?_
  refine v_bip rfl (by decide) ?_
  refine v_isub (v := 4) rfl (by decide) ?_
  refine v_iorc (v := 7939524) rfl (by decide) ?_
  refine q_istore_n rfl (by decide) ?_
  refine v_iinc (v := 5) rfl rfl (by decide) (by decide) ?_
  refine q_goto (t := 4) rfl (by decide) ?_
  refine q_iload_n rfl rfl ?_
  refine q_aload_n rfl rfl ?_
  refine v_sln 5 rfl rfl (by omega) (Nat.le_of_ble_eq_true rfl) (by decide) (by decide) ?_
  refine v_ic_ge_t (t := 31) rfl (by decide) (by decide) ?_
  refine q_iload_n rfl rfl ?_
  refine q_iret rfl rfl ?_
  exact K
set_option maxRecDepth 100000 in
set_option maxHeartbeats 4000000 in
theorem s_158_30 {sc : List Int32} {d : Nat} {w : AW} {Z : AR → Prop} (K : Z (.inl (some (vi 632020)), w, 0, 0)) : Wp sc (d + 7) 158 0 [(0, .ref (a_SB + 30))] [] w 0 0 Z := by
  refine q_iconst rfl ?_
  refine q_istore_n rfl (by decide) ?_
  refine q_iconst rfl ?_
  refine q_istore_n rfl (by decide) ?_
  refine q_iload_n rfl rfl ?_
  refine q_aload_n rfl rfl ?_
  refine v_sln 4 rfl rfl (by omega) (Nat.le_of_ble_eq_true rfl) (by decide) (by decide) ?_
  refine v_ic_ge_f (t := 31) rfl (by decide) (by decide) ?_
  refine q_iload_n rfl rfl ?_
  refine q_iconst rfl ?_
  refine v_ishlc (v := 0) rfl (by decide) ?_
  refine q_aload_n rfl rfl ?_
  refine q_iload_n rfl rfl ?_
  refine v_sch 115 rfl rfl (by omega) (Nat.le_of_ble_eq_true rfl) (by decide) (by decide) (by decide) ?_
  refine v_bip rfl (by decide) ?_
  refine v_isub (v := 19) rfl (by decide) ?_
  refine v_iorc (v := 19) rfl (by decide) ?_
  refine q_istore_n rfl (by decide) ?_
  refine v_iinc (v := 1) rfl rfl (by decide) (by decide) ?_
  refine q_goto (t := 4) rfl (by decide) ?_
  refine q_iload_n rfl rfl ?_
  refine q_aload_n rfl rfl ?_
  refine v_sln 4 rfl rfl (by omega) (Nat.le_of_ble_eq_true rfl) (by decide) (by decide) ?_
  refine v_ic_ge_f (t := 31) rfl (by decide) (by decide) ?_
  refine q_iload_n rfl rfl ?_
  refine q_iconst rfl ?_
  refine v_ishlc (v := 608) rfl (by decide) ?_
  refine q_aload_n rfl rfl ?_
  refine q_iload_n rfl rfl ?_
  refine v_sch 105 rfl rfl (by omega) (Nat.le_of_ble_eq_true rfl) (by decide) (by decide) (by decide) ?_
  refine v_bip rfl (by decide) ?_
  refine v_isub (v := 9) rfl (by decide) ?_
  refine v_iorc (v := 617) rfl (by decide) ?_
  refine q_istore_n rfl (by decide) ?_
  refine Wp_ls [(1, vi 617), (2, vi 1), (0, .ref (a_SB + 30))] (lsub_cons rfl (lsub_cons rfl (lsub_cons rfl lsub_nil))) ?_
  refine v_iinc (v := 2) rfl rfl (by decide) (by decide) ?_
  refine q_goto (t := 4) rfl (by decide) ?_
  refine q_iload_n rfl rfl ?_
  refine q_aload_n rfl rfl ?_
  refine v_sln 4 rfl rfl (by omega) (Nat.le_of_ble_eq_true rfl) (by decide) (by decide) ?_
  refine v_ic_ge_f (t := 31) rfl (by decide) (by decide) ?_
  refine q_iload_n rfl rfl ?_
  refine q_iconst rfl ?_
  refine v_ishlc (v := 19744) rfl (by decide) ?_
  refine q_aload_n rfl rfl ?_
  refine q_iload_n rfl rfl ?_
  refine v_sch 102 rfl rfl (by omega) (Nat.le_of_ble_eq_true rfl) (by decide) (by decide) (by decide) ?_
  refine v_bip rfl (by decide) ?_
  refine v_isub (v := 6) rfl (by decide) ?_
  refine v_iorc (v := 19750) rfl (by decide) ?_
  refine q_istore_n rfl (by decide) ?_
  refine v_iinc (v := 3) rfl rfl (by decide) (by decide) ?_
  refine q_goto (t := 4) rfl (by decide) ?_
  refine q_iload_n rfl rfl ?_
  refine q_aload_n rfl rfl ?_
  refine v_sln 4 rfl rfl (by omega) (Nat.le_of_ble_eq_true rfl) (by decide) (by decide) ?_
  refine v_ic_ge_f (t := 31) rfl (by decide) (by decide) ?_
  refine q_iload_n rfl rfl ?_
  refine q_iconst rfl ?_
  refine v_ishlc (v := 632000) rfl (by decide) ?_
  refine q_aload_n rfl rfl ?_
  refine q_iload_n rfl rfl ?_
  refine v_sch 116 rfl rfl (by omega) (Nat.le_of_ble_eq_true rfl) (by decide) (by decide) (by decide) ?_
  refine v_bip rfl (by decide) ?_
  refine v_isub (v := 20) rfl (by decide) ?_
  refine v_iorc (v := 632020) rfl (by decide) ?_
  refine q_istore_n rfl (by decide) ?_
  refine v_iinc (v := 4) rfl rfl (by decide) (by decide) ?_
  refine Wp_ls [(2, vi 4), (1, vi 632020), (0, .ref (a_SB + 30))] (lsub_cons rfl (lsub_cons rfl (lsub_cons rfl lsub_nil))) ?_
  refine q_goto (t := 4) rfl (by decide) ?_
  refine q_iload_n rfl rfl ?_
  refine q_aload_n rfl rfl ?_
  refine v_sln 4 rfl rfl (by omega) (Nat.le_of_ble_eq_true rfl) (by decide) (by decide) ?_
  refine v_ic_ge_t (t := 31) rfl (by decide) (by decide) ?_
  refine q_iload_n rfl rfl ?_
  refine q_iret rfl rfl ?_
  exact K
set_option maxRecDepth 100000 in
set_option maxHeartbeats 4000000 in
theorem s_158_31 {sc : List Int32} {d : Nat} {w : AW} {Z : AR → Prop} (K : Z (.inl (some (vi 540338)), w, 0, 0)) : Wp sc (d + 7) 158 0 [(0, .ref (a_SB + 31))] [] w 0 0 Z := by
  refine q_iconst rfl ?_
  refine q_istore_n rfl (by decide) ?_
  refine q_iconst rfl ?_
  refine q_istore_n rfl (by decide) ?_
  refine q_iload_n rfl rfl ?_
  refine q_aload_n rfl rfl ?_
  refine v_sln 4 rfl rfl (by omega) (Nat.le_of_ble_eq_true rfl) (by decide) (by decide) ?_
  refine v_ic_ge_f (t := 31) rfl (by decide) (by decide) ?_
  refine q_iload_n rfl rfl ?_
  refine q_iconst rfl ?_
  refine v_ishlc (v := 0) rfl (by decide) ?_
  refine q_aload_n rfl rfl ?_
  refine q_iload_n rfl rfl ?_
  refine v_sch 112 rfl rfl (by omega) (Nat.le_of_ble_eq_true rfl) (by decide) (by decide) (by decide) ?_
  refine v_bip rfl (by decide) ?_
  refine v_isub (v := 16) rfl (by decide) ?_
  refine v_iorc (v := 16) rfl (by decide) ?_
  refine q_istore_n rfl (by decide) ?_
  refine v_iinc (v := 1) rfl rfl (by decide) (by decide) ?_
  refine q_goto (t := 4) rfl (by decide) ?_
  refine q_iload_n rfl rfl ?_
  refine q_aload_n rfl rfl ?_
  refine v_sln 4 rfl rfl (by omega) (Nat.le_of_ble_eq_true rfl) (by decide) (by decide) ?_
  refine v_ic_ge_f (t := 31) rfl (by decide) (by decide) ?_
  refine q_iload_n rfl rfl ?_
  refine q_iconst rfl ?_
  refine v_ishlc (v := 512) rfl (by decide) ?_
  refine q_aload_n rfl rfl ?_
  refine q_iload_n rfl rfl ?_
  refine v_sch 111 rfl rfl (by omega) (Nat.le_of_ble_eq_true rfl) (by decide) (by decide) (by decide) ?_
  refine v_bip rfl (by decide) ?_
  refine v_isub (v := 15) rfl (by decide) ?_
  refine v_iorc (v := 527) rfl (by decide) ?_
  refine q_istore_n rfl (by decide) ?_
  refine Wp_ls [(1, vi 527), (2, vi 1), (0, .ref (a_SB + 31))] (lsub_cons rfl (lsub_cons rfl (lsub_cons rfl lsub_nil))) ?_
  refine v_iinc (v := 2) rfl rfl (by decide) (by decide) ?_
  refine q_goto (t := 4) rfl (by decide) ?_
  refine q_iload_n rfl rfl ?_
  refine q_aload_n rfl rfl ?_
  refine v_sln 4 rfl rfl (by omega) (Nat.le_of_ble_eq_true rfl) (by decide) (by decide) ?_
  refine v_ic_ge_f (t := 31) rfl (by decide) (by decide) ?_
  refine q_iload_n rfl rfl ?_
  refine q_iconst rfl ?_
  refine v_ishlc (v := 16864) rfl (by decide) ?_
  refine q_aload_n rfl rfl ?_
  refine q_iload_n rfl rfl ?_
  refine v_sch 117 rfl rfl (by omega) (Nat.le_of_ble_eq_true rfl) (by decide) (by decide) (by decide) ?_
  refine v_bip rfl (by decide) ?_
  refine v_isub (v := 21) rfl (by decide) ?_
  refine v_iorc (v := 16885) rfl (by decide) ?_
  refine q_istore_n rfl (by decide) ?_
  refine v_iinc (v := 3) rfl rfl (by decide) (by decide) ?_
  refine q_goto (t := 4) rfl (by decide) ?_
  refine q_iload_n rfl rfl ?_
  refine q_aload_n rfl rfl ?_
  refine v_sln 4 rfl rfl (by omega) (Nat.le_of_ble_eq_true rfl) (by decide) (by decide) ?_
  refine v_ic_ge_f (t := 31) rfl (by decide) (by decide) ?_
  refine q_iload_n rfl rfl ?_
  refine q_iconst rfl ?_
  refine v_ishlc (v := 540320) rfl (by decide) ?_
  refine q_aload_n rfl rfl ?_
  refine q_iload_n rfl rfl ?_
  refine v_sch 114 rfl rfl (by omega) (Nat.le_of_ble_eq_true rfl) (by decide) (by decide) (by decide) ?_
  refine v_bip rfl (by decide) ?_
  refine v_isub (v := 18) rfl (by decide) ?_
  refine v_iorc (v := 540338) rfl (by decide) ?_
  refine q_istore_n rfl (by decide) ?_
  refine v_iinc (v := 4) rfl rfl (by decide) (by decide) ?_
  refine Wp_ls [(2, vi 4), (1, vi 540338), (0, .ref (a_SB + 31))] (lsub_cons rfl (lsub_cons rfl (lsub_cons rfl lsub_nil))) ?_
  refine q_goto (t := 4) rfl (by decide) ?_
  refine q_iload_n rfl rfl ?_
  refine q_aload_n rfl rfl ?_
  refine v_sln 4 rfl rfl (by omega) (Nat.le_of_ble_eq_true rfl) (by decide) (by decide) ?_
  refine v_ic_ge_t (t := 31) rfl (by decide) (by decide) ?_
  refine q_iload_n rfl rfl ?_
  refine q_iret rfl rfl ?_
  exact K
set_option maxRecDepth 100000 in
set_option maxHeartbeats 4000000 in
theorem s_158_32 {sc : List Int32} {d : Nat} {w : AW} {Z : AR → Prop} (K : Z (.inl (some (vi 20037104)), w, 0, 0)) : Wp sc (d + 7) 158 0 [(0, .ref (a_SB + 32))] [] w 0 0 Z := by
  refine q_iconst rfl ?_
  refine q_istore_n rfl (by decide) ?_
  refine q_iconst rfl ?_
  refine q_istore_n rfl (by decide) ?_
  refine q_iload_n rfl rfl ?_
  refine q_aload_n rfl rfl ?_
  refine v_sln 5 rfl rfl (by omega) (Nat.le_of_ble_eq_true rfl) (by decide) (by decide) ?_
  refine v_ic_ge_f (t := 31) rfl (by decide) (by decide) ?_
  refine q_iload_n rfl rfl ?_
  refine q_iconst rfl ?_
  refine v_ishlc (v := 0) rfl (by decide) ?_
  refine q_aload_n rfl rfl ?_
  refine q_iload_n rfl rfl ?_
  refine v_sch 115 rfl rfl (by omega) (Nat.le_of_ble_eq_true rfl) (by decide) (by decide) (by decide) ?_
  refine v_bip rfl (by decide) ?_
  refine v_isub (v := 19) rfl (by decide) ?_
  refine v_iorc (v := 19) rfl (by decide) ?_
  refine q_istore_n rfl (by decide) ?_
  refine v_iinc (v := 1) rfl rfl (by decide) (by decide) ?_
  refine q_goto (t := 4) rfl (by decide) ?_
  refine q_iload_n rfl rfl ?_
  refine q_aload_n rfl rfl ?_
  refine v_sln 5 rfl rfl (by omega) (Nat.le_of_ble_eq_true rfl) (by decide) (by decide) ?_
  refine v_ic_ge_f (t := 31) rfl (by decide) (by decide) ?_
  refine q_iload_n rfl rfl ?_
  refine q_iconst rfl ?_
  refine v_ishlc (v := 608) rfl (by decide) ?_
  refine q_aload_n rfl rfl ?_
  refine q_iload_n rfl rfl ?_
  refine v_sch 99 rfl rfl (by omega) (Nat.le_of_ble_eq_true rfl) (by decide) (by decide) (by decide) ?_
  refine v_bip rfl (by decide) ?_
  refine v_isub (v := 3) rfl (by decide) ?_
  refine v_iorc (v := 611) rfl (by decide) ?_
  refine q_istore_n rfl (by decide) ?_
  refine Wp_ls [(1, vi 611), (2, vi 1), (0, .ref (a_SB + 32))] (lsub_cons rfl (lsub_cons rfl (lsub_cons rfl lsub_nil))) ?_
  refine v_iinc (v := 2) rfl rfl (by decide) (by decide) ?_
  refine q_goto (t := 4) rfl (by decide) ?_
  refine q_iload_n rfl rfl ?_
  refine q_aload_n rfl rfl ?_
  refine v_sln 5 rfl rfl (by omega) (Nat.le_of_ble_eq_true rfl) (by decide) (by decide) ?_
  refine v_ic_ge_f (t := 31) rfl (by decide) (by decide) ?_
  refine q_iload_n rfl rfl ?_
  refine q_iconst rfl ?_
  refine v_ishlc (v := 19552) rfl (by decide) ?_
  refine q_aload_n rfl rfl ?_
  refine q_iload_n rfl rfl ?_
  refine v_sch 111 rfl rfl (by omega) (Nat.le_of_ble_eq_true rfl) (by decide) (by decide) (by decide) ?_
  refine v_bip rfl (by decide) ?_
  refine v_isub (v := 15) rfl (by decide) ?_
  refine v_iorc (v := 19567) rfl (by decide) ?_
  refine q_istore_n rfl (by decide) ?_
  refine v_iinc (v := 3) rfl rfl (by decide) (by decide) ?_
  refine q_goto (t := 4) rfl (by decide) ?_
  refine q_iload_n rfl rfl ?_
  refine q_aload_n rfl rfl ?_
  refine v_sln 5 rfl rfl (by omega) (Nat.le_of_ble_eq_true rfl) (by decide) (by decide) ?_
  refine v_ic_ge_f (t := 31) rfl (by decide) (by decide) ?_
  refine q_iload_n rfl rfl ?_
  refine q_iconst rfl ?_
  refine v_ishlc (v := 626144) rfl (by decide) ?_
  refine q_aload_n rfl rfl ?_
  refine q_iload_n rfl rfl ?_
  refine v_sch 111 rfl rfl (by omega) (Nat.le_of_ble_eq_true rfl) (by decide) (by decide) (by decide) ?_
  refine v_bip rfl (by decide) ?_
  refine v_isub (v := 15) rfl (by decide) ?_
  refine v_iorc (v := 626159) rfl (by decide) ?_
  refine q_istore_n rfl (by decide) ?_
  refine v_iinc (v := 4) rfl rfl (by decide) (by decide) ?_
  refine Wp_ls [(2, vi 4), (1, vi 626159), (0, .ref (a_SB + 32))] (lsub_cons rfl (lsub_cons rfl (lsub_cons rfl lsub_nil))) ?_
  refine q_goto (t := 4) rfl (by decide) ?_
  refine q_iload_n rfl rfl ?_
  refine q_aload_n rfl rfl ?_
  refine v_sln 5 rfl rfl (by omega) (Nat.le_of_ble_eq_true rfl) (by decide) (by decide) ?_
  refine v_ic_ge_f (t := 31) rfl (by decide) (by decide) ?_
  refine q_iload_n rfl rfl ?_
  refine q_iconst rfl ?_
  refine v_ishlc (v := 20037088) rfl (by decide) ?_
  refine q_aload_n rfl rfl ?_
  refine q_iload_n rfl rfl ?_
  refine v_sch 112 rfl rfl (by omega) (Nat.le_of_ble_eq_true rfl) (by decide) (by decide) (by decide) ?_
  refine v_bip rfl (by decide) ?_
  refine v_isub (v := 16) rfl (by decide) ?_
  refine v_iorc (v := 20037104) rfl (by decide) ?_
  refine q_istore_n rfl (by decide) ?_
  refine v_iinc (v := 5) rfl rfl (by decide) (by decide) ?_
  refine q_goto (t := 4) rfl (by decide) ?_
  refine q_iload_n rfl rfl ?_
  refine q_aload_n rfl rfl ?_
  refine v_sln 5 rfl rfl (by omega) (Nat.le_of_ble_eq_true rfl) (by decide) (by decide) ?_
  refine v_ic_ge_t (t := 31) rfl (by decide) (by decide) ?_
  refine q_iload_n rfl rfl ?_
  refine q_iret rfl rfl ?_
  exact K
set_option maxRecDepth 100000 in
set_option maxHeartbeats 4000000 in
theorem s_158_33 {sc : List Int32} {d : Nat} {w : AW} {Z : AR → Prop} (K : Z (.inl (some (vi 660530)), w, 0, 0)) : Wp sc (d + 7) 158 0 [(0, .ref (a_SB + 33))] [] w 0 0 Z := by
  refine q_iconst rfl ?_
  refine q_istore_n rfl (by decide) ?_
  refine q_iconst rfl ?_
  refine q_istore_n rfl (by decide) ?_
  refine q_iload_n rfl rfl ?_
  refine q_aload_n rfl rfl ?_
  refine v_sln 4 rfl rfl (by omega) (Nat.le_of_ble_eq_true rfl) (by decide) (by decide) ?_
  refine v_ic_ge_f (t := 31) rfl (by decide) (by decide) ?_
  refine q_iload_n rfl rfl ?_
  refine q_iconst rfl ?_
  refine v_ishlc (v := 0) rfl (by decide) ?_
  refine q_aload_n rfl rfl ?_
  refine q_iload_n rfl rfl ?_
  refine v_sch 116 rfl rfl (by omega) (Nat.le_of_ble_eq_true rfl) (by decide) (by decide) (by decide) ?_
  refine v_bip rfl (by decide) ?_
  refine v_isub (v := 20) rfl (by decide) ?_
  refine v_iorc (v := 20) rfl (by decide) ?_
  refine q_istore_n rfl (by decide) ?_
  refine v_iinc (v := 1) rfl rfl (by decide) (by decide) ?_
  refine q_goto (t := 4) rfl (by decide) ?_
  refine q_iload_n rfl rfl ?_
  refine q_aload_n rfl rfl ?_
  refine v_sln 4 rfl rfl (by omega) (Nat.le_of_ble_eq_true rfl) (by decide) (by decide) ?_
  refine v_ic_ge_f (t := 31) rfl (by decide) (by decide) ?_
  refine q_iload_n rfl rfl ?_
  refine q_iconst rfl ?_
  refine v_ishlc (v := 640) rfl (by decide) ?_
  refine q_aload_n rfl rfl ?_
  refine q_iload_n rfl rfl ?_
  refine v_sch 101 rfl rfl (by omega) (Nat.le_of_ble_eq_true rfl) (by decide) (by decide) (by decide) ?_
  refine v_bip rfl (by decide) ?_
  refine v_isub (v := 5) rfl (by decide) ?_
  refine v_iorc (v := 645) rfl (by decide) ?_
  refine q_istore_n rfl (by decide) ?_
  refine Wp_ls [(1, vi 645), (2, vi 1), (0, .ref (a_SB + 33))] (lsub_cons rfl (lsub_cons rfl (lsub_cons rfl lsub_nil))) ?_
  refine v_iinc (v := 2) rfl rfl (by decide) (by decide) ?_
  refine q_goto (t := 4) rfl (by decide) ?_
  refine q_iload_n rfl rfl ?_
  refine q_aload_n rfl rfl ?_
  refine v_sln 4 rfl rfl (by omega) (Nat.le_of_ble_eq_true rfl) (by decide) (by decide) ?_
  refine v_ic_ge_f (t := 31) rfl (by decide) (by decide) ?_
  refine q_iload_n rfl rfl ?_
  refine q_iconst rfl ?_
  refine v_ishlc (v := 20640) rfl (by decide) ?_
  refine q_aload_n rfl rfl ?_
  refine q_iload_n rfl rfl ?_
  refine v_sch 97 rfl rfl (by omega) (Nat.le_of_ble_eq_true rfl) (by decide) (by decide) (by decide) ?_
  refine v_bip rfl (by decide) ?_
  refine v_isub (v := 1) rfl (by decide) ?_
  refine v_iorc (v := 20641) rfl (by decide) ?_
  refine q_istore_n rfl (by decide) ?_
  refine v_iinc (v := 3) rfl rfl (by decide) (by decide) ?_
  refine q_goto (t := 4) rfl (by decide) ?_
  refine q_iload_n rfl rfl ?_
  refine q_aload_n rfl rfl ?_
  refine v_sln 4 rfl rfl (by omega) (Nat.le_of_ble_eq_true rfl) (by decide) (by decide) ?_
  refine v_ic_ge_f (t := 31) rfl (by decide) (by decide) ?_
  refine q_iload_n rfl rfl ?_
  refine q_iconst rfl ?_
  refine v_ishlc (v := 660512) rfl (by decide) ?_
  refine q_aload_n rfl rfl ?_
  refine q_iload_n rfl rfl ?_
  refine v_sch 114 rfl rfl (by omega) (Nat.le_of_ble_eq_true rfl) (by decide) (by decide) (by decide) ?_
  refine v_bip rfl (by decide) ?_
  refine v_isub (v := 18) rfl (by decide) ?_
  refine v_iorc (v := 660530) rfl (by decide) ?_
  refine q_istore_n rfl (by decide) ?_
  refine v_iinc (v := 4) rfl rfl (by decide) (by decide) ?_
  refine Wp_ls [(2, vi 4), (1, vi 660530), (0, .ref (a_SB + 33))] (lsub_cons rfl (lsub_cons rfl (lsub_cons rfl lsub_nil))) ?_
  refine q_goto (t := 4) rfl (by decide) ?_
  refine q_iload_n rfl rfl ?_
  refine q_aload_n rfl rfl ?_
  refine v_sln 4 rfl rfl (by omega) (Nat.le_of_ble_eq_true rfl) (by decide) (by decide) ?_
  refine v_ic_ge_t (t := 31) rfl (by decide) (by decide) ?_
  refine q_iload_n rfl rfl ?_
  refine q_iret rfl rfl ?_
  exact K
set_option maxRecDepth 100000 in
set_option maxHeartbeats 4000000 in
theorem s_158_34 {sc : List Int32} {d : Nat} {w : AW} {Z : AR → Prop} (K : Z (.inl (some (vi 628108)), w, 0, 0)) : Wp sc (d + 7) 158 0 [(0, .ref (a_SB + 34))] [] w 0 0 Z := by
  refine q_iconst rfl ?_
  refine q_istore_n rfl (by decide) ?_
  refine q_iconst rfl ?_
  refine q_istore_n rfl (by decide) ?_
  refine q_iload_n rfl rfl ?_
  refine q_aload_n rfl rfl ?_
  refine v_sln 4 rfl rfl (by omega) (Nat.le_of_ble_eq_true rfl) (by decide) (by decide) ?_
  refine v_ic_ge_f (t := 31) rfl (by decide) (by decide) ?_
  refine q_iload_n rfl rfl ?_
  refine q_iconst rfl ?_
  refine v_ishlc (v := 0) rfl (by decide) ?_
  refine q_aload_n rfl rfl ?_
  refine q_iload_n rfl rfl ?_
  refine v_sch 115 rfl rfl (by omega) (Nat.le_of_ble_eq_true rfl) (by decide) (by decide) (by decide) ?_
  refine v_bip rfl (by decide) ?_
  refine v_isub (v := 19) rfl (by decide) ?_
  refine v_iorc (v := 19) rfl (by decide) ?_
  refine q_istore_n rfl (by decide) ?_
  refine v_iinc (v := 1) rfl rfl (by decide) (by decide) ?_
  refine q_goto (t := 4) rfl (by decide) ?_
  refine q_iload_n rfl rfl ?_
  refine q_aload_n rfl rfl ?_
  refine v_sln 4 rfl rfl (by omega) (Nat.le_of_ble_eq_true rfl) (by decide) (by decide) ?_
  refine v_ic_ge_f (t := 31) rfl (by decide) (by decide) ?_
  refine q_iload_n rfl rfl ?_
  refine q_iconst rfl ?_
  refine v_ishlc (v := 608) rfl (by decide) ?_
  refine q_aload_n rfl rfl ?_
  refine q_iload_n rfl rfl ?_
  refine v_sch 101 rfl rfl (by omega) (Nat.le_of_ble_eq_true rfl) (by decide) (by decide) (by decide) ?_
  refine v_bip rfl (by decide) ?_
  refine v_isub (v := 5) rfl (by decide) ?_
  refine v_iorc (v := 613) rfl (by decide) ?_
  refine q_istore_n rfl (by decide) ?_
  refine Wp_ls [(1, vi 613), (2, vi 1), (0, .ref (a_SB + 34))] (lsub_cons rfl (lsub_cons rfl (lsub_cons rfl lsub_nil))) ?_
  refine v_iinc (v := 2) rfl rfl (by decide) (by decide) ?_
  refine q_goto (t := 4) rfl (by decide) ?_
  refine q_iload_n rfl rfl ?_
  refine q_aload_n rfl rfl ?_
  refine v_sln 4 rfl rfl (by omega) (Nat.le_of_ble_eq_true rfl) (by decide) (by decide) ?_
  refine v_ic_ge_f (t := 31) rfl (by decide) (by decide) ?_
  refine q_iload_n rfl rfl ?_
  refine q_iconst rfl ?_
  refine v_ishlc (v := 19616) rfl (by decide) ?_
  refine q_aload_n rfl rfl ?_
  refine q_iload_n rfl rfl ?_
  refine v_sch 108 rfl rfl (by omega) (Nat.le_of_ble_eq_true rfl) (by decide) (by decide) (by decide) ?_
  refine v_bip rfl (by decide) ?_
  refine v_isub (v := 12) rfl (by decide) ?_
  refine v_iorc (v := 19628) rfl (by decide) ?_
  refine q_istore_n rfl (by decide) ?_
  refine v_iinc (v := 3) rfl rfl (by decide) (by decide) ?_
  refine q_goto (t := 4) rfl (by decide) ?_
  refine q_iload_n rfl rfl ?_
  refine q_aload_n rfl rfl ?_
  refine v_sln 4 rfl rfl (by omega) (Nat.le_of_ble_eq_true rfl) (by decide) (by decide) ?_
  refine v_ic_ge_f (t := 31) rfl (by decide) (by decide) ?_
  refine q_iload_n rfl rfl ?_
  refine q_iconst rfl ?_
  refine v_ishlc (v := 628096) rfl (by decide) ?_
  refine q_aload_n rfl rfl ?_
  refine q_iload_n rfl rfl ?_
  refine v_sch 108 rfl rfl (by omega) (Nat.le_of_ble_eq_true rfl) (by decide) (by decide) (by decide) ?_
  refine v_bip rfl (by decide) ?_
  refine v_isub (v := 12) rfl (by decide) ?_
  refine v_iorc (v := 628108) rfl (by decide) ?_
  refine q_istore_n rfl (by decide) ?_
  refine v_iinc (v := 4) rfl rfl (by decide) (by decide) ?_
  refine Wp_ls [(2, vi 4), (1, vi 628108), (0, .ref (a_SB + 34))] (lsub_cons rfl (lsub_cons rfl (lsub_cons rfl lsub_nil))) ?_
  refine q_goto (t := 4) rfl (by decide) ?_
  refine q_iload_n rfl rfl ?_
  refine q_aload_n rfl rfl ?_
  refine v_sln 4 rfl rfl (by omega) (Nat.le_of_ble_eq_true rfl) (by decide) (by decide) ?_
  refine v_ic_ge_t (t := 31) rfl (by decide) (by decide) ?_
  refine q_iload_n rfl rfl ?_
  refine q_iret rfl rfl ?_
  exact K
set_option maxRecDepth 100000 in
set_option maxHeartbeats 4000000 in
theorem s_158_35 {sc : List Int32} {d : Nat} {w : AW} {Z : AR → Prop} (K : Z (.inl (some (vi 1279278)), w, 0, 0)) : Wp sc (d + 7) 158 0 [(0, .ref (a_SB + 35))] [] w 0 0 Z := by
  refine q_iconst rfl ?_
  refine q_istore_n rfl (by decide) ?_
  refine q_iconst rfl ?_
  refine q_istore_n rfl (by decide) ?_
  refine q_iload_n rfl rfl ?_
  refine q_aload_n rfl rfl ?_
  refine v_sln 5 rfl rfl (by omega) (Nat.le_of_ble_eq_true rfl) (by decide) (by decide) ?_
  refine v_ic_ge_f (t := 31) rfl (by decide) (by decide) ?_
  refine q_iload_n rfl rfl ?_
  refine q_iconst rfl ?_
  refine v_ishlc (v := 0) rfl (by decide) ?_
  refine q_aload_n rfl rfl ?_
  refine q_iload_n rfl rfl ?_
  refine v_sch 97 rfl rfl (by omega) (Nat.le_of_ble_eq_true rfl) (by decide) (by decide) (by decide) ?_
  refine v_bip rfl (by decide) ?_
  refine v_isub (v := 1) rfl (by decide) ?_
  refine v_iorc (v := 1) rfl (by decide) ?_
  refine q_istore_n rfl (by decide) ?_
  refine v_iinc (v := 1) rfl rfl (by decide) (by decide) ?_
  refine q_goto (t := 4) rfl (by decide) ?_
  refine q_iload_n rfl rfl ?_
  refine q_aload_n rfl rfl ?_
  refine v_sln 5 rfl rfl (by omega) (Nat.le_of_ble_eq_true rfl) (by decide) (by decide) ?_
  refine v_ic_ge_f (t := 31) rfl (by decide) (by decide) ?_
  refine q_iload_n rfl rfl ?_
  refine q_iconst rfl ?_
  refine v_ishlc (v := 32) rfl (by decide) ?_
  refine q_aload_n rfl rfl ?_
  refine q_iload_n rfl rfl ?_
  refine v_sch 103 rfl rfl (by omega) (Nat.le_of_ble_eq_true rfl) (by decide) (by decide) (by decide) ?_
  refine v_bip rfl (by decide) ?_
  refine v_isub (v := 7) rfl (by decide) ?_
  refine v_iorc (v := 39) rfl (by decide) ?_
  refine q_istore_n rfl (by decide) ?_
  refine Wp_ls [(1, vi 39), (2, vi 1), (0, .ref (a_SB + 35))] (lsub_cons rfl (lsub_cons rfl (lsub_cons rfl lsub_nil))) ?_
  refine v_iinc (v := 2) rfl rfl (by decide) (by decide) ?_
  refine q_goto (t := 4) rfl (by decide) ?_
  refine q_iload_n rfl rfl ?_
  refine q_aload_n rfl rfl ?_
  refine v_sln 5 rfl rfl (by omega) (Nat.le_of_ble_eq_true rfl) (by decide) (by decide) ?_
  refine v_ic_ge_f (t := 31) rfl (by decide) (by decide) ?_
  refine q_iload_n rfl rfl ?_
  refine q_iconst rfl ?_
  refine v_ishlc (v := 1248) rfl (by decide) ?_
  refine q_aload_n rfl rfl ?_
  refine q_iload_n rfl rfl ?_
  refine v_sch 97 rfl rfl (by omega) (Nat.le_of_ble_eq_true rfl) (by decide) (by decide) (by decide) ?_
  refine v_bip rfl (by decide) ?_
  refine v_isub (v := 1) rfl (by decide) ?_
  refine v_iorc (v := 1249) rfl (by decide) ?_
  refine q_istore_n rfl (by decide) ?_
  refine v_iinc (v := 3) rfl rfl (by decide) (by decide) ?_
  refine q_goto (t := 4) rfl (by decide) ?_
  refine q_iload_n rfl rfl ?_
  refine q_aload_n rfl rfl ?_
  refine v_sln 5 rfl rfl (by omega) (Nat.le_of_ble_eq_true rfl) (by decide) (by decide) ?_
  refine v_ic_ge_f (t := 31) rfl (by decide) (by decide) ?_
  refine q_iload_n rfl rfl ?_
  refine q_iconst rfl ?_
  refine v_ishlc (v := 39968) rfl (by decide) ?_
  refine q_aload_n rfl rfl ?_
  refine q_iload_n rfl rfl ?_
  refine v_sch 105 rfl rfl (by omega) (Nat.le_of_ble_eq_true rfl) (by decide) (by decide) (by decide) ?_
  refine v_bip rfl (by decide) ?_
  refine v_isub (v := 9) rfl (by decide) ?_
  refine v_iorc (v := 39977) rfl (by decide) ?_
  refine q_istore_n rfl (by decide) ?_
  refine v_iinc (v := 4) rfl rfl (by decide) (by decide) ?_
  refine Wp_ls [(2, vi 4), (1, vi 39977), (0, .ref (a_SB + 35))] (lsub_cons rfl (lsub_cons rfl (lsub_cons rfl lsub_nil))) ?_
  refine q_goto (t := 4) rfl (by decide) ?_
  refine q_iload_n rfl rfl ?_
  refine q_aload_n rfl rfl ?_
  refine v_sln 5 rfl rfl (by omega) (Nat.le_of_ble_eq_true rfl) (by decide) (by decide) ?_
  refine v_ic_ge_f (t := 31) rfl (by decide) (by decide) ?_
  refine q_iload_n rfl rfl ?_
  refine q_iconst rfl ?_
  refine v_ishlc (v := 1279264) rfl (by decide) ?_
  refine q_aload_n rfl rfl ?_
  refine q_iload_n rfl rfl ?_
  refine v_sch 110 rfl rfl (by omega) (Nat.le_of_ble_eq_true rfl) (by decide) (by decide) (by decide) ?_
  refine v_bip rfl (by decide) ?_
  refine v_isub (v := 14) rfl (by decide) ?_
  refine v_iorc (v := 1279278) rfl (by decide) ?_
  refine q_istore_n rfl (by decide) ?_
  refine v_iinc (v := 5) rfl rfl (by decide) (by decide) ?_
  refine q_goto (t := 4) rfl (by decide) ?_
  refine q_iload_n rfl rfl ?_
  refine q_aload_n rfl rfl ?_
  refine v_sln 5 rfl rfl (by omega) (Nat.le_of_ble_eq_true rfl) (by decide) (by decide) ?_
  refine v_ic_ge_t (t := 31) rfl (by decide) (by decide) ?_
  refine q_iload_n rfl rfl ?_
  refine q_iret rfl rfl ?_
  exact K

set_option maxRecDepth 100000 in
set_option maxHeartbeats 4000000 in
theorem s_159_l {sc : List Int32} {e : Int} {d u P Q : Nat} {c : ME} {Z : AR → Prop} (hI : Iv u e P Q c)  (K : ∀ (c2 : ME), Iv u e P Q c2 → (∀ (a : Nat) (j : Int), ¬ ((a = 41 ∧ j = 4)) → c2 a j = c a j) → ((c2 41 4 ≥ c 41 4)) → ((c2 41 4 ≤ c 41 3) ∨ (c2 41 4 = c 41 4)) → ((c 43 (c 41 4) < 97) ∨ (c 43 (c 41 4) > 122) ∨ (c 41 4 ≥ c 41 3) ∨ (c2 41 4 ≥ c 41 4 + 1)) → ((c 43 (c 41 4) < 97) ∨ (c 43 (c 41 4) > 122) ∨ (c 43 (c 41 4 + 1) < 97) ∨ (c 43 (c 41 4 + 1) > 122) ∨ (c 43 (c 41 4 + 2) < 97) ∨ (c 43 (c 41 4 + 2) > 122) ∨ (c 41 4 + 3 > c 41 3) ∨ (c2 41 4 ≥ c 41 4 + 3)) → Z (.inl (none), Wd P Q P P c2, 0, 0)) : ∀ n : Nat, (∀ (c2 : ME), Iv u e P Q c2 → (∀ (a : Nat) (j : Int), ¬ ((a = 41 ∧ j = 4)) → c2 a j = c a j) → ((c2 41 4 ≥ c 41 4)) → ((c2 41 4 ≤ c 41 3) ∨ (c2 41 4 = c 41 4)) → 1211 - 2 * c2 41 4 < (n : Int) → Wp sc (d + 8) 159 0 [(0, .ref 41)] [] (Wd P Q P P c2) 0 0 Z)
  | 0 => by intro c2 hI2 hF hx0 hx1 hm9; have hP := iv_P hI; have hQ := iv_Q hI; have h_31 := ir_41_4 hI2; exfalso; omega
  | n + 1 => by
    have hP := iv_P hI
    have hQ := iv_Q hI
    have ih := s_159_l (sc := sc) (d := d) hI K n
    intro c2 hI2 hF hx0 hx1 hm9
    have h_1 := ir_41_4 hI
    have h_2 := ir_41_4 hI2
    have h_3 := ir_41_3 hI
    refine q_aload_n rfl rfl ?_
    refine v_gi (z := 4) (v := c2 41 4) rfl rfl rfl (by decide) rfl rfl rfl ?_
    refine q_aload_n rfl rfl ?_
    have kn_4 : Hid (c2 41 3 = c 41 3) := hF 41 3 (fun h => absurd h.2 (ni rfl))
    refine v_gi (z := 3) (v := c 41 3) rfl rfl rfl (by decide) rfl rfl (hid kn_4) ?_
    by_cases h_5 : c2 41 4 ≥ c 41 3
    · refine v_ic_ge_t (t := 39) rfl (by decide) ⟨(Int.le_trans (by decide) h_3.1), h_5, (Int.le_trans h_2.2 (by decide))⟩ ?_
      refine q_vret rfl rfl ?_
      have h_6 := ir_43 hI (c2 41 4)
      have h_7 := ir_43 hI (c 41 4)
      have h_8 : c2 41 4 = c 41 4 → c 43 (c2 41 4) = c 43 (c 41 4) := fun e9 => congrArg (c 43) e9
      have h_9 := ir_43 hI (c 41 4 + 1)
      have h_10 : c2 41 4 = c 41 4 + 1 → c 43 (c2 41 4) = c 43 (c 41 4 + 1) := fun e9 => congrArg (c 43) e9
      have h_11 := ir_43 hI (c 41 4 + 2)
      have h_12 : c2 41 4 = c 41 4 + 2 → c 43 (c2 41 4) = c 43 (c 41 4 + 2) := fun e9 => congrArg (c 43) e9
      exact K c2 hI2 (fun a j hm => hF a j (fun h => hm h)) (by omega) (by omega) (by omega) (by omega)
    · refine v_ic_ge_f (t := 39) rfl (by decide) ⟨(Int.le_trans (by decide) h_2.1), (Int.not_le.mp h_5), (Int.le_trans h_3.2 (by decide))⟩ ?_
      refine q_aload_n rfl rfl ?_
      refine v_gr (t := 43) rfl rfl rfl (by decide) rfl ?_
      refine q_aload_n rfl rfl ?_
      refine v_gi (z := 4) (v := c2 41 4) rfl rfl rfl (by decide) rfl rfl rfl ?_
      have h_13 := ir_43 hI (c2 41 4)
      have kn_14 : Hid (c2 43 (c2 41 4) = c 43 (c2 41 4)) := hF 43 (c2 41 4) (fun h => absurd h.1 (nn rfl))
      refine v_ia (v := c 43 (c2 41 4)) rfl rfl (by decide) (by decide) (by omega) (hid kn_14) ?_
      refine q_call rfl rfl rfl rfl ?_
      refine q_iload_n rfl rfl ?_
      refine v_bip rfl (by decide) ?_
      by_cases h_15 : c 43 (c2 41 4) < 97
      · refine v_ic_lt_t (t := 16) rfl (by decide) ⟨by omega, h_15, by decide⟩ ?_
        refine q_iconst rfl ?_
        refine v_zret rfl rfl (by decide) ?_
        refine bk_inl ?_
        refine v_if_eq_t (t := 39) rfl (by decide) (by decide) ?_
        refine q_vret rfl rfl ?_
        have h_16 := ir_43 hI (c 41 4)
        have h_17 : c2 41 4 = c 41 4 → c 43 (c2 41 4) = c 43 (c 41 4) := fun e9 => congrArg (c 43) e9
        have h_18 := ir_43 hI (c 41 4 + 1)
        have h_19 : c2 41 4 = c 41 4 + 1 → c 43 (c2 41 4) = c 43 (c 41 4 + 1) := fun e9 => congrArg (c 43) e9
        have h_20 := ir_43 hI (c 41 4 + 2)
        have h_21 : c2 41 4 = c 41 4 + 2 → c 43 (c2 41 4) = c 43 (c 41 4 + 2) := fun e9 => congrArg (c 43) e9
        exact K c2 hI2 (fun a j hm => hF a j (fun h => hm h)) (by omega) (Or.inl (by omega)) (by omega) (by omega)
      · refine v_ic_lt_f (t := 16) rfl (by decide) ⟨by decide, (Int.not_lt.mp h_15), by omega⟩ ?_
        refine q_iload_n rfl rfl ?_
        refine v_bip rfl (by decide) ?_
        by_cases h_22 : c 43 (c2 41 4) > 122
        · refine v_ic_gt_t (t := 16) rfl (by decide) ⟨by decide, h_22, by omega⟩ ?_
          refine q_iconst rfl ?_
          refine v_zret rfl rfl (by decide) ?_
          refine bk_inl ?_
          refine v_if_eq_t (t := 39) rfl (by decide) (by decide) ?_
          refine q_vret rfl rfl ?_
          have h_23 := ir_43 hI (c 41 4)
          have h_24 : c2 41 4 = c 41 4 → c 43 (c2 41 4) = c 43 (c 41 4) := fun e9 => congrArg (c 43) e9
          have h_25 := ir_43 hI (c 41 4 + 1)
          have h_26 : c2 41 4 = c 41 4 + 1 → c 43 (c2 41 4) = c 43 (c 41 4 + 1) := fun e9 => congrArg (c 43) e9
          have h_27 := ir_43 hI (c 41 4 + 2)
          have h_28 : c2 41 4 = c 41 4 + 2 → c 43 (c2 41 4) = c 43 (c 41 4 + 2) := fun e9 => congrArg (c 43) e9
          exact K c2 hI2 (fun a j hm => hF a j (fun h => hm h)) (by omega) (Or.inl (by omega)) (by omega) (by omega)
        · refine v_ic_gt_f (t := 16) rfl (by decide) ⟨by omega, (Int.not_lt.mp h_22), by decide⟩ ?_
          refine q_iconst rfl ?_
          refine q_goto (t := 17) rfl (by decide) ?_
          refine v_zret rfl rfl (by decide) ?_
          refine bk_inl ?_
          refine v_if_eq_f (t := 39) rfl (by decide) (by decide) ?_
          refine q_aload_n rfl rfl ?_
          refine q_dup rfl rfl ?_
          refine v_gi (z := 4) (v := c2 41 4) rfl rfl rfl (by decide) rfl rfl rfl ?_
          refine q_iconst rfl ?_
          refine v_iadd (v := c2 41 4 + 1) rfl rfl ?_
          refine v_pi (z := 4) rfl rfl rfl (by decide) rfl rfl rfl (by decide) ?_
          refine q_goto (t := 0) rfl (by decide) ?_
          have hI_29 := iw_41_4 (v := c2 41 4 + 1) hI2 ⟨by first | exact rgp_l h_2.1 (by decide) | omega, by omega⟩
          refine Wp_ls [(0, .ref 41)] (lsub_cons rfl lsub_nil) ?_
          have h_30 : (up c2 41 4 (c2 41 4 + 1)) 41 4 = c2 41 4 + 1 := (up_e rfl)
          exact ih (up c2 41 4 (c2 41 4 + 1)) hI_29 (fun a j hm => (up_b (Decidable.or_iff_not_imp_left.mpr (fun h1 h2 => hm ⟨Decidable.not_not.mp h1, h2⟩))).trans (hF a j (fun h => hm h))) (by omega) (Or.inl (by omega)) (by omega)
set_option maxRecDepth 100000 in
set_option maxHeartbeats 4000000 in
theorem s_159 {sc : List Int32} {e : Int} {d u P Q : Nat} {c : ME} {Z : AR → Prop} (hI : Iv u e P Q c)  (K : ∀ (c2 : ME), Iv u e P Q c2 → (∀ (a : Nat) (j : Int), ¬ ((a = 41 ∧ j = 4)) → c2 a j = c a j) → ((c2 41 4 ≥ c 41 4)) → ((c2 41 4 ≤ c 41 3) ∨ (c2 41 4 = c 41 4)) → ((c 43 (c 41 4) < 97) ∨ (c 43 (c 41 4) > 122) ∨ (c 41 4 ≥ c 41 3) ∨ (c2 41 4 ≥ c 41 4 + 1)) → ((c 43 (c 41 4) < 97) ∨ (c 43 (c 41 4) > 122) ∨ (c 43 (c 41 4 + 1) < 97) ∨ (c 43 (c 41 4 + 1) > 122) ∨ (c 43 (c 41 4 + 2) < 97) ∨ (c 43 (c 41 4 + 2) > 122) ∨ (c 41 4 + 3 > c 41 3) ∨ (c2 41 4 ≥ c 41 4 + 3)) → Z (.inl (none), Wd P Q P P c2, 0, 0)) : Wp sc (d + 8) 159 0 [(0, .ref 41)] [] (Wd P Q P P c) 0 0 Z := by
  have hP := iv_P hI
  have hQ := iv_Q hI
  refine Wp_ls [(0, .ref 41)] (lsub_cons rfl lsub_nil) ?_
  have h_32 := ir_41_4 hI
  exact (s_159_l (sc := sc) (d := d) hI K 1214) c hI (fun a j hm => rfl) (by omega) (Or.inr (by omega)) (by omega)

