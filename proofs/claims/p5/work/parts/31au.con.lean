/-! ===== contracts 13 ===== -/
theorem q_f97c35332 {x0 : Int} (f0 : -2147483648 ≤ x0 ∧ x0 ≤ 2147483647) : (-2147483648) ≤ x0 := by omega
theorem q_79e53d295 {x0 : Int} (f0 : -2147483648 ≤ x0 ∧ x0 ≤ 2147483647) : x0 ≤ 2147483647 := by omega
theorem qn_9b8df3fcd {j : Int} : ¬ (((43 : Nat) = 41 ∧ j = 4) ∨ ((43 : Nat) = 41 ∧ j = 5) ∨ ((43 : Nat) = 41 ∧ j = 6) ∨ ((43 : Nat) = 41 ∧ j = 7) ∨ ((43 : Nat) = 41 ∧ j = 29) ∨ (43 : Nat) = 50 ∨ (43 : Nat) = 51) := (fun q => q.elim (fun h => absurd h.1 (nn rfl)) (fun q => q.elim (fun h => absurd h.1 (nn rfl)) (fun q => q.elim (fun h => absurd h.1 (nn rfl)) (fun q => q.elim (fun h => absurd h.1 (nn rfl)) (fun q => q.elim (fun h => absurd h.1 (nn rfl)) (fun q => q.elim (fun h => absurd h (nn rfl)) (fun h => absurd h (nn rfl))))))))
theorem q_a47af64b4 {x0 x1 x2 x3 : Int} (f0 : (x0 < x1 ∧ x2 = x3) ∨ (x1 ≤ x0 ∧ x2 = 0)) (f1 : x2 = 42) : ¬ x3 = 32 := by omega
theorem q_f6ef69adf {x0 : Int} (f0 : x0 = 42) : x0 = 42 := by omega
theorem q_1902decf2 {x0 x1 x2 x3 : Int} (f0 : (x0 < x1 ∧ x2 = x3) ∨ (x1 ≤ x0 ∧ x2 = 0)) (f1 : x2 = 42) : x0 + 1 ≤ x1 := by omega
theorem q_6c4626af3 {x0 x1 x2 x3 : Int} (f0 : (x0 < x1 ∧ x2 = x3) ∨ (x1 ≤ x0 ∧ x2 = 0)) (f1 : x2 = 47) : ¬ x3 = 32 := by omega
theorem q_54867d76a {x0 : Int} (f0 : x0 = 47) : ¬ x0 = 42 := by omega
theorem q_6c4d03842 {x0 : Int} (f0 : x0 = 47) : x0 = 47 := by omega
theorem q_b2128a618 {x0 x1 x2 x3 : Int} (f0 : (x0 < x1 ∧ x2 = x3) ∨ (x1 ≤ x0 ∧ x2 = 0)) (f1 : x2 = 47) : x0 + 1 ≤ x1 := by omega
theorem q_9de36a18e {x0 x1 x2 : Int} (f0 : x0 ≤ x1 ∧ x1 ≤ x2) : x1 ≤ x2 := by omega
theorem q_1a6479b5a {x0 x1 x2 x3 : Int} (f0 : ¬ (x0 ≠ 37)) (f1 : (x1 < x2 ∧ x0 = x3) ∨ (x2 ≤ x1 ∧ x0 = 0)) : ¬ x3 = 32 := by omega
theorem q_845ed53ed {x0 : Int} (f0 : ¬ (x0 ≠ 37)) : ¬ x0 = 42 := by omega
theorem q_cb116462c {x0 : Int} (f0 : ¬ (x0 ≠ 37)) : ¬ x0 = 47 := by omega
theorem q_d229d0d89 {x0 x1 x2 x3 : Int} (f0 : ¬ (x0 ≠ 37)) (f1 : (x1 < x2 ∧ x0 = x3) ∨ (x2 ≤ x1 ∧ x0 = 0)) : x1 + 1 ≤ x2 := by omega
theorem q_eb7e24553 {x0 x1 : Int} (f0 : (x0 ≤ x1)) : x0 ≤ x1 := by omega
theorem q_56f770f3e {x0 x1 x2 x3 : Int} (f0 : (x0 + x1 ≤ x2 + x3)) : x0 + x1 ≤ x2 + x3 := by omega
theorem c_173_11 : mLk 173 11 = some (.aload_n 0, 1) := rfl
theorem c_173_12 : mLk 173 12 = some (.invokevirtual 114, 3) := rfl
theorem c_173_15 : mLk 173 15 = some (.bipush 42, 2) := rfl
theorem c_173_17 : mLk 173 17 = some (.if_icmp .eq 21, 3) := rfl
theorem c_173_38 : mLk 173 38 = some (.aload_n 0, 1) := rfl
theorem c_173_39 : mLk 173 39 = some (.invokevirtual 114, 3) := rfl
theorem c_173_42 : mLk 173 42 = some (.bipush 42, 2) := rfl
theorem c_173_44 : mLk 173 44 = some (.if_icmp .ne 7, 3) := rfl
theorem c_173_47 : mLk 173 47 = some (.iconst 4, 1) := rfl
theorem c_173_48 : mLk 173 48 = some (.goto 18, 3) := rfl
theorem c_173_66 : mLk 173 66 = some (.istore_n 1, 1) := rfl
theorem c_173_67 : mLk 173 67 = some (.aload_n 0, 1) := rfl
theorem c_173_68 : mLk 173 68 = some (.dup, 1) := rfl
theorem c_173_69 : mLk 173 69 = some (.getfield 108, 3) := rfl
theorem c_173_72 : mLk 173 72 = some (.iconst 1, 1) := rfl
theorem c_173_73 : mLk 173 73 = some (.iadd, 1) := rfl
theorem c_173_74 : mLk 173 74 = some (.putfield 108, 3) := rfl
theorem c_173_77 : mLk 173 77 = some (.aload_n 0, 1) := rfl
theorem c_173_78 : mLk 173 78 = some (.invokevirtual 245, 3) := rfl
theorem c_173_81 : mLk 173 81 = some (.aload_n 0, 1) := rfl
theorem c_173_82 : mLk 173 82 = some (.iload_n 1, 1) := rfl
theorem c_173_83 : mLk 173 83 = some (.iconst 0, 1) := rfl
theorem c_173_84 : mLk 173 84 = some (.invokevirtual 242, 3) := rfl
theorem c_173_87 : mLk 173 87 = some (.goto (-83), 3) := rfl
theorem c_173_20 : mLk 173 20 = some (.aload_n 0, 1) := rfl
theorem c_173_21 : mLk 173 21 = some (.invokevirtual 114, 3) := rfl
theorem c_173_24 : mLk 173 24 = some (.bipush 47, 2) := rfl
theorem c_173_26 : mLk 173 26 = some (.if_icmp .eq 12, 3) := rfl
theorem c_173_51 : mLk 173 51 = some (.aload_n 0, 1) := rfl
theorem c_173_52 : mLk 173 52 = some (.invokevirtual 114, 3) := rfl
theorem c_173_55 : mLk 173 55 = some (.bipush 47, 2) := rfl
theorem c_173_57 : mLk 173 57 = some (.if_icmp .ne 7, 3) := rfl
theorem c_173_60 : mLk 173 60 = some (.iconst 5, 1) := rfl
theorem c_173_61 : mLk 173 61 = some (.goto 5, 3) := rfl
theorem c_173_29 : mLk 173 29 = some (.aload_n 0, 1) := rfl
theorem c_173_30 : mLk 173 30 = some (.invokevirtual 114, 3) := rfl
theorem c_173_33 : mLk 173 33 = some (.bipush 37, 2) := rfl
theorem c_173_35 : mLk 173 35 = some (.if_icmp .ne 55, 3) := rfl
theorem c_173_64 : mLk 173 64 = some (.bipush 8, 2) := rfl
/-! blanks are passed: the first place that is none -/
noncomputable def sk (b : Int → Int) (e : Int) : Nat → Int → Int
  | 0, a => a
  | n + 1, a => if a < e ∧ b a = 32 then sk b e n (a + 1) else a
noncomputable def nx (b : Int → Int) (e a : Int) : Int := sk b e (e - a).toNat a
noncomputable def hb (b : Int → Int) (e r : Int) : Int := if r < e then b r else 0
theorem nx_s {b : Int → Int} {e a : Int} (h1 : a < e) (h2 : b a = 32) : nx b e a = nx b e (a + 1) := by
  unfold nx
  obtain ⟨n, hn⟩ : ∃ n : Nat, (e - a).toNat = n + 1 := ⟨(e - a).toNat - 1, by omega⟩
  rw [hn, show (e - (a + 1)).toNat = n by omega]
  show (if a < e ∧ b a = 32 then sk b e n (a + 1) else a) = _
  rw [if_pos ⟨h1, h2⟩]
theorem nx_z {b : Int → Int} {e a : Int} (h : e ≤ a ∨ ¬ b a = 32) : nx b e a = a := by
  unfold nx
  cases hn : (e - a).toNat with
  | zero => rfl
  | succ n =>
    show (if a < e ∧ b a = 32 then sk b e n (a + 1) else a) = a
    rw [if_neg (fun q => h.elim (fun q1 => by omega) (fun q2 => q2 q.2))]
theorem sk_bd {b : Int → Int} {e : Int} : ∀ (n : Nat) (a : Int), a ≤ sk b e n a ∧ (sk b e n a ≤ e ∨ sk b e n a = a)
  | 0, a => ⟨Int.le_refl a, Or.inr rfl⟩
  | n + 1, a => by
    show a ≤ (if a < e ∧ b a = 32 then sk b e n (a + 1) else a) ∧ ((if a < e ∧ b a = 32 then sk b e n (a + 1) else a) ≤ e ∨ (if a < e ∧ b a = 32 then sk b e n (a + 1) else a) = a)
    by_cases h : a < e ∧ b a = 32
    · rw [if_pos h]
      have ih := sk_bd (b := b) (e := e) n (a + 1)
      omega
    · rw [if_neg h]
      exact ⟨Int.le_refl a, Or.inr rfl⟩
theorem nx_bd {b : Int → Int} {e a : Int} : a ≤ nx b e a ∧ (nx b e a ≤ e ∨ nx b e a = a) := sk_bd _ _
theorem nx_be {b : Int → Int} {e a : Int} (h : a ≤ e) : a ≤ nx b e a ∧ nx b e a ≤ e := ⟨nx_bd.1, nx_bd.2.elim id (fun z => by rw [z]; exact h)⟩
theorem sk_n {b : Int → Int} {e : Int} : ∀ (n : Nat) (a : Int), e - a ≤ (n : Int) → (e ≤ sk b e n a ∨ ¬ b (sk b e n a) = 32)
  | 0, a, h => Or.inl (show e ≤ a by omega)
  | n + 1, a, h => by
    show e ≤ (if a < e ∧ b a = 32 then sk b e n (a + 1) else a) ∨ ¬ b (if a < e ∧ b a = 32 then sk b e n (a + 1) else a) = 32
    by_cases q : a < e ∧ b a = 32
    · rw [if_pos q]
      exact sk_n n (a + 1) (by omega)
    · rw [if_neg q]
      by_cases q2 : a < e
      · exact Or.inr (fun z => q ⟨q2, z⟩)
      · exact Or.inl (by omega)
theorem nx_n {b : Int → Int} {e a : Int} : e ≤ nx b e a ∨ ¬ b (nx b e a) = 32 := sk_n _ _ (by omega)
theorem hb_or {b : Int → Int} {e r : Int} : (r < e ∧ hb b e r = b r) ∨ (e ≤ r ∧ hb b e r = 0) := by
  unfold hb
  by_cases h : r < e
  · rw [if_pos h]; exact Or.inl ⟨h, rfl⟩
  · rw [if_neg h]; exact Or.inr ⟨by omega, rfl⟩
theorem hb_bd {b : Int → Int} {e r lo hi : Int} (h : lo ≤ b r ∧ b r ≤ hi) (h0 : lo ≤ 0 ∧ 0 ≤ hi) : lo ≤ hb b e r ∧ hb b e r ≤ hi := by
  unfold hb
  split
  · exact h
  · exact h0
set_option maxRecDepth 100000 in
set_option maxHeartbeats 4000000 in
theorem f_154_l {sc : List Int32} {e : Int} {d u P Q : Nat} {c : ME} {e1 a9 r8 r : Int} {B : Int → Int} {Z : AR → Prop} (hI : Iv u e P Q c) (hv0 : c 41 3 = e1) (hv1 : c 41 4 = a9) (hB : ∀ j : Int, c 43 j = B j) (hdr8 : nx B e1 a9 = r8) (hr9 : hb B e1 r8 = r) (K : ∀ (c2 : ME), Iv u e P Q c2 → (∀ (a : Nat) (j : Int), ¬ ((a = 41 ∧ j = 4)) → c2 a j = c a j) → ((c2 41 4 = r8)) → Z (.inl (some (vi r)), Wd P Q P P c2, 0, 0)) : ∀ n : Nat, (∀ (c2 : ME), Iv u e P Q c2 → (∀ (a : Nat) (j : Int), ¬ ((a = 41 ∧ j = 4)) → c2 a j = c a j) → (nx B e1 (c2 41 4) = r8) → 1211 - 2 * c2 41 4 < (n : Int) → Wp sc (d + 7) 154 0 [(0, .ref 41)] [] (Wd P Q P P c2) 0 0 Z) := by
  intro n
  induction n with
  | zero => exact (by intro c2 hI2 hF hx0 hm9; have hP := iv_P hI; have hQ := iv_Q hI; have h_10 := ir_41_4 hI2; exfalso; omega)
  | succ n ih =>
    have hP := iv_P hI
    have hQ := iv_Q hI
    intro c2 hI2 hF hx0 hm9
    have h_1 := ir_41_4 hI2
    refine q_aload_n c_154_0 rfl (v_gi (z := 4) (v := c2 41 4) c_154_1 kf_8_108 rfl (Nat.le_of_ble_eq_true rfl) rfl rfl rfl (q_aload_n c_154_4 rfl ?_))
    have h_2 := ir_41_3 hI
    have kn_3 : Hid (c2 41 3 = c 41 3) := hF 41 3 (fun h => absurd h.2 (ni rfl))
    refine v_gi (z := 3) (v := c 41 3) c_154_5 kf_8_111 rfl (Nat.le_of_ble_eq_true rfl) rfl rfl (hid kn_3) ?_
    by_cases h_4 : c2 41 4 ≥ c 41 3
    · refine v_ic_ge_t (t := 38) c_154_8 rfl ⟨(q_3b2b08511 h_2), h_4, (ler h_1.2 rfl)⟩ (q_aload_n c_154_38 rfl (v_gi (z := 4) (v := c2 41 4) c_154_39 kf_8_108 rfl (Nat.le_of_ble_eq_true rfl) rfl rfl rfl (q_aload_n c_154_42 rfl (v_gi (z := 3) (v := c 41 3) c_154_43 kf_8_111 rfl (Nat.le_of_ble_eq_true rfl) rfl rfl (hid kn_3) (v_ic_ge_t (t := 61) c_154_46 rfl ⟨(q_3b2b08511 h_2), (q_a29fbb6d7 h_4), (ler h_1.2 rfl)⟩ (q_iconst c_154_61 (q_iret c_154_62 rfl ?_)))))))
      have hz8 : nx B e1 (c2 41 4) = c2 41 4 := nx_z (by omega)
      have hz9 : r8 = c2 41 4 := hx0.symm.trans hz8
      exact zv (by rw [← hr9, hz9]; unfold hb; rw [if_neg (by omega)]) (K c2 hI2 (fun a j hm => hF a j hm) (by omega))
    · refine v_ic_ge_f (t := 38) c_154_8 rfl ⟨(lel h_1.1 rfl), (Int.not_le.mp h_4), (q_3885e607f h_2)⟩ (q_aload_n c_154_11 rfl (v_gr (t := 43) c_154_12 kf_8_20 rfl (Nat.le_of_ble_eq_true rfl) rfl (q_aload_n c_154_15 rfl (v_gi (z := 4) (v := c2 41 4) c_154_16 kf_8_108 rfl (Nat.le_of_ble_eq_true rfl) rfl rfl rfl ?_))))
      have h_5 : -2147483648 ≤ (B (c2 41 4)) ∧ (B (c2 41 4)) ≤ 2147483647 := by rw [← hB (c2 41 4)]; exact ir_43 hI (c2 41 4)
      have kn_6 : Hid (c2 43 (c2 41 4) = (B (c2 41 4))) := (hF 43 (c2 41 4) (fun h => absurd h.1 (nn rfl))).trans (hB (c2 41 4))
      refine v_ia (v := (B (c2 41 4))) c_154_19 rfl (of_decide_eq_true rfl) (of_decide_eq_true rfl) ⟨h_1.1, (q_364416c3d h_2 h_4)⟩ (hid kn_6) (v_bip c_154_20 (of_decide_eq_true rfl) ?_)
      by_cases h_7 : (B (c2 41 4)) ≠ 32
      · refine v_ic_ne_t (t := 38) c_154_22 rfl ⟨h_7, ⟨(q_f97c35332 h_5), (q_79e53d295 h_5)⟩, of_decide_eq_true rfl, of_decide_eq_true rfl⟩ (q_aload_n c_154_38 rfl (v_gi (z := 4) (v := c2 41 4) c_154_39 kf_8_108 rfl (Nat.le_of_ble_eq_true rfl) rfl rfl rfl (q_aload_n c_154_42 rfl (v_gi (z := 3) (v := c 41 3) c_154_43 kf_8_111 rfl (Nat.le_of_ble_eq_true rfl) rfl rfl (hid kn_3) (v_ic_ge_f (t := 61) c_154_46 rfl ⟨(lel h_1.1 rfl), (q_d17d18138 h_4), (q_3885e607f h_2)⟩ (q_aload_n c_154_49 rfl (v_gr (t := 43) c_154_50 kf_8_20 rfl (Nat.le_of_ble_eq_true rfl) rfl ?_)))))))
        refine q_aload_n c_154_53 rfl (v_gi (z := 4) (v := c2 41 4) c_154_54 kf_8_108 rfl (Nat.le_of_ble_eq_true rfl) rfl rfl rfl (v_ia (v := (B (c2 41 4))) c_154_57 rfl (of_decide_eq_true rfl) (of_decide_eq_true rfl) ⟨h_1.1, (q_364416c3d h_2 h_4)⟩ (hid kn_6) (q_goto (t := 62) c_154_58 rfl (q_iret c_154_62 rfl ?_))))
        have hz8 : nx B e1 (c2 41 4) = c2 41 4 := nx_z (by omega)
        have hz9 : r8 = c2 41 4 := hx0.symm.trans hz8
        exact zv (by rw [← hr9, hz9]; unfold hb; rw [if_pos (by omega)]) (K c2 hI2 (fun a j hm => hF a j hm) (by omega))
      · refine v_ic_ne_f (t := 38) c_154_22 rfl (Decidable.not_not.mp h_7) (q_aload_n c_154_25 rfl (q_dup c_154_26 rfl (v_gi (z := 4) (v := c2 41 4) c_154_27 kf_8_108 rfl (Nat.le_of_ble_eq_true rfl) rfl rfl rfl (q_iconst c_154_30 (v_iadd (v := c2 41 4 + 1) c_154_31 rfl (v_pi (z := 4) c_154_32 kf_8_108 rfl (Nat.le_of_ble_eq_true rfl) rfl rfl rfl (of_decide_eq_true rfl) (q_goto (t := 0) c_154_35 rfl ?_)))))))
        have hI_8 := iw_41_4 (v := c2 41 4 + 1) hI2 ⟨(rgp_l h_1.1 (of_decide_eq_true rfl)), (q_dadb204b8 h_2 h_4)⟩
        refine Wp_ls [(0, .ref 41)] (lsub_cons rfl lsub_nil) ?_
        have h_9 : (up c2 41 4 (c2 41 4 + 1)) 41 4 = c2 41 4 + 1 := (up_e rfl)
        exact ih (up c2 41 4 (c2 41 4 + 1)) hI_8 (fun a j hm => (up_b (Decidable.or_iff_not_imp_left.mpr (fun h1 h2 => hm ⟨Decidable.not_not.mp h1, h2⟩))).trans (hF a j hm)) (by rw [show (up c2 41 4 (c2 41 4 + 1)) 41 4 = c2 41 4 + 1 from (up_e rfl)]; exact (nx_s (by omega) (by omega)).symm.trans hx0) (by omega)
set_option maxRecDepth 100000 in
set_option maxHeartbeats 4000000 in
theorem f_154 {sc : List Int32} {e : Int} {d u P Q : Nat} {c : ME} {e1 a9 r8 r : Int} {B : Int → Int} {Z : AR → Prop} (hI : Iv u e P Q c) (hv0 : c 41 3 = e1) (hv1 : c 41 4 = a9) (hB : ∀ j : Int, c 43 j = B j) (hdr8 : nx B e1 a9 = r8) (hr9 : hb B e1 r8 = r) (K : ∀ (c2 : ME), Iv u e P Q c2 → (∀ (a : Nat) (j : Int), ¬ ((a = 41 ∧ j = 4)) → c2 a j = c a j) → ((c2 41 4 = r8)) → Z (.inl (some (vi r)), Wd P Q P P c2, 0, 0)) : Wp sc (d + 7) 154 0 [(0, .ref 41)] [] (Wd P Q P P c) 0 0 Z := by
  have hP := iv_P hI
  have hQ := iv_Q hI
  have h_11 := ir_41_3 hI
  have h_12 := ir_41_4 hI
  refine Wp_ls [(0, .ref 41)] (lsub_cons rfl lsub_nil) ?_
  have h_13 : c 41 4 = a9 := (hv1)
  exact (f_154_l (sc := sc) (d := d) hI hv0 hv1 hB hdr8 hr9 K 1214) c hI (fun a j hm => rfl) (by rw [hv1]; exact hdr8) (by omega)
set_option maxRecDepth 100000 in
set_option maxHeartbeats 4000000 in
theorem s_173_l {sc : List Int32} {e : Int} {d u P Q : Nat} {c : ME} {o : Int} {Z : AR → Prop} (hI : Iv u e P Q c) (ho : 0 ≤ o ∧ o ≤ 6) (hW : Nw c) (hq0 : (c 41 5 = (-1))) (hq1 : (c 41 4 ≤ c 41 3)) (hq2 : (c 41 3 ≤ 150)) (hq3 : (c 41 29 ≤ c 41 4)) (hq4 : (c 41 7 = o)) (H174 : ∀ (d9 : Nat) (c : ME) (Z : AR → Prop), d ≤ d9 → o + 1 ≤ 6 → Iv u e P Q c → Nw c → ((c 41 5 = (-1))) → ((c 41 4 ≤ c 41 3)) → ((c 41 3 ≤ 150)) → ((c 41 29 ≤ c 41 4)) → (c 41 7 = o + 1) → (∀ c2 : ME, Iv u e P Q c2 → (∀ (a : Nat) (j : Int), ¬ ((a = 41 ∧ j = 4) ∨ (a = 41 ∧ j = 5) ∨ (a = 41 ∧ j = 6) ∨ (a = 41 ∧ j = 7) ∨ (a = 41 ∧ j = 29) ∨ a = 50 ∨ a = 51) → c2 a j = c a j) → Nw c2 → ((c2 41 4 ≥ c 41 4)) → ((c2 41 7 = c 41 7)) → ((c 41 4 + c2 41 29 ≤ c 41 29 + c2 41 4)) → ((c2 41 5 < (-1)) ∨ (c2 41 5 > (-1)) ∨ (c2 41 4 ≤ c 41 3)) → ((c2 41 5 < (-1)) ∨ (c2 41 5 > (-1)) ∨ (Nh c2 = Nh c + 1)) → Z (.inl none, Wd P Q P P c2, 0, 0)) → Wp sc (d9 + 12) 174 0 [(0, .ref 41)] [] (Wd P Q P P c) 0 0 Z) (K : ∀ (c2 : ME), Iv u e P Q c2 → (∀ (a : Nat) (j : Int), ¬ ((a = 41 ∧ j = 4) ∨ (a = 41 ∧ j = 5) ∨ (a = 41 ∧ j = 6) ∨ (a = 41 ∧ j = 7) ∨ (a = 41 ∧ j = 29) ∨ a = 50 ∨ a = 51) → c2 a j = c a j) → Nw c2 → ((c2 41 4 ≥ c 41 4)) → ((c2 41 7 = c 41 7)) → ((c 41 4 + c2 41 29 ≤ c 41 29 + c2 41 4)) → ((c2 41 5 < (-1)) ∨ (c2 41 5 > (-1)) ∨ (c2 41 4 ≤ c 41 3)) → ((c2 41 5 < (-1)) ∨ (c2 41 5 > (-1)) ∨ (Nh c2 = Nh c + 1)) → Z (.inl (none), Wd P Q P P c2, 0, 0)) : ∀ n : Nat, (∀ (c2 : ME), Iv u e P Q c2 → (∀ (a : Nat) (j : Int), ¬ ((a = 41 ∧ j = 4) ∨ (a = 41 ∧ j = 5) ∨ (a = 41 ∧ j = 6) ∨ (a = 41 ∧ j = 7) ∨ (a = 41 ∧ j = 29) ∨ a = 50 ∨ a = 51) → c2 a j = c a j) → Nw c2 → ((c2 41 4 ≥ c 41 4)) → ((c2 41 7 = c 41 7)) → ((c 41 4 + c2 41 29 ≤ c 41 29 + c2 41 4)) → ((c2 41 5 < (-1)) ∨ (c2 41 5 > (-1)) ∨ (c2 41 4 ≤ c 41 3)) → ((c2 41 5 < (-1)) ∨ (c2 41 5 > (-1)) ∨ (Nh c2 = Nh c + 1)) → 1211 - 2 * c2 41 4 < (n : Int) → Wp sc (d + 15) 173 4 [(0, .ref 41)] [] (Wd P Q P P c2) 0 0 Z) := by
  intro n
  induction n with
  | zero => exact (by intro c2 hI2 hF hW2 hx0 hx1 hx2 hx3 hx4 hm9; have hP := iv_P hI; have hQ := iv_Q hI; have h_218 := ir_41_4 hI2; exfalso; omega)
  | succ n ih =>
    have hP := iv_P hI
    have hQ := iv_Q hI
    intro c2 hI2 hF hW2 hx0 hx1 hx2 hx3 hx4 hm9
    have h_1 := ir_41_4 hI
    have h_2 := ir_41_4 hI2
    have h_3 := ir_41_7 hI
    have h_4 := ir_41_7 hI2
    have h_5 := ir_41_29 hI
    have h_6 := ir_41_29 hI2
    have h_7 := ir_41_3 hI
    have h_8 := ir_41_5 hI2
    have hnn := nw_nn hW (ir_41_29 hI).1
    refine q_aload_n c_173_4 rfl (v_cv c_173_5 km_8_131 rfl rfl (Nat.le_of_ble_eq_true rfl) ⟨⟨rfl, rfl⟩, Nat.le_of_ble_eq_true rfl, rfl⟩ (Nat.le_of_ble_eq_true rfl) (Nat.le_of_ble_eq_true rfl) (q_aload_n c_152_0 rfl (v_gi (z := 5) (v := c2 41 5) c_152_1 kf_8_102 rfl (Nat.le_of_ble_eq_true rfl) rfl rfl rfl (q_iconst c_152_4 ?_))))
    by_cases h_9 : c2 41 5 ≠ (-1)
    · refine v_ic_ne_t (t := 12) c_152_5 rfl ⟨h_9, ⟨(lel h_8.1 rfl), (ler h_8.2 rfl)⟩, of_decide_eq_true rfl, of_decide_eq_true rfl⟩ (q_iconst c_152_12 (v_zret c_152_13 rfl (of_decide_eq_true rfl) (bk_inl (v_if_eq_t (t := 90) c_173_8 rfl (of_decide_eq_true rfl) (q_vret rfl rfl ?_)))))
      exact K c2 hI2 (fun a j hm => hF a j hm) hW2 (by first | (clear ho hq0 hq1 hq2 hq3 hq4 hx1 hx2 h_1 h_2 h_3 h_4 h_5 h_6 h_7 h_8 hnn hx3 hx4 h_9; omega) | omega) (by first | (clear ho hq0 hq1 hq2 hq3 hq4 hx0 hx2 h_1 h_2 h_3 h_4 h_5 h_6 h_7 h_8 hnn hx3 hx4 h_9; omega) | omega) (by first | (clear ho hq0 hq1 hq2 hq3 hq4 hx0 hx1 h_1 h_2 h_3 h_4 h_5 h_6 h_7 h_8 hnn hx3 hx4 h_9; omega) | omega) (Or.inr (Or.inl ((q_2c2c046ea h_8 h_9)))) (Or.inr (Or.inl ((q_2c2c046ea h_8 h_9))))
    · refine v_ic_ne_f (t := 12) c_152_5 rfl (Decidable.not_not.mp h_9) (q_iconst c_152_8 (q_goto (t := 13) c_152_9 rfl (v_zret c_152_13 rfl (of_decide_eq_true rfl) (bk_inl (v_if_eq_f (t := 90) c_173_8 rfl (of_decide_eq_true rfl) (q_aload_n c_173_11 rfl ?_))))))
      have kn_10 : Hid (c2 41 3 = c 41 3) := hF 41 3 qn_d31ba9b5e
      have h_11 := ir_43 hI (c2 41 4)
      have h_12 := nx_be (b := c 43) (e := c 41 3) (a := c2 41 4) (by first | (clear ho hq0 hq1 hq2 hq3 hq4 hx0 hx1 hx2 h_1 h_2 h_3 h_4 h_5 h_6 h_7 hnn h_11 hx4; omega) | omega)
      have h_13 := ir_43 hI (nx (c 43) (c 41 3) (c2 41 4))
      have h_14 := nx_n (b := c 43) (e := c 41 3) (a := c2 41 4)
      have h_15 := hb_or (b := c 43) (e := c 41 3) (r := (nx (c 43) (c 41 3) (c2 41 4)))
      have h_16 := hb_bd (b := c 43) (e := c 41 3) (r := (nx (c 43) (c 41 3) (c2 41 4))) (lo := -2147483648) (hi := 2147483647) h_13 (of_decide_eq_true rfl)
      refine v_cv c_173_12 km_8_114 rfl rfl (Nat.le_of_ble_eq_true rfl) ⟨⟨rfl, rfl⟩, Nat.le_of_ble_eq_true rfl, rfl⟩ (Nat.le_of_ble_eq_true rfl) (Nat.le_of_ble_eq_true rfl) (f_154 (e1 := c 41 3) (a9 := c2 41 4) (B := c 43) (r8 := (nx (c 43) (c 41 3) (c2 41 4))) (r := (hb (c 43) (c 41 3) (nx (c 43) (c 41 3) (c2 41 4)))) hI2 ((hid kn_10)) (rfl) (fun j => hF 43 j qn_9b8df3fcd) rfl rfl (fun c_17 hI_18 hF_19 h_20 => (bk_inl (v_bip c_173_15 (of_decide_eq_true rfl) ?_))))
      by_cases h_21 : (hb (c 43) (c 41 3) (nx (c 43) (c 41 3) (c2 41 4))) = 42
      · refine v_ic_eq_t (t := 38) c_173_17 rfl h_21 (q_aload_n c_173_38 rfl ?_)
        have kn_22 : Hid (c_17 41 3 = c 41 3) := (hF_19 41 3 (fun h => absurd h.2 (ni rfl))).trans (hid kn_10)
        refine v_cv c_173_39 km_8_114 rfl rfl (Nat.le_of_ble_eq_true rfl) ⟨⟨rfl, rfl⟩, Nat.le_of_ble_eq_true rfl, rfl⟩ (Nat.le_of_ble_eq_true rfl) (Nat.le_of_ble_eq_true rfl) (f_154 (e1 := c 41 3) (a9 := (nx (c 43) (c 41 3) (c2 41 4))) (B := c 43) (r8 := (nx (c 43) (c 41 3) (c2 41 4))) (r := (hb (c 43) (c 41 3) (nx (c 43) (c 41 3) (c2 41 4)))) hI_18 ((hid kn_22)) ((h_20)) (fun j => (hF_19 43 j (fun h => absurd h.1 (nn rfl))).trans (hF 43 j qn_9b8df3fcd)) (nx_z (Or.inr ((q_a47af64b4 h_15 h_21)))) rfl (fun c_23 hI_24 hF_25 h_26 => (bk_inl (v_bip c_173_42 (of_decide_eq_true rfl) (v_ic_ne_f (t := 51) c_173_44 rfl ((q_f6ef69adf h_21)) (q_iconst c_173_47 (q_goto (t := 66) c_173_48 rfl (q_istore_n c_173_66 (Nat.le_of_ble_eq_true rfl) (q_aload_n c_173_67 rfl ?_)))))))))
        refine q_dup c_173_68 rfl (v_gi (z := 4) (v := (nx (c 43) (c 41 3) (c2 41 4))) c_173_69 kf_8_108 rfl (Nat.le_of_ble_eq_true rfl) rfl rfl (h_26) (q_iconst c_173_72 (v_iadd (v := (nx (c 43) (c 41 3) (c2 41 4)) + 1) c_173_73 rfl (v_pi (z := 4) c_173_74 kf_8_108 rfl (Nat.le_of_ble_eq_true rfl) rfl rfl rfl (of_decide_eq_true rfl) (q_aload_n c_173_77 rfl ?_)))))
        have kn_27 : Hid (c_17 41 5 = c2 41 5) := hF_19 41 5 (fun h => absurd h.2 (ni rfl))
        have kn_28 : Hid (c_23 41 5 = c2 41 5) := (hF_25 41 5 (fun h => absurd h.2 (ni rfl))).trans (hid kn_27)
        have hI_29 := iw_41_4 (v := (nx (c 43) (c 41 3) (c2 41 4)) + 1) hI_24 ⟨(rgp_l (rg_be h_12 (h_2.1) (h_7.2)).1 (of_decide_eq_true rfl)), (rgp_h (rg_be h_12 (h_2.1) (h_7.2)).2 (of_decide_eq_true rfl))⟩
        have h_30 : (up c_23 41 4 ((nx (c 43) (c 41 3) (c2 41 4)) + 1)) 41 5 = c2 41 5 := ((up_n (ni rfl)).trans (hid kn_28))
        have kn_31 : Hid (c_23 41 3 = c 41 3) := (hF_25 41 3 (fun h => absurd h.2 (ni rfl))).trans (hid kn_22)
        have h_32 : (up c_23 41 4 ((nx (c 43) (c 41 3) (c2 41 4)) + 1)) 41 3 = c 41 3 := ((up_n (ni rfl)).trans (hid kn_31))
        have h_33 : (up c_23 41 4 ((nx (c 43) (c 41 3) (c2 41 4)) + 1)) 41 4 = (nx (c 43) (c 41 3) (c2 41 4)) + 1 := (up_e rfl)
        have kn_34 : Hid (c_17 41 29 = c2 41 29) := hF_19 41 29 (fun h => absurd h.2 (ni rfl))
        have kn_35 : Hid (c_23 41 29 = c2 41 29) := (hF_25 41 29 (fun h => absurd h.2 (ni rfl))).trans (hid kn_34)
        have h_36 : (up c_23 41 4 ((nx (c 43) (c 41 3) (c2 41 4)) + 1)) 41 29 = c2 41 29 := ((up_n (ni rfl)).trans (hid kn_35))
        have kn_37 : Hid (c_17 41 7 = c2 41 7) := hF_19 41 7 (fun h => absurd h.2 (ni rfl))
        have kn_38 : Hid (c_23 41 7 = c2 41 7) := (hF_25 41 7 (fun h => absurd h.2 (ni rfl))).trans (hid kn_37)
        have h_39 : (up c_23 41 4 ((nx (c 43) (c 41 3) (c2 41 4)) + 1)) 41 7 = c2 41 7 := ((up_n (ni rfl)).trans (hid kn_38))
        obtain ⟨hW_40, hN_41⟩ : Nw (up c_23 41 4 ((nx (c 43) (c 41 3) (c2 41 4)) + 1)) ∧ Nh (up c_23 41 4 ((nx (c 43) (c 41 3) (c2 41 4)) + 1)) = Nh c2 := nh_fr hW2 (fun j => (up_c (nn rfl)).trans ((hF_25 50 j (fun h => absurd h.1 (nn rfl))).trans (hF_19 50 j (fun h => absurd h.1 (nn rfl))))) (fun j => (up_c (nn rfl)).trans ((hF_25 51 j (fun h => absurd h.1 (nn rfl))).trans (hF_19 51 j (fun h => absurd h.1 (nn rfl))))) ((up_n (ni rfl)).trans ((hF_25 41 29 (fun h => absurd h.2 (ni rfl))).trans (hF_19 41 29 (fun h => absurd h.2 (ni rfl)))))
        refine v_cv c_173_78 km_8_245 rfl rfl (Nat.le_of_ble_eq_true rfl) ⟨⟨rfl, rfl⟩, Nat.le_of_ble_eq_true rfl, rfl⟩ (Nat.le_of_ble_eq_true rfl) (Nat.le_of_ble_eq_true rfl) (s_176 (o := o) hI_29 (show 0 ≤ o ∧ o ≤ 6 from by omega) hW_40 ((q_65c5ff97d h_8 h_9)) ((q_1902decf2 h_15 h_21)) ((q_7024b37ce hq2)) (by first | (clear ho hq0 hq1 hq2 hq4 hx0 hx1 h_1 h_2 h_3 h_4 h_5 h_6 h_7 h_8 hnn h_9 h_11 h_13 h_16 h_21 hx3 hx4 h_14 h_15; omega) | omega) (by first | (clear ho hq0 hq1 hq2 hq3 hx0 hx2 h_1 h_2 h_3 h_4 h_5 h_6 h_7 h_8 hnn h_9 h_11 h_12 h_13 h_16 h_21 hx3 hx4 h_14 h_15; omega) | omega) H174 (fun c_42 hI_43 hF_44 hW_45 h_46 h_47 h_48 h_49 h_50 => (bk_inl ?_)))
        have h_51 := ir_41_4 hI_43
        have h_52 := ir_41_7 hI_43
        have h_53 := ir_41_29 hI_43
        have h_54 := ir_41_5 hI_43
        refine q_aload_n c_173_81 rfl (q_iload_n c_173_82 rfl (q_iconst c_173_83 (v_cv c_173_84 km_8_242 rfl rfl (Nat.le_of_ble_eq_true rfl) ⟨⟨rfl, rfl⟩, Nat.le_of_ble_eq_true rfl, rfl⟩ (Nat.le_of_ble_eq_true rfl) (Nat.le_of_ble_eq_true rfl) (s_170 (a1 := 4) (a2 := 0) hI_43 (show 0 ≤ 4 ∧ 4 ≤ 8 from ⟨of_decide_eq_true rfl, of_decide_eq_true rfl⟩) (show 0 ≤ 0 ∧ 0 ≤ 999 from ⟨of_decide_eq_true rfl, of_decide_eq_true rfl⟩) hW_45 (by omega) (by omega) (Or.inr (Or.inr (Or.inl (by first | decide | omega)))) (fun c_55 hI_56 hF_57 hW_58 h_59 h_60 h_61 h_62 => (bk_inl ?_))))))
        have h_63 := ir_41_29 hI_56
        refine q_goto (t := 4) c_173_87 rfl (Wp_ls [(0, .ref 41)] (lsub_cons rfl lsub_nil) ?_)
        have kn_64 : Hid (c_55 41 4 = c_42 41 4) := hF_57 41 4 qn_fcc0aaabe
        have h_65 : c_55 41 4 = c_42 41 4 := (hid kn_64)
        have kn_66 : Hid (c_55 41 5 = c_42 41 5) := hF_57 41 5 qn_c65a44569
        have h_67 : c_55 41 5 = c_42 41 5 := (hid kn_66)
        have kn_68 : Hid (c_55 41 7 = c_42 41 7) := hF_57 41 7 qn_5700af53f
        have h_69 : c_55 41 7 = c_42 41 7 := (hid kn_68)
        exact ih c_55 hI_56 (fun a j hm => (hF_57 a j (qv_d7b4eb562 hm)).trans ((hF_44 a j hm).trans ((up_b (Decidable.or_iff_not_imp_left.mpr (fun h1 h2 => hm (Or.inl ⟨Decidable.not_not.mp h1, h2⟩)))).trans ((hF_25 a j (fun h => hm (Or.inl h))).trans ((hF_19 a j (fun h => hm (Or.inl h))).trans (hF a j hm)))))) hW_58 (by first | (clear ho hq0 hq1 hq2 hq3 hq4 hx1 hx2 h_1 h_2 h_3 h_4 h_5 h_6 h_7 h_8 hnn h_9 h_11 h_13 h_16 h_21 h_51 h_52 h_47 h_53 h_48 h_54 h_63 hx3 hx4 h_14 h_15 h_49 h_50 h_59 h_60 h_61 h_62; omega) | omega) (by first | (clear ho hq0 hq1 hq2 hq3 hq4 hx0 hx2 h_1 h_2 h_3 h_4 h_5 h_6 h_7 h_8 hnn h_9 h_11 h_12 h_13 h_16 h_21 h_51 h_46 h_52 h_53 h_48 h_54 h_63 hx3 hx4 h_14 h_15 h_49 h_50 h_59 h_60 h_61 h_62; omega) | omega) (by first | (clear ho hq0 hq1 hq2 hq3 hq4 hx0 hx1 h_1 h_2 h_3 h_4 h_5 h_6 h_7 h_8 hnn h_9 h_11 h_13 h_16 h_21 h_51 h_46 h_52 h_47 h_53 h_54 h_63 hx3 hx4 h_14 h_15 h_49 h_50 h_61 h_62; omega) | omega) (by omega) (by omega) (by omega)
      · refine v_ic_eq_f (t := 38) c_173_17 rfl ⟨h_21, ⟨h_16.1, h_16.2⟩, of_decide_eq_true rfl, of_decide_eq_true rfl⟩ (q_aload_n c_173_20 rfl ?_)
        have kn_70 : Hid (c_17 41 3 = c 41 3) := (hF_19 41 3 (fun h => absurd h.2 (ni rfl))).trans (hid kn_10)
        refine v_cv c_173_21 km_8_114 rfl rfl (Nat.le_of_ble_eq_true rfl) ⟨⟨rfl, rfl⟩, Nat.le_of_ble_eq_true rfl, rfl⟩ (Nat.le_of_ble_eq_true rfl) (Nat.le_of_ble_eq_true rfl) (f_154 (e1 := c 41 3) (a9 := (nx (c 43) (c 41 3) (c2 41 4))) (B := c 43) (r8 := (nx (c 43) (c 41 3) (c2 41 4))) (r := (hb (c 43) (c 41 3) (nx (c 43) (c 41 3) (c2 41 4)))) hI_18 ((hid kn_70)) ((h_20)) (fun j => (hF_19 43 j (fun h => absurd h.1 (nn rfl))).trans (hF 43 j qn_9b8df3fcd)) (nx_z (by omega)) rfl (fun c_71 hI_72 hF_73 h_74 => (bk_inl (v_bip c_173_24 (of_decide_eq_true rfl) ?_))))
        by_cases h_75 : (hb (c 43) (c 41 3) (nx (c 43) (c 41 3) (c2 41 4))) = 47
        · refine v_ic_eq_t (t := 38) c_173_26 rfl h_75 (q_aload_n c_173_38 rfl ?_)
          have kn_76 : Hid (c_71 41 3 = c 41 3) := (hF_73 41 3 (fun h => absurd h.2 (ni rfl))).trans (hid kn_70)
          refine v_cv c_173_39 km_8_114 rfl rfl (Nat.le_of_ble_eq_true rfl) ⟨⟨rfl, rfl⟩, Nat.le_of_ble_eq_true rfl, rfl⟩ (Nat.le_of_ble_eq_true rfl) (Nat.le_of_ble_eq_true rfl) (f_154 (e1 := c 41 3) (a9 := (nx (c 43) (c 41 3) (c2 41 4))) (B := c 43) (r8 := (nx (c 43) (c 41 3) (c2 41 4))) (r := (hb (c 43) (c 41 3) (nx (c 43) (c 41 3) (c2 41 4)))) hI_72 ((hid kn_76)) ((h_74)) (fun j => (hF_73 43 j (fun h => absurd h.1 (nn rfl))).trans ((hF_19 43 j (fun h => absurd h.1 (nn rfl))).trans (hF 43 j qn_9b8df3fcd))) (nx_z (Or.inr ((q_6c4626af3 h_15 h_75)))) rfl (fun c_77 hI_78 hF_79 h_80 => (bk_inl (v_bip c_173_42 (of_decide_eq_true rfl) (v_ic_ne_t (t := 51) c_173_44 rfl ⟨(q_54867d76a h_75), ⟨h_16.1, h_16.2⟩, of_decide_eq_true rfl, of_decide_eq_true rfl⟩ (q_aload_n c_173_51 rfl ?_))))))
          have kn_81 : Hid (c_77 41 3 = c 41 3) := (hF_79 41 3 (fun h => absurd h.2 (ni rfl))).trans (hid kn_76)
          refine v_cv c_173_52 km_8_114 rfl rfl (Nat.le_of_ble_eq_true rfl) ⟨⟨rfl, rfl⟩, Nat.le_of_ble_eq_true rfl, rfl⟩ (Nat.le_of_ble_eq_true rfl) (Nat.le_of_ble_eq_true rfl) (f_154 (e1 := c 41 3) (a9 := (nx (c 43) (c 41 3) (c2 41 4))) (B := c 43) (r8 := (nx (c 43) (c 41 3) (c2 41 4))) (r := (hb (c 43) (c 41 3) (nx (c 43) (c 41 3) (c2 41 4)))) hI_78 ((hid kn_81)) ((h_80)) (fun j => (hF_79 43 j (fun h => absurd h.1 (nn rfl))).trans ((hF_73 43 j (fun h => absurd h.1 (nn rfl))).trans ((hF_19 43 j (fun h => absurd h.1 (nn rfl))).trans (hF 43 j qn_9b8df3fcd)))) (nx_z (Or.inr ((q_6c4626af3 h_15 h_75)))) rfl (fun c_82 hI_83 hF_84 h_85 => (bk_inl (v_bip c_173_55 (of_decide_eq_true rfl) (v_ic_ne_f (t := 64) c_173_57 rfl ((q_6c4d03842 h_75)) (q_iconst c_173_60 (q_goto (t := 66) c_173_61 rfl (q_istore_n c_173_66 (Nat.le_of_ble_eq_true rfl) (q_aload_n c_173_67 rfl ?_)))))))))
          refine q_dup c_173_68 rfl (v_gi (z := 4) (v := (nx (c 43) (c 41 3) (c2 41 4))) c_173_69 kf_8_108 rfl (Nat.le_of_ble_eq_true rfl) rfl rfl (h_85) (q_iconst c_173_72 (v_iadd (v := (nx (c 43) (c 41 3) (c2 41 4)) + 1) c_173_73 rfl (v_pi (z := 4) c_173_74 kf_8_108 rfl (Nat.le_of_ble_eq_true rfl) rfl rfl rfl (of_decide_eq_true rfl) (q_aload_n c_173_77 rfl ?_)))))
          have kn_86 : Hid (c_17 41 5 = c2 41 5) := hF_19 41 5 (fun h => absurd h.2 (ni rfl))
          have kn_87 : Hid (c_71 41 5 = c2 41 5) := (hF_73 41 5 (fun h => absurd h.2 (ni rfl))).trans (hid kn_86)
          have kn_88 : Hid (c_77 41 5 = c2 41 5) := (hF_79 41 5 (fun h => absurd h.2 (ni rfl))).trans (hid kn_87)
          have kn_89 : Hid (c_82 41 5 = c2 41 5) := (hF_84 41 5 (fun h => absurd h.2 (ni rfl))).trans (hid kn_88)
          have hI_90 := iw_41_4 (v := (nx (c 43) (c 41 3) (c2 41 4)) + 1) hI_83 ⟨(rgp_l (rg_be h_12 (h_2.1) (h_7.2)).1 (of_decide_eq_true rfl)), (rgp_h (rg_be h_12 (h_2.1) (h_7.2)).2 (of_decide_eq_true rfl))⟩
          have h_91 : (up c_82 41 4 ((nx (c 43) (c 41 3) (c2 41 4)) + 1)) 41 5 = c2 41 5 := ((up_n (ni rfl)).trans (hid kn_89))
          have kn_92 : Hid (c_82 41 3 = c 41 3) := (hF_84 41 3 (fun h => absurd h.2 (ni rfl))).trans (hid kn_81)
          have h_93 : (up c_82 41 4 ((nx (c 43) (c 41 3) (c2 41 4)) + 1)) 41 3 = c 41 3 := ((up_n (ni rfl)).trans (hid kn_92))
          have h_94 : (up c_82 41 4 ((nx (c 43) (c 41 3) (c2 41 4)) + 1)) 41 4 = (nx (c 43) (c 41 3) (c2 41 4)) + 1 := (up_e rfl)
          have kn_95 : Hid (c_17 41 29 = c2 41 29) := hF_19 41 29 (fun h => absurd h.2 (ni rfl))
          have kn_96 : Hid (c_71 41 29 = c2 41 29) := (hF_73 41 29 (fun h => absurd h.2 (ni rfl))).trans (hid kn_95)
          have kn_97 : Hid (c_77 41 29 = c2 41 29) := (hF_79 41 29 (fun h => absurd h.2 (ni rfl))).trans (hid kn_96)
          have kn_98 : Hid (c_82 41 29 = c2 41 29) := (hF_84 41 29 (fun h => absurd h.2 (ni rfl))).trans (hid kn_97)
          have h_99 : (up c_82 41 4 ((nx (c 43) (c 41 3) (c2 41 4)) + 1)) 41 29 = c2 41 29 := ((up_n (ni rfl)).trans (hid kn_98))
          have kn_100 : Hid (c_17 41 7 = c2 41 7) := hF_19 41 7 (fun h => absurd h.2 (ni rfl))
          have kn_101 : Hid (c_71 41 7 = c2 41 7) := (hF_73 41 7 (fun h => absurd h.2 (ni rfl))).trans (hid kn_100)
          have kn_102 : Hid (c_77 41 7 = c2 41 7) := (hF_79 41 7 (fun h => absurd h.2 (ni rfl))).trans (hid kn_101)
          have kn_103 : Hid (c_82 41 7 = c2 41 7) := (hF_84 41 7 (fun h => absurd h.2 (ni rfl))).trans (hid kn_102)
          have h_104 : (up c_82 41 4 ((nx (c 43) (c 41 3) (c2 41 4)) + 1)) 41 7 = c2 41 7 := ((up_n (ni rfl)).trans (hid kn_103))
          obtain ⟨hW_105, hN_106⟩ : Nw (up c_82 41 4 ((nx (c 43) (c 41 3) (c2 41 4)) + 1)) ∧ Nh (up c_82 41 4 ((nx (c 43) (c 41 3) (c2 41 4)) + 1)) = Nh c2 := nh_fr hW2 (fun j => (up_c (nn rfl)).trans ((hF_84 50 j (fun h => absurd h.1 (nn rfl))).trans ((hF_79 50 j (fun h => absurd h.1 (nn rfl))).trans ((hF_73 50 j (fun h => absurd h.1 (nn rfl))).trans (hF_19 50 j (fun h => absurd h.1 (nn rfl))))))) (fun j => (up_c (nn rfl)).trans ((hF_84 51 j (fun h => absurd h.1 (nn rfl))).trans ((hF_79 51 j (fun h => absurd h.1 (nn rfl))).trans ((hF_73 51 j (fun h => absurd h.1 (nn rfl))).trans (hF_19 51 j (fun h => absurd h.1 (nn rfl))))))) ((up_n (ni rfl)).trans ((hF_84 41 29 (fun h => absurd h.2 (ni rfl))).trans ((hF_79 41 29 (fun h => absurd h.2 (ni rfl))).trans ((hF_73 41 29 (fun h => absurd h.2 (ni rfl))).trans (hF_19 41 29 (fun h => absurd h.2 (ni rfl)))))))
          refine v_cv c_173_78 km_8_245 rfl rfl (Nat.le_of_ble_eq_true rfl) ⟨⟨rfl, rfl⟩, Nat.le_of_ble_eq_true rfl, rfl⟩ (Nat.le_of_ble_eq_true rfl) (Nat.le_of_ble_eq_true rfl) (s_176 (o := o) hI_90 (show 0 ≤ o ∧ o ≤ 6 from by omega) hW_105 ((q_65c5ff97d h_8 h_9)) ((q_b2128a618 h_15 h_75)) ((q_7024b37ce hq2)) (by first | (clear ho hq0 hq1 hq2 hq4 hx0 hx1 h_1 h_2 h_3 h_4 h_5 h_6 h_7 h_8 hnn h_9 h_11 h_13 h_16 h_75 hx3 hx4 h_14 h_15 h_21; omega) | omega) (by first | (clear ho hq0 hq1 hq2 hq3 hx0 hx2 h_1 h_2 h_3 h_4 h_5 h_6 h_7 h_8 hnn h_9 h_11 h_12 h_13 h_16 h_75 hx3 hx4 h_14 h_15 h_21; omega) | omega) H174 (fun c_107 hI_108 hF_109 hW_110 h_111 h_112 h_113 h_114 h_115 => (bk_inl ?_)))
          have h_116 := ir_41_4 hI_108
          have h_117 := ir_41_7 hI_108
          have h_118 := ir_41_29 hI_108
          have h_119 := ir_41_5 hI_108
          refine q_aload_n c_173_81 rfl (q_iload_n c_173_82 rfl (q_iconst c_173_83 (v_cv c_173_84 km_8_242 rfl rfl (Nat.le_of_ble_eq_true rfl) ⟨⟨rfl, rfl⟩, Nat.le_of_ble_eq_true rfl, rfl⟩ (Nat.le_of_ble_eq_true rfl) (Nat.le_of_ble_eq_true rfl) (s_170 (a1 := 5) (a2 := 0) hI_108 (show 0 ≤ 5 ∧ 5 ≤ 8 from ⟨of_decide_eq_true rfl, of_decide_eq_true rfl⟩) (show 0 ≤ 0 ∧ 0 ≤ 999 from ⟨of_decide_eq_true rfl, of_decide_eq_true rfl⟩) hW_110 (by omega) (by omega) (Or.inr (Or.inr (Or.inl (by first | decide | omega)))) (fun c_120 hI_121 hF_122 hW_123 h_124 h_125 h_126 h_127 => (bk_inl ?_))))))
          have h_128 := ir_41_29 hI_121
          refine q_goto (t := 4) c_173_87 rfl (Wp_ls [(0, .ref 41)] (lsub_cons rfl lsub_nil) ?_)
          have kn_129 : Hid (c_120 41 4 = c_107 41 4) := hF_122 41 4 qn_fcc0aaabe
          have h_130 : c_120 41 4 = c_107 41 4 := (hid kn_129)
          have kn_131 : Hid (c_120 41 5 = c_107 41 5) := hF_122 41 5 qn_c65a44569
          have h_132 : c_120 41 5 = c_107 41 5 := (hid kn_131)
          have kn_133 : Hid (c_120 41 7 = c_107 41 7) := hF_122 41 7 qn_5700af53f
          have h_134 : c_120 41 7 = c_107 41 7 := (hid kn_133)
          exact ih c_120 hI_121 (fun a j hm => (hF_122 a j (qv_d7b4eb562 hm)).trans ((hF_109 a j hm).trans ((up_b (Decidable.or_iff_not_imp_left.mpr (fun h1 h2 => hm (Or.inl ⟨Decidable.not_not.mp h1, h2⟩)))).trans ((hF_84 a j (fun h => hm (Or.inl h))).trans ((hF_79 a j (fun h => hm (Or.inl h))).trans ((hF_73 a j (fun h => hm (Or.inl h))).trans ((hF_19 a j (fun h => hm (Or.inl h))).trans (hF a j hm)))))))) hW_123 (by first | (clear ho hq0 hq1 hq2 hq3 hq4 hx1 hx2 h_1 h_2 h_3 h_4 h_5 h_6 h_7 h_8 hnn h_9 h_11 h_13 h_16 h_75 h_116 h_117 h_112 h_118 h_113 h_119 h_128 hx3 hx4 h_14 h_15 h_21 h_114 h_115 h_124 h_125 h_126 h_127; omega) | omega) (by first | (clear ho hq0 hq1 hq2 hq3 hq4 hx0 hx2 h_1 h_2 h_3 h_4 h_5 h_6 h_7 h_8 hnn h_9 h_11 h_12 h_13 h_16 h_75 h_116 h_111 h_117 h_118 h_113 h_119 h_128 hx3 hx4 h_14 h_15 h_21 h_114 h_115 h_124 h_125 h_126 h_127; omega) | omega) (by first | (clear ho hq0 hq1 hq2 hq3 hq4 hx0 hx1 h_1 h_2 h_3 h_4 h_5 h_6 h_7 h_8 hnn h_9 h_11 h_13 h_16 h_75 h_116 h_111 h_117 h_112 h_118 h_119 h_128 hx3 hx4 h_14 h_15 h_21 h_114 h_115 h_126 h_127; omega) | omega) (by omega) (by omega) (by omega)
        · refine v_ic_eq_f (t := 38) c_173_26 rfl ⟨h_75, ⟨h_16.1, h_16.2⟩, of_decide_eq_true rfl, of_decide_eq_true rfl⟩ (q_aload_n c_173_29 rfl ?_)
          have kn_135 : Hid (c_71 41 3 = c 41 3) := (hF_73 41 3 (fun h => absurd h.2 (ni rfl))).trans (hid kn_70)
          refine v_cv c_173_30 km_8_114 rfl rfl (Nat.le_of_ble_eq_true rfl) ⟨⟨rfl, rfl⟩, Nat.le_of_ble_eq_true rfl, rfl⟩ (Nat.le_of_ble_eq_true rfl) (Nat.le_of_ble_eq_true rfl) (f_154 (e1 := c 41 3) (a9 := (nx (c 43) (c 41 3) (c2 41 4))) (B := c 43) (r8 := (nx (c 43) (c 41 3) (c2 41 4))) (r := (hb (c 43) (c 41 3) (nx (c 43) (c 41 3) (c2 41 4)))) hI_72 ((hid kn_135)) ((h_74)) (fun j => (hF_73 43 j (fun h => absurd h.1 (nn rfl))).trans ((hF_19 43 j (fun h => absurd h.1 (nn rfl))).trans (hF 43 j qn_9b8df3fcd))) (nx_z (by omega)) rfl (fun c_136 hI_137 hF_138 h_139 => (bk_inl (v_bip c_173_33 (of_decide_eq_true rfl) ?_))))
          by_cases h_140 : (hb (c 43) (c 41 3) (nx (c 43) (c 41 3) (c2 41 4))) ≠ 37
          · refine v_ic_ne_t (t := 90) c_173_35 rfl ⟨h_140, ⟨h_16.1, h_16.2⟩, of_decide_eq_true rfl, of_decide_eq_true rfl⟩ (q_vret rfl rfl ?_)
            obtain ⟨hW_141, hN_142⟩ : Nw c_136 ∧ Nh c_136 = Nh c2 := nh_fr hW2 (fun j => (hF_138 50 j (fun h => absurd h.1 (nn rfl))).trans ((hF_73 50 j (fun h => absurd h.1 (nn rfl))).trans (hF_19 50 j (fun h => absurd h.1 (nn rfl))))) (fun j => (hF_138 51 j (fun h => absurd h.1 (nn rfl))).trans ((hF_73 51 j (fun h => absurd h.1 (nn rfl))).trans (hF_19 51 j (fun h => absurd h.1 (nn rfl))))) ((hF_138 41 29 (fun h => absurd h.2 (ni rfl))).trans ((hF_73 41 29 (fun h => absurd h.2 (ni rfl))).trans (hF_19 41 29 (fun h => absurd h.2 (ni rfl)))))
            have kn_143 : Hid (c_17 41 29 = c2 41 29) := hF_19 41 29 (fun h => absurd h.2 (ni rfl))
            have kn_144 : Hid (c_71 41 29 = c2 41 29) := (hF_73 41 29 (fun h => absurd h.2 (ni rfl))).trans (hid kn_143)
            have kn_145 : Hid (c_136 41 29 = c2 41 29) := (hF_138 41 29 (fun h => absurd h.2 (ni rfl))).trans (hid kn_144)
            have h_146 : c_136 41 29 = c2 41 29 := (hid kn_145)
            have h_147 : c_136 41 4 = (nx (c 43) (c 41 3) (c2 41 4)) := (h_139)
            have kn_148 : Hid (c_17 41 5 = c2 41 5) := hF_19 41 5 (fun h => absurd h.2 (ni rfl))
            have kn_149 : Hid (c_71 41 5 = c2 41 5) := (hF_73 41 5 (fun h => absurd h.2 (ni rfl))).trans (hid kn_148)
            have kn_150 : Hid (c_136 41 5 = c2 41 5) := (hF_138 41 5 (fun h => absurd h.2 (ni rfl))).trans (hid kn_149)
            have h_151 : c_136 41 5 = c2 41 5 := (hid kn_150)
            have kn_152 : Hid (c_17 41 7 = c2 41 7) := hF_19 41 7 (fun h => absurd h.2 (ni rfl))
            have kn_153 : Hid (c_71 41 7 = c2 41 7) := (hF_73 41 7 (fun h => absurd h.2 (ni rfl))).trans (hid kn_152)
            have kn_154 : Hid (c_136 41 7 = c2 41 7) := (hF_138 41 7 (fun h => absurd h.2 (ni rfl))).trans (hid kn_153)
            have h_155 : c_136 41 7 = c2 41 7 := (hid kn_154)
            exact K c_136 hI_137 (fun a j hm => (hF_138 a j (fun h => hm (Or.inl h))).trans ((hF_73 a j (fun h => hm (Or.inl h))).trans ((hF_19 a j (fun h => hm (Or.inl h))).trans (hF a j hm)))) hW_141 (by first | (clear ho hq0 hq1 hq2 hq3 hq4 hx1 hx2 h_1 h_2 h_3 h_4 h_5 h_6 h_7 h_8 hnn h_9 h_11 h_13 h_16 hx3 hx4 h_14 h_15 h_21 h_75 h_140; omega) | omega) (by first | (clear ho hq0 hq1 hq2 hq3 hq4 hx0 hx2 h_1 h_2 h_3 h_4 h_5 h_6 h_7 h_8 hnn h_9 h_11 h_12 h_13 h_16 hx3 hx4 h_14 h_15 h_21 h_75 h_140; omega) | omega) (by first | (clear ho hq0 hq1 hq2 hq3 hq4 hx0 hx1 h_1 h_2 h_3 h_4 h_5 h_6 h_7 h_8 hnn h_9 h_11 h_13 h_16 hx3 hx4 h_14 h_15 h_21 h_75 h_140; omega) | omega) (Or.inr (Or.inr ((q_9de36a18e h_12)))) (Or.inr (Or.inr (by first | (clear ho hq0 hq1 hq2 hq3 hq4 hx0 hx1 hx2 h_1 h_2 h_3 h_4 h_5 h_6 h_7 hnn h_11 h_12 h_13 h_16 hx3 h_14 h_15 h_21 h_75 h_140; omega) | omega)))
          · refine v_ic_ne_f (t := 90) c_173_35 rfl (Decidable.not_not.mp h_140) (q_aload_n c_173_38 rfl ?_)
            have kn_156 : Hid (c_136 41 3 = c 41 3) := (hF_138 41 3 (fun h => absurd h.2 (ni rfl))).trans (hid kn_135)
            refine v_cv c_173_39 km_8_114 rfl rfl (Nat.le_of_ble_eq_true rfl) ⟨⟨rfl, rfl⟩, Nat.le_of_ble_eq_true rfl, rfl⟩ (Nat.le_of_ble_eq_true rfl) (Nat.le_of_ble_eq_true rfl) (f_154 (e1 := c 41 3) (a9 := (nx (c 43) (c 41 3) (c2 41 4))) (B := c 43) (r8 := (nx (c 43) (c 41 3) (c2 41 4))) (r := (hb (c 43) (c 41 3) (nx (c 43) (c 41 3) (c2 41 4)))) hI_137 ((hid kn_156)) ((h_139)) (fun j => (hF_138 43 j (fun h => absurd h.1 (nn rfl))).trans ((hF_73 43 j (fun h => absurd h.1 (nn rfl))).trans ((hF_19 43 j (fun h => absurd h.1 (nn rfl))).trans (hF 43 j qn_9b8df3fcd)))) (nx_z (Or.inr ((q_1a6479b5a h_140 h_15)))) rfl (fun c_157 hI_158 hF_159 h_160 => (bk_inl (v_bip c_173_42 (of_decide_eq_true rfl) (v_ic_ne_t (t := 51) c_173_44 rfl ⟨(q_845ed53ed h_140), ⟨h_16.1, h_16.2⟩, of_decide_eq_true rfl, of_decide_eq_true rfl⟩ (q_aload_n c_173_51 rfl ?_))))))
            have kn_161 : Hid (c_157 41 3 = c 41 3) := (hF_159 41 3 (fun h => absurd h.2 (ni rfl))).trans (hid kn_156)
            refine v_cv c_173_52 km_8_114 rfl rfl (Nat.le_of_ble_eq_true rfl) ⟨⟨rfl, rfl⟩, Nat.le_of_ble_eq_true rfl, rfl⟩ (Nat.le_of_ble_eq_true rfl) (Nat.le_of_ble_eq_true rfl) (f_154 (e1 := c 41 3) (a9 := (nx (c 43) (c 41 3) (c2 41 4))) (B := c 43) (r8 := (nx (c 43) (c 41 3) (c2 41 4))) (r := (hb (c 43) (c 41 3) (nx (c 43) (c 41 3) (c2 41 4)))) hI_158 ((hid kn_161)) ((h_160)) (fun j => (hF_159 43 j (fun h => absurd h.1 (nn rfl))).trans ((hF_138 43 j (fun h => absurd h.1 (nn rfl))).trans ((hF_73 43 j (fun h => absurd h.1 (nn rfl))).trans ((hF_19 43 j (fun h => absurd h.1 (nn rfl))).trans (hF 43 j qn_9b8df3fcd))))) (nx_z (Or.inr ((q_1a6479b5a h_140 h_15)))) rfl (fun c_162 hI_163 hF_164 h_165 => (bk_inl (v_bip c_173_55 (of_decide_eq_true rfl) (v_ic_ne_t (t := 64) c_173_57 rfl ⟨(q_cb116462c h_140), ⟨h_16.1, h_16.2⟩, of_decide_eq_true rfl, of_decide_eq_true rfl⟩ (v_bip c_173_64 (of_decide_eq_true rfl) (q_istore_n c_173_66 (Nat.le_of_ble_eq_true rfl) (q_aload_n c_173_67 rfl (q_dup c_173_68 rfl ?_)))))))))
            refine v_gi (z := 4) (v := (nx (c 43) (c 41 3) (c2 41 4))) c_173_69 kf_8_108 rfl (Nat.le_of_ble_eq_true rfl) rfl rfl (h_165) (q_iconst c_173_72 (v_iadd (v := (nx (c 43) (c 41 3) (c2 41 4)) + 1) c_173_73 rfl (v_pi (z := 4) c_173_74 kf_8_108 rfl (Nat.le_of_ble_eq_true rfl) rfl rfl rfl (of_decide_eq_true rfl) (q_aload_n c_173_77 rfl ?_))))
            have kn_166 : Hid (c_17 41 5 = c2 41 5) := hF_19 41 5 (fun h => absurd h.2 (ni rfl))
            have kn_167 : Hid (c_71 41 5 = c2 41 5) := (hF_73 41 5 (fun h => absurd h.2 (ni rfl))).trans (hid kn_166)
            have kn_168 : Hid (c_136 41 5 = c2 41 5) := (hF_138 41 5 (fun h => absurd h.2 (ni rfl))).trans (hid kn_167)
            have kn_169 : Hid (c_157 41 5 = c2 41 5) := (hF_159 41 5 (fun h => absurd h.2 (ni rfl))).trans (hid kn_168)
            have kn_170 : Hid (c_162 41 5 = c2 41 5) := (hF_164 41 5 (fun h => absurd h.2 (ni rfl))).trans (hid kn_169)
            have hI_171 := iw_41_4 (v := (nx (c 43) (c 41 3) (c2 41 4)) + 1) hI_163 ⟨(rgp_l (rg_be h_12 (h_2.1) (h_7.2)).1 (of_decide_eq_true rfl)), (rgp_h (rg_be h_12 (h_2.1) (h_7.2)).2 (of_decide_eq_true rfl))⟩
            have h_172 : (up c_162 41 4 ((nx (c 43) (c 41 3) (c2 41 4)) + 1)) 41 5 = c2 41 5 := ((up_n (ni rfl)).trans (hid kn_170))
            have kn_173 : Hid (c_162 41 3 = c 41 3) := (hF_164 41 3 (fun h => absurd h.2 (ni rfl))).trans (hid kn_161)
            have h_174 : (up c_162 41 4 ((nx (c 43) (c 41 3) (c2 41 4)) + 1)) 41 3 = c 41 3 := ((up_n (ni rfl)).trans (hid kn_173))
            have h_175 : (up c_162 41 4 ((nx (c 43) (c 41 3) (c2 41 4)) + 1)) 41 4 = (nx (c 43) (c 41 3) (c2 41 4)) + 1 := (up_e rfl)
            have kn_176 : Hid (c_17 41 29 = c2 41 29) := hF_19 41 29 (fun h => absurd h.2 (ni rfl))
            have kn_177 : Hid (c_71 41 29 = c2 41 29) := (hF_73 41 29 (fun h => absurd h.2 (ni rfl))).trans (hid kn_176)
            have kn_178 : Hid (c_136 41 29 = c2 41 29) := (hF_138 41 29 (fun h => absurd h.2 (ni rfl))).trans (hid kn_177)
            have kn_179 : Hid (c_157 41 29 = c2 41 29) := (hF_159 41 29 (fun h => absurd h.2 (ni rfl))).trans (hid kn_178)
            have kn_180 : Hid (c_162 41 29 = c2 41 29) := (hF_164 41 29 (fun h => absurd h.2 (ni rfl))).trans (hid kn_179)
            have h_181 : (up c_162 41 4 ((nx (c 43) (c 41 3) (c2 41 4)) + 1)) 41 29 = c2 41 29 := ((up_n (ni rfl)).trans (hid kn_180))
            have kn_182 : Hid (c_17 41 7 = c2 41 7) := hF_19 41 7 (fun h => absurd h.2 (ni rfl))
            have kn_183 : Hid (c_71 41 7 = c2 41 7) := (hF_73 41 7 (fun h => absurd h.2 (ni rfl))).trans (hid kn_182)
            have kn_184 : Hid (c_136 41 7 = c2 41 7) := (hF_138 41 7 (fun h => absurd h.2 (ni rfl))).trans (hid kn_183)
            have kn_185 : Hid (c_157 41 7 = c2 41 7) := (hF_159 41 7 (fun h => absurd h.2 (ni rfl))).trans (hid kn_184)
            have kn_186 : Hid (c_162 41 7 = c2 41 7) := (hF_164 41 7 (fun h => absurd h.2 (ni rfl))).trans (hid kn_185)
            have h_187 : (up c_162 41 4 ((nx (c 43) (c 41 3) (c2 41 4)) + 1)) 41 7 = c2 41 7 := ((up_n (ni rfl)).trans (hid kn_186))
            obtain ⟨hW_188, hN_189⟩ : Nw (up c_162 41 4 ((nx (c 43) (c 41 3) (c2 41 4)) + 1)) ∧ Nh (up c_162 41 4 ((nx (c 43) (c 41 3) (c2 41 4)) + 1)) = Nh c2 := nh_fr hW2 (fun j => (up_c (nn rfl)).trans ((hF_164 50 j (fun h => absurd h.1 (nn rfl))).trans ((hF_159 50 j (fun h => absurd h.1 (nn rfl))).trans ((hF_138 50 j (fun h => absurd h.1 (nn rfl))).trans ((hF_73 50 j (fun h => absurd h.1 (nn rfl))).trans (hF_19 50 j (fun h => absurd h.1 (nn rfl)))))))) (fun j => (up_c (nn rfl)).trans ((hF_164 51 j (fun h => absurd h.1 (nn rfl))).trans ((hF_159 51 j (fun h => absurd h.1 (nn rfl))).trans ((hF_138 51 j (fun h => absurd h.1 (nn rfl))).trans ((hF_73 51 j (fun h => absurd h.1 (nn rfl))).trans (hF_19 51 j (fun h => absurd h.1 (nn rfl)))))))) ((up_n (ni rfl)).trans ((hF_164 41 29 (fun h => absurd h.2 (ni rfl))).trans ((hF_159 41 29 (fun h => absurd h.2 (ni rfl))).trans ((hF_138 41 29 (fun h => absurd h.2 (ni rfl))).trans ((hF_73 41 29 (fun h => absurd h.2 (ni rfl))).trans (hF_19 41 29 (fun h => absurd h.2 (ni rfl))))))))
            refine v_cv c_173_78 km_8_245 rfl rfl (Nat.le_of_ble_eq_true rfl) ⟨⟨rfl, rfl⟩, Nat.le_of_ble_eq_true rfl, rfl⟩ (Nat.le_of_ble_eq_true rfl) (Nat.le_of_ble_eq_true rfl) (s_176 (o := o) hI_171 (show 0 ≤ o ∧ o ≤ 6 from by omega) hW_188 ((q_65c5ff97d h_8 h_9)) ((q_d229d0d89 h_140 h_15)) ((q_7024b37ce hq2)) (by first | (clear ho hq0 hq1 hq2 hq4 hx0 hx1 h_1 h_2 h_3 h_4 h_5 h_6 h_7 h_8 hnn h_9 h_11 h_13 h_16 h_140 hx3 hx4 h_14 h_15 h_21 h_75; omega) | omega) (by first | (clear ho hq0 hq1 hq2 hq3 hx0 hx2 h_1 h_2 h_3 h_4 h_5 h_6 h_7 h_8 hnn h_9 h_11 h_12 h_13 h_16 h_140 hx3 hx4 h_14 h_15 h_21 h_75; omega) | omega) H174 (fun c_190 hI_191 hF_192 hW_193 h_194 h_195 h_196 h_197 h_198 => (bk_inl ?_)))
            have h_199 := ir_41_4 hI_191
            have h_200 := ir_41_7 hI_191
            have h_201 := ir_41_29 hI_191
            have h_202 := ir_41_5 hI_191
            refine q_aload_n c_173_81 rfl (q_iload_n c_173_82 rfl (q_iconst c_173_83 (v_cv c_173_84 km_8_242 rfl rfl (Nat.le_of_ble_eq_true rfl) ⟨⟨rfl, rfl⟩, Nat.le_of_ble_eq_true rfl, rfl⟩ (Nat.le_of_ble_eq_true rfl) (Nat.le_of_ble_eq_true rfl) (s_170 (a1 := 8) (a2 := 0) hI_191 (show 0 ≤ 8 ∧ 8 ≤ 8 from ⟨of_decide_eq_true rfl, of_decide_eq_true rfl⟩) (show 0 ≤ 0 ∧ 0 ≤ 999 from ⟨of_decide_eq_true rfl, of_decide_eq_true rfl⟩) hW_193 (by omega) (by omega) (Or.inr (Or.inr (Or.inl (by first | decide | omega)))) (fun c_203 hI_204 hF_205 hW_206 h_207 h_208 h_209 h_210 => (bk_inl ?_))))))
            have h_211 := ir_41_29 hI_204
            refine q_goto (t := 4) c_173_87 rfl (Wp_ls [(0, .ref 41)] (lsub_cons rfl lsub_nil) ?_)
            have kn_212 : Hid (c_203 41 4 = c_190 41 4) := hF_205 41 4 qn_fcc0aaabe
            have h_213 : c_203 41 4 = c_190 41 4 := (hid kn_212)
            have kn_214 : Hid (c_203 41 5 = c_190 41 5) := hF_205 41 5 qn_c65a44569
            have h_215 : c_203 41 5 = c_190 41 5 := (hid kn_214)
            have kn_216 : Hid (c_203 41 7 = c_190 41 7) := hF_205 41 7 qn_5700af53f
            have h_217 : c_203 41 7 = c_190 41 7 := (hid kn_216)
            exact ih c_203 hI_204 (fun a j hm => (hF_205 a j (qv_d7b4eb562 hm)).trans ((hF_192 a j hm).trans ((up_b (Decidable.or_iff_not_imp_left.mpr (fun h1 h2 => hm (Or.inl ⟨Decidable.not_not.mp h1, h2⟩)))).trans ((hF_164 a j (fun h => hm (Or.inl h))).trans ((hF_159 a j (fun h => hm (Or.inl h))).trans ((hF_138 a j (fun h => hm (Or.inl h))).trans ((hF_73 a j (fun h => hm (Or.inl h))).trans ((hF_19 a j (fun h => hm (Or.inl h))).trans (hF a j hm))))))))) hW_206 (by first | (clear ho hq0 hq1 hq2 hq3 hq4 hx1 hx2 h_1 h_2 h_3 h_4 h_5 h_6 h_7 h_8 hnn h_9 h_11 h_13 h_16 h_140 h_199 h_200 h_195 h_201 h_196 h_202 h_211 hx3 hx4 h_14 h_15 h_21 h_75 h_197 h_198 h_207 h_208 h_209 h_210; omega) | omega) (by first | (clear ho hq0 hq1 hq2 hq3 hq4 hx0 hx2 h_1 h_2 h_3 h_4 h_5 h_6 h_7 h_8 hnn h_9 h_11 h_12 h_13 h_16 h_140 h_199 h_194 h_200 h_201 h_196 h_202 h_211 hx3 hx4 h_14 h_15 h_21 h_75 h_197 h_198 h_207 h_208 h_209 h_210; omega) | omega) (by first | (clear ho hq0 hq1 hq2 hq3 hq4 hx0 hx1 h_1 h_2 h_3 h_4 h_5 h_6 h_7 h_8 hnn h_9 h_11 h_13 h_16 h_140 h_199 h_194 h_200 h_195 h_201 h_202 h_211 hx3 hx4 h_14 h_15 h_21 h_75 h_197 h_198 h_209 h_210; omega) | omega) (by omega) (by omega) (by omega)
set_option maxRecDepth 100000 in
set_option maxHeartbeats 4000000 in
theorem s_173 {sc : List Int32} {e : Int} {d u P Q : Nat} {c : ME} {o : Int} {Z : AR → Prop} (hI : Iv u e P Q c) (ho : 0 ≤ o ∧ o ≤ 6) (hW : Nw c) (hq0 : (c 41 5 = (-1))) (hq1 : (c 41 4 ≤ c 41 3)) (hq2 : (c 41 3 ≤ 150)) (hq3 : (c 41 29 ≤ c 41 4)) (hq4 : (c 41 7 = o)) (H174 : ∀ (d9 : Nat) (c : ME) (Z : AR → Prop), d ≤ d9 → o + 1 ≤ 6 → Iv u e P Q c → Nw c → ((c 41 5 = (-1))) → ((c 41 4 ≤ c 41 3)) → ((c 41 3 ≤ 150)) → ((c 41 29 ≤ c 41 4)) → (c 41 7 = o + 1) → (∀ c2 : ME, Iv u e P Q c2 → (∀ (a : Nat) (j : Int), ¬ ((a = 41 ∧ j = 4) ∨ (a = 41 ∧ j = 5) ∨ (a = 41 ∧ j = 6) ∨ (a = 41 ∧ j = 7) ∨ (a = 41 ∧ j = 29) ∨ a = 50 ∨ a = 51) → c2 a j = c a j) → Nw c2 → ((c2 41 4 ≥ c 41 4)) → ((c2 41 7 = c 41 7)) → ((c 41 4 + c2 41 29 ≤ c 41 29 + c2 41 4)) → ((c2 41 5 < (-1)) ∨ (c2 41 5 > (-1)) ∨ (c2 41 4 ≤ c 41 3)) → ((c2 41 5 < (-1)) ∨ (c2 41 5 > (-1)) ∨ (Nh c2 = Nh c + 1)) → Z (.inl none, Wd P Q P P c2, 0, 0)) → Wp sc (d9 + 12) 174 0 [(0, .ref 41)] [] (Wd P Q P P c) 0 0 Z) (K : ∀ (c2 : ME), Iv u e P Q c2 → (∀ (a : Nat) (j : Int), ¬ ((a = 41 ∧ j = 4) ∨ (a = 41 ∧ j = 5) ∨ (a = 41 ∧ j = 6) ∨ (a = 41 ∧ j = 7) ∨ (a = 41 ∧ j = 29) ∨ a = 50 ∨ a = 51) → c2 a j = c a j) → Nw c2 → ((c2 41 4 ≥ c 41 4)) → ((c2 41 7 = c 41 7)) → ((c 41 4 + c2 41 29 ≤ c 41 29 + c2 41 4)) → ((c2 41 5 < (-1)) ∨ (c2 41 5 > (-1)) ∨ (c2 41 4 ≤ c 41 3)) → ((c2 41 5 < (-1)) ∨ (c2 41 5 > (-1)) ∨ (Nh c2 = Nh c + 1)) → Z (.inl (none), Wd P Q P P c2, 0, 0)) : Wp sc (d + 15) 173 0 [(0, .ref 41)] [] (Wd P Q P P c) 0 0 Z := by
  have hP := iv_P hI
  have hQ := iv_Q hI
  have h_219 := ir_41_5 hI
  have h_220 := ir_41_3 hI
  have h_221 := ir_41_4 hI
  have h_222 := ir_41_29 hI
  have h_223 := ir_41_7 hI
  have hnn := nw_nn hW (ir_41_29 hI).1
  refine q_aload_n c_173_0 rfl (v_cv c_173_1 km_8_245 rfl rfl (Nat.le_of_ble_eq_true rfl) ⟨⟨rfl, rfl⟩, Nat.le_of_ble_eq_true rfl, rfl⟩ (Nat.le_of_ble_eq_true rfl) (Nat.le_of_ble_eq_true rfl) (s_176 (o := o) hI (show 0 ≤ o ∧ o ≤ 6 from by omega) hW ((q_ef26995af hq0)) ((q_eb7e24553 hq1)) ((q_7024b37ce hq2)) ((q_eb7e24553 hq3)) ((q_cea541e22 hq4)) H174 (fun c_224 hI_225 hF_226 hW_227 h_228 h_229 h_230 h_231 h_232 => (bk_inl ?_))))
  have h_233 := ir_41_4 hI_225
  have h_234 := ir_41_7 hI_225
  have h_235 := ir_41_29 hI_225
  have h_236 := ir_41_5 hI_225
  refine Wp_ls [(0, .ref 41)] (lsub_cons rfl lsub_nil) ?_
  exact (s_173_l (sc := sc) (d := d) hI ho hW hq0 hq1 hq2 hq3 hq4 H174 K 1214) c_224 hI_225 (fun a j hm => hF_226 a j hm) hW_227 ((q_a2ce855bf h_228)) ((q_cea541e22 h_229)) ((q_56f770f3e h_230)) (by omega) (by omega) (by omega)
