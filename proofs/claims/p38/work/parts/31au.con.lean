section
/-! ===== contracts 13 ===== -/
theorem q_f97c35332 {x0 : Int} (f0 : -2147483648 ≤ x0 ∧ x0 ≤ 2147483647) : (-2147483648) ≤ x0 := by omega
theorem q_79e53d295 {x0 : Int} (f0 : -2147483648 ≤ x0 ∧ x0 ≤ 2147483647) : x0 ≤ 2147483647 := by omega
theorem qn_9b8df3fcd {j : Int} : ¬ (((43 : Nat) = 41 ∧ j = 4) ∨ ((43 : Nat) = 41 ∧ j = 5) ∨ ((43 : Nat) = 41 ∧ j = 6) ∨ ((43 : Nat) = 41 ∧ j = 7) ∨ ((43 : Nat) = 41 ∧ j = 29) ∨ (43 : Nat) = 50 ∨ (43 : Nat) = 51) := (fun q => q.elim (fun h => absurd h.1 (nn rfl)) (fun q => q.elim (fun h => absurd h.1 (nn rfl)) (fun q => q.elim (fun h => absurd h.1 (nn rfl)) (fun q => q.elim (fun h => absurd h.1 (nn rfl)) (fun q => q.elim (fun h => absurd h.1 (nn rfl)) (fun q => q.elim (fun h => absurd h (nn rfl)) (fun h => absurd h (nn rfl))))))))
theorem q_a47af64b4 {x0 x1 x2 x3 : Int} (f0 : (x0 < x1 ∧ x2 = x3) ∨ (x1 ≤ x0 ∧ x2 = 0)) (f1 : x2 = 42) : ¬ x3 = 32 := by omega
theorem q_f6ef69adf {x0 : Int} (f0 : x0 = 42) : x0 = 42 := by omega
theorem q_1902decf2 {x0 x1 x2 x3 : Int} (f0 : (x0 < x1 ∧ x2 = x3) ∨ (x1 ≤ x0 ∧ x2 = 0)) (f1 : x2 = 42) : x0 + 1 ≤ x1 := by omega
theorem q_6c4626af3 {x0 x1 x2 x3 : Int} (f0 : (x0 < x1 ∧ x2 = x3) ∨ (x1 ≤ x0 ∧ x2 = 0)) (f1 : x2 = 47) : ¬ x3 = 32 := by omega
theorem q_54867d76a {x0 : Int} (f0 : x0 = 47) : ¬ x0 = 42 := by omega
theorem q_6c4d03842 {x0 : Int} (f0 : x0 = 47) : x0 = 47 := by omega
theorem q_b2128a618 {x0 x1 x2 x3 : Int} (f0 : (x0 < x1 ∧ x2 = x3) ∨ (x1 ≤ x0 ∧ x2 = 0)) (f1 : x2 = 47) : x0 + 1 ≤ x1 := by omega
theorem q_9de36a18e {x0 x1 x2 : Int} (f0 : x0 ≤ x1 ∧ x1 ≤ x2) : x1 ≤ x2 := by omega
theorem q_1a6479b5a {x0 x1 x2 x3 : Int} (f0 : ¬ (x0 ≠ 37)) (f1 : (x1 < x2 ∧ x0 = x3) ∨ (x2 ≤ x1 ∧ x0 = 0)) : ¬ x3 = 32 := by omega
theorem q_845ed53ed {x0 : Int} (f0 : ¬ (x0 ≠ 37)) : ¬ x0 = 42 := by omega
theorem q_cb116462c {x0 : Int} (f0 : ¬ (x0 ≠ 37)) : ¬ x0 = 47 := by omega
theorem q_d229d0d89 {x0 x1 x2 x3 : Int} (f0 : ¬ (x0 ≠ 37)) (f1 : (x1 < x2 ∧ x0 = x3) ∨ (x2 ≤ x1 ∧ x0 = 0)) : x1 + 1 ≤ x2 := by omega
theorem q_eb7e24553 {x0 x1 : Int} (f0 : (x0 ≤ x1)) : x0 ≤ x1 := by omega
theorem q_56f770f3e {x0 x1 x2 x3 : Int} (f0 : (x0 + x1 ≤ x2 + x3)) : x0 + x1 ≤ x2 + x3 := by omega
theorem c_173_11 : mLk 173 11 = some (.aload_n 0, 1) := rfl
theorem c_173_12 : mLk 173 12 = some (.invokevirtual 114, 3) := rfl
theorem c_173_15 : mLk 173 15 = some (.bipush 42, 2) := rfl
theorem c_173_17 : mLk 173 17 = some (.if_icmp .eq 21, 3) := rfl
theorem c_173_38 : mLk 173 38 = some (.aload_n 0, 1) := rfl
theorem c_173_39 : mLk 173 39 = some (.invokevirtual 114, 3) := rfl
theorem c_173_42 : mLk 173 42 = some (.bipush 42, 2) := rfl
theorem c_173_44 : mLk 173 44 = some (.if_icmp .ne 7, 3) := rfl
theorem c_173_47 : mLk 173 47 = some (.iconst 4, 1) := rfl
theorem c_173_48 : mLk 173 48 = some (.goto 18, 3) := rfl
theorem c_173_66 : mLk 173 66 = some (.istore_n 1, 1) := rfl
theorem c_173_67 : mLk 173 67 = some (.aload_n 0, 1) := rfl
theorem c_173_68 : mLk 173 68 = some (.dup, 1) := rfl
theorem c_173_69 : mLk 173 69 = some (.getfield 108, 3) := rfl
theorem c_173_72 : mLk 173 72 = some (.iconst 1, 1) := rfl
theorem c_173_73 : mLk 173 73 = some (.iadd, 1) := rfl
theorem c_173_74 : mLk 173 74 = some (.putfield 108, 3) := rfl
theorem c_173_77 : mLk 173 77 = some (.aload_n 0, 1) := rfl
theorem c_173_78 : mLk 173 78 = some (.invokevirtual 245, 3) := rfl
theorem c_173_81 : mLk 173 81 = some (.aload_n 0, 1) := rfl
theorem c_173_82 : mLk 173 82 = some (.iload_n 1, 1) := rfl
theorem c_173_83 : mLk 173 83 = some (.iconst 0, 1) := rfl
theorem c_173_84 : mLk 173 84 = some (.invokevirtual 242, 3) := rfl
theorem c_173_87 : mLk 173 87 = some (.goto (-83), 3) := rfl
theorem c_173_20 : mLk 173 20 = some (.aload_n 0, 1) := rfl
theorem c_173_21 : mLk 173 21 = some (.invokevirtual 114, 3) := rfl
theorem c_173_24 : mLk 173 24 = some (.bipush 47, 2) := rfl
theorem c_173_26 : mLk 173 26 = some (.if_icmp .eq 12, 3) := rfl
theorem c_173_51 : mLk 173 51 = some (.aload_n 0, 1) := rfl
theorem c_173_52 : mLk 173 52 = some (.invokevirtual 114, 3) := rfl
theorem c_173_55 : mLk 173 55 = some (.bipush 47, 2) := rfl
theorem c_173_57 : mLk 173 57 = some (.if_icmp .ne 7, 3) := rfl
theorem c_173_60 : mLk 173 60 = some (.iconst 5, 1) := rfl
theorem c_173_61 : mLk 173 61 = some (.goto 5, 3) := rfl
theorem c_173_29 : mLk 173 29 = some (.aload_n 0, 1) := rfl
theorem c_173_30 : mLk 173 30 = some (.invokevirtual 114, 3) := rfl
theorem c_173_33 : mLk 173 33 = some (.bipush 37, 2) := rfl
theorem c_173_35 : mLk 173 35 = some (.if_icmp .ne 55, 3) := rfl
theorem c_173_64 : mLk 173 64 = some (.bipush 8, 2) := rfl
/-! blanks are passed: the first place that is none -/
noncomputable def sk (b : Int → Int) (e : Int) : Nat → Int → Int
  | 0, a => a
  | n + 1, a => if a < e ∧ b a = 32 then sk b e n (a + 1) else a
noncomputable def nx (b : Int → Int) (e a : Int) : Int := sk b e (e - a).toNat a
noncomputable def hb (b : Int → Int) (e r : Int) : Int := if r < e then b r else 0
theorem nx_s {b : Int → Int} {e a : Int} (h1 : a < e) (h2 : b a = 32) : nx b e a = nx b e (a + 1) := by
  unfold nx
  obtain ⟨n, hn⟩ : ∃ n : Nat, (e - a).toNat = n + 1 := ⟨(e - a).toNat - 1, by omega⟩
  rw [hn, show (e - (a + 1)).toNat = n by omega]
  show (if a < e ∧ b a = 32 then sk b e n (a + 1) else a) = _
  rw [if_pos ⟨h1, h2⟩]
theorem nx_z {b : Int → Int} {e a : Int} (h : e ≤ a ∨ ¬ b a = 32) : nx b e a = a := by
  unfold nx
  cases hn : (e - a).toNat with
  | zero => rfl
  | succ n =>
    show (if a < e ∧ b a = 32 then sk b e n (a + 1) else a) = a
    rw [if_neg (fun q => h.elim (fun q1 => by omega) (fun q2 => q2 q.2))]
theorem sk_bd {b : Int → Int} {e : Int} : ∀ (n : Nat) (a : Int), a ≤ sk b e n a ∧ (sk b e n a ≤ e ∨ sk b e n a = a)
  | 0, a => ⟨Int.le_refl a, Or.inr rfl⟩
  | n + 1, a => by
    show a ≤ (if a < e ∧ b a = 32 then sk b e n (a + 1) else a) ∧ ((if a < e ∧ b a = 32 then sk b e n (a + 1) else a) ≤ e ∨ (if a < e ∧ b a = 32 then sk b e n (a + 1) else a) = a)
    by_cases h : a < e ∧ b a = 32
    · rw [if_pos h]
      have ih := sk_bd (b := b) (e := e) n (a + 1)
      omega
    · rw [if_neg h]
      exact ⟨Int.le_refl a, Or.inr rfl⟩
theorem nx_bd {b : Int → Int} {e a : Int} : a ≤ nx b e a ∧ (nx b e a ≤ e ∨ nx b e a = a) := sk_bd _ _
theorem nx_be {b : Int → Int} {e a : Int} (h : a ≤ e) : a ≤ nx b e a ∧ nx b e a ≤ e := ⟨nx_bd.1, nx_bd.2.elim id (fun z => by rw [z]; exact h)⟩
theorem sk_n {b : Int → Int} {e : Int} : ∀ (n : Nat) (a : Int), e - a ≤ (n : Int) → (e ≤ sk b e n a ∨ ¬ b (sk b e n a) = 32)
  | 0, a, h => Or.inl (show e ≤ a by omega)
  | n + 1, a, h => by
    show e ≤ (if a < e ∧ b a = 32 then sk b e n (a + 1) else a) ∨ ¬ b (if a < e ∧ b a = 32 then sk b e n (a + 1) else a) = 32
    by_cases q : a < e ∧ b a = 32
    · rw [if_pos q]
      exact sk_n n (a + 1) (by omega)
    · rw [if_neg q]
      by_cases q2 : a < e
      · exact Or.inr (fun z => q ⟨q2, z⟩)
      · exact Or.inl (by omega)
theorem nx_n {b : Int → Int} {e a : Int} : e ≤ nx b e a ∨ ¬ b (nx b e a) = 32 := sk_n _ _ (by omega)
theorem hb_or {b : Int → Int} {e r : Int} : (r < e ∧ hb b e r = b r) ∨ (e ≤ r ∧ hb b e r = 0) := by
  unfold hb
  by_cases h : r < e
  · rw [if_pos h]; exact Or.inl ⟨h, rfl⟩
  · rw [if_neg h]; exact Or.inr ⟨by omega, rfl⟩
theorem hb_bd {b : Int → Int} {e r lo hi : Int} (h : lo ≤ b r ∧ b r ≤ hi) (h0 : lo ≤ 0 ∧ 0 ≤ hi) : lo ≤ hb b e r ∧ hb b e r ≤ hi := by
  unfold hb
  split
  · exact h
  · exact h0
set_option maxRecDepth 100000 in
set_option maxHeartbeats 4000000 in
theorem f_154_l {sc : List Int32} {e : Int} {d u P Q : Nat} {c : ME} {e1 a9 r8 r : Int} {B : Int → Int} {Z : AR → Prop} (hI : Iv u e P Q c) (hv0 : c 41 3 = e1) (hv1 : c 41 4 = a9) (hB : ∀ j : Int, c 43 j = B j) (hdr8 : nx B e1 a9 = r8) (hr9 : hb B e1 r8 = r) (K : ∀ (c2 : ME), Iv u e P Q c2 → (∀ (a : Nat) (j : Int), ¬ ((a = 41 ∧ j = 4)) → c2 a j = c a j) → ((c2 41 4 = r8)) → Z (.inl (some (vi r)), Wd P Q P P c2, 0, 0)) : ∀ n : Nat, (∀ (c2 : ME), Iv u e P Q c2 → (∀ (a : Nat) (j : Int), ¬ ((a = 41 ∧ j = 4)) → c2 a j = c a j) → (nx B e1 (c2 41 4) = r8) → 1211 - 2 * c2 41 4 < (n : Int) → Wp sc (d + 7) 154 0 [(0, .ref 41)] [] (Wd P Q P P c2) 0 0 Z) := by
  intro n
  induction n with
  | zero => exact (by intro c2 hI2 hF hx0 hm9; have hP := iv_P hI; have hQ := iv_Q hI; have h_10 := ir_41_4 hI2; exfalso; omega)
  | succ n ih =>
    have hP := iv_P hI
    have hQ := iv_Q hI
    intro c2 hI2 hF hx0 hm9
    have h_1 := ir_41_4 hI2
    refine q_aload_n c_154_0 rfl (v_gi (z := 4) (v := c2 41 4) c_154_1 kf_8_108 rfl (nb_ rfl) rfl rfl rfl (q_aload_n c_154_4 rfl ?_))
    have h_2 := ir_41_3 hI
    have kn_3 : Hid (c2 41 3 = c 41 3) := hF 41 3 (fun h => absurd h.2 (ni rfl))
    refine v_gi (z := 3) (v := c 41 3) c_154_5 kf_8_111 rfl (nb_ rfl) rfl rfl (hid kn_3) ?_
    by_cases h_4 : c2 41 4 ≥ c 41 3
    · refine v_ic_ge_t (t := 38) c_154_8 rfl ⟨by first | exact q_3b2b08511 h_2 | omega, h_4, (Int.le_trans h_1.2 (by decide))⟩ (q_aload_n c_154_38 rfl (v_gi (z := 4) (v := c2 41 4) c_154_39 kf_8_108 rfl (nb_ rfl) rfl rfl rfl (q_aload_n c_154_42 rfl (v_gi (z := 3) (v := c 41 3) c_154_43 kf_8_111 rfl (nb_ rfl) rfl rfl (hid kn_3) (v_ic_ge_t (t := 61) c_154_46 rfl ⟨by first | exact q_3b2b08511 h_2 | omega, by first | exact q_a29fbb6d7 h_4 | omega, (Int.le_trans h_1.2 (by decide))⟩ (q_iconst c_154_61 (q_iret c_154_62 rfl ?_)))))))
      have hz8 : nx B e1 (c2 41 4) = c2 41 4 := nx_z (by omega)
      have hz9 : r8 = c2 41 4 := hx0.symm.trans hz8
      exact zv (by rw [← hr9, hz9]; unfold hb; rw [if_neg (by omega)]) (K c2 hI2 (fun a j hm => hF a j hm) (by omega))
    · refine v_ic_ge_f (t := 38) c_154_8 rfl ⟨(Int.le_trans (by decide) h_1.1), (Int.not_le.mp h_4), by first | exact q_3885e607f h_2 | omega⟩ (q_aload_n c_154_11 rfl (v_gr (t := 43) c_154_12 kf_8_20 rfl (nb_ rfl) rfl (q_aload_n c_154_15 rfl (v_gi (z := 4) (v := c2 41 4) c_154_16 kf_8_108 rfl (nb_ rfl) rfl rfl rfl ?_))))
      have h_5 : -2147483648 ≤ (B (c2 41 4)) ∧ (B (c2 41 4)) ≤ 2147483647 := by rw [← hB (c2 41 4)]; exact ir_43 hI (c2 41 4)
      have kn_6 : Hid (c2 43 (c2 41 4) = (B (c2 41 4))) := (hF 43 (c2 41 4) (fun h => absurd h.1 (nn rfl))).trans (hB (c2 41 4))
      refine v_ia (v := (B (c2 41 4))) c_154_19 rfl (by decide) (by decide) ⟨h_1.1, by first | exact q_364416c3d h_2 h_4 | omega⟩ (hid kn_6) (v_bip c_154_20 (by decide) ?_)
      by_cases h_7 : (B (c2 41 4)) ≠ 32
      · refine v_ic_ne_t (t := 38) c_154_22 rfl ⟨h_7, ⟨by first | exact q_f97c35332 h_5 | omega, by first | exact q_79e53d295 h_5 | omega⟩, by decide, by decide⟩ (q_aload_n c_154_38 rfl (v_gi (z := 4) (v := c2 41 4) c_154_39 kf_8_108 rfl (nb_ rfl) rfl rfl rfl (q_aload_n c_154_42 rfl (v_gi (z := 3) (v := c 41 3) c_154_43 kf_8_111 rfl (nb_ rfl) rfl rfl (hid kn_3) (v_ic_ge_f (t := 61) c_154_46 rfl ⟨(Int.le_trans (by decide) h_1.1), by first | exact q_d17d18138 h_4 | omega, by first | exact q_3885e607f h_2 | omega⟩ (q_aload_n c_154_49 rfl (v_gr (t := 43) c_154_50 kf_8_20 rfl (nb_ rfl) rfl ?_)))))))
        refine q_aload_n c_154_53 rfl (v_gi (z := 4) (v := c2 41 4) c_154_54 kf_8_108 rfl (nb_ rfl) rfl rfl rfl (v_ia (v := (B (c2 41 4))) c_154_57 rfl (by decide) (by decide) ⟨h_1.1, by first | exact q_364416c3d h_2 h_4 | omega⟩ (hid kn_6) (q_goto (t := 62) c_154_58 rfl (q_iret c_154_62 rfl ?_))))
        have hz8 : nx B e1 (c2 41 4) = c2 41 4 := nx_z (by omega)
        have hz9 : r8 = c2 41 4 := hx0.symm.trans hz8
        exact zv (by rw [← hr9, hz9]; unfold hb; rw [if_pos (by omega)]) (K c2 hI2 (fun a j hm => hF a j hm) (by omega))
      · refine v_ic_ne_f (t := 38) c_154_22 rfl (Decidable.not_not.mp h_7) (q_aload_n c_154_25 rfl (q_dup c_154_26 rfl (v_gi (z := 4) (v := c2 41 4) c_154_27 kf_8_108 rfl (nb_ rfl) rfl rfl rfl (q_iconst c_154_30 (v_iadd (v := c2 41 4 + 1) c_154_31 rfl (v_pi (z := 4) c_154_32 kf_8_108 rfl (nb_ rfl) rfl rfl rfl (by decide) (q_goto (t := 0) c_154_35 rfl ?_)))))))
        have hI_8 := iw_41_4 (v := c2 41 4 + 1) hI2 ⟨by first | exact rgp_l h_1.1 (by decide) | omega, by first | exact q_dadb204b8 h_2 h_4 | omega⟩
        refine Wp_ls [(0, .ref 41)] (lsub_cons rfl lsub_nil) ?_
        have h_9 : (up c2 41 4 (c2 41 4 + 1)) 41 4 = c2 41 4 + 1 := (up_e rfl)
        exact ih (up c2 41 4 (c2 41 4 + 1)) hI_8 (fun a j hm => (up_b (Decidable.or_iff_not_imp_left.mpr (fun h1 h2 => hm ⟨Decidable.not_not.mp h1, h2⟩))).trans (hF a j hm)) (by rw [show (up c2 41 4 (c2 41 4 + 1)) 41 4 = c2 41 4 + 1 from (up_e rfl)]; exact (nx_s (by omega) (by omega)).symm.trans hx0) (by omega)
set_option maxRecDepth 100000 in
set_option maxHeartbeats 4000000 in
theorem f_154 {sc : List Int32} {e : Int} {d u P Q : Nat} {c : ME} {e1 a9 r8 r : Int} {B : Int → Int} {Z : AR → Prop} (hI : Iv u e P Q c) (hv0 : c 41 3 = e1) (hv1 : c 41 4 = a9) (hB : ∀ j : Int, c 43 j = B j) (hdr8 : nx B e1 a9 = r8) (hr9 : hb B e1 r8 = r) (K : ∀ (c2 : ME), Iv u e P Q c2 → (∀ (a : Nat) (j : Int), ¬ ((a = 41 ∧ j = 4)) → c2 a j = c a j) → ((c2 41 4 = r8)) → Z (.inl (some (vi r)), Wd P Q P P c2, 0, 0)) : Wp sc (d + 7) 154 0 [(0, .ref 41)] [] (Wd P Q P P c) 0 0 Z := by
  have hP := iv_P hI
  have hQ := iv_Q hI
  have h_11 := ir_41_3 hI
  have h_12 := ir_41_4 hI
  refine Wp_ls [(0, .ref 41)] (lsub_cons rfl lsub_nil) ?_
  have h_13 : c 41 4 = a9 := (hv1)
  exact (f_154_l (sc := sc) (d := d) hI hv0 hv1 hB hdr8 hr9 K 1214) c hI (fun a j hm => rfl) (by rw [hv1]; exact hdr8) (by omega)
set_option maxRecDepth 100000 in
set_option maxHeartbeats 4000000 in
theorem s_173_l {sc : List Int32} {e : Int} {d u P Q : Nat} {c : ME} {o : Int} {Z : AR → Prop} (hI : Iv u e P Q c) (ho : 0 ≤ o ∧ o ≤ 6) (hW : Nw c) (hq0 : (c 41 5 = (-1))) (hq1 : (c 41 4 ≤ c 41 3)) (hq2 : (c 41 3 ≤ 150)) (hq3 : (c 41 29 ≤ c 41 4)) (hq4 : (c 41 7 = o)) (H174 : ∀ (d9 : Nat) (c : ME) (Z : AR → Prop), d ≤ d9 → o + 1 ≤ 6 → Iv u e P Q c → Nw c → ((c 41 5 = (-1))) → ((c 41 4 ≤ c 41 3)) → ((c 41 3 ≤ 150)) → ((c 41 29 ≤ c 41 4)) → (c 41 7 = o + 1) → (∀ c2 : ME, Iv u e P Q c2 → (∀ (a : Nat) (j : Int), ¬ ((a = 41 ∧ j = 4) ∨ (a = 41 ∧ j = 5) ∨ (a = 41 ∧ j = 6) ∨ (a = 41 ∧ j = 7) ∨ (a = 41 ∧ j = 29) ∨ a = 50 ∨ a = 51) → c2 a j = c a j) → Nw c2 → ((c2 41 4 ≥ c 41 4)) → ((c2 41 7 = c 41 7)) → ((c 41 4 + c2 41 29 ≤ c 41 29 + c2 41 4)) → ((c2 41 5 < (-1)) ∨ (c2 41 5 > (-1)) ∨ (c2 41 4 ≤ c 41 3)) → ((c2 41 5 < (-1)) ∨ (c2 41 5 > (-1)) ∨ (Nh c2 = Nh c + 1)) → Z (.inl none, Wd P Q P P c2, 0, 0)) → Wp sc (d9 + 12) 174 0 [(0, .ref 41)] [] (Wd P Q P P c) 0 0 Z) (K : ∀ (c2 : ME), Iv u e P Q c2 → (∀ (a : Nat) (j : Int), ¬ ((a = 41 ∧ j = 4) ∨ (a = 41 ∧ j = 5) ∨ (a = 41 ∧ j = 6) ∨ (a = 41 ∧ j = 7) ∨ (a = 41 ∧ j = 29) ∨ a = 50 ∨ a = 51) → c2 a j = c a j) → Nw c2 → ((c2 41 4 ≥ c 41 4)) → ((c2 41 7 = c 41 7)) → ((c 41 4 + c2 41 29 ≤ c 41 29 + c2 41 4)) → ((c2 41 5 < (-1)) ∨ (c2 41 5 > (-1)) ∨ (c2 41 4 ≤ c 41 3)) → ((c2 41 5 < (-1)) ∨ (c2 41 5 > (-1)) ∨ (Nh c2 = Nh c + 1)) → Z (.inl (none), Wd P Q P P c2, 0, 0)) : ∀ n : Nat, (∀ (c2 : ME), Iv u e P Q c2 → (∀ (a : Nat) (j : Int), ¬ ((a = 41 ∧ j = 4) ∨ (a = 41 ∧ j = 5) ∨ (a = 41 ∧ j = 6) ∨ (a = 41 ∧ j = 7) ∨ (a = 41 ∧ j = 29) ∨ a = 50 ∨ a = 51) → c2 a j = c a j) → Nw c2 → ((c2 41 4 ≥ c 41 4)) → ((c2 41 7 = c 41 7)) → ((c 41 4 + c2 41 29 ≤ c 41 29 + c2 41 4)) → ((c2 41 5 < (-1)) ∨ (c2 41 5 > (-1)) ∨ (c2 41 4 ≤ c 41 3)) → ((c2 41 5 < (-1)) ∨ (c2 41 5 > (-1)) ∨ (Nh c2 = Nh c + 1)) → 1211 - 2 * c2 41 4 < (n : Int) → Wp sc (d + 15) 173 4 [(0, .ref 41)] [] (Wd P Q P P c2) 0 0 Z) := by
  intro n
  induction n with
  | zero => exact (by intro c2 hI2 hF hW2 hx0 hx1 hx2 hx3 hx4 hm9; have hP := iv_P hI; have hQ := iv_Q hI; have h_218 := ir_41_4 hI2; exfalso; omega)
  | succ n ih =>
    have hP := iv_P hI
    have hQ := iv_Q hI
    intro c2 hI2 hF hW2 hx0 hx1 hx2 hx3 hx4 hm9
    have h_1 := ir_41_4 hI
    have h_2 := ir_41_4 hI2
    have h_3 := ir_41_7 hI
    have h_4 := ir_41_7 hI2
    have h_5 := ir_41_29 hI
    have h_6 := ir_41_29 hI2
    have h_7 := ir_41_3 hI
    have h_8 := ir_41_5 hI2
    have hnn := nw_nn hW (ir_41_29 hI).1
    refine q_aload_n c_173_4 rfl (v_cv c_173_5 km_8_131 rfl rfl (nb_ rfl) ⟨⟨rfl, rfl⟩, nb_ rfl, rfl⟩ (nb_ rfl) (nb_ rfl) (q_aload_n c_152_0 rfl (v_gi (z := 5) (v := c2 41 5) c_152_1 kf_8_102 rfl (nb_ rfl) rfl rfl rfl (q_iconst c_152_4 ?_))))
    by_cases h_9 : c2 41 5 ≠ (-1)
    · refine v_ic_ne_t (t := 12) c_152_5 rfl ⟨h_9, ⟨(Int.le_trans (by decide) h_8.1), (Int.le_trans h_8.2 (by decide))⟩, by decide, by decide⟩ (q_iconst c_152_12 (v_zret c_152_13 rfl (by decide) (bk_inl (v_if_eq_t (t := 90) c_173_8 rfl (by decide) (q_vret rfl rfl ?_)))))
      exact K c2 hI2 (fun a j hm => hF a j hm) hW2 (by first | (clear ho hq0 hq1 hq2 hq3 hq4 hx1 hx2 h_1 h_2 h_3 h_4 h_5 h_6 h_7 h_8 hnn hx3 hx4 h_9; omega) | omega) (by first | (clear ho hq0 hq1 hq2 hq3 hq4 hx0 hx2 h_1 h_2 h_3 h_4 h_5 h_6 h_7 h_8 hnn hx3 hx4 h_9; omega) | omega) (by first | (clear ho hq0 hq1 hq2 hq3 hq4 hx0 hx1 h_1 h_2 h_3 h_4 h_5 h_6 h_7 h_8 hnn hx3 hx4 h_9; omega) | omega) (Or.inr (Or.inl (by first | exact q_2c2c046ea h_8 h_9 | omega))) (Or.inr (Or.inl (by first | exact q_2c2c046ea h_8 h_9 | omega)))
    · refine v_ic_ne_f (t := 12) c_152_5 rfl (Decidable.not_not.mp h_9) (q_iconst c_152_8 (q_goto (t := 13) c_152_9 rfl (v_zret c_152_13 rfl (by decide) (bk_inl (v_if_eq_f (t := 90) c_173_8 rfl (by decide) (q_aload_n c_173_11 rfl ?_))))))
      have kn_10 : Hid (c2 41 3 = c 41 3) := hF 41 3 qn_d31ba9b5e
      have h_11 := ir_43 hI (c2 41 4)
      have h_12 := nx_be (b := c 43) (e := c 41 3) (a := c2 41 4) (by first | (clear ho hq0 hq1 hq2 hq3 hq4 hx0 hx1 hx2 h_1 h_2 h_3 h_4 h_5 h_6 h_7 hnn h_11 hx4; omega) | omega)
      have h_13 := ir_43 hI (nx (c 43) (c 41 3) (c2 41 4))
      have h_14 := nx_n (b := c 43) (e := c 41 3) (a := c2 41 4)
      have h_15 := hb_or (b := c 43) (e := c 41 3) (r := (nx (c 43) (c 41 3) (c2 41 4)))
      have h_16 := hb_bd (b := c 43) (e := c 41 3) (r := (nx (c 43) (c 41 3) (c2 41 4))) (lo := -2147483648) (hi := 2147483647) h_13 (by decide)
      refine v_cv c_173_12 km_8_114 rfl rfl (nb_ rfl) ⟨⟨rfl, rfl⟩, nb_ rfl, rfl⟩ (nb_ rfl) (nb_ rfl) (f_154 (e1 := c 41 3) (a9 := c2 41 4) (B := c 43) (r8 := (nx (c 43) (c 41 3) (c2 41 4))) (r := (hb (c 43) (c 41 3) (nx (c 43) (c 41 3) (c2 41 4)))) hI2 ((hid kn_10)) (rfl) (fun j => hF 43 j qn_9b8df3fcd) rfl rfl (fun c_17 hI_18 hF_19 h_20 => (bk_inl (v_bip c_173_15 (by decide) ?_))))
      by_cases h_21 : (hb (c 43) (c 41 3) (nx (c 43) (c 41 3) (c2 41 4))) = 42
      · refine v_ic_eq_t (t := 38) c_173_17 rfl h_21 (q_aload_n c_173_38 rfl ?_)
        have kn_22 : Hid (c_17 41 3 = c 41 3) := (hF_19 41 3 (fun h => absurd h.2 (ni rfl))).trans (hid kn_10)
        refine v_cv c_173_39 km_8_114 rfl rfl (nb_ rfl) ⟨⟨rfl, rfl⟩, nb_ rfl, rfl⟩ (nb_ rfl) (nb_ rfl) (f_154 (e1 := c 41 3) (a9 := (nx (c 43) (c 41 3) (c2 41 4))) (B := c 43) (r8 := (nx (c 43) (c 41 3) (c2 41 4))) (r := (hb (c 43) (c 41 3) (nx (c 43) (c 41 3) (c2 41 4)))) hI_18 ((hid kn_22)) ((h_20)) (fun j => (hF_19 43 j (fun h => absurd h.1 (nn rfl))).trans (hF 43 j qn_9b8df3fcd)) (nx_z (Or.inr (by first | exact q_a47af64b4 h_15 h_21 | omega))) rfl (fun c_23 hI_24 hF_25 h_26 => (bk_inl (v_bip c_173_42 (by decide) (v_ic_ne_f (t := 51) c_173_44 rfl (by first | exact q_f6ef69adf h_21 | omega) (q_iconst c_173_47 (q_goto (t := 66) c_173_48 rfl (q_istore_n c_173_66 (nb_ rfl) (q_aload_n c_173_67 rfl ?_)))))))))
        refine q_dup c_173_68 rfl (v_gi (z := 4) (v := (nx (c 43) (c 41 3) (c2 41 4))) c_173_69 kf_8_108 rfl (nb_ rfl) rfl rfl (h_26) (q_iconst c_173_72 (v_iadd (v := (nx (c 43) (c 41 3) (c2 41 4)) + 1) c_173_73 rfl (v_pi (z := 4) c_173_74 kf_8_108 rfl (nb_ rfl) rfl rfl rfl (by decide) (q_aload_n c_173_77 rfl ?_)))))
        have kn_27 : Hid (c_17 41 5 = c2 41 5) := hF_19 41 5 (fun h => absurd h.2 (ni rfl))
        have kn_28 : Hid (c_23 41 5 = c2 41 5) := (hF_25 41 5 (fun h => absurd h.2 (ni rfl))).trans (hid kn_27)
        have hI_29 := iw_41_4 (v := (nx (c 43) (c 41 3) (c2 41 4)) + 1) hI_24 ⟨by first | exact rgp_l (rg_be h_12 (h_2.1) (h_7.2)).1 (by decide) | omega, by first | exact rgp_h (rg_be h_12 (h_2.1) (h_7.2)).2 (by decide) | omega⟩
        have h_30 : (up c_23 41 4 ((nx (c 43) (c 41 3) (c2 41 4)) + 1)) 41 5 = c2 41 5 := ((up_n (by decide)).trans (hid kn_28))
        have kn_31 : Hid (c_23 41 3 = c 41 3) := (hF_25 41 3 (fun h => absurd h.2 (ni rfl))).trans (hid kn_22)
        have h_32 : (up c_23 41 4 ((nx (c 43) (c 41 3) (c2 41 4)) + 1)) 41 3 = c 41 3 := ((up_n (by decide)).trans (hid kn_31))
        have h_33 : (up c_23 41 4 ((nx (c 43) (c 41 3) (c2 41 4)) + 1)) 41 4 = (nx (c 43) (c 41 3) (c2 41 4)) + 1 := (up_e rfl)
        have kn_34 : Hid (c_17 41 29 = c2 41 29) := hF_19 41 29 (fun h => absurd h.2 (ni rfl))
        have kn_35 : Hid (c_23 41 29 = c2 41 29) := (hF_25 41 29 (fun h => absurd h.2 (ni rfl))).trans (hid kn_34)
        have h_36 : (up c_23 41 4 ((nx (c 43) (c 41 3) (c2 41 4)) + 1)) 41 29 = c2 41 29 := ((up_n (by decide)).trans (hid kn_35))
        have kn_37 : Hid (c_17 41 7 = c2 41 7) := hF_19 41 7 (fun h => absurd h.2 (ni rfl))
        have kn_38 : Hid (c_23 41 7 = c2 41 7) := (hF_25 41 7 (fun h => absurd h.2 (ni rfl))).trans (hid kn_37)
        have h_39 : (up c_23 41 4 ((nx (c 43) (c 41 3) (c2 41 4)) + 1)) 41 7 = c2 41 7 := ((up_n (by decide)).trans (hid kn_38))
        obtain ⟨hW_40, hN_41⟩ : Nw (up c_23 41 4 ((nx (c 43) (c 41 3) (c2 41 4)) + 1)) ∧ Nh (up c_23 41 4 ((nx (c 43) (c 41 3) (c2 41 4)) + 1)) = Nh c2 := nh_fr hW2 (fun j => (up_c (nn rfl)).trans ((hF_25 50 j (fun h => absurd h.1 (nn rfl))).trans (hF_19 50 j (fun h => absurd h.1 (nn rfl))))) (fun j => (up_c (nn rfl)).trans ((hF_25 51 j (fun h => absurd h.1 (nn rfl))).trans (hF_19 51 j (fun h => absurd h.1 (nn rfl))))) ((up_n (by decide)).trans ((hF_25 41 29 (fun h => absurd h.2 (ni rfl))).trans (hF_19 41 29 (fun h => absurd h.2 (ni rfl)))))
        refine v_cv c_173_78 km_8_245 rfl rfl (nb_ rfl) ⟨⟨rfl, rfl⟩, nb_ rfl, rfl⟩ (nb_ rfl) (nb_ rfl) (s_176 (o := o) hI_29 (show 0 ≤ o ∧ o ≤ 6 from by omega) hW_40 (by first | exact q_65c5ff97d h_8 h_9 | omega) (by first | exact q_1902decf2 h_15 h_21 | omega) (by first | exact q_7024b37ce hq2 | omega) (by first | (clear ho hq0 hq1 hq2 hq4 hx0 hx1 h_1 h_2 h_3 h_4 h_5 h_6 h_7 h_8 hnn h_9 h_11 h_13 h_16 h_21 hx3 hx4 h_14 h_15; omega) | omega) (by first | (clear ho hq0 hq1 hq2 hq3 hx0 hx2 h_1 h_2 h_3 h_4 h_5 h_6 h_7 h_8 hnn h_9 h_11 h_12 h_13 h_16 h_21 hx3 hx4 h_14 h_15; omega) | omega) H174 (fun c_42 hI_43 hF_44 hW_45 h_46 h_47 h_48 h_49 h_50 => (bk_inl ?_)))
        have h_51 := ir_41_4 hI_43
        have h_52 := ir_41_7 hI_43
        have h_53 := ir_41_29 hI_43
        have h_54 := ir_41_5 hI_43
        refine q_aload_n c_173_81 rfl (q_iload_n c_173_82 rfl (q_iconst c_173_83 (v_cv c_173_84 km_8_242 rfl rfl (nb_ rfl) ⟨⟨rfl, rfl⟩, nb_ rfl, rfl⟩ (nb_ rfl) (nb_ rfl) (s_170 (a1 := 4) (a2 := 0) hI_43 (show 0 ≤ 4 ∧ 4 ≤ 8 from ⟨by decide, by decide⟩) (show 0 ≤ 0 ∧ 0 ≤ 999 from ⟨by decide, by decide⟩) hW_45 (by omega) (by omega) (Or.inr (Or.inr (Or.inl (by first | decide | omega)))) (fun c_55 hI_56 hF_57 hW_58 h_59 h_60 h_61 h_62 => (bk_inl ?_))))))
        have h_63 := ir_41_29 hI_56
        refine q_goto (t := 4) c_173_87 rfl (Wp_ls [(0, .ref 41)] (lsub_cons rfl lsub_nil) ?_)
        have kn_64 : Hid (c_55 41 4 = c_42 41 4) := hF_57 41 4 qn_fcc0aaabe
        have h_65 : c_55 41 4 = c_42 41 4 := (hid kn_64)
        have kn_66 : Hid (c_55 41 5 = c_42 41 5) := hF_57 41 5 qn_c65a44569
        have h_67 : c_55 41 5 = c_42 41 5 := (hid kn_66)
        have kn_68 : Hid (c_55 41 7 = c_42 41 7) := hF_57 41 7 qn_5700af53f
        have h_69 : c_55 41 7 = c_42 41 7 := (hid kn_68)
        exact ih c_55 hI_56 (fun a j hm => (hF_57 a j (qv_d7b4eb562 hm)).trans ((hF_44 a j hm).trans ((up_b (Decidable.or_iff_not_imp_left.mpr (fun h1 h2 => hm (Or.inl ⟨Decidable.not_not.mp h1, h2⟩)))).trans ((hF_25 a j (fun h => hm (Or.inl h))).trans ((hF_19 a j (fun h => hm (Or.inl h))).trans (hF a j hm)))))) hW_58 (by first | (clear ho hq0 hq1 hq2 hq3 hq4 hx1 hx2 h_1 h_2 h_3 h_4 h_5 h_6 h_7 h_8 hnn h_9 h_11 h_13 h_16 h_21 h_51 h_52 h_47 h_53 h_48 h_54 h_63 hx3 hx4 h_14 h_15 h_49 h_50 h_59 h_60 h_61 h_62; omega) | omega) (by first | (clear ho hq0 hq1 hq2 hq3 hq4 hx0 hx2 h_1 h_2 h_3 h_4 h_5 h_6 h_7 h_8 hnn h_9 h_11 h_12 h_13 h_16 h_21 h_51 h_46 h_52 h_53 h_48 h_54 h_63 hx3 hx4 h_14 h_15 h_49 h_50 h_59 h_60 h_61 h_62; omega) | omega) (by first | (clear ho hq0 hq1 hq2 hq3 hq4 hx0 hx1 h_1 h_2 h_3 h_4 h_5 h_6 h_7 h_8 hnn h_9 h_11 h_13 h_16 h_21 h_51 h_46 h_52 h_47 h_53 h_54 h_63 hx3 hx4 h_14 h_15 h_49 h_50 h_61 h_62; omega) | omega) (by omega) (by omega) (by omega)
      · refine v_ic_eq_f (t := 38) c_173_17 rfl ⟨h_21, ⟨h_16.1, h_16.2⟩, by decide, by decide⟩ (q_aload_n c_173_20 rfl ?_)
        have kn_70 : Hid (c_17 41 3 = c 41 3) := (hF_19 41 3 (fun h => absurd h.2 (ni rfl))).trans (hid kn_10)
        refine v_cv c_173_21 km_8_114 rfl rfl (nb_ rfl) ⟨⟨rfl, rfl⟩, nb_ rfl, rfl⟩ (nb_ rfl) (nb_ rfl) (f_154 (e1 := c 41 3) (a9 := (nx (c 43) (c 41 3) (c2 41 4))) (B := c 43) (r8 := (nx (c 43) (c 41 3) (c2 41 4))) (r := (hb (c 43) (c 41 3) (nx (c 43) (c 41 3) (c2 41 4)))) hI_18 ((hid kn_70)) ((h_20)) (fun j => (hF_19 43 j (fun h => absurd h.1 (nn rfl))).trans (hF 43 j qn_9b8df3fcd)) (nx_z (by omega)) rfl (fun c_71 hI_72 hF_73 h_74 => (bk_inl (v_bip c_173_24 (by decide) ?_))))
        by_cases h_75 : (hb (c 43) (c 41 3) (nx (c 43) (c 41 3) (c2 41 4))) = 47
        · refine v_ic_eq_t (t := 38) c_173_26 rfl h_75 (q_aload_n c_173_38 rfl ?_)
          have kn_76 : Hid (c_71 41 3 = c 41 3) := (hF_73 41 3 (fun h => absurd h.2 (ni rfl))).trans (hid kn_70)
          refine v_cv c_173_39 km_8_114 rfl rfl (nb_ rfl) ⟨⟨rfl, rfl⟩, nb_ rfl, rfl⟩ (nb_ rfl) (nb_ rfl) (f_154 (e1 := c 41 3) (a9 := (nx (c 43) (c 41 3) (c2 41 4))) (B := c 43) (r8 := (nx (c 43) (c 41 3) (c2 41 4))) (r := (hb (c 43) (c 41 3) (nx (c 43) (c 41 3) (c2 41 4)))) hI_72 ((hid kn_76)) ((h_74)) (fun j => (hF_73 43 j (fun h => absurd h.1 (nn rfl))).trans ((hF_19 43 j (fun h => absurd h.1 (nn rfl))).trans (hF 43 j qn_9b8df3fcd))) (nx_z (Or.inr (by first | exact q_6c4626af3 h_15 h_75 | omega))) rfl (fun c_77 hI_78 hF_79 h_80 => (bk_inl (v_bip c_173_42 (by decide) (v_ic_ne_t (t := 51) c_173_44 rfl ⟨by first | exact q_54867d76a h_75 | omega, ⟨h_16.1, h_16.2⟩, by decide, by decide⟩ (q_aload_n c_173_51 rfl ?_))))))
          have kn_81 : Hid (c_77 41 3 = c 41 3) := (hF_79 41 3 (fun h => absurd h.2 (ni rfl))).trans (hid kn_76)
          refine v_cv c_173_52 km_8_114 rfl rfl (nb_ rfl) ⟨⟨rfl, rfl⟩, nb_ rfl, rfl⟩ (nb_ rfl) (nb_ rfl) (f_154 (e1 := c 41 3) (a9 := (nx (c 43) (c 41 3) (c2 41 4))) (B := c 43) (r8 := (nx (c 43) (c 41 3) (c2 41 4))) (r := (hb (c 43) (c 41 3) (nx (c 43) (c 41 3) (c2 41 4)))) hI_78 ((hid kn_81)) ((h_80)) (fun j => (hF_79 43 j (fun h => absurd h.1 (nn rfl))).trans ((hF_73 43 j (fun h => absurd h.1 (nn rfl))).trans ((hF_19 43 j (fun h => absurd h.1 (nn rfl))).trans (hF 43 j qn_9b8df3fcd)))) (nx_z (Or.inr (by first | exact q_6c4626af3 h_15 h_75 | omega))) rfl (fun c_82 hI_83 hF_84 h_85 => (bk_inl (v_bip c_173_55 (by decide) (v_ic_ne_f (t := 64) c_173_57 rfl (by first | exact q_6c4d03842 h_75 | omega) (q_iconst c_173_60 (q_goto (t := 66) c_173_61 rfl (q_istore_n c_173_66 (nb_ rfl) (q_aload_n c_173_67 rfl ?_)))))))))
          refine q_dup c_173_68 rfl (v_gi (z := 4) (v := (nx (c 43) (c 41 3) (c2 41 4))) c_173_69 kf_8_108 rfl (nb_ rfl) rfl rfl (h_85) (q_iconst c_173_72 (v_iadd (v := (nx (c 43) (c 41 3) (c2 41 4)) + 1) c_173_73 rfl (v_pi (z := 4) c_173_74 kf_8_108 rfl (nb_ rfl) rfl rfl rfl (by decide) (q_aload_n c_173_77 rfl ?_)))))
          have kn_86 : Hid (c_17 41 5 = c2 41 5) := hF_19 41 5 (fun h => absurd h.2 (ni rfl))
          have kn_87 : Hid (c_71 41 5 = c2 41 5) := (hF_73 41 5 (fun h => absurd h.2 (ni rfl))).trans (hid kn_86)
          have kn_88 : Hid (c_77 41 5 = c2 41 5) := (hF_79 41 5 (fun h => absurd h.2 (ni rfl))).trans (hid kn_87)
          have kn_89 : Hid (c_82 41 5 = c2 41 5) := (hF_84 41 5 (fun h => absurd h.2 (ni rfl))).trans (hid kn_88)
          have hI_90 := iw_41_4 (v := (nx (c 43) (c 41 3) (c2 41 4)) + 1) hI_83 ⟨by first | exact rgp_l (rg_be h_12 (h_2.1) (h_7.2)).1 (by decide) | omega, by first | exact rgp_h (rg_be h_12 (h_2.1) (h_7.2)).2 (by decide) | omega⟩
          have h_91 : (up c_82 41 4 ((nx (c 43) (c 41 3) (c2 41 4)) + 1)) 41 5 = c2 41 5 := ((up_n (by decide)).trans (hid kn_89))
          have kn_92 : Hid (c_82 41 3 = c 41 3) := (hF_84 41 3 (fun h => absurd h.2 (ni rfl))).trans (hid kn_81)
          have h_93 : (up c_82 41 4 ((nx (c 43) (c 41 3) (c2 41 4)) + 1)) 41 3 = c 41 3 := ((up_n (by decide)).trans (hid kn_92))
          have h_94 : (up c_82 41 4 ((nx (c 43) (c 41 3) (c2 41 4)) + 1)) 41 4 = (nx (c 43) (c 41 3) (c2 41 4)) + 1 := (up_e rfl)
          have kn_95 : Hid (c_17 41 29 = c2 41 29) := hF_19 41 29 (fun h => absurd h.2 (ni rfl))
          have kn_96 : Hid (c_71 41 29 = c2 41 29) := (hF_73 41 29 (fun h => absurd h.2 (ni rfl))).trans (hid kn_95)
          have kn_97 : Hid (c_77 41 29 = c2 41 29) := (hF_79 41 29 (fun h => absurd h.2 (ni rfl))).trans (hid kn_96)
          have kn_98 : Hid (c_82 41 29 = c2 41 29) := (hF_84 41 29 (fun h => absurd h.2 (ni rfl))).trans (hid kn_97)
          have h_99 : (up c_82 41 4 ((nx (c 43) (c 41 3) (c2 41 4)) + 1)) 41 29 = c2 41 29 := ((up_n (by decide)).trans (hid kn_98))
          have kn_100 : Hid (c_17 41 7 = c2 41 7) := hF_19 41 7 (fun h => absurd h.2 (ni rfl))
          have kn_101 : Hid (c_71 41 7 = c2 41 7) := (hF_73 41 7 (fun h => absurd h.2 (ni rfl))).trans (hid kn_100)
          have kn_102 : Hid (c_77 41 7 = c2 41 7) := (hF_79 41 7 (fun h => absurd h.2 (ni rfl))).trans (hid kn_101)
          have kn_103 : Hid (c_82 41 7 = c2 41 7) := (hF_84 41 7 (fun h => absurd h.2 (ni rfl))).trans (hid kn_102)
          have h_104 : (up c_82 41 4 ((nx (c 43) (c 41 3) (c2 41 4)) + 1)) 41 7 = c2 41 7 := ((up_n (by decide)).trans (hid kn_103))
          obtain ⟨hW_105, hN_106⟩ : Nw (up c_82 41 4 ((nx (c 43) (c 41 3) (c2 41 4)) + 1)) ∧ Nh (up c_82 41 4 ((nx (c 43) (c 41 3) (c2 41 4)) + 1)) = Nh c2 := nh_fr hW2 (fun j => (up_c (nn rfl)).trans ((hF_84 50 j (fun h => absurd h.1 (nn rfl))).trans ((hF_79 50 j (fun h => absurd h.1 (nn rfl))).trans ((hF_73 50 j (fun h => absurd h.1 (nn rfl))).trans (hF_19 50 j (fun h => absurd h.1 (nn rfl))))))) (fun j => (up_c (nn rfl)).trans ((hF_84 51 j (fun h => absurd h.1 (nn rfl))).trans ((hF_79 51 j (fun h => absurd h.1 (nn rfl))).trans ((hF_73 51 j (fun h => absurd h.1 (nn rfl))).trans (hF_19 51 j (fun h => absurd h.1 (nn rfl))))))) ((up_n (by decide)).trans ((hF_84 41 29 (fun h => absurd h.2 (ni rfl))).trans ((hF_79 41 29 (fun h => absurd h.2 (ni rfl))).trans ((hF_73 41 29 (fun h => absurd h.2 (ni rfl))).trans (hF_19 41 29 (fun h => absurd h.2 (ni rfl)))))))
          refine v_cv c_173_78 km_8_245 rfl rfl (nb_ rfl) ⟨⟨rfl, rfl⟩, nb_ rfl, rfl⟩ (nb_ rfl) (nb_ rfl) (s_176 (o := o) hI_90 (show 0 ≤ o ∧ o ≤ 6 from by omega) hW_105 (by first | exact q_65c5ff97d h_8 h_9 | omega) (by first | exact q_b2128a618 h_15 h_75 | omega) (by first | exact q_7024b37ce hq2 | omega) (by first | (clear ho hq0 hq1 hq2 hq4 hx0 hx1 h_1 h_2 h_3 h_4 h_5 h_6 h_7 h_8 hnn h_9 h_11 h_13 h_16 h_75 hx3 hx4 h_14 h_15 h_21; omega) | omega) (by first | (clear ho hq0 hq1 hq2 hq3 hx0 hx2 h_1 h_2 h_3 h_4 h_5 h_6 h_7 h_8 hnn h_9 h_11 h_12 h_13 h_16 h_75 hx3 hx4 h_14 h_15 h_21; omega) | omega) H174 (fun c_107 hI_108 hF_109 hW_110 h_111 h_112 h_113 h_114 h_115 => (bk_inl ?_)))
          have h_116 := ir_41_4 hI_108
          have h_117 := ir_41_7 hI_108
          have h_118 := ir_41_29 hI_108
          have h_119 := ir_41_5 hI_108
          refine q_aload_n c_173_81 rfl (q_iload_n c_173_82 rfl (q_iconst c_173_83 (v_cv c_173_84 km_8_242 rfl rfl (nb_ rfl) ⟨⟨rfl, rfl⟩, nb_ rfl, rfl⟩ (nb_ rfl) (nb_ rfl) (s_170 (a1 := 5) (a2 := 0) hI_108 (show 0 ≤ 5 ∧ 5 ≤ 8 from ⟨by decide, by decide⟩) (show 0 ≤ 0 ∧ 0 ≤ 999 from ⟨by decide, by decide⟩) hW_110 (by omega) (by omega) (Or.inr (Or.inr (Or.inl (by first | decide | omega)))) (fun c_120 hI_121 hF_122 hW_123 h_124 h_125 h_126 h_127 => (bk_inl ?_))))))
          have h_128 := ir_41_29 hI_121
          refine q_goto (t := 4) c_173_87 rfl (Wp_ls [(0, .ref 41)] (lsub_cons rfl lsub_nil) ?_)
          have kn_129 : Hid (c_120 41 4 = c_107 41 4) := hF_122 41 4 qn_fcc0aaabe
          have h_130 : c_120 41 4 = c_107 41 4 := (hid kn_129)
          have kn_131 : Hid (c_120 41 5 = c_107 41 5) := hF_122 41 5 qn_c65a44569
          have h_132 : c_120 41 5 = c_107 41 5 := (hid kn_131)
          have kn_133 : Hid (c_120 41 7 = c_107 41 7) := hF_122 41 7 qn_5700af53f
          have h_134 : c_120 41 7 = c_107 41 7 := (hid kn_133)
          exact ih c_120 hI_121 (fun a j hm => (hF_122 a j (qv_d7b4eb562 hm)).trans ((hF_109 a j hm).trans ((up_b (Decidable.or_iff_not_imp_left.mpr (fun h1 h2 => hm (Or.inl ⟨Decidable.not_not.mp h1, h2⟩)))).trans ((hF_84 a j (fun h => hm (Or.inl h))).trans ((hF_79 a j (fun h => hm (Or.inl h))).trans ((hF_73 a j (fun h => hm (Or.inl h))).trans ((hF_19 a j (fun h => hm (Or.inl h))).trans (hF a j hm)))))))) hW_123 (by first | (clear ho hq0 hq1 hq2 hq3 hq4 hx1 hx2 h_1 h_2 h_3 h_4 h_5 h_6 h_7 h_8 hnn h_9 h_11 h_13 h_16 h_75 h_116 h_117 h_112 h_118 h_113 h_119 h_128 hx3 hx4 h_14 h_15 h_21 h_114 h_115 h_124 h_125 h_126 h_127; omega) | omega) (by first | (clear ho hq0 hq1 hq2 hq3 hq4 hx0 hx2 h_1 h_2 h_3 h_4 h_5 h_6 h_7 h_8 hnn h_9 h_11 h_12 h_13 h_16 h_75 h_116 h_111 h_117 h_118 h_113 h_119 h_128 hx3 hx4 h_14 h_15 h_21 h_114 h_115 h_124 h_125 h_126 h_127; omega) | omega) (by first | (clear ho hq0 hq1 hq2 hq3 hq4 hx0 hx1 h_1 h_2 h_3 h_4 h_5 h_6 h_7 h_8 hnn h_9 h_11 h_13 h_16 h_75 h_116 h_111 h_117 h_112 h_118 h_119 h_128 hx3 hx4 h_14 h_15 h_21 h_114 h_115 h_126 h_127; omega) | omega) (by omega) (by omega) (by omega)
        · refine v_ic_eq_f (t := 38) c_173_26 rfl ⟨h_75, ⟨h_16.1, h_16.2⟩, by decide, by decide⟩ (q_aload_n c_173_29 rfl ?_)
          have kn_135 : Hid (c_71 41 3 = c 41 3) := (hF_73 41 3 (fun h => absurd h.2 (ni rfl))).trans (hid kn_70)
          refine v_cv c_173_30 km_8_114 rfl rfl (nb_ rfl) ⟨⟨rfl, rfl⟩, nb_ rfl, rfl⟩ (nb_ rfl) (nb_ rfl) (f_154 (e1 := c 41 3) (a9 := (nx (c 43) (c 41 3) (c2 41 4))) (B := c 43) (r8 := (nx (c 43) (c 41 3) (c2 41 4))) (r := (hb (c 43) (c 41 3) (nx (c 43) (c 41 3) (c2 41 4)))) hI_72 ((hid kn_135)) ((h_74)) (fun j => (hF_73 43 j (fun h => absurd h.1 (nn rfl))).trans ((hF_19 43 j (fun h => absurd h.1 (nn rfl))).trans (hF 43 j qn_9b8df3fcd))) (nx_z (by omega)) rfl (fun c_136 hI_137 hF_138 h_139 => (bk_inl (v_bip c_173_33 (by decide) ?_))))
          by_cases h_140 : (hb (c 43) (c 41 3) (nx (c 43) (c 41 3) (c2 41 4))) ≠ 37
          · refine v_ic_ne_t (t := 90) c_173_35 rfl ⟨h_140, ⟨h_16.1, h_16.2⟩, by decide, by decide⟩ (q_vret rfl rfl ?_)
            obtain ⟨hW_141, hN_142⟩ : Nw c_136 ∧ Nh c_136 = Nh c2 := nh_fr hW2 (fun j => (hF_138 50 j (fun h => absurd h.1 (nn rfl))).trans ((hF_73 50 j (fun h => absurd h.1 (nn rfl))).trans (hF_19 50 j (fun h => absurd h.1 (nn rfl))))) (fun j => (hF_138 51 j (fun h => absurd h.1 (nn rfl))).trans ((hF_73 51 j (fun h => absurd h.1 (nn rfl))).trans (hF_19 51 j (fun h => absurd h.1 (nn rfl))))) ((hF_138 41 29 (fun h => absurd h.2 (ni rfl))).trans ((hF_73 41 29 (fun h => absurd h.2 (ni rfl))).trans (hF_19 41 29 (fun h => absurd h.2 (ni rfl)))))
            have kn_143 : Hid (c_17 41 29 = c2 41 29) := hF_19 41 29 (fun h => absurd h.2 (ni rfl))
            have kn_144 : Hid (c_71 41 29 = c2 41 29) := (hF_73 41 29 (fun h => absurd h.2 (ni rfl))).trans (hid kn_143)
            have kn_145 : Hid (c_136 41 29 = c2 41 29) := (hF_138 41 29 (fun h => absurd h.2 (ni rfl))).trans (hid kn_144)
            have h_146 : c_136 41 29 = c2 41 29 := (hid kn_145)
            have h_147 : c_136 41 4 = (nx (c 43) (c 41 3) (c2 41 4)) := (h_139)
            have kn_148 : Hid (c_17 41 5 = c2 41 5) := hF_19 41 5 (fun h => absurd h.2 (ni rfl))
            have kn_149 : Hid (c_71 41 5 = c2 41 5) := (hF_73 41 5 (fun h => absurd h.2 (ni rfl))).trans (hid kn_148)
            have kn_150 : Hid (c_136 41 5 = c2 41 5) := (hF_138 41 5 (fun h => absurd h.2 (ni rfl))).trans (hid kn_149)
            have h_151 : c_136 41 5 = c2 41 5 := (hid kn_150)
            have kn_152 : Hid (c_17 41 7 = c2 41 7) := hF_19 41 7 (fun h => absurd h.2 (ni rfl))
            have kn_153 : Hid (c_71 41 7 = c2 41 7) := (hF_73 41 7 (fun h => absurd h.2 (ni rfl))).trans (hid kn_152)
            have kn_154 : Hid (c_136 41 7 = c2 41 7) := (hF_138 41 7 (fun h => absurd h.2 (ni rfl))).trans (hid kn_153)
            have h_155 : c_136 41 7 = c2 41 7 := (hid kn_154)
            exact K c_136 hI_137 (fun a j hm => (hF_138 a j (fun h => hm (Or.inl h))).trans ((hF_73 a j (fun h => hm (Or.inl h))).trans ((hF_19 a j (fun h => hm (Or.inl h))).trans (hF a j hm)))) hW_141 (by first | (clear ho hq0 hq1 hq2 hq3 hq4 hx1 hx2 h_1 h_2 h_3 h_4 h_5 h_6 h_7 h_8 hnn h_9 h_11 h_13 h_16 hx3 hx4 h_14 h_15 h_21 h_75 h_140; omega) | omega) (by first | (clear ho hq0 hq1 hq2 hq3 hq4 hx0 hx2 h_1 h_2 h_3 h_4 h_5 h_6 h_7 h_8 hnn h_9 h_11 h_12 h_13 h_16 hx3 hx4 h_14 h_15 h_21 h_75 h_140; omega) | omega) (by first | (clear ho hq0 hq1 hq2 hq3 hq4 hx0 hx1 h_1 h_2 h_3 h_4 h_5 h_6 h_7 h_8 hnn h_9 h_11 h_13 h_16 hx3 hx4 h_14 h_15 h_21 h_75 h_140; omega) | omega) (Or.inr (Or.inr (by first | exact q_9de36a18e h_12 | omega))) (Or.inr (Or.inr (by first | (clear ho hq0 hq1 hq2 hq3 hq4 hx0 hx1 hx2 h_1 h_2 h_3 h_4 h_5 h_6 h_7 hnn h_11 h_12 h_13 h_16 hx3 h_14 h_15 h_21 h_75 h_140; omega) | omega)))
          · refine v_ic_ne_f (t := 90) c_173_35 rfl (Decidable.not_not.mp h_140) (q_aload_n c_173_38 rfl ?_)
            have kn_156 : Hid (c_136 41 3 = c 41 3) := (hF_138 41 3 (fun h => absurd h.2 (ni rfl))).trans (hid kn_135)
            refine v_cv c_173_39 km_8_114 rfl rfl (nb_ rfl) ⟨⟨rfl, rfl⟩, nb_ rfl, rfl⟩ (nb_ rfl) (nb_ rfl) (f_154 (e1 := c 41 3) (a9 := (nx (c 43) (c 41 3) (c2 41 4))) (B := c 43) (r8 := (nx (c 43) (c 41 3) (c2 41 4))) (r := (hb (c 43) (c 41 3) (nx (c 43) (c 41 3) (c2 41 4)))) hI_137 ((hid kn_156)) ((h_139)) (fun j => (hF_138 43 j (fun h => absurd h.1 (nn rfl))).trans ((hF_73 43 j (fun h => absurd h.1 (nn rfl))).trans ((hF_19 43 j (fun h => absurd h.1 (nn rfl))).trans (hF 43 j qn_9b8df3fcd)))) (nx_z (Or.inr (by first | exact q_1a6479b5a h_140 h_15 | omega))) rfl (fun c_157 hI_158 hF_159 h_160 => (bk_inl (v_bip c_173_42 (by decide) (v_ic_ne_t (t := 51) c_173_44 rfl ⟨by first | exact q_845ed53ed h_140 | omega, ⟨h_16.1, h_16.2⟩, by decide, by decide⟩ (q_aload_n c_173_51 rfl ?_))))))
            have kn_161 : Hid (c_157 41 3 = c 41 3) := (hF_159 41 3 (fun h => absurd h.2 (ni rfl))).trans (hid kn_156)
            refine v_cv c_173_52 km_8_114 rfl rfl (nb_ rfl) ⟨⟨rfl, rfl⟩, nb_ rfl, rfl⟩ (nb_ rfl) (nb_ rfl) (f_154 (e1 := c 41 3) (a9 := (nx (c 43) (c 41 3) (c2 41 4))) (B := c 43) (r8 := (nx (c 43) (c 41 3) (c2 41 4))) (r := (hb (c 43) (c 41 3) (nx (c 43) (c 41 3) (c2 41 4)))) hI_158 ((hid kn_161)) ((h_160)) (fun j => (hF_159 43 j (fun h => absurd h.1 (nn rfl))).trans ((hF_138 43 j (fun h => absurd h.1 (nn rfl))).trans ((hF_73 43 j (fun h => absurd h.1 (nn rfl))).trans ((hF_19 43 j (fun h => absurd h.1 (nn rfl))).trans (hF 43 j qn_9b8df3fcd))))) (nx_z (Or.inr (by first | exact q_1a6479b5a h_140 h_15 | omega))) rfl (fun c_162 hI_163 hF_164 h_165 => (bk_inl (v_bip c_173_55 (by decide) (v_ic_ne_t (t := 64) c_173_57 rfl ⟨by first | exact q_cb116462c h_140 | omega, ⟨h_16.1, h_16.2⟩, by decide, by decide⟩ (v_bip c_173_64 (by decide) (q_istore_n c_173_66 (nb_ rfl) (q_aload_n c_173_67 rfl (q_dup c_173_68 rfl ?_)))))))))
            refine v_gi (z := 4) (v := (nx (c 43) (c 41 3) (c2 41 4))) c_173_69 kf_8_108 rfl (nb_ rfl) rfl rfl (h_165) (q_iconst c_173_72 (v_iadd (v := (nx (c 43) (c 41 3) (c2 41 4)) + 1) c_173_73 rfl (v_pi (z := 4) c_173_74 kf_8_108 rfl (nb_ rfl) rfl rfl rfl (by decide) (q_aload_n c_173_77 rfl ?_))))
            have kn_166 : Hid (c_17 41 5 = c2 41 5) := hF_19 41 5 (fun h => absurd h.2 (ni rfl))
            have kn_167 : Hid (c_71 41 5 = c2 41 5) := (hF_73 41 5 (fun h => absurd h.2 (ni rfl))).trans (hid kn_166)
            have kn_168 : Hid (c_136 41 5 = c2 41 5) := (hF_138 41 5 (fun h => absurd h.2 (ni rfl))).trans (hid kn_167)
            have kn_169 : Hid (c_157 41 5 = c2 41 5) := (hF_159 41 5 (fun h => absurd h.2 (ni rfl))).trans (hid kn_168)
            have kn_170 : Hid (c_162 41 5 = c2 41 5) := (hF_164 41 5 (fun h => absurd h.2 (ni rfl))).trans (hid kn_169)
            have hI_171 := iw_41_4 (v := (nx (c 43) (c 41 3) (c2 41 4)) + 1) hI_163 ⟨by first | exact rgp_l (rg_be h_12 (h_2.1) (h_7.2)).1 (by decide) | omega, by first | exact rgp_h (rg_be h_12 (h_2.1) (h_7.2)).2 (by decide) | omega⟩
            have h_172 : (up c_162 41 4 ((nx (c 43) (c 41 3) (c2 41 4)) + 1)) 41 5 = c2 41 5 := ((up_n (by decide)).trans (hid kn_170))
            have kn_173 : Hid (c_162 41 3 = c 41 3) := (hF_164 41 3 (fun h => absurd h.2 (ni rfl))).trans (hid kn_161)
            have h_174 : (up c_162 41 4 ((nx (c 43) (c 41 3) (c2 41 4)) + 1)) 41 3 = c 41 3 := ((up_n (by decide)).trans (hid kn_173))
            have h_175 : (up c_162 41 4 ((nx (c 43) (c 41 3) (c2 41 4)) + 1)) 41 4 = (nx (c 43) (c 41 3) (c2 41 4)) + 1 := (up_e rfl)
            have kn_176 : Hid (c_17 41 29 = c2 41 29) := hF_19 41 29 (fun h => absurd h.2 (ni rfl))
            have kn_177 : Hid (c_71 41 29 = c2 41 29) := (hF_73 41 29 (fun h => absurd h.2 (ni rfl))).trans (hid kn_176)
            have kn_178 : Hid (c_136 41 29 = c2 41 29) := (hF_138 41 29 (fun h => absurd h.2 (ni rfl))).trans (hid kn_177)
            have kn_179 : Hid (c_157 41 29 = c2 41 29) := (hF_159 41 29 (fun h => absurd h.2 (ni rfl))).trans (hid kn_178)
            have kn_180 : Hid (c_162 41 29 = c2 41 29) := (hF_164 41 29 (fun h => absurd h.2 (ni rfl))).trans (hid kn_179)
            have h_181 : (up c_162 41 4 ((nx (c 43) (c 41 3) (c2 41 4)) + 1)) 41 29 = c2 41 29 := ((up_n (by decide)).trans (hid kn_180))
            have kn_182 : Hid (c_17 41 7 = c2 41 7) := hF_19 41 7 (fun h => absurd h.2 (ni rfl))
            have kn_183 : Hid (c_71 41 7 = c2 41 7) := (hF_73 41 7 (fun h => absurd h.2 (ni rfl))).trans (hid kn_182)
            have kn_184 : Hid (c_136 41 7 = c2 41 7) := (hF_138 41 7 (fun h => absurd h.2 (ni rfl))).trans (hid kn_183)
            have kn_185 : Hid (c_157 41 7 = c2 41 7) := (hF_159 41 7 (fun h => absurd h.2 (ni rfl))).trans (hid kn_184)
            have kn_186 : Hid (c_162 41 7 = c2 41 7) := (hF_164 41 7 (fun h => absurd h.2 (ni rfl))).trans (hid kn_185)
            have h_187 : (up c_162 41 4 ((nx (c 43) (c 41 3) (c2 41 4)) + 1)) 41 7 = c2 41 7 := ((up_n (by decide)).trans (hid kn_186))
            obtain ⟨hW_188, hN_189⟩ : Nw (up c_162 41 4 ((nx (c 43) (c 41 3) (c2 41 4)) + 1)) ∧ Nh (up c_162 41 4 ((nx (c 43) (c 41 3) (c2 41 4)) + 1)) = Nh c2 := nh_fr hW2 (fun j => (up_c (nn rfl)).trans ((hF_164 50 j (fun h => absurd h.1 (nn rfl))).trans ((hF_159 50 j (fun h => absurd h.1 (nn rfl))).trans ((hF_138 50 j (fun h => absurd h.1 (nn rfl))).trans ((hF_73 50 j (fun h => absurd h.1 (nn rfl))).trans (hF_19 50 j (fun h => absurd h.1 (nn rfl)))))))) (fun j => (up_c (nn rfl)).trans ((hF_164 51 j (fun h => absurd h.1 (nn rfl))).trans ((hF_159 51 j (fun h => absurd h.1 (nn rfl))).trans ((hF_138 51 j (fun h => absurd h.1 (nn rfl))).trans ((hF_73 51 j (fun h => absurd h.1 (nn rfl))).trans (hF_19 51 j (fun h => absurd h.1 (nn rfl)))))))) ((up_n (by decide)).trans ((hF_164 41 29 (fun h => absurd h.2 (ni rfl))).trans ((hF_159 41 29 (fun h => absurd h.2 (ni rfl))).trans ((hF_138 41 29 (fun h => absurd h.2 (ni rfl))).trans ((hF_73 41 29 (fun h => absurd h.2 (ni rfl))).trans (hF_19 41 29 (fun h => absurd h.2 (ni rfl))))))))
            refine v_cv c_173_78 km_8_245 rfl rfl (nb_ rfl) ⟨⟨rfl, rfl⟩, nb_ rfl, rfl⟩ (nb_ rfl) (nb_ rfl) (s_176 (o := o) hI_171 (show 0 ≤ o ∧ o ≤ 6 from by omega) hW_188 (by first | exact q_65c5ff97d h_8 h_9 | omega) (by first | exact q_d229d0d89 h_140 h_15 | omega) (by first | exact q_7024b37ce hq2 | omega) (by first | (clear ho hq0 hq1 hq2 hq4 hx0 hx1 h_1 h_2 h_3 h_4 h_5 h_6 h_7 h_8 hnn h_9 h_11 h_13 h_16 h_140 hx3 hx4 h_14 h_15 h_21 h_75; omega) | omega) (by first | (clear ho hq0 hq1 hq2 hq3 hx0 hx2 h_1 h_2 h_3 h_4 h_5 h_6 h_7 h_8 hnn h_9 h_11 h_12 h_13 h_16 h_140 hx3 hx4 h_14 h_15 h_21 h_75; omega) | omega) H174 (fun c_190 hI_191 hF_192 hW_193 h_194 h_195 h_196 h_197 h_198 => (bk_inl ?_)))
            have h_199 := ir_41_4 hI_191
            have h_200 := ir_41_7 hI_191
            have h_201 := ir_41_29 hI_191
            have h_202 := ir_41_5 hI_191
            refine q_aload_n c_173_81 rfl (q_iload_n c_173_82 rfl (q_iconst c_173_83 (v_cv c_173_84 km_8_242 rfl rfl (nb_ rfl) ⟨⟨rfl, rfl⟩, nb_ rfl, rfl⟩ (nb_ rfl) (nb_ rfl) (s_170 (a1 := 8) (a2 := 0) hI_191 (show 0 ≤ 8 ∧ 8 ≤ 8 from ⟨by decide, by decide⟩) (show 0 ≤ 0 ∧ 0 ≤ 999 from ⟨by decide, by decide⟩) hW_193 (by omega) (by omega) (Or.inr (Or.inr (Or.inl (by first | decide | omega)))) (fun c_203 hI_204 hF_205 hW_206 h_207 h_208 h_209 h_210 => (bk_inl ?_))))))
            have h_211 := ir_41_29 hI_204
            refine q_goto (t := 4) c_173_87 rfl (Wp_ls [(0, .ref 41)] (lsub_cons rfl lsub_nil) ?_)
            have kn_212 : Hid (c_203 41 4 = c_190 41 4) := hF_205 41 4 qn_fcc0aaabe
            have h_213 : c_203 41 4 = c_190 41 4 := (hid kn_212)
            have kn_214 : Hid (c_203 41 5 = c_190 41 5) := hF_205 41 5 qn_c65a44569
            have h_215 : c_203 41 5 = c_190 41 5 := (hid kn_214)
            have kn_216 : Hid (c_203 41 7 = c_190 41 7) := hF_205 41 7 qn_5700af53f
            have h_217 : c_203 41 7 = c_190 41 7 := (hid kn_216)
            exact ih c_203 hI_204 (fun a j hm => (hF_205 a j (qv_d7b4eb562 hm)).trans ((hF_192 a j hm).trans ((up_b (Decidable.or_iff_not_imp_left.mpr (fun h1 h2 => hm (Or.inl ⟨Decidable.not_not.mp h1, h2⟩)))).trans ((hF_164 a j (fun h => hm (Or.inl h))).trans ((hF_159 a j (fun h => hm (Or.inl h))).trans ((hF_138 a j (fun h => hm (Or.inl h))).trans ((hF_73 a j (fun h => hm (Or.inl h))).trans ((hF_19 a j (fun h => hm (Or.inl h))).trans (hF a j hm))))))))) hW_206 (by first | (clear ho hq0 hq1 hq2 hq3 hq4 hx1 hx2 h_1 h_2 h_3 h_4 h_5 h_6 h_7 h_8 hnn h_9 h_11 h_13 h_16 h_140 h_199 h_200 h_195 h_201 h_196 h_202 h_211 hx3 hx4 h_14 h_15 h_21 h_75 h_197 h_198 h_207 h_208 h_209 h_210; omega) | omega) (by first | (clear ho hq0 hq1 hq2 hq3 hq4 hx0 hx2 h_1 h_2 h_3 h_4 h_5 h_6 h_7 h_8 hnn h_9 h_11 h_12 h_13 h_16 h_140 h_199 h_194 h_200 h_201 h_196 h_202 h_211 hx3 hx4 h_14 h_15 h_21 h_75 h_197 h_198 h_207 h_208 h_209 h_210; omega) | omega) (by first | (clear ho hq0 hq1 hq2 hq3 hq4 hx0 hx1 h_1 h_2 h_3 h_4 h_5 h_6 h_7 h_8 hnn h_9 h_11 h_13 h_16 h_140 h_199 h_194 h_200 h_195 h_201 h_202 h_211 hx3 hx4 h_14 h_15 h_21 h_75 h_197 h_198 h_209 h_210; omega) | omega) (by omega) (by omega) (by omega)
set_option maxRecDepth 100000 in
set_option maxHeartbeats 4000000 in
theorem s_173 {sc : List Int32} {e : Int} {d u P Q : Nat} {c : ME} {o : Int} {Z : AR → Prop} (hI : Iv u e P Q c) (ho : 0 ≤ o ∧ o ≤ 6) (hW : Nw c) (hq0 : (c 41 5 = (-1))) (hq1 : (c 41 4 ≤ c 41 3)) (hq2 : (c 41 3 ≤ 150)) (hq3 : (c 41 29 ≤ c 41 4)) (hq4 : (c 41 7 = o)) (H174 : ∀ (d9 : Nat) (c : ME) (Z : AR → Prop), d ≤ d9 → o + 1 ≤ 6 → Iv u e P Q c → Nw c → ((c 41 5 = (-1))) → ((c 41 4 ≤ c 41 3)) → ((c 41 3 ≤ 150)) → ((c 41 29 ≤ c 41 4)) → (c 41 7 = o + 1) → (∀ c2 : ME, Iv u e P Q c2 → (∀ (a : Nat) (j : Int), ¬ ((a = 41 ∧ j = 4) ∨ (a = 41 ∧ j = 5) ∨ (a = 41 ∧ j = 6) ∨ (a = 41 ∧ j = 7) ∨ (a = 41 ∧ j = 29) ∨ a = 50 ∨ a = 51) → c2 a j = c a j) → Nw c2 → ((c2 41 4 ≥ c 41 4)) → ((c2 41 7 = c 41 7)) → ((c 41 4 + c2 41 29 ≤ c 41 29 + c2 41 4)) → ((c2 41 5 < (-1)) ∨ (c2 41 5 > (-1)) ∨ (c2 41 4 ≤ c 41 3)) → ((c2 41 5 < (-1)) ∨ (c2 41 5 > (-1)) ∨ (Nh c2 = Nh c + 1)) → Z (.inl none, Wd P Q P P c2, 0, 0)) → Wp sc (d9 + 12) 174 0 [(0, .ref 41)] [] (Wd P Q P P c) 0 0 Z) (K : ∀ (c2 : ME), Iv u e P Q c2 → (∀ (a : Nat) (j : Int), ¬ ((a = 41 ∧ j = 4) ∨ (a = 41 ∧ j = 5) ∨ (a = 41 ∧ j = 6) ∨ (a = 41 ∧ j = 7) ∨ (a = 41 ∧ j = 29) ∨ a = 50 ∨ a = 51) → c2 a j = c a j) → Nw c2 → ((c2 41 4 ≥ c 41 4)) → ((c2 41 7 = c 41 7)) → ((c 41 4 + c2 41 29 ≤ c 41 29 + c2 41 4)) → ((c2 41 5 < (-1)) ∨ (c2 41 5 > (-1)) ∨ (c2 41 4 ≤ c 41 3)) → ((c2 41 5 < (-1)) ∨ (c2 41 5 > (-1)) ∨ (Nh c2 = Nh c + 1)) → Z (.inl (none), Wd P Q P P c2, 0, 0)) : Wp sc (d + 15) 173 0 [(0, .ref 41)] [] (Wd P Q P P c) 0 0 Z := by
  have hP := iv_P hI
  have hQ := iv_Q hI
  have h_219 := ir_41_5 hI
  have h_220 := ir_41_3 hI
  have h_221 := ir_41_4 hI
  have h_222 := ir_41_29 hI
  have h_223 := ir_41_7 hI
  have hnn := nw_nn hW (ir_41_29 hI).1
  refine q_aload_n c_173_0 rfl (v_cv c_173_1 km_8_245 rfl rfl (nb_ rfl) ⟨⟨rfl, rfl⟩, nb_ rfl, rfl⟩ (nb_ rfl) (nb_ rfl) (s_176 (o := o) hI (show 0 ≤ o ∧ o ≤ 6 from by omega) hW (by first | exact q_ef26995af hq0 | omega) (by first | exact q_eb7e24553 hq1 | omega) (by first | exact q_7024b37ce hq2 | omega) (by first | exact q_eb7e24553 hq3 | omega) (by first | exact q_cea541e22 hq4 | omega) H174 (fun c_224 hI_225 hF_226 hW_227 h_228 h_229 h_230 h_231 h_232 => (bk_inl ?_))))
  have h_233 := ir_41_4 hI_225
  have h_234 := ir_41_7 hI_225
  have h_235 := ir_41_29 hI_225
  have h_236 := ir_41_5 hI_225
  refine Wp_ls [(0, .ref 41)] (lsub_cons rfl lsub_nil) ?_
  exact (s_173_l (sc := sc) (d := d) hI ho hW hq0 hq1 hq2 hq3 hq4 H174 K 1214) c_224 hI_225 (fun a j hm => hF_226 a j hm) hW_227 (by first | exact q_a2ce855bf h_228 | omega) (by first | exact q_cea541e22 h_229 | omega) (by first | exact q_56f770f3e h_230 | omega) (by omega) (by omega) (by omega)
end
section
/-! ===== contracts 13 ===== -/
theorem q_d70967205 {x0 x1 x2 x3 : Int} (f0 : (x0 < x1 ∧ x2 = x3) ∨ (x1 ≤ x0 ∧ x2 = 0)) (f1 : x2 = 43) : ¬ x3 = 32 := by omega
theorem q_51fc41203 {x0 : Int} (f0 : x0 = 43) : x0 = 43 := by omega
theorem q_f50714d1a {x0 x1 x2 x3 : Int} (f0 : (x0 < x1 ∧ x2 = x3) ∨ (x1 ≤ x0 ∧ x2 = 0)) (f1 : x2 = 43) : x0 + 1 ≤ x1 := by omega
theorem q_0892e72fe {x0 x1 x2 x3 : Int} (f0 : (x0 < x1 ∧ x2 = x3) ∨ (x1 ≤ x0 ∧ x2 = 0)) (f1 : ¬ (x2 ≠ 45)) : ¬ x3 = 32 := by omega
theorem q_e7493e343 {x0 : Int} (f0 : ¬ (x0 ≠ 45)) : ¬ x0 = 43 := by omega
theorem q_4cc3156b3 {x0 x1 x2 x3 : Int} (f0 : (x0 < x1 ∧ x2 = x3) ∨ (x1 ≤ x0 ∧ x2 = 0)) (f1 : ¬ (x2 ≠ 45)) : x0 + 1 ≤ x1 := by omega
theorem c_174_11 : mLk 174 11 = some (.aload_n 0, 1) := rfl
theorem c_174_12 : mLk 174 12 = some (.invokevirtual 114, 3) := rfl
theorem c_174_15 : mLk 174 15 = some (.bipush 43, 2) := rfl
theorem c_174_17 : mLk 174 17 = some (.if_icmp .eq 12, 3) := rfl
theorem c_174_29 : mLk 174 29 = some (.aload_n 0, 1) := rfl
theorem c_174_30 : mLk 174 30 = some (.invokevirtual 114, 3) := rfl
theorem c_174_33 : mLk 174 33 = some (.bipush 43, 2) := rfl
theorem c_174_35 : mLk 174 35 = some (.if_icmp .ne 7, 3) := rfl
theorem c_174_38 : mLk 174 38 = some (.iconst 2, 1) := rfl
theorem c_174_39 : mLk 174 39 = some (.goto 4, 3) := rfl
theorem c_174_43 : mLk 174 43 = some (.istore_n 1, 1) := rfl
theorem c_174_44 : mLk 174 44 = some (.aload_n 0, 1) := rfl
theorem c_174_45 : mLk 174 45 = some (.dup, 1) := rfl
theorem c_174_46 : mLk 174 46 = some (.getfield 108, 3) := rfl
theorem c_174_49 : mLk 174 49 = some (.iconst 1, 1) := rfl
theorem c_174_50 : mLk 174 50 = some (.iadd, 1) := rfl
theorem c_174_51 : mLk 174 51 = some (.putfield 108, 3) := rfl
theorem c_174_54 : mLk 174 54 = some (.aload_n 0, 1) := rfl
theorem c_174_55 : mLk 174 55 = some (.invokevirtual 239, 3) := rfl
theorem c_174_58 : mLk 174 58 = some (.aload_n 0, 1) := rfl
theorem c_174_59 : mLk 174 59 = some (.iload_n 1, 1) := rfl
theorem c_174_60 : mLk 174 60 = some (.iconst 0, 1) := rfl
theorem c_174_61 : mLk 174 61 = some (.invokevirtual 242, 3) := rfl
theorem c_174_64 : mLk 174 64 = some (.goto (-60), 3) := rfl
theorem c_174_20 : mLk 174 20 = some (.aload_n 0, 1) := rfl
theorem c_174_21 : mLk 174 21 = some (.invokevirtual 114, 3) := rfl
theorem c_174_24 : mLk 174 24 = some (.bipush 45, 2) := rfl
theorem c_174_26 : mLk 174 26 = some (.if_icmp .ne 41, 3) := rfl
theorem c_174_42 : mLk 174 42 = some (.iconst 3, 1) := rfl
set_option maxRecDepth 100000 in
set_option maxHeartbeats 4000000 in
theorem s_174_l {sc : List Int32} {e : Int} {d u P Q : Nat} {c : ME} {o : Int} {Z : AR → Prop} (hI : Iv u e P Q c) (ho : 0 ≤ o ∧ o ≤ 6) (hW : Nw c) (hq0 : (c 41 5 = (-1))) (hq1 : (c 41 4 ≤ c 41 3)) (hq2 : (c 41 3 ≤ 150)) (hq3 : (c 41 29 ≤ c 41 4)) (hq4 : (c 41 7 = o)) (H174 : ∀ (d9 : Nat) (c : ME) (Z : AR → Prop), d ≤ d9 → o + 1 ≤ 6 → Iv u e P Q c → Nw c → ((c 41 5 = (-1))) → ((c 41 4 ≤ c 41 3)) → ((c 41 3 ≤ 150)) → ((c 41 29 ≤ c 41 4)) → (c 41 7 = o + 1) → (∀ c2 : ME, Iv u e P Q c2 → (∀ (a : Nat) (j : Int), ¬ ((a = 41 ∧ j = 4) ∨ (a = 41 ∧ j = 5) ∨ (a = 41 ∧ j = 6) ∨ (a = 41 ∧ j = 7) ∨ (a = 41 ∧ j = 29) ∨ a = 50 ∨ a = 51) → c2 a j = c a j) → Nw c2 → ((c2 41 4 ≥ c 41 4)) → ((c2 41 7 = c 41 7)) → ((c 41 4 + c2 41 29 ≤ c 41 29 + c2 41 4)) → ((c2 41 5 < (-1)) ∨ (c2 41 5 > (-1)) ∨ (c2 41 4 ≤ c 41 3)) → ((c2 41 5 < (-1)) ∨ (c2 41 5 > (-1)) ∨ (Nh c2 = Nh c + 1)) → Z (.inl none, Wd P Q P P c2, 0, 0)) → Wp sc (d9 + 12) 174 0 [(0, .ref 41)] [] (Wd P Q P P c) 0 0 Z) (K : ∀ (c2 : ME), Iv u e P Q c2 → (∀ (a : Nat) (j : Int), ¬ ((a = 41 ∧ j = 4) ∨ (a = 41 ∧ j = 5) ∨ (a = 41 ∧ j = 6) ∨ (a = 41 ∧ j = 7) ∨ (a = 41 ∧ j = 29) ∨ a = 50 ∨ a = 51) → c2 a j = c a j) → Nw c2 → ((c2 41 4 ≥ c 41 4)) → ((c2 41 7 = c 41 7)) → ((c 41 4 + c2 41 29 ≤ c 41 29 + c2 41 4)) → ((c2 41 5 < (-1)) ∨ (c2 41 5 > (-1)) ∨ (c2 41 4 ≤ c 41 3)) → ((c2 41 5 < (-1)) ∨ (c2 41 5 > (-1)) ∨ (Nh c2 = Nh c + 1)) → Z (.inl (none), Wd P Q P P c2, 0, 0)) : ∀ n : Nat, (∀ (c2 : ME), Iv u e P Q c2 → (∀ (a : Nat) (j : Int), ¬ ((a = 41 ∧ j = 4) ∨ (a = 41 ∧ j = 5) ∨ (a = 41 ∧ j = 6) ∨ (a = 41 ∧ j = 7) ∨ (a = 41 ∧ j = 29) ∨ a = 50 ∨ a = 51) → c2 a j = c a j) → Nw c2 → ((c2 41 4 ≥ c 41 4)) → ((c2 41 7 = c 41 7)) → ((c 41 4 + c2 41 29 ≤ c 41 29 + c2 41 4)) → ((c2 41 5 < (-1)) ∨ (c2 41 5 > (-1)) ∨ (c2 41 4 ≤ c 41 3)) → ((c2 41 5 < (-1)) ∨ (c2 41 5 > (-1)) ∨ (Nh c2 = Nh c + 1)) → 1211 - 2 * c2 41 4 < (n : Int) → Wp sc (d + 16) 174 4 [(0, .ref 41)] [] (Wd P Q P P c2) 0 0 Z) := by
  intro n
  induction n with
  | zero => exact (by intro c2 hI2 hF hW2 hx0 hx1 hx2 hx3 hx4 hm9; have hP := iv_P hI; have hQ := iv_Q hI; have h_139 := ir_41_4 hI2; exfalso; omega)
  | succ n ih =>
    have hP := iv_P hI
    have hQ := iv_Q hI
    intro c2 hI2 hF hW2 hx0 hx1 hx2 hx3 hx4 hm9
    have h_1 := ir_41_4 hI
    have h_2 := ir_41_4 hI2
    have h_3 := ir_41_7 hI
    have h_4 := ir_41_7 hI2
    have h_5 := ir_41_29 hI
    have h_6 := ir_41_29 hI2
    have h_7 := ir_41_3 hI
    have h_8 := ir_41_5 hI2
    have hnn := nw_nn hW (ir_41_29 hI).1
    refine q_aload_n c_174_4 rfl (v_cv c_174_5 km_8_131 rfl rfl (nb_ rfl) ⟨⟨rfl, rfl⟩, nb_ rfl, rfl⟩ (nb_ rfl) (nb_ rfl) (q_aload_n c_152_0 rfl (v_gi (z := 5) (v := c2 41 5) c_152_1 kf_8_102 rfl (nb_ rfl) rfl rfl rfl (q_iconst c_152_4 ?_))))
    by_cases h_9 : c2 41 5 ≠ (-1)
    · refine v_ic_ne_t (t := 12) c_152_5 rfl ⟨h_9, ⟨(Int.le_trans (by decide) h_8.1), (Int.le_trans h_8.2 (by decide))⟩, by decide, by decide⟩ (q_iconst c_152_12 (v_zret c_152_13 rfl (by decide) (bk_inl (v_if_eq_t (t := 67) c_174_8 rfl (by decide) (q_vret rfl rfl ?_)))))
      exact K c2 hI2 (fun a j hm => hF a j hm) hW2 (by first | (clear ho hq0 hq1 hq2 hq3 hq4 hx1 hx2 h_1 h_2 h_3 h_4 h_5 h_6 h_7 h_8 hnn hx3 hx4 h_9; omega) | omega) (by first | (clear ho hq0 hq1 hq2 hq3 hq4 hx0 hx2 h_1 h_2 h_3 h_4 h_5 h_6 h_7 h_8 hnn hx3 hx4 h_9; omega) | omega) (by first | (clear ho hq0 hq1 hq2 hq3 hq4 hx0 hx1 h_1 h_2 h_3 h_4 h_5 h_6 h_7 h_8 hnn hx3 hx4 h_9; omega) | omega) (Or.inr (Or.inl (by first | exact q_2c2c046ea h_8 h_9 | omega))) (Or.inr (Or.inl (by first | exact q_2c2c046ea h_8 h_9 | omega)))
    · refine v_ic_ne_f (t := 12) c_152_5 rfl (Decidable.not_not.mp h_9) (q_iconst c_152_8 (q_goto (t := 13) c_152_9 rfl (v_zret c_152_13 rfl (by decide) (bk_inl (v_if_eq_f (t := 67) c_174_8 rfl (by decide) (q_aload_n c_174_11 rfl ?_))))))
      have kn_10 : Hid (c2 41 3 = c 41 3) := hF 41 3 qn_d31ba9b5e
      have h_11 := ir_43 hI (c2 41 4)
      have h_12 := nx_be (b := c 43) (e := c 41 3) (a := c2 41 4) (by first | (clear ho hq0 hq1 hq2 hq3 hq4 hx0 hx1 hx2 h_1 h_2 h_3 h_4 h_5 h_6 h_7 hnn h_11 hx4; omega) | omega)
      have h_13 := ir_43 hI (nx (c 43) (c 41 3) (c2 41 4))
      have h_14 := nx_n (b := c 43) (e := c 41 3) (a := c2 41 4)
      have h_15 := hb_or (b := c 43) (e := c 41 3) (r := (nx (c 43) (c 41 3) (c2 41 4)))
      have h_16 := hb_bd (b := c 43) (e := c 41 3) (r := (nx (c 43) (c 41 3) (c2 41 4))) (lo := -2147483648) (hi := 2147483647) h_13 (by decide)
      refine v_cv c_174_12 km_8_114 rfl rfl (nb_ rfl) ⟨⟨rfl, rfl⟩, nb_ rfl, rfl⟩ (nb_ rfl) (nb_ rfl) (f_154 (e1 := c 41 3) (a9 := c2 41 4) (B := c 43) (r8 := (nx (c 43) (c 41 3) (c2 41 4))) (r := (hb (c 43) (c 41 3) (nx (c 43) (c 41 3) (c2 41 4)))) hI2 ((hid kn_10)) (rfl) (fun j => hF 43 j qn_9b8df3fcd) rfl rfl (fun c_17 hI_18 hF_19 h_20 => (bk_inl (v_bip c_174_15 (by decide) ?_))))
      by_cases h_21 : (hb (c 43) (c 41 3) (nx (c 43) (c 41 3) (c2 41 4))) = 43
      · refine v_ic_eq_t (t := 29) c_174_17 rfl h_21 (q_aload_n c_174_29 rfl ?_)
        have kn_22 : Hid (c_17 41 3 = c 41 3) := (hF_19 41 3 (fun h => absurd h.2 (ni rfl))).trans (hid kn_10)
        refine v_cv c_174_30 km_8_114 rfl rfl (nb_ rfl) ⟨⟨rfl, rfl⟩, nb_ rfl, rfl⟩ (nb_ rfl) (nb_ rfl) (f_154 (e1 := c 41 3) (a9 := (nx (c 43) (c 41 3) (c2 41 4))) (B := c 43) (r8 := (nx (c 43) (c 41 3) (c2 41 4))) (r := (hb (c 43) (c 41 3) (nx (c 43) (c 41 3) (c2 41 4)))) hI_18 ((hid kn_22)) ((h_20)) (fun j => (hF_19 43 j (fun h => absurd h.1 (nn rfl))).trans (hF 43 j qn_9b8df3fcd)) (nx_z (Or.inr (by first | exact q_d70967205 h_15 h_21 | omega))) rfl (fun c_23 hI_24 hF_25 h_26 => (bk_inl (v_bip c_174_33 (by decide) (v_ic_ne_f (t := 42) c_174_35 rfl (by first | exact q_51fc41203 h_21 | omega) (q_iconst c_174_38 (q_goto (t := 43) c_174_39 rfl (q_istore_n c_174_43 (nb_ rfl) (q_aload_n c_174_44 rfl ?_)))))))))
        refine q_dup c_174_45 rfl (v_gi (z := 4) (v := (nx (c 43) (c 41 3) (c2 41 4))) c_174_46 kf_8_108 rfl (nb_ rfl) rfl rfl (h_26) (q_iconst c_174_49 (v_iadd (v := (nx (c 43) (c 41 3) (c2 41 4)) + 1) c_174_50 rfl (v_pi (z := 4) c_174_51 kf_8_108 rfl (nb_ rfl) rfl rfl rfl (by decide) (q_aload_n c_174_54 rfl ?_)))))
        have kn_27 : Hid (c_17 41 5 = c2 41 5) := hF_19 41 5 (fun h => absurd h.2 (ni rfl))
        have kn_28 : Hid (c_23 41 5 = c2 41 5) := (hF_25 41 5 (fun h => absurd h.2 (ni rfl))).trans (hid kn_27)
        have hI_29 := iw_41_4 (v := (nx (c 43) (c 41 3) (c2 41 4)) + 1) hI_24 ⟨by first | exact rgp_l (rg_be h_12 (h_2.1) (h_7.2)).1 (by decide) | omega, by first | exact rgp_h (rg_be h_12 (h_2.1) (h_7.2)).2 (by decide) | omega⟩
        have h_30 : (up c_23 41 4 ((nx (c 43) (c 41 3) (c2 41 4)) + 1)) 41 5 = c2 41 5 := ((up_n (by decide)).trans (hid kn_28))
        have kn_31 : Hid (c_23 41 3 = c 41 3) := (hF_25 41 3 (fun h => absurd h.2 (ni rfl))).trans (hid kn_22)
        have h_32 : (up c_23 41 4 ((nx (c 43) (c 41 3) (c2 41 4)) + 1)) 41 3 = c 41 3 := ((up_n (by decide)).trans (hid kn_31))
        have h_33 : (up c_23 41 4 ((nx (c 43) (c 41 3) (c2 41 4)) + 1)) 41 4 = (nx (c 43) (c 41 3) (c2 41 4)) + 1 := (up_e rfl)
        have kn_34 : Hid (c_17 41 29 = c2 41 29) := hF_19 41 29 (fun h => absurd h.2 (ni rfl))
        have kn_35 : Hid (c_23 41 29 = c2 41 29) := (hF_25 41 29 (fun h => absurd h.2 (ni rfl))).trans (hid kn_34)
        have h_36 : (up c_23 41 4 ((nx (c 43) (c 41 3) (c2 41 4)) + 1)) 41 29 = c2 41 29 := ((up_n (by decide)).trans (hid kn_35))
        have kn_37 : Hid (c_17 41 7 = c2 41 7) := hF_19 41 7 (fun h => absurd h.2 (ni rfl))
        have kn_38 : Hid (c_23 41 7 = c2 41 7) := (hF_25 41 7 (fun h => absurd h.2 (ni rfl))).trans (hid kn_37)
        have h_39 : (up c_23 41 4 ((nx (c 43) (c 41 3) (c2 41 4)) + 1)) 41 7 = c2 41 7 := ((up_n (by decide)).trans (hid kn_38))
        obtain ⟨hW_40, hN_41⟩ : Nw (up c_23 41 4 ((nx (c 43) (c 41 3) (c2 41 4)) + 1)) ∧ Nh (up c_23 41 4 ((nx (c 43) (c 41 3) (c2 41 4)) + 1)) = Nh c2 := nh_fr hW2 (fun j => (up_c (nn rfl)).trans ((hF_25 50 j (fun h => absurd h.1 (nn rfl))).trans (hF_19 50 j (fun h => absurd h.1 (nn rfl))))) (fun j => (up_c (nn rfl)).trans ((hF_25 51 j (fun h => absurd h.1 (nn rfl))).trans (hF_19 51 j (fun h => absurd h.1 (nn rfl))))) ((up_n (by decide)).trans ((hF_25 41 29 (fun h => absurd h.2 (ni rfl))).trans (hF_19 41 29 (fun h => absurd h.2 (ni rfl)))))
        refine v_cv c_174_55 km_8_239 rfl rfl (nb_ rfl) ⟨⟨rfl, rfl⟩, nb_ rfl, rfl⟩ (nb_ rfl) (nb_ rfl) (s_173 (o := o) hI_29 (show 0 ≤ o ∧ o ≤ 6 from by omega) hW_40 (by first | exact q_65c5ff97d h_8 h_9 | omega) (by first | exact q_f50714d1a h_15 h_21 | omega) (by first | exact q_7024b37ce hq2 | omega) (by first | (clear ho hq0 hq1 hq2 hq4 hx0 hx1 h_1 h_2 h_3 h_4 h_5 h_6 h_7 h_8 hnn h_9 h_11 h_13 h_16 h_21 hx3 hx4 h_14 h_15; omega) | omega) (by first | (clear ho hq0 hq1 hq2 hq3 hx0 hx2 h_1 h_2 h_3 h_4 h_5 h_6 h_7 h_8 hnn h_9 h_11 h_12 h_13 h_16 h_21 hx3 hx4 h_14 h_15; omega) | omega) H174 (fun c_42 hI_43 hF_44 hW_45 h_46 h_47 h_48 h_49 h_50 => (bk_inl ?_)))
        have h_51 := ir_41_4 hI_43
        have h_52 := ir_41_7 hI_43
        have h_53 := ir_41_29 hI_43
        have h_54 := ir_41_5 hI_43
        refine q_aload_n c_174_58 rfl (q_iload_n c_174_59 rfl (q_iconst c_174_60 (v_cv c_174_61 km_8_242 rfl rfl (nb_ rfl) ⟨⟨rfl, rfl⟩, nb_ rfl, rfl⟩ (nb_ rfl) (nb_ rfl) (s_170 (a1 := 2) (a2 := 0) hI_43 (show 0 ≤ 2 ∧ 2 ≤ 8 from ⟨by decide, by decide⟩) (show 0 ≤ 0 ∧ 0 ≤ 999 from ⟨by decide, by decide⟩) hW_45 (by omega) (by omega) (Or.inr (Or.inr (Or.inl (by first | decide | omega)))) (fun c_55 hI_56 hF_57 hW_58 h_59 h_60 h_61 h_62 => (bk_inl ?_))))))
        have h_63 := ir_41_29 hI_56
        refine q_goto (t := 4) c_174_64 rfl (Wp_ls [(0, .ref 41)] (lsub_cons rfl lsub_nil) ?_)
        have kn_64 : Hid (c_55 41 4 = c_42 41 4) := hF_57 41 4 qn_fcc0aaabe
        have h_65 : c_55 41 4 = c_42 41 4 := (hid kn_64)
        have kn_66 : Hid (c_55 41 5 = c_42 41 5) := hF_57 41 5 qn_c65a44569
        have h_67 : c_55 41 5 = c_42 41 5 := (hid kn_66)
        have kn_68 : Hid (c_55 41 7 = c_42 41 7) := hF_57 41 7 qn_5700af53f
        have h_69 : c_55 41 7 = c_42 41 7 := (hid kn_68)
        exact ih c_55 hI_56 (fun a j hm => (hF_57 a j (qv_d7b4eb562 hm)).trans ((hF_44 a j hm).trans ((up_b (Decidable.or_iff_not_imp_left.mpr (fun h1 h2 => hm (Or.inl ⟨Decidable.not_not.mp h1, h2⟩)))).trans ((hF_25 a j (fun h => hm (Or.inl h))).trans ((hF_19 a j (fun h => hm (Or.inl h))).trans (hF a j hm)))))) hW_58 (by first | (clear ho hq0 hq1 hq2 hq3 hq4 hx1 hx2 h_1 h_2 h_3 h_4 h_5 h_6 h_7 h_8 hnn h_9 h_11 h_13 h_16 h_21 h_51 h_52 h_47 h_53 h_48 h_54 h_63 hx3 hx4 h_14 h_15 h_49 h_50 h_59 h_60 h_61 h_62; omega) | omega) (by first | (clear ho hq0 hq1 hq2 hq3 hq4 hx0 hx2 h_1 h_2 h_3 h_4 h_5 h_6 h_7 h_8 hnn h_9 h_11 h_12 h_13 h_16 h_21 h_51 h_46 h_52 h_53 h_48 h_54 h_63 hx3 hx4 h_14 h_15 h_49 h_50 h_59 h_60 h_61 h_62; omega) | omega) (by first | (clear ho hq0 hq1 hq2 hq3 hq4 hx0 hx1 h_1 h_2 h_3 h_4 h_5 h_6 h_7 h_8 hnn h_9 h_11 h_13 h_16 h_21 h_51 h_46 h_52 h_47 h_53 h_54 h_63 hx3 hx4 h_14 h_15 h_49 h_50 h_61 h_62; omega) | omega) (by omega) (by omega) (by omega)
      · refine v_ic_eq_f (t := 29) c_174_17 rfl ⟨h_21, ⟨h_16.1, h_16.2⟩, by decide, by decide⟩ (q_aload_n c_174_20 rfl ?_)
        have kn_70 : Hid (c_17 41 3 = c 41 3) := (hF_19 41 3 (fun h => absurd h.2 (ni rfl))).trans (hid kn_10)
        refine v_cv c_174_21 km_8_114 rfl rfl (nb_ rfl) ⟨⟨rfl, rfl⟩, nb_ rfl, rfl⟩ (nb_ rfl) (nb_ rfl) (f_154 (e1 := c 41 3) (a9 := (nx (c 43) (c 41 3) (c2 41 4))) (B := c 43) (r8 := (nx (c 43) (c 41 3) (c2 41 4))) (r := (hb (c 43) (c 41 3) (nx (c 43) (c 41 3) (c2 41 4)))) hI_18 ((hid kn_70)) ((h_20)) (fun j => (hF_19 43 j (fun h => absurd h.1 (nn rfl))).trans (hF 43 j qn_9b8df3fcd)) (nx_z (by omega)) rfl (fun c_71 hI_72 hF_73 h_74 => (bk_inl (v_bip c_174_24 (by decide) ?_))))
        by_cases h_75 : (hb (c 43) (c 41 3) (nx (c 43) (c 41 3) (c2 41 4))) ≠ 45
        · refine v_ic_ne_t (t := 67) c_174_26 rfl ⟨h_75, ⟨h_16.1, h_16.2⟩, by decide, by decide⟩ (q_vret rfl rfl ?_)
          obtain ⟨hW_76, hN_77⟩ : Nw c_71 ∧ Nh c_71 = Nh c2 := nh_fr hW2 (fun j => (hF_73 50 j (fun h => absurd h.1 (nn rfl))).trans (hF_19 50 j (fun h => absurd h.1 (nn rfl)))) (fun j => (hF_73 51 j (fun h => absurd h.1 (nn rfl))).trans (hF_19 51 j (fun h => absurd h.1 (nn rfl)))) ((hF_73 41 29 (fun h => absurd h.2 (ni rfl))).trans (hF_19 41 29 (fun h => absurd h.2 (ni rfl))))
          have kn_78 : Hid (c_17 41 29 = c2 41 29) := hF_19 41 29 (fun h => absurd h.2 (ni rfl))
          have kn_79 : Hid (c_71 41 29 = c2 41 29) := (hF_73 41 29 (fun h => absurd h.2 (ni rfl))).trans (hid kn_78)
          have h_80 : c_71 41 29 = c2 41 29 := (hid kn_79)
          have h_81 : c_71 41 4 = (nx (c 43) (c 41 3) (c2 41 4)) := (h_74)
          have kn_82 : Hid (c_17 41 5 = c2 41 5) := hF_19 41 5 (fun h => absurd h.2 (ni rfl))
          have kn_83 : Hid (c_71 41 5 = c2 41 5) := (hF_73 41 5 (fun h => absurd h.2 (ni rfl))).trans (hid kn_82)
          have h_84 : c_71 41 5 = c2 41 5 := (hid kn_83)
          have kn_85 : Hid (c_17 41 7 = c2 41 7) := hF_19 41 7 (fun h => absurd h.2 (ni rfl))
          have kn_86 : Hid (c_71 41 7 = c2 41 7) := (hF_73 41 7 (fun h => absurd h.2 (ni rfl))).trans (hid kn_85)
          have h_87 : c_71 41 7 = c2 41 7 := (hid kn_86)
          exact K c_71 hI_72 (fun a j hm => (hF_73 a j (fun h => hm (Or.inl h))).trans ((hF_19 a j (fun h => hm (Or.inl h))).trans (hF a j hm))) hW_76 (by first | (clear ho hq0 hq1 hq2 hq3 hq4 hx1 hx2 h_1 h_2 h_3 h_4 h_5 h_6 h_7 h_8 hnn h_9 h_11 h_13 h_16 hx3 hx4 h_14 h_15 h_21 h_75; omega) | omega) (by first | (clear ho hq0 hq1 hq2 hq3 hq4 hx0 hx2 h_1 h_2 h_3 h_4 h_5 h_6 h_7 h_8 hnn h_9 h_11 h_12 h_13 h_16 hx3 hx4 h_14 h_15 h_21 h_75; omega) | omega) (by first | (clear ho hq0 hq1 hq2 hq3 hq4 hx0 hx1 h_1 h_2 h_3 h_4 h_5 h_6 h_7 h_8 hnn h_9 h_11 h_13 h_16 hx3 hx4 h_14 h_15 h_21 h_75; omega) | omega) (Or.inr (Or.inr (by first | exact q_9de36a18e h_12 | omega))) (Or.inr (Or.inr (by first | (clear ho hq0 hq1 hq2 hq3 hq4 hx0 hx1 hx2 h_1 h_2 h_3 h_4 h_5 h_6 h_7 hnn h_11 h_12 h_13 h_16 hx3 h_14 h_15 h_21 h_75; omega) | omega)))
        · refine v_ic_ne_f (t := 67) c_174_26 rfl (Decidable.not_not.mp h_75) (q_aload_n c_174_29 rfl ?_)
          have kn_88 : Hid (c_71 41 3 = c 41 3) := (hF_73 41 3 (fun h => absurd h.2 (ni rfl))).trans (hid kn_70)
          refine v_cv c_174_30 km_8_114 rfl rfl (nb_ rfl) ⟨⟨rfl, rfl⟩, nb_ rfl, rfl⟩ (nb_ rfl) (nb_ rfl) (f_154 (e1 := c 41 3) (a9 := (nx (c 43) (c 41 3) (c2 41 4))) (B := c 43) (r8 := (nx (c 43) (c 41 3) (c2 41 4))) (r := (hb (c 43) (c 41 3) (nx (c 43) (c 41 3) (c2 41 4)))) hI_72 ((hid kn_88)) ((h_74)) (fun j => (hF_73 43 j (fun h => absurd h.1 (nn rfl))).trans ((hF_19 43 j (fun h => absurd h.1 (nn rfl))).trans (hF 43 j qn_9b8df3fcd))) (nx_z (Or.inr (by first | exact q_0892e72fe h_15 h_75 | omega))) rfl (fun c_89 hI_90 hF_91 h_92 => (bk_inl (v_bip c_174_33 (by decide) (v_ic_ne_t (t := 42) c_174_35 rfl ⟨by first | exact q_e7493e343 h_75 | omega, ⟨h_16.1, h_16.2⟩, by decide, by decide⟩ (q_iconst c_174_42 (q_istore_n c_174_43 (nb_ rfl) (q_aload_n c_174_44 rfl (q_dup c_174_45 rfl ?_)))))))))
          refine v_gi (z := 4) (v := (nx (c 43) (c 41 3) (c2 41 4))) c_174_46 kf_8_108 rfl (nb_ rfl) rfl rfl (h_92) (q_iconst c_174_49 (v_iadd (v := (nx (c 43) (c 41 3) (c2 41 4)) + 1) c_174_50 rfl (v_pi (z := 4) c_174_51 kf_8_108 rfl (nb_ rfl) rfl rfl rfl (by decide) (q_aload_n c_174_54 rfl ?_))))
          have kn_93 : Hid (c_17 41 5 = c2 41 5) := hF_19 41 5 (fun h => absurd h.2 (ni rfl))
          have kn_94 : Hid (c_71 41 5 = c2 41 5) := (hF_73 41 5 (fun h => absurd h.2 (ni rfl))).trans (hid kn_93)
          have kn_95 : Hid (c_89 41 5 = c2 41 5) := (hF_91 41 5 (fun h => absurd h.2 (ni rfl))).trans (hid kn_94)
          have hI_96 := iw_41_4 (v := (nx (c 43) (c 41 3) (c2 41 4)) + 1) hI_90 ⟨by first | exact rgp_l (rg_be h_12 (h_2.1) (h_7.2)).1 (by decide) | omega, by first | exact rgp_h (rg_be h_12 (h_2.1) (h_7.2)).2 (by decide) | omega⟩
          have h_97 : (up c_89 41 4 ((nx (c 43) (c 41 3) (c2 41 4)) + 1)) 41 5 = c2 41 5 := ((up_n (by decide)).trans (hid kn_95))
          have kn_98 : Hid (c_89 41 3 = c 41 3) := (hF_91 41 3 (fun h => absurd h.2 (ni rfl))).trans (hid kn_88)
          have h_99 : (up c_89 41 4 ((nx (c 43) (c 41 3) (c2 41 4)) + 1)) 41 3 = c 41 3 := ((up_n (by decide)).trans (hid kn_98))
          have h_100 : (up c_89 41 4 ((nx (c 43) (c 41 3) (c2 41 4)) + 1)) 41 4 = (nx (c 43) (c 41 3) (c2 41 4)) + 1 := (up_e rfl)
          have kn_101 : Hid (c_17 41 29 = c2 41 29) := hF_19 41 29 (fun h => absurd h.2 (ni rfl))
          have kn_102 : Hid (c_71 41 29 = c2 41 29) := (hF_73 41 29 (fun h => absurd h.2 (ni rfl))).trans (hid kn_101)
          have kn_103 : Hid (c_89 41 29 = c2 41 29) := (hF_91 41 29 (fun h => absurd h.2 (ni rfl))).trans (hid kn_102)
          have h_104 : (up c_89 41 4 ((nx (c 43) (c 41 3) (c2 41 4)) + 1)) 41 29 = c2 41 29 := ((up_n (by decide)).trans (hid kn_103))
          have kn_105 : Hid (c_17 41 7 = c2 41 7) := hF_19 41 7 (fun h => absurd h.2 (ni rfl))
          have kn_106 : Hid (c_71 41 7 = c2 41 7) := (hF_73 41 7 (fun h => absurd h.2 (ni rfl))).trans (hid kn_105)
          have kn_107 : Hid (c_89 41 7 = c2 41 7) := (hF_91 41 7 (fun h => absurd h.2 (ni rfl))).trans (hid kn_106)
          have h_108 : (up c_89 41 4 ((nx (c 43) (c 41 3) (c2 41 4)) + 1)) 41 7 = c2 41 7 := ((up_n (by decide)).trans (hid kn_107))
          obtain ⟨hW_109, hN_110⟩ : Nw (up c_89 41 4 ((nx (c 43) (c 41 3) (c2 41 4)) + 1)) ∧ Nh (up c_89 41 4 ((nx (c 43) (c 41 3) (c2 41 4)) + 1)) = Nh c2 := nh_fr hW2 (fun j => (up_c (nn rfl)).trans ((hF_91 50 j (fun h => absurd h.1 (nn rfl))).trans ((hF_73 50 j (fun h => absurd h.1 (nn rfl))).trans (hF_19 50 j (fun h => absurd h.1 (nn rfl)))))) (fun j => (up_c (nn rfl)).trans ((hF_91 51 j (fun h => absurd h.1 (nn rfl))).trans ((hF_73 51 j (fun h => absurd h.1 (nn rfl))).trans (hF_19 51 j (fun h => absurd h.1 (nn rfl)))))) ((up_n (by decide)).trans ((hF_91 41 29 (fun h => absurd h.2 (ni rfl))).trans ((hF_73 41 29 (fun h => absurd h.2 (ni rfl))).trans (hF_19 41 29 (fun h => absurd h.2 (ni rfl))))))
          refine v_cv c_174_55 km_8_239 rfl rfl (nb_ rfl) ⟨⟨rfl, rfl⟩, nb_ rfl, rfl⟩ (nb_ rfl) (nb_ rfl) (s_173 (o := o) hI_96 (show 0 ≤ o ∧ o ≤ 6 from by omega) hW_109 (by first | exact q_65c5ff97d h_8 h_9 | omega) (by first | exact q_4cc3156b3 h_15 h_75 | omega) (by first | exact q_7024b37ce hq2 | omega) (by first | (clear ho hq0 hq1 hq2 hq4 hx0 hx1 h_1 h_2 h_3 h_4 h_5 h_6 h_7 h_8 hnn h_9 h_11 h_13 h_16 h_75 hx3 hx4 h_14 h_15 h_21; omega) | omega) (by first | (clear ho hq0 hq1 hq2 hq3 hx0 hx2 h_1 h_2 h_3 h_4 h_5 h_6 h_7 h_8 hnn h_9 h_11 h_12 h_13 h_16 h_75 hx3 hx4 h_14 h_15 h_21; omega) | omega) H174 (fun c_111 hI_112 hF_113 hW_114 h_115 h_116 h_117 h_118 h_119 => (bk_inl ?_)))
          have h_120 := ir_41_4 hI_112
          have h_121 := ir_41_7 hI_112
          have h_122 := ir_41_29 hI_112
          have h_123 := ir_41_5 hI_112
          refine q_aload_n c_174_58 rfl (q_iload_n c_174_59 rfl (q_iconst c_174_60 (v_cv c_174_61 km_8_242 rfl rfl (nb_ rfl) ⟨⟨rfl, rfl⟩, nb_ rfl, rfl⟩ (nb_ rfl) (nb_ rfl) (s_170 (a1 := 3) (a2 := 0) hI_112 (show 0 ≤ 3 ∧ 3 ≤ 8 from ⟨by decide, by decide⟩) (show 0 ≤ 0 ∧ 0 ≤ 999 from ⟨by decide, by decide⟩) hW_114 (by omega) (by omega) (Or.inr (Or.inr (Or.inl (by first | decide | omega)))) (fun c_124 hI_125 hF_126 hW_127 h_128 h_129 h_130 h_131 => (bk_inl ?_))))))
          have h_132 := ir_41_29 hI_125
          refine q_goto (t := 4) c_174_64 rfl (Wp_ls [(0, .ref 41)] (lsub_cons rfl lsub_nil) ?_)
          have kn_133 : Hid (c_124 41 4 = c_111 41 4) := hF_126 41 4 qn_fcc0aaabe
          have h_134 : c_124 41 4 = c_111 41 4 := (hid kn_133)
          have kn_135 : Hid (c_124 41 5 = c_111 41 5) := hF_126 41 5 qn_c65a44569
          have h_136 : c_124 41 5 = c_111 41 5 := (hid kn_135)
          have kn_137 : Hid (c_124 41 7 = c_111 41 7) := hF_126 41 7 qn_5700af53f
          have h_138 : c_124 41 7 = c_111 41 7 := (hid kn_137)
          exact ih c_124 hI_125 (fun a j hm => (hF_126 a j (qv_d7b4eb562 hm)).trans ((hF_113 a j hm).trans ((up_b (Decidable.or_iff_not_imp_left.mpr (fun h1 h2 => hm (Or.inl ⟨Decidable.not_not.mp h1, h2⟩)))).trans ((hF_91 a j (fun h => hm (Or.inl h))).trans ((hF_73 a j (fun h => hm (Or.inl h))).trans ((hF_19 a j (fun h => hm (Or.inl h))).trans (hF a j hm))))))) hW_127 (by first | (clear ho hq0 hq1 hq2 hq3 hq4 hx1 hx2 h_1 h_2 h_3 h_4 h_5 h_6 h_7 h_8 hnn h_9 h_11 h_13 h_16 h_75 h_120 h_121 h_116 h_122 h_117 h_123 h_132 hx3 hx4 h_14 h_15 h_21 h_118 h_119 h_128 h_129 h_130 h_131; omega) | omega) (by first | (clear ho hq0 hq1 hq2 hq3 hq4 hx0 hx2 h_1 h_2 h_3 h_4 h_5 h_6 h_7 h_8 hnn h_9 h_11 h_12 h_13 h_16 h_75 h_120 h_115 h_121 h_122 h_117 h_123 h_132 hx3 hx4 h_14 h_15 h_21 h_118 h_119 h_128 h_129 h_130 h_131; omega) | omega) (by first | (clear ho hq0 hq1 hq2 hq3 hq4 hx0 hx1 h_1 h_2 h_3 h_4 h_5 h_6 h_7 h_8 hnn h_9 h_11 h_13 h_16 h_75 h_120 h_115 h_121 h_116 h_122 h_123 h_132 hx3 hx4 h_14 h_15 h_21 h_118 h_119 h_130 h_131; omega) | omega) (by omega) (by omega) (by omega)
set_option maxRecDepth 100000 in
set_option maxHeartbeats 4000000 in
theorem s_174 {sc : List Int32} {e : Int} {d u P Q : Nat} {c : ME} {o : Int} {Z : AR → Prop} (hI : Iv u e P Q c) (ho : 0 ≤ o ∧ o ≤ 6) (hW : Nw c) (hq0 : (c 41 5 = (-1))) (hq1 : (c 41 4 ≤ c 41 3)) (hq2 : (c 41 3 ≤ 150)) (hq3 : (c 41 29 ≤ c 41 4)) (hq4 : (c 41 7 = o)) (H174 : ∀ (d9 : Nat) (c : ME) (Z : AR → Prop), d ≤ d9 → o + 1 ≤ 6 → Iv u e P Q c → Nw c → ((c 41 5 = (-1))) → ((c 41 4 ≤ c 41 3)) → ((c 41 3 ≤ 150)) → ((c 41 29 ≤ c 41 4)) → (c 41 7 = o + 1) → (∀ c2 : ME, Iv u e P Q c2 → (∀ (a : Nat) (j : Int), ¬ ((a = 41 ∧ j = 4) ∨ (a = 41 ∧ j = 5) ∨ (a = 41 ∧ j = 6) ∨ (a = 41 ∧ j = 7) ∨ (a = 41 ∧ j = 29) ∨ a = 50 ∨ a = 51) → c2 a j = c a j) → Nw c2 → ((c2 41 4 ≥ c 41 4)) → ((c2 41 7 = c 41 7)) → ((c 41 4 + c2 41 29 ≤ c 41 29 + c2 41 4)) → ((c2 41 5 < (-1)) ∨ (c2 41 5 > (-1)) ∨ (c2 41 4 ≤ c 41 3)) → ((c2 41 5 < (-1)) ∨ (c2 41 5 > (-1)) ∨ (Nh c2 = Nh c + 1)) → Z (.inl none, Wd P Q P P c2, 0, 0)) → Wp sc (d9 + 12) 174 0 [(0, .ref 41)] [] (Wd P Q P P c) 0 0 Z) (K : ∀ (c2 : ME), Iv u e P Q c2 → (∀ (a : Nat) (j : Int), ¬ ((a = 41 ∧ j = 4) ∨ (a = 41 ∧ j = 5) ∨ (a = 41 ∧ j = 6) ∨ (a = 41 ∧ j = 7) ∨ (a = 41 ∧ j = 29) ∨ a = 50 ∨ a = 51) → c2 a j = c a j) → Nw c2 → ((c2 41 4 ≥ c 41 4)) → ((c2 41 7 = c 41 7)) → ((c 41 4 + c2 41 29 ≤ c 41 29 + c2 41 4)) → ((c2 41 5 < (-1)) ∨ (c2 41 5 > (-1)) ∨ (c2 41 4 ≤ c 41 3)) → ((c2 41 5 < (-1)) ∨ (c2 41 5 > (-1)) ∨ (Nh c2 = Nh c + 1)) → Z (.inl (none), Wd P Q P P c2, 0, 0)) : Wp sc (d + 16) 174 0 [(0, .ref 41)] [] (Wd P Q P P c) 0 0 Z := by
  have hP := iv_P hI
  have hQ := iv_Q hI
  have h_140 := ir_41_5 hI
  have h_141 := ir_41_3 hI
  have h_142 := ir_41_4 hI
  have h_143 := ir_41_29 hI
  have h_144 := ir_41_7 hI
  have hnn := nw_nn hW (ir_41_29 hI).1
  refine q_aload_n c_174_0 rfl (v_cv c_174_1 km_8_239 rfl rfl (nb_ rfl) ⟨⟨rfl, rfl⟩, nb_ rfl, rfl⟩ (nb_ rfl) (nb_ rfl) (s_173 (o := o) hI (show 0 ≤ o ∧ o ≤ 6 from by omega) hW (by first | exact q_ef26995af hq0 | omega) (by first | exact q_eb7e24553 hq1 | omega) (by first | exact q_7024b37ce hq2 | omega) (by first | exact q_eb7e24553 hq3 | omega) (by first | exact q_cea541e22 hq4 | omega) H174 (fun c_145 hI_146 hF_147 hW_148 h_149 h_150 h_151 h_152 h_153 => (bk_inl ?_))))
  have h_154 := ir_41_4 hI_146
  have h_155 := ir_41_7 hI_146
  have h_156 := ir_41_29 hI_146
  have h_157 := ir_41_5 hI_146
  refine Wp_ls [(0, .ref 41)] (lsub_cons rfl lsub_nil) ?_
  exact (s_174_l (sc := sc) (d := d) hI ho hW hq0 hq1 hq2 hq3 hq4 H174 K 1214) c_145 hI_146 (fun a j hm => hF_147 a j hm) hW_148 (by first | exact q_a2ce855bf h_149 | omega) (by first | exact q_cea541e22 h_150 | omega) (by first | exact q_56f770f3e h_151 | omega) (by omega) (by omega) (by omega)
set_option maxRecDepth 100000 in
set_option maxHeartbeats 4000000 in
theorem r_174_n {sc : List Int32} {e : Int} {u P Q : Nat} : ∀ (m : Nat) (d : Nat) (c : ME) (o : Int) (Z : AR → Prop), o + (m : Int) = 6 → 0 ≤ o → Iv u e P Q c → Nw c → ((c 41 5 = (-1))) → ((c 41 4 ≤ c 41 3)) → ((c 41 3 ≤ 150)) → ((c 41 29 ≤ c 41 4)) → (c 41 7 = o) → (∀ c2 : ME, Iv u e P Q c2 → (∀ (a : Nat) (j : Int), ¬ ((a = 41 ∧ j = 4) ∨ (a = 41 ∧ j = 5) ∨ (a = 41 ∧ j = 6) ∨ (a = 41 ∧ j = 7) ∨ (a = 41 ∧ j = 29) ∨ a = 50 ∨ a = 51) → c2 a j = c a j) → Nw c2 → ((c2 41 4 ≥ c 41 4)) → ((c2 41 7 = c 41 7)) → ((c 41 4 + c2 41 29 ≤ c 41 29 + c2 41 4)) → ((c2 41 5 < (-1)) ∨ (c2 41 5 > (-1)) ∨ (c2 41 4 ≤ c 41 3)) → ((c2 41 5 < (-1)) ∨ (c2 41 5 > (-1)) ∨ (Nh c2 = Nh c + 1)) → Z (.inl none, Wd P Q P P c2, 0, 0)) → Wp sc (d + 4 * m + 16) 174 0 [(0, .ref 41)] [] (Wd P Q P P c) 0 0 Z
  | 0, d, c, o, Z, hm, h0, hI, hW, p0, p1, p2, p3, p4, K => s_174 (d := d) (o := o) hI ⟨by omega, by omega⟩ hW p0 p1 p2 p3 p4 (fun d9 c9 Z9 hd hc => absurd hc (by omega)) K
  | m + 1, d, c, o, Z, hm, h0, hI, hW, p0, p1, p2, p3, p4, K => by
    rw [show d + 4 * (m + 1) + 16 = (d + 4 * m + 4) + 16 by omega]
    refine s_174 (d := d + 4 * m + 4) (o := o) hI ⟨by omega, by omega⟩ hW p0 p1 p2 p3 p4 (fun d9 c9 Z9 hd hc hI9 hW9 q0 q1 q2 q3 q4 K9 => ?_) K
    have r := r_174_n (sc := sc) m (d9 - 4 * m - 4) c9 (o + 1) Z9 (by omega) (by omega) hI9 hW9 q0 q1 q2 q3 q4 K9
    rw [show d9 - 4 * m - 4 + 4 * m + 16 = d9 + 12 by omega] at r
    exact r
set_option maxRecDepth 100000 in
set_option maxHeartbeats 4000000 in
theorem r_174 {sc : List Int32} {e : Int} {d u P Q : Nat} {c : ME} {o : Int} {Z : AR → Prop} (hI : Iv u e P Q c) (ho : 0 ≤ o ∧ o ≤ 6) (hW : Nw c) (p0 : ((c 41 5 = (-1)))) (p1 : ((c 41 4 ≤ c 41 3))) (p2 : ((c 41 3 ≤ 150))) (p3 : ((c 41 29 ≤ c 41 4))) (p4 : c 41 7 = o) (K : (∀ c2 : ME, Iv u e P Q c2 → (∀ (a : Nat) (j : Int), ¬ ((a = 41 ∧ j = 4) ∨ (a = 41 ∧ j = 5) ∨ (a = 41 ∧ j = 6) ∨ (a = 41 ∧ j = 7) ∨ (a = 41 ∧ j = 29) ∨ a = 50 ∨ a = 51) → c2 a j = c a j) → Nw c2 → ((c2 41 4 ≥ c 41 4)) → ((c2 41 7 = c 41 7)) → ((c 41 4 + c2 41 29 ≤ c 41 29 + c2 41 4)) → ((c2 41 5 < (-1)) ∨ (c2 41 5 > (-1)) ∨ (c2 41 4 ≤ c 41 3)) → ((c2 41 5 < (-1)) ∨ (c2 41 5 > (-1)) ∨ (Nh c2 = Nh c + 1)) → Z (.inl none, Wd P Q P P c2, 0, 0))) : Wp sc (d + 40) 174 0 [(0, .ref 41)] [] (Wd P Q P P c) 0 0 Z := by
  obtain ⟨m, hm⟩ : ∃ m : Nat, (m : Int) = 6 - o := ⟨(6 - o).toNat, by omega⟩
  rw [show d + 40 = (d + 24 - 4 * m) + 4 * m + 16 by omega]
  exact r_174_n m _ c o Z (by omega) (by omega) hI hW p0 p1 p2 p3 p4 K
end
section
/-! ===== contracts 14 ===== -/
theorem q_8db41993e {x0 : Int} (f0 : x0 > 150) : 150 < x0 := by omega
theorem q_f4271b4e1 {x0 : Int} (f0 : ¬ (x0 > 150)) : x0 ≤ 600 := by omega
theorem q_6d0a553af {x0 x1 x2 x3 x4 x5 : Int} (f0 : (x0 = x1 ∧ x2 = 0 ∧ x3 = (-1) ∧ x4 = 0 ∧ x5 = 0)) (f1 : (-1) ≤ x3 ∧ x3 ≤ 605) : x3 = (-1) := by omega
theorem q_aa9195485 {x0 x1 x2 x3 x4 x5 : Int} (f0 : (x0 = x1 ∧ x2 = 0 ∧ x3 = (-1) ∧ x4 = 0 ∧ x5 = 0)) (f1 : 0 ≤ x0 ∧ x0 ≤ 600) : x2 ≤ x0 := by omega
theorem q_27d6a8614 {x0 x1 x2 x3 x4 x5 : Int} (f0 : ¬ (x0 > 150)) (f1 : (x1 = x0 ∧ x2 = 0 ∧ x3 = (-1) ∧ x4 = 0 ∧ x5 = 0)) : x1 ≤ 150 := by omega
theorem q_1dc94a4e9 {x0 : Int} (f0 : 0 ≤ x0 ∧ x0 ≤ 605) : 0 ≤ x0 := by omega
theorem q_c5aecebbc {x0 x1 x2 x3 x4 x5 : Int} (f0 : (x0 = x1 ∧ x2 = 0 ∧ x3 = (-1) ∧ x4 = 0 ∧ x5 = 0)) (f1 : 0 ≤ x4 ∧ x4 ≤ 7) : x4 = 0 := by omega
theorem qn_6ef24e77f : ¬ (((41 : Nat) = 41 ∧ (2 : Int) = 4) ∨ ((41 : Nat) = 41 ∧ (2 : Int) = 5) ∨ ((41 : Nat) = 41 ∧ (2 : Int) = 6) ∨ ((41 : Nat) = 41 ∧ (2 : Int) = 7) ∨ ((41 : Nat) = 41 ∧ (2 : Int) = 29) ∨ (41 : Nat) = 50 ∨ (41 : Nat) = 51) := (fun q => q.elim (fun h => absurd h.2 (ni rfl)) (fun q => q.elim (fun h => absurd h.2 (ni rfl)) (fun q => q.elim (fun h => absurd h.2 (ni rfl)) (fun q => q.elim (fun h => absurd h.2 (ni rfl)) (fun q => q.elim (fun h => absurd h.2 (ni rfl)) (fun q => q.elim (fun h => absurd h (nn rfl)) (fun h => absurd h (nn rfl))))))))
theorem qv_1661f12fc {a : Nat} {j : Int} (hm : ¬ ((a = 41 ∧ j = 0) ∨ a = 42 ∨ (a = 41 ∧ j = 2) ∨ (a = 41 ∧ j = 3) ∨ (a = 41 ∧ j = 4) ∨ (a = 41 ∧ j = 5) ∨ (a = 41 ∧ j = 6) ∨ (a = 41 ∧ j = 7) ∨ (a = 41 ∧ j = 8) ∨ (a = 41 ∧ j = 29) ∨ (a = 41 ∧ j = 30) ∨ a = 50 ∨ a = 51 ∨ a = 52 ∨ a = 53)) : ¬ ((a = 41 ∧ j = 8)) := (fun h => hm (Or.inr (Or.inr (Or.inr (Or.inr (Or.inr (Or.inr (Or.inr (Or.inr (Or.inl h))))))))))
theorem qv_64dbd55b6 {a : Nat} {j : Int} (hm : ¬ ((a = 41 ∧ j = 0) ∨ a = 42 ∨ (a = 41 ∧ j = 2) ∨ (a = 41 ∧ j = 3) ∨ (a = 41 ∧ j = 4) ∨ (a = 41 ∧ j = 5) ∨ (a = 41 ∧ j = 6) ∨ (a = 41 ∧ j = 7) ∨ (a = 41 ∧ j = 8) ∨ (a = 41 ∧ j = 29) ∨ (a = 41 ∧ j = 30) ∨ a = 50 ∨ a = 51 ∨ a = 52 ∨ a = 53)) : ¬ ((a = 41 ∧ j = 4) ∨ (a = 41 ∧ j = 5) ∨ (a = 41 ∧ j = 6) ∨ (a = 41 ∧ j = 7) ∨ (a = 41 ∧ j = 29) ∨ a = 50 ∨ a = 51) := (fun q => q.elim (fun h => hm (Or.inr (Or.inr (Or.inr (Or.inr (Or.inl h)))))) (fun q => q.elim (fun h => hm (Or.inr (Or.inr (Or.inr (Or.inr (Or.inr (Or.inl h))))))) (fun q => q.elim (fun h => hm (Or.inr (Or.inr (Or.inr (Or.inr (Or.inr (Or.inr (Or.inl h)))))))) (fun q => q.elim (fun h => hm (Or.inr (Or.inr (Or.inr (Or.inr (Or.inr (Or.inr (Or.inr (Or.inl h))))))))) (fun q => q.elim (fun h => hm (Or.inr (Or.inr (Or.inr (Or.inr (Or.inr (Or.inr (Or.inr (Or.inr (Or.inr (Or.inl h))))))))))) (fun q => q.elim (fun h => hm (Or.inr (Or.inr (Or.inr (Or.inr (Or.inr (Or.inr (Or.inr (Or.inr (Or.inr (Or.inr (Or.inr (Or.inl h))))))))))))) (fun h => hm (Or.inr (Or.inr (Or.inr (Or.inr (Or.inr (Or.inr (Or.inr (Or.inr (Or.inr (Or.inr (Or.inr (Or.inr (Or.inl h))))))))))))))))))))
theorem qv_514f8c9e5 {a : Nat} {j : Int} (hm : ¬ ((a = 41 ∧ j = 0) ∨ a = 42 ∨ (a = 41 ∧ j = 2) ∨ (a = 41 ∧ j = 3) ∨ (a = 41 ∧ j = 4) ∨ (a = 41 ∧ j = 5) ∨ (a = 41 ∧ j = 6) ∨ (a = 41 ∧ j = 7) ∨ (a = 41 ∧ j = 8) ∨ (a = 41 ∧ j = 29) ∨ (a = 41 ∧ j = 30) ∨ a = 50 ∨ a = 51 ∨ a = 52 ∨ a = 53)) : ¬ ((a = 41 ∧ j = 2) ∨ (a = 41 ∧ j = 3) ∨ (a = 41 ∧ j = 4) ∨ (a = 41 ∧ j = 5) ∨ (a = 41 ∧ j = 7) ∨ (a = 41 ∧ j = 8)) := (fun q => q.elim (fun h => hm (Or.inr (Or.inr (Or.inl h)))) (fun q => q.elim (fun h => hm (Or.inr (Or.inr (Or.inr (Or.inl h))))) (fun q => q.elim (fun h => hm (Or.inr (Or.inr (Or.inr (Or.inr (Or.inl h)))))) (fun q => q.elim (fun h => hm (Or.inr (Or.inr (Or.inr (Or.inr (Or.inr (Or.inl h))))))) (fun q => q.elim (fun h => hm (Or.inr (Or.inr (Or.inr (Or.inr (Or.inr (Or.inr (Or.inr (Or.inl h))))))))) (fun h => hm (Or.inr (Or.inr (Or.inr (Or.inr (Or.inr (Or.inr (Or.inr (Or.inr (Or.inl h)))))))))))))))
theorem q_803e7bd5f {x0 : Int} (f0 : ¬ (x0 > 150)) : x0 ≤ 150 := by omega
theorem qv_40204bf00 {a : Nat} {j : Int} (hm : ¬ ((a = 41 ∧ j = 0) ∨ a = 42 ∨ (a = 41 ∧ j = 2) ∨ (a = 41 ∧ j = 3) ∨ (a = 41 ∧ j = 4) ∨ (a = 41 ∧ j = 5) ∨ (a = 41 ∧ j = 6) ∨ (a = 41 ∧ j = 7) ∨ (a = 41 ∧ j = 8) ∨ (a = 41 ∧ j = 29) ∨ (a = 41 ∧ j = 30) ∨ a = 50 ∨ a = 51 ∨ a = 52 ∨ a = 53)) : ¬ ((a = 41 ∧ j = 5) ∨ (a = 41 ∧ j = 6)) := (fun q => q.elim (fun h => hm (Or.inr (Or.inr (Or.inr (Or.inr (Or.inr (Or.inl h))))))) (fun h => hm (Or.inr (Or.inr (Or.inr (Or.inr (Or.inr (Or.inr (Or.inl h)))))))))
theorem q_6948128fc {x0 : Int} (f0 : x0 = 5) : x0 = 5 := by omega
theorem q_655701c1c {x0 : Int} (f0 : ¬ (x0 ≠ 8)) : ¬ x0 = 5 := by omega
theorem q_8edf13dc8 {x0 : Int} : (x0) * 90 = 90 * x0 := by omega
theorem c_177_0 : mLk 177 0 = some (.aload_n 0, 1) := rfl
theorem c_177_1 : mLk 177 1 = some (.iconst 0, 1) := rfl
theorem c_177_2 : mLk 177 2 = some (.putfield 3, 3) := rfl
theorem c_177_5 : mLk 177 5 = some (.aload_n 0, 1) := rfl
theorem c_177_6 : mLk 177 6 = some (.iload_n 1, 1) := rfl
theorem c_177_7 : mLk 177 7 = some (.ifCond .lt 22, 3) := rfl
theorem c_177_29 : mLk 177 29 = some (.iconst 0, 1) := rfl
theorem c_177_30 : mLk 177 30 = some (.iconst 1, 1) := rfl
theorem c_177_31 : mLk 177 31 = some (.iconst 1, 1) := rfl
theorem c_177_32 : mLk 177 32 = some (.invokevirtual 203, 3) := rfl
theorem c_177_35 : mLk 177 35 = some (.ifCond .ne 5, 3) := rfl
theorem c_177_38 : mLk 177 38 = some (.iconst 0, 1) := rfl
theorem c_177_39 : mLk 177 39 = some (.ireturn, 1) := rfl
theorem c_177_10 : mLk 177 10 = some (.iload_n 1, 1) := rfl
theorem c_177_11 : mLk 177 11 = some (.aload_n 0, 1) := rfl
theorem c_177_12 : mLk 177 12 = some (.getfield 99, 3) := rfl
theorem c_177_15 : mLk 177 15 = some (.if_icmp .gt 14, 3) := rfl
theorem c_177_18 : mLk 177 18 = some (.iload_n 1, 1) := rfl
theorem c_177_19 : mLk 177 19 = some (.sipush 150, 3) := rfl
theorem c_177_22 : mLk 177 22 = some (.if_icmp .gt 7, 3) := rfl
theorem c_177_25 : mLk 177 25 = some (.iconst 1, 1) := rfl
theorem c_177_26 : mLk 177 26 = some (.goto 4, 3) := rfl
theorem c_177_40 : mLk 177 40 = some (.aload_n 0, 1) := rfl
theorem c_177_41 : mLk 177 41 = some (.iload_n 1, 1) := rfl
theorem c_177_42 : mLk 177 42 = some (.invokevirtual 207, 3) := rfl
theorem c_177_45 : mLk 177 45 = some (.aload_n 0, 1) := rfl
theorem c_177_46 : mLk 177 46 = some (.iconst 0, 1) := rfl
theorem c_177_47 : mLk 177 47 = some (.putfield 236, 3) := rfl
theorem c_177_50 : mLk 177 50 = some (.aload_n 0, 1) := rfl
theorem c_177_51 : mLk 177 51 = some (.invokevirtual 251, 3) := rfl
theorem c_177_54 : mLk 177 54 = some (.aload_n 0, 1) := rfl
theorem c_177_55 : mLk 177 55 = some (.invokevirtual 131, 3) := rfl
theorem c_177_58 : mLk 177 58 = some (.ifCond .eq 19, 3) := rfl
theorem c_177_77 : mLk 177 77 = some (.aload_n 0, 1) := rfl
theorem c_177_78 : mLk 177 78 = some (.iconst 1, 1) := rfl
theorem c_177_79 : mLk 177 79 = some (.invokevirtual 232, 3) := rfl
theorem c_177_82 : mLk 177 82 = some (.istore_n 2, 1) := rfl
theorem c_177_83 : mLk 177 83 = some (.aload_n 0, 1) := rfl
theorem c_177_84 : mLk 177 84 = some (.getfield 102, 3) := rfl
theorem c_177_87 : mLk 177 87 = some (.iconst (-1), 1) := rfl
theorem c_177_88 : mLk 177 88 = some (.if_icmp .eq 5, 3) := rfl
theorem c_177_91 : mLk 177 91 = some (.iload_n 2, 1) := rfl
theorem c_177_92 : mLk 177 92 = some (.ireturn, 1) := rfl
theorem c_177_61 : mLk 177 61 = some (.aload_n 0, 1) := rfl
theorem c_177_62 : mLk 177 62 = some (.invokevirtual 211, 3) := rfl
theorem c_177_65 : mLk 177 65 = some (.ifCond .eq 12, 3) := rfl
theorem c_177_93 : mLk 177 93 = some (.aload_n 0, 1) := rfl
theorem c_177_94 : mLk 177 94 = some (.aload_n 0, 1) := rfl
theorem c_177_95 : mLk 177 95 = some (.getfield 236, 3) := rfl
theorem c_177_98 : mLk 177 98 = some (.putfield 173, 3) := rfl
theorem c_177_101 : mLk 177 101 = some (.aload_n 0, 1) := rfl
theorem c_177_102 : mLk 177 102 = some (.aload_n 0, 1) := rfl
theorem c_177_103 : mLk 177 103 = some (.getfield 41, 3) := rfl
theorem c_177_106 : mLk 177 106 = some (.aload_n 0, 1) := rfl
theorem c_177_107 : mLk 177 107 = some (.getfield 47, 3) := rfl
theorem c_177_110 : mLk 177 110 = some (.aload_n 0, 1) := rfl
theorem c_177_111 : mLk 177 111 = some (.getfield 236, 3) := rfl
theorem c_177_114 : mLk 177 114 = some (.invokevirtual 169, 3) := rfl
theorem c_177_117 : mLk 177 117 = some (.aload_n 0, 1) := rfl
theorem c_177_118 : mLk 177 118 = some (.aload_n 0, 1) := rfl
theorem c_177_119 : mLk 177 119 = some (.getfield 44, 3) := rfl
theorem c_177_122 : mLk 177 122 = some (.aload_n 0, 1) := rfl
theorem c_177_123 : mLk 177 123 = some (.getfield 50, 3) := rfl
theorem c_177_126 : mLk 177 126 = some (.aload_n 0, 1) := rfl
theorem c_177_127 : mLk 177 127 = some (.getfield 236, 3) := rfl
theorem c_177_130 : mLk 177 130 = some (.invokevirtual 169, 3) := rfl
theorem c_177_133 : mLk 177 133 = some (.iload_n 2, 1) := rfl
theorem c_177_134 : mLk 177 134 = some (.ireturn, 1) := rfl
theorem c_177_68 : mLk 177 68 = some (.aload_n 0, 1) := rfl
theorem c_177_69 : mLk 177 69 = some (.iconst 1, 1) := rfl
theorem c_177_70 : mLk 177 70 = some (.aload_n 0, 1) := rfl
theorem c_177_71 : mLk 177 71 = some (.getfield 108, 3) := rfl
theorem c_177_74 : mLk 177 74 = some (.invokevirtual 138, 3) := rfl
theorem c_178_0 : mLk 178 0 = some (.iload_n 0, 1) := rfl
theorem c_178_1 : mLk 178 1 = some (.iconst 2, 1) := rfl
theorem c_178_2 : mLk 178 2 = some (.if_icmp .ne 7, 3) := rfl
theorem c_178_9 : mLk 178 9 = some (.iload_n 0, 1) := rfl
theorem c_178_10 : mLk 178 10 = some (.iconst 3, 1) := rfl
theorem c_178_11 : mLk 178 11 = some (.if_icmp .ne 7, 3) := rfl
theorem c_178_18 : mLk 178 18 = some (.iload_n 0, 1) := rfl
theorem c_178_19 : mLk 178 19 = some (.iconst 4, 1) := rfl
theorem c_178_20 : mLk 178 20 = some (.if_icmp .ne 7, 3) := rfl
theorem c_178_27 : mLk 178 27 = some (.iload_n 0, 1) := rfl
theorem c_178_28 : mLk 178 28 = some (.iconst 5, 1) := rfl
theorem c_178_29 : mLk 178 29 = some (.if_icmp .eq 9, 3) := rfl
theorem c_178_38 : mLk 178 38 = some (.iload_n 2, 1) := rfl
theorem c_178_39 : mLk 178 39 = some (.ifCond .ne 7, 3) := rfl
theorem c_178_46 : mLk 178 46 = some (.iload_n 0, 1) := rfl
theorem c_178_47 : mLk 178 47 = some (.iconst 5, 1) := rfl
theorem c_178_48 : mLk 178 48 = some (.if_icmp .ne 9, 3) := rfl
theorem c_178_51 : mLk 178 51 = some (.iload_n 1, 1) := rfl
theorem c_178_52 : mLk 178 52 = some (.iload_n 2, 1) := rfl
theorem c_178_53 : mLk 178 53 = some (.idiv, 1) := rfl
theorem c_178_54 : mLk 178 54 = some (.goto 6, 3) := rfl
theorem c_178_60 : mLk 178 60 = some (.ireturn, 1) := rfl
theorem c_178_42 : mLk 178 42 = some (.iconst 0, 1) := rfl
theorem c_178_43 : mLk 178 43 = some (.goto 17, 3) := rfl
theorem c_178_32 : mLk 178 32 = some (.iload_n 0, 1) := rfl
theorem c_178_33 : mLk 178 33 = some (.bipush 8, 2) := rfl
theorem c_178_35 : mLk 178 35 = some (.if_icmp .ne 26, 3) := rfl
theorem c_178_61 : mLk 178 61 = some (.iload_n 1, 1) := rfl
theorem c_178_62 : mLk 178 62 = some (.iload_n 2, 1) := rfl
theorem c_178_63 : mLk 178 63 = some (.if_icmp .ge 7, 3) := rfl
theorem c_178_70 : mLk 178 70 = some (.iconst 0, 1) := rfl
theorem c_178_71 : mLk 178 71 = some (.iload_n 0, 1) := rfl
theorem c_178_72 : mLk 178 72 = some (.bipush 6, 2) := rfl
theorem c_178_74 : mLk 178 74 = some (.if_icmp .ne 7, 3) := rfl
theorem c_178_81 : mLk 178 81 = some (.iconst 0, 1) := rfl
theorem c_178_82 : mLk 178 82 = some (.if_icmp .ne 7, 3) := rfl
theorem c_178_85 : mLk 178 85 = some (.iload_n 1, 1) := rfl
theorem c_178_86 : mLk 178 86 = some (.goto 4, 3) := rfl
theorem c_178_90 : mLk 178 90 = some (.ireturn, 1) := rfl
theorem c_178_77 : mLk 178 77 = some (.iconst 1, 1) := rfl
theorem c_178_78 : mLk 178 78 = some (.goto 4, 3) := rfl
theorem c_178_89 : mLk 178 89 = some (.iload_n 2, 1) := rfl
theorem c_178_66 : mLk 178 66 = some (.iconst 1, 1) := rfl
theorem c_178_67 : mLk 178 67 = some (.goto 4, 3) := rfl
theorem c_178_57 : mLk 178 57 = some (.iload_n 1, 1) := rfl
theorem c_178_58 : mLk 178 58 = some (.iload_n 2, 1) := rfl
theorem c_178_59 : mLk 178 59 = some (.irem, 1) := rfl
theorem c_178_23 : mLk 178 23 = some (.iload_n 1, 1) := rfl
theorem c_178_24 : mLk 178 24 = some (.iload_n 2, 1) := rfl
theorem c_178_25 : mLk 178 25 = some (.imul, 1) := rfl
theorem c_178_26 : mLk 178 26 = some (.ireturn, 1) := rfl
theorem c_178_14 : mLk 178 14 = some (.iload_n 1, 1) := rfl
theorem c_178_15 : mLk 178 15 = some (.iload_n 2, 1) := rfl
theorem c_178_16 : mLk 178 16 = some (.isub, 1) := rfl
theorem c_178_17 : mLk 178 17 = some (.ireturn, 1) := rfl
theorem c_178_5 : mLk 178 5 = some (.iload_n 1, 1) := rfl
theorem c_178_6 : mLk 178 6 = some (.iload_n 2, 1) := rfl
theorem c_178_7 : mLk 178 7 = some (.iadd, 1) := rfl
theorem c_178_8 : mLk 178 8 = some (.ireturn, 1) := rfl
theorem c_179_4 : mLk 179 4 = some (.iload_n 2, 1) := rfl
theorem c_179_5 : mLk 179 5 = some (.aload_n 0, 1) := rfl
theorem c_179_6 : mLk 179 6 = some (.getfield 173, 3) := rfl
theorem c_179_9 : mLk 179 9 = some (.if_icmp .ge 86, 3) := rfl
theorem c_179_95 : mLk 179 95 = some (.aload_n 0, 1) := rfl
theorem c_179_96 : mLk 179 96 = some (.getfield 53, 3) := rfl
theorem c_179_99 : mLk 179 99 = some (.iconst 0, 1) := rfl
theorem c_179_100 : mLk 179 100 = some (.iaload, 1) := rfl
theorem c_179_101 : mLk 179 101 = some (.ireturn, 1) := rfl
theorem c_179_12 : mLk 179 12 = some (.aload_n 0, 1) := rfl
theorem c_179_13 : mLk 179 13 = some (.getfield 47, 3) := rfl
theorem c_179_16 : mLk 179 16 = some (.iload_n 2, 1) := rfl
theorem c_179_17 : mLk 179 17 = some (.iaload, 1) := rfl
theorem c_179_18 : mLk 179 18 = some (.istore_n 3, 1) := rfl
theorem c_179_19 : mLk 179 19 = some (.iload_n 3, 1) := rfl
theorem c_179_20 : mLk 179 20 = some (.iconst 1, 1) := rfl
theorem c_179_21 : mLk 179 21 = some (.if_icmp .gt 39, 3) := rfl
theorem c_179_60 : mLk 179 60 = some (.iinc 1 (-1), 3) := rfl
theorem c_179_63 : mLk 179 63 = some (.aload_n 0, 1) := rfl
theorem c_179_64 : mLk 179 64 = some (.getfield 53, 3) := rfl
theorem c_179_67 : mLk 179 67 = some (.iload_n 1, 1) := rfl
theorem c_179_68 : mLk 179 68 = some (.iconst 1, 1) := rfl
theorem c_179_69 : mLk 179 69 = some (.isub, 1) := rfl
theorem c_179_70 : mLk 179 70 = some (.iload_n 3, 1) := rfl
theorem c_179_71 : mLk 179 71 = some (.aload_n 0, 1) := rfl
theorem c_179_72 : mLk 179 72 = some (.getfield 53, 3) := rfl
theorem c_179_75 : mLk 179 75 = some (.iload_n 1, 1) := rfl
theorem c_179_76 : mLk 179 76 = some (.iconst 1, 1) := rfl
theorem c_179_77 : mLk 179 77 = some (.isub, 1) := rfl
theorem c_179_78 : mLk 179 78 = some (.iaload, 1) := rfl
theorem c_179_79 : mLk 179 79 = some (.aload_n 0, 1) := rfl
theorem c_179_80 : mLk 179 80 = some (.getfield 53, 3) := rfl
theorem c_179_83 : mLk 179 83 = some (.iload_n 1, 1) := rfl
theorem c_179_84 : mLk 179 84 = some (.iaload, 1) := rfl
theorem c_179_85 : mLk 179 85 = some (.invokestatic 277, 3) := rfl
theorem c_179_88 : mLk 179 88 = some (.iastore, 1) := rfl
theorem c_179_89 : mLk 179 89 = some (.iinc 2 1, 3) := rfl
theorem c_179_92 : mLk 179 92 = some (.goto (-88), 3) := rfl
theorem c_179_24 : mLk 179 24 = some (.aload_n 0, 1) := rfl
theorem c_179_25 : mLk 179 25 = some (.getfield 53, 3) := rfl
theorem c_179_28 : mLk 179 28 = some (.iload_n 1, 1) := rfl
theorem c_179_29 : mLk 179 29 = some (.iload_n 3, 1) := rfl
theorem c_179_30 : mLk 179 30 = some (.ifCond .ne 12, 3) := rfl
theorem c_179_42 : mLk 179 42 = some (.aload_n 0, 1) := rfl
theorem c_179_43 : mLk 179 43 = some (.getfield 56, 3) := rfl
theorem c_179_46 : mLk 179 46 = some (.aload_n 0, 1) := rfl
theorem c_179_47 : mLk 179 47 = some (.getfield 50, 3) := rfl
theorem c_179_50 : mLk 179 50 = some (.iload_n 2, 1) := rfl
theorem c_179_51 : mLk 179 51 = some (.iaload, 1) := rfl
theorem c_179_52 : mLk 179 52 = some (.iaload, 1) := rfl
theorem c_179_53 : mLk 179 53 = some (.iastore, 1) := rfl
theorem c_179_54 : mLk 179 54 = some (.iinc 1 1, 3) := rfl
theorem c_179_57 : mLk 179 57 = some (.goto 32, 3) := rfl
theorem c_179_33 : mLk 179 33 = some (.aload_n 0, 1) := rfl
theorem c_179_34 : mLk 179 34 = some (.getfield 50, 3) := rfl
theorem c_179_37 : mLk 179 37 = some (.iload_n 2, 1) := rfl
theorem c_179_38 : mLk 179 38 = some (.iaload, 1) := rfl
theorem c_179_39 : mLk 179 39 = some (.goto 14, 3) := rfl
theorem c_179_0 : mLk 179 0 = some (.iconst 0, 1) := rfl
theorem c_179_1 : mLk 179 1 = some (.istore_n 1, 1) := rfl
theorem c_179_2 : mLk 179 2 = some (.iconst 0, 1) := rfl
theorem c_179_3 : mLk 179 3 = some (.istore_n 2, 1) := rfl
theorem c_180_0 : mLk 180 0 = some (.aload_n 0, 1) := rfl
theorem c_180_1 : mLk 180 1 = some (.getfield 173, 3) := rfl
theorem c_180_4 : mLk 180 4 = some (.ifCond .ne 24, 3) := rfl
theorem c_180_28 : mLk 180 28 = some (.aload_n 0, 1) := rfl
theorem c_180_29 : mLk 180 29 = some (.invokevirtual 281, 3) := rfl
theorem c_180_32 : mLk 180 32 = some (.istore_n 1, 1) := rfl
theorem c_180_33 : mLk 180 33 = some (.iload_n 1, 1) := rfl
theorem c_180_34 : mLk 180 34 = some (.ifCond .ge 7, 3) := rfl
theorem c_180_41 : mLk 180 41 = some (.iload_n 1, 1) := rfl
theorem c_180_42 : mLk 180 42 = some (.bipush 99, 2) := rfl
theorem c_180_44 : mLk 180 44 = some (.if_icmp .le 8, 3) := rfl
theorem c_180_52 : mLk 180 52 = some (.iload_n 1, 1) := rfl
theorem c_180_53 : mLk 180 53 = some (.ireturn, 1) := rfl
theorem c_180_47 : mLk 180 47 = some (.bipush 99, 2) := rfl
theorem c_180_49 : mLk 180 49 = some (.goto 4, 3) := rfl
theorem c_180_37 : mLk 180 37 = some (.iconst 0, 1) := rfl
theorem c_180_38 : mLk 180 38 = some (.goto 15, 3) := rfl
theorem c_180_7 : mLk 180 7 = some (.aload_n 0, 1) := rfl
theorem c_180_8 : mLk 180 8 = some (.getfield 56, 3) := rfl
theorem c_180_11 : mLk 180 11 = some (.iconst 0, 1) := rfl
theorem c_180_12 : mLk 180 12 = some (.iaload, 1) := rfl
theorem c_180_13 : mLk 180 13 = some (.bipush 90, 2) := rfl
theorem c_180_15 : mLk 180 15 = some (.imul, 1) := rfl
theorem c_180_16 : mLk 180 16 = some (.aload_n 0, 1) := rfl
theorem c_180_17 : mLk 180 17 = some (.getfield 56, 3) := rfl
theorem c_180_20 : mLk 180 20 = some (.iconst 4, 1) := rfl
theorem c_180_21 : mLk 180 21 = some (.iaload, 1) := rfl
theorem c_180_22 : mLk 180 22 = some (.iconst 1, 1) := rfl
theorem c_180_23 : mLk 180 23 = some (.iadd, 1) := rfl
theorem c_180_24 : mLk 180 24 = some (.idiv, 1) := rfl
theorem c_180_25 : mLk 180 25 = some (.goto 7, 3) := rfl
theorem kf_8_47 : a_lk (kF 8) 47 = some (8, 26) := rfl
theorem kf_8_50 : a_lk (kF 8) 50 = some (8, 27) := rfl
theorem kf_8_53 : a_lk (kF 8) 53 = some (8, 28) := rfl
theorem kf_8_56 : a_lk (kF 8) 56 = some (8, 31) := rfl
theorem km_8_281 : a_lk (kM 8) 281 = some (0, 179) := rfl
set_option maxRecDepth 100000 in
set_option maxHeartbeats 4000000 in
theorem s_177 {sc : List Int32} {e : Int} {d u P Q : Nat} {c : ME} {a1 : Int} {Z : AR → Prop} (hI : Iv u e P Q c) (ha1 : (-2147483648) ≤ a1 ∧ a1 ≤ 2147483647) (K : ∀ (c2 : ME) (y : Int), Iv u e P Q c2 → (∀ (a : Nat) (j : Int), ¬ ((a = 41 ∧ j = 0) ∨ a = 42 ∨ (a = 41 ∧ j = 2) ∨ (a = 41 ∧ j = 3) ∨ (a = 41 ∧ j = 4) ∨ (a = 41 ∧ j = 5) ∨ (a = 41 ∧ j = 6) ∨ (a = 41 ∧ j = 7) ∨ (a = 41 ∧ j = 8) ∨ (a = 41 ∧ j = 29) ∨ (a = 41 ∧ j = 30) ∨ a = 50 ∨ a = 51 ∨ a = 52 ∨ a = 53) → c2 a j = c a j) → (-2147483648) ≤ y ∧ y ≤ 2147483647 → ((c2 41 2 = 0 ∧ a1 ≥ 0 ∧ a1 ≤ c 41 2 ∧ a1 ≤ 150) ∨ (c2 41 2 = c 41 2 ∧ a1 < 0) ∨ (c2 41 2 = c 41 2 ∧ a1 > c 41 2) ∨ (c2 41 2 = c 41 2 ∧ a1 > 150)) → Z (.inl (some (vi y)), Wd P Q P P c2, 0, 0)) : Wp sc (d + 41) 177 0 [(0, .ref 41), (1, vi a1)] [] (Wd P Q P P c) 0 0 Z := by
  have hP := iv_P hI
  have hQ := iv_Q hI
  refine q_aload_n c_177_0 rfl (q_iconst c_177_1 (v_pi (z := 0) c_177_2 kf_8_3 rfl (nb_ rfl) rfl rfl rfl (by decide) (q_aload_n c_177_5 rfl (q_iload_n c_177_6 rfl ?_))))
  by_cases h_1 : a1 < 0
  · refine v_if_lt_t (t := 29) c_177_7 rfl ⟨ha1.1, h_1, by decide⟩ (q_iconst c_177_29 (q_iconst c_177_30 (q_iconst c_177_31 (v_cv c_177_32 km_8_203 rfl rfl (nb_ rfl) ⟨⟨rfl, rfl⟩, nb_ rfl, rfl⟩ (nb_ rfl) (nb_ rfl) (q_iload_n c_145_0 rfl (v_if_ne_f (t := 26) c_145_1 rfl (by decide) (q_aload_n c_145_4 rfl ?_)))))))
    refine v_gi (z := 0) (v := 0) c_145_5 kf_8_3 rfl (nb_ rfl) rfl rfl (up_e rfl) (v_if_ne_f (t := 26) c_145_8 rfl (by decide) (q_aload_n c_145_11 rfl (q_iload_n c_145_12 rfl (v_pi (z := 0) c_145_13 kf_8_3 rfl (nb_ rfl) rfl rfl rfl (by decide) (q_aload_n c_145_16 rfl (v_gr (t := 42) c_145_17 kf_8_7 rfl (nb_ rfl) rfl (q_iload_n c_145_20 rfl ?_)))))))
    refine q_dup2 c_145_21 ⟨rfl, rfl⟩ ?_
    have h_2 := ir_42 hI 1
    refine v_ia (v := c 42 1) c_145_22 rfl (by decide) (by decide) (by decide) ((up_c (nn rfl)).trans (up_c (nn rfl))) (q_iconst c_145_23 (v_iadd (v := c 42 1 + 1) c_145_24 rfl (v_nrm (fun y_3 hy_3 => (v_is c_145_25 rfl (by decide) (by decide) (by decide) (q_aload_n c_145_26 rfl (v_gi (z := 0) (v := 1) c_145_27 kf_8_3 rfl (nb_ rfl) rfl rfl ((up_c (nn rfl)).trans (up_e rfl)) (v_if_ne_t (t := 37) c_145_30 rfl (by decide) ?_))))))))
    refine q_iconst c_145_37 (v_zret c_145_38 rfl (by decide) (bk_inl (v_if_ne_f (t := 40) c_177_35 rfl (by decide) (q_iconst c_177_38 (q_iret c_177_39 rfl ?_)))))
    have hI_4 := iw_41_0 (v := 0) hI ⟨by decide, by decide⟩
    have hI_5 := iw_41_0 (v := 1) hI_4 ⟨by decide, by decide⟩
    have hI_6 := iw_42 (j := 1) (v := y_3) hI_5 ⟨hy_3.1, hy_3.2⟩
    have h_7 := ir_41_2 hI
    have h_8 : (up (up (up c 41 0 0) 41 0 1) 42 1 y_3) 41 2 = c 41 2 := ((up_c (nn rfl)).trans ((up_n (by decide)).trans (up_n (by decide))))
    exact K (up (up (up c 41 0 0) 41 0 1) 42 1 y_3) 0 hI_6 (fun a j hm => (up_b (Decidable.or_iff_not_imp_left.mpr (fun h1 h2 => hm (Or.inr (Or.inl (Decidable.not_not.mp h1)))))).trans ((up_b (Decidable.or_iff_not_imp_left.mpr (fun h1 h2 => hm (Or.inl ⟨Decidable.not_not.mp h1, h2⟩)))).trans (up_b (Decidable.or_iff_not_imp_left.mpr (fun h1 h2 => hm (Or.inl ⟨Decidable.not_not.mp h1, h2⟩)))))) ⟨by decide, by decide⟩ (Or.inr (Or.inl ⟨by first | assumption | omega, by first | exact q_e97a17f6e h_1 | omega⟩))
  · refine v_if_lt_f (t := 29) c_177_7 rfl ⟨by decide, (Int.not_lt.mp h_1), ha1.2⟩ (q_iload_n c_177_10 rfl (q_aload_n c_177_11 rfl ?_))
    have h_9 := ir_41_2 hI
    refine v_gi (z := 2) (v := c 41 2) c_177_12 kf_8_99 rfl (nb_ rfl) rfl rfl (up_n (by decide)) ?_
    by_cases h_10 : a1 > c 41 2
    · refine v_ic_gt_t (t := 29) c_177_15 rfl ⟨(Int.le_trans (by decide) h_9.1), h_10, ha1.2⟩ (q_iconst c_177_29 (q_iconst c_177_30 (q_iconst c_177_31 (v_cv c_177_32 km_8_203 rfl rfl (nb_ rfl) ⟨⟨rfl, rfl⟩, nb_ rfl, rfl⟩ (nb_ rfl) (nb_ rfl) (q_iload_n c_145_0 rfl (v_if_ne_f (t := 26) c_145_1 rfl (by decide) (q_aload_n c_145_4 rfl ?_)))))))
      refine v_gi (z := 0) (v := 0) c_145_5 kf_8_3 rfl (nb_ rfl) rfl rfl (up_e rfl) (v_if_ne_f (t := 26) c_145_8 rfl (by decide) (q_aload_n c_145_11 rfl (q_iload_n c_145_12 rfl (v_pi (z := 0) c_145_13 kf_8_3 rfl (nb_ rfl) rfl rfl rfl (by decide) (q_aload_n c_145_16 rfl (v_gr (t := 42) c_145_17 kf_8_7 rfl (nb_ rfl) rfl (q_iload_n c_145_20 rfl ?_)))))))
      refine q_dup2 c_145_21 ⟨rfl, rfl⟩ ?_
      have h_11 := ir_42 hI 1
      refine v_ia (v := c 42 1) c_145_22 rfl (by decide) (by decide) (by decide) ((up_c (nn rfl)).trans (up_c (nn rfl))) (q_iconst c_145_23 (v_iadd (v := c 42 1 + 1) c_145_24 rfl (v_nrm (fun y_12 hy_12 => (v_is c_145_25 rfl (by decide) (by decide) (by decide) (q_aload_n c_145_26 rfl (v_gi (z := 0) (v := 1) c_145_27 kf_8_3 rfl (nb_ rfl) rfl rfl ((up_c (nn rfl)).trans (up_e rfl)) (v_if_ne_t (t := 37) c_145_30 rfl (by decide) ?_))))))))
      refine q_iconst c_145_37 (v_zret c_145_38 rfl (by decide) (bk_inl (v_if_ne_f (t := 40) c_177_35 rfl (by decide) (q_iconst c_177_38 (q_iret c_177_39 rfl ?_)))))
      have hI_13 := iw_41_0 (v := 0) hI ⟨by decide, by decide⟩
      have hI_14 := iw_41_0 (v := 1) hI_13 ⟨by decide, by decide⟩
      have hI_15 := iw_42 (j := 1) (v := y_12) hI_14 ⟨hy_12.1, hy_12.2⟩
      have h_16 : (up (up (up c 41 0 0) 41 0 1) 42 1 y_12) 41 2 = c 41 2 := ((up_c (nn rfl)).trans ((up_n (by decide)).trans (up_n (by decide))))
      exact K (up (up (up c 41 0 0) 41 0 1) 42 1 y_12) 0 hI_15 (fun a j hm => (up_b (Decidable.or_iff_not_imp_left.mpr (fun h1 h2 => hm (Or.inr (Or.inl (Decidable.not_not.mp h1)))))).trans ((up_b (Decidable.or_iff_not_imp_left.mpr (fun h1 h2 => hm (Or.inl ⟨Decidable.not_not.mp h1, h2⟩)))).trans (up_b (Decidable.or_iff_not_imp_left.mpr (fun h1 h2 => hm (Or.inl ⟨Decidable.not_not.mp h1, h2⟩)))))) ⟨by decide, by decide⟩ (Or.inr (Or.inr (Or.inl ⟨by first | assumption | omega, by first | exact q_0e7f65a30 h_10 | omega⟩)))
    · refine v_ic_gt_f (t := 29) c_177_15 rfl ⟨ha1.1, (Int.not_lt.mp h_10), (Int.le_trans h_9.2 (by decide))⟩ (q_iload_n c_177_18 rfl (v_sip c_177_19 (by decide) ?_))
      by_cases h_17 : a1 > 150
      · refine v_ic_gt_t (t := 29) c_177_22 rfl ⟨by decide, h_17, ha1.2⟩ (q_iconst c_177_29 (q_iconst c_177_30 (q_iconst c_177_31 (v_cv c_177_32 km_8_203 rfl rfl (nb_ rfl) ⟨⟨rfl, rfl⟩, nb_ rfl, rfl⟩ (nb_ rfl) (nb_ rfl) (q_iload_n c_145_0 rfl (v_if_ne_f (t := 26) c_145_1 rfl (by decide) (q_aload_n c_145_4 rfl ?_)))))))
        refine v_gi (z := 0) (v := 0) c_145_5 kf_8_3 rfl (nb_ rfl) rfl rfl (up_e rfl) (v_if_ne_f (t := 26) c_145_8 rfl (by decide) (q_aload_n c_145_11 rfl (q_iload_n c_145_12 rfl (v_pi (z := 0) c_145_13 kf_8_3 rfl (nb_ rfl) rfl rfl rfl (by decide) (q_aload_n c_145_16 rfl (v_gr (t := 42) c_145_17 kf_8_7 rfl (nb_ rfl) rfl (q_iload_n c_145_20 rfl ?_)))))))
        refine q_dup2 c_145_21 ⟨rfl, rfl⟩ ?_
        have h_18 := ir_42 hI 1
        refine v_ia (v := c 42 1) c_145_22 rfl (by decide) (by decide) (by decide) ((up_c (nn rfl)).trans (up_c (nn rfl))) (q_iconst c_145_23 (v_iadd (v := c 42 1 + 1) c_145_24 rfl (v_nrm (fun y_19 hy_19 => (v_is c_145_25 rfl (by decide) (by decide) (by decide) (q_aload_n c_145_26 rfl (v_gi (z := 0) (v := 1) c_145_27 kf_8_3 rfl (nb_ rfl) rfl rfl ((up_c (nn rfl)).trans (up_e rfl)) (v_if_ne_t (t := 37) c_145_30 rfl (by decide) ?_))))))))
        refine q_iconst c_145_37 (v_zret c_145_38 rfl (by decide) (bk_inl (v_if_ne_f (t := 40) c_177_35 rfl (by decide) (q_iconst c_177_38 (q_iret c_177_39 rfl ?_)))))
        have hI_20 := iw_41_0 (v := 0) hI ⟨by decide, by decide⟩
        have hI_21 := iw_41_0 (v := 1) hI_20 ⟨by decide, by decide⟩
        have hI_22 := iw_42 (j := 1) (v := y_19) hI_21 ⟨hy_19.1, hy_19.2⟩
        have h_23 : (up (up (up c 41 0 0) 41 0 1) 42 1 y_19) 41 2 = c 41 2 := ((up_c (nn rfl)).trans ((up_n (by decide)).trans (up_n (by decide))))
        exact K (up (up (up c 41 0 0) 41 0 1) 42 1 y_19) 0 hI_22 (fun a j hm => (up_b (Decidable.or_iff_not_imp_left.mpr (fun h1 h2 => hm (Or.inr (Or.inl (Decidable.not_not.mp h1)))))).trans ((up_b (Decidable.or_iff_not_imp_left.mpr (fun h1 h2 => hm (Or.inl ⟨Decidable.not_not.mp h1, h2⟩)))).trans (up_b (Decidable.or_iff_not_imp_left.mpr (fun h1 h2 => hm (Or.inl ⟨Decidable.not_not.mp h1, h2⟩)))))) ⟨by decide, by decide⟩ (Or.inr (Or.inr (Or.inr ⟨by first | assumption | omega, by first | exact q_8db41993e h_17 | omega⟩)))
      · refine v_ic_gt_f (t := 29) c_177_22 rfl ⟨ha1.1, (Int.not_lt.mp h_17), by decide⟩ (q_iconst c_177_25 (q_goto (t := 30) c_177_26 rfl (q_iconst c_177_30 (q_iconst c_177_31 (v_cv c_177_32 km_8_203 rfl rfl (nb_ rfl) ⟨⟨rfl, rfl⟩, nb_ rfl, rfl⟩ (nb_ rfl) (nb_ rfl) (q_iload_n c_145_0 rfl (v_if_ne_t (t := 26) c_145_1 rfl (by decide) ?_)))))))
        refine q_aload_n c_145_26 rfl (v_gi (z := 0) (v := 0) c_145_27 kf_8_3 rfl (nb_ rfl) rfl rfl (up_e rfl) (v_if_ne_f (t := 37) c_145_30 rfl (by decide) (q_iconst c_145_33 (q_goto (t := 38) c_145_34 rfl (v_zret c_145_38 rfl (by decide) (bk_inl (v_if_ne_t (t := 40) c_177_35 rfl (by decide) ?_)))))))
        refine q_aload_n c_177_40 rfl (q_iload_n c_177_41 rfl ?_)
        have hI_24 := iw_41_0 (v := 0) hI ⟨by decide, by decide⟩
        refine v_cv c_177_42 km_8_207 rfl rfl (nb_ rfl) ⟨⟨rfl, rfl⟩, nb_ rfl, rfl⟩ (nb_ rfl) (nb_ rfl) (s_163 (a1 := a1) hI_24 (show 0 ≤ a1 ∧ a1 ≤ 600 from ⟨by first | exact q_720657ba9 h_1 | omega, by first | exact q_f4271b4e1 h_17 | omega⟩) (fun c_25 hI_26 hF_27 h_28 => (bk_inl ?_)))
        have h_29 := ir_41_2 hI_26
        have h_30 := ir_41_3 hI_26
        have h_31 := ir_41_4 hI_26
        have h_32 := ir_41_5 hI_26
        have h_33 := ir_41_7 hI_26
        refine q_aload_n c_177_45 rfl (q_iconst c_177_46 (v_pi (z := 29) c_177_47 kf_8_236 rfl (nb_ rfl) rfl rfl rfl (by decide) (q_aload_n c_177_50 rfl ?_)))
        have hI_34 := iw_41_29 (v := 0) hI_26 ⟨by decide, by decide⟩
        have h_35 : (up c_25 41 29 0) 41 5 = c_25 41 5 := (up_n (by decide))
        have h_36 : (up c_25 41 29 0) 41 3 = c_25 41 3 := (up_n (by decide))
        have h_37 : (up c_25 41 29 0) 41 4 = c_25 41 4 := (up_n (by decide))
        have h_38 : (up c_25 41 29 0) 41 29 = 0 := (up_e rfl)
        have h_39 : (up c_25 41 29 0) 41 7 = c_25 41 7 := (up_n (by decide))
        obtain ⟨hW_40, hN_41⟩ := nw_zero (c := up c_25 41 29 0) ((up_e rfl))
        refine v_cv c_177_51 km_8_251 rfl rfl (nb_ rfl) ⟨⟨rfl, rfl⟩, nb_ rfl, rfl⟩ (nb_ rfl) (nb_ rfl) (r_174 (o := 0) hI_34 (show 0 ≤ 0 ∧ 0 ≤ 6 from by omega) hW_40 (by first | exact q_6d0a553af h_28 h_32 | omega) (by first | exact q_aa9195485 h_28 h_30 | omega) (by first | exact q_27d6a8614 h_17 h_28 | omega) (by first | exact q_1dc94a4e9 h_31 | omega) (by first | exact q_c5aecebbc h_28 h_33 | omega) (fun c_42 hI_43 hF_44 hW_45 h_46 h_47 h_48 h_49 h_50 => (bk_inl ?_)))
        have h_51 := ir_41_4 hI_43
        have h_52 := ir_41_7 hI_43
        have h_53 := ir_41_29 hI_43
        have h_54 := ir_41_5 hI_43
        refine q_aload_n c_177_54 rfl (v_cv c_177_55 km_8_131 rfl rfl (nb_ rfl) ⟨⟨rfl, rfl⟩, nb_ rfl, rfl⟩ (nb_ rfl) (nb_ rfl) (q_aload_n c_152_0 rfl (v_gi (z := 5) (v := c_42 41 5) c_152_1 kf_8_102 rfl (nb_ rfl) rfl rfl rfl (q_iconst c_152_4 ?_))))
        by_cases h_55 : c_42 41 5 ≠ (-1)
        · refine v_ic_ne_t (t := 12) c_152_5 rfl ⟨h_55, ⟨(Int.le_trans (by decide) h_54.1), (Int.le_trans h_54.2 (by decide))⟩, by decide, by decide⟩ (q_iconst c_152_12 (v_zret c_152_13 rfl (by decide) (bk_inl (v_if_eq_t (t := 77) c_177_58 rfl (by decide) (q_aload_n c_177_77 rfl (q_iconst c_177_78 (v_cv c_177_79 km_8_232 rfl rfl (nb_ rfl) ⟨⟨rfl, rfl⟩, nb_ rfl, rfl⟩ (nb_ rfl) (nb_ rfl) (s_164 (a1 := 1) hI_43 (show (-2147483648) ≤ 1 ∧ 1 ≤ 2147483647 from ⟨by decide, by decide⟩) (fun c_56 y_59 hI_57 hF_58 hy_59 => ?_)))))))))
          refine bk_inl (q_istore_n c_177_82 (nb_ rfl) (q_aload_n c_177_83 rfl ?_))
          have kn_60 : Hid (c_56 41 5 = c_42 41 5) := hF_58 41 5 (fun h => absurd h.2 (ni rfl))
          refine v_gi (z := 5) (v := c_42 41 5) c_177_84 kf_8_102 rfl (nb_ rfl) rfl rfl (hid kn_60) (q_iconst c_177_87 (v_ic_eq_f (t := 93) c_177_88 rfl ⟨by first | exact q_bd023a79f h_54 h_55 | omega, ⟨(Int.le_trans (by decide) h_54.1), (Int.le_trans h_54.2 (by decide))⟩, by decide, by decide⟩ (q_iload_n c_177_91 rfl (q_iret c_177_92 rfl ?_))))
          have kn_61 : Hid (c_42 41 2 = c_25 41 2) := (hF_44 41 2 qn_6ef24e77f).trans (up_n (by decide))
          have kn_62 : Hid (c_56 41 2 = c_25 41 2) := (hF_58 41 2 (fun h => absurd h.2 (ni rfl))).trans (hid kn_61)
          have h_63 : c_56 41 2 = c_25 41 2 := (hid kn_62)
          exact K c_56 y_59 hI_57 (fun a j hm => (hF_58 a j (qv_1661f12fc hm)).trans ((hF_44 a j (qv_64dbd55b6 hm)).trans ((up_b (Decidable.or_iff_not_imp_left.mpr (fun h1 h2 => hm (Or.inr (Or.inr (Or.inr (Or.inr (Or.inr (Or.inr (Or.inr (Or.inr (Or.inr (Or.inl ⟨Decidable.not_not.mp h1, h2⟩))))))))))))).trans ((hF_27 a j (qv_514f8c9e5 hm)).trans (up_b (Decidable.or_iff_not_imp_left.mpr (fun h1 h2 => hm (Or.inl ⟨Decidable.not_not.mp h1, h2⟩)))))))) hy_59 (Or.inl ⟨by first | exact q_59baff7b3 h_28 h_29 | omega, by first | exact q_720657ba9 h_1 | omega, by first | exact q_0325d56da h_10 | omega, by first | exact q_803e7bd5f h_17 | omega⟩)
        · refine v_ic_ne_f (t := 12) c_152_5 rfl (Decidable.not_not.mp h_55) (q_iconst c_152_8 (q_goto (t := 13) c_152_9 rfl (v_zret c_152_13 rfl (by decide) (bk_inl (v_if_eq_f (t := 77) c_177_58 rfl (by decide) (q_aload_n c_177_61 rfl ?_))))))
          have kn_64 : Hid (c_42 41 3 = c_25 41 3) := (hF_44 41 3 qn_d31ba9b5e).trans (up_n (by decide))
          have h_65 : c_42 41 3 = c_25 41 3 := (hid kn_64)
          refine v_cv c_177_62 km_8_211 rfl rfl (nb_ rfl) ⟨⟨rfl, rfl⟩, nb_ rfl, rfl⟩ (nb_ rfl) (nb_ rfl) (s_162 hI_43 (fun c_66 y_69 hI_67 hF_68 hy_69 h_70 h_71 h_72 => (bk_inl ?_)))
          have h_73 := ir_41_4 hI_67
          by_cases h_74 : y_69 = 0
          · refine v_if_eq_t (t := 77) c_177_65 rfl h_74 (q_aload_n c_177_77 rfl (q_iconst c_177_78 (v_cv c_177_79 km_8_232 rfl rfl (nb_ rfl) ⟨⟨rfl, rfl⟩, nb_ rfl, rfl⟩ (nb_ rfl) (nb_ rfl) (s_164 (a1 := 1) hI_67 (show (-2147483648) ≤ 1 ∧ 1 ≤ 2147483647 from ⟨by decide, by decide⟩) (fun c_75 y_78 hI_76 hF_77 hy_78 => (bk_inl (q_istore_n c_177_82 (nb_ rfl) (q_aload_n c_177_83 rfl ?_))))))))
            have kn_79 : Hid (c_66 41 5 = c_42 41 5) := hF_68 41 5 (fun h => absurd h.2 (ni rfl))
            have kn_80 : Hid (c_75 41 5 = c_42 41 5) := (hF_77 41 5 (fun h => absurd h.2 (ni rfl))).trans (hid kn_79)
            refine v_gi (z := 5) (v := c_42 41 5) c_177_84 kf_8_102 rfl (nb_ rfl) rfl rfl (hid kn_80) (q_iconst c_177_87 (v_ic_eq_t (t := 93) c_177_88 rfl (by first | exact q_65c5ff97d h_54 h_55 | omega) (q_aload_n c_177_93 rfl (q_aload_n c_177_94 rfl ?_))))
            have kn_81 : Hid (c_66 41 29 = c_42 41 29) := hF_68 41 29 (fun h => absurd h.2 (ni rfl))
            have kn_82 : Hid (c_75 41 29 = c_42 41 29) := (hF_77 41 29 (fun h => absurd h.2 (ni rfl))).trans (hid kn_81)
            refine v_gi (z := 29) (v := c_42 41 29) c_177_95 kf_8_236 rfl (nb_ rfl) rfl rfl (hid kn_82) (v_pi (z := 30) c_177_98 kf_8_173 rfl (nb_ rfl) rfl rfl rfl (by decide) (q_aload_n c_177_101 rfl (q_aload_n c_177_102 rfl (v_gr (t := 50) c_177_103 kf_8_41 rfl (nb_ rfl) rfl (q_aload_n c_177_106 rfl (v_gr (t := 52) c_177_107 kf_8_47 rfl (nb_ rfl) rfl (q_aload_n c_177_110 rfl ?_)))))))
            refine v_gi (z := 29) (v := c_42 41 29) c_177_111 kf_8_236 rfl (nb_ rfl) rfl rfl ((up_n (by decide)).trans (hid kn_82)) ?_
            obtain ⟨hW_83, hN_84⟩ : Nw c_75 ∧ Nh c_75 = Nh c_42 := nh_fr hW_45 (fun j => (hF_77 50 j (fun h => absurd h.1 (nn rfl))).trans (hF_68 50 j (fun h => absurd h.1 (nn rfl)))) (fun j => (hF_77 51 j (fun h => absurd h.1 (nn rfl))).trans (hF_68 51 j (fun h => absurd h.1 (nn rfl)))) ((hF_77 41 29 (fun h => absurd h.2 (ni rfl))).trans (hF_68 41 29 (fun h => absurd h.2 (ni rfl))))
            refine v_cv c_177_114 km_8_169 rfl rfl (nb_ rfl) ⟨⟨rfl, rfl⟩, nb_ rfl, rfl⟩ (nb_ rfl) (nb_ rfl) (s_148 (f := 50) (t := 52) (nf := 150) (nt := 150) (n := c_42 41 29) rfl rfl (by decide) (by decide) (by decide) (by decide) (by decide) (by omega) (bk_inl (q_aload_n c_177_117 rfl (q_aload_n c_177_118 rfl (v_gr (t := 51) c_177_119 kf_8_44 rfl (nb_ rfl) rfl (q_aload_n c_177_122 rfl (v_gr (t := 53) c_177_123 kf_8_50 rfl (nb_ rfl) rfl (q_aload_n c_177_126 rfl ?_))))))))
            refine v_gi (z := 29) (v := c_42 41 29) c_177_127 kf_8_236 rfl (nb_ rfl) rfl rfl ((upc_c (by omega)).trans ((up_n (by decide)).trans (hid kn_82))) (v_cv c_177_130 km_8_169 rfl rfl (nb_ rfl) ⟨⟨rfl, rfl⟩, nb_ rfl, rfl⟩ (nb_ rfl) (nb_ rfl) (s_148 (f := 51) (t := 53) (nf := 150) (nt := 150) (n := c_42 41 29) rfl rfl (by decide) (by decide) (by decide) (by decide) (by decide) (by omega) (bk_inl (q_iload_n c_177_133 rfl (q_iret c_177_134 rfl ?_)))))
            have hI_85 : Iv u e P Q (upc (upc (up c_75 41 30 (c_42 41 29)) 50 0 52 0 (c_42 41 29)) 51 0 53 0 (c_42 41 29)) := iv_law (n := c_42 41 29) hI_76 hW_83 (show c_75 41 29 = c_42 41 29 from (hid kn_82)) (by omega)
            have kn_86 : Hid (c_42 41 2 = c_25 41 2) := (hF_44 41 2 qn_6ef24e77f).trans (up_n (by decide))
            have kn_87 : Hid (c_66 41 2 = c_25 41 2) := (hF_68 41 2 (fun h => absurd h.2 (ni rfl))).trans (hid kn_86)
            have kn_88 : Hid (c_75 41 2 = c_25 41 2) := (hF_77 41 2 (fun h => absurd h.2 (ni rfl))).trans (hid kn_87)
            have h_89 : (upc (upc (up c_75 41 30 (c_42 41 29)) 50 0 52 0 (c_42 41 29)) 51 0 53 0 (c_42 41 29)) 41 2 = c_25 41 2 := ((upc_c (by omega)).trans ((upc_c (by omega)).trans ((up_n (by decide)).trans (hid kn_88))))
            exact K (upc (upc (up c_75 41 30 (c_42 41 29)) 50 0 52 0 (c_42 41 29)) 51 0 53 0 (c_42 41 29)) y_78 hI_85 (fun a j hm => (upc_c (fun h => hm (Or.inr (Or.inr (Or.inr (Or.inr (Or.inr (Or.inr (Or.inr (Or.inr (Or.inr (Or.inr (Or.inr (Or.inr (Or.inr (Or.inr h)))))))))))))))).trans ((upc_c (fun h => hm (Or.inr (Or.inr (Or.inr (Or.inr (Or.inr (Or.inr (Or.inr (Or.inr (Or.inr (Or.inr (Or.inr (Or.inr (Or.inr (Or.inl h)))))))))))))))).trans ((up_b (Decidable.or_iff_not_imp_left.mpr (fun h1 h2 => hm (Or.inr (Or.inr (Or.inr (Or.inr (Or.inr (Or.inr (Or.inr (Or.inr (Or.inr (Or.inr (Or.inl ⟨Decidable.not_not.mp h1, h2⟩)))))))))))))).trans ((hF_77 a j (qv_1661f12fc hm)).trans ((hF_68 a j (fun h => hm (Or.inr (Or.inr (Or.inr (Or.inr (Or.inl h))))))).trans ((hF_44 a j (qv_64dbd55b6 hm)).trans ((up_b (Decidable.or_iff_not_imp_left.mpr (fun h1 h2 => hm (Or.inr (Or.inr (Or.inr (Or.inr (Or.inr (Or.inr (Or.inr (Or.inr (Or.inr (Or.inl ⟨Decidable.not_not.mp h1, h2⟩))))))))))))).trans ((hF_27 a j (qv_514f8c9e5 hm)).trans (up_b (Decidable.or_iff_not_imp_left.mpr (fun h1 h2 => hm (Or.inl ⟨Decidable.not_not.mp h1, h2⟩)))))))))))) hy_78 (Or.inl ⟨by first | exact q_59baff7b3 h_28 h_29 | omega, by first | exact q_720657ba9 h_1 | omega, by first | exact q_0325d56da h_10 | omega, by first | exact q_803e7bd5f h_17 | omega⟩)
          · refine v_if_eq_f (t := 77) c_177_65 rfl ⟨h_74, ⟨(Int.le_trans (by decide) hy_69.1), (Int.le_trans hy_69.2 (by decide))⟩, by decide, by decide⟩ (q_aload_n c_177_68 rfl (q_iconst c_177_69 (q_aload_n c_177_70 rfl (v_gi (z := 4) (v := c_66 41 4) c_177_71 kf_8_108 rfl (nb_ rfl) rfl rfl rfl (v_cv c_177_74 km_8_138 rfl rfl (nb_ rfl) ⟨⟨rfl, rfl⟩, nb_ rfl, rfl⟩ (nb_ rfl) (nb_ rfl) (s_153 (a1 := 1) (a2 := c_66 41 4) hI_67 (show 1 ≤ 1 ∧ 1 ≤ 3 from ⟨by decide, by decide⟩) (show 0 ≤ c_66 41 4 ∧ c_66 41 4 ≤ 605 from h_73) (fun c_90 hI_91 hF_92 h_93 => (bk_inl ?_))))))))
            have h_94 := ir_41_5 hI_91
            refine q_aload_n c_177_77 rfl (q_iconst c_177_78 (v_cv c_177_79 km_8_232 rfl rfl (nb_ rfl) ⟨⟨rfl, rfl⟩, nb_ rfl, rfl⟩ (nb_ rfl) (nb_ rfl) (s_164 (a1 := 1) hI_91 (show (-2147483648) ≤ 1 ∧ 1 ≤ 2147483647 from ⟨by decide, by decide⟩) (fun c_95 y_98 hI_96 hF_97 hy_98 => (bk_inl (q_istore_n c_177_82 (nb_ rfl) (q_aload_n c_177_83 rfl ?_)))))))
            have kn_99 : Hid (c_95 41 5 = c_90 41 5) := hF_97 41 5 (fun h => absurd h.2 (ni rfl))
            refine v_gi (z := 5) (v := c_90 41 5) c_177_84 kf_8_102 rfl (nb_ rfl) rfl rfl (hid kn_99) (q_iconst c_177_87 (v_ic_eq_f (t := 93) c_177_88 rfl ⟨by first | exact q_e869299d0 h_93 h_94 | omega, ⟨(Int.le_trans (by decide) h_94.1), (Int.le_trans h_94.2 (by decide))⟩, by decide, by decide⟩ (q_iload_n c_177_91 rfl (q_iret c_177_92 rfl ?_))))
            have kn_100 : Hid (c_42 41 2 = c_25 41 2) := (hF_44 41 2 qn_6ef24e77f).trans (up_n (by decide))
            have kn_101 : Hid (c_66 41 2 = c_25 41 2) := (hF_68 41 2 (fun h => absurd h.2 (ni rfl))).trans (hid kn_100)
            have kn_102 : Hid (c_90 41 2 = c_25 41 2) := (hF_92 41 2 (fun q => q.elim (fun h => absurd h.2 (ni rfl)) (fun h => absurd h.2 (ni rfl)))).trans (hid kn_101)
            have kn_103 : Hid (c_95 41 2 = c_25 41 2) := (hF_97 41 2 (fun h => absurd h.2 (ni rfl))).trans (hid kn_102)
            have h_104 : c_95 41 2 = c_25 41 2 := (hid kn_103)
            exact K c_95 y_98 hI_96 (fun a j hm => (hF_97 a j (qv_1661f12fc hm)).trans ((hF_92 a j (qv_40204bf00 hm)).trans ((hF_68 a j (fun h => hm (Or.inr (Or.inr (Or.inr (Or.inr (Or.inl h))))))).trans ((hF_44 a j (qv_64dbd55b6 hm)).trans ((up_b (Decidable.or_iff_not_imp_left.mpr (fun h1 h2 => hm (Or.inr (Or.inr (Or.inr (Or.inr (Or.inr (Or.inr (Or.inr (Or.inr (Or.inr (Or.inl ⟨Decidable.not_not.mp h1, h2⟩))))))))))))).trans ((hF_27 a j (qv_514f8c9e5 hm)).trans (up_b (Decidable.or_iff_not_imp_left.mpr (fun h1 h2 => hm (Or.inl ⟨Decidable.not_not.mp h1, h2⟩)))))))))) hy_98 (Or.inl ⟨by first | exact q_59baff7b3 h_28 h_29 | omega, by first | exact q_720657ba9 h_1 | omega, by first | exact q_0325d56da h_10 | omega, by first | exact q_803e7bd5f h_17 | omega⟩)

set_option maxRecDepth 100000 in
set_option maxHeartbeats 4000000 in
theorem s_178 {sc : List Int32} {e : Int} {d u P Q : Nat} {c : ME} {a0 : Int} {a1 : Int} {a2 : Int} {Z : AR → Prop} (hI : Iv u e P Q c) (ha0 : (-2147483648) ≤ a0 ∧ a0 ≤ 2147483647) (ha1 : (-2147483648) ≤ a1 ∧ a1 ≤ 2147483647) (ha2 : (-2147483648) ≤ a2 ∧ a2 ≤ 2147483647) (K : ∀ (y : Int), (-2147483648) ≤ y ∧ y ≤ 2147483647 → Z (.inl (some (vi y)), Wd P Q P P c, 0, 0)) : Wp sc (d + 7) 178 0 [(0, vi a0), (1, vi a1), (2, vi a2)] [] (Wd P Q P P c) 0 0 Z := by
  have hP := iv_P hI
  have hQ := iv_Q hI
  refine q_iload_n c_178_0 rfl (q_iconst c_178_1 ?_)
  by_cases h_1 : a0 ≠ 2
  · refine v_ic_ne_t (t := 9) c_178_2 rfl ⟨h_1, ⟨ha0.1, ha0.2⟩, by decide, by decide⟩ (q_iload_n c_178_9 rfl (q_iconst c_178_10 ?_))
    by_cases h_2 : a0 ≠ 3
    · refine v_ic_ne_t (t := 18) c_178_11 rfl ⟨h_2, ⟨ha0.1, ha0.2⟩, by decide, by decide⟩ (q_iload_n c_178_18 rfl (q_iconst c_178_19 ?_))
      by_cases h_3 : a0 ≠ 4
      · refine v_ic_ne_t (t := 27) c_178_20 rfl ⟨h_3, ⟨ha0.1, ha0.2⟩, by decide, by decide⟩ (q_iload_n c_178_27 rfl (q_iconst c_178_28 ?_))
        by_cases h_4 : a0 = 5
        · refine v_ic_eq_t (t := 38) c_178_29 rfl h_4 (q_iload_n c_178_38 rfl ?_)
          by_cases h_5 : a2 ≠ 0
          · refine v_if_ne_t (t := 46) c_178_39 rfl ⟨h_5, ⟨ha2.1, ha2.2⟩, by decide, by decide⟩ (q_iload_n c_178_46 rfl (q_iconst c_178_47 (v_ic_ne_f (t := 57) c_178_48 rfl (by first | exact q_6948128fc h_4 | omega) (q_iload_n c_178_51 rfl (q_iload_n c_178_52 rfl (v_idivx c_178_53 ⟨by omega, by omega, by omega⟩ (fun y_6 hy_6 => (q_goto (t := 60) c_178_54 rfl ?_))))))))
            refine q_iret c_178_60 rfl ?_
            exact K y_6 hy_6
          · refine v_if_ne_f (t := 46) c_178_39 rfl (Decidable.not_not.mp h_5) (q_iconst c_178_42 (q_goto (t := 60) c_178_43 rfl (q_iret c_178_60 rfl ?_)))
            exact K 0 ⟨by decide, by decide⟩
        · refine v_ic_eq_f (t := 38) c_178_29 rfl ⟨h_4, ⟨ha0.1, ha0.2⟩, by decide, by decide⟩ (q_iload_n c_178_32 rfl (v_bip c_178_33 (by decide) ?_))
          by_cases h_7 : a0 ≠ 8
          · refine v_ic_ne_t (t := 61) c_178_35 rfl ⟨h_7, ⟨ha0.1, ha0.2⟩, by decide, by decide⟩ (q_iload_n c_178_61 rfl (q_iload_n c_178_62 rfl ?_))
            by_cases h_8 : a1 ≥ a2
            · refine v_ic_ge_t (t := 70) c_178_63 rfl ⟨ha2.1, h_8, ha1.2⟩ (q_iconst c_178_70 (q_iload_n c_178_71 rfl (v_bip c_178_72 (by decide) ?_)))
              by_cases h_9 : a0 ≠ 6
              · refine v_ic_ne_t (t := 81) c_178_74 rfl ⟨h_9, ⟨ha0.1, ha0.2⟩, by decide, by decide⟩ (q_iconst c_178_81 (v_ic_ne_f (t := 89) c_178_82 rfl (by decide) (q_iload_n c_178_85 rfl (q_goto (t := 90) c_178_86 rfl (q_iret c_178_90 rfl ?_)))))
                exact K a1 ha1
              · refine v_ic_ne_f (t := 81) c_178_74 rfl (Decidable.not_not.mp h_9) (q_iconst c_178_77 (q_goto (t := 82) c_178_78 rfl (v_ic_ne_t (t := 89) c_178_82 rfl (by decide) (q_iload_n c_178_89 rfl (q_iret c_178_90 rfl ?_)))))
                exact K a2 ha2
            · refine v_ic_ge_f (t := 70) c_178_63 rfl ⟨ha1.1, (Int.not_le.mp h_8), ha2.2⟩ (q_iconst c_178_66 (q_goto (t := 71) c_178_67 rfl (q_iload_n c_178_71 rfl (v_bip c_178_72 (by decide) ?_))))
              by_cases h_10 : a0 ≠ 6
              · refine v_ic_ne_t (t := 81) c_178_74 rfl ⟨h_10, ⟨ha0.1, ha0.2⟩, by decide, by decide⟩ (q_iconst c_178_81 (v_ic_ne_t (t := 89) c_178_82 rfl (by decide) (q_iload_n c_178_89 rfl (q_iret c_178_90 rfl ?_))))
                exact K a2 ha2
              · refine v_ic_ne_f (t := 81) c_178_74 rfl (Decidable.not_not.mp h_10) (q_iconst c_178_77 (q_goto (t := 82) c_178_78 rfl (v_ic_ne_f (t := 89) c_178_82 rfl (by decide) (q_iload_n c_178_85 rfl (q_goto (t := 90) c_178_86 rfl (q_iret c_178_90 rfl ?_))))))
                exact K a1 ha1
          · refine v_ic_ne_f (t := 61) c_178_35 rfl (Decidable.not_not.mp h_7) (q_iload_n c_178_38 rfl ?_)
            by_cases h_11 : a2 ≠ 0
            · refine v_if_ne_t (t := 46) c_178_39 rfl ⟨h_11, ⟨ha2.1, ha2.2⟩, by decide, by decide⟩ (q_iload_n c_178_46 rfl (q_iconst c_178_47 (v_ic_ne_t (t := 57) c_178_48 rfl ⟨by first | exact q_655701c1c h_7 | omega, ⟨ha0.1, ha0.2⟩, by decide, by decide⟩ (q_iload_n c_178_57 rfl (q_iload_n c_178_58 rfl (v_iremx c_178_59 ⟨by omega, by omega, by omega⟩ (fun y_12 hy_12 => (q_iret c_178_60 rfl ?_))))))))
              exact K y_12 hy_12
            · refine v_if_ne_f (t := 46) c_178_39 rfl (Decidable.not_not.mp h_11) (q_iconst c_178_42 (q_goto (t := 60) c_178_43 rfl (q_iret c_178_60 rfl ?_)))
              exact K 0 ⟨by decide, by decide⟩
      · refine v_ic_ne_f (t := 27) c_178_20 rfl (Decidable.not_not.mp h_3) (q_iload_n c_178_23 rfl (q_iload_n c_178_24 rfl (v_imul (v := (a1 * a2)) c_178_25 rfl (v_nrm (fun y_13 hy_13 => (q_iret c_178_26 rfl ?_))))))
        exact K y_13 hy_13
    · refine v_ic_ne_f (t := 18) c_178_11 rfl (Decidable.not_not.mp h_2) (q_iload_n c_178_14 rfl (q_iload_n c_178_15 rfl (v_isub (v := a1 - a2) c_178_16 rfl (v_nrm (fun y_14 hy_14 => (q_iret c_178_17 rfl ?_))))))
      exact K y_14 hy_14
  · refine v_ic_ne_f (t := 9) c_178_2 rfl (Decidable.not_not.mp h_1) (q_iload_n c_178_5 rfl (q_iload_n c_178_6 rfl (v_iadd (v := a1 + a2) c_178_7 rfl (v_nrm (fun y_15 hy_15 => (q_iret c_178_8 rfl ?_))))))
    exact K y_15 hy_15

set_option maxRecDepth 100000 in
set_option maxHeartbeats 4000000 in
theorem s_179_l {sc : List Int32} {e : Int} {d u P Q : Nat} {c : ME} {Z : AR → Prop} (hI : Iv u e P Q c)  (K : ∀ (c2 : ME) (y : Int), Iv u e P Q c2 → (∀ (a : Nat) (j : Int), ¬ (a = 54) → c2 a j = c a j) → (-2147483648) ≤ y ∧ y ≤ 2147483647 → Z (.inl (some (vi y)), Wd P Q P P c2, 0, 0)) : ∀ n : Nat, (∀ (c2 : ME) (v1 : Int) (v2 : Int), Iv u e P Q c2 → (∀ (a : Nat) (j : Int), ¬ (a = 54) → c2 a j = c a j) → 0 ≤ v1 ∧ v1 ≤ 150 → 0 ≤ v2 ∧ v2 ≤ 150 → ((v1 ≤ v2)) → (v1 = hgt (c 52) v2.toNat) → 301 - 2 * v2 < (n : Int) → Wp sc (d + 8) 179 4 [(0, .ref 41), (1, vi v1), (2, vi v2)] [] (Wd P Q P P c2) 0 0 Z) := by
  intro n
  induction n with
  | zero => exact (by intro c2 v1 v2 hI2 hF hv1 hv2 hx0 hx1 hm9; have hP := iv_P hI; have hQ := iv_Q hI; exfalso; omega)
  | succ n ih =>
    have hP := iv_P hI
    have hQ := iv_Q hI
    intro c2 v1 v2 hI2 hF hv1 hv2 hx0 hx1 hm9
    have h_1 := ir_52 hI v2
    have h_2 := ir_53 hI v2
    have h_3 := ir_41_30 hI
    have hh1 := ir_hc hI (k := v2) (by omega)
    have hh2 := hgt_s (f := c 52) (k := v2) (by omega)
    refine q_iload_n c_179_4 rfl (q_aload_n c_179_5 rfl ?_)
    have kn_4 : Hid (c2 41 30 = c 41 30) := hF 41 30 (fun h => absurd h (nn rfl))
    refine v_gi (z := 30) (v := c 41 30) c_179_6 kf_8_173 rfl (nb_ rfl) rfl rfl (hid kn_4) ?_
    by_cases h_5 : v2 ≥ c 41 30
    · refine v_ic_ge_t (t := 95) c_179_9 rfl ⟨(Int.le_trans (by decide) h_3.1), h_5, (Int.le_trans hv2.2 (by decide))⟩ (q_aload_n c_179_95 rfl (v_gr (t := 54) c_179_96 kf_8_53 rfl (nb_ rfl) rfl (q_iconst c_179_99 ?_)))
      have h_6 := ir_54 hI2 0
      refine v_ia (v := c2 54 0) c_179_100 rfl (by decide) (by decide) (by decide) rfl (q_iret c_179_101 rfl ?_)
      exact K c2 (c2 54 0) hI2 (fun a j hm => hF a j hm) h_6
    · refine v_ic_ge_f (t := 95) c_179_9 rfl ⟨(Int.le_trans (by decide) hv2.1), (Int.not_le.mp h_5), (Int.le_trans h_3.2 (by decide))⟩ (q_aload_n c_179_12 rfl (v_gr (t := 52) c_179_13 kf_8_47 rfl (nb_ rfl) rfl (q_iload_n c_179_16 rfl ?_)))
      have kn_7 : Hid (c2 52 v2 = c 52 v2) := hF 52 v2 (fun h => absurd h (nn rfl))
      refine v_ia (v := c 52 v2) c_179_17 rfl (by decide) (by decide) ⟨hv2.1, by first | exact q_8d9392337 h_3 h_5 | omega⟩ (hid kn_7) (q_istore_n c_179_18 (nb_ rfl) (q_iload_n c_179_19 rfl (q_iconst c_179_20 ?_)))
      by_cases h_8 : c 52 v2 > 1
      · refine v_ic_gt_t (t := 60) c_179_21 rfl ⟨by decide, h_8, (Int.le_trans h_1.2 (by decide))⟩ (v_iinc (v := v1 - 1) c_179_60 rfl (nb_ rfl) (by first | exact q_10ec8978d | omega) (q_aload_n c_179_63 rfl (v_gr (t := 54) c_179_64 kf_8_53 rfl (nb_ rfl) rfl (q_iload_n c_179_67 rfl (q_iconst c_179_68 (v_isub (v := v1 - 2) c_179_69 (by first | exact q_949859d9a | omega) (q_iload_n c_179_70 rfl ?_)))))))
        refine q_aload_n c_179_71 rfl (v_gr (t := 54) c_179_72 kf_8_53 rfl (nb_ rfl) rfl (q_iload_n c_179_75 rfl (q_iconst c_179_76 (v_isub (v := v1 - 2) c_179_77 (by first | exact q_949859d9a | omega) ?_))))
        have h_9 := ir_54 hI2 (v1 - 2)
        refine v_ia (v := c2 54 (v1 - 2)) c_179_78 rfl (by decide) (by decide) ⟨by omega, by first | exact q_2d3808a94 hv1 | omega⟩ rfl (q_aload_n c_179_79 rfl (v_gr (t := 54) c_179_80 kf_8_53 rfl (nb_ rfl) rfl (q_iload_n c_179_83 rfl ?_)))
        have h_10 := ir_54 hI2 (v1 - 1)
        refine v_ia (v := c2 54 (v1 - 1)) c_179_84 rfl (by decide) (by decide) ⟨by omega, by first | exact q_8528fcf54 hv1 | omega⟩ rfl (q_call c_179_85 rfl rfl rfl (s_178 (a0 := c 52 v2) (a1 := c2 54 (v1 - 2)) (a2 := c2 54 (v1 - 1)) hI2 (show (-2147483648) ≤ c 52 v2 ∧ c 52 v2 ≤ 2147483647 from ⟨(Int.le_trans (by decide) h_1.1), (Int.le_trans h_1.2 (by decide))⟩) (show (-2147483648) ≤ c2 54 (v1 - 2) ∧ c2 54 (v1 - 2) ≤ 2147483647 from h_9) (show (-2147483648) ≤ c2 54 (v1 - 1) ∧ c2 54 (v1 - 1) ≤ 2147483647 from h_10) (fun y_11 hy_11 => (bk_inl (v_is c_179_88 rfl (by decide) (by decide) ⟨by omega, by first | exact q_2d3808a94 hv1 | omega⟩ (v_iinc (v := v2 + 1) c_179_89 rfl (nb_ rfl) rfl (q_goto (t := 4) c_179_92 rfl ?_)))))))
        have hI_12 := iw_54 (j := v1 - 2) (v := y_11) hI2 ⟨hy_11.1, hy_11.2⟩
        refine Wp_ls [(0, .ref 41), (1, vi (v1 - 1)), (2, vi (v2 + 1))] (lsub_cons rfl (lsub_cons rfl (lsub_cons rfl lsub_nil))) ?_
        exact ih (up c2 54 (v1 - 2) y_11) (v1 - 1) (v2 + 1) hI_12 (fun a j hm => (up_b (Decidable.or_iff_not_imp_left.mpr (fun h1 h2 => hm (Decidable.not_not.mp h1)))).trans (hF a j hm)) ⟨by omega, by first | exact rgm_h hv1.2 (by decide) | omega⟩ ⟨by first | exact rgp_l hv2.1 (by decide) | omega, by first | exact q_b47906294 h_3 h_5 | omega⟩ (by first | (clear hv1 hv2 h_1 h_2 h_3 h_5 h_8 h_9 h_10 hh2; omega) | omega) (by omega) (by omega)
      · refine v_ic_gt_f (t := 60) c_179_21 rfl ⟨(Int.le_trans (by decide) h_1.1), (Int.not_lt.mp h_8), by decide⟩ (q_aload_n c_179_24 rfl (v_gr (t := 54) c_179_25 kf_8_53 rfl (nb_ rfl) rfl (q_iload_n c_179_28 rfl (q_iload_n c_179_29 rfl ?_))))
        by_cases h_13 : c 52 v2 ≠ 0
        · refine v_if_ne_t (t := 42) c_179_30 rfl ⟨h_13, ⟨(Int.le_trans (by decide) h_1.1), (Int.le_trans h_1.2 (by decide))⟩, by decide, by decide⟩ (q_aload_n c_179_42 rfl (v_gr (t := 55) c_179_43 kf_8_56 rfl (nb_ rfl) rfl (q_aload_n c_179_46 rfl (v_gr (t := 53) c_179_47 kf_8_50 rfl (nb_ rfl) rfl (q_iload_n c_179_50 rfl ?_)))))
          have kn_14 : Hid (c2 53 v2 = c 53 v2) := hF 53 v2 (fun h => absurd h (nn rfl))
          refine v_ia (v := c 53 v2) c_179_51 rfl (by decide) (by decide) ⟨hv2.1, by first | exact q_8d9392337 h_3 h_5 | omega⟩ (hid kn_14) ?_
          have h_15 := ir_55 hI (c 53 v2)
          have kn_16 : Hid (c2 55 (c 53 v2) = c 55 (c 53 v2)) := hF 55 (c 53 v2) (fun h => absurd h (nn rfl))
          refine v_ia (v := c 55 (c 53 v2)) c_179_52 rfl (by decide) (by decide) ⟨h_2.1, by omega⟩ (hid kn_16) (v_is c_179_53 rfl (by decide) (by decide) ⟨hv1.1, by first | (clear hv1 hv2 h_1 h_2 h_8 h_15 hh2 h_13; omega) | omega⟩ (v_iinc (v := v1 + 1) c_179_54 rfl (nb_ rfl) rfl (q_goto (t := 89) c_179_57 rfl (v_iinc (v := v2 + 1) c_179_89 rfl (nb_ rfl) rfl (q_goto (t := 4) c_179_92 rfl ?_)))))
          have hI_17 := iw_54 (j := v1) (v := c 55 (c 53 v2)) hI2 ⟨by first | exact q_cc1935a2a h_15 | omega, by first | exact q_4e52e4576 h_15 | omega⟩
          refine Wp_ls [(0, .ref 41), (1, vi (v1 + 1)), (2, vi (v2 + 1))] (lsub_cons rfl (lsub_cons rfl (lsub_cons rfl lsub_nil))) ?_
          exact ih (up c2 54 v1 (c 55 (c 53 v2))) (v1 + 1) (v2 + 1) hI_17 (fun a j hm => (up_b (Decidable.or_iff_not_imp_left.mpr (fun h1 h2 => hm (Decidable.not_not.mp h1)))).trans (hF a j hm)) ⟨by first | exact rgp_l hv1.1 (by decide) | omega, by first | (clear hv1 hv2 h_1 h_2 h_8 h_15 hh2 h_13; omega) | omega⟩ ⟨by first | exact rgp_l hv2.1 (by decide) | omega, by first | exact q_b47906294 h_3 h_5 | omega⟩ (by first | (clear hv1 hv2 h_1 h_2 h_3 h_5 h_8 h_15 hh2 h_13; omega) | omega) (by omega) (by omega)
        · refine v_if_ne_f (t := 42) c_179_30 rfl (Decidable.not_not.mp h_13) (q_aload_n c_179_33 rfl (v_gr (t := 53) c_179_34 kf_8_50 rfl (nb_ rfl) rfl (q_iload_n c_179_37 rfl ?_)))
          have kn_18 : Hid (c2 53 v2 = c 53 v2) := hF 53 v2 (fun h => absurd h (nn rfl))
          refine v_ia (v := c 53 v2) c_179_38 rfl (by decide) (by decide) ⟨hv2.1, by first | exact q_8d9392337 h_3 h_5 | omega⟩ (hid kn_18) (q_goto (t := 53) c_179_39 rfl (v_is c_179_53 rfl (by decide) (by decide) ⟨hv1.1, by first | (clear hv1 hv2 h_1 h_2 h_8 h_13 hh2; omega) | omega⟩ (v_iinc (v := v1 + 1) c_179_54 rfl (nb_ rfl) rfl (q_goto (t := 89) c_179_57 rfl (v_iinc (v := v2 + 1) c_179_89 rfl (nb_ rfl) rfl (q_goto (t := 4) c_179_92 rfl ?_))))))
          have hI_19 := iw_54 (j := v1) (v := c 53 v2) hI2 ⟨(Int.le_trans (by decide) h_2.1), (Int.le_trans h_2.2 (by decide))⟩
          refine Wp_ls [(0, .ref 41), (1, vi (v1 + 1)), (2, vi (v2 + 1))] (lsub_cons rfl (lsub_cons rfl (lsub_cons rfl lsub_nil))) ?_
          exact ih (up c2 54 v1 (c 53 v2)) (v1 + 1) (v2 + 1) hI_19 (fun a j hm => (up_b (Decidable.or_iff_not_imp_left.mpr (fun h1 h2 => hm (Decidable.not_not.mp h1)))).trans (hF a j hm)) ⟨by first | exact rgp_l hv1.1 (by decide) | omega, by first | (clear hv1 hv2 h_1 h_2 h_8 h_13 hh2; omega) | omega⟩ ⟨by first | exact rgp_l hv2.1 (by decide) | omega, by first | exact q_b47906294 h_3 h_5 | omega⟩ (by first | (clear hv1 hv2 h_1 h_2 h_3 h_5 h_8 h_13 hh2; omega) | omega) (by omega) (by omega)
set_option maxRecDepth 100000 in
set_option maxHeartbeats 4000000 in
theorem s_179 {sc : List Int32} {e : Int} {d u P Q : Nat} {c : ME} {Z : AR → Prop} (hI : Iv u e P Q c)  (K : ∀ (c2 : ME) (y : Int), Iv u e P Q c2 → (∀ (a : Nat) (j : Int), ¬ (a = 54) → c2 a j = c a j) → (-2147483648) ≤ y ∧ y ≤ 2147483647 → Z (.inl (some (vi y)), Wd P Q P P c2, 0, 0)) : Wp sc (d + 8) 179 0 [(0, .ref 41)] [] (Wd P Q P P c) 0 0 Z := by
  have hP := iv_P hI
  have hQ := iv_Q hI
  refine q_iconst c_179_0 (q_istore_n c_179_1 (nb_ rfl) (q_iconst c_179_2 (q_istore_n c_179_3 (nb_ rfl) (Wp_ls [(0, .ref 41), (1, vi 0), (2, vi 0)] (lsub_cons rfl (lsub_cons rfl (lsub_cons rfl lsub_nil))) ?_))))
  exact (s_179_l (sc := sc) (d := d) hI K 304) c 0 0 hI (fun a j hm => rfl) ⟨by decide, by decide⟩ ⟨by decide, by decide⟩ (by first | decide | omega) (show (0 : Int) = hgt (c 52) 0 from rfl) (by omega)

set_option maxRecDepth 100000 in
set_option maxHeartbeats 4000000 in
theorem s_180 {sc : List Int32} {e : Int} {d u P Q : Nat} {c : ME} {Z : AR → Prop} (hI : Iv u e P Q c) (hq0 : (c 55 4 ≥ 0 ∧ c 55 4 ≤ 39996)) (hq1 : (c 55 0 ≥ 0 ∧ c 55 0 ≤ 9999)) (K : ∀ (c2 : ME) (y : Int), Iv u e P Q c2 → (∀ (a : Nat) (j : Int), ¬ (a = 54) → c2 a j = c a j) → 0 ≤ y ∧ y ≤ 99 → Z (.inl (some (vi y)), Wd P Q P P c2, 0, 0)) : Wp sc (d + 9) 180 0 [(0, .ref 41)] [] (Wd P Q P P c) 0 0 Z := by
  have hP := iv_P hI
  have hQ := iv_Q hI
  have h_1 := ir_55 hI 4
  have h_2 := ir_55 hI 0
  refine q_aload_n c_180_0 rfl ?_
  have h_3 := ir_41_30 hI
  refine v_gi (z := 30) (v := c 41 30) c_180_1 kf_8_173 rfl (nb_ rfl) rfl rfl rfl ?_
  by_cases h_4 : c 41 30 ≠ 0
  · refine v_if_ne_t (t := 28) c_180_4 rfl ⟨h_4, ⟨(Int.le_trans (by decide) h_3.1), (Int.le_trans h_3.2 (by decide))⟩, by decide, by decide⟩ (q_aload_n c_180_28 rfl (v_cv c_180_29 km_8_281 rfl rfl (nb_ rfl) ⟨⟨rfl, rfl⟩, nb_ rfl, rfl⟩ (nb_ rfl) (nb_ rfl) (s_179 hI (fun c_5 y_8 hI_6 hF_7 hy_8 => (bk_inl (q_istore_n c_180_32 (nb_ rfl) (q_iload_n c_180_33 rfl ?_)))))))
    by_cases h_9 : y_8 ≥ 0
    · refine v_if_ge_t (t := 41) c_180_34 rfl ⟨by decide, h_9, hy_8.2⟩ (q_iload_n c_180_41 rfl (v_bip c_180_42 (by decide) ?_))
      by_cases h_10 : y_8 ≤ 99
      · refine v_ic_le_t (t := 52) c_180_44 rfl ⟨hy_8.1, h_10, by decide⟩ (q_iload_n c_180_52 rfl (q_iret c_180_53 rfl ?_))
        exact K c_5 y_8 hI_6 (fun a j hm => hF_7 a j hm) ⟨by first | exact q_059235c2c h_9 | omega, by first | exact q_a6cbc6a20 h_10 | omega⟩
      · refine v_ic_le_f (t := 52) c_180_44 rfl ⟨by decide, (Int.not_le.mp h_10), hy_8.2⟩ (v_bip c_180_47 (by decide) (q_goto (t := 53) c_180_49 rfl (q_iret c_180_53 rfl ?_)))
        exact K c_5 99 hI_6 (fun a j hm => hF_7 a j hm) ⟨by decide, by decide⟩
    · refine v_if_ge_f (t := 41) c_180_34 rfl ⟨hy_8.1, (Int.not_le.mp h_9), by decide⟩ (q_iconst c_180_37 (q_goto (t := 53) c_180_38 rfl (q_iret c_180_53 rfl ?_)))
      exact K c_5 0 hI_6 (fun a j hm => hF_7 a j hm) ⟨by decide, by decide⟩
  · refine v_if_ne_f (t := 28) c_180_4 rfl (Decidable.not_not.mp h_4) (q_aload_n c_180_7 rfl (v_gr (t := 55) c_180_8 kf_8_56 rfl (nb_ rfl) rfl (q_iconst c_180_11 (v_ia (v := c 55 0) c_180_12 rfl (by decide) (by decide) (by decide) rfl (v_bip c_180_13 (by decide) (v_imul (v := 90 * c 55 0) c_180_15 (by first | exact q_8edf13dc8 | omega) (q_aload_n c_180_16 rfl ?_)))))))
    refine v_gr (t := 55) c_180_17 kf_8_56 rfl (nb_ rfl) rfl (q_iconst c_180_20 (v_ia (v := c 55 4) c_180_21 rfl (by decide) (by decide) (by decide) rfl (q_iconst c_180_22 (v_iadd (v := c 55 4 + 1) c_180_23 rfl (v_idivx c_180_24 ⟨by omega, by omega, by omega⟩ (fun y_11 hy_11 => (q_goto (t := 32) c_180_25 rfl (q_istore_n c_180_32 (nb_ rfl) ?_))))))))
    refine q_iload_n c_180_33 rfl ?_
    by_cases h_12 : y_11 ≥ 0
    · refine v_if_ge_t (t := 41) c_180_34 rfl ⟨by decide, h_12, hy_11.2⟩ (q_iload_n c_180_41 rfl (v_bip c_180_42 (by decide) ?_))
      by_cases h_13 : y_11 ≤ 99
      · refine v_ic_le_t (t := 52) c_180_44 rfl ⟨hy_11.1, h_13, by decide⟩ (q_iload_n c_180_52 rfl (q_iret c_180_53 rfl ?_))
        exact K c y_11 hI (fun a j hm => rfl) ⟨by first | exact q_059235c2c h_12 | omega, by first | exact q_a6cbc6a20 h_13 | omega⟩
      · refine v_ic_le_f (t := 52) c_180_44 rfl ⟨by decide, (Int.not_le.mp h_13), hy_11.2⟩ (v_bip c_180_47 (by decide) (q_goto (t := 53) c_180_49 rfl (q_iret c_180_53 rfl ?_)))
        exact K c 99 hI (fun a j hm => rfl) ⟨by decide, by decide⟩
    · refine v_if_ge_f (t := 41) c_180_34 rfl ⟨hy_11.1, (Int.not_le.mp h_12), by decide⟩ (q_iconst c_180_37 (q_goto (t := 53) c_180_38 rfl (q_iret c_180_53 rfl ?_)))
      exact K c 0 hI (fun a j hm => rfl) ⟨by decide, by decide⟩
end
section
/-! ===== contracts 14 ===== -/
theorem q_f9c88a064 {x0 : Int} (f0 : (x0 = 0)) : x0 = 0 := by omega
theorem q_3554c080d {x0 x1 : Int} (f0 : (-1) ≤ x0 ∧ x0 ≤ 605) (f1 : ¬ (x0 ≠ (-1))) (f2 : (x0 < (-1)) ∨ (x0 > (-1)) ∨ (x1 ≤ 245)) : x1 < 250 := by omega
theorem q_2e240ba46 {x0 x1 : Int} (f0 : (-1) ≤ x0 ∧ x0 ≤ 605) (f1 : ¬ (x0 ≠ (-1))) (f2 : (x0 < (-1)) ∨ (x0 > (-1)) ∨ (x1 ≤ 245)) : x1 + 1 < 250 := by omega
theorem q_21de9155c {x0 x1 : Int} (f0 : (-1) ≤ x0 ∧ x0 ≤ 605) (f1 : ¬ (x0 ≠ (-1))) (f2 : (x0 < (-1)) ∨ (x0 > (-1)) ∨ (x1 ≤ 245)) : x1 + 2 < 250 := by omega
theorem q_dedf3b238 {x0 x1 : Int} (f0 : (-1) ≤ x0 ∧ x0 ≤ 605) (f1 : ¬ (x0 ≠ (-1))) (f2 : (x0 < (-1)) ∨ (x0 > (-1)) ∨ (x1 ≤ 245)) : x1 + 3 < 250 := by omega
theorem q_b87357d11 {x0 x1 : Int} (f0 : (-1) ≤ x0 ∧ x0 ≤ 605) (f1 : ¬ (x0 ≠ (-1))) (f2 : (x0 < (-1)) ∨ (x0 > (-1)) ∨ (x1 ≤ 245)) : x1 + 4 < 250 := by omega
theorem q_ba2d1a26e {x0 x1 : Int} (f0 : (-1) ≤ x0 ∧ x0 ≤ 605) (f1 : ¬ (x0 ≠ (-1))) (f2 : (x0 < (-1)) ∨ (x0 > (-1)) ∨ (x1 ≤ 245)) : x1 ≤ 245 := by omega
theorem q_205826eb7 {x0 x1 : Int} (f0 : x0 = 0) (f1 : 0 ≤ x0 ∧ x0 ≤ 7) (f2 : (x0 ≠ 0) ∨ (x1 ≤ 3)) : x1 ≤ 3 := by omega
theorem q_f954b72af {x0 : Int} (f0 : 0 ≤ x0 ∧ x0 ≤ 5) : x0 ≤ 5 := by omega
theorem q_0ea479d95 {x0 x1 x2 : Int} (f0 : x0 = 1) (f1 : (x0 ≠ 1) ∨ (x1 ≤ 3 ∧ x2 ≤ 5)) : x1 ≤ 3 := by omega
theorem q_e01607d78 {x0 x1 x2 : Int} (f0 : x0 = 1) (f1 : (x0 ≠ 1) ∨ (x1 ≤ 3 ∧ x2 ≤ 5)) : x2 ≤ 5 := by omega
theorem q_2719dcd49 {x0 x1 : Int} (f0 : x0 = 2) (f1 : (x0 ≠ 2) ∨ (x1 ≤ 5)) : x1 ≤ 5 := by omega
theorem q_1211e66ac {x0 x1 : Int} (f0 : x0 = 3) (f1 : (x0 ≠ 3) ∨ (x1 ≤ 5)) : x1 ≤ 5 := by omega
theorem q_1f31d9498 {x0 x1 : Int} (f0 : x0 = 4) (f1 : (x0 ≠ 4) ∨ (x1 ≤ 3)) : x1 ≤ 3 := by omega
theorem q_25f500cd7 {x0 x1 : Int} (f0 : x0 = 5) (f1 : (x0 ≠ 5) ∨ (x1 ≤ 5)) : x1 ≤ 5 := by omega
theorem q_5894d4d30 {x0 x1 : Int} (f0 : x0 = 7) (f1 : 0 ≤ x0 ∧ x0 ≤ 7) (f2 : (x0 ≠ 7) ∨ (x1 = 0)) : x1 ≤ 0 := by omega
theorem q_e1fbc899f {x0 : Int} (f0 : 0 ≤ x0 ∧ x0 ≤ 5) : 0 ≤ x0 := by omega
theorem q_4881f0222 {x0 : Int}  : x0 ≤ x0 + 4 := by omega
theorem q_6a73f82e8 {x0 : Int}  : x0 ≤ x0 + 3 := by omega
theorem q_5585f7267 {x0 : Int}  : x0 ≤ x0 + 2 := by omega
theorem q_867451e9a {x0 : Int}  : x0 ≤ x0 + 1 := by omega
theorem q_64f9e4230 {x0 : Int} (f0 : ¬ (x0 ≠ 1279278)) : 1023 < x0 := by omega
theorem q_ad877822f {x0 : Int} (f0 : ¬ (x0 ≠ 4153)) : 1023 < x0 := by omega
theorem q_a92f8dcb8 {x0 : Int} (f0 : ¬ (x0 ≠ 628108)) : 1023 < x0 := by omega
theorem q_36d178e95 {x0 : Int} (f0 : ¬ (x0 ≠ 660530)) : 1023 < x0 := by omega
theorem q_067a6fc62 {x0 : Int} (f0 : ¬ (x0 ≠ 20037104)) : 1023 < x0 := by omega
theorem q_1721f5441 {x0 : Int} (f0 : ¬ (x0 ≠ 540338)) : 1023 < x0 := by omega
theorem q_79933d4be {x0 : Int} (f0 : ¬ (x0 ≠ 632020)) : 1023 < x0 := by omega
theorem q_63c692497 {x0 : Int} (f0 : ¬ (x0 ≠ 7939524)) : 1023 < x0 := by omega
theorem q_f121c64ac {x0 x1 : Int} (f0 : 0 ≤ x0 ∧ x0 ≤ 6) (f1 : (x1 = 0) ∨ (x1 ≥ 0 ∧ x1 ≤ x0 - 1)) : x1 ≤ 5 := by omega
theorem c_181_0 : mLk 181 0 = some (.aload_n 0, 1) := rfl
theorem c_181_1 : mLk 181 1 = some (.invokevirtual 131, 3) := rfl
theorem c_181_4 : mLk 181 4 = some (.ifCond .ne 4, 3) := rfl
theorem c_181_8 : mLk 181 8 = some (.aload_n 0, 1) := rfl
theorem c_181_9 : mLk 181 9 = some (.getfield 59, 3) := rfl
theorem c_181_12 : mLk 181 12 = some (.aload_n 0, 1) := rfl
theorem c_181_13 : mLk 181 13 = some (.getfield 284, 3) := rfl
theorem c_181_16 : mLk 181 16 = some (.iload_n 1, 1) := rfl
theorem c_181_17 : mLk 181 17 = some (.iastore, 1) := rfl
theorem c_181_18 : mLk 181 18 = some (.aload_n 0, 1) := rfl
theorem c_181_19 : mLk 181 19 = some (.getfield 59, 3) := rfl
theorem c_181_22 : mLk 181 22 = some (.aload_n 0, 1) := rfl
theorem c_181_23 : mLk 181 23 = some (.getfield 284, 3) := rfl
theorem c_181_26 : mLk 181 26 = some (.iconst 1, 1) := rfl
theorem c_181_27 : mLk 181 27 = some (.iadd, 1) := rfl
theorem c_181_28 : mLk 181 28 = some (.iload_n 2, 1) := rfl
theorem c_181_29 : mLk 181 29 = some (.iastore, 1) := rfl
theorem c_181_30 : mLk 181 30 = some (.aload_n 0, 1) := rfl
theorem c_181_31 : mLk 181 31 = some (.getfield 59, 3) := rfl
theorem c_181_34 : mLk 181 34 = some (.aload_n 0, 1) := rfl
theorem c_181_35 : mLk 181 35 = some (.getfield 284, 3) := rfl
theorem c_181_38 : mLk 181 38 = some (.iconst 2, 1) := rfl
theorem c_181_39 : mLk 181 39 = some (.iadd, 1) := rfl
theorem c_181_40 : mLk 181 40 = some (.iload_n 3, 1) := rfl
theorem c_181_41 : mLk 181 41 = some (.iastore, 1) := rfl
theorem c_181_42 : mLk 181 42 = some (.aload_n 0, 1) := rfl
theorem c_181_43 : mLk 181 43 = some (.getfield 59, 3) := rfl
theorem c_181_46 : mLk 181 46 = some (.aload_n 0, 1) := rfl
theorem c_181_47 : mLk 181 47 = some (.getfield 284, 3) := rfl
theorem c_181_50 : mLk 181 50 = some (.iconst 3, 1) := rfl
theorem c_181_51 : mLk 181 51 = some (.iadd, 1) := rfl
theorem c_181_52 : mLk 181 52 = some (.iload 4, 2) := rfl
theorem c_181_54 : mLk 181 54 = some (.iastore, 1) := rfl
theorem c_181_55 : mLk 181 55 = some (.aload_n 0, 1) := rfl
theorem c_181_56 : mLk 181 56 = some (.getfield 59, 3) := rfl
theorem c_181_59 : mLk 181 59 = some (.aload_n 0, 1) := rfl
theorem c_181_60 : mLk 181 60 = some (.getfield 284, 3) := rfl
theorem c_181_63 : mLk 181 63 = some (.iconst 4, 1) := rfl
theorem c_181_64 : mLk 181 64 = some (.iadd, 1) := rfl
theorem c_181_65 : mLk 181 65 = some (.iload 5, 2) := rfl
theorem c_181_67 : mLk 181 67 = some (.iastore, 1) := rfl
theorem c_181_68 : mLk 181 68 = some (.aload_n 0, 1) := rfl
theorem c_181_69 : mLk 181 69 = some (.dup, 1) := rfl
theorem c_181_70 : mLk 181 70 = some (.getfield 284, 3) := rfl
theorem c_181_73 : mLk 181 73 = some (.iconst 5, 1) := rfl
theorem c_181_74 : mLk 181 74 = some (.iadd, 1) := rfl
theorem c_181_75 : mLk 181 75 = some (.putfield 284, 3) := rfl
theorem c_182_0 : mLk 182 0 = some (.iload_n 0, 1) := rfl
theorem c_182_1 : mLk 182 1 = some (.ldc_w 287, 3) := rfl
theorem c_182_4 : mLk 182 4 = some (.invokestatic 192, 3) := rfl
theorem c_182_7 : mLk 182 7 = some (.if_icmp .ne 7, 3) := rfl
theorem c_182_14 : mLk 182 14 = some (.iload_n 0, 1) := rfl
theorem c_182_15 : mLk 182 15 = some (.ldc_w 289, 3) := rfl
theorem c_182_18 : mLk 182 18 = some (.invokestatic 192, 3) := rfl
theorem c_182_21 : mLk 182 21 = some (.if_icmp .ne 7, 3) := rfl
theorem c_182_28 : mLk 182 28 = some (.iload_n 0, 1) := rfl
theorem c_182_29 : mLk 182 29 = some (.ldc_w 291, 3) := rfl
theorem c_182_32 : mLk 182 32 = some (.invokestatic 192, 3) := rfl
theorem c_182_35 : mLk 182 35 = some (.if_icmp .ne 7, 3) := rfl
theorem c_182_42 : mLk 182 42 = some (.iload_n 0, 1) := rfl
theorem c_182_43 : mLk 182 43 = some (.ldc_w 293, 3) := rfl
theorem c_182_46 : mLk 182 46 = some (.invokestatic 192, 3) := rfl
theorem c_182_49 : mLk 182 49 = some (.if_icmp .ne 7, 3) := rfl
theorem c_182_56 : mLk 182 56 = some (.iload_n 0, 1) := rfl
theorem c_182_57 : mLk 182 57 = some (.ldc_w 295, 3) := rfl
theorem c_182_60 : mLk 182 60 = some (.invokestatic 192, 3) := rfl
theorem c_182_63 : mLk 182 63 = some (.if_icmp .ne 7, 3) := rfl
theorem c_182_70 : mLk 182 70 = some (.iload_n 0, 1) := rfl
theorem c_182_71 : mLk 182 71 = some (.ldc_w 297, 3) := rfl
theorem c_182_74 : mLk 182 74 = some (.invokestatic 192, 3) := rfl
theorem c_182_77 : mLk 182 77 = some (.if_icmp .ne 7, 3) := rfl
theorem c_182_84 : mLk 182 84 = some (.iload_n 0, 1) := rfl
theorem c_182_85 : mLk 182 85 = some (.ldc_w 265, 3) := rfl
theorem c_182_88 : mLk 182 88 = some (.invokestatic 192, 3) := rfl
theorem c_182_91 : mLk 182 91 = some (.if_icmp .ne 8, 3) := rfl
theorem c_182_99 : mLk 182 99 = some (.iload_n 0, 1) := rfl
theorem c_182_100 : mLk 182 100 = some (.ldc_w 299, 3) := rfl
theorem c_182_103 : mLk 182 103 = some (.invokestatic 192, 3) := rfl
theorem c_182_106 : mLk 182 106 = some (.if_icmp .ne 8, 3) := rfl
theorem c_182_114 : mLk 182 114 = some (.iconst (-1), 1) := rfl
theorem c_182_115 : mLk 182 115 = some (.ireturn, 1) := rfl
theorem c_182_109 : mLk 182 109 = some (.bipush 7, 2) := rfl
theorem c_182_111 : mLk 182 111 = some (.goto 4, 3) := rfl
theorem c_182_94 : mLk 182 94 = some (.bipush 6, 2) := rfl
theorem c_182_96 : mLk 182 96 = some (.goto 19, 3) := rfl
theorem c_182_80 : mLk 182 80 = some (.iconst 5, 1) := rfl
theorem c_182_81 : mLk 182 81 = some (.goto 34, 3) := rfl
theorem c_182_66 : mLk 182 66 = some (.iconst 4, 1) := rfl
theorem c_182_67 : mLk 182 67 = some (.goto 48, 3) := rfl
theorem c_182_52 : mLk 182 52 = some (.iconst 3, 1) := rfl
theorem c_182_53 : mLk 182 53 = some (.goto 62, 3) := rfl
theorem c_182_38 : mLk 182 38 = some (.iconst 2, 1) := rfl
theorem c_182_39 : mLk 182 39 = some (.goto 76, 3) := rfl
theorem c_182_24 : mLk 182 24 = some (.iconst 1, 1) := rfl
theorem c_182_25 : mLk 182 25 = some (.goto 90, 3) := rfl
theorem c_182_10 : mLk 182 10 = some (.iconst 0, 1) := rfl
theorem c_182_11 : mLk 182 11 = some (.goto 104, 3) := rfl
theorem c_183_0 : mLk 183 0 = some (.aload_n 0, 1) := rfl
theorem c_183_1 : mLk 183 1 = some (.iconst 0, 1) := rfl
theorem c_183_2 : mLk 183 2 = some (.aload_n 0, 1) := rfl
theorem c_183_3 : mLk 183 3 = some (.getfield 157, 3) := rfl
theorem c_183_6 : mLk 183 6 = some (.iconst 1, 1) := rfl
theorem c_183_7 : mLk 183 7 = some (.isub, 1) := rfl
theorem c_183_8 : mLk 183 8 = some (.invokevirtual 199, 3) := rfl
theorem c_183_11 : mLk 183 11 = some (.ireturn, 1) := rfl
theorem kf_8_284 : a_lk (kF 8) 284 = some (8, 34) := rfl
theorem kf_8_59 : a_lk (kF 8) 59 = some (8, 32) := rfl
set_option maxRecDepth 100000 in
set_option maxHeartbeats 4000000 in
theorem s_181 {sc : List Int32} {e : Int} {d u P Q : Nat} {c : ME} {a1 : Int} {a2 : Int} {a3 : Int} {a4 : Int} {a5 : Int} {Z : AR → Prop} (hI : Iv u e P Q c) (ha1 : 0 ≤ a1 ∧ a1 ≤ 7) (ha2 : 0 ≤ a2 ∧ a2 ≤ 40) (ha3 : 0 ≤ a3 ∧ a3 ≤ 5) (ha4 : 0 ≤ a4 ∧ a4 ≤ 999) (ha5 : 0 ≤ a5 ∧ a5 ≤ 5) (hq0 : (((c 41 34) % 5) = 0)) (hq1 : (c 41 5 < (-1)) ∨ (c 41 5 > (-1)) ∨ (c 41 34 ≤ 245)) (hq2 : (a1 ≠ 0) ∨ (a2 ≤ 3)) (hq3 : (a1 ≠ 1) ∨ (a2 ≤ 3 ∧ a4 ≤ 5)) (hq4 : (a1 ≠ 2) ∨ (a2 ≤ 5)) (hq5 : (a1 ≠ 3) ∨ (a2 ≤ 5)) (hq6 : (a1 ≠ 4) ∨ (a2 ≤ 3)) (hq7 : (a1 ≠ 5) ∨ (a2 ≤ 5)) (hq8 : (a1 ≠ 7) ∨ (a3 = 0)) (K : ∀ (c2 : ME), Iv u e P Q c2 → (∀ (a : Nat) (j : Int), ¬ ((a = 41 ∧ j = 34) ∨ (a = 56 ∧ j ≥ c 41 34)) → c2 a j = c a j) → ((((c2 41 34) % 5) = 0)) → ((c 41 5 < (-1)) ∨ (c 41 5 > (-1)) ∨ (c2 41 34 = c 41 34 + 5 ∧ c2 56 (c 41 34) = a1)) → ((c 41 5 = (-1)) ∨ (c2 41 34 = c 41 34)) → Z (.inl (none), Wd P Q P P c2, 0, 0)) : Wp sc (d + 8) 181 0 [(0, .ref 41), (1, vi a1), (2, vi a2), (3, vi a3), (4, vi a4), (5, vi a5)] [] (Wd P Q P P c) 0 0 Z := by
  have hP := iv_P hI
  have hQ := iv_Q hI
  have h_1 := ir_41_34 hI
  have h_2 := ir_41_5 hI
  refine q_aload_n c_181_0 rfl (v_cv c_181_1 km_8_131 rfl rfl (nb_ rfl) ⟨⟨rfl, rfl⟩, nb_ rfl, rfl⟩ (nb_ rfl) (nb_ rfl) (q_aload_n c_152_0 rfl (v_gi (z := 5) (v := c 41 5) c_152_1 kf_8_102 rfl (nb_ rfl) rfl rfl rfl (q_iconst c_152_4 ?_))))
  by_cases h_3 : c 41 5 ≠ (-1)
  · refine v_ic_ne_t (t := 12) c_152_5 rfl ⟨h_3, ⟨(Int.le_trans (by decide) h_2.1), (Int.le_trans h_2.2 (by decide))⟩, by decide, by decide⟩ (q_iconst c_152_12 (v_zret c_152_13 rfl (by decide) (bk_inl (v_if_ne_f (t := 8) c_181_4 rfl (by decide) (q_vret rfl rfl ?_)))))
    have h_4 := ir_56 hI (c 41 34)
    exact K c hI (fun a j hm => rfl) (by first | exact q_f9c88a064 hq0 | omega) (Or.inr (Or.inl (by first | exact q_2c2c046ea h_2 h_3 | omega))) (Or.inr (by first | assumption | omega))
  · refine v_ic_ne_f (t := 12) c_152_5 rfl (Decidable.not_not.mp h_3) (q_iconst c_152_8 (q_goto (t := 13) c_152_9 rfl (v_zret c_152_13 rfl (by decide) (bk_inl (v_if_ne_t (t := 8) c_181_4 rfl (by decide) (q_aload_n c_181_8 rfl (v_gr (t := 56) c_181_9 kf_8_59 rfl (nb_ rfl) rfl ?_)))))))
    refine q_aload_n c_181_12 rfl (v_gi (z := 34) (v := c 41 34) c_181_13 kf_8_284 rfl (nb_ rfl) rfl rfl rfl (q_iload_n c_181_16 rfl (v_is c_181_17 rfl (by decide) (by decide) ⟨h_1.1, by first | exact q_3554c080d h_2 h_3 hq1 | omega⟩ (q_aload_n c_181_18 rfl (v_gr (t := 56) c_181_19 kf_8_59 rfl (nb_ rfl) rfl (q_aload_n c_181_22 rfl (v_gi (z := 34) (v := c 41 34) c_181_23 kf_8_284 rfl (nb_ rfl) rfl rfl (up_c (nn rfl)) ?_)))))))
    refine q_iconst c_181_26 (v_iadd (v := c 41 34 + 1) c_181_27 rfl (q_iload_n c_181_28 rfl (v_is c_181_29 rfl (by decide) (by decide) ⟨by first | exact rgp_l h_1.1 (by decide) | omega, by first | exact q_2e240ba46 h_2 h_3 hq1 | omega⟩ (q_aload_n c_181_30 rfl (v_gr (t := 56) c_181_31 kf_8_59 rfl (nb_ rfl) rfl (q_aload_n c_181_34 rfl (v_gi (z := 34) (v := c 41 34) c_181_35 kf_8_284 rfl (nb_ rfl) rfl rfl ((up_c (nn rfl)).trans (up_c (nn rfl))) ?_)))))))
    refine q_iconst c_181_38 (v_iadd (v := c 41 34 + 2) c_181_39 rfl (q_iload_n c_181_40 rfl (v_is c_181_41 rfl (by decide) (by decide) ⟨by first | exact rgp_l h_1.1 (by decide) | omega, by first | exact q_21de9155c h_2 h_3 hq1 | omega⟩ (q_aload_n c_181_42 rfl (v_gr (t := 56) c_181_43 kf_8_59 rfl (nb_ rfl) rfl (q_aload_n c_181_46 rfl (v_gi (z := 34) (v := c 41 34) c_181_47 kf_8_284 rfl (nb_ rfl) rfl rfl ((up_c (nn rfl)).trans ((up_c (nn rfl)).trans (up_c (nn rfl)))) ?_)))))))
    refine q_iconst c_181_50 (v_iadd (v := c 41 34 + 3) c_181_51 rfl (q_iload c_181_52 rfl (v_is c_181_54 rfl (by decide) (by decide) ⟨by first | exact rgp_l h_1.1 (by decide) | omega, by first | exact q_dedf3b238 h_2 h_3 hq1 | omega⟩ (q_aload_n c_181_55 rfl (v_gr (t := 56) c_181_56 kf_8_59 rfl (nb_ rfl) rfl (q_aload_n c_181_59 rfl (v_gi (z := 34) (v := c 41 34) c_181_60 kf_8_284 rfl (nb_ rfl) rfl rfl ((up_c (nn rfl)).trans ((up_c (nn rfl)).trans ((up_c (nn rfl)).trans (up_c (nn rfl))))) ?_)))))))
    refine q_iconst c_181_63 (v_iadd (v := c 41 34 + 4) c_181_64 rfl (q_iload c_181_65 rfl (v_is c_181_67 rfl (by decide) (by decide) ⟨by first | exact rgp_l h_1.1 (by decide) | omega, by first | exact q_b87357d11 h_2 h_3 hq1 | omega⟩ (q_aload_n c_181_68 rfl (q_dup c_181_69 rfl (v_gi (z := 34) (v := c 41 34) c_181_70 kf_8_284 rfl (nb_ rfl) rfl rfl ((up_c (nn rfl)).trans ((up_c (nn rfl)).trans ((up_c (nn rfl)).trans ((up_c (nn rfl)).trans (up_c (nn rfl)))))) (q_iconst c_181_73 ?_)))))))
    refine v_iadd (v := c 41 34 + 5) c_181_74 rfl (v_pi (z := 34) c_181_75 kf_8_284 rfl (nb_ rfl) rfl rfl rfl (by decide) (q_vret rfl rfl ?_))
    have hI_5 : Iv u e P Q (up (up (up (up (up (up c 56 (c 41 34) a1) 56 (c 41 34 + 1) a2) 56 (c 41 34 + 2) a3) 56 (c 41 34 + 3) a4) 56 (c 41 34 + 4) a5) 41 34 (c 41 34 + 5)) := iw_tells (n := c 41 34) hI ⟨h_1.1, by first | exact q_ba2d1a26e h_2 h_3 hq1 | omega⟩ (by first | exact q_f9c88a064 hq0 | omega) ⟨(fun e9 => ⟨by first | exact q_205826eb7 e9 ha1 hq2 | omega, by first | exact q_f954b72af ha3 | omega⟩), (fun e9 => ⟨by first | exact q_0ea479d95 e9 hq3 | omega, by first | exact q_f954b72af ha3 | omega, by first | exact q_e01607d78 e9 hq3 | omega, by first | exact q_f954b72af ha5 | omega⟩), (fun e9 => ⟨by first | exact q_2719dcd49 e9 hq4 | omega, by first | exact q_f954b72af ha3 | omega⟩), (fun e9 => ⟨by first | exact q_1211e66ac e9 hq5 | omega, by first | exact q_f954b72af ha3 | omega⟩), (fun e9 => (by first | exact q_1f31d9498 e9 hq6 | omega)), (fun e9 => (by first | exact q_25f500cd7 e9 hq7 | omega))⟩ ⟨⟨⟨ha1.1, (Int.le_trans ha1.2 (by decide))⟩, ⟨ha2.1, (Int.le_trans ha2.2 (by decide))⟩, ⟨ha3.1, (Int.le_trans ha3.2 (by decide))⟩, ha4, ⟨ha5.1, (Int.le_trans ha5.2 (by decide))⟩⟩, fun e9 => (by first | assumption | exact Int.le_antisymm (by first | exact q_5894d4d30 e9 ha1 hq8 | omega) (by first | exact q_e1fbc899f ha3 | omega))⟩
    have h_6 : (up (up (up (up (up (up c 56 (c 41 34) a1) 56 (c 41 34 + 1) a2) 56 (c 41 34 + 2) a3) 56 (c 41 34 + 3) a4) 56 (c 41 34 + 4) a5) 41 34 (c 41 34 + 5)) 41 34 = c 41 34 + 5 := (up_e rfl)
    have h_7 : (up (up (up (up (up (up c 56 (c 41 34) a1) 56 (c 41 34 + 1) a2) 56 (c 41 34 + 2) a3) 56 (c 41 34 + 3) a4) 56 (c 41 34 + 4) a5) 41 34 (c 41 34 + 5)) 41 34 = c 41 34 + 5 := (up_e rfl)
    have h_8 : (up (up (up (up (up (up c 56 (c 41 34) a1) 56 (c 41 34 + 1) a2) 56 (c 41 34 + 2) a3) 56 (c 41 34 + 3) a4) 56 (c 41 34 + 4) a5) 41 34 (c 41 34 + 5)) 56 (c 41 34) = a1 := ((up_c (nn rfl)).trans ((up_n (by first | exact ne_0a (by decide) | omega)).trans ((up_n (by first | exact ne_0a (by decide) | omega)).trans ((up_n (by first | exact ne_0a (by decide) | omega)).trans ((up_n (by first | exact ne_0a (by decide) | omega)).trans (up_e rfl))))))
    exact K (up (up (up (up (up (up c 56 (c 41 34) a1) 56 (c 41 34 + 1) a2) 56 (c 41 34 + 2) a3) 56 (c 41 34 + 3) a4) 56 (c 41 34 + 4) a5) 41 34 (c 41 34 + 5)) hI_5 (fun a j hm => (up_b (Decidable.or_iff_not_imp_left.mpr (fun h1 h2 => hm (Or.inl ⟨Decidable.not_not.mp h1, h2⟩)))).trans ((up_b (Decidable.or_iff_not_imp_left.mpr (fun h1 h2 => hm (Or.inr ⟨Decidable.not_not.mp h1, (Int.le_trans (by clear hm; first | exact q_4881f0222 | omega) (Int.le_of_eq h2.symm))⟩)))).trans ((up_b (Decidable.or_iff_not_imp_left.mpr (fun h1 h2 => hm (Or.inr ⟨Decidable.not_not.mp h1, (Int.le_trans (by clear hm; first | exact q_6a73f82e8 | omega) (Int.le_of_eq h2.symm))⟩)))).trans ((up_b (Decidable.or_iff_not_imp_left.mpr (fun h1 h2 => hm (Or.inr ⟨Decidable.not_not.mp h1, (Int.le_trans (by clear hm; first | exact q_5585f7267 | omega) (Int.le_of_eq h2.symm))⟩)))).trans ((up_b (Decidable.or_iff_not_imp_left.mpr (fun h1 h2 => hm (Or.inr ⟨Decidable.not_not.mp h1, (Int.le_trans (by clear hm; first | exact q_867451e9a | omega) (Int.le_of_eq h2.symm))⟩)))).trans (up_b (Decidable.or_iff_not_imp_left.mpr (fun h1 h2 => hm (Or.inr ⟨Decidable.not_not.mp h1, (Int.le_trans (by clear hm; first | exact q_e074ea49a | omega) (Int.le_of_eq h2.symm))⟩))))))))) (by first | (clear ha1 ha2 ha3 ha4 ha5 h_1 h_2 h_3 hq1 hq2 hq3 hq4 hq5 hq6 hq7 hq8; omega) | omega) (Or.inr (Or.inr ⟨by first | assumption | omega, by first | assumption | omega⟩)) (Or.inl (by first | exact q_65c5ff97d h_2 h_3 | omega))

set_option maxRecDepth 100000 in
set_option maxHeartbeats 4000000 in
theorem s_182 {sc : List Int32} {e : Int} {d u P Q : Nat} {c : ME} {a0 : Int} {Z : AR → Prop} (hI : Iv u e P Q c) (ha0 : (-2147483648) ≤ a0 ∧ a0 ≤ 2147483647) (K : ∀ (y : Int), (-1) ≤ y ∧ y ≤ 7 → ((y < 0) ∨ (a0 > 1023)) → Z (.inl (some (vi y)), Wd P Q P P c, 0, 0)) : Wp sc (d + 8) 182 0 [(0, vi a0)] [] (Wd P Q P P c) 0 0 Z := by
  have hP := iv_P hI
  have hQ := iv_Q hI
  refine q_iload_n c_182_0 rfl (q_ldc_w_s c_182_1 rfl rfl (by decide) (q_call c_182_4 rfl rfl rfl (s_158_29 (bk_inl ?_))))
  by_cases h_1 : a0 ≠ 7939524
  · refine v_ic_ne_t (t := 14) c_182_7 rfl ⟨h_1, ⟨ha0.1, ha0.2⟩, by decide, by decide⟩ (q_iload_n c_182_14 rfl (q_ldc_w_s c_182_15 rfl rfl (by decide) (q_call c_182_18 rfl rfl rfl (s_158_30 (bk_inl ?_)))))
    by_cases h_2 : a0 ≠ 632020
    · refine v_ic_ne_t (t := 28) c_182_21 rfl ⟨h_2, ⟨ha0.1, ha0.2⟩, by decide, by decide⟩ (q_iload_n c_182_28 rfl (q_ldc_w_s c_182_29 rfl rfl (by decide) (q_call c_182_32 rfl rfl rfl (s_158_31 (bk_inl ?_)))))
      by_cases h_3 : a0 ≠ 540338
      · refine v_ic_ne_t (t := 42) c_182_35 rfl ⟨h_3, ⟨ha0.1, ha0.2⟩, by decide, by decide⟩ (q_iload_n c_182_42 rfl (q_ldc_w_s c_182_43 rfl rfl (by decide) (q_call c_182_46 rfl rfl rfl (s_158_32 (bk_inl ?_)))))
        by_cases h_4 : a0 ≠ 20037104
        · refine v_ic_ne_t (t := 56) c_182_49 rfl ⟨h_4, ⟨ha0.1, ha0.2⟩, by decide, by decide⟩ (q_iload_n c_182_56 rfl (q_ldc_w_s c_182_57 rfl rfl (by decide) (q_call c_182_60 rfl rfl rfl (s_158_33 (bk_inl ?_)))))
          by_cases h_5 : a0 ≠ 660530
          · refine v_ic_ne_t (t := 70) c_182_63 rfl ⟨h_5, ⟨ha0.1, ha0.2⟩, by decide, by decide⟩ (q_iload_n c_182_70 rfl (q_ldc_w_s c_182_71 rfl rfl (by decide) (q_call c_182_74 rfl rfl rfl (s_158_34 (bk_inl ?_)))))
            by_cases h_6 : a0 ≠ 628108
            · refine v_ic_ne_t (t := 84) c_182_77 rfl ⟨h_6, ⟨ha0.1, ha0.2⟩, by decide, by decide⟩ (q_iload_n c_182_84 rfl (q_ldc_w_s c_182_85 rfl rfl (by decide) (q_call c_182_88 rfl rfl rfl (s_158_28 (bk_inl ?_)))))
              by_cases h_7 : a0 ≠ 4153
              · refine v_ic_ne_t (t := 99) c_182_91 rfl ⟨h_7, ⟨ha0.1, ha0.2⟩, by decide, by decide⟩ (q_iload_n c_182_99 rfl (q_ldc_w_s c_182_100 rfl rfl (by decide) (q_call c_182_103 rfl rfl rfl (s_158_35 (bk_inl ?_)))))
                by_cases h_8 : a0 ≠ 1279278
                · refine v_ic_ne_t (t := 114) c_182_106 rfl ⟨h_8, ⟨ha0.1, ha0.2⟩, by decide, by decide⟩ (q_iconst c_182_114 (q_iret c_182_115 rfl ?_))
                  exact K (-1) ⟨by decide, by decide⟩ (Or.inl (by first | decide | omega))
                · refine v_ic_ne_f (t := 114) c_182_106 rfl (Decidable.not_not.mp h_8) (v_bip c_182_109 (by decide) (q_goto (t := 115) c_182_111 rfl (q_iret c_182_115 rfl ?_)))
                  exact K 7 ⟨by decide, by decide⟩ (Or.inr (by first | exact q_64f9e4230 h_8 | omega))
              · refine v_ic_ne_f (t := 99) c_182_91 rfl (Decidable.not_not.mp h_7) (v_bip c_182_94 (by decide) (q_goto (t := 115) c_182_96 rfl (q_iret c_182_115 rfl ?_)))
                exact K 6 ⟨by decide, by decide⟩ (Or.inr (by first | exact q_ad877822f h_7 | omega))
            · refine v_ic_ne_f (t := 84) c_182_77 rfl (Decidable.not_not.mp h_6) (q_iconst c_182_80 (q_goto (t := 115) c_182_81 rfl (q_iret c_182_115 rfl ?_)))
              exact K 5 ⟨by decide, by decide⟩ (Or.inr (by first | exact q_a92f8dcb8 h_6 | omega))
          · refine v_ic_ne_f (t := 70) c_182_63 rfl (Decidable.not_not.mp h_5) (q_iconst c_182_66 (q_goto (t := 115) c_182_67 rfl (q_iret c_182_115 rfl ?_)))
            exact K 4 ⟨by decide, by decide⟩ (Or.inr (by first | exact q_36d178e95 h_5 | omega))
        · refine v_ic_ne_f (t := 56) c_182_49 rfl (Decidable.not_not.mp h_4) (q_iconst c_182_52 (q_goto (t := 115) c_182_53 rfl (q_iret c_182_115 rfl ?_)))
          exact K 3 ⟨by decide, by decide⟩ (Or.inr (by first | exact q_067a6fc62 h_4 | omega))
      · refine v_ic_ne_f (t := 42) c_182_35 rfl (Decidable.not_not.mp h_3) (q_iconst c_182_38 (q_goto (t := 115) c_182_39 rfl (q_iret c_182_115 rfl ?_)))
        exact K 2 ⟨by decide, by decide⟩ (Or.inr (by first | exact q_1721f5441 h_3 | omega))
    · refine v_ic_ne_f (t := 28) c_182_21 rfl (Decidable.not_not.mp h_2) (q_iconst c_182_24 (q_goto (t := 115) c_182_25 rfl (q_iret c_182_115 rfl ?_)))
      exact K 1 ⟨by decide, by decide⟩ (Or.inr (by first | exact q_79933d4be h_2 | omega))
  · refine v_ic_ne_f (t := 14) c_182_7 rfl (Decidable.not_not.mp h_1) (q_iconst c_182_10 (q_goto (t := 115) c_182_11 rfl (q_iret c_182_115 rfl ?_)))
    exact K 0 ⟨by decide, by decide⟩ (Or.inr (by first | exact q_63c692497 h_1 | omega))

set_option maxRecDepth 100000 in
set_option maxHeartbeats 4000000 in
theorem s_183 {sc : List Int32} {e : Int} {d u P Q : Nat} {c : ME} {Z : AR → Prop} (hI : Iv u e P Q c)  (K : ∀ (c2 : ME) (y : Int), Iv u e P Q c2 → (∀ (a : Nat) (j : Int), ¬ ((a = 41 ∧ j = 4) ∨ (a = 41 ∧ j = 5) ∨ (a = 41 ∧ j = 6)) → c2 a j = c a j) → 0 ≤ y ∧ y ≤ 5 → ((c2 41 4 ≥ c 41 4)) → ((c2 41 4 ≤ c 41 3) ∨ (c2 41 4 = c 41 4)) → ((c 41 5 = (-1)) ∨ (c2 41 5 = c 41 5)) → ((c2 41 5 < (-1)) ∨ (c2 41 5 > (-1)) ∨ (c2 41 4 > c 41 4 ∧ c2 41 4 ≤ c 41 3 ∧ c 41 5 = (-1))) → Z (.inl (some (vi y)), Wd P Q P P c2, 0, 0)) : Wp sc (d + 9) 183 0 [(0, .ref 41)] [] (Wd P Q P P c) 0 0 Z := by
  have hP := iv_P hI
  have hQ := iv_Q hI
  refine q_aload_n c_183_0 rfl (q_iconst c_183_1 (q_aload_n c_183_2 rfl ?_))
  have h_1 := ir_41_20 hI
  refine v_gi (z := 20) (v := c 41 20) c_183_3 kf_8_157 rfl (nb_ rfl) rfl rfl rfl (q_iconst c_183_6 (v_isub (v := c 41 20 - 1) c_183_7 rfl ?_))
  have h_2 := ir_41_4 hI
  have h_3 := ir_41_3 hI
  have h_4 := ir_41_5 hI
  refine v_cv c_183_8 km_8_199 rfl rfl (nb_ rfl) ⟨⟨rfl, rfl⟩, nb_ rfl, rfl⟩ (nb_ rfl) (nb_ rfl) (s_160 (a1 := 0) (a2 := c 41 20 - 1) hI (show 0 ≤ 0 ∧ 0 ≤ 1 from ⟨by decide, by decide⟩) (show (-1) ≤ c 41 20 - 1 ∧ c 41 20 - 1 ≤ 9999 from ⟨by first | exact rgm_l h_1.1 (by decide) | omega, by first | exact rgm_h h_1.2 (by decide) | omega⟩) (fun c_5 y_8 hI_6 hF_7 hy_8 h_9 h_10 h_11 h_12 h_13 => (bk_inl ?_)))
  have h_14 := ir_41_4 hI_6
  have h_15 := ir_41_5 hI_6
  refine q_iret c_183_11 rfl ?_
  exact K c_5 y_8 hI_6 (fun a j hm => hF_7 a j hm) ⟨hy_8.1, by first | exact q_f121c64ac h_1 h_11 | omega⟩ (by first | exact q_a2ce855bf h_9 | omega) (by omega) (by omega) (by omega)
end
section
/-! ===== contracts 14 ===== -/
theorem qn_14d4d2881 : ¬ (((41 : Nat) = 41 ∧ (34 : Int) = 4) ∨ ((41 : Nat) = 41 ∧ (34 : Int) = 5) ∨ ((41 : Nat) = 41 ∧ (34 : Int) = 6)) := (fun q => q.elim (fun h => absurd h.2 (ni rfl)) (fun q => q.elim (fun h => absurd h.2 (ni rfl)) (fun h => absurd h.2 (ni rfl))))
theorem qv_b6152c67a {a : Nat} {j : Int} {t0 : Int} (hm : ¬ ((a = 41 ∧ j = 4) ∨ (a = 41 ∧ j = 5) ∨ (a = 41 ∧ j = 6) ∨ (a = 41 ∧ j = 7) ∨ (a = 41 ∧ j = 34) ∨ (a = 56 ∧ j ≥ t0))) : ¬ ((a = 41 ∧ j = 4) ∨ (a = 41 ∧ j = 5) ∨ (a = 41 ∧ j = 6)) := (fun q => q.elim (fun h => hm (Or.inl h)) (fun q => q.elim (fun h => hm (Or.inr (Or.inl h))) (fun h => hm (Or.inr (Or.inr (Or.inl h))))))
theorem q_8d57aa4b2 {x0 : Int} (f0 : 0 ≤ x0 ∧ x0 ≤ 245) : x0 + 2 < 250 := by omega
theorem qn_01f0bccfb {j : Int} : ¬ (((56 : Nat) = 41 ∧ j = 4) ∨ ((56 : Nat) = 41 ∧ j = 5) ∨ ((56 : Nat) = 41 ∧ j = 6)) := (fun q => q.elim (fun h => absurd h.1 (nn rfl)) (fun q => q.elim (fun h => absurd h.1 (nn rfl)) (fun h => absurd h.1 (nn rfl))))
theorem q_40b8b4b12 {x0 x1 x2 x3 x4 x5 x6 : Int} (f0 : (x0 < (-1)) ∨ (x0 > (-1)) ∨ (x1 > x2 ∧ x1 ≤ x3 ∧ x4 = (-1))) (f1 : (-1) ≤ x0 ∧ x0 ≤ 605) (f2 : ¬ (x0 ≠ (-1))) (f3 : x3 = x5) (f4 : x4 = x6) : x1 ≤ x5 := by omega
theorem q_9ee567b18 {x0 x1 : Int} (f0 : x0 ≠ (-1)) (f1 : (x0 = (-1)) ∨ (x1 = x0)) : ¬ x1 = (-1) := by omega
theorem q_3c458df8b {x0 x1 : Int} (f0 : x0 ≠ (-1)) (f1 : (x0 = (-1)) ∨ (x1 = x0)) (f2 : (-1) ≤ x1 ∧ x1 ≤ 605) : (-1) < x1 := by omega
theorem q_76b49cfc4 {x0 x1 x2 x3 x4 : Int} (f0 : (x0 < (-1)) ∨ (x0 > (-1)) ∨ (x1 ≤ x2 ∧ x1 > x3)) (f1 : (-1) ≤ x0 ∧ x0 ≤ 605) (f2 : ¬ (x0 ≠ (-1))) (f3 : x2 = x4) : x1 ≤ x4 := by omega
theorem qn_62c325fba : ¬ (((41 : Nat) = 41 ∧ (34 : Int) = 4) ∨ ((41 : Nat) = 41 ∧ (34 : Int) = 5) ∨ ((41 : Nat) = 41 ∧ (34 : Int) = 6) ∨ ((41 : Nat) = 41 ∧ (34 : Int) = 7)) := (fun q => q.elim (fun h => absurd h.2 (ni rfl)) (fun q => q.elim (fun h => absurd h.2 (ni rfl)) (fun q => q.elim (fun h => absurd h.2 (ni rfl)) (fun h => absurd h.2 (ni rfl)))))
theorem q_6d11d81d2 {x0 : Int} (f0 : (x0 = 0) ∨ (x0 ≥ 0 ∧ x0 ≤ 40)) : x0 ≤ 40 := by omega
theorem q_fc871f4a9 {x0 x1 x2 : Int} (f0 : x0 ≠ (-1)) (f1 : (x1 = (-1)) ∨ (x2 = x1)) (f2 : x1 = x0) : ¬ x2 = (-1) := by omega
theorem q_35f921f70 {x0 x1 : Int} (f0 : 0 ≤ x0 ∧ x0 ≤ 7) (f1 : (x1 = x0 + 1)) : 0 ≤ x1 - 1 := by omega
theorem qv_121bccc17 {a : Nat} {j : Int} {t0 : Int} (hm : ¬ ((a = 41 ∧ j = 4) ∨ (a = 41 ∧ j = 5) ∨ (a = 41 ∧ j = 6) ∨ (a = 41 ∧ j = 7) ∨ (a = 41 ∧ j = 34) ∨ (a = 56 ∧ j ≥ t0))) : ¬ ((a = 41 ∧ j = 4) ∨ (a = 41 ∧ j = 5) ∨ (a = 41 ∧ j = 6) ∨ (a = 41 ∧ j = 7)) := (fun q => q.elim (fun h => hm (Or.inl h)) (fun q => q.elim (fun h => hm (Or.inr (Or.inl h))) (fun q => q.elim (fun h => hm (Or.inr (Or.inr (Or.inl h)))) (fun h => hm (Or.inr (Or.inr (Or.inr (Or.inl h))))))))
theorem q_824687670 {x0 x1 x2 x3 x4 x5 : Int} (f0 : (x0 ≥ x1)) (f1 : (x2 ≥ x0)) (f2 : (x3 ≥ x2)) (f3 : (x4 ≥ x5)) (f4 : x5 = x3) : x1 ≤ x4 := by omega
theorem q_2d1567f86 {x0 x1 x2 x3 x4 x5 x6 x7 x8 x9 x10 x11 x12 x13 x14 : Int} (f0 : (x0 ≥ x1)) (f1 : (x2 < (-1)) ∨ (x2 > (-1)) ∨ (x0 = x1 + 5 ∧ x3 ≤ 5 ∧ x4 = (-1))) (f2 : (x5 ≥ x0)) (f3 : (x2 = (-1)) ∨ (x6 = x2)) (f4 : (x7 ≥ x5)) (f5 : (x6 = (-1)) ∨ (x8 = x6)) (f6 : (x8 < (-1)) ∨ (x8 > (-1)) ∨ (x9 = x10 + 5 ∧ x11 = 7)) (f7 : (x8 = (-1)) ∨ (x9 = x10)) (f8 : (x12 ≥ x13)) (f9 : x10 = x14) (f10 : x13 = x7) : 5 * x1 + 3 * x9 ≤ 3 * x14 + 5 * x12 := by omega
theorem q_39d1415b2 {x0 x1 x2 : Int} (f0 : x0 ≠ (-1)) (f1 : (x1 = (-1)) ∨ (x2 = x1)) (f2 : (-1) ≤ x2 ∧ x2 ≤ 605) (f3 : x1 = x0) : (-1) < x2 := by omega
theorem q_8046a5716 {x0 x1 x2 x3 x4 : Int} (f0 : (x0 < (-1)) ∨ (x0 > (-1)) ∨ (x1 = x2 + 5 ∧ x3 = 7)) (f1 : (x0 = (-1)) ∨ (x1 = x2)) (f2 : x2 = x4) : x4 ≤ x1 := by omega
theorem q_d3760c3a8 {x0 x1 x2 x3 x4 : Int} (f0 : (-1) ≤ x0 ∧ x0 ≤ 605) (f1 : (x0 < (-1)) ∨ (x0 > (-1)) ∨ (x1 = x2 + 5 ∧ x3 = 7)) (f2 : 0 ≤ x1 ∧ x1 ≤ 250) (f3 : ¬ (x0 ≠ (-1))) (f4 : x2 = x4) : x4 ≤ 245 := by omega
theorem q_6c17673c2 {x0 x1 x2 x3 x4 x5 : Int} (f0 : (x0 < (-1)) ∨ (x0 > (-1)) ∨ (x1 > x2 ∧ x1 ≤ x3 ∧ x4 = (-1))) (f1 : (-1) ≤ x0 ∧ x0 ≤ 605) (f2 : ¬ (x0 ≠ (-1))) (f3 : x3 = x5) : x1 ≤ x5 := by omega
theorem q_b1a490af8 {x0 x1 : Int} (f0 : (x0 = x1 + 1)) : x0 = x1 + 1 := by omega
theorem q_ba09e3057 {x0 x1 x2 x3 x4 x5 x6 x7 x8 x9 x10 x11 : Int} (f0 : (x0 = x1 + 1)) (f1 : (x2 < (-1)) ∨ (x2 > (-1)) ∨ (x3 = x4 + 5 ∧ x1 ≤ 5 ∧ x5 = (-1))) (f2 : (x2 = (-1)) ∨ (x6 = x2)) (f3 : (x7 < (-1)) ∨ (x7 > (-1)) ∨ (x8 > x9 ∧ x8 ≤ x10 ∧ x6 = (-1))) (f4 : ¬ (x7 ≠ (-1))) (f5 : x10 = x11) : x0 ≤ 6 := by omega
theorem q_cd90f784c {x0 x1 x2 x3 x4 x5 x6 x7 x8 x9 x10 x11 x12 x13 x14 : Int} (f0 : (x0 < (-1)) ∨ (x0 > (-1)) ∨ (x1 = x2 + 5 ∧ x3 ≤ 5 ∧ x4 = (-1))) (f1 : (x5 ≥ x1)) (f2 : (x0 = (-1)) ∨ (x6 = x0)) (f3 : (x7 < (-1)) ∨ (x7 > (-1)) ∨ (x8 > x5 ∧ x8 ≤ x9 ∧ x6 = (-1))) (f4 : (x7 < (-1)) ∨ (x7 > (-1)) ∨ (x10 = x11 + 5 ∧ x12 = 7)) (f5 : ¬ (x7 ≠ (-1))) (f6 : x9 = x13) (f7 : x11 = x14) : 5 * x2 + 3 * x10 ≤ 3 * x14 + 5 * x8 := by omega
theorem q_cff8bd31e {x0 x1 x2 x3 x4 : Int} (f0 : (-1) ≤ x0 ∧ x0 ≤ 605) (f1 : (x0 < (-1)) ∨ (x0 > (-1)) ∨ (x1 = x2 + 5 ∧ x3 = 7)) (f2 : ¬ (x0 ≠ (-1))) (f3 : x2 = x4) : x4 + 5 ≤ x1 := by omega
theorem q_35b672115 {x0 x1 x2 x3 x4 : Int} (f0 : (-1) ≤ x0 ∧ x0 ≤ 605) (f1 : (x0 < (-1)) ∨ (x0 > (-1)) ∨ (x1 = x2 + 5 ∧ x3 = 7)) (f2 : ¬ (x0 ≠ (-1))) (f3 : x2 = x4) : x3 = 7 := by omega
theorem q_2af7a65a9 {x0 x1 x2 x3 x4 x5 x6 x7 : Int} (f0 : (x0 ≥ x1)) (f1 : (x2 ≥ x0)) (f2 : (x3 < (-1)) ∨ (x3 > (-1)) ∨ (x4 > x2 ∧ x4 ≤ x5 ∧ x6 = (-1))) (f3 : (-1) ≤ x3 ∧ x3 ≤ 605) (f4 : ¬ (x3 ≠ (-1))) (f5 : x5 = x7) : x1 < x4 := by omega
theorem c_184_41 : mLk 184 41 = some (.aload_n 0, 1) := rfl
theorem c_184_42 : mLk 184 42 = some (.invokevirtual 114, 3) := rfl
theorem c_184_45 : mLk 184 45 = some (.bipush 93, 2) := rfl
theorem c_184_47 : mLk 184 47 = some (.if_icmp .eq 10, 3) := rfl
theorem c_184_57 : mLk 184 57 = some (.aload_n 0, 1) := rfl
theorem c_184_58 : mLk 184 58 = some (.bipush 93, 2) := rfl
theorem c_184_60 : mLk 184 60 = some (.invokevirtual 229, 3) := rfl
theorem c_184_63 : mLk 184 63 = some (.aload_n 0, 1) := rfl
theorem c_184_64 : mLk 184 64 = some (.dup, 1) := rfl
theorem c_184_65 : mLk 184 65 = some (.getfield 142, 3) := rfl
theorem c_184_68 : mLk 184 68 = some (.iconst 1, 1) := rfl
theorem c_184_69 : mLk 184 69 = some (.isub, 1) := rfl
theorem c_184_70 : mLk 184 70 = some (.putfield 142, 3) := rfl
theorem c_184_73 : mLk 184 73 = some (.aload_n 0, 1) := rfl
theorem c_184_74 : mLk 184 74 = some (.invokevirtual 131, 3) := rfl
theorem c_184_77 : mLk 184 77 = some (.ifCond .eq 15, 3) := rfl
theorem c_184_80 : mLk 184 80 = some (.aload_n 0, 1) := rfl
theorem c_184_81 : mLk 184 81 = some (.getfield 59, 3) := rfl
theorem c_184_84 : mLk 184 84 = some (.iload_n 2, 1) := rfl
theorem c_184_85 : mLk 184 85 = some (.iconst 2, 1) := rfl
theorem c_184_86 : mLk 184 86 = some (.iadd, 1) := rfl
theorem c_184_87 : mLk 184 87 = some (.aload_n 0, 1) := rfl
theorem c_184_88 : mLk 184 88 = some (.getfield 284, 3) := rfl
theorem c_184_91 : mLk 184 91 = some (.iastore, 1) := rfl
theorem c_184_50 : mLk 184 50 = some (.aload_n 0, 1) := rfl
theorem c_184_51 : mLk 184 51 = some (.invokevirtual 305, 3) := rfl
theorem c_184_54 : mLk 184 54 = some (.goto (-20), 3) := rfl
theorem c_184_34 : mLk 184 34 = some (.aload_n 0, 1) := rfl
theorem c_184_35 : mLk 184 35 = some (.invokevirtual 131, 3) := rfl
theorem c_184_38 : mLk 184 38 = some (.ifCond .eq 19, 3) := rfl
theorem c_184_0 : mLk 184 0 = some (.aload_n 0, 1) := rfl
theorem c_184_1 : mLk 184 1 = some (.iconst 5, 1) := rfl
theorem c_184_2 : mLk 184 2 = some (.invokevirtual 248, 3) := rfl
theorem c_184_5 : mLk 184 5 = some (.aload_n 0, 1) := rfl
theorem c_184_6 : mLk 184 6 = some (.iconst 0, 1) := rfl
theorem c_184_7 : mLk 184 7 = some (.bipush 40, 2) := rfl
theorem c_184_9 : mLk 184 9 = some (.invokevirtual 199, 3) := rfl
theorem c_184_12 : mLk 184 12 = some (.istore_n 1, 1) := rfl
theorem c_184_13 : mLk 184 13 = some (.aload_n 0, 1) := rfl
theorem c_184_14 : mLk 184 14 = some (.bipush 91, 2) := rfl
theorem c_184_16 : mLk 184 16 = some (.invokevirtual 229, 3) := rfl
theorem c_184_19 : mLk 184 19 = some (.aload_n 0, 1) := rfl
theorem c_184_20 : mLk 184 20 = some (.getfield 284, 3) := rfl
theorem c_184_23 : mLk 184 23 = some (.istore_n 2, 1) := rfl
theorem c_184_24 : mLk 184 24 = some (.aload_n 0, 1) := rfl
theorem c_184_25 : mLk 184 25 = some (.bipush 7, 2) := rfl
theorem c_184_27 : mLk 184 27 = some (.iload_n 1, 1) := rfl
theorem c_184_28 : mLk 184 28 = some (.iconst 0, 1) := rfl
theorem c_184_29 : mLk 184 29 = some (.iconst 0, 1) := rfl
theorem c_184_30 : mLk 184 30 = some (.iconst 0, 1) := rfl
theorem c_184_31 : mLk 184 31 = some (.invokevirtual 301, 3) := rfl
theorem km_8_301 : a_lk (kM 8) 301 = some (0, 181) := rfl
theorem km_8_305 : a_lk (kM 8) 305 = some (0, 185) := rfl
set_option maxRecDepth 100000 in
set_option maxHeartbeats 4000000 in
theorem s_184_l {sc : List Int32} {e : Int} {d u P Q : Nat} {c : ME} {o : Int} {Z : AR → Prop} (hI : Iv u e P Q c) (ho : 0 ≤ o ∧ o ≤ 6) (hq0 : (c 41 5 = (-1))) (hq1 : (c 41 4 ≤ c 41 3)) (hq2 : (c 41 3 ≤ 150)) (hq3 : (3 * c 41 34 ≤ 5 * c 41 4)) (hq4 : (((c 41 34) % 5) = 0)) (hq5 : (c 41 7 = o)) (hq6 : (c 41 4 ≤ c 41 3 - 1)) (H185 : ∀ (d9 : Nat) (c : ME) (Z : AR → Prop), d ≤ d9 → o + 1 ≤ 6 → Iv u e P Q c → ((c 41 5 = (-1))) → ((c 41 4 ≤ c 41 3)) → ((c 41 3 ≤ 150)) → ((3 * c 41 34 ≤ 5 * c 41 4)) → ((((c 41 34) % 5) = 0)) → (c 41 7 = o + 1) → (∀ c2 : ME, Iv u e P Q c2 → (∀ (a : Nat) (j : Int), ¬ ((a = 41 ∧ j = 4) ∨ (a = 41 ∧ j = 5) ∨ (a = 41 ∧ j = 6) ∨ (a = 41 ∧ j = 7) ∨ (a = 41 ∧ j = 34) ∨ (a = 56 ∧ j ≥ c 41 34)) → c2 a j = c a j) → ((c2 41 4 ≥ c 41 4)) → ((c2 41 7 = c 41 7)) → ((5 * c 41 4 + 3 * c2 41 34 ≤ 3 * c 41 34 + 5 * c2 41 4)) → ((c2 41 5 < (-1)) ∨ (c2 41 5 > (-1)) ∨ (c2 41 4 ≤ c 41 3 ∧ c2 41 4 > c 41 4)) → ((((c2 41 34) % 5) = 0)) → ((c2 41 34 ≥ c 41 34)) → (c2 41 5 = -1 → Ap c2 56 (c 41 34) (c2 41 34)) → Z (.inl none, Wd P Q P P c2, 0, 0)) → Wp sc (d9 + 12) 185 0 [(0, .ref 41)] [] (Wd P Q P P c) 0 0 Z) (K : ∀ (c2 : ME), Iv u e P Q c2 → (∀ (a : Nat) (j : Int), ¬ ((a = 41 ∧ j = 4) ∨ (a = 41 ∧ j = 5) ∨ (a = 41 ∧ j = 6) ∨ (a = 41 ∧ j = 7) ∨ (a = 41 ∧ j = 34) ∨ (a = 56 ∧ j ≥ c 41 34)) → c2 a j = c a j) → ((c2 41 4 ≥ c 41 4)) → ((c2 41 7 = c 41 7)) → ((5 * c 41 4 + 3 * c2 41 34 ≤ 3 * c 41 34 + 5 * c2 41 4)) → ((c2 41 5 < (-1)) ∨ (c2 41 5 > (-1)) ∨ (c2 41 4 ≤ c 41 3 ∧ c2 41 4 > c 41 4)) → ((((c2 41 34) % 5) = 0)) → ((c2 41 34 ≥ c 41 34)) → (c2 41 5 = -1 → Ap c2 56 (c 41 34) (c2 41 34)) → Z (.inl (none), Wd P Q P P c2, 0, 0)) : ∀ n : Nat, (∀ (c2 : ME) (v1 : Int) (v2 : Int), Iv u e P Q c2 → (∀ (a : Nat) (j : Int), ¬ ((a = 41 ∧ j = 4) ∨ (a = 41 ∧ j = 5) ∨ (a = 41 ∧ j = 6) ∨ (a = 41 ∧ j = 7) ∨ (a = 41 ∧ j = 34) ∨ (a = 56 ∧ j ≥ c 41 34)) → c2 a j = c a j) → 0 ≤ v1 ∧ v1 ≤ 9999 → 0 ≤ v2 ∧ v2 ≤ 245 → ((c2 41 5 = (-1))) → ((c2 41 4 ≤ c 41 3)) → ((c2 41 4 ≥ c 41 4)) → ((c2 41 7 = c 41 7 + 1 ∧ c2 41 7 ≤ 6)) → ((5 * c 41 4 + 3 * c2 41 34 ≤ 3 * c 41 34 + 5 * c2 41 4)) → ((((c2 41 34) % 5) = 0)) → ((c2 41 34 ≥ v2 + 5)) → ((v2 = c 41 34)) → ((c2 56 v2 = 7)) → ((c2 41 4 > c 41 4)) → (Ap c2 56 (v2 + 5) (c2 41 34)) → 1211 - 2 * c2 41 4 < (n : Int) → Wp sc (d + 13) 184 41 [(0, .ref 41), (1, vi v1), (2, vi v2)] [] (Wd P Q P P c2) 0 0 Z) := by
  intro n
  induction n with
  | zero => exact (by intro c2 v1 v2 hI2 hF hv1 hv2 hx0 hx1 hx2 hx3 hx4 hx5 hx6 hx7 hx8 hx9 hx10 hm9; have hP := iv_P hI; have hQ := iv_Q hI; have h_108 := ir_41_4 hI2; exfalso; omega)
  | succ n ih =>
    have hP := iv_P hI
    have hQ := iv_Q hI
    intro c2 v1 v2 hI2 hF hv1 hv2 hx0 hx1 hx2 hx3 hx4 hx5 hx6 hx7 hx8 hx9 hx10 hm9
    have h_1 := ir_41_5 hI2
    have h_2 := ir_41_3 hI
    have h_3 := ir_41_4 hI2
    have h_4 := ir_41_4 hI
    have h_5 := ir_41_7 hI
    have h_6 := ir_41_7 hI2
    have h_7 := ir_41_34 hI
    have h_8 := ir_41_34 hI2
    have h_9 := ir_56 hI2 v2
    refine q_aload_n c_184_41 rfl ?_
    have kn_10 : Hid (c2 41 3 = c 41 3) := hF 41 3 (fun q => q.elim (fun h => absurd h.2 (ni rfl)) (fun q => q.elim (fun h => absurd h.2 (ni rfl)) (fun q => q.elim (fun h => absurd h.2 (ni rfl)) (fun q => q.elim (fun h => absurd h.2 (ni rfl)) (fun q => q.elim (fun h => absurd h.2 (ni rfl)) (fun h => absurd h.1 (nn rfl)))))))
    have h_11 : c2 41 3 = c 41 3 := (hid kn_10)
    refine v_cv c_184_42 km_8_114 rfl rfl (nb_ rfl) ⟨⟨rfl, rfl⟩, nb_ rfl, rfl⟩ (nb_ rfl) (nb_ rfl) (s_154 hI2 (fun c_12 y_15 hI_13 hF_14 hy_15 h_16 h_17 h_18 h_19 => (bk_inl ?_)))
    have h_20 := ir_41_4 hI_13
    have h_21 := ir_43 hI (c_12 41 4)
    have kn_22 : Hid (c2 43 (c_12 41 4) = c 43 (c_12 41 4)) := hF 43 (c_12 41 4) (fun q => q.elim (fun h => absurd h.1 (nn rfl)) (fun q => q.elim (fun h => absurd h.1 (nn rfl)) (fun q => q.elim (fun h => absurd h.1 (nn rfl)) (fun q => q.elim (fun h => absurd h.1 (nn rfl)) (fun q => q.elim (fun h => absurd h.1 (nn rfl)) (fun h => absurd h.1 (nn rfl)))))))
    have h_23 : c2 43 (c_12 41 4) = c 43 (c_12 41 4) := (hid kn_22)
    refine v_bip c_184_45 (by decide) ?_
    by_cases h_24 : y_15 = 93
    · refine v_ic_eq_t (t := 57) c_184_47 rfl h_24 (q_aload_n c_184_57 rfl (v_bip c_184_58 (by decide) ?_))
      have kn_25 : Hid (c_12 41 3 = c 41 3) := (hF_14 41 3 (fun h => absurd h.2 (ni rfl))).trans (hid kn_10)
      have h_26 : c_12 41 3 = c 41 3 := (hid kn_25)
      have kn_27 : Hid (c_12 41 5 = c2 41 5) := hF_14 41 5 (fun h => absurd h.2 (ni rfl))
      have h_28 : c_12 41 5 = c2 41 5 := (hid kn_27)
      refine v_cv c_184_60 km_8_229 rfl rfl (nb_ rfl) ⟨⟨rfl, rfl⟩, nb_ rfl, rfl⟩ (nb_ rfl) (nb_ rfl) (s_161 (a1 := 93) hI_13 (show 1 ≤ 93 ∧ 93 ≤ 255 from ⟨by decide, by decide⟩) (fun c_29 hI_30 hF_31 h_32 h_33 h_34 h_35 => (bk_inl ?_)))
      have h_36 := ir_41_4 hI_30
      have h_37 := ir_41_5 hI_30
      refine q_aload_n c_184_63 rfl (q_dup c_184_64 rfl ?_)
      have kn_38 : Hid (c_12 41 7 = c2 41 7) := hF_14 41 7 (fun h => absurd h.2 (ni rfl))
      have kn_39 : Hid (c_29 41 7 = c2 41 7) := (hF_31 41 7 qn_fb1117a24).trans (hid kn_38)
      refine v_gi (z := 7) (v := c2 41 7) c_184_65 kf_8_142 rfl (nb_ rfl) rfl rfl (hid kn_39) (q_iconst c_184_68 (v_isub (v := c2 41 7 - 1) c_184_69 rfl (v_pi (z := 7) c_184_70 kf_8_142 rfl (nb_ rfl) rfl rfl rfl (by decide) (q_aload_n c_184_73 rfl (v_cv c_184_74 km_8_131 rfl rfl (nb_ rfl) ⟨⟨rfl, rfl⟩, nb_ rfl, rfl⟩ (nb_ rfl) (nb_ rfl) (q_aload_n c_152_0 rfl (v_gi (z := 5) (v := c_29 41 5) c_152_1 kf_8_102 rfl (nb_ rfl) rfl rfl (up_n (by decide)) ?_)))))))
      refine q_iconst c_152_4 ?_
      by_cases h_40 : c_29 41 5 ≠ (-1)
      · refine v_ic_ne_t (t := 12) c_152_5 rfl ⟨h_40, ⟨(Int.le_trans (by decide) h_37.1), (Int.le_trans h_37.2 (by decide))⟩, by decide, by decide⟩ (q_iconst c_152_12 (v_zret c_152_13 rfl (by decide) (bk_inl (v_if_eq_t (t := 92) c_184_77 rfl (by decide) (q_vret rfl rfl ?_)))))
        have hI_41 := iw_41_7 (v := c2 41 7 - 1) hI_30 ⟨by first | (clear ho hq0 hq1 hq2 hq3 hq4 hq5 hq6 hv1 hv2 hx0 hx1 hx2 hx4 hx5 hx6 hx7 hx8 hx9 h_1 h_2 h_3 h_4 h_6 h_7 h_8 h_9 h_20 h_16 h_21 h_24 h_36 h_32 h_37 h_17 h_18 h_19 h_33 h_34 h_35 h_40; omega) | omega, by first | exact rgm_h h_6.2 (by decide) | omega⟩
        have kn_42 : Hid (c_12 41 34 = c2 41 34) := hF_14 41 34 (fun h => absurd h.2 (ni rfl))
        have kn_43 : Hid (c_29 41 34 = c2 41 34) := (hF_31 41 34 qn_14d4d2881).trans (hid kn_42)
        have h_44 : (up c_29 41 7 (c2 41 7 - 1)) 41 34 = c2 41 34 := ((up_n (by decide)).trans (hid kn_43))
        have h_45 : (up c_29 41 7 (c2 41 7 - 1)) 41 34 = c2 41 34 := ((up_n (by decide)).trans (hid kn_43))
        have h_46 : (up c_29 41 7 (c2 41 7 - 1)) 41 4 = c_29 41 4 := (up_n (by decide))
        have h_47 : (up c_29 41 7 (c2 41 7 - 1)) 41 5 = c_29 41 5 := (up_n (by decide))
        have h_48 : (up c_29 41 7 (c2 41 7 - 1)) 41 7 = c2 41 7 - 1 := (up_e rfl)
        have hb9 : (up c_29 41 7 (c2 41 7 - 1)) 41 5 = c_29 41 5 := (up_n (by decide))
        exact K (up c_29 41 7 (c2 41 7 - 1)) hI_41 (fun a j hm => (up_b (Decidable.or_iff_not_imp_left.mpr (fun h1 h2 => hm (Or.inr (Or.inr (Or.inr (Or.inl ⟨Decidable.not_not.mp h1, h2⟩))))))).trans ((hF_31 a j (qv_b6152c67a hm)).trans ((hF_14 a j (fun h => hm (Or.inl h))).trans (hF a j (fun q => q.elim (fun h => hm (Or.inl h)) (fun q => q.elim (fun h => hm (Or.inr (Or.inl h))) (fun q => q.elim (fun h => hm (Or.inr (Or.inr (Or.inl h)))) (fun q => q.elim (fun h => hm (Or.inr (Or.inr (Or.inr (Or.inl h))))) (fun q => q.elim (fun h => hm (Or.inr (Or.inr (Or.inr (Or.inr (Or.inl h)))))) (fun h => hm (Or.inr (Or.inr (Or.inr (Or.inr (Or.inr ⟨h.1, (Int.le_trans (by clear hm; first | exact q_e074ea49a | omega) h.2)⟩))))))))))))))) (by first | (clear ho hq0 hq1 hq2 hq3 hq4 hq5 hq6 hv1 hv2 hx0 hx1 hx2 hx3 hx5 hx8 hx9 h_1 h_2 h_3 h_4 h_5 h_6 h_7 h_8 h_9 h_20 h_21 h_24 h_36 h_37 h_17 h_18 h_19 h_33 h_34 h_35 h_40; omega) | omega) (by first | (clear ho hq0 hq1 hq2 hq3 hq4 hq5 hq6 hv1 hv2 hx0 hx1 hx2 hx4 hx5 hx6 hx7 hx8 hx9 h_1 h_2 h_3 h_4 h_5 h_6 h_7 h_8 h_9 h_20 h_16 h_21 h_24 h_36 h_32 h_37 h_17 h_18 h_19 h_33 h_34 h_35 h_40; omega) | omega) (by first | (clear ho hq0 hq1 hq2 hq3 hq4 hq5 hq6 hv1 hv2 hx0 hx1 hx2 hx3 hx5 hx6 hx7 hx8 hx9 h_1 h_2 h_3 h_4 h_5 h_6 h_7 h_8 h_9 h_20 h_21 h_24 h_36 h_37 h_17 h_18 h_19 h_33 h_34 h_35 h_40; omega) | omega) (Or.inr (Or.inl (by first | exact q_2c2c046ea h_37 h_40 | omega))) (by first | (clear ho hq0 hq1 hq2 hq3 hq4 hq5 hq6 hv1 hv2 hx0 hx1 hx2 hx3 hx4 hx6 hx7 hx8 hx9 h_1 h_2 h_3 h_4 h_5 h_6 h_7 h_8 h_9 h_20 h_16 h_21 h_24 h_36 h_32 h_37 h_17 h_18 h_19 h_33 h_34 h_35 h_40; omega) | omega) (by first | (clear ho hq0 hq1 hq2 hq3 hq4 hq5 hq6 hv1 hv2 hx0 hx1 hx2 hx3 hx4 hx5 hx8 hx9 h_1 h_2 h_3 h_4 h_5 h_6 h_7 h_8 h_9 h_20 h_16 h_21 h_24 h_36 h_32 h_37 h_17 h_18 h_19 h_33 h_34 h_35 h_40; omega) | omega) (fun h9 => absurd h9 (by omega))
      · refine v_ic_ne_f (t := 12) c_152_5 rfl (Decidable.not_not.mp h_40) (q_iconst c_152_8 (q_goto (t := 13) c_152_9 rfl (v_zret c_152_13 rfl (by decide) (bk_inl (v_if_eq_f (t := 92) c_184_77 rfl (by decide) (q_aload_n c_184_80 rfl (v_gr (t := 56) c_184_81 kf_8_59 rfl (nb_ rfl) rfl ?_)))))))
        refine q_iload_n c_184_84 rfl (q_iconst c_184_85 (v_iadd (v := v2 + 2) c_184_86 rfl (q_aload_n c_184_87 rfl ?_)))
        have kn_49 : Hid (c_12 41 34 = c2 41 34) := hF_14 41 34 (fun h => absurd h.2 (ni rfl))
        have kn_50 : Hid (c_29 41 34 = c2 41 34) := (hF_31 41 34 qn_14d4d2881).trans (hid kn_49)
        refine v_gi (z := 34) (v := c2 41 34) c_184_88 kf_8_284 rfl (nb_ rfl) rfl rfl ((up_n (by decide)).trans (hid kn_50)) (v_is c_184_91 rfl (by decide) (by decide) ⟨by first | exact rgp_l hv2.1 (by decide) | omega, by first | exact q_8d57aa4b2 hv2 | omega⟩ (q_vret rfl rfl ?_))
        have hI_51 := iw_41_7 (v := c2 41 7 - 1) hI_30 ⟨by first | (clear ho hq0 hq1 hq2 hq3 hq4 hq5 hq6 hv1 hv2 hx0 hx1 hx2 hx4 hx5 hx6 hx7 hx8 hx9 h_1 h_2 h_3 h_4 h_6 h_7 h_8 h_9 h_20 h_16 h_21 h_24 h_36 h_32 h_37 h_40 h_17 h_18 h_19 h_33 h_34 h_35; omega) | omega, by first | exact rgm_h h_6.2 (by decide) | omega⟩
        have kn_52 : Hid (c_12 56 v2 = c2 56 v2) := hF_14 56 v2 (fun h => absurd h.1 (nn rfl))
        have kn_53 : Hid (c_29 56 v2 = c2 56 v2) := (hF_31 56 v2 qn_01f0bccfb).trans (hid kn_52)
        have hI_54 := iw_again (n := v2) (v := c2 41 34) hI_51 (by omega) (by omega) (show (up c_29 41 7 (c2 41 7 - 1)) 56 v2 = 7 from (((up_c (nn rfl)).trans (hid kn_53))).trans (by omega)) (by omega)
        have h_55 : (up (up c_29 41 7 (c2 41 7 - 1)) 56 (v2 + 2) (c2 41 34)) 41 34 = c2 41 34 := ((up_c (nn rfl)).trans ((up_n (by decide)).trans (hid kn_50)))
        have h_56 : (up (up c_29 41 7 (c2 41 7 - 1)) 56 (v2 + 2) (c2 41 34)) 41 34 = c2 41 34 := ((up_c (nn rfl)).trans ((up_n (by decide)).trans (hid kn_50)))
        have h_57 : (up (up c_29 41 7 (c2 41 7 - 1)) 56 (v2 + 2) (c2 41 34)) 41 4 = c_29 41 4 := ((up_c (nn rfl)).trans (up_n (by decide)))
        have h_58 : (up (up c_29 41 7 (c2 41 7 - 1)) 56 (v2 + 2) (c2 41 34)) 41 5 = c_29 41 5 := ((up_c (nn rfl)).trans (up_n (by decide)))
        have h_59 : (up (up c_29 41 7 (c2 41 7 - 1)) 56 (v2 + 2) (c2 41 34)) 41 7 = c2 41 7 - 1 := ((up_c (nn rfl)).trans (up_e rfl))
        have hb9 : (up (up c_29 41 7 (c2 41 7 - 1)) 56 (v2 + 2) (c2 41 34)) 41 5 = c_29 41 5 := ((up_c (nn rfl)).trans (up_n (by decide)))
        have hn9 : (up (up c_29 41 7 (c2 41 7 - 1)) 56 (v2 + 2) (c2 41 34)) 41 34 = c2 41 34 := ((up_c (nn rfl)).trans ((up_n (by decide)).trans (hid kn_50)))
        exact K (up (up c_29 41 7 (c2 41 7 - 1)) 56 (v2 + 2) (c2 41 34)) hI_54 (fun a j hm => (up_b (Decidable.or_iff_not_imp_left.mpr (fun h1 h2 => hm (Or.inr (Or.inr (Or.inr (Or.inr (Or.inr ⟨Decidable.not_not.mp h1, (Int.le_trans (by clear hm; first | (clear ho hq0 hq1 hq2 hq3 hq4 hq5 hq6 hv1 hv2 hx0 hx1 hx2 hx3 hx4 hx5 hx6 hx8 hx9 h_1 h_2 h_3 h_4 h_5 h_6 h_7 h_8 h_9 h_20 h_16 h_21 h_24 h_36 h_32 h_37 h_40 h_17 h_18 h_19 h_33 h_34 h_35; omega) | omega) (Int.le_of_eq h2.symm))⟩)))))))).trans ((up_b (Decidable.or_iff_not_imp_left.mpr (fun h1 h2 => hm (Or.inr (Or.inr (Or.inr (Or.inl ⟨Decidable.not_not.mp h1, h2⟩))))))).trans ((hF_31 a j (qv_b6152c67a hm)).trans ((hF_14 a j (fun h => hm (Or.inl h))).trans (hF a j (fun q => q.elim (fun h => hm (Or.inl h)) (fun q => q.elim (fun h => hm (Or.inr (Or.inl h))) (fun q => q.elim (fun h => hm (Or.inr (Or.inr (Or.inl h)))) (fun q => q.elim (fun h => hm (Or.inr (Or.inr (Or.inr (Or.inl h))))) (fun q => q.elim (fun h => hm (Or.inr (Or.inr (Or.inr (Or.inr (Or.inl h)))))) (fun h => hm (Or.inr (Or.inr (Or.inr (Or.inr (Or.inr ⟨h.1, (Int.le_trans (by clear hm; first | exact q_e074ea49a | omega) h.2)⟩)))))))))))))))) (by first | (clear ho hq0 hq1 hq2 hq3 hq4 hq5 hq6 hv1 hv2 hx0 hx1 hx2 hx3 hx5 hx8 hx9 h_1 h_2 h_3 h_4 h_5 h_6 h_7 h_8 h_9 h_20 h_21 h_24 h_36 h_37 h_40 h_17 h_18 h_19 h_33 h_34 h_35; omega) | omega) (by first | (clear ho hq0 hq1 hq2 hq3 hq4 hq5 hq6 hv1 hv2 hx0 hx1 hx2 hx4 hx5 hx6 hx7 hx8 hx9 h_1 h_2 h_3 h_4 h_5 h_6 h_7 h_8 h_9 h_20 h_16 h_21 h_24 h_36 h_32 h_37 h_40 h_17 h_18 h_19 h_33 h_34 h_35; omega) | omega) (by first | (clear ho hq0 hq1 hq2 hq3 hq4 hq5 hq6 hv1 hv2 hx0 hx1 hx2 hx3 hx5 hx6 hx7 hx8 hx9 h_1 h_2 h_3 h_4 h_5 h_6 h_7 h_8 h_9 h_20 h_21 h_24 h_36 h_37 h_40 h_17 h_18 h_19 h_33 h_34 h_35; omega) | omega) (Or.inr (Or.inr ⟨by first | exact q_40b8b4b12 h_35 h_37 h_40 h_26 h_28 | omega, by first | (clear ho hq0 hq1 hq2 hq3 hq4 hq5 hq6 hv1 hv2 hx0 hx1 hx2 hx3 hx5 hx8 hx9 h_1 h_2 h_3 h_4 h_5 h_6 h_7 h_8 h_9 h_20 h_21 h_24 h_36 h_37 h_40 h_17 h_18 h_19 h_33 h_34 h_35; omega) | omega⟩)) (by first | (clear ho hq0 hq1 hq2 hq3 hq4 hq5 hq6 hv1 hv2 hx0 hx1 hx2 hx3 hx4 hx6 hx7 hx8 hx9 h_1 h_2 h_3 h_4 h_5 h_6 h_7 h_8 h_9 h_20 h_16 h_21 h_24 h_36 h_32 h_37 h_40 h_17 h_18 h_19 h_33 h_34 h_35; omega) | omega) (by first | (clear ho hq0 hq1 hq2 hq3 hq4 hq5 hq6 hv1 hv2 hx0 hx1 hx2 hx3 hx4 hx5 hx8 hx9 h_1 h_2 h_3 h_4 h_5 h_6 h_7 h_8 h_9 h_20 h_16 h_21 h_24 h_36 h_32 h_37 h_40 h_17 h_18 h_19 h_33 h_34 h_35; omega) | omega) (fun h9 => ap_end (lo := v2) (c := c2) (hi := c2 41 34) hx10 (by omega) (by omega) (by omega) (by rw [show (up (up c_29 41 7 (c2 41 7 - 1)) 56 (v2 + 2) (c2 41 34)) 56 (v2 + 2) = c2 41 34 from up_e rfl]; omega) (fun j h1 h2 => (up_n (by omega)).trans ((up_c (nn rfl)).trans ((hF_31 56 j qn_01f0bccfb).trans (hF_14 56 j (fun h => absurd h.1 (nn rfl)))))))
    · refine v_ic_eq_f (t := 57) c_184_47 rfl ⟨h_24, ⟨hy_15.1, hy_15.2⟩, by decide, by decide⟩ (q_aload_n c_184_50 rfl ?_)
      have kn_60 : Hid (c_12 41 5 = c2 41 5) := hF_14 41 5 (fun h => absurd h.2 (ni rfl))
      have h_61 : c_12 41 5 = c2 41 5 := (hid kn_60)
      have kn_62 : Hid (c_12 41 3 = c 41 3) := (hF_14 41 3 (fun h => absurd h.2 (ni rfl))).trans (hid kn_10)
      have h_63 : c_12 41 3 = c 41 3 := (hid kn_62)
      have kn_64 : Hid (c_12 41 34 = c2 41 34) := hF_14 41 34 (fun h => absurd h.2 (ni rfl))
      have h_65 : c_12 41 34 = c2 41 34 := (hid kn_64)
      have kn_66 : Hid (c_12 41 7 = c2 41 7) := hF_14 41 7 (fun h => absurd h.2 (ni rfl))
      have h_67 : c_12 41 7 = c2 41 7 := (hid kn_66)
      have h_68 : c_12 41 34 = c2 41 34 := (hid kn_64)
      refine v_cv c_184_51 km_8_305 rfl rfl (nb_ rfl) ⟨⟨rfl, rfl⟩, nb_ rfl, rfl⟩ (nb_ rfl) (nb_ rfl) (H185 _ _ _ (by omega) (by omega) hI_13 (by omega) (by omega) (by omega) (by omega) (by omega) (by omega) (fun c_69 hI_70 hF_71 h_72 h_73 h_74 h_75 h_76 h_77 hA_78 => (bk_inl ?_)))
      have h_79 := ir_41_4 hI_70
      have h_80 := ir_41_7 hI_70
      have h_81 := ir_41_34 hI_70
      have h_82 := ir_41_5 hI_70
      refine q_goto (t := 34) c_184_54 rfl (q_aload_n c_184_34 rfl (v_cv c_184_35 km_8_131 rfl rfl (nb_ rfl) ⟨⟨rfl, rfl⟩, nb_ rfl, rfl⟩ (nb_ rfl) (nb_ rfl) (q_aload_n c_152_0 rfl (v_gi (z := 5) (v := c_69 41 5) c_152_1 kf_8_102 rfl (nb_ rfl) rfl rfl rfl (q_iconst c_152_4 ?_)))))
      by_cases h_83 : c_69 41 5 ≠ (-1)
      · refine v_ic_ne_t (t := 12) c_152_5 rfl ⟨h_83, ⟨(Int.le_trans (by decide) h_82.1), (Int.le_trans h_82.2 (by decide))⟩, by decide, by decide⟩ (q_iconst c_152_12 (v_zret c_152_13 rfl (by decide) (bk_inl (v_if_eq_t (t := 57) c_184_38 rfl (by decide) (q_aload_n c_184_57 rfl (v_bip c_184_58 (by decide) ?_))))))
        have kn_84 : Hid (c_69 41 3 = c 41 3) := (hF_71 41 3 (fun q => q.elim (fun h => absurd h.2 (ni rfl)) (fun q => q.elim (fun h => absurd h.2 (ni rfl)) (fun q => q.elim (fun h => absurd h.2 (ni rfl)) (fun q => q.elim (fun h => absurd h.2 (ni rfl)) (fun q => q.elim (fun h => absurd h.2 (ni rfl)) (fun h => absurd h.1 (nn rfl)))))))).trans (hid kn_62)
        have h_85 : c_69 41 3 = c 41 3 := (hid kn_84)
        refine v_cv c_184_60 km_8_229 rfl rfl (nb_ rfl) ⟨⟨rfl, rfl⟩, nb_ rfl, rfl⟩ (nb_ rfl) (nb_ rfl) (s_161 (a1 := 93) hI_70 (show 1 ≤ 93 ∧ 93 ≤ 255 from ⟨by decide, by decide⟩) (fun c_86 hI_87 hF_88 h_89 h_90 h_91 h_92 => (bk_inl ?_)))
        have h_93 := ir_41_4 hI_87
        have h_94 := ir_41_5 hI_87
        refine q_aload_n c_184_63 rfl (q_dup c_184_64 rfl ?_)
        have kn_95 : Hid (c_86 41 7 = c_69 41 7) := hF_88 41 7 qn_fb1117a24
        refine v_gi (z := 7) (v := c_69 41 7) c_184_65 kf_8_142 rfl (nb_ rfl) rfl rfl (hid kn_95) (q_iconst c_184_68 (v_isub (v := c_69 41 7 - 1) c_184_69 rfl (v_pi (z := 7) c_184_70 kf_8_142 rfl (nb_ rfl) rfl rfl rfl (by decide) (q_aload_n c_184_73 rfl (v_cv c_184_74 km_8_131 rfl rfl (nb_ rfl) ⟨⟨rfl, rfl⟩, nb_ rfl, rfl⟩ (nb_ rfl) (nb_ rfl) (q_aload_n c_152_0 rfl (v_gi (z := 5) (v := c_86 41 5) c_152_1 kf_8_102 rfl (nb_ rfl) rfl rfl (up_n (by decide)) ?_)))))))
        refine q_iconst c_152_4 (v_ic_ne_t (t := 12) c_152_5 rfl ⟨by first | exact q_9ee567b18 h_83 h_91 | omega, ⟨(Int.le_trans (by decide) h_94.1), (Int.le_trans h_94.2 (by decide))⟩, by decide, by decide⟩ (q_iconst c_152_12 (v_zret c_152_13 rfl (by decide) (bk_inl (v_if_eq_t (t := 92) c_184_77 rfl (by decide) (q_vret rfl rfl ?_))))))
        have hI_96 := iw_41_7 (v := c_69 41 7 - 1) hI_87 ⟨by first | (clear ho hq0 hq1 hq2 hq3 hq4 hq5 hq6 hv1 hv2 hx0 hx1 hx2 hx4 hx5 hx6 hx7 hx8 hx9 h_1 h_2 h_3 h_4 h_6 h_7 h_8 h_9 h_20 h_16 h_21 h_79 h_72 h_80 h_81 h_74 h_82 h_76 h_77 h_93 h_89 h_94 h_17 h_18 h_19 h_24 h_75 h_83 h_90 h_91 h_92; omega) | omega, by first | exact rgm_h h_80.2 (by decide) | omega⟩
        have kn_97 : Hid (c_86 41 34 = c_69 41 34) := hF_88 41 34 qn_14d4d2881
        have h_98 : (up c_86 41 7 (c_69 41 7 - 1)) 41 34 = c_69 41 34 := ((up_n (by decide)).trans (hid kn_97))
        have h_99 : (up c_86 41 7 (c_69 41 7 - 1)) 41 34 = c_69 41 34 := ((up_n (by decide)).trans (hid kn_97))
        have h_100 : (up c_86 41 7 (c_69 41 7 - 1)) 41 4 = c_86 41 4 := (up_n (by decide))
        have h_101 : (up c_86 41 7 (c_69 41 7 - 1)) 41 5 = c_86 41 5 := (up_n (by decide))
        have h_102 : (up c_86 41 7 (c_69 41 7 - 1)) 41 7 = c_69 41 7 - 1 := (up_e rfl)
        have hb9 : (up c_86 41 7 (c_69 41 7 - 1)) 41 5 = c_86 41 5 := (up_n (by decide))
        exact K (up c_86 41 7 (c_69 41 7 - 1)) hI_96 (fun a j hm => (up_b (Decidable.or_iff_not_imp_left.mpr (fun h1 h2 => hm (Or.inr (Or.inr (Or.inr (Or.inl ⟨Decidable.not_not.mp h1, h2⟩))))))).trans ((hF_88 a j (qv_b6152c67a hm)).trans ((hF_71 a j (fun q => q.elim (fun h => hm (Or.inl h)) (fun q => q.elim (fun h => hm (Or.inr (Or.inl h))) (fun q => q.elim (fun h => hm (Or.inr (Or.inr (Or.inl h)))) (fun q => q.elim (fun h => hm (Or.inr (Or.inr (Or.inr (Or.inl h))))) (fun q => q.elim (fun h => hm (Or.inr (Or.inr (Or.inr (Or.inr (Or.inl h)))))) (fun h => hm (Or.inr (Or.inr (Or.inr (Or.inr (Or.inr ⟨h.1, (Int.le_trans (by clear hm; first | (clear ho hq0 hq1 hq2 hq3 hq4 hq5 hq6 hv1 hv2 hx0 hx1 hx2 hx3 hx4 hx5 hx8 hx9 h_1 h_2 h_3 h_4 h_5 h_6 h_7 h_8 h_9 h_20 h_16 h_21 h_79 h_72 h_80 h_73 h_81 h_74 h_82 h_76 h_77 h_93 h_89 h_94 h_17 h_18 h_19 h_24 h_75 h_83 h_90 h_91 h_92; omega) | omega) h.2)⟩)))))))))))).trans ((hF_14 a j (fun h => hm (Or.inl h))).trans (hF a j (fun q => q.elim (fun h => hm (Or.inl h)) (fun q => q.elim (fun h => hm (Or.inr (Or.inl h))) (fun q => q.elim (fun h => hm (Or.inr (Or.inr (Or.inl h)))) (fun q => q.elim (fun h => hm (Or.inr (Or.inr (Or.inr (Or.inl h))))) (fun q => q.elim (fun h => hm (Or.inr (Or.inr (Or.inr (Or.inr (Or.inl h)))))) (fun h => hm (Or.inr (Or.inr (Or.inr (Or.inr (Or.inr ⟨h.1, (Int.le_trans (by clear hm; first | exact q_e074ea49a | omega) h.2)⟩)))))))))))))))) (by first | (clear ho hq0 hq1 hq2 hq3 hq4 hq5 hq6 hv1 hv2 hx0 hx1 hx2 hx3 hx5 hx8 hx9 h_1 h_2 h_3 h_4 h_5 h_6 h_7 h_8 h_9 h_20 h_21 h_79 h_72 h_80 h_73 h_81 h_82 h_76 h_93 h_94 h_17 h_18 h_19 h_24 h_75 h_83 h_90 h_91 h_92; omega) | omega) (by first | (clear ho hq0 hq1 hq2 hq3 hq4 hq5 hq6 hv1 hv2 hx0 hx1 hx2 hx4 hx5 hx6 hx7 hx8 hx9 h_1 h_2 h_3 h_4 h_5 h_6 h_7 h_8 h_9 h_20 h_16 h_21 h_79 h_72 h_80 h_81 h_74 h_82 h_76 h_77 h_93 h_89 h_94 h_17 h_18 h_19 h_24 h_75 h_83 h_90 h_91 h_92; omega) | omega) (by first | (clear ho hq0 hq1 hq2 hq3 hq4 hq5 hq6 hv1 hv2 hx0 hx1 hx2 hx3 hx5 hx6 hx7 hx8 hx9 h_1 h_2 h_3 h_4 h_5 h_6 h_7 h_8 h_9 h_20 h_21 h_79 h_72 h_80 h_73 h_81 h_82 h_76 h_77 h_93 h_94 h_17 h_18 h_19 h_24 h_75 h_83 h_90 h_91 h_92; omega) | omega) (Or.inr (Or.inl (by first | exact q_3c458df8b h_83 h_91 h_94 | omega))) (by first | exact q_f9c88a064 h_76 | omega) (by first | (clear ho hq0 hq1 hq2 hq3 hq4 hq5 hq6 hv1 hv2 hx0 hx1 hx2 hx3 hx4 hx5 hx8 hx9 h_1 h_2 h_3 h_4 h_5 h_6 h_7 h_8 h_9 h_20 h_16 h_21 h_79 h_72 h_80 h_73 h_81 h_74 h_82 h_76 h_93 h_89 h_94 h_17 h_18 h_19 h_24 h_75 h_83 h_90 h_91 h_92; omega) | omega) (fun h9 => absurd h9 (by omega))
      · refine v_ic_ne_f (t := 12) c_152_5 rfl (Decidable.not_not.mp h_83) (q_iconst c_152_8 (q_goto (t := 13) c_152_9 rfl (v_zret c_152_13 rfl (by decide) (bk_inl (v_if_eq_f (t := 57) c_184_38 rfl (by decide) (Wp_ls [(0, .ref 41), (1, vi v1), (2, vi v2)] (lsub_cons rfl (lsub_cons rfl (lsub_cons rfl lsub_nil))) ?_))))))
        have kn_103 : Hid (c_12 56 v2 = c2 56 v2) := hF_14 56 v2 (fun h => absurd h.1 (nn rfl))
        have kn_104 : Hid (c_69 56 v2 = c2 56 v2) := (hF_71 56 v2 (fun q => q.elim (fun h => absurd h.1 (nn rfl)) (fun q => q.elim (fun h => absurd h.1 (nn rfl)) (fun q => q.elim (fun h => absurd h.1 (nn rfl)) (fun q => q.elim (fun h => absurd h.1 (nn rfl)) (fun q => q.elim (fun h => absurd h.1 (nn rfl)) (fun h => absurd h.2 (nge (by first | (clear ho hq0 hq1 hq2 hq3 hq4 hq5 hq6 hv1 hv2 hx0 hx1 hx2 hx3 hx4 hx5 hx7 hx8 hx9 h_1 h_2 h_3 h_4 h_5 h_6 h_7 h_8 h_9 h_20 h_16 h_21 h_79 h_72 h_80 h_73 h_81 h_74 h_82 h_76 h_77 h_83 h_17 h_18 h_19 h_24 h_75; omega) | omega))))))))).trans (hid kn_103)
        have h_105 : c_69 56 v2 = c2 56 v2 := (hid kn_104)
        have h_106 : c_69 41 34 = c_69 41 34 := rfl
        have h_107 : c_12 41 34 = c2 41 34 := (hid kn_64)
        exact ih c_69 v1 v2 hI_70 (fun a j hm => (hF_71 a j (fun q => q.elim (fun h => hm (Or.inl h)) (fun q => q.elim (fun h => hm (Or.inr (Or.inl h))) (fun q => q.elim (fun h => hm (Or.inr (Or.inr (Or.inl h)))) (fun q => q.elim (fun h => hm (Or.inr (Or.inr (Or.inr (Or.inl h))))) (fun q => q.elim (fun h => hm (Or.inr (Or.inr (Or.inr (Or.inr (Or.inl h)))))) (fun h => hm (Or.inr (Or.inr (Or.inr (Or.inr (Or.inr ⟨h.1, (Int.le_trans (by clear hm; first | (clear ho hq0 hq1 hq2 hq3 hq4 hq5 hq6 hv1 hv2 hx0 hx1 hx2 hx3 hx4 hx5 hx8 hx9 h_1 h_2 h_3 h_4 h_5 h_6 h_7 h_8 h_9 h_20 h_16 h_21 h_79 h_72 h_80 h_73 h_81 h_74 h_82 h_76 h_77 h_83 h_17 h_18 h_19 h_24 h_75; omega) | omega) h.2)⟩)))))))))))).trans ((hF_14 a j (fun h => hm (Or.inl h))).trans (hF a j (fun q => q.elim (fun h => hm (Or.inl h)) (fun q => q.elim (fun h => hm (Or.inr (Or.inl h))) (fun q => q.elim (fun h => hm (Or.inr (Or.inr (Or.inl h)))) (fun q => q.elim (fun h => hm (Or.inr (Or.inr (Or.inr (Or.inl h))))) (fun q => q.elim (fun h => hm (Or.inr (Or.inr (Or.inr (Or.inr (Or.inl h)))))) (fun h => hm (Or.inr (Or.inr (Or.inr (Or.inr (Or.inr ⟨h.1, (Int.le_trans (by clear hm; first | exact q_e074ea49a | omega) h.2)⟩)))))))))))))) hv1 hv2 (by first | exact q_65c5ff97d h_82 h_83 | omega) (by first | exact q_76b49cfc4 h_75 h_82 h_83 h_63 | omega) (by first | (clear ho hq0 hq1 hq2 hq3 hq4 hq5 hq6 hv1 hv2 hx0 hx1 hx2 hx3 hx5 hx8 hx9 h_1 h_2 h_3 h_4 h_5 h_6 h_7 h_8 h_9 h_20 h_21 h_79 h_72 h_80 h_73 h_81 h_82 h_76 h_83 h_17 h_18 h_19 h_24 h_75; omega) | omega) ⟨by first | (clear ho hq0 hq1 hq2 hq3 hq4 hq5 hq6 hv1 hv2 hx0 hx1 hx2 hx4 hx5 hx6 hx7 hx8 hx9 h_1 h_2 h_3 h_4 h_5 h_6 h_7 h_8 h_9 h_20 h_16 h_21 h_79 h_72 h_80 h_81 h_74 h_82 h_76 h_77 h_83 h_17 h_18 h_19 h_24 h_75; omega) | omega, by first | (clear ho hq0 hq1 hq2 hq3 hq4 hq5 hq6 hv1 hv2 hx0 hx1 hx2 hx4 hx5 hx6 hx7 hx8 hx9 h_1 h_2 h_3 h_4 h_5 h_6 h_7 h_8 h_9 h_20 h_16 h_21 h_79 h_72 h_80 h_81 h_74 h_82 h_76 h_77 h_83 h_17 h_18 h_19 h_24 h_75; omega) | omega⟩ (by first | (clear ho hq0 hq1 hq2 hq3 hq4 hq5 hq6 hv1 hv2 hx0 hx1 hx2 hx3 hx5 hx6 hx7 hx8 hx9 h_1 h_2 h_3 h_4 h_5 h_6 h_7 h_8 h_9 h_20 h_21 h_79 h_72 h_80 h_73 h_81 h_82 h_76 h_77 h_83 h_17 h_18 h_19 h_24 h_75; omega) | omega) (by first | exact q_f9c88a064 h_76 | omega) (by first | (clear ho hq0 hq1 hq2 hq3 hq4 hq5 hq6 hv1 hv2 hx0 hx1 hx2 hx3 hx4 hx5 hx7 hx8 hx9 h_1 h_2 h_3 h_4 h_5 h_6 h_7 h_8 h_9 h_20 h_16 h_21 h_79 h_72 h_80 h_73 h_81 h_74 h_82 h_76 h_83 h_17 h_18 h_19 h_24 h_75; omega) | omega) (by first | (clear ho hq0 hq1 hq2 hq3 hq4 hq5 hq6 hv1 hv2 hx0 hx1 hx2 hx3 hx4 hx5 hx6 hx8 hx9 h_1 h_2 h_3 h_4 h_5 h_6 h_7 h_8 h_9 h_20 h_16 h_21 h_79 h_72 h_80 h_73 h_81 h_74 h_82 h_76 h_77 h_83 h_17 h_18 h_19 h_24 h_75; omega) | omega) (by first | (clear ho hq0 hq1 hq2 hq3 hq4 hq5 hq6 hv1 hv2 hx0 hx1 hx2 hx3 hx4 hx5 hx6 hx7 hx9 h_1 h_2 h_3 h_4 h_5 h_6 h_7 h_8 h_9 h_20 h_16 h_21 h_79 h_72 h_80 h_73 h_81 h_74 h_82 h_76 h_77 h_83 h_17 h_18 h_19 h_24 h_75; omega) | omega) (by first | (clear ho hq0 hq1 hq2 hq3 hq4 hq5 hq6 hv1 hv2 hx0 hx1 hx2 hx3 hx5 hx8 hx9 h_1 h_2 h_3 h_4 h_5 h_6 h_7 h_8 h_9 h_20 h_21 h_79 h_72 h_80 h_73 h_81 h_82 h_76 h_83 h_17 h_18 h_19 h_24 h_75; omega) | omega) (ap_join (ap_fr (c2 := c_69) hx10 (by omega) rfl rfl (fun j h1 h2 => (hF_71 56 j (by omega)).trans (hF_14 56 j (fun h => absurd h.1 (nn rfl))))) (show c_12 41 34 = c2 41 34 from by omega) (hA_78 (by omega))) (by omega)
set_option maxRecDepth 100000 in
set_option maxHeartbeats 4000000 in
theorem s_184 {sc : List Int32} {e : Int} {d u P Q : Nat} {c : ME} {o : Int} {Z : AR → Prop} (hI : Iv u e P Q c) (ho : 0 ≤ o ∧ o ≤ 6) (hq0 : (c 41 5 = (-1))) (hq1 : (c 41 4 ≤ c 41 3)) (hq2 : (c 41 3 ≤ 150)) (hq3 : (3 * c 41 34 ≤ 5 * c 41 4)) (hq4 : (((c 41 34) % 5) = 0)) (hq5 : (c 41 7 = o)) (hq6 : (c 41 4 ≤ c 41 3 - 1)) (H185 : ∀ (d9 : Nat) (c : ME) (Z : AR → Prop), d ≤ d9 → o + 1 ≤ 6 → Iv u e P Q c → ((c 41 5 = (-1))) → ((c 41 4 ≤ c 41 3)) → ((c 41 3 ≤ 150)) → ((3 * c 41 34 ≤ 5 * c 41 4)) → ((((c 41 34) % 5) = 0)) → (c 41 7 = o + 1) → (∀ c2 : ME, Iv u e P Q c2 → (∀ (a : Nat) (j : Int), ¬ ((a = 41 ∧ j = 4) ∨ (a = 41 ∧ j = 5) ∨ (a = 41 ∧ j = 6) ∨ (a = 41 ∧ j = 7) ∨ (a = 41 ∧ j = 34) ∨ (a = 56 ∧ j ≥ c 41 34)) → c2 a j = c a j) → ((c2 41 4 ≥ c 41 4)) → ((c2 41 7 = c 41 7)) → ((5 * c 41 4 + 3 * c2 41 34 ≤ 3 * c 41 34 + 5 * c2 41 4)) → ((c2 41 5 < (-1)) ∨ (c2 41 5 > (-1)) ∨ (c2 41 4 ≤ c 41 3 ∧ c2 41 4 > c 41 4)) → ((((c2 41 34) % 5) = 0)) → ((c2 41 34 ≥ c 41 34)) → (c2 41 5 = -1 → Ap c2 56 (c 41 34) (c2 41 34)) → Z (.inl none, Wd P Q P P c2, 0, 0)) → Wp sc (d9 + 12) 185 0 [(0, .ref 41)] [] (Wd P Q P P c) 0 0 Z) (K : ∀ (c2 : ME), Iv u e P Q c2 → (∀ (a : Nat) (j : Int), ¬ ((a = 41 ∧ j = 4) ∨ (a = 41 ∧ j = 5) ∨ (a = 41 ∧ j = 6) ∨ (a = 41 ∧ j = 7) ∨ (a = 41 ∧ j = 34) ∨ (a = 56 ∧ j ≥ c 41 34)) → c2 a j = c a j) → ((c2 41 4 ≥ c 41 4)) → ((c2 41 7 = c 41 7)) → ((5 * c 41 4 + 3 * c2 41 34 ≤ 3 * c 41 34 + 5 * c2 41 4)) → ((c2 41 5 < (-1)) ∨ (c2 41 5 > (-1)) ∨ (c2 41 4 ≤ c 41 3 ∧ c2 41 4 > c 41 4)) → ((((c2 41 34) % 5) = 0)) → ((c2 41 34 ≥ c 41 34)) → (c2 41 5 = -1 → Ap c2 56 (c 41 34) (c2 41 34)) → Z (.inl (none), Wd P Q P P c2, 0, 0)) : Wp sc (d + 13) 184 0 [(0, .ref 41)] [] (Wd P Q P P c) 0 0 Z := by
  have hP := iv_P hI
  have hQ := iv_Q hI
  have h_109 := ir_41_5 hI
  have h_110 := ir_41_3 hI
  have h_111 := ir_41_4 hI
  have h_112 := ir_41_34 hI
  have h_113 := ir_41_7 hI
  refine q_aload_n c_184_0 rfl (q_iconst c_184_1 (v_cv c_184_2 km_8_248 rfl rfl (nb_ rfl) ⟨⟨rfl, rfl⟩, nb_ rfl, rfl⟩ (nb_ rfl) (nb_ rfl) (s_171 (a1 := 5) hI (show 1 ≤ 5 ∧ 5 ≤ 5 from ⟨by decide, by decide⟩) (by first | exact q_669679922 ho hq5 | omega) (by first | exact q_f3b097ab5 hq2 hq6 | omega) (fun c_114 hI_115 hF_116 h_117 h_118 h_119 h_120 => (bk_inl ?_)))))
  have h_121 := ir_41_4 hI_115
  have h_122 := ir_41_7 hI_115
  have h_123 := ir_41_5 hI_115
  refine q_aload_n c_184_5 rfl (q_iconst c_184_6 (v_bip c_184_7 (by decide) ?_))
  have kn_124 : Hid (c_114 41 3 = c 41 3) := hF_116 41 3 qn_e8a085a5c
  have h_125 : c_114 41 3 = c 41 3 := (hid kn_124)
  refine v_cv c_184_9 km_8_199 rfl rfl (nb_ rfl) ⟨⟨rfl, rfl⟩, nb_ rfl, rfl⟩ (nb_ rfl) (nb_ rfl) (s_160 (a1 := 0) (a2 := 40) hI_115 (show 0 ≤ 0 ∧ 0 ≤ 1 from ⟨by decide, by decide⟩) (show (-1) ≤ 40 ∧ 40 ≤ 9999 from ⟨by decide, by decide⟩) (fun c_126 y_129 hI_127 hF_128 hy_129 h_130 h_131 h_132 h_133 h_134 => (bk_inl ?_)))
  have h_135 := ir_41_4 hI_127
  have h_136 := ir_41_5 hI_127
  refine q_istore_n c_184_12 (nb_ rfl) (q_aload_n c_184_13 rfl (v_bip c_184_14 (by decide) ?_))
  have kn_137 : Hid (c_126 41 3 = c 41 3) := (hF_128 41 3 qn_97fd72088).trans (hid kn_124)
  have h_138 : c_126 41 3 = c 41 3 := (hid kn_137)
  refine v_cv c_184_16 km_8_229 rfl rfl (nb_ rfl) ⟨⟨rfl, rfl⟩, nb_ rfl, rfl⟩ (nb_ rfl) (nb_ rfl) (s_161 (a1 := 91) hI_127 (show 1 ≤ 91 ∧ 91 ≤ 255 from ⟨by decide, by decide⟩) (fun c_139 hI_140 hF_141 h_142 h_143 h_144 h_145 => (bk_inl ?_)))
  have h_146 := ir_41_4 hI_140
  have h_147 := ir_41_5 hI_140
  refine q_aload_n c_184_19 rfl ?_
  have kn_148 : Hid (c_114 41 34 = c 41 34) := hF_116 41 34 qn_62c325fba
  have kn_149 : Hid (c_126 41 34 = c 41 34) := (hF_128 41 34 qn_14d4d2881).trans (hid kn_148)
  have kn_150 : Hid (c_139 41 34 = c 41 34) := (hF_141 41 34 qn_14d4d2881).trans (hid kn_149)
  refine v_gi (z := 34) (v := c 41 34) c_184_20 kf_8_284 rfl (nb_ rfl) rfl rfl (hid kn_150) (q_istore_n c_184_23 (nb_ rfl) (q_aload_n c_184_24 rfl (v_bip c_184_25 (by decide) (q_iload_n c_184_27 rfl (q_iconst c_184_28 (q_iconst c_184_29 (q_iconst c_184_30 ?_)))))))
  have h_151 : c_139 41 34 = c 41 34 := (hid kn_150)
  have h_152 : c_139 41 34 = c 41 34 := (hid kn_150)
  refine v_cv c_184_31 km_8_301 rfl rfl (nb_ rfl) ⟨⟨rfl, rfl⟩, nb_ rfl, rfl⟩ (nb_ rfl) (nb_ rfl) (s_181 (a1 := 7) (a2 := y_129) (a3 := 0) (a4 := 0) (a5 := 0) hI_140 (show 0 ≤ 7 ∧ 7 ≤ 7 from ⟨by decide, by decide⟩) (show 0 ≤ y_129 ∧ y_129 ≤ 40 from ⟨hy_129.1, by first | exact q_6d11d81d2 h_132 | omega⟩) (show 0 ≤ 0 ∧ 0 ≤ 5 from ⟨by decide, by decide⟩) (show 0 ≤ 0 ∧ 0 ≤ 999 from ⟨by decide, by decide⟩) (show 0 ≤ 0 ∧ 0 ≤ 5 from ⟨by decide, by decide⟩) (by first | exact q_f9c88a064 hq4 | omega) (Or.inr (Or.inr (by first | (clear ho hq0 hq1 hq5 h_109 h_110 h_111 h_112 h_113 h_121 h_117 h_122 h_118 h_123 h_135 h_130 h_136 h_146 h_142 h_147 h_119 h_120 h_131 h_132 h_133 h_134 h_143 h_144 h_145; omega) | omega))) (Or.inl (by first | decide | omega)) (Or.inl (by first | decide | omega)) (Or.inl (by first | decide | omega)) (Or.inl (by first | decide | omega)) (Or.inl (by first | decide | omega)) (Or.inl (by first | decide | omega)) (Or.inr (by first | assumption | omega)) (fun c_153 hI_154 hF_155 h_156 h_157 h_158 => (bk_inl ?_)))
  have h_159 := ir_41_34 hI_154
  have h_160 : c_153 56 ((c_139 41 34)) = c_153 56 (c 41 34) := congrArg (c_153 56) (by first | assumption | exact Int.le_antisymm (by omega) (by omega))
  have h_161 := ir_56 hI_154 (c 41 34)
  refine q_aload_n c_184_34 rfl (v_cv c_184_35 km_8_131 rfl rfl (nb_ rfl) ⟨⟨rfl, rfl⟩, nb_ rfl, rfl⟩ (nb_ rfl) (nb_ rfl) (q_aload_n c_152_0 rfl ?_))
  have kn_162 : Hid (c_153 41 5 = c_139 41 5) := hF_155 41 5 (fun q => q.elim (fun h => absurd h.2 (ni rfl)) (fun h => absurd h.1 (nn rfl)))
  refine v_gi (z := 5) (v := c_139 41 5) c_152_1 kf_8_102 rfl (nb_ rfl) rfl rfl (hid kn_162) (q_iconst c_152_4 ?_)
  by_cases h_163 : c_139 41 5 ≠ (-1)
  · refine v_ic_ne_t (t := 12) c_152_5 rfl ⟨h_163, ⟨(Int.le_trans (by decide) h_147.1), (Int.le_trans h_147.2 (by decide))⟩, by decide, by decide⟩ (q_iconst c_152_12 (v_zret c_152_13 rfl (by decide) (bk_inl (v_if_eq_t (t := 57) c_184_38 rfl (by decide) (q_aload_n c_184_57 rfl (v_bip c_184_58 (by decide) ?_))))))
    have kn_164 : Hid (c_153 41 4 = c_139 41 4) := hF_155 41 4 (fun q => q.elim (fun h => absurd h.2 (ni rfl)) (fun h => absurd h.1 (nn rfl)))
    have h_165 : c_153 41 4 = c_139 41 4 := (hid kn_164)
    have kn_166 : Hid (c_139 41 3 = c 41 3) := (hF_141 41 3 qn_97fd72088).trans (hid kn_137)
    have kn_167 : Hid (c_153 41 3 = c 41 3) := (hF_155 41 3 (fun q => q.elim (fun h => absurd h.2 (ni rfl)) (fun h => absurd h.1 (nn rfl)))).trans (hid kn_166)
    have h_168 : c_153 41 3 = c 41 3 := (hid kn_167)
    have h_169 : c_153 41 5 = c_139 41 5 := (hid kn_162)
    refine v_cv c_184_60 km_8_229 rfl rfl (nb_ rfl) ⟨⟨rfl, rfl⟩, nb_ rfl, rfl⟩ (nb_ rfl) (nb_ rfl) (s_161 (a1 := 93) hI_154 (show 1 ≤ 93 ∧ 93 ≤ 255 from ⟨by decide, by decide⟩) (fun c_170 hI_171 hF_172 h_173 h_174 h_175 h_176 => (bk_inl ?_)))
    have h_177 := ir_41_4 hI_171
    have h_178 := ir_41_5 hI_171
    refine q_aload_n c_184_63 rfl (q_dup c_184_64 rfl ?_)
    have kn_179 : Hid (c_126 41 7 = c_114 41 7) := hF_128 41 7 qn_fb1117a24
    have kn_180 : Hid (c_139 41 7 = c_114 41 7) := (hF_141 41 7 qn_fb1117a24).trans (hid kn_179)
    have kn_181 : Hid (c_153 41 7 = c_114 41 7) := (hF_155 41 7 (fun q => q.elim (fun h => absurd h.2 (ni rfl)) (fun h => absurd h.1 (nn rfl)))).trans (hid kn_180)
    have kn_182 : Hid (c_170 41 7 = c_114 41 7) := (hF_172 41 7 qn_fb1117a24).trans (hid kn_181)
    refine v_gi (z := 7) (v := c_114 41 7) c_184_65 kf_8_142 rfl (nb_ rfl) rfl rfl (hid kn_182) (q_iconst c_184_68 (v_isub (v := c_114 41 7 - 1) c_184_69 rfl (v_pi (z := 7) c_184_70 kf_8_142 rfl (nb_ rfl) rfl rfl rfl (by decide) (q_aload_n c_184_73 rfl (v_cv c_184_74 km_8_131 rfl rfl (nb_ rfl) ⟨⟨rfl, rfl⟩, nb_ rfl, rfl⟩ (nb_ rfl) (nb_ rfl) (q_aload_n c_152_0 rfl (v_gi (z := 5) (v := c_170 41 5) c_152_1 kf_8_102 rfl (nb_ rfl) rfl rfl (up_n (by decide)) ?_)))))))
    refine q_iconst c_152_4 (v_ic_ne_t (t := 12) c_152_5 rfl ⟨by first | exact q_fc871f4a9 h_163 h_175 h_169 | omega, ⟨(Int.le_trans (by decide) h_178.1), (Int.le_trans h_178.2 (by decide))⟩, by decide, by decide⟩ (q_iconst c_152_12 (v_zret c_152_13 rfl (by decide) (bk_inl (v_if_eq_t (t := 92) c_184_77 rfl (by decide) (q_vret rfl rfl ?_))))))
    have hI_183 := iw_41_7 (v := c_114 41 7 - 1) hI_171 ⟨by first | exact q_35f921f70 h_113 h_118 | omega, by first | exact rgm_h h_122.2 (by decide) | omega⟩
    have kn_184 : Hid (c_170 41 34 = c_153 41 34) := hF_172 41 34 qn_14d4d2881
    have h_185 : (up c_170 41 7 (c_114 41 7 - 1)) 41 34 = c_153 41 34 := ((up_n (by decide)).trans (hid kn_184))
    have h_186 : (up c_170 41 7 (c_114 41 7 - 1)) 41 34 = c_153 41 34 := ((up_n (by decide)).trans (hid kn_184))
    have h_187 : (up c_170 41 7 (c_114 41 7 - 1)) 41 4 = c_170 41 4 := (up_n (by decide))
    have h_188 : (up c_170 41 7 (c_114 41 7 - 1)) 41 5 = c_170 41 5 := (up_n (by decide))
    have h_189 : (up c_170 41 7 (c_114 41 7 - 1)) 41 7 = c_114 41 7 - 1 := (up_e rfl)
    have hb9 : (up c_170 41 7 (c_114 41 7 - 1)) 41 5 = c_170 41 5 := (up_n (by decide))
    exact K (up c_170 41 7 (c_114 41 7 - 1)) hI_183 (fun a j hm => (up_b (Decidable.or_iff_not_imp_left.mpr (fun h1 h2 => hm (Or.inr (Or.inr (Or.inr (Or.inl ⟨Decidable.not_not.mp h1, h2⟩))))))).trans ((hF_172 a j (qv_b6152c67a hm)).trans ((hF_155 a j (fun q => q.elim (fun h => hm (Or.inr (Or.inr (Or.inr (Or.inr (Or.inl h)))))) (fun h => hm (Or.inr (Or.inr (Or.inr (Or.inr (Or.inr ⟨h.1, (Int.le_trans (by clear hm; first | exact q_e074ea49a | omega) h.2)⟩)))))))).trans ((hF_141 a j (qv_b6152c67a hm)).trans ((hF_128 a j (qv_b6152c67a hm)).trans (hF_116 a j (qv_121bccc17 hm))))))) (by first | exact q_824687670 h_117 h_130 h_142 h_173 h_165 | omega) (by first | exact q_65aaae687 h_118 | omega) (by first | exact q_2d1567f86 h_117 h_120 h_130 h_133 h_142 h_144 h_157 h_158 h_173 h_151 h_165 | omega) (Or.inr (Or.inl (by first | exact q_39d1415b2 h_163 h_175 h_178 h_169 | omega))) (by first | exact q_f9c88a064 h_156 | omega) (by first | exact q_8046a5716 h_157 h_158 h_151 | omega) (fun h9 => absurd h9 (by omega))
  · refine v_ic_ne_f (t := 12) c_152_5 rfl (Decidable.not_not.mp h_163) (q_iconst c_152_8 (q_goto (t := 13) c_152_9 rfl (v_zret c_152_13 rfl (by decide) (bk_inl (v_if_eq_f (t := 57) c_184_38 rfl (by decide) (Wp_ls [(0, .ref 41), (1, vi y_129), (2, vi (c 41 34))] (lsub_cons rfl (lsub_cons rfl (lsub_cons rfl lsub_nil))) ?_))))))
    have kn_190 : Hid (c_153 41 4 = c_139 41 4) := hF_155 41 4 (fun q => q.elim (fun h => absurd h.2 (ni rfl)) (fun h => absurd h.1 (nn rfl)))
    have h_191 : c_153 41 4 = c_139 41 4 := (hid kn_190)
    have h_192 : c_153 41 5 = c_139 41 5 := (hid kn_162)
    have kn_193 : Hid (c_126 41 7 = c_114 41 7) := hF_128 41 7 qn_fb1117a24
    have kn_194 : Hid (c_139 41 7 = c_114 41 7) := (hF_141 41 7 qn_fb1117a24).trans (hid kn_193)
    have kn_195 : Hid (c_153 41 7 = c_114 41 7) := (hF_155 41 7 (fun q => q.elim (fun h => absurd h.2 (ni rfl)) (fun h => absurd h.1 (nn rfl)))).trans (hid kn_194)
    have h_196 : c_153 41 7 = c_114 41 7 := (hid kn_195)
    have h_197 : c_153 41 34 = c_153 41 34 := rfl
    exact (s_184_l (sc := sc) (d := d) hI ho hq0 hq1 hq2 hq3 hq4 hq5 hq6 H185 K 1214) c_153 y_129 (c 41 34) hI_154 (fun a j hm => (hF_155 a j (fun q => q.elim (fun h => hm (Or.inr (Or.inr (Or.inr (Or.inr (Or.inl h)))))) (fun h => hm (Or.inr (Or.inr (Or.inr (Or.inr (Or.inr ⟨h.1, (Int.le_trans (by clear hm; first | exact q_e074ea49a | omega) h.2)⟩)))))))).trans ((hF_141 a j (qv_b6152c67a hm)).trans ((hF_128 a j (qv_b6152c67a hm)).trans (hF_116 a j (qv_121bccc17 hm))))) hy_129 ⟨h_112.1, by first | exact q_d3760c3a8 h_147 h_157 h_159 h_163 h_151 | omega⟩ (by first | exact q_65c5ff97d h_147 h_163 | omega) (by first | exact q_6c17673c2 h_145 h_147 h_163 h_138 | omega) (by first | exact q_3fb8a741c h_117 h_130 h_142 | omega) ⟨by first | exact q_b1a490af8 h_118 | omega, by first | exact q_ba09e3057 h_118 h_120 h_133 h_145 h_163 h_138 | omega⟩ (by first | exact q_cd90f784c h_120 h_130 h_133 h_145 h_157 h_163 h_138 h_151 | omega) (by first | exact q_f9c88a064 h_156 | omega) (by first | exact q_cff8bd31e h_147 h_157 h_163 h_151 | omega) (by first | assumption | omega) (by first | exact q_35b672115 h_147 h_157 h_163 h_151 | omega) (by first | exact q_2af7a65a9 h_117 h_130 h_145 h_147 h_163 h_138 | omega) (ap_nil (by omega)) (by omega)
end
section
/-! ===== contracts 14 ===== -/
theorem q_35de64c77 {x0 : Int} (f0 : x0 = 1) : x0 < 4 := by omega
theorem q_e2571c9b4 {x0 : Int} (f0 : x0 = 1) : x0 = 1 := by omega
theorem q_457dde627 {x0 x1 : Int} (f0 : 0 ≤ x0 ∧ x0 ≤ 4) (f1 : (x1 = 0) ∨ (x1 ≥ 0 ∧ x1 ≤ x0 - 1)) : x1 ≤ 40 := by omega
theorem q_b3cc29c66 {x0 x1 : Int} (f0 : 0 ≤ x0 ∧ x0 ≤ 4) (f1 : (x1 = 0) ∨ (x1 ≥ 0 ∧ x1 ≤ x0 - 1)) : x1 ≤ 3 := by omega
theorem q_817913de4 {x0 : Int} (f0 : x0 = 1) : ¬ x0 = 7 := by omega
theorem q_aa606e377 {x0 x1 x2 x3 x4 x5 x6 x7 x8 : Int} (f0 : (x0 ≥ x1)) (f1 : (x2 ≥ x3)) (f2 : (x4 ≥ x0)) (f3 : (x5 ≥ x4)) (f4 : (x6 ≥ x5)) (f5 : (x7 ≥ x6)) (f6 : (x8 ≥ x7)) (f7 : x3 = x8) : x1 ≤ x2 := by omega
theorem q_dbb87eeb4 {x0 x1 x2 x3 x4 x5 x6 x7 x8 x9 x10 x11 x12 x13 x14 x15 x16 x17 x18 x19 x20 x21 x22 x23 : Int} (f0 : (x0 ≥ x1)) (f1 : (x2 < (-1)) ∨ (x2 > (-1)) ∨ (x3 = x4 + 5 ∧ x5 = x6)) (f2 : (x2 = (-1)) ∨ (x3 = x4)) (f3 : (x7 ≥ x8)) (f4 : (x9 ≥ x0)) (f5 : (x10 ≥ x9)) (f6 : (x11 < (-1)) ∨ (x11 > (-1)) ∨ (x10 > x9 ∧ x10 ≤ x12 ∧ x13 = (-1))) (f7 : (x14 ≥ x10)) (f8 : (x15 < (-1)) ∨ (x15 > (-1)) ∨ (x14 > x10 ∧ x14 ≤ x16 ∧ x11 = (-1))) (f9 : (x17 ≥ x14)) (f10 : (x18 < (-1)) ∨ (x18 > (-1)) ∨ (x17 > x14 ∧ x17 ≤ x19 ∧ x15 = (-1))) (f11 : (x20 ≥ x17)) (f12 : (x18 = (-1)) ∨ (x2 = x18)) (f13 : x4 = x21) (f14 : x8 = x20) (f15 : x12 = x22) (f16 : x13 = x23) (f17 : x16 = x22) (f18 : x19 = x22) : 5 * x1 + 3 * x3 ≤ 3 * x21 + 5 * x7 := by omega
theorem q_845f9d3ce {x0 x1 x2 x3 x4 x5 x6 x7 x8 x9 x10 x11 x12 x13 x14 x15 : Int} (f0 : (x0 ≤ x1) ∨ (x0 = x2)) (f1 : (x3 ≤ x4) ∨ (x3 = x5)) (f2 : (x6 ≤ x7) ∨ (x6 = x0)) (f3 : (x8 ≤ x9) ∨ (x8 = x6)) (f4 : (x10 ≤ x11) ∨ (x10 = x8)) (f5 : (x12 ≤ x13) ∨ (x12 = x10)) (f6 : (x14 ≤ x15) ∨ (x14 = x12)) (f7 : (x2 ≤ x1)) (f8 : x4 = x1) (f9 : x5 = x14) (f10 : x7 = x1) (f11 : x9 = x1) (f12 : x11 = x1) (f13 : x13 = x1) (f14 : x15 = x1) : x3 ≤ x1 := by omega
theorem q_1f022678a {x0 x1 x2 x3 x4 x5 : Int} (f0 : (x0 < (-1)) ∨ (x0 > (-1)) ∨ (x1 = x2 + 5 ∧ x3 = x4)) (f1 : (x0 = (-1)) ∨ (x1 = x2)) (f2 : x2 = x5) : x5 ≤ x1 := by omega
theorem q_82b471caa {x0 : Int} (f0 : x0 ≥ 4) : ¬ x0 = 1 := by omega
theorem q_1f6cc4008 {x0 : Int} (f0 : x0 ≥ 4) : ¬ x0 = 3 := by omega
theorem q_137895ac1 {x0 : Int} (f0 : x0 ≥ 4) : 0 ≤ x0 := by omega
theorem q_fa01b37a1 {x0 : Int} (f0 : x0 ≥ 4) : ¬ x0 = 0 := by omega
theorem q_0906e8e8d {x0 : Int} (f0 : x0 ≥ 4) : ¬ x0 = 2 := by omega
theorem q_c7a6670ed {x0 : Int} (f0 : x0 ≠ 4) (f1 : x0 ≥ 4) : ¬ x0 = 4 := by omega
theorem q_5b38c9290 {x0 x1 x2 x3 x4 x5 : Int} (f0 : (x0 ≥ x1)) (f1 : (x2 ≥ x3)) (f2 : (x4 ≥ x5)) (f3 : (x3 ≥ x0)) (f4 : x5 = x2) : x1 ≤ x4 := by omega
theorem q_4c1a6dd92 {x0 x1 x2 x3 x4 x5 x6 x7 x8 x9 : Int} (f0 : (x0 ≤ x1) ∨ (x0 = x2)) (f1 : (x3 ≤ x4) ∨ (x3 = x5)) (f2 : (x6 ≤ x7) ∨ (x6 = x8)) (f3 : (x5 ≤ x9) ∨ (x5 = x0)) (f4 : (x2 ≤ x1)) (f5 : x4 = x1) (f6 : x7 = x1) (f7 : x8 = x3) (f8 : x9 = x1) : x6 ≤ x1 := by omega
theorem q_56243d016 {x0 : Int} (f0 : x0 ≠ 0) : ¬ x0 = 0 := by omega
theorem q_073ee9b25 {x0 : Int} (f0 : ¬ (x0 ≥ 4)) (f1 : x0 ≠ 3) : ¬ x0 = 3 := by omega
theorem q_f6152d285 {x0 : Int} (f0 : ¬ (x0 ≥ 4)) : ¬ x0 = 4 := by omega
theorem q_71dc12fe2 {x0 : Int} (f0 : ¬ (x0 ≥ 4)) : ¬ x0 = 5 := by omega
theorem q_68ebfa386 {x0 : Int} (f0 : ¬ (x0 ≥ 4)) : ¬ x0 = 7 := by omega
theorem q_f9fea031a {x0 x1 x2 x3 x4 x5 x6 : Int} (f0 : (x0 ≥ x1)) (f1 : (x2 ≥ x3)) (f2 : (x4 ≥ x2)) (f3 : (x5 ≥ x6)) (f4 : (x3 ≥ x0)) (f5 : x6 = x4) : x1 ≤ x5 := by omega
theorem q_e42419428 {x0 x1 x2 x3 x4 x5 x6 x7 x8 x9 x10 x11 : Int} (f0 : (x0 ≤ x1) ∨ (x0 = x2)) (f1 : (x3 ≤ x4) ∨ (x3 = x5)) (f2 : (x6 ≤ x7) ∨ (x6 = x3)) (f3 : (x8 ≤ x9) ∨ (x8 = x10)) (f4 : (x5 ≤ x11) ∨ (x5 = x0)) (f5 : (x2 ≤ x1)) (f6 : x4 = x1) (f7 : x7 = x1) (f8 : x9 = x1) (f9 : x10 = x6) (f10 : x11 = x1) : x8 ≤ x1 := by omega
theorem q_e215efd56 {x0 : Int} (f0 : ¬ (x0 ≠ 3)) : ¬ x0 = 1 := by omega
theorem q_1d1177327 {x0 : Int} (f0 : ¬ (x0 ≠ 3)) : 0 ≤ x0 := by omega
theorem q_4abc9fb0a {x0 : Int} (f0 : (x0 = 0) ∨ (x0 ≥ 1 ∧ x0 ≤ 999)) : x0 ≤ 999 := by omega
theorem q_488511fb3 {x0 : Int} (f0 : ¬ (x0 ≠ 3)) : ¬ x0 = 0 := by omega
theorem q_81bf6df21 {x0 : Int} (f0 : ¬ (x0 ≠ 3)) : ¬ x0 = 2 := by omega
theorem q_b19110ff6 {x0 x1 x2 x3 x4 x5 x6 x7 : Int} (f0 : (x0 ≥ x1)) (f1 : (x2 ≥ x3)) (f2 : (x4 ≥ x2)) (f3 : (x5 ≥ x4)) (f4 : (x6 ≥ x7)) (f5 : (x3 ≥ x0)) (f6 : x7 = x5) : x1 ≤ x6 := by omega
theorem q_6a6ad27d8 {x0 x1 x2 x3 x4 x5 x6 x7 x8 x9 x10 x11 x12 x13 x14 x15 x16 x17 x18 x19 x20 x21 : Int} (f0 : (x0 ≥ x1)) (f1 : (x2 ≥ x3)) (f2 : (x4 < (-1)) ∨ (x4 > (-1)) ∨ (x2 > x3 ∧ x2 ≤ x5 ∧ x6 = (-1))) (f3 : (x7 ≥ x2)) (f4 : (x8 < (-1)) ∨ (x8 > (-1)) ∨ (x7 > x2 ∧ x7 ≤ x9 ∧ x4 = (-1))) (f5 : (x10 ≥ x7)) (f6 : (x11 < (-1)) ∨ (x11 > (-1)) ∨ (x10 > x7 ∧ x10 ≤ x12 ∧ x8 = (-1))) (f7 : (x11 < (-1)) ∨ (x11 > (-1)) ∨ (x13 = x14 + 5 ∧ x15 = x16)) (f8 : (x11 = (-1)) ∨ (x13 = x14)) (f9 : (x17 ≥ x18)) (f10 : (x3 ≥ x0)) (f11 : x5 = x19) (f12 : x6 = x20) (f13 : x9 = x19) (f14 : x12 = x19) (f15 : x14 = x21) (f16 : x18 = x10) : 5 * x1 + 3 * x13 ≤ 3 * x21 + 5 * x17 := by omega
theorem q_fb8025653 {x0 x1 x2 x3 x4 x5 x6 x7 x8 x9 x10 x11 x12 x13 : Int} (f0 : (x0 ≤ x1) ∨ (x0 = x2)) (f1 : (x3 ≤ x4) ∨ (x3 = x5)) (f2 : (x6 ≤ x7) ∨ (x6 = x3)) (f3 : (x8 ≤ x9) ∨ (x8 = x6)) (f4 : (x10 ≤ x11) ∨ (x10 = x12)) (f5 : (x5 ≤ x13) ∨ (x5 = x0)) (f6 : (x2 ≤ x1)) (f7 : x4 = x1) (f8 : x7 = x1) (f9 : x9 = x1) (f10 : x11 = x1) (f11 : x12 = x8) (f12 : x13 = x1) : x10 ≤ x1 := by omega
theorem q_f264c8061 {x0 : Int} (f0 : ¬ (x0 ≠ 4)) : 4 ≤ x0 := by omega
theorem q_275796c64 {x0 : Int} (f0 : ¬ (x0 ≠ 4)) : ¬ x0 = 1 := by omega
theorem q_2dbeaab3f {x0 : Int} (f0 : ¬ (x0 ≠ 4)) : ¬ x0 = 3 := by omega
theorem q_68da7af7f {x0 : Int} (f0 : ¬ (x0 ≠ 4)) : 0 ≤ x0 := by omega
theorem q_69e9f4ea1 {x0 : Int} (f0 : ¬ (x0 ≠ 4)) : ¬ x0 = 0 := by omega
theorem q_ae7ba78a4 {x0 : Int} (f0 : ¬ (x0 ≠ 4)) : ¬ x0 = 2 := by omega
theorem q_1b518e3e9 {x0 : Int} (f0 : ¬ (x0 ≠ 4)) : ¬ x0 = 5 := by omega
theorem q_61b06fbf7 {x0 : Int} (f0 : ¬ (x0 ≠ 4)) : ¬ x0 = 7 := by omega
theorem q_64c2af1c6 {x0 x1 x2 x3 x4 x5 : Int} (f0 : (x0 ≥ x1)) (f1 : (x2 ≥ x3)) (f2 : (x3 ≥ x0)) (f3 : (x4 ≥ x5)) (f4 : x5 = x2) : x1 ≤ x4 := by omega
theorem q_1cbdd7dc3 {x0 x1 x2 x3 x4 x5 x6 x7 x8 x9 : Int} (f0 : (x0 ≤ x1) ∨ (x0 = x2)) (f1 : (x3 ≤ x4) ∨ (x3 = x5)) (f2 : (x5 ≤ x6) ∨ (x5 = x0)) (f3 : (x7 ≤ x8) ∨ (x7 = x9)) (f4 : (x2 ≤ x1)) (f5 : x4 = x1) (f6 : x6 = x1) (f7 : x8 = x1) (f8 : x9 = x3) : x7 ≤ x1 := by omega
theorem q_326a9c436 {x0 : Int} (f0 : ¬ (x0 ≠ 0)) : x0 < 4 := by omega
theorem q_9c5620e1f {x0 : Int} (f0 : ¬ (x0 ≠ 0)) : ¬ x0 = 1 := by omega
theorem q_471b3f52b {x0 : Int} (f0 : ¬ (x0 ≠ 0)) : ¬ x0 = 3 := by omega
theorem q_c627fad14 {x0 : Int} (f0 : ¬ (x0 ≠ 0)) : 0 ≤ x0 := by omega
theorem q_43ee89330 {x0 : Int} (f0 : ¬ (x0 ≠ 0)) : ¬ x0 = 2 := by omega
theorem q_b7c71017b {x0 : Int} (f0 : ¬ (x0 ≠ 0)) : ¬ x0 = 4 := by omega
theorem q_563bbb240 {x0 : Int} (f0 : ¬ (x0 ≠ 0)) : ¬ x0 = 5 := by omega
theorem q_78f4a68c8 {x0 : Int} (f0 : ¬ (x0 ≠ 0)) : ¬ x0 = 7 := by omega
theorem q_04b113730 {x0 x1 x2 x3 x4 x5 x6 : Int} (f0 : (x0 ≥ x1)) (f1 : (x2 ≥ x0)) (f2 : (x3 ≥ x2)) (f3 : (x4 ≥ x3)) (f4 : (x5 ≥ x6)) (f5 : x6 = x4) : x1 ≤ x5 := by omega
theorem q_247a26009 {x0 x1 x2 x3 x4 x5 x6 x7 x8 x9 x10 x11 : Int} (f0 : (x0 ≤ x1) ∨ (x0 = x2)) (f1 : (x3 ≤ x4) ∨ (x3 = x0)) (f2 : (x5 ≤ x6) ∨ (x5 = x3)) (f3 : (x7 ≤ x8) ∨ (x7 = x5)) (f4 : (x9 ≤ x10) ∨ (x9 = x11)) (f5 : (x2 ≤ x1)) (f6 : x4 = x1) (f7 : x6 = x1) (f8 : x8 = x1) (f9 : x10 = x1) (f10 : x11 = x7) : x9 ≤ x1 := by omega
theorem q_8018c4608 {x0 : Int} (f0 : ¬ (x0 ≠ 6)) : 4 ≤ x0 := by omega
theorem q_39e4e74bc {x0 : Int} (f0 : ¬ (x0 ≠ 6)) : ¬ x0 = 1 := by omega
theorem q_080f350ec {x0 : Int} (f0 : ¬ (x0 ≠ 6)) : ¬ x0 = 3 := by omega
theorem q_aa17faf97 {x0 : Int} (f0 : ¬ (x0 ≠ 6)) : 0 ≤ x0 := by omega
theorem q_23505497d {x0 : Int} (f0 : ¬ (x0 ≠ 6)) : ¬ x0 = 0 := by omega
theorem q_671577633 {x0 : Int} (f0 : ¬ (x0 ≠ 6)) : ¬ x0 = 2 := by omega
theorem q_9ce06fa3c {x0 : Int} (f0 : ¬ (x0 ≠ 6)) : ¬ x0 = 4 := by omega
theorem q_5382f5b2b {x0 : Int} (f0 : ¬ (x0 ≠ 6)) : ¬ x0 = 5 := by omega
theorem q_34c6018dc {x0 : Int} (f0 : ¬ (x0 ≠ 6)) : ¬ x0 = 7 := by omega
theorem q_eaefcf06b {x0 x1 x2 x3 x4 : Int} (f0 : (x0 ≥ x1)) (f1 : (x2 ≥ x0)) (f2 : (x3 ≥ x4)) (f3 : x4 = x2) : x1 ≤ x3 := by omega
theorem q_578ccb610 {x0 x1 x2 x3 x4 x5 x6 x7 : Int} (f0 : (x0 ≤ x1) ∨ (x0 = x2)) (f1 : (x3 ≤ x4) ∨ (x3 = x0)) (f2 : (x5 ≤ x6) ∨ (x5 = x7)) (f3 : (x2 ≤ x1)) (f4 : x4 = x1) (f5 : x6 = x1) (f6 : x7 = x3) : x5 ≤ x1 := by omega
theorem q_385a9c048 {x0 x1 x2 : Int} (f0 : (x0 ≤ x1) ∨ (x0 = x2)) (f1 : (x2 ≤ x1)) : x0 ≤ x1 := by omega
theorem q_563501041 {x0 x1 x2 : Int} (f0 : (x0 ≥ x1)) (f1 : (3 * x2 ≤ 5 * x1)) : 3 * x2 ≤ 5 * x0 := by omega
theorem q_491caf385 {x0 x1 x2 x3 : Int} (f0 : (x0 = 0) ∨ (x1 < x2)) (f1 : (x3 < 0) ∨ (x0 > 1023)) (f2 : ¬ (x3 ≠ 7)) : x1 ≤ x2 - 1 := by omega
theorem q_3fc299aa4 {x0 x1 x2 x3 x4 x5 x6 : Int} (f0 : (x0 ≥ x1)) (f1 : (3 * x2 + 5 * x0 ≤ 5 * x3 + 3 * x4)) (f2 : (x2 ≥ x4)) (f3 : (x5 ≥ x3)) (f4 : x4 = x6) : x1 ≤ x5 := by omega
theorem q_bbf5f0e52 {x0 x1 x2 x3 x4 x5 x6 : Int} (f0 : (x0 ≥ x1)) (f1 : (3 * x2 + 5 * x0 ≤ 5 * x3 + 3 * x4)) (f2 : (x5 ≥ x3)) (f3 : x4 = x6) : 5 * x1 + 3 * x2 ≤ 3 * x6 + 5 * x5 := by omega
theorem qv_d128e927b {a : Nat} {j : Int} {t0 : Int} (hm : ¬ ((a = 41 ∧ j = 4) ∨ (a = 41 ∧ j = 5) ∨ (a = 41 ∧ j = 6) ∨ (a = 41 ∧ j = 7) ∨ (a = 41 ∧ j = 34) ∨ (a = 56 ∧ j ≥ t0))) : ¬ ((a = 41 ∧ j = 5) ∨ (a = 41 ∧ j = 6)) := (fun q => q.elim (fun h => hm (Or.inr (Or.inl h))) (fun h => hm (Or.inr (Or.inr (Or.inl h)))))
theorem q_a2672c344 {x0 x1 x2 x3 : Int} (f0 : (x0 ≥ x1)) (f1 : (x2 ≥ x3)) (f2 : x3 = x0) : x1 ≤ x2 := by omega
theorem q_961aa4817 {x0 x1 x2 x3 x4 : Int} (f0 : (x0 ≥ x1)) (f1 : (x2 ≥ x3)) (f2 : x3 = x0) : 3 * x4 + 5 * x1 ≤ 3 * x4 + 5 * x2 := by omega
theorem q_5af57fff9 {x0 x1 : Int} (f0 : (x0 ≠ (-1))) (f1 : (x0 = (-1)) ∨ (x1 = x0)) (f2 : (-1) ≤ x1 ∧ x1 ≤ 605) : (-1) < x1 := by omega
theorem c_185_0 : mLk 185 0 = some (.aload_n 0, 1) := rfl
theorem c_185_1 : mLk 185 1 = some (.invokevirtual 214, 3) := rfl
theorem c_185_4 : mLk 185 4 = some (.invokestatic 308, 3) := rfl
theorem c_185_7 : mLk 185 7 = some (.istore_n 1, 1) := rfl
theorem c_185_8 : mLk 185 8 = some (.iload_n 1, 1) := rfl
theorem c_185_9 : mLk 185 9 = some (.iconst (-1), 1) := rfl
theorem c_185_10 : mLk 185 10 = some (.if_icmp .ne 15, 3) := rfl
theorem c_185_25 : mLk 185 25 = some (.iload_n 1, 1) := rfl
theorem c_185_26 : mLk 185 26 = some (.bipush 7, 2) := rfl
theorem c_185_28 : mLk 185 28 = some (.if_icmp .ne 10, 3) := rfl
theorem c_185_38 : mLk 185 38 = some (.aload_n 0, 1) := rfl
theorem c_185_39 : mLk 185 39 = some (.invokevirtual 223, 3) := rfl
theorem c_185_42 : mLk 185 42 = some (.iload_n 1, 1) := rfl
theorem c_185_43 : mLk 185 43 = some (.bipush 6, 2) := rfl
theorem c_185_45 : mLk 185 45 = some (.if_icmp .ne 7, 3) := rfl
theorem c_185_52 : mLk 185 52 = some (.iload_n 1, 1) := rfl
theorem c_185_53 : mLk 185 53 = some (.ifCond .ne 17, 3) := rfl
theorem c_185_70 : mLk 185 70 = some (.iload_n 1, 1) := rfl
theorem c_185_71 : mLk 185 71 = some (.iconst 1, 1) := rfl
theorem c_185_72 : mLk 185 72 = some (.if_icmp .eq 8, 3) := rfl
theorem c_185_80 : mLk 185 80 = some (.aload_n 0, 1) := rfl
theorem c_185_81 : mLk 185 81 = some (.iconst 0, 1) := rfl
theorem c_185_82 : mLk 185 82 = some (.aload_n 0, 1) := rfl
theorem c_185_83 : mLk 185 83 = some (.getfield 163, 3) := rfl
theorem c_185_86 : mLk 185 86 = some (.iconst 1, 1) := rfl
theorem c_185_87 : mLk 185 87 = some (.isub, 1) := rfl
theorem c_185_88 : mLk 185 88 = some (.invokevirtual 199, 3) := rfl
theorem c_185_91 : mLk 185 91 = some (.goto 7, 3) := rfl
theorem c_185_98 : mLk 185 98 = some (.istore_n 2, 1) := rfl
theorem c_185_99 : mLk 185 99 = some (.iload_n 1, 1) := rfl
theorem c_185_100 : mLk 185 100 = some (.iconst 4, 1) := rfl
theorem c_185_101 : mLk 185 101 = some (.if_icmp .ge 10, 3) := rfl
theorem c_185_104 : mLk 185 104 = some (.aload_n 0, 1) := rfl
theorem c_185_105 : mLk 185 105 = some (.invokevirtual 314, 3) := rfl
theorem c_185_108 : mLk 185 108 = some (.goto 4, 3) := rfl
theorem c_185_112 : mLk 185 112 = some (.istore_n 3, 1) := rfl
theorem c_185_113 : mLk 185 113 = some (.iload_n 1, 1) := rfl
theorem c_185_114 : mLk 185 114 = some (.iconst 1, 1) := rfl
theorem c_185_115 : mLk 185 115 = some (.if_icmp .ne 10, 3) := rfl
theorem c_185_118 : mLk 185 118 = some (.aload_n 0, 1) := rfl
theorem c_185_119 : mLk 185 119 = some (.invokevirtual 314, 3) := rfl
theorem c_185_122 : mLk 185 122 = some (.goto 20, 3) := rfl
theorem c_185_142 : mLk 185 142 = some (.istore 4, 2) := rfl
theorem c_185_144 : mLk 185 144 = some (.aload_n 0, 1) := rfl
theorem c_185_145 : mLk 185 145 = some (.iload_n 1, 1) := rfl
theorem c_185_146 : mLk 185 146 = some (.iload_n 2, 1) := rfl
theorem c_185_147 : mLk 185 147 = some (.iload_n 3, 1) := rfl
theorem c_185_148 : mLk 185 148 = some (.iload 4, 2) := rfl
theorem c_185_150 : mLk 185 150 = some (.iload_n 1, 1) := rfl
theorem c_185_151 : mLk 185 151 = some (.iconst 1, 1) := rfl
theorem c_185_152 : mLk 185 152 = some (.if_icmp .ne 10, 3) := rfl
theorem c_185_155 : mLk 185 155 = some (.aload_n 0, 1) := rfl
theorem c_185_156 : mLk 185 156 = some (.invokevirtual 314, 3) := rfl
theorem c_185_159 : mLk 185 159 = some (.goto 4, 3) := rfl
theorem c_185_163 : mLk 185 163 = some (.invokevirtual 301, 3) := rfl
theorem c_185_166 : mLk 185 166 = some (.aload_n 0, 1) := rfl
theorem c_185_167 : mLk 185 167 = some (.bipush 59, 2) := rfl
theorem c_185_169 : mLk 185 169 = some (.invokevirtual 229, 3) := rfl
theorem c_185_75 : mLk 185 75 = some (.iload_n 1, 1) := rfl
theorem c_185_76 : mLk 185 76 = some (.iconst 4, 1) := rfl
theorem c_185_77 : mLk 185 77 = some (.if_icmp .ne 17, 3) := rfl
theorem c_185_94 : mLk 185 94 = some (.aload_n 0, 1) := rfl
theorem c_185_95 : mLk 185 95 = some (.invokevirtual 314, 3) := rfl
theorem c_185_111 : mLk 185 111 = some (.iconst 0, 1) := rfl
theorem c_185_125 : mLk 185 125 = some (.iload_n 1, 1) := rfl
theorem c_185_126 : mLk 185 126 = some (.iconst 3, 1) := rfl
theorem c_185_127 : mLk 185 127 = some (.if_icmp .ne 14, 3) := rfl
theorem c_185_141 : mLk 185 141 = some (.iconst 0, 1) := rfl
theorem c_185_162 : mLk 185 162 = some (.iconst 0, 1) := rfl
theorem c_185_130 : mLk 185 130 = some (.aload_n 0, 1) := rfl
theorem c_185_131 : mLk 185 131 = some (.iconst 1, 1) := rfl
theorem c_185_132 : mLk 185 132 = some (.sipush 999, 3) := rfl
theorem c_185_135 : mLk 185 135 = some (.invokevirtual 199, 3) := rfl
theorem c_185_138 : mLk 185 138 = some (.goto 4, 3) := rfl
theorem c_185_56 : mLk 185 56 = some (.aload_n 0, 1) := rfl
theorem c_185_57 : mLk 185 57 = some (.iconst 0, 1) := rfl
theorem c_185_58 : mLk 185 58 = some (.aload_n 0, 1) := rfl
theorem c_185_59 : mLk 185 59 = some (.getfield 160, 3) := rfl
theorem c_185_62 : mLk 185 62 = some (.iconst 1, 1) := rfl
theorem c_185_63 : mLk 185 63 = some (.isub, 1) := rfl
theorem c_185_64 : mLk 185 64 = some (.invokevirtual 199, 3) := rfl
theorem c_185_67 : mLk 185 67 = some (.goto 31, 3) := rfl
theorem c_185_48 : mLk 185 48 = some (.iconst 0, 1) := rfl
theorem c_185_49 : mLk 185 49 = some (.goto 49, 3) := rfl
theorem c_185_31 : mLk 185 31 = some (.aload_n 0, 1) := rfl
theorem c_185_32 : mLk 185 32 = some (.invokevirtual 311, 3) := rfl
theorem c_185_35 : mLk 185 35 = some (.goto 131, 3) := rfl
theorem c_185_13 : mLk 185 13 = some (.aload_n 0, 1) := rfl
theorem c_185_14 : mLk 185 14 = some (.iconst 1, 1) := rfl
theorem c_185_15 : mLk 185 15 = some (.aload_n 0, 1) := rfl
theorem c_185_16 : mLk 185 16 = some (.getfield 108, 3) := rfl
theorem c_185_19 : mLk 185 19 = some (.invokevirtual 138, 3) := rfl
theorem c_185_22 : mLk 185 22 = some (.goto 144, 3) := rfl
theorem km_8_311 : a_lk (kM 8) 311 = some (0, 184) := rfl
theorem km_8_314 : a_lk (kM 8) 314 = some (0, 183) := rfl
set_option maxRecDepth 100000 in
set_option maxHeartbeats 4000000 in
theorem s_185 {sc : List Int32} {e : Int} {d u P Q : Nat} {c : ME} {o : Int} {Z : AR → Prop} (hI : Iv u e P Q c) (ho : 0 ≤ o ∧ o ≤ 6) (hq0 : (c 41 5 = (-1))) (hq1 : (c 41 4 ≤ c 41 3)) (hq2 : (c 41 3 ≤ 150)) (hq3 : (3 * c 41 34 ≤ 5 * c 41 4)) (hq4 : (((c 41 34) % 5) = 0)) (hq5 : (c 41 7 = o)) (H185 : ∀ (d9 : Nat) (c : ME) (Z : AR → Prop), d ≤ d9 → o + 1 ≤ 6 → Iv u e P Q c → ((c 41 5 = (-1))) → ((c 41 4 ≤ c 41 3)) → ((c 41 3 ≤ 150)) → ((3 * c 41 34 ≤ 5 * c 41 4)) → ((((c 41 34) % 5) = 0)) → (c 41 7 = o + 1) → (∀ c2 : ME, Iv u e P Q c2 → (∀ (a : Nat) (j : Int), ¬ ((a = 41 ∧ j = 4) ∨ (a = 41 ∧ j = 5) ∨ (a = 41 ∧ j = 6) ∨ (a = 41 ∧ j = 7) ∨ (a = 41 ∧ j = 34) ∨ (a = 56 ∧ j ≥ c 41 34)) → c2 a j = c a j) → ((c2 41 4 ≥ c 41 4)) → ((c2 41 7 = c 41 7)) → ((5 * c 41 4 + 3 * c2 41 34 ≤ 3 * c 41 34 + 5 * c2 41 4)) → ((c2 41 5 < (-1)) ∨ (c2 41 5 > (-1)) ∨ (c2 41 4 ≤ c 41 3 ∧ c2 41 4 > c 41 4)) → ((((c2 41 34) % 5) = 0)) → ((c2 41 34 ≥ c 41 34)) → (c2 41 5 = -1 → Ap c2 56 (c 41 34) (c2 41 34)) → Z (.inl none, Wd P Q P P c2, 0, 0)) → Wp sc (d9 + 12) 185 0 [(0, .ref 41)] [] (Wd P Q P P c) 0 0 Z) (K : ∀ (c2 : ME), Iv u e P Q c2 → (∀ (a : Nat) (j : Int), ¬ ((a = 41 ∧ j = 4) ∨ (a = 41 ∧ j = 5) ∨ (a = 41 ∧ j = 6) ∨ (a = 41 ∧ j = 7) ∨ (a = 41 ∧ j = 34) ∨ (a = 56 ∧ j ≥ c 41 34)) → c2 a j = c a j) → ((c2 41 4 ≥ c 41 4)) → ((c2 41 7 = c 41 7)) → ((5 * c 41 4 + 3 * c2 41 34 ≤ 3 * c 41 34 + 5 * c2 41 4)) → ((c2 41 5 < (-1)) ∨ (c2 41 5 > (-1)) ∨ (c2 41 4 ≤ c 41 3 ∧ c2 41 4 > c 41 4)) → ((((c2 41 34) % 5) = 0)) → ((c2 41 34 ≥ c 41 34)) → (c2 41 5 = -1 → Ap c2 56 (c 41 34) (c2 41 34)) → Z (.inl (none), Wd P Q P P c2, 0, 0)) : Wp sc (d + 14) 185 0 [(0, .ref 41)] [] (Wd P Q P P c) 0 0 Z := by
  have hP := iv_P hI
  have hQ := iv_Q hI
  have h_1 := ir_41_5 hI
  have h_2 := ir_41_3 hI
  have h_3 := ir_41_4 hI
  have h_4 := ir_41_34 hI
  have h_5 := ir_41_7 hI
  refine q_aload_n c_185_0 rfl (v_cv c_185_1 km_8_214 rfl rfl (nb_ rfl) ⟨⟨rfl, rfl⟩, nb_ rfl, rfl⟩ (nb_ rfl) (nb_ rfl) (s_157 hI (fun c_6 y_9 hI_7 hF_8 hy_9 h_10 h_11 h_12 h_13 h_14 => (bk_inl ?_))))
  have h_15 := ir_41_4 hI_7
  have h_16 := ir_43 hI (c_6 41 4)
  have h_17 := ir_43 hI (c_6 41 4 + 1)
  have h_18 := ir_43 hI (c_6 41 4 + 2)
  refine q_call c_185_4 rfl rfl rfl (s_182 (a0 := y_9) hI_7 (show (-2147483648) ≤ y_9 ∧ y_9 ≤ 2147483647 from hy_9) (fun y_19 hy_19 h_20 => (bk_inl (q_istore_n c_185_7 (nb_ rfl) (q_iload_n c_185_8 rfl (q_iconst c_185_9 ?_))))))
  by_cases h_21 : y_19 ≠ (-1)
  · refine v_ic_ne_t (t := 25) c_185_10 rfl ⟨h_21, ⟨(Int.le_trans (by decide) hy_19.1), (Int.le_trans hy_19.2 (by decide))⟩, by decide, by decide⟩ (q_iload_n c_185_25 rfl (v_bip c_185_26 (by decide) ?_))
    by_cases h_22 : y_19 ≠ 7
    · refine v_ic_ne_t (t := 38) c_185_28 rfl ⟨h_22, ⟨(Int.le_trans (by decide) hy_19.1), (Int.le_trans hy_19.2 (by decide))⟩, by decide, by decide⟩ (q_aload_n c_185_38 rfl ?_)
      have kn_23 : Hid (c_6 41 3 = c 41 3) := hF_8 41 3 (fun h => absurd h.2 (ni rfl))
      have h_24 : c_6 41 3 = c 41 3 := (hid kn_23)
      have kn_25 : Hid (c_6 43 (c_6 41 4) = c 43 (c_6 41 4)) := hF_8 43 (c_6 41 4) (fun h => absurd h.1 (nn rfl))
      have h_26 : c_6 43 (c_6 41 4) = c 43 (c_6 41 4) := (hid kn_25)
      have kn_27 : Hid (c_6 43 (c_6 41 4 + 1) = c 43 (c_6 41 4 + 1)) := hF_8 43 (c_6 41 4 + 1) (fun h => absurd h.1 (nn rfl))
      have h_28 : c_6 43 (c_6 41 4 + 1) = c 43 (c_6 41 4 + 1) := (hid kn_27)
      have kn_29 : Hid (c_6 43 (c_6 41 4 + 2) = c 43 (c_6 41 4 + 2)) := hF_8 43 (c_6 41 4 + 2) (fun h => absurd h.1 (nn rfl))
      have h_30 : c_6 43 (c_6 41 4 + 2) = c 43 (c_6 41 4 + 2) := (hid kn_29)
      refine v_cv c_185_39 km_8_223 rfl rfl (nb_ rfl) ⟨⟨rfl, rfl⟩, nb_ rfl, rfl⟩ (nb_ rfl) (nb_ rfl) (s_159 hI_7 (fun c_31 hI_32 hF_33 h_34 h_35 h_36 h_37 => (bk_inl ?_)))
      have h_38 := ir_41_4 hI_32
      refine q_iload_n c_185_42 rfl (v_bip c_185_43 (by decide) ?_)
      by_cases h_39 : y_19 ≠ 6
      · refine v_ic_ne_t (t := 52) c_185_45 rfl ⟨h_39, ⟨(Int.le_trans (by decide) hy_19.1), (Int.le_trans hy_19.2 (by decide))⟩, by decide, by decide⟩ (q_iload_n c_185_52 rfl ?_)
        by_cases h_40 : y_19 ≠ 0
        · refine v_if_ne_t (t := 70) c_185_53 rfl ⟨h_40, ⟨(Int.le_trans (by decide) hy_19.1), (Int.le_trans hy_19.2 (by decide))⟩, by decide, by decide⟩ (q_iload_n c_185_70 rfl (q_iconst c_185_71 ?_))
          by_cases h_41 : y_19 = 1
          · refine v_ic_eq_t (t := 80) c_185_72 rfl h_41 (q_aload_n c_185_80 rfl (q_iconst c_185_81 (q_aload_n c_185_82 rfl ?_)))
            have h_42 := ir_41_22 hI
            have kn_43 : Hid (c_6 41 22 = c 41 22) := hF_8 41 22 (fun h => absurd h.2 (ni rfl))
            have kn_44 : Hid (c_31 41 22 = c 41 22) := (hF_33 41 22 (fun h => absurd h.2 (ni rfl))).trans (hid kn_43)
            refine v_gi (z := 22) (v := c 41 22) c_185_83 kf_8_163 rfl (nb_ rfl) rfl rfl (hid kn_44) (q_iconst c_185_86 (v_isub (v := c 41 22 - 1) c_185_87 rfl ?_))
            have kn_45 : Hid (c_31 41 3 = c 41 3) := (hF_33 41 3 (fun h => absurd h.2 (ni rfl))).trans (hid kn_23)
            have h_46 : c_31 41 3 = c 41 3 := (hid kn_45)
            have kn_47 : Hid (c_6 41 5 = c 41 5) := hF_8 41 5 (fun h => absurd h.2 (ni rfl))
            have kn_48 : Hid (c_31 41 5 = c 41 5) := (hF_33 41 5 (fun h => absurd h.2 (ni rfl))).trans (hid kn_47)
            have h_49 : c_31 41 5 = c 41 5 := (hid kn_48)
            refine v_cv c_185_88 km_8_199 rfl rfl (nb_ rfl) ⟨⟨rfl, rfl⟩, nb_ rfl, rfl⟩ (nb_ rfl) (nb_ rfl) (s_160 (a1 := 0) (a2 := c 41 22 - 1) hI_32 (show 0 ≤ 0 ∧ 0 ≤ 1 from ⟨by decide, by decide⟩) (show (-1) ≤ c 41 22 - 1 ∧ c 41 22 - 1 ≤ 9999 from ⟨by first | exact q_452b39485 h_42 | omega, by first | exact q_6915b49e7 h_42 | omega⟩) (fun c_50 y_53 hI_51 hF_52 hy_53 h_54 h_55 h_56 h_57 h_58 => (bk_inl ?_)))
            have h_59 := ir_41_4 hI_51
            have h_60 := ir_41_5 hI_51
            refine q_goto (t := 98) c_185_91 rfl (q_istore_n c_185_98 (nb_ rfl) (q_iload_n c_185_99 rfl (q_iconst c_185_100 (v_ic_ge_f (t := 111) c_185_101 rfl ⟨(Int.le_trans (by decide) hy_19.1), by first | exact q_35de64c77 h_41 | omega, by decide⟩ (q_aload_n c_185_104 rfl ?_)))))
            have kn_61 : Hid (c_50 41 3 = c 41 3) := (hF_52 41 3 qn_97fd72088).trans (hid kn_45)
            have h_62 : c_50 41 3 = c 41 3 := (hid kn_61)
            refine v_cv c_185_105 km_8_314 rfl rfl (nb_ rfl) ⟨⟨rfl, rfl⟩, nb_ rfl, rfl⟩ (nb_ rfl) (nb_ rfl) (s_183 hI_51 (fun c_63 y_66 hI_64 hF_65 hy_66 h_67 h_68 h_69 h_70 => (bk_inl ?_)))
            have h_71 := ir_41_4 hI_64
            have h_72 := ir_41_5 hI_64
            refine q_goto (t := 112) c_185_108 rfl (q_istore_n c_185_112 (nb_ rfl) (q_iload_n c_185_113 rfl (q_iconst c_185_114 (v_ic_ne_f (t := 125) c_185_115 rfl (by first | exact q_e2571c9b4 h_41 | omega) (q_aload_n c_185_118 rfl ?_)))))
            have kn_73 : Hid (c_63 41 3 = c 41 3) := (hF_65 41 3 qn_97fd72088).trans (hid kn_61)
            have h_74 : c_63 41 3 = c 41 3 := (hid kn_73)
            refine v_cv c_185_119 km_8_314 rfl rfl (nb_ rfl) ⟨⟨rfl, rfl⟩, nb_ rfl, rfl⟩ (nb_ rfl) (nb_ rfl) (s_183 hI_64 (fun c_75 y_78 hI_76 hF_77 hy_78 h_79 h_80 h_81 h_82 => (bk_inl ?_)))
            have h_83 := ir_41_4 hI_76
            have h_84 := ir_41_5 hI_76
            refine q_goto (t := 142) c_185_122 rfl (q_istore c_185_142 (nb_ rfl) (q_aload_n c_185_144 rfl (q_iload_n c_185_145 rfl (q_iload_n c_185_146 rfl (q_iload_n c_185_147 rfl (q_iload c_185_148 rfl (q_iload_n c_185_150 rfl ?_)))))))
            refine q_iconst c_185_151 (v_ic_ne_f (t := 162) c_185_152 rfl (by first | exact q_e2571c9b4 h_41 | omega) (q_aload_n c_185_155 rfl ?_))
            have kn_85 : Hid (c_75 41 3 = c 41 3) := (hF_77 41 3 qn_97fd72088).trans (hid kn_73)
            have h_86 : c_75 41 3 = c 41 3 := (hid kn_85)
            refine v_cv c_185_156 km_8_314 rfl rfl (nb_ rfl) ⟨⟨rfl, rfl⟩, nb_ rfl, rfl⟩ (nb_ rfl) (nb_ rfl) (s_183 hI_76 (fun c_87 y_90 hI_88 hF_89 hy_90 h_91 h_92 h_93 h_94 => (bk_inl ?_)))
            have h_95 := ir_41_4 hI_88
            have h_96 := ir_41_5 hI_88
            refine q_goto (t := 163) c_185_159 rfl ?_
            have kn_97 : Hid (c_6 41 34 = c 41 34) := hF_8 41 34 (fun h => absurd h.2 (ni rfl))
            have kn_98 : Hid (c_31 41 34 = c 41 34) := (hF_33 41 34 (fun h => absurd h.2 (ni rfl))).trans (hid kn_97)
            have kn_99 : Hid (c_50 41 34 = c 41 34) := (hF_52 41 34 qn_14d4d2881).trans (hid kn_98)
            have kn_100 : Hid (c_63 41 34 = c 41 34) := (hF_65 41 34 qn_14d4d2881).trans (hid kn_99)
            have kn_101 : Hid (c_75 41 34 = c 41 34) := (hF_77 41 34 qn_14d4d2881).trans (hid kn_100)
            have kn_102 : Hid (c_87 41 34 = c 41 34) := (hF_89 41 34 qn_14d4d2881).trans (hid kn_101)
            have h_103 : c_87 41 34 = c 41 34 := (hid kn_102)
            have h_104 : c_87 41 34 = c 41 34 := (hid kn_102)
            refine v_cv c_185_163 km_8_301 rfl rfl (nb_ rfl) ⟨⟨rfl, rfl⟩, nb_ rfl, rfl⟩ (nb_ rfl) (nb_ rfl) (s_181 (a1 := y_19) (a2 := y_53) (a3 := y_66) (a4 := y_78) (a5 := y_90) hI_88 (show 0 ≤ y_19 ∧ y_19 ≤ 7 from ⟨by first | exact q_d72e4aea1 h_41 | omega, hy_19.2⟩) (show 0 ≤ y_53 ∧ y_53 ≤ 40 from ⟨hy_53.1, by first | exact q_457dde627 h_42 h_56 | omega⟩) (show 0 ≤ y_66 ∧ y_66 ≤ 5 from hy_66) (show 0 ≤ y_78 ∧ y_78 ≤ 999 from ⟨hy_78.1, (Int.le_trans hy_78.2 (by decide))⟩) (show 0 ≤ y_90 ∧ y_90 ≤ 5 from hy_90) (by first | exact q_f9c88a064 hq4 | omega) (Or.inr (Or.inr (by first | (clear ho hq0 hq1 hq5 h_1 h_2 h_3 h_4 h_5 h_15 h_16 h_17 h_18 h_38 h_34 h_42 h_59 h_54 h_60 h_71 h_67 h_72 h_83 h_79 h_84 h_95 h_91 h_96 h_11 h_13 h_14 h_21 h_22 h_35 h_36 h_37 h_39 h_40 h_55 h_56 h_57 h_58 h_68 h_69 h_70 h_80 h_81 h_82 h_92 h_93 h_94; omega) | omega))) (Or.inl (by first | exact q_72815ef9e h_41 | omega)) (Or.inr ⟨by first | exact q_b3cc29c66 h_42 h_56 | omega, by first | (clear ho hq0 hq1 hq2 hq3 hq4 hq5 h_1 h_2 h_3 h_4 h_5 h_15 h_10 h_16 h_17 h_18 h_38 h_34 h_41 h_42 h_59 h_54 h_60 h_71 h_67 h_72 h_83 h_79 h_84 h_95 h_91 h_96 h_11 h_12 h_13 h_14 h_20 h_21 h_22 h_35 h_36 h_37 h_39 h_40 h_55 h_56 h_57 h_58 h_68 h_69 h_70 h_80 h_81 h_82 h_92 h_93 h_94; omega) | omega⟩) (Or.inl (by first | exact q_4a2fa9e4d h_41 | omega)) (Or.inl (by first | exact q_4d88fe714 h_41 | omega)) (Or.inl (by first | exact q_ebaa6bc57 h_41 | omega)) (Or.inl (by first | exact q_620c3e4c8 h_41 | omega)) (Or.inl (by first | exact q_817913de4 h_41 | omega)) (fun c_105 hI_106 hF_107 h_108 h_109 h_110 => ?_))
            refine bk_inl ?_
            have h_111 := ir_41_34 hI_106
            have h_112 : c_105 56 ((c_87 41 34)) = c_105 56 (c 41 34) := congrArg (c_105 56) (by first | assumption | exact Int.le_antisymm (by omega) (by omega))
            have h_113 := ir_56 hI_106 (c 41 34)
            refine q_aload_n c_185_166 rfl (v_bip c_185_167 (by decide) ?_)
            have kn_114 : Hid (c_105 41 4 = c_87 41 4) := hF_107 41 4 (fun q => q.elim (fun h => absurd h.2 (ni rfl)) (fun h => absurd h.1 (nn rfl)))
            have h_115 : c_105 41 4 = c_87 41 4 := (hid kn_114)
            have kn_116 : Hid (c_87 41 3 = c 41 3) := (hF_89 41 3 qn_97fd72088).trans (hid kn_85)
            have kn_117 : Hid (c_105 41 3 = c 41 3) := (hF_107 41 3 (fun q => q.elim (fun h => absurd h.2 (ni rfl)) (fun h => absurd h.1 (nn rfl)))).trans (hid kn_116)
            have h_118 : c_105 41 3 = c 41 3 := (hid kn_117)
            have kn_119 : Hid (c_105 41 5 = c_87 41 5) := hF_107 41 5 (fun q => q.elim (fun h => absurd h.2 (ni rfl)) (fun h => absurd h.1 (nn rfl)))
            have h_120 : c_105 41 5 = c_87 41 5 := (hid kn_119)
            refine v_cv c_185_169 km_8_229 rfl rfl (nb_ rfl) ⟨⟨rfl, rfl⟩, nb_ rfl, rfl⟩ (nb_ rfl) (nb_ rfl) (s_161 (a1 := 59) hI_106 (show 1 ≤ 59 ∧ 59 ≤ 255 from ⟨by decide, by decide⟩) (fun c_121 hI_122 hF_123 h_124 h_125 h_126 h_127 => (bk_inl ?_)))
            have h_128 := ir_41_4 hI_122
            have h_129 := ir_41_5 hI_122
            refine q_vret rfl rfl ?_
            have kn_130 : Hid (c_121 41 34 = c_105 41 34) := hF_123 41 34 qn_14d4d2881
            have h_131 : c_121 41 34 = c_105 41 34 := (hid kn_130)
            have h_132 : c_121 41 34 = c_105 41 34 := (hid kn_130)
            have kn_133 : Hid (c_6 41 7 = c 41 7) := hF_8 41 7 (fun h => absurd h.2 (ni rfl))
            have kn_134 : Hid (c_31 41 7 = c 41 7) := (hF_33 41 7 (fun h => absurd h.2 (ni rfl))).trans (hid kn_133)
            have kn_135 : Hid (c_50 41 7 = c 41 7) := (hF_52 41 7 qn_fb1117a24).trans (hid kn_134)
            have kn_136 : Hid (c_63 41 7 = c 41 7) := (hF_65 41 7 qn_fb1117a24).trans (hid kn_135)
            have kn_137 : Hid (c_75 41 7 = c 41 7) := (hF_77 41 7 qn_fb1117a24).trans (hid kn_136)
            have kn_138 : Hid (c_87 41 7 = c 41 7) := (hF_89 41 7 qn_fb1117a24).trans (hid kn_137)
            have kn_139 : Hid (c_105 41 7 = c 41 7) := (hF_107 41 7 (fun q => q.elim (fun h => absurd h.2 (ni rfl)) (fun h => absurd h.1 (nn rfl)))).trans (hid kn_138)
            have kn_140 : Hid (c_121 41 7 = c 41 7) := (hF_123 41 7 qn_fb1117a24).trans (hid kn_139)
            have h_141 : c_121 41 7 = c 41 7 := (hid kn_140)
            have hb9 : c_121 41 5 = c_121 41 5 := rfl
            have hn9 : c_121 41 34 = c_105 41 34 := (hid kn_130)
            have kn_142 : Hid (c_121 56 (c 41 34) = c_105 56 (c 41 34)) := hF_123 56 (c 41 34) qn_01f0bccfb
            have hq9 : c_121 56 (c 41 34) = c_105 56 (c 41 34) := (hid kn_142)
            exact K c_121 hI_122 (fun a j hm => (hF_123 a j (qv_b6152c67a hm)).trans ((hF_107 a j (fun q => q.elim (fun h => hm (Or.inr (Or.inr (Or.inr (Or.inr (Or.inl h)))))) (fun h => hm (Or.inr (Or.inr (Or.inr (Or.inr (Or.inr ⟨h.1, (Int.le_trans (by clear hm; first | exact q_e074ea49a | omega) h.2)⟩)))))))).trans ((hF_89 a j (qv_b6152c67a hm)).trans ((hF_77 a j (qv_b6152c67a hm)).trans ((hF_65 a j (qv_b6152c67a hm)).trans ((hF_52 a j (qv_b6152c67a hm)).trans ((hF_33 a j (fun h => hm (Or.inl h))).trans (hF_8 a j (fun h => hm (Or.inl h)))))))))) (by first | exact q_aa606e377 h_10 h_124 h_34 h_54 h_67 h_79 h_91 h_115 | omega) (by first | assumption | omega) (by first | exact q_dbb87eeb4 h_10 h_109 h_110 h_124 h_34 h_54 h_58 h_67 h_70 h_79 h_82 h_91 h_93 h_103 h_115 h_46 h_49 h_62 h_74 | omega) (Or.inr (Or.inr ⟨by first | exact q_845f9d3ce h_11 h_125 h_35 h_55 h_68 h_80 h_92 hq1 h_118 h_115 h_24 h_46 h_62 h_74 h_86 | omega, by first | (clear ho hq0 hq1 hq2 hq3 hq4 hq5 h_1 h_2 h_3 h_4 h_5 h_15 h_16 h_17 h_18 h_38 h_34 h_42 h_59 h_60 h_71 h_72 h_83 h_84 h_95 h_96 h_111 h_108 h_113 h_128 h_129 h_11 h_14 h_21 h_22 h_35 h_37 h_39 h_40 h_55 h_56 h_57 h_58 h_68 h_69 h_70 h_80 h_81 h_82 h_92 h_93 h_94 h_109 h_110 h_125 h_126 h_127; omega) | omega⟩)) (by first | exact q_f9c88a064 h_108 | omega) (by first | exact q_1f022678a h_109 h_110 h_103 | omega) (fun h9 => ap_one (by first | (clear ho hq0 hq1 hq2 hq3 hq4 hq5 h_1 h_2 h_3 h_4 h_5 h_15 h_10 h_16 h_17 h_18 h_38 h_34 h_42 h_59 h_54 h_60 h_71 h_67 h_72 h_83 h_79 h_84 h_95 h_91 h_96 h_111 h_108 h_113 h_128 h_124 h_129 h_11 h_12 h_13 h_14 h_20 h_21 h_22 h_35 h_36 h_37 h_39 h_40 h_55 h_56 h_57 h_58 h_68 h_69 h_70 h_80 h_81 h_82 h_92 h_93 h_94 h_110 h_125 h_127; omega) | omega) (by first | assumption | omega) (Int.le_antisymm (by first | (clear ho hq0 hq1 hq2 hq3 hq4 hq5 h_1 h_2 h_3 h_4 h_5 h_15 h_10 h_16 h_17 h_18 h_38 h_34 h_41 h_42 h_59 h_54 h_60 h_71 h_67 h_72 h_83 h_79 h_84 h_95 h_91 h_96 h_111 h_108 h_113 h_128 h_124 h_129 h9 h_11 h_12 h_13 h_14 h_20 h_21 h_22 h_35 h_36 h_37 h_39 h_40 h_55 h_56 h_57 h_58 h_68 h_69 h_70 h_80 h_81 h_82 h_92 h_93 h_94 h_125 h_126 h_127; omega) | omega) (by first | (clear ho hq0 hq1 hq2 hq3 hq4 hq5 h_1 h_2 h_3 h_4 h_5 h_15 h_10 h_16 h_17 h_18 h_38 h_34 h_41 h_42 h_59 h_54 h_60 h_71 h_67 h_72 h_83 h_79 h_84 h_95 h_91 h_96 h_111 h_108 h_113 h_128 h_124 h_129 h_11 h_12 h_13 h_14 h_20 h_21 h_22 h_35 h_36 h_37 h_39 h_40 h_55 h_56 h_57 h_58 h_68 h_69 h_70 h_80 h_81 h_82 h_92 h_93 h_94 h_110 h_125 h_127; omega) | omega)))
          · refine v_ic_eq_f (t := 80) c_185_72 rfl ⟨h_41, ⟨(Int.le_trans (by decide) hy_19.1), (Int.le_trans hy_19.2 (by decide))⟩, by decide, by decide⟩ (q_iload_n c_185_75 rfl (q_iconst c_185_76 ?_))
            by_cases h_143 : y_19 ≠ 4
            · refine v_ic_ne_t (t := 94) c_185_77 rfl ⟨h_143, ⟨(Int.le_trans (by decide) hy_19.1), (Int.le_trans hy_19.2 (by decide))⟩, by decide, by decide⟩ (q_aload_n c_185_94 rfl ?_)
              have kn_144 : Hid (c_31 41 3 = c 41 3) := (hF_33 41 3 (fun h => absurd h.2 (ni rfl))).trans (hid kn_23)
              have h_145 : c_31 41 3 = c 41 3 := (hid kn_144)
              have kn_146 : Hid (c_6 41 5 = c 41 5) := hF_8 41 5 (fun h => absurd h.2 (ni rfl))
              have kn_147 : Hid (c_31 41 5 = c 41 5) := (hF_33 41 5 (fun h => absurd h.2 (ni rfl))).trans (hid kn_146)
              have h_148 : c_31 41 5 = c 41 5 := (hid kn_147)
              refine v_cv c_185_95 km_8_314 rfl rfl (nb_ rfl) ⟨⟨rfl, rfl⟩, nb_ rfl, rfl⟩ (nb_ rfl) (nb_ rfl) (s_183 hI_32 (fun c_149 y_152 hI_150 hF_151 hy_152 h_153 h_154 h_155 h_156 => (bk_inl ?_)))
              have h_157 := ir_41_4 hI_150
              have h_158 := ir_41_5 hI_150
              refine q_istore_n c_185_98 (nb_ rfl) (q_iload_n c_185_99 rfl (q_iconst c_185_100 ?_))
              by_cases h_159 : y_19 ≥ 4
              · refine v_ic_ge_t (t := 111) c_185_101 rfl ⟨by decide, h_159, (Int.le_trans hy_19.2 (by decide))⟩ (q_iconst c_185_111 (q_istore_n c_185_112 (nb_ rfl) (q_iload_n c_185_113 rfl (q_iconst c_185_114 (v_ic_ne_t (t := 125) c_185_115 rfl ⟨by first | exact q_82b471caa h_159 | omega, ⟨(Int.le_trans (by decide) hy_19.1), (Int.le_trans hy_19.2 (by decide))⟩, by decide, by decide⟩ (q_iload_n c_185_125 rfl (q_iconst c_185_126 ?_)))))))
                refine v_ic_ne_t (t := 141) c_185_127 rfl ⟨by first | exact q_1f6cc4008 h_159 | omega, ⟨(Int.le_trans (by decide) hy_19.1), (Int.le_trans hy_19.2 (by decide))⟩, by decide, by decide⟩ (q_iconst c_185_141 (q_istore c_185_142 (nb_ rfl) (q_aload_n c_185_144 rfl (q_iload_n c_185_145 rfl (q_iload_n c_185_146 rfl (q_iload_n c_185_147 rfl (q_iload c_185_148 rfl ?_)))))))
                refine q_iload_n c_185_150 rfl (q_iconst c_185_151 (v_ic_ne_t (t := 162) c_185_152 rfl ⟨by first | exact q_82b471caa h_159 | omega, ⟨(Int.le_trans (by decide) hy_19.1), (Int.le_trans hy_19.2 (by decide))⟩, by decide, by decide⟩ (q_iconst c_185_162 ?_)))
                have kn_160 : Hid (c_6 41 34 = c 41 34) := hF_8 41 34 (fun h => absurd h.2 (ni rfl))
                have kn_161 : Hid (c_31 41 34 = c 41 34) := (hF_33 41 34 (fun h => absurd h.2 (ni rfl))).trans (hid kn_160)
                have kn_162 : Hid (c_149 41 34 = c 41 34) := (hF_151 41 34 qn_14d4d2881).trans (hid kn_161)
                have h_163 : c_149 41 34 = c 41 34 := (hid kn_162)
                have h_164 : c_149 41 34 = c 41 34 := (hid kn_162)
                refine v_cv c_185_163 km_8_301 rfl rfl (nb_ rfl) ⟨⟨rfl, rfl⟩, nb_ rfl, rfl⟩ (nb_ rfl) (nb_ rfl) (s_181 (a1 := y_19) (a2 := y_152) (a3 := 0) (a4 := 0) (a5 := 0) hI_150 (show 0 ≤ y_19 ∧ y_19 ≤ 7 from ⟨by first | exact q_137895ac1 h_159 | omega, hy_19.2⟩) (show 0 ≤ y_152 ∧ y_152 ≤ 40 from ⟨hy_152.1, (Int.le_trans hy_152.2 (by decide))⟩) (show 0 ≤ 0 ∧ 0 ≤ 5 from ⟨by decide, by decide⟩) (show 0 ≤ 0 ∧ 0 ≤ 999 from ⟨by decide, by decide⟩) (show 0 ≤ 0 ∧ 0 ≤ 5 from ⟨by decide, by decide⟩) (by first | exact q_f9c88a064 hq4 | omega) (Or.inr (Or.inr (by first | (clear ho hq0 hq1 hq5 h_1 h_2 h_3 h_4 h_5 h_15 h_16 h_17 h_18 h_38 h_34 h_157 h_153 h_158 h_11 h_13 h_14 h_21 h_22 h_35 h_36 h_37 h_39 h_40 h_41 h_143 h_154 h_155 h_156; omega) | omega))) (Or.inl (by first | exact q_fa01b37a1 h_159 | omega)) (Or.inl (by first | exact q_82b471caa h_159 | omega)) (Or.inl (by first | exact q_0906e8e8d h_159 | omega)) (Or.inl (by first | exact q_1f6cc4008 h_159 | omega)) (Or.inl (by first | exact q_c7a6670ed h_143 h_159 | omega)) (Or.inr (by first | (clear ho hq0 hq1 hq2 hq3 hq4 hq5 h_1 h_2 h_3 h_4 h_5 h_15 h_10 h_16 h_17 h_18 h_38 h_34 h_157 h_153 h_158 h_159 h_11 h_12 h_13 h_14 h_20 h_21 h_22 h_35 h_36 h_37 h_39 h_40 h_41 h_143 h_154 h_155 h_156; omega) | omega)) (Or.inl (by first | (clear ho hq0 hq1 hq2 hq3 hq4 hq5 h_1 h_2 h_3 h_4 h_5 h_15 h_10 h_16 h_17 h_18 h_38 h_34 h_157 h_153 h_158 h_159 h_11 h_12 h_13 h_14 h_20 h_21 h_35 h_36 h_37 h_39 h_40 h_41 h_143 h_154 h_155 h_156; omega) | omega)) (fun c_165 hI_166 hF_167 h_168 h_169 h_170 => ?_))
                refine bk_inl ?_
                have h_171 := ir_41_34 hI_166
                have h_172 : c_165 56 ((c_149 41 34)) = c_165 56 (c 41 34) := congrArg (c_165 56) (by first | assumption | exact Int.le_antisymm (by omega) (by omega))
                have h_173 := ir_56 hI_166 (c 41 34)
                refine q_aload_n c_185_166 rfl (v_bip c_185_167 (by decide) ?_)
                have kn_174 : Hid (c_165 41 4 = c_149 41 4) := hF_167 41 4 (fun q => q.elim (fun h => absurd h.2 (ni rfl)) (fun h => absurd h.1 (nn rfl)))
                have h_175 : c_165 41 4 = c_149 41 4 := (hid kn_174)
                have kn_176 : Hid (c_149 41 3 = c 41 3) := (hF_151 41 3 qn_97fd72088).trans (hid kn_144)
                have kn_177 : Hid (c_165 41 3 = c 41 3) := (hF_167 41 3 (fun q => q.elim (fun h => absurd h.2 (ni rfl)) (fun h => absurd h.1 (nn rfl)))).trans (hid kn_176)
                have h_178 : c_165 41 3 = c 41 3 := (hid kn_177)
                have kn_179 : Hid (c_165 41 5 = c_149 41 5) := hF_167 41 5 (fun q => q.elim (fun h => absurd h.2 (ni rfl)) (fun h => absurd h.1 (nn rfl)))
                have h_180 : c_165 41 5 = c_149 41 5 := (hid kn_179)
                refine v_cv c_185_169 km_8_229 rfl rfl (nb_ rfl) ⟨⟨rfl, rfl⟩, nb_ rfl, rfl⟩ (nb_ rfl) (nb_ rfl) (s_161 (a1 := 59) hI_166 (show 1 ≤ 59 ∧ 59 ≤ 255 from ⟨by decide, by decide⟩) (fun c_181 hI_182 hF_183 h_184 h_185 h_186 h_187 => (bk_inl ?_)))
                have h_188 := ir_41_4 hI_182
                have h_189 := ir_41_5 hI_182
                refine q_vret rfl rfl ?_
                have kn_190 : Hid (c_181 41 34 = c_165 41 34) := hF_183 41 34 qn_14d4d2881
                have h_191 : c_181 41 34 = c_165 41 34 := (hid kn_190)
                have h_192 : c_181 41 34 = c_165 41 34 := (hid kn_190)
                have kn_193 : Hid (c_6 41 7 = c 41 7) := hF_8 41 7 (fun h => absurd h.2 (ni rfl))
                have kn_194 : Hid (c_31 41 7 = c 41 7) := (hF_33 41 7 (fun h => absurd h.2 (ni rfl))).trans (hid kn_193)
                have kn_195 : Hid (c_149 41 7 = c 41 7) := (hF_151 41 7 qn_fb1117a24).trans (hid kn_194)
                have kn_196 : Hid (c_165 41 7 = c 41 7) := (hF_167 41 7 (fun q => q.elim (fun h => absurd h.2 (ni rfl)) (fun h => absurd h.1 (nn rfl)))).trans (hid kn_195)
                have kn_197 : Hid (c_181 41 7 = c 41 7) := (hF_183 41 7 qn_fb1117a24).trans (hid kn_196)
                have h_198 : c_181 41 7 = c 41 7 := (hid kn_197)
                have hb9 : c_181 41 5 = c_181 41 5 := rfl
                have hn9 : c_181 41 34 = c_165 41 34 := (hid kn_190)
                have kn_199 : Hid (c_181 56 (c 41 34) = c_165 56 (c 41 34)) := hF_183 56 (c 41 34) qn_01f0bccfb
                have hq9 : c_181 56 (c 41 34) = c_165 56 (c 41 34) := (hid kn_199)
                exact K c_181 hI_182 (fun a j hm => (hF_183 a j (qv_b6152c67a hm)).trans ((hF_167 a j (fun q => q.elim (fun h => hm (Or.inr (Or.inr (Or.inr (Or.inr (Or.inl h)))))) (fun h => hm (Or.inr (Or.inr (Or.inr (Or.inr (Or.inr ⟨h.1, (Int.le_trans (by clear hm; first | exact q_e074ea49a | omega) h.2)⟩)))))))).trans ((hF_151 a j (qv_b6152c67a hm)).trans ((hF_33 a j (fun h => hm (Or.inl h))).trans (hF_8 a j (fun h => hm (Or.inl h))))))) (by first | exact q_5b38c9290 h_10 h_153 h_184 h_34 h_175 | omega) (by first | assumption | omega) (by first | (clear ho hq0 hq1 hq2 hq3 hq4 hq5 h_1 h_2 h_3 h_4 h_5 h_15 h_16 h_17 h_18 h_38 h_34 h_157 h_158 h_171 h_168 h_173 h_188 h_189 h_11 h_12 h_21 h_22 h_35 h_36 h_39 h_40 h_41 h_143 h_154 h_155 h_156 h_185 h_186 h_187; omega) | omega) (Or.inr (Or.inr ⟨by first | exact q_4c1a6dd92 h_11 h_154 h_185 h_35 hq1 h_145 h_178 h_175 h_24 | omega, by first | (clear ho hq0 hq1 hq2 hq3 hq4 hq5 h_1 h_2 h_3 h_4 h_5 h_15 h_16 h_17 h_18 h_38 h_34 h_157 h_158 h_171 h_168 h_173 h_188 h_189 h_11 h_14 h_21 h_22 h_35 h_37 h_39 h_40 h_41 h_143 h_154 h_155 h_156 h_169 h_170 h_185 h_186 h_187; omega) | omega⟩)) (by first | exact q_f9c88a064 h_168 | omega) (by first | exact q_1f022678a h_169 h_170 h_163 | omega) (fun h9 => ap_one (by first | (clear ho hq0 hq1 hq2 hq3 hq4 hq5 h_1 h_2 h_3 h_4 h_5 h_15 h_10 h_16 h_17 h_18 h_38 h_34 h_157 h_153 h_158 h_159 h_171 h_168 h_173 h_188 h_184 h_189 h_11 h_12 h_13 h_14 h_20 h_21 h_35 h_36 h_37 h_39 h_40 h_41 h_143 h_154 h_155 h_156 h_170 h_185 h_187; omega) | omega) (by first | assumption | omega) (Int.le_antisymm (by first | (clear ho hq0 hq1 hq2 hq3 hq4 hq5 h_1 h_2 h_3 h_4 h_5 h_15 h_10 h_16 h_17 h_18 h_38 h_34 h_157 h_153 h_158 h_159 h_171 h_168 h_173 h_188 h_184 h_189 h9 h_11 h_12 h_13 h_14 h_20 h_21 h_22 h_35 h_36 h_37 h_39 h_40 h_41 h_143 h_154 h_155 h_156 h_185 h_186 h_187; omega) | omega) (by first | (clear ho hq0 hq1 hq2 hq3 hq4 hq5 h_1 h_2 h_3 h_4 h_5 h_15 h_10 h_16 h_17 h_18 h_38 h_34 h_157 h_153 h_158 h_159 h_171 h_168 h_173 h_188 h_184 h_189 h_11 h_12 h_13 h_14 h_20 h_21 h_22 h_35 h_36 h_37 h_39 h_40 h_41 h_143 h_154 h_155 h_156 h_170 h_185 h_187; omega) | omega)))
              · refine v_ic_ge_f (t := 111) c_185_101 rfl ⟨(Int.le_trans (by decide) hy_19.1), (Int.not_le.mp h_159), by decide⟩ (q_aload_n c_185_104 rfl ?_)
                have kn_200 : Hid (c_149 41 3 = c 41 3) := (hF_151 41 3 qn_97fd72088).trans (hid kn_144)
                have h_201 : c_149 41 3 = c 41 3 := (hid kn_200)
                refine v_cv c_185_105 km_8_314 rfl rfl (nb_ rfl) ⟨⟨rfl, rfl⟩, nb_ rfl, rfl⟩ (nb_ rfl) (nb_ rfl) (s_183 hI_150 (fun c_202 y_205 hI_203 hF_204 hy_205 h_206 h_207 h_208 h_209 => (bk_inl ?_)))
                have h_210 := ir_41_4 hI_203
                have h_211 := ir_41_5 hI_203
                refine q_goto (t := 112) c_185_108 rfl (q_istore_n c_185_112 (nb_ rfl) (q_iload_n c_185_113 rfl (q_iconst c_185_114 (v_ic_ne_t (t := 125) c_185_115 rfl ⟨by first | exact q_ea625c1e5 h_41 | omega, ⟨(Int.le_trans (by decide) hy_19.1), (Int.le_trans hy_19.2 (by decide))⟩, by decide, by decide⟩ (q_iload_n c_185_125 rfl (q_iconst c_185_126 ?_))))))
                by_cases h_212 : y_19 ≠ 3
                · refine v_ic_ne_t (t := 141) c_185_127 rfl ⟨h_212, ⟨(Int.le_trans (by decide) hy_19.1), (Int.le_trans hy_19.2 (by decide))⟩, by decide, by decide⟩ (q_iconst c_185_141 (q_istore c_185_142 (nb_ rfl) (q_aload_n c_185_144 rfl (q_iload_n c_185_145 rfl (q_iload_n c_185_146 rfl (q_iload_n c_185_147 rfl (q_iload c_185_148 rfl ?_)))))))
                  refine q_iload_n c_185_150 rfl (q_iconst c_185_151 (v_ic_ne_t (t := 162) c_185_152 rfl ⟨by first | exact q_ea625c1e5 h_41 | omega, ⟨(Int.le_trans (by decide) hy_19.1), (Int.le_trans hy_19.2 (by decide))⟩, by decide, by decide⟩ (q_iconst c_185_162 ?_)))
                  have kn_213 : Hid (c_6 41 34 = c 41 34) := hF_8 41 34 (fun h => absurd h.2 (ni rfl))
                  have kn_214 : Hid (c_31 41 34 = c 41 34) := (hF_33 41 34 (fun h => absurd h.2 (ni rfl))).trans (hid kn_213)
                  have kn_215 : Hid (c_149 41 34 = c 41 34) := (hF_151 41 34 qn_14d4d2881).trans (hid kn_214)
                  have kn_216 : Hid (c_202 41 34 = c 41 34) := (hF_204 41 34 qn_14d4d2881).trans (hid kn_215)
                  have h_217 : c_202 41 34 = c 41 34 := (hid kn_216)
                  have h_218 : c_202 41 34 = c 41 34 := (hid kn_216)
                  refine v_cv c_185_163 km_8_301 rfl rfl (nb_ rfl) ⟨⟨rfl, rfl⟩, nb_ rfl, rfl⟩ (nb_ rfl) (nb_ rfl) (s_181 (a1 := y_19) (a2 := y_152) (a3 := y_205) (a4 := 0) (a5 := 0) hI_203 (show 0 ≤ y_19 ∧ y_19 ≤ 7 from ⟨by first | (clear ho hq0 hq1 hq2 hq3 hq4 hq5 h_1 h_2 h_3 h_4 h_5 h_15 h_10 h_16 h_17 h_18 h_38 h_34 h_157 h_153 h_158 h_159 h_210 h_206 h_211 h_11 h_12 h_13 h_14 h_20 h_22 h_35 h_36 h_37 h_39 h_40 h_41 h_143 h_154 h_155 h_156 h_207 h_208 h_209 h_212; omega) | omega, hy_19.2⟩) (show 0 ≤ y_152 ∧ y_152 ≤ 40 from ⟨hy_152.1, (Int.le_trans hy_152.2 (by decide))⟩) (show 0 ≤ y_205 ∧ y_205 ≤ 5 from hy_205) (show 0 ≤ 0 ∧ 0 ≤ 999 from ⟨by decide, by decide⟩) (show 0 ≤ 0 ∧ 0 ≤ 5 from ⟨by decide, by decide⟩) (by first | exact q_f9c88a064 hq4 | omega) (Or.inr (Or.inr (by omega))) (Or.inl (by first | exact q_56243d016 h_40 | omega)) (Or.inl (by first | exact q_ea625c1e5 h_41 | omega)) (Or.inr (by first | (clear ho hq0 hq1 hq2 hq3 hq4 hq5 h_1 h_2 h_3 h_4 h_5 h_15 h_10 h_16 h_17 h_18 h_38 h_34 h_157 h_153 h_158 h_159 h_210 h_206 h_211 h_11 h_12 h_13 h_14 h_20 h_21 h_22 h_35 h_36 h_37 h_39 h_40 h_41 h_143 h_154 h_155 h_156 h_207 h_208 h_209 h_212; omega) | omega)) (Or.inl (by first | exact q_073ee9b25 h_159 h_212 | omega)) (Or.inl (by first | exact q_f6152d285 h_159 | omega)) (Or.inl (by first | exact q_71dc12fe2 h_159 | omega)) (Or.inl (by first | exact q_68ebfa386 h_159 | omega)) (fun c_219 hI_220 hF_221 h_222 h_223 h_224 => (bk_inl ?_)))
                  have h_225 := ir_41_34 hI_220
                  have h_226 : c_219 56 ((c_202 41 34)) = c_219 56 (c 41 34) := congrArg (c_219 56) (by first | assumption | exact Int.le_antisymm (by omega) (by omega))
                  have h_227 := ir_56 hI_220 (c 41 34)
                  refine q_aload_n c_185_166 rfl (v_bip c_185_167 (by decide) ?_)
                  have kn_228 : Hid (c_219 41 4 = c_202 41 4) := hF_221 41 4 (fun q => q.elim (fun h => absurd h.2 (ni rfl)) (fun h => absurd h.1 (nn rfl)))
                  have h_229 : c_219 41 4 = c_202 41 4 := (hid kn_228)
                  have kn_230 : Hid (c_202 41 3 = c 41 3) := (hF_204 41 3 qn_97fd72088).trans (hid kn_200)
                  have kn_231 : Hid (c_219 41 3 = c 41 3) := (hF_221 41 3 (fun q => q.elim (fun h => absurd h.2 (ni rfl)) (fun h => absurd h.1 (nn rfl)))).trans (hid kn_230)
                  have h_232 : c_219 41 3 = c 41 3 := (hid kn_231)
                  have kn_233 : Hid (c_219 41 5 = c_202 41 5) := hF_221 41 5 (fun q => q.elim (fun h => absurd h.2 (ni rfl)) (fun h => absurd h.1 (nn rfl)))
                  have h_234 : c_219 41 5 = c_202 41 5 := (hid kn_233)
                  refine v_cv c_185_169 km_8_229 rfl rfl (nb_ rfl) ⟨⟨rfl, rfl⟩, nb_ rfl, rfl⟩ (nb_ rfl) (nb_ rfl) (s_161 (a1 := 59) hI_220 (show 1 ≤ 59 ∧ 59 ≤ 255 from ⟨by decide, by decide⟩) (fun c_235 hI_236 hF_237 h_238 h_239 h_240 h_241 => (bk_inl ?_)))
                  have h_242 := ir_41_4 hI_236
                  have h_243 := ir_41_5 hI_236
                  refine q_vret rfl rfl ?_
                  have kn_244 : Hid (c_235 41 34 = c_219 41 34) := hF_237 41 34 qn_14d4d2881
                  have h_245 : c_235 41 34 = c_219 41 34 := (hid kn_244)
                  have h_246 : c_235 41 34 = c_219 41 34 := (hid kn_244)
                  have kn_247 : Hid (c_6 41 7 = c 41 7) := hF_8 41 7 (fun h => absurd h.2 (ni rfl))
                  have kn_248 : Hid (c_31 41 7 = c 41 7) := (hF_33 41 7 (fun h => absurd h.2 (ni rfl))).trans (hid kn_247)
                  have kn_249 : Hid (c_149 41 7 = c 41 7) := (hF_151 41 7 qn_fb1117a24).trans (hid kn_248)
                  have kn_250 : Hid (c_202 41 7 = c 41 7) := (hF_204 41 7 qn_fb1117a24).trans (hid kn_249)
                  have kn_251 : Hid (c_219 41 7 = c 41 7) := (hF_221 41 7 (fun q => q.elim (fun h => absurd h.2 (ni rfl)) (fun h => absurd h.1 (nn rfl)))).trans (hid kn_250)
                  have kn_252 : Hid (c_235 41 7 = c 41 7) := (hF_237 41 7 qn_fb1117a24).trans (hid kn_251)
                  have h_253 : c_235 41 7 = c 41 7 := (hid kn_252)
                  have hb9 : c_235 41 5 = c_235 41 5 := rfl
                  have hn9 : c_235 41 34 = c_219 41 34 := (hid kn_244)
                  have kn_254 : Hid (c_235 56 (c 41 34) = c_219 56 (c 41 34)) := hF_237 56 (c 41 34) qn_01f0bccfb
                  have hq9 : c_235 56 (c 41 34) = c_219 56 (c 41 34) := (hid kn_254)
                  exact K c_235 hI_236 (fun a j hm => (hF_237 a j (qv_b6152c67a hm)).trans ((hF_221 a j (fun q => q.elim (fun h => hm (Or.inr (Or.inr (Or.inr (Or.inr (Or.inl h)))))) (fun h => hm (Or.inr (Or.inr (Or.inr (Or.inr (Or.inr ⟨h.1, (Int.le_trans (by clear hm; first | exact q_e074ea49a | omega) h.2)⟩)))))))).trans ((hF_204 a j (qv_b6152c67a hm)).trans ((hF_151 a j (qv_b6152c67a hm)).trans ((hF_33 a j (fun h => hm (Or.inl h))).trans (hF_8 a j (fun h => hm (Or.inl h)))))))) (by first | exact q_f9fea031a h_10 h_153 h_206 h_238 h_34 h_229 | omega) (by first | assumption | omega) (by first | (clear ho hq0 hq1 hq2 hq3 hq4 hq5 h_1 h_2 h_3 h_4 h_5 h_15 h_16 h_17 h_18 h_38 h_157 h_158 h_159 h_210 h_211 h_225 h_222 h_242 h_243 h_11 h_12 h_21 h_22 h_35 h_36 h_39 h_40 h_41 h_143 h_154 h_155 h_156 h_207 h_208 h_209 h_212 h_239 h_240 h_241; omega) | omega) (Or.inr (Or.inr ⟨by first | exact q_e42419428 h_11 h_154 h_207 h_239 h_35 hq1 h_145 h_201 h_232 h_229 h_24 | omega, by first | (clear ho hq0 hq1 hq2 hq3 hq4 hq5 h_1 h_2 h_3 h_4 h_5 h_15 h_16 h_17 h_18 h_38 h_34 h_157 h_158 h_159 h_210 h_211 h_225 h_222 h_227 h_242 h_243 h_11 h_14 h_22 h_35 h_37 h_39 h_40 h_41 h_143 h_154 h_155 h_156 h_207 h_208 h_209 h_212 h_223 h_224 h_239 h_240 h_241; omega) | omega⟩)) (by first | exact q_f9c88a064 h_222 | omega) (by first | exact q_1f022678a h_223 h_224 h_217 | omega) (fun h9 => ap_one (by first | (clear ho hq0 hq1 hq2 hq3 hq4 hq5 h_1 h_2 h_3 h_4 h_5 h_15 h_10 h_16 h_17 h_18 h_38 h_34 h_157 h_153 h_158 h_210 h_206 h_211 h_225 h_222 h_227 h_242 h_238 h_243 h_11 h_12 h_13 h_14 h_20 h_21 h_22 h_35 h_36 h_37 h_39 h_40 h_41 h_143 h_154 h_155 h_156 h_207 h_208 h_209 h_212 h_224 h_239 h_241; omega) | omega) (by first | assumption | omega) (Int.le_antisymm (by first | (clear ho hq0 hq1 hq2 hq3 hq4 hq5 h_1 h_2 h_3 h_4 h_5 h_15 h_10 h_16 h_17 h_18 h_38 h_34 h_157 h_153 h_158 h_159 h_210 h_206 h_211 h_225 h_222 h_227 h_242 h_238 h_243 h9 h_11 h_12 h_13 h_14 h_20 h_21 h_22 h_35 h_36 h_37 h_39 h_40 h_41 h_143 h_154 h_155 h_156 h_207 h_208 h_209 h_212 h_239 h_240 h_241; omega) | omega) (by first | (clear ho hq0 hq1 hq2 hq3 hq4 hq5 h_1 h_2 h_3 h_4 h_5 h_15 h_10 h_16 h_17 h_18 h_38 h_34 h_157 h_153 h_158 h_159 h_210 h_206 h_211 h_225 h_222 h_227 h_242 h_238 h_243 h_11 h_12 h_13 h_14 h_20 h_21 h_22 h_35 h_36 h_37 h_39 h_40 h_41 h_143 h_154 h_155 h_156 h_207 h_208 h_209 h_212 h_224 h_239 h_241; omega) | omega)))
                · refine v_ic_ne_f (t := 141) c_185_127 rfl (Decidable.not_not.mp h_212) (q_aload_n c_185_130 rfl (q_iconst c_185_131 (v_sip c_185_132 (by decide) ?_)))
                  have kn_255 : Hid (c_202 41 3 = c 41 3) := (hF_204 41 3 qn_97fd72088).trans (hid kn_200)
                  have h_256 : c_202 41 3 = c 41 3 := (hid kn_255)
                  refine v_cv c_185_135 km_8_199 rfl rfl (nb_ rfl) ⟨⟨rfl, rfl⟩, nb_ rfl, rfl⟩ (nb_ rfl) (nb_ rfl) (s_160 (a1 := 1) (a2 := 999) hI_203 (show 0 ≤ 1 ∧ 1 ≤ 1 from ⟨by decide, by decide⟩) (show (-1) ≤ 999 ∧ 999 ≤ 9999 from ⟨by decide, by decide⟩) (fun c_257 y_260 hI_258 hF_259 hy_260 h_261 h_262 h_263 h_264 h_265 => (bk_inl ?_)))
                  have h_266 := ir_41_4 hI_258
                  have h_267 := ir_41_5 hI_258
                  refine q_goto (t := 142) c_185_138 rfl (q_istore c_185_142 (nb_ rfl) (q_aload_n c_185_144 rfl (q_iload_n c_185_145 rfl (q_iload_n c_185_146 rfl (q_iload_n c_185_147 rfl (q_iload c_185_148 rfl (q_iload_n c_185_150 rfl ?_)))))))
                  refine q_iconst c_185_151 (v_ic_ne_t (t := 162) c_185_152 rfl ⟨by first | exact q_e215efd56 h_212 | omega, ⟨(Int.le_trans (by decide) hy_19.1), (Int.le_trans hy_19.2 (by decide))⟩, by decide, by decide⟩ (q_iconst c_185_162 ?_))
                  have kn_268 : Hid (c_6 41 34 = c 41 34) := hF_8 41 34 (fun h => absurd h.2 (ni rfl))
                  have kn_269 : Hid (c_31 41 34 = c 41 34) := (hF_33 41 34 (fun h => absurd h.2 (ni rfl))).trans (hid kn_268)
                  have kn_270 : Hid (c_149 41 34 = c 41 34) := (hF_151 41 34 qn_14d4d2881).trans (hid kn_269)
                  have kn_271 : Hid (c_202 41 34 = c 41 34) := (hF_204 41 34 qn_14d4d2881).trans (hid kn_270)
                  have kn_272 : Hid (c_257 41 34 = c 41 34) := (hF_259 41 34 qn_14d4d2881).trans (hid kn_271)
                  have h_273 : c_257 41 34 = c 41 34 := (hid kn_272)
                  have h_274 : c_257 41 34 = c 41 34 := (hid kn_272)
                  refine v_cv c_185_163 km_8_301 rfl rfl (nb_ rfl) ⟨⟨rfl, rfl⟩, nb_ rfl, rfl⟩ (nb_ rfl) (nb_ rfl) (s_181 (a1 := y_19) (a2 := y_152) (a3 := y_205) (a4 := y_260) (a5 := 0) hI_258 (show 0 ≤ y_19 ∧ y_19 ≤ 7 from ⟨by first | exact q_1d1177327 h_212 | omega, hy_19.2⟩) (show 0 ≤ y_152 ∧ y_152 ≤ 40 from ⟨hy_152.1, (Int.le_trans hy_152.2 (by decide))⟩) (show 0 ≤ y_205 ∧ y_205 ≤ 5 from hy_205) (show 0 ≤ y_260 ∧ y_260 ≤ 999 from ⟨hy_260.1, by first | exact q_4abc9fb0a h_263 | omega⟩) (show 0 ≤ 0 ∧ 0 ≤ 5 from ⟨by decide, by decide⟩) (by first | exact q_f9c88a064 hq4 | omega) (Or.inr (Or.inr (by first | (clear ho hq0 hq1 hq5 h_1 h_2 h_3 h_4 h_5 h_15 h_16 h_17 h_18 h_38 h_34 h_157 h_153 h_158 h_159 h_210 h_206 h_211 h_266 h_261 h_267 h_11 h_13 h_14 h_21 h_22 h_35 h_36 h_37 h_39 h_40 h_41 h_143 h_154 h_155 h_156 h_207 h_208 h_209 h_262 h_263 h_264 h_265; omega) | omega))) (Or.inl (by first | exact q_488511fb3 h_212 | omega)) (Or.inl (by first | exact q_e215efd56 h_212 | omega)) (Or.inl (by first | exact q_81bf6df21 h_212 | omega)) (Or.inr (by first | (clear ho hq0 hq1 hq2 hq3 hq4 hq5 h_1 h_2 h_3 h_4 h_5 h_15 h_10 h_16 h_17 h_18 h_38 h_34 h_157 h_153 h_158 h_159 h_210 h_206 h_211 h_212 h_266 h_261 h_267 h_11 h_12 h_13 h_14 h_20 h_21 h_22 h_35 h_36 h_37 h_39 h_40 h_41 h_143 h_154 h_155 h_156 h_207 h_208 h_209 h_262 h_263 h_264 h_265; omega) | omega)) (Or.inl (by first | exact q_f6152d285 h_159 | omega)) (Or.inl (by first | exact q_71dc12fe2 h_159 | omega)) (Or.inl (by first | exact q_68ebfa386 h_159 | omega)) (fun c_275 hI_276 hF_277 h_278 h_279 h_280 => ?_))
                  refine bk_inl ?_
                  have h_281 := ir_41_34 hI_276
                  have h_282 : c_275 56 ((c_257 41 34)) = c_275 56 (c 41 34) := congrArg (c_275 56) (by first | assumption | exact Int.le_antisymm (by omega) (by omega))
                  have h_283 := ir_56 hI_276 (c 41 34)
                  refine q_aload_n c_185_166 rfl (v_bip c_185_167 (by decide) ?_)
                  have kn_284 : Hid (c_275 41 4 = c_257 41 4) := hF_277 41 4 (fun q => q.elim (fun h => absurd h.2 (ni rfl)) (fun h => absurd h.1 (nn rfl)))
                  have h_285 : c_275 41 4 = c_257 41 4 := (hid kn_284)
                  have kn_286 : Hid (c_257 41 3 = c 41 3) := (hF_259 41 3 qn_97fd72088).trans (hid kn_255)
                  have kn_287 : Hid (c_275 41 3 = c 41 3) := (hF_277 41 3 (fun q => q.elim (fun h => absurd h.2 (ni rfl)) (fun h => absurd h.1 (nn rfl)))).trans (hid kn_286)
                  have h_288 : c_275 41 3 = c 41 3 := (hid kn_287)
                  have kn_289 : Hid (c_275 41 5 = c_257 41 5) := hF_277 41 5 (fun q => q.elim (fun h => absurd h.2 (ni rfl)) (fun h => absurd h.1 (nn rfl)))
                  have h_290 : c_275 41 5 = c_257 41 5 := (hid kn_289)
                  refine v_cv c_185_169 km_8_229 rfl rfl (nb_ rfl) ⟨⟨rfl, rfl⟩, nb_ rfl, rfl⟩ (nb_ rfl) (nb_ rfl) (s_161 (a1 := 59) hI_276 (show 1 ≤ 59 ∧ 59 ≤ 255 from ⟨by decide, by decide⟩) (fun c_291 hI_292 hF_293 h_294 h_295 h_296 h_297 => (bk_inl ?_)))
                  have h_298 := ir_41_4 hI_292
                  have h_299 := ir_41_5 hI_292
                  refine q_vret rfl rfl ?_
                  have kn_300 : Hid (c_291 41 34 = c_275 41 34) := hF_293 41 34 qn_14d4d2881
                  have h_301 : c_291 41 34 = c_275 41 34 := (hid kn_300)
                  have h_302 : c_291 41 34 = c_275 41 34 := (hid kn_300)
                  have kn_303 : Hid (c_6 41 7 = c 41 7) := hF_8 41 7 (fun h => absurd h.2 (ni rfl))
                  have kn_304 : Hid (c_31 41 7 = c 41 7) := (hF_33 41 7 (fun h => absurd h.2 (ni rfl))).trans (hid kn_303)
                  have kn_305 : Hid (c_149 41 7 = c 41 7) := (hF_151 41 7 qn_fb1117a24).trans (hid kn_304)
                  have kn_306 : Hid (c_202 41 7 = c 41 7) := (hF_204 41 7 qn_fb1117a24).trans (hid kn_305)
                  have kn_307 : Hid (c_257 41 7 = c 41 7) := (hF_259 41 7 qn_fb1117a24).trans (hid kn_306)
                  have kn_308 : Hid (c_275 41 7 = c 41 7) := (hF_277 41 7 (fun q => q.elim (fun h => absurd h.2 (ni rfl)) (fun h => absurd h.1 (nn rfl)))).trans (hid kn_307)
                  have kn_309 : Hid (c_291 41 7 = c 41 7) := (hF_293 41 7 qn_fb1117a24).trans (hid kn_308)
                  have h_310 : c_291 41 7 = c 41 7 := (hid kn_309)
                  have hb9 : c_291 41 5 = c_291 41 5 := rfl
                  have hn9 : c_291 41 34 = c_275 41 34 := (hid kn_300)
                  have kn_311 : Hid (c_291 56 (c 41 34) = c_275 56 (c 41 34)) := hF_293 56 (c 41 34) qn_01f0bccfb
                  have hq9 : c_291 56 (c 41 34) = c_275 56 (c 41 34) := (hid kn_311)
                  exact K c_291 hI_292 (fun a j hm => (hF_293 a j (qv_b6152c67a hm)).trans ((hF_277 a j (fun q => q.elim (fun h => hm (Or.inr (Or.inr (Or.inr (Or.inr (Or.inl h)))))) (fun h => hm (Or.inr (Or.inr (Or.inr (Or.inr (Or.inr ⟨h.1, (Int.le_trans (by clear hm; first | exact q_e074ea49a | omega) h.2)⟩)))))))).trans ((hF_259 a j (qv_b6152c67a hm)).trans ((hF_204 a j (qv_b6152c67a hm)).trans ((hF_151 a j (qv_b6152c67a hm)).trans ((hF_33 a j (fun h => hm (Or.inl h))).trans (hF_8 a j (fun h => hm (Or.inl h))))))))) (by first | exact q_b19110ff6 h_10 h_153 h_206 h_261 h_294 h_34 h_285 | omega) (by first | assumption | omega) (by first | exact q_6a6ad27d8 h_10 h_153 h_156 h_206 h_209 h_261 h_265 h_279 h_280 h_294 h_34 h_145 h_148 h_201 h_256 h_273 h_285 | omega) (Or.inr (Or.inr ⟨by first | exact q_fb8025653 h_11 h_154 h_207 h_262 h_295 h_35 hq1 h_145 h_201 h_256 h_288 h_285 h_24 | omega, by first | (clear ho hq0 hq1 hq2 hq3 hq4 hq5 h_1 h_2 h_3 h_4 h_5 h_15 h_16 h_17 h_18 h_38 h_34 h_157 h_158 h_159 h_210 h_211 h_266 h_267 h_281 h_278 h_283 h_298 h_299 h_11 h_14 h_21 h_22 h_35 h_37 h_39 h_40 h_41 h_143 h_154 h_155 h_156 h_207 h_208 h_209 h_262 h_263 h_264 h_265 h_279 h_280 h_295 h_296 h_297; omega) | omega⟩)) (by first | exact q_f9c88a064 h_278 | omega) (by first | exact q_1f022678a h_279 h_280 h_273 | omega) (fun h9 => ap_one (by first | (clear ho hq0 hq1 hq2 hq3 hq4 hq5 h_1 h_2 h_3 h_4 h_5 h_15 h_10 h_16 h_17 h_18 h_38 h_34 h_157 h_153 h_158 h_159 h_210 h_206 h_211 h_266 h_261 h_267 h_281 h_278 h_283 h_298 h_294 h_299 h_11 h_12 h_13 h_14 h_20 h_21 h_22 h_35 h_36 h_37 h_39 h_40 h_41 h_143 h_154 h_155 h_156 h_207 h_208 h_209 h_262 h_263 h_264 h_265 h_280 h_295 h_297; omega) | omega) (by first | assumption | omega) (Int.le_antisymm (by first | (clear ho hq0 hq1 hq2 hq3 hq4 hq5 h_1 h_2 h_3 h_4 h_5 h_15 h_10 h_16 h_17 h_18 h_38 h_34 h_157 h_153 h_158 h_159 h_210 h_206 h_211 h_212 h_266 h_261 h_267 h_281 h_278 h_283 h_298 h_294 h_299 h9 h_11 h_12 h_13 h_14 h_20 h_21 h_22 h_35 h_36 h_37 h_39 h_40 h_41 h_143 h_154 h_155 h_156 h_207 h_208 h_209 h_262 h_263 h_264 h_265 h_295 h_296 h_297; omega) | omega) (by first | (clear ho hq0 hq1 hq2 hq3 hq4 hq5 h_1 h_2 h_3 h_4 h_5 h_15 h_10 h_16 h_17 h_18 h_38 h_34 h_157 h_153 h_158 h_159 h_210 h_206 h_211 h_212 h_266 h_261 h_267 h_281 h_278 h_283 h_298 h_294 h_299 h_11 h_12 h_13 h_14 h_20 h_21 h_22 h_35 h_36 h_37 h_39 h_40 h_41 h_143 h_154 h_155 h_156 h_207 h_208 h_209 h_262 h_263 h_264 h_265 h_280 h_295 h_297; omega) | omega)))
            · refine v_ic_ne_f (t := 94) c_185_77 rfl (Decidable.not_not.mp h_143) (q_aload_n c_185_80 rfl (q_iconst c_185_81 (q_aload_n c_185_82 rfl ?_)))
              have h_312 := ir_41_22 hI
              have kn_313 : Hid (c_6 41 22 = c 41 22) := hF_8 41 22 (fun h => absurd h.2 (ni rfl))
              have kn_314 : Hid (c_31 41 22 = c 41 22) := (hF_33 41 22 (fun h => absurd h.2 (ni rfl))).trans (hid kn_313)
              refine v_gi (z := 22) (v := c 41 22) c_185_83 kf_8_163 rfl (nb_ rfl) rfl rfl (hid kn_314) (q_iconst c_185_86 (v_isub (v := c 41 22 - 1) c_185_87 rfl ?_))
              have kn_315 : Hid (c_31 41 3 = c 41 3) := (hF_33 41 3 (fun h => absurd h.2 (ni rfl))).trans (hid kn_23)
              have h_316 : c_31 41 3 = c 41 3 := (hid kn_315)
              have kn_317 : Hid (c_6 41 5 = c 41 5) := hF_8 41 5 (fun h => absurd h.2 (ni rfl))
              have kn_318 : Hid (c_31 41 5 = c 41 5) := (hF_33 41 5 (fun h => absurd h.2 (ni rfl))).trans (hid kn_317)
              have h_319 : c_31 41 5 = c 41 5 := (hid kn_318)
              refine v_cv c_185_88 km_8_199 rfl rfl (nb_ rfl) ⟨⟨rfl, rfl⟩, nb_ rfl, rfl⟩ (nb_ rfl) (nb_ rfl) (s_160 (a1 := 0) (a2 := c 41 22 - 1) hI_32 (show 0 ≤ 0 ∧ 0 ≤ 1 from ⟨by decide, by decide⟩) (show (-1) ≤ c 41 22 - 1 ∧ c 41 22 - 1 ≤ 9999 from ⟨by first | exact q_452b39485 h_312 | omega, by first | exact q_6915b49e7 h_312 | omega⟩) (fun c_320 y_323 hI_321 hF_322 hy_323 h_324 h_325 h_326 h_327 h_328 => (bk_inl ?_)))
              have h_329 := ir_41_4 hI_321
              have h_330 := ir_41_5 hI_321
              refine q_goto (t := 98) c_185_91 rfl (q_istore_n c_185_98 (nb_ rfl) (q_iload_n c_185_99 rfl (q_iconst c_185_100 (v_ic_ge_t (t := 111) c_185_101 rfl ⟨by decide, by first | exact q_f264c8061 h_143 | omega, (Int.le_trans hy_19.2 (by decide))⟩ (q_iconst c_185_111 (q_istore_n c_185_112 (nb_ rfl) (q_iload_n c_185_113 rfl ?_)))))))
              refine q_iconst c_185_114 (v_ic_ne_t (t := 125) c_185_115 rfl ⟨by first | exact q_275796c64 h_143 | omega, ⟨(Int.le_trans (by decide) hy_19.1), (Int.le_trans hy_19.2 (by decide))⟩, by decide, by decide⟩ (q_iload_n c_185_125 rfl (q_iconst c_185_126 (v_ic_ne_t (t := 141) c_185_127 rfl ⟨by first | exact q_2dbeaab3f h_143 | omega, ⟨(Int.le_trans (by decide) hy_19.1), (Int.le_trans hy_19.2 (by decide))⟩, by decide, by decide⟩ (q_iconst c_185_141 (q_istore c_185_142 (nb_ rfl) (q_aload_n c_185_144 rfl ?_)))))))
              refine q_iload_n c_185_145 rfl (q_iload_n c_185_146 rfl (q_iload_n c_185_147 rfl (q_iload c_185_148 rfl (q_iload_n c_185_150 rfl (q_iconst c_185_151 (v_ic_ne_t (t := 162) c_185_152 rfl ⟨by first | exact q_275796c64 h_143 | omega, ⟨(Int.le_trans (by decide) hy_19.1), (Int.le_trans hy_19.2 (by decide))⟩, by decide, by decide⟩ (q_iconst c_185_162 ?_)))))))
              have kn_331 : Hid (c_6 41 34 = c 41 34) := hF_8 41 34 (fun h => absurd h.2 (ni rfl))
              have kn_332 : Hid (c_31 41 34 = c 41 34) := (hF_33 41 34 (fun h => absurd h.2 (ni rfl))).trans (hid kn_331)
              have kn_333 : Hid (c_320 41 34 = c 41 34) := (hF_322 41 34 qn_14d4d2881).trans (hid kn_332)
              have h_334 : c_320 41 34 = c 41 34 := (hid kn_333)
              have h_335 : c_320 41 34 = c 41 34 := (hid kn_333)
              refine v_cv c_185_163 km_8_301 rfl rfl (nb_ rfl) ⟨⟨rfl, rfl⟩, nb_ rfl, rfl⟩ (nb_ rfl) (nb_ rfl) (s_181 (a1 := y_19) (a2 := y_323) (a3 := 0) (a4 := 0) (a5 := 0) hI_321 (show 0 ≤ y_19 ∧ y_19 ≤ 7 from ⟨by first | exact q_68da7af7f h_143 | omega, hy_19.2⟩) (show 0 ≤ y_323 ∧ y_323 ≤ 40 from ⟨hy_323.1, by first | exact q_457dde627 h_312 h_326 | omega⟩) (show 0 ≤ 0 ∧ 0 ≤ 5 from ⟨by decide, by decide⟩) (show 0 ≤ 0 ∧ 0 ≤ 999 from ⟨by decide, by decide⟩) (show 0 ≤ 0 ∧ 0 ≤ 5 from ⟨by decide, by decide⟩) (by first | exact q_f9c88a064 hq4 | omega) (Or.inr (Or.inr (by first | (clear ho hq0 hq1 hq5 h_1 h_2 h_3 h_4 h_5 h_15 h_16 h_17 h_18 h_38 h_34 h_312 h_329 h_324 h_330 h_11 h_13 h_14 h_21 h_22 h_35 h_36 h_37 h_39 h_40 h_41 h_325 h_326 h_327 h_328; omega) | omega))) (Or.inl (by first | exact q_69e9f4ea1 h_143 | omega)) (Or.inl (by first | exact q_275796c64 h_143 | omega)) (Or.inl (by first | exact q_ae7ba78a4 h_143 | omega)) (Or.inl (by first | exact q_2dbeaab3f h_143 | omega)) (Or.inr (by first | exact q_b3cc29c66 h_312 h_326 | omega)) (Or.inl (by first | exact q_1b518e3e9 h_143 | omega)) (Or.inl (by first | exact q_61b06fbf7 h_143 | omega)) (fun c_336 hI_337 hF_338 h_339 h_340 h_341 => (bk_inl ?_)))
              have h_342 := ir_41_34 hI_337
              have h_343 : c_336 56 ((c_320 41 34)) = c_336 56 (c 41 34) := congrArg (c_336 56) (by first | assumption | exact Int.le_antisymm (by omega) (by omega))
              have h_344 := ir_56 hI_337 (c 41 34)
              refine q_aload_n c_185_166 rfl (v_bip c_185_167 (by decide) ?_)
              have kn_345 : Hid (c_336 41 4 = c_320 41 4) := hF_338 41 4 (fun q => q.elim (fun h => absurd h.2 (ni rfl)) (fun h => absurd h.1 (nn rfl)))
              have h_346 : c_336 41 4 = c_320 41 4 := (hid kn_345)
              have kn_347 : Hid (c_320 41 3 = c 41 3) := (hF_322 41 3 qn_97fd72088).trans (hid kn_315)
              have kn_348 : Hid (c_336 41 3 = c 41 3) := (hF_338 41 3 (fun q => q.elim (fun h => absurd h.2 (ni rfl)) (fun h => absurd h.1 (nn rfl)))).trans (hid kn_347)
              have h_349 : c_336 41 3 = c 41 3 := (hid kn_348)
              have kn_350 : Hid (c_336 41 5 = c_320 41 5) := hF_338 41 5 (fun q => q.elim (fun h => absurd h.2 (ni rfl)) (fun h => absurd h.1 (nn rfl)))
              have h_351 : c_336 41 5 = c_320 41 5 := (hid kn_350)
              refine v_cv c_185_169 km_8_229 rfl rfl (nb_ rfl) ⟨⟨rfl, rfl⟩, nb_ rfl, rfl⟩ (nb_ rfl) (nb_ rfl) (s_161 (a1 := 59) hI_337 (show 1 ≤ 59 ∧ 59 ≤ 255 from ⟨by decide, by decide⟩) (fun c_352 hI_353 hF_354 h_355 h_356 h_357 h_358 => (bk_inl ?_)))
              have h_359 := ir_41_4 hI_353
              have h_360 := ir_41_5 hI_353
              refine q_vret rfl rfl ?_
              have kn_361 : Hid (c_352 41 34 = c_336 41 34) := hF_354 41 34 qn_14d4d2881
              have h_362 : c_352 41 34 = c_336 41 34 := (hid kn_361)
              have h_363 : c_352 41 34 = c_336 41 34 := (hid kn_361)
              have kn_364 : Hid (c_6 41 7 = c 41 7) := hF_8 41 7 (fun h => absurd h.2 (ni rfl))
              have kn_365 : Hid (c_31 41 7 = c 41 7) := (hF_33 41 7 (fun h => absurd h.2 (ni rfl))).trans (hid kn_364)
              have kn_366 : Hid (c_320 41 7 = c 41 7) := (hF_322 41 7 qn_fb1117a24).trans (hid kn_365)
              have kn_367 : Hid (c_336 41 7 = c 41 7) := (hF_338 41 7 (fun q => q.elim (fun h => absurd h.2 (ni rfl)) (fun h => absurd h.1 (nn rfl)))).trans (hid kn_366)
              have kn_368 : Hid (c_352 41 7 = c 41 7) := (hF_354 41 7 qn_fb1117a24).trans (hid kn_367)
              have h_369 : c_352 41 7 = c 41 7 := (hid kn_368)
              have hb9 : c_352 41 5 = c_352 41 5 := rfl
              have hn9 : c_352 41 34 = c_336 41 34 := (hid kn_361)
              have kn_370 : Hid (c_352 56 (c 41 34) = c_336 56 (c 41 34)) := hF_354 56 (c 41 34) qn_01f0bccfb
              have hq9 : c_352 56 (c 41 34) = c_336 56 (c 41 34) := (hid kn_370)
              exact K c_352 hI_353 (fun a j hm => (hF_354 a j (qv_b6152c67a hm)).trans ((hF_338 a j (fun q => q.elim (fun h => hm (Or.inr (Or.inr (Or.inr (Or.inr (Or.inl h)))))) (fun h => hm (Or.inr (Or.inr (Or.inr (Or.inr (Or.inr ⟨h.1, (Int.le_trans (by clear hm; first | exact q_e074ea49a | omega) h.2)⟩)))))))).trans ((hF_322 a j (qv_b6152c67a hm)).trans ((hF_33 a j (fun h => hm (Or.inl h))).trans (hF_8 a j (fun h => hm (Or.inl h))))))) (by first | exact q_64c2af1c6 h_10 h_324 h_34 h_355 h_346 | omega) (by first | assumption | omega) (by first | (clear ho hq0 hq1 hq2 hq3 hq4 hq5 h_1 h_2 h_3 h_4 h_5 h_15 h_16 h_17 h_18 h_38 h_34 h_312 h_329 h_330 h_342 h_339 h_344 h_359 h_360 h_11 h_12 h_21 h_22 h_35 h_36 h_39 h_40 h_41 h_325 h_326 h_327 h_328 h_356 h_357 h_358; omega) | omega) (Or.inr (Or.inr ⟨by first | exact q_1cbdd7dc3 h_11 h_325 h_35 h_356 hq1 h_316 h_24 h_349 h_346 | omega, by first | (clear ho hq0 hq1 hq2 hq3 hq4 hq5 h_1 h_2 h_3 h_4 h_5 h_15 h_16 h_17 h_18 h_38 h_34 h_312 h_329 h_330 h_342 h_339 h_344 h_359 h_360 h_11 h_14 h_21 h_22 h_35 h_37 h_39 h_40 h_41 h_325 h_326 h_327 h_328 h_340 h_341 h_356 h_357 h_358; omega) | omega⟩)) (by first | exact q_f9c88a064 h_339 | omega) (by first | exact q_1f022678a h_340 h_341 h_334 | omega) (fun h9 => ap_one (by first | (clear ho hq0 hq1 hq2 hq3 hq4 hq5 h_1 h_2 h_3 h_4 h_5 h_15 h_10 h_16 h_17 h_18 h_38 h_34 h_312 h_329 h_324 h_330 h_342 h_339 h_344 h_359 h_355 h_360 h_11 h_12 h_13 h_14 h_20 h_21 h_22 h_35 h_36 h_37 h_39 h_40 h_41 h_325 h_326 h_327 h_328 h_341 h_356 h_358; omega) | omega) (by first | assumption | omega) (Int.le_antisymm (by first | (clear ho hq0 hq1 hq2 hq3 hq4 hq5 h_1 h_2 h_3 h_4 h_5 h_15 h_10 h_16 h_17 h_18 h_38 h_34 h_143 h_312 h_329 h_324 h_330 h_342 h_339 h_344 h_359 h_355 h_360 h9 h_11 h_12 h_13 h_14 h_20 h_21 h_22 h_35 h_36 h_37 h_39 h_40 h_41 h_325 h_326 h_327 h_328 h_356 h_357 h_358; omega) | omega) (by first | (clear ho hq0 hq1 hq2 hq3 hq4 hq5 h_1 h_2 h_3 h_4 h_5 h_15 h_10 h_16 h_17 h_18 h_38 h_34 h_143 h_312 h_329 h_324 h_330 h_342 h_339 h_344 h_359 h_355 h_360 h_11 h_12 h_13 h_14 h_20 h_21 h_22 h_35 h_36 h_37 h_39 h_40 h_41 h_325 h_326 h_327 h_328 h_341 h_356 h_358; omega) | omega)))
        · refine v_if_ne_f (t := 70) c_185_53 rfl (Decidable.not_not.mp h_40) (q_aload_n c_185_56 rfl (q_iconst c_185_57 (q_aload_n c_185_58 rfl ?_)))
          have h_371 := ir_41_21 hI
          have kn_372 : Hid (c_6 41 21 = c 41 21) := hF_8 41 21 (fun h => absurd h.2 (ni rfl))
          have kn_373 : Hid (c_31 41 21 = c 41 21) := (hF_33 41 21 (fun h => absurd h.2 (ni rfl))).trans (hid kn_372)
          refine v_gi (z := 21) (v := c 41 21) c_185_59 kf_8_160 rfl (nb_ rfl) rfl rfl (hid kn_373) (q_iconst c_185_62 (v_isub (v := c 41 21 - 1) c_185_63 rfl ?_))
          have kn_374 : Hid (c_31 41 3 = c 41 3) := (hF_33 41 3 (fun h => absurd h.2 (ni rfl))).trans (hid kn_23)
          have h_375 : c_31 41 3 = c 41 3 := (hid kn_374)
          have kn_376 : Hid (c_6 41 5 = c 41 5) := hF_8 41 5 (fun h => absurd h.2 (ni rfl))
          have kn_377 : Hid (c_31 41 5 = c 41 5) := (hF_33 41 5 (fun h => absurd h.2 (ni rfl))).trans (hid kn_376)
          have h_378 : c_31 41 5 = c 41 5 := (hid kn_377)
          refine v_cv c_185_64 km_8_199 rfl rfl (nb_ rfl) ⟨⟨rfl, rfl⟩, nb_ rfl, rfl⟩ (nb_ rfl) (nb_ rfl) (s_160 (a1 := 0) (a2 := c 41 21 - 1) hI_32 (show 0 ≤ 0 ∧ 0 ≤ 1 from ⟨by decide, by decide⟩) (show (-1) ≤ c 41 21 - 1 ∧ c 41 21 - 1 ≤ 9999 from ⟨by first | exact q_452b39485 h_371 | omega, by first | exact q_6915b49e7 h_371 | omega⟩) (fun c_379 y_382 hI_380 hF_381 hy_382 h_383 h_384 h_385 h_386 h_387 => (bk_inl ?_)))
          have h_388 := ir_41_4 hI_380
          have h_389 := ir_41_5 hI_380
          refine q_goto (t := 98) c_185_67 rfl (q_istore_n c_185_98 (nb_ rfl) (q_iload_n c_185_99 rfl (q_iconst c_185_100 (v_ic_ge_f (t := 111) c_185_101 rfl ⟨(Int.le_trans (by decide) hy_19.1), by first | exact q_326a9c436 h_40 | omega, by decide⟩ (q_aload_n c_185_104 rfl ?_)))))
          have kn_390 : Hid (c_379 41 3 = c 41 3) := (hF_381 41 3 qn_97fd72088).trans (hid kn_374)
          have h_391 : c_379 41 3 = c 41 3 := (hid kn_390)
          refine v_cv c_185_105 km_8_314 rfl rfl (nb_ rfl) ⟨⟨rfl, rfl⟩, nb_ rfl, rfl⟩ (nb_ rfl) (nb_ rfl) (s_183 hI_380 (fun c_392 y_395 hI_393 hF_394 hy_395 h_396 h_397 h_398 h_399 => (bk_inl ?_)))
          have h_400 := ir_41_4 hI_393
          have h_401 := ir_41_5 hI_393
          refine q_goto (t := 112) c_185_108 rfl (q_istore_n c_185_112 (nb_ rfl) (q_iload_n c_185_113 rfl (q_iconst c_185_114 (v_ic_ne_t (t := 125) c_185_115 rfl ⟨by first | exact q_9c5620e1f h_40 | omega, ⟨(Int.le_trans (by decide) hy_19.1), (Int.le_trans hy_19.2 (by decide))⟩, by decide, by decide⟩ (q_iload_n c_185_125 rfl (q_iconst c_185_126 (v_ic_ne_t (t := 141) c_185_127 rfl ⟨by first | exact q_471b3f52b h_40 | omega, ⟨(Int.le_trans (by decide) hy_19.1), (Int.le_trans hy_19.2 (by decide))⟩, by decide, by decide⟩ ?_)))))))
          refine q_iconst c_185_141 (q_istore c_185_142 (nb_ rfl) (q_aload_n c_185_144 rfl (q_iload_n c_185_145 rfl (q_iload_n c_185_146 rfl (q_iload_n c_185_147 rfl (q_iload c_185_148 rfl (q_iload_n c_185_150 rfl ?_)))))))
          refine q_iconst c_185_151 (v_ic_ne_t (t := 162) c_185_152 rfl ⟨by first | exact q_9c5620e1f h_40 | omega, ⟨(Int.le_trans (by decide) hy_19.1), (Int.le_trans hy_19.2 (by decide))⟩, by decide, by decide⟩ (q_iconst c_185_162 ?_))
          have kn_402 : Hid (c_6 41 34 = c 41 34) := hF_8 41 34 (fun h => absurd h.2 (ni rfl))
          have kn_403 : Hid (c_31 41 34 = c 41 34) := (hF_33 41 34 (fun h => absurd h.2 (ni rfl))).trans (hid kn_402)
          have kn_404 : Hid (c_379 41 34 = c 41 34) := (hF_381 41 34 qn_14d4d2881).trans (hid kn_403)
          have kn_405 : Hid (c_392 41 34 = c 41 34) := (hF_394 41 34 qn_14d4d2881).trans (hid kn_404)
          have h_406 : c_392 41 34 = c 41 34 := (hid kn_405)
          have h_407 : c_392 41 34 = c 41 34 := (hid kn_405)
          refine v_cv c_185_163 km_8_301 rfl rfl (nb_ rfl) ⟨⟨rfl, rfl⟩, nb_ rfl, rfl⟩ (nb_ rfl) (nb_ rfl) (s_181 (a1 := y_19) (a2 := y_382) (a3 := y_395) (a4 := 0) (a5 := 0) hI_393 (show 0 ≤ y_19 ∧ y_19 ≤ 7 from ⟨by first | exact q_c627fad14 h_40 | omega, hy_19.2⟩) (show 0 ≤ y_382 ∧ y_382 ≤ 40 from ⟨hy_382.1, by first | exact q_457dde627 h_371 h_385 | omega⟩) (show 0 ≤ y_395 ∧ y_395 ≤ 5 from hy_395) (show 0 ≤ 0 ∧ 0 ≤ 999 from ⟨by decide, by decide⟩) (show 0 ≤ 0 ∧ 0 ≤ 5 from ⟨by decide, by decide⟩) (by first | exact q_f9c88a064 hq4 | omega) (Or.inr (Or.inr (by first | (clear ho hq0 hq1 hq5 h_1 h_2 h_3 h_4 h_5 h_15 h_16 h_17 h_18 h_38 h_34 h_371 h_388 h_383 h_389 h_400 h_396 h_401 h_11 h_13 h_14 h_21 h_22 h_35 h_36 h_37 h_39 h_384 h_385 h_386 h_387 h_397 h_398 h_399; omega) | omega))) (Or.inr (by first | exact q_b3cc29c66 h_371 h_385 | omega)) (Or.inl (by first | exact q_9c5620e1f h_40 | omega)) (Or.inl (by first | exact q_43ee89330 h_40 | omega)) (Or.inl (by first | exact q_471b3f52b h_40 | omega)) (Or.inl (by first | exact q_b7c71017b h_40 | omega)) (Or.inl (by first | exact q_563bbb240 h_40 | omega)) (Or.inl (by first | exact q_78f4a68c8 h_40 | omega)) (fun c_408 hI_409 hF_410 h_411 h_412 h_413 => (bk_inl ?_)))
          have h_414 := ir_41_34 hI_409
          have h_415 : c_408 56 ((c_392 41 34)) = c_408 56 (c 41 34) := congrArg (c_408 56) (by first | assumption | exact Int.le_antisymm (by omega) (by omega))
          have h_416 := ir_56 hI_409 (c 41 34)
          refine q_aload_n c_185_166 rfl (v_bip c_185_167 (by decide) ?_)
          have kn_417 : Hid (c_408 41 4 = c_392 41 4) := hF_410 41 4 (fun q => q.elim (fun h => absurd h.2 (ni rfl)) (fun h => absurd h.1 (nn rfl)))
          have h_418 : c_408 41 4 = c_392 41 4 := (hid kn_417)
          have kn_419 : Hid (c_392 41 3 = c 41 3) := (hF_394 41 3 qn_97fd72088).trans (hid kn_390)
          have kn_420 : Hid (c_408 41 3 = c 41 3) := (hF_410 41 3 (fun q => q.elim (fun h => absurd h.2 (ni rfl)) (fun h => absurd h.1 (nn rfl)))).trans (hid kn_419)
          have h_421 : c_408 41 3 = c 41 3 := (hid kn_420)
          have kn_422 : Hid (c_408 41 5 = c_392 41 5) := hF_410 41 5 (fun q => q.elim (fun h => absurd h.2 (ni rfl)) (fun h => absurd h.1 (nn rfl)))
          have h_423 : c_408 41 5 = c_392 41 5 := (hid kn_422)
          refine v_cv c_185_169 km_8_229 rfl rfl (nb_ rfl) ⟨⟨rfl, rfl⟩, nb_ rfl, rfl⟩ (nb_ rfl) (nb_ rfl) (s_161 (a1 := 59) hI_409 (show 1 ≤ 59 ∧ 59 ≤ 255 from ⟨by decide, by decide⟩) (fun c_424 hI_425 hF_426 h_427 h_428 h_429 h_430 => (bk_inl ?_)))
          have h_431 := ir_41_4 hI_425
          have h_432 := ir_41_5 hI_425
          refine q_vret rfl rfl ?_
          have kn_433 : Hid (c_424 41 34 = c_408 41 34) := hF_426 41 34 qn_14d4d2881
          have h_434 : c_424 41 34 = c_408 41 34 := (hid kn_433)
          have h_435 : c_424 41 34 = c_408 41 34 := (hid kn_433)
          have kn_436 : Hid (c_6 41 7 = c 41 7) := hF_8 41 7 (fun h => absurd h.2 (ni rfl))
          have kn_437 : Hid (c_31 41 7 = c 41 7) := (hF_33 41 7 (fun h => absurd h.2 (ni rfl))).trans (hid kn_436)
          have kn_438 : Hid (c_379 41 7 = c 41 7) := (hF_381 41 7 qn_fb1117a24).trans (hid kn_437)
          have kn_439 : Hid (c_392 41 7 = c 41 7) := (hF_394 41 7 qn_fb1117a24).trans (hid kn_438)
          have kn_440 : Hid (c_408 41 7 = c 41 7) := (hF_410 41 7 (fun q => q.elim (fun h => absurd h.2 (ni rfl)) (fun h => absurd h.1 (nn rfl)))).trans (hid kn_439)
          have kn_441 : Hid (c_424 41 7 = c 41 7) := (hF_426 41 7 qn_fb1117a24).trans (hid kn_440)
          have h_442 : c_424 41 7 = c 41 7 := (hid kn_441)
          have hb9 : c_424 41 5 = c_424 41 5 := rfl
          have hn9 : c_424 41 34 = c_408 41 34 := (hid kn_433)
          have kn_443 : Hid (c_424 56 (c 41 34) = c_408 56 (c 41 34)) := hF_426 56 (c 41 34) qn_01f0bccfb
          have hq9 : c_424 56 (c 41 34) = c_408 56 (c 41 34) := (hid kn_443)
          exact K c_424 hI_425 (fun a j hm => (hF_426 a j (qv_b6152c67a hm)).trans ((hF_410 a j (fun q => q.elim (fun h => hm (Or.inr (Or.inr (Or.inr (Or.inr (Or.inl h)))))) (fun h => hm (Or.inr (Or.inr (Or.inr (Or.inr (Or.inr ⟨h.1, (Int.le_trans (by clear hm; first | exact q_e074ea49a | omega) h.2)⟩)))))))).trans ((hF_394 a j (qv_b6152c67a hm)).trans ((hF_381 a j (qv_b6152c67a hm)).trans ((hF_33 a j (fun h => hm (Or.inl h))).trans (hF_8 a j (fun h => hm (Or.inl h)))))))) (by first | exact q_04b113730 h_10 h_34 h_383 h_396 h_427 h_418 | omega) (by first | assumption | omega) (by first | (clear ho hq0 hq1 hq2 hq3 hq4 hq5 h_1 h_2 h_3 h_4 h_5 h_15 h_16 h_17 h_18 h_38 h_34 h_371 h_388 h_389 h_400 h_401 h_414 h_411 h_416 h_431 h_432 h_11 h_12 h_21 h_22 h_35 h_36 h_39 h_384 h_385 h_386 h_387 h_397 h_398 h_399 h_428 h_429 h_430; omega) | omega) (Or.inr (Or.inr ⟨by first | exact q_247a26009 h_11 h_35 h_384 h_397 h_428 hq1 h_24 h_375 h_391 h_421 h_418 | omega, by first | (clear ho hq0 hq1 hq2 hq3 hq4 hq5 h_1 h_2 h_3 h_4 h_5 h_15 h_16 h_17 h_18 h_38 h_34 h_371 h_388 h_389 h_400 h_401 h_414 h_411 h_416 h_431 h_432 h_11 h_14 h_21 h_22 h_35 h_37 h_39 h_384 h_385 h_386 h_387 h_397 h_398 h_399 h_412 h_413 h_428 h_429 h_430; omega) | omega⟩)) (by first | exact q_f9c88a064 h_411 | omega) (by first | exact q_1f022678a h_412 h_413 h_406 | omega) (fun h9 => ap_one (by first | (clear ho hq0 hq1 hq2 hq3 hq4 hq5 h_1 h_2 h_3 h_4 h_5 h_15 h_10 h_16 h_17 h_18 h_38 h_34 h_371 h_388 h_383 h_389 h_400 h_396 h_401 h_414 h_411 h_416 h_431 h_427 h_432 h_11 h_12 h_13 h_14 h_20 h_21 h_22 h_35 h_36 h_37 h_39 h_384 h_385 h_386 h_387 h_397 h_398 h_399 h_413 h_428 h_430; omega) | omega) (by first | assumption | omega) (Int.le_antisymm (by first | (clear ho hq0 hq1 hq2 hq3 hq4 hq5 h_1 h_2 h_3 h_4 h_5 h_15 h_10 h_16 h_17 h_18 h_38 h_34 h_40 h_371 h_388 h_383 h_389 h_400 h_396 h_401 h_414 h_411 h_416 h_431 h_427 h_432 h9 h_11 h_12 h_13 h_14 h_20 h_21 h_22 h_35 h_36 h_37 h_39 h_384 h_385 h_386 h_387 h_397 h_398 h_399 h_428 h_429 h_430; omega) | omega) (by first | (clear ho hq0 hq1 hq2 hq3 hq4 hq5 h_1 h_2 h_3 h_4 h_5 h_15 h_10 h_16 h_17 h_18 h_38 h_34 h_40 h_371 h_388 h_383 h_389 h_400 h_396 h_401 h_414 h_411 h_416 h_431 h_427 h_432 h_11 h_12 h_13 h_14 h_20 h_21 h_22 h_35 h_36 h_37 h_39 h_384 h_385 h_386 h_387 h_397 h_398 h_399 h_413 h_428 h_430; omega) | omega)))
      · refine v_ic_ne_f (t := 52) c_185_45 rfl (Decidable.not_not.mp h_39) (q_iconst c_185_48 (q_goto (t := 98) c_185_49 rfl (q_istore_n c_185_98 (nb_ rfl) (q_iload_n c_185_99 rfl (q_iconst c_185_100 (v_ic_ge_t (t := 111) c_185_101 rfl ⟨by decide, by first | exact q_8018c4608 h_39 | omega, (Int.le_trans hy_19.2 (by decide))⟩ (q_iconst c_185_111 ?_)))))))
        refine q_istore_n c_185_112 (nb_ rfl) (q_iload_n c_185_113 rfl (q_iconst c_185_114 (v_ic_ne_t (t := 125) c_185_115 rfl ⟨by first | exact q_39e4e74bc h_39 | omega, ⟨(Int.le_trans (by decide) hy_19.1), (Int.le_trans hy_19.2 (by decide))⟩, by decide, by decide⟩ (q_iload_n c_185_125 rfl (q_iconst c_185_126 (v_ic_ne_t (t := 141) c_185_127 rfl ⟨by first | exact q_080f350ec h_39 | omega, ⟨(Int.le_trans (by decide) hy_19.1), (Int.le_trans hy_19.2 (by decide))⟩, by decide, by decide⟩ (q_iconst c_185_141 ?_)))))))
        refine q_istore c_185_142 (nb_ rfl) (q_aload_n c_185_144 rfl (q_iload_n c_185_145 rfl (q_iload_n c_185_146 rfl (q_iload_n c_185_147 rfl (q_iload c_185_148 rfl (q_iload_n c_185_150 rfl (q_iconst c_185_151 ?_)))))))
        refine v_ic_ne_t (t := 162) c_185_152 rfl ⟨by first | exact q_39e4e74bc h_39 | omega, ⟨(Int.le_trans (by decide) hy_19.1), (Int.le_trans hy_19.2 (by decide))⟩, by decide, by decide⟩ (q_iconst c_185_162 ?_)
        have kn_444 : Hid (c_6 41 34 = c 41 34) := hF_8 41 34 (fun h => absurd h.2 (ni rfl))
        have kn_445 : Hid (c_31 41 34 = c 41 34) := (hF_33 41 34 (fun h => absurd h.2 (ni rfl))).trans (hid kn_444)
        have h_446 : c_31 41 34 = c 41 34 := (hid kn_445)
        have kn_447 : Hid (c_6 41 5 = c 41 5) := hF_8 41 5 (fun h => absurd h.2 (ni rfl))
        have kn_448 : Hid (c_31 41 5 = c 41 5) := (hF_33 41 5 (fun h => absurd h.2 (ni rfl))).trans (hid kn_447)
        have h_449 : c_31 41 5 = c 41 5 := (hid kn_448)
        have h_450 : c_31 41 34 = c 41 34 := (hid kn_445)
        refine v_cv c_185_163 km_8_301 rfl rfl (nb_ rfl) ⟨⟨rfl, rfl⟩, nb_ rfl, rfl⟩ (nb_ rfl) (nb_ rfl) (s_181 (a1 := y_19) (a2 := 0) (a3 := 0) (a4 := 0) (a5 := 0) hI_32 (show 0 ≤ y_19 ∧ y_19 ≤ 7 from ⟨by first | exact q_aa17faf97 h_39 | omega, hy_19.2⟩) (show 0 ≤ 0 ∧ 0 ≤ 40 from ⟨by decide, by decide⟩) (show 0 ≤ 0 ∧ 0 ≤ 5 from ⟨by decide, by decide⟩) (show 0 ≤ 0 ∧ 0 ≤ 999 from ⟨by decide, by decide⟩) (show 0 ≤ 0 ∧ 0 ≤ 5 from ⟨by decide, by decide⟩) (by first | exact q_f9c88a064 hq4 | omega) (Or.inr (Or.inr (by first | (clear ho hq0 hq1 hq5 h_1 h_2 h_3 h_4 h_5 h_15 h_16 h_17 h_18 h_38 h_34 h_11 h_13 h_14 h_21 h_22 h_35 h_36 h_37; omega) | omega))) (Or.inl (by first | exact q_23505497d h_39 | omega)) (Or.inl (by first | exact q_39e4e74bc h_39 | omega)) (Or.inl (by first | exact q_671577633 h_39 | omega)) (Or.inl (by first | exact q_080f350ec h_39 | omega)) (Or.inl (by first | exact q_9ce06fa3c h_39 | omega)) (Or.inl (by first | exact q_5382f5b2b h_39 | omega)) (Or.inl (by first | exact q_34c6018dc h_39 | omega)) (fun c_451 hI_452 hF_453 h_454 h_455 h_456 => (bk_inl ?_)))
        have h_457 := ir_41_34 hI_452
        have h_458 : c_451 56 ((c_31 41 34)) = c_451 56 (c 41 34) := congrArg (c_451 56) (by first | assumption | exact Int.le_antisymm (by omega) (by omega))
        have h_459 := ir_56 hI_452 (c 41 34)
        refine q_aload_n c_185_166 rfl (v_bip c_185_167 (by decide) ?_)
        have kn_460 : Hid (c_451 41 4 = c_31 41 4) := hF_453 41 4 (fun q => q.elim (fun h => absurd h.2 (ni rfl)) (fun h => absurd h.1 (nn rfl)))
        have h_461 : c_451 41 4 = c_31 41 4 := (hid kn_460)
        have kn_462 : Hid (c_31 41 3 = c 41 3) := (hF_33 41 3 (fun h => absurd h.2 (ni rfl))).trans (hid kn_23)
        have kn_463 : Hid (c_451 41 3 = c 41 3) := (hF_453 41 3 (fun q => q.elim (fun h => absurd h.2 (ni rfl)) (fun h => absurd h.1 (nn rfl)))).trans (hid kn_462)
        have h_464 : c_451 41 3 = c 41 3 := (hid kn_463)
        have kn_465 : Hid (c_451 41 5 = c 41 5) := (hF_453 41 5 (fun q => q.elim (fun h => absurd h.2 (ni rfl)) (fun h => absurd h.1 (nn rfl)))).trans (hid kn_448)
        have h_466 : c_451 41 5 = c 41 5 := (hid kn_465)
        refine v_cv c_185_169 km_8_229 rfl rfl (nb_ rfl) ⟨⟨rfl, rfl⟩, nb_ rfl, rfl⟩ (nb_ rfl) (nb_ rfl) (s_161 (a1 := 59) hI_452 (show 1 ≤ 59 ∧ 59 ≤ 255 from ⟨by decide, by decide⟩) (fun c_467 hI_468 hF_469 h_470 h_471 h_472 h_473 => (bk_inl ?_)))
        have h_474 := ir_41_4 hI_468
        have h_475 := ir_41_5 hI_468
        refine q_vret rfl rfl ?_
        have kn_476 : Hid (c_467 41 34 = c_451 41 34) := hF_469 41 34 qn_14d4d2881
        have h_477 : c_467 41 34 = c_451 41 34 := (hid kn_476)
        have h_478 : c_467 41 34 = c_451 41 34 := (hid kn_476)
        have kn_479 : Hid (c_6 41 7 = c 41 7) := hF_8 41 7 (fun h => absurd h.2 (ni rfl))
        have kn_480 : Hid (c_31 41 7 = c 41 7) := (hF_33 41 7 (fun h => absurd h.2 (ni rfl))).trans (hid kn_479)
        have kn_481 : Hid (c_451 41 7 = c 41 7) := (hF_453 41 7 (fun q => q.elim (fun h => absurd h.2 (ni rfl)) (fun h => absurd h.1 (nn rfl)))).trans (hid kn_480)
        have kn_482 : Hid (c_467 41 7 = c 41 7) := (hF_469 41 7 qn_fb1117a24).trans (hid kn_481)
        have h_483 : c_467 41 7 = c 41 7 := (hid kn_482)
        have hb9 : c_467 41 5 = c_467 41 5 := rfl
        have hn9 : c_467 41 34 = c_451 41 34 := (hid kn_476)
        have kn_484 : Hid (c_467 56 (c 41 34) = c_451 56 (c 41 34)) := hF_469 56 (c 41 34) qn_01f0bccfb
        have hq9 : c_467 56 (c 41 34) = c_451 56 (c 41 34) := (hid kn_484)
        exact K c_467 hI_468 (fun a j hm => (hF_469 a j (qv_b6152c67a hm)).trans ((hF_453 a j (fun q => q.elim (fun h => hm (Or.inr (Or.inr (Or.inr (Or.inr (Or.inl h)))))) (fun h => hm (Or.inr (Or.inr (Or.inr (Or.inr (Or.inr ⟨h.1, (Int.le_trans (by clear hm; first | exact q_e074ea49a | omega) h.2)⟩)))))))).trans ((hF_33 a j (fun h => hm (Or.inl h))).trans (hF_8 a j (fun h => hm (Or.inl h)))))) (by first | exact q_eaefcf06b h_10 h_34 h_470 h_461 | omega) (by first | assumption | omega) (by first | (clear ho hq1 hq2 hq3 hq4 hq5 h_1 h_2 h_3 h_4 h_5 h_15 h_16 h_17 h_18 h_38 h_34 h_39 h_457 h_454 h_474 h_475 h_11 h_12 h_21 h_22 h_35 h_36 h_456 h_471 h_472 h_473; omega) | omega) (Or.inr (Or.inr ⟨by first | exact q_578ccb610 h_11 h_35 h_471 hq1 h_24 h_464 h_461 | omega, by first | (clear ho hq0 hq1 hq2 hq3 hq4 hq5 h_1 h_2 h_3 h_4 h_5 h_15 h_16 h_17 h_18 h_38 h_34 h_457 h_454 h_459 h_474 h_475 h_11 h_14 h_21 h_22 h_35 h_37 h_455 h_456 h_471 h_472 h_473; omega) | omega⟩)) (by first | exact q_f9c88a064 h_454 | omega) (by first | (clear ho hq1 hq2 hq3 hq4 hq5 h_1 h_2 h_3 h_4 h_5 h_15 h_10 h_16 h_17 h_18 h_38 h_34 h_39 h_457 h_454 h_459 h_474 h_470 h_475 h_11 h_12 h_13 h_14 h_20 h_21 h_22 h_35 h_36 h_37 h_456 h_471 h_472 h_473; omega) | omega) (fun h9 => ap_one (by first | (clear ho hq1 hq2 hq3 hq4 hq5 h_1 h_2 h_3 h_4 h_5 h_15 h_10 h_16 h_17 h_18 h_38 h_34 h_457 h_454 h_459 h_474 h_470 h_475 h9 h_11 h_12 h_13 h_14 h_20 h_21 h_22 h_35 h_36 h_37 h_456 h_471 h_472 h_473; omega) | omega) (by first | assumption | omega) (Int.le_antisymm (by first | (clear ho hq1 hq2 hq3 hq4 hq5 h_1 h_2 h_3 h_4 h_5 h_15 h_10 h_16 h_17 h_18 h_38 h_34 h_39 h_457 h_454 h_459 h_474 h_470 h_475 h9 h_11 h_12 h_13 h_14 h_20 h_21 h_22 h_35 h_36 h_37 h_456 h_471 h_472 h_473; omega) | omega) (by first | (clear ho hq1 hq2 hq3 hq4 hq5 h_1 h_2 h_3 h_4 h_5 h_15 h_10 h_16 h_17 h_18 h_38 h_34 h_39 h_457 h_454 h_459 h_474 h_470 h_475 h9 h_11 h_12 h_13 h_14 h_20 h_21 h_22 h_35 h_36 h_37 h_456 h_471 h_472 h_473; omega) | omega)))
    · refine v_ic_ne_f (t := 38) c_185_28 rfl (Decidable.not_not.mp h_22) (q_aload_n c_185_31 rfl ?_)
      have kn_485 : Hid (c_6 41 5 = c 41 5) := hF_8 41 5 (fun h => absurd h.2 (ni rfl))
      have h_486 : c_6 41 5 = c 41 5 := (hid kn_485)
      have kn_487 : Hid (c_6 41 3 = c 41 3) := hF_8 41 3 (fun h => absurd h.2 (ni rfl))
      have h_488 : c_6 41 3 = c 41 3 := (hid kn_487)
      have kn_489 : Hid (c_6 41 34 = c 41 34) := hF_8 41 34 (fun h => absurd h.2 (ni rfl))
      have h_490 : c_6 41 34 = c 41 34 := (hid kn_489)
      have kn_491 : Hid (c_6 41 7 = c 41 7) := hF_8 41 7 (fun h => absurd h.2 (ni rfl))
      have h_492 : c_6 41 7 = c 41 7 := (hid kn_491)
      have h_493 : c_6 41 34 = c 41 34 := (hid kn_489)
      refine v_cv c_185_32 km_8_311 rfl rfl (nb_ rfl) ⟨⟨rfl, rfl⟩, nb_ rfl, rfl⟩ (nb_ rfl) (nb_ rfl) (s_184 (o := o) hI_7 (show 0 ≤ o ∧ o ≤ 6 from by omega) (by first | exact q_ef26995af hq0 | omega) (by first | exact q_385a9c048 h_11 hq1 | omega) (by first | exact q_7024b37ce hq2 | omega) (by first | exact q_563501041 h_10 hq3 | omega) (by first | exact q_f9c88a064 hq4 | omega) (by first | exact q_cea541e22 hq5 | omega) (by first | exact q_491caf385 h_12 h_20 h_22 | omega) H185 (fun c_494 hI_495 hF_496 h_497 h_498 h_499 h_500 h_501 h_502 hA_503 => (bk_inl ?_)))
      have h_504 := ir_41_4 hI_495
      have h_505 := ir_41_7 hI_495
      have h_506 := ir_41_34 hI_495
      have h_507 := ir_41_5 hI_495
      refine q_goto (t := 166) c_185_35 rfl (q_aload_n c_185_166 rfl (v_bip c_185_167 (by decide) ?_))
      have kn_508 : Hid (c_494 41 3 = c 41 3) := (hF_496 41 3 (fun q => q.elim (fun h => absurd h.2 (ni rfl)) (fun q => q.elim (fun h => absurd h.2 (ni rfl)) (fun q => q.elim (fun h => absurd h.2 (ni rfl)) (fun q => q.elim (fun h => absurd h.2 (ni rfl)) (fun q => q.elim (fun h => absurd h.2 (ni rfl)) (fun h => absurd h.1 (nn rfl)))))))).trans (hid kn_487)
      have h_509 : c_494 41 3 = c 41 3 := (hid kn_508)
      refine v_cv c_185_169 km_8_229 rfl rfl (nb_ rfl) ⟨⟨rfl, rfl⟩, nb_ rfl, rfl⟩ (nb_ rfl) (nb_ rfl) (s_161 (a1 := 59) hI_495 (show 1 ≤ 59 ∧ 59 ≤ 255 from ⟨by decide, by decide⟩) (fun c_510 hI_511 hF_512 h_513 h_514 h_515 h_516 => (bk_inl ?_)))
      have h_517 := ir_41_4 hI_511
      have h_518 := ir_41_5 hI_511
      refine q_vret rfl rfl ?_
      have kn_519 : Hid (c_510 41 34 = c_494 41 34) := hF_512 41 34 qn_14d4d2881
      have h_520 : c_510 41 34 = c_494 41 34 := (hid kn_519)
      have h_521 : c_510 41 34 = c_494 41 34 := (hid kn_519)
      have kn_522 : Hid (c_510 41 7 = c_494 41 7) := hF_512 41 7 qn_fb1117a24
      have h_523 : c_510 41 7 = c_494 41 7 := (hid kn_522)
      have hb9 : c_510 41 5 = c_510 41 5 := rfl
      have hn9 : c_510 41 34 = c_494 41 34 := (hid kn_519)
      exact K c_510 hI_511 (fun a j hm => (hF_512 a j (qv_b6152c67a hm)).trans ((hF_496 a j (fun q => q.elim (fun h => hm (Or.inl h)) (fun q => q.elim (fun h => hm (Or.inr (Or.inl h))) (fun q => q.elim (fun h => hm (Or.inr (Or.inr (Or.inl h)))) (fun q => q.elim (fun h => hm (Or.inr (Or.inr (Or.inr (Or.inl h))))) (fun q => q.elim (fun h => hm (Or.inr (Or.inr (Or.inr (Or.inr (Or.inl h)))))) (fun h => hm (Or.inr (Or.inr (Or.inr (Or.inr (Or.inr ⟨h.1, (Int.le_trans (by clear hm; first | exact q_e074ea49a | omega) h.2)⟩)))))))))))).trans (hF_8 a j (fun h => hm (Or.inl h))))) (by first | exact q_3fc299aa4 h_10 h_499 h_502 h_513 h_490 | omega) (by first | exact q_1bb533b1a h_498 h_492 | omega) (by first | exact q_bbf5f0e52 h_10 h_499 h_513 h_490 | omega) (by omega) (by first | exact q_f9c88a064 h_501 | omega) (by first | exact q_74cd69a50 h_502 h_490 | omega) (fun h9 => ap_fr (hA_503 (by omega)) (by omega) (show c 41 34 = c_6 41 34 from by rw [show c_6 41 34 = c 41 34 from (hid kn_489)]) (show c_510 41 34 = c_494 41 34 from by omega) (fun j h1 h2 => hF_512 56 j qn_01f0bccfb))
  · refine v_ic_ne_f (t := 25) c_185_10 rfl (Decidable.not_not.mp h_21) (q_aload_n c_185_13 rfl (q_iconst c_185_14 (q_aload_n c_185_15 rfl (v_gi (z := 4) (v := c_6 41 4) c_185_16 kf_8_108 rfl (nb_ rfl) rfl rfl rfl (v_cv c_185_19 km_8_138 rfl rfl (nb_ rfl) ⟨⟨rfl, rfl⟩, nb_ rfl, rfl⟩ (nb_ rfl) (nb_ rfl) (s_153 (a1 := 1) (a2 := c_6 41 4) hI_7 (show 1 ≤ 1 ∧ 1 ≤ 3 from ⟨by decide, by decide⟩) (show 0 ≤ c_6 41 4 ∧ c_6 41 4 ≤ 605 from h_15) (fun c_524 hI_525 hF_526 h_527 => (bk_inl ?_))))))))
    have h_528 := ir_41_5 hI_525
    refine q_goto (t := 166) c_185_22 rfl (q_aload_n c_185_166 rfl (v_bip c_185_167 (by decide) ?_))
    have kn_529 : Hid (c_524 41 4 = c_6 41 4) := hF_526 41 4 (fun q => q.elim (fun h => absurd h.2 (ni rfl)) (fun h => absurd h.2 (ni rfl)))
    have h_530 : c_524 41 4 = c_6 41 4 := (hid kn_529)
    have kn_531 : Hid (c_6 41 3 = c 41 3) := hF_8 41 3 (fun h => absurd h.2 (ni rfl))
    have kn_532 : Hid (c_524 41 3 = c 41 3) := (hF_526 41 3 (fun q => q.elim (fun h => absurd h.2 (ni rfl)) (fun h => absurd h.2 (ni rfl)))).trans (hid kn_531)
    have h_533 : c_524 41 3 = c 41 3 := (hid kn_532)
    refine v_cv c_185_169 km_8_229 rfl rfl (nb_ rfl) ⟨⟨rfl, rfl⟩, nb_ rfl, rfl⟩ (nb_ rfl) (nb_ rfl) (s_161 (a1 := 59) hI_525 (show 1 ≤ 59 ∧ 59 ≤ 255 from ⟨by decide, by decide⟩) (fun c_534 hI_535 hF_536 h_537 h_538 h_539 h_540 => (bk_inl ?_)))
    have h_541 := ir_41_4 hI_535
    have h_542 := ir_41_5 hI_535
    refine q_vret rfl rfl ?_
    have kn_543 : Hid (c_6 41 34 = c 41 34) := hF_8 41 34 (fun h => absurd h.2 (ni rfl))
    have kn_544 : Hid (c_524 41 34 = c 41 34) := (hF_526 41 34 (fun q => q.elim (fun h => absurd h.2 (ni rfl)) (fun h => absurd h.2 (ni rfl)))).trans (hid kn_543)
    have kn_545 : Hid (c_534 41 34 = c 41 34) := (hF_536 41 34 qn_14d4d2881).trans (hid kn_544)
    have h_546 : c_534 41 34 = c 41 34 := (hid kn_545)
    have h_547 : c_534 41 34 = c 41 34 := (hid kn_545)
    have kn_548 : Hid (c_6 41 7 = c 41 7) := hF_8 41 7 (fun h => absurd h.2 (ni rfl))
    have kn_549 : Hid (c_524 41 7 = c 41 7) := (hF_526 41 7 (fun q => q.elim (fun h => absurd h.2 (ni rfl)) (fun h => absurd h.2 (ni rfl)))).trans (hid kn_548)
    have kn_550 : Hid (c_534 41 7 = c 41 7) := (hF_536 41 7 qn_fb1117a24).trans (hid kn_549)
    have h_551 : c_534 41 7 = c 41 7 := (hid kn_550)
    have hb9 : c_534 41 5 = c_534 41 5 := rfl
    exact K c_534 hI_535 (fun a j hm => (hF_536 a j (qv_b6152c67a hm)).trans ((hF_526 a j (qv_d128e927b hm)).trans (hF_8 a j (fun h => hm (Or.inl h))))) (by first | exact q_a2672c344 h_10 h_537 h_530 | omega) (by first | assumption | omega) (by first | exact q_961aa4817 h_10 h_537 h_530 | omega) (Or.inr (Or.inl (by first | exact q_5af57fff9 h_527 h_539 h_542 | omega))) (by first | exact q_f9c88a064 hq4 | omega) (by first | exact q_e074ea49a | omega) (fun h9 => absurd h9 (by omega))
set_option maxRecDepth 100000 in
set_option maxHeartbeats 4000000 in
theorem r_185_n {sc : List Int32} {e : Int} {u P Q : Nat} : ∀ (m : Nat) (d : Nat) (c : ME) (o : Int) (Z : AR → Prop), o + (m : Int) = 6 → 0 ≤ o → Iv u e P Q c → ((c 41 5 = (-1))) → ((c 41 4 ≤ c 41 3)) → ((c 41 3 ≤ 150)) → ((3 * c 41 34 ≤ 5 * c 41 4)) → ((((c 41 34) % 5) = 0)) → (c 41 7 = o) → (∀ c2 : ME, Iv u e P Q c2 → (∀ (a : Nat) (j : Int), ¬ ((a = 41 ∧ j = 4) ∨ (a = 41 ∧ j = 5) ∨ (a = 41 ∧ j = 6) ∨ (a = 41 ∧ j = 7) ∨ (a = 41 ∧ j = 34) ∨ (a = 56 ∧ j ≥ c 41 34)) → c2 a j = c a j) → ((c2 41 4 ≥ c 41 4)) → ((c2 41 7 = c 41 7)) → ((5 * c 41 4 + 3 * c2 41 34 ≤ 3 * c 41 34 + 5 * c2 41 4)) → ((c2 41 5 < (-1)) ∨ (c2 41 5 > (-1)) ∨ (c2 41 4 ≤ c 41 3 ∧ c2 41 4 > c 41 4)) → ((((c2 41 34) % 5) = 0)) → ((c2 41 34 ≥ c 41 34)) → (c2 41 5 = -1 → Ap c2 56 (c 41 34) (c2 41 34)) → Z (.inl none, Wd P Q P P c2, 0, 0)) → Wp sc (d + 2 * m + 14) 185 0 [(0, .ref 41)] [] (Wd P Q P P c) 0 0 Z
  | 0, d, c, o, Z, hm, h0, hI, p0, p1, p2, p3, p4, p5, K => s_185 (d := d) (o := o) hI ⟨by omega, by omega⟩ p0 p1 p2 p3 p4 p5 (fun d9 c9 Z9 hd hc => absurd hc (by omega)) K
  | m + 1, d, c, o, Z, hm, h0, hI, p0, p1, p2, p3, p4, p5, K => by
    rw [show d + 2 * (m + 1) + 14 = (d + 2 * m + 2) + 14 by omega]
    refine s_185 (d := d + 2 * m + 2) (o := o) hI ⟨by omega, by omega⟩ p0 p1 p2 p3 p4 p5 (fun d9 c9 Z9 hd hc hI9 q0 q1 q2 q3 q4 q5 K9 => ?_) K
    have r := r_185_n (sc := sc) m (d9 - 2 * m - 2) c9 (o + 1) Z9 (by omega) (by omega) hI9 q0 q1 q2 q3 q4 q5 K9
    rw [show d9 - 2 * m - 2 + 2 * m + 14 = d9 + 12 by omega] at r
    exact r
set_option maxRecDepth 100000 in
set_option maxHeartbeats 4000000 in
theorem r_185 {sc : List Int32} {e : Int} {d u P Q : Nat} {c : ME} {o : Int} {Z : AR → Prop} (hI : Iv u e P Q c) (ho : 0 ≤ o ∧ o ≤ 6) (p0 : ((c 41 5 = (-1)))) (p1 : ((c 41 4 ≤ c 41 3))) (p2 : ((c 41 3 ≤ 150))) (p3 : ((3 * c 41 34 ≤ 5 * c 41 4))) (p4 : ((((c 41 34) % 5) = 0))) (p5 : c 41 7 = o) (K : (∀ c2 : ME, Iv u e P Q c2 → (∀ (a : Nat) (j : Int), ¬ ((a = 41 ∧ j = 4) ∨ (a = 41 ∧ j = 5) ∨ (a = 41 ∧ j = 6) ∨ (a = 41 ∧ j = 7) ∨ (a = 41 ∧ j = 34) ∨ (a = 56 ∧ j ≥ c 41 34)) → c2 a j = c a j) → ((c2 41 4 ≥ c 41 4)) → ((c2 41 7 = c 41 7)) → ((5 * c 41 4 + 3 * c2 41 34 ≤ 3 * c 41 34 + 5 * c2 41 4)) → ((c2 41 5 < (-1)) ∨ (c2 41 5 > (-1)) ∨ (c2 41 4 ≤ c 41 3 ∧ c2 41 4 > c 41 4)) → ((((c2 41 34) % 5) = 0)) → ((c2 41 34 ≥ c 41 34)) → (c2 41 5 = -1 → Ap c2 56 (c 41 34) (c2 41 34)) → Z (.inl none, Wd P Q P P c2, 0, 0))) : Wp sc (d + 26) 185 0 [(0, .ref 41)] [] (Wd P Q P P c) 0 0 Z := by
  obtain ⟨m, hm⟩ : ∃ m : Nat, (m : Int) = 6 - o := ⟨(6 - o).toNat, by omega⟩
  rw [show d + 26 = (d + 12 - 2 * m) + 2 * m + 14 by omega]
  exact r_185_n m _ c o Z (by omega) (by omega) hI p0 p1 p2 p3 p4 p5 K
end
section
/-! ===== contracts 14 ===== -/
theorem q_a49915bbb {x0 : Int} (f0 : 0 ≤ x0 ∧ x0 ≤ 5) : 4 * x0 < 37 := by omega
theorem q_7a0c0a739 {x0 : Int} (f0 : 0 ≤ x0 ∧ x0 ≤ 5) : 4 * x0 + 1 < 37 := by omega
theorem q_36e1404d4 {x0 : Int} (f0 : 0 ≤ x0 ∧ x0 ≤ 5) : 4 * x0 + 2 < 37 := by omega
theorem q_6b2d832d4 {x0 : Int} (f0 : 0 ≤ x0 ∧ x0 ≤ 5) : 4 * x0 + 3 < 37 := by omega
theorem c_186_0 : mLk 186 0 = some (.aload_n 0, 1) := rfl
theorem c_186_1 : mLk 186 1 = some (.aload_n 0, 1) := rfl
theorem c_186_2 : mLk 186 2 = some (.getfield 65, 3) := rfl
theorem c_186_5 : mLk 186 5 = some (.aload_n 0, 1) := rfl
theorem c_186_6 : mLk 186 6 = some (.getfield 68, 3) := rfl
theorem c_186_9 : mLk 186 9 = some (.bipush 37, 2) := rfl
theorem c_186_11 : mLk 186 11 = some (.invokevirtual 169, 3) := rfl
theorem c_187_0 : mLk 187 0 = some (.iconst 0, 1) := rfl
theorem c_187_1 : mLk 187 1 = some (.istore_n 2, 1) := rfl
theorem c_187_2 : mLk 187 2 = some (.iconst 0, 1) := rfl
theorem c_187_3 : mLk 187 3 = some (.istore_n 3, 1) := rfl
theorem c_187_4 : mLk 187 4 = some (.iload_n 3, 1) := rfl
theorem c_187_5 : mLk 187 5 = some (.iconst 4, 1) := rfl
theorem c_187_6 : mLk 187 6 = some (.if_icmp .ge 22, 3) := rfl
theorem c_187_9 : mLk 187 9 = some (.iload_n 2, 1) := rfl
theorem c_187_10 : mLk 187 10 = some (.aload_n 0, 1) := rfl
theorem c_187_11 : mLk 187 11 = some (.getfield 68, 3) := rfl
theorem c_187_14 : mLk 187 14 = some (.iconst 4, 1) := rfl
theorem c_187_15 : mLk 187 15 = some (.iload_n 1, 1) := rfl
theorem c_187_16 : mLk 187 16 = some (.imul, 1) := rfl
theorem c_187_17 : mLk 187 17 = some (.iload_n 3, 1) := rfl
theorem c_187_18 : mLk 187 18 = some (.iadd, 1) := rfl
theorem c_187_19 : mLk 187 19 = some (.iaload, 1) := rfl
theorem c_187_20 : mLk 187 20 = some (.iadd, 1) := rfl
theorem c_187_21 : mLk 187 21 = some (.istore_n 2, 1) := rfl
theorem c_187_22 : mLk 187 22 = some (.iinc 3 1, 3) := rfl
theorem c_187_25 : mLk 187 25 = some (.goto (-21), 3) := rfl
theorem c_187_28 : mLk 187 28 = some (.iload_n 2, 1) := rfl
theorem c_187_29 : mLk 187 29 = some (.ireturn, 1) := rfl
theorem kf_8_68 : a_lk (kF 8) 68 = some (8, 41) := rfl
set_option maxRecDepth 100000 in
set_option maxHeartbeats 4000000 in
theorem s_186 {sc : List Int32} {d P Q : Nat} {c : ME} {Z : AR → Prop} (hI : Iv 0 (-1) P Q c)  (K : ∀ (c2 : ME), Iv 0 (-1) P Q c2 → (∀ (a : Nat) (j : Int), ¬ (a = 59) → c2 a j = c a j) → Z (.inl (none), Wd P Q P P c2, 0, 0)) : Wp sc (d + 7) 186 0 [(0, .ref 41)] [] (Wd P Q P P c) 0 0 Z := by
  have hP := iv_P hI
  have hQ := iv_Q hI
  refine q_aload_n c_186_0 rfl (q_aload_n c_186_1 rfl (v_gr (t := 58) c_186_2 kf_8_65 rfl (nb_ rfl) rfl (q_aload_n c_186_5 rfl (v_gr (t := 59) c_186_6 kf_8_68 rfl (nb_ rfl) rfl (v_bip c_186_9 (by decide) (v_cv c_186_11 km_8_169 rfl rfl (nb_ rfl) ⟨⟨rfl, rfl⟩, nb_ rfl, rfl⟩ (nb_ rfl) (nb_ rfl) (s_148 (f := 58) (t := 59) (nf := 37) (nt := 37) (n := 37) rfl rfl (by decide) (by decide) (by decide) (by decide) (by decide) (by omega) (bk_inl ?_))))))))
  refine q_vret rfl rfl ?_
  have hI_1 := cp_58_59 hI
  exact K (upc c 58 0 59 0 37) hI_1 (fun a j hm => upc_c (fun h => hm h))

set_option maxRecDepth 100000 in
set_option maxHeartbeats 4000000 in
theorem s_187 {sc : List Int32} {e : Int} {d u P Q : Nat} {c : ME} {v1 v2 v3 v4 r : Int} {a1 : Int} {Z : AR → Prop} (hI : Iv u e P Q c) (ha1 : 0 ≤ a1 ∧ a1 ≤ 5) (hv0 : c 59 (4 * a1) = v1) (hv1 : c 59 (4 * a1 + 1) = v2) (hv2 : c 59 (4 * a1 + 2) = v3) (hv3 : c 59 (4 * a1 + 3) = v4) (hr9 : v1 + v2 + v3 + v4 = r) (K : Z (.inl (some (vi r)), Wd P Q P P c, 0, 0)) : Wp sc (d + 7) 187 0 [(0, .ref 41), (1, vi a1)] [] (Wd P Q P P c) 0 0 Z := by
  have hP := iv_P hI
  have hQ := iv_Q hI
  have h_1 := ir_59_g hI (j := 4 * a1) (by first | exact q_9f1d5ffdc ha1 | omega)
  have h_2 := ir_59_g hI (j := 4 * a1 + 1) (by first | exact q_0a2ee6f8f ha1 | omega)
  have h_3 := ir_59_g hI (j := 4 * a1 + 2) (by first | exact q_e07a293a2 ha1 | omega)
  have h_4 := ir_59_g hI (j := 4 * a1 + 3) (by first | exact q_d09cb0b73 ha1 | omega)
  refine q_iconst c_187_0 (q_istore_n c_187_1 (nb_ rfl) (q_iconst c_187_2 (q_istore_n c_187_3 (nb_ rfl) (q_iload_n c_187_4 rfl (q_iconst c_187_5 (v_ic_ge_f (t := 28) c_187_6 rfl (by decide) (q_iload_n c_187_9 rfl ?_)))))))
  refine q_aload_n c_187_10 rfl (v_gr (t := 59) c_187_11 kf_8_68 rfl (nb_ rfl) rfl (q_iconst c_187_14 (q_iload_n c_187_15 rfl (v_imul (v := 4 * a1) c_187_16 rfl (q_iload_n c_187_17 rfl (v_iadd (v := 4 * a1) c_187_18 (by first | exact q_8baad3eb5 | omega) (v_ia (v := v1) c_187_19 rfl (by decide) (by decide) ⟨by first | exact q_c065257af ha1 | omega, by first | exact q_a49915bbb ha1 | omega⟩ (hv0) ?_)))))))
  refine v_iadd (v := v1) c_187_20 (by first | exact q_afa8f900d | omega) (q_istore_n c_187_21 (nb_ rfl) (v_iinc (v := 1) c_187_22 rfl (nb_ rfl) (by decide) (q_goto (t := 4) c_187_25 rfl (q_iload_n c_187_4 rfl (q_iconst c_187_5 (v_ic_ge_f (t := 28) c_187_6 rfl (by decide) (q_iload_n c_187_9 rfl ?_)))))))
  refine q_aload_n c_187_10 rfl (v_gr (t := 59) c_187_11 kf_8_68 rfl (nb_ rfl) rfl (q_iconst c_187_14 (q_iload_n c_187_15 rfl (v_imul (v := 4 * a1) c_187_16 rfl (q_iload_n c_187_17 rfl (v_iadd (v := 4 * a1 + 1) c_187_18 rfl (v_ia (v := v2) c_187_19 rfl (by decide) (by decide) ⟨by first | exact q_83fdbd35d ha1 | omega, by first | exact q_7a0c0a739 ha1 | omega⟩ (hv1) ?_)))))))
  refine v_iadd (v := v1 + v2) c_187_20 rfl (q_istore_n c_187_21 (nb_ rfl) (Wp_ls [(2, vi (v1 + v2)), (3, vi 1), (0, .ref 41), (1, vi a1)] (lsub_cons rfl (lsub_cons rfl (lsub_cons rfl (lsub_cons rfl lsub_nil)))) (v_iinc (v := 2) c_187_22 rfl (nb_ rfl) (by decide) (q_goto (t := 4) c_187_25 rfl (q_iload_n c_187_4 rfl (q_iconst c_187_5 (v_ic_ge_f (t := 28) c_187_6 rfl (by decide) ?_)))))))
  refine q_iload_n c_187_9 rfl (q_aload_n c_187_10 rfl (v_gr (t := 59) c_187_11 kf_8_68 rfl (nb_ rfl) rfl (q_iconst c_187_14 (q_iload_n c_187_15 rfl (v_imul (v := 4 * a1) c_187_16 rfl (q_iload_n c_187_17 rfl (v_iadd (v := 4 * a1 + 2) c_187_18 rfl ?_)))))))
  refine v_ia (v := v3) c_187_19 rfl (by decide) (by decide) ⟨by first | exact q_0f37a0c6e ha1 | omega, by first | exact q_36e1404d4 ha1 | omega⟩ (hv2) (v_iadd (v := v1 + v2 + v3) c_187_20 rfl (q_istore_n c_187_21 (nb_ rfl) (v_iinc (v := 3) c_187_22 rfl (nb_ rfl) (by decide) (q_goto (t := 4) c_187_25 rfl (q_iload_n c_187_4 rfl (q_iconst c_187_5 (v_ic_ge_f (t := 28) c_187_6 rfl (by decide) ?_)))))))
  refine q_iload_n c_187_9 rfl (q_aload_n c_187_10 rfl (v_gr (t := 59) c_187_11 kf_8_68 rfl (nb_ rfl) rfl (q_iconst c_187_14 (q_iload_n c_187_15 rfl (v_imul (v := 4 * a1) c_187_16 rfl (q_iload_n c_187_17 rfl (v_iadd (v := 4 * a1 + 3) c_187_18 rfl ?_)))))))
  refine v_ia (v := v4) c_187_19 rfl (by decide) (by decide) ⟨by first | exact q_f6be69137 ha1 | omega, by first | exact q_6b2d832d4 ha1 | omega⟩ (hv3) (v_iadd (v := v1 + v2 + v3 + v4) c_187_20 rfl (q_istore_n c_187_21 (nb_ rfl) (v_iinc (v := 4) c_187_22 rfl (nb_ rfl) (by decide) (Wp_ls [(3, vi 4), (2, vi (v1 + v2 + v3 + v4)), (0, .ref 41), (1, vi a1)] (lsub_cons rfl (lsub_cons rfl (lsub_cons rfl (lsub_cons rfl lsub_nil)))) (q_goto (t := 4) c_187_25 rfl (q_iload_n c_187_4 rfl (q_iconst c_187_5 ?_)))))))
  refine v_ic_ge_t (t := 28) c_187_6 rfl (by decide) (q_iload_n c_187_28 rfl (q_iret c_187_29 rfl ?_))
  exact zv (by omega) (K)
end
section
/-! ===== contracts 15 ===== -/
theorem q_ca1a83e92 {x0 : Int} : 3 * x0 + 1 - 1 = 3 * x0 := by omega
theorem q_a528eb14d {x0 : Int} (f0 : 0 ≤ x0 ∧ x0 ≤ 3) : 0 ≤ 3 * x0 := by omega
theorem q_c653f2490 {x0 : Int} (f0 : 0 ≤ x0 ∧ x0 ≤ 3) : 3 * x0 < 12 := by omega
theorem q_c18172d1c {x0 : Int} : 4 * x0 + 1 - 1 = 4 * x0 := by omega
theorem q_3ad5d77f4 {x0 : Int} : 3 * x0 + 2 - 1 = 3 * x0 + 1 := by omega
theorem q_31334ae77 {x0 : Int} (f0 : 0 ≤ x0 ∧ x0 ≤ 3) : 0 ≤ 3 * x0 + 1 := by omega
theorem q_f26004469 {x0 : Int} (f0 : 0 ≤ x0 ∧ x0 ≤ 3) : 3 * x0 + 1 < 12 := by omega
theorem q_bcddc81b9 {x0 : Int} : 4 * x0 + 2 - 1 = 4 * x0 + 1 := by omega
theorem q_2ef804833 {x0 x1 x2 : Int} : x0 - x1 + x2 = x2 + x0 - x1 := by omega
theorem q_06fc98be1 {x0 : Int} : 3 * x0 + 3 - 1 = 3 * x0 + 2 := by omega
theorem q_b14b554d2 {x0 : Int} (f0 : 0 ≤ x0 ∧ x0 ≤ 3) : 0 ≤ 3 * x0 + 2 := by omega
theorem q_65819fa91 {x0 : Int} (f0 : 0 ≤ x0 ∧ x0 ≤ 3) : 3 * x0 + 2 < 12 := by omega
theorem q_ce3038700 {x0 : Int} : 4 * x0 + 3 - 1 = 4 * x0 + 2 := by omega
theorem q_b528aeba2 {x0 : Int} (f0 : 0 ≤ x0 ∧ x0 ≤ 5) : 4 * x0 < 35 := by omega
theorem q_ff1dc68db {x0 : Int} (f0 : 0 ≤ x0 ∧ x0 ≤ 5) : 4 * x0 + 2 < 35 := by omega
theorem q_f794b9410 {x0 : Int} (f0 : 0 ≤ x0 ∧ x0 ≤ 5) : 4 * x0 + 3 < 35 := by omega
theorem q_586eba1d6 {x0 : Int} (f0 : 0 ≤ x0 ∧ x0 ≤ 5) : 4 * x0 + 1 < 35 := by omega
theorem q_1025bcab1 {x0 : Int} : 30 + x0 = x0 + 30 := by omega
theorem q_26b090a2b {x0 : Int} (f0 : 0 ≤ x0 ∧ x0 ≤ 3) : x0 + 30 < 37 := by omega
theorem q_7e8eed9ea {x0 x1 : Int} (f0 : 0 ≤ x0 ∧ x0 ≤ 5) (f1 : 0 ≤ x1 ∧ x1 ≤ 3) : 4 * x0 + x1 < 37 := by omega
theorem q_57f615a18 {x0 : Int} (f0 : 0 ≤ x0 ∧ x0 ≤ 5) : x0 + 24 < 37 := by omega
theorem c_188_0 : mLk 188 0 = some (.aload_n 0, 1) := rfl
theorem c_188_1 : mLk 188 1 = some (.iload_n 2, 1) := rfl
theorem c_188_2 : mLk 188 2 = some (.invokevirtual 343, 3) := rfl
theorem c_188_5 : mLk 188 5 = some (.ifCond .ne 5, 3) := rfl
theorem c_188_10 : mLk 188 10 = some (.iconst 1, 1) := rfl
theorem c_188_11 : mLk 188 11 = some (.istore_n 3, 1) := rfl
theorem c_188_12 : mLk 188 12 = some (.iload_n 3, 1) := rfl
theorem c_188_13 : mLk 188 13 = some (.iconst 4, 1) := rfl
theorem c_188_14 : mLk 188 14 = some (.if_icmp .ge 69, 3) := rfl
theorem c_188_17 : mLk 188 17 = some (.aload_n 0, 1) := rfl
theorem c_188_18 : mLk 188 18 = some (.getfield 68, 3) := rfl
theorem c_188_21 : mLk 188 21 = some (.iconst 4, 1) := rfl
theorem c_188_22 : mLk 188 22 = some (.iload_n 2, 1) := rfl
theorem c_188_23 : mLk 188 23 = some (.imul, 1) := rfl
theorem c_188_24 : mLk 188 24 = some (.iload_n 3, 1) := rfl
theorem c_188_25 : mLk 188 25 = some (.iadd, 1) := rfl
theorem c_188_26 : mLk 188 26 = some (.iaload, 1) := rfl
theorem c_188_27 : mLk 188 27 = some (.aload_n 0, 1) := rfl
theorem c_188_28 : mLk 188 28 = some (.getfield 35, 3) := rfl
theorem c_188_31 : mLk 188 31 = some (.iconst 3, 1) := rfl
theorem c_188_32 : mLk 188 32 = some (.iload_n 1, 1) := rfl
theorem c_188_33 : mLk 188 33 = some (.imul, 1) := rfl
theorem c_188_34 : mLk 188 34 = some (.iload_n 3, 1) := rfl
theorem c_188_35 : mLk 188 35 = some (.iadd, 1) := rfl
theorem c_188_36 : mLk 188 36 = some (.iconst 1, 1) := rfl
theorem c_188_37 : mLk 188 37 = some (.isub, 1) := rfl
theorem c_188_38 : mLk 188 38 = some (.iaload, 1) := rfl
theorem c_188_40 : mLk 188 40 = some (.bipush 10, 2) := rfl
theorem c_188_43 : mLk 188 43 = some (.istore 4, 2) := rfl
theorem c_188_45 : mLk 188 45 = some (.aload_n 0, 1) := rfl
theorem c_188_46 : mLk 188 46 = some (.getfield 68, 3) := rfl
theorem c_188_49 : mLk 188 49 = some (.iconst 4, 1) := rfl
theorem c_188_50 : mLk 188 50 = some (.iload_n 2, 1) := rfl
theorem c_188_51 : mLk 188 51 = some (.imul, 1) := rfl
theorem c_188_52 : mLk 188 52 = some (.iload_n 3, 1) := rfl
theorem c_188_53 : mLk 188 53 = some (.iadd, 1) := rfl
theorem c_188_54 : mLk 188 54 = some (.dup2, 1) := rfl
theorem c_188_55 : mLk 188 55 = some (.iaload, 1) := rfl
theorem c_188_56 : mLk 188 56 = some (.iload 4, 2) := rfl
theorem c_188_59 : mLk 188 59 = some (.iastore, 1) := rfl
theorem c_188_60 : mLk 188 60 = some (.aload_n 0, 1) := rfl
theorem c_188_61 : mLk 188 61 = some (.getfield 68, 3) := rfl
theorem c_188_64 : mLk 188 64 = some (.iconst 4, 1) := rfl
theorem c_188_65 : mLk 188 65 = some (.iload_n 2, 1) := rfl
theorem c_188_66 : mLk 188 66 = some (.imul, 1) := rfl
theorem c_188_67 : mLk 188 67 = some (.iload_n 3, 1) := rfl
theorem c_188_68 : mLk 188 68 = some (.iadd, 1) := rfl
theorem c_188_69 : mLk 188 69 = some (.iconst 1, 1) := rfl
theorem c_188_70 : mLk 188 70 = some (.isub, 1) := rfl
theorem c_188_71 : mLk 188 71 = some (.dup2, 1) := rfl
theorem c_188_72 : mLk 188 72 = some (.iaload, 1) := rfl
theorem c_188_73 : mLk 188 73 = some (.iload 4, 2) := rfl
theorem c_188_76 : mLk 188 76 = some (.iastore, 1) := rfl
theorem c_188_77 : mLk 188 77 = some (.iinc 3 1, 3) := rfl
theorem c_188_80 : mLk 188 80 = some (.goto (-68), 3) := rfl
theorem c_188_83 : mLk 188 83 = some (.aload_n 0, 1) := rfl
theorem c_188_84 : mLk 188 84 = some (.getfield 68, 3) := rfl
theorem c_188_87 : mLk 188 87 = some (.iconst 4, 1) := rfl
theorem c_188_88 : mLk 188 88 = some (.iload_n 2, 1) := rfl
theorem c_188_89 : mLk 188 89 = some (.imul, 1) := rfl
theorem c_188_91 : mLk 188 91 = some (.aload_n 0, 1) := rfl
theorem c_188_92 : mLk 188 92 = some (.getfield 166, 3) := rfl
theorem c_188_96 : mLk 188 96 = some (.bipush 100, 2) := rfl
theorem c_188_99 : mLk 188 99 = some (.istore_n 3, 1) := rfl
theorem c_188_100 : mLk 188 100 = some (.aload_n 0, 1) := rfl
theorem c_188_101 : mLk 188 101 = some (.getfield 68, 3) := rfl
theorem c_188_104 : mLk 188 104 = some (.iconst 4, 1) := rfl
theorem c_188_105 : mLk 188 105 = some (.iload_n 2, 1) := rfl
theorem c_188_106 : mLk 188 106 = some (.imul, 1) := rfl
theorem c_188_107 : mLk 188 107 = some (.dup2, 1) := rfl
theorem c_188_109 : mLk 188 109 = some (.iload_n 3, 1) := rfl
theorem c_188_111 : mLk 188 111 = some (.iastore, 1) := rfl
theorem c_188_112 : mLk 188 112 = some (.aload_n 0, 1) := rfl
theorem c_188_113 : mLk 188 113 = some (.getfield 68, 3) := rfl
theorem c_188_116 : mLk 188 116 = some (.bipush 35, 2) := rfl
theorem c_188_118 : mLk 188 118 = some (.dup2, 1) := rfl
theorem c_188_119 : mLk 188 119 = some (.iaload, 1) := rfl
theorem c_188_120 : mLk 188 120 = some (.iload_n 3, 1) := rfl
theorem c_188_122 : mLk 188 122 = some (.iastore, 1) := rfl
theorem c_188_123 : mLk 188 123 = some (.iconst 1, 1) := rfl
theorem c_188_124 : mLk 188 124 = some (.ireturn, 1) := rfl
theorem c_188_8 : mLk 188 8 = some (.iconst 0, 1) := rfl
theorem c_188_9 : mLk 188 9 = some (.ireturn, 1) := rfl
theorem c_189_0 : mLk 189 0 = some (.iload_n 3, 1) := rfl
theorem c_189_1 : mLk 189 1 = some (.aload_n 0, 1) := rfl
theorem c_189_2 : mLk 189 2 = some (.getfield 38, 3) := rfl
theorem c_189_5 : mLk 189 5 = some (.iload_n 1, 1) := rfl
theorem c_189_6 : mLk 189 6 = some (.iaload, 1) := rfl
theorem c_189_7 : mLk 189 7 = some (.if_icmp .gt 16, 3) := rfl
theorem c_189_23 : mLk 189 23 = some (.iload_n 3, 1) := rfl
theorem c_189_24 : mLk 189 24 = some (.aload_n 0, 1) := rfl
theorem c_189_25 : mLk 189 25 = some (.getfield 38, 3) := rfl
theorem c_189_28 : mLk 189 28 = some (.iload_n 1, 1) := rfl
theorem c_189_29 : mLk 189 29 = some (.iaload, 1) := rfl
theorem c_189_30 : mLk 189 30 = some (.iconst 1, 1) := rfl
theorem c_189_31 : mLk 189 31 = some (.iadd, 1) := rfl
theorem c_189_32 : mLk 189 32 = some (.if_icmp .ne 31, 3) := rfl
theorem c_189_63 : mLk 189 63 = some (.iconst 0, 1) := rfl
theorem c_189_64 : mLk 189 64 = some (.ireturn, 1) := rfl
theorem c_189_35 : mLk 189 35 = some (.aload_n 0, 1) := rfl
theorem c_189_36 : mLk 189 36 = some (.getfield 68, 3) := rfl
theorem c_189_39 : mLk 189 39 = some (.bipush 30, 2) := rfl
theorem c_189_41 : mLk 189 41 = some (.iload_n 1, 1) := rfl
theorem c_189_42 : mLk 189 42 = some (.iadd, 1) := rfl
theorem c_189_43 : mLk 189 43 = some (.iaload, 1) := rfl
theorem c_189_44 : mLk 189 44 = some (.iconst 1, 1) := rfl
theorem c_189_45 : mLk 189 45 = some (.if_icmp .ne 18, 3) := rfl
theorem c_189_48 : mLk 189 48 = some (.aload_n 0, 1) := rfl
theorem c_189_49 : mLk 189 49 = some (.getfield 68, 3) := rfl
theorem c_189_52 : mLk 189 52 = some (.iconst 4, 1) := rfl
theorem c_189_53 : mLk 189 53 = some (.iload_n 2, 1) := rfl
theorem c_189_54 : mLk 189 54 = some (.imul, 1) := rfl
theorem c_189_55 : mLk 189 55 = some (.iload_n 3, 1) := rfl
theorem c_189_56 : mLk 189 56 = some (.iadd, 1) := rfl
theorem c_189_57 : mLk 189 57 = some (.iaload, 1) := rfl
theorem c_189_58 : mLk 189 58 = some (.iconst 2, 1) := rfl
theorem c_189_59 : mLk 189 59 = some (.idiv, 1) := rfl
theorem c_189_60 : mLk 189 60 = some (.goto 4, 3) := rfl
theorem c_189_10 : mLk 189 10 = some (.aload_n 0, 1) := rfl
theorem c_189_11 : mLk 189 11 = some (.getfield 68, 3) := rfl
theorem c_189_14 : mLk 189 14 = some (.iconst 4, 1) := rfl
theorem c_189_15 : mLk 189 15 = some (.iload_n 2, 1) := rfl
theorem c_189_16 : mLk 189 16 = some (.imul, 1) := rfl
theorem c_189_17 : mLk 189 17 = some (.iload_n 3, 1) := rfl
theorem c_189_18 : mLk 189 18 = some (.iadd, 1) := rfl
theorem c_189_19 : mLk 189 19 = some (.iaload, 1) := rfl
theorem c_189_20 : mLk 189 20 = some (.goto 44, 3) := rfl
theorem c_190_0 : mLk 190 0 = some (.iconst 0, 1) := rfl
theorem c_190_1 : mLk 190 1 = some (.istore_n 3, 1) := rfl
theorem c_190_2 : mLk 190 2 = some (.iconst 0, 1) := rfl
theorem c_190_3 : mLk 190 3 = some (.istore 4, 2) := rfl
theorem c_190_5 : mLk 190 5 = some (.iload 4, 2) := rfl
theorem c_190_7 : mLk 190 7 = some (.iconst 4, 1) := rfl
theorem c_190_8 : mLk 190 8 = some (.if_icmp .ge 20, 3) := rfl
theorem c_190_11 : mLk 190 11 = some (.iload_n 3, 1) := rfl
theorem c_190_12 : mLk 190 12 = some (.aload_n 0, 1) := rfl
theorem c_190_13 : mLk 190 13 = some (.iload_n 1, 1) := rfl
theorem c_190_14 : mLk 190 14 = some (.iload_n 2, 1) := rfl
theorem c_190_15 : mLk 190 15 = some (.iload 4, 2) := rfl
theorem c_190_17 : mLk 190 17 = some (.invokevirtual 363, 3) := rfl
theorem c_190_20 : mLk 190 20 = some (.iadd, 1) := rfl
theorem c_190_21 : mLk 190 21 = some (.istore_n 3, 1) := rfl
theorem c_190_22 : mLk 190 22 = some (.iinc 4 1, 3) := rfl
theorem c_190_25 : mLk 190 25 = some (.goto (-20), 3) := rfl
theorem c_190_28 : mLk 190 28 = some (.iload_n 3, 1) := rfl
theorem c_190_29 : mLk 190 29 = some (.ireturn, 1) := rfl
theorem c_191_0 : mLk 191 0 = some (.aload_n 0, 1) := rfl
theorem c_191_1 : mLk 191 1 = some (.getfield 68, 3) := rfl
theorem c_191_4 : mLk 191 4 = some (.bipush 24, 2) := rfl
theorem c_191_6 : mLk 191 6 = some (.iload_n 1, 1) := rfl
theorem c_191_7 : mLk 191 7 = some (.iadd, 1) := rfl
theorem c_191_8 : mLk 191 8 = some (.iload_n 2, 1) := rfl
theorem c_191_9 : mLk 191 9 = some (.aload_n 0, 1) := rfl
theorem c_191_10 : mLk 191 10 = some (.getfield 68, 3) := rfl
theorem c_191_13 : mLk 191 13 = some (.bipush 24, 2) := rfl
theorem c_191_15 : mLk 191 15 = some (.iload_n 1, 1) := rfl
theorem c_191_16 : mLk 191 16 = some (.iadd, 1) := rfl
theorem c_191_17 : mLk 191 17 = some (.iaload, 1) := rfl
theorem c_191_18 : mLk 191 18 = some (.if_icmp .le 7, 3) := rfl
theorem c_191_25 : mLk 191 25 = some (.aload_n 0, 1) := rfl
theorem c_191_26 : mLk 191 26 = some (.getfield 68, 3) := rfl
theorem c_191_29 : mLk 191 29 = some (.bipush 24, 2) := rfl
theorem c_191_31 : mLk 191 31 = some (.iload_n 1, 1) := rfl
theorem c_191_32 : mLk 191 32 = some (.iadd, 1) := rfl
theorem c_191_33 : mLk 191 33 = some (.iaload, 1) := rfl
theorem c_191_34 : mLk 191 34 = some (.iastore, 1) := rfl
theorem c_191_21 : mLk 191 21 = some (.iload_n 2, 1) := rfl
theorem c_191_22 : mLk 191 22 = some (.goto 12, 3) := rfl
theorem c_192_0 : mLk 192 0 = some (.iconst 0, 1) := rfl
theorem c_192_1 : mLk 192 1 = some (.istore_n 2, 1) := rfl
theorem c_192_2 : mLk 192 2 = some (.iload_n 2, 1) := rfl
theorem c_192_3 : mLk 192 3 = some (.iconst 4, 1) := rfl
theorem c_192_4 : mLk 192 4 = some (.if_icmp .ge 20, 3) := rfl
theorem c_192_7 : mLk 192 7 = some (.aload_n 0, 1) := rfl
theorem c_192_8 : mLk 192 8 = some (.getfield 68, 3) := rfl
theorem c_192_11 : mLk 192 11 = some (.iconst 4, 1) := rfl
theorem c_192_12 : mLk 192 12 = some (.iload_n 1, 1) := rfl
theorem c_192_13 : mLk 192 13 = some (.imul, 1) := rfl
theorem c_192_14 : mLk 192 14 = some (.iload_n 2, 1) := rfl
theorem c_192_15 : mLk 192 15 = some (.iadd, 1) := rfl
theorem c_192_16 : mLk 192 16 = some (.iconst 0, 1) := rfl
theorem c_192_17 : mLk 192 17 = some (.iastore, 1) := rfl
theorem c_192_18 : mLk 192 18 = some (.iinc 2 1, 3) := rfl
theorem c_192_21 : mLk 192 21 = some (.goto (-19), 3) := rfl
theorem c_192_24 : mLk 192 24 = some (.aload_n 0, 1) := rfl
theorem c_192_25 : mLk 192 25 = some (.getfield 68, 3) := rfl
theorem c_192_28 : mLk 192 28 = some (.bipush 24, 2) := rfl
theorem c_192_30 : mLk 192 30 = some (.iload_n 1, 1) := rfl
theorem c_192_31 : mLk 192 31 = some (.iadd, 1) := rfl
theorem c_192_32 : mLk 192 32 = some (.iconst 0, 1) := rfl
theorem c_192_33 : mLk 192 33 = some (.iastore, 1) := rfl
theorem km_8_343 : a_lk (kM 8) 343 = some (0, 187) := rfl
theorem km_8_363 : a_lk (kM 8) 363 = some (0, 189) := rfl
set_option maxRecDepth 100000 in
set_option maxHeartbeats 4000000 in
theorem s_188 {sc : List Int32} {d P Q : Nat} {c : ME} {a1 : Int} {a2 : Int} {Z : AR → Prop} (hI : Iv 0 (-1) P Q c) (ha1 : 0 ≤ a1 ∧ a1 ≤ 3) (ha2 : 0 ≤ a2 ∧ a2 ≤ 5) (K : ∀ (c2 : ME) (y : Int), Iv 0 (-1) P Q c2 → (∀ (a : Nat) (j : Int), ¬ (a = 59) → c2 a j = c a j) → 0 ≤ y ∧ y ≤ 1 → Z (.inl (some (vi y)), Wd P Q P P c2, 0, 0)) : Wp sc (d + 8) 188 0 [(0, .ref 41), (1, vi a1), (2, vi a2)] [] (Wd P Q P P c) 0 0 Z := by
  have hP := iv_P hI
  have hQ := iv_Q hI
  have hIo : Iv 59 (-1) P Q c := iv_open hI
  have hsum_1 := ir_59_r hI (by decide) (j := a2) (by omega)
  have h_2 := ir_59_g hI (j := 4 * a2) (by first | exact q_9f1d5ffdc ha2 | omega)
  have h_3 := ir_59_g hI (j := 4 * a2 + 1) (by first | exact q_0a2ee6f8f ha2 | omega)
  have h_4 := ir_59_g hI (j := 4 * a2 + 2) (by first | exact q_e07a293a2 ha2 | omega)
  have h_5 := ir_59_g hI (j := 4 * a2 + 3) (by first | exact q_d09cb0b73 ha2 | omega)
  refine q_aload_n c_188_0 rfl (q_iload_n c_188_1 rfl (v_cv c_188_2 km_8_343 rfl rfl (nb_ rfl) ⟨⟨rfl, rfl⟩, nb_ rfl, rfl⟩ (nb_ rfl) (nb_ rfl) (s_187 (v1 := c 59 (4 * a2)) (v2 := c 59 (4 * a2 + 1)) (v3 := c 59 (4 * a2 + 2)) (v4 := c 59 (4 * a2 + 3)) (r := c 59 (4 * a2 + 1) + c 59 (4 * a2 + 2) + c 59 (4 * a2 + 3) + c 59 (4 * a2)) (a1 := a2) hIo (show 0 ≤ a2 ∧ a2 ≤ 5 from ha2) (rfl) (rfl) (rfl) (rfl) (by omega) (bk_inl ?_))))
  by_cases h_6 : c 59 (4 * a2 + 1) + c 59 (4 * a2 + 2) + c 59 (4 * a2 + 3) + c 59 (4 * a2) ≠ 0
  · refine v_if_ne_t (t := 10) c_188_5 rfl ⟨h_6, ⟨by first | exact q_e052ef40e h_2 h_3 h_4 h_5 | omega, by first | exact q_6719c4bfd hsum_1 | omega⟩, by decide, by decide⟩ (q_iconst c_188_10 (q_istore_n c_188_11 (nb_ rfl) (q_iload_n c_188_12 rfl (q_iconst c_188_13 (v_ic_ge_f (t := 83) c_188_14 rfl (by decide) (q_aload_n c_188_17 rfl (v_gr (t := 59) c_188_18 kf_8_68 rfl (nb_ rfl) rfl ?_)))))))
    refine q_iconst c_188_21 (q_iload_n c_188_22 rfl (v_imul (v := 4 * a2) c_188_23 rfl (q_iload_n c_188_24 rfl (v_iadd (v := 4 * a2 + 1) c_188_25 rfl (v_ia (v := c 59 (4 * a2 + 1)) c_188_26 rfl (by decide) (by decide) ⟨by first | exact q_83fdbd35d ha2 | omega, by first | exact q_7a0c0a739 ha2 | omega⟩ rfl (q_aload_n c_188_27 rfl (v_gr (t := 48) c_188_28 kf_8_35 rfl (nb_ rfl) rfl ?_)))))))
    refine q_iconst c_188_31 (q_iload_n c_188_32 rfl (v_imul (v := 3 * a1) c_188_33 rfl (q_iload_n c_188_34 rfl (v_iadd (v := 3 * a1 + 1) c_188_35 rfl (q_iconst c_188_36 (v_isub (v := 3 * a1) c_188_37 (by first | exact q_ca1a83e92 | omega) ?_))))))
    have h_7 := ir_48 hI (3 * a1)
    refine v_ia (v := c 48 (3 * a1)) c_188_38 rfl (by decide) (by decide) ⟨by first | exact q_a528eb14d ha1 | omega, by first | exact q_c653f2490 ha1 | omega⟩ rfl ?_
    have h_8 : 0 ≤ (c 59 (4 * a2 + 1)) * (c 48 (3 * a1)) ∧ (c 59 (4 * a2 + 1)) * (c 48 (3 * a1)) ≤ 10 * (c 59 (4 * a2 + 1)) := mul_bd (by omega) (by omega) (by omega)
    have h_9 : 0 ≤ (c 59 (4 * a2 + 1)) * (c 48 (3 * a1)) ∧ (c 59 (4 * a2 + 1)) * (c 48 (3 * a1)) ≤ 9999 * (c 48 (3 * a1)) := mul_bd2 (by omega) (by omega) (by omega)
    refine v_imul (v := ((c 59 (4 * a2 + 1)) * (c 48 (3 * a1)))) rfl rfl (v_bip c_188_40 (by decide) (v_idiv (v := (((c 59 (4 * a2 + 1)) * (c 48 (3 * a1))) / 10)) rfl (by omega) rfl (q_istore c_188_43 (nb_ rfl) (q_aload_n c_188_45 rfl (v_gr (t := 59) c_188_46 kf_8_68 rfl (nb_ rfl) rfl (q_iconst c_188_49 (q_iload_n c_188_50 rfl ?_)))))))
    refine v_imul (v := 4 * a2) c_188_51 rfl (q_iload_n c_188_52 rfl (v_iadd (v := 4 * a2 + 1) c_188_53 rfl (q_dup2 c_188_54 ⟨rfl, rfl⟩ (v_ia (v := c 59 (4 * a2 + 1)) c_188_55 rfl (by decide) (by decide) ⟨by first | exact q_83fdbd35d ha2 | omega, by first | exact q_7a0c0a739 ha2 | omega⟩ rfl (q_iload c_188_56 rfl (v_isub (v := c 59 (4 * a2 + 1) - (((c 59 (4 * a2 + 1)) * (c 48 (3 * a1))) / 10)) rfl rfl (v_is c_188_59 rfl (by decide) (by decide) ⟨by first | exact q_83fdbd35d ha2 | omega, by first | exact q_7a0c0a739 ha2 | omega⟩ ?_)))))))
    refine q_aload_n c_188_60 rfl (v_gr (t := 59) c_188_61 kf_8_68 rfl (nb_ rfl) rfl (q_iconst c_188_64 (q_iload_n c_188_65 rfl (v_imul (v := 4 * a2) c_188_66 rfl (q_iload_n c_188_67 rfl (v_iadd (v := 4 * a2 + 1) c_188_68 rfl (q_iconst c_188_69 ?_)))))))
    refine v_isub (v := 4 * a2) c_188_70 (by first | exact q_c18172d1c | omega) (q_dup2 c_188_71 ⟨rfl, rfl⟩ (v_ia (v := c 59 (4 * a2)) c_188_72 rfl (by decide) (by decide) ⟨by first | exact q_c065257af ha2 | omega, by first | exact q_a49915bbb ha2 | omega⟩ (up_n (by first | exact ne_0a (by decide) | omega)) (q_iload c_188_73 rfl (v_iadd (v := (((c 59 (4 * a2 + 1)) * (c 48 (3 * a1))) / 10) + c 59 (4 * a2)) rfl (by first | exact q_893c89ded | omega) (v_is c_188_76 rfl (by decide) (by decide) ⟨by first | exact q_c065257af ha2 | omega, by first | exact q_a49915bbb ha2 | omega⟩ (v_iinc (v := 2) c_188_77 rfl (nb_ rfl) (by decide) (q_goto (t := 12) c_188_80 rfl ?_)))))))
    refine q_iload_n c_188_12 rfl (q_iconst c_188_13 (v_ic_ge_f (t := 83) c_188_14 rfl (by decide) (q_aload_n c_188_17 rfl (v_gr (t := 59) c_188_18 kf_8_68 rfl (nb_ rfl) rfl (q_iconst c_188_21 (q_iload_n c_188_22 rfl (v_imul (v := 4 * a2) c_188_23 rfl ?_)))))))
    refine q_iload_n c_188_24 rfl (v_iadd (v := 4 * a2 + 2) c_188_25 rfl (v_ia (v := c 59 (4 * a2 + 2)) c_188_26 rfl (by decide) (by decide) ⟨by first | exact q_0f37a0c6e ha2 | omega, by first | exact q_36e1404d4 ha2 | omega⟩ ((up_n (by first | exact ne_a0 (by decide) | omega)).trans (up_n (by first | exact ne_aa (by decide) | omega))) (q_aload_n c_188_27 rfl (v_gr (t := 48) c_188_28 kf_8_35 rfl (nb_ rfl) rfl (q_iconst c_188_31 (q_iload_n c_188_32 rfl (v_imul (v := 3 * a1) c_188_33 rfl ?_)))))))
    refine q_iload_n c_188_34 rfl (v_iadd (v := 3 * a1 + 2) c_188_35 rfl (q_iconst c_188_36 (v_isub (v := 3 * a1 + 1) c_188_37 (by first | exact q_3ad5d77f4 | omega) ?_)))
    have h_10 := ir_48 hI (3 * a1 + 1)
    refine v_ia (v := c 48 (3 * a1 + 1)) c_188_38 rfl (by decide) (by decide) ⟨by first | exact q_31334ae77 ha1 | omega, by first | exact q_f26004469 ha1 | omega⟩ ((up_c (nn rfl)).trans (up_c (nn rfl))) ?_
    have h_11 : 0 ≤ (c 59 (4 * a2 + 2)) * (c 48 (3 * a1 + 1)) ∧ (c 59 (4 * a2 + 2)) * (c 48 (3 * a1 + 1)) ≤ 10 * (c 59 (4 * a2 + 2)) := mul_bd (by omega) (by omega) (by omega)
    have h_12 : 0 ≤ (c 59 (4 * a2 + 2)) * (c 48 (3 * a1 + 1)) ∧ (c 59 (4 * a2 + 2)) * (c 48 (3 * a1 + 1)) ≤ 9999 * (c 48 (3 * a1 + 1)) := mul_bd2 (by omega) (by omega) (by omega)
    refine v_imul (v := ((c 59 (4 * a2 + 2)) * (c 48 (3 * a1 + 1)))) rfl rfl (v_bip c_188_40 (by decide) (v_idiv (v := (((c 59 (4 * a2 + 2)) * (c 48 (3 * a1 + 1))) / 10)) rfl (by omega) rfl (q_istore c_188_43 (nb_ rfl) (q_aload_n c_188_45 rfl (v_gr (t := 59) c_188_46 kf_8_68 rfl (nb_ rfl) rfl (q_iconst c_188_49 (q_iload_n c_188_50 rfl ?_)))))))
    refine v_imul (v := 4 * a2) c_188_51 rfl (q_iload_n c_188_52 rfl (v_iadd (v := 4 * a2 + 2) c_188_53 rfl (q_dup2 c_188_54 ⟨rfl, rfl⟩ (v_ia (v := c 59 (4 * a2 + 2)) c_188_55 rfl (by decide) (by decide) ⟨by first | exact q_0f37a0c6e ha2 | omega, by first | exact q_36e1404d4 ha2 | omega⟩ ((up_n (by first | exact ne_a0 (by decide) | omega)).trans (up_n (by first | exact ne_aa (by decide) | omega))) (q_iload c_188_56 rfl (v_isub (v := c 59 (4 * a2 + 2) - (((c 59 (4 * a2 + 2)) * (c 48 (3 * a1 + 1))) / 10)) rfl rfl (v_is c_188_59 rfl (by decide) (by decide) ⟨by first | exact q_0f37a0c6e ha2 | omega, by first | exact q_36e1404d4 ha2 | omega⟩ ?_)))))))
    refine q_aload_n c_188_60 rfl (v_gr (t := 59) c_188_61 kf_8_68 rfl (nb_ rfl) rfl (q_iconst c_188_64 (q_iload_n c_188_65 rfl (v_imul (v := 4 * a2) c_188_66 rfl (q_iload_n c_188_67 rfl (v_iadd (v := 4 * a2 + 2) c_188_68 rfl (q_iconst c_188_69 ?_)))))))
    refine v_isub (v := 4 * a2 + 1) c_188_70 (by first | exact q_bcddc81b9 | omega) (q_dup2 c_188_71 ⟨rfl, rfl⟩ (v_ia (v := c 59 (4 * a2 + 1) - (((c 59 (4 * a2 + 1)) * (c 48 (3 * a1))) / 10)) rfl rfl (by decide) (by decide) ⟨by first | exact q_83fdbd35d ha2 | omega, by first | exact q_7a0c0a739 ha2 | omega⟩ ((up_n (by first | exact ne_aa (by decide) | omega)).trans ((up_n (by first | exact ne_a0 (by decide) | omega)).trans (up_e rfl))) (q_iload c_188_73 rfl (v_iadd (v := (((c 59 (4 * a2 + 2)) * (c 48 (3 * a1 + 1))) / 10) + c 59 (4 * a2 + 1) - (((c 59 (4 * a2 + 1)) * (c 48 (3 * a1))) / 10)) rfl (by first | exact q_2ef804833 | omega) (v_is c_188_76 rfl (by decide) (by decide) ⟨by first | exact q_83fdbd35d ha2 | omega, by first | exact q_7a0c0a739 ha2 | omega⟩ (v_iinc (v := 3) c_188_77 rfl (nb_ rfl) (by decide) (Wp_ls [(3, vi 3), (4, vi (((c 59 (4 * a2 + 2)) * (c 48 (3 * a1 + 1))) / 10)), (0, .ref 41), (1, vi a1), (2, vi a2)] (lsub_cons rfl (lsub_cons rfl (lsub_cons rfl (lsub_cons rfl (lsub_cons rfl lsub_nil))))) ?_)))))))
    refine q_goto (t := 12) c_188_80 rfl (q_iload_n c_188_12 rfl (q_iconst c_188_13 (v_ic_ge_f (t := 83) c_188_14 rfl (by decide) (q_aload_n c_188_17 rfl (v_gr (t := 59) c_188_18 kf_8_68 rfl (nb_ rfl) rfl (q_iconst c_188_21 (q_iload_n c_188_22 rfl ?_)))))))
    refine v_imul (v := 4 * a2) c_188_23 rfl (q_iload_n c_188_24 rfl (v_iadd (v := 4 * a2 + 3) c_188_25 rfl (v_ia (v := c 59 (4 * a2 + 3)) c_188_26 rfl (by decide) (by decide) ⟨by first | exact q_f6be69137 ha2 | omega, by first | exact q_6b2d832d4 ha2 | omega⟩ ((up_n (by first | exact ne_aa (by decide) | omega)).trans ((up_n (by first | exact ne_aa (by decide) | omega)).trans ((up_n (by first | exact ne_a0 (by decide) | omega)).trans (up_n (by first | exact ne_aa (by decide) | omega))))) (q_aload_n c_188_27 rfl (v_gr (t := 48) c_188_28 kf_8_35 rfl (nb_ rfl) rfl (q_iconst c_188_31 (q_iload_n c_188_32 rfl ?_)))))))
    refine v_imul (v := 3 * a1) c_188_33 rfl (q_iload_n c_188_34 rfl (v_iadd (v := 3 * a1 + 3) c_188_35 rfl (q_iconst c_188_36 (v_isub (v := 3 * a1 + 2) c_188_37 (by first | exact q_06fc98be1 | omega) ?_))))
    have h_13 := ir_48 hI (3 * a1 + 2)
    refine v_ia (v := c 48 (3 * a1 + 2)) c_188_38 rfl (by decide) (by decide) ⟨by first | exact q_b14b554d2 ha1 | omega, by first | exact q_65819fa91 ha1 | omega⟩ ((up_c (nn rfl)).trans ((up_c (nn rfl)).trans ((up_c (nn rfl)).trans (up_c (nn rfl))))) ?_
    have h_14 : 0 ≤ (c 59 (4 * a2 + 3)) * (c 48 (3 * a1 + 2)) ∧ (c 59 (4 * a2 + 3)) * (c 48 (3 * a1 + 2)) ≤ 10 * (c 59 (4 * a2 + 3)) := mul_bd (by omega) (by omega) (by omega)
    have h_15 : 0 ≤ (c 59 (4 * a2 + 3)) * (c 48 (3 * a1 + 2)) ∧ (c 59 (4 * a2 + 3)) * (c 48 (3 * a1 + 2)) ≤ 9999 * (c 48 (3 * a1 + 2)) := mul_bd2 (by omega) (by omega) (by omega)
    refine v_imul (v := ((c 59 (4 * a2 + 3)) * (c 48 (3 * a1 + 2)))) rfl rfl (v_bip c_188_40 (by decide) (v_idiv (v := (((c 59 (4 * a2 + 3)) * (c 48 (3 * a1 + 2))) / 10)) rfl (by omega) rfl (q_istore c_188_43 (nb_ rfl) (q_aload_n c_188_45 rfl (v_gr (t := 59) c_188_46 kf_8_68 rfl (nb_ rfl) rfl (q_iconst c_188_49 (q_iload_n c_188_50 rfl ?_)))))))
    refine v_imul (v := 4 * a2) c_188_51 rfl (q_iload_n c_188_52 rfl (v_iadd (v := 4 * a2 + 3) c_188_53 rfl (q_dup2 c_188_54 ⟨rfl, rfl⟩ (v_ia (v := c 59 (4 * a2 + 3)) c_188_55 rfl (by decide) (by decide) ⟨by first | exact q_f6be69137 ha2 | omega, by first | exact q_6b2d832d4 ha2 | omega⟩ ((up_n (by first | exact ne_aa (by decide) | omega)).trans ((up_n (by first | exact ne_aa (by decide) | omega)).trans ((up_n (by first | exact ne_a0 (by decide) | omega)).trans (up_n (by first | exact ne_aa (by decide) | omega))))) (q_iload c_188_56 rfl (v_isub (v := c 59 (4 * a2 + 3) - (((c 59 (4 * a2 + 3)) * (c 48 (3 * a1 + 2))) / 10)) rfl rfl (v_is c_188_59 rfl (by decide) (by decide) ⟨by first | exact q_f6be69137 ha2 | omega, by first | exact q_6b2d832d4 ha2 | omega⟩ ?_)))))))
    refine q_aload_n c_188_60 rfl (v_gr (t := 59) c_188_61 kf_8_68 rfl (nb_ rfl) rfl (q_iconst c_188_64 (q_iload_n c_188_65 rfl (v_imul (v := 4 * a2) c_188_66 rfl (q_iload_n c_188_67 rfl (v_iadd (v := 4 * a2 + 3) c_188_68 rfl (q_iconst c_188_69 ?_)))))))
    refine v_isub (v := 4 * a2 + 2) c_188_70 (by first | exact q_ce3038700 | omega) (q_dup2 c_188_71 ⟨rfl, rfl⟩ (v_ia (v := c 59 (4 * a2 + 2) - (((c 59 (4 * a2 + 2)) * (c 48 (3 * a1 + 1))) / 10)) rfl rfl (by decide) (by decide) ⟨by first | exact q_0f37a0c6e ha2 | omega, by first | exact q_36e1404d4 ha2 | omega⟩ ((up_n (by first | exact ne_aa (by decide) | omega)).trans ((up_n (by first | exact ne_aa (by decide) | omega)).trans (up_e rfl))) (q_iload c_188_73 rfl (v_iadd (v := (((c 59 (4 * a2 + 3)) * (c 48 (3 * a1 + 2))) / 10) + c 59 (4 * a2 + 2) - (((c 59 (4 * a2 + 2)) * (c 48 (3 * a1 + 1))) / 10)) rfl (by first | exact q_2ef804833 | omega) (v_is c_188_76 rfl (by decide) (by decide) ⟨by first | exact q_0f37a0c6e ha2 | omega, by first | exact q_36e1404d4 ha2 | omega⟩ (v_iinc (v := 4) c_188_77 rfl (nb_ rfl) (by decide) (q_goto (t := 12) c_188_80 rfl ?_)))))))
    refine q_iload_n c_188_12 rfl (q_iconst c_188_13 (v_ic_ge_t (t := 83) c_188_14 rfl (by decide) (q_aload_n c_188_83 rfl (v_gr (t := 59) c_188_84 kf_8_68 rfl (nb_ rfl) rfl (q_iconst c_188_87 (q_iload_n c_188_88 rfl (v_imul (v := 4 * a2) c_188_89 rfl ?_)))))))
    refine v_ia (v := (((c 59 (4 * a2 + 1)) * (c 48 (3 * a1))) / 10) + c 59 (4 * a2)) rfl rfl (by decide) (by decide) ⟨by first | exact q_c065257af ha2 | omega, by first | exact q_a49915bbb ha2 | omega⟩ ((up_n (by first | exact ne_0a (by decide) | omega)).trans ((up_n (by first | exact ne_0a (by decide) | omega)).trans ((up_n (by first | exact ne_0a (by decide) | omega)).trans ((up_n (by first | exact ne_0a (by decide) | omega)).trans (up_e rfl))))) (q_aload_n c_188_91 rfl ?_)
    have h_16 := ir_41_23 hI
    refine v_gi (z := 23) (v := c 41 23) c_188_92 kf_8_166 rfl (nb_ rfl) rfl rfl ((up_c (nn rfl)).trans ((up_c (nn rfl)).trans ((up_c (nn rfl)).trans ((up_c (nn rfl)).trans ((up_c (nn rfl)).trans (up_c (nn rfl))))))) ?_
    have h_17 : 0 ≤ ((((c 59 (4 * a2 + 1)) * (c 48 (3 * a1))) / 10) + c 59 (4 * a2)) * (c 41 23) ∧ ((((c 59 (4 * a2 + 1)) * (c 48 (3 * a1))) / 10) + c 59 (4 * a2)) * (c 41 23) ≤ 50 * ((((c 59 (4 * a2 + 1)) * (c 48 (3 * a1))) / 10) + c 59 (4 * a2)) := mul_bd (by omega) (by omega) (by omega)
    have h_18 : 0 ≤ ((((c 59 (4 * a2 + 1)) * (c 48 (3 * a1))) / 10) + c 59 (4 * a2)) * (c 41 23) ∧ ((((c 59 (4 * a2 + 1)) * (c 48 (3 * a1))) / 10) + c 59 (4 * a2)) * (c 41 23) ≤ 9999 * (c 41 23) := mul_bd2 (by omega) (by omega) (by omega)
    refine v_imul (v := (((((c 59 (4 * a2 + 1)) * (c 48 (3 * a1))) / 10) + c 59 (4 * a2)) * (c 41 23))) rfl rfl (v_bip c_188_96 (by decide) (v_idiv (v := ((((((c 59 (4 * a2 + 1)) * (c 48 (3 * a1))) / 10) + c 59 (4 * a2)) * (c 41 23)) / 100)) rfl (by omega) rfl (q_istore_n c_188_99 (nb_ rfl) (q_aload_n c_188_100 rfl (v_gr (t := 59) c_188_101 kf_8_68 rfl (nb_ rfl) rfl (q_iconst c_188_104 (q_iload_n c_188_105 rfl ?_)))))))
    refine v_imul (v := 4 * a2) c_188_106 rfl (q_dup2 c_188_107 ⟨rfl, rfl⟩ (v_ia (v := (((c 59 (4 * a2 + 1)) * (c 48 (3 * a1))) / 10) + c 59 (4 * a2)) rfl rfl (by decide) (by decide) ⟨by first | exact q_c065257af ha2 | omega, by first | exact q_a49915bbb ha2 | omega⟩ ((up_n (by first | exact ne_0a (by decide) | omega)).trans ((up_n (by first | exact ne_0a (by decide) | omega)).trans ((up_n (by first | exact ne_0a (by decide) | omega)).trans ((up_n (by first | exact ne_0a (by decide) | omega)).trans (up_e rfl))))) (q_iload_n c_188_109 rfl (v_isub (v := (((c 59 (4 * a2 + 1)) * (c 48 (3 * a1))) / 10) + c 59 (4 * a2) - ((((((c 59 (4 * a2 + 1)) * (c 48 (3 * a1))) / 10) + c 59 (4 * a2)) * (c 41 23)) / 100)) rfl rfl (v_is c_188_111 rfl (by decide) (by decide) ⟨by first | exact q_c065257af ha2 | omega, by first | exact q_a49915bbb ha2 | omega⟩ (q_aload_n c_188_112 rfl (v_gr (t := 59) c_188_113 kf_8_68 rfl (nb_ rfl) rfl ?_)))))))
    refine v_bip c_188_116 (by decide) (q_dup2 c_188_118 ⟨rfl, rfl⟩ ?_)
    have h_19 := ir_59 hI 35
    refine v_ia (v := c 59 35) c_188_119 rfl (by decide) (by decide) (by decide) ((up_n (ne_g (by first | exact q_b528aeba2 ha2 | omega))).trans ((up_n (ne_g (by first | exact q_ff1dc68db ha2 | omega))).trans ((up_n (ne_g (by first | exact q_f794b9410 ha2 | omega))).trans ((up_n (ne_g (by first | exact q_586eba1d6 ha2 | omega))).trans ((up_n (ne_g (by first | exact q_ff1dc68db ha2 | omega))).trans ((up_n (ne_g (by first | exact q_b528aeba2 ha2 | omega))).trans (up_n (ne_g (by first | exact q_586eba1d6 ha2 | omega))))))))) (q_iload_n c_188_120 rfl (v_iadd (v := ((((((c 59 (4 * a2 + 1)) * (c 48 (3 * a1))) / 10) + c 59 (4 * a2)) * (c 41 23)) / 100) + c 59 35) rfl (by first | exact q_893c89ded | omega) (v_nrm (fun y_20 hy_20 => (v_is c_188_122 rfl (by decide) (by decide) (by decide) (q_iconst c_188_123 (v_zret c_188_124 rfl (by decide) ?_)))))))
    have hI_21 := iwr0 (a := 59) (j := 4 * a2 + 1) (v := c 59 (4 * a2 + 1) - (((c 59 (4 * a2 + 1)) * (c 48 (3 * a1))) / 10)) hIo (by decide) ⟨by first | (clear ha1 ha2 h_2 h_3 h_4 h_5 hsum_1 h_7 h_9 h_10 h_11 h_12 h_13 h_14 h_15 h_16 h_17 h_18 h_19 h_6; omega) | omega, by first | (clear ha1 ha2 h_2 h_3 h_4 h_5 h_7 h_8 h_9 h_10 h_12 h_13 h_15 h_16 h_18 h_19 h_6; omega) | omega⟩
    have hI_22 := iwr0 (a := 59) (j := 4 * a2) (v := (((c 59 (4 * a2 + 1)) * (c 48 (3 * a1))) / 10) + c 59 (4 * a2)) hI_21 (by decide) ⟨by first | (clear ha1 ha2 h_2 h_3 h_4 h_5 hsum_1 h_7 h_8 h_9 h_10 h_11 h_12 h_13 h_14 h_15 h_16 h_18 h_19 h_6; omega) | omega, by first | (clear ha1 ha2 h_2 h_3 h_4 h_5 h_7 h_9 h_10 h_12 h_13 h_15 h_16 h_17 h_18 h_19 h_6; omega) | omega⟩
    have hI_23 := iwr0 (a := 59) (j := 4 * a2 + 2) (v := c 59 (4 * a2 + 2) - (((c 59 (4 * a2 + 2)) * (c 48 (3 * a1 + 1))) / 10)) hI_22 (by decide) ⟨by first | (clear ha1 ha2 h_2 h_3 h_4 h_5 hsum_1 h_7 h_8 h_9 h_10 h_12 h_13 h_14 h_15 h_16 h_17 h_18 h_19 h_6; omega) | omega, by first | (clear ha1 ha2 h_2 h_3 h_5 hsum_1 h_7 h_8 h_9 h_10 h_12 h_13 h_14 h_15 h_16 h_17 h_18 h_19 h_6; omega) | omega⟩
    have hI_24 := iwr0 (a := 59) (j := 4 * a2 + 1) (v := (((c 59 (4 * a2 + 2)) * (c 48 (3 * a1 + 1))) / 10) + c 59 (4 * a2 + 1) - (((c 59 (4 * a2 + 1)) * (c 48 (3 * a1))) / 10)) hI_23 (by decide) ⟨by first | (clear ha1 ha2 h_2 h_3 h_4 h_5 hsum_1 h_7 h_9 h_10 h_12 h_13 h_14 h_15 h_16 h_17 h_18 h_19 h_6; omega) | omega, by first | (clear ha1 ha2 h_2 h_3 h_4 h_5 h_7 h_8 h_9 h_10 h_12 h_13 h_15 h_16 h_18 h_19 h_6; omega) | omega⟩
    have hI_25 := iwr0 (a := 59) (j := 4 * a2 + 3) (v := c 59 (4 * a2 + 3) - (((c 59 (4 * a2 + 3)) * (c 48 (3 * a1 + 2))) / 10)) hI_24 (by decide) ⟨by first | (clear ha1 ha2 h_2 h_3 h_4 h_5 hsum_1 h_7 h_8 h_9 h_10 h_11 h_12 h_13 h_15 h_16 h_17 h_18 h_19 h_6; omega) | omega, by first | (clear ha1 ha2 h_2 h_3 h_4 hsum_1 h_7 h_8 h_9 h_10 h_11 h_12 h_13 h_15 h_16 h_17 h_18 h_19 h_6; omega) | omega⟩
    have hI_26 := iwr0 (a := 59) (j := 4 * a2 + 2) (v := (((c 59 (4 * a2 + 3)) * (c 48 (3 * a1 + 2))) / 10) + c 59 (4 * a2 + 2) - (((c 59 (4 * a2 + 2)) * (c 48 (3 * a1 + 1))) / 10)) hI_25 (by decide) ⟨by first | (clear ha1 ha2 h_2 h_3 h_4 h_5 hsum_1 h_7 h_8 h_9 h_10 h_12 h_13 h_15 h_16 h_17 h_18 h_19 h_6; omega) | omega, by first | (clear ha1 ha2 h_2 h_3 h_4 h_5 h_7 h_9 h_10 h_12 h_13 h_15 h_16 h_18 h_19 h_6; omega) | omega⟩
    have hI_27 := iwr0 (a := 59) (j := 4 * a2) (v := (((c 59 (4 * a2 + 1)) * (c 48 (3 * a1))) / 10) + c 59 (4 * a2) - ((((((c 59 (4 * a2 + 1)) * (c 48 (3 * a1))) / 10) + c 59 (4 * a2)) * (c 41 23)) / 100)) hI_26 (by decide) ⟨by first | (clear ha1 ha2 h_2 h_3 h_4 h_5 hsum_1 h_7 h_8 h_9 h_10 h_11 h_12 h_13 h_14 h_15 h_16 h_18 h_19 h_6; omega) | omega, by first | (clear ha1 ha2 h_2 h_3 h_4 h_5 h_7 h_9 h_10 h_12 h_13 h_15 h_16 h_18 h_19 h_6; omega) | omega⟩
    have hI_28 := iwr1 (a := 59) (j := 35) (v := y_20) hI_27 (by decide) (by decide) ⟨hy_20.1, hy_20.2⟩
    have hr_29 : ∀ j : Int, rs 59 j → (up (up (up (up (up (up (up (up c 59 (4 * a2 + 1) (c 59 (4 * a2 + 1) - (((c 59 (4 * a2 + 1)) * (c 48 (3 * a1))) / 10))) 59 (4 * a2) ((((c 59 (4 * a2 + 1)) * (c 48 (3 * a1))) / 10) + c 59 (4 * a2))) 59 (4 * a2 + 2) (c 59 (4 * a2 + 2) - (((c 59 (4 * a2 + 2)) * (c 48 (3 * a1 + 1))) / 10))) 59 (4 * a2 + 1) ((((c 59 (4 * a2 + 2)) * (c 48 (3 * a1 + 1))) / 10) + c 59 (4 * a2 + 1) - (((c 59 (4 * a2 + 1)) * (c 48 (3 * a1))) / 10))) 59 (4 * a2 + 3) (c 59 (4 * a2 + 3) - (((c 59 (4 * a2 + 3)) * (c 48 (3 * a1 + 2))) / 10))) 59 (4 * a2 + 2) ((((c 59 (4 * a2 + 3)) * (c 48 (3 * a1 + 2))) / 10) + c 59 (4 * a2 + 2) - (((c 59 (4 * a2 + 2)) * (c 48 (3 * a1 + 1))) / 10))) 59 (4 * a2) ((((c 59 (4 * a2 + 1)) * (c 48 (3 * a1))) / 10) + c 59 (4 * a2) - ((((((c 59 (4 * a2 + 1)) * (c 48 (3 * a1))) / 10) + c 59 (4 * a2)) * (c 41 23)) / 100))) 59 35 y_20) 59 j + (up (up (up (up (up (up (up (up c 59 (4 * a2 + 1) (c 59 (4 * a2 + 1) - (((c 59 (4 * a2 + 1)) * (c 48 (3 * a1))) / 10))) 59 (4 * a2) ((((c 59 (4 * a2 + 1)) * (c 48 (3 * a1))) / 10) + c 59 (4 * a2))) 59 (4 * a2 + 2) (c 59 (4 * a2 + 2) - (((c 59 (4 * a2 + 2)) * (c 48 (3 * a1 + 1))) / 10))) 59 (4 * a2 + 1) ((((c 59 (4 * a2 + 2)) * (c 48 (3 * a1 + 1))) / 10) + c 59 (4 * a2 + 1) - (((c 59 (4 * a2 + 1)) * (c 48 (3 * a1))) / 10))) 59 (4 * a2 + 3) (c 59 (4 * a2 + 3) - (((c 59 (4 * a2 + 3)) * (c 48 (3 * a1 + 2))) / 10))) 59 (4 * a2 + 2) ((((c 59 (4 * a2 + 3)) * (c 48 (3 * a1 + 2))) / 10) + c 59 (4 * a2 + 2) - (((c 59 (4 * a2 + 2)) * (c 48 (3 * a1 + 1))) / 10))) 59 (4 * a2) ((((c 59 (4 * a2 + 1)) * (c 48 (3 * a1))) / 10) + c 59 (4 * a2) - ((((((c 59 (4 * a2 + 1)) * (c 48 (3 * a1))) / 10) + c 59 (4 * a2)) * (c 41 23)) / 100))) 59 35 y_20) 59 (j + 1) + (up (up (up (up (up (up (up (up c 59 (4 * a2 + 1) (c 59 (4 * a2 + 1) - (((c 59 (4 * a2 + 1)) * (c 48 (3 * a1))) / 10))) 59 (4 * a2) ((((c 59 (4 * a2 + 1)) * (c 48 (3 * a1))) / 10) + c 59 (4 * a2))) 59 (4 * a2 + 2) (c 59 (4 * a2 + 2) - (((c 59 (4 * a2 + 2)) * (c 48 (3 * a1 + 1))) / 10))) 59 (4 * a2 + 1) ((((c 59 (4 * a2 + 2)) * (c 48 (3 * a1 + 1))) / 10) + c 59 (4 * a2 + 1) - (((c 59 (4 * a2 + 1)) * (c 48 (3 * a1))) / 10))) 59 (4 * a2 + 3) (c 59 (4 * a2 + 3) - (((c 59 (4 * a2 + 3)) * (c 48 (3 * a1 + 2))) / 10))) 59 (4 * a2 + 2) ((((c 59 (4 * a2 + 3)) * (c 48 (3 * a1 + 2))) / 10) + c 59 (4 * a2 + 2) - (((c 59 (4 * a2 + 2)) * (c 48 (3 * a1 + 1))) / 10))) 59 (4 * a2) ((((c 59 (4 * a2 + 1)) * (c 48 (3 * a1))) / 10) + c 59 (4 * a2) - ((((((c 59 (4 * a2 + 1)) * (c 48 (3 * a1))) / 10) + c 59 (4 * a2)) * (c 41 23)) / 100))) 59 35 y_20) 59 (j + 2) + (up (up (up (up (up (up (up (up c 59 (4 * a2 + 1) (c 59 (4 * a2 + 1) - (((c 59 (4 * a2 + 1)) * (c 48 (3 * a1))) / 10))) 59 (4 * a2) ((((c 59 (4 * a2 + 1)) * (c 48 (3 * a1))) / 10) + c 59 (4 * a2))) 59 (4 * a2 + 2) (c 59 (4 * a2 + 2) - (((c 59 (4 * a2 + 2)) * (c 48 (3 * a1 + 1))) / 10))) 59 (4 * a2 + 1) ((((c 59 (4 * a2 + 2)) * (c 48 (3 * a1 + 1))) / 10) + c 59 (4 * a2 + 1) - (((c 59 (4 * a2 + 1)) * (c 48 (3 * a1))) / 10))) 59 (4 * a2 + 3) (c 59 (4 * a2 + 3) - (((c 59 (4 * a2 + 3)) * (c 48 (3 * a1 + 2))) / 10))) 59 (4 * a2 + 2) ((((c 59 (4 * a2 + 3)) * (c 48 (3 * a1 + 2))) / 10) + c 59 (4 * a2 + 2) - (((c 59 (4 * a2 + 2)) * (c 48 (3 * a1 + 1))) / 10))) 59 (4 * a2) ((((c 59 (4 * a2 + 1)) * (c 48 (3 * a1))) / 10) + c 59 (4 * a2) - ((((((c 59 (4 * a2 + 1)) * (c 48 (3 * a1))) / 10) + c 59 (4 * a2)) * (c 41 23)) / 100))) 59 35 y_20) 59 (j + 3) ≤ 9999 := by
      intro j9 hj9
      obtain ⟨k9, rfl, hk9⟩ := rs_59 hj9
      by_cases e_30 : k9 = a2
      · skip
        have h_31 : (up (up (up (up (up (up (up (up c 59 (4 * a2 + 1) (c 59 (4 * a2 + 1) - (((c 59 (4 * a2 + 1)) * (c 48 (3 * a1))) / 10))) 59 (4 * a2) ((((c 59 (4 * a2 + 1)) * (c 48 (3 * a1))) / 10) + c 59 (4 * a2))) 59 (4 * a2 + 2) (c 59 (4 * a2 + 2) - (((c 59 (4 * a2 + 2)) * (c 48 (3 * a1 + 1))) / 10))) 59 (4 * a2 + 1) ((((c 59 (4 * a2 + 2)) * (c 48 (3 * a1 + 1))) / 10) + c 59 (4 * a2 + 1) - (((c 59 (4 * a2 + 1)) * (c 48 (3 * a1))) / 10))) 59 (4 * a2 + 3) (c 59 (4 * a2 + 3) - (((c 59 (4 * a2 + 3)) * (c 48 (3 * a1 + 2))) / 10))) 59 (4 * a2 + 2) ((((c 59 (4 * a2 + 3)) * (c 48 (3 * a1 + 2))) / 10) + c 59 (4 * a2 + 2) - (((c 59 (4 * a2 + 2)) * (c 48 (3 * a1 + 1))) / 10))) 59 (4 * a2) ((((c 59 (4 * a2 + 1)) * (c 48 (3 * a1))) / 10) + c 59 (4 * a2) - ((((((c 59 (4 * a2 + 1)) * (c 48 (3 * a1))) / 10) + c 59 (4 * a2)) * (c 41 23)) / 100))) 59 35 y_20) 59 (4 * k9) = (((c 59 (4 * a2 + 1)) * (c 48 (3 * a1))) / 10) + c 59 (4 * a2) - ((((((c 59 (4 * a2 + 1)) * (c 48 (3 * a1))) / 10) + c 59 (4 * a2)) * (c 41 23)) / 100) := (congrArg ((up (up (up (up (up (up (up (up c 59 (4 * a2 + 1) (c 59 (4 * a2 + 1) - (((c 59 (4 * a2 + 1)) * (c 48 (3 * a1))) / 10))) 59 (4 * a2) ((((c 59 (4 * a2 + 1)) * (c 48 (3 * a1))) / 10) + c 59 (4 * a2))) 59 (4 * a2 + 2) (c 59 (4 * a2 + 2) - (((c 59 (4 * a2 + 2)) * (c 48 (3 * a1 + 1))) / 10))) 59 (4 * a2 + 1) ((((c 59 (4 * a2 + 2)) * (c 48 (3 * a1 + 1))) / 10) + c 59 (4 * a2 + 1) - (((c 59 (4 * a2 + 1)) * (c 48 (3 * a1))) / 10))) 59 (4 * a2 + 3) (c 59 (4 * a2 + 3) - (((c 59 (4 * a2 + 3)) * (c 48 (3 * a1 + 2))) / 10))) 59 (4 * a2 + 2) ((((c 59 (4 * a2 + 3)) * (c 48 (3 * a1 + 2))) / 10) + c 59 (4 * a2 + 2) - (((c 59 (4 * a2 + 2)) * (c 48 (3 * a1 + 1))) / 10))) 59 (4 * a2) ((((c 59 (4 * a2 + 1)) * (c 48 (3 * a1))) / 10) + c 59 (4 * a2) - ((((((c 59 (4 * a2 + 1)) * (c 48 (3 * a1))) / 10) + c 59 (4 * a2)) * (c 41 23)) / 100))) 59 35 y_20) 59) (show 4 * k9 = 4 * a2 from congrArg (fun z : Int => 4 * z) e_30)).trans ((up_n (ne_l (by first | exact q_b528aeba2 ha2 | omega))).trans (up_e rfl))
        have h_32 : (up (up (up (up (up (up (up (up c 59 (4 * a2 + 1) (c 59 (4 * a2 + 1) - (((c 59 (4 * a2 + 1)) * (c 48 (3 * a1))) / 10))) 59 (4 * a2) ((((c 59 (4 * a2 + 1)) * (c 48 (3 * a1))) / 10) + c 59 (4 * a2))) 59 (4 * a2 + 2) (c 59 (4 * a2 + 2) - (((c 59 (4 * a2 + 2)) * (c 48 (3 * a1 + 1))) / 10))) 59 (4 * a2 + 1) ((((c 59 (4 * a2 + 2)) * (c 48 (3 * a1 + 1))) / 10) + c 59 (4 * a2 + 1) - (((c 59 (4 * a2 + 1)) * (c 48 (3 * a1))) / 10))) 59 (4 * a2 + 3) (c 59 (4 * a2 + 3) - (((c 59 (4 * a2 + 3)) * (c 48 (3 * a1 + 2))) / 10))) 59 (4 * a2 + 2) ((((c 59 (4 * a2 + 3)) * (c 48 (3 * a1 + 2))) / 10) + c 59 (4 * a2 + 2) - (((c 59 (4 * a2 + 2)) * (c 48 (3 * a1 + 1))) / 10))) 59 (4 * a2) ((((c 59 (4 * a2 + 1)) * (c 48 (3 * a1))) / 10) + c 59 (4 * a2) - ((((((c 59 (4 * a2 + 1)) * (c 48 (3 * a1))) / 10) + c 59 (4 * a2)) * (c 41 23)) / 100))) 59 35 y_20) 59 (4 * k9 + 1) = (((c 59 (4 * a2 + 2)) * (c 48 (3 * a1 + 1))) / 10) + c 59 (4 * a2 + 1) - (((c 59 (4 * a2 + 1)) * (c 48 (3 * a1))) / 10) := (congrArg ((up (up (up (up (up (up (up (up c 59 (4 * a2 + 1) (c 59 (4 * a2 + 1) - (((c 59 (4 * a2 + 1)) * (c 48 (3 * a1))) / 10))) 59 (4 * a2) ((((c 59 (4 * a2 + 1)) * (c 48 (3 * a1))) / 10) + c 59 (4 * a2))) 59 (4 * a2 + 2) (c 59 (4 * a2 + 2) - (((c 59 (4 * a2 + 2)) * (c 48 (3 * a1 + 1))) / 10))) 59 (4 * a2 + 1) ((((c 59 (4 * a2 + 2)) * (c 48 (3 * a1 + 1))) / 10) + c 59 (4 * a2 + 1) - (((c 59 (4 * a2 + 1)) * (c 48 (3 * a1))) / 10))) 59 (4 * a2 + 3) (c 59 (4 * a2 + 3) - (((c 59 (4 * a2 + 3)) * (c 48 (3 * a1 + 2))) / 10))) 59 (4 * a2 + 2) ((((c 59 (4 * a2 + 3)) * (c 48 (3 * a1 + 2))) / 10) + c 59 (4 * a2 + 2) - (((c 59 (4 * a2 + 2)) * (c 48 (3 * a1 + 1))) / 10))) 59 (4 * a2) ((((c 59 (4 * a2 + 1)) * (c 48 (3 * a1))) / 10) + c 59 (4 * a2) - ((((((c 59 (4 * a2 + 1)) * (c 48 (3 * a1))) / 10) + c 59 (4 * a2)) * (c 41 23)) / 100))) 59 35 y_20) 59) (show 4 * k9 + 1 = 4 * a2 + 1 from congrArg (fun z : Int => 4 * z + 1) e_30)).trans ((up_n (ne_l (by first | exact q_586eba1d6 ha2 | omega))).trans ((up_n (by first | exact ne_a0 (by decide) | omega)).trans ((up_n (by first | exact ne_aa (by decide) | omega)).trans ((up_n (by first | exact ne_aa (by decide) | omega)).trans (up_e rfl)))))
        have h_33 : (up (up (up (up (up (up (up (up c 59 (4 * a2 + 1) (c 59 (4 * a2 + 1) - (((c 59 (4 * a2 + 1)) * (c 48 (3 * a1))) / 10))) 59 (4 * a2) ((((c 59 (4 * a2 + 1)) * (c 48 (3 * a1))) / 10) + c 59 (4 * a2))) 59 (4 * a2 + 2) (c 59 (4 * a2 + 2) - (((c 59 (4 * a2 + 2)) * (c 48 (3 * a1 + 1))) / 10))) 59 (4 * a2 + 1) ((((c 59 (4 * a2 + 2)) * (c 48 (3 * a1 + 1))) / 10) + c 59 (4 * a2 + 1) - (((c 59 (4 * a2 + 1)) * (c 48 (3 * a1))) / 10))) 59 (4 * a2 + 3) (c 59 (4 * a2 + 3) - (((c 59 (4 * a2 + 3)) * (c 48 (3 * a1 + 2))) / 10))) 59 (4 * a2 + 2) ((((c 59 (4 * a2 + 3)) * (c 48 (3 * a1 + 2))) / 10) + c 59 (4 * a2 + 2) - (((c 59 (4 * a2 + 2)) * (c 48 (3 * a1 + 1))) / 10))) 59 (4 * a2) ((((c 59 (4 * a2 + 1)) * (c 48 (3 * a1))) / 10) + c 59 (4 * a2) - ((((((c 59 (4 * a2 + 1)) * (c 48 (3 * a1))) / 10) + c 59 (4 * a2)) * (c 41 23)) / 100))) 59 35 y_20) 59 (4 * k9 + 2) = (((c 59 (4 * a2 + 3)) * (c 48 (3 * a1 + 2))) / 10) + c 59 (4 * a2 + 2) - (((c 59 (4 * a2 + 2)) * (c 48 (3 * a1 + 1))) / 10) := (congrArg ((up (up (up (up (up (up (up (up c 59 (4 * a2 + 1) (c 59 (4 * a2 + 1) - (((c 59 (4 * a2 + 1)) * (c 48 (3 * a1))) / 10))) 59 (4 * a2) ((((c 59 (4 * a2 + 1)) * (c 48 (3 * a1))) / 10) + c 59 (4 * a2))) 59 (4 * a2 + 2) (c 59 (4 * a2 + 2) - (((c 59 (4 * a2 + 2)) * (c 48 (3 * a1 + 1))) / 10))) 59 (4 * a2 + 1) ((((c 59 (4 * a2 + 2)) * (c 48 (3 * a1 + 1))) / 10) + c 59 (4 * a2 + 1) - (((c 59 (4 * a2 + 1)) * (c 48 (3 * a1))) / 10))) 59 (4 * a2 + 3) (c 59 (4 * a2 + 3) - (((c 59 (4 * a2 + 3)) * (c 48 (3 * a1 + 2))) / 10))) 59 (4 * a2 + 2) ((((c 59 (4 * a2 + 3)) * (c 48 (3 * a1 + 2))) / 10) + c 59 (4 * a2 + 2) - (((c 59 (4 * a2 + 2)) * (c 48 (3 * a1 + 1))) / 10))) 59 (4 * a2) ((((c 59 (4 * a2 + 1)) * (c 48 (3 * a1))) / 10) + c 59 (4 * a2) - ((((((c 59 (4 * a2 + 1)) * (c 48 (3 * a1))) / 10) + c 59 (4 * a2)) * (c 41 23)) / 100))) 59 35 y_20) 59) (show 4 * k9 + 2 = 4 * a2 + 2 from congrArg (fun z : Int => 4 * z + 2) e_30)).trans ((up_n (ne_l (by first | exact q_ff1dc68db ha2 | omega))).trans ((up_n (by first | exact ne_a0 (by decide) | omega)).trans (up_e rfl)))
        have h_34 : (up (up (up (up (up (up (up (up c 59 (4 * a2 + 1) (c 59 (4 * a2 + 1) - (((c 59 (4 * a2 + 1)) * (c 48 (3 * a1))) / 10))) 59 (4 * a2) ((((c 59 (4 * a2 + 1)) * (c 48 (3 * a1))) / 10) + c 59 (4 * a2))) 59 (4 * a2 + 2) (c 59 (4 * a2 + 2) - (((c 59 (4 * a2 + 2)) * (c 48 (3 * a1 + 1))) / 10))) 59 (4 * a2 + 1) ((((c 59 (4 * a2 + 2)) * (c 48 (3 * a1 + 1))) / 10) + c 59 (4 * a2 + 1) - (((c 59 (4 * a2 + 1)) * (c 48 (3 * a1))) / 10))) 59 (4 * a2 + 3) (c 59 (4 * a2 + 3) - (((c 59 (4 * a2 + 3)) * (c 48 (3 * a1 + 2))) / 10))) 59 (4 * a2 + 2) ((((c 59 (4 * a2 + 3)) * (c 48 (3 * a1 + 2))) / 10) + c 59 (4 * a2 + 2) - (((c 59 (4 * a2 + 2)) * (c 48 (3 * a1 + 1))) / 10))) 59 (4 * a2) ((((c 59 (4 * a2 + 1)) * (c 48 (3 * a1))) / 10) + c 59 (4 * a2) - ((((((c 59 (4 * a2 + 1)) * (c 48 (3 * a1))) / 10) + c 59 (4 * a2)) * (c 41 23)) / 100))) 59 35 y_20) 59 (4 * k9 + 3) = c 59 (4 * a2 + 3) - (((c 59 (4 * a2 + 3)) * (c 48 (3 * a1 + 2))) / 10) := (congrArg ((up (up (up (up (up (up (up (up c 59 (4 * a2 + 1) (c 59 (4 * a2 + 1) - (((c 59 (4 * a2 + 1)) * (c 48 (3 * a1))) / 10))) 59 (4 * a2) ((((c 59 (4 * a2 + 1)) * (c 48 (3 * a1))) / 10) + c 59 (4 * a2))) 59 (4 * a2 + 2) (c 59 (4 * a2 + 2) - (((c 59 (4 * a2 + 2)) * (c 48 (3 * a1 + 1))) / 10))) 59 (4 * a2 + 1) ((((c 59 (4 * a2 + 2)) * (c 48 (3 * a1 + 1))) / 10) + c 59 (4 * a2 + 1) - (((c 59 (4 * a2 + 1)) * (c 48 (3 * a1))) / 10))) 59 (4 * a2 + 3) (c 59 (4 * a2 + 3) - (((c 59 (4 * a2 + 3)) * (c 48 (3 * a1 + 2))) / 10))) 59 (4 * a2 + 2) ((((c 59 (4 * a2 + 3)) * (c 48 (3 * a1 + 2))) / 10) + c 59 (4 * a2 + 2) - (((c 59 (4 * a2 + 2)) * (c 48 (3 * a1 + 1))) / 10))) 59 (4 * a2) ((((c 59 (4 * a2 + 1)) * (c 48 (3 * a1))) / 10) + c 59 (4 * a2) - ((((((c 59 (4 * a2 + 1)) * (c 48 (3 * a1))) / 10) + c 59 (4 * a2)) * (c 41 23)) / 100))) 59 35 y_20) 59) (show 4 * k9 + 3 = 4 * a2 + 3 from congrArg (fun z : Int => 4 * z + 3) e_30)).trans ((up_n (ne_l (by first | exact q_f794b9410 ha2 | omega))).trans ((up_n (by first | exact ne_a0 (by decide) | omega)).trans ((up_n (by first | exact ne_aa (by decide) | omega)).trans (up_e rfl))))
        exact sm4 h_31 h_32 h_33 h_34 (by first | (clear ha1 ha2 h_2 h_3 h_4 h_5 h_7 h_8 h_9 h_10 h_11 h_12 h_13 h_14 h_15 h_16 h_18 h_19 hk9 e_30 h_6; omega) | omega)
      have h_35 := iv_r hI 59 (4 * k9) hj9 (by omega)
      have h_36 := ir_59_g hI (j := 4 * k9) (by first | exact q_9f1d5ffdc hk9 | omega)
      have h_37 : (up (up (up (up (up (up (up (up c 59 (4 * a2 + 1) (c 59 (4 * a2 + 1) - (((c 59 (4 * a2 + 1)) * (c 48 (3 * a1))) / 10))) 59 (4 * a2) ((((c 59 (4 * a2 + 1)) * (c 48 (3 * a1))) / 10) + c 59 (4 * a2))) 59 (4 * a2 + 2) (c 59 (4 * a2 + 2) - (((c 59 (4 * a2 + 2)) * (c 48 (3 * a1 + 1))) / 10))) 59 (4 * a2 + 1) ((((c 59 (4 * a2 + 2)) * (c 48 (3 * a1 + 1))) / 10) + c 59 (4 * a2 + 1) - (((c 59 (4 * a2 + 1)) * (c 48 (3 * a1))) / 10))) 59 (4 * a2 + 3) (c 59 (4 * a2 + 3) - (((c 59 (4 * a2 + 3)) * (c 48 (3 * a1 + 2))) / 10))) 59 (4 * a2 + 2) ((((c 59 (4 * a2 + 3)) * (c 48 (3 * a1 + 2))) / 10) + c 59 (4 * a2 + 2) - (((c 59 (4 * a2 + 2)) * (c 48 (3 * a1 + 1))) / 10))) 59 (4 * a2) ((((c 59 (4 * a2 + 1)) * (c 48 (3 * a1))) / 10) + c 59 (4 * a2) - ((((((c 59 (4 * a2 + 1)) * (c 48 (3 * a1))) / 10) + c 59 (4 * a2)) * (c 41 23)) / 100))) 59 35 y_20) 59 (4 * k9) = c 59 (4 * k9) := ((up_n (ne_l (by first | exact q_b528aeba2 hk9 | omega))).trans ((up_n (by first | exact q_336fb6678 e_30 | omega)).trans ((up_n (by first | exact q_c037f51da | omega)).trans ((up_n (by first | exact q_8ac71c5f3 | omega)).trans ((up_n (by first | exact q_b2cb8bf87 | omega)).trans ((up_n (by first | exact q_c037f51da | omega)).trans ((up_n (by first | exact q_336fb6678 e_30 | omega)).trans (up_n (by first | exact q_b2cb8bf87 | omega)))))))))
      have h_38 := ir_59_g hI (j := 4 * k9 + 1) (by first | exact q_0a2ee6f8f hk9 | omega)
      have h_39 : (up (up (up (up (up (up (up (up c 59 (4 * a2 + 1) (c 59 (4 * a2 + 1) - (((c 59 (4 * a2 + 1)) * (c 48 (3 * a1))) / 10))) 59 (4 * a2) ((((c 59 (4 * a2 + 1)) * (c 48 (3 * a1))) / 10) + c 59 (4 * a2))) 59 (4 * a2 + 2) (c 59 (4 * a2 + 2) - (((c 59 (4 * a2 + 2)) * (c 48 (3 * a1 + 1))) / 10))) 59 (4 * a2 + 1) ((((c 59 (4 * a2 + 2)) * (c 48 (3 * a1 + 1))) / 10) + c 59 (4 * a2 + 1) - (((c 59 (4 * a2 + 1)) * (c 48 (3 * a1))) / 10))) 59 (4 * a2 + 3) (c 59 (4 * a2 + 3) - (((c 59 (4 * a2 + 3)) * (c 48 (3 * a1 + 2))) / 10))) 59 (4 * a2 + 2) ((((c 59 (4 * a2 + 3)) * (c 48 (3 * a1 + 2))) / 10) + c 59 (4 * a2 + 2) - (((c 59 (4 * a2 + 2)) * (c 48 (3 * a1 + 1))) / 10))) 59 (4 * a2) ((((c 59 (4 * a2 + 1)) * (c 48 (3 * a1))) / 10) + c 59 (4 * a2) - ((((((c 59 (4 * a2 + 1)) * (c 48 (3 * a1))) / 10) + c 59 (4 * a2)) * (c 41 23)) / 100))) 59 35 y_20) 59 (4 * k9 + 1) = c 59 (4 * k9 + 1) := ((up_n (ne_l (by first | exact q_586eba1d6 hk9 | omega))).trans ((up_n (by first | exact q_e5bcc673e | omega)).trans ((up_n (by first | exact q_3650b790c | omega)).trans ((up_n (by first | exact q_7c6b1b09a | omega)).trans ((up_n (by first | exact q_52b51d728 e_30 | omega)).trans ((up_n (by first | exact q_3650b790c | omega)).trans ((up_n (by first | exact q_e5bcc673e | omega)).trans (up_n (by first | exact q_52b51d728 e_30 | omega)))))))))
      have h_40 := ir_59_g hI (j := 4 * k9 + 2) (by first | exact q_e07a293a2 hk9 | omega)
      have h_41 : (up (up (up (up (up (up (up (up c 59 (4 * a2 + 1) (c 59 (4 * a2 + 1) - (((c 59 (4 * a2 + 1)) * (c 48 (3 * a1))) / 10))) 59 (4 * a2) ((((c 59 (4 * a2 + 1)) * (c 48 (3 * a1))) / 10) + c 59 (4 * a2))) 59 (4 * a2 + 2) (c 59 (4 * a2 + 2) - (((c 59 (4 * a2 + 2)) * (c 48 (3 * a1 + 1))) / 10))) 59 (4 * a2 + 1) ((((c 59 (4 * a2 + 2)) * (c 48 (3 * a1 + 1))) / 10) + c 59 (4 * a2 + 1) - (((c 59 (4 * a2 + 1)) * (c 48 (3 * a1))) / 10))) 59 (4 * a2 + 3) (c 59 (4 * a2 + 3) - (((c 59 (4 * a2 + 3)) * (c 48 (3 * a1 + 2))) / 10))) 59 (4 * a2 + 2) ((((c 59 (4 * a2 + 3)) * (c 48 (3 * a1 + 2))) / 10) + c 59 (4 * a2 + 2) - (((c 59 (4 * a2 + 2)) * (c 48 (3 * a1 + 1))) / 10))) 59 (4 * a2) ((((c 59 (4 * a2 + 1)) * (c 48 (3 * a1))) / 10) + c 59 (4 * a2) - ((((((c 59 (4 * a2 + 1)) * (c 48 (3 * a1))) / 10) + c 59 (4 * a2)) * (c 41 23)) / 100))) 59 35 y_20) 59 (4 * k9 + 2) = c 59 (4 * k9 + 2) := ((up_n (ne_l (by first | exact q_ff1dc68db hk9 | omega))).trans ((up_n (by first | exact q_ae83e86ba | omega)).trans ((up_n (by first | exact q_27892e29e e_30 | omega)).trans ((up_n (by first | exact q_91c5bd343 | omega)).trans ((up_n (by first | exact q_08c3d7060 | omega)).trans ((up_n (by first | exact q_27892e29e e_30 | omega)).trans ((up_n (by first | exact q_ae83e86ba | omega)).trans (up_n (by first | exact q_08c3d7060 | omega)))))))))
      have h_42 := ir_59_g hI (j := 4 * k9 + 3) (by first | exact q_d09cb0b73 hk9 | omega)
      have h_43 : (up (up (up (up (up (up (up (up c 59 (4 * a2 + 1) (c 59 (4 * a2 + 1) - (((c 59 (4 * a2 + 1)) * (c 48 (3 * a1))) / 10))) 59 (4 * a2) ((((c 59 (4 * a2 + 1)) * (c 48 (3 * a1))) / 10) + c 59 (4 * a2))) 59 (4 * a2 + 2) (c 59 (4 * a2 + 2) - (((c 59 (4 * a2 + 2)) * (c 48 (3 * a1 + 1))) / 10))) 59 (4 * a2 + 1) ((((c 59 (4 * a2 + 2)) * (c 48 (3 * a1 + 1))) / 10) + c 59 (4 * a2 + 1) - (((c 59 (4 * a2 + 1)) * (c 48 (3 * a1))) / 10))) 59 (4 * a2 + 3) (c 59 (4 * a2 + 3) - (((c 59 (4 * a2 + 3)) * (c 48 (3 * a1 + 2))) / 10))) 59 (4 * a2 + 2) ((((c 59 (4 * a2 + 3)) * (c 48 (3 * a1 + 2))) / 10) + c 59 (4 * a2 + 2) - (((c 59 (4 * a2 + 2)) * (c 48 (3 * a1 + 1))) / 10))) 59 (4 * a2) ((((c 59 (4 * a2 + 1)) * (c 48 (3 * a1))) / 10) + c 59 (4 * a2) - ((((((c 59 (4 * a2 + 1)) * (c 48 (3 * a1))) / 10) + c 59 (4 * a2)) * (c 41 23)) / 100))) 59 35 y_20) 59 (4 * k9 + 3) = c 59 (4 * k9 + 3) := ((up_n (ne_l (by first | exact q_f794b9410 hk9 | omega))).trans ((up_n (by first | exact q_b6789388a | omega)).trans ((up_n (by first | exact q_28d70e8e5 | omega)).trans ((up_n (by first | exact q_2db9f474b e_30 | omega)).trans ((up_n (by first | exact q_6d5c6886e | omega)).trans ((up_n (by first | exact q_28d70e8e5 | omega)).trans ((up_n (by first | exact q_b6789388a | omega)).trans (up_n (by first | exact q_6d5c6886e | omega)))))))))
      exact sm4 h_37 h_39 h_41 h_43 h_35
    have hI_44 := iv_close hI_28 hr_29
    exact K (up (up (up (up (up (up (up (up c 59 (4 * a2 + 1) (c 59 (4 * a2 + 1) - (((c 59 (4 * a2 + 1)) * (c 48 (3 * a1))) / 10))) 59 (4 * a2) ((((c 59 (4 * a2 + 1)) * (c 48 (3 * a1))) / 10) + c 59 (4 * a2))) 59 (4 * a2 + 2) (c 59 (4 * a2 + 2) - (((c 59 (4 * a2 + 2)) * (c 48 (3 * a1 + 1))) / 10))) 59 (4 * a2 + 1) ((((c 59 (4 * a2 + 2)) * (c 48 (3 * a1 + 1))) / 10) + c 59 (4 * a2 + 1) - (((c 59 (4 * a2 + 1)) * (c 48 (3 * a1))) / 10))) 59 (4 * a2 + 3) (c 59 (4 * a2 + 3) - (((c 59 (4 * a2 + 3)) * (c 48 (3 * a1 + 2))) / 10))) 59 (4 * a2 + 2) ((((c 59 (4 * a2 + 3)) * (c 48 (3 * a1 + 2))) / 10) + c 59 (4 * a2 + 2) - (((c 59 (4 * a2 + 2)) * (c 48 (3 * a1 + 1))) / 10))) 59 (4 * a2) ((((c 59 (4 * a2 + 1)) * (c 48 (3 * a1))) / 10) + c 59 (4 * a2) - ((((((c 59 (4 * a2 + 1)) * (c 48 (3 * a1))) / 10) + c 59 (4 * a2)) * (c 41 23)) / 100))) 59 35 y_20) 1 hI_44 (fun a j hm => (up_b (Decidable.or_iff_not_imp_left.mpr (fun h1 h2 => hm (Decidable.not_not.mp h1)))).trans ((up_b (Decidable.or_iff_not_imp_left.mpr (fun h1 h2 => hm (Decidable.not_not.mp h1)))).trans ((up_b (Decidable.or_iff_not_imp_left.mpr (fun h1 h2 => hm (Decidable.not_not.mp h1)))).trans ((up_b (Decidable.or_iff_not_imp_left.mpr (fun h1 h2 => hm (Decidable.not_not.mp h1)))).trans ((up_b (Decidable.or_iff_not_imp_left.mpr (fun h1 h2 => hm (Decidable.not_not.mp h1)))).trans ((up_b (Decidable.or_iff_not_imp_left.mpr (fun h1 h2 => hm (Decidable.not_not.mp h1)))).trans ((up_b (Decidable.or_iff_not_imp_left.mpr (fun h1 h2 => hm (Decidable.not_not.mp h1)))).trans (up_b (Decidable.or_iff_not_imp_left.mpr (fun h1 h2 => hm (Decidable.not_not.mp h1))))))))))) ⟨by decide, by decide⟩
  · refine v_if_ne_f (t := 10) c_188_5 rfl (Decidable.not_not.mp h_6) (q_iconst c_188_8 (v_zret c_188_9 rfl (by decide) ?_))
    exact K c 0 hI (fun a j hm => rfl) ⟨by decide, by decide⟩

set_option maxRecDepth 100000 in
set_option maxHeartbeats 4000000 in
theorem s_189 {sc : List Int32} {e : Int} {d u P Q : Nat} {c : ME} {v1 v2 v3 r : Int} {a1 : Int} {a2 : Int} {a3 : Int} {Z : AR → Prop} (hI : Iv u e P Q c) (ha1 : 0 ≤ a1 ∧ a1 ≤ 3) (ha2 : 0 ≤ a2 ∧ a2 ≤ 5) (ha3 : 0 ≤ a3 ∧ a3 ≤ 3) (hv0 : c 49 a1 = v1) (hv1 : c 59 (a1 + 30) = v2) (hv2 : c 59 (4 * a2 + a3) = v3) (hr9 : fal v1 (v2) a3 v3 = r) (K : Z (.inl (some (vi r)), Wd P Q P P c, 0, 0)) : Wp sc (d + 7) 189 0 [(0, .ref 41), (1, vi a1), (2, vi a2), (3, vi a3)] [] (Wd P Q P P c) 0 0 Z := by
  have hP := iv_P hI
  have hQ := iv_Q hI
  have h_1 := ir_49 hI a1
  have h_2 := ir_59 hI (a1 + 30)
  have h_3 := ir_59_g hI (j := 4 * a2 + a3) (by first | exact q_d5fe0d0d1 ha2 ha3 | omega)
  refine q_iload_n c_189_0 rfl (q_aload_n c_189_1 rfl (v_gr (t := 49) c_189_2 kf_8_38 rfl (nb_ rfl) rfl (q_iload_n c_189_5 rfl (v_ia (v := v1) c_189_6 rfl (by decide) (by decide) ⟨ha1.1, by first | exact q_b6d45db89 ha1 | omega⟩ (hv0) ?_))))
  by_cases h_4 : a3 > v1
  · refine v_ic_gt_t (t := 23) c_189_7 rfl ⟨by omega, h_4, (Int.le_trans ha3.2 (by decide))⟩ (q_iload_n c_189_23 rfl (q_aload_n c_189_24 rfl (v_gr (t := 49) c_189_25 kf_8_38 rfl (nb_ rfl) rfl (q_iload_n c_189_28 rfl (v_ia (v := v1) c_189_29 rfl (by decide) (by decide) ⟨ha1.1, by first | exact q_b6d45db89 ha1 | omega⟩ (hv0) (q_iconst c_189_30 (v_iadd (v := v1 + 1) c_189_31 rfl ?_)))))))
    by_cases h_5 : a3 ≠ v1 + 1
    · refine v_ic_ne_t (t := 63) c_189_32 rfl ⟨h_5, ⟨(Int.le_trans (by decide) ha3.1), (Int.le_trans ha3.2 (by decide))⟩, by omega, by first | exact q_429e24ab3 h_4 ha3 | omega⟩ (q_iconst c_189_63 (q_iret c_189_64 rfl ?_))
      exact zv (by rw [← hr9]; unfold fal; split <;> first | omega | (split <;> omega)) (K)
    · refine v_ic_ne_f (t := 63) c_189_32 rfl (Decidable.not_not.mp h_5) (q_aload_n c_189_35 rfl (v_gr (t := 59) c_189_36 kf_8_68 rfl (nb_ rfl) rfl (v_bip c_189_39 (by decide) (q_iload_n c_189_41 rfl (v_iadd (v := a1 + 30) c_189_42 (by first | exact q_1025bcab1 | omega) (v_ia (v := v2) c_189_43 rfl (by decide) (by decide) ⟨by first | exact rgp_l ha1.1 (by decide) | omega, by first | exact q_26b090a2b ha1 | omega⟩ (hv1) (q_iconst c_189_44 ?_)))))))
      by_cases h_6 : v2 ≠ 1
      · refine v_ic_ne_t (t := 63) c_189_45 rfl ⟨h_6, ⟨by omega, by omega⟩, by decide, by decide⟩ (q_iconst c_189_63 (q_iret c_189_64 rfl ?_))
        exact zv (by rw [← hr9]; unfold fal; split <;> first | omega | (split <;> omega)) (K)
      · refine v_ic_ne_f (t := 63) c_189_45 rfl (Decidable.not_not.mp h_6) (q_aload_n c_189_48 rfl (v_gr (t := 59) c_189_49 kf_8_68 rfl (nb_ rfl) rfl (q_iconst c_189_52 (q_iload_n c_189_53 rfl (v_imul (v := 4 * a2) c_189_54 rfl (q_iload_n c_189_55 rfl (v_iadd (v := 4 * a2 + a3) c_189_56 rfl ?_)))))))
        refine v_ia (v := v3) c_189_57 rfl (by decide) (by decide) ⟨by omega, by first | exact q_7e8eed9ea ha2 ha3 | omega⟩ (hv2) (q_iconst c_189_58 (v_idiv (v := (v3 / 2)) c_189_59 (by omega) rfl (q_goto (t := 64) c_189_60 rfl (q_iret c_189_64 rfl ?_))))
        exact zv (by rw [← hr9]; unfold fal; split <;> first | omega | (split <;> omega)) (K)
  · refine v_ic_gt_f (t := 23) c_189_7 rfl ⟨(Int.le_trans (by decide) ha3.1), (Int.not_lt.mp h_4), by omega⟩ (q_aload_n c_189_10 rfl (v_gr (t := 59) c_189_11 kf_8_68 rfl (nb_ rfl) rfl (q_iconst c_189_14 (q_iload_n c_189_15 rfl (v_imul (v := 4 * a2) c_189_16 rfl (q_iload_n c_189_17 rfl (v_iadd (v := 4 * a2 + a3) c_189_18 rfl ?_)))))))
    refine v_ia (v := v3) c_189_19 rfl (by decide) (by decide) ⟨by first | exact q_404267838 ha2 ha3 | omega, by first | exact q_7e8eed9ea ha2 ha3 | omega⟩ (hv2) (q_goto (t := 64) c_189_20 rfl (q_iret c_189_64 rfl ?_))
    exact zv (by rw [← hr9]; unfold fal; split <;> first | omega | (split <;> omega)) (K)

set_option maxRecDepth 100000 in
set_option maxHeartbeats 4000000 in
theorem s_190 {sc : List Int32} {e : Int} {d u P Q : Nat} {c : ME} {v1 v2 v3 v4 v5 v6 r : Int} {a1 : Int} {a2 : Int} {Z : AR → Prop} (hI : Iv u e P Q c) (ha1 : 0 ≤ a1 ∧ a1 ≤ 3) (ha2 : 0 ≤ a2 ∧ a2 ≤ 5) (hv0 : c 49 a1 = v1) (hv1 : c 59 (a1 + 30) = v2) (hv2 : c 59 (4 * a2) = v3) (hv3 : c 59 (4 * a2 + 1) = v4) (hv4 : c 59 (4 * a2 + 2) = v5) (hv5 : c 59 (4 * a2 + 3) = v6) (hr9 : fal v1 (v2) 0 v3 + fal v1 (v2) 1 v4 + fal v1 (v2) 2 v5 + fal v1 (v2) 3 v6 = r) (K : Z (.inl (some (vi r)), Wd P Q P P c, 0, 0)) : Wp sc (d + 8) 190 0 [(0, .ref 41), (1, vi a1), (2, vi a2)] [] (Wd P Q P P c) 0 0 Z := by
  have hP := iv_P hI
  have hQ := iv_Q hI
  have h_1 := ir_49 hI a1
  have h_2 := ir_59 hI (a1 + 30)
  have h_3 := ir_59_g hI (j := 4 * a2) (by first | exact q_9f1d5ffdc ha2 | omega)
  have h_4 := ir_59_g hI (j := 4 * a2 + 1) (by first | exact q_0a2ee6f8f ha2 | omega)
  have h_5 := ir_59_g hI (j := 4 * a2 + 2) (by first | exact q_e07a293a2 ha2 | omega)
  have h_6 := ir_59_g hI (j := 4 * a2 + 3) (by first | exact q_d09cb0b73 ha2 | omega)
  refine q_iconst c_190_0 (q_istore_n c_190_1 (nb_ rfl) (q_iconst c_190_2 (q_istore c_190_3 (nb_ rfl) (q_iload c_190_5 rfl (q_iconst c_190_7 (v_ic_ge_f (t := 28) c_190_8 rfl (by decide) (q_iload_n c_190_11 rfl ?_)))))))
  refine q_aload_n c_190_12 rfl (q_iload_n c_190_13 rfl (q_iload_n c_190_14 rfl (q_iload c_190_15 rfl ?_)))
  have h_7 := fal_rng (m := v1) (t := v2) (g := 0) (x := v3) (by first | (clear ha1 ha2 h_1 hv0 h_2 hv1 h_4 hv3 h_5 hv4 h_6 hv5; omega) | omega)
  refine v_cv c_190_17 km_8_363 rfl rfl (nb_ rfl) ⟨⟨rfl, rfl⟩, nb_ rfl, rfl⟩ (nb_ rfl) (nb_ rfl) (s_189 (v1 := v1) (v2 := v2) (v3 := v3) (r := (fal v1 (v2) 0 v3)) (a1 := a1) (a2 := a2) (a3 := 0) hI (show 0 ≤ a1 ∧ a1 ≤ 3 from ha1) (show 0 ≤ a2 ∧ a2 ≤ 5 from ha2) (show 0 ≤ 0 ∧ 0 ≤ 3 from ⟨by decide, by decide⟩) ((hv0)) ((hv1)) ((congrArg (c 59) (show 4 * a2 + 0 = 4 * a2 from by first | exact q_8baad3eb5 | omega)).trans (hv2)) rfl (bk_inl (v_iadd (v := (fal v1 (v2) 0 v3)) c_190_20 (by first | exact q_afa8f900d | omega) (q_istore_n c_190_21 (nb_ rfl) (v_iinc (v := 1) c_190_22 rfl (nb_ rfl) (by decide) (q_goto (t := 5) c_190_25 rfl (q_iload c_190_5 rfl (q_iconst c_190_7 ?_))))))))
  refine v_ic_ge_f (t := 28) c_190_8 rfl (by decide) (q_iload_n c_190_11 rfl (q_aload_n c_190_12 rfl (q_iload_n c_190_13 rfl (q_iload_n c_190_14 rfl (q_iload c_190_15 rfl ?_)))))
  have h_8 := fal_rng (m := v1) (t := v2) (g := 1) (x := v4) (by first | (clear ha1 ha2 h_1 hv0 h_2 hv1 h_3 hv2 h_5 hv4 h_6 hv5 h_7; omega) | omega)
  refine v_cv c_190_17 km_8_363 rfl rfl (nb_ rfl) ⟨⟨rfl, rfl⟩, nb_ rfl, rfl⟩ (nb_ rfl) (nb_ rfl) (s_189 (v1 := v1) (v2 := v2) (v3 := v4) (r := (fal v1 (v2) 1 v4)) (a1 := a1) (a2 := a2) (a3 := 1) hI (show 0 ≤ a1 ∧ a1 ≤ 3 from ha1) (show 0 ≤ a2 ∧ a2 ≤ 5 from ha2) (show 0 ≤ 1 ∧ 1 ≤ 3 from ⟨by decide, by decide⟩) ((hv0)) ((hv1)) ((hv3)) rfl (bk_inl (v_iadd (v := (fal v1 (v2) 0 v3) + (fal v1 (v2) 1 v4)) c_190_20 rfl (q_istore_n c_190_21 (nb_ rfl) (Wp_ls [(3, vi ((fal v1 (v2) 0 v3) + (fal v1 (v2) 1 v4))), (4, vi 1), (0, .ref 41), (1, vi a1), (2, vi a2)] (lsub_cons rfl (lsub_cons rfl (lsub_cons rfl (lsub_cons rfl (lsub_cons rfl lsub_nil))))) (v_iinc (v := 2) c_190_22 rfl (nb_ rfl) (by decide) (q_goto (t := 5) c_190_25 rfl (q_iload c_190_5 rfl ?_))))))))
  refine q_iconst c_190_7 (v_ic_ge_f (t := 28) c_190_8 rfl (by decide) (q_iload_n c_190_11 rfl (q_aload_n c_190_12 rfl (q_iload_n c_190_13 rfl (q_iload_n c_190_14 rfl (q_iload c_190_15 rfl ?_))))))
  have h_9 := fal_rng (m := v1) (t := v2) (g := 2) (x := v5) (by first | (clear ha1 ha2 h_1 hv0 h_2 hv1 h_3 hv2 h_4 hv3 h_6 hv5 h_7 h_8; omega) | omega)
  refine v_cv c_190_17 km_8_363 rfl rfl (nb_ rfl) ⟨⟨rfl, rfl⟩, nb_ rfl, rfl⟩ (nb_ rfl) (nb_ rfl) (s_189 (v1 := v1) (v2 := v2) (v3 := v5) (r := (fal v1 (v2) 2 v5)) (a1 := a1) (a2 := a2) (a3 := 2) hI (show 0 ≤ a1 ∧ a1 ≤ 3 from ha1) (show 0 ≤ a2 ∧ a2 ≤ 5 from ha2) (show 0 ≤ 2 ∧ 2 ≤ 3 from ⟨by decide, by decide⟩) ((hv0)) ((hv1)) ((hv4)) rfl (bk_inl (v_iadd (v := (fal v1 (v2) 0 v3) + (fal v1 (v2) 1 v4) + (fal v1 (v2) 2 v5)) c_190_20 rfl (q_istore_n c_190_21 (nb_ rfl) (v_iinc (v := 3) c_190_22 rfl (nb_ rfl) (by decide) (q_goto (t := 5) c_190_25 rfl (q_iload c_190_5 rfl (q_iconst c_190_7 ?_))))))))
  refine v_ic_ge_f (t := 28) c_190_8 rfl (by decide) (q_iload_n c_190_11 rfl (q_aload_n c_190_12 rfl (q_iload_n c_190_13 rfl (q_iload_n c_190_14 rfl (q_iload c_190_15 rfl ?_)))))
  have h_10 := fal_rng (m := v1) (t := v2) (g := 3) (x := v6) (by first | (clear ha1 ha2 h_1 hv0 h_2 hv1 h_3 hv2 h_4 hv3 h_5 hv4 h_7 h_8 h_9; omega) | omega)
  refine v_cv c_190_17 km_8_363 rfl rfl (nb_ rfl) ⟨⟨rfl, rfl⟩, nb_ rfl, rfl⟩ (nb_ rfl) (nb_ rfl) (s_189 (v1 := v1) (v2 := v2) (v3 := v6) (r := (fal v1 (v2) 3 v6)) (a1 := a1) (a2 := a2) (a3 := 3) hI (show 0 ≤ a1 ∧ a1 ≤ 3 from ha1) (show 0 ≤ a2 ∧ a2 ≤ 5 from ha2) (show 0 ≤ 3 ∧ 3 ≤ 3 from ⟨by decide, by decide⟩) ((hv0)) ((hv1)) ((hv5)) rfl (bk_inl (v_iadd (v := (fal v1 (v2) 0 v3) + (fal v1 (v2) 1 v4) + (fal v1 (v2) 2 v5) + (fal v1 (v2) 3 v6)) c_190_20 rfl (q_istore_n c_190_21 (nb_ rfl) (v_iinc (v := 4) c_190_22 rfl (nb_ rfl) (by decide) (Wp_ls [(4, vi 4), (3, vi ((fal v1 (v2) 0 v3) + (fal v1 (v2) 1 v4) + (fal v1 (v2) 2 v5) + (fal v1 (v2) 3 v6))), (0, .ref 41), (1, vi a1), (2, vi a2)] (lsub_cons rfl (lsub_cons rfl (lsub_cons rfl (lsub_cons rfl (lsub_cons rfl lsub_nil))))) (q_goto (t := 5) c_190_25 rfl (q_iload c_190_5 rfl ?_))))))))
  refine q_iconst c_190_7 (v_ic_ge_t (t := 28) c_190_8 rfl (by decide) (q_iload_n c_190_28 rfl (q_iret c_190_29 rfl ?_)))
  exact zv (by omega) (K)

set_option maxRecDepth 100000 in
set_option maxHeartbeats 4000000 in
theorem s_191 {sc : List Int32} {e : Int} {d u P Q : Nat} {c : ME} {a1 : Int} {a2 : Int} {Z : AR → Prop} (hI : Iv u e P Q c) (ha1 : 0 ≤ a1 ∧ a1 ≤ 5) (ha2 : (-2147483648) ≤ a2 ∧ a2 ≤ 2147483647) (K : ∀ (c2 : ME), Iv u e P Q c2 → (∀ (a : Nat) (j : Int), ¬ ((a = 59 ∧ j = a1 + 24)) → c2 a j = c a j) → Z (.inl (none), Wd P Q P P c2, 0, 0)) : Wp sc (d + 7) 191 0 [(0, .ref 41), (1, vi a1), (2, vi a2)] [] (Wd P Q P P c) 0 0 Z := by
  have hP := iv_P hI
  have hQ := iv_Q hI
  refine q_aload_n c_191_0 rfl (v_gr (t := 59) c_191_1 kf_8_68 rfl (nb_ rfl) rfl (v_bip c_191_4 (by decide) (q_iload_n c_191_6 rfl (v_iadd (v := a1 + 24) c_191_7 (by first | exact q_1b47056ce | omega) (q_iload_n c_191_8 rfl (q_aload_n c_191_9 rfl (v_gr (t := 59) c_191_10 kf_8_68 rfl (nb_ rfl) rfl ?_)))))))
  refine v_bip c_191_13 (by decide) (q_iload_n c_191_15 rfl (v_iadd (v := a1 + 24) c_191_16 (by first | exact q_1b47056ce | omega) ?_))
  have h_1 := ir_59 hI (a1 + 24)
  refine v_ia (v := c 59 (a1 + 24)) c_191_17 rfl (by decide) (by decide) ⟨by first | exact rgp_l ha1.1 (by decide) | omega, by first | exact q_57f615a18 ha1 | omega⟩ rfl ?_
  by_cases h_2 : a2 ≤ c 59 (a1 + 24)
  · refine v_ic_le_t (t := 25) c_191_18 rfl ⟨ha2.1, h_2, h_1.2⟩ (q_aload_n c_191_25 rfl (v_gr (t := 59) c_191_26 kf_8_68 rfl (nb_ rfl) rfl (v_bip c_191_29 (by decide) (q_iload_n c_191_31 rfl (v_iadd (v := a1 + 24) c_191_32 (by first | exact q_1b47056ce | omega) (v_ia (v := c 59 (a1 + 24)) c_191_33 rfl (by decide) (by decide) ⟨by first | exact rgp_l ha1.1 (by decide) | omega, by first | exact q_57f615a18 ha1 | omega⟩ rfl (v_is c_191_34 rfl (by decide) (by decide) ⟨by first | exact rgp_l ha1.1 (by decide) | omega, by first | exact q_57f615a18 ha1 | omega⟩ ?_)))))))
    refine q_vret rfl rfl ?_
    have hI_3 := iwr1 (a := 59) (j := a1 + 24) (v := c 59 (a1 + 24)) hI (by decide) (by first | exact q_cef43cd58 ha1 | omega) ⟨h_1.1, h_1.2⟩
    exact K (up c 59 (a1 + 24) (c 59 (a1 + 24))) hI_3 (fun a j hm => up_b (Decidable.or_iff_not_imp_left.mpr (fun h1 h2 => hm ⟨Decidable.not_not.mp h1, h2⟩)))
  · refine v_ic_le_f (t := 25) c_191_18 rfl ⟨h_1.1, (Int.not_le.mp h_2), ha2.2⟩ (q_iload_n c_191_21 rfl (q_goto (t := 34) c_191_22 rfl (v_is c_191_34 rfl (by decide) (by decide) ⟨by first | exact rgp_l ha1.1 (by decide) | omega, by first | exact q_57f615a18 ha1 | omega⟩ (q_vret rfl rfl ?_))))
    have hI_4 := iwr1 (a := 59) (j := a1 + 24) (v := a2) hI (by decide) (by first | exact q_cef43cd58 ha1 | omega) ⟨ha2.1, ha2.2⟩
    exact K (up c 59 (a1 + 24) a2) hI_4 (fun a j hm => up_b (Decidable.or_iff_not_imp_left.mpr (fun h1 h2 => hm ⟨Decidable.not_not.mp h1, h2⟩)))

set_option maxRecDepth 100000 in
set_option maxHeartbeats 4000000 in
theorem s_192 {sc : List Int32} {d P Q : Nat} {c : ME} {a1 : Int} {Z : AR → Prop} (hI : Iv 59 (-1) P Q c) (ha1 : 0 ≤ a1 ∧ a1 ≤ 5) (K : ∀ (c2 : ME), Iv 59 (-1) P Q c2 → (∀ (a : Nat) (j : Int), ¬ ((a = 59 ∧ j = 4 * a1) ∨ (a = 59 ∧ j = 4 * a1 + 1) ∨ (a = 59 ∧ j = 4 * a1 + 2) ∨ (a = 59 ∧ j = 4 * a1 + 3) ∨ (a = 59 ∧ j = a1 + 24)) → c2 a j = c a j) → ((c2 59 (4 * a1) = 0 ∧ c2 59 (4 * a1 + 1) = 0 ∧ c2 59 (4 * a1 + 2) = 0 ∧ c2 59 (4 * a1 + 3) = 0)) → Z (.inl (none), Wd P Q P P c2, 0, 0)) : Wp sc (d + 7) 192 0 [(0, .ref 41), (1, vi a1)] [] (Wd P Q P P c) 0 0 Z := by
  have hP := iv_P hI
  have hQ := iv_Q hI
  refine q_iconst c_192_0 (q_istore_n c_192_1 (nb_ rfl) (q_iload_n c_192_2 rfl (q_iconst c_192_3 (v_ic_ge_f (t := 24) c_192_4 rfl (by decide) (q_aload_n c_192_7 rfl (v_gr (t := 59) c_192_8 kf_8_68 rfl (nb_ rfl) rfl (q_iconst c_192_11 ?_)))))))
  refine q_iload_n c_192_12 rfl (v_imul (v := 4 * a1) c_192_13 rfl (q_iload_n c_192_14 rfl (v_iadd (v := 4 * a1) c_192_15 (by first | exact q_8baad3eb5 | omega) (q_iconst c_192_16 (v_is c_192_17 rfl (by decide) (by decide) ⟨by first | exact q_c065257af ha1 | omega, by first | exact q_a49915bbb ha1 | omega⟩ (v_iinc (v := 1) c_192_18 rfl (nb_ rfl) (by decide) (q_goto (t := 2) c_192_21 rfl ?_)))))))
  refine q_iload_n c_192_2 rfl (q_iconst c_192_3 (v_ic_ge_f (t := 24) c_192_4 rfl (by decide) (q_aload_n c_192_7 rfl (v_gr (t := 59) c_192_8 kf_8_68 rfl (nb_ rfl) rfl (q_iconst c_192_11 (q_iload_n c_192_12 rfl (v_imul (v := 4 * a1) c_192_13 rfl ?_)))))))
  refine q_iload_n c_192_14 rfl (v_iadd (v := 4 * a1 + 1) c_192_15 rfl (q_iconst c_192_16 (v_is c_192_17 rfl (by decide) (by decide) ⟨by first | exact q_83fdbd35d ha1 | omega, by first | exact q_7a0c0a739 ha1 | omega⟩ (v_iinc (v := 2) c_192_18 rfl (nb_ rfl) (by decide) (q_goto (t := 2) c_192_21 rfl (q_iload_n c_192_2 rfl (q_iconst c_192_3 ?_)))))))
  refine v_ic_ge_f (t := 24) c_192_4 rfl (by decide) (q_aload_n c_192_7 rfl (v_gr (t := 59) c_192_8 kf_8_68 rfl (nb_ rfl) rfl (q_iconst c_192_11 (q_iload_n c_192_12 rfl (v_imul (v := 4 * a1) c_192_13 rfl (q_iload_n c_192_14 rfl (v_iadd (v := 4 * a1 + 2) c_192_15 rfl ?_)))))))
  refine q_iconst c_192_16 (v_is c_192_17 rfl (by decide) (by decide) ⟨by first | exact q_0f37a0c6e ha1 | omega, by first | exact q_36e1404d4 ha1 | omega⟩ (v_iinc (v := 3) c_192_18 rfl (nb_ rfl) (by decide) (q_goto (t := 2) c_192_21 rfl (q_iload_n c_192_2 rfl (q_iconst c_192_3 (v_ic_ge_f (t := 24) c_192_4 rfl (by decide) (q_aload_n c_192_7 rfl ?_)))))))
  refine v_gr (t := 59) c_192_8 kf_8_68 rfl (nb_ rfl) rfl (q_iconst c_192_11 (q_iload_n c_192_12 rfl (v_imul (v := 4 * a1) c_192_13 rfl (q_iload_n c_192_14 rfl (v_iadd (v := 4 * a1 + 3) c_192_15 rfl (q_iconst c_192_16 (v_is c_192_17 rfl (by decide) (by decide) ⟨by first | exact q_f6be69137 ha1 | omega, by first | exact q_6b2d832d4 ha1 | omega⟩ ?_)))))))
  refine v_iinc (v := 4) c_192_18 rfl (nb_ rfl) (by decide) (Wp_ls [(2, vi 4), (0, .ref 41), (1, vi a1)] (lsub_cons rfl (lsub_cons rfl (lsub_cons rfl lsub_nil))) (q_goto (t := 2) c_192_21 rfl (q_iload_n c_192_2 rfl (q_iconst c_192_3 (v_ic_ge_t (t := 24) c_192_4 rfl (by decide) (q_aload_n c_192_24 rfl (v_gr (t := 59) c_192_25 kf_8_68 rfl (nb_ rfl) rfl ?_)))))))
  refine v_bip c_192_28 (by decide) (q_iload_n c_192_30 rfl (v_iadd (v := a1 + 24) c_192_31 (by first | exact q_1b47056ce | omega) (q_iconst c_192_32 (v_is c_192_33 rfl (by decide) (by decide) ⟨by first | exact rgp_l ha1.1 (by decide) | omega, by first | exact q_57f615a18 ha1 | omega⟩ (q_vret rfl rfl ?_)))))
  have hI_1 := iwr0 (a := 59) (j := 4 * a1) (v := 0) hI (by decide) ⟨by decide, by decide⟩
  have hI_2 := iwr0 (a := 59) (j := 4 * a1 + 1) (v := 0) hI_1 (by decide) ⟨by decide, by decide⟩
  have hI_3 := iwr0 (a := 59) (j := 4 * a1 + 2) (v := 0) hI_2 (by decide) ⟨by decide, by decide⟩
  have hI_4 := iwr0 (a := 59) (j := 4 * a1 + 3) (v := 0) hI_3 (by decide) ⟨by decide, by decide⟩
  have hI_5 := iwr0 (a := 59) (j := a1 + 24) (v := 0) hI_4 (by decide) ⟨by decide, by decide⟩
  have h_6 : (up (up (up (up (up c 59 (4 * a1) 0) 59 (4 * a1 + 1) 0) 59 (4 * a1 + 2) 0) 59 (4 * a1 + 3) 0) 59 (a1 + 24) 0) 59 (4 * a1 + 1) = 0 := ((up_n (ne_l (by first | exact q_60c9feeee ha1 | omega))).trans ((up_n (by first | exact ne_aa (by decide) | omega)).trans ((up_n (by first | exact ne_aa (by decide) | omega)).trans (up_e rfl))))
  have h_7 : (up (up (up (up (up c 59 (4 * a1) 0) 59 (4 * a1 + 1) 0) 59 (4 * a1 + 2) 0) 59 (4 * a1 + 3) 0) 59 (a1 + 24) 0) 59 (4 * a1 + 2) = 0 := ((up_n (ne_l (by first | exact q_27ec1b4d7 ha1 | omega))).trans ((up_n (by first | exact ne_aa (by decide) | omega)).trans (up_e rfl)))
  have h_8 : (up (up (up (up (up c 59 (4 * a1) 0) 59 (4 * a1 + 1) 0) 59 (4 * a1 + 2) 0) 59 (4 * a1 + 3) 0) 59 (a1 + 24) 0) 59 (4 * a1 + 3) = 0 := ((up_n (ne_l (by first | exact q_fd9aac8f8 ha1 | omega))).trans (up_e rfl))
  have h_9 : (up (up (up (up (up c 59 (4 * a1) 0) 59 (4 * a1 + 1) 0) 59 (4 * a1 + 2) 0) 59 (4 * a1 + 3) 0) 59 (a1 + 24) 0) 59 (4 * a1) = 0 := ((up_n (ne_l (by first | exact q_788f4b81f ha1 | omega))).trans ((up_n (by first | exact ne_0a (by decide) | omega)).trans ((up_n (by first | exact ne_0a (by decide) | omega)).trans ((up_n (by first | exact ne_0a (by decide) | omega)).trans (up_e rfl)))))
  exact K (up (up (up (up (up c 59 (4 * a1) 0) 59 (4 * a1 + 1) 0) 59 (4 * a1 + 2) 0) 59 (4 * a1 + 3) 0) 59 (a1 + 24) 0) hI_5 (fun a j hm => (up_b (Decidable.or_iff_not_imp_left.mpr (fun h1 h2 => hm (Or.inr (Or.inr (Or.inr (Or.inr ⟨Decidable.not_not.mp h1, h2⟩))))))).trans ((up_b (Decidable.or_iff_not_imp_left.mpr (fun h1 h2 => hm (Or.inr (Or.inr (Or.inr (Or.inl ⟨Decidable.not_not.mp h1, h2⟩))))))).trans ((up_b (Decidable.or_iff_not_imp_left.mpr (fun h1 h2 => hm (Or.inr (Or.inr (Or.inl ⟨Decidable.not_not.mp h1, h2⟩)))))).trans ((up_b (Decidable.or_iff_not_imp_left.mpr (fun h1 h2 => hm (Or.inr (Or.inl ⟨Decidable.not_not.mp h1, h2⟩))))).trans (up_b (Decidable.or_iff_not_imp_left.mpr (fun h1 h2 => hm (Or.inl ⟨Decidable.not_not.mp h1, h2⟩)))))))) ⟨by first | assumption | omega, by first | assumption | omega, by first | assumption | omega, by first | assumption | omega⟩
end
