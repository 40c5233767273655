/-! ===== the law, exactly ===== -/
set_option maxRecDepth 100000 in
set_option maxHeartbeats 4000000 in
theorem f_20_l {sc : List Int32} {e : Int} {d u P Q A : Nat} {c : ME} {n9 a1 a2 a3 a4 a5 a6 a7 : Int} {Kc Gw Go : Int → Int} {Z : AR → Prop} (hI : Iv u e P Q c) (hA : A = 13 ∨ A = 25) (ha1 : 0 ≤ a1 ∧ a1 ≤ 9999) (ha2 : 0 ≤ a2 ∧ a2 ≤ 9999) (ha3 : 0 ≤ a3 ∧ a3 ≤ 9999) (ha4 : 0 ≤ a4 ∧ a4 ≤ 9999) (ha5 : (-2147483648) ≤ a5 ∧ a5 ≤ 2147483647) (ha6 : (-2147483648) ≤ a6 ∧ a6 ≤ 2147483647) (ha7 : (-2147483648) ≤ a7 ∧ a7 ≤ 2147483647) (hq0 : Ce n9 Kc Gw Go) (hq1 : Hw Gw Go n9) (hv0 : c (A + 7) 4 = n9) (hKc : ∀ j : Int, c (A + 8) j = Kc j) (K0 : ∀ c2 : ME, Iv u e P Q c2 → (∀ (a : Nat) (j : Int), ¬ (a = (A + 10) ∨ a = (A + 11)) → c2 a j = c a j) → (((pw Gw Go n9 a1 a2 a3 a4 a5 a6 a7) ≥ 0 ∧ (pw Gw Go n9 a1 a2 a3 a4 a5 a6 a7) ≤ 99)) → Z (.inl (some (vi (pw Gw Go n9 a1 a2 a3 a4 a5 a6 a7))), Wd P Q P P c2, 0, 0)) : ∀ n : Nat, (∀ (c2 : ME) (v9 : Int) (v10 : Int), Iv u e P Q c2 → (∀ (a : Nat) (j : Int), ¬ (a = (A + 10) ∨ a = (A + 11)) → c2 a j = c a j) → 0 ≤ v9 ∧ v9 ≤ 150 → 0 ≤ v10 ∧ v10 ≤ 150 → ((v9 ≤ v10)) → ((v9 ≥ 1) ∨ (v10 = 0)) → ((v10 ≤ n9)) → (v9 = hgt Gw v10.toNat) → (Pg (nmf a1 a2 a3 a4 a5 a6 a7) Gw Go v10 (c2 (A + 10))) → (Ae 8 (c2 (A + 11)) (nmf a1 a2 a3 a4 a5 a6 a7)) → ((n9 ≥ 1)) → 150 - v10 < (n : Int) → Wp sc (d + 9) 20 108 [(0, .ref (A + 7)), (9, vi v9), (10, vi v10)] [] (Wd P Q P P c2) 0 0 Z)
  | 0 => by intro c2 v9 v10 hI2 hF hv9 hv10 hx0 hx1 hx2 hx3 hx4 hx5 hx6 hm9; have hP := iv_P hI; have hQ := iv_Q hI; have h_1 := ir_p7_4 hI hA; exfalso; omega
  | n + 1 => by
    have hP := iv_P hI
    have hQ := iv_Q hI
    have ih := f_20_l (sc := sc) (d := d) hI hA ha1 ha2 ha3 ha4 ha5 ha6 ha7 hq0 hq1 hv0 hKc K0 n
    intro c2 v9 v10 hI2 hF hv9 hv10 hx0 hx1 hx2 hx3 hx4 hx5 hx6 hm9
    have h_1 := ir_p7_4 hI hA
    refine q_iload rfl rfl ?_
    refine q_aload_n rfl rfl ?_
    have kn_2 : Hid (c2 (A + 7) 4 = n9) := (hF (A + 7) 4 (fun q => q.elim (fun h => absurd h (pp rfl)) (fun h => absurd h (pp rfl)))).trans (hv0)
    refine v_gi (z := 4) (v := n9) rfl rfl (ck_p7 hA) (a68 hA rfl) rfl rfl (hid kn_2) ?_
    by_cases h_3 : v10 ≥ n9
    · refine v_ic_ge_t (t := 216) rfl (by decide) ⟨by omega, h_3, (Int.le_trans hv10.2 (by decide))⟩ ?_
      refine q_aload_n rfl rfl ?_
      refine v_gr (t := (A + 10)) rfl rfl (ck_p7 hA) (a68 hA rfl) rfl ?_
      refine q_iconst rfl ?_
      have h_4 := ir_p10 hI2 hA 0
      refine v_ia (v := c2 (A + 10) 0) rfl (ck_p10 hA) (a68 hA rfl) (by decide) (by decide) rfl ?_
      refine q_call rfl rfl rfl rfl ?_
      refine q_iload_n rfl rfl ?_
      by_cases h_5 : c2 (A + 10) 0 ≥ 0
      · refine v_if_ge_t (t := 8) rfl (by decide) ⟨by decide, h_5, h_4.2⟩ ?_
        refine q_iload_n rfl rfl ?_
        refine v_bip rfl (by decide) ?_
        by_cases h_6 : c2 (A + 10) 0 ≤ 99
        · refine v_ic_le_t (t := 19) rfl (by decide) ⟨h_4.1, h_6, by decide⟩ ?_
          refine q_iload_n rfl rfl ?_
          refine q_iret rfl rfl ?_
          refine bk_inl ?_
          refine q_iret rfl rfl ?_
          have hw_7 : pw Gw Go n9 a1 a2 a3 a4 a5 a6 a7 = c2 (A + 10) 0 := pw_n (p := c2 (A + 10) 0) (by omega) (show _ = pil _ Gw Go n9.toNat 0 from by rw [show n9 = v10 by omega]; exact hx4 0 (by omega) (by omega)) (bnd_m ⟨by omega, by omega⟩)
          exact zv (by omega) (K0 c2 hI2 (fun a j hm => hF a j (fun q => q.elim (fun h => hm (Or.inl h)) (fun h => hm (Or.inr h)))) (by omega))
        · refine v_ic_le_f (t := 19) rfl (by decide) ⟨by decide, (Int.not_le.mp h_6), h_4.2⟩ ?_
          refine v_bip rfl (by decide) ?_
          refine q_goto (t := 20) rfl (by decide) ?_
          refine q_iret rfl rfl ?_
          refine bk_inl ?_
          refine q_iret rfl rfl ?_
          have hw_8 : pw Gw Go n9 a1 a2 a3 a4 a5 a6 a7 = 99 := pw_n (p := c2 (A + 10) 0) (by omega) (show _ = pil _ Gw Go n9.toNat 0 from by rw [show n9 = v10 by omega]; exact hx4 0 (by omega) (by omega)) (bnd_h (by omega))
          exact zv (by omega) (K0 c2 hI2 (fun a j hm => hF a j (fun q => q.elim (fun h => hm (Or.inl h)) (fun h => hm (Or.inr h)))) (by omega))
      · refine v_if_ge_f (t := 8) rfl (by decide) ⟨h_4.1, (Int.not_le.mp h_5), by decide⟩ ?_
        refine q_iconst rfl ?_
        refine q_goto (t := 20) rfl (by decide) ?_
        refine q_iret rfl rfl ?_
        refine bk_inl ?_
        refine q_iret rfl rfl ?_
        have hw_9 : pw Gw Go n9 a1 a2 a3 a4 a5 a6 a7 = 0 := pw_n (p := c2 (A + 10) 0) (by omega) (show _ = pil _ Gw Go n9.toNat 0 from by rw [show n9 = v10 by omega]; exact hx4 0 (by omega) (by omega)) (bnd_l (by omega))
        exact zv (by omega) (K0 c2 hI2 (fun a j hm => hF a j (fun q => q.elim (fun h => hm (Or.inl h)) (fun h => hm (Or.inr h)))) (by omega))
    · refine v_ic_ge_f (t := 216) rfl (by decide) ⟨(Int.le_trans (by decide) hv10.1), (Int.not_le.mp h_3), by omega⟩ ?_
      have hcr := hq0 v10 (by omega) (by omega)
      unfold Cr at hcr
      have hwk := hw_k hq1 (k := v10) (by omega) (by omega)
      have hgs := hgt_s (f := Gw) (k := v10) (by omega)
      refine q_aload_n rfl rfl ?_
      refine v_gr (t := (A + 8)) rfl rfl (ck_p7 hA) (a68 hA rfl) rfl ?_
      refine q_iload rfl rfl ?_
      have h_10 : -2147483648 ≤ (Kc v10) ∧ (Kc v10) ≤ 2147483647 := by rw [← hKc v10]; exact ir_p8 hI hA v10
      have kn_11 : Hid (c2 (A + 8) v10 = (Kc v10)) := (hF (A + 8) v10 (fun q => q.elim (fun h => absurd h (pp rfl)) (fun h => absurd h (pp rfl)))).trans (hKc v10)
      refine v_ia (v := (Kc v10)) rfl (ck_p8 hA) (a68 hA rfl) (by decide) (by omega) (hid kn_11) ?_
      refine q_istore rfl (by decide) ?_
      refine q_iload rfl rfl ?_
      refine v_sip rfl (by decide) ?_
      by_cases h_12 : (Kc v10) ≥ 2000
      · refine v_ic_ge_t (t := 171) rfl (by decide) ⟨by decide, h_12, by omega⟩ ?_
        refine q_iload rfl rfl ?_
        refine q_iconst rfl ?_
        refine v_ic_le_f (t := 210) rfl (by decide) ⟨by decide, by omega, (Int.le_trans hv9.2 (by decide))⟩ ?_
        refine v_iinc (v := v9 - 1) rfl rfl (by decide) (by omega) ?_
        refine q_aload_n rfl rfl ?_
        refine v_gr (t := (A + 10)) rfl rfl (ck_p7 hA) (a68 hA rfl) rfl ?_
        refine q_iload rfl rfl ?_
        refine q_iconst rfl ?_
        refine v_isub (v := v9 - 2) rfl (by omega) ?_
        refine q_iload rfl rfl ?_
        refine q_aload_n rfl rfl ?_
        refine v_gr (t := (A + 10)) rfl rfl (ck_p7 hA) (a68 hA rfl) rfl ?_
        refine q_iload rfl rfl ?_
        refine q_iconst rfl ?_
        refine v_isub (v := v9 - 2) rfl (by omega) ?_
        have h_13 := ir_p10 hI2 hA (v9 - 2)
        refine v_ia (v := c2 (A + 10) (v9 - 2)) rfl (ck_p10 hA) (a68 hA rfl) (by decide) (by omega) rfl ?_
        refine q_aload_n rfl rfl ?_
        refine v_gr (t := (A + 10)) rfl rfl (ck_p7 hA) (a68 hA rfl) rfl ?_
        refine q_iload rfl rfl ?_
        have h_14 := ir_p10 hI2 hA (v9 - 1)
        refine v_ia (v := c2 (A + 10) (v9 - 1)) rfl (ck_p10 hA) (a68 hA rfl) (by decide) (by omega) rfl ?_
        refine q_call rfl rfl rfl rfl ?_
        refine q_iload_n rfl rfl ?_
        by_cases h_15 : (Kc v10) = 2000
        · skip
          refine v_tsw_i (t := 40) 2000 rfl (by omega) (by decide) rfl (by decide) ?_
          refine q_iload_n rfl rfl ?_
          refine q_iload_n rfl rfl ?_
          refine v_iadd (v := c2 (A + 10) (v9 - 1) + c2 (A + 10) (v9 - 2)) rfl (by omega) ?_
          refine v_nrw ?_
          have h_16 := wr_rng (c2 (A + 10) (v9 - 1) + c2 (A + 10) (v9 - 2))
          refine q_iret rfl rfl ?_
          refine bk_inl ?_
          refine v_is rfl (ck_p10 hA) (a68 hA rfl) (by decide) (by omega) ?_
          refine v_iinc (v := v10 + 1) rfl rfl (by decide) rfl ?_
          refine q_goto (t := 108) rfl (by decide) ?_
          have hI_17 := iw_p10 (j := v9 - 2) (v := (wr (c2 (A + 10) (v9 - 1) + c2 (A + 10) (v9 - 2)))) hI2 hA ⟨by omega, by omega⟩
          refine Wp_ls [(0, .ref (A + 7)), (9, vi (v9 - 1)), (10, vi (v10 + 1))] (lsub_cons rfl (lsub_cons rfl (lsub_cons rfl lsub_nil))) ?_
          exact ih (up c2 (A + 10) (v9 - 2) (wr (c2 (A + 10) (v9 - 1) + c2 (A + 10) (v9 - 2)))) (v9 - 1) (v10 + 1) hI_17 (fun a j hm => (up_b (Decidable.or_iff_not_imp_left.mpr (fun h1 h2 => hm (Or.inl (Decidable.not_not.mp h1))))).trans (hF a j (fun q => q.elim (fun h => hm (Or.inl h)) (fun h => hm (Or.inr h))))) ⟨by omega, by omega⟩ ⟨by omega, by omega⟩ (by omega) (by omega) (by omega) (by omega) (pg_2 (a := c2 (A + 10) (v9 - 2)) (b := c2 (A + 10) (v9 - 1)) (v := (wr (c2 (A + 10) (v9 - 1) + c2 (A + 10) (v9 - 2)))) hx4 (by omega) (by omega) hx3 (by omega) (by omega) rfl rfl (up_e (by omega)) ((jn_2 (by omega)).trans (congrArg wr (by first | rfl | omega))) (fun j hj => up_n (by omega))) (ae_fr hx5 (fun j => up_c (pp rfl)) (fun j => rfl)) (by omega) (by omega)
        by_cases h_18 : (Kc v10) = 2001
        · skip
          refine v_tsw_i (t := 44) 2001 rfl (by omega) (by decide) rfl (by decide) ?_
          refine q_iload_n rfl rfl ?_
          refine q_iload_n rfl rfl ?_
          refine v_isub (v := c2 (A + 10) (v9 - 2) - c2 (A + 10) (v9 - 1)) rfl (by omega) ?_
          refine v_nrw ?_
          have h_19 := wr_rng (c2 (A + 10) (v9 - 2) - c2 (A + 10) (v9 - 1))
          refine q_iret rfl rfl ?_
          refine bk_inl ?_
          refine v_is rfl (ck_p10 hA) (a68 hA rfl) (by decide) (by omega) ?_
          refine v_iinc (v := v10 + 1) rfl rfl (by decide) rfl ?_
          refine q_goto (t := 108) rfl (by decide) ?_
          have hI_20 := iw_p10 (j := v9 - 2) (v := (wr (c2 (A + 10) (v9 - 2) - c2 (A + 10) (v9 - 1)))) hI2 hA ⟨by omega, by omega⟩
          refine Wp_ls [(0, .ref (A + 7)), (9, vi (v9 - 1)), (10, vi (v10 + 1))] (lsub_cons rfl (lsub_cons rfl (lsub_cons rfl lsub_nil))) ?_
          exact ih (up c2 (A + 10) (v9 - 2) (wr (c2 (A + 10) (v9 - 2) - c2 (A + 10) (v9 - 1)))) (v9 - 1) (v10 + 1) hI_20 (fun a j hm => (up_b (Decidable.or_iff_not_imp_left.mpr (fun h1 h2 => hm (Or.inl (Decidable.not_not.mp h1))))).trans (hF a j (fun q => q.elim (fun h => hm (Or.inl h)) (fun h => hm (Or.inr h))))) ⟨by omega, by omega⟩ ⟨by omega, by omega⟩ (by omega) (by omega) (by omega) (by omega) (pg_2 (a := c2 (A + 10) (v9 - 2)) (b := c2 (A + 10) (v9 - 1)) (v := (wr (c2 (A + 10) (v9 - 2) - c2 (A + 10) (v9 - 1)))) hx4 (by omega) (by omega) hx3 (by omega) (by omega) rfl rfl (up_e (by omega)) ((jn_3 (by omega)).trans (congrArg wr (by first | rfl | omega))) (fun j hj => up_n (by omega))) (ae_fr hx5 (fun j => up_c (pp rfl)) (fun j => rfl)) (by omega) (by omega)
        by_cases h_21 : (Kc v10) = 2002
        · skip
          refine v_tsw_i (t := 48) 2002 rfl (by omega) (by decide) rfl (by decide) ?_
          refine q_iload_n rfl rfl ?_
          refine q_iload_n rfl rfl ?_
          refine v_imul (v := ((c2 (A + 10) (v9 - 2)) * (c2 (A + 10) (v9 - 1)))) rfl rfl ?_
          refine v_nrw ?_
          have h_22 := wr_rng (((c2 (A + 10) (v9 - 2)) * (c2 (A + 10) (v9 - 1))))
          refine q_iret rfl rfl ?_
          refine bk_inl ?_
          refine v_is rfl (ck_p10 hA) (a68 hA rfl) (by decide) (by omega) ?_
          refine v_iinc (v := v10 + 1) rfl rfl (by decide) rfl ?_
          refine q_goto (t := 108) rfl (by decide) ?_
          have hI_23 := iw_p10 (j := v9 - 2) (v := (wr (((c2 (A + 10) (v9 - 2)) * (c2 (A + 10) (v9 - 1)))))) hI2 hA ⟨by omega, by omega⟩
          refine Wp_ls [(0, .ref (A + 7)), (9, vi (v9 - 1)), (10, vi (v10 + 1))] (lsub_cons rfl (lsub_cons rfl (lsub_cons rfl lsub_nil))) ?_
          exact ih (up c2 (A + 10) (v9 - 2) (wr (((c2 (A + 10) (v9 - 2)) * (c2 (A + 10) (v9 - 1)))))) (v9 - 1) (v10 + 1) hI_23 (fun a j hm => (up_b (Decidable.or_iff_not_imp_left.mpr (fun h1 h2 => hm (Or.inl (Decidable.not_not.mp h1))))).trans (hF a j (fun q => q.elim (fun h => hm (Or.inl h)) (fun h => hm (Or.inr h))))) ⟨by omega, by omega⟩ ⟨by omega, by omega⟩ (by omega) (by omega) (by omega) (by omega) (pg_2 (a := c2 (A + 10) (v9 - 2)) (b := c2 (A + 10) (v9 - 1)) (v := (wr (((c2 (A + 10) (v9 - 2)) * (c2 (A + 10) (v9 - 1)))))) hx4 (by omega) (by omega) hx3 (by omega) (by omega) rfl rfl (up_e (by omega)) ((jn_4 (by omega)).trans (congrArg wr (by first | rfl | omega))) (fun j hj => up_n (by omega))) (ae_fr hx5 (fun j => up_c (pp rfl)) (fun j => rfl)) (by omega) (by omega)
        by_cases h_24 : (Kc v10) = 2003
        · skip
          refine v_tsw_i (t := 52) 2003 rfl (by omega) (by decide) rfl (by decide) ?_
          refine q_iload_n rfl rfl ?_
          by_cases h_25 : c2 (A + 10) (v9 - 1) ≠ 0
          · refine v_if_ne_t (t := 60) rfl (by decide) ⟨h_25, ⟨h_14.1, h_14.2⟩, by decide, by decide⟩ ?_
            refine q_iload_n rfl rfl ?_
            refine q_iload_n rfl rfl ?_
            refine v_idive rfl ⟨by omega, by omega, by omega⟩ ?_
            have h_26 := dv_rng (c2 (A + 10) (v9 - 2)) (c2 (A + 10) (v9 - 1))
            refine q_iret rfl rfl ?_
            refine bk_inl ?_
            refine v_is rfl (ck_p10 hA) (a68 hA rfl) (by decide) (by omega) ?_
            refine v_iinc (v := v10 + 1) rfl rfl (by decide) rfl ?_
            refine q_goto (t := 108) rfl (by decide) ?_
            have hI_27 := iw_p10 (j := v9 - 2) (v := (dv (c2 (A + 10) (v9 - 2)) (c2 (A + 10) (v9 - 1)))) hI2 hA ⟨by omega, by omega⟩
            refine Wp_ls [(0, .ref (A + 7)), (9, vi (v9 - 1)), (10, vi (v10 + 1))] (lsub_cons rfl (lsub_cons rfl (lsub_cons rfl lsub_nil))) ?_
            exact ih (up c2 (A + 10) (v9 - 2) (dv (c2 (A + 10) (v9 - 2)) (c2 (A + 10) (v9 - 1)))) (v9 - 1) (v10 + 1) hI_27 (fun a j hm => (up_b (Decidable.or_iff_not_imp_left.mpr (fun h1 h2 => hm (Or.inl (Decidable.not_not.mp h1))))).trans (hF a j (fun q => q.elim (fun h => hm (Or.inl h)) (fun h => hm (Or.inr h))))) ⟨by omega, by omega⟩ ⟨by omega, by omega⟩ (by omega) (by omega) (by omega) (by omega) (pg_2 (a := c2 (A + 10) (v9 - 2)) (b := c2 (A + 10) (v9 - 1)) (v := (dv (c2 (A + 10) (v9 - 2)) (c2 (A + 10) (v9 - 1)))) hx4 (by omega) (by omega) hx3 (by omega) (by omega) rfl rfl (up_e (by omega)) (jn_5 (by omega) (by omega)) (fun j hj => up_n (by omega))) (ae_fr hx5 (fun j => up_c (pp rfl)) (fun j => rfl)) (by omega) (by omega)
          · refine v_if_ne_f (t := 60) rfl (by decide) (Decidable.not_not.mp h_25) ?_
            refine q_iconst rfl ?_
            refine q_goto (t := 63) rfl (by decide) ?_
            refine q_iret rfl rfl ?_
            refine bk_inl ?_
            refine v_is rfl (ck_p10 hA) (a68 hA rfl) (by decide) (by omega) ?_
            refine v_iinc (v := v10 + 1) rfl rfl (by decide) rfl ?_
            refine q_goto (t := 108) rfl (by decide) ?_
            have hI_28 := iw_p10 (j := v9 - 2) (v := 0) hI2 hA ⟨by decide, by decide⟩
            refine Wp_ls [(0, .ref (A + 7)), (9, vi (v9 - 1)), (10, vi (v10 + 1))] (lsub_cons rfl (lsub_cons rfl (lsub_cons rfl lsub_nil))) ?_
            exact ih (up c2 (A + 10) (v9 - 2) 0) (v9 - 1) (v10 + 1) hI_28 (fun a j hm => (up_b (Decidable.or_iff_not_imp_left.mpr (fun h1 h2 => hm (Or.inl (Decidable.not_not.mp h1))))).trans (hF a j (fun q => q.elim (fun h => hm (Or.inl h)) (fun h => hm (Or.inr h))))) ⟨by omega, by omega⟩ ⟨by omega, by omega⟩ (by omega) (by omega) (by omega) (by omega) (pg_2 (a := c2 (A + 10) (v9 - 2)) (b := c2 (A + 10) (v9 - 1)) (v := 0) hx4 (by omega) (by omega) hx3 (by omega) (by omega) rfl rfl (up_e (by omega)) (jn_5z (by omega) (by omega)) (fun j hj => up_n (by omega))) (ae_fr hx5 (fun j => up_c (pp rfl)) (fun j => rfl)) (by omega) (by omega)
        by_cases h_29 : (Kc v10) = 2004
        · skip
          refine v_tsw_i (t := 64) 2004 rfl (by omega) (by decide) rfl (by decide) ?_
          refine q_iload_n rfl rfl ?_
          by_cases h_30 : c2 (A + 10) (v9 - 1) ≠ 0
          · refine v_if_ne_t (t := 72) rfl (by decide) ⟨h_30, ⟨h_14.1, h_14.2⟩, by decide, by decide⟩ ?_
            refine q_iload_n rfl rfl ?_
            refine q_iload_n rfl rfl ?_
            refine v_ireme rfl ⟨by omega, by omega, by omega⟩ ?_
            have h_31 := rm_rng (c2 (A + 10) (v9 - 2)) (c2 (A + 10) (v9 - 1))
            refine q_iret rfl rfl ?_
            refine bk_inl ?_
            refine v_is rfl (ck_p10 hA) (a68 hA rfl) (by decide) (by omega) ?_
            refine v_iinc (v := v10 + 1) rfl rfl (by decide) rfl ?_
            refine q_goto (t := 108) rfl (by decide) ?_
            have hI_32 := iw_p10 (j := v9 - 2) (v := (rm (c2 (A + 10) (v9 - 2)) (c2 (A + 10) (v9 - 1)))) hI2 hA ⟨by omega, by omega⟩
            refine Wp_ls [(0, .ref (A + 7)), (9, vi (v9 - 1)), (10, vi (v10 + 1))] (lsub_cons rfl (lsub_cons rfl (lsub_cons rfl lsub_nil))) ?_
            exact ih (up c2 (A + 10) (v9 - 2) (rm (c2 (A + 10) (v9 - 2)) (c2 (A + 10) (v9 - 1)))) (v9 - 1) (v10 + 1) hI_32 (fun a j hm => (up_b (Decidable.or_iff_not_imp_left.mpr (fun h1 h2 => hm (Or.inl (Decidable.not_not.mp h1))))).trans (hF a j (fun q => q.elim (fun h => hm (Or.inl h)) (fun h => hm (Or.inr h))))) ⟨by omega, by omega⟩ ⟨by omega, by omega⟩ (by omega) (by omega) (by omega) (by omega) (pg_2 (a := c2 (A + 10) (v9 - 2)) (b := c2 (A + 10) (v9 - 1)) (v := (rm (c2 (A + 10) (v9 - 2)) (c2 (A + 10) (v9 - 1)))) hx4 (by omega) (by omega) hx3 (by omega) (by omega) rfl rfl (up_e (by omega)) (jn_8 (by omega) (by omega)) (fun j hj => up_n (by omega))) (ae_fr hx5 (fun j => up_c (pp rfl)) (fun j => rfl)) (by omega) (by omega)
          · refine v_if_ne_f (t := 72) rfl (by decide) (Decidable.not_not.mp h_30) ?_
            refine q_iconst rfl ?_
            refine q_goto (t := 75) rfl (by decide) ?_
            refine q_iret rfl rfl ?_
            refine bk_inl ?_
            refine v_is rfl (ck_p10 hA) (a68 hA rfl) (by decide) (by omega) ?_
            refine v_iinc (v := v10 + 1) rfl rfl (by decide) rfl ?_
            refine q_goto (t := 108) rfl (by decide) ?_
            have hI_33 := iw_p10 (j := v9 - 2) (v := 0) hI2 hA ⟨by decide, by decide⟩
            refine Wp_ls [(0, .ref (A + 7)), (9, vi (v9 - 1)), (10, vi (v10 + 1))] (lsub_cons rfl (lsub_cons rfl (lsub_cons rfl lsub_nil))) ?_
            exact ih (up c2 (A + 10) (v9 - 2) 0) (v9 - 1) (v10 + 1) hI_33 (fun a j hm => (up_b (Decidable.or_iff_not_imp_left.mpr (fun h1 h2 => hm (Or.inl (Decidable.not_not.mp h1))))).trans (hF a j (fun q => q.elim (fun h => hm (Or.inl h)) (fun h => hm (Or.inr h))))) ⟨by omega, by omega⟩ ⟨by omega, by omega⟩ (by omega) (by omega) (by omega) (by omega) (pg_2 (a := c2 (A + 10) (v9 - 2)) (b := c2 (A + 10) (v9 - 1)) (v := 0) hx4 (by omega) (by omega) hx3 (by omega) (by omega) rfl rfl (up_e (by omega)) (jn_8z (by omega) (by omega)) (fun j hj => up_n (by omega))) (ae_fr hx5 (fun j => up_c (pp rfl)) (fun j => rfl)) (by omega) (by omega)
        by_cases h_34 : (Kc v10) = 2005
        · skip
          refine v_tsw_i (t := 76) 2005 rfl (by omega) (by decide) rfl (by decide) ?_
          refine q_iload_n rfl rfl ?_
          refine q_iload_n rfl rfl ?_
          by_cases h_35 : c2 (A + 10) (v9 - 2) > c2 (A + 10) (v9 - 1)
          · refine v_ic_gt_t (t := 85) rfl (by decide) ⟨h_14.1, h_35, h_13.2⟩ ?_
            refine q_iload_n rfl rfl ?_
            refine q_iret rfl rfl ?_
            refine bk_inl ?_
            refine v_is rfl (ck_p10 hA) (a68 hA rfl) (by decide) (by omega) ?_
            refine v_iinc (v := v10 + 1) rfl rfl (by decide) rfl ?_
            refine q_goto (t := 108) rfl (by decide) ?_
            have hI_36 := iw_p10 (j := v9 - 2) (v := c2 (A + 10) (v9 - 1)) hI2 hA ⟨h_14.1, h_14.2⟩
            refine Wp_ls [(0, .ref (A + 7)), (9, vi (v9 - 1)), (10, vi (v10 + 1))] (lsub_cons rfl (lsub_cons rfl (lsub_cons rfl lsub_nil))) ?_
            exact ih (up c2 (A + 10) (v9 - 2) (c2 (A + 10) (v9 - 1))) (v9 - 1) (v10 + 1) hI_36 (fun a j hm => (up_b (Decidable.or_iff_not_imp_left.mpr (fun h1 h2 => hm (Or.inl (Decidable.not_not.mp h1))))).trans (hF a j (fun q => q.elim (fun h => hm (Or.inl h)) (fun h => hm (Or.inr h))))) ⟨by omega, by omega⟩ ⟨by omega, by omega⟩ (by omega) (by omega) (by omega) (by omega) (pg_2 (a := c2 (A + 10) (v9 - 2)) (b := c2 (A + 10) (v9 - 1)) (v := c2 (A + 10) (v9 - 1)) hx4 (by omega) (by omega) hx3 (by omega) (by omega) rfl rfl (up_e (by omega)) (jn_6b (by omega) (by omega)) (fun j hj => up_n (by omega))) (ae_fr hx5 (fun j => up_c (pp rfl)) (fun j => rfl)) (by omega) (by omega)
          · refine v_ic_gt_f (t := 85) rfl (by decide) ⟨h_13.1, (Int.not_lt.mp h_35), h_14.2⟩ ?_
            refine q_iload_n rfl rfl ?_
            refine q_goto (t := 86) rfl (by decide) ?_
            refine q_iret rfl rfl ?_
            refine bk_inl ?_
            refine v_is rfl (ck_p10 hA) (a68 hA rfl) (by decide) (by omega) ?_
            refine v_iinc (v := v10 + 1) rfl rfl (by decide) rfl ?_
            refine q_goto (t := 108) rfl (by decide) ?_
            have hI_37 := iw_p10 (j := v9 - 2) (v := c2 (A + 10) (v9 - 2)) hI2 hA ⟨h_13.1, h_13.2⟩
            refine Wp_ls [(0, .ref (A + 7)), (9, vi (v9 - 1)), (10, vi (v10 + 1))] (lsub_cons rfl (lsub_cons rfl (lsub_cons rfl lsub_nil))) ?_
            exact ih (up c2 (A + 10) (v9 - 2) (c2 (A + 10) (v9 - 2))) (v9 - 1) (v10 + 1) hI_37 (fun a j hm => (up_b (Decidable.or_iff_not_imp_left.mpr (fun h1 h2 => hm (Or.inl (Decidable.not_not.mp h1))))).trans (hF a j (fun q => q.elim (fun h => hm (Or.inl h)) (fun h => hm (Or.inr h))))) ⟨by omega, by omega⟩ ⟨by omega, by omega⟩ (by omega) (by omega) (by omega) (by omega) (pg_2 (a := c2 (A + 10) (v9 - 2)) (b := c2 (A + 10) (v9 - 1)) (v := c2 (A + 10) (v9 - 2)) hx4 (by omega) (by omega) hx3 (by omega) (by omega) rfl rfl (up_e (by omega)) (jn_6a (by omega) (by omega)) (fun j hj => up_n (by omega))) (ae_fr hx5 (fun j => up_c (pp rfl)) (fun j => rfl)) (by omega) (by omega)
        refine v_tsw_o (t := 87) rfl (by omega) (by decide) ?_
        refine q_iload_n rfl rfl ?_
        refine q_iload_n rfl rfl ?_
        by_cases h_38 : c2 (A + 10) (v9 - 2) < c2 (A + 10) (v9 - 1)
        · refine v_ic_lt_t (t := 96) rfl (by decide) ⟨h_13.1, h_38, h_14.2⟩ ?_
          refine q_iload_n rfl rfl ?_
          refine q_iret rfl rfl ?_
          refine bk_inl ?_
          refine v_is rfl (ck_p10 hA) (a68 hA rfl) (by decide) (by omega) ?_
          refine v_iinc (v := v10 + 1) rfl rfl (by decide) rfl ?_
          refine q_goto (t := 108) rfl (by decide) ?_
          have hI_39 := iw_p10 (j := v9 - 2) (v := c2 (A + 10) (v9 - 1)) hI2 hA ⟨h_14.1, h_14.2⟩
          refine Wp_ls [(0, .ref (A + 7)), (9, vi (v9 - 1)), (10, vi (v10 + 1))] (lsub_cons rfl (lsub_cons rfl (lsub_cons rfl lsub_nil))) ?_
          exact ih (up c2 (A + 10) (v9 - 2) (c2 (A + 10) (v9 - 1))) (v9 - 1) (v10 + 1) hI_39 (fun a j hm => (up_b (Decidable.or_iff_not_imp_left.mpr (fun h1 h2 => hm (Or.inl (Decidable.not_not.mp h1))))).trans (hF a j (fun q => q.elim (fun h => hm (Or.inl h)) (fun h => hm (Or.inr h))))) ⟨by omega, by omega⟩ ⟨by omega, by omega⟩ (by omega) (by omega) (by omega) (by omega) (pg_2 (a := c2 (A + 10) (v9 - 2)) (b := c2 (A + 10) (v9 - 1)) (v := c2 (A + 10) (v9 - 1)) hx4 (by omega) (by omega) hx3 (by omega) (by omega) rfl rfl (up_e (by omega)) (jn_7b (by omega) (by omega)) (fun j hj => up_n (by omega))) (ae_fr hx5 (fun j => up_c (pp rfl)) (fun j => rfl)) (by omega) (by omega)
        · refine v_ic_lt_f (t := 96) rfl (by decide) ⟨h_14.1, (Int.not_lt.mp h_38), h_13.2⟩ ?_
          refine q_iload_n rfl rfl ?_
          refine q_goto (t := 97) rfl (by decide) ?_
          refine q_iret rfl rfl ?_
          refine bk_inl ?_
          refine v_is rfl (ck_p10 hA) (a68 hA rfl) (by decide) (by omega) ?_
          refine v_iinc (v := v10 + 1) rfl rfl (by decide) rfl ?_
          refine q_goto (t := 108) rfl (by decide) ?_
          have hI_40 := iw_p10 (j := v9 - 2) (v := c2 (A + 10) (v9 - 2)) hI2 hA ⟨h_13.1, h_13.2⟩
          refine Wp_ls [(0, .ref (A + 7)), (9, vi (v9 - 1)), (10, vi (v10 + 1))] (lsub_cons rfl (lsub_cons rfl (lsub_cons rfl lsub_nil))) ?_
          exact ih (up c2 (A + 10) (v9 - 2) (c2 (A + 10) (v9 - 2))) (v9 - 1) (v10 + 1) hI_40 (fun a j hm => (up_b (Decidable.or_iff_not_imp_left.mpr (fun h1 h2 => hm (Or.inl (Decidable.not_not.mp h1))))).trans (hF a j (fun q => q.elim (fun h => hm (Or.inl h)) (fun h => hm (Or.inr h))))) ⟨by omega, by omega⟩ ⟨by omega, by omega⟩ (by omega) (by omega) (by omega) (by omega) (pg_2 (a := c2 (A + 10) (v9 - 2)) (b := c2 (A + 10) (v9 - 1)) (v := c2 (A + 10) (v9 - 2)) hx4 (by omega) (by omega) hx3 (by omega) (by omega) rfl rfl (up_e (by omega)) (jn_7a (by omega) (by omega)) (fun j hj => up_n (by omega))) (ae_fr hx5 (fun j => up_c (pp rfl)) (fun j => rfl)) (by omega) (by omega)
      · refine v_ic_ge_f (t := 171) rfl (by decide) ⟨by omega, (Int.not_le.mp h_12), by decide⟩ ?_
        refine q_aload_n rfl rfl ?_
        refine v_gr (t := (A + 10)) rfl rfl (ck_p7 hA) (a68 hA rfl) rfl ?_
        refine q_iload rfl rfl ?_
        refine q_iload rfl rfl ?_
        refine v_sip rfl (by decide) ?_
        by_cases h_41 : (Kc v10) ≥ 1000
        · refine v_ic_ge_t (t := 153) rfl (by decide) ⟨by decide, h_41, by omega⟩ ?_
          refine q_aload_n rfl rfl ?_
          refine v_gr (t := (A + 11)) rfl rfl (ck_p7 hA) (a68 hA rfl) rfl ?_
          refine q_iload rfl rfl ?_
          refine v_sip rfl (by decide) ?_
          refine v_isub (v := (Kc v10) - 1000) rfl rfl ?_
          have h_42 := ir_p11 hI2 hA ((Kc v10) - 1000)
          refine v_ia (v := c2 (A + 11) ((Kc v10) - 1000)) rfl (ck_p11 hA) (a68 hA rfl) (by decide) (by omega) rfl ?_
          refine v_is rfl (ck_p10 hA) (a68 hA rfl) (by decide) (by omega) ?_
          refine v_iinc (v := v9 + 1) rfl rfl (by decide) rfl ?_
          refine q_goto (t := 210) rfl (by decide) ?_
          refine v_iinc (v := v10 + 1) rfl rfl (by decide) rfl ?_
          refine q_goto (t := 108) rfl (by decide) ?_
          have hI_43 := iw_p10 (j := v9) (v := c2 (A + 11) ((Kc v10) - 1000)) hI2 hA ⟨h_42.1, h_42.2⟩
          refine Wp_ls [(0, .ref (A + 7)), (9, vi (v9 + 1)), (10, vi (v10 + 1))] (lsub_cons rfl (lsub_cons rfl (lsub_cons rfl lsub_nil))) ?_
          exact ih (up c2 (A + 10) v9 (c2 (A + 11) ((Kc v10) - 1000))) (v9 + 1) (v10 + 1) hI_43 (fun a j hm => (up_b (Decidable.or_iff_not_imp_left.mpr (fun h1 h2 => hm (Or.inl (Decidable.not_not.mp h1))))).trans (hF a j (fun q => q.elim (fun h => hm (Or.inl h)) (fun h => hm (Or.inr h))))) ⟨by omega, by omega⟩ ⟨by omega, by omega⟩ (by omega) (by omega) (by omega) (by omega) (pg_1 hx4 (by omega) (by omega) hx3 (by omega) (up_e rfl) (show c2 (A + 11) ((Kc v10) - 1000) = _ from (hx5 _ (by omega) (by omega)).trans (congrArg (nmf a1 a2 a3 a4 a5 a6 a7) (by omega))) (fun j hj => up_n (by omega))) (ae_fr hx5 (fun j => up_c (pp rfl)) (fun j => rfl)) (by omega) (by omega)
        · refine v_ic_ge_f (t := 153) rfl (by decide) ⟨by omega, (Int.not_le.mp h_41), by decide⟩ ?_
          refine q_iload rfl rfl ?_
          refine q_goto (t := 164) rfl (by decide) ?_
          refine v_is rfl (ck_p10 hA) (a68 hA rfl) (by decide) (by omega) ?_
          refine v_iinc (v := v9 + 1) rfl rfl (by decide) rfl ?_
          refine q_goto (t := 210) rfl (by decide) ?_
          refine v_iinc (v := v10 + 1) rfl rfl (by decide) rfl ?_
          refine q_goto (t := 108) rfl (by decide) ?_
          have hI_44 := iw_p10 (j := v9) (v := (Kc v10)) hI2 hA ⟨by omega, by omega⟩
          refine Wp_ls [(0, .ref (A + 7)), (9, vi (v9 + 1)), (10, vi (v10 + 1))] (lsub_cons rfl (lsub_cons rfl (lsub_cons rfl lsub_nil))) ?_
          exact ih (up c2 (A + 10) v9 (Kc v10)) (v9 + 1) (v10 + 1) hI_44 (fun a j hm => (up_b (Decidable.or_iff_not_imp_left.mpr (fun h1 h2 => hm (Or.inl (Decidable.not_not.mp h1))))).trans (hF a j (fun q => q.elim (fun h => hm (Or.inl h)) (fun h => hm (Or.inr h))))) ⟨by omega, by omega⟩ ⟨by omega, by omega⟩ (by omega) (by omega) (by omega) (by omega) (pg_0 hx4 (by omega) (by omega) hx3 (by omega) (up_e rfl) (by omega) (fun j hj => up_n (by omega))) (ae_fr hx5 (fun j => up_c (pp rfl)) (fun j => rfl)) (by omega) (by omega)
set_option maxRecDepth 100000 in
set_option maxHeartbeats 4000000 in
theorem f_20 {sc : List Int32} {e : Int} {d u P Q A : Nat} {c : ME} {n9 a1 a2 a3 a4 a5 a6 a7 : Int} {Kc Gw Go : Int → Int} {Z : AR → Prop} (hI : Iv u e P Q c) (hA : A = 13 ∨ A = 25) (ha1 : 0 ≤ a1 ∧ a1 ≤ 9999) (ha2 : 0 ≤ a2 ∧ a2 ≤ 9999) (ha3 : 0 ≤ a3 ∧ a3 ≤ 9999) (ha4 : 0 ≤ a4 ∧ a4 ≤ 9999) (ha5 : (-2147483648) ≤ a5 ∧ a5 ≤ 2147483647) (ha6 : (-2147483648) ≤ a6 ∧ a6 ≤ 2147483647) (ha7 : (-2147483648) ≤ a7 ∧ a7 ≤ 2147483647) (hq0 : Ce n9 Kc Gw Go) (hq1 : Hw Gw Go n9) (hv0 : c (A + 7) 4 = n9) (hKc : ∀ j : Int, c (A + 8) j = Kc j) (K0 : ∀ c2 : ME, Iv u e P Q c2 → (∀ (a : Nat) (j : Int), ¬ (a = (A + 10) ∨ a = (A + 11)) → c2 a j = c a j) → (((pw Gw Go n9 a1 a2 a3 a4 a5 a6 a7) ≥ 0 ∧ (pw Gw Go n9 a1 a2 a3 a4 a5 a6 a7) ≤ 99)) → Z (.inl (some (vi (pw Gw Go n9 a1 a2 a3 a4 a5 a6 a7))), Wd P Q P P c2, 0, 0)) : Wp sc (d + 9) 20 0 [(0, .ref (A + 7)), (1, vi a1), (2, vi a2), (3, vi a3), (4, vi a4), (5, vi a5), (6, vi a6), (7, vi a7)] [] (Wd P Q P P c) 0 0 Z := by
  have hP := iv_P hI
  have hQ := iv_Q hI
  have h_45 := ir_p7_4 hI hA
  refine q_iload_n rfl rfl ?_
  refine q_iload_n rfl rfl ?_
  refine v_iadd (v := a1 + a2) rfl rfl ?_
  refine q_iload_n rfl rfl ?_
  refine v_iadd (v := a1 + a2 + a3) rfl rfl ?_
  refine q_iload rfl rfl ?_
  refine v_iadd (v := a1 + a2 + a3 + a4) rfl rfl ?_
  refine q_istore rfl (by decide) ?_
  refine q_aload_n rfl rfl ?_
  refine v_gi (z := 4) (v := n9) rfl rfl (ck_p7 hA) (a68 hA rfl) rfl rfl (hv0) ?_
  by_cases h_46 : n9 ≠ 0
  · refine v_if_ne_t (t := 39) rfl (by decide) ⟨h_46, ⟨by omega, by omega⟩, by decide, by decide⟩ ?_
    refine q_aload_n rfl rfl ?_
    refine v_gr (t := (A + 11)) rfl rfl (ck_p7 hA) (a68 hA rfl) rfl ?_
    refine q_iconst rfl ?_
    refine q_iload_n rfl rfl ?_
    refine v_is rfl (ck_p11 hA) (a68 hA rfl) (by decide) (by decide) ?_
    refine q_aload_n rfl rfl ?_
    refine v_gr (t := (A + 11)) rfl rfl (ck_p7 hA) (a68 hA rfl) rfl ?_
    refine q_iconst rfl ?_
    refine q_iload_n rfl rfl ?_
    refine v_is rfl (ck_p11 hA) (a68 hA rfl) (by decide) (by decide) ?_
    refine q_aload_n rfl rfl ?_
    refine v_gr (t := (A + 11)) rfl rfl (ck_p7 hA) (a68 hA rfl) rfl ?_
    refine q_iconst rfl ?_
    refine q_iload_n rfl rfl ?_
    refine v_is rfl (ck_p11 hA) (a68 hA rfl) (by decide) (by decide) ?_
    refine q_aload_n rfl rfl ?_
    refine v_gr (t := (A + 11)) rfl rfl (ck_p7 hA) (a68 hA rfl) rfl ?_
    refine q_iconst rfl ?_
    refine q_iload rfl rfl ?_
    refine v_is rfl (ck_p11 hA) (a68 hA rfl) (by decide) (by decide) ?_
    refine q_aload_n rfl rfl ?_
    refine v_gr (t := (A + 11)) rfl rfl (ck_p7 hA) (a68 hA rfl) rfl ?_
    refine q_iconst rfl ?_
    refine q_iload rfl rfl ?_
    refine v_is rfl (ck_p11 hA) (a68 hA rfl) (by decide) (by decide) ?_
    refine q_aload_n rfl rfl ?_
    refine v_gr (t := (A + 11)) rfl rfl (ck_p7 hA) (a68 hA rfl) rfl ?_
    refine q_iconst rfl ?_
    refine q_iload rfl rfl ?_
    refine v_is rfl (ck_p11 hA) (a68 hA rfl) (by decide) (by decide) ?_
    refine q_aload_n rfl rfl ?_
    refine v_gr (t := (A + 11)) rfl rfl (ck_p7 hA) (a68 hA rfl) rfl ?_
    refine v_bip rfl (by decide) ?_
    refine q_iload rfl rfl ?_
    refine v_is rfl (ck_p11 hA) (a68 hA rfl) (by decide) (by decide) ?_
    refine q_aload_n rfl rfl ?_
    refine v_gr (t := (A + 11)) rfl rfl (ck_p7 hA) (a68 hA rfl) rfl ?_
    refine v_bip rfl (by decide) ?_
    refine q_iload rfl rfl ?_
    refine v_is rfl (ck_p11 hA) (a68 hA rfl) (by decide) (by decide) ?_
    refine q_iconst rfl ?_
    refine q_istore rfl (by decide) ?_
    refine q_iconst rfl ?_
    refine q_istore rfl (by decide) ?_
    have hI_47 := iw_p11 (j := 0) (v := a1) hI hA ⟨(Int.le_trans (by decide) ha1.1), (Int.le_trans ha1.2 (by decide))⟩
    have hI_48 := iw_p11 (j := 1) (v := a2) hI_47 hA ⟨(Int.le_trans (by decide) ha2.1), (Int.le_trans ha2.2 (by decide))⟩
    have hI_49 := iw_p11 (j := 2) (v := a3) hI_48 hA ⟨(Int.le_trans (by decide) ha3.1), (Int.le_trans ha3.2 (by decide))⟩
    have hI_50 := iw_p11 (j := 3) (v := a4) hI_49 hA ⟨(Int.le_trans (by decide) ha4.1), (Int.le_trans ha4.2 (by decide))⟩
    have hI_51 := iw_p11 (j := 4) (v := a1 + a2 + a3 + a4) hI_50 hA ⟨by omega, by omega⟩
    have hI_52 := iw_p11 (j := 5) (v := a5) hI_51 hA ⟨ha5.1, ha5.2⟩
    have hI_53 := iw_p11 (j := 6) (v := a6) hI_52 hA ⟨ha6.1, ha6.2⟩
    have hI_54 := iw_p11 (j := 7) (v := a7) hI_53 hA ⟨ha7.1, ha7.2⟩
    refine Wp_ls [(0, .ref (A + 7)), (9, vi 0), (10, vi 0)] (lsub_cons rfl (lsub_cons rfl (lsub_cons rfl lsub_nil))) ?_
    exact (f_20_l (sc := sc) (d := d) hI hA ha1 ha2 ha3 ha4 ha5 ha6 ha7 hq0 hq1 hv0 hKc K0 151) (up (up (up (up (up (up (up (up c (A + 11) 0 a1) (A + 11) 1 a2) (A + 11) 2 a3) (A + 11) 3 a4) (A + 11) 4 (a1 + a2 + a3 + a4)) (A + 11) 5 a5) (A + 11) 6 a6) (A + 11) 7 a7) 0 0 hI_54 (fun a j hm => (up_b (Decidable.or_iff_not_imp_left.mpr (fun h1 h2 => hm (Or.inr (Decidable.not_not.mp h1))))).trans ((up_b (Decidable.or_iff_not_imp_left.mpr (fun h1 h2 => hm (Or.inr (Decidable.not_not.mp h1))))).trans ((up_b (Decidable.or_iff_not_imp_left.mpr (fun h1 h2 => hm (Or.inr (Decidable.not_not.mp h1))))).trans ((up_b (Decidable.or_iff_not_imp_left.mpr (fun h1 h2 => hm (Or.inr (Decidable.not_not.mp h1))))).trans ((up_b (Decidable.or_iff_not_imp_left.mpr (fun h1 h2 => hm (Or.inr (Decidable.not_not.mp h1))))).trans ((up_b (Decidable.or_iff_not_imp_left.mpr (fun h1 h2 => hm (Or.inr (Decidable.not_not.mp h1))))).trans ((up_b (Decidable.or_iff_not_imp_left.mpr (fun h1 h2 => hm (Or.inr (Decidable.not_not.mp h1))))).trans (up_b (Decidable.or_iff_not_imp_left.mpr (fun h1 h2 => hm (Or.inr (Decidable.not_not.mp h1)))))))))))) ⟨by omega, by omega⟩ ⟨by omega, by omega⟩ (by omega) (by omega) (by omega) (show (0 : Int) = hgt Gw (0 : Int).toNat from rfl) (pg_z rfl) (ae_8 ((((up_n (by decide)).trans ((up_n (by decide)).trans ((up_n (by decide)).trans ((up_n (by decide)).trans ((up_n (by decide)).trans ((up_n (by decide)).trans ((up_n (by decide)).trans (up_e rfl))))))))).trans (show a1 = (nmf a1 a2 a3 a4 a5 a6 a7) 0 from rfl)) ((((up_n (by decide)).trans ((up_n (by decide)).trans ((up_n (by decide)).trans ((up_n (by decide)).trans ((up_n (by decide)).trans ((up_n (by decide)).trans (up_e rfl)))))))).trans (show a2 = (nmf a1 a2 a3 a4 a5 a6 a7) 1 from rfl)) ((((up_n (by decide)).trans ((up_n (by decide)).trans ((up_n (by decide)).trans ((up_n (by decide)).trans ((up_n (by decide)).trans (up_e rfl))))))).trans (show a3 = (nmf a1 a2 a3 a4 a5 a6 a7) 2 from rfl)) ((((up_n (by decide)).trans ((up_n (by decide)).trans ((up_n (by decide)).trans ((up_n (by decide)).trans (up_e rfl)))))).trans (show a4 = (nmf a1 a2 a3 a4 a5 a6 a7) 3 from rfl)) ((((up_n (by decide)).trans ((up_n (by decide)).trans ((up_n (by decide)).trans (up_e rfl))))).trans (show a1 + a2 + a3 + a4 = (nmf a1 a2 a3 a4 a5 a6 a7) 4 from rfl)) ((((up_n (by decide)).trans ((up_n (by decide)).trans (up_e rfl)))).trans (show a5 = (nmf a1 a2 a3 a4 a5 a6 a7) 5 from rfl)) ((((up_n (by decide)).trans (up_e rfl))).trans (show a6 = (nmf a1 a2 a3 a4 a5 a6 a7) 6 from rfl)) (((up_e rfl)).trans (show a7 = (nmf a1 a2 a3 a4 a5 a6 a7) 7 from rfl))) (by omega) (by omega)
  · refine v_if_ne_f (t := 39) rfl (by decide) (Decidable.not_not.mp h_46) ?_
    refine q_iload rfl rfl ?_
    refine v_if_lt_f (t := 37) rfl (by decide) (by omega) ?_
    refine q_iload_n rfl rfl ?_
    refine v_bip rfl (by decide) ?_
    refine v_imul (v := 90 * a1) rfl (by omega) ?_
    refine q_iload rfl rfl ?_
    refine q_iconst rfl ?_
    refine v_iadd (v := a1 + a2 + a3 + a4 + 1) rfl rfl ?_
    have h_55 : 0 ≤ ((90 * a1) / (a1 + a2 + a3 + a4 + 1)) ∧ ((90 * a1) / (a1 + a2 + a3 + a4 + 1)) ≤ 90 * a1 := div_r (by omega) (by omega)
    refine v_idiv (v := ((90 * a1) / (a1 + a2 + a3 + a4 + 1))) rfl (by omega) rfl ?_
    refine q_call rfl rfl rfl rfl ?_
    refine q_iload_n rfl rfl ?_
    refine v_if_ge_t (t := 8) rfl (by decide) (by omega) ?_
    refine q_iload_n rfl rfl ?_
    refine v_bip rfl (by decide) ?_
    by_cases h_56 : ((90 * a1) / (a1 + a2 + a3 + a4 + 1)) ≤ 99
    · refine v_ic_le_t (t := 19) rfl (by decide) ⟨by omega, h_56, by decide⟩ ?_
      refine q_iload_n rfl rfl ?_
      refine q_iret rfl rfl ?_
      refine bk_inl ?_
      refine q_goto (t := 38) rfl (by decide) ?_
      refine q_iret rfl rfl ?_
      have hw_57 : pw Gw Go n9 a1 a2 a3 a4 a5 a6 a7 = ((90 * a1) / (a1 + a2 + a3 + a4 + 1)) := pw_0 (by omega) (bnd_m ⟨by omega, by omega⟩)
      exact zv (by omega) (K0 c hI (fun a j hm => rfl) (by omega))
    · refine v_ic_le_f (t := 19) rfl (by decide) ⟨by decide, (Int.not_le.mp h_56), by omega⟩ ?_
      refine v_bip rfl (by decide) ?_
      refine q_goto (t := 20) rfl (by decide) ?_
      refine q_iret rfl rfl ?_
      refine bk_inl ?_
      refine q_goto (t := 38) rfl (by decide) ?_
      refine q_iret rfl rfl ?_
      have hw_58 : pw Gw Go n9 a1 a2 a3 a4 a5 a6 a7 = 99 := pw_0 (by omega) (bnd_h (by omega))
      exact zv (by omega) (K0 c hI (fun a j hm => rfl) (by omega))

set_option maxRecDepth 100000 in
set_option maxHeartbeats 4000000 in
theorem f_179_l {sc : List Int32} {e : Int} {d u P Q : Nat} {c : ME} {n9 b1 b2 b3 b4 b5 b6 b7 : Int} {Gw Go : Int → Int} {Z : AR → Prop} (hI : Iv u e P Q c) (hq0 : Hw Gw Go n9) (hq1 : Ae 8 (c 55) (nmf b1 b2 b3 b4 b5 b6 b7)) (hq2 : (n9 ≥ 1)) (hv0 : c 41 30 = n9) (hGw : ∀ j : Int, c 52 j = Gw j) (hGo : ∀ j : Int, c 53 j = Go j) (K0 : ∀ c2 : ME, Iv u e P Q c2 → (∀ (a : Nat) (j : Int), ¬ (a = 54) → c2 a j = c a j) → (((pil (nmf b1 b2 b3 b4 b5 b6 b7) Gw Go n9.toNat 0) ≥ (-2147483648) ∧ (pil (nmf b1 b2 b3 b4 b5 b6 b7) Gw Go n9.toNat 0) ≤ 2147483647)) → Z (.inl (some (vi (pil (nmf b1 b2 b3 b4 b5 b6 b7) Gw Go n9.toNat 0))), Wd P Q P P c2, 0, 0)) : ∀ n : Nat, (∀ (c2 : ME) (v1 : Int) (v2 : Int), Iv u e P Q c2 → (∀ (a : Nat) (j : Int), ¬ (a = 54) → c2 a j = c a j) → 0 ≤ v1 ∧ v1 ≤ 150 → 0 ≤ v2 ∧ v2 ≤ 150 → ((v1 ≤ v2)) → ((v1 ≥ 1) ∨ (v2 = 0)) → ((v2 ≤ n9)) → (v1 = hgt Gw v2.toNat) → (Pg (nmf b1 b2 b3 b4 b5 b6 b7) Gw Go v2 (c2 54)) → 150 - v2 < (n : Int) → Wp sc (d + 9) 179 4 [(0, .ref 41), (1, vi v1), (2, vi v2)] [] (Wd P Q P P c2) 0 0 Z)
  | 0 => by intro c2 v1 v2 hI2 hF hv1 hv2 hx0 hx1 hx2 hx3 hx4 hm9; have hP := iv_P hI; have hQ := iv_Q hI; have h_1 := ir_41_30 hI; exfalso; omega
  | n + 1 => by
    have hP := iv_P hI
    have hQ := iv_Q hI
    have ih := f_179_l (sc := sc) (d := d) hI hq0 hq1 hq2 hv0 hGw hGo K0 n
    intro c2 v1 v2 hI2 hF hv1 hv2 hx0 hx1 hx2 hx3 hx4 hm9
    have h_1 := ir_41_30 hI
    refine q_iload_n rfl rfl ?_
    refine q_aload_n rfl rfl ?_
    have kn_2 : Hid (c2 41 30 = n9) := (hF 41 30 (fun h => absurd h (nn rfl))).trans (hv0)
    refine v_gi (z := 30) (v := n9) rfl rfl rfl (by decide) rfl rfl (hid kn_2) ?_
    by_cases h_3 : v2 ≥ n9
    · refine v_ic_ge_t (t := 95) rfl (by decide) ⟨by omega, h_3, (Int.le_trans hv2.2 (by decide))⟩ ?_
      refine q_aload_n rfl rfl ?_
      refine v_gr (t := 54) rfl rfl rfl (by decide) rfl ?_
      refine q_iconst rfl ?_
      have h_4 := ir_54 hI2 0
      refine v_ia (v := c2 54 0) rfl rfl (by decide) (by decide) (by decide) rfl ?_
      refine q_iret rfl rfl ?_
      have hw_5 : pil (nmf b1 b2 b3 b4 b5 b6 b7) Gw Go n9.toNat 0 = c2 54 0 := by rw [show n9 = v2 by omega]; exact (hx4 0 (by omega) (by omega)).symm
      exact zv (by omega) (K0 c2 hI2 (fun a j hm => hF a j (fun h => hm h)) (by omega))
    · refine v_ic_ge_f (t := 95) rfl (by decide) ⟨(Int.le_trans (by decide) hv2.1), (Int.not_le.mp h_3), by omega⟩ ?_
      have hwk := hw_k hq0 (k := v2) (by omega) (by omega)
      have hgs := hgt_s (f := Gw) (k := v2) (by omega)
      refine q_aload_n rfl rfl ?_
      refine v_gr (t := 52) rfl rfl rfl (by decide) rfl ?_
      refine q_iload_n rfl rfl ?_
      have h_6 : 0 ≤ (Gw v2) ∧ (Gw v2) ≤ 8 := by rw [← hGw v2]; exact ir_52 hI v2
      have kn_7 : Hid (c2 52 v2 = (Gw v2)) := (hF 52 v2 (fun h => absurd h (nn rfl))).trans (hGw v2)
      refine v_ia (v := (Gw v2)) rfl rfl (by decide) (by decide) (by omega) (hid kn_7) ?_
      refine q_istore_n rfl (by decide) ?_
      refine q_iload_n rfl rfl ?_
      refine q_iconst rfl ?_
      by_cases h_8 : (Gw v2) > 1
      · refine v_ic_gt_t (t := 60) rfl (by decide) ⟨by decide, h_8, by omega⟩ ?_
        refine v_iinc (v := v1 - 1) rfl rfl (by decide) (by omega) ?_
        refine q_aload_n rfl rfl ?_
        refine v_gr (t := 54) rfl rfl rfl (by decide) rfl ?_
        refine q_iload_n rfl rfl ?_
        refine q_iconst rfl ?_
        refine v_isub (v := v1 - 2) rfl (by omega) ?_
        refine q_iload_n rfl rfl ?_
        refine q_aload_n rfl rfl ?_
        refine v_gr (t := 54) rfl rfl rfl (by decide) rfl ?_
        refine q_iload_n rfl rfl ?_
        refine q_iconst rfl ?_
        refine v_isub (v := v1 - 2) rfl (by omega) ?_
        have h_9 := ir_54 hI2 (v1 - 2)
        refine v_ia (v := c2 54 (v1 - 2)) rfl rfl (by decide) (by decide) (by omega) rfl ?_
        refine q_aload_n rfl rfl ?_
        refine v_gr (t := 54) rfl rfl rfl (by decide) rfl ?_
        refine q_iload_n rfl rfl ?_
        have h_10 := ir_54 hI2 (v1 - 1)
        refine v_ia (v := c2 54 (v1 - 1)) rfl rfl (by decide) (by decide) (by omega) rfl ?_
        refine q_call rfl rfl rfl rfl ?_
        refine q_iload_n rfl rfl ?_
        refine q_iconst rfl ?_
        by_cases h_11 : (Gw v2) ≠ 2
        · refine v_ic_ne_t (t := 9) rfl (by decide) ⟨h_11, ⟨by omega, by omega⟩, by decide, by decide⟩ ?_
          refine q_iload_n rfl rfl ?_
          refine q_iconst rfl ?_
          by_cases h_12 : (Gw v2) ≠ 3
          · refine v_ic_ne_t (t := 18) rfl (by decide) ⟨h_12, ⟨by omega, by omega⟩, by decide, by decide⟩ ?_
            refine q_iload_n rfl rfl ?_
            refine q_iconst rfl ?_
            by_cases h_13 : (Gw v2) ≠ 4
            · refine v_ic_ne_t (t := 27) rfl (by decide) ⟨h_13, ⟨by omega, by omega⟩, by decide, by decide⟩ ?_
              refine q_iload_n rfl rfl ?_
              refine q_iconst rfl ?_
              by_cases h_14 : (Gw v2) = 5
              · refine v_ic_eq_t (t := 38) rfl (by decide) h_14 ?_
                refine q_iload_n rfl rfl ?_
                by_cases h_15 : c2 54 (v1 - 1) ≠ 0
                · refine v_if_ne_t (t := 46) rfl (by decide) ⟨h_15, ⟨h_10.1, h_10.2⟩, by decide, by decide⟩ ?_
                  refine q_iload_n rfl rfl ?_
                  refine q_iconst rfl ?_
                  refine v_ic_ne_f (t := 57) rfl (by decide) (by omega) ?_
                  refine q_iload_n rfl rfl ?_
                  refine q_iload_n rfl rfl ?_
                  refine v_idive rfl ⟨by omega, by omega, by omega⟩ ?_
                  have h_16 := dv_rng (c2 54 (v1 - 2)) (c2 54 (v1 - 1))
                  refine q_goto (t := 60) rfl (by decide) ?_
                  refine q_iret rfl rfl ?_
                  refine bk_inl ?_
                  refine v_is rfl rfl (by decide) (by decide) (by omega) ?_
                  refine v_iinc (v := v2 + 1) rfl rfl (by decide) rfl ?_
                  refine q_goto (t := 4) rfl (by decide) ?_
                  have hI_17 := iw_54 (j := v1 - 2) (v := (dv (c2 54 (v1 - 2)) (c2 54 (v1 - 1)))) hI2 ⟨by omega, by omega⟩
                  refine Wp_ls [(0, .ref 41), (1, vi (v1 - 1)), (2, vi (v2 + 1))] (lsub_cons rfl (lsub_cons rfl (lsub_cons rfl lsub_nil))) ?_
                  exact ih (up c2 54 (v1 - 2) (dv (c2 54 (v1 - 2)) (c2 54 (v1 - 1)))) (v1 - 1) (v2 + 1) hI_17 (fun a j hm => (up_b (Decidable.or_iff_not_imp_left.mpr (fun h1 h2 => hm (Decidable.not_not.mp h1)))).trans (hF a j (fun h => hm h))) ⟨by omega, by omega⟩ ⟨by omega, by omega⟩ (by omega) (by omega) (by omega) (by omega) (pg_2 (a := c2 54 (v1 - 2)) (b := c2 54 (v1 - 1)) (v := (dv (c2 54 (v1 - 2)) (c2 54 (v1 - 1)))) hx4 (by omega) (by omega) hx3 (by omega) (by omega) rfl rfl (up_e (by omega)) (jn_5 (by omega) (by omega)) (fun j hj => up_n (by omega))) (by omega)
                · refine v_if_ne_f (t := 46) rfl (by decide) (Decidable.not_not.mp h_15) ?_
                  refine q_iconst rfl ?_
                  refine q_goto (t := 60) rfl (by decide) ?_
                  refine q_iret rfl rfl ?_
                  refine bk_inl ?_
                  refine v_is rfl rfl (by decide) (by decide) (by omega) ?_
                  refine v_iinc (v := v2 + 1) rfl rfl (by decide) rfl ?_
                  refine q_goto (t := 4) rfl (by decide) ?_
                  have hI_18 := iw_54 (j := v1 - 2) (v := 0) hI2 ⟨by decide, by decide⟩
                  refine Wp_ls [(0, .ref 41), (1, vi (v1 - 1)), (2, vi (v2 + 1))] (lsub_cons rfl (lsub_cons rfl (lsub_cons rfl lsub_nil))) ?_
                  exact ih (up c2 54 (v1 - 2) 0) (v1 - 1) (v2 + 1) hI_18 (fun a j hm => (up_b (Decidable.or_iff_not_imp_left.mpr (fun h1 h2 => hm (Decidable.not_not.mp h1)))).trans (hF a j (fun h => hm h))) ⟨by omega, by omega⟩ ⟨by omega, by omega⟩ (by omega) (by omega) (by omega) (by omega) (pg_2 (a := c2 54 (v1 - 2)) (b := c2 54 (v1 - 1)) (v := 0) hx4 (by omega) (by omega) hx3 (by omega) (by omega) rfl rfl (up_e (by omega)) (jn_5z (by omega) (by omega)) (fun j hj => up_n (by omega))) (by omega)
              · refine v_ic_eq_f (t := 38) rfl (by decide) ⟨h_14, ⟨by omega, by omega⟩, by decide, by decide⟩ ?_
                refine q_iload_n rfl rfl ?_
                refine v_bip rfl (by decide) ?_
                by_cases h_19 : (Gw v2) ≠ 8
                · refine v_ic_ne_t (t := 61) rfl (by decide) ⟨h_19, ⟨by omega, by omega⟩, by decide, by decide⟩ ?_
                  refine q_iload_n rfl rfl ?_
                  refine q_iload_n rfl rfl ?_
                  by_cases h_20 : c2 54 (v1 - 2) ≥ c2 54 (v1 - 1)
                  · refine v_ic_ge_t (t := 70) rfl (by decide) ⟨h_10.1, h_20, h_9.2⟩ ?_
                    refine q_iconst rfl ?_
                    refine q_iload_n rfl rfl ?_
                    refine v_bip rfl (by decide) ?_
                    by_cases h_21 : (Gw v2) ≠ 6
                    · refine v_ic_ne_t (t := 81) rfl (by decide) ⟨h_21, ⟨by omega, by omega⟩, by decide, by decide⟩ ?_
                      refine q_iconst rfl ?_
                      refine v_ic_ne_f (t := 89) rfl (by decide) (by decide) ?_
                      refine q_iload_n rfl rfl ?_
                      refine q_goto (t := 90) rfl (by decide) ?_
                      refine q_iret rfl rfl ?_
                      refine bk_inl ?_
                      refine v_is rfl rfl (by decide) (by decide) (by omega) ?_
                      refine v_iinc (v := v2 + 1) rfl rfl (by decide) rfl ?_
                      refine q_goto (t := 4) rfl (by decide) ?_
                      have hI_22 := iw_54 (j := v1 - 2) (v := c2 54 (v1 - 2)) hI2 ⟨h_9.1, h_9.2⟩
                      refine Wp_ls [(0, .ref 41), (1, vi (v1 - 1)), (2, vi (v2 + 1))] (lsub_cons rfl (lsub_cons rfl (lsub_cons rfl lsub_nil))) ?_
                      exact ih (up c2 54 (v1 - 2) (c2 54 (v1 - 2))) (v1 - 1) (v2 + 1) hI_22 (fun a j hm => (up_b (Decidable.or_iff_not_imp_left.mpr (fun h1 h2 => hm (Decidable.not_not.mp h1)))).trans (hF a j (fun h => hm h))) ⟨by omega, by omega⟩ ⟨by omega, by omega⟩ (by omega) (by omega) (by omega) (by omega) (pg_2 (a := c2 54 (v1 - 2)) (b := c2 54 (v1 - 1)) (v := c2 54 (v1 - 2)) hx4 (by omega) (by omega) hx3 (by omega) (by omega) rfl rfl (up_e (by omega)) (jn_7a (by omega) (by omega)) (fun j hj => up_n (by omega))) (by omega)
                    · refine v_ic_ne_f (t := 81) rfl (by decide) (Decidable.not_not.mp h_21) ?_
                      refine q_iconst rfl ?_
                      refine q_goto (t := 82) rfl (by decide) ?_
                      refine v_ic_ne_t (t := 89) rfl (by decide) (by decide) ?_
                      refine q_iload_n rfl rfl ?_
                      refine q_iret rfl rfl ?_
                      refine bk_inl ?_
                      refine v_is rfl rfl (by decide) (by decide) (by omega) ?_
                      refine v_iinc (v := v2 + 1) rfl rfl (by decide) rfl ?_
                      refine q_goto (t := 4) rfl (by decide) ?_
                      have hI_23 := iw_54 (j := v1 - 2) (v := c2 54 (v1 - 1)) hI2 ⟨h_10.1, h_10.2⟩
                      refine Wp_ls [(0, .ref 41), (1, vi (v1 - 1)), (2, vi (v2 + 1))] (lsub_cons rfl (lsub_cons rfl (lsub_cons rfl lsub_nil))) ?_
                      exact ih (up c2 54 (v1 - 2) (c2 54 (v1 - 1))) (v1 - 1) (v2 + 1) hI_23 (fun a j hm => (up_b (Decidable.or_iff_not_imp_left.mpr (fun h1 h2 => hm (Decidable.not_not.mp h1)))).trans (hF a j (fun h => hm h))) ⟨by omega, by omega⟩ ⟨by omega, by omega⟩ (by omega) (by omega) (by omega) (by omega) (pg_2 (a := c2 54 (v1 - 2)) (b := c2 54 (v1 - 1)) (v := c2 54 (v1 - 1)) hx4 (by omega) (by omega) hx3 (by omega) (by omega) rfl rfl (up_e (by omega)) (jn_6b (by omega) (by omega)) (fun j hj => up_n (by omega))) (by omega)
                  · refine v_ic_ge_f (t := 70) rfl (by decide) ⟨h_9.1, (Int.not_le.mp h_20), h_10.2⟩ ?_
                    refine q_iconst rfl ?_
                    refine q_goto (t := 71) rfl (by decide) ?_
                    refine q_iload_n rfl rfl ?_
                    refine v_bip rfl (by decide) ?_
                    by_cases h_24 : (Gw v2) ≠ 6
                    · refine v_ic_ne_t (t := 81) rfl (by decide) ⟨h_24, ⟨by omega, by omega⟩, by decide, by decide⟩ ?_
                      refine q_iconst rfl ?_
                      refine v_ic_ne_t (t := 89) rfl (by decide) (by decide) ?_
                      refine q_iload_n rfl rfl ?_
                      refine q_iret rfl rfl ?_
                      refine bk_inl ?_
                      refine v_is rfl rfl (by decide) (by decide) (by omega) ?_
                      refine v_iinc (v := v2 + 1) rfl rfl (by decide) rfl ?_
                      refine q_goto (t := 4) rfl (by decide) ?_
                      have hI_25 := iw_54 (j := v1 - 2) (v := c2 54 (v1 - 1)) hI2 ⟨h_10.1, h_10.2⟩
                      refine Wp_ls [(0, .ref 41), (1, vi (v1 - 1)), (2, vi (v2 + 1))] (lsub_cons rfl (lsub_cons rfl (lsub_cons rfl lsub_nil))) ?_
                      exact ih (up c2 54 (v1 - 2) (c2 54 (v1 - 1))) (v1 - 1) (v2 + 1) hI_25 (fun a j hm => (up_b (Decidable.or_iff_not_imp_left.mpr (fun h1 h2 => hm (Decidable.not_not.mp h1)))).trans (hF a j (fun h => hm h))) ⟨by omega, by omega⟩ ⟨by omega, by omega⟩ (by omega) (by omega) (by omega) (by omega) (pg_2 (a := c2 54 (v1 - 2)) (b := c2 54 (v1 - 1)) (v := c2 54 (v1 - 1)) hx4 (by omega) (by omega) hx3 (by omega) (by omega) rfl rfl (up_e (by omega)) (jn_7b (by omega) (by omega)) (fun j hj => up_n (by omega))) (by omega)
                    · refine v_ic_ne_f (t := 81) rfl (by decide) (Decidable.not_not.mp h_24) ?_
                      refine q_iconst rfl ?_
                      refine q_goto (t := 82) rfl (by decide) ?_
                      refine v_ic_ne_f (t := 89) rfl (by decide) (by decide) ?_
                      refine q_iload_n rfl rfl ?_
                      refine q_goto (t := 90) rfl (by decide) ?_
                      refine q_iret rfl rfl ?_
                      refine bk_inl ?_
                      refine v_is rfl rfl (by decide) (by decide) (by omega) ?_
                      refine v_iinc (v := v2 + 1) rfl rfl (by decide) rfl ?_
                      refine q_goto (t := 4) rfl (by decide) ?_
                      have hI_26 := iw_54 (j := v1 - 2) (v := c2 54 (v1 - 2)) hI2 ⟨h_9.1, h_9.2⟩
                      refine Wp_ls [(0, .ref 41), (1, vi (v1 - 1)), (2, vi (v2 + 1))] (lsub_cons rfl (lsub_cons rfl (lsub_cons rfl lsub_nil))) ?_
                      exact ih (up c2 54 (v1 - 2) (c2 54 (v1 - 2))) (v1 - 1) (v2 + 1) hI_26 (fun a j hm => (up_b (Decidable.or_iff_not_imp_left.mpr (fun h1 h2 => hm (Decidable.not_not.mp h1)))).trans (hF a j (fun h => hm h))) ⟨by omega, by omega⟩ ⟨by omega, by omega⟩ (by omega) (by omega) (by omega) (by omega) (pg_2 (a := c2 54 (v1 - 2)) (b := c2 54 (v1 - 1)) (v := c2 54 (v1 - 2)) hx4 (by omega) (by omega) hx3 (by omega) (by omega) rfl rfl (up_e (by omega)) (jn_6a (by omega) (by omega)) (fun j hj => up_n (by omega))) (by omega)
                · refine v_ic_ne_f (t := 61) rfl (by decide) (Decidable.not_not.mp h_19) ?_
                  refine q_iload_n rfl rfl ?_
                  by_cases h_27 : c2 54 (v1 - 1) ≠ 0
                  · refine v_if_ne_t (t := 46) rfl (by decide) ⟨h_27, ⟨h_10.1, h_10.2⟩, by decide, by decide⟩ ?_
                    refine q_iload_n rfl rfl ?_
                    refine q_iconst rfl ?_
                    refine v_ic_ne_t (t := 57) rfl (by decide) ⟨by omega, ⟨by omega, by omega⟩, by decide, by decide⟩ ?_
                    refine q_iload_n rfl rfl ?_
                    refine q_iload_n rfl rfl ?_
                    refine v_ireme rfl ⟨by omega, by omega, by omega⟩ ?_
                    have h_28 := rm_rng (c2 54 (v1 - 2)) (c2 54 (v1 - 1))
                    refine q_iret rfl rfl ?_
                    refine bk_inl ?_
                    refine v_is rfl rfl (by decide) (by decide) (by omega) ?_
                    refine v_iinc (v := v2 + 1) rfl rfl (by decide) rfl ?_
                    refine q_goto (t := 4) rfl (by decide) ?_
                    have hI_29 := iw_54 (j := v1 - 2) (v := (rm (c2 54 (v1 - 2)) (c2 54 (v1 - 1)))) hI2 ⟨by omega, by omega⟩
                    refine Wp_ls [(0, .ref 41), (1, vi (v1 - 1)), (2, vi (v2 + 1))] (lsub_cons rfl (lsub_cons rfl (lsub_cons rfl lsub_nil))) ?_
                    exact ih (up c2 54 (v1 - 2) (rm (c2 54 (v1 - 2)) (c2 54 (v1 - 1)))) (v1 - 1) (v2 + 1) hI_29 (fun a j hm => (up_b (Decidable.or_iff_not_imp_left.mpr (fun h1 h2 => hm (Decidable.not_not.mp h1)))).trans (hF a j (fun h => hm h))) ⟨by omega, by omega⟩ ⟨by omega, by omega⟩ (by omega) (by omega) (by omega) (by omega) (pg_2 (a := c2 54 (v1 - 2)) (b := c2 54 (v1 - 1)) (v := (rm (c2 54 (v1 - 2)) (c2 54 (v1 - 1)))) hx4 (by omega) (by omega) hx3 (by omega) (by omega) rfl rfl (up_e (by omega)) (jn_8 (by omega) (by omega)) (fun j hj => up_n (by omega))) (by omega)
                  · refine v_if_ne_f (t := 46) rfl (by decide) (Decidable.not_not.mp h_27) ?_
                    refine q_iconst rfl ?_
                    refine q_goto (t := 60) rfl (by decide) ?_
                    refine q_iret rfl rfl ?_
                    refine bk_inl ?_
                    refine v_is rfl rfl (by decide) (by decide) (by omega) ?_
                    refine v_iinc (v := v2 + 1) rfl rfl (by decide) rfl ?_
                    refine q_goto (t := 4) rfl (by decide) ?_
                    have hI_30 := iw_54 (j := v1 - 2) (v := 0) hI2 ⟨by decide, by decide⟩
                    refine Wp_ls [(0, .ref 41), (1, vi (v1 - 1)), (2, vi (v2 + 1))] (lsub_cons rfl (lsub_cons rfl (lsub_cons rfl lsub_nil))) ?_
                    exact ih (up c2 54 (v1 - 2) 0) (v1 - 1) (v2 + 1) hI_30 (fun a j hm => (up_b (Decidable.or_iff_not_imp_left.mpr (fun h1 h2 => hm (Decidable.not_not.mp h1)))).trans (hF a j (fun h => hm h))) ⟨by omega, by omega⟩ ⟨by omega, by omega⟩ (by omega) (by omega) (by omega) (by omega) (pg_2 (a := c2 54 (v1 - 2)) (b := c2 54 (v1 - 1)) (v := 0) hx4 (by omega) (by omega) hx3 (by omega) (by omega) rfl rfl (up_e (by omega)) (jn_8z (by omega) (by omega)) (fun j hj => up_n (by omega))) (by omega)
            · refine v_ic_ne_f (t := 27) rfl (by decide) (Decidable.not_not.mp h_13) ?_
              refine q_iload_n rfl rfl ?_
              refine q_iload_n rfl rfl ?_
              refine v_imul (v := ((c2 54 (v1 - 2)) * (c2 54 (v1 - 1)))) rfl rfl ?_
              refine v_nrw ?_
              have h_31 := wr_rng (((c2 54 (v1 - 2)) * (c2 54 (v1 - 1))))
              refine q_iret rfl rfl ?_
              refine bk_inl ?_
              refine v_is rfl rfl (by decide) (by decide) (by omega) ?_
              refine v_iinc (v := v2 + 1) rfl rfl (by decide) rfl ?_
              refine q_goto (t := 4) rfl (by decide) ?_
              have hI_32 := iw_54 (j := v1 - 2) (v := (wr (((c2 54 (v1 - 2)) * (c2 54 (v1 - 1)))))) hI2 ⟨by omega, by omega⟩
              refine Wp_ls [(0, .ref 41), (1, vi (v1 - 1)), (2, vi (v2 + 1))] (lsub_cons rfl (lsub_cons rfl (lsub_cons rfl lsub_nil))) ?_
              exact ih (up c2 54 (v1 - 2) (wr (((c2 54 (v1 - 2)) * (c2 54 (v1 - 1)))))) (v1 - 1) (v2 + 1) hI_32 (fun a j hm => (up_b (Decidable.or_iff_not_imp_left.mpr (fun h1 h2 => hm (Decidable.not_not.mp h1)))).trans (hF a j (fun h => hm h))) ⟨by omega, by omega⟩ ⟨by omega, by omega⟩ (by omega) (by omega) (by omega) (by omega) (pg_2 (a := c2 54 (v1 - 2)) (b := c2 54 (v1 - 1)) (v := (wr (((c2 54 (v1 - 2)) * (c2 54 (v1 - 1)))))) hx4 (by omega) (by omega) hx3 (by omega) (by omega) rfl rfl (up_e (by omega)) ((jn_4 (by omega)).trans (congrArg wr (by first | rfl | omega))) (fun j hj => up_n (by omega))) (by omega)
          · refine v_ic_ne_f (t := 18) rfl (by decide) (Decidable.not_not.mp h_12) ?_
            refine q_iload_n rfl rfl ?_
            refine q_iload_n rfl rfl ?_
            refine v_isub (v := c2 54 (v1 - 2) - c2 54 (v1 - 1)) rfl (by omega) ?_
            refine v_nrw ?_
            have h_33 := wr_rng (c2 54 (v1 - 2) - c2 54 (v1 - 1))
            refine q_iret rfl rfl ?_
            refine bk_inl ?_
            refine v_is rfl rfl (by decide) (by decide) (by omega) ?_
            refine v_iinc (v := v2 + 1) rfl rfl (by decide) rfl ?_
            refine q_goto (t := 4) rfl (by decide) ?_
            have hI_34 := iw_54 (j := v1 - 2) (v := (wr (c2 54 (v1 - 2) - c2 54 (v1 - 1)))) hI2 ⟨by omega, by omega⟩
            refine Wp_ls [(0, .ref 41), (1, vi (v1 - 1)), (2, vi (v2 + 1))] (lsub_cons rfl (lsub_cons rfl (lsub_cons rfl lsub_nil))) ?_
            exact ih (up c2 54 (v1 - 2) (wr (c2 54 (v1 - 2) - c2 54 (v1 - 1)))) (v1 - 1) (v2 + 1) hI_34 (fun a j hm => (up_b (Decidable.or_iff_not_imp_left.mpr (fun h1 h2 => hm (Decidable.not_not.mp h1)))).trans (hF a j (fun h => hm h))) ⟨by omega, by omega⟩ ⟨by omega, by omega⟩ (by omega) (by omega) (by omega) (by omega) (pg_2 (a := c2 54 (v1 - 2)) (b := c2 54 (v1 - 1)) (v := (wr (c2 54 (v1 - 2) - c2 54 (v1 - 1)))) hx4 (by omega) (by omega) hx3 (by omega) (by omega) rfl rfl (up_e (by omega)) ((jn_3 (by omega)).trans (congrArg wr (by first | rfl | omega))) (fun j hj => up_n (by omega))) (by omega)
        · refine v_ic_ne_f (t := 9) rfl (by decide) (Decidable.not_not.mp h_11) ?_
          refine q_iload_n rfl rfl ?_
          refine q_iload_n rfl rfl ?_
          refine v_iadd (v := c2 54 (v1 - 1) + c2 54 (v1 - 2)) rfl (by omega) ?_
          refine v_nrw ?_
          have h_35 := wr_rng (c2 54 (v1 - 1) + c2 54 (v1 - 2))
          refine q_iret rfl rfl ?_
          refine bk_inl ?_
          refine v_is rfl rfl (by decide) (by decide) (by omega) ?_
          refine v_iinc (v := v2 + 1) rfl rfl (by decide) rfl ?_
          refine q_goto (t := 4) rfl (by decide) ?_
          have hI_36 := iw_54 (j := v1 - 2) (v := (wr (c2 54 (v1 - 1) + c2 54 (v1 - 2)))) hI2 ⟨by omega, by omega⟩
          refine Wp_ls [(0, .ref 41), (1, vi (v1 - 1)), (2, vi (v2 + 1))] (lsub_cons rfl (lsub_cons rfl (lsub_cons rfl lsub_nil))) ?_
          exact ih (up c2 54 (v1 - 2) (wr (c2 54 (v1 - 1) + c2 54 (v1 - 2)))) (v1 - 1) (v2 + 1) hI_36 (fun a j hm => (up_b (Decidable.or_iff_not_imp_left.mpr (fun h1 h2 => hm (Decidable.not_not.mp h1)))).trans (hF a j (fun h => hm h))) ⟨by omega, by omega⟩ ⟨by omega, by omega⟩ (by omega) (by omega) (by omega) (by omega) (pg_2 (a := c2 54 (v1 - 2)) (b := c2 54 (v1 - 1)) (v := (wr (c2 54 (v1 - 1) + c2 54 (v1 - 2)))) hx4 (by omega) (by omega) hx3 (by omega) (by omega) rfl rfl (up_e (by omega)) ((jn_2 (by omega)).trans (congrArg wr (by first | rfl | omega))) (fun j hj => up_n (by omega))) (by omega)
      · refine v_ic_gt_f (t := 60) rfl (by decide) ⟨by omega, (Int.not_lt.mp h_8), by decide⟩ ?_
        refine q_aload_n rfl rfl ?_
        refine v_gr (t := 54) rfl rfl rfl (by decide) rfl ?_
        refine q_iload_n rfl rfl ?_
        refine q_iload_n rfl rfl ?_
        by_cases h_37 : (Gw v2) ≠ 0
        · refine v_if_ne_t (t := 42) rfl (by decide) ⟨h_37, ⟨by omega, by omega⟩, by decide, by decide⟩ ?_
          refine q_aload_n rfl rfl ?_
          refine v_gr (t := 55) rfl rfl rfl (by decide) rfl ?_
          refine q_aload_n rfl rfl ?_
          refine v_gr (t := 53) rfl rfl rfl (by decide) rfl ?_
          refine q_iload_n rfl rfl ?_
          have h_38 : 0 ≤ (Go v2) ∧ (Go v2) ≤ 999 := by rw [← hGo v2]; exact ir_53 hI v2
          have kn_39 : Hid (c2 53 v2 = (Go v2)) := (hF 53 v2 (fun h => absurd h (nn rfl))).trans (hGo v2)
          refine v_ia (v := (Go v2)) rfl rfl (by decide) (by decide) (by omega) (hid kn_39) ?_
          have h_40 := ir_55 hI (Go v2)
          have kn_41 : Hid (c2 55 (Go v2) = c 55 (Go v2)) := hF 55 (Go v2) (fun h => absurd h (nn rfl))
          refine v_ia (v := c 55 (Go v2)) rfl rfl (by decide) (by decide) (by omega) (hid kn_41) ?_
          refine v_is rfl rfl (by decide) (by decide) (by omega) ?_
          refine v_iinc (v := v1 + 1) rfl rfl (by decide) rfl ?_
          refine q_goto (t := 89) rfl (by decide) ?_
          refine v_iinc (v := v2 + 1) rfl rfl (by decide) rfl ?_
          refine q_goto (t := 4) rfl (by decide) ?_
          have hI_42 := iw_54 (j := v1) (v := c 55 (Go v2)) hI2 ⟨by omega, by omega⟩
          refine Wp_ls [(0, .ref 41), (1, vi (v1 + 1)), (2, vi (v2 + 1))] (lsub_cons rfl (lsub_cons rfl (lsub_cons rfl lsub_nil))) ?_
          exact ih (up c2 54 v1 (c 55 (Go v2))) (v1 + 1) (v2 + 1) hI_42 (fun a j hm => (up_b (Decidable.or_iff_not_imp_left.mpr (fun h1 h2 => hm (Decidable.not_not.mp h1)))).trans (hF a j (fun h => hm h))) ⟨by omega, by omega⟩ ⟨by omega, by omega⟩ (by omega) (by omega) (by omega) (by omega) (pg_1 hx4 (by omega) (by omega) hx3 (by omega) (up_e rfl) (show c 55 (Go v2) = _ from hq1 _ (by omega) (by omega)) (fun j hj => up_n (by omega))) (by omega)
        · refine v_if_ne_f (t := 42) rfl (by decide) (Decidable.not_not.mp h_37) ?_
          refine q_aload_n rfl rfl ?_
          refine v_gr (t := 53) rfl rfl rfl (by decide) rfl ?_
          refine q_iload_n rfl rfl ?_
          have h_43 : 0 ≤ (Go v2) ∧ (Go v2) ≤ 999 := by rw [← hGo v2]; exact ir_53 hI v2
          have kn_44 : Hid (c2 53 v2 = (Go v2)) := (hF 53 v2 (fun h => absurd h (nn rfl))).trans (hGo v2)
          refine v_ia (v := (Go v2)) rfl rfl (by decide) (by decide) (by omega) (hid kn_44) ?_
          refine q_goto (t := 53) rfl (by decide) ?_
          refine v_is rfl rfl (by decide) (by decide) (by omega) ?_
          refine v_iinc (v := v1 + 1) rfl rfl (by decide) rfl ?_
          refine q_goto (t := 89) rfl (by decide) ?_
          refine v_iinc (v := v2 + 1) rfl rfl (by decide) rfl ?_
          refine q_goto (t := 4) rfl (by decide) ?_
          have hI_45 := iw_54 (j := v1) (v := (Go v2)) hI2 ⟨by omega, by omega⟩
          refine Wp_ls [(0, .ref 41), (1, vi (v1 + 1)), (2, vi (v2 + 1))] (lsub_cons rfl (lsub_cons rfl (lsub_cons rfl lsub_nil))) ?_
          exact ih (up c2 54 v1 (Go v2)) (v1 + 1) (v2 + 1) hI_45 (fun a j hm => (up_b (Decidable.or_iff_not_imp_left.mpr (fun h1 h2 => hm (Decidable.not_not.mp h1)))).trans (hF a j (fun h => hm h))) ⟨by omega, by omega⟩ ⟨by omega, by omega⟩ (by omega) (by omega) (by omega) (by omega) (pg_0 hx4 (by omega) (by omega) hx3 (by omega) (up_e rfl) (by omega) (fun j hj => up_n (by omega))) (by omega)
set_option maxRecDepth 100000 in
set_option maxHeartbeats 4000000 in
theorem f_179 {sc : List Int32} {e : Int} {d u P Q : Nat} {c : ME} {n9 b1 b2 b3 b4 b5 b6 b7 : Int} {Gw Go : Int → Int} {Z : AR → Prop} (hI : Iv u e P Q c) (hq0 : Hw Gw Go n9) (hq1 : Ae 8 (c 55) (nmf b1 b2 b3 b4 b5 b6 b7)) (hq2 : (n9 ≥ 1)) (hv0 : c 41 30 = n9) (hGw : ∀ j : Int, c 52 j = Gw j) (hGo : ∀ j : Int, c 53 j = Go j) (K0 : ∀ c2 : ME, Iv u e P Q c2 → (∀ (a : Nat) (j : Int), ¬ (a = 54) → c2 a j = c a j) → (((pil (nmf b1 b2 b3 b4 b5 b6 b7) Gw Go n9.toNat 0) ≥ (-2147483648) ∧ (pil (nmf b1 b2 b3 b4 b5 b6 b7) Gw Go n9.toNat 0) ≤ 2147483647)) → Z (.inl (some (vi (pil (nmf b1 b2 b3 b4 b5 b6 b7) Gw Go n9.toNat 0))), Wd P Q P P c2, 0, 0)) : Wp sc (d + 9) 179 0 [(0, .ref 41)] [] (Wd P Q P P c) 0 0 Z := by
  have hP := iv_P hI
  have hQ := iv_Q hI
  have h_46 := ir_41_30 hI
  refine q_iconst rfl ?_
  refine q_istore_n rfl (by decide) ?_
  refine q_iconst rfl ?_
  refine q_istore_n rfl (by decide) ?_
  refine Wp_ls [(0, .ref 41), (1, vi 0), (2, vi 0)] (lsub_cons rfl (lsub_cons rfl (lsub_cons rfl lsub_nil))) ?_
  exact (f_179_l (sc := sc) (d := d) hI hq0 hq1 hq2 hv0 hGw hGo K0 151) c 0 0 hI (fun a j hm => rfl) ⟨by omega, by omega⟩ ⟨by omega, by omega⟩ (by omega) (by omega) (by omega) (show (0 : Int) = hgt Gw (0 : Int).toNat from rfl) (pg_z rfl) (by omega)

set_option maxRecDepth 100000 in
set_option maxHeartbeats 4000000 in
theorem f_195 {sc : List Int32} {e : Int} {d u P Q : Nat} {c : ME} {n9 a1 a2 a3 a4 a5 a6 a7 : Int} {Gw Go : Int → Int} {Z : AR → Prop} (hI : Iv u e P Q c) (ha1 : 0 ≤ a1 ∧ a1 ≤ 9999) (ha2 : 0 ≤ a2 ∧ a2 ≤ 9999) (ha3 : 0 ≤ a3 ∧ a3 ≤ 9999) (ha4 : 0 ≤ a4 ∧ a4 ≤ 9999) (ha5 : (-2147483648) ≤ a5 ∧ a5 ≤ 2147483647) (ha6 : (-2147483648) ≤ a6 ∧ a6 ≤ 2147483647) (ha7 : (-2147483648) ≤ a7 ∧ a7 ≤ 2147483647) (hq0 : Hw Gw Go n9) (hv0 : c 41 30 = n9) (hGw : ∀ j : Int, c 52 j = Gw j) (hGo : ∀ j : Int, c 53 j = Go j) (K0 : ∀ c2 : ME, Iv u e P Q c2 → (∀ (a : Nat) (j : Int), ¬ (a = 54 ∨ a = 55) → c2 a j = c a j) → (((pw Gw Go n9 a1 a2 a3 a4 a5 a6 a7) ≥ 0 ∧ (pw Gw Go n9 a1 a2 a3 a4 a5 a6 a7) ≤ 99)) → Z (.inl (some (vi (pw Gw Go n9 a1 a2 a3 a4 a5 a6 a7))), Wd P Q P P c2, 0, 0)) : Wp sc (d + 11) 195 0 [(0, .ref 41), (1, vi a1), (2, vi a2), (3, vi a3), (4, vi a4), (5, vi a5), (6, vi a6), (7, vi a7)] [] (Wd P Q P P c) 0 0 Z := by
  have hP := iv_P hI
  have hQ := iv_Q hI
  have h_1 := ir_41_30 hI
  refine q_aload_n rfl rfl ?_
  refine v_gr (t := 55) rfl rfl rfl (by decide) rfl ?_
  refine q_iconst rfl ?_
  refine q_iload_n rfl rfl ?_
  refine v_is rfl rfl (by decide) (by decide) (by decide) ?_
  refine q_aload_n rfl rfl ?_
  refine v_gr (t := 55) rfl rfl rfl (by decide) rfl ?_
  refine q_iconst rfl ?_
  refine q_iload_n rfl rfl ?_
  refine v_is rfl rfl (by decide) (by decide) (by decide) ?_
  refine q_aload_n rfl rfl ?_
  refine v_gr (t := 55) rfl rfl rfl (by decide) rfl ?_
  refine q_iconst rfl ?_
  refine q_iload_n rfl rfl ?_
  refine v_is rfl rfl (by decide) (by decide) (by decide) ?_
  refine q_aload_n rfl rfl ?_
  refine v_gr (t := 55) rfl rfl rfl (by decide) rfl ?_
  refine q_iconst rfl ?_
  refine q_iload rfl rfl ?_
  refine v_is rfl rfl (by decide) (by decide) (by decide) ?_
  refine q_aload_n rfl rfl ?_
  refine v_gr (t := 55) rfl rfl rfl (by decide) rfl ?_
  refine q_iconst rfl ?_
  refine q_iload_n rfl rfl ?_
  refine q_iload_n rfl rfl ?_
  refine v_iadd (v := a1 + a2) rfl rfl ?_
  refine q_iload_n rfl rfl ?_
  refine v_iadd (v := a1 + a2 + a3) rfl rfl ?_
  refine q_iload rfl rfl ?_
  refine v_iadd (v := a1 + a2 + a3 + a4) rfl rfl ?_
  refine v_is rfl rfl (by decide) (by decide) (by decide) ?_
  refine q_aload_n rfl rfl ?_
  refine v_gr (t := 55) rfl rfl rfl (by decide) rfl ?_
  refine q_iconst rfl ?_
  refine q_iload rfl rfl ?_
  refine v_is rfl rfl (by decide) (by decide) (by decide) ?_
  refine q_aload_n rfl rfl ?_
  refine v_gr (t := 55) rfl rfl rfl (by decide) rfl ?_
  refine v_bip rfl (by decide) ?_
  refine q_iload rfl rfl ?_
  refine v_is rfl rfl (by decide) (by decide) (by decide) ?_
  refine q_aload_n rfl rfl ?_
  refine v_gr (t := 55) rfl rfl rfl (by decide) rfl ?_
  refine v_bip rfl (by decide) ?_
  refine q_iload rfl rfl ?_
  refine v_is rfl rfl (by decide) (by decide) (by decide) ?_
  refine q_aload_n rfl rfl ?_
  refine v_cv rfl rfl rfl rfl (by decide) ⟨⟨rfl, rfl⟩, by decide, rfl⟩ (Nat.le_of_ble_eq_true rfl) (Nat.le_of_ble_eq_true rfl) ?_
  refine q_aload_n rfl rfl ?_
  refine v_gi (z := 30) (v := n9) rfl rfl rfl (by decide) rfl rfl ((up_c (nn rfl)).trans ((up_c (nn rfl)).trans ((up_c (nn rfl)).trans ((up_c (nn rfl)).trans ((up_c (nn rfl)).trans ((up_c (nn rfl)).trans ((up_c (nn rfl)).trans ((up_c (nn rfl)).trans (hv0))))))))) ?_
  by_cases h_2 : n9 ≠ 0
  · refine v_if_ne_t (t := 28) rfl (by decide) ⟨h_2, ⟨by omega, by omega⟩, by decide, by decide⟩ ?_
    refine q_aload_n rfl rfl ?_
    have hI_3 := iw_55 (j := 0) (v := a1) hI ⟨(Int.le_trans (by decide) ha1.1), (Int.le_trans ha1.2 (by decide))⟩
    have hI_4 := iw_55 (j := 1) (v := a2) hI_3 ⟨(Int.le_trans (by decide) ha2.1), (Int.le_trans ha2.2 (by decide))⟩
    have hI_5 := iw_55 (j := 2) (v := a3) hI_4 ⟨(Int.le_trans (by decide) ha3.1), (Int.le_trans ha3.2 (by decide))⟩
    have hI_6 := iw_55 (j := 3) (v := a4) hI_5 ⟨(Int.le_trans (by decide) ha4.1), (Int.le_trans ha4.2 (by decide))⟩
    have hI_7 := iw_55 (j := 4) (v := a1 + a2 + a3 + a4) hI_6 ⟨by omega, by omega⟩
    have hI_8 := iw_55 (j := 5) (v := a5) hI_7 ⟨ha5.1, ha5.2⟩
    have hI_9 := iw_55 (j := 6) (v := a6) hI_8 ⟨ha6.1, ha6.2⟩
    have hI_10 := iw_55 (j := 7) (v := a7) hI_9 ⟨ha7.1, ha7.2⟩
    have hNm_11 : Ae 8 ((up (up (up (up (up (up (up (up c 55 0 a1) 55 1 a2) 55 2 a3) 55 3 a4) 55 4 (a1 + a2 + a3 + a4)) 55 5 a5) 55 6 a6) 55 7 a7) 55) (nmf a1 a2 a3 a4 a5 a6 a7) := (ae_8 ((((up_n (by decide)).trans ((up_n (by decide)).trans ((up_n (by decide)).trans ((up_n (by decide)).trans ((up_n (by decide)).trans ((up_n (by decide)).trans ((up_n (by decide)).trans (up_e rfl))))))))).trans (show a1 = (nmf a1 a2 a3 a4 a5 a6 a7) 0 from rfl)) ((((up_n (by decide)).trans ((up_n (by decide)).trans ((up_n (by decide)).trans ((up_n (by decide)).trans ((up_n (by decide)).trans ((up_n (by decide)).trans (up_e rfl)))))))).trans (show a2 = (nmf a1 a2 a3 a4 a5 a6 a7) 1 from rfl)) ((((up_n (by decide)).trans ((up_n (by decide)).trans ((up_n (by decide)).trans ((up_n (by decide)).trans ((up_n (by decide)).trans (up_e rfl))))))).trans (show a3 = (nmf a1 a2 a3 a4 a5 a6 a7) 2 from rfl)) ((((up_n (by decide)).trans ((up_n (by decide)).trans ((up_n (by decide)).trans ((up_n (by decide)).trans (up_e rfl)))))).trans (show a4 = (nmf a1 a2 a3 a4 a5 a6 a7) 3 from rfl)) ((((up_n (by decide)).trans ((up_n (by decide)).trans ((up_n (by decide)).trans (up_e rfl))))).trans (show a1 + a2 + a3 + a4 = (nmf a1 a2 a3 a4 a5 a6 a7) 4 from rfl)) ((((up_n (by decide)).trans ((up_n (by decide)).trans (up_e rfl)))).trans (show a5 = (nmf a1 a2 a3 a4 a5 a6 a7) 5 from rfl)) ((((up_n (by decide)).trans (up_e rfl))).trans (show a6 = (nmf a1 a2 a3 a4 a5 a6 a7) 6 from rfl)) (((up_e rfl)).trans (show a7 = (nmf a1 a2 a3 a4 a5 a6 a7) 7 from rfl)))
    refine v_cv rfl rfl rfl rfl (by decide) ⟨⟨rfl, rfl⟩, by decide, rfl⟩ (Nat.le_of_ble_eq_true rfl) (Nat.le_of_ble_eq_true rfl) (f_179 (n9 := n9) (Gw := Gw) (Go := Go) hI_10 hq0 hNm_11 (by omega) (((up_c (nn rfl)).trans ((up_c (nn rfl)).trans ((up_c (nn rfl)).trans ((up_c (nn rfl)).trans ((up_c (nn rfl)).trans ((up_c (nn rfl)).trans ((up_c (nn rfl)).trans ((up_c (nn rfl)).trans (hv0)))))))))) (fun j => ((up_c (nn rfl)).trans ((up_c (nn rfl)).trans ((up_c (nn rfl)).trans ((up_c (nn rfl)).trans ((up_c (nn rfl)).trans ((up_c (nn rfl)).trans ((up_c (nn rfl)).trans (up_c (nn rfl))))))))).trans (hGw j)) (fun j => ((up_c (nn rfl)).trans ((up_c (nn rfl)).trans ((up_c (nn rfl)).trans ((up_c (nn rfl)).trans ((up_c (nn rfl)).trans ((up_c (nn rfl)).trans ((up_c (nn rfl)).trans (up_c (nn rfl))))))))).trans (hGo j)) (fun c_12 hI_13 hF_14 h_15 => ?_))
    refine bk_inl ?_
    refine q_istore_n rfl (by decide) ?_
    refine q_iload_n rfl rfl ?_
    by_cases h_16 : (pil (nmf a1 a2 a3 a4 a5 a6 a7) Gw Go n9.toNat 0) ≥ 0
    · refine v_if_ge_t (t := 41) rfl (by decide) ⟨by decide, h_16, by omega⟩ ?_
      refine q_iload_n rfl rfl ?_
      refine v_bip rfl (by decide) ?_
      by_cases h_17 : (pil (nmf a1 a2 a3 a4 a5 a6 a7) Gw Go n9.toNat 0) ≤ 99
      · refine v_ic_le_t (t := 52) rfl (by decide) ⟨by omega, h_17, by decide⟩ ?_
        refine q_iload_n rfl rfl ?_
        refine q_iret rfl rfl ?_
        refine bk_inl ?_
        refine q_iret rfl rfl ?_
        have hw_18 : pw Gw Go n9 a1 a2 a3 a4 a5 a6 a7 = (pil (nmf a1 a2 a3 a4 a5 a6 a7) Gw Go n9.toNat 0) := pw_n (p := (pil (nmf a1 a2 a3 a4 a5 a6 a7) Gw Go n9.toNat 0)) (by omega) rfl (bnd_m ⟨by omega, by omega⟩)
        exact zv (by omega) (K0 c_12 hI_13 (fun a j hm => (hF_14 a j (fun h => hm (Or.inl h))).trans ((up_b (Decidable.or_iff_not_imp_left.mpr (fun h1 h2 => hm (Or.inr (Decidable.not_not.mp h1))))).trans ((up_b (Decidable.or_iff_not_imp_left.mpr (fun h1 h2 => hm (Or.inr (Decidable.not_not.mp h1))))).trans ((up_b (Decidable.or_iff_not_imp_left.mpr (fun h1 h2 => hm (Or.inr (Decidable.not_not.mp h1))))).trans ((up_b (Decidable.or_iff_not_imp_left.mpr (fun h1 h2 => hm (Or.inr (Decidable.not_not.mp h1))))).trans ((up_b (Decidable.or_iff_not_imp_left.mpr (fun h1 h2 => hm (Or.inr (Decidable.not_not.mp h1))))).trans ((up_b (Decidable.or_iff_not_imp_left.mpr (fun h1 h2 => hm (Or.inr (Decidable.not_not.mp h1))))).trans ((up_b (Decidable.or_iff_not_imp_left.mpr (fun h1 h2 => hm (Or.inr (Decidable.not_not.mp h1))))).trans (up_b (Decidable.or_iff_not_imp_left.mpr (fun h1 h2 => hm (Or.inr (Decidable.not_not.mp h1))))))))))))) (by omega))
      · refine v_ic_le_f (t := 52) rfl (by decide) ⟨by decide, (Int.not_le.mp h_17), by omega⟩ ?_
        refine v_bip rfl (by decide) ?_
        refine q_goto (t := 53) rfl (by decide) ?_
        refine q_iret rfl rfl ?_
        refine bk_inl ?_
        refine q_iret rfl rfl ?_
        have hw_19 : pw Gw Go n9 a1 a2 a3 a4 a5 a6 a7 = 99 := pw_n (p := (pil (nmf a1 a2 a3 a4 a5 a6 a7) Gw Go n9.toNat 0)) (by omega) rfl (bnd_h (by omega))
        exact zv (by omega) (K0 c_12 hI_13 (fun a j hm => (hF_14 a j (fun h => hm (Or.inl h))).trans ((up_b (Decidable.or_iff_not_imp_left.mpr (fun h1 h2 => hm (Or.inr (Decidable.not_not.mp h1))))).trans ((up_b (Decidable.or_iff_not_imp_left.mpr (fun h1 h2 => hm (Or.inr (Decidable.not_not.mp h1))))).trans ((up_b (Decidable.or_iff_not_imp_left.mpr (fun h1 h2 => hm (Or.inr (Decidable.not_not.mp h1))))).trans ((up_b (Decidable.or_iff_not_imp_left.mpr (fun h1 h2 => hm (Or.inr (Decidable.not_not.mp h1))))).trans ((up_b (Decidable.or_iff_not_imp_left.mpr (fun h1 h2 => hm (Or.inr (Decidable.not_not.mp h1))))).trans ((up_b (Decidable.or_iff_not_imp_left.mpr (fun h1 h2 => hm (Or.inr (Decidable.not_not.mp h1))))).trans ((up_b (Decidable.or_iff_not_imp_left.mpr (fun h1 h2 => hm (Or.inr (Decidable.not_not.mp h1))))).trans (up_b (Decidable.or_iff_not_imp_left.mpr (fun h1 h2 => hm (Or.inr (Decidable.not_not.mp h1))))))))))))) (by omega))
    · refine v_if_ge_f (t := 41) rfl (by decide) ⟨by omega, (Int.not_le.mp h_16), by decide⟩ ?_
      refine q_iconst rfl ?_
      refine q_goto (t := 53) rfl (by decide) ?_
      refine q_iret rfl rfl ?_
      refine bk_inl ?_
      refine q_iret rfl rfl ?_
      have hw_20 : pw Gw Go n9 a1 a2 a3 a4 a5 a6 a7 = 0 := pw_n (p := (pil (nmf a1 a2 a3 a4 a5 a6 a7) Gw Go n9.toNat 0)) (by omega) rfl (bnd_l (by omega))
      exact zv (by omega) (K0 c_12 hI_13 (fun a j hm => (hF_14 a j (fun h => hm (Or.inl h))).trans ((up_b (Decidable.or_iff_not_imp_left.mpr (fun h1 h2 => hm (Or.inr (Decidable.not_not.mp h1))))).trans ((up_b (Decidable.or_iff_not_imp_left.mpr (fun h1 h2 => hm (Or.inr (Decidable.not_not.mp h1))))).trans ((up_b (Decidable.or_iff_not_imp_left.mpr (fun h1 h2 => hm (Or.inr (Decidable.not_not.mp h1))))).trans ((up_b (Decidable.or_iff_not_imp_left.mpr (fun h1 h2 => hm (Or.inr (Decidable.not_not.mp h1))))).trans ((up_b (Decidable.or_iff_not_imp_left.mpr (fun h1 h2 => hm (Or.inr (Decidable.not_not.mp h1))))).trans ((up_b (Decidable.or_iff_not_imp_left.mpr (fun h1 h2 => hm (Or.inr (Decidable.not_not.mp h1))))).trans ((up_b (Decidable.or_iff_not_imp_left.mpr (fun h1 h2 => hm (Or.inr (Decidable.not_not.mp h1))))).trans (up_b (Decidable.or_iff_not_imp_left.mpr (fun h1 h2 => hm (Or.inr (Decidable.not_not.mp h1))))))))))))) (by omega))
  · refine v_if_ne_f (t := 28) rfl (by decide) (Decidable.not_not.mp h_2) ?_
    refine q_aload_n rfl rfl ?_
    refine v_gr (t := 55) rfl rfl rfl (by decide) rfl ?_
    refine q_iconst rfl ?_
    refine v_ia (v := a1) rfl rfl (by decide) (by decide) (by decide) ((up_n (by decide)).trans ((up_n (by decide)).trans ((up_n (by decide)).trans ((up_n (by decide)).trans ((up_n (by decide)).trans ((up_n (by decide)).trans ((up_n (by decide)).trans (up_e rfl)))))))) ?_
    refine v_bip rfl (by decide) ?_
    refine v_imul (v := 90 * a1) rfl (by omega) ?_
    refine q_aload_n rfl rfl ?_
    refine v_gr (t := 55) rfl rfl rfl (by decide) rfl ?_
    refine q_iconst rfl ?_
    refine v_ia (v := a1 + a2 + a3 + a4) rfl rfl (by decide) (by decide) (by decide) ((up_n (by decide)).trans ((up_n (by decide)).trans ((up_n (by decide)).trans (up_e rfl)))) ?_
    refine q_iconst rfl ?_
    refine v_iadd (v := a1 + a2 + a3 + a4 + 1) rfl rfl ?_
    have h_21 : 0 ≤ ((90 * a1) / (a1 + a2 + a3 + a4 + 1)) ∧ ((90 * a1) / (a1 + a2 + a3 + a4 + 1)) ≤ 90 * a1 := div_r (by omega) (by omega)
    refine v_idiv (v := ((90 * a1) / (a1 + a2 + a3 + a4 + 1))) rfl (by omega) rfl ?_
    refine q_goto (t := 32) rfl (by decide) ?_
    refine q_istore_n rfl (by decide) ?_
    refine q_iload_n rfl rfl ?_
    refine v_if_ge_t (t := 41) rfl (by decide) (by omega) ?_
    refine q_iload_n rfl rfl ?_
    refine v_bip rfl (by decide) ?_
    by_cases h_22 : ((90 * a1) / (a1 + a2 + a3 + a4 + 1)) ≤ 99
    · refine v_ic_le_t (t := 52) rfl (by decide) ⟨by omega, h_22, by decide⟩ ?_
      refine q_iload_n rfl rfl ?_
      refine q_iret rfl rfl ?_
      refine bk_inl ?_
      refine q_iret rfl rfl ?_
      have hw_23 : pw Gw Go n9 a1 a2 a3 a4 a5 a6 a7 = ((90 * a1) / (a1 + a2 + a3 + a4 + 1)) := pw_0 (by omega) (bnd_m ⟨by omega, by omega⟩)
      have hI_24 := iw_55 (j := 0) (v := a1) hI ⟨(Int.le_trans (by decide) ha1.1), (Int.le_trans ha1.2 (by decide))⟩
      have hI_25 := iw_55 (j := 1) (v := a2) hI_24 ⟨(Int.le_trans (by decide) ha2.1), (Int.le_trans ha2.2 (by decide))⟩
      have hI_26 := iw_55 (j := 2) (v := a3) hI_25 ⟨(Int.le_trans (by decide) ha3.1), (Int.le_trans ha3.2 (by decide))⟩
      have hI_27 := iw_55 (j := 3) (v := a4) hI_26 ⟨(Int.le_trans (by decide) ha4.1), (Int.le_trans ha4.2 (by decide))⟩
      have hI_28 := iw_55 (j := 4) (v := a1 + a2 + a3 + a4) hI_27 ⟨by omega, by omega⟩
      have hI_29 := iw_55 (j := 5) (v := a5) hI_28 ⟨ha5.1, ha5.2⟩
      have hI_30 := iw_55 (j := 6) (v := a6) hI_29 ⟨ha6.1, ha6.2⟩
      have hI_31 := iw_55 (j := 7) (v := a7) hI_30 ⟨ha7.1, ha7.2⟩
      exact zv (by omega) (K0 (up (up (up (up (up (up (up (up c 55 0 a1) 55 1 a2) 55 2 a3) 55 3 a4) 55 4 (a1 + a2 + a3 + a4)) 55 5 a5) 55 6 a6) 55 7 a7) hI_31 (fun a j hm => (up_b (Decidable.or_iff_not_imp_left.mpr (fun h1 h2 => hm (Or.inr (Decidable.not_not.mp h1))))).trans ((up_b (Decidable.or_iff_not_imp_left.mpr (fun h1 h2 => hm (Or.inr (Decidable.not_not.mp h1))))).trans ((up_b (Decidable.or_iff_not_imp_left.mpr (fun h1 h2 => hm (Or.inr (Decidable.not_not.mp h1))))).trans ((up_b (Decidable.or_iff_not_imp_left.mpr (fun h1 h2 => hm (Or.inr (Decidable.not_not.mp h1))))).trans ((up_b (Decidable.or_iff_not_imp_left.mpr (fun h1 h2 => hm (Or.inr (Decidable.not_not.mp h1))))).trans ((up_b (Decidable.or_iff_not_imp_left.mpr (fun h1 h2 => hm (Or.inr (Decidable.not_not.mp h1))))).trans ((up_b (Decidable.or_iff_not_imp_left.mpr (fun h1 h2 => hm (Or.inr (Decidable.not_not.mp h1))))).trans (up_b (Decidable.or_iff_not_imp_left.mpr (fun h1 h2 => hm (Or.inr (Decidable.not_not.mp h1)))))))))))) (by omega))
    · refine v_ic_le_f (t := 52) rfl (by decide) ⟨by decide, (Int.not_le.mp h_22), by omega⟩ ?_
      refine v_bip rfl (by decide) ?_
      refine q_goto (t := 53) rfl (by decide) ?_
      refine q_iret rfl rfl ?_
      refine bk_inl ?_
      refine q_iret rfl rfl ?_
      have hw_32 : pw Gw Go n9 a1 a2 a3 a4 a5 a6 a7 = 99 := pw_0 (by omega) (bnd_h (by omega))
      have hI_33 := iw_55 (j := 0) (v := a1) hI ⟨(Int.le_trans (by decide) ha1.1), (Int.le_trans ha1.2 (by decide))⟩
      have hI_34 := iw_55 (j := 1) (v := a2) hI_33 ⟨(Int.le_trans (by decide) ha2.1), (Int.le_trans ha2.2 (by decide))⟩
      have hI_35 := iw_55 (j := 2) (v := a3) hI_34 ⟨(Int.le_trans (by decide) ha3.1), (Int.le_trans ha3.2 (by decide))⟩
      have hI_36 := iw_55 (j := 3) (v := a4) hI_35 ⟨(Int.le_trans (by decide) ha4.1), (Int.le_trans ha4.2 (by decide))⟩
      have hI_37 := iw_55 (j := 4) (v := a1 + a2 + a3 + a4) hI_36 ⟨by omega, by omega⟩
      have hI_38 := iw_55 (j := 5) (v := a5) hI_37 ⟨ha5.1, ha5.2⟩
      have hI_39 := iw_55 (j := 6) (v := a6) hI_38 ⟨ha6.1, ha6.2⟩
      have hI_40 := iw_55 (j := 7) (v := a7) hI_39 ⟨ha7.1, ha7.2⟩
      exact zv (by omega) (K0 (up (up (up (up (up (up (up (up c 55 0 a1) 55 1 a2) 55 2 a3) 55 3 a4) 55 4 (a1 + a2 + a3 + a4)) 55 5 a5) 55 6 a6) 55 7 a7) hI_40 (fun a j hm => (up_b (Decidable.or_iff_not_imp_left.mpr (fun h1 h2 => hm (Or.inr (Decidable.not_not.mp h1))))).trans ((up_b (Decidable.or_iff_not_imp_left.mpr (fun h1 h2 => hm (Or.inr (Decidable.not_not.mp h1))))).trans ((up_b (Decidable.or_iff_not_imp_left.mpr (fun h1 h2 => hm (Or.inr (Decidable.not_not.mp h1))))).trans ((up_b (Decidable.or_iff_not_imp_left.mpr (fun h1 h2 => hm (Or.inr (Decidable.not_not.mp h1))))).trans ((up_b (Decidable.or_iff_not_imp_left.mpr (fun h1 h2 => hm (Or.inr (Decidable.not_not.mp h1))))).trans ((up_b (Decidable.or_iff_not_imp_left.mpr (fun h1 h2 => hm (Or.inr (Decidable.not_not.mp h1))))).trans ((up_b (Decidable.or_iff_not_imp_left.mpr (fun h1 h2 => hm (Or.inr (Decidable.not_not.mp h1))))).trans (up_b (Decidable.or_iff_not_imp_left.mpr (fun h1 h2 => hm (Or.inr (Decidable.not_not.mp h1)))))))))))) (by omega))
