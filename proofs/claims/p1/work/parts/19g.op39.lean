/-! ===== image in the law, over any memory ===== -/
theorem upc_z {c : ME} {s a : Nat} {sp q : Int} : upc c s sp a q 0 = c := by
  funext b j
  by_cases h : b = a
  · subst h
    exact upc_n (by omega)
  · exact upc_c h
theorem upc_step {c : ME} {s a : Nat} {q n j x : Int} (hn : 0 ≤ n) (hj : j = q + n) (hx : x = c s n) : up (upc c s 0 a q n) a j x = upc c s 0 a q (n + 1) := by
  funext b i
  by_cases h : b = a
  · subst h
    by_cases hi : i = j
    · rw [up_e hi, upc_e (by omega), hx]
      congr 1
      omega
    · rw [up_n hi]
      by_cases h2 : q ≤ i ∧ i < q + n
      · rw [upc_e h2, upc_e (by omega)]
      · rw [upc_n h2, upc_n (by omega)]
  · rw [up_c h, upc_c h, upc_c h]
set_option maxRecDepth 100000 in
set_option maxHeartbeats 4000000 in
theorem m_257_l58 {sc : List Int32} {d : Nat} {P Q N T : Nat} {Z : AR → Prop} {q : Int} {c : ME} (hq : 0 ≤ q ∧ q ≤ 1853) (K : Z (.inl (some (vi (q + 37))), Wd P Q N T (upc c 58 0 66 q 37), 0, 0)) : ∀ (n9 : Nat) (t : Nat) (h1 : t ≤ 37) (_ : (37 : Int) - (t : Int) < (n9 : Int)), Wp sc (d + 0) 257 3 [(0, .ref 41), (1, vi q), (2, .ref 58), (3, vi 37), (4, vi 1), (5, vi (t : Int))] [] (Wd P Q N T (upc c 58 0 66 q (t : Int))) 0 0 Z
  | 0, t, h1, hn9 => by exfalso; omega
  | n9 + 1, t, h1, hn9 => by
    refine q_iload rfl rfl ?_
    refine q_iload_n rfl rfl ?_
    by_cases h_1 : (t : Int) ≥ 37
    · refine v_ic_ge_t (t := 49) rfl (by decide) (by omega) ?_
      refine q_iload_n rfl rfl ?_
      refine q_iload_n rfl rfl ?_
      refine v_iadd (v := q + 37) rfl (by omega) ?_
      refine q_iret rfl rfl ?_
      have ht : (t : Int) = 37 := by omega
      rw [ht]
      exact K
    · refine v_ic_ge_f (t := 49) rfl (by decide) (by omega) ?_
      refine q_iload rfl rfl ?_
      refine v_if_eq_f (t := 30) rfl (by decide) (by decide) ?_
      refine q_aload_n rfl rfl ?_
      refine v_gr (t := 66) rfl rfl rfl (by decide) rfl ?_
      refine q_iload_n rfl rfl ?_
      refine q_iload rfl rfl ?_
      refine v_iadd (v := (t : Int) + q) rfl (by omega) ?_
      refine q_aload_n rfl rfl ?_
      refine q_iload rfl rfl ?_
      refine v_ia (v := c 58 (t : Int)) rfl rfl (by decide) (by decide) (by omega) (upc_c (by decide)) ?_
      refine v_is rfl rfl (by decide) (by decide) (by omega) ?_
      refine q_goto (t := 43) rfl (by decide) ?_
      refine v_iinc (v := (t : Int) + 1) rfl rfl (by decide) (by omega) ?_
      refine q_goto (t := 3) rfl (by decide) ?_
      rw [show up (upc c 58 0 66 q (t : Int)) 66 ((t : Int) + q) (c 58 (t : Int)) = upc c 58 0 66 q ((t : Int) + 1) from upc_step (by omega) (by omega) rfl]
      refine Wp_ls [(0, .ref 41), (1, vi q), (2, .ref 58), (3, vi 37), (4, vi 1), (5, vi ((t : Int) + 1))] (lsub_cons rfl (lsub_cons rfl (lsub_cons rfl (lsub_cons rfl (lsub_cons rfl (lsub_cons rfl lsub_nil)))))) ?_
      exact m_257_l58 (q := q) (c := c) hq K n9 (t + 1) (by omega) (by omega)

set_option maxRecDepth 100000 in
set_option maxHeartbeats 4000000 in
theorem m_257_58 {sc : List Int32} {d : Nat} {P Q N T : Nat} {c : ME} {Z : AR → Prop} {q : Int} (hq : 0 ≤ q ∧ q ≤ 1853) (K : Z (.inl (some (vi (q + 37))), Wd P Q N T (upc c 58 0 66 q 37), 0, 0)) : Wp sc (d + 0) 257 0 [(0, .ref 41), (1, vi q), (2, .ref 58), (3, vi 37), (4, vi 1)] [] (Wd P Q N T c) 0 0 Z := by
  refine q_iconst rfl ?_
  refine q_istore rfl (by decide) ?_
  rw [show c = upc c 58 0 66 q 0 from upc_z.symm]
  refine Wp_ls [(0, .ref 41), (1, vi q), (2, .ref 58), (3, vi 37), (4, vi 1), (5, vi 0)] (lsub_cons rfl (lsub_cons rfl (lsub_cons rfl (lsub_cons rfl (lsub_cons rfl (lsub_cons rfl lsub_nil)))))) ?_
  exact m_257_l58 (q := q) (c := c) hq K 38 0 (by omega) (by omega)

theorem m_257_58v {sc : List Int32} {d P Q N T : Nat} {c : ME} {Z : AR → Prop} {q v : Int} (hq : 0 ≤ q ∧ q ≤ 1853) (hv : q + 37 = v) (K : Z (.inl (some (vi v)), Wd P Q N T (upc c 58 0 66 q 37), 0, 0)) : Wp sc (d + 0) 257 0 [(0, .ref 41), (1, vi q), (2, .ref 58), (3, vi 37), (4, vi 1)] [] (Wd P Q N T c) 0 0 Z := m_257_58 hq (by rw [hv]; exact K)
set_option maxRecDepth 100000 in
set_option maxHeartbeats 4000000 in
theorem m_257_l60 {sc : List Int32} {d : Nat} {P Q N T : Nat} {Z : AR → Prop} {q : Int} {c : ME} (hq : 0 ≤ q ∧ q ≤ 1298) (K : Z (.inl (some (vi (q + 592))), Wd P Q N T (upc c 60 0 66 q 592), 0, 0)) : ∀ (n9 : Nat) (t : Nat) (h1 : t ≤ 592) (_ : (592 : Int) - (t : Int) < (n9 : Int)), Wp sc (d + 0) 257 3 [(0, .ref 41), (1, vi q), (2, .ref 60), (3, vi 592), (4, vi 1), (5, vi (t : Int))] [] (Wd P Q N T (upc c 60 0 66 q (t : Int))) 0 0 Z
  | 0, t, h1, hn9 => by exfalso; omega
  | n9 + 1, t, h1, hn9 => by
    refine q_iload rfl rfl ?_
    refine q_iload_n rfl rfl ?_
    by_cases h_2 : (t : Int) ≥ 592
    · refine v_ic_ge_t (t := 49) rfl (by decide) (by omega) ?_
      refine q_iload_n rfl rfl ?_
      refine q_iload_n rfl rfl ?_
      refine v_iadd (v := q + 592) rfl (by omega) ?_
      refine q_iret rfl rfl ?_
      have ht : (t : Int) = 592 := by omega
      rw [ht]
      exact K
    · refine v_ic_ge_f (t := 49) rfl (by decide) (by omega) ?_
      refine q_iload rfl rfl ?_
      refine v_if_eq_f (t := 30) rfl (by decide) (by decide) ?_
      refine q_aload_n rfl rfl ?_
      refine v_gr (t := 66) rfl rfl rfl (by decide) rfl ?_
      refine q_iload_n rfl rfl ?_
      refine q_iload rfl rfl ?_
      refine v_iadd (v := (t : Int) + q) rfl (by omega) ?_
      refine q_aload_n rfl rfl ?_
      refine q_iload rfl rfl ?_
      refine v_ia (v := c 60 (t : Int)) rfl rfl (by decide) (by decide) (by omega) (upc_c (by decide)) ?_
      refine v_is rfl rfl (by decide) (by decide) (by omega) ?_
      refine q_goto (t := 43) rfl (by decide) ?_
      refine v_iinc (v := (t : Int) + 1) rfl rfl (by decide) (by omega) ?_
      refine q_goto (t := 3) rfl (by decide) ?_
      rw [show up (upc c 60 0 66 q (t : Int)) 66 ((t : Int) + q) (c 60 (t : Int)) = upc c 60 0 66 q ((t : Int) + 1) from upc_step (by omega) (by omega) rfl]
      refine Wp_ls [(0, .ref 41), (1, vi q), (2, .ref 60), (3, vi 592), (4, vi 1), (5, vi ((t : Int) + 1))] (lsub_cons rfl (lsub_cons rfl (lsub_cons rfl (lsub_cons rfl (lsub_cons rfl (lsub_cons rfl lsub_nil)))))) ?_
      exact m_257_l60 (q := q) (c := c) hq K n9 (t + 1) (by omega) (by omega)

set_option maxRecDepth 100000 in
set_option maxHeartbeats 4000000 in
theorem m_257_60 {sc : List Int32} {d : Nat} {P Q N T : Nat} {c : ME} {Z : AR → Prop} {q : Int} (hq : 0 ≤ q ∧ q ≤ 1298) (K : Z (.inl (some (vi (q + 592))), Wd P Q N T (upc c 60 0 66 q 592), 0, 0)) : Wp sc (d + 0) 257 0 [(0, .ref 41), (1, vi q), (2, .ref 60), (3, vi 592), (4, vi 1)] [] (Wd P Q N T c) 0 0 Z := by
  refine q_iconst rfl ?_
  refine q_istore rfl (by decide) ?_
  rw [show c = upc c 60 0 66 q 0 from upc_z.symm]
  refine Wp_ls [(0, .ref 41), (1, vi q), (2, .ref 60), (3, vi 592), (4, vi 1), (5, vi 0)] (lsub_cons rfl (lsub_cons rfl (lsub_cons rfl (lsub_cons rfl (lsub_cons rfl (lsub_cons rfl lsub_nil)))))) ?_
  exact m_257_l60 (q := q) (c := c) hq K 593 0 (by omega) (by omega)

theorem m_257_60v {sc : List Int32} {d P Q N T : Nat} {c : ME} {Z : AR → Prop} {q v : Int} (hq : 0 ≤ q ∧ q ≤ 1298) (hv : q + 592 = v) (K : Z (.inl (some (vi v)), Wd P Q N T (upc c 60 0 66 q 592), 0, 0)) : Wp sc (d + 0) 257 0 [(0, .ref 41), (1, vi q), (2, .ref 60), (3, vi 592), (4, vi 1)] [] (Wd P Q N T c) 0 0 Z := m_257_60 hq (by rw [hv]; exact K)
set_option maxRecDepth 100000 in
set_option maxHeartbeats 4000000 in
theorem op_39g {xs : Nat → Int32} {L i0 d nc ns P Q N T : Nat} {c : ME} {Z : AR → Prop} (hr : c 3 4 = c 41 52 ∧ 0 ≤ c 3 4 ∧ c 3 4 ≤ 3) (hw : 0 ≤ c 3 3 ∧ c 3 3 ≤ 16) (K : ∀ c2 : ME, (∀ (a : Nat) (j : Int), ¬ (a = 5 ∨ a = 6 ∨ a = 66 ∨ (a = 3 ∧ j = 4) ∨ (a = 41 ∧ (j = 0 ∨ j = 52))) → c2 a j = c a j) → c2 3 4 = c2 41 52 ∧ 0 ≤ c2 3 4 ∧ c2 3 4 ≤ 3 → Wp (a_scr L xs) (d + 9) 296 2739 [(4, vi (i0 : Int)), (3, .ref 67), (2, .ref 41), (1, .ref 0), (0, .ref a_SC)] [] (Wd P Q N T c2) nc ns Z) : Wp (a_scr L xs) (d + 9) 296 2663 [(4, vi (i0 : Int)), (3, .ref 67), (2, .ref 41), (1, .ref 0), (0, .ref a_SC)] [] (Wd P Q N T c) nc ns Z := by
  refine q_aload_n rfl rfl ?_
  refine v_cv rfl rfl rfl rfl (by decide) ⟨⟨rfl, rfl⟩, by decide, rfl⟩ (Nat.le_of_ble_eq_true rfl) (Nat.le_of_ble_eq_true rfl) ?_
  refine q_aload_n rfl rfl ?_
  refine v_gr (t := 3) rfl rfl rfl (by decide) rfl ?_
  refine v_gi (z := 4) (v := c 3 4) rfl rfl rfl (by decide) rfl rfl rfl ?_
  refine q_iconst rfl ?_
  by_cases h_3 : c 3 4 ≠ 3
  · refine v_ic_ne_t (t := 13) rfl (by decide) (by omega) ?_
    refine q_aload_n rfl rfl ?_
    refine v_gr (t := 3) rfl rfl rfl (by decide) rfl ?_
    refine q_aload_n rfl rfl ?_
    refine v_gr (t := 37) rfl rfl rfl (by decide) rfl ?_
    refine v_cv rfl rfl rfl rfl (by decide) ⟨⟨rfl, rfl⟩, by decide, rfl⟩ (Nat.le_of_ble_eq_true rfl) (Nat.le_of_ble_eq_true rfl) ?_
    refine q_aload_n rfl rfl ?_
    refine v_gi (z := 4) (v := c 3 4) rfl rfl rfl (by decide) rfl rfl rfl ?_
    refine q_iconst rfl ?_
    refine v_ic_ge_f (t := 78) rfl (by decide) (by omega) ?_
    refine q_aload_n rfl rfl ?_
    refine v_gi (z := 4) (v := c 3 4) rfl rfl rfl (by decide) rfl rfl rfl ?_
    refine v_sip rfl (by decide) ?_
    refine v_imul (v := 578 * c 3 4) rfl (by omega) ?_
    refine q_istore_n rfl (by decide) ?_
    refine q_aload_n rfl rfl ?_
    refine v_gr (t := 38) rfl rfl rfl (by decide) rfl ?_
    refine q_iconst rfl ?_
    refine q_aload_n rfl rfl ?_
    refine v_gr (t := 5) rfl rfl rfl (by decide) rfl ?_
    refine q_iload_n rfl rfl ?_
    refine v_bip rfl (by decide) ?_
    refine v_cpy rfl rfl rfl (by decide) rfl (by decide) rfl rfl (by omega) (Nat.le_of_ble_eq_true rfl) (by omega) ?_
    refine q_aload_n rfl rfl ?_
    refine v_gr (t := 4) rfl rfl rfl (by decide) rfl ?_
    refine q_iconst rfl ?_
    refine q_aload_n rfl rfl ?_
    refine v_gr (t := 5) rfl rfl rfl (by decide) rfl ?_
    refine q_iload_n rfl rfl ?_
    refine v_bip rfl (by decide) ?_
    refine v_iadd (v := 578 * c 3 4 + 34) rfl (by omega) ?_
    refine q_aload_n rfl rfl ?_
    refine v_gi (z := 3) (v := c 3 3) rfl rfl rfl (by decide) rfl rfl (upc_c (by decide)) ?_
    refine v_bip rfl (by decide) ?_
    refine v_imul (v := 34 * c 3 3) rfl (by omega) ?_
    refine v_cpy rfl rfl rfl (by decide) rfl (by decide) rfl rfl (by omega) (Nat.le_of_ble_eq_true rfl) (by omega) ?_
    refine q_aload_n rfl rfl ?_
    refine v_gr (t := 6) rfl rfl rfl (by decide) rfl ?_
    refine q_aload_n rfl rfl ?_
    refine v_gi (z := 4) (v := c 3 4) rfl rfl rfl (by decide) rfl rfl ((upc_c (by decide)).trans (upc_c (by decide))) ?_
    refine q_aload_n rfl rfl ?_
    refine v_gi (z := 3) (v := c 3 3) rfl rfl rfl (by decide) rfl rfl ((upc_c (by decide)).trans (upc_c (by decide))) ?_
    refine v_is rfl rfl (by decide) (by decide) (by omega) ?_
    refine q_aload_n rfl rfl ?_
    refine q_dup rfl rfl ?_
    refine v_gi (z := 4) (v := c 3 4) rfl rfl rfl (by decide) rfl rfl ((up_c (by decide)).trans ((upc_c (by decide)).trans (upc_c (by decide)))) ?_
    refine q_iconst rfl ?_
    refine v_iadd (v := c 3 4 + 1) rfl (by omega) ?_
    refine v_pi (z := 4) rfl rfl rfl (by decide) rfl rfl rfl (by decide) ?_
    refine q_vret rfl rfl ?_
    refine bk_inl ?_
    refine q_aload_n rfl rfl ?_
    refine v_gr (t := 3) rfl rfl rfl (by decide) rfl ?_
    refine v_gi (z := 4) (v := c 3 4 + 1) rfl rfl rfl (by decide) rfl rfl (up_e rfl) ?_
    refine q_iret rfl rfl ?_
    refine bk_inl ?_
    refine q_aload_n rfl rfl ?_
    refine v_cv rfl rfl rfl rfl (by decide) ⟨⟨rfl, rfl⟩, by decide, rfl⟩ (Nat.le_of_ble_eq_true rfl) (Nat.le_of_ble_eq_true rfl) ?_
    refine q_aload_n rfl rfl ?_
    refine q_iconst rfl ?_
    refine v_pi (z := 0) rfl rfl rfl (by decide) rfl rfl rfl (by decide) ?_
    refine q_aload_n rfl rfl ?_
    refine v_gi (z := 52) (v := c 41 52) rfl rfl rfl (by decide) rfl rfl ((up_n (by decide)).trans ((up_c (by decide)).trans ((up_c (by decide)).trans ((upc_c (by decide)).trans (upc_c (by decide)))))) ?_
    refine q_iconst rfl ?_
    refine v_ic_ne_t (t := 15) rfl (by decide) (by omega) ?_
    refine q_aload_n rfl rfl ?_
    refine q_aload_n rfl rfl ?_
    refine v_gi (z := 52) (v := c 41 52) rfl rfl rfl (by decide) rfl rfl ((up_n (by decide)).trans ((up_c (by decide)).trans ((up_c (by decide)).trans ((upc_c (by decide)).trans (upc_c (by decide)))))) ?_
    refine q_iconst rfl ?_
    refine v_cv rfl rfl rfl rfl (by decide) ⟨⟨rfl, rfl⟩, by decide, rfl⟩ (Nat.le_of_ble_eq_true rfl) (Nat.le_of_ble_eq_true rfl) ?_
    refine q_aload_n rfl rfl ?_
    refine v_sip rfl (by decide) ?_
    refine q_iload_n rfl rfl ?_
    refine v_imul (v := 630 * c 41 52) rfl (by omega) ?_
    refine q_aload_n rfl rfl ?_
    refine v_gr (t := 58) rfl rfl rfl (by decide) rfl ?_
    refine v_bip rfl (by decide) ?_
    refine q_iload_n rfl rfl ?_
    refine v_cv rfl rfl rfl rfl (by decide) ⟨⟨rfl, rfl⟩, by decide, rfl⟩ (Nat.le_of_ble_eq_true rfl) (Nat.le_of_ble_eq_true rfl) (m_257_58v (q := 630 * c 41 52) (v := 630 * c 41 52 + 37) (by omega) (by omega) ?_)
    refine bk_inl ?_
    refine q_istore_n rfl (by decide) ?_
    refine q_aload_n rfl rfl ?_
    refine q_iload_n rfl rfl ?_
    refine q_aload_n rfl rfl ?_
    refine v_gr (t := 60) rfl rfl rfl (by decide) rfl ?_
    refine v_sip rfl (by decide) ?_
    refine q_iload_n rfl rfl ?_
    refine v_cv rfl rfl rfl rfl (by decide) ⟨⟨rfl, rfl⟩, by decide, rfl⟩ (Nat.le_of_ble_eq_true rfl) (Nat.le_of_ble_eq_true rfl) (m_257_60v (q := 630 * c 41 52 + 37) (v := 630 * c 41 52 + 629) (by omega) (by omega) ?_)
    refine bk_inl ?_
    refine q_istore_n rfl (by decide) ?_
    refine q_iload_n rfl rfl ?_
    refine v_if_eq_f (t := 48) rfl (by decide) (by decide) ?_
    refine q_aload_n rfl rfl ?_
    refine v_gr (t := 66) rfl rfl rfl (by decide) rfl ?_
    refine q_iload_n rfl rfl ?_
    refine q_aload_n rfl rfl ?_
    refine v_gi (z := 35) (v := c 41 35) rfl rfl rfl (by decide) rfl rfl ((upc_c (by decide)).trans ((upc_c (by decide)).trans ((up_n (by decide)).trans ((up_c (by decide)).trans ((up_c (by decide)).trans ((upc_c (by decide)).trans (upc_c (by decide)))))))) ?_
    refine v_is rfl rfl (by decide) (by decide) (by omega) ?_
    refine q_goto (t := 58) rfl (by decide) ?_
    refine q_vret rfl rfl ?_
    refine bk_inl ?_
    refine q_aload_n rfl rfl ?_
    refine q_dup rfl rfl ?_
    refine v_gi (z := 52) (v := c 41 52) rfl rfl rfl (by decide) rfl rfl ((up_c (by decide)).trans ((upc_c (by decide)).trans ((upc_c (by decide)).trans ((up_n (by decide)).trans ((up_c (by decide)).trans ((up_c (by decide)).trans ((upc_c (by decide)).trans (upc_c (by decide))))))))) ?_
    refine q_iconst rfl ?_
    refine v_iadd (v := c 41 52 + 1) rfl (by omega) ?_
    refine v_pi (z := 52) rfl rfl rfl (by decide) rfl rfl rfl (by decide) ?_
    refine q_aload_n rfl rfl ?_
    refine v_gi (z := 52) (v := c 41 52 + 1) rfl rfl rfl (by decide) rfl rfl (up_e rfl) ?_
    refine q_iret rfl rfl ?_
    refine bk_inl ?_
    refine v_ic_eq_t (t := 2739) rfl (by decide) (by omega) ?_
    refine Wp_ls [(4, vi (i0 : Int)), (3, .ref 67), (2, .ref 41), (1, .ref 0), (0, .ref a_SC)] (lsub_cons rfl (lsub_cons rfl (lsub_cons rfl (lsub_cons rfl (lsub_cons rfl lsub_nil))))) ?_
    refine K (up (up (upc (upc (up (up (up (upc (upc c 38 0 5 (578 * c 3 4) 34) 4 0 5 (578 * c 3 4 + 34) (34 * c 3 3)) 6 (c 3 4) (c 3 3)) 3 4 (c 3 4 + 1)) 41 0 0) 58 0 66 (630 * c 41 52) 37) 60 0 66 (630 * c 41 52 + 37) 592) 66 (630 * c 41 52 + 629) (c 41 35)) 41 52 (c 41 52 + 1)) ?_ ?_
    · intro a j h
      exact ((up_b (by omega)).trans ((up_b (by omega)).trans ((upc_c (by omega)).trans ((upc_c (by omega)).trans ((up_b (by omega)).trans ((up_b (by omega)).trans ((up_b (by omega)).trans ((upc_c (by omega)).trans (upc_c (by omega))))))))))
    · rw [show (up (up (upc (upc (up (up (up (upc (upc c 38 0 5 (578 * c 3 4) 34) 4 0 5 (578 * c 3 4 + 34) (34 * c 3 3)) 6 (c 3 4) (c 3 3)) 3 4 (c 3 4 + 1)) 41 0 0) 58 0 66 (630 * c 41 52) 37) 60 0 66 (630 * c 41 52 + 37) 592) 66 (630 * c 41 52 + 629) (c 41 35)) 41 52 (c 41 52 + 1)) 3 4 = c 3 4 + 1 from ((up_c (by decide)).trans ((up_c (by decide)).trans ((upc_c (by decide)).trans ((upc_c (by decide)).trans ((up_c (by decide)).trans (up_e rfl)))))), show (up (up (upc (upc (up (up (up (upc (upc c 38 0 5 (578 * c 3 4) 34) 4 0 5 (578 * c 3 4 + 34) (34 * c 3 3)) 6 (c 3 4) (c 3 3)) 3 4 (c 3 4 + 1)) 41 0 0) 58 0 66 (630 * c 41 52) 37) 60 0 66 (630 * c 41 52 + 37) 592) 66 (630 * c 41 52 + 629) (c 41 35)) 41 52 (c 41 52 + 1)) 41 52 = c 41 52 + 1 from (up_e rfl)]
      omega
  · refine v_ic_ne_f (t := 13) rfl (by decide) (by omega) ?_
    refine q_iconst rfl ?_
    refine q_iret rfl rfl ?_
    refine bk_inl ?_
    refine q_aload_n rfl rfl ?_
    refine v_cv rfl rfl rfl rfl (by decide) ⟨⟨rfl, rfl⟩, by decide, rfl⟩ (Nat.le_of_ble_eq_true rfl) (Nat.le_of_ble_eq_true rfl) ?_
    refine q_aload_n rfl rfl ?_
    refine q_iconst rfl ?_
    refine v_pi (z := 0) rfl rfl rfl (by decide) rfl rfl rfl (by decide) ?_
    refine q_aload_n rfl rfl ?_
    refine v_gi (z := 52) (v := c 41 52) rfl rfl rfl (by decide) rfl rfl (up_n (by decide)) ?_
    refine q_iconst rfl ?_
    refine v_ic_ne_f (t := 15) rfl (by decide) (by omega) ?_
    refine q_iconst rfl ?_
    refine q_iret rfl rfl ?_
    refine bk_inl ?_
    refine v_ic_eq_t (t := 2739) rfl (by decide) (by decide) ?_
    refine Wp_ls [(4, vi (i0 : Int)), (3, .ref 67), (2, .ref 41), (1, .ref 0), (0, .ref a_SC)] (lsub_cons rfl (lsub_cons rfl (lsub_cons rfl (lsub_cons rfl (lsub_cons rfl lsub_nil))))) ?_
    refine K (up c 41 0 0) ?_ ?_
    · intro a j h
      exact (up_b (by omega))
    · rw [show (up c 41 0 0) 3 4 = c 3 4 from (up_c (by decide)), show (up c 41 0 0) 41 52 = c 41 52 from (up_n (by decide))]
      omega
set_option maxRecDepth 100000 in
theorem op_39 {x0 x1 x2 x3 x4 x5 x6 x7 : Int32} : Wp [x0, x1, x2, x3, x4, x5, x6, x7] 100 296 2663 l1 [] w1 68 8870 Qlaw := by
  rw [w1_wd]
  refine op_39g (xs := fun j => [x0, x1, x2, x3, x4, x5, x6, x7].getD j 0) (L := 8) (i0 := 0) (d := 91) ⟨rfl, by decide, by decide⟩ ⟨by decide, by decide⟩ (fun c2 _ _ => ?_)
  refine v_iinc (v := 8) rfl rfl (by decide) (by decide) ?_
  refine q_goto (t := 23) rfl (by decide) ?_
  exact q_end rfl rfl (by decide) (by decide)
