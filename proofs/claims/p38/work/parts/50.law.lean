/-! ===== the law, on every script of its length ===== -/
theorem c0_bx : ∀ (a : Nat) (j : Int), ¬ (a = 65 ∨ a = 67) → blo a j ≤ c0 a j ∧ c0 a j ≤ bhi a j
  | 0, j, _ => (show ((-2147483648 : Int)) ≤ 0 ∧ (0 : Int) ≤ 2147483647 by decide)
  | 1, j, _ => by
    by_cases h1 : j = 1
    · subst h1; decide
    by_cases h2 : j = 2
    · subst h2; decide
    by_cases h3 : j = 3
    · subst h3; decide
    by_cases h4 : j = 4
    · subst h4; decide
    by_cases h5 : j = 5
    · subst h5; decide
    simp only [blo, bhi, c0, h1, h2, h3, h4, h5, if_false]
    decide
  | 2, j, _ => (show ((-2147483648 : Int)) ≤ 0 ∧ (0 : Int) ≤ 2147483647 by decide)
  | 3, j, _ => by
    by_cases h3 : j = 3
    · subst h3; decide
    by_cases h4 : j = 4
    · subst h4; decide
    simp only [blo, bhi, c0, h3, h4, if_false]
    decide
  | 4, j, _ => bx_4 (v := 0) (fun _ => by decide) (by decide)
  | 5, j, _ => bx_5 (v := 0) (fun _ => by decide) (by decide)
  | 6, j, _ => (show ((0 : Int)) ≤ 0 ∧ (0 : Int) ≤ 16 by decide)
  | 7, j, _ => by
    by_cases h1 : j = 1
    · subst h1; decide
    by_cases h2 : j = 2
    · subst h2; decide
    simp only [blo, bhi, c0, h1, h2, if_false]
    decide
  | 8, j, _ => (show ((0 : Int)) ≤ 0 ∧ (0 : Int) ≤ 99999 by decide)
  | 9, j, _ => (show ((-2147483648 : Int)) ≤ 0 ∧ (0 : Int) ≤ 2147483647 by decide)
  | 10, j, _ => (show ((0 : Int)) ≤ 0 ∧ (0 : Int) ≤ 35 by decide)
  | 11, j, _ => (show ((-2147483648 : Int)) ≤ 0 ∧ (0 : Int) ≤ 2147483647 by decide)
  | 12, j, _ => (show ((0 : Int)) ≤ 0 ∧ (0 : Int) ≤ 9999 by decide)
  | 13, j, _ => by
    by_cases h0 : j = 0
    · subst h0; decide
    by_cases h1 : j = 1
    · subst h1; decide
    by_cases h2 : j = 2
    · subst h2; decide
    by_cases h3 : j = 3
    · subst h3; decide
    by_cases h4 : j = 4
    · subst h4; decide
    by_cases h5 : j = 5
    · subst h5; decide
    simp only [blo, bhi, c0, h0, h1, h2, h3, h4, h5, if_false]
    decide
  | 14, j, _ => (show ((0 : Int)) ≤ 0 ∧ (0 : Int) ≤ 999 by decide)
  | 15, j, _ => (show ((0 : Int)) ≤ 0 ∧ (0 : Int) ≤ 10 by decide)
  | 16, j, _ => (show ((0 : Int)) ≤ 0 ∧ (0 : Int) ≤ 2 by decide)
  | 17, j, _ => (show ((-1 : Int)) ≤ 0 ∧ (0 : Int) ≤ 9999 by decide)
  | 18, j, _ => (show ((-1 : Int)) ≤ 0 ∧ (0 : Int) ≤ 9999 by decide)
  | 19, j, _ => by
    show (-1 : Int) ≤ (if 0 ≤ j ∧ j < 4 then (-1 : Int) else 0) ∧ (if 0 ≤ j ∧ j < 4 then (-1 : Int) else 0) ≤ 9999
    split <;> decide
  | 20, j, _ => by
    by_cases h4 : j = 4
    · subst h4; decide
    by_cases h5 : j = 5
    · subst h5; decide
    simp only [blo, bhi, c0, h4, h5, if_false]
    decide
  | 21, j, _ => (show ((-2147483648 : Int)) ≤ 0 ∧ (0 : Int) ≤ 2147483647 by decide)
  | 22, j, _ => (show ((-2147483648 : Int)) ≤ 0 ∧ (0 : Int) ≤ 2147483647 by decide)
  | 23, j, _ => (show ((-2147483648 : Int)) ≤ 0 ∧ (0 : Int) ≤ 2147483647 by decide)
  | 24, j, _ => (show ((-2147483648 : Int)) ≤ 0 ∧ (0 : Int) ≤ 2147483647 by decide)
  | 25, j, _ => by
    by_cases h0 : j = 0
    · subst h0; decide
    by_cases h1 : j = 1
    · subst h1; decide
    by_cases h2 : j = 2
    · subst h2; decide
    by_cases h3 : j = 3
    · subst h3; decide
    by_cases h4 : j = 4
    · subst h4; decide
    by_cases h5 : j = 5
    · subst h5; decide
    simp only [blo, bhi, c0, h0, h1, h2, h3, h4, h5, if_false]
    decide
  | 26, j, _ => (show ((0 : Int)) ≤ 0 ∧ (0 : Int) ≤ 999 by decide)
  | 27, j, _ => (show ((0 : Int)) ≤ 0 ∧ (0 : Int) ≤ 10 by decide)
  | 28, j, _ => (show ((0 : Int)) ≤ 0 ∧ (0 : Int) ≤ 2 by decide)
  | 29, j, _ => (show ((-1 : Int)) ≤ 0 ∧ (0 : Int) ≤ 9999 by decide)
  | 30, j, _ => (show ((-1 : Int)) ≤ 0 ∧ (0 : Int) ≤ 9999 by decide)
  | 31, j, _ => by
    show (-1 : Int) ≤ (if 0 ≤ j ∧ j < 4 then (-1 : Int) else 0) ∧ (if 0 ≤ j ∧ j < 4 then (-1 : Int) else 0) ≤ 9999
    split <;> decide
  | 32, j, _ => by
    by_cases h4 : j = 4
    · subst h4; decide
    by_cases h5 : j = 5
    · subst h5; decide
    simp only [blo, bhi, c0, h4, h5, if_false]
    decide
  | 33, j, _ => (show ((-2147483648 : Int)) ≤ 0 ∧ (0 : Int) ≤ 2147483647 by decide)
  | 34, j, _ => (show ((-2147483648 : Int)) ≤ 0 ∧ (0 : Int) ≤ 2147483647 by decide)
  | 35, j, _ => (show ((-2147483648 : Int)) ≤ 0 ∧ (0 : Int) ≤ 2147483647 by decide)
  | 36, j, _ => (show ((-2147483648 : Int)) ≤ 0 ∧ (0 : Int) ≤ 2147483647 by decide)
  | 37, j, _ => (show ((-2147483648 : Int)) ≤ 0 ∧ (0 : Int) ≤ 2147483647 by decide)
  | 38, j, _ => bx_38 (v := 0) (fun _ => by decide) (by decide)
  | 39, j, _ => (show ((-2147483648 : Int)) ≤ 0 ∧ (0 : Int) ≤ 2147483647 by decide)
  | 40, j, _ => bx_40 (v := 0) (fun _ => by decide) (by decide)
  | 41, j, _ => by
    by_cases h2 : j = 2
    · subst h2; decide
    by_cases h3 : j = 3
    · subst h3; decide
    by_cases h4 : j = 4
    · subst h4; decide
    by_cases h5 : j = 5
    · subst h5; decide
    by_cases h6 : j = 6
    · subst h6; decide
    by_cases h7 : j = 7
    · subst h7; decide
    by_cases h8 : j = 8
    · subst h8; decide
    by_cases h16 : j = 16
    · subst h16; decide
    by_cases h17 : j = 17
    · subst h17; decide
    by_cases h18 : j = 18
    · subst h18; decide
    by_cases h19 : j = 19
    · subst h19; decide
    by_cases h20 : j = 20
    · subst h20; decide
    by_cases h21 : j = 21
    · subst h21; decide
    by_cases h22 : j = 22
    · subst h22; decide
    by_cases h23 : j = 23
    · subst h23; decide
    by_cases h29 : j = 29
    · subst h29; decide
    by_cases h30 : j = 30
    · subst h30; decide
    by_cases h34 : j = 34
    · subst h34; decide
    by_cases h35 : j = 35
    · subst h35; decide
    by_cases h37 : j = 37
    · subst h37; decide
    by_cases h47 : j = 47
    · subst h47; decide
    by_cases h52 : j = 52
    · subst h52; decide
    simp only [blo, bhi, c0, h2, h3, h4, h5, h6, h7, h8, h16, h17, h18, h19, h20, h21, h22, h23, h29, h30, h34, h35, h37, h47, h52, if_false]
    decide
  | 42, j, _ => (show ((-2147483648 : Int)) ≤ 0 ∧ (0 : Int) ≤ 2147483647 by decide)
  | 43, j, _ => (show ((-2147483648 : Int)) ≤ 0 ∧ (0 : Int) ≤ 2147483647 by decide)
  | 44, j, _ => (show ((0 : Int)) ≤ 0 ∧ (0 : Int) ≤ 999 by decide)
  | 45, j, _ => (show ((0 : Int)) ≤ 0 ∧ (0 : Int) ≤ 10 by decide)
  | 46, j, _ => (show ((0 : Int)) ≤ 0 ∧ (0 : Int) ≤ 2 by decide)
  | 47, j, _ => (show ((0 : Int)) ≤ 0 ∧ (0 : Int) ≤ 999 by decide)
  | 48, j, _ => (show ((0 : Int)) ≤ 0 ∧ (0 : Int) ≤ 10 by decide)
  | 49, j, _ => (show ((0 : Int)) ≤ 0 ∧ (0 : Int) ≤ 2 by decide)
  | 50, j, _ => (show ((0 : Int)) ≤ 0 ∧ (0 : Int) ≤ 8 by decide)
  | 51, j, _ => (show ((0 : Int)) ≤ 0 ∧ (0 : Int) ≤ 999 by decide)
  | 52, j, _ => (show ((0 : Int)) ≤ 0 ∧ (0 : Int) ≤ 8 by decide)
  | 53, j, _ => (show ((0 : Int)) ≤ 0 ∧ (0 : Int) ≤ 999 by decide)
  | 54, j, _ => (show ((-2147483648 : Int)) ≤ 0 ∧ (0 : Int) ≤ 2147483647 by decide)
  | 55, j, _ => (show ((-2147483648 : Int)) ≤ 0 ∧ (0 : Int) ≤ 2147483647 by decide)
  | 56, j, _ => (show ((0 : Int)) ≤ 0 ∧ (0 : Int) ≤ 999 by decide)
  | 57, j, _ => (show ((0 : Int)) ≤ 0 ∧ (0 : Int) ≤ 999 by decide)
  | 58, j, _ => bx_58 (v := 0) (fun _ => by decide) (by decide)
  | 59, j, _ => bx_59 (v := 0) (fun _ => by decide) (by decide)
  | 60, j, _ => bx_60 (v := 0) (fun _ => by decide) (by decide)
  | 61, j, _ => (show ((0 : Int)) ≤ 0 ∧ (0 : Int) ≤ 3 by decide)
  | 62, j, _ => (show ((0 : Int)) ≤ 0 ∧ (0 : Int) ≤ 3 by decide)
  | 63, j, _ => (show ((-1 : Int)) ≤ 0 ∧ (0 : Int) ≤ 9999 by decide)
  | 64, j, _ => by
    show (-1 : Int) ≤ (if 0 ≤ j ∧ j < 4 then (-1 : Int) else 0) ∧ (if 0 ≤ j ∧ j < 4 then (-1 : Int) else 0) ≤ 9999
    split <;> decide
  | 65, j, h => absurd (by omega) h
  | 66, j, _ => bx_66 (v := 0) (fun _ => by decide) (fun _ => by decide) (by decide)
  | 67, j, h => absurd (by omega) h
  | a + 68, j, _ => (show ((-2147483648 : Int)) ≤ 0 ∧ (0 : Int) ≤ 2147483647 by decide)
theorem c0_z {a : Nat} (h : ¬ (a = 1 ∨ a = 13 ∨ a = 19 ∨ a = 25 ∨ a = 31 ∨ a = 41 ∨ a = 64)) (j : Int) : c0 a j = 0 := by
  unfold c0
  split <;> first | omega | rfl
theorem iv_0 : Iv 0 (-1) 13 25 c0 := by
  refine ⟨Or.inl ⟨rfl, rfl⟩, c0_bx, ?_, ?_, ⟨?_, ?_⟩, ?_, ?_, ?_, ?_⟩
  · intro a j hr _
    refine hv_ (rs_cell hr) (fun hc => ?_)
    rw [c0_z (by omega), c0_z (by omega), c0_z (by omega), c0_z (by omega)]
    decide
  · intro a i hg _ _ _
    unfold Sg at hg
    rw [c0_z (by omega), c0_z (by omega), c0_z (by omega), c0_z (by omega), c0_z (by omega)]
    unfold So
    decide
  · intro j _
    rw [c0_z (by omega)]
    decide
  · intro a i ha _ _
    rw [c0_z (by omega), c0_z (by omega)]
    intro h
    exact absurd h (by decide)
  · intro a j hl
    unfold Lg at hl
    rw [c0_z (by omega)]
    decide
  · intro j
    rw [c0_z (by omega)]
    decide
  · intro a j ha h1 h2
    refine hv_ (p := c0 a 4 = 0) (by rcases ha with rfl | rfl <;> decide) (fun e => ?_)
    omega
  · intro m hm
    refine hv_ (p := c0 41 30 = 0) (by decide) (fun e => ?_)
    omega
set_option maxRecDepth 100000 in
set_option maxHeartbeats 4000000 in
theorem law_run {xs : Nat → Int32} {L : Nat} (hL : L ≤ 4096) : ∀ (n i0 P Q : Nat) (c : ME) (nc ns : Nat), (L : Int) - i0 < n → Iv 0 (-1) P Q c → (Rq P c) → nc ≤ 68 + i0 → ns ≤ 8870 + 6 * i0 → i0 ≤ L → Wp (a_scr L xs) 100 296 23 [(4, vi (i0 : Int)), (3, .ref 67), (2, .ref 41), (1, .ref 0), (0, .ref a_SC)] [] (Wd P Q P P c) nc ns Qlaw
  | 0, i0, P, Q, c, nc, ns, hn, hI, hR, h1, h2, h3 => by exfalso; omega
  | n + 1, i0, P, Q, c, nc, ns, hn, hI, hR, h1, h2, h3 => by
    refine hv_ (law_run (xs := xs) hL n) (fun ih => ?_)
    refine q_iload rfl rfl ?_
    refine q_aload_n rfl rfl ?_
    refine q_slen rfl ?_
    rw [a_scr_len, show Value.int (Int32.ofNat L) = vi (L : Int) from congrArg Value.int Int32.ofInt_eq_ofNat.symm]
    refine v_bip rfl (by decide) ?_
    refine v_isub (v := (L : Int) - 8) rfl rfl ?_
    by_cases h : (i0 : Int) > (L : Int) - 8
    · refine v_ic_gt_t (t := 1850) rfl (by decide) (by omega) ?_
      refine q_iconst rfl ?_
      refine v_zret rfl rfl (by decide) ?_
      exact ⟨rfl, show nc ≤ _ by omega, show ns ≤ _ by omega⟩
    refine v_ic_gt_f (t := 1850) rfl (by decide) (by omega) ?_
    obtain ⟨x0, hx0⟩ : ∃ z, (xs i0).toInt = z := ⟨_, rfl⟩
    refine hv_ (c_rng (xs i0)) (fun x0r => ?_)
    rw [hx0] at x0r
    refine q_aload_n rfl rfl ?_
    refine q_iload rfl rfl ?_
    refine v_scr (j := i0) rfl rfl (by omega) (by omega) hx0 ?_
    refine v_bip rfl (by decide) ?_
    refine v_and6 (v := x0 % 64) rfl rfl ?_
    have KK : ∀ (P2 Q2 : Nat) (c2 : ME) (e : Nat), e ≤ 1 → Iv 0 (-1) P2 Q2 c2 → (Rq P2 c2) → Wp (a_scr L xs) (10 + 90) 296 1844 [(4, vi (i0 : Int)), (3, .ref 67), (2, .ref 41), (1, .ref 0), (0, .ref a_SC)] [] (Wd P2 Q2 P2 P2 c2) (nc + e) (ns + 6 * e) Qlaw := by
      intro P2 Q2 c2 e he hI2 hR2
      refine v_iinc (v := (i0 : Int) + 8) rfl rfl (by decide) rfl ?_
      refine q_goto (t := 23) rfl (by decide) ?_
      refine hv_ (ih (i0 + 8) P2 Q2 c2 (nc + e) (ns + 6 * e) (by omega) hI2 hR2 (by omega) (by omega) (by omega)) (fun r => ?_)
      rw [show vi ((i0 + 8 : Nat) : Int) = vi ((i0 : Int) + 8) from congrArg vi (by omega)] at r
      exact Wp_ls _ (lsub_cons rfl (lsub_cons rfl (lsub_cons rfl (lsub_cons rfl (lsub_cons rfl lsub_nil))))) r
    by_cases g0 : x0 % 64 = 0
    · exact v_tsw_i (t := 228) 0 rfl g0 (by decide) rfl (by decide) (o_0 (d := 10) (by omega) (by omega) hI hR KK)
    by_cases g1 : x0 % 64 = 1
    · exact v_tsw_i (t := 301) 1 rfl g1 (by decide) rfl (by decide) (o_1 (d := 10) (by omega) (by omega) hI hR KK)
    by_cases g2 : x0 % 64 = 2
    · exact v_tsw_i (t := 329) 2 rfl g2 (by decide) rfl (by decide) (o_2 (d := 10) (by omega) (by omega) hI hR KK)
    by_cases g3 : x0 % 64 = 3
    · exact v_tsw_i (t := 357) 3 rfl g3 (by decide) rfl (by decide) (o_3 (d := 10) (by omega) (by omega) hI hR KK)
    by_cases g4 : x0 % 64 = 4
    · exact v_tsw_i (t := 385) 4 rfl g4 (by decide) rfl (by decide) (o_4 (d := 10) (by omega) (by omega) hI hR KK)
    by_cases g5 : x0 % 64 = 5
    · exact v_tsw_i (t := 413) 5 rfl g5 (by decide) rfl (by decide) (o_5 (d := 10) (by omega) (by omega) hI hR KK)
    by_cases g6 : x0 % 64 = 6
    · exact v_tsw_i (t := 441) 6 rfl g6 (by decide) rfl (by decide) (o_6 (d := 10) (by omega) (by omega) hI hR KK)
    by_cases g7 : x0 % 64 = 7
    · exact v_tsw_i (t := 454) 7 rfl g7 (by decide) rfl (by decide) (o_7 (d := 10) (by omega) (by omega) hI hR KK)
    by_cases g8 : x0 % 64 = 8
    · exact v_tsw_i (t := 467) 8 rfl g8 (by decide) rfl (by decide) (o_8 (d := 10) (by omega) (by omega) hI hR KK)
    by_cases g9 : x0 % 64 = 9
    · exact v_tsw_i (t := 495) 9 rfl g9 (by decide) rfl (by decide) (o_9 (d := 10) (by omega) (by omega) hI hR KK)
    by_cases g10 : x0 % 64 = 10
    · exact v_tsw_i (t := 535) 10 rfl g10 (by decide) rfl (by decide) (o_10 (d := 10) (by omega) (by omega) hI hR KK)
    by_cases g11 : x0 % 64 = 11
    · exact v_tsw_i (t := 575) 11 rfl g11 (by decide) rfl (by decide) (o_11 (d := 10) (by omega) (by omega) hI hR KK)
    by_cases g12 : x0 % 64 = 12
    · exact v_tsw_i (t := 615) 12 rfl g12 (by decide) rfl (by decide) (o_12 (d := 10) (by omega) (by omega) hI hR KK)
    by_cases g13 : x0 % 64 = 13
    · exact v_tsw_i (t := 643) 13 rfl g13 (by decide) rfl (by decide) (o_13 (d := 10) (by omega) (by omega) hI hR KK)
    by_cases g14 : x0 % 64 = 14
    · exact v_tsw_i (t := 747) 14 rfl g14 (by decide) rfl (by decide) (o_14 (d := 10) (by omega) (by omega) hI hR KK)
    by_cases g15 : x0 % 64 = 15
    · exact v_tsw_i (t := 799) 15 rfl g15 (by decide) rfl (by decide) (o_15 (d := 10) (by omega) (by omega) hI hR KK)
    by_cases g16 : x0 % 64 = 16
    · exact v_tsw_i (t := 851) 16 rfl g16 (by decide) rfl (by decide) (o_16 (d := 10) (by omega) (by omega) hI hR KK)
    by_cases g17 : x0 % 64 = 17
    · exact v_tsw_i (t := 903) 17 rfl g17 (by decide) rfl (by decide) (o_17 (d := 10) (by omega) (by omega) hI hR KK)
    by_cases g18 : x0 % 64 = 18
    · exact v_tsw_i (t := 943) 18 rfl g18 (by decide) rfl (by decide) (o_18 (d := 10) (by omega) (by omega) hI hR KK)
    by_cases g19 : x0 % 64 = 19
    · exact v_tsw_i (t := 983) 19 rfl g19 (by decide) rfl (by decide) (o_19 (d := 10) (by omega) (by omega) hI hR KK)
    by_cases g20 : x0 % 64 = 20
    · exact v_tsw_i (t := 1035) 20 rfl g20 (by decide) rfl (by decide) (o_20 (d := 10) (by omega) (by omega) hI hR KK)
    by_cases g21 : x0 % 64 = 21
    · exact v_tsw_i (t := 1063) 21 rfl g21 (by decide) rfl (by decide) (o_21 (d := 10) (by omega) (by omega) hI hR KK)
    by_cases g22 : x0 % 64 = 22
    · exact v_tsw_i (t := 1091) 22 rfl g22 (by decide) rfl (by decide) (o_22 (d := 10) (by omega) (by omega) hI hR KK)
    by_cases g23 : x0 % 64 = 23
    · exact v_tsw_i (t := 1155) 23 rfl g23 (by decide) rfl (by decide) (o_23 (d := 10) (by omega) (by omega) hI hR KK)
    by_cases g24 : x0 % 64 = 24
    · exact v_tsw_i (t := 1207) 24 rfl g24 (by decide) rfl (by decide) (o_24 (d := 10) (by omega) (by omega) hI hR KK)
    by_cases g25 : x0 % 64 = 25
    · exact v_tsw_i (t := 1259) 25 rfl g25 (by decide) rfl (by decide) (o_25 (d := 10) (by omega) (by omega) hI hR KK)
    by_cases g26 : x0 % 64 = 26
    · exact v_tsw_i (t := 1287) 26 rfl g26 (by decide) rfl (by decide) (o_26 (d := 10) (by omega) (by omega) hI hR KK)
    by_cases g27 : x0 % 64 = 27
    · exact v_tsw_i (t := 1300) 27 rfl g27 (by decide) rfl (by decide) (o_27 (d := 10) (by omega) (by omega) hI hR KK)
    by_cases g28 : x0 % 64 = 28
    · exact v_tsw_i (t := 1340) 28 rfl g28 (by decide) rfl (by decide) (o_28 (d := 10) (by omega) (by omega) hI hR KK)
    by_cases g29 : x0 % 64 = 29
    · exact v_tsw_i (t := 1353) 29 rfl g29 (by decide) rfl (by decide) (o_29 (d := 10) (by omega) (by omega) hI hR KK)
    by_cases g30 : x0 % 64 = 30
    · exact v_tsw_i (t := 1381) 30 rfl g30 (by decide) rfl (by decide) (o_30 (d := 10) (by omega) (by omega) hI hR KK)
    by_cases g31 : x0 % 64 = 31
    · exact v_tsw_i (t := 1409) 31 rfl g31 (by decide) rfl (by decide) (o_31 (d := 10) (by omega) (by omega) hI hR KK)
    by_cases g32 : x0 % 64 = 32
    · exact v_tsw_i (t := 1437) 32 rfl g32 (by decide) rfl (by decide) (o_32 (d := 10) (by omega) (by omega) hI hR KK)
    by_cases g33 : x0 % 64 = 33
    · exact v_tsw_i (t := 1465) 33 rfl g33 (by decide) rfl (by decide) (o_33 (d := 10) (by omega) (by omega) hI hR KK)
    by_cases g34 : x0 % 64 = 34
    · exact v_tsw_i (t := 1505) 34 rfl g34 (by decide) rfl (by decide) (o_34 (d := 10) (by omega) (by omega) hI hR KK)
    by_cases g35 : x0 % 64 = 35
    · exact v_tsw_i (t := 1518) 35 rfl g35 (by decide) rfl (by decide) (o_35 (d := 10) (by omega) (by omega) hI hR KK)
    by_cases g36 : x0 % 64 = 36
    · exact v_tsw_i (t := 1546) 36 rfl g36 (by decide) rfl (by decide) (o_36 (d := 10) (by omega) (by omega) hI hR KK)
    by_cases g37 : x0 % 64 = 37
    · exact v_tsw_i (t := 1614) 37 rfl g37 (by decide) rfl (by decide) (o_37 (d := 10) (by omega) (by omega) hI hR KK)
    by_cases g38 : x0 % 64 = 38
    · exact v_tsw_i (t := 1678) 38 rfl g38 (by decide) rfl (by decide) (o_38 (d := 10) (by omega) (by omega) hI hR KK)
    by_cases g39 : x0 % 64 = 39
    · exact v_tsw_i (t := 1768) 39 rfl g39 (by decide) rfl (by decide) (o_39 (d := 10) (by omega) (by omega) hI hR KK)
    by_cases g40 : x0 % 64 = 40
    · exact v_tsw_i (t := 1781) 40 rfl g40 (by decide) rfl (by decide) (o_40 (d := 10) (by omega) (by omega) hI hR KK)
    by_cases g41 : x0 % 64 = 41
    · exact v_tsw_i (t := 1794) 41 rfl g41 (by decide) rfl (by decide) (o_41 (d := 10) (by omega) (by omega) hI hR KK)
    by_cases g42 : x0 % 64 = 42
    · exact v_tsw_i (t := 1819) 42 rfl g42 (by decide) rfl (by decide) (o_42 (d := 10) (by omega) (by omega) hI hR KK)
    refine v_tsw_o (t := 1844) rfl (by omega) (by decide) ?_
    exact KK P Q c 0 (by decide) hI hR
theorem law_all {L : Nat} {xs : Nat → Int32} (hL : L ≤ 4096) : Wp (a_scr L xs) 100 296 0 [(0, .ref a_SC)] [] [] 0 0 Qlaw := by
  refine q_w1 ?_
  rw [w1_wd]
  refine hv_ (law_run (xs := xs) hL (L + 1) 0 13 25 c0 68 8870 (by omega) iv_0 rl_0 (by omega) (by omega) (by omega)) (fun r => ?_)
  exact Wp_ls _ (lsub_cons rfl (lsub_cons rfl (lsub_cons rfl (lsub_cons rfl (lsub_cons rfl lsub_nil))))) r
theorem whole_start {p : Program} {e : Env} {s : State} {m : MethodId} {below : List Frame} {meth : Method} {c : Code} (l : Launch) (hflags : l.flags = flags0) {b L : Nat} {xs : Nat → Int32} (hL : L ≤ 4096) (C0 : lw_At p s m meth c b L xs) : W p l e room_1 s m #[Value.ref b] below meth c s.heap [] 0 0 (lw_Z below #[Value.ref b] s) (entryFrame m ([Value.ref b] : List Value).toArray 8) := by
  obtain ⟨n, ⟨o, w, nc, ns⟩, hev, ho, hnc, hns⟩ := law_all (xs := xs) hL
  dsimp only at ho hnc hns
  subst ho
  exact a_start l hflags C0 hev (by omega) (by omega)
set_option maxHeartbeats 4000000 in
theorem lw_walk (l : Launch) (hflags : l.flags = flags0) (b : Addr) (xs : List Int32) : MetFree l x (headSpec (Jvm.Cond.code x code maxLocals ret :: tables_1) room_1) (lw_P b xs) (fun _ _ _ _ _ => True) lw_Q := by
  refine MetFree.of_bodyS (code := code) (maxLocals := maxLocals) (ret := ret) (by decide) ?_ ?_
  · intro args s m h hn
    obtain ⟨meth, c, h1, h2, h3, h4, h5, h6, -, -⟩ := Cond.code_spec hn (atoms_spec (ws := Jvm.Cond.code x code maxLocals ret :: tables_1) h _ List.mem_cons_self)
    exact ⟨meth, c, h1, h2, h3, h4, h5, h6⟩
  · intro p e s m args below meth c s₁ B hml0 hP _
    obtain ⟨rfl, hx, hbd, hgv⟩ := hP
    obtain ⟨scr, harrAt, hlist, hof, hsmall⟩ := hx
    obtain ⟨hcb, hkn, -, -⟩ := State.arrayAt?_spec harrAt
    refine hv_ (p := s.vm.findClass R_law = some m.cls) (findClass_of_methodNamed B.named) (fun hown => ?_)
    refine hv_ (p := ∀ c ∈ (Jvm.Cond.code x code maxLocals ret :: tables_1), c.before #[Value.ref b] s = true) (atoms_spec (ws := Jvm.Cond.code x code maxLocals ret :: tables_1) B.pre) (fun hts0 => ?_)
    refine hv_ (p := ∀ w ∈ lw_tbl, w.before #[Value.ref b] s = true) (k2_hts_sels lw_privs (fun w hw => hts0 w (List.mem_cons_of_mem _ hw)) lw_privs_ok) (fun hts => ?_)
    refine hv_ (p := c.maxLocals = 8) (B.maxLocals_eq (hts0 _ List.mem_cons_self)) (fun hml => ?_)
    refine hv_ (p := Stand p l e room_1 s m #[Value.ref b] below meth c s₁ [] 0 0) (Stand.of_body B) (fun X₀ => ?_)
    refine hv_ (p := s₁.heap = s.heap) (by rw [B.state]; rfl) (fun hh0 => ?_)
    refine hv_ (p := scr.slots.size = xs.length) (by rw [← Array.length_toList, hlist, List.length_map]) (fun hsz => ?_)
    have hval : ∀ j : Nat, j < xs.length → scr.slots[j]? = some (.int (xs.getD j 0)) := fun j hj => by
      rw [← Array.getElem?_toList, hlist]
      simp [hj]
    refine hv_ (p := b < s.heap.size) ((Array.getElem?_eq_some_iff.mp hcb).1) (fun hbl => ?_)
    refine hv_ (p := va_X b xs.length (fun j => xs.getD j 0) s s.heap) (⟨scr, hcb, hof, hkn, hsz, hval⟩) (fun hX => ?_)
    have ht : ∀ x ∈ c.exceptionTable.toList, False := by
      obtain ⟨meth9, c9, h1, h2, -, -, -, -, h7, -⟩ := Cond.code_spec B.named (hts0 _ List.mem_cons_self)
      cases Option.some.inj (h1.symm.trans B.method)
      cases Option.some.inj (h2.symm.trans (Stand.of_body B).code)
      intro x hx
      rw [Array.isEmpty_iff.mp h7] at hx
      cases hx
    have K : W p l e room_1 s m #[Value.ref b] below meth c s₁.heap [] 0 0 (lw_Z below #[Value.ref b] s) (entryFrame m ([Value.ref b] : List Value).toArray 8) := by
      rw [hh0]
      exact whole_start l hflags hbd ⟨B.exec, B.bytes, B.returns, hml, hown, hts, hX, hbl, B.notSynchronized, hgv, ht⟩
    obtain ⟨t, a1, o, b1, b2, b3⟩ := K s₁ rfl X₀
    exact ⟨t, o, a1, b1, b2, b3⟩
theorem lw_pre_spec {args : Array Value} {s : State} (h : (Jvm.Cond.and given_1 narrow_1).before args s = true) (hr : rest_1_c.before args s = true) : ∃ (b : Addr) (xs : List Int32), lw_P b xs args s := by
  refine hv_ (flat_of_before _ h) (fun hs => ?_)
  refine hv_ (flat_of_before _ hr) (fun hq => ?_)
  refine hv_ (p := (Cond.count 1).before args s = true) (hs _ (by decide +kernel)) (fun hc => ?_)
  refine hv_ (p := (Cond.arrayOf (.arg 0) .int).before args s = true) (hs _ (by decide +kernel)) (fun harr => ?_)
  refine hv_ (p := (Cond.le (.length (.arg 0)) (.int 4096)).before args s = true) (hs _ (by decide +kernel)) (fun hle => ?_)
  refine hv_ (p := (Cond.isInt (.length (.arg 0))).before args s = true) (hq _ (by decide +kernel)) (fun hlen => ?_)
  refine hv_ (p := (Cond.all (.arg 0) (.isInt (.elem (.arg 0) (.index 0)))).before args s = true) (hq _ (by decide +kernel)) (fun hall => ?_)
  obtain ⟨b, xs, hb, hx⟩ := State.ints_of_pre rfl harr hlen hall
  refine hv_ (p := xs.length < 2 ^ 31) (hx.choose_spec.2.2.2) (fun hsm => ?_)
  refine hv_ (p := (Term.length (.arg 0)).eval args s none [] s = some (.int xs.length.toInt32)) (hx.length_eval hb) (fun hev => ?_)
  refine hv_ (Cond.le_ints hev (show (Term.int 4096).eval args s none [] s = some (.int 4096) from rfl)) (fun hv => ?_)
  have hd : xs.length.toInt32 ≤ 4096 := by
    simpa [Cond.before, Cond.holds, hv] using hle
  refine hv_ (p := xs.length ≤ 4096) ((Int32.ofNat_le_ofNat hsm (by decide)).mp (show Int32.ofNat xs.length ≤ Int32.ofNat 4096 from hd)) (fun hN => ?_)
  exact ⟨b, xs, Cond.one_arg hc (show args[0]? = some (.ref b) from hb), hx, hN, h⟩
theorem lw_comes (l : Launch) (hflags : l.flags = flags0) : Comes l x (Jvm.Cond.code x code maxLocals ret :: tables_1) room_1 (fun tb e args s => Calls_1 tb e args s ∧ rest_1 tb e args s ∧ Pre_1 tb e args s)
    (fun _ _ args s o t => lw_Q args s o t) := by
  intro p e ha hc hk s m args below hf hfit hheap happ hpre
  obtain ⟨b, xs, hP⟩ := lw_pre_spec hpre.2.2 hpre.2.1
  obtain ⟨k, o, h1, h2, h3, hQ⟩ := lw_walk l hflags b xs p e ha hc hk s m args below hf ((Spec.applies_iff_loose hf).mp happ).1 hP trivial
  exact ⟨k, o, h1, h2, h3, hQ⟩
theorem lw_frame {s t : State} {o : Outcome} {args : Array Value} (h : Framed s o t [] 601024 7293033) :
    Framed s o t (fieldLocs frame_1_writes args s ++ arrayLocs frame_1_arrays args s ++ staticLocs frame_1_statics s) 601024 7293033 := h
theorem lw_limb (L : Cond) (hL : ∀ (args : Array Value) (s t : State), L.after args s (.returned (some (.int 1))) t = true) :
    ArmFor flags0 classFile x code maxLocals ret World_1 tables_1 room_1 Calls_1 rest_1 Pre_1
      (fun tb e a s o t => postC L tb e a s o t ∧ Framed s o t (fieldLocs frame_1_writes a s ++ arrayLocs frame_1_arrays a s ++ staticLocs frame_1_statics s) 601024 7293033) := by
  intro l hflags _ _ p e ha hc hk s m args below hf hfit hheap happ hpre
  obtain ⟨k, o, h1, h2, h3, rfl, hF⟩ := lw_comes l hflags p e ha hc hk s m args below hf hfit hheap happ hpre
  exact ⟨k, _, h1, h2, h3, hL args s _, lw_frame hF⟩
theorem i_vc : Claimed_1_1 ∧ Claimed_1_2 := ⟨lw_limb limb_1_1 (fun args s t => by simp [limb_1_1, Cond.after, Cond.holds, Cond.value]), lw_limb limb_1_2 (fun args s t => Cond.after_iff.mpr (by
  first | (rw [show limb_1_2 = Cond.eq .result (.int 1) from rfl, Cond.eq_ints (x := 1) (y := 1) rfl rfl]; simp; done) | (simp [limb_1_2, Cond.value, Term.eval]; done)))⟩

