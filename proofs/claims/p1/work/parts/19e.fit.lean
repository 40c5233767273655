/-! ===== fit: the runs ===== -/
set_option maxRecDepth 100000 in
set_option maxHeartbeats 4000000 in
theorem m_133_l {sc : List Int32} {d : Nat} {w : AW} {Z : AR → Prop} {b : Int} {e : Nat} (hb : 0 ≤ b ∧ b ≤ 16) (he : e ≤ 13) (K : Z (.inl (some (vl (b ^ e))), w, 0, 0)) : ∀ (n9 : Nat) (i : Nat) (p : Int) (h1 : i ≤ e) (hp : p = b ^ i) (_ : (e : Int) - (i : Int) < (n9 : Int)), Wp sc (d + 0) 133 5 [(0, vi b), (1, vi (e : Int)), (2, vl p), (4, vi (i : Int))] [] w 0 0 Z
  | 0, i, p, h1, hp, hn9 => by exfalso; omega
  | n9 + 1, i, p, h1, hp, hn9 => by
    refine q_iload rfl rfl ?_
    refine q_iload_n rfl rfl ?_
    by_cases h_1 : (i : Int) ≥ (e : Int)
    · refine v_ic_ge_t (t := 22) rfl (by decide) (by omega) ?_
      refine q_lload_n rfl rfl ?_
      refine q_lret rfl rfl ?_
      obtain rfl : i = e := by omega
      exact zl hp K
    · refine v_ic_ge_f (t := 22) rfl (by decide) (by omega) ?_
      refine q_lload_n rfl rfl ?_
      refine q_iload_n rfl rfl ?_
      refine v_i2l rfl (by omega) ?_
      refine v_lmul (v := (p * b)) rfl rfl ?_
      refine q_lstore_n rfl (by decide) ?_
      refine v_iinc (v := (i : Int) + 1) rfl rfl (by decide) (by omega) ?_
      refine q_goto (t := 5) rfl (by decide) ?_
      refine Wp_ls [(0, vi b), (1, vi (e : Int)), (2, vl (p * b)), (4, vi ((i : Int) + 1))] (lsub_cons rfl (lsub_cons rfl (lsub_cons rfl (lsub_cons rfl lsub_nil)))) ?_
      exact m_133_l (b := b) (e := e) hb he K n9 (i + 1) (p * b) (by omega) (by rw [hp]; exact (Int.pow_succ b i).symm) (by omega)

set_option maxRecDepth 100000 in
set_option maxHeartbeats 4000000 in
theorem m_133 {sc : List Int32} {d : Nat} {w : AW} {Z : AR → Prop} {b : Int} {x : Int} (e : Nat) (hb : 0 ≤ b ∧ b ≤ 16) (hx : x = (e : Int)) (he : e ≤ 13) (K : Z (.inl (some (vl (b ^ e))), w, 0, 0)) : Wp sc (d + 0) 133 0 [(0, vi b), (1, vi x)] [] w 0 0 Z := by
  subst hx
  refine v_lconst (z := 1) rfl (by decide) ?_
  refine q_lstore_n rfl (by decide) ?_
  refine q_iconst rfl ?_
  refine q_istore rfl (by decide) ?_
  refine Wp_ls [(0, vi b), (1, vi (e : Int)), (2, vl 1), (4, vi 0)] (lsub_cons rfl (lsub_cons rfl (lsub_cons rfl (lsub_cons rfl lsub_nil)))) ?_
  exact m_133_l (b := b) (e := e) hb he K 14 0 1 (by omega) (Int.pow_zero b).symm (by omega)

theorem fw_s {n k i : Nat} (hk : k ≤ n) : (fw n k i : Int) * ((i : Int) + (n : Int) - (k : Int) + 1) / ((i : Int) + 1) = (fw n k (i + 1) : Int) := by
  show _ = ((fw n k i * (n - k + (i + 1)) / (i + 1) : Nat) : Int)
  rw [Int.natCast_ediv, Int.natCast_mul]
  have e : ((n - k + (i + 1) : Nat) : Int) = (i : Int) + (n : Int) - (k : Int) + 1 := by omega
  rw [e]
  rfl
set_option maxRecDepth 100000 in
set_option maxHeartbeats 4000000 in
theorem m_132_l {sc : List Int32} {d : Nat} {w : AW} {Z : AR → Prop} {n : Nat} {k : Nat} (hk : k ≤ n) (hn : n ≤ 12) (K : Z (.inl (some (vl (fw n k k : Int))), w, 0, 0)) : ∀ (n9 : Nat) (i : Nat) (p : Int) (h1 : i ≤ k) (hp : p = (fw n k i : Int)) (hr : 0 ≤ p ∧ p ≤ 100000) (_ : (k : Int) - (i : Int) < (n9 : Int)), Wp sc (d + 0) 132 5 [(0, vi (n : Int)), (1, vi (k : Int)), (2, vl p), (4, vi ((i : Int) + 1))] [] w 0 0 Z
  | 0, i, p, h1, hp, hr, hn9 => by exfalso; omega
  | n9 + 1, i, p, h1, hp, hr, hn9 => by
    refine q_iload rfl rfl ?_
    refine q_iload_n rfl rfl ?_
    by_cases h_2 : (i : Int) + 1 > (k : Int)
    · refine v_ic_gt_t (t := 31) rfl (by decide) (by omega) ?_
      refine q_lload_n rfl rfl ?_
      refine q_lret rfl rfl ?_
      obtain rfl : i = k := by omega
      exact zl hp K
    · refine v_ic_gt_f (t := 31) rfl (by decide) (by omega) ?_
      refine q_lload_n rfl rfl ?_
      refine q_iload_n rfl rfl ?_
      refine q_iload_n rfl rfl ?_
      refine v_isub (v := (n : Int) - (k : Int)) rfl (by omega) ?_
      refine q_iload rfl rfl ?_
      refine v_iadd (v := (i : Int) + (n : Int) - (k : Int) + 1) rfl (by omega) ?_
      refine v_i2l rfl (by omega) ?_
      have hm : 0 ≤ p * ((i : Int) + (n : Int) - (k : Int) + 1) ∧ p * ((i : Int) + (n : Int) - (k : Int) + 1) ≤ 10000000 := ⟨Int.mul_nonneg hr.1 (by omega), Int.le_trans (Int.mul_le_mul hr.2 (show _ ≤ (100 : Int) by omega) (by omega) (by omega)) (by decide)⟩
      refine v_lmul (v := (p * ((i : Int) + (n : Int) - (k : Int) + 1))) rfl rfl ?_
      refine q_iload rfl rfl ?_
      refine v_i2l rfl (by omega) ?_
      refine v_ldiv (v := ((p * ((i : Int) + (n : Int) - (k : Int) + 1)) / ((i : Int) + 1))) rfl (by omega) rfl ?_
      refine q_lstore_n rfl (by decide) ?_
      refine v_iinc (v := (i : Int) + 2) rfl rfl (by decide) (by omega) ?_
      refine q_goto (t := 5) rfl (by decide) ?_
      refine Wp_ls [(0, vi (n : Int)), (1, vi (k : Int)), (2, vl ((p * ((i : Int) + (n : Int) - (k : Int) + 1)) / ((i : Int) + 1))), (4, vi ((i : Int) + 2))] (lsub_cons rfl (lsub_cons rfl (lsub_cons rfl (lsub_cons rfl lsub_nil)))) ?_
      exact m_132_l (n := n) (k := k) hk hn K n9 (i + 1) ((p * ((i : Int) + (n : Int) - (k : Int) + 1)) / ((i : Int) + 1)) (by omega) (by rw [hp]; exact fw_s hk) (by rw [hp, fw_s hk]; have := fw_rng (i := i + 1) hn hk (by omega); omega) (by omega)

set_option maxRecDepth 100000 in
set_option maxHeartbeats 4000000 in
theorem m_132 {sc : List Int32} {d : Nat} {w : AW} {Z : AR → Prop} {x : Int} {y : Int} (n : Nat) (k : Nat) (hx : x = (n : Int)) (hy : y = (k : Int)) (hk : k ≤ n) (hn : n ≤ 12) (K : Z (.inl (some (vl (fw n k k : Int))), w, 0, 0)) : Wp sc (d + 0) 132 0 [(0, vi x), (1, vi y)] [] w 0 0 Z := by
  subst hx
  subst hy
  refine v_lconst (z := 1) rfl (by decide) ?_
  refine q_lstore_n rfl (by decide) ?_
  refine q_iconst rfl ?_
  refine q_istore rfl (by decide) ?_
  refine Wp_ls [(0, vi (n : Int)), (1, vi (k : Int)), (2, vl 1), (4, vi 1)] (lsub_cons rfl (lsub_cons rfl (lsub_cons rfl (lsub_cons rfl lsub_nil)))) ?_
  exact m_132_l (n := n) (k := k) hk hn K 14 0 1 (by omega) rfl (by omega) (by omega)

set_option maxRecDepth 100000 in
set_option maxHeartbeats 4000000 in
theorem m_134_h {sc : List Int32} {d : Nat} {w : AW} {Z : AR → Prop} {half : Nat} {R : Int × Int} (hh : half ≤ 1) (K : Z (.inl (some (vl (if half = 0 then R.1 else R.2))), w, 0, 0)) : ∀ (n9 : Nat) (i : Nat) (A : Int) (B : Int) (h1 : i ≤ 48) (hA : 0 ≤ A ∧ A ≤ 1125899906842624) (hB : 0 ≤ B ∧ B ≤ 1125899906842624) (hf : fh (48 - i) A B = R) (_ : (48 : Int) - (i : Int) < (n9 : Int)), Wp sc (d + 0) 134 118 [(4, vi (half : Int)), (5, vl A), (7, vl B), (9, vi (i : Int))] [] w 0 0 Z
  | 0, i, A, B, h1, hA, hB, hf, hn9 => by exfalso; omega
  | n9 + 1, i, A, B, h1, hA, hB, hf, hn9 => by
    refine q_iload rfl rfl ?_
    refine v_bip rfl (by decide) ?_
    by_cases h_3 : (i : Int) ≥ 48
    · refine v_ic_ge_t (t := 169) rfl (by decide) (by omega) ?_
      have hR : R = (A, B) := hf.symm.trans (fh_out (by omega))
      refine q_iload rfl rfl ?_
      by_cases h_4 : (half : Int) ≠ 0
      · refine v_if_ne_t (t := 179) rfl (by decide) (by omega) ?_
        refine q_lload rfl rfl ?_
        refine q_lret rfl rfl ?_
        exact zl (by rw [hR, if_neg (by omega)]) K
      · refine v_if_ne_f (t := 179) rfl (by decide) (by omega) ?_
        refine q_lload rfl rfl ?_
        refine q_goto (t := 181) rfl (by decide) ?_
        refine q_lret rfl rfl ?_
        exact zl (by rw [hR, if_pos (by omega)]) K
    · refine v_ic_ge_f (t := 169) rfl (by decide) (by omega) ?_
      refine q_lload rfl rfl ?_
      refine v_ldc2 (n := 2) rfl rfl (by decide +kernel) ?_
      refine v_lrem (v := (A % 2)) rfl (by omega) rfl ?_
      refine v_lconst (z := 0) rfl (by decide) ?_
      by_cases h_5 : (A % 2) = 0
      · refine v_lcmp0 rfl (by omega) ?_
        refine v_if_ne_f (t := 169) rfl (by decide) (by omega) ?_
        refine q_lload rfl rfl ?_
        refine v_ldc2 (n := 2) rfl rfl (by decide +kernel) ?_
        refine v_lrem (v := (B % 2)) rfl (by omega) rfl ?_
        refine v_lconst (z := 0) rfl (by decide) ?_
        by_cases h_6 : (B % 2) = 0
        · refine v_lcmp0 rfl (by omega) ?_
          refine v_if_ne_f (t := 169) rfl (by decide) (by omega) ?_
          refine q_lload rfl rfl ?_
          refine v_ldc2 (n := 2) rfl rfl (by decide +kernel) ?_
          refine v_ldiv (v := (A / 2)) rfl (by omega) rfl ?_
          refine q_lstore rfl (by decide) ?_
          refine q_lload rfl rfl ?_
          refine v_ldc2 (n := 2) rfl rfl (by decide +kernel) ?_
          refine v_ldiv (v := (B / 2)) rfl (by omega) rfl ?_
          refine q_lstore rfl (by decide) ?_
          refine v_iinc (v := (i : Int) + 1) rfl rfl (by decide) (by omega) ?_
          refine q_goto (t := 118) rfl (by decide) ?_
          refine Wp_ls [(4, vi (half : Int)), (5, vl (A / 2)), (7, vl (B / 2)), (9, vi ((i : Int) + 1))] (lsub_cons rfl (lsub_cons rfl (lsub_cons rfl (lsub_cons rfl lsub_nil)))) ?_
          exact m_134_h (half := half) (R := R) hh K n9 (i + 1) (A / 2) (B / 2) (by omega) (by omega) (by omega) ((fh_on (by omega) (by omega)).symm.trans hf) (by omega)
        · refine v_lcmp1 rfl (by omega) ?_
          refine v_if_ne_t (t := 169) rfl (by decide) (by omega) ?_
          have hR : R = (A, B) := hf.symm.trans (fh_out (by omega))
          refine q_iload rfl rfl ?_
          by_cases h_7 : (half : Int) ≠ 0
          · refine v_if_ne_t (t := 179) rfl (by decide) (by omega) ?_
            refine q_lload rfl rfl ?_
            refine q_lret rfl rfl ?_
            exact zl (by rw [hR, if_neg (by omega)]) K
          · refine v_if_ne_f (t := 179) rfl (by decide) (by omega) ?_
            refine q_lload rfl rfl ?_
            refine q_goto (t := 181) rfl (by decide) ?_
            refine q_lret rfl rfl ?_
            exact zl (by rw [hR, if_pos (by omega)]) K
      · refine v_lcmp1 rfl (by omega) ?_
        refine v_if_ne_t (t := 169) rfl (by decide) (by omega) ?_
        have hR : R = (A, B) := hf.symm.trans (fh_out (by omega))
        refine q_iload rfl rfl ?_
        by_cases h_8 : (half : Int) ≠ 0
        · refine v_if_ne_t (t := 179) rfl (by decide) (by omega) ?_
          refine q_lload rfl rfl ?_
          refine q_lret rfl rfl ?_
          exact zl (by rw [hR, if_neg (by omega)]) K
        · refine v_if_ne_f (t := 179) rfl (by decide) (by omega) ?_
          refine q_lload rfl rfl ?_
          refine q_goto (t := 181) rfl (by decide) ?_
          refine q_lret rfl rfl ?_
          exact zl (by rw [hR, if_pos (by omega)]) K

set_option maxRecDepth 100000 in
set_option maxHeartbeats 4000000 in
theorem m_134_s {sc : List Int32} {d : Nat} {w : AW} {Z : AR → Prop} {n : Nat} {k : Nat} {q : Nat} {half : Nat} (hn : n ≤ 12) (hk : k ≤ 13) (hq : q ≤ 16) (hh : half ≤ 1) (K : Z (.inl (some (vl (fcls n k q half))), w, 0, 0)) : ∀ (n9 : Nat) (h : Nat) (acc : Int) (h1 : h ≤ n + 1 ∨ h = k) (h2 : h ≤ 13) (hs : acc + fa n q (n + 1 - h) h = fa n q (n + 1 - k) k) (_ : (14 : Int) - (h : Int) < (n9 : Int)), Wp sc (d + 1) 134 55 [(0, .ref 0), (1, vi (n : Int)), (2, vi (k : Int)), (3, vi (q : Int)), (4, vi (half : Int)), (5, vl acc), (7, vi (h : Int))] [] w 0 0 Z
  | 0, h, acc, h1, h2, hs, hn9 => by exfalso; omega
  | n9 + 1, h, acc, h1, h2, hs, hn9 => by
    refine q_iload rfl rfl ?_
    refine q_iload_n rfl rfl ?_
    by_cases h_9 : (h : Int) > (n : Int)
    · refine v_ic_gt_t (t := 97) rfl (by decide) (by omega) ?_
      have ha : acc = fa n q (n + 1 - k) k := by rw [show n + 1 - h = 0 by omega] at hs; rw [← hs]; exact (Int.add_zero acc).symm
      have hr := fa_rng hn hk hq
      rw [← ha] at hr
      have hp := fp_rng hn
      refine v_bip rfl (by decide) ?_
      refine q_iload_n rfl rfl ?_
      refine q_call rfl rfl rfl rfl (m_133 (b := 16) n (by omega) (by omega) (by omega) ?_)
      refine bk_inl ?_
      refine q_lstore rfl (by decide) ?_
      refine q_lload rfl rfl ?_
      refine v_lconst (z := 0) rfl (by decide) ?_
      by_cases h_10 : acc = 0
      · refine v_lcmp0 rfl (by omega) ?_
        refine v_if_ne_f (t := 115) rfl (by decide) (by omega) ?_
        refine v_lconst (z := 1) rfl (by decide) ?_
        refine q_lstore rfl (by decide) ?_
        refine q_iconst rfl ?_
        refine q_istore rfl (by decide) ?_
        refine Wp_ls [(4, vi (half : Int)), (5, vl acc), (7, vl 1), (9, vi 0)] (lsub_cons rfl (lsub_cons rfl (lsub_cons rfl (lsub_cons rfl lsub_nil)))) ?_
        exact m_134_h (half := half) (R := fh 48 acc 1) hh (show Z (.inl (some (vl (if half = 0 then (fh 48 acc 1).1 else (fh 48 acc 1).2))), w, 0, 0) from (by have K2 := K; unfold fcls at K2; rw [← ha] at K2; dsimp only at K2; rw [if_pos (show acc = 0 by omega)] at K2; exact K2)) 49 0 acc 1 (by omega) (by omega) (by omega) rfl (by omega)
      · refine v_lcmp1 rfl (by omega) ?_
        refine v_if_ne_t (t := 115) rfl (by decide) (by omega) ?_
        refine q_iconst rfl ?_
        refine q_istore rfl (by decide) ?_
        refine Wp_ls [(4, vi (half : Int)), (5, vl acc), (7, vl ((16 : Int) ^ n)), (9, vi 0)] (lsub_cons rfl (lsub_cons rfl (lsub_cons rfl (lsub_cons rfl lsub_nil)))) ?_
        exact m_134_h (half := half) (R := fh 48 acc ((16 : Int) ^ n)) hh (show Z (.inl (some (vl (if half = 0 then (fh 48 acc ((16 : Int) ^ n)).1 else (fh 48 acc ((16 : Int) ^ n)).2))), w, 0, 0) from (by have K2 := K; unfold fcls at K2; rw [← ha] at K2; dsimp only at K2; rw [if_neg (show ¬ acc = 0 by omega)] at K2; exact K2)) 49 0 acc ((16 : Int) ^ n) (by omega) (by omega) (by omega) rfl (by omega)
    · refine v_ic_gt_f (t := 97) rfl (by decide) (by omega) ?_
      refine q_lload rfl rfl ?_
      refine q_iload_n rfl rfl ?_
      refine q_iload rfl rfl ?_
      refine q_call rfl rfl rfl rfl (m_132 n h (by omega) (by omega) (by omega) (by omega) ?_)
      refine bk_inl ?_
      refine q_iload_n rfl rfl ?_
      refine q_iload rfl rfl ?_
      refine q_call rfl rfl rfl rfl (m_133 (b := (q : Int)) h (by omega) (by omega) (by omega) ?_)
      refine bk_inl ?_
      refine v_lmul (v := ((fw n h h : Int) * (((q : Int)) ^ h))) rfl rfl ?_
      refine v_bip rfl (by decide) ?_
      refine q_iload_n rfl rfl ?_
      refine v_isub (v := 16 - (q : Int)) rfl (by omega) ?_
      refine q_iload_n rfl rfl ?_
      refine q_iload rfl rfl ?_
      refine v_isub (v := (n : Int) - (h : Int)) rfl (by omega) ?_
      refine q_call rfl rfl rfl rfl (m_133 (b := (16 - (q : Int))) (n - h) (by omega) (by omega) (by omega) ?_)
      refine bk_inl ?_
      refine v_lmul (v := (((fw n h h : Int) * (((q : Int)) ^ h)) * ((16 - (q : Int)) ^ (n - h)))) rfl rfl ?_
      refine v_ladd (v := (((fw n h h : Int) * (((q : Int)) ^ h)) * ((16 - (q : Int)) ^ (n - h))) + acc) rfl (by omega) ?_
      refine q_lstore rfl (by decide) ?_
      refine v_iinc (v := (h : Int) + 1) rfl rfl (by decide) (by omega) ?_
      refine q_goto (t := 55) rfl (by decide) ?_
      refine Wp_ls [(0, .ref 0), (1, vi (n : Int)), (2, vi (k : Int)), (3, vi (q : Int)), (4, vi (half : Int)), (5, vl ((((fw n h h : Int) * (((q : Int)) ^ h)) * ((16 - (q : Int)) ^ (n - h))) + acc)), (7, vi ((h : Int) + 1))] (lsub_cons rfl (lsub_cons rfl (lsub_cons rfl (lsub_cons rfl (lsub_cons rfl (lsub_cons rfl (lsub_cons rfl lsub_nil))))))) ?_
      exact m_134_s (n := n) (k := k) (q := q) (half := half) hn hk hq hh K n9 (h + 1) ((((fw n h h : Int) * (((q : Int)) ^ h)) * ((16 - (q : Int)) ^ (n - h))) + acc) (by omega) (by omega) (by rw [← hs, fa_on (show n + 1 - h = (n + 1 - (h + 1)) + 1 by omega), Int.add_comm _ acc]; exact Int.add_assoc _ _ _) (by omega)

set_option maxRecDepth 100000 in
set_option maxHeartbeats 4000000 in
theorem m_134 {sc : List Int32} {d : Nat} {P Q N T : Nat} {c : ME} {Z : AR → Prop} {x1 : Int} {x2 : Int} {x3 : Int} {x4 : Int} (n : Nat) (k : Nat) (q : Nat) (half : Nat) (hx1 : x1 = (n : Int)) (hx2 : x2 = (k : Int)) (hx3 : x3 = (q : Int)) (hx4 : x4 = (half : Int)) (hn : n ≤ 12) (hk : k ≤ 13) (hq : q ≤ 16) (hh : half ≤ 1) (K : Z (.inl (some (vl (fcls n k q half))), Wd P Q N T c, 0, 0)) : Wp sc (d + 2) 134 0 [(0, .ref 0), (1, vi x1), (2, vi x2), (3, vi x3), (4, vi x4)] [] (Wd P Q N T c) 0 0 Z := by
  subst hx1 hx2 hx3 hx4
  refine q_aload_n rfl rfl ?_
  refine q_iload_n rfl rfl ?_
  refine q_iconst rfl ?_
  refine v_bip rfl (by decide) ?_
  refine q_call rfl rfl rfl rfl ?_
  refine q_iload_n rfl rfl ?_
  refine q_iload_n rfl rfl ?_
  refine v_ic_lt_f (t := 14) rfl (by decide) (by omega) ?_
  refine q_iload_n rfl rfl ?_
  refine q_iload_n rfl rfl ?_
  refine v_ic_gt_f (t := 14) rfl (by decide) (by omega) ?_
  refine q_iconst rfl ?_
  refine q_goto (t := 15) rfl (by decide) ?_
  refine v_zret rfl rfl (by omega) ?_
  refine bk_inl ?_
  refine v_if_eq_f (t := 45) rfl (by decide) (by omega) ?_
  refine q_iload_n rfl rfl ?_
  refine q_iconst rfl ?_
  refine v_bip rfl (by decide) ?_
  refine q_call rfl rfl rfl rfl ?_
  refine q_iload_n rfl rfl ?_
  refine q_iload_n rfl rfl ?_
  refine v_ic_lt_f (t := 14) rfl (by decide) (by omega) ?_
  refine q_iload_n rfl rfl ?_
  refine q_iload_n rfl rfl ?_
  refine v_ic_gt_f (t := 14) rfl (by decide) (by omega) ?_
  refine q_iconst rfl ?_
  refine q_goto (t := 15) rfl (by decide) ?_
  refine v_zret rfl rfl (by omega) ?_
  refine bk_inl ?_
  refine v_if_eq_f (t := 45) rfl (by decide) (by omega) ?_
  refine q_iload_n rfl rfl ?_
  refine q_iconst rfl ?_
  refine v_bip rfl (by decide) ?_
  refine q_call rfl rfl rfl rfl ?_
  refine q_iload_n rfl rfl ?_
  refine q_iload_n rfl rfl ?_
  refine v_ic_lt_f (t := 14) rfl (by decide) (by omega) ?_
  refine q_iload_n rfl rfl ?_
  refine q_iload_n rfl rfl ?_
  refine v_ic_gt_f (t := 14) rfl (by decide) (by omega) ?_
  refine q_iconst rfl ?_
  refine q_goto (t := 15) rfl (by decide) ?_
  refine v_zret rfl rfl (by omega) ?_
  refine bk_inl ?_
  refine v_if_eq_f (t := 45) rfl (by decide) (by omega) ?_
  refine q_iload rfl rfl ?_
  refine q_iconst rfl ?_
  refine q_iconst rfl ?_
  refine q_call rfl rfl rfl rfl ?_
  refine q_iload_n rfl rfl ?_
  refine q_iload_n rfl rfl ?_
  refine v_ic_lt_f (t := 14) rfl (by decide) (by omega) ?_
  refine q_iload_n rfl rfl ?_
  refine q_iload_n rfl rfl ?_
  refine v_ic_gt_f (t := 14) rfl (by decide) (by omega) ?_
  refine q_iconst rfl ?_
  refine q_goto (t := 15) rfl (by decide) ?_
  refine v_zret rfl rfl (by omega) ?_
  refine bk_inl ?_
  refine v_if_eq_f (t := 45) rfl (by decide) (by omega) ?_
  refine q_iconst rfl ?_
  refine q_goto (t := 46) rfl (by decide) ?_
  refine v_cv rfl rfl rfl rfl (by decide) ⟨⟨rfl, rfl⟩, by decide, rfl⟩ (Nat.le_of_ble_eq_true rfl) (Nat.le_of_ble_eq_true rfl) ?_
  refine q_iload_n rfl rfl ?_
  refine v_if_ne_t (t := 25) rfl (by decide) (by omega) ?_
  refine q_vret rfl rfl ?_
  refine bk_inl ?_
  refine v_lconst (z := 0) rfl (by decide) ?_
  refine q_lstore rfl (by decide) ?_
  refine q_iload_n rfl rfl ?_
  refine q_istore rfl (by decide) ?_
  refine Wp_ls [(0, .ref 0), (1, vi (n : Int)), (2, vi (k : Int)), (3, vi (q : Int)), (4, vi (half : Int)), (5, vl 0), (7, vi (k : Int))] (lsub_cons rfl (lsub_cons rfl (lsub_cons rfl (lsub_cons rfl (lsub_cons rfl (lsub_cons rfl (lsub_cons rfl lsub_nil))))))) ?_
  exact m_134_s (n := n) (k := k) (q := q) (half := half) hn hk hq hh K 15 k 0 (by omega) (by omega) (Int.zero_add _) (by omega)

set_option maxRecDepth 100000 in
set_option maxHeartbeats 4000000 in
theorem m_134_t {sc : List Int32} {d : Nat} {P Q N T : Nat} {c : ME} {Z : AR → Prop} {x1 : Int} {x2 : Int} {x3 : Int} {x4 : Int} (x1r : -2147483648 ≤ x1 ∧ x1 ≤ 2147483647) (x2r : -2147483648 ≤ x2 ∧ x2 ≤ 2147483647) (x3r : -2147483648 ≤ x3 ∧ x3 ≤ 2147483647) (x4r : -2147483648 ≤ x4 ∧ x4 ≤ 2147483647) (hb : x1 < 0 ∨ 12 < x1 ∨ x2 < 0 ∨ 13 < x2 ∨ x3 < 0 ∨ 16 < x3 ∨ x4 < 0 ∨ 1 < x4) (K : Z (.inr 101, Wd P Q N T (up c 0 13 (c 0 13 + 1)), 1, 6)) : Wp sc (d + 8) 134 0 [(0, .ref 0), (1, vi x1), (2, vi x2), (3, vi x3), (4, vi x4)] [] (Wd P Q N T c) 0 0 Z := by
  refine q_aload_n rfl rfl ?_
  refine q_iload_n rfl rfl ?_
  refine q_iconst rfl ?_
  refine v_bip rfl (by decide) ?_
  refine q_call rfl rfl rfl rfl ?_
  refine q_iload_n rfl rfl ?_
  refine q_iload_n rfl rfl ?_
  by_cases h_11 : x1 < 0
  · refine v_ic_lt_t (t := 14) rfl (by decide) (by omega) ?_
    refine q_iconst rfl ?_
    refine v_zret rfl rfl (by omega) ?_
    refine bk_inl ?_
    refine v_if_eq_t (t := 45) rfl (by decide) (by omega) ?_
    refine q_iconst rfl ?_
    refine v_cv rfl rfl rfl rfl (by decide) ⟨⟨rfl, rfl⟩, by decide, rfl⟩ (Nat.le_of_ble_eq_true rfl) (Nat.le_of_ble_eq_true rfl) ?_
    refine q_iload_n rfl rfl ?_
    refine v_if_ne_f (t := 25) rfl (by decide) (by omega) ?_
    refine q_aload_n rfl rfl ?_
    refine q_dup rfl rfl ?_
    refine v_gi (z := 13) (v := c 0 13) rfl rfl rfl (by decide) rfl rfl rfl ?_
    refine q_iconst rfl ?_
    refine v_iadd (v := c 0 13 + 1) rfl (by omega) ?_
    refine v_pi (z := 13) rfl rfl rfl (by decide) rfl rfl rfl (by decide) ?_
    refine v_new rfl rfl (by decide) (by omega) (Nat.le_of_ble_eq_true rfl) (by decide) rfl ?_
    refine bk_out rfl rfl ?_
    exact K
  · refine v_ic_lt_f (t := 14) rfl (by decide) (by omega) ?_
    refine q_iload_n rfl rfl ?_
    refine q_iload_n rfl rfl ?_
    by_cases h_12 : x1 > 12
    · refine v_ic_gt_t (t := 14) rfl (by decide) (by omega) ?_
      refine q_iconst rfl ?_
      refine v_zret rfl rfl (by omega) ?_
      refine bk_inl ?_
      refine v_if_eq_t (t := 45) rfl (by decide) (by omega) ?_
      refine q_iconst rfl ?_
      refine v_cv rfl rfl rfl rfl (by decide) ⟨⟨rfl, rfl⟩, by decide, rfl⟩ (Nat.le_of_ble_eq_true rfl) (Nat.le_of_ble_eq_true rfl) ?_
      refine q_iload_n rfl rfl ?_
      refine v_if_ne_f (t := 25) rfl (by decide) (by omega) ?_
      refine q_aload_n rfl rfl ?_
      refine q_dup rfl rfl ?_
      refine v_gi (z := 13) (v := c 0 13) rfl rfl rfl (by decide) rfl rfl rfl ?_
      refine q_iconst rfl ?_
      refine v_iadd (v := c 0 13 + 1) rfl (by omega) ?_
      refine v_pi (z := 13) rfl rfl rfl (by decide) rfl rfl rfl (by decide) ?_
      refine v_new rfl rfl (by decide) (by omega) (Nat.le_of_ble_eq_true rfl) (by decide) rfl ?_
      refine bk_out rfl rfl ?_
      exact K
    · refine v_ic_gt_f (t := 14) rfl (by decide) (by omega) ?_
      refine q_iconst rfl ?_
      refine q_goto (t := 15) rfl (by decide) ?_
      refine v_zret rfl rfl (by omega) ?_
      refine bk_inl ?_
      refine v_if_eq_f (t := 45) rfl (by decide) (by omega) ?_
      refine q_iload_n rfl rfl ?_
      refine q_iconst rfl ?_
      refine v_bip rfl (by decide) ?_
      refine q_call rfl rfl rfl rfl ?_
      refine q_iload_n rfl rfl ?_
      refine q_iload_n rfl rfl ?_
      by_cases h_13 : x2 < 0
      · refine v_ic_lt_t (t := 14) rfl (by decide) (by omega) ?_
        refine q_iconst rfl ?_
        refine v_zret rfl rfl (by omega) ?_
        refine bk_inl ?_
        refine v_if_eq_t (t := 45) rfl (by decide) (by omega) ?_
        refine q_iconst rfl ?_
        refine v_cv rfl rfl rfl rfl (by decide) ⟨⟨rfl, rfl⟩, by decide, rfl⟩ (Nat.le_of_ble_eq_true rfl) (Nat.le_of_ble_eq_true rfl) ?_
        refine q_iload_n rfl rfl ?_
        refine v_if_ne_f (t := 25) rfl (by decide) (by omega) ?_
        refine q_aload_n rfl rfl ?_
        refine q_dup rfl rfl ?_
        refine v_gi (z := 13) (v := c 0 13) rfl rfl rfl (by decide) rfl rfl rfl ?_
        refine q_iconst rfl ?_
        refine v_iadd (v := c 0 13 + 1) rfl (by omega) ?_
        refine v_pi (z := 13) rfl rfl rfl (by decide) rfl rfl rfl (by decide) ?_
        refine v_new rfl rfl (by decide) (by omega) (Nat.le_of_ble_eq_true rfl) (by decide) rfl ?_
        refine bk_out rfl rfl ?_
        exact K
      · refine v_ic_lt_f (t := 14) rfl (by decide) (by omega) ?_
        refine q_iload_n rfl rfl ?_
        refine q_iload_n rfl rfl ?_
        by_cases h_14 : x2 > 13
        · refine v_ic_gt_t (t := 14) rfl (by decide) (by omega) ?_
          refine q_iconst rfl ?_
          refine v_zret rfl rfl (by omega) ?_
          refine bk_inl ?_
          refine v_if_eq_t (t := 45) rfl (by decide) (by omega) ?_
          refine q_iconst rfl ?_
          refine v_cv rfl rfl rfl rfl (by decide) ⟨⟨rfl, rfl⟩, by decide, rfl⟩ (Nat.le_of_ble_eq_true rfl) (Nat.le_of_ble_eq_true rfl) ?_
          refine q_iload_n rfl rfl ?_
          refine v_if_ne_f (t := 25) rfl (by decide) (by omega) ?_
          refine q_aload_n rfl rfl ?_
          refine q_dup rfl rfl ?_
          refine v_gi (z := 13) (v := c 0 13) rfl rfl rfl (by decide) rfl rfl rfl ?_
          refine q_iconst rfl ?_
          refine v_iadd (v := c 0 13 + 1) rfl (by omega) ?_
          refine v_pi (z := 13) rfl rfl rfl (by decide) rfl rfl rfl (by decide) ?_
          refine v_new rfl rfl (by decide) (by omega) (Nat.le_of_ble_eq_true rfl) (by decide) rfl ?_
          refine bk_out rfl rfl ?_
          exact K
        · refine v_ic_gt_f (t := 14) rfl (by decide) (by omega) ?_
          refine q_iconst rfl ?_
          refine q_goto (t := 15) rfl (by decide) ?_
          refine v_zret rfl rfl (by omega) ?_
          refine bk_inl ?_
          refine v_if_eq_f (t := 45) rfl (by decide) (by omega) ?_
          refine q_iload_n rfl rfl ?_
          refine q_iconst rfl ?_
          refine v_bip rfl (by decide) ?_
          refine q_call rfl rfl rfl rfl ?_
          refine q_iload_n rfl rfl ?_
          refine q_iload_n rfl rfl ?_
          by_cases h_15 : x3 < 0
          · refine v_ic_lt_t (t := 14) rfl (by decide) (by omega) ?_
            refine q_iconst rfl ?_
            refine v_zret rfl rfl (by omega) ?_
            refine bk_inl ?_
            refine v_if_eq_t (t := 45) rfl (by decide) (by omega) ?_
            refine q_iconst rfl ?_
            refine v_cv rfl rfl rfl rfl (by decide) ⟨⟨rfl, rfl⟩, by decide, rfl⟩ (Nat.le_of_ble_eq_true rfl) (Nat.le_of_ble_eq_true rfl) ?_
            refine q_iload_n rfl rfl ?_
            refine v_if_ne_f (t := 25) rfl (by decide) (by omega) ?_
            refine q_aload_n rfl rfl ?_
            refine q_dup rfl rfl ?_
            refine v_gi (z := 13) (v := c 0 13) rfl rfl rfl (by decide) rfl rfl rfl ?_
            refine q_iconst rfl ?_
            refine v_iadd (v := c 0 13 + 1) rfl (by omega) ?_
            refine v_pi (z := 13) rfl rfl rfl (by decide) rfl rfl rfl (by decide) ?_
            refine v_new rfl rfl (by decide) (by omega) (Nat.le_of_ble_eq_true rfl) (by decide) rfl ?_
            refine bk_out rfl rfl ?_
            exact K
          · refine v_ic_lt_f (t := 14) rfl (by decide) (by omega) ?_
            refine q_iload_n rfl rfl ?_
            refine q_iload_n rfl rfl ?_
            by_cases h_16 : x3 > 16
            · refine v_ic_gt_t (t := 14) rfl (by decide) (by omega) ?_
              refine q_iconst rfl ?_
              refine v_zret rfl rfl (by omega) ?_
              refine bk_inl ?_
              refine v_if_eq_t (t := 45) rfl (by decide) (by omega) ?_
              refine q_iconst rfl ?_
              refine v_cv rfl rfl rfl rfl (by decide) ⟨⟨rfl, rfl⟩, by decide, rfl⟩ (Nat.le_of_ble_eq_true rfl) (Nat.le_of_ble_eq_true rfl) ?_
              refine q_iload_n rfl rfl ?_
              refine v_if_ne_f (t := 25) rfl (by decide) (by omega) ?_
              refine q_aload_n rfl rfl ?_
              refine q_dup rfl rfl ?_
              refine v_gi (z := 13) (v := c 0 13) rfl rfl rfl (by decide) rfl rfl rfl ?_
              refine q_iconst rfl ?_
              refine v_iadd (v := c 0 13 + 1) rfl (by omega) ?_
              refine v_pi (z := 13) rfl rfl rfl (by decide) rfl rfl rfl (by decide) ?_
              refine v_new rfl rfl (by decide) (by omega) (Nat.le_of_ble_eq_true rfl) (by decide) rfl ?_
              refine bk_out rfl rfl ?_
              exact K
            · refine v_ic_gt_f (t := 14) rfl (by decide) (by omega) ?_
              refine q_iconst rfl ?_
              refine q_goto (t := 15) rfl (by decide) ?_
              refine v_zret rfl rfl (by omega) ?_
              refine bk_inl ?_
              refine v_if_eq_f (t := 45) rfl (by decide) (by omega) ?_
              refine q_iload rfl rfl ?_
              refine q_iconst rfl ?_
              refine q_iconst rfl ?_
              refine q_call rfl rfl rfl rfl ?_
              refine q_iload_n rfl rfl ?_
              refine q_iload_n rfl rfl ?_
              by_cases h_17 : x4 < 0
              · refine v_ic_lt_t (t := 14) rfl (by decide) (by omega) ?_
                refine q_iconst rfl ?_
                refine v_zret rfl rfl (by omega) ?_
                refine bk_inl ?_
                refine v_if_eq_t (t := 45) rfl (by decide) (by omega) ?_
                refine q_iconst rfl ?_
                refine v_cv rfl rfl rfl rfl (by decide) ⟨⟨rfl, rfl⟩, by decide, rfl⟩ (Nat.le_of_ble_eq_true rfl) (Nat.le_of_ble_eq_true rfl) ?_
                refine q_iload_n rfl rfl ?_
                refine v_if_ne_f (t := 25) rfl (by decide) (by omega) ?_
                refine q_aload_n rfl rfl ?_
                refine q_dup rfl rfl ?_
                refine v_gi (z := 13) (v := c 0 13) rfl rfl rfl (by decide) rfl rfl rfl ?_
                refine q_iconst rfl ?_
                refine v_iadd (v := c 0 13 + 1) rfl (by omega) ?_
                refine v_pi (z := 13) rfl rfl rfl (by decide) rfl rfl rfl (by decide) ?_
                refine v_new rfl rfl (by decide) (by omega) (Nat.le_of_ble_eq_true rfl) (by decide) rfl ?_
                refine bk_out rfl rfl ?_
                exact K
              · refine v_ic_lt_f (t := 14) rfl (by decide) (by omega) ?_
                refine q_iload_n rfl rfl ?_
                refine q_iload_n rfl rfl ?_
                refine v_ic_gt_t (t := 14) rfl (by decide) (by omega) ?_
                refine q_iconst rfl ?_
                refine v_zret rfl rfl (by omega) ?_
                refine bk_inl ?_
                refine v_if_eq_t (t := 45) rfl (by decide) (by omega) ?_
                refine q_iconst rfl ?_
                refine v_cv rfl rfl rfl rfl (by decide) ⟨⟨rfl, rfl⟩, by decide, rfl⟩ (Nat.le_of_ble_eq_true rfl) (Nat.le_of_ble_eq_true rfl) ?_
                refine q_iload_n rfl rfl ?_
                refine v_if_ne_f (t := 25) rfl (by decide) (by omega) ?_
                refine q_aload_n rfl rfl ?_
                refine q_dup rfl rfl ?_
                refine v_gi (z := 13) (v := c 0 13) rfl rfl rfl (by decide) rfl rfl rfl ?_
                refine q_iconst rfl ?_
                refine v_iadd (v := c 0 13 + 1) rfl (by omega) ?_
                refine v_pi (z := 13) rfl rfl rfl (by decide) rfl rfl rfl (by decide) ?_
                refine v_new rfl rfl (by decide) (by omega) (Nat.le_of_ble_eq_true rfl) (by decide) rfl ?_
                refine bk_out rfl rfl ?_
                exact K

set_option maxRecDepth 100000 in
set_option maxHeartbeats 4000000 in
theorem m_234_t {sc : List Int32} {d : Nat} {P Q N T : Nat} {c : ME} {Z : AR → Prop} {x1 : Int} {x2 : Int} {x3 : Int} {x4 : Int} (x1r : -2147483648 ≤ x1 ∧ x1 ≤ 2147483647) (x2r : -2147483648 ≤ x2 ∧ x2 ≤ 2147483647) (x3r : -2147483648 ≤ x3 ∧ x3 ≤ 2147483647) (x4r : -2147483648 ≤ x4 ∧ x4 ≤ 2147483647) (hb : x1 < 0 ∨ 12 < x1 ∨ x2 < 0 ∨ 13 < x2 ∨ x3 < 0 ∨ 16 < x3 ∨ x4 < 0 ∨ 1 < x4) (K : Z (.inl (some (vl 0)), Wd P Q N T (up (up (up c 41 0 0) 41 0 1) 42 1 (c 42 1 + 1)), 0, 0)) : Wp sc (d + 2) 234 0 [(0, .ref 41), (1, vi x1), (2, vi x2), (3, vi x3), (4, vi x4)] [] (Wd P Q N T c) 0 0 Z := by
  refine q_aload_n rfl rfl ?_
  refine q_iconst rfl ?_
  refine v_pi (z := 0) rfl rfl rfl (by decide) rfl rfl rfl (by decide) ?_
  refine q_aload_n rfl rfl ?_
  refine q_iload_n rfl rfl ?_
  refine q_iconst rfl ?_
  refine v_bip rfl (by decide) ?_
  refine q_call rfl rfl rfl rfl ?_
  refine q_iload_n rfl rfl ?_
  refine q_iload_n rfl rfl ?_
  by_cases h_18 : x1 < 0
  · refine v_ic_lt_t (t := 14) rfl (by decide) (by omega) ?_
    refine q_iconst rfl ?_
    refine v_zret rfl rfl (by omega) ?_
    refine bk_inl ?_
    refine v_if_eq_t (t := 50) rfl (by decide) (by omega) ?_
    refine q_iconst rfl ?_
    refine q_iconst rfl ?_
    refine q_iconst rfl ?_
    refine v_cv rfl rfl rfl rfl (by decide) ⟨⟨rfl, rfl⟩, by decide, rfl⟩ (Nat.le_of_ble_eq_true rfl) (Nat.le_of_ble_eq_true rfl) ?_
    refine q_iload_n rfl rfl ?_
    refine v_if_ne_f (t := 26) rfl (by decide) (by omega) ?_
    refine q_aload_n rfl rfl ?_
    refine v_gi (z := 0) (v := 0) rfl rfl rfl (by decide) rfl rfl (up_e rfl) ?_
    refine v_if_ne_f (t := 26) rfl (by decide) (by omega) ?_
    refine q_aload_n rfl rfl ?_
    refine q_iload_n rfl rfl ?_
    refine v_pi (z := 0) rfl rfl rfl (by decide) rfl rfl rfl (by decide) ?_
    refine q_aload_n rfl rfl ?_
    refine v_gr (t := 42) rfl rfl rfl (by decide) rfl ?_
    refine q_iload_n rfl rfl ?_
    refine q_dup2 rfl ⟨rfl, rfl⟩ ?_
    refine v_ia (v := c 42 1) rfl rfl (by decide) (by decide) (by omega) ((up_c (by decide)).trans (up_c (by decide))) ?_
    refine q_iconst rfl ?_
    refine v_iadd (v := c 42 1 + 1) rfl (by omega) ?_
    refine v_is rfl rfl (by decide) (by decide) (by omega) ?_
    refine q_aload_n rfl rfl ?_
    refine v_gi (z := 0) (v := 1) rfl rfl rfl (by decide) rfl rfl ((up_c (by decide)).trans (up_e rfl)) ?_
    refine v_if_ne_t (t := 37) rfl (by decide) (by omega) ?_
    refine q_iconst rfl ?_
    refine v_zret rfl rfl (by omega) ?_
    refine bk_inl ?_
    refine v_if_ne_f (t := 61) rfl (by decide) (by omega) ?_
    refine v_lconst (z := 0) rfl (by decide) ?_
    refine q_lret rfl rfl ?_
    exact K
  · refine v_ic_lt_f (t := 14) rfl (by decide) (by omega) ?_
    refine q_iload_n rfl rfl ?_
    refine q_iload_n rfl rfl ?_
    by_cases h_19 : x1 > 12
    · refine v_ic_gt_t (t := 14) rfl (by decide) (by omega) ?_
      refine q_iconst rfl ?_
      refine v_zret rfl rfl (by omega) ?_
      refine bk_inl ?_
      refine v_if_eq_t (t := 50) rfl (by decide) (by omega) ?_
      refine q_iconst rfl ?_
      refine q_iconst rfl ?_
      refine q_iconst rfl ?_
      refine v_cv rfl rfl rfl rfl (by decide) ⟨⟨rfl, rfl⟩, by decide, rfl⟩ (Nat.le_of_ble_eq_true rfl) (Nat.le_of_ble_eq_true rfl) ?_
      refine q_iload_n rfl rfl ?_
      refine v_if_ne_f (t := 26) rfl (by decide) (by omega) ?_
      refine q_aload_n rfl rfl ?_
      refine v_gi (z := 0) (v := 0) rfl rfl rfl (by decide) rfl rfl (up_e rfl) ?_
      refine v_if_ne_f (t := 26) rfl (by decide) (by omega) ?_
      refine q_aload_n rfl rfl ?_
      refine q_iload_n rfl rfl ?_
      refine v_pi (z := 0) rfl rfl rfl (by decide) rfl rfl rfl (by decide) ?_
      refine q_aload_n rfl rfl ?_
      refine v_gr (t := 42) rfl rfl rfl (by decide) rfl ?_
      refine q_iload_n rfl rfl ?_
      refine q_dup2 rfl ⟨rfl, rfl⟩ ?_
      refine v_ia (v := c 42 1) rfl rfl (by decide) (by decide) (by omega) ((up_c (by decide)).trans (up_c (by decide))) ?_
      refine q_iconst rfl ?_
      refine v_iadd (v := c 42 1 + 1) rfl (by omega) ?_
      refine v_is rfl rfl (by decide) (by decide) (by omega) ?_
      refine q_aload_n rfl rfl ?_
      refine v_gi (z := 0) (v := 1) rfl rfl rfl (by decide) rfl rfl ((up_c (by decide)).trans (up_e rfl)) ?_
      refine v_if_ne_t (t := 37) rfl (by decide) (by omega) ?_
      refine q_iconst rfl ?_
      refine v_zret rfl rfl (by omega) ?_
      refine bk_inl ?_
      refine v_if_ne_f (t := 61) rfl (by decide) (by omega) ?_
      refine v_lconst (z := 0) rfl (by decide) ?_
      refine q_lret rfl rfl ?_
      exact K
    · refine v_ic_gt_f (t := 14) rfl (by decide) (by omega) ?_
      refine q_iconst rfl ?_
      refine q_goto (t := 15) rfl (by decide) ?_
      refine v_zret rfl rfl (by omega) ?_
      refine bk_inl ?_
      refine v_if_eq_f (t := 50) rfl (by decide) (by omega) ?_
      refine q_iload_n rfl rfl ?_
      refine q_iconst rfl ?_
      refine v_bip rfl (by decide) ?_
      refine q_call rfl rfl rfl rfl ?_
      refine q_iload_n rfl rfl ?_
      refine q_iload_n rfl rfl ?_
      by_cases h_20 : x2 < 0
      · refine v_ic_lt_t (t := 14) rfl (by decide) (by omega) ?_
        refine q_iconst rfl ?_
        refine v_zret rfl rfl (by omega) ?_
        refine bk_inl ?_
        refine v_if_eq_t (t := 50) rfl (by decide) (by omega) ?_
        refine q_iconst rfl ?_
        refine q_iconst rfl ?_
        refine q_iconst rfl ?_
        refine v_cv rfl rfl rfl rfl (by decide) ⟨⟨rfl, rfl⟩, by decide, rfl⟩ (Nat.le_of_ble_eq_true rfl) (Nat.le_of_ble_eq_true rfl) ?_
        refine q_iload_n rfl rfl ?_
        refine v_if_ne_f (t := 26) rfl (by decide) (by omega) ?_
        refine q_aload_n rfl rfl ?_
        refine v_gi (z := 0) (v := 0) rfl rfl rfl (by decide) rfl rfl (up_e rfl) ?_
        refine v_if_ne_f (t := 26) rfl (by decide) (by omega) ?_
        refine q_aload_n rfl rfl ?_
        refine q_iload_n rfl rfl ?_
        refine v_pi (z := 0) rfl rfl rfl (by decide) rfl rfl rfl (by decide) ?_
        refine q_aload_n rfl rfl ?_
        refine v_gr (t := 42) rfl rfl rfl (by decide) rfl ?_
        refine q_iload_n rfl rfl ?_
        refine q_dup2 rfl ⟨rfl, rfl⟩ ?_
        refine v_ia (v := c 42 1) rfl rfl (by decide) (by decide) (by omega) ((up_c (by decide)).trans (up_c (by decide))) ?_
        refine q_iconst rfl ?_
        refine v_iadd (v := c 42 1 + 1) rfl (by omega) ?_
        refine v_is rfl rfl (by decide) (by decide) (by omega) ?_
        refine q_aload_n rfl rfl ?_
        refine v_gi (z := 0) (v := 1) rfl rfl rfl (by decide) rfl rfl ((up_c (by decide)).trans (up_e rfl)) ?_
        refine v_if_ne_t (t := 37) rfl (by decide) (by omega) ?_
        refine q_iconst rfl ?_
        refine v_zret rfl rfl (by omega) ?_
        refine bk_inl ?_
        refine v_if_ne_f (t := 61) rfl (by decide) (by omega) ?_
        refine v_lconst (z := 0) rfl (by decide) ?_
        refine q_lret rfl rfl ?_
        exact K
      · refine v_ic_lt_f (t := 14) rfl (by decide) (by omega) ?_
        refine q_iload_n rfl rfl ?_
        refine q_iload_n rfl rfl ?_
        by_cases h_21 : x2 > 13
        · refine v_ic_gt_t (t := 14) rfl (by decide) (by omega) ?_
          refine q_iconst rfl ?_
          refine v_zret rfl rfl (by omega) ?_
          refine bk_inl ?_
          refine v_if_eq_t (t := 50) rfl (by decide) (by omega) ?_
          refine q_iconst rfl ?_
          refine q_iconst rfl ?_
          refine q_iconst rfl ?_
          refine v_cv rfl rfl rfl rfl (by decide) ⟨⟨rfl, rfl⟩, by decide, rfl⟩ (Nat.le_of_ble_eq_true rfl) (Nat.le_of_ble_eq_true rfl) ?_
          refine q_iload_n rfl rfl ?_
          refine v_if_ne_f (t := 26) rfl (by decide) (by omega) ?_
          refine q_aload_n rfl rfl ?_
          refine v_gi (z := 0) (v := 0) rfl rfl rfl (by decide) rfl rfl (up_e rfl) ?_
          refine v_if_ne_f (t := 26) rfl (by decide) (by omega) ?_
          refine q_aload_n rfl rfl ?_
          refine q_iload_n rfl rfl ?_
          refine v_pi (z := 0) rfl rfl rfl (by decide) rfl rfl rfl (by decide) ?_
          refine q_aload_n rfl rfl ?_
          refine v_gr (t := 42) rfl rfl rfl (by decide) rfl ?_
          refine q_iload_n rfl rfl ?_
          refine q_dup2 rfl ⟨rfl, rfl⟩ ?_
          refine v_ia (v := c 42 1) rfl rfl (by decide) (by decide) (by omega) ((up_c (by decide)).trans (up_c (by decide))) ?_
          refine q_iconst rfl ?_
          refine v_iadd (v := c 42 1 + 1) rfl (by omega) ?_
          refine v_is rfl rfl (by decide) (by decide) (by omega) ?_
          refine q_aload_n rfl rfl ?_
          refine v_gi (z := 0) (v := 1) rfl rfl rfl (by decide) rfl rfl ((up_c (by decide)).trans (up_e rfl)) ?_
          refine v_if_ne_t (t := 37) rfl (by decide) (by omega) ?_
          refine q_iconst rfl ?_
          refine v_zret rfl rfl (by omega) ?_
          refine bk_inl ?_
          refine v_if_ne_f (t := 61) rfl (by decide) (by omega) ?_
          refine v_lconst (z := 0) rfl (by decide) ?_
          refine q_lret rfl rfl ?_
          exact K
        · refine v_ic_gt_f (t := 14) rfl (by decide) (by omega) ?_
          refine q_iconst rfl ?_
          refine q_goto (t := 15) rfl (by decide) ?_
          refine v_zret rfl rfl (by omega) ?_
          refine bk_inl ?_
          refine v_if_eq_f (t := 50) rfl (by decide) (by omega) ?_
          refine q_iload_n rfl rfl ?_
          refine q_iconst rfl ?_
          refine v_bip rfl (by decide) ?_
          refine q_call rfl rfl rfl rfl ?_
          refine q_iload_n rfl rfl ?_
          refine q_iload_n rfl rfl ?_
          by_cases h_22 : x3 < 0
          · refine v_ic_lt_t (t := 14) rfl (by decide) (by omega) ?_
            refine q_iconst rfl ?_
            refine v_zret rfl rfl (by omega) ?_
            refine bk_inl ?_
            refine v_if_eq_t (t := 50) rfl (by decide) (by omega) ?_
            refine q_iconst rfl ?_
            refine q_iconst rfl ?_
            refine q_iconst rfl ?_
            refine v_cv rfl rfl rfl rfl (by decide) ⟨⟨rfl, rfl⟩, by decide, rfl⟩ (Nat.le_of_ble_eq_true rfl) (Nat.le_of_ble_eq_true rfl) ?_
            refine q_iload_n rfl rfl ?_
            refine v_if_ne_f (t := 26) rfl (by decide) (by omega) ?_
            refine q_aload_n rfl rfl ?_
            refine v_gi (z := 0) (v := 0) rfl rfl rfl (by decide) rfl rfl (up_e rfl) ?_
            refine v_if_ne_f (t := 26) rfl (by decide) (by omega) ?_
            refine q_aload_n rfl rfl ?_
            refine q_iload_n rfl rfl ?_
            refine v_pi (z := 0) rfl rfl rfl (by decide) rfl rfl rfl (by decide) ?_
            refine q_aload_n rfl rfl ?_
            refine v_gr (t := 42) rfl rfl rfl (by decide) rfl ?_
            refine q_iload_n rfl rfl ?_
            refine q_dup2 rfl ⟨rfl, rfl⟩ ?_
            refine v_ia (v := c 42 1) rfl rfl (by decide) (by decide) (by omega) ((up_c (by decide)).trans (up_c (by decide))) ?_
            refine q_iconst rfl ?_
            refine v_iadd (v := c 42 1 + 1) rfl (by omega) ?_
            refine v_is rfl rfl (by decide) (by decide) (by omega) ?_
            refine q_aload_n rfl rfl ?_
            refine v_gi (z := 0) (v := 1) rfl rfl rfl (by decide) rfl rfl ((up_c (by decide)).trans (up_e rfl)) ?_
            refine v_if_ne_t (t := 37) rfl (by decide) (by omega) ?_
            refine q_iconst rfl ?_
            refine v_zret rfl rfl (by omega) ?_
            refine bk_inl ?_
            refine v_if_ne_f (t := 61) rfl (by decide) (by omega) ?_
            refine v_lconst (z := 0) rfl (by decide) ?_
            refine q_lret rfl rfl ?_
            exact K
          · refine v_ic_lt_f (t := 14) rfl (by decide) (by omega) ?_
            refine q_iload_n rfl rfl ?_
            refine q_iload_n rfl rfl ?_
            by_cases h_23 : x3 > 16
            · refine v_ic_gt_t (t := 14) rfl (by decide) (by omega) ?_
              refine q_iconst rfl ?_
              refine v_zret rfl rfl (by omega) ?_
              refine bk_inl ?_
              refine v_if_eq_t (t := 50) rfl (by decide) (by omega) ?_
              refine q_iconst rfl ?_
              refine q_iconst rfl ?_
              refine q_iconst rfl ?_
              refine v_cv rfl rfl rfl rfl (by decide) ⟨⟨rfl, rfl⟩, by decide, rfl⟩ (Nat.le_of_ble_eq_true rfl) (Nat.le_of_ble_eq_true rfl) ?_
              refine q_iload_n rfl rfl ?_
              refine v_if_ne_f (t := 26) rfl (by decide) (by omega) ?_
              refine q_aload_n rfl rfl ?_
              refine v_gi (z := 0) (v := 0) rfl rfl rfl (by decide) rfl rfl (up_e rfl) ?_
              refine v_if_ne_f (t := 26) rfl (by decide) (by omega) ?_
              refine q_aload_n rfl rfl ?_
              refine q_iload_n rfl rfl ?_
              refine v_pi (z := 0) rfl rfl rfl (by decide) rfl rfl rfl (by decide) ?_
              refine q_aload_n rfl rfl ?_
              refine v_gr (t := 42) rfl rfl rfl (by decide) rfl ?_
              refine q_iload_n rfl rfl ?_
              refine q_dup2 rfl ⟨rfl, rfl⟩ ?_
              refine v_ia (v := c 42 1) rfl rfl (by decide) (by decide) (by omega) ((up_c (by decide)).trans (up_c (by decide))) ?_
              refine q_iconst rfl ?_
              refine v_iadd (v := c 42 1 + 1) rfl (by omega) ?_
              refine v_is rfl rfl (by decide) (by decide) (by omega) ?_
              refine q_aload_n rfl rfl ?_
              refine v_gi (z := 0) (v := 1) rfl rfl rfl (by decide) rfl rfl ((up_c (by decide)).trans (up_e rfl)) ?_
              refine v_if_ne_t (t := 37) rfl (by decide) (by omega) ?_
              refine q_iconst rfl ?_
              refine v_zret rfl rfl (by omega) ?_
              refine bk_inl ?_
              refine v_if_ne_f (t := 61) rfl (by decide) (by omega) ?_
              refine v_lconst (z := 0) rfl (by decide) ?_
              refine q_lret rfl rfl ?_
              exact K
            · refine v_ic_gt_f (t := 14) rfl (by decide) (by omega) ?_
              refine q_iconst rfl ?_
              refine q_goto (t := 15) rfl (by decide) ?_
              refine v_zret rfl rfl (by omega) ?_
              refine bk_inl ?_
              refine v_if_eq_f (t := 50) rfl (by decide) (by omega) ?_
              refine q_iload rfl rfl ?_
              refine q_iconst rfl ?_
              refine q_iconst rfl ?_
              refine q_call rfl rfl rfl rfl ?_
              refine q_iload_n rfl rfl ?_
              refine q_iload_n rfl rfl ?_
              by_cases h_24 : x4 < 0
              · refine v_ic_lt_t (t := 14) rfl (by decide) (by omega) ?_
                refine q_iconst rfl ?_
                refine v_zret rfl rfl (by omega) ?_
                refine bk_inl ?_
                refine v_if_eq_t (t := 50) rfl (by decide) (by omega) ?_
                refine q_iconst rfl ?_
                refine q_iconst rfl ?_
                refine q_iconst rfl ?_
                refine v_cv rfl rfl rfl rfl (by decide) ⟨⟨rfl, rfl⟩, by decide, rfl⟩ (Nat.le_of_ble_eq_true rfl) (Nat.le_of_ble_eq_true rfl) ?_
                refine q_iload_n rfl rfl ?_
                refine v_if_ne_f (t := 26) rfl (by decide) (by omega) ?_
                refine q_aload_n rfl rfl ?_
                refine v_gi (z := 0) (v := 0) rfl rfl rfl (by decide) rfl rfl (up_e rfl) ?_
                refine v_if_ne_f (t := 26) rfl (by decide) (by omega) ?_
                refine q_aload_n rfl rfl ?_
                refine q_iload_n rfl rfl ?_
                refine v_pi (z := 0) rfl rfl rfl (by decide) rfl rfl rfl (by decide) ?_
                refine q_aload_n rfl rfl ?_
                refine v_gr (t := 42) rfl rfl rfl (by decide) rfl ?_
                refine q_iload_n rfl rfl ?_
                refine q_dup2 rfl ⟨rfl, rfl⟩ ?_
                refine v_ia (v := c 42 1) rfl rfl (by decide) (by decide) (by omega) ((up_c (by decide)).trans (up_c (by decide))) ?_
                refine q_iconst rfl ?_
                refine v_iadd (v := c 42 1 + 1) rfl (by omega) ?_
                refine v_is rfl rfl (by decide) (by decide) (by omega) ?_
                refine q_aload_n rfl rfl ?_
                refine v_gi (z := 0) (v := 1) rfl rfl rfl (by decide) rfl rfl ((up_c (by decide)).trans (up_e rfl)) ?_
                refine v_if_ne_t (t := 37) rfl (by decide) (by omega) ?_
                refine q_iconst rfl ?_
                refine v_zret rfl rfl (by omega) ?_
                refine bk_inl ?_
                refine v_if_ne_f (t := 61) rfl (by decide) (by omega) ?_
                refine v_lconst (z := 0) rfl (by decide) ?_
                refine q_lret rfl rfl ?_
                exact K
              · refine v_ic_lt_f (t := 14) rfl (by decide) (by omega) ?_
                refine q_iload_n rfl rfl ?_
                refine q_iload_n rfl rfl ?_
                refine v_ic_gt_t (t := 14) rfl (by decide) (by omega) ?_
                refine q_iconst rfl ?_
                refine v_zret rfl rfl (by omega) ?_
                refine bk_inl ?_
                refine v_if_eq_t (t := 50) rfl (by decide) (by omega) ?_
                refine q_iconst rfl ?_
                refine q_iconst rfl ?_
                refine q_iconst rfl ?_
                refine v_cv rfl rfl rfl rfl (by decide) ⟨⟨rfl, rfl⟩, by decide, rfl⟩ (Nat.le_of_ble_eq_true rfl) (Nat.le_of_ble_eq_true rfl) ?_
                refine q_iload_n rfl rfl ?_
                refine v_if_ne_f (t := 26) rfl (by decide) (by omega) ?_
                refine q_aload_n rfl rfl ?_
                refine v_gi (z := 0) (v := 0) rfl rfl rfl (by decide) rfl rfl (up_e rfl) ?_
                refine v_if_ne_f (t := 26) rfl (by decide) (by omega) ?_
                refine q_aload_n rfl rfl ?_
                refine q_iload_n rfl rfl ?_
                refine v_pi (z := 0) rfl rfl rfl (by decide) rfl rfl rfl (by decide) ?_
                refine q_aload_n rfl rfl ?_
                refine v_gr (t := 42) rfl rfl rfl (by decide) rfl ?_
                refine q_iload_n rfl rfl ?_
                refine q_dup2 rfl ⟨rfl, rfl⟩ ?_
                refine v_ia (v := c 42 1) rfl rfl (by decide) (by decide) (by omega) ((up_c (by decide)).trans (up_c (by decide))) ?_
                refine q_iconst rfl ?_
                refine v_iadd (v := c 42 1 + 1) rfl (by omega) ?_
                refine v_is rfl rfl (by decide) (by decide) (by omega) ?_
                refine q_aload_n rfl rfl ?_
                refine v_gi (z := 0) (v := 1) rfl rfl rfl (by decide) rfl rfl ((up_c (by decide)).trans (up_e rfl)) ?_
                refine v_if_ne_t (t := 37) rfl (by decide) (by omega) ?_
                refine q_iconst rfl ?_
                refine v_zret rfl rfl (by omega) ?_
                refine bk_inl ?_
                refine v_if_ne_f (t := 61) rfl (by decide) (by omega) ?_
                refine v_lconst (z := 0) rfl (by decide) ?_
                refine q_lret rfl rfl ?_
                exact K

