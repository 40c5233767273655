/-! ===== fit: the runs ===== -/
set_option maxRecDepth 100000 in
set_option maxHeartbeats 4000000 in
theorem m_133_l {sc : List Int32} {d : Nat} {w : AW} {Z : AR → Prop} {b : Int} {e : Nat} (hb : 0 ≤ b ∧ b ≤ 16) (he : e ≤ 13) (K : Z (.inl (some (vl (b ^ e))), w, 0, 0)) : ∀ (n9 : Nat) (i : Nat) (p : Int) (h1 : i ≤ e) (hp : p = b ^ i) (_ : (e : Int) - (i : Int) < (n9 : Int)), Wp sc (d + 0) 133 5 [(0, vi b), (1, vi (e : Int)), (2, vl p), (4, vi (i : Int))] [] w 0 0 Z
  | 0, i, p, h1, hp, hn9 => by exfalso; omega
  | n9 + 1, i, p, h1, hp, hn9 => by
    refine q_iload rfl rfl ?_
    refine q_iload_n rfl rfl ?_
    by_cases h_1 : (i : Int) ≥ (e : Int)
    · refine v_ic_ge_t (t := 22) rfl (by decide) (by omega) ?_
      refine q_lload_n rfl rfl ?_
      refine q_lret rfl rfl ?_
      obtain rfl : i = e := by omega
      exact zl hp K
    · refine v_ic_ge_f (t := 22) rfl (by decide) (by omega) ?_
      refine q_lload_n rfl rfl ?_
      refine q_iload_n rfl rfl ?_
      refine v_i2l rfl (by omega) ?_
      refine v_lmul (v := (p * b)) rfl rfl ?_
      refine q_lstore_n rfl (by decide) ?_
      refine v_iinc (v := (i : Int) + 1) rfl rfl (by decide) (by omega) ?_
      refine q_goto (t := 5) rfl (by decide) ?_
      refine Wp_ls [(0, vi b), (1, vi (e : Int)), (2, vl (p * b)), (4, vi ((i : Int) + 1))] (lsub_cons rfl (lsub_cons rfl (lsub_cons rfl (lsub_cons rfl lsub_nil)))) ?_
      exact m_133_l (b := b) (e := e) hb he K n9 (i + 1) (p * b) (by omega) (by rw [hp]; exact (Int.pow_succ b i).symm) (by omega)

set_option maxRecDepth 100000 in
set_option maxHeartbeats 4000000 in
theorem m_133 {sc : List Int32} {d : Nat} {w : AW} {Z : AR → Prop} {b : Int} {x : Int} (e : Nat) (hb : 0 ≤ b ∧ b ≤ 16) (hx : x = (e : Int)) (he : e ≤ 13) (K : Z (.inl (some (vl (b ^ e))), w, 0, 0)) : Wp sc (d + 0) 133 0 [(0, vi b), (1, vi x)] [] w 0 0 Z := by
  subst hx
  refine v_lconst (z := 1) rfl (by decide) ?_
  refine q_lstore_n rfl (by decide) ?_
  refine q_iconst rfl ?_
  refine q_istore rfl (by decide) ?_
  refine Wp_ls [(0, vi b), (1, vi (e : Int)), (2, vl 1), (4, vi 0)] (lsub_cons rfl (lsub_cons rfl (lsub_cons rfl (lsub_cons rfl lsub_nil)))) ?_
  exact m_133_l (b := b) (e := e) hb he K 14 0 1 (by omega) (Int.pow_zero b).symm (by omega)

theorem fw_s {n k i : Nat} (hk : k ≤ n) : (fw n k i : Int) * ((i : Int) + (n : Int) - (k : Int) + 1) / ((i : Int) + 1) = (fw n k (i + 1) : Int) := by
  show _ = ((fw n k i * (n - k + (i + 1)) / (i + 1) : Nat) : Int)
  rw [Int.natCast_ediv, Int.natCast_mul]
  have e : ((n - k + (i + 1) : Nat) : Int) = (i : Int) + (n : Int) - (k : Int) + 1 := by omega
  rw [e]
  rfl
set_option maxRecDepth 100000 in
set_option maxHeartbeats 4000000 in
theorem m_132_l {sc : List Int32} {d : Nat} {w : AW} {Z : AR → Prop} {n : Nat} {k : Nat} (hk : k ≤ n) (hn : n ≤ 12) (K : Z (.inl (some (vl (fw n k k : Int))), w, 0, 0)) : ∀ (n9 : Nat) (i : Nat) (p : Int) (h1 : i ≤ k) (hp : p = (fw n k i : Int)) (hr : 0 ≤ p ∧ p ≤ 100000) (_ : (k : Int) - (i : Int) < (n9 : Int)), Wp sc (d + 0) 132 5 [(0, vi (n : Int)), (1, vi (k : Int)), (2, vl p), (4, vi ((i : Int) + 1))] [] w 0 0 Z
  | 0, i, p, h1, hp, hr, hn9 => by exfalso; omega
  | n9 + 1, i, p, h1, hp, hr, hn9 => by
    refine q_iload rfl rfl ?_
    refine q_iload_n rfl rfl ?_
    by_cases h_2 : (i : Int) + 1 > (k : Int)
    · refine v_ic_gt_t (t := 31) rfl (by decide) (by omega) ?_
      refine q_lload_n rfl rfl ?_
      refine q_lret rfl rfl ?_
      obtain rfl : i = k := by omega
      exact zl hp K
    · refine v_ic_gt_f (t := 31) rfl (by decide) (by omega) ?_
      refine q_lload_n rfl rfl ?_
      refine q_iload_n rfl rfl ?_
      refine q_iload_n rfl rfl ?_
      refine v_isub (v := (n : Int) - (k : Int)) rfl (by omega) ?_
      refine q_iload rfl rfl ?_
      refine v_iadd (v := (i : Int) + (n : Int) - (k : Int) + 1) rfl (by omega) ?_
      refine v_i2l rfl (by omega) ?_
      have hm : 0 ≤ p * ((i : Int) + (n : Int) - (k : Int) + 1) ∧ p * ((i : Int) + (n : Int) - (k : Int) + 1) ≤ 10000000 := ⟨Int.mul_nonneg hr.1 (by omega), Int.le_trans (Int.mul_le_mul hr.2 (show _ ≤ (100 : Int) by omega) (by omega) (by omega)) (by decide)⟩
      refine v_lmul (v := (p * ((i : Int) + (n : Int) - (k : Int) + 1))) rfl rfl ?_
      refine q_iload rfl rfl ?_
      refine v_i2l rfl (by omega) ?_
      refine v_ldiv (v := ((p * ((i : Int) + (n : Int) - (k : Int) + 1)) / ((i : Int) + 1))) rfl (by omega) rfl ?_
      refine q_lstore_n rfl (by decide) ?_
      refine v_iinc (v := (i : Int) + 2) rfl rfl (by decide) (by omega) ?_
      refine q_goto (t := 5) rfl (by decide) ?_
      refine Wp_ls [(0, vi (n : Int)), (1, vi (k : Int)), (2, vl ((p * ((i : Int) + (n : Int) - (k : Int) + 1)) / ((i : Int) + 1))), (4, vi ((i : Int) + 2))] (lsub_cons rfl (lsub_cons rfl (lsub_cons rfl (lsub_cons rfl lsub_nil)))) ?_
      exact m_132_l (n := n) (k := k) hk hn K n9 (i + 1) ((p * ((i : Int) + (n : Int) - (k : Int) + 1)) / ((i : Int) + 1)) (by omega) (by rw [hp]; exact fw_s hk) (by rw [hp, fw_s hk]; have := fw_rng (i := i + 1) hn hk (by omega); omega) (by omega)

set_option maxRecDepth 100000 in
set_option maxHeartbeats 4000000 in
theorem m_132 {sc : List Int32} {d : Nat} {w : AW} {Z : AR → Prop} {x : Int} {y : Int} (n : Nat) (k : Nat) (hx : x = (n : Int)) (hy : y = (k : Int)) (hk : k ≤ n) (hn : n ≤ 12) (K : Z (.inl (some (vl (fw n k k : Int))), w, 0, 0)) : Wp sc (d + 0) 132 0 [(0, vi x), (1, vi y)] [] w 0 0 Z := by
  subst hx
  subst hy
  refine v_lconst (z := 1) rfl (by decide) ?_
  refine q_lstore_n rfl (by decide) ?_
  refine q_iconst rfl ?_
  refine q_istore rfl (by decide) ?_
  refine Wp_ls [(0, vi (n : Int)), (1, vi (k : Int)), (2, vl 1), (4, vi 1)] (lsub_cons rfl (lsub_cons rfl (lsub_cons rfl (lsub_cons rfl lsub_nil)))) ?_
  exact m_132_l (n := n) (k := k) hk hn K 14 0 1 (by omega) rfl (by omega) (by omega)

set_option maxRecDepth 100000 in
set_option maxHeartbeats 4000000 in
theorem m_134_h {sc : List Int32} {d : Nat} {w : AW} {Z : AR → Prop} {half : Nat} {R : Int × Int} (hh : half ≤ 1) (K : Z (.inl (some (vl (if half = 0 then R.1 else R.2))), w, 0, 0)) : ∀ (n9 : Nat) (i : Nat) (A : Int) (B : Int) (h1 : i ≤ 48) (hA : 0 ≤ A ∧ A ≤ 1125899906842624) (hB : 0 ≤ B ∧ B ≤ 1125899906842624) (hf : fh (48 - i) A B = R) (_ : (48 : Int) - (i : Int) < (n9 : Int)), Wp sc (d + 0) 134 118 [(4, vi (half : Int)), (5, vl A), (7, vl B), (9, vi (i : Int))] [] w 0 0 Z
  | 0, i, A, B, h1, hA, hB, hf, hn9 => by exfalso; omega
  | n9 + 1, i, A, B, h1, hA, hB, hf, hn9 => by
    refine q_iload rfl rfl ?_
    refine v_bip rfl (by decide) ?_
    by_cases h_3 : (i : Int) ≥ 48
    · refine v_ic_ge_t (t := 169) rfl (by decide) (by omega) ?_
      have hR : R = (A, B) := hf.symm.trans (fh_out (by omega))
      refine q_iload rfl rfl ?_
      by_cases h_4 : (half : Int) ≠ 0
      · refine v_if_ne_t (t := 179) rfl (by decide) (by omega) ?_
        refine q_lload rfl rfl ?_
        refine q_lret rfl rfl ?_
        exact zl (by rw [hR, if_neg (by omega)]) K
      · refine v_if_ne_f (t := 179) rfl (by decide) (by omega) ?_
        refine q_lload rfl rfl ?_
        refine q_goto (t := 181) rfl (by decide) ?_
        refine q_lret rfl rfl ?_
        exact zl (by rw [hR, if_pos (by omega)]) K
    · refine v_ic_ge_f (t := 169) rfl (by decide) (by omega) ?_
      refine q_lload rfl rfl ?_
      refine v_ldc2 (n := 2) rfl rfl (by decide +kernel) ?_
      refine v_lrem (v := (A % 2)) rfl (by omega) rfl ?_
      refine v_lconst (z := 0) rfl (by decide) ?_
      by_cases h_5 : (A % 2) = 0
      · refine v_lcmp0 rfl (by omega) ?_
        refine v_if_ne_f (t := 169) rfl (by decide) (by decide) ?_
        refine q_lload rfl rfl ?_
        refine v_ldc2 (n := 2) rfl rfl (by decide +kernel) ?_
        refine v_lrem (v := (B % 2)) rfl (by omega) rfl ?_
        refine v_lconst (z := 0) rfl (by decide) ?_
        by_cases h_6 : (B % 2) = 0
        · refine v_lcmp0 rfl (by omega) ?_
          refine v_if_ne_f (t := 169) rfl (by decide) (by decide) ?_
          refine q_lload rfl rfl ?_
          refine v_ldc2 (n := 2) rfl rfl (by decide +kernel) ?_
          refine v_ldiv (v := (A / 2)) rfl (by omega) rfl ?_
          refine q_lstore rfl (by decide) ?_
          refine q_lload rfl rfl ?_
          refine v_ldc2 (n := 2) rfl rfl (by decide +kernel) ?_
          refine v_ldiv (v := (B / 2)) rfl (by omega) rfl ?_
          refine q_lstore rfl (by decide) ?_
          refine v_iinc (v := (i : Int) + 1) rfl rfl (by decide) (by omega) ?_
          refine q_goto (t := 118) rfl (by decide) ?_
          refine Wp_ls [(4, vi (half : Int)), (5, vl (A / 2)), (7, vl (B / 2)), (9, vi ((i : Int) + 1))] (lsub_cons rfl (lsub_cons rfl (lsub_cons rfl (lsub_cons rfl lsub_nil)))) ?_
          exact m_134_h (half := half) (R := R) hh K n9 (i + 1) (A / 2) (B / 2) (by omega) (by omega) (by omega) ((fh_on (by omega) (by omega)).symm.trans hf) (by omega)
        · refine v_lcmp1 rfl (by omega) ?_
          refine v_if_ne_t (t := 169) rfl (by decide) (by decide) ?_
          have hR : R = (A, B) := hf.symm.trans (fh_out (by omega))
          refine q_iload rfl rfl ?_
          by_cases h_7 : (half : Int) ≠ 0
          · refine v_if_ne_t (t := 179) rfl (by decide) (by omega) ?_
            refine q_lload rfl rfl ?_
            refine q_lret rfl rfl ?_
            exact zl (by rw [hR, if_neg (by omega)]) K
          · refine v_if_ne_f (t := 179) rfl (by decide) (by omega) ?_
            refine q_lload rfl rfl ?_
            refine q_goto (t := 181) rfl (by decide) ?_
            refine q_lret rfl rfl ?_
            exact zl (by rw [hR, if_pos (by omega)]) K
      · refine v_lcmp1 rfl (by omega) ?_
        refine v_if_ne_t (t := 169) rfl (by decide) (by decide) ?_
        have hR : R = (A, B) := hf.symm.trans (fh_out (by omega))
        refine q_iload rfl rfl ?_
        by_cases h_8 : (half : Int) ≠ 0
        · refine v_if_ne_t (t := 179) rfl (by decide) (by omega) ?_
          refine q_lload rfl rfl ?_
          refine q_lret rfl rfl ?_
          exact zl (by rw [hR, if_neg (by omega)]) K
        · refine v_if_ne_f (t := 179) rfl (by decide) (by omega) ?_
          refine q_lload rfl rfl ?_
          refine q_goto (t := 181) rfl (by decide) ?_
          refine q_lret rfl rfl ?_
          exact zl (by rw [hR, if_pos (by omega)]) K

set_option maxRecDepth 100000 in
set_option maxHeartbeats 4000000 in
theorem m_134_s {sc : List Int32} {d : Nat} {w : AW} {Z : AR → Prop} {n : Nat} {k : Nat} {q : Nat} {half : Nat} (hn : n ≤ 12) (hk : k ≤ 13) (hq : q ≤ 16) (hh : half ≤ 1) (K : Z (.inl (some (vl (fcls n k q half))), w, 0, 0)) : ∀ (n9 : Nat) (h : Nat) (acc : Int) (h1 : h ≤ n + 1 ∨ h = k) (h2 : h ≤ 13) (hs : acc + fa n q (n + 1 - h) h = fa n q (n + 1 - k) k) (_ : (14 : Int) - (h : Int) < (n9 : Int)), Wp sc (d + 1) 134 55 [(0, .ref 0), (1, vi (n : Int)), (2, vi (k : Int)), (3, vi (q : Int)), (4, vi (half : Int)), (5, vl acc), (7, vi (h : Int))] [] w 0 0 Z
  | 0, h, acc, h1, h2, hs, hn9 => by exfalso; omega
  | n9 + 1, h, acc, h1, h2, hs, hn9 => by
    refine q_iload rfl rfl ?_
    refine q_iload_n rfl rfl ?_
    by_cases h_9 : (h : Int) > (n : Int)
    · refine v_ic_gt_t (t := 97) rfl (by decide) (by omega) ?_
      have ha : acc = fa n q (n + 1 - k) k := by rw [show n + 1 - h = 0 by omega] at hs; rw [← hs]; exact (Int.add_zero acc).symm
      have hr := fa_rng hn hk hq
      rw [← ha] at hr
      have hp := fp_rng hn
      refine v_bip rfl (by decide) ?_
      refine q_iload_n rfl rfl ?_
      refine q_call rfl rfl rfl rfl (m_133 (b := 16) n (by omega) (by omega) (by omega) ?_)
      refine bk_inl ?_
      refine q_lstore rfl (by decide) ?_
      refine q_lload rfl rfl ?_
      refine v_lconst (z := 0) rfl (by decide) ?_
      by_cases h_10 : acc = 0
      · refine v_lcmp0 rfl (by omega) ?_
        refine v_if_ne_f (t := 115) rfl (by decide) (by decide) ?_
        refine v_lconst (z := 1) rfl (by decide) ?_
        refine q_lstore rfl (by decide) ?_
        refine q_iconst rfl ?_
        refine q_istore rfl (by decide) ?_
        refine Wp_ls [(4, vi (half : Int)), (5, vl acc), (7, vl 1), (9, vi 0)] (lsub_cons rfl (lsub_cons rfl (lsub_cons rfl (lsub_cons rfl lsub_nil)))) ?_
        exact m_134_h (half := half) (R := fh 48 acc 1) hh (show Z (.inl (some (vl (if half = 0 then (fh 48 acc 1).1 else (fh 48 acc 1).2))), w, 0, 0) from (by have K2 := K; unfold fcls at K2; rw [← ha] at K2; dsimp only at K2; rw [if_pos (show acc = 0 by omega)] at K2; exact K2)) 49 0 acc 1 (by omega) (by omega) (by omega) rfl (by omega)
      · refine v_lcmp1 rfl (by omega) ?_
        refine v_if_ne_t (t := 115) rfl (by decide) (by decide) ?_
        refine q_iconst rfl ?_
        refine q_istore rfl (by decide) ?_
        refine Wp_ls [(4, vi (half : Int)), (5, vl acc), (7, vl ((16 : Int) ^ n)), (9, vi 0)] (lsub_cons rfl (lsub_cons rfl (lsub_cons rfl (lsub_cons rfl lsub_nil)))) ?_
        exact m_134_h (half := half) (R := fh 48 acc ((16 : Int) ^ n)) hh (show Z (.inl (some (vl (if half = 0 then (fh 48 acc ((16 : Int) ^ n)).1 else (fh 48 acc ((16 : Int) ^ n)).2))), w, 0, 0) from (by have K2 := K; unfold fcls at K2; rw [← ha] at K2; dsimp only at K2; rw [if_neg (show ¬ acc = 0 by omega)] at K2; exact K2)) 49 0 acc ((16 : Int) ^ n) (by omega) (by omega) (by omega) rfl (by omega)
    · refine v_ic_gt_f (t := 97) rfl (by decide) (by omega) ?_
      refine q_lload rfl rfl ?_
      refine q_iload_n rfl rfl ?_
      refine q_iload rfl rfl ?_
      refine q_call rfl rfl rfl rfl (m_132 n h (by omega) (by omega) (by omega) (by omega) ?_)
      refine bk_inl ?_
      refine q_iload_n rfl rfl ?_
      refine q_iload rfl rfl ?_
      refine q_call rfl rfl rfl rfl (m_133 (b := (q : Int)) h (by omega) (by omega) (by omega) ?_)
      refine bk_inl ?_
      refine v_lmul (v := ((fw n h h : Int) * (((q : Int)) ^ h))) rfl rfl ?_
      refine v_bip rfl (by decide) ?_
      refine q_iload_n rfl rfl ?_
      refine v_isub (v := 16 - (q : Int)) rfl (by omega) ?_
      refine q_iload_n rfl rfl ?_
      refine q_iload rfl rfl ?_
      refine v_isub (v := (n : Int) - (h : Int)) rfl (by omega) ?_
      refine q_call rfl rfl rfl rfl (m_133 (b := (16 - (q : Int))) (n - h) (by omega) (by omega) (by omega) ?_)
      refine bk_inl ?_
      refine v_lmul (v := (((fw n h h : Int) * (((q : Int)) ^ h)) * ((16 - (q : Int)) ^ (n - h)))) rfl rfl ?_
      refine v_ladd (v := (((fw n h h : Int) * (((q : Int)) ^ h)) * ((16 - (q : Int)) ^ (n - h))) + acc) rfl (by omega) ?_
      refine q_lstore rfl (by decide) ?_
      refine v_iinc (v := (h : Int) + 1) rfl rfl (by decide) (by omega) ?_
      refine q_goto (t := 55) rfl (by decide) ?_
      refine Wp_ls [(0, .ref 0), (1, vi (n : Int)), (2, vi (k : Int)), (3, vi (q : Int)), (4, vi (half : Int)), (5, vl ((((fw n h h : Int) * (((q : Int)) ^ h)) * ((16 - (q : Int)) ^ (n - h))) + acc)), (7, vi ((h : Int) + 1))] (lsub_cons rfl (lsub_cons rfl (lsub_cons rfl (lsub_cons rfl (lsub_cons rfl (lsub_cons rfl (lsub_cons rfl lsub_nil))))))) ?_
      exact m_134_s (n := n) (k := k) (q := q) (half := half) hn hk hq hh K n9 (h + 1) ((((fw n h h : Int) * (((q : Int)) ^ h)) * ((16 - (q : Int)) ^ (n - h))) + acc) (by omega) (by omega) (by rw [← hs, fa_on (show n + 1 - h = (n + 1 - (h + 1)) + 1 by omega), Int.add_comm _ acc]; exact Int.add_assoc _ _ _) (by omega)

set_option maxRecDepth 100000 in
set_option maxHeartbeats 4000000 in
theorem m_134 {sc : List Int32} {d : Nat} {P Q N T : Nat} {c : ME} {Z : AR → Prop} {x1 : Int} {x2 : Int} {x3 : Int} {x4 : Int} (n : Nat) (k : Nat) (q : Nat) (half : Nat) (hx1 : x1 = (n : Int)) (hx2 : x2 = (k : Int)) (hx3 : x3 = (q : Int)) (hx4 : x4 = (half : Int)) (hn : n ≤ 12) (hk : k ≤ 13) (hq : q ≤ 16) (hh : half ≤ 1) (K : Z (.inl (some (vl (fcls n k q half))), Wd P Q N T c, 0, 0)) : Wp sc (d + 2) 134 0 [(0, .ref 0), (1, vi x1), (2, vi x2), (3, vi x3), (4, vi x4)] [] (Wd P Q N T c) 0 0 Z := by
  subst hx1 hx2 hx3 hx4
  refine q_aload_n rfl rfl ?_
  refine q_iload_n rfl rfl ?_
  refine q_iconst rfl ?_
  refine v_bip rfl (by decide) ?_
  refine q_call rfl rfl rfl rfl ?_
  refine q_iload_n rfl rfl ?_
  refine q_iload_n rfl rfl ?_
  refine v_ic_lt_f (t := 14) rfl (by decide) (by omega) ?_
  refine q_iload_n rfl rfl ?_
  refine q_iload_n rfl rfl ?_
  refine v_ic_gt_f (t := 14) rfl (by decide) (by omega) ?_
  refine q_iconst rfl ?_
  refine q_goto (t := 15) rfl (by decide) ?_
  refine v_zret rfl rfl (by omega) ?_
  refine bk_inl ?_
  refine v_if_eq_f (t := 45) rfl (by decide) (by decide) ?_
  refine q_iload_n rfl rfl ?_
  refine q_iconst rfl ?_
  refine v_bip rfl (by decide) ?_
  refine q_call rfl rfl rfl rfl ?_
  refine q_iload_n rfl rfl ?_
  refine q_iload_n rfl rfl ?_
  refine v_ic_lt_f (t := 14) rfl (by decide) (by omega) ?_
  refine q_iload_n rfl rfl ?_
  refine q_iload_n rfl rfl ?_
  refine v_ic_gt_f (t := 14) rfl (by decide) (by omega) ?_
  refine q_iconst rfl ?_
  refine q_goto (t := 15) rfl (by decide) ?_
  refine v_zret rfl rfl (by omega) ?_
  refine bk_inl ?_
  refine v_if_eq_f (t := 45) rfl (by decide) (by decide) ?_
  refine q_iload_n rfl rfl ?_
  refine q_iconst rfl ?_
  refine v_bip rfl (by decide) ?_
  refine q_call rfl rfl rfl rfl ?_
  refine q_iload_n rfl rfl ?_
  refine q_iload_n rfl rfl ?_
  refine v_ic_lt_f (t := 14) rfl (by decide) (by omega) ?_
  refine q_iload_n rfl rfl ?_
  refine q_iload_n rfl rfl ?_
  refine v_ic_gt_f (t := 14) rfl (by decide) (by omega) ?_
  refine q_iconst rfl ?_
  refine q_goto (t := 15) rfl (by decide) ?_
  refine v_zret rfl rfl (by omega) ?_
  refine bk_inl ?_
  refine v_if_eq_f (t := 45) rfl (by decide) (by decide) ?_
  refine q_iload rfl rfl ?_
  refine q_iconst rfl ?_
  refine q_iconst rfl ?_
  refine q_call rfl rfl rfl rfl ?_
  refine q_iload_n rfl rfl ?_
  refine q_iload_n rfl rfl ?_
  refine v_ic_lt_f (t := 14) rfl (by decide) (by omega) ?_
  refine q_iload_n rfl rfl ?_
  refine q_iload_n rfl rfl ?_
  refine v_ic_gt_f (t := 14) rfl (by decide) (by omega) ?_
  refine q_iconst rfl ?_
  refine q_goto (t := 15) rfl (by decide) ?_
  refine v_zret rfl rfl (by omega) ?_
  refine bk_inl ?_
  refine v_if_eq_f (t := 45) rfl (by decide) (by decide) ?_
  refine q_iconst rfl ?_
  refine q_goto (t := 46) rfl (by decide) ?_
  refine v_cv rfl rfl rfl rfl (by decide) ⟨⟨rfl, rfl⟩, by decide, rfl⟩ (Nat.le_of_ble_eq_true rfl) (Nat.le_of_ble_eq_true rfl) ?_
  refine q_iload_n rfl rfl ?_
  refine v_if_ne_t (t := 25) rfl (by decide) (by decide) ?_
  refine q_vret rfl rfl ?_
  refine bk_inl ?_
  refine v_lconst (z := 0) rfl (by decide) ?_
  refine q_lstore rfl (by decide) ?_
  refine q_iload_n rfl rfl ?_
  refine q_istore rfl (by decide) ?_
  refine Wp_ls [(0, .ref 0), (1, vi (n : Int)), (2, vi (k : Int)), (3, vi (q : Int)), (4, vi (half : Int)), (5, vl 0), (7, vi (k : Int))] (lsub_cons rfl (lsub_cons rfl (lsub_cons rfl (lsub_cons rfl (lsub_cons rfl (lsub_cons rfl (lsub_cons rfl lsub_nil))))))) ?_
  exact m_134_s (n := n) (k := k) (q := q) (half := half) hn hk hq hh K 15 k 0 (by omega) (by omega) (Int.zero_add _) (by omega)

set_option maxRecDepth 100000 in
set_option maxHeartbeats 4000000 in
theorem m_134_t {sc : List Int32} {d : Nat} {P Q N T : Nat} {c : ME} {Z : AR → Prop} {x1 : Int} {x2 : Int} {x3 : Int} {x4 : Int} (x1r : -2147483648 ≤ x1 ∧ x1 ≤ 2147483647) (x2r : -2147483648 ≤ x2 ∧ x2 ≤ 2147483647) (x3r : -2147483648 ≤ x3 ∧ x3 ≤ 2147483647) (x4r : -2147483648 ≤ x4 ∧ x4 ≤ 2147483647) (hb : x1 < 0 ∨ 12 < x1 ∨ x2 < 0 ∨ 13 < x2 ∨ x3 < 0 ∨ 16 < x3 ∨ x4 < 0 ∨ 1 < x4) (K : Z (.inr 101, Wd P Q N T (up c 0 13 (c 0 13 + 1)), 1, 6)) : Wp sc (d + 8) 134 0 [(0, .ref 0), (1, vi x1), (2, vi x2), (3, vi x3), (4, vi x4)] [] (Wd P Q N T c) 0 0 Z := by
  refine q_aload_n rfl rfl ?_
  refine q_iload_n rfl rfl ?_
  refine q_iconst rfl ?_
  refine v_bip rfl (by decide) ?_
  refine q_call rfl rfl rfl rfl ?_
  refine q_iload_n rfl rfl ?_
  refine q_iload_n rfl rfl ?_
  by_cases h_11 : x1 < 0
  · refine v_ic_lt_t (t := 14) rfl (by decide) (by omega) ?_
    refine q_iconst rfl ?_
    refine v_zret rfl rfl (by omega) ?_
    refine bk_inl ?_
    refine v_if_eq_t (t := 45) rfl (by decide) (by decide) ?_
    refine q_iconst rfl ?_
    refine v_cv rfl rfl rfl rfl (by decide) ⟨⟨rfl, rfl⟩, by decide, rfl⟩ (Nat.le_of_ble_eq_true rfl) (Nat.le_of_ble_eq_true rfl) ?_
    refine q_iload_n rfl rfl ?_
    refine v_if_ne_f (t := 25) rfl (by decide) (by decide) ?_
    refine q_aload_n rfl rfl ?_
    refine q_dup rfl rfl ?_
    refine v_gi (z := 13) (v := c 0 13) rfl rfl rfl (by decide) rfl rfl rfl ?_
    refine q_iconst rfl ?_
    refine v_iadd (v := c 0 13 + 1) rfl (by omega) ?_
    refine v_pi (z := 13) rfl rfl rfl (by decide) rfl rfl rfl (by decide) ?_
    refine v_new rfl rfl (by decide) (by omega) (Nat.le_of_ble_eq_true rfl) (by decide) rfl ?_
    refine bk_out rfl rfl ?_
    exact K
  · refine v_ic_lt_f (t := 14) rfl (by decide) (by omega) ?_
    refine q_iload_n rfl rfl ?_
    refine q_iload_n rfl rfl ?_
    by_cases h_12 : x1 > 12
    · refine v_ic_gt_t (t := 14) rfl (by decide) (by omega) ?_
      refine q_iconst rfl ?_
      refine v_zret rfl rfl (by omega) ?_
      refine bk_inl ?_
      refine v_if_eq_t (t := 45) rfl (by decide) (by decide) ?_
      refine q_iconst rfl ?_
      refine v_cv rfl rfl rfl rfl (by decide) ⟨⟨rfl, rfl⟩, by decide, rfl⟩ (Nat.le_of_ble_eq_true rfl) (Nat.le_of_ble_eq_true rfl) ?_
      refine q_iload_n rfl rfl ?_
      refine v_if_ne_f (t := 25) rfl (by decide) (by decide) ?_
      refine q_aload_n rfl rfl ?_
      refine q_dup rfl rfl ?_
      refine v_gi (z := 13) (v := c 0 13) rfl rfl rfl (by decide) rfl rfl rfl ?_
      refine q_iconst rfl ?_
      refine v_iadd (v := c 0 13 + 1) rfl (by omega) ?_
      refine v_pi (z := 13) rfl rfl rfl (by decide) rfl rfl rfl (by decide) ?_
      refine v_new rfl rfl (by decide) (by omega) (Nat.le_of_ble_eq_true rfl) (by decide) rfl ?_
      refine bk_out rfl rfl ?_
      exact K
    · refine v_ic_gt_f (t := 14) rfl (by decide) (by omega) ?_
      refine q_iconst rfl ?_
      refine q_goto (t := 15) rfl (by decide) ?_
      refine v_zret rfl rfl (by omega) ?_
      refine bk_inl ?_
      refine v_if_eq_f (t := 45) rfl (by decide) (by decide) ?_
      refine q_iload_n rfl rfl ?_
      refine q_iconst rfl ?_
      refine v_bip rfl (by decide) ?_
      refine q_call rfl rfl rfl rfl ?_
      refine q_iload_n rfl rfl ?_
      refine q_iload_n rfl rfl ?_
      by_cases h_13 : x2 < 0
      · refine v_ic_lt_t (t := 14) rfl (by decide) (by omega) ?_
        refine q_iconst rfl ?_
        refine v_zret rfl rfl (by omega) ?_
        refine bk_inl ?_
        refine v_if_eq_t (t := 45) rfl (by decide) (by decide) ?_
        refine q_iconst rfl ?_
        refine v_cv rfl rfl rfl rfl (by decide) ⟨⟨rfl, rfl⟩, by decide, rfl⟩ (Nat.le_of_ble_eq_true rfl) (Nat.le_of_ble_eq_true rfl) ?_
        refine q_iload_n rfl rfl ?_
        refine v_if_ne_f (t := 25) rfl (by decide) (by decide) ?_
        refine q_aload_n rfl rfl ?_
        refine q_dup rfl rfl ?_
        refine v_gi (z := 13) (v := c 0 13) rfl rfl rfl (by decide) rfl rfl rfl ?_
        refine q_iconst rfl ?_
        refine v_iadd (v := c 0 13 + 1) rfl (by omega) ?_
        refine v_pi (z := 13) rfl rfl rfl (by decide) rfl rfl rfl (by decide) ?_
        refine v_new rfl rfl (by decide) (by omega) (Nat.le_of_ble_eq_true rfl) (by decide) rfl ?_
        refine bk_out rfl rfl ?_
        exact K
      · refine v_ic_lt_f (t := 14) rfl (by decide) (by omega) ?_
        refine q_iload_n rfl rfl ?_
        refine q_iload_n rfl rfl ?_
        by_cases h_14 : x2 > 13
        · refine v_ic_gt_t (t := 14) rfl (by decide) (by omega) ?_
          refine q_iconst rfl ?_
          refine v_zret rfl rfl (by omega) ?_
          refine bk_inl ?_
          refine v_if_eq_t (t := 45) rfl (by decide) (by decide) ?_
          refine q_iconst rfl ?_
          refine v_cv rfl rfl rfl rfl (by decide) ⟨⟨rfl, rfl⟩, by decide, rfl⟩ (Nat.le_of_ble_eq_true rfl) (Nat.le_of_ble_eq_true rfl) ?_
          refine q_iload_n rfl rfl ?_
          refine v_if_ne_f (t := 25) rfl (by decide) (by decide) ?_
          refine q_aload_n rfl rfl ?_
          refine q_dup rfl rfl ?_
          refine v_gi (z := 13) (v := c 0 13) rfl rfl rfl (by decide) rfl rfl rfl ?_
          refine q_iconst rfl ?_
          refine v_iadd (v := c 0 13 + 1) rfl (by omega) ?_
          refine v_pi (z := 13) rfl rfl rfl (by decide) rfl rfl rfl (by decide) ?_
          refine v_new rfl rfl (by decide) (by omega) (Nat.le_of_ble_eq_true rfl) (by decide) rfl ?_
          refine bk_out rfl rfl ?_
          exact K
        · refine v_ic_gt_f (t := 14) rfl (by decide) (by omega) ?_
          refine q_iconst rfl ?_
          refine q_goto (t := 15) rfl (by decide) ?_
          refine v_zret rfl rfl (by omega) ?_
          refine bk_inl ?_
          refine v_if_eq_f (t := 45) rfl (by decide) (by decide) ?_
          refine q_iload_n rfl rfl ?_
          refine q_iconst rfl ?_
          refine v_bip rfl (by decide) ?_
          refine q_call rfl rfl rfl rfl ?_
          refine q_iload_n rfl rfl ?_
          refine q_iload_n rfl rfl ?_
          by_cases h_15 : x3 < 0
          · refine v_ic_lt_t (t := 14) rfl (by decide) (by omega) ?_
            refine q_iconst rfl ?_
            refine v_zret rfl rfl (by omega) ?_
            refine bk_inl ?_
            refine v_if_eq_t (t := 45) rfl (by decide) (by decide) ?_
            refine q_iconst rfl ?_
            refine v_cv rfl rfl rfl rfl (by decide) ⟨⟨rfl, rfl⟩, by decide, rfl⟩ (Nat.le_of_ble_eq_true rfl) (Nat.le_of_ble_eq_true rfl) ?_
            refine q_iload_n rfl rfl ?_
            refine v_if_ne_f (t := 25) rfl (by decide) (by decide) ?_
            refine q_aload_n rfl rfl ?_
            refine q_dup rfl rfl ?_
            refine v_gi (z := 13) (v := c 0 13) rfl rfl rfl (by decide) rfl rfl rfl ?_
            refine q_iconst rfl ?_
            refine v_iadd (v := c 0 13 + 1) rfl (by omega) ?_
            refine v_pi (z := 13) rfl rfl rfl (by decide) rfl rfl rfl (by decide) ?_
            refine v_new rfl rfl (by decide) (by omega) (Nat.le_of_ble_eq_true rfl) (by decide) rfl ?_
            refine bk_out rfl rfl ?_
            exact K
          · refine v_ic_lt_f (t := 14) rfl (by decide) (by omega) ?_
            refine q_iload_n rfl rfl ?_
            refine q_iload_n rfl rfl ?_
            by_cases h_16 : x3 > 16
            · refine v_ic_gt_t (t := 14) rfl (by decide) (by omega) ?_
              refine q_iconst rfl ?_
              refine v_zret rfl rfl (by omega) ?_
              refine bk_inl ?_
              refine v_if_eq_t (t := 45) rfl (by decide) (by decide) ?_
              refine q_iconst rfl ?_
              refine v_cv rfl rfl rfl rfl (by decide) ⟨⟨rfl, rfl⟩, by decide, rfl⟩ (Nat.le_of_ble_eq_true rfl) (Nat.le_of_ble_eq_true rfl) ?_
              refine q_iload_n rfl rfl ?_
              refine v_if_ne_f (t := 25) rfl (by decide) (by decide) ?_
              refine q_aload_n rfl rfl ?_
              refine q_dup rfl rfl ?_
              refine v_gi (z := 13) (v := c 0 13) rfl rfl rfl (by decide) rfl rfl rfl ?_
              refine q_iconst rfl ?_
              refine v_iadd (v := c 0 13 + 1) rfl (by omega) ?_
              refine v_pi (z := 13) rfl rfl rfl (by decide) rfl rfl rfl (by decide) ?_
              refine v_new rfl rfl (by decide) (by omega) (Nat.le_of_ble_eq_true rfl) (by decide) rfl ?_
              refine bk_out rfl rfl ?_
              exact K
            · refine v_ic_gt_f (t := 14) rfl (by decide) (by omega) ?_
              refine q_iconst rfl ?_
              refine q_goto (t := 15) rfl (by decide) ?_
              refine v_zret rfl rfl (by omega) ?_
              refine bk_inl ?_
              refine v_if_eq_f (t := 45) rfl (by decide) (by decide) ?_
              refine q_iload rfl rfl ?_
              refine q_iconst rfl ?_
              refine q_iconst rfl ?_
              refine q_call rfl rfl rfl rfl ?_
              refine q_iload_n rfl rfl ?_
              refine q_iload_n rfl rfl ?_
              by_cases h_17 : x4 < 0
              · refine v_ic_lt_t (t := 14) rfl (by decide) (by omega) ?_
                refine q_iconst rfl ?_
                refine v_zret rfl rfl (by omega) ?_
                refine bk_inl ?_
                refine v_if_eq_t (t := 45) rfl (by decide) (by decide) ?_
                refine q_iconst rfl ?_
                refine v_cv rfl rfl rfl rfl (by decide) ⟨⟨rfl, rfl⟩, by decide, rfl⟩ (Nat.le_of_ble_eq_true rfl) (Nat.le_of_ble_eq_true rfl) ?_
                refine q_iload_n rfl rfl ?_
                refine v_if_ne_f (t := 25) rfl (by decide) (by decide) ?_
                refine q_aload_n rfl rfl ?_
                refine q_dup rfl rfl ?_
                refine v_gi (z := 13) (v := c 0 13) rfl rfl rfl (by decide) rfl rfl rfl ?_
                refine q_iconst rfl ?_
                refine v_iadd (v := c 0 13 + 1) rfl (by omega) ?_
                refine v_pi (z := 13) rfl rfl rfl (by decide) rfl rfl rfl (by decide) ?_
                refine v_new rfl rfl (by decide) (by omega) (Nat.le_of_ble_eq_true rfl) (by decide) rfl ?_
                refine bk_out rfl rfl ?_
                exact K
              · refine v_ic_lt_f (t := 14) rfl (by decide) (by omega) ?_
                refine q_iload_n rfl rfl ?_
                refine q_iload_n rfl rfl ?_
                refine v_ic_gt_t (t := 14) rfl (by decide) (by omega) ?_
                refine q_iconst rfl ?_
                refine v_zret rfl rfl (by omega) ?_
                refine bk_inl ?_
                refine v_if_eq_t (t := 45) rfl (by decide) (by decide) ?_
                refine q_iconst rfl ?_
                refine v_cv rfl rfl rfl rfl (by decide) ⟨⟨rfl, rfl⟩, by decide, rfl⟩ (Nat.le_of_ble_eq_true rfl) (Nat.le_of_ble_eq_true rfl) ?_
                refine q_iload_n rfl rfl ?_
                refine v_if_ne_f (t := 25) rfl (by decide) (by decide) ?_
                refine q_aload_n rfl rfl ?_
                refine q_dup rfl rfl ?_
                refine v_gi (z := 13) (v := c 0 13) rfl rfl rfl (by decide) rfl rfl rfl ?_
                refine q_iconst rfl ?_
                refine v_iadd (v := c 0 13 + 1) rfl (by omega) ?_
                refine v_pi (z := 13) rfl rfl rfl (by decide) rfl rfl rfl (by decide) ?_
                refine v_new rfl rfl (by decide) (by omega) (Nat.le_of_ble_eq_true rfl) (by decide) rfl ?_
                refine bk_out rfl rfl ?_
                exact K

set_option maxRecDepth 100000 in
set_option maxHeartbeats 4000000 in
theorem m_234_t {sc : List Int32} {d : Nat} {P Q N T : Nat} {c : ME} {Z : AR → Prop} {x1 : Int} {x2 : Int} {x3 : Int} {x4 : Int} (x1r : -2147483648 ≤ x1 ∧ x1 ≤ 2147483647) (x2r : -2147483648 ≤ x2 ∧ x2 ≤ 2147483647) (x3r : -2147483648 ≤ x3 ∧ x3 ≤ 2147483647) (x4r : -2147483648 ≤ x4 ∧ x4 ≤ 2147483647) (hb : x1 < 0 ∨ 12 < x1 ∨ x2 < 0 ∨ 13 < x2 ∨ x3 < 0 ∨ 16 < x3 ∨ x4 < 0 ∨ 1 < x4) (K : Z (.inl (some (vl 0)), Wd P Q N T (up (up (up c 41 0 0) 41 0 1) 42 1 (c 42 1 + 1)), 0, 0)) : Wp sc (d + 2) 234 0 [(0, .ref 41), (1, vi x1), (2, vi x2), (3, vi x3), (4, vi x4)] [] (Wd P Q N T c) 0 0 Z := by
  refine q_aload_n rfl rfl ?_
  refine q_iconst rfl ?_
  refine v_pi (z := 0) rfl rfl rfl (by decide) rfl rfl rfl (by decide) ?_
  refine q_aload_n rfl rfl ?_
  refine q_iload_n rfl rfl ?_
  refine q_iconst rfl ?_
  refine v_bip rfl (by decide) ?_
  refine q_call rfl rfl rfl rfl ?_
  refine q_iload_n rfl rfl ?_
  refine q_iload_n rfl rfl ?_
  by_cases h_18 : x1 < 0
  · refine v_ic_lt_t (t := 14) rfl (by decide) (by omega) ?_
    refine q_iconst rfl ?_
    refine v_zret rfl rfl (by omega) ?_
    refine bk_inl ?_
    refine v_if_eq_t (t := 50) rfl (by decide) (by decide) ?_
    refine q_iconst rfl ?_
    refine q_iconst rfl ?_
    refine q_iconst rfl ?_
    refine v_cv rfl rfl rfl rfl (by decide) ⟨⟨rfl, rfl⟩, by decide, rfl⟩ (Nat.le_of_ble_eq_true rfl) (Nat.le_of_ble_eq_true rfl) ?_
    refine q_iload_n rfl rfl ?_
    refine v_if_ne_f (t := 26) rfl (by decide) (by decide) ?_
    refine q_aload_n rfl rfl ?_
    refine v_gi (z := 0) (v := 0) rfl rfl rfl (by decide) rfl rfl (up_e rfl) ?_
    refine v_if_ne_f (t := 26) rfl (by decide) (by decide) ?_
    refine q_aload_n rfl rfl ?_
    refine q_iload_n rfl rfl ?_
    refine v_pi (z := 0) rfl rfl rfl (by decide) rfl rfl rfl (by decide) ?_
    refine q_aload_n rfl rfl ?_
    refine v_gr (t := 42) rfl rfl rfl (by decide) rfl ?_
    refine q_iload_n rfl rfl ?_
    refine q_dup2 rfl ⟨rfl, rfl⟩ ?_
    refine v_ia (v := c 42 1) rfl rfl (by decide) (by decide) (by decide) ((up_c (by decide)).trans (up_c (by decide))) ?_
    refine q_iconst rfl ?_
    refine v_iadd (v := c 42 1 + 1) rfl (by omega) ?_
    refine v_is rfl rfl (by decide) (by decide) (by decide) ?_
    refine q_aload_n rfl rfl ?_
    refine v_gi (z := 0) (v := 1) rfl rfl rfl (by decide) rfl rfl ((up_c (by decide)).trans (up_e rfl)) ?_
    refine v_if_ne_t (t := 37) rfl (by decide) (by decide) ?_
    refine q_iconst rfl ?_
    refine v_zret rfl rfl (by omega) ?_
    refine bk_inl ?_
    refine v_if_ne_f (t := 61) rfl (by decide) (by decide) ?_
    refine v_lconst (z := 0) rfl (by decide) ?_
    refine q_lret rfl rfl ?_
    exact K
  · refine v_ic_lt_f (t := 14) rfl (by decide) (by omega) ?_
    refine q_iload_n rfl rfl ?_
    refine q_iload_n rfl rfl ?_
    by_cases h_19 : x1 > 12
    · refine v_ic_gt_t (t := 14) rfl (by decide) (by omega) ?_
      refine q_iconst rfl ?_
      refine v_zret rfl rfl (by omega) ?_
      refine bk_inl ?_
      refine v_if_eq_t (t := 50) rfl (by decide) (by decide) ?_
      refine q_iconst rfl ?_
      refine q_iconst rfl ?_
      refine q_iconst rfl ?_
      refine v_cv rfl rfl rfl rfl (by decide) ⟨⟨rfl, rfl⟩, by decide, rfl⟩ (Nat.le_of_ble_eq_true rfl) (Nat.le_of_ble_eq_true rfl) ?_
      refine q_iload_n rfl rfl ?_
      refine v_if_ne_f (t := 26) rfl (by decide) (by decide) ?_
      refine q_aload_n rfl rfl ?_
      refine v_gi (z := 0) (v := 0) rfl rfl rfl (by decide) rfl rfl (up_e rfl) ?_
      refine v_if_ne_f (t := 26) rfl (by decide) (by decide) ?_
      refine q_aload_n rfl rfl ?_
      refine q_iload_n rfl rfl ?_
      refine v_pi (z := 0) rfl rfl rfl (by decide) rfl rfl rfl (by decide) ?_
      refine q_aload_n rfl rfl ?_
      refine v_gr (t := 42) rfl rfl rfl (by decide) rfl ?_
      refine q_iload_n rfl rfl ?_
      refine q_dup2 rfl ⟨rfl, rfl⟩ ?_
      refine v_ia (v := c 42 1) rfl rfl (by decide) (by decide) (by decide) ((up_c (by decide)).trans (up_c (by decide))) ?_
      refine q_iconst rfl ?_
      refine v_iadd (v := c 42 1 + 1) rfl (by omega) ?_
      refine v_is rfl rfl (by decide) (by decide) (by decide) ?_
      refine q_aload_n rfl rfl ?_
      refine v_gi (z := 0) (v := 1) rfl rfl rfl (by decide) rfl rfl ((up_c (by decide)).trans (up_e rfl)) ?_
      refine v_if_ne_t (t := 37) rfl (by decide) (by decide) ?_
      refine q_iconst rfl ?_
      refine v_zret rfl rfl (by omega) ?_
      refine bk_inl ?_
      refine v_if_ne_f (t := 61) rfl (by decide) (by decide) ?_
      refine v_lconst (z := 0) rfl (by decide) ?_
      refine q_lret rfl rfl ?_
      exact K
    · refine v_ic_gt_f (t := 14) rfl (by decide) (by omega) ?_
      refine q_iconst rfl ?_
      refine q_goto (t := 15) rfl (by decide) ?_
      refine v_zret rfl rfl (by omega) ?_
      refine bk_inl ?_
      refine v_if_eq_f (t := 50) rfl (by decide) (by decide) ?_
      refine q_iload_n rfl rfl ?_
      refine q_iconst rfl ?_
      refine v_bip rfl (by decide) ?_
      refine q_call rfl rfl rfl rfl ?_
      refine q_iload_n rfl rfl ?_
      refine q_iload_n rfl rfl ?_
      by_cases h_20 : x2 < 0
      · refine v_ic_lt_t (t := 14) rfl (by decide) (by omega) ?_
        refine q_iconst rfl ?_
        refine v_zret rfl rfl (by omega) ?_
        refine bk_inl ?_
        refine v_if_eq_t (t := 50) rfl (by decide) (by decide) ?_
        refine q_iconst rfl ?_
        refine q_iconst rfl ?_
        refine q_iconst rfl ?_
        refine v_cv rfl rfl rfl rfl (by decide) ⟨⟨rfl, rfl⟩, by decide, rfl⟩ (Nat.le_of_ble_eq_true rfl) (Nat.le_of_ble_eq_true rfl) ?_
        refine q_iload_n rfl rfl ?_
        refine v_if_ne_f (t := 26) rfl (by decide) (by decide) ?_
        refine q_aload_n rfl rfl ?_
        refine v_gi (z := 0) (v := 0) rfl rfl rfl (by decide) rfl rfl (up_e rfl) ?_
        refine v_if_ne_f (t := 26) rfl (by decide) (by decide) ?_
        refine q_aload_n rfl rfl ?_
        refine q_iload_n rfl rfl ?_
        refine v_pi (z := 0) rfl rfl rfl (by decide) rfl rfl rfl (by decide) ?_
        refine q_aload_n rfl rfl ?_
        refine v_gr (t := 42) rfl rfl rfl (by decide) rfl ?_
        refine q_iload_n rfl rfl ?_
        refine q_dup2 rfl ⟨rfl, rfl⟩ ?_
        refine v_ia (v := c 42 1) rfl rfl (by decide) (by decide) (by decide) ((up_c (by decide)).trans (up_c (by decide))) ?_
        refine q_iconst rfl ?_
        refine v_iadd (v := c 42 1 + 1) rfl (by omega) ?_
        refine v_is rfl rfl (by decide) (by decide) (by decide) ?_
        refine q_aload_n rfl rfl ?_
        refine v_gi (z := 0) (v := 1) rfl rfl rfl (by decide) rfl rfl ((up_c (by decide)).trans (up_e rfl)) ?_
        refine v_if_ne_t (t := 37) rfl (by decide) (by decide) ?_
        refine q_iconst rfl ?_
        refine v_zret rfl rfl (by omega) ?_
        refine bk_inl ?_
        refine v_if_ne_f (t := 61) rfl (by decide) (by decide) ?_
        refine v_lconst (z := 0) rfl (by decide) ?_
        refine q_lret rfl rfl ?_
        exact K
      · refine v_ic_lt_f (t := 14) rfl (by decide) (by omega) ?_
        refine q_iload_n rfl rfl ?_
        refine q_iload_n rfl rfl ?_
        by_cases h_21 : x2 > 13
        · refine v_ic_gt_t (t := 14) rfl (by decide) (by omega) ?_
          refine q_iconst rfl ?_
          refine v_zret rfl rfl (by omega) ?_
          refine bk_inl ?_
          refine v_if_eq_t (t := 50) rfl (by decide) (by decide) ?_
          refine q_iconst rfl ?_
          refine q_iconst rfl ?_
          refine q_iconst rfl ?_
          refine v_cv rfl rfl rfl rfl (by decide) ⟨⟨rfl, rfl⟩, by decide, rfl⟩ (Nat.le_of_ble_eq_true rfl) (Nat.le_of_ble_eq_true rfl) ?_
          refine q_iload_n rfl rfl ?_
          refine v_if_ne_f (t := 26) rfl (by decide) (by decide) ?_
          refine q_aload_n rfl rfl ?_
          refine v_gi (z := 0) (v := 0) rfl rfl rfl (by decide) rfl rfl (up_e rfl) ?_
          refine v_if_ne_f (t := 26) rfl (by decide) (by decide) ?_
          refine q_aload_n rfl rfl ?_
          refine q_iload_n rfl rfl ?_
          refine v_pi (z := 0) rfl rfl rfl (by decide) rfl rfl rfl (by decide) ?_
          refine q_aload_n rfl rfl ?_
          refine v_gr (t := 42) rfl rfl rfl (by decide) rfl ?_
          refine q_iload_n rfl rfl ?_
          refine q_dup2 rfl ⟨rfl, rfl⟩ ?_
          refine v_ia (v := c 42 1) rfl rfl (by decide) (by decide) (by decide) ((up_c (by decide)).trans (up_c (by decide))) ?_
          refine q_iconst rfl ?_
          refine v_iadd (v := c 42 1 + 1) rfl (by omega) ?_
          refine v_is rfl rfl (by decide) (by decide) (by decide) ?_
          refine q_aload_n rfl rfl ?_
          refine v_gi (z := 0) (v := 1) rfl rfl rfl (by decide) rfl rfl ((up_c (by decide)).trans (up_e rfl)) ?_
          refine v_if_ne_t (t := 37) rfl (by decide) (by decide) ?_
          refine q_iconst rfl ?_
          refine v_zret rfl rfl (by omega) ?_
          refine bk_inl ?_
          refine v_if_ne_f (t := 61) rfl (by decide) (by decide) ?_
          refine v_lconst (z := 0) rfl (by decide) ?_
          refine q_lret rfl rfl ?_
          exact K
        · refine v_ic_gt_f (t := 14) rfl (by decide) (by omega) ?_
          refine q_iconst rfl ?_
          refine q_goto (t := 15) rfl (by decide) ?_
          refine v_zret rfl rfl (by omega) ?_
          refine bk_inl ?_
          refine v_if_eq_f (t := 50) rfl (by decide) (by decide) ?_
          refine q_iload_n rfl rfl ?_
          refine q_iconst rfl ?_
          refine v_bip rfl (by decide) ?_
          refine q_call rfl rfl rfl rfl ?_
          refine q_iload_n rfl rfl ?_
          refine q_iload_n rfl rfl ?_
          by_cases h_22 : x3 < 0
          · refine v_ic_lt_t (t := 14) rfl (by decide) (by omega) ?_
            refine q_iconst rfl ?_
            refine v_zret rfl rfl (by omega) ?_
            refine bk_inl ?_
            refine v_if_eq_t (t := 50) rfl (by decide) (by decide) ?_
            refine q_iconst rfl ?_
            refine q_iconst rfl ?_
            refine q_iconst rfl ?_
            refine v_cv rfl rfl rfl rfl (by decide) ⟨⟨rfl, rfl⟩, by decide, rfl⟩ (Nat.le_of_ble_eq_true rfl) (Nat.le_of_ble_eq_true rfl) ?_
            refine q_iload_n rfl rfl ?_
            refine v_if_ne_f (t := 26) rfl (by decide) (by decide) ?_
            refine q_aload_n rfl rfl ?_
            refine v_gi (z := 0) (v := 0) rfl rfl rfl (by decide) rfl rfl (up_e rfl) ?_
            refine v_if_ne_f (t := 26) rfl (by decide) (by decide) ?_
            refine q_aload_n rfl rfl ?_
            refine q_iload_n rfl rfl ?_
            refine v_pi (z := 0) rfl rfl rfl (by decide) rfl rfl rfl (by decide) ?_
            refine q_aload_n rfl rfl ?_
            refine v_gr (t := 42) rfl rfl rfl (by decide) rfl ?_
            refine q_iload_n rfl rfl ?_
            refine q_dup2 rfl ⟨rfl, rfl⟩ ?_
            refine v_ia (v := c 42 1) rfl rfl (by decide) (by decide) (by decide) ((up_c (by decide)).trans (up_c (by decide))) ?_
            refine q_iconst rfl ?_
            refine v_iadd (v := c 42 1 + 1) rfl (by omega) ?_
            refine v_is rfl rfl (by decide) (by decide) (by decide) ?_
            refine q_aload_n rfl rfl ?_
            refine v_gi (z := 0) (v := 1) rfl rfl rfl (by decide) rfl rfl ((up_c (by decide)).trans (up_e rfl)) ?_
            refine v_if_ne_t (t := 37) rfl (by decide) (by decide) ?_
            refine q_iconst rfl ?_
            refine v_zret rfl rfl (by omega) ?_
            refine bk_inl ?_
            refine v_if_ne_f (t := 61) rfl (by decide) (by decide) ?_
            refine v_lconst (z := 0) rfl (by decide) ?_
            refine q_lret rfl rfl ?_
            exact K
          · refine v_ic_lt_f (t := 14) rfl (by decide) (by omega) ?_
            refine q_iload_n rfl rfl ?_
            refine q_iload_n rfl rfl ?_
            by_cases h_23 : x3 > 16
            · refine v_ic_gt_t (t := 14) rfl (by decide) (by omega) ?_
              refine q_iconst rfl ?_
              refine v_zret rfl rfl (by omega) ?_
              refine bk_inl ?_
              refine v_if_eq_t (t := 50) rfl (by decide) (by decide) ?_
              refine q_iconst rfl ?_
              refine q_iconst rfl ?_
              refine q_iconst rfl ?_
              refine v_cv rfl rfl rfl rfl (by decide) ⟨⟨rfl, rfl⟩, by decide, rfl⟩ (Nat.le_of_ble_eq_true rfl) (Nat.le_of_ble_eq_true rfl) ?_
              refine q_iload_n rfl rfl ?_
              refine v_if_ne_f (t := 26) rfl (by decide) (by decide) ?_
              refine q_aload_n rfl rfl ?_
              refine v_gi (z := 0) (v := 0) rfl rfl rfl (by decide) rfl rfl (up_e rfl) ?_
              refine v_if_ne_f (t := 26) rfl (by decide) (by decide) ?_
              refine q_aload_n rfl rfl ?_
              refine q_iload_n rfl rfl ?_
              refine v_pi (z := 0) rfl rfl rfl (by decide) rfl rfl rfl (by decide) ?_
              refine q_aload_n rfl rfl ?_
              refine v_gr (t := 42) rfl rfl rfl (by decide) rfl ?_
              refine q_iload_n rfl rfl ?_
              refine q_dup2 rfl ⟨rfl, rfl⟩ ?_
              refine v_ia (v := c 42 1) rfl rfl (by decide) (by decide) (by decide) ((up_c (by decide)).trans (up_c (by decide))) ?_
              refine q_iconst rfl ?_
              refine v_iadd (v := c 42 1 + 1) rfl (by omega) ?_
              refine v_is rfl rfl (by decide) (by decide) (by decide) ?_
              refine q_aload_n rfl rfl ?_
              refine v_gi (z := 0) (v := 1) rfl rfl rfl (by decide) rfl rfl ((up_c (by decide)).trans (up_e rfl)) ?_
              refine v_if_ne_t (t := 37) rfl (by decide) (by decide) ?_
              refine q_iconst rfl ?_
              refine v_zret rfl rfl (by omega) ?_
              refine bk_inl ?_
              refine v_if_ne_f (t := 61) rfl (by decide) (by decide) ?_
              refine v_lconst (z := 0) rfl (by decide) ?_
              refine q_lret rfl rfl ?_
              exact K
            · refine v_ic_gt_f (t := 14) rfl (by decide) (by omega) ?_
              refine q_iconst rfl ?_
              refine q_goto (t := 15) rfl (by decide) ?_
              refine v_zret rfl rfl (by omega) ?_
              refine bk_inl ?_
              refine v_if_eq_f (t := 50) rfl (by decide) (by decide) ?_
              refine q_iload rfl rfl ?_
              refine q_iconst rfl ?_
              refine q_iconst rfl ?_
              refine q_call rfl rfl rfl rfl ?_
              refine q_iload_n rfl rfl ?_
              refine q_iload_n rfl rfl ?_
              by_cases h_24 : x4 < 0
              · refine v_ic_lt_t (t := 14) rfl (by decide) (by omega) ?_
                refine q_iconst rfl ?_
                refine v_zret rfl rfl (by omega) ?_
                refine bk_inl ?_
                refine v_if_eq_t (t := 50) rfl (by decide) (by decide) ?_
                refine q_iconst rfl ?_
                refine q_iconst rfl ?_
                refine q_iconst rfl ?_
                refine v_cv rfl rfl rfl rfl (by decide) ⟨⟨rfl, rfl⟩, by decide, rfl⟩ (Nat.le_of_ble_eq_true rfl) (Nat.le_of_ble_eq_true rfl) ?_
                refine q_iload_n rfl rfl ?_
                refine v_if_ne_f (t := 26) rfl (by decide) (by decide) ?_
                refine q_aload_n rfl rfl ?_
                refine v_gi (z := 0) (v := 0) rfl rfl rfl (by decide) rfl rfl (up_e rfl) ?_
                refine v_if_ne_f (t := 26) rfl (by decide) (by decide) ?_
                refine q_aload_n rfl rfl ?_
                refine q_iload_n rfl rfl ?_
                refine v_pi (z := 0) rfl rfl rfl (by decide) rfl rfl rfl (by decide) ?_
                refine q_aload_n rfl rfl ?_
                refine v_gr (t := 42) rfl rfl rfl (by decide) rfl ?_
                refine q_iload_n rfl rfl ?_
                refine q_dup2 rfl ⟨rfl, rfl⟩ ?_
                refine v_ia (v := c 42 1) rfl rfl (by decide) (by decide) (by decide) ((up_c (by decide)).trans (up_c (by decide))) ?_
                refine q_iconst rfl ?_
                refine v_iadd (v := c 42 1 + 1) rfl (by omega) ?_
                refine v_is rfl rfl (by decide) (by decide) (by decide) ?_
                refine q_aload_n rfl rfl ?_
                refine v_gi (z := 0) (v := 1) rfl rfl rfl (by decide) rfl rfl ((up_c (by decide)).trans (up_e rfl)) ?_
                refine v_if_ne_t (t := 37) rfl (by decide) (by decide) ?_
                refine q_iconst rfl ?_
                refine v_zret rfl rfl (by omega) ?_
                refine bk_inl ?_
                refine v_if_ne_f (t := 61) rfl (by decide) (by decide) ?_
                refine v_lconst (z := 0) rfl (by decide) ?_
                refine q_lret rfl rfl ?_
                exact K
              · refine v_ic_lt_f (t := 14) rfl (by decide) (by omega) ?_
                refine q_iload_n rfl rfl ?_
                refine q_iload_n rfl rfl ?_
                refine v_ic_gt_t (t := 14) rfl (by decide) (by omega) ?_
                refine q_iconst rfl ?_
                refine v_zret rfl rfl (by omega) ?_
                refine bk_inl ?_
                refine v_if_eq_t (t := 50) rfl (by decide) (by decide) ?_
                refine q_iconst rfl ?_
                refine q_iconst rfl ?_
                refine q_iconst rfl ?_
                refine v_cv rfl rfl rfl rfl (by decide) ⟨⟨rfl, rfl⟩, by decide, rfl⟩ (Nat.le_of_ble_eq_true rfl) (Nat.le_of_ble_eq_true rfl) ?_
                refine q_iload_n rfl rfl ?_
                refine v_if_ne_f (t := 26) rfl (by decide) (by decide) ?_
                refine q_aload_n rfl rfl ?_
                refine v_gi (z := 0) (v := 0) rfl rfl rfl (by decide) rfl rfl (up_e rfl) ?_
                refine v_if_ne_f (t := 26) rfl (by decide) (by decide) ?_
                refine q_aload_n rfl rfl ?_
                refine q_iload_n rfl rfl ?_
                refine v_pi (z := 0) rfl rfl rfl (by decide) rfl rfl rfl (by decide) ?_
                refine q_aload_n rfl rfl ?_
                refine v_gr (t := 42) rfl rfl rfl (by decide) rfl ?_
                refine q_iload_n rfl rfl ?_
                refine q_dup2 rfl ⟨rfl, rfl⟩ ?_
                refine v_ia (v := c 42 1) rfl rfl (by decide) (by decide) (by decide) ((up_c (by decide)).trans (up_c (by decide))) ?_
                refine q_iconst rfl ?_
                refine v_iadd (v := c 42 1 + 1) rfl (by omega) ?_
                refine v_is rfl rfl (by decide) (by decide) (by decide) ?_
                refine q_aload_n rfl rfl ?_
                refine v_gi (z := 0) (v := 1) rfl rfl rfl (by decide) rfl rfl ((up_c (by decide)).trans (up_e rfl)) ?_
                refine v_if_ne_t (t := 37) rfl (by decide) (by decide) ?_
                refine q_iconst rfl ?_
                refine v_zret rfl rfl (by omega) ?_
                refine bk_inl ?_
                refine v_if_ne_f (t := 61) rfl (by decide) (by decide) ?_
                refine v_lconst (z := 0) rfl (by decide) ?_
                refine q_lret rfl rfl ?_
                exact K

theorem fst_len {q : Nat} : ∀ {l : List Nat} {p : Nat}, (fst_ q p l).length = l.length
  | [], _ => rfl
  | _ :: r, _ => congrArg (· + 1) (fst_len (q := q) (l := r))
theorem frl_len {q : Nat} : ∀ i : Nat, (frl q i).length = 14
  | 0 => rfl
  | i + 1 => by show (fst_ q 0 (frl q i)).length = 14; rw [fst_len, frl_len i]
theorem fst_z {q : Nat} : ∀ {l : List Nat} {p : Nat}, 0 < l.length → (fst_ q p l).getD 0 0 = l.getD 0 0 * (16 - q) + p * q
  | [], _, h => absurd h (by decide)
  | x :: r, p, _ => rfl
theorem fst_s {q : Nat} : ∀ {l : List Nat} {p t : Nat}, t + 1 < l.length → (fst_ q p l).getD (t + 1) 0 = l.getD (t + 1) 0 * (16 - q) + l.getD t 0 * q
  | [], _, _, h => absurd h (Nat.not_lt_zero _)
  | x :: r, p, 0, h => fst_z (q := q) (l := r) (p := x) (Nat.lt_of_succ_lt_succ h)
  | x :: r, p, t + 1, h => fst_s (q := q) (l := r) (p := x) (t := t) (Nat.lt_of_succ_lt_succ h)
theorem frl_z {q i : Nat} {y v : Int} (hq : q ≤ 16) (hy : y = ((frl q i).getD 0 0 : Int)) (hv : v = y * (16 - (q : Int)) + 0) : v = ((frl q (i + 1)).getD 0 0 : Int) := by
  show v = ((fst_ q 0 (frl q i)).getD 0 0 : Int)
  rw [fst_z (by rw [frl_len]; decide), Int.natCast_add, Int.natCast_mul, hv, hy]
  have e : ((16 - q : Nat) : Int) = 16 - (q : Int) := by omega
  rw [e, Nat.zero_mul]
  rfl
theorem frl_s {q i : Nat} (t : Nat) {y z v : Int} (hq : q ≤ 16) (ht : t + 1 < 14) (hy : y = ((frl q i).getD (t + 1) 0 : Int)) (hz : z = ((frl q i).getD t 0 : Int)) (hv : v = y * (16 - (q : Int)) + z * (q : Int)) : v = ((frl q (i + 1)).getD (t + 1) 0 : Int) := by
  show v = ((fst_ q 0 (frl q i)).getD (t + 1) 0 : Int)
  rw [fst_s (by rw [frl_len]; exact ht), Int.natCast_add, Int.natCast_mul, Int.natCast_mul, hv, hy, hz]
  have e : ((16 - q : Nat) : Int) = 16 - (q : Int) := by omega
  rw [e]
theorem frl_r {q i : Nat} (t : Nat) {y z v : Int} (hq : q ≤ 16) (ht : t + 1 < 14) (hy : y = ((frl q i).getD (t + 1) 0 : Int)) (hz : z = ((frl q i).getD t 0 : Int)) (hv : v = z * (q : Int) + y * (16 - (q : Int))) : v = ((frl q (i + 1)).getD (t + 1) 0 : Int) := frl_s t hq ht hy hz (hv.trans (Int.add_comm _ _))
theorem fdrop {l : List Nat} {j : Nat} (h : j < l.length) : fsum (l.drop j) = l.getD j 0 + fsum (l.drop (j + 1)) := by
  rw [List.drop_eq_getElem_cons h]
  show l[j] + fsum (l.drop (j + 1)) = _
  rw [List.getD_eq_getElem?_getD, List.getElem?_eq_getElem h]
  rfl
set_option maxRecDepth 100000 in
set_option maxHeartbeats 4000000 in
theorem m_233_l {sc : List Int32} {d : Nat} {w : AW} {Z : AR → Prop} {u : Nat} {b : Nat} {half : Nat} (hb : 1 ≤ b) (hb2 : b ≤ 1125899906842624) (hu : u ≤ 1125899906842624) (hh : half ≤ 1) (K : Z (.inl (some (vl (((if half = 0 then u else b) / Nat.gcd u b : Nat) : Int))), w, 0, 0)) : ∀ (n9 : Nat) (x : Nat) (y : Nat) (X : Int) (Y : Int) (hX : X = (x : Int)) (hY : Y = (y : Int)) (hg : Nat.gcd x y = Nat.gcd u b) (hr : x ≤ 1125899906842624 ∧ y ≤ 1125899906842624) (_ : (y : Int) < (n9 : Int)), Wp sc (d + 0) 233 6 [(0, vl (u : Int)), (2, vl (b : Int)), (4, vi (half : Int)), (5, vl X), (7, vl Y)] [] w 0 0 Z
  | 0, x, y, X, Y, hX, hY, hg, hr, hn9 => by exfalso; omega
  | n9 + 1, x, y, X, Y, hX, hY, hg, hr, hn9 => by
    refine q_lload rfl rfl ?_
    refine v_lconst (z := 0) rfl (by decide) ?_
    by_cases h_25 : Y = 0
    · refine v_lcmp0 rfl (by omega) ?_
      refine v_if_eq_t (t := 31) rfl (by decide) (by decide) ?_
      obtain rfl : y = 0 := by omega
      have hx : x = Nat.gcd u b := by rw [← hg, Nat.gcd_zero_right]
      have hx1 : 0 < x := by rw [hx]; exact Nat.gcd_pos_of_pos_right u hb
      refine q_iload rfl rfl ?_
      by_cases h_26 : (half : Int) ≠ 0
      · refine v_if_ne_t (t := 40) rfl (by decide) (by omega) ?_
        refine q_lload_n rfl rfl ?_
        refine q_lload rfl rfl ?_
        refine v_ldiv (v := ((b : Int) / X)) rfl (by omega) rfl ?_
        refine q_lret rfl rfl ?_
        exact zl (by rw [hX, hx, if_neg (by omega)]; rfl) K
      · refine v_if_ne_f (t := 40) rfl (by decide) (by omega) ?_
        refine q_lload_n rfl rfl ?_
        refine q_goto (t := 41) rfl (by decide) ?_
        refine q_lload rfl rfl ?_
        refine v_ldiv (v := ((u : Int) / X)) rfl (by omega) rfl ?_
        refine q_lret rfl rfl ?_
        exact zl (by rw [hX, hx, if_pos (by omega)]; rfl) K
    · refine v_lcmp1 rfl (by omega) ?_
      refine v_if_eq_f (t := 31) rfl (by decide) (by decide) ?_
      refine q_lload rfl rfl ?_
      refine q_lload rfl rfl ?_
      refine v_lrem (v := (X % Y)) rfl (by omega) rfl ?_
      refine q_lstore rfl (by decide) ?_
      refine q_lload rfl rfl ?_
      refine q_lstore rfl (by decide) ?_
      refine q_lload rfl rfl ?_
      refine q_lstore rfl (by decide) ?_
      refine q_goto (t := 6) rfl (by decide) ?_
      have hlt := Nat.mod_lt x (show y > 0 by omega)
      refine Wp_ls [(0, vl (u : Int)), (2, vl (b : Int)), (4, vi (half : Int)), (5, vl Y), (7, vl (X % Y))] (lsub_cons rfl (lsub_cons rfl (lsub_cons rfl (lsub_cons rfl (lsub_cons rfl lsub_nil))))) ?_
      exact m_233_l (u := u) (b := b) (half := half) hb hb2 hu hh K n9 y (x % y) Y (X % Y) hY (by rw [hX, hY]; rfl) (by rw [← hg, Nat.gcd_comm x y, Nat.gcd_rec y x, Nat.gcd_comm]) (by omega) (by omega)

set_option maxRecDepth 100000 in
set_option maxHeartbeats 4000000 in
theorem m_233 {sc : List Int32} {d : Nat} {w : AW} {Z : AR → Prop} {U : Int} {B : Int} {H : Int} (u : Nat) (b : Nat) (half : Nat) (hU : U = (u : Int)) (hB : B = (b : Int)) (hH : H = (half : Int)) (hb : 1 ≤ b) (hb2 : b ≤ 1125899906842624) (hu : u ≤ 1125899906842624) (hh : half ≤ 1) (K : Z (.inl (some (vl (((if half = 0 then u else b) / Nat.gcd u b : Nat) : Int))), w, 0, 0)) : Wp sc (d + 0) 233 0 [(0, vl U), (2, vl B), (4, vi H)] [] w 0 0 Z := by
  subst hU hB hH
  refine q_lload_n rfl rfl ?_
  refine q_lstore rfl (by decide) ?_
  refine q_lload_n rfl rfl ?_
  refine q_lstore rfl (by decide) ?_
  refine Wp_ls [(0, vl (u : Int)), (2, vl (b : Int)), (4, vi (half : Int)), (5, vl (u : Int)), (7, vl (b : Int))] (lsub_cons rfl (lsub_cons rfl (lsub_cons rfl (lsub_cons rfl (lsub_cons rfl lsub_nil))))) ?_
  exact m_233_l (u := u) (b := b) (half := half) hb hb2 hu hh K 1125899906842625 u b (u : Int) (b : Int) rfl rfl rfl (by omega) (by omega)

set_option maxRecDepth 100000 in
set_option maxHeartbeats 4000000 in
theorem m_234_s {sc : List Int32} {d : Nat} {P Q N T : Nat} {Z : AR → Prop} {n : Nat} {k : Nat} {q : Nat} {half : Nat} {B : Int} {c : ME} {c9 : ME} (hn : n ≤ 12) (hk : k ≤ 13) (hq : q ≤ 16) (hh : half ≤ 1) (hB0 : B = 16 ^ n) (hcr : ∀ t : Nat, t < 14 → c9 65 (t : Int) = ((frl q n).getD t 0 : Int)) (hc9 : ∀ a : Nat, ¬ a = 65 → c9 a = c a) (K : ∀ c2 : ME, (∀ a : Nat, ¬ a = 65 → c2 a = c a) → Z (.inl (some (vl (fref n k q half))), Wd P Q N T c2, 0, 0)) : ∀ (n9 : Nat) (j : Nat) (U : Int) (h1 : j ≤ 14) (hs : U + (fsum ((frl q n).drop j) : Int) = (fsum ((frl q n).drop k) : Int)) (_ : (14 : Int) - (j : Int) < (n9 : Int)), Wp sc (d + 1) 234 183 [(0, .ref 41), (4, vi (half : Int)), (5, vl B), (7, vl U), (9, vi (j : Int))] [] (Wd P Q N T c9) 0 0 Z
  | 0, j, U, h1, hs, hn9 => by exfalso; omega
  | n9 + 1, j, U, h1, hs, hn9 => by
    refine q_iload rfl rfl ?_
    refine v_bip rfl (by decide) ?_
    by_cases h_27 : (j : Int) ≥ 14
    · refine v_ic_ge_t (t := 208) rfl (by decide) (by omega) ?_
      have hU : U = (fsum ((frl q n).drop k) : Int) := by rw [← hs, List.drop_eq_nil_of_le (by rw [frl_len]; omega)]; exact (Int.add_zero U).symm
      have hb1 : 1 ≤ 16 ^ n := Nat.one_le_pow _ _ (by decide)
      have hb2 : 16 ^ n ≤ 1125899906842624 := Nat.le_trans (Nat.pow_le_pow_right (by decide) hn) (by decide)
      have hB : B = ((16 ^ n : Nat) : Int) := by rw [hB0, Int.natCast_pow]; rfl
      refine q_lload rfl rfl ?_
      refine q_lload rfl rfl ?_
      refine q_iload rfl rfl ?_
      refine q_call rfl rfl rfl rfl (m_233 (fsum ((frl q n).drop k)) (16 ^ n) half hU hB rfl hb1 hb2 (fs_rng hn hk hq) hh ?_)
      refine bk_inl ?_
      refine q_lret rfl rfl ?_
      exact K c9 hc9
    · refine v_ic_ge_f (t := 208) rfl (by decide) (by omega) ?_
      refine q_lload rfl rfl ?_
      refine q_aload_n rfl rfl ?_
      refine v_gr (t := 65) rfl rfl rfl (by decide) rfl ?_
      refine q_iload rfl rfl ?_
      refine v_la (v := c9 65 (j : Int)) rfl rfl (by decide) (by decide) (by omega) rfl ?_
      refine v_ladd (v := U + c9 65 (j : Int)) rfl (by omega) ?_
      refine q_lstore rfl (by decide) ?_
      refine v_iinc (v := (j : Int) + 1) rfl rfl (by decide) (by omega) ?_
      refine q_goto (t := 183) rfl (by decide) ?_
      refine Wp_ls [(0, .ref 41), (4, vi (half : Int)), (5, vl B), (7, vl (U + c9 65 (j : Int))), (9, vi ((j : Int) + 1))] (lsub_cons rfl (lsub_cons rfl (lsub_cons rfl (lsub_cons rfl (lsub_cons rfl lsub_nil))))) ?_
      exact m_234_s (n := n) (k := k) (q := q) (half := half) (B := B) (c := c) (c9 := c9) hn hk hq hh hB0 hcr hc9 K n9 (j + 1) (U + c9 65 (j : Int)) (by omega) (by rw [← hs, fdrop (l := frl q n) (j := j) (by rw [frl_len]; omega), Int.natCast_add, hcr j (by omega)]; omega) (by omega)

set_option maxRecDepth 100000 in
set_option maxHeartbeats 4000000 in
theorem m_234_r {sc : List Int32} {d : Nat} {P Q N T : Nat} {Z : AR → Prop} {n : Nat} {k : Nat} {q : Nat} {half : Nat} {c : ME} (hn : n ≤ 12) (hk : k ≤ 13) (hq : q ≤ 16) (hh : half ≤ 1) (K : ∀ c2 : ME, (∀ a : Nat, ¬ a = 65 → c2 a = c a) → Z (.inl (some (vl (fref n k q half))), Wd P Q N T c2, 0, 0)) : ∀ (n9 : Nat) (i : Nat) (B : Int) (c9 : ME) (h1 : i ≤ n) (hB0 : B = 16 ^ i) (hcr : ∀ t : Nat, t < 14 → c9 65 (t : Int) = ((frl q i).getD t 0 : Int)) (hc9 : ∀ a : Nat, ¬ a = 65 → c9 a = c a) (_ : (n : Int) - (i : Int) < (n9 : Int)), Wp sc (d + 1) 234 100 [(0, .ref 41), (1, vi (n : Int)), (2, vi (k : Int)), (3, vi (q : Int)), (4, vi (half : Int)), (5, vl B), (7, vi (i : Int))] [] (Wd P Q N T c9) 0 0 Z
  | 0, i, B, c9, h1, hB0, hcr, hc9, hn9 => by exfalso; omega
  | n9 + 1, i, B, c9, h1, hB0, hcr, hc9, hn9 => by
    refine q_iload rfl rfl ?_
    refine q_iload_n rfl rfl ?_
    by_cases h_28 : (i : Int) ≥ (n : Int)
    · refine v_ic_ge_t (t := 177) rfl (by decide) (by omega) ?_
      refine v_lconst (z := 0) rfl (by decide) ?_
      refine q_lstore rfl (by decide) ?_
      refine q_iload_n rfl rfl ?_
      refine q_istore rfl (by decide) ?_
      refine Wp_ls [(0, .ref 41), (4, vi (half : Int)), (5, vl B), (7, vl 0), (9, vi (k : Int))] (lsub_cons rfl (lsub_cons rfl (lsub_cons rfl (lsub_cons rfl (lsub_cons rfl lsub_nil))))) ?_
      exact m_234_s (n := n) (k := k) (q := q) (half := half) (B := B) (c := c) (c9 := c9) hn hk hq hh (by rw [hB0, show i = n by omega]) (fun t ht => by rw [hcr t ht, show i = n by omega]) hc9 K 15 k 0 (by omega) (Int.zero_add _) (by omega)
    · refine v_ic_ge_f (t := 177) rfl (by decide) (by omega) ?_
      refine v_bip rfl (by decide) ?_
      refine q_istore rfl (by decide) ?_
      refine q_iload rfl rfl ?_
      refine v_if_lt_f (t := 163) rfl (by decide) (by decide) ?_
      refine q_aload_n rfl rfl ?_
      refine v_gr (t := 65) rfl rfl rfl (by decide) rfl ?_
      refine q_iload rfl rfl ?_
      refine q_aload_n rfl rfl ?_
      refine v_gr (t := 65) rfl rfl rfl (by decide) rfl ?_
      refine q_iload rfl rfl ?_
      refine v_la (v := c9 65 13) rfl rfl (by decide) (by decide) (by decide) rfl ?_
      refine v_bip rfl (by decide) ?_
      refine q_iload_n rfl rfl ?_
      refine v_isub (v := 16 - (q : Int)) rfl (by omega) ?_
      refine v_i2l rfl (by omega) ?_
      refine v_lmul (v := ((c9 65 13) * (16 - (q : Int)))) rfl rfl ?_
      refine q_iload rfl rfl ?_
      refine v_if_le_f (t := 154) rfl (by decide) (by decide) ?_
      refine q_aload_n rfl rfl ?_
      refine v_gr (t := 65) rfl rfl rfl (by decide) rfl ?_
      refine q_iload rfl rfl ?_
      refine q_iconst rfl ?_
      refine v_isub (v := 12) rfl (by decide) ?_
      refine v_la (v := c9 65 12) rfl rfl (by decide) (by decide) (by decide) rfl ?_
      refine q_iload_n rfl rfl ?_
      refine v_i2l rfl (by omega) ?_
      refine v_lmul (v := ((c9 65 12) * (q : Int))) rfl rfl ?_
      refine q_goto (t := 155) rfl (by decide) ?_
      refine v_ladd (v := ((c9 65 12) * (q : Int)) + ((c9 65 13) * (16 - (q : Int)))) rfl (by omega) ?_
      refine v_ls rfl rfl (by decide) (by decide) (by decide) ?_
      refine v_iinc (v := 12) rfl rfl (by decide) (by decide) ?_
      refine q_goto (t := 110) rfl (by decide) ?_
      refine q_iload rfl rfl ?_
      refine v_if_lt_f (t := 163) rfl (by decide) (by decide) ?_
      refine q_aload_n rfl rfl ?_
      refine v_gr (t := 65) rfl rfl rfl (by decide) rfl ?_
      refine q_iload rfl rfl ?_
      refine q_aload_n rfl rfl ?_
      refine v_gr (t := 65) rfl rfl rfl (by decide) rfl ?_
      refine q_iload rfl rfl ?_
      refine v_la (v := c9 65 12) rfl rfl (by decide) (by decide) (by decide) (up_n (by decide)) ?_
      refine v_bip rfl (by decide) ?_
      refine q_iload_n rfl rfl ?_
      refine v_isub (v := 16 - (q : Int)) rfl (by omega) ?_
      refine v_i2l rfl (by omega) ?_
      refine v_lmul (v := ((c9 65 12) * (16 - (q : Int)))) rfl rfl ?_
      refine q_iload rfl rfl ?_
      refine v_if_le_f (t := 154) rfl (by decide) (by decide) ?_
      refine q_aload_n rfl rfl ?_
      refine v_gr (t := 65) rfl rfl rfl (by decide) rfl ?_
      refine q_iload rfl rfl ?_
      refine q_iconst rfl ?_
      refine v_isub (v := 11) rfl (by decide) ?_
      refine v_la (v := c9 65 11) rfl rfl (by decide) (by decide) (by decide) (up_n (by decide)) ?_
      refine q_iload_n rfl rfl ?_
      refine v_i2l rfl (by omega) ?_
      refine v_lmul (v := ((c9 65 11) * (q : Int))) rfl rfl ?_
      refine q_goto (t := 155) rfl (by decide) ?_
      refine v_ladd (v := ((c9 65 11) * (q : Int)) + ((c9 65 12) * (16 - (q : Int)))) rfl (by omega) ?_
      refine v_ls rfl rfl (by decide) (by decide) (by decide) ?_
      refine v_iinc (v := 11) rfl rfl (by decide) (by decide) ?_
      refine q_goto (t := 110) rfl (by decide) ?_
      refine q_iload rfl rfl ?_
      refine v_if_lt_f (t := 163) rfl (by decide) (by decide) ?_
      refine q_aload_n rfl rfl ?_
      refine v_gr (t := 65) rfl rfl rfl (by decide) rfl ?_
      refine q_iload rfl rfl ?_
      refine q_aload_n rfl rfl ?_
      refine v_gr (t := 65) rfl rfl rfl (by decide) rfl ?_
      refine q_iload rfl rfl ?_
      refine v_la (v := c9 65 11) rfl rfl (by decide) (by decide) (by decide) ((up_n (by decide)).trans (up_n (by decide))) ?_
      refine v_bip rfl (by decide) ?_
      refine q_iload_n rfl rfl ?_
      refine v_isub (v := 16 - (q : Int)) rfl (by omega) ?_
      refine v_i2l rfl (by omega) ?_
      refine v_lmul (v := ((c9 65 11) * (16 - (q : Int)))) rfl rfl ?_
      refine q_iload rfl rfl ?_
      refine v_if_le_f (t := 154) rfl (by decide) (by decide) ?_
      refine q_aload_n rfl rfl ?_
      refine v_gr (t := 65) rfl rfl rfl (by decide) rfl ?_
      refine q_iload rfl rfl ?_
      refine q_iconst rfl ?_
      refine v_isub (v := 10) rfl (by decide) ?_
      refine v_la (v := c9 65 10) rfl rfl (by decide) (by decide) (by decide) ((up_n (by decide)).trans (up_n (by decide))) ?_
      refine q_iload_n rfl rfl ?_
      refine v_i2l rfl (by omega) ?_
      refine v_lmul (v := ((c9 65 10) * (q : Int))) rfl rfl ?_
      refine q_goto (t := 155) rfl (by decide) ?_
      refine v_ladd (v := ((c9 65 10) * (q : Int)) + ((c9 65 11) * (16 - (q : Int)))) rfl (by omega) ?_
      refine v_ls rfl rfl (by decide) (by decide) (by decide) ?_
      refine v_iinc (v := 10) rfl rfl (by decide) (by decide) ?_
      refine q_goto (t := 110) rfl (by decide) ?_
      refine q_iload rfl rfl ?_
      refine v_if_lt_f (t := 163) rfl (by decide) (by decide) ?_
      refine q_aload_n rfl rfl ?_
      refine v_gr (t := 65) rfl rfl rfl (by decide) rfl ?_
      refine q_iload rfl rfl ?_
      refine q_aload_n rfl rfl ?_
      refine v_gr (t := 65) rfl rfl rfl (by decide) rfl ?_
      refine q_iload rfl rfl ?_
      refine v_la (v := c9 65 10) rfl rfl (by decide) (by decide) (by decide) ((up_n (by decide)).trans ((up_n (by decide)).trans (up_n (by decide)))) ?_
      refine v_bip rfl (by decide) ?_
      refine q_iload_n rfl rfl ?_
      refine v_isub (v := 16 - (q : Int)) rfl (by omega) ?_
      refine v_i2l rfl (by omega) ?_
      refine v_lmul (v := ((c9 65 10) * (16 - (q : Int)))) rfl rfl ?_
      refine q_iload rfl rfl ?_
      refine v_if_le_f (t := 154) rfl (by decide) (by decide) ?_
      refine q_aload_n rfl rfl ?_
      refine v_gr (t := 65) rfl rfl rfl (by decide) rfl ?_
      refine q_iload rfl rfl ?_
      refine q_iconst rfl ?_
      refine v_isub (v := 9) rfl (by decide) ?_
      refine v_la (v := c9 65 9) rfl rfl (by decide) (by decide) (by decide) ((up_n (by decide)).trans ((up_n (by decide)).trans (up_n (by decide)))) ?_
      refine q_iload_n rfl rfl ?_
      refine v_i2l rfl (by omega) ?_
      refine v_lmul (v := ((c9 65 9) * (q : Int))) rfl rfl ?_
      refine q_goto (t := 155) rfl (by decide) ?_
      refine v_ladd (v := ((c9 65 10) * (16 - (q : Int))) + ((c9 65 9) * (q : Int))) rfl (by omega) ?_
      refine v_ls rfl rfl (by decide) (by decide) (by decide) ?_
      refine v_iinc (v := 9) rfl rfl (by decide) (by decide) ?_
      refine Wp_ls [(8, vi 9), (0, .ref 41), (1, vi (n : Int)), (2, vi (k : Int)), (3, vi (q : Int)), (4, vi (half : Int)), (5, vl B), (7, vi (i : Int))] (lsub_cons rfl (lsub_cons rfl (lsub_cons rfl (lsub_cons rfl (lsub_cons rfl (lsub_cons rfl (lsub_cons rfl (lsub_cons rfl lsub_nil)))))))) ?_
      refine q_goto (t := 110) rfl (by decide) ?_
      refine q_iload rfl rfl ?_
      refine v_if_lt_f (t := 163) rfl (by decide) (by decide) ?_
      refine q_aload_n rfl rfl ?_
      refine v_gr (t := 65) rfl rfl rfl (by decide) rfl ?_
      refine q_iload rfl rfl ?_
      refine q_aload_n rfl rfl ?_
      refine v_gr (t := 65) rfl rfl rfl (by decide) rfl ?_
      refine q_iload rfl rfl ?_
      refine v_la (v := c9 65 9) rfl rfl (by decide) (by decide) (by decide) ((up_n (by decide)).trans ((up_n (by decide)).trans ((up_n (by decide)).trans (up_n (by decide))))) ?_
      refine v_bip rfl (by decide) ?_
      refine q_iload_n rfl rfl ?_
      refine v_isub (v := 16 - (q : Int)) rfl (by omega) ?_
      refine v_i2l rfl (by omega) ?_
      refine v_lmul (v := ((c9 65 9) * (16 - (q : Int)))) rfl rfl ?_
      refine q_iload rfl rfl ?_
      refine v_if_le_f (t := 154) rfl (by decide) (by decide) ?_
      refine q_aload_n rfl rfl ?_
      refine v_gr (t := 65) rfl rfl rfl (by decide) rfl ?_
      refine q_iload rfl rfl ?_
      refine q_iconst rfl ?_
      refine v_isub (v := 8) rfl (by decide) ?_
      refine v_la (v := c9 65 8) rfl rfl (by decide) (by decide) (by decide) ((up_n (by decide)).trans ((up_n (by decide)).trans ((up_n (by decide)).trans (up_n (by decide))))) ?_
      refine q_iload_n rfl rfl ?_
      refine v_i2l rfl (by omega) ?_
      refine v_lmul (v := ((c9 65 8) * (q : Int))) rfl rfl ?_
      refine q_goto (t := 155) rfl (by decide) ?_
      refine v_ladd (v := ((c9 65 8) * (q : Int)) + ((c9 65 9) * (16 - (q : Int)))) rfl (by omega) ?_
      refine v_ls rfl rfl (by decide) (by decide) (by decide) ?_
      refine v_iinc (v := 8) rfl rfl (by decide) (by decide) ?_
      refine q_goto (t := 110) rfl (by decide) ?_
      refine q_iload rfl rfl ?_
      refine v_if_lt_f (t := 163) rfl (by decide) (by decide) ?_
      refine q_aload_n rfl rfl ?_
      refine v_gr (t := 65) rfl rfl rfl (by decide) rfl ?_
      refine q_iload rfl rfl ?_
      refine q_aload_n rfl rfl ?_
      refine v_gr (t := 65) rfl rfl rfl (by decide) rfl ?_
      refine q_iload rfl rfl ?_
      refine v_la (v := c9 65 8) rfl rfl (by decide) (by decide) (by decide) ((up_n (by decide)).trans ((up_n (by decide)).trans ((up_n (by decide)).trans ((up_n (by decide)).trans (up_n (by decide)))))) ?_
      refine v_bip rfl (by decide) ?_
      refine q_iload_n rfl rfl ?_
      refine v_isub (v := 16 - (q : Int)) rfl (by omega) ?_
      refine v_i2l rfl (by omega) ?_
      refine v_lmul (v := ((c9 65 8) * (16 - (q : Int)))) rfl rfl ?_
      refine q_iload rfl rfl ?_
      refine v_if_le_f (t := 154) rfl (by decide) (by decide) ?_
      refine q_aload_n rfl rfl ?_
      refine v_gr (t := 65) rfl rfl rfl (by decide) rfl ?_
      refine q_iload rfl rfl ?_
      refine q_iconst rfl ?_
      refine v_isub (v := 7) rfl (by decide) ?_
      refine v_la (v := c9 65 7) rfl rfl (by decide) (by decide) (by decide) ((up_n (by decide)).trans ((up_n (by decide)).trans ((up_n (by decide)).trans ((up_n (by decide)).trans (up_n (by decide)))))) ?_
      refine q_iload_n rfl rfl ?_
      refine v_i2l rfl (by omega) ?_
      refine v_lmul (v := ((c9 65 7) * (q : Int))) rfl rfl ?_
      refine q_goto (t := 155) rfl (by decide) ?_
      refine v_ladd (v := ((c9 65 7) * (q : Int)) + ((c9 65 8) * (16 - (q : Int)))) rfl (by omega) ?_
      refine v_ls rfl rfl (by decide) (by decide) (by decide) ?_
      refine v_iinc (v := 7) rfl rfl (by decide) (by decide) ?_
      refine q_goto (t := 110) rfl (by decide) ?_
      refine q_iload rfl rfl ?_
      refine v_if_lt_f (t := 163) rfl (by decide) (by decide) ?_
      refine q_aload_n rfl rfl ?_
      refine v_gr (t := 65) rfl rfl rfl (by decide) rfl ?_
      refine q_iload rfl rfl ?_
      refine q_aload_n rfl rfl ?_
      refine v_gr (t := 65) rfl rfl rfl (by decide) rfl ?_
      refine q_iload rfl rfl ?_
      refine v_la (v := c9 65 7) rfl rfl (by decide) (by decide) (by decide) ((up_n (by decide)).trans ((up_n (by decide)).trans ((up_n (by decide)).trans ((up_n (by decide)).trans ((up_n (by decide)).trans (up_n (by decide))))))) ?_
      refine v_bip rfl (by decide) ?_
      refine q_iload_n rfl rfl ?_
      refine v_isub (v := 16 - (q : Int)) rfl (by omega) ?_
      refine v_i2l rfl (by omega) ?_
      refine v_lmul (v := ((c9 65 7) * (16 - (q : Int)))) rfl rfl ?_
      refine q_iload rfl rfl ?_
      refine v_if_le_f (t := 154) rfl (by decide) (by decide) ?_
      refine q_aload_n rfl rfl ?_
      refine v_gr (t := 65) rfl rfl rfl (by decide) rfl ?_
      refine q_iload rfl rfl ?_
      refine q_iconst rfl ?_
      refine v_isub (v := 6) rfl (by decide) ?_
      refine v_la (v := c9 65 6) rfl rfl (by decide) (by decide) (by decide) ((up_n (by decide)).trans ((up_n (by decide)).trans ((up_n (by decide)).trans ((up_n (by decide)).trans ((up_n (by decide)).trans (up_n (by decide))))))) ?_
      refine q_iload_n rfl rfl ?_
      refine v_i2l rfl (by omega) ?_
      refine v_lmul (v := ((c9 65 6) * (q : Int))) rfl rfl ?_
      refine q_goto (t := 155) rfl (by decide) ?_
      refine v_ladd (v := ((c9 65 6) * (q : Int)) + ((c9 65 7) * (16 - (q : Int)))) rfl (by omega) ?_
      refine v_ls rfl rfl (by decide) (by decide) (by decide) ?_
      refine v_iinc (v := 6) rfl rfl (by decide) (by decide) ?_
      refine q_goto (t := 110) rfl (by decide) ?_
      refine q_iload rfl rfl ?_
      refine v_if_lt_f (t := 163) rfl (by decide) (by decide) ?_
      refine q_aload_n rfl rfl ?_
      refine v_gr (t := 65) rfl rfl rfl (by decide) rfl ?_
      refine q_iload rfl rfl ?_
      refine q_aload_n rfl rfl ?_
      refine v_gr (t := 65) rfl rfl rfl (by decide) rfl ?_
      refine q_iload rfl rfl ?_
      refine v_la (v := c9 65 6) rfl rfl (by decide) (by decide) (by decide) ((up_n (by decide)).trans ((up_n (by decide)).trans ((up_n (by decide)).trans ((up_n (by decide)).trans ((up_n (by decide)).trans ((up_n (by decide)).trans (up_n (by decide)))))))) ?_
      refine v_bip rfl (by decide) ?_
      refine q_iload_n rfl rfl ?_
      refine v_isub (v := 16 - (q : Int)) rfl (by omega) ?_
      refine v_i2l rfl (by omega) ?_
      refine v_lmul (v := ((c9 65 6) * (16 - (q : Int)))) rfl rfl ?_
      refine q_iload rfl rfl ?_
      refine v_if_le_f (t := 154) rfl (by decide) (by decide) ?_
      refine q_aload_n rfl rfl ?_
      refine v_gr (t := 65) rfl rfl rfl (by decide) rfl ?_
      refine q_iload rfl rfl ?_
      refine q_iconst rfl ?_
      refine v_isub (v := 5) rfl (by decide) ?_
      refine v_la (v := c9 65 5) rfl rfl (by decide) (by decide) (by decide) ((up_n (by decide)).trans ((up_n (by decide)).trans ((up_n (by decide)).trans ((up_n (by decide)).trans ((up_n (by decide)).trans ((up_n (by decide)).trans (up_n (by decide)))))))) ?_
      refine q_iload_n rfl rfl ?_
      refine v_i2l rfl (by omega) ?_
      refine v_lmul (v := ((c9 65 5) * (q : Int))) rfl rfl ?_
      refine q_goto (t := 155) rfl (by decide) ?_
      refine v_ladd (v := ((c9 65 5) * (q : Int)) + ((c9 65 6) * (16 - (q : Int)))) rfl (by omega) ?_
      refine v_ls rfl rfl (by decide) (by decide) (by decide) ?_
      refine v_iinc (v := 5) rfl rfl (by decide) (by decide) ?_
      refine q_goto (t := 110) rfl (by decide) ?_
      refine q_iload rfl rfl ?_
      refine v_if_lt_f (t := 163) rfl (by decide) (by decide) ?_
      refine q_aload_n rfl rfl ?_
      refine v_gr (t := 65) rfl rfl rfl (by decide) rfl ?_
      refine q_iload rfl rfl ?_
      refine q_aload_n rfl rfl ?_
      refine v_gr (t := 65) rfl rfl rfl (by decide) rfl ?_
      refine q_iload rfl rfl ?_
      refine v_la (v := c9 65 5) rfl rfl (by decide) (by decide) (by decide) ((up_n (by decide)).trans ((up_n (by decide)).trans ((up_n (by decide)).trans ((up_n (by decide)).trans ((up_n (by decide)).trans ((up_n (by decide)).trans ((up_n (by decide)).trans (up_n (by decide))))))))) ?_
      refine v_bip rfl (by decide) ?_
      refine q_iload_n rfl rfl ?_
      refine v_isub (v := 16 - (q : Int)) rfl (by omega) ?_
      refine v_i2l rfl (by omega) ?_
      refine v_lmul (v := ((c9 65 5) * (16 - (q : Int)))) rfl rfl ?_
      refine q_iload rfl rfl ?_
      refine v_if_le_f (t := 154) rfl (by decide) (by decide) ?_
      refine q_aload_n rfl rfl ?_
      refine v_gr (t := 65) rfl rfl rfl (by decide) rfl ?_
      refine q_iload rfl rfl ?_
      refine q_iconst rfl ?_
      refine v_isub (v := 4) rfl (by decide) ?_
      refine v_la (v := c9 65 4) rfl rfl (by decide) (by decide) (by decide) ((up_n (by decide)).trans ((up_n (by decide)).trans ((up_n (by decide)).trans ((up_n (by decide)).trans ((up_n (by decide)).trans ((up_n (by decide)).trans ((up_n (by decide)).trans (up_n (by decide))))))))) ?_
      refine q_iload_n rfl rfl ?_
      refine v_i2l rfl (by omega) ?_
      refine v_lmul (v := ((c9 65 4) * (q : Int))) rfl rfl ?_
      refine q_goto (t := 155) rfl (by decide) ?_
      refine v_ladd (v := ((c9 65 4) * (q : Int)) + ((c9 65 5) * (16 - (q : Int)))) rfl (by omega) ?_
      refine v_ls rfl rfl (by decide) (by decide) (by decide) ?_
      refine v_iinc (v := 4) rfl rfl (by decide) (by decide) ?_
      refine Wp_ls [(8, vi 4), (0, .ref 41), (1, vi (n : Int)), (2, vi (k : Int)), (3, vi (q : Int)), (4, vi (half : Int)), (5, vl B), (7, vi (i : Int))] (lsub_cons rfl (lsub_cons rfl (lsub_cons rfl (lsub_cons rfl (lsub_cons rfl (lsub_cons rfl (lsub_cons rfl (lsub_cons rfl lsub_nil)))))))) ?_
      refine q_goto (t := 110) rfl (by decide) ?_
      refine q_iload rfl rfl ?_
      refine v_if_lt_f (t := 163) rfl (by decide) (by decide) ?_
      refine q_aload_n rfl rfl ?_
      refine v_gr (t := 65) rfl rfl rfl (by decide) rfl ?_
      refine q_iload rfl rfl ?_
      refine q_aload_n rfl rfl ?_
      refine v_gr (t := 65) rfl rfl rfl (by decide) rfl ?_
      refine q_iload rfl rfl ?_
      refine v_la (v := c9 65 4) rfl rfl (by decide) (by decide) (by decide) ((up_n (by decide)).trans ((up_n (by decide)).trans ((up_n (by decide)).trans ((up_n (by decide)).trans ((up_n (by decide)).trans ((up_n (by decide)).trans ((up_n (by decide)).trans ((up_n (by decide)).trans (up_n (by decide)))))))))) ?_
      refine v_bip rfl (by decide) ?_
      refine q_iload_n rfl rfl ?_
      refine v_isub (v := 16 - (q : Int)) rfl (by omega) ?_
      refine v_i2l rfl (by omega) ?_
      refine v_lmul (v := ((c9 65 4) * (16 - (q : Int)))) rfl rfl ?_
      refine q_iload rfl rfl ?_
      refine v_if_le_f (t := 154) rfl (by decide) (by decide) ?_
      refine q_aload_n rfl rfl ?_
      refine v_gr (t := 65) rfl rfl rfl (by decide) rfl ?_
      refine q_iload rfl rfl ?_
      refine q_iconst rfl ?_
      refine v_isub (v := 3) rfl (by decide) ?_
      refine v_la (v := c9 65 3) rfl rfl (by decide) (by decide) (by decide) ((up_n (by decide)).trans ((up_n (by decide)).trans ((up_n (by decide)).trans ((up_n (by decide)).trans ((up_n (by decide)).trans ((up_n (by decide)).trans ((up_n (by decide)).trans ((up_n (by decide)).trans (up_n (by decide)))))))))) ?_
      refine q_iload_n rfl rfl ?_
      refine v_i2l rfl (by omega) ?_
      refine v_lmul (v := ((c9 65 3) * (q : Int))) rfl rfl ?_
      refine q_goto (t := 155) rfl (by decide) ?_
      refine v_ladd (v := ((c9 65 3) * (q : Int)) + ((c9 65 4) * (16 - (q : Int)))) rfl (by omega) ?_
      refine v_ls rfl rfl (by decide) (by decide) (by decide) ?_
      refine v_iinc (v := 3) rfl rfl (by decide) (by decide) ?_
      refine q_goto (t := 110) rfl (by decide) ?_
      refine q_iload rfl rfl ?_
      refine v_if_lt_f (t := 163) rfl (by decide) (by decide) ?_
      refine q_aload_n rfl rfl ?_
      refine v_gr (t := 65) rfl rfl rfl (by decide) rfl ?_
      refine q_iload rfl rfl ?_
      refine q_aload_n rfl rfl ?_
      refine v_gr (t := 65) rfl rfl rfl (by decide) rfl ?_
      refine q_iload rfl rfl ?_
      refine v_la (v := c9 65 3) rfl rfl (by decide) (by decide) (by decide) ((up_n (by decide)).trans ((up_n (by decide)).trans ((up_n (by decide)).trans ((up_n (by decide)).trans ((up_n (by decide)).trans ((up_n (by decide)).trans ((up_n (by decide)).trans ((up_n (by decide)).trans ((up_n (by decide)).trans (up_n (by decide))))))))))) ?_
      refine v_bip rfl (by decide) ?_
      refine q_iload_n rfl rfl ?_
      refine v_isub (v := 16 - (q : Int)) rfl (by omega) ?_
      refine v_i2l rfl (by omega) ?_
      refine v_lmul (v := ((c9 65 3) * (16 - (q : Int)))) rfl rfl ?_
      refine q_iload rfl rfl ?_
      refine v_if_le_f (t := 154) rfl (by decide) (by decide) ?_
      refine q_aload_n rfl rfl ?_
      refine v_gr (t := 65) rfl rfl rfl (by decide) rfl ?_
      refine q_iload rfl rfl ?_
      refine q_iconst rfl ?_
      refine v_isub (v := 2) rfl (by decide) ?_
      refine v_la (v := c9 65 2) rfl rfl (by decide) (by decide) (by decide) ((up_n (by decide)).trans ((up_n (by decide)).trans ((up_n (by decide)).trans ((up_n (by decide)).trans ((up_n (by decide)).trans ((up_n (by decide)).trans ((up_n (by decide)).trans ((up_n (by decide)).trans ((up_n (by decide)).trans (up_n (by decide))))))))))) ?_
      refine q_iload_n rfl rfl ?_
      refine v_i2l rfl (by omega) ?_
      refine v_lmul (v := ((c9 65 2) * (q : Int))) rfl rfl ?_
      refine q_goto (t := 155) rfl (by decide) ?_
      refine v_ladd (v := ((c9 65 2) * (q : Int)) + ((c9 65 3) * (16 - (q : Int)))) rfl (by omega) ?_
      refine v_ls rfl rfl (by decide) (by decide) (by decide) ?_
      refine v_iinc (v := 2) rfl rfl (by decide) (by decide) ?_
      refine q_goto (t := 110) rfl (by decide) ?_
      refine q_iload rfl rfl ?_
      refine v_if_lt_f (t := 163) rfl (by decide) (by decide) ?_
      refine q_aload_n rfl rfl ?_
      refine v_gr (t := 65) rfl rfl rfl (by decide) rfl ?_
      refine q_iload rfl rfl ?_
      refine q_aload_n rfl rfl ?_
      refine v_gr (t := 65) rfl rfl rfl (by decide) rfl ?_
      refine q_iload rfl rfl ?_
      refine v_la (v := c9 65 2) rfl rfl (by decide) (by decide) (by decide) ((up_n (by decide)).trans ((up_n (by decide)).trans ((up_n (by decide)).trans ((up_n (by decide)).trans ((up_n (by decide)).trans ((up_n (by decide)).trans ((up_n (by decide)).trans ((up_n (by decide)).trans ((up_n (by decide)).trans ((up_n (by decide)).trans (up_n (by decide)))))))))))) ?_
      refine v_bip rfl (by decide) ?_
      refine q_iload_n rfl rfl ?_
      refine v_isub (v := 16 - (q : Int)) rfl (by omega) ?_
      refine v_i2l rfl (by omega) ?_
      refine v_lmul (v := ((c9 65 2) * (16 - (q : Int)))) rfl rfl ?_
      refine q_iload rfl rfl ?_
      refine v_if_le_f (t := 154) rfl (by decide) (by decide) ?_
      refine q_aload_n rfl rfl ?_
      refine v_gr (t := 65) rfl rfl rfl (by decide) rfl ?_
      refine q_iload rfl rfl ?_
      refine q_iconst rfl ?_
      refine v_isub (v := 1) rfl (by decide) ?_
      refine v_la (v := c9 65 1) rfl rfl (by decide) (by decide) (by decide) ((up_n (by decide)).trans ((up_n (by decide)).trans ((up_n (by decide)).trans ((up_n (by decide)).trans ((up_n (by decide)).trans ((up_n (by decide)).trans ((up_n (by decide)).trans ((up_n (by decide)).trans ((up_n (by decide)).trans ((up_n (by decide)).trans (up_n (by decide)))))))))))) ?_
      refine q_iload_n rfl rfl ?_
      refine v_i2l rfl (by omega) ?_
      refine v_lmul (v := ((c9 65 1) * (q : Int))) rfl rfl ?_
      refine q_goto (t := 155) rfl (by decide) ?_
      refine v_ladd (v := ((c9 65 1) * (q : Int)) + ((c9 65 2) * (16 - (q : Int)))) rfl (by omega) ?_
      refine v_ls rfl rfl (by decide) (by decide) (by decide) ?_
      refine v_iinc (v := 1) rfl rfl (by decide) (by decide) ?_
      refine q_goto (t := 110) rfl (by decide) ?_
      refine q_iload rfl rfl ?_
      refine v_if_lt_f (t := 163) rfl (by decide) (by decide) ?_
      refine q_aload_n rfl rfl ?_
      refine v_gr (t := 65) rfl rfl rfl (by decide) rfl ?_
      refine q_iload rfl rfl ?_
      refine q_aload_n rfl rfl ?_
      refine v_gr (t := 65) rfl rfl rfl (by decide) rfl ?_
      refine q_iload rfl rfl ?_
      refine v_la (v := c9 65 1) rfl rfl (by decide) (by decide) (by decide) ((up_n (by decide)).trans ((up_n (by decide)).trans ((up_n (by decide)).trans ((up_n (by decide)).trans ((up_n (by decide)).trans ((up_n (by decide)).trans ((up_n (by decide)).trans ((up_n (by decide)).trans ((up_n (by decide)).trans ((up_n (by decide)).trans ((up_n (by decide)).trans (up_n (by decide))))))))))))) ?_
      refine v_bip rfl (by decide) ?_
      refine q_iload_n rfl rfl ?_
      refine v_isub (v := 16 - (q : Int)) rfl (by omega) ?_
      refine v_i2l rfl (by omega) ?_
      refine v_lmul (v := ((c9 65 1) * (16 - (q : Int)))) rfl rfl ?_
      refine q_iload rfl rfl ?_
      refine v_if_le_f (t := 154) rfl (by decide) (by decide) ?_
      refine q_aload_n rfl rfl ?_
      refine v_gr (t := 65) rfl rfl rfl (by decide) rfl ?_
      refine q_iload rfl rfl ?_
      refine q_iconst rfl ?_
      refine v_isub (v := 0) rfl (by decide) ?_
      refine v_la (v := c9 65 0) rfl rfl (by decide) (by decide) (by decide) ((up_n (by decide)).trans ((up_n (by decide)).trans ((up_n (by decide)).trans ((up_n (by decide)).trans ((up_n (by decide)).trans ((up_n (by decide)).trans ((up_n (by decide)).trans ((up_n (by decide)).trans ((up_n (by decide)).trans ((up_n (by decide)).trans ((up_n (by decide)).trans (up_n (by decide))))))))))))) ?_
      refine q_iload_n rfl rfl ?_
      refine v_i2l rfl (by omega) ?_
      refine v_lmul (v := ((c9 65 0) * (q : Int))) rfl rfl ?_
      refine q_goto (t := 155) rfl (by decide) ?_
      refine v_ladd (v := ((c9 65 0) * (q : Int)) + ((c9 65 1) * (16 - (q : Int)))) rfl (by omega) ?_
      refine v_ls rfl rfl (by decide) (by decide) (by decide) ?_
      refine v_iinc (v := 0) rfl rfl (by decide) (by decide) ?_
      refine q_goto (t := 110) rfl (by decide) ?_
      refine q_iload rfl rfl ?_
      refine v_if_lt_f (t := 163) rfl (by decide) (by decide) ?_
      refine q_aload_n rfl rfl ?_
      refine v_gr (t := 65) rfl rfl rfl (by decide) rfl ?_
      refine q_iload rfl rfl ?_
      refine q_aload_n rfl rfl ?_
      refine v_gr (t := 65) rfl rfl rfl (by decide) rfl ?_
      refine q_iload rfl rfl ?_
      refine v_la (v := c9 65 0) rfl rfl (by decide) (by decide) (by decide) ((up_n (by decide)).trans ((up_n (by decide)).trans ((up_n (by decide)).trans ((up_n (by decide)).trans ((up_n (by decide)).trans ((up_n (by decide)).trans ((up_n (by decide)).trans ((up_n (by decide)).trans ((up_n (by decide)).trans ((up_n (by decide)).trans ((up_n (by decide)).trans ((up_n (by decide)).trans (up_n (by decide)))))))))))))) ?_
      refine v_bip rfl (by decide) ?_
      refine q_iload_n rfl rfl ?_
      refine v_isub (v := 16 - (q : Int)) rfl (by omega) ?_
      refine v_i2l rfl (by omega) ?_
      refine v_lmul (v := ((c9 65 0) * (16 - (q : Int)))) rfl rfl ?_
      refine q_iload rfl rfl ?_
      refine v_if_le_t (t := 154) rfl (by decide) (by decide) ?_
      refine v_lconst (z := 0) rfl (by decide) ?_
      refine v_ladd (v := ((c9 65 0) * (16 - (q : Int)))) rfl (by omega) ?_
      refine v_ls rfl rfl (by decide) (by decide) (by decide) ?_
      refine v_iinc (v := (-1)) rfl rfl (by decide) (by decide) ?_
      refine Wp_ls [(8, vi (-1)), (0, .ref 41), (1, vi (n : Int)), (2, vi (k : Int)), (3, vi (q : Int)), (4, vi (half : Int)), (5, vl B), (7, vi (i : Int))] (lsub_cons rfl (lsub_cons rfl (lsub_cons rfl (lsub_cons rfl (lsub_cons rfl (lsub_cons rfl (lsub_cons rfl (lsub_cons rfl lsub_nil)))))))) ?_
      refine q_goto (t := 110) rfl (by decide) ?_
      refine q_iload rfl rfl ?_
      refine v_if_lt_t (t := 163) rfl (by decide) (by decide) ?_
      refine q_lload rfl rfl ?_
      refine v_ldc2 (n := 16) rfl rfl (by decide +kernel) ?_
      refine v_lmul (v := 16 * B) rfl (by omega) ?_
      refine q_lstore rfl (by decide) ?_
      refine v_iinc (v := (i : Int) + 1) rfl rfl (by decide) (by omega) ?_
      refine q_goto (t := 100) rfl (by decide) ?_
      refine Wp_ls [(0, .ref 41), (1, vi (n : Int)), (2, vi (k : Int)), (3, vi (q : Int)), (4, vi (half : Int)), (5, vl (16 * B)), (7, vi ((i : Int) + 1))] (lsub_cons rfl (lsub_cons rfl (lsub_cons rfl (lsub_cons rfl (lsub_cons rfl (lsub_cons rfl (lsub_cons rfl lsub_nil))))))) ?_
      exact m_234_r (n := n) (k := k) (q := q) (half := half) (c := c) hn hk hq hh K n9 (i + 1) (16 * B) (up (up (up (up (up (up (up (up (up (up (up (up (up (up c9 65 13 (((c9 65 12) * (q : Int)) + ((c9 65 13) * (16 - (q : Int))))) 65 12 (((c9 65 11) * (q : Int)) + ((c9 65 12) * (16 - (q : Int))))) 65 11 (((c9 65 10) * (q : Int)) + ((c9 65 11) * (16 - (q : Int))))) 65 10 (((c9 65 10) * (16 - (q : Int))) + ((c9 65 9) * (q : Int)))) 65 9 (((c9 65 8) * (q : Int)) + ((c9 65 9) * (16 - (q : Int))))) 65 8 (((c9 65 7) * (q : Int)) + ((c9 65 8) * (16 - (q : Int))))) 65 7 (((c9 65 6) * (q : Int)) + ((c9 65 7) * (16 - (q : Int))))) 65 6 (((c9 65 5) * (q : Int)) + ((c9 65 6) * (16 - (q : Int))))) 65 5 (((c9 65 4) * (q : Int)) + ((c9 65 5) * (16 - (q : Int))))) 65 4 (((c9 65 3) * (q : Int)) + ((c9 65 4) * (16 - (q : Int))))) 65 3 (((c9 65 2) * (q : Int)) + ((c9 65 3) * (16 - (q : Int))))) 65 2 (((c9 65 1) * (q : Int)) + ((c9 65 2) * (16 - (q : Int))))) 65 1 (((c9 65 0) * (q : Int)) + ((c9 65 1) * (16 - (q : Int))))) 65 0 ((c9 65 0) * (16 - (q : Int)))) (by omega) (by rw [hB0, Int.pow_succ]; omega) (fun t ht => by match t, ht with
      | 0, _ => exact Eq.trans (b := ((c9 65 0) * (16 - (q : Int)))) (up_e rfl) (frl_z hq (hcr 0 (by decide)) (Int.add_zero _).symm)
      | 1, _ => exact Eq.trans (b := ((c9 65 0) * (q : Int)) + ((c9 65 1) * (16 - (q : Int)))) ((up_n (by decide)).trans (up_e rfl)) (frl_r 0 hq (by decide) (hcr 1 (by decide)) (hcr 0 (by decide)) rfl)
      | 2, _ => exact Eq.trans (b := ((c9 65 1) * (q : Int)) + ((c9 65 2) * (16 - (q : Int)))) ((up_n (by decide)).trans ((up_n (by decide)).trans (up_e rfl))) (frl_r 1 hq (by decide) (hcr 2 (by decide)) (hcr 1 (by decide)) rfl)
      | 3, _ => exact Eq.trans (b := ((c9 65 2) * (q : Int)) + ((c9 65 3) * (16 - (q : Int)))) ((up_n (by decide)).trans ((up_n (by decide)).trans ((up_n (by decide)).trans (up_e rfl)))) (frl_r 2 hq (by decide) (hcr 3 (by decide)) (hcr 2 (by decide)) rfl)
      | 4, _ => exact Eq.trans (b := ((c9 65 3) * (q : Int)) + ((c9 65 4) * (16 - (q : Int)))) ((up_n (by decide)).trans ((up_n (by decide)).trans ((up_n (by decide)).trans ((up_n (by decide)).trans (up_e rfl))))) (frl_r 3 hq (by decide) (hcr 4 (by decide)) (hcr 3 (by decide)) rfl)
      | 5, _ => exact Eq.trans (b := ((c9 65 4) * (q : Int)) + ((c9 65 5) * (16 - (q : Int)))) ((up_n (by decide)).trans ((up_n (by decide)).trans ((up_n (by decide)).trans ((up_n (by decide)).trans ((up_n (by decide)).trans (up_e rfl)))))) (frl_r 4 hq (by decide) (hcr 5 (by decide)) (hcr 4 (by decide)) rfl)
      | 6, _ => exact Eq.trans (b := ((c9 65 5) * (q : Int)) + ((c9 65 6) * (16 - (q : Int)))) ((up_n (by decide)).trans ((up_n (by decide)).trans ((up_n (by decide)).trans ((up_n (by decide)).trans ((up_n (by decide)).trans ((up_n (by decide)).trans (up_e rfl))))))) (frl_r 5 hq (by decide) (hcr 6 (by decide)) (hcr 5 (by decide)) rfl)
      | 7, _ => exact Eq.trans (b := ((c9 65 6) * (q : Int)) + ((c9 65 7) * (16 - (q : Int)))) ((up_n (by decide)).trans ((up_n (by decide)).trans ((up_n (by decide)).trans ((up_n (by decide)).trans ((up_n (by decide)).trans ((up_n (by decide)).trans ((up_n (by decide)).trans (up_e rfl)))))))) (frl_r 6 hq (by decide) (hcr 7 (by decide)) (hcr 6 (by decide)) rfl)
      | 8, _ => exact Eq.trans (b := ((c9 65 7) * (q : Int)) + ((c9 65 8) * (16 - (q : Int)))) ((up_n (by decide)).trans ((up_n (by decide)).trans ((up_n (by decide)).trans ((up_n (by decide)).trans ((up_n (by decide)).trans ((up_n (by decide)).trans ((up_n (by decide)).trans ((up_n (by decide)).trans (up_e rfl))))))))) (frl_r 7 hq (by decide) (hcr 8 (by decide)) (hcr 7 (by decide)) rfl)
      | 9, _ => exact Eq.trans (b := ((c9 65 8) * (q : Int)) + ((c9 65 9) * (16 - (q : Int)))) ((up_n (by decide)).trans ((up_n (by decide)).trans ((up_n (by decide)).trans ((up_n (by decide)).trans ((up_n (by decide)).trans ((up_n (by decide)).trans ((up_n (by decide)).trans ((up_n (by decide)).trans ((up_n (by decide)).trans (up_e rfl)))))))))) (frl_r 8 hq (by decide) (hcr 9 (by decide)) (hcr 8 (by decide)) rfl)
      | 10, _ => exact Eq.trans (b := ((c9 65 10) * (16 - (q : Int))) + ((c9 65 9) * (q : Int))) ((up_n (by decide)).trans ((up_n (by decide)).trans ((up_n (by decide)).trans ((up_n (by decide)).trans ((up_n (by decide)).trans ((up_n (by decide)).trans ((up_n (by decide)).trans ((up_n (by decide)).trans ((up_n (by decide)).trans ((up_n (by decide)).trans (up_e rfl))))))))))) (frl_s 9 hq (by decide) (hcr 10 (by decide)) (hcr 9 (by decide)) rfl)
      | 11, _ => exact Eq.trans (b := ((c9 65 10) * (q : Int)) + ((c9 65 11) * (16 - (q : Int)))) ((up_n (by decide)).trans ((up_n (by decide)).trans ((up_n (by decide)).trans ((up_n (by decide)).trans ((up_n (by decide)).trans ((up_n (by decide)).trans ((up_n (by decide)).trans ((up_n (by decide)).trans ((up_n (by decide)).trans ((up_n (by decide)).trans ((up_n (by decide)).trans (up_e rfl)))))))))))) (frl_r 10 hq (by decide) (hcr 11 (by decide)) (hcr 10 (by decide)) rfl)
      | 12, _ => exact Eq.trans (b := ((c9 65 11) * (q : Int)) + ((c9 65 12) * (16 - (q : Int)))) ((up_n (by decide)).trans ((up_n (by decide)).trans ((up_n (by decide)).trans ((up_n (by decide)).trans ((up_n (by decide)).trans ((up_n (by decide)).trans ((up_n (by decide)).trans ((up_n (by decide)).trans ((up_n (by decide)).trans ((up_n (by decide)).trans ((up_n (by decide)).trans ((up_n (by decide)).trans (up_e rfl))))))))))))) (frl_r 11 hq (by decide) (hcr 12 (by decide)) (hcr 11 (by decide)) rfl)
      | 13, _ => exact Eq.trans (b := ((c9 65 12) * (q : Int)) + ((c9 65 13) * (16 - (q : Int)))) ((up_n (by decide)).trans ((up_n (by decide)).trans ((up_n (by decide)).trans ((up_n (by decide)).trans ((up_n (by decide)).trans ((up_n (by decide)).trans ((up_n (by decide)).trans ((up_n (by decide)).trans ((up_n (by decide)).trans ((up_n (by decide)).trans ((up_n (by decide)).trans ((up_n (by decide)).trans ((up_n (by decide)).trans (up_e rfl)))))))))))))) (frl_r 12 hq (by decide) (hcr 13 (by decide)) (hcr 12 (by decide)) rfl)
      | t + 14, h => exact absurd h (by omega)) (fun a ha => by rw [← hc9 a ha]; funext j; repeat rw [up_c ha]) (by omega)

set_option maxRecDepth 100000 in
set_option maxHeartbeats 4000000 in
theorem m_234 {sc : List Int32} {d : Nat} {P Q N T : Nat} {c : ME} {Z : AR → Prop} {x1 : Int} {x2 : Int} {x3 : Int} {x4 : Int} (n : Nat) (k : Nat) (q : Nat) (half : Nat) (hx1 : x1 = (n : Int)) (hx2 : x2 = (k : Int)) (hx3 : x3 = (q : Int)) (hx4 : x4 = (half : Int)) (hn : n ≤ 12) (hk : k ≤ 13) (hq : q ≤ 16) (hh : half ≤ 1) (K : ∀ c2 : ME, (∀ a : Nat, ¬ a = 65 → c2 a = up c 41 0 0 a) → Z (.inl (some (vl (fref n k q half))), Wd P Q N T c2, 0, 0)) : Wp sc (d + 2) 234 0 [(0, .ref 41), (1, vi x1), (2, vi x2), (3, vi x3), (4, vi x4)] [] (Wd P Q N T c) 0 0 Z := by
  subst hx1 hx2 hx3 hx4
  refine q_aload_n rfl rfl ?_
  refine q_iconst rfl ?_
  refine v_pi (z := 0) rfl rfl rfl (by decide) rfl rfl rfl (by decide) ?_
  refine q_aload_n rfl rfl ?_
  refine q_iload_n rfl rfl ?_
  refine q_iconst rfl ?_
  refine v_bip rfl (by decide) ?_
  refine q_call rfl rfl rfl rfl ?_
  refine q_iload_n rfl rfl ?_
  refine q_iload_n rfl rfl ?_
  refine v_ic_lt_f (t := 14) rfl (by decide) (by omega) ?_
  refine q_iload_n rfl rfl ?_
  refine q_iload_n rfl rfl ?_
  refine v_ic_gt_f (t := 14) rfl (by decide) (by omega) ?_
  refine q_iconst rfl ?_
  refine q_goto (t := 15) rfl (by decide) ?_
  refine v_zret rfl rfl (by omega) ?_
  refine bk_inl ?_
  refine v_if_eq_f (t := 50) rfl (by decide) (by decide) ?_
  refine q_iload_n rfl rfl ?_
  refine q_iconst rfl ?_
  refine v_bip rfl (by decide) ?_
  refine q_call rfl rfl rfl rfl ?_
  refine q_iload_n rfl rfl ?_
  refine q_iload_n rfl rfl ?_
  refine v_ic_lt_f (t := 14) rfl (by decide) (by omega) ?_
  refine q_iload_n rfl rfl ?_
  refine q_iload_n rfl rfl ?_
  refine v_ic_gt_f (t := 14) rfl (by decide) (by omega) ?_
  refine q_iconst rfl ?_
  refine q_goto (t := 15) rfl (by decide) ?_
  refine v_zret rfl rfl (by omega) ?_
  refine bk_inl ?_
  refine v_if_eq_f (t := 50) rfl (by decide) (by decide) ?_
  refine q_iload_n rfl rfl ?_
  refine q_iconst rfl ?_
  refine v_bip rfl (by decide) ?_
  refine q_call rfl rfl rfl rfl ?_
  refine q_iload_n rfl rfl ?_
  refine q_iload_n rfl rfl ?_
  refine v_ic_lt_f (t := 14) rfl (by decide) (by omega) ?_
  refine q_iload_n rfl rfl ?_
  refine q_iload_n rfl rfl ?_
  refine v_ic_gt_f (t := 14) rfl (by decide) (by omega) ?_
  refine q_iconst rfl ?_
  refine q_goto (t := 15) rfl (by decide) ?_
  refine v_zret rfl rfl (by omega) ?_
  refine bk_inl ?_
  refine v_if_eq_f (t := 50) rfl (by decide) (by decide) ?_
  refine q_iload rfl rfl ?_
  refine q_iconst rfl ?_
  refine q_iconst rfl ?_
  refine q_call rfl rfl rfl rfl ?_
  refine q_iload_n rfl rfl ?_
  refine q_iload_n rfl rfl ?_
  refine v_ic_lt_f (t := 14) rfl (by decide) (by omega) ?_
  refine q_iload_n rfl rfl ?_
  refine q_iload_n rfl rfl ?_
  refine v_ic_gt_f (t := 14) rfl (by decide) (by omega) ?_
  refine q_iconst rfl ?_
  refine q_goto (t := 15) rfl (by decide) ?_
  refine v_zret rfl rfl (by omega) ?_
  refine bk_inl ?_
  refine v_if_eq_f (t := 50) rfl (by decide) (by decide) ?_
  refine q_iconst rfl ?_
  refine q_goto (t := 51) rfl (by decide) ?_
  refine q_iconst rfl ?_
  refine q_iconst rfl ?_
  refine v_cv rfl rfl rfl rfl (by decide) ⟨⟨rfl, rfl⟩, by decide, rfl⟩ (Nat.le_of_ble_eq_true rfl) (Nat.le_of_ble_eq_true rfl) ?_
  refine q_iload_n rfl rfl ?_
  refine v_if_ne_t (t := 26) rfl (by decide) (by decide) ?_
  refine q_aload_n rfl rfl ?_
  refine v_gi (z := 0) (v := 0) rfl rfl rfl (by decide) rfl rfl (up_e rfl) ?_
  refine v_if_ne_f (t := 37) rfl (by decide) (by decide) ?_
  refine q_iconst rfl ?_
  refine q_goto (t := 38) rfl (by decide) ?_
  refine v_zret rfl rfl (by omega) ?_
  refine bk_inl ?_
  refine v_if_ne_t (t := 61) rfl (by decide) (by decide) ?_
  refine q_iconst rfl ?_
  refine q_istore rfl (by decide) ?_
  refine q_iload rfl rfl ?_
  refine v_bip rfl (by decide) ?_
  refine v_ic_ge_f (t := 94) rfl (by decide) (by decide) ?_
  refine q_aload_n rfl rfl ?_
  refine v_gr (t := 65) rfl rfl rfl (by decide) rfl ?_
  refine q_iload rfl rfl ?_
  refine q_iload rfl rfl ?_
  refine v_if_ne_f (t := 86) rfl (by decide) (by decide) ?_
  refine v_lconst (z := 1) rfl (by decide) ?_
  refine q_goto (t := 87) rfl (by decide) ?_
  refine v_ls rfl rfl (by decide) (by decide) (by decide) ?_
  refine v_iinc (v := 1) rfl rfl (by decide) (by decide) ?_
  refine q_goto (t := 64) rfl (by decide) ?_
  refine q_iload rfl rfl ?_
  refine v_bip rfl (by decide) ?_
  refine v_ic_ge_f (t := 94) rfl (by decide) (by decide) ?_
  refine q_aload_n rfl rfl ?_
  refine v_gr (t := 65) rfl rfl rfl (by decide) rfl ?_
  refine q_iload rfl rfl ?_
  refine q_iload rfl rfl ?_
  refine v_if_ne_t (t := 86) rfl (by decide) (by decide) ?_
  refine v_lconst (z := 0) rfl (by decide) ?_
  refine v_ls rfl rfl (by decide) (by decide) (by decide) ?_
  refine v_iinc (v := 2) rfl rfl (by decide) (by decide) ?_
  refine q_goto (t := 64) rfl (by decide) ?_
  refine q_iload rfl rfl ?_
  refine v_bip rfl (by decide) ?_
  refine v_ic_ge_f (t := 94) rfl (by decide) (by decide) ?_
  refine q_aload_n rfl rfl ?_
  refine v_gr (t := 65) rfl rfl rfl (by decide) rfl ?_
  refine q_iload rfl rfl ?_
  refine q_iload rfl rfl ?_
  refine v_if_ne_t (t := 86) rfl (by decide) (by decide) ?_
  refine v_lconst (z := 0) rfl (by decide) ?_
  refine v_ls rfl rfl (by decide) (by decide) (by decide) ?_
  refine v_iinc (v := 3) rfl rfl (by decide) (by decide) ?_
  refine q_goto (t := 64) rfl (by decide) ?_
  refine q_iload rfl rfl ?_
  refine v_bip rfl (by decide) ?_
  refine v_ic_ge_f (t := 94) rfl (by decide) (by decide) ?_
  refine q_aload_n rfl rfl ?_
  refine v_gr (t := 65) rfl rfl rfl (by decide) rfl ?_
  refine q_iload rfl rfl ?_
  refine q_iload rfl rfl ?_
  refine v_if_ne_t (t := 86) rfl (by decide) (by decide) ?_
  refine v_lconst (z := 0) rfl (by decide) ?_
  refine v_ls rfl rfl (by decide) (by decide) (by decide) ?_
  refine v_iinc (v := 4) rfl rfl (by decide) (by decide) ?_
  refine Wp_ls [(5, vi 4), (0, .ref 41), (1, vi (n : Int)), (2, vi (k : Int)), (3, vi (q : Int)), (4, vi (half : Int))] (lsub_cons rfl (lsub_cons rfl (lsub_cons rfl (lsub_cons rfl (lsub_cons rfl (lsub_cons rfl lsub_nil)))))) ?_
  refine q_goto (t := 64) rfl (by decide) ?_
  refine q_iload rfl rfl ?_
  refine v_bip rfl (by decide) ?_
  refine v_ic_ge_f (t := 94) rfl (by decide) (by decide) ?_
  refine q_aload_n rfl rfl ?_
  refine v_gr (t := 65) rfl rfl rfl (by decide) rfl ?_
  refine q_iload rfl rfl ?_
  refine q_iload rfl rfl ?_
  refine v_if_ne_t (t := 86) rfl (by decide) (by decide) ?_
  refine v_lconst (z := 0) rfl (by decide) ?_
  refine v_ls rfl rfl (by decide) (by decide) (by decide) ?_
  refine v_iinc (v := 5) rfl rfl (by decide) (by decide) ?_
  refine q_goto (t := 64) rfl (by decide) ?_
  refine q_iload rfl rfl ?_
  refine v_bip rfl (by decide) ?_
  refine v_ic_ge_f (t := 94) rfl (by decide) (by decide) ?_
  refine q_aload_n rfl rfl ?_
  refine v_gr (t := 65) rfl rfl rfl (by decide) rfl ?_
  refine q_iload rfl rfl ?_
  refine q_iload rfl rfl ?_
  refine v_if_ne_t (t := 86) rfl (by decide) (by decide) ?_
  refine v_lconst (z := 0) rfl (by decide) ?_
  refine v_ls rfl rfl (by decide) (by decide) (by decide) ?_
  refine v_iinc (v := 6) rfl rfl (by decide) (by decide) ?_
  refine q_goto (t := 64) rfl (by decide) ?_
  refine q_iload rfl rfl ?_
  refine v_bip rfl (by decide) ?_
  refine v_ic_ge_f (t := 94) rfl (by decide) (by decide) ?_
  refine q_aload_n rfl rfl ?_
  refine v_gr (t := 65) rfl rfl rfl (by decide) rfl ?_
  refine q_iload rfl rfl ?_
  refine q_iload rfl rfl ?_
  refine v_if_ne_t (t := 86) rfl (by decide) (by decide) ?_
  refine v_lconst (z := 0) rfl (by decide) ?_
  refine v_ls rfl rfl (by decide) (by decide) (by decide) ?_
  refine v_iinc (v := 7) rfl rfl (by decide) (by decide) ?_
  refine q_goto (t := 64) rfl (by decide) ?_
  refine q_iload rfl rfl ?_
  refine v_bip rfl (by decide) ?_
  refine v_ic_ge_f (t := 94) rfl (by decide) (by decide) ?_
  refine q_aload_n rfl rfl ?_
  refine v_gr (t := 65) rfl rfl rfl (by decide) rfl ?_
  refine q_iload rfl rfl ?_
  refine q_iload rfl rfl ?_
  refine v_if_ne_t (t := 86) rfl (by decide) (by decide) ?_
  refine v_lconst (z := 0) rfl (by decide) ?_
  refine v_ls rfl rfl (by decide) (by decide) (by decide) ?_
  refine v_iinc (v := 8) rfl rfl (by decide) (by decide) ?_
  refine q_goto (t := 64) rfl (by decide) ?_
  refine q_iload rfl rfl ?_
  refine v_bip rfl (by decide) ?_
  refine v_ic_ge_f (t := 94) rfl (by decide) (by decide) ?_
  refine q_aload_n rfl rfl ?_
  refine v_gr (t := 65) rfl rfl rfl (by decide) rfl ?_
  refine q_iload rfl rfl ?_
  refine q_iload rfl rfl ?_
  refine v_if_ne_t (t := 86) rfl (by decide) (by decide) ?_
  refine v_lconst (z := 0) rfl (by decide) ?_
  refine v_ls rfl rfl (by decide) (by decide) (by decide) ?_
  refine v_iinc (v := 9) rfl rfl (by decide) (by decide) ?_
  refine Wp_ls [(5, vi 9), (0, .ref 41), (1, vi (n : Int)), (2, vi (k : Int)), (3, vi (q : Int)), (4, vi (half : Int))] (lsub_cons rfl (lsub_cons rfl (lsub_cons rfl (lsub_cons rfl (lsub_cons rfl (lsub_cons rfl lsub_nil)))))) ?_
  refine q_goto (t := 64) rfl (by decide) ?_
  refine q_iload rfl rfl ?_
  refine v_bip rfl (by decide) ?_
  refine v_ic_ge_f (t := 94) rfl (by decide) (by decide) ?_
  refine q_aload_n rfl rfl ?_
  refine v_gr (t := 65) rfl rfl rfl (by decide) rfl ?_
  refine q_iload rfl rfl ?_
  refine q_iload rfl rfl ?_
  refine v_if_ne_t (t := 86) rfl (by decide) (by decide) ?_
  refine v_lconst (z := 0) rfl (by decide) ?_
  refine v_ls rfl rfl (by decide) (by decide) (by decide) ?_
  refine v_iinc (v := 10) rfl rfl (by decide) (by decide) ?_
  refine q_goto (t := 64) rfl (by decide) ?_
  refine q_iload rfl rfl ?_
  refine v_bip rfl (by decide) ?_
  refine v_ic_ge_f (t := 94) rfl (by decide) (by decide) ?_
  refine q_aload_n rfl rfl ?_
  refine v_gr (t := 65) rfl rfl rfl (by decide) rfl ?_
  refine q_iload rfl rfl ?_
  refine q_iload rfl rfl ?_
  refine v_if_ne_t (t := 86) rfl (by decide) (by decide) ?_
  refine v_lconst (z := 0) rfl (by decide) ?_
  refine v_ls rfl rfl (by decide) (by decide) (by decide) ?_
  refine v_iinc (v := 11) rfl rfl (by decide) (by decide) ?_
  refine q_goto (t := 64) rfl (by decide) ?_
  refine q_iload rfl rfl ?_
  refine v_bip rfl (by decide) ?_
  refine v_ic_ge_f (t := 94) rfl (by decide) (by decide) ?_
  refine q_aload_n rfl rfl ?_
  refine v_gr (t := 65) rfl rfl rfl (by decide) rfl ?_
  refine q_iload rfl rfl ?_
  refine q_iload rfl rfl ?_
  refine v_if_ne_t (t := 86) rfl (by decide) (by decide) ?_
  refine v_lconst (z := 0) rfl (by decide) ?_
  refine v_ls rfl rfl (by decide) (by decide) (by decide) ?_
  refine v_iinc (v := 12) rfl rfl (by decide) (by decide) ?_
  refine q_goto (t := 64) rfl (by decide) ?_
  refine q_iload rfl rfl ?_
  refine v_bip rfl (by decide) ?_
  refine v_ic_ge_f (t := 94) rfl (by decide) (by decide) ?_
  refine q_aload_n rfl rfl ?_
  refine v_gr (t := 65) rfl rfl rfl (by decide) rfl ?_
  refine q_iload rfl rfl ?_
  refine q_iload rfl rfl ?_
  refine v_if_ne_t (t := 86) rfl (by decide) (by decide) ?_
  refine v_lconst (z := 0) rfl (by decide) ?_
  refine v_ls rfl rfl (by decide) (by decide) (by decide) ?_
  refine v_iinc (v := 13) rfl rfl (by decide) (by decide) ?_
  refine q_goto (t := 64) rfl (by decide) ?_
  refine q_iload rfl rfl ?_
  refine v_bip rfl (by decide) ?_
  refine v_ic_ge_f (t := 94) rfl (by decide) (by decide) ?_
  refine q_aload_n rfl rfl ?_
  refine v_gr (t := 65) rfl rfl rfl (by decide) rfl ?_
  refine q_iload rfl rfl ?_
  refine q_iload rfl rfl ?_
  refine v_if_ne_t (t := 86) rfl (by decide) (by decide) ?_
  refine v_lconst (z := 0) rfl (by decide) ?_
  refine v_ls rfl rfl (by decide) (by decide) (by decide) ?_
  refine v_iinc (v := 14) rfl rfl (by decide) (by decide) ?_
  refine Wp_ls [(5, vi 14), (0, .ref 41), (1, vi (n : Int)), (2, vi (k : Int)), (3, vi (q : Int)), (4, vi (half : Int))] (lsub_cons rfl (lsub_cons rfl (lsub_cons rfl (lsub_cons rfl (lsub_cons rfl (lsub_cons rfl lsub_nil)))))) ?_
  refine q_goto (t := 64) rfl (by decide) ?_
  refine q_iload rfl rfl ?_
  refine v_bip rfl (by decide) ?_
  refine v_ic_ge_t (t := 94) rfl (by decide) (by decide) ?_
  refine v_lconst (z := 1) rfl (by decide) ?_
  refine q_lstore rfl (by decide) ?_
  refine q_iconst rfl ?_
  refine q_istore rfl (by decide) ?_
  refine Wp_ls [(0, .ref 41), (1, vi (n : Int)), (2, vi (k : Int)), (3, vi (q : Int)), (4, vi (half : Int)), (5, vl 1), (7, vi 0)] (lsub_cons rfl (lsub_cons rfl (lsub_cons rfl (lsub_cons rfl (lsub_cons rfl (lsub_cons rfl (lsub_cons rfl lsub_nil))))))) ?_
  exact m_234_r (n := n) (k := k) (q := q) (half := half) (c := (up c 41 0 0)) hn hk hq hh K 14 0 1 (up (up (up (up (up (up (up (up (up (up (up (up (up (up (up c 41 0 0) 65 0 1) 65 1 0) 65 2 0) 65 3 0) 65 4 0) 65 5 0) 65 6 0) 65 7 0) 65 8 0) 65 9 0) 65 10 0) 65 11 0) 65 12 0) 65 13 0) (by omega) (Int.pow_zero 16).symm (fun t ht => by match t, ht with
      | 0, _ => rfl
      | 1, _ => rfl
      | 2, _ => rfl
      | 3, _ => rfl
      | 4, _ => rfl
      | 5, _ => rfl
      | 6, _ => rfl
      | 7, _ => rfl
      | 8, _ => rfl
      | 9, _ => rfl
      | 10, _ => rfl
      | 11, _ => rfl
      | 12, _ => rfl
      | 13, _ => rfl
      | t + 14, h => exact absurd h (by omega)) (fun a ha => by funext j; repeat rw [up_c ha]) (by omega)

