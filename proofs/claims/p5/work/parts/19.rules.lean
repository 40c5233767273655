/-! ===== rules with the numbers worked out; calls in a row; the law's end ===== -/
theorem i_lt {x y : Int32} {a b : Int} (ha : x.toInt = a) (hb : y.toInt = b) (h : a < b) : x < y := Int32.lt_iff_toInt_lt.mpr (by rw [ha, hb]; exact h)
theorem i_le {x y : Int32} {a b : Int} (ha : x.toInt = a) (hb : y.toInt = b) (h : a ≤ b) : x ≤ y := Int32.le_iff_toInt_le.mpr (by rw [ha, hb]; exact h)
theorem i_nlt {x y : Int32} {a b : Int} (ha : x.toInt = a) (hb : y.toInt = b) (h : b ≤ a) : ¬ x < y := fun q => by have := Int32.lt_iff_toInt_lt.mp q; omega
theorem i_nle {x y : Int32} {a b : Int} (ha : x.toInt = a) (hb : y.toInt = b) (h : b < a) : ¬ x ≤ y := fun q => by have := Int32.le_iff_toInt_le.mp q; omega
theorem i_eq {x y : Int32} {a b : Int} (ha : x.toInt = a) (hb : y.toInt = b) (h : a = b) : x = y := Int32.toInt_inj.mp (by rw [ha, hb]; exact h)
theorem i_ne {x y : Int32} {a b : Int} (ha : x.toInt = a) (hb : y.toInt = b) (h : a ≠ b) : ¬ x = y := fun q => h (by rw [← ha, ← hb, q])
theorem i_nne {x y : Int32} {a b : Int} (ha : x.toInt = a) (hb : y.toInt = b) (h : a = b) : ¬ ¬ x = y := fun q => q (i_eq ha hb h)
theorem i_lt_r {x y : Int32} {a b : Int} (ha : x.toInt = a) (hb : y.toInt = b) (h : b < a) : y < x := i_lt hb ha h
theorem i_le_r {x y : Int32} {a b : Int} (ha : x.toInt = a) (hb : y.toInt = b) (h : b ≤ a) : y ≤ x := i_le hb ha h
theorem i_nlt_r {x y : Int32} {a b : Int} (ha : x.toInt = a) (hb : y.toInt = b) (h : a ≤ b) : ¬ y < x := i_nlt hb ha h
theorem i_nle_r {x y : Int32} {a b : Int} (ha : x.toInt = a) (hb : y.toInt = b) (h : a < b) : ¬ y ≤ x := i_nle hb ha h
theorem i_add {x y : Int32} {a b : Int} (ha : x.toInt = a) (hb : y.toInt = b) (h1 : -2147483648 ≤ a + b) (h2 : a + b ≤ 2147483647) : (x + y).toInt = a + b := by
  rw [Int32.toInt_add, ha, hb, Int.bmod_def]
  omega
noncomputable def Bk (sc : List Int32) (d k pc j : Nat) (ls : AL) (rest : List Value) (nc ns : Nat) (Q : AR → Prop) (r : AR) : Prop :=
  (∃ v, r.1 = .inl v ∧ Wp sc (d + 1) k (pc + 3) ls (v.toList ++ rest) r.2.1 (nc + r.2.2.1) (ns + r.2.2.2) Q) ∨
  (∃ x, r.1 = .inr x ∧ mD j = 0 ∧ mH k = [] ∧ Q (.inr x, r.2.1, nc + r.2.2.1, ns + r.2.2.2)) ∨
  (∃ (x : Nat) (z : Int32), r.1 = .inr x ∧ mD j = 0 ∧ (∃ y ys, mH k = y :: ys) ∧ a_hnd k pc x = some z ∧ Q (.inl (some (.int z)), r.2.1, nc + r.2.2.1, ns + r.2.2.2))
section WPS
variable {sc : List Int32} {d k pc len nc ns : Nat} {ls : AL} {st r : List Value} {w : AW} {Q : AR → Prop}
theorem q_call {i : Instr} {j : Nat} {ags rest : List Value} (hd : mLk k pc = some (i, len)) (hi : ins sc (d + 1) k pc ls st w i = none) (hf : fin (d + 1) k pc st i = none) (hc : cal k st w i = some (j, ags, rest)) (C : Wp sc d j 0 (lv_args 0 ags) [] w 0 0 (Bk sc d k pc j ls rest nc ns Q)) : Wp sc (d + 1) k pc ls st w nc ns Q := by
  refine q_cal0 hd hi hf hc C ?_
  rintro ⟨o, w', a, b⟩ (⟨v, rfl, n, y, h1, h2⟩ | ⟨x, rfl, hj, hh, hq⟩ | ⟨x, z, rfl, hj, ⟨y, ys, hy⟩, hz, hq⟩)
  · exact ⟨n, y, h1, h2⟩
  · refine ⟨0, _, ?_, hq⟩
    show (if mD j = 0 then _ else none) = _
    rw [if_pos hj, hh]
  · refine ⟨0, _, ?_, hq⟩
    show (if mD j = 0 then _ else none) = _
    rw [if_pos hj, hy]
    dsimp only
    rw [hz]
theorem bk_inl {j : Nat} {rest : List Value} {v : Option Value} {w' : AW} {a b : Nat} (K : Wp sc (d + 1) k (pc + 3) ls (v.toList ++ rest) w' (nc + a) (ns + b) Q) : Bk sc d k pc j ls rest nc ns Q (.inl v, w', a, b) := Or.inl ⟨v, rfl, K⟩
theorem bk_out {j : Nat} {rest : List Value} {x : Nat} {w' : AW} {a b : Nat} (hj : mD j = 0) (hh : mH k = []) (K : Q (.inr x, w', nc + a, ns + b)) : Bk sc d k pc j ls rest nc ns Q (.inr x, w', a, b) := Or.inr (Or.inl ⟨x, rfl, hj, hh, K⟩)
theorem bk_thr {j : Nat} {rest : List Value} {x : Nat} {z : Int32} {w' : AW} {a b : Nat} (hj : mD j = 0) (hh : ∃ y ys, mH k = y :: ys) (hz : a_hnd k pc x = some z) (K : Q (.inl (some (.int z)), w', nc + a, ns + b)) : Bk sc d k pc j ls rest nc ns Q (.inr x, w', a, b) := Or.inr (Or.inr ⟨x, z, rfl, hj, hh, hz, K⟩)
theorem q_iret {x : Int32} (hd : mLk k pc = some (.ireturn, len)) (hR : mR k = some .int) (K : Q (.inl (some (.int x)), w, nc, ns)) : Wp sc d k pc ls [.int x] w nc ns Q := q_fin hd rfl (show a_ret k .ireturn [.int x] = some (.inl (some (.int x)), 0, 0) by unfold a_ret; rw [hR]) K
theorem q_zret {x : Int32} (hd : mLk k pc = some (.ireturn, len)) (hR : mR k = some .boolean) (hx : x = 0 ∨ x = 1) (K : Q (.inl (some (.int x)), w, nc, ns)) : Wp sc d k pc ls [.int x] w nc ns Q := q_fin hd rfl (show a_ret k .ireturn [.int x] = some (.inl (some (.int x)), 0, 0) by unfold a_ret; rw [hR]; exact if_pos hx) K
theorem q_lret {x : Int64} (hd : mLk k pc = some (.lreturn, len)) (hR : mR k = some .long) (K : Q (.inl (some (.long x)), w, nc, ns)) : Wp sc d k pc ls [.long x] w nc ns Q := q_fin hd rfl (show a_ret k .lreturn [.long x] = some (.inl (some (.long x)), 0, 0) by unfold a_ret; rw [hR]) K
theorem q_vret (hd : mLk k pc = some (.return_, len)) (hR : mR k = none) (K : Q (.inl none, w, nc, ns)) : Wp sc d k pc ls [] w nc ns Q := q_fin hd rfl (show a_ret k .return_ [] = some (.inl none, 0, 0) by unfold a_ret; rw [hR]) K
noncomputable def clo_is (x : Option AR) (v : Option Value) (w : AW) (a b : Nat) : Bool := match x with
  | some (.inl v', w', a', b') => decide (v' = v) && (Nat.beq a' a && (Nat.beq b' b && decide (w' = w)))
  | _ => false
theorem clo_of {x : Option AR} {v : Option Value} {w : AW} {a b : Nat} (h : clo_is x v w a b = true) : x = some (.inl v, w, a, b) := by
  unfold clo_is at h
  split at h
  · simp only [Bool.and_eq_true, decide_eq_true_eq] at h
    obtain ⟨h1, h2, h3, h4⟩ := h
    rw [h1, Nat.eq_of_beq_eq_true h2, Nat.eq_of_beq_eq_true h3, h4]
  · cases h
/-- a call that holds nothing of the script -/
theorem q_clo {i : Instr} {j a b : Nat} {ags rest : List Value} {v : Option Value} {w9 : AW} (hd : mLk k pc = some (i, len)) (hi : ins sc (d + 1) k pc ls st w i = none) (hf : fin (d + 1) k pc st i = none) (hc : cal k st w i = some (j, ags, rest)) (hev : clo_is (ev0 1000000 d j 0 (lv_args 0 ags) [] w 0 0) v w9 a b = true)
    (K : Wp sc (d + 1) k (pc + 3) ls (v.toList ++ rest) w9 (nc + a) (ns + b) Q) : Wp sc (d + 1) k pc ls st w nc ns Q :=
  q_call hd hi hf hc ⟨_, _, ev0_ev (clo_of hev), bk_inl K⟩
theorem q_iconstv {n : Int} {v : Int32} (hd : mLk k pc = some (.iconst n, len)) (hv : Int32.ofInt n = v) (K : Wp sc d k (pc + 1) ls (.int v :: st) w nc ns Q) : Wp sc d k pc ls st w nc ns Q := q_iconst hd (by rw [hv]; exact K)
theorem q_bipushv {n : Int} {v : Int32} (hd : mLk k pc = some (.bipush n, len)) (hv : (Int8.ofInt n).toInt32 = v) (K : Wp sc d k (pc + 2) ls (.int v :: st) w nc ns Q) : Wp sc d k pc ls st w nc ns Q := q_bipush hd (by rw [hv]; exact K)
theorem q_sipushv {n : Int} {v : Int32} (hd : mLk k pc = some (.sipush n, len)) (hv : (Int16.ofInt n).toInt32 = v) (K : Wp sc d k (pc + 3) ls (.int v :: st) w nc ns Q) : Wp sc d k pc ls st w nc ns Q := q_sipush hd (by rw [hv]; exact K)
theorem q_iincv {i : Nat} {c : Int} {x v : Int32} (hd : mLk k pc = some (.iinc i c, len)) (hl : a_lk ls i = some (.int x)) (hi : i < mX k) (hv : x + Int32.ofInt c = v) (K : Wp sc d k (pc + 3) (a_s1 ls i (.int v)) st w nc ns Q) : Wp sc d k pc ls st w nc ns Q := q_iinc hd hl hi (by rw [hv]; exact K)
theorem q_iaddv {x y v : Int32} (hd : mLk k pc = some (.iadd, len)) (hv : x + y = v) (K : Wp sc d k (pc + 1) ls (.int v :: r) w nc ns Q) : Wp sc d k pc ls (.int y :: .int x :: r) w nc ns Q := q_iadd hd (by rw [hv]; exact K)
theorem q_isubv {x y v : Int32} (hd : mLk k pc = some (.isub, len)) (hv : x - y = v) (K : Wp sc d k (pc + 1) ls (.int v :: r) w nc ns Q) : Wp sc d k pc ls (.int y :: .int x :: r) w nc ns Q := q_isub hd (by rw [hv]; exact K)
theorem q_imulv {x y v : Int32} (hd : mLk k pc = some (.imul, len)) (hv : x * y = v) (K : Wp sc d k (pc + 1) ls (.int v :: r) w nc ns Q) : Wp sc d k pc ls (.int y :: .int x :: r) w nc ns Q := q_imul hd (by rw [hv]; exact K)
theorem q_iandv {x y v : Int32} (hd : mLk k pc = some (.iand, len)) (hv : x &&& y = v) (K : Wp sc d k (pc + 1) ls (.int v :: r) w nc ns Q) : Wp sc d k pc ls (.int y :: .int x :: r) w nc ns Q := q_iand hd (by rw [hv]; exact K)
theorem q_iorv {x y v : Int32} (hd : mLk k pc = some (.ior, len)) (hv : x ||| y = v) (K : Wp sc d k (pc + 1) ls (.int v :: r) w nc ns Q) : Wp sc d k pc ls (.int y :: .int x :: r) w nc ns Q := q_ior hd (by rw [hv]; exact K)
theorem q_ixorv {x y v : Int32} (hd : mLk k pc = some (.ixor, len)) (hv : x ^^^ y = v) (K : Wp sc d k (pc + 1) ls (.int v :: r) w nc ns Q) : Wp sc d k pc ls (.int y :: .int x :: r) w nc ns Q := q_ixor hd (by rw [hv]; exact K)
theorem q_ishlv {x y v : Int32} (hd : mLk k pc = some (.ishl, len)) (hv : x <<< (y &&& 31) = v) (K : Wp sc d k (pc + 1) ls (.int v :: r) w nc ns Q) : Wp sc d k pc ls (.int y :: .int x :: r) w nc ns Q := q_ishl hd (by rw [hv]; exact K)
theorem q_ishrv {x y v : Int32} (hd : mLk k pc = some (.ishr, len)) (hv : x >>> (y &&& 31) = v) (K : Wp sc d k (pc + 1) ls (.int v :: r) w nc ns Q) : Wp sc d k pc ls (.int y :: .int x :: r) w nc ns Q := q_ishr hd (by rw [hv]; exact K)
theorem q_iushrv {x y v : Int32} (hd : mLk k pc = some (.iushr, len)) (hv : (x.toUInt32 >>> (y.toUInt32 &&& Int32.toUInt32 31)).toInt32 = v) (K : Wp sc d k (pc + 1) ls (.int v :: r) w nc ns Q) : Wp sc d k pc ls (.int y :: .int x :: r) w nc ns Q := q_iushr hd (by rw [hv]; exact K)
theorem q_idivv {x y v : Int32} (hd : mLk k pc = some (.idiv, len)) (hy : ¬ y = 0) (hv : x / y = v) (K : Wp sc d k (pc + 1) ls (.int v :: r) w nc ns Q) : Wp sc d k pc ls (.int y :: .int x :: r) w nc ns Q := q_idiv hd hy (by rw [hv]; exact K)
theorem q_iremv {x y v : Int32} (hd : mLk k pc = some (.irem, len)) (hy : ¬ y = 0) (hv : x - x / y * y = v) (K : Wp sc d k (pc + 1) ls (.int v :: r) w nc ns Q) : Wp sc d k pc ls (.int y :: .int x :: r) w nc ns Q := q_irem hd hy (by rw [hv]; exact K)
theorem q_inegv {x v : Int32} (hd : mLk k pc = some (.ineg, len)) (hv : -x = v) (K : Wp sc d k (pc + 1) ls (.int v :: r) w nc ns Q) : Wp sc d k pc ls (.int x :: r) w nc ns Q := q_ineg hd (by rw [hv]; exact K)
theorem q_i2lv {x : Int32} {v : Int64} (hd : mLk k pc = some (.i2l, len)) (hv : x.toInt64 = v) (K : Wp sc d k (pc + 1) ls (.long v :: r) w nc ns Q) : Wp sc d k pc ls (.int x :: r) w nc ns Q := q_i2l hd (by rw [hv]; exact K)
theorem q_lcmpv {x y : Int64} {v : Int32} (hd : mLk k pc = some (.lcmp, len)) (hv : lg_cmp x y = v) (K : Wp sc d k (pc + 1) ls (.int v :: r) w nc ns Q) : Wp sc d k pc ls (.long y :: .long x :: r) w nc ns Q := q_lcmp hd (by rw [hv]; exact K)
theorem lcmp_self (x : Int64) : lg_cmp x x = 0 := by unfold lg_cmp; simp
theorem q_lcmp_eq {x : Int64} (hd : mLk k pc = some (.lcmp, len)) (K : Wp sc d k (pc + 1) ls (.int 0 :: r) w nc ns Q) : Wp sc d k pc ls (.long x :: .long x :: r) w nc ns Q := q_lcmp hd (by rw [lcmp_self]; exact K)
theorem q_ialoadv {i x : Int32} {a m : Nat} {l : List Int32} (hd : mLk k pc = some (.iaload, len)) (hi : 0 ≤ i) (ha : ¬ a = a_SC) (hw : w[a]? = some (.inl (0, .inl l))) (hm : i.toNatClampNeg = m) (hx : l[m]? = some x) (K : Wp sc d k (pc + 1) ls (.int x :: r) w nc ns Q) : Wp sc d k pc ls (.int i :: .ref a :: r) w nc ns Q := q_iaload hd hi ha hw (by rw [hm]; exact hx) K
theorem q_baloadv {i x : Int32} {a m : Nat} {l : List Int32} (hd : mLk k pc = some (.baload, len)) (hi : 0 ≤ i) (ha : ¬ a = a_SC) (hw : w[a]? = some (.inl (1, .inl l))) (hm : i.toNatClampNeg = m) (hx : l[m]? = some x) (K : Wp sc d k (pc + 1) ls (.int x :: r) w nc ns Q) : Wp sc d k pc ls (.int i :: .ref a :: r) w nc ns Q := q_baload hd hi ha hw (by rw [hm]; exact hx) K
theorem q_laloadv {i : Int32} {x : Int64} {a m : Nat} {l : List Int64} (hd : mLk k pc = some (.laload, len)) (hi : 0 ≤ i) (hw : w[a]? = some (.inl (2, .inr l))) (hm : i.toNatClampNeg = m) (hx : l[m]? = some x) (K : Wp sc d k (pc + 1) ls (.long x :: r) w nc ns Q) : Wp sc d k pc ls (.int i :: .ref a :: r) w nc ns Q := q_laload hd hi hw (by rw [hm]; exact hx) K
theorem q_iastorev {i x : Int32} {a m : Nat} {l : List Int32} {w9 : AW} (hd : mLk k pc = some (.iastore, len)) (hi : 0 ≤ i) (hw : w[a]? = some (.inl (0, .inl l))) (hm : i.toNatClampNeg = m) (hl : m < l.length) (h9 : w.set a (.inl (0, .inl (l.set m x))) = w9) (K : Wp sc d k (pc + 1) ls r w9 nc ns Q) : Wp sc d k pc ls (.int x :: .int i :: .ref a :: r) w nc ns Q := q_iastore hd hi hw (by rw [hm]; exact hl) (by rw [hm, h9]; exact K)
theorem q_bastorev {i x : Int32} {a m : Nat} {l : List Int32} {w9 : AW} (hd : mLk k pc = some (.bastore, len)) (hi : 0 ≤ i) (hw : w[a]? = some (.inl (1, .inl l))) (hm : i.toNatClampNeg = m) (hl : m < l.length) (h9 : w.set a (.inl (1, .inl (l.set m x.toInt8.toInt32))) = w9) (K : Wp sc d k (pc + 1) ls r w9 nc ns Q) : Wp sc d k pc ls (.int x :: .int i :: .ref a :: r) w nc ns Q := q_bastore hd hi hw (by rw [hm]; exact hl) (by rw [hm, h9]; exact K)
theorem q_lastorev {i : Int32} {x : Int64} {a m : Nat} {l : List Int64} {w9 : AW} (hd : mLk k pc = some (.lastore, len)) (hi : 0 ≤ i) (hw : w[a]? = some (.inl (2, .inr l))) (hm : i.toNatClampNeg = m) (hl : m < l.length) (h9 : w.set a (.inl (2, .inr (l.set m x))) = w9) (K : Wp sc d k (pc + 1) ls r w9 nc ns Q) : Wp sc d k pc ls (.long x :: .int i :: .ref a :: r) w nc ns Q := q_lastore hd hi hw (by rw [hm]; exact hl) (by rw [hm, h9]; exact K)
theorem q_putv {x a ci f : Nat} {fs : List Value} {v : Value} {w9 : AW} (hd : mLk k pc = some (.putfield x, len)) (hk : a_lk (kF (mK k)) x = some (ci, f)) (hw : w[a]? = some (.inr (ci, fs))) (hl : f < fs.length) (hc : a_fit (YF ci f) v = true) (hz : (TF ci f).2.2.2 = false ∨ (mD k = 2 ∧ mK k = ci)) (h9 : w.set a (.inr (ci, fs.set f v)) = w9) (K : Wp sc d k (pc + 3) ls r w9 nc ns Q) : Wp sc d k pc ls (v :: .ref a :: r) w nc ns Q := q_put hd hk hw ⟨hl, hc, hz⟩ (by rw [h9]; exact K)
theorem q_alen {a t : Nat} {l : List Int32} {v : Int32} (hd : mLk k pc = some (.arraylength, len)) (ha : ¬ a = a_SC) (hw : w[a]? = some (.inl (t, .inl l))) (ht : t < 2) (hv : Int32.ofNat l.length = v) (K : Wp sc d k (pc + 1) ls (.int v :: r) w nc ns Q) : Wp sc d k pc ls (.ref a :: r) w nc ns Q := by
  subst hv
  exact q_ins hd (show a_aln sc pc ls (.ref a :: r) w = some (pc + 1, ls, .int (Int32.ofNat l.length) :: r, w, 0, 0) by unfold a_aln; dsimp only; rw [if_neg ha, hw]; exact if_pos ht) K
theorem q_mmax {x j : Nat} {u v z : Int32} (hd : mLk k pc = some (.invokestatic x, len)) (hk : a_lk (kM (mK k)) x = some (3, j)) (hc : 1 ≤ d ∧ a_cat r ≤ 8) (hz : (if u < v then v else u) = z) (K : Wp sc d k (pc + 3) ls (.int z :: r) w nc ns Q) : Wp sc d k pc ls (.int v :: .int u :: r) w nc ns Q := by
  subst hz
  exact q_ins hd (show a_ins d k x pc ls (.int v :: .int u :: r) w = some (pc + 3, ls, .int (if u < v then v else u) :: r, w, 0, 0) by unfold a_ins; rw [hk]; exact if_pos hc) K
theorem q_mmin {x j : Nat} {u v z : Int32} (hd : mLk k pc = some (.invokestatic x, len)) (hk : a_lk (kM (mK k)) x = some (4, j)) (hc : 1 ≤ d ∧ a_cat r ≤ 8) (hz : (if v < u then v else u) = z) (K : Wp sc d k (pc + 3) ls (.int z :: r) w nc ns Q) : Wp sc d k pc ls (.int v :: .int u :: r) w nc ns Q := by
  subst hz
  exact q_ins hd (show a_ins d k x pc ls (.int v :: .int u :: r) w = some (pc + 3, ls, .int (if v < u then v else u) :: r, w, 0, 0) by unfold a_ins; rw [hk]; exact if_pos hc) K
theorem q_mabs {x j : Nat} {u z : Int32} (hd : mLk k pc = some (.invokestatic x, len)) (hk : a_lk (kM (mK k)) x = some (5, j)) (hc : 1 ≤ d ∧ a_cat r ≤ 8) (hz : (if 0 ≤ u then u else 0 - u) = z) (K : Wp sc d k (pc + 3) ls (.int z :: r) w nc ns Q) : Wp sc d k pc ls (.int u :: r) w nc ns Q := by
  subst hz
  exact q_ins hd (show a_ins d k x pc ls (.int u :: r) w = some (pc + 3, ls, .int (if 0 ≤ u then u else 0 - u) :: r, w, 0, 0) by unfold a_ins; rw [hk]; exact if_pos hc) K
end WPS
noncomputable def Qlaw (r : AR) : Prop := r.1 = .inl (some (.int 1)) ∧ r.2.2.1 ≤ 600000 ∧ r.2.2.2 ≤ 7290000
