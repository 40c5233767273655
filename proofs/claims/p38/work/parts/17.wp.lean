section
/-! ===== runs of the abstract machine, as rules ===== -/
noncomputable def Wp (sc : List Int32) (d k pc : Nat) (ls : AL) (st : List Value) (w : AW) (nc ns : Nat) (Q : AR → Prop) : Prop := ∃ (n : Nat) (r : AR), ev sc n d k pc ls st w nc ns = some r ∧ Q r
theorem bk_mono {k pc j : Nat} {rest : List Value} {nc ns : Nat} {go go' : List Value → AW → Nat → Nat → Option AR} {x x' : Option AR} {r : AR} (hg : ∀ st w a b r, go st w a b = some r → go' st w a b = some r) (hx : ∀ r, x = some r → x' = some r) (h : a_bk k pc j rest nc ns go x = some r) : a_bk k pc j rest nc ns go' x' = some r := by
  cases x with
  | none => cases h
  | some y =>
    rw [hx y rfl]
    obtain ⟨o, w', a, b⟩ := y
    cases o with
    | inl v => exact hg _ _ _ _ _ h
    | inr v => exact h
theorem ev_mono {sc : List Int32} : ∀ {n d k pc : Nat} {ls : AL} {st : List Value} {w : AW} {nc ns : Nat} {r : AR}, ev sc n d k pc ls st w nc ns = some r → ev sc (n + 1) d k pc ls st w nc ns = some r
  | 0, _, _, _, _, _, _, _, _, _, h => by cases h
  | n + 1, d, k, pc, ls, st, w, nc, ns, r, h => by
    unfold ev at h ⊢
    split at h
    · cases h
    · rename_i i len hd
      try rw [hd]
      try dsimp only
      split at h
      · rename_i pc' ls' st' w' a b hi
        try rw [hi]
        exact ev_mono h
      · rename_i hi
        try rw [hi]
        try dsimp only
        split at h
        · rename_i o a b hf
          try rw [hf]
          exact h
        · rename_i hf
          try rw [hf]
          try dsimp only
          split at h
          · rename_i j ags rest hc
            try rw [hc]
            cases d with
            | zero => cases h
            | succ d' => exact bk_mono (fun _ _ _ _ _ hh => ev_mono hh) (fun _ hh => ev_mono hh) h
          · cases h
theorem ev_le {sc : List Int32} {n d k pc : Nat} {ls : AL} {st : List Value} {w : AW} {nc ns : Nat} {r : AR} (h : ev sc n d k pc ls st w nc ns = some r) : ∀ m : Nat, ev sc (n + m) d k pc ls st w nc ns = some r
  | 0 => h
  | m + 1 => ev_mono (ev_le h m)
theorem ev_to {sc : List Int32} {n n' d k pc : Nat} {ls : AL} {st : List Value} {w : AW} {nc ns : Nat} {r : AR} (h : ev sc n d k pc ls st w nc ns = some r) (hn : n ≤ n') : ev sc n' d k pc ls st w nc ns = some r := by
  obtain ⟨m, rfl⟩ := Nat.exists_eq_add_of_le hn
  exact ev_le h m
section WPR
variable {sc : List Int32} {d k pc len nc ns : Nat} {ls : AL} {st r : List Value} {w : AW} {Q : AR → Prop}
theorem q_ins {i : Instr} {pc' a b : Nat} {ls' : AL} {st' : List Value} {w' : AW} (hd : mLk k pc = some (i, len)) (h : ins sc d k pc ls st w i = some (pc', ls', st', w', a, b)) (K : Wp sc d k pc' ls' st' w' (nc + a) (ns + b) Q) : Wp sc d k pc ls st w nc ns Q := by
  obtain ⟨n, x, h1, h2⟩ := K
  refine ⟨n + 1, x, ?_, h2⟩
  unfold ev
  rw [hd]
  dsimp only
  rw [h]
  exact h1
theorem q_fin {i : Instr} {oo : Option Value ⊕ Nat} {a b : Nat} (hd : mLk k pc = some (i, len)) (hi : ins sc d k pc ls st w i = none) (h : fin d k pc st i = some (oo, a, b)) (K : Q (oo, w, nc + a, ns + b)) : Wp sc d k pc ls st w nc ns Q := by
  refine ⟨1, _, ?_, K⟩
  unfold ev
  rw [hd]
  dsimp only
  rw [hi]
  dsimp only
  rw [h]
theorem q_cal0 {i : Instr} {j : Nat} {ags rest : List Value} {Q0 : AR → Prop} (hd : mLk k pc = some (i, len)) (hi : ins sc (d + 1) k pc ls st w i = none) (hf : fin (d + 1) k pc st i = none) (hc : cal k st w i = some (j, ags, rest)) (C : Wp sc d j 0 (lv_args 0 ags) [] w 0 0 Q0)
    (K : ∀ x : AR, Q0 x → ∃ (n : Nat) (y : AR), a_bk k pc j rest nc ns (fun st' w' a b => ev sc n (d + 1) k (pc + 3) ls st' w' a b) (some x) = some y ∧ Q y) : Wp sc (d + 1) k pc ls st w nc ns Q := by
  obtain ⟨n1, x, h1, h2⟩ := C
  obtain ⟨n2, y, h3, h4⟩ := K x h2
  refine ⟨n1 + n2 + 1, y, ?_, h4⟩
  unfold ev
  rw [hd]
  dsimp only
  rw [hi]
  dsimp only
  rw [hf]
  dsimp only
  rw [hc]
  dsimp only
  refine bk_mono (fun _ _ _ _ _ hh => ev_to hh (by omega)) (fun r hh => ?_) h3
  rw [← hh]
  exact ev_to h1 (by omega)
/-- a call that answers -/
theorem q_cal {i : Instr} {j : Nat} {ags rest : List Value} {Q0 : Option Value → AW → Nat → Nat → Prop} (hd : mLk k pc = some (i, len)) (hi : ins sc (d + 1) k pc ls st w i = none) (hf : fin (d + 1) k pc st i = none) (hc : cal k st w i = some (j, ags, rest)) (C : Wp sc d j 0 (lv_args 0 ags) [] w 0 0 (fun x => ∃ v, x.1 = .inl v ∧ Q0 v x.2.1 x.2.2.1 x.2.2.2))
    (K : ∀ (v : Option Value) (w' : AW) (a b : Nat), Q0 v w' a b → Wp sc (d + 1) k (pc + 3) ls (v.toList ++ rest) w' (nc + a) (ns + b) Q) : Wp sc (d + 1) k pc ls st w nc ns Q := by
  refine q_cal0 hd hi hf hc C ?_
  rintro ⟨o, w', a, b⟩ ⟨v, rfl, hq⟩
  obtain ⟨n, y, h1, h2⟩ := K v w' a b hq
  exact ⟨n, y, h1, h2⟩
/-- a call that throws, and is caught -/
theorem q_thr {i : Instr} {j x : Nat} {z : Int32} {ags rest : List Value} {Q0 : AW → Nat → Nat → Prop} (hd : mLk k pc = some (i, len)) (hi : ins sc (d + 1) k pc ls st w i = none) (hf : fin (d + 1) k pc st i = none) (hc : cal k st w i = some (j, ags, rest)) (hj : mD j = 0) (hh : ∃ y ys, mH k = y :: ys) (hz : a_hnd k pc x = some z)
    (C : Wp sc d j 0 (lv_args 0 ags) [] w 0 0 (fun y => y.1 = .inr x ∧ Q0 y.2.1 y.2.2.1 y.2.2.2)) (K : ∀ (w' : AW) (a b : Nat), Q0 w' a b → Q (.inl (some (.int z)), w', nc + a, ns + b)) : Wp sc (d + 1) k pc ls st w nc ns Q := by
  refine q_cal0 hd hi hf hc C ?_
  rintro ⟨o, w', a, b⟩ ⟨h9, hq⟩
  obtain ⟨y, ys, hy⟩ := hh
  refine ⟨0, _, ?_, K w' a b hq⟩
  cases h9
  show (if mD j = 0 then _ else none) = _
  rw [if_pos hj, hy]
  dsimp only
  rw [hz]
/-- a call that throws, and goes on to the caller -/
theorem q_out {i : Instr} {j x : Nat} {ags rest : List Value} {Q0 : AW → Nat → Nat → Prop} (hd : mLk k pc = some (i, len)) (hi : ins sc (d + 1) k pc ls st w i = none) (hf : fin (d + 1) k pc st i = none) (hc : cal k st w i = some (j, ags, rest)) (hj : mD j = 0) (hh : mH k = [])
    (C : Wp sc d j 0 (lv_args 0 ags) [] w 0 0 (fun y => y.1 = .inr x ∧ Q0 y.2.1 y.2.2.1 y.2.2.2)) (K : ∀ (w' : AW) (a b : Nat), Q0 w' a b → Q (.inr x, w', nc + a, ns + b)) : Wp sc (d + 1) k pc ls st w nc ns Q := by
  refine q_cal0 hd hi hf hc C ?_
  rintro ⟨o, w', a, b⟩ ⟨h9, hq⟩
  refine ⟨0, _, ?_, K w' a b hq⟩
  cases h9
  show (if mD j = 0 then _ else none) = _
  rw [if_pos hj, hh]
theorem Wp.post {Q' : AR → Prop} (h : Wp sc d k pc ls st w nc ns Q) (hQ : ∀ r, Q r → Q' r) : Wp sc d k pc ls st w nc ns Q' := by
  obtain ⟨n, r, h1, h2⟩ := h
  exact ⟨n, r, h1, hQ r h2⟩
theorem q_iconst {n : Int} (hd : mLk k pc = some (.iconst n, len)) (K : Wp sc d k (pc + 1) ls (.int (Int32.ofInt n) :: st) w nc ns Q) : Wp sc d k pc ls st w nc ns Q := q_ins hd rfl K
theorem q_bipush {n : Int} (hd : mLk k pc = some (.bipush n, len)) (K : Wp sc d k (pc + 2) ls (.int (Int8.ofInt n).toInt32 :: st) w nc ns Q) : Wp sc d k pc ls st w nc ns Q := q_ins hd rfl K
theorem q_sipush {n : Int} (hd : mLk k pc = some (.sipush n, len)) (K : Wp sc d k (pc + 3) ls (.int (Int16.ofInt n).toInt32 :: st) w nc ns Q) : Wp sc d k pc ls st w nc ns Q := q_ins hd rfl K
theorem q_lconst {n : Fin 2} (hd : mLk k pc = some (.lconst n, len)) (K : Wp sc d k (pc + 1) ls (.long (Int64.ofNat (n : Nat)) :: st) w nc ns Q) : Wp sc d k pc ls st w nc ns Q := q_ins hd rfl K
theorem q_iload {i : Nat} {x : Int32} (hd : mLk k pc = some (.iload i, len)) (hv : a_lk ls i = some (.int x)) (K : Wp sc d k (pc + 2) ls (.int x :: st) w nc ns Q) : Wp sc d k pc ls st w nc ns Q := q_ins hd (show a_ldI (a_lk ls i) (pc + 2) ls st w = some (pc + 2, ls, .int x :: st, w, 0, 0) by rw [hv]; rfl) K
theorem q_iload_n {i : Fin 4} {x : Int32} (hd : mLk k pc = some (.iload_n i, len)) (hv : a_lk ls (i : Nat) = some (.int x)) (K : Wp sc d k (pc + 1) ls (.int x :: st) w nc ns Q) : Wp sc d k pc ls st w nc ns Q := q_ins hd (show a_ldI (a_lk ls (i : Nat)) (pc + 1) ls st w = some (pc + 1, ls, .int x :: st, w, 0, 0) by rw [hv]; rfl) K
theorem q_istore {i : Nat} {x : Int32} (hd : mLk k pc = some (.istore i, len)) (hi : i < mX k) (K : Wp sc d k (pc + 2) (a_s1 ls i (.int x)) (r) w nc ns Q) : Wp sc d k pc ls (.int x :: r) w nc ns Q := q_ins hd (show a_stI (mX k) i (pc + 2) ls (.int x :: r) w = some (pc + 2, a_s1 ls i (.int x), r, w, 0, 0) from if_pos hi) K
theorem q_istore_n {i : Fin 4} {x : Int32} (hd : mLk k pc = some (.istore_n i, len)) (hi : (i : Nat) < mX k) (K : Wp sc d k (pc + 1) (a_s1 ls (i : Nat) (.int x)) (r) w nc ns Q) : Wp sc d k pc ls (.int x :: r) w nc ns Q := q_ins hd (show a_stI (mX k) (i : Nat) (pc + 1) ls (.int x :: r) w = some (pc + 1, a_s1 ls (i : Nat) (.int x), r, w, 0, 0) from if_pos hi) K
theorem q_lload {i : Nat} {x : Int64} (hd : mLk k pc = some (.lload i, len)) (hv : a_lk ls i = some (.long x)) (K : Wp sc d k (pc + 2) ls (.long x :: st) w nc ns Q) : Wp sc d k pc ls st w nc ns Q := q_ins hd (show a_ldL (a_lk ls i) (pc + 2) ls st w = some (pc + 2, ls, .long x :: st, w, 0, 0) by rw [hv]; rfl) K
theorem q_lload_n {i : Fin 4} {x : Int64} (hd : mLk k pc = some (.lload_n i, len)) (hv : a_lk ls (i : Nat) = some (.long x)) (K : Wp sc d k (pc + 1) ls (.long x :: st) w nc ns Q) : Wp sc d k pc ls st w nc ns Q := q_ins hd (show a_ldL (a_lk ls (i : Nat)) (pc + 1) ls st w = some (pc + 1, ls, .long x :: st, w, 0, 0) by rw [hv]; rfl) K
theorem q_lstore {i : Nat} {x : Int64} (hd : mLk k pc = some (.lstore i, len)) (hi : i + 1 < mX k) (K : Wp sc d k (pc + 2) (a_s2 ls i (.long x)) (r) w nc ns Q) : Wp sc d k pc ls (.long x :: r) w nc ns Q := q_ins hd (show a_stL (mX k) i (pc + 2) ls (.long x :: r) w = some (pc + 2, a_s2 ls i (.long x), r, w, 0, 0) from if_pos hi) K
theorem q_lstore_n {i : Fin 4} {x : Int64} (hd : mLk k pc = some (.lstore_n i, len)) (hi : (i : Nat) + 1 < mX k) (K : Wp sc d k (pc + 1) (a_s2 ls (i : Nat) (.long x)) (r) w nc ns Q) : Wp sc d k pc ls (.long x :: r) w nc ns Q := q_ins hd (show a_stL (mX k) (i : Nat) (pc + 1) ls (.long x :: r) w = some (pc + 1, a_s2 ls (i : Nat) (.long x), r, w, 0, 0) from if_pos hi) K
theorem q_aload {i : Nat} {x : Nat} (hd : mLk k pc = some (.aload i, len)) (hv : a_lk ls i = some (.ref x)) (K : Wp sc d k (pc + 2) ls (.ref x :: st) w nc ns Q) : Wp sc d k pc ls st w nc ns Q := q_ins hd (show a_ldA (a_lk ls i) (pc + 2) ls st w = some (pc + 2, ls, .ref x :: st, w, 0, 0) by rw [hv]; rfl) K
theorem q_aload_n {i : Fin 4} {x : Nat} (hd : mLk k pc = some (.aload_n i, len)) (hv : a_lk ls (i : Nat) = some (.ref x)) (K : Wp sc d k (pc + 1) ls (.ref x :: st) w nc ns Q) : Wp sc d k pc ls st w nc ns Q := q_ins hd (show a_ldA (a_lk ls (i : Nat)) (pc + 1) ls st w = some (pc + 1, ls, .ref x :: st, w, 0, 0) by rw [hv]; rfl) K
theorem q_astore {i : Nat} {x : Nat} (hd : mLk k pc = some (.astore i, len)) (hi : i < mX k) (K : Wp sc d k (pc + 2) (a_s1 ls i (.ref x)) (r) w nc ns Q) : Wp sc d k pc ls (.ref x :: r) w nc ns Q := q_ins hd (show a_stA (mX k) i (pc + 2) ls (.ref x :: r) w = some (pc + 2, a_s1 ls i (.ref x), r, w, 0, 0) from if_pos hi) K
theorem q_astore_n {i : Fin 4} {x : Nat} (hd : mLk k pc = some (.astore_n i, len)) (hi : (i : Nat) < mX k) (K : Wp sc d k (pc + 1) (a_s1 ls (i : Nat) (.ref x)) (r) w nc ns Q) : Wp sc d k pc ls (.ref x :: r) w nc ns Q := q_ins hd (show a_stA (mX k) (i : Nat) (pc + 1) ls (.ref x :: r) w = some (pc + 1, a_s1 ls (i : Nat) (.ref x), r, w, 0, 0) from if_pos hi) K
theorem q_iinc {i : Nat} {c : Int} {x : Int32} (hd : mLk k pc = some (.iinc i c, len)) (hv : a_lk ls i = some (.int x)) (hi : i < mX k) (K : Wp sc d k (pc + 3) (a_s1 ls i (.int (x + Int32.ofInt c))) (st) w nc ns Q) : Wp sc d k pc ls st w nc ns Q := q_ins hd (show a_inc (mX k) i c pc ls st w = some (pc + 3, a_s1 ls i (.int (x + Int32.ofInt c)), st, w, 0, 0) by unfold a_inc; rw [hv]; exact if_pos hi) K
theorem q_iadd {x y : Int32} (hd : mLk k pc = some (.iadd, len)) (K : Wp sc d k (pc + 1) ls (.int (x + y) :: r) w nc ns Q) : Wp sc d k pc ls (.int y :: .int x :: r) w nc ns Q := q_ins hd rfl K
theorem q_isub {x y : Int32} (hd : mLk k pc = some (.isub, len)) (K : Wp sc d k (pc + 1) ls (.int (x - y) :: r) w nc ns Q) : Wp sc d k pc ls (.int y :: .int x :: r) w nc ns Q := q_ins hd rfl K
theorem q_imul {x y : Int32} (hd : mLk k pc = some (.imul, len)) (K : Wp sc d k (pc + 1) ls (.int (x * y) :: r) w nc ns Q) : Wp sc d k pc ls (.int y :: .int x :: r) w nc ns Q := q_ins hd rfl K
theorem q_iand {x y : Int32} (hd : mLk k pc = some (.iand, len)) (K : Wp sc d k (pc + 1) ls (.int (x &&& y) :: r) w nc ns Q) : Wp sc d k pc ls (.int y :: .int x :: r) w nc ns Q := q_ins hd rfl K
theorem q_ior {x y : Int32} (hd : mLk k pc = some (.ior, len)) (K : Wp sc d k (pc + 1) ls (.int (x ||| y) :: r) w nc ns Q) : Wp sc d k pc ls (.int y :: .int x :: r) w nc ns Q := q_ins hd rfl K
theorem q_ixor {x y : Int32} (hd : mLk k pc = some (.ixor, len)) (K : Wp sc d k (pc + 1) ls (.int (x ^^^ y) :: r) w nc ns Q) : Wp sc d k pc ls (.int y :: .int x :: r) w nc ns Q := q_ins hd rfl K
theorem q_ishl {x y : Int32} (hd : mLk k pc = some (.ishl, len)) (K : Wp sc d k (pc + 1) ls (.int (x <<< (y &&& 31)) :: r) w nc ns Q) : Wp sc d k pc ls (.int y :: .int x :: r) w nc ns Q := q_ins hd rfl K
theorem q_ishr {x y : Int32} (hd : mLk k pc = some (.ishr, len)) (K : Wp sc d k (pc + 1) ls (.int (x >>> (y &&& 31)) :: r) w nc ns Q) : Wp sc d k pc ls (.int y :: .int x :: r) w nc ns Q := q_ins hd rfl K
theorem q_iushr {x y : Int32} (hd : mLk k pc = some (.iushr, len)) (K : Wp sc d k (pc + 1) ls (.int ((x.toUInt32 >>> (y.toUInt32 &&& Int32.toUInt32 31)).toInt32) :: r) w nc ns Q) : Wp sc d k pc ls (.int y :: .int x :: r) w nc ns Q := q_ins hd rfl K
theorem q_idiv {x y : Int32} (hd : mLk k pc = some (.idiv, len)) (hy : ¬ y = 0) (K : Wp sc d k (pc + 1) ls (.int (x / y) :: r) w nc ns Q) : Wp sc d k pc ls (.int y :: .int x :: r) w nc ns Q := q_ins hd (show a_i2z (fun x y => x / y) pc ls (.int y :: .int x :: r) w = some (pc + 1, ls, .int (x / y) :: r, w, 0, 0) from if_neg hy) K
theorem q_irem {x y : Int32} (hd : mLk k pc = some (.irem, len)) (hy : ¬ y = 0) (K : Wp sc d k (pc + 1) ls (.int (x - x / y * y) :: r) w nc ns Q) : Wp sc d k pc ls (.int y :: .int x :: r) w nc ns Q := q_ins hd (show a_i2z (fun x y => x - x / y * y) pc ls (.int y :: .int x :: r) w = some (pc + 1, ls, .int (x - x / y * y) :: r, w, 0, 0) from if_neg hy) K
theorem q_ineg {x : Int32} (hd : mLk k pc = some (.ineg, len)) (K : Wp sc d k (pc + 1) ls (.int (-x) :: r) w nc ns Q) : Wp sc d k pc ls (.int x :: r) w nc ns Q := q_ins hd rfl K
theorem q_i2b {x : Int32} (hd : mLk k pc = some (.i2b, len)) (K : Wp sc d k (pc + 1) ls (.int x.toInt8.toInt32 :: r) w nc ns Q) : Wp sc d k pc ls (.int x :: r) w nc ns Q := q_ins hd rfl K
theorem q_i2l {x : Int32} (hd : mLk k pc = some (.i2l, len)) (K : Wp sc d k (pc + 1) ls (.long x.toInt64 :: r) w nc ns Q) : Wp sc d k pc ls (.int x :: r) w nc ns Q := q_ins hd rfl K
theorem q_ladd {x y : Int64} (hd : mLk k pc = some (.ladd, len)) (K : Wp sc d k (pc + 1) ls (.long (x + y) :: r) w nc ns Q) : Wp sc d k pc ls (.long y :: .long x :: r) w nc ns Q := q_ins hd rfl K
theorem q_lmul {x y : Int64} (hd : mLk k pc = some (.lmul, len)) (K : Wp sc d k (pc + 1) ls (.long (x * y) :: r) w nc ns Q) : Wp sc d k pc ls (.long y :: .long x :: r) w nc ns Q := q_ins hd rfl K
theorem q_ldiv {x y : Int64} (hd : mLk k pc = some (.ldiv, len)) (hy : ¬ y = 0) (K : Wp sc d k (pc + 1) ls (.long (x / y) :: r) w nc ns Q) : Wp sc d k pc ls (.long y :: .long x :: r) w nc ns Q := q_ins hd (show a_l2z (fun x y => x / y) pc ls (.long y :: .long x :: r) w = some (pc + 1, ls, .long (x / y) :: r, w, 0, 0) from if_neg hy) K
theorem q_lrem {x y : Int64} (hd : mLk k pc = some (.lrem, len)) (hy : ¬ y = 0) (K : Wp sc d k (pc + 1) ls (.long (x - x / y * y) :: r) w nc ns Q) : Wp sc d k pc ls (.long y :: .long x :: r) w nc ns Q := q_ins hd (show a_l2z (fun x y => x - x / y * y) pc ls (.long y :: .long x :: r) w = some (pc + 1, ls, .long (x - x / y * y) :: r, w, 0, 0) from if_neg hy) K
theorem q_lcmp {x y : Int64} (hd : mLk k pc = some (.lcmp, len)) (K : Wp sc d k (pc + 1) ls (.int (lg_cmp x y) :: r) w nc ns Q) : Wp sc d k pc ls (.long y :: .long x :: r) w nc ns Q := q_ins hd rfl K
theorem q_ldc_i {x : Nat} {v : Int32} (hd : mLk k pc = some (.ldc x, len)) (hv : a_lk (kI (mK k)) x = some v) (K : Wp sc d k (pc + 2) ls (.int v :: st) w nc ns Q) : Wp sc d k pc ls st w nc ns Q := q_ins hd (show a_ldc (mK k) x (pc + 2) ls st w = some (pc + 2, ls, .int v :: st, w, 0, 0) by unfold a_ldc; rw [hv]; rfl) K
theorem q_ldc_s {x i : Nat} (hd : mLk k pc = some (.ldc x, len)) (hv : a_lk (kI (mK k)) x = none) (hs : a_lk (kS (mK k)) x = some i) (hi : i < sN) (K : Wp sc d k (pc + 2) ls (.ref (a_SB + i) :: st) w nc ns Q) : Wp sc d k pc ls st w nc ns Q := q_ins hd (show a_ldc (mK k) x (pc + 2) ls st w = some (pc + 2, ls, .ref (a_SB + i) :: st, w, 0, 0) by unfold a_ldc; rw [hv, hs]; exact if_pos hi) K
theorem q_ldc_w_i {x : Nat} {v : Int32} (hd : mLk k pc = some (.ldc_w x, len)) (hv : a_lk (kI (mK k)) x = some v) (K : Wp sc d k (pc + 3) ls (.int v :: st) w nc ns Q) : Wp sc d k pc ls st w nc ns Q := q_ins hd (show a_ldc (mK k) x (pc + 3) ls st w = some (pc + 3, ls, .int v :: st, w, 0, 0) by unfold a_ldc; rw [hv]; rfl) K
theorem q_ldc_w_s {x i : Nat} (hd : mLk k pc = some (.ldc_w x, len)) (hv : a_lk (kI (mK k)) x = none) (hs : a_lk (kS (mK k)) x = some i) (hi : i < sN) (K : Wp sc d k (pc + 3) ls (.ref (a_SB + i) :: st) w nc ns Q) : Wp sc d k pc ls st w nc ns Q := q_ins hd (show a_ldc (mK k) x (pc + 3) ls st w = some (pc + 3, ls, .ref (a_SB + i) :: st, w, 0, 0) by unfold a_ldc; rw [hv, hs]; exact if_pos hi) K
theorem q_ldc2 {x : Nat} {v : Int64} (hd : mLk k pc = some (.ldc2_w x, len)) (hv : a_lk (kL (mK k)) x = some v) (K : Wp sc d k (pc + 3) ls (.long v :: st) w nc ns Q) : Wp sc d k pc ls st w nc ns Q := q_ins hd (show a_ldc2 (mK k) x (pc + 3) ls st w = some (pc + 3, ls, .long v :: st, w, 0, 0) by unfold a_ldc2; rw [hv]; rfl) K
theorem q_dup {v : Value} (hd : mLk k pc = some (.dup, len)) (hv : v.category = 1) (K : Wp sc d k (pc + 1) ls (v :: v :: r) w nc ns Q) : Wp sc d k pc ls (v :: r) w nc ns Q := q_ins hd (show a_dup pc ls (v :: r) w = some (pc + 1, ls, v :: v :: r, w, 0, 0) from if_pos hv) K
theorem q_pop {v : Value} (hd : mLk k pc = some (.pop, len)) (hv : v.category = 1) (K : Wp sc d k (pc + 1) ls (r) w nc ns Q) : Wp sc d k pc ls (v :: r) w nc ns Q := q_ins hd (show a_pop pc ls (v :: r) w = some (pc + 1, ls, r, w, 0, 0) from if_pos hv) K
theorem q_dup2 {u v : Value} (hd : mLk k pc = some (.dup2, len)) (hv : u.category = 1 ∧ v.category = 1) (K : Wp sc d k (pc + 1) ls (u :: v :: u :: v :: r) w nc ns Q) : Wp sc d k pc ls (u :: v :: r) w nc ns Q := q_ins hd (show a_dup2 pc ls (u :: v :: r) w = some (pc + 1, ls, u :: v :: u :: v :: r, w, 0, 0) from if_pos hv) K
theorem to_of {t pc : Nat} {off : Int} (h : (pc : Int) + off = (t : Int)) : a_to pc off ls st w = some (t, ls, st, w, 0, 0) := by
  unfold a_to
  rw [h, if_pos (Int.natCast_nonneg t), Int.toNat_natCast]
  rfl
theorem jmp_t {t pc : Nat} {off : Int} {c : Prop} [Decidable c] (h : (pc : Int) + off = (t : Int)) (hc : c) : a_jmp c pc off ls st w = some (t, ls, st, w, 0, 0) := by
  unfold a_jmp
  rw [h, if_pos (Int.natCast_nonneg t), if_pos hc, Int.toNat_natCast]
  rfl
theorem jmp_f {t pc : Nat} {off : Int} {c : Prop} [Decidable c] (h : (pc : Int) + off = (t : Int)) (hc : ¬ c) : a_jmp c pc off ls st w = some (pc + 3, ls, st, w, 0, 0) := by
  unfold a_jmp
  rw [h, if_pos (Int.natCast_nonneg t), if_neg hc]
  rfl
theorem q_goto {off : Int} {t : Nat} (hd : mLk k pc = some (.goto off, len)) (ht : (pc : Int) + off = (t : Int)) (K : Wp sc d k (t) ls (st) w nc ns Q) : Wp sc d k pc ls st w nc ns Q := q_ins hd (to_of ht) K
theorem q_if_eq_t {off : Int} {t : Nat} {x : Int32} (hd : mLk k pc = some (.ifCond .eq off, len)) (ht : (pc : Int) + off = (t : Int)) (hc : x = 0) (K : Wp sc d k (t) ls (r) w nc ns Q) : Wp sc d k pc ls (.int x :: r) w nc ns Q := q_ins hd (jmp_t (c := x = 0) ht hc) K
theorem q_if_eq_f {off : Int} {t : Nat} {x : Int32} (hd : mLk k pc = some (.ifCond .eq off, len)) (ht : (pc : Int) + off = (t : Int)) (hc : ¬ (x = 0)) (K : Wp sc d k (pc + 3) ls (r) w nc ns Q) : Wp sc d k pc ls (.int x :: r) w nc ns Q := q_ins hd (jmp_f (c := x = 0) ht hc) K
theorem q_if_ne_t {off : Int} {t : Nat} {x : Int32} (hd : mLk k pc = some (.ifCond .ne off, len)) (ht : (pc : Int) + off = (t : Int)) (hc : ¬ x = 0) (K : Wp sc d k (t) ls (r) w nc ns Q) : Wp sc d k pc ls (.int x :: r) w nc ns Q := q_ins hd (jmp_t (c := ¬ x = 0) ht hc) K
theorem q_if_ne_f {off : Int} {t : Nat} {x : Int32} (hd : mLk k pc = some (.ifCond .ne off, len)) (ht : (pc : Int) + off = (t : Int)) (hc : ¬ (¬ x = 0)) (K : Wp sc d k (pc + 3) ls (r) w nc ns Q) : Wp sc d k pc ls (.int x :: r) w nc ns Q := q_ins hd (jmp_f (c := ¬ x = 0) ht hc) K
theorem q_if_lt_t {off : Int} {t : Nat} {x : Int32} (hd : mLk k pc = some (.ifCond .lt off, len)) (ht : (pc : Int) + off = (t : Int)) (hc : x < 0) (K : Wp sc d k (t) ls (r) w nc ns Q) : Wp sc d k pc ls (.int x :: r) w nc ns Q := q_ins hd (jmp_t (c := x < 0) ht hc) K
theorem q_if_lt_f {off : Int} {t : Nat} {x : Int32} (hd : mLk k pc = some (.ifCond .lt off, len)) (ht : (pc : Int) + off = (t : Int)) (hc : ¬ (x < 0)) (K : Wp sc d k (pc + 3) ls (r) w nc ns Q) : Wp sc d k pc ls (.int x :: r) w nc ns Q := q_ins hd (jmp_f (c := x < 0) ht hc) K
theorem q_if_ge_t {off : Int} {t : Nat} {x : Int32} (hd : mLk k pc = some (.ifCond .ge off, len)) (ht : (pc : Int) + off = (t : Int)) (hc : 0 ≤ x) (K : Wp sc d k (t) ls (r) w nc ns Q) : Wp sc d k pc ls (.int x :: r) w nc ns Q := q_ins hd (jmp_t (c := 0 ≤ x) ht hc) K
theorem q_if_ge_f {off : Int} {t : Nat} {x : Int32} (hd : mLk k pc = some (.ifCond .ge off, len)) (ht : (pc : Int) + off = (t : Int)) (hc : ¬ (0 ≤ x)) (K : Wp sc d k (pc + 3) ls (r) w nc ns Q) : Wp sc d k pc ls (.int x :: r) w nc ns Q := q_ins hd (jmp_f (c := 0 ≤ x) ht hc) K
theorem q_if_gt_t {off : Int} {t : Nat} {x : Int32} (hd : mLk k pc = some (.ifCond .gt off, len)) (ht : (pc : Int) + off = (t : Int)) (hc : 0 < x) (K : Wp sc d k (t) ls (r) w nc ns Q) : Wp sc d k pc ls (.int x :: r) w nc ns Q := q_ins hd (jmp_t (c := 0 < x) ht hc) K
theorem q_if_gt_f {off : Int} {t : Nat} {x : Int32} (hd : mLk k pc = some (.ifCond .gt off, len)) (ht : (pc : Int) + off = (t : Int)) (hc : ¬ (0 < x)) (K : Wp sc d k (pc + 3) ls (r) w nc ns Q) : Wp sc d k pc ls (.int x :: r) w nc ns Q := q_ins hd (jmp_f (c := 0 < x) ht hc) K
theorem q_if_le_t {off : Int} {t : Nat} {x : Int32} (hd : mLk k pc = some (.ifCond .le off, len)) (ht : (pc : Int) + off = (t : Int)) (hc : x ≤ 0) (K : Wp sc d k (t) ls (r) w nc ns Q) : Wp sc d k pc ls (.int x :: r) w nc ns Q := q_ins hd (jmp_t (c := x ≤ 0) ht hc) K
theorem q_if_le_f {off : Int} {t : Nat} {x : Int32} (hd : mLk k pc = some (.ifCond .le off, len)) (ht : (pc : Int) + off = (t : Int)) (hc : ¬ (x ≤ 0)) (K : Wp sc d k (pc + 3) ls (r) w nc ns Q) : Wp sc d k pc ls (.int x :: r) w nc ns Q := q_ins hd (jmp_f (c := x ≤ 0) ht hc) K
theorem q_ic_eq_t {off : Int} {t : Nat} {x y : Int32} (hd : mLk k pc = some (.if_icmp .eq off, len)) (ht : (pc : Int) + off = (t : Int)) (hc : x = y) (K : Wp sc d k (t) ls (r) w nc ns Q) : Wp sc d k pc ls (.int y :: .int x :: r) w nc ns Q := q_ins hd (jmp_t (c := x = y) ht hc) K
theorem q_ic_eq_f {off : Int} {t : Nat} {x y : Int32} (hd : mLk k pc = some (.if_icmp .eq off, len)) (ht : (pc : Int) + off = (t : Int)) (hc : ¬ (x = y)) (K : Wp sc d k (pc + 3) ls (r) w nc ns Q) : Wp sc d k pc ls (.int y :: .int x :: r) w nc ns Q := q_ins hd (jmp_f (c := x = y) ht hc) K
theorem q_ic_ne_t {off : Int} {t : Nat} {x y : Int32} (hd : mLk k pc = some (.if_icmp .ne off, len)) (ht : (pc : Int) + off = (t : Int)) (hc : ¬ x = y) (K : Wp sc d k (t) ls (r) w nc ns Q) : Wp sc d k pc ls (.int y :: .int x :: r) w nc ns Q := q_ins hd (jmp_t (c := ¬ x = y) ht hc) K
theorem q_ic_ne_f {off : Int} {t : Nat} {x y : Int32} (hd : mLk k pc = some (.if_icmp .ne off, len)) (ht : (pc : Int) + off = (t : Int)) (hc : ¬ (¬ x = y)) (K : Wp sc d k (pc + 3) ls (r) w nc ns Q) : Wp sc d k pc ls (.int y :: .int x :: r) w nc ns Q := q_ins hd (jmp_f (c := ¬ x = y) ht hc) K
theorem q_ic_lt_t {off : Int} {t : Nat} {x y : Int32} (hd : mLk k pc = some (.if_icmp .lt off, len)) (ht : (pc : Int) + off = (t : Int)) (hc : x < y) (K : Wp sc d k (t) ls (r) w nc ns Q) : Wp sc d k pc ls (.int y :: .int x :: r) w nc ns Q := q_ins hd (jmp_t (c := x < y) ht hc) K
theorem q_ic_lt_f {off : Int} {t : Nat} {x y : Int32} (hd : mLk k pc = some (.if_icmp .lt off, len)) (ht : (pc : Int) + off = (t : Int)) (hc : ¬ (x < y)) (K : Wp sc d k (pc + 3) ls (r) w nc ns Q) : Wp sc d k pc ls (.int y :: .int x :: r) w nc ns Q := q_ins hd (jmp_f (c := x < y) ht hc) K
theorem q_ic_ge_t {off : Int} {t : Nat} {x y : Int32} (hd : mLk k pc = some (.if_icmp .ge off, len)) (ht : (pc : Int) + off = (t : Int)) (hc : y ≤ x) (K : Wp sc d k (t) ls (r) w nc ns Q) : Wp sc d k pc ls (.int y :: .int x :: r) w nc ns Q := q_ins hd (jmp_t (c := y ≤ x) ht hc) K
theorem q_ic_ge_f {off : Int} {t : Nat} {x y : Int32} (hd : mLk k pc = some (.if_icmp .ge off, len)) (ht : (pc : Int) + off = (t : Int)) (hc : ¬ (y ≤ x)) (K : Wp sc d k (pc + 3) ls (r) w nc ns Q) : Wp sc d k pc ls (.int y :: .int x :: r) w nc ns Q := q_ins hd (jmp_f (c := y ≤ x) ht hc) K
theorem q_ic_gt_t {off : Int} {t : Nat} {x y : Int32} (hd : mLk k pc = some (.if_icmp .gt off, len)) (ht : (pc : Int) + off = (t : Int)) (hc : y < x) (K : Wp sc d k (t) ls (r) w nc ns Q) : Wp sc d k pc ls (.int y :: .int x :: r) w nc ns Q := q_ins hd (jmp_t (c := y < x) ht hc) K
theorem q_ic_gt_f {off : Int} {t : Nat} {x y : Int32} (hd : mLk k pc = some (.if_icmp .gt off, len)) (ht : (pc : Int) + off = (t : Int)) (hc : ¬ (y < x)) (K : Wp sc d k (pc + 3) ls (r) w nc ns Q) : Wp sc d k pc ls (.int y :: .int x :: r) w nc ns Q := q_ins hd (jmp_f (c := y < x) ht hc) K
theorem q_ic_le_t {off : Int} {t : Nat} {x y : Int32} (hd : mLk k pc = some (.if_icmp .le off, len)) (ht : (pc : Int) + off = (t : Int)) (hc : x ≤ y) (K : Wp sc d k (t) ls (r) w nc ns Q) : Wp sc d k pc ls (.int y :: .int x :: r) w nc ns Q := q_ins hd (jmp_t (c := x ≤ y) ht hc) K
theorem q_ic_le_f {off : Int} {t : Nat} {x y : Int32} (hd : mLk k pc = some (.if_icmp .le off, len)) (ht : (pc : Int) + off = (t : Int)) (hc : ¬ (x ≤ y)) (K : Wp sc d k (pc + 3) ls (r) w nc ns Q) : Wp sc d k pc ls (.int y :: .int x :: r) w nc ns Q := q_ins hd (jmp_f (c := x ≤ y) ht hc) K
theorem q_tsw_o {dflt lo hi : Int} {offs : Array Int} {t : Nat} {x : Int32} (hd : mLk k pc = some (.tableswitch dflt lo hi offs, len)) (hx : x.toInt < lo ∨ hi < x.toInt) (ht : (pc : Int) + dflt = (t : Int)) (K : Wp sc d k (t) ls (r) w nc ns Q) : Wp sc d k pc ls (.int x :: r) w nc ns Q := q_ins hd (show a_tsw dflt lo hi offs pc ls (.int x :: r) w = some (t, ls, r, w, 0, 0) by unfold a_tsw; dsimp only; rw [if_pos hx]; exact to_of ht) K
theorem q_tsw_i {dflt lo hi off : Int} {offs : Array Int} {t : Nat} {x : Int32} (hd : mLk k pc = some (.tableswitch dflt lo hi offs, len)) (hx : ¬ (x.toInt < lo ∨ hi < x.toInt)) (ho : offs[(x.toInt - lo).toNat]? = some off) (ht : (pc : Int) + off = (t : Int)) (K : Wp sc d k (t) ls (r) w nc ns Q) : Wp sc d k pc ls (.int x :: r) w nc ns Q := q_ins hd (show a_tsw dflt lo hi offs pc ls (.int x :: r) w = some (t, ls, r, w, 0, 0) by unfold a_tsw; dsimp only; rw [if_neg hx, ho]; exact to_of ht) K
theorem q_lsw {dflt off : Int} {ps : Array (Int × Int)} {t : Nat} {x : Int32} (hd : mLk k pc = some (.lookupswitch dflt ps, len)) (hp : (ps.toList.zip (ps.toList.drop 1)).all (fun (a, next) => a.1 < next.1) = true) (ho : Op.lookupswitch.offset ps.toList dflt x.toInt = off) (ht : (pc : Int) + off = (t : Int)) (K : Wp sc d k (t) ls (r) w nc ns Q) : Wp sc d k pc ls (.int x :: r) w nc ns Q := q_ins hd (show a_lsw dflt ps pc ls (.int x :: r) w = some (t, ls, r, w, 0, 0) by unfold a_lsw; dsimp only; rw [if_pos hp, ho]; exact to_of ht) K
theorem q_get {x a ci f : Nat} {fs : List Value} {v : Value} (hd : mLk k pc = some (.getfield x, len)) (hk : a_lk (kF (mK k)) x = some (ci, f)) (hw : w[a]? = some (.inr (ci, fs))) (hv : fs[f]? = some v) (K : Wp sc d k (pc + 3) ls (v :: r) w nc ns Q) : Wp sc d k pc ls (.ref a :: r) w nc ns Q := q_ins hd (show a_get (mK k) x pc ls (.ref a :: r) w = some (pc + 3, ls, v :: r, w, 0, 0) by unfold a_get; dsimp only; rw [hk]; dsimp only; rw [hw]; dsimp only; rw [if_pos rfl, hv]; rfl) K
theorem q_put {x a ci f : Nat} {fs : List Value} {v : Value} (hd : mLk k pc = some (.putfield x, len)) (hk : a_lk (kF (mK k)) x = some (ci, f)) (hw : w[a]? = some (.inr (ci, fs))) (hc : f < fs.length ∧ (a_fit (YF ci f) v = true ∧ ((TF ci f).2.2.2 = false ∨ (mD k = 2 ∧ mK k = ci)))) (K : Wp sc d k (pc + 3) ls (r) (w.set a (.inr (ci, fs.set f v))) nc ns Q) : Wp sc d k pc ls (v :: .ref a :: r) w nc ns Q := q_ins hd (show a_put k x pc ls (v :: .ref a :: r) w = some (pc + 3, ls, r, w.set a (.inr (ci, fs.set f v)), 0, 0) by unfold a_put; dsimp only; rw [hk]; dsimp only; rw [hw]; dsimp only; rw [if_pos ⟨⟨rfl, hc.1⟩, hc.2⟩]; rfl) K
theorem q_iaload {i x : Int32} {a : Nat} {l : List Int32} (hd : mLk k pc = some (.iaload, len)) (hi : 0 ≤ i) (ha : ¬ a = a_SC) (hw : w[a]? = some (.inl (0, .inl l))) (hx : l[i.toNatClampNeg]? = some x) (K : Wp sc d k (pc + 1) ls (.int x :: r) w nc ns Q) : Wp sc d k pc ls (.int i :: .ref a :: r) w nc ns Q := q_ins hd (show a_ild 0 sc pc ls (.int i :: .ref a :: r) w = some (pc + 1, ls, .int x :: r, w, 0, 0) by unfold a_ild; dsimp only; rw [if_pos hi, if_neg (fun h => ha h.1), hw]; dsimp only; rw [if_pos rfl, hx]; rfl) K
theorem q_baload {i x : Int32} {a : Nat} {l : List Int32} (hd : mLk k pc = some (.baload, len)) (hi : 0 ≤ i) (ha : ¬ a = a_SC) (hw : w[a]? = some (.inl (1, .inl l))) (hx : l[i.toNatClampNeg]? = some x) (K : Wp sc d k (pc + 1) ls (.int x :: r) w nc ns Q) : Wp sc d k pc ls (.int i :: .ref a :: r) w nc ns Q := q_ins hd (show a_ild 1 sc pc ls (.int i :: .ref a :: r) w = some (pc + 1, ls, .int x :: r, w, 0, 0) by unfold a_ild; dsimp only; rw [if_pos hi, if_neg (fun h => ha h.1), hw]; dsimp only; rw [if_pos rfl, hx]; rfl) K
theorem q_script {i x : Int32} (hd : mLk k pc = some (.iaload, len)) (hi : 0 ≤ i) (hx : sc[i.toNatClampNeg]? = some x) (K : Wp sc d k (pc + 1) ls (.int x :: r) w nc ns Q) : Wp sc d k pc ls (.int i :: .ref a_SC :: r) w nc ns Q := q_ins hd (show a_ild 0 sc pc ls (.int i :: .ref a_SC :: r) w = some (pc + 1, ls, .int x :: r, w, 0, 0) by unfold a_ild; dsimp only; rw [if_pos hi, if_pos ⟨rfl, rfl⟩, hx]; rfl) K
theorem q_laload {i : Int32} {x : Int64} {a : Nat} {l : List Int64} (hd : mLk k pc = some (.laload, len)) (hi : 0 ≤ i) (hw : w[a]? = some (.inl (2, .inr l))) (hx : l[i.toNatClampNeg]? = some x) (K : Wp sc d k (pc + 1) ls (.long x :: r) w nc ns Q) : Wp sc d k pc ls (.int i :: .ref a :: r) w nc ns Q := q_ins hd (show a_lld pc ls (.int i :: .ref a :: r) w = some (pc + 1, ls, .long x :: r, w, 0, 0) by unfold a_lld; dsimp only; rw [if_pos hi, hw]; dsimp only; rw [if_pos rfl, hx]; rfl) K
theorem q_iastore {i x : Int32} {a : Nat} {l : List Int32} (hd : mLk k pc = some (.iastore, len)) (hi : 0 ≤ i) (hw : w[a]? = some (.inl (0, .inl l))) (hl : i.toNatClampNeg < l.length) (K : Wp sc d k (pc + 1) ls (r) (w.set a (.inl (0, .inl (l.set i.toNatClampNeg (x))))) nc ns Q) : Wp sc d k pc ls (.int x :: .int i :: .ref a :: r) w nc ns Q := q_ins hd (show a_ist pc ls (.int x :: .int i :: .ref a :: r) w = some (pc + 1, ls, r, w.set a (.inl (0, .inl (l.set i.toNatClampNeg (x)))), 0, 0) by unfold a_ist; dsimp only; rw [if_pos hi, hw]; dsimp only; rw [if_pos ⟨rfl, hl⟩]; rfl) K
theorem q_bastore {i x : Int32} {a : Nat} {l : List Int32} (hd : mLk k pc = some (.bastore, len)) (hi : 0 ≤ i) (hw : w[a]? = some (.inl (1, .inl l))) (hl : i.toNatClampNeg < l.length) (K : Wp sc d k (pc + 1) ls (r) (w.set a (.inl (1, .inl (l.set i.toNatClampNeg (x.toInt8.toInt32))))) nc ns Q) : Wp sc d k pc ls (.int x :: .int i :: .ref a :: r) w nc ns Q := q_ins hd (show a_bst pc ls (.int x :: .int i :: .ref a :: r) w = some (pc + 1, ls, r, w.set a (.inl (1, .inl (l.set i.toNatClampNeg (x.toInt8.toInt32)))), 0, 0) by unfold a_bst; dsimp only; rw [if_pos hi, hw]; dsimp only; rw [if_pos ⟨rfl, hl⟩]; rfl) K
theorem q_lastore {i : Int32} {x : Int64} {a : Nat} {l : List Int64} (hd : mLk k pc = some (.lastore, len)) (hi : 0 ≤ i) (hw : w[a]? = some (.inl (2, .inr l))) (hl : i.toNatClampNeg < l.length) (K : Wp sc d k (pc + 1) ls (r) (w.set a (.inl (2, .inr (l.set i.toNatClampNeg x)))) nc ns Q) : Wp sc d k pc ls (.long x :: .int i :: .ref a :: r) w nc ns Q := q_ins hd (show a_lst pc ls (.long x :: .int i :: .ref a :: r) w = some (pc + 1, ls, r, w.set a (.inl (2, .inr (l.set i.toNatClampNeg x))), 0, 0) by unfold a_lst; dsimp only; rw [if_pos hi, hw]; dsimp only; rw [if_pos ⟨rfl, hl⟩]; rfl) K
theorem q_slen (hd : mLk k pc = some (.arraylength, len)) (K : Wp sc d k (pc + 1) ls (.int (Int32.ofNat sc.length) :: r) w nc ns Q) : Wp sc d k pc ls (.ref a_SC :: r) w nc ns Q := q_ins hd (show a_aln sc pc ls (.ref a_SC :: r) w = some (pc + 1, ls, .int (Int32.ofNat sc.length) :: r, w, 0, 0) by unfold a_aln; dsimp only; rw [if_pos rfl]; rfl) K
end WPR
end
section
/-! ===== behind the law's constructors ===== -/
/-- does the instruction look at the script? -/
noncomputable def scd (st : List Value) (i : Instr) : Bool := match i, st with
  | .iaload, .int _ :: .ref a :: _ => Nat.beq a a_SC
  | .arraylength, .ref a :: _ => Nat.beq a a_SC
  | _, _ => false
theorem nb_ne {a b : Nat} (h : Nat.beq a b = false) : ¬ a = b := fun e => by rw [e, Nat.beq_refl] at h; cases h
theorem scd_ok {sc : List Int32} {d k pc : Nat} {ls : AL} {st : List Value} {w : AW} {i : Instr} (h : scd st i = false) : ins sc d k pc ls st w i = ins [] d k pc ls st w i := by
  cases i with
  | iaload =>
    show a_ild 0 sc pc ls st w = a_ild 0 [] pc ls st w
    unfold a_ild
    split
    · have h1 := nb_ne (show Nat.beq _ a_SC = false from h)
      split
      · rw [if_neg (fun q => h1 q.1), if_neg (fun q => h1 q.1)]
      · rfl
    · rfl
  | baload =>
    show a_ild 1 sc pc ls st w = a_ild 1 [] pc ls st w
    unfold a_ild
    split
    · split
      · rw [if_neg (fun q => nomatch q.2), if_neg (fun q => nomatch q.2)]
      · rfl
    · rfl
  | arraylength =>
    show a_aln sc pc ls st w = a_aln [] pc ls st w
    unfold a_aln
    split
    · have h1 := nb_ne (show Nat.beq _ a_SC = false from h)
      rw [if_neg h1, if_neg h1]
    · rfl
  | ifCond c off => cases c <;> rfl
  | if_icmp c off => cases c <;> rfl
  | _ => rfl
/-- ev, where it never looks at the script -/
noncomputable def ev0 : Nat → Nat → Nat → Nat → AL → List Value → AW → Nat → Nat → Option AR
  | 0, _, _, _, _, _, _, _, _ => none
  | n + 1, d, k, pc, ls, st, w, nc, ns => match mLk k pc with
    | none => none
    | some (i, _) => if scd st i = true then none else match ins [] d k pc ls st w i with
      | some (pc', ls', st', w', a, b) => ev0 n d k pc' ls' st' w' (nc + a) (ns + b)
      | none => match fin d k pc st i with
        | some (o, a, b) => some (o, w, nc + a, ns + b)
        | none => match cal k st w i with
          | some (j, ags, rest) => (match d with
            | 0 => none
            | d' + 1 => a_bk k pc j rest nc ns (fun st' w' a b => ev0 n d k (pc + 3) ls st' w' a b) (ev0 n d' j 0 (lv_args 0 ags) [] w 0 0))
          | none => none
theorem ev0_ev {sc : List Int32} : ∀ {n d k pc : Nat} {ls : AL} {st : List Value} {w : AW} {nc ns : Nat} {r : AR}, ev0 n d k pc ls st w nc ns = some r → ev sc n d k pc ls st w nc ns = some r
  | 0, _, _, _, _, _, _, _, _, _, h => by cases h
  | n + 1, d, k, pc, ls, st, w, nc, ns, r, h => by
    unfold ev0 at h
    unfold ev
    split at h
    · cases h
    · rename_i i len hd
      try rw [hd]
      try dsimp only
      split at h
      · cases h
      · rename_i hs
        rw [scd_ok (Bool.eq_false_iff.mpr hs)]
        split at h
        · rename_i pc' ls' st' w' a b hi
          try rw [hi]
          exact ev0_ev h
        · rename_i hi
          try rw [hi]
          try dsimp only
          split at h
          · rename_i o a b hf
            try rw [hf]
            exact h
          · rename_i hf
            try rw [hf]
            try dsimp only
            split at h
            · rename_i j ags rest hc
              try rw [hc]
              cases d with
              | zero => cases h
              | succ d' => exact bk_mono (fun _ _ _ _ _ hh => ev0_ev hh) (fun _ hh => ev0_ev hh) h
            · cases h
/-- so many instructions of one frame, its calls run through -/
noncomputable def rn0 : Nat → Nat → Nat → Nat → AL → List Value → AW → Nat → Nat → Option AN
  | 0, _, _, pc, ls, st, w, nc, ns => some (pc, ls, st, w, nc, ns)
  | n + 1, d, k, pc, ls, st, w, nc, ns => match mLk k pc with
    | none => none
    | some (i, _) => if scd st i = true then none else match ins [] d k pc ls st w i with
      | some (pc', ls', st', w', a, b) => rn0 n d k pc' ls' st' w' (nc + a) (ns + b)
      | none => match fin d k pc st i with
        | some _ => none
        | none => match cal k st w i with
          | some (j, ags, rest) => (match d with
            | 0 => none
            | d' + 1 => match ev0 1000000 d' j 0 (lv_args 0 ags) [] w 0 0 with
              | some (.inl v, w', a, b) => rn0 n d k (pc + 3) ls (v.toList ++ rest) w' (nc + a) (ns + b)
              | _ => none)
          | none => none
theorem rn0_wp {sc : List Int32} {Q : AR → Prop} : ∀ {n d k pc : Nat} {ls : AL} {st : List Value} {w : AW} {nc ns pc' : Nat} {ls' : AL} {st' : List Value} {w' : AW} {a b : Nat}, rn0 n d k pc ls st w nc ns = some (pc', ls', st', w', a, b) → Wp sc d k pc' ls' st' w' a b Q → Wp sc d k pc ls st w nc ns Q
  | 0, _, _, _, _, _, _, _, _, _, _, _, _, _, _, h, K => by cases h; exact K
  | n + 1, d, k, pc, ls, st, w, nc, ns, _, _, _, _, _, _, h, K => by
    unfold rn0 at h
    split at h
    · cases h
    · rename_i i len hd
      split at h
      · cases h
      · rename_i hs
        have hs' := scd_ok (sc := sc) (d := d) (k := k) (pc := pc) (ls := ls) (w := w) (Bool.eq_false_iff.mpr hs)
        split at h
        · rename_i pc' ls' st' w' a b hi
          exact q_ins hd (hs'.trans hi) (rn0_wp h K)
        · rename_i hi
          split at h
          · cases h
          · rename_i hf
            split at h
            · rename_i j ags rest hc
              cases d with
              | zero => cases h
              | succ d' =>
                dsimp only at h
                split at h
                · rename_i v w' a b he
                  exact q_cal (Q0 := fun v0 w0 a0 b0 => (v0, w0, a0, b0) = (v, w', a, b)) hd (hs'.trans hi) hf hc ⟨_, _, ev0_ev he, v, rfl, rfl⟩ (fun v0 w0 a0 b0 e => by cases e; exact rn0_wp h K)
                · cases h
            · cases h
noncomputable def w1 : AW := [
  .inr (7, [.ref 1, .ref 3, .ref 7, .ref 9, .ref 10, .ref 11, .ref 12, .ref 13, .ref 25, .ref 37, .ref 39, .int 0, .int 0, .int 0]),
  .inr (5, [.ref 2, .int 0, .int 0, .int 0, .int 0, .int (-1)]),
  .inl (1, .inl (List.replicate 600 0)),
  .inr (1, [.ref 4, .ref 5, .ref 6, .int 0, .int 0]),
  .inl (0, .inl (List.replicate 544 0)),
  .inl (0, .inl (List.replicate 1734 0)),
  .inl (0, .inl (List.replicate 3 0)),
  .inr (3, [.ref 8, .int 0, .int 0, .int 0, .int 0]),
  .inl (0, .inl (List.replicate 190 0)),
  .inr (6, [.int 0]),
  .inl (0, .inl (List.replicate 24 0)),
  .inl (0, .inl (List.replicate 6 0)),
  .inl (0, .inl (List.replicate 4 0)),
  .inr (2, [.int 0, .int 0, .int 0, .int 5, .int 0, .int 0, .ref 14, .ref 15, .ref 16, .ref 17, .ref 18, .ref 19, .ref 20]),
  .inl (0, .inl (List.replicate 24 0)),
  .inl (0, .inl (List.replicate 12 0)),
  .inl (0, .inl (List.replicate 4 0)),
  .inl (0, .inl (List.replicate 8 0)),
  .inl (0, .inl (List.replicate 8 0)),
  .inl (0, .inl ([-1, -1, -1, -1])),
  .inr (0, [.ref 21, .ref 22, .ref 23, .ref 24, .int 0, .int 0]),
  .inl (0, .inl (List.replicate 150 0)),
  .inl (0, .inl (List.replicate 150 0)),
  .inl (0, .inl (List.replicate 150 0)),
  .inl (0, .inl (List.replicate 8 0)),
  .inr (2, [.int 0, .int 0, .int 0, .int 5, .int 0, .int 0, .ref 26, .ref 27, .ref 28, .ref 29, .ref 30, .ref 31, .ref 32]),
  .inl (0, .inl (List.replicate 24 0)),
  .inl (0, .inl (List.replicate 12 0)),
  .inl (0, .inl (List.replicate 4 0)),
  .inl (0, .inl (List.replicate 8 0)),
  .inl (0, .inl (List.replicate 8 0)),
  .inl (0, .inl ([-1, -1, -1, -1])),
  .inr (0, [.ref 33, .ref 34, .ref 35, .ref 36, .int 0, .int 0]),
  .inl (0, .inl (List.replicate 150 0)),
  .inl (0, .inl (List.replicate 150 0)),
  .inl (0, .inl (List.replicate 150 0)),
  .inl (0, .inl (List.replicate 8 0)),
  .inr (4, [.ref 38, .ref 13]),
  .inl (0, .inl (List.replicate 34 0)),
  .inr (4, [.ref 40, .ref 13]),
  .inl (0, .inl (List.replicate 34 0)),
  .inr (8, [.int 0, .ref 42, .int 0, .int 0, .int 0, .int 0, .int 0, .int 0, .int (-1), .ref 43, .ref 44, .ref 45, .ref 46, .ref 47, .ref 48, .ref 49, .int 0, .int 0, .int 0, .int 5, .int 0, .int 0, .int 0, .int 5, .ref 50, .ref 51, .ref 52, .ref 53, .ref 54, .int 0, .int 0, .ref 55, .ref 56, .ref 57, .int 0, .int 0, .int 0, .int 0, .int 0, .int 0, .ref 58, .ref 59, .ref 60, .ref 61, .ref 62, .ref 63, .ref 64, .int 0, .int 0, .ref 65, .int 0, .ref 66, .int 0]),
  .inl (0, .inl (List.replicate 2 0)),
  .inl (0, .inl (List.replicate 600 0)),
  .inl (0, .inl (List.replicate 24 0)),
  .inl (0, .inl (List.replicate 12 0)),
  .inl (0, .inl (List.replicate 4 0)),
  .inl (0, .inl (List.replicate 24 0)),
  .inl (0, .inl (List.replicate 12 0)),
  .inl (0, .inl (List.replicate 4 0)),
  .inl (0, .inl (List.replicate 150 0)),
  .inl (0, .inl (List.replicate 150 0)),
  .inl (0, .inl (List.replicate 150 0)),
  .inl (0, .inl (List.replicate 150 0)),
  .inl (0, .inl (List.replicate 150 0)),
  .inl (0, .inl (List.replicate 8 0)),
  .inl (0, .inl (List.replicate 250 0)),
  .inl (0, .inl (List.replicate 250 0)),
  .inl (0, .inl (List.replicate 37 0)),
  .inl (0, .inl (List.replicate 37 0)),
  .inl (0, .inl (List.replicate 592 0)),
  .inl (0, .inl (List.replicate 8 0)),
  .inl (0, .inl (List.replicate 8 0)),
  .inl (0, .inl (List.replicate 4 0)),
  .inl (0, .inl ([-1, -1, -1, -1])),
  .inl (2, .inr (List.replicate 14 0)),
  .inl (0, .inl (List.replicate 1890 0)),
  .inl (2, .inr (List.replicate 1 0))]
noncomputable def l1 : AL := [(4, .int 0), (3, .ref 67), (2, .ref 41), (1, .ref 0), (0, .ref a_SC)]
noncomputable def w1_is (x : Option AN) : Bool := match x with
  | some (pc, ls, st, w, a, b) => (Nat.beq pc 23 && (Nat.beq a 68 && Nat.beq b 8870)) && (decide (ls = l1) && (st.isEmpty && decide (w = w1)))
  | none => false
set_option maxRecDepth 1000000 in
theorem w1_b : w1_is (rn0 13 100 296 0 [(0, .ref a_SC)] [] [] 0 0) = true := by decide +kernel
theorem w1_of {x : Option AN} (h : w1_is x = true) : x = some (23, l1, [], w1, 68, 8870) := by
  unfold w1_is at h
  split at h
  · simp only [Bool.and_eq_true, decide_eq_true_eq, List.isEmpty_iff] at h
    obtain ⟨⟨h1, h2, h3⟩, h4, h5, h6⟩ := h
    rw [Nat.eq_of_beq_eq_true h1, Nat.eq_of_beq_eq_true h2, Nat.eq_of_beq_eq_true h3, h4, h5, h6]
  · cases h
theorem w1_ok : rn0 13 100 296 0 [(0, .ref a_SC)] [] [] 0 0 = some (23, l1, [], w1, 68, 8870) := w1_of w1_b
theorem q_w1 {sc : List Int32} {Q : AR → Prop} (K : Wp sc 100 296 23 l1 [] w1 68 8870 Q) : Wp sc 100 296 0 [(0, .ref a_SC)] [] [] 0 0 Q := rn0_wp w1_ok K
end
section
/-! ===== rules with the numbers worked out; calls in a row; the law's end ===== -/
theorem i_lt {x y : Int32} {a b : Int} (ha : x.toInt = a) (hb : y.toInt = b) (h : a < b) : x < y := Int32.lt_iff_toInt_lt.mpr (by rw [ha, hb]; exact h)
theorem i_le {x y : Int32} {a b : Int} (ha : x.toInt = a) (hb : y.toInt = b) (h : a ≤ b) : x ≤ y := Int32.le_iff_toInt_le.mpr (by rw [ha, hb]; exact h)
theorem i_nlt {x y : Int32} {a b : Int} (ha : x.toInt = a) (hb : y.toInt = b) (h : b ≤ a) : ¬ x < y := fun q => by have := Int32.lt_iff_toInt_lt.mp q; omega
theorem i_nle {x y : Int32} {a b : Int} (ha : x.toInt = a) (hb : y.toInt = b) (h : b < a) : ¬ x ≤ y := fun q => by have := Int32.le_iff_toInt_le.mp q; omega
theorem i_eq {x y : Int32} {a b : Int} (ha : x.toInt = a) (hb : y.toInt = b) (h : a = b) : x = y := Int32.toInt_inj.mp (by rw [ha, hb]; exact h)
theorem i_ne {x y : Int32} {a b : Int} (ha : x.toInt = a) (hb : y.toInt = b) (h : a ≠ b) : ¬ x = y := fun q => h (by rw [← ha, ← hb, q])
theorem i_nne {x y : Int32} {a b : Int} (ha : x.toInt = a) (hb : y.toInt = b) (h : a = b) : ¬ ¬ x = y := fun q => q (i_eq ha hb h)
theorem i_lt_r {x y : Int32} {a b : Int} (ha : x.toInt = a) (hb : y.toInt = b) (h : b < a) : y < x := i_lt hb ha h
theorem i_le_r {x y : Int32} {a b : Int} (ha : x.toInt = a) (hb : y.toInt = b) (h : b ≤ a) : y ≤ x := i_le hb ha h
theorem i_nlt_r {x y : Int32} {a b : Int} (ha : x.toInt = a) (hb : y.toInt = b) (h : a ≤ b) : ¬ y < x := i_nlt hb ha h
theorem i_nle_r {x y : Int32} {a b : Int} (ha : x.toInt = a) (hb : y.toInt = b) (h : a < b) : ¬ y ≤ x := i_nle hb ha h
theorem i_add {x y : Int32} {a b : Int} (ha : x.toInt = a) (hb : y.toInt = b) (h1 : -2147483648 ≤ a + b) (h2 : a + b ≤ 2147483647) : (x + y).toInt = a + b := by
  rw [Int32.toInt_add, ha, hb, Int.bmod_def]
  omega
noncomputable def Bk (sc : List Int32) (d k pc j : Nat) (ls : AL) (rest : List Value) (nc ns : Nat) (Q : AR → Prop) (r : AR) : Prop :=
  (∃ v, r.1 = .inl v ∧ Wp sc (d + 1) k (pc + 3) ls (v.toList ++ rest) r.2.1 (nc + r.2.2.1) (ns + r.2.2.2) Q) ∨
  (∃ x, r.1 = .inr x ∧ mD j = 0 ∧ mH k = [] ∧ Q (.inr x, r.2.1, nc + r.2.2.1, ns + r.2.2.2)) ∨
  (∃ (x : Nat) (z : Int32), r.1 = .inr x ∧ mD j = 0 ∧ (∃ y ys, mH k = y :: ys) ∧ a_hnd k pc x = some z ∧ Q (.inl (some (.int z)), r.2.1, nc + r.2.2.1, ns + r.2.2.2))
section WPS
variable {sc : List Int32} {d k pc len nc ns : Nat} {ls : AL} {st r : List Value} {w : AW} {Q : AR → Prop}
theorem q_call {i : Instr} {j : Nat} {ags rest : List Value} (hd : mLk k pc = some (i, len)) (hi : ins sc (d + 1) k pc ls st w i = none) (hf : fin (d + 1) k pc st i = none) (hc : cal k st w i = some (j, ags, rest)) (C : Wp sc d j 0 (lv_args 0 ags) [] w 0 0 (Bk sc d k pc j ls rest nc ns Q)) : Wp sc (d + 1) k pc ls st w nc ns Q := by
  refine q_cal0 hd hi hf hc C ?_
  rintro ⟨o, w', a, b⟩ (⟨v, rfl, n, y, h1, h2⟩ | ⟨x, rfl, hj, hh, hq⟩ | ⟨x, z, rfl, hj, ⟨y, ys, hy⟩, hz, hq⟩)
  · exact ⟨n, y, h1, h2⟩
  · refine ⟨0, _, ?_, hq⟩
    show (if mD j = 0 then _ else none) = _
    rw [if_pos hj, hh]
  · refine ⟨0, _, ?_, hq⟩
    show (if mD j = 0 then _ else none) = _
    rw [if_pos hj, hy]
    dsimp only
    rw [hz]
theorem bk_inl {j : Nat} {rest : List Value} {v : Option Value} {w' : AW} {a b : Nat} (K : Wp sc (d + 1) k (pc + 3) ls (v.toList ++ rest) w' (nc + a) (ns + b) Q) : Bk sc d k pc j ls rest nc ns Q (.inl v, w', a, b) := Or.inl ⟨v, rfl, K⟩
theorem bk_out {j : Nat} {rest : List Value} {x : Nat} {w' : AW} {a b : Nat} (hj : mD j = 0) (hh : mH k = []) (K : Q (.inr x, w', nc + a, ns + b)) : Bk sc d k pc j ls rest nc ns Q (.inr x, w', a, b) := Or.inr (Or.inl ⟨x, rfl, hj, hh, K⟩)
theorem bk_thr {j : Nat} {rest : List Value} {x : Nat} {z : Int32} {w' : AW} {a b : Nat} (hj : mD j = 0) (hh : ∃ y ys, mH k = y :: ys) (hz : a_hnd k pc x = some z) (K : Q (.inl (some (.int z)), w', nc + a, ns + b)) : Bk sc d k pc j ls rest nc ns Q (.inr x, w', a, b) := Or.inr (Or.inr ⟨x, z, rfl, hj, hh, hz, K⟩)
theorem q_iret {x : Int32} (hd : mLk k pc = some (.ireturn, len)) (hR : mR k = some .int) (K : Q (.inl (some (.int x)), w, nc, ns)) : Wp sc d k pc ls [.int x] w nc ns Q := q_fin hd rfl (show a_ret k .ireturn [.int x] = some (.inl (some (.int x)), 0, 0) by unfold a_ret; rw [hR]) K
theorem q_zret {x : Int32} (hd : mLk k pc = some (.ireturn, len)) (hR : mR k = some .boolean) (hx : x = 0 ∨ x = 1) (K : Q (.inl (some (.int x)), w, nc, ns)) : Wp sc d k pc ls [.int x] w nc ns Q := q_fin hd rfl (show a_ret k .ireturn [.int x] = some (.inl (some (.int x)), 0, 0) by unfold a_ret; rw [hR]; exact if_pos hx) K
theorem q_lret {x : Int64} (hd : mLk k pc = some (.lreturn, len)) (hR : mR k = some .long) (K : Q (.inl (some (.long x)), w, nc, ns)) : Wp sc d k pc ls [.long x] w nc ns Q := q_fin hd rfl (show a_ret k .lreturn [.long x] = some (.inl (some (.long x)), 0, 0) by unfold a_ret; rw [hR]) K
theorem q_vret (hd : mLk k pc = some (.return_, len)) (hR : mR k = none) (K : Q (.inl none, w, nc, ns)) : Wp sc d k pc ls [] w nc ns Q := q_fin hd rfl (show a_ret k .return_ [] = some (.inl none, 0, 0) by unfold a_ret; rw [hR]) K
noncomputable def clo_is (x : Option AR) (v : Option Value) (w : AW) (a b : Nat) : Bool := match x with
  | some (.inl v', w', a', b') => decide (v' = v) && (Nat.beq a' a && (Nat.beq b' b && decide (w' = w)))
  | _ => false
theorem clo_of {x : Option AR} {v : Option Value} {w : AW} {a b : Nat} (h : clo_is x v w a b = true) : x = some (.inl v, w, a, b) := by
  unfold clo_is at h
  split at h
  · simp only [Bool.and_eq_true, decide_eq_true_eq] at h
    obtain ⟨h1, h2, h3, h4⟩ := h
    rw [h1, Nat.eq_of_beq_eq_true h2, Nat.eq_of_beq_eq_true h3, h4]
  · cases h
/-- a call that holds nothing of the script -/
theorem q_clo {i : Instr} {j a b : Nat} {ags rest : List Value} {v : Option Value} {w9 : AW} (hd : mLk k pc = some (i, len)) (hi : ins sc (d + 1) k pc ls st w i = none) (hf : fin (d + 1) k pc st i = none) (hc : cal k st w i = some (j, ags, rest)) (hev : clo_is (ev0 1000000 d j 0 (lv_args 0 ags) [] w 0 0) v w9 a b = true)
    (K : Wp sc (d + 1) k (pc + 3) ls (v.toList ++ rest) w9 (nc + a) (ns + b) Q) : Wp sc (d + 1) k pc ls st w nc ns Q :=
  q_call hd hi hf hc ⟨_, _, ev0_ev (clo_of hev), bk_inl K⟩
theorem q_iconstv {n : Int} {v : Int32} (hd : mLk k pc = some (.iconst n, len)) (hv : Int32.ofInt n = v) (K : Wp sc d k (pc + 1) ls (.int v :: st) w nc ns Q) : Wp sc d k pc ls st w nc ns Q := q_iconst hd (by rw [hv]; exact K)
theorem q_bipushv {n : Int} {v : Int32} (hd : mLk k pc = some (.bipush n, len)) (hv : (Int8.ofInt n).toInt32 = v) (K : Wp sc d k (pc + 2) ls (.int v :: st) w nc ns Q) : Wp sc d k pc ls st w nc ns Q := q_bipush hd (by rw [hv]; exact K)
theorem q_sipushv {n : Int} {v : Int32} (hd : mLk k pc = some (.sipush n, len)) (hv : (Int16.ofInt n).toInt32 = v) (K : Wp sc d k (pc + 3) ls (.int v :: st) w nc ns Q) : Wp sc d k pc ls st w nc ns Q := q_sipush hd (by rw [hv]; exact K)
theorem q_iincv {i : Nat} {c : Int} {x v : Int32} (hd : mLk k pc = some (.iinc i c, len)) (hl : a_lk ls i = some (.int x)) (hi : i < mX k) (hv : x + Int32.ofInt c = v) (K : Wp sc d k (pc + 3) (a_s1 ls i (.int v)) st w nc ns Q) : Wp sc d k pc ls st w nc ns Q := q_iinc hd hl hi (by rw [hv]; exact K)
theorem q_iaddv {x y v : Int32} (hd : mLk k pc = some (.iadd, len)) (hv : x + y = v) (K : Wp sc d k (pc + 1) ls (.int v :: r) w nc ns Q) : Wp sc d k pc ls (.int y :: .int x :: r) w nc ns Q := q_iadd hd (by rw [hv]; exact K)
theorem q_isubv {x y v : Int32} (hd : mLk k pc = some (.isub, len)) (hv : x - y = v) (K : Wp sc d k (pc + 1) ls (.int v :: r) w nc ns Q) : Wp sc d k pc ls (.int y :: .int x :: r) w nc ns Q := q_isub hd (by rw [hv]; exact K)
theorem q_imulv {x y v : Int32} (hd : mLk k pc = some (.imul, len)) (hv : x * y = v) (K : Wp sc d k (pc + 1) ls (.int v :: r) w nc ns Q) : Wp sc d k pc ls (.int y :: .int x :: r) w nc ns Q := q_imul hd (by rw [hv]; exact K)
theorem q_iandv {x y v : Int32} (hd : mLk k pc = some (.iand, len)) (hv : x &&& y = v) (K : Wp sc d k (pc + 1) ls (.int v :: r) w nc ns Q) : Wp sc d k pc ls (.int y :: .int x :: r) w nc ns Q := q_iand hd (by rw [hv]; exact K)
theorem q_iorv {x y v : Int32} (hd : mLk k pc = some (.ior, len)) (hv : x ||| y = v) (K : Wp sc d k (pc + 1) ls (.int v :: r) w nc ns Q) : Wp sc d k pc ls (.int y :: .int x :: r) w nc ns Q := q_ior hd (by rw [hv]; exact K)
theorem q_ixorv {x y v : Int32} (hd : mLk k pc = some (.ixor, len)) (hv : x ^^^ y = v) (K : Wp sc d k (pc + 1) ls (.int v :: r) w nc ns Q) : Wp sc d k pc ls (.int y :: .int x :: r) w nc ns Q := q_ixor hd (by rw [hv]; exact K)
theorem q_ishlv {x y v : Int32} (hd : mLk k pc = some (.ishl, len)) (hv : x <<< (y &&& 31) = v) (K : Wp sc d k (pc + 1) ls (.int v :: r) w nc ns Q) : Wp sc d k pc ls (.int y :: .int x :: r) w nc ns Q := q_ishl hd (by rw [hv]; exact K)
theorem q_ishrv {x y v : Int32} (hd : mLk k pc = some (.ishr, len)) (hv : x >>> (y &&& 31) = v) (K : Wp sc d k (pc + 1) ls (.int v :: r) w nc ns Q) : Wp sc d k pc ls (.int y :: .int x :: r) w nc ns Q := q_ishr hd (by rw [hv]; exact K)
theorem q_iushrv {x y v : Int32} (hd : mLk k pc = some (.iushr, len)) (hv : (x.toUInt32 >>> (y.toUInt32 &&& Int32.toUInt32 31)).toInt32 = v) (K : Wp sc d k (pc + 1) ls (.int v :: r) w nc ns Q) : Wp sc d k pc ls (.int y :: .int x :: r) w nc ns Q := q_iushr hd (by rw [hv]; exact K)
theorem q_idivv {x y v : Int32} (hd : mLk k pc = some (.idiv, len)) (hy : ¬ y = 0) (hv : x / y = v) (K : Wp sc d k (pc + 1) ls (.int v :: r) w nc ns Q) : Wp sc d k pc ls (.int y :: .int x :: r) w nc ns Q := q_idiv hd hy (by rw [hv]; exact K)
theorem q_iremv {x y v : Int32} (hd : mLk k pc = some (.irem, len)) (hy : ¬ y = 0) (hv : x - x / y * y = v) (K : Wp sc d k (pc + 1) ls (.int v :: r) w nc ns Q) : Wp sc d k pc ls (.int y :: .int x :: r) w nc ns Q := q_irem hd hy (by rw [hv]; exact K)
theorem q_inegv {x v : Int32} (hd : mLk k pc = some (.ineg, len)) (hv : -x = v) (K : Wp sc d k (pc + 1) ls (.int v :: r) w nc ns Q) : Wp sc d k pc ls (.int x :: r) w nc ns Q := q_ineg hd (by rw [hv]; exact K)
theorem q_i2lv {x : Int32} {v : Int64} (hd : mLk k pc = some (.i2l, len)) (hv : x.toInt64 = v) (K : Wp sc d k (pc + 1) ls (.long v :: r) w nc ns Q) : Wp sc d k pc ls (.int x :: r) w nc ns Q := q_i2l hd (by rw [hv]; exact K)
theorem q_lcmpv {x y : Int64} {v : Int32} (hd : mLk k pc = some (.lcmp, len)) (hv : lg_cmp x y = v) (K : Wp sc d k (pc + 1) ls (.int v :: r) w nc ns Q) : Wp sc d k pc ls (.long y :: .long x :: r) w nc ns Q := q_lcmp hd (by rw [hv]; exact K)
theorem lcmp_self (x : Int64) : lg_cmp x x = 0 := by unfold lg_cmp; simp
theorem q_lcmp_eq {x : Int64} (hd : mLk k pc = some (.lcmp, len)) (K : Wp sc d k (pc + 1) ls (.int 0 :: r) w nc ns Q) : Wp sc d k pc ls (.long x :: .long x :: r) w nc ns Q := q_lcmp hd (by rw [lcmp_self]; exact K)
theorem q_ialoadv {i x : Int32} {a m : Nat} {l : List Int32} (hd : mLk k pc = some (.iaload, len)) (hi : 0 ≤ i) (ha : ¬ a = a_SC) (hw : w[a]? = some (.inl (0, .inl l))) (hm : i.toNatClampNeg = m) (hx : l[m]? = some x) (K : Wp sc d k (pc + 1) ls (.int x :: r) w nc ns Q) : Wp sc d k pc ls (.int i :: .ref a :: r) w nc ns Q := q_iaload hd hi ha hw (by rw [hm]; exact hx) K
theorem q_baloadv {i x : Int32} {a m : Nat} {l : List Int32} (hd : mLk k pc = some (.baload, len)) (hi : 0 ≤ i) (ha : ¬ a = a_SC) (hw : w[a]? = some (.inl (1, .inl l))) (hm : i.toNatClampNeg = m) (hx : l[m]? = some x) (K : Wp sc d k (pc + 1) ls (.int x :: r) w nc ns Q) : Wp sc d k pc ls (.int i :: .ref a :: r) w nc ns Q := q_baload hd hi ha hw (by rw [hm]; exact hx) K
theorem q_laloadv {i : Int32} {x : Int64} {a m : Nat} {l : List Int64} (hd : mLk k pc = some (.laload, len)) (hi : 0 ≤ i) (hw : w[a]? = some (.inl (2, .inr l))) (hm : i.toNatClampNeg = m) (hx : l[m]? = some x) (K : Wp sc d k (pc + 1) ls (.long x :: r) w nc ns Q) : Wp sc d k pc ls (.int i :: .ref a :: r) w nc ns Q := q_laload hd hi hw (by rw [hm]; exact hx) K
theorem q_iastorev {i x : Int32} {a m : Nat} {l : List Int32} {w9 : AW} (hd : mLk k pc = some (.iastore, len)) (hi : 0 ≤ i) (hw : w[a]? = some (.inl (0, .inl l))) (hm : i.toNatClampNeg = m) (hl : m < l.length) (h9 : w.set a (.inl (0, .inl (l.set m x))) = w9) (K : Wp sc d k (pc + 1) ls r w9 nc ns Q) : Wp sc d k pc ls (.int x :: .int i :: .ref a :: r) w nc ns Q := q_iastore hd hi hw (by rw [hm]; exact hl) (by rw [hm, h9]; exact K)
theorem q_bastorev {i x : Int32} {a m : Nat} {l : List Int32} {w9 : AW} (hd : mLk k pc = some (.bastore, len)) (hi : 0 ≤ i) (hw : w[a]? = some (.inl (1, .inl l))) (hm : i.toNatClampNeg = m) (hl : m < l.length) (h9 : w.set a (.inl (1, .inl (l.set m x.toInt8.toInt32))) = w9) (K : Wp sc d k (pc + 1) ls r w9 nc ns Q) : Wp sc d k pc ls (.int x :: .int i :: .ref a :: r) w nc ns Q := q_bastore hd hi hw (by rw [hm]; exact hl) (by rw [hm, h9]; exact K)
theorem q_lastorev {i : Int32} {x : Int64} {a m : Nat} {l : List Int64} {w9 : AW} (hd : mLk k pc = some (.lastore, len)) (hi : 0 ≤ i) (hw : w[a]? = some (.inl (2, .inr l))) (hm : i.toNatClampNeg = m) (hl : m < l.length) (h9 : w.set a (.inl (2, .inr (l.set m x))) = w9) (K : Wp sc d k (pc + 1) ls r w9 nc ns Q) : Wp sc d k pc ls (.long x :: .int i :: .ref a :: r) w nc ns Q := q_lastore hd hi hw (by rw [hm]; exact hl) (by rw [hm, h9]; exact K)
theorem q_putv {x a ci f : Nat} {fs : List Value} {v : Value} {w9 : AW} (hd : mLk k pc = some (.putfield x, len)) (hk : a_lk (kF (mK k)) x = some (ci, f)) (hw : w[a]? = some (.inr (ci, fs))) (hl : f < fs.length) (hc : a_fit (YF ci f) v = true) (hz : (TF ci f).2.2.2 = false ∨ (mD k = 2 ∧ mK k = ci)) (h9 : w.set a (.inr (ci, fs.set f v)) = w9) (K : Wp sc d k (pc + 3) ls r w9 nc ns Q) : Wp sc d k pc ls (v :: .ref a :: r) w nc ns Q := q_put hd hk hw ⟨hl, hc, hz⟩ (by rw [h9]; exact K)
theorem q_alen {a t : Nat} {l : List Int32} {v : Int32} (hd : mLk k pc = some (.arraylength, len)) (ha : ¬ a = a_SC) (hw : w[a]? = some (.inl (t, .inl l))) (ht : t < 2) (hv : Int32.ofNat l.length = v) (K : Wp sc d k (pc + 1) ls (.int v :: r) w nc ns Q) : Wp sc d k pc ls (.ref a :: r) w nc ns Q := by
  subst hv
  exact q_ins hd (show a_aln sc pc ls (.ref a :: r) w = some (pc + 1, ls, .int (Int32.ofNat l.length) :: r, w, 0, 0) by unfold a_aln; dsimp only; rw [if_neg ha, hw]; exact if_pos ht) K
theorem q_mmax {x j : Nat} {u v z : Int32} (hd : mLk k pc = some (.invokestatic x, len)) (hk : a_lk (kM (mK k)) x = some (3, j)) (hc : 1 ≤ d ∧ a_cat r ≤ 8) (hz : (if u < v then v else u) = z) (K : Wp sc d k (pc + 3) ls (.int z :: r) w nc ns Q) : Wp sc d k pc ls (.int v :: .int u :: r) w nc ns Q := by
  subst hz
  exact q_ins hd (show a_ins d k x pc ls (.int v :: .int u :: r) w = some (pc + 3, ls, .int (if u < v then v else u) :: r, w, 0, 0) by unfold a_ins; rw [hk]; exact if_pos hc) K
theorem q_mmin {x j : Nat} {u v z : Int32} (hd : mLk k pc = some (.invokestatic x, len)) (hk : a_lk (kM (mK k)) x = some (4, j)) (hc : 1 ≤ d ∧ a_cat r ≤ 8) (hz : (if v < u then v else u) = z) (K : Wp sc d k (pc + 3) ls (.int z :: r) w nc ns Q) : Wp sc d k pc ls (.int v :: .int u :: r) w nc ns Q := by
  subst hz
  exact q_ins hd (show a_ins d k x pc ls (.int v :: .int u :: r) w = some (pc + 3, ls, .int (if v < u then v else u) :: r, w, 0, 0) by unfold a_ins; rw [hk]; exact if_pos hc) K
theorem q_mabs {x j : Nat} {u z : Int32} (hd : mLk k pc = some (.invokestatic x, len)) (hk : a_lk (kM (mK k)) x = some (5, j)) (hc : 1 ≤ d ∧ a_cat r ≤ 8) (hz : (if 0 ≤ u then u else 0 - u) = z) (K : Wp sc d k (pc + 3) ls (.int z :: r) w nc ns Q) : Wp sc d k pc ls (.int u :: r) w nc ns Q := by
  subst hz
  exact q_ins hd (show a_ins d k x pc ls (.int u :: r) w = some (pc + 3, ls, .int (if 0 ≤ u then u else 0 - u) :: r, w, 0, 0) by unfold a_ins; rw [hk]; exact if_pos hc) K
end WPS
noncomputable def Qlaw (r : AR) : Prop := r.1 = .inl (some (.int 1)) ∧ r.2.2.1 ≤ 600000 ∧ r.2.2.2 ≤ 7290000
end
section
/-! ===== a run needs of its slots only those that it reads ===== -/
noncomputable def a_lsi : Instr → Bool
  | .iload _ => true | .iload_n _ => true | .lload _ => true | .lload_n _ => true | .aload _ => true | .aload_n _ => true
  | .istore _ => true | .istore_n _ => true | .lstore _ => true | .lstore_n _ => true | .astore _ => true | .astore_n _ => true
  | .iinc _ _ => true
  | _ => false
abbrev a_sl (ls : AL) (q : AN) : AN := (q.1, ls, q.2.2)
theorem sln_pass {d pc : Nat} {st : List Value} {w : AW} (ls : AL) : a_sln d pc ls st w = (a_sln d pc [] st w).map (a_sl ls) := by
  unfold a_sln
  split
  · rename_i a r
    by_cases h : (6 ≤ d ∧ a_cat r ≤ 8) ∧ (a_SB ≤ a ∧ a - a_SB < sN)
    · rw [if_pos h, if_pos h]; exact rfl
    · rw [if_neg h, if_neg h]; exact rfl
  · exact rfl
theorem sch_pass {d pc : Nat} {st : List Value} {w : AW} (ls : AL) : a_sch d pc ls st w = (a_sch d pc [] st w).map (a_sl ls) := by
  unfold a_sch
  split
  · rename_i i a r
    by_cases h : (6 ≤ d ∧ a_cat r ≤ 8) ∧ ((a_SB ≤ a ∧ a - a_SB < sN) ∧ 0 ≤ i)
    · rw [if_pos h, if_pos h]
      generalize (sB (a - a_SB))[i.toNatClampNeg]? = q
      cases q with
      | none => exact rfl
      | some x => exact rfl
    · rw [if_neg h, if_neg h]; exact rfl
  · exact rfl
set_option maxHeartbeats 8000000 in
theorem ins_pass {sc : List Int32} {d k pc : Nat} {st : List Value} {w : AW} {i : Instr} (hi : a_lsi i = false) (ls : AL) : ins sc d k pc ls st w i = (ins sc d k pc [] st w i).map (a_sl ls) := by
  cases i with
  | invokevirtual x =>
    show a_inv d k x pc ls st w = (a_inv d k x pc [] st w).map (a_sl ls)
    unfold a_inv
    split
    · exact sln_pass ls
    · exact sch_pass ls
    · exact rfl
  | ifCond c off => cases c <;> (simp only [ins, a_nx, a_to, a_jmp] ; repeat' (first | rfl | split))
  | if_icmp c off => cases c <;> (simp only [ins, a_nx, a_to, a_jmp] ; repeat' (first | rfl | split))
  | _ => first
    | (cases hi; done)
    | (simp only [ins, a_nx, a_to, a_jmp, a_i1, a_i2, a_i2z, a_l2, a_l2z, a_lcmp, a_i2l, a_ldc, a_ldc2, a_dup, a_pop, a_dup2, a_tsw, a_lsw, a_get, a_put, a_ild, a_lld, a_ist, a_bst, a_lst, a_aln, a_new, a_nwa, a_mth, a_abs, a_cpy, a_obj, a_ins, a_inp]
       repeat' (first | rfl | split))
    | rfl
noncomputable def lsub (l2 l : AL) : Prop := ∀ q ∈ l2, a_lk l q.1 = some q.2
theorem a_lk_cons {α : Type} {q : Nat × α} {r : List (Nat × α)} {i : Nat} : a_lk (q :: r) i = if q.1 = i then some q.2 else a_lk r i := by
  have e0 : a_lk (q :: r) i = (bif Nat.beq q.1 i then some q.2 else a_lk r i) := by
    show @Bool.rec (fun _ => Option α) (a_lk r i) (some q.2) (Nat.beq q.1 i) = _
    cases Nat.beq q.1 i <;> rfl
  rw [e0]
  by_cases h : q.1 = i
  · rw [if_pos h, h, Nat.beq_refl]; rfl
  · rw [if_neg h]
    have : Nat.beq q.1 i = false := by
      cases hb : Nat.beq q.1 i with
      | false => rfl
      | true => exact absurd (Nat.eq_of_beq_eq_true hb) h
    rw [this]
    rfl
theorem a_lk_fil {p : Nat × Value → Bool} {i : Nat} {v : Value} : ∀ {l : AL}, a_lk l i = some v → p (i, v) = true → a_lk (l.filter p) i = some v
  | [], h, _ => by cases h
  | q :: r, h, hp => by
    rw [a_lk_cons] at h
    by_cases e : q.1 = i
    · rw [if_pos e] at h
      obtain ⟨a, b⟩ := q
      cases h
      cases e
      rw [List.filter_cons_of_pos hp, a_lk_cons, if_pos rfl]
    · rw [if_neg e] at h
      have := a_lk_fil h hp
      by_cases hq : p q = true
      · rw [List.filter_cons_of_pos hq, a_lk_cons, if_neg e, this]
      · rw [List.filter_cons_of_neg hq, this]
theorem lsub_nil {l : AL} : lsub [] l := fun _ h => nomatch h
theorem lsub_cons {l r : AL} {i : Nat} {v : Value} (h : a_lk l i = some v) (h2 : lsub r l) : lsub ((i, v) :: r) l := fun q hq => by
  cases hq with
  | head => exact h
  | tail _ h3 => exact h2 q h3
theorem lsub_lk {l2 l : AL} {i : Nat} {v : Value} (h : lsub l2 l) (e : a_lk l2 i = some v) : a_lk l i = some v := h (i, v) (a_lk_mem e)
theorem lsub_s1 {l2 l : AL} {i : Nat} {v : Value} (h : lsub l2 l) : lsub (a_s1 l2 i v) (a_s1 l i v) := fun q hq => by
  unfold a_s1 at hq ⊢
  rw [a_lk_cons]
  cases hq with
  | head => exact if_pos rfl
  | tail _ h3 =>
    obtain ⟨h4, h5⟩ := List.mem_filter.mp h3
    have h6 : ¬ i = q.1 := fun e => by
      rw [e] at h5
      simp at h5
    dsimp only
    rw [if_neg h6]
    exact a_lk_fil (h q h4) h5
theorem lsub_s2 {l2 l : AL} {i : Nat} {v : Value} (h : lsub l2 l) : lsub (a_s2 l2 i v) (a_s2 l i v) := fun q hq => by
  unfold a_s2 at hq ⊢
  rw [a_lk_cons]
  cases hq with
  | head => exact if_pos rfl
  | tail _ h3 =>
    obtain ⟨h4, h5⟩ := List.mem_filter.mp h3
    have h6 : ¬ i = q.1 := fun e => by
      rw [e] at h5
      simp at h5
    dsimp only
    rw [if_neg h6]
    exact a_lk_fil (h q h4) h5
section LSM
variable {pc pc2 a b : Nat} {l2 l l3 : AL} {st st2 : List Value} {w w2 : AW}
theorem ldI_ls {i p : Nat} (h : lsub l2 l) (e : a_ldI (a_lk l2 i) p l2 st w = some (pc2, l3, st2, w2, a, b)) : ∃ l4, a_ldI (a_lk l i) p l st w = some (pc2, l4, st2, w2, a, b) ∧ lsub l3 l4 := by
  unfold a_ldI at e ⊢
  split at e
  · rename_i x hx
    rw [lsub_lk h hx]
    cases e
    exact ⟨l, rfl, h⟩
  · cases e
theorem ldL_ls {i p : Nat} (h : lsub l2 l) (e : a_ldL (a_lk l2 i) p l2 st w = some (pc2, l3, st2, w2, a, b)) : ∃ l4, a_ldL (a_lk l i) p l st w = some (pc2, l4, st2, w2, a, b) ∧ lsub l3 l4 := by
  unfold a_ldL at e ⊢
  split at e
  · rename_i x hx
    rw [lsub_lk h hx]
    cases e
    exact ⟨l, rfl, h⟩
  · cases e
theorem ldA_ls {i p : Nat} (h : lsub l2 l) (e : a_ldA (a_lk l2 i) p l2 st w = some (pc2, l3, st2, w2, a, b)) : ∃ l4, a_ldA (a_lk l i) p l st w = some (pc2, l4, st2, w2, a, b) ∧ lsub l3 l4 := by
  unfold a_ldA at e ⊢
  split at e
  · rename_i x hx
    rw [lsub_lk h hx]
    cases e
    exact ⟨l, rfl, h⟩
  · cases e
theorem stI_ls {n i p : Nat} (h : lsub l2 l) (e : a_stI n i p l2 st w = some (pc2, l3, st2, w2, a, b)) : ∃ l4, a_stI n i p l st w = some (pc2, l4, st2, w2, a, b) ∧ lsub l3 l4 := by
  unfold a_stI at e ⊢
  split at e
  · split at e
    · rename_i hi
      cases e
      exact ⟨_, if_pos hi, lsub_s1 h⟩
    · cases e
  · cases e
theorem stL_ls {n i p : Nat} (h : lsub l2 l) (e : a_stL n i p l2 st w = some (pc2, l3, st2, w2, a, b)) : ∃ l4, a_stL n i p l st w = some (pc2, l4, st2, w2, a, b) ∧ lsub l3 l4 := by
  unfold a_stL at e ⊢
  split at e
  · split at e
    · rename_i hi
      cases e
      exact ⟨_, if_pos hi, lsub_s2 h⟩
    · cases e
  · cases e
theorem stA_ls {n i p : Nat} (h : lsub l2 l) (e : a_stA n i p l2 st w = some (pc2, l3, st2, w2, a, b)) : ∃ l4, a_stA n i p l st w = some (pc2, l4, st2, w2, a, b) ∧ lsub l3 l4 := by
  unfold a_stA at e ⊢
  split at e
  · split at e
    · rename_i hi
      cases e
      exact ⟨_, if_pos hi, lsub_s1 h⟩
    · cases e
  · cases e
theorem inc_ls {n i p : Nat} {z : Int} (h : lsub l2 l) (e : a_inc n i z p l2 st w = some (pc2, l3, st2, w2, a, b)) : ∃ l4, a_inc n i z p l st w = some (pc2, l4, st2, w2, a, b) ∧ lsub l3 l4 := by
  unfold a_inc at e ⊢
  split at e
  · rename_i x hx
    rw [lsub_lk h hx]
    dsimp only
    split at e
    · rename_i hi
      cases e
      exact ⟨_, if_pos hi, lsub_s1 h⟩
    · cases e
  · cases e
theorem ins_ls {sc : List Int32} {d k : Nat} {i : Instr} (h : lsub l2 l) (e : ins sc d k pc l2 st w i = some (pc2, l3, st2, w2, a, b)) : ∃ l4, ins sc d k pc l st w i = some (pc2, l4, st2, w2, a, b) ∧ lsub l3 l4 := by
  cases hb : a_lsi i with
  | false =>
    rw [ins_pass hb l2] at e
    rw [ins_pass hb l]
    cases hq : ins sc d k pc [] st w i with
    | none => rw [hq] at e; cases e
    | some q =>
      rw [hq] at e
      obtain ⟨q1, q2, q3, q4, q5, q6⟩ := q
      cases e
      exact ⟨l, rfl, h⟩
  | true =>
    cases i with
    | iload n => exact ldI_ls h e
    | iload_n n => exact ldI_ls h e
    | lload n => exact ldL_ls h e
    | lload_n n => exact ldL_ls h e
    | aload n => exact ldA_ls h e
    | aload_n n => exact ldA_ls h e
    | istore n => exact stI_ls h e
    | istore_n n => exact stI_ls h e
    | lstore n => exact stL_ls h e
    | lstore_n n => exact stL_ls h e
    | astore n => exact stA_ls h e
    | astore_n n => exact stA_ls h e
    | iinc n z => exact inc_ls h e
    | _ => cases hb
end LSM
theorem lsi_fc {d k pc : Nat} {st : List Value} {w : AW} {i : Instr} (h : a_lsi i = true) : fin d k pc st i = none ∧ cal k st w i = none := by
  cases i <;> first
    | exact ⟨rfl, rfl⟩
    | cases h
theorem ev_ls {sc : List Int32} : ∀ {n d k pc : Nat} {l2 l : AL} {st : List Value} {w : AW} {nc ns : Nat} {r : AR}, lsub l2 l → ev sc n d k pc l2 st w nc ns = some r → ev sc n d k pc l st w nc ns = some r
  | 0, _, _, _, _, _, _, _, _, _, _, _, h => by cases h
  | n + 1, d, k, pc, l2, l, st, w, nc, ns, r, hl, h => by
    unfold ev at h ⊢
    split at h
    · cases h
    · rename_i i len hd
      try rw [hd]
      try dsimp only
      split at h
      · rename_i pc' ls' st' w' a b hi
        obtain ⟨l4, h1, h2⟩ := ins_ls hl hi
        rw [h1]
        exact ev_ls h2 h
      · rename_i hi
        cases hb : a_lsi i with
        | true =>
          obtain ⟨h1, h2⟩ := lsi_fc (d := d) (k := k) (pc := pc) (st := st) (w := w) hb
          rw [h1] at h
          dsimp only at h
          rw [h2] at h
          cases h
        | false =>
          have hi2 : ins sc d k pc l st w i = none := by
            rw [ins_pass hb l2] at hi
            rw [ins_pass hb l]
            cases hq : ins sc d k pc [] st w i with
            | none => rfl
            | some q => rw [hq] at hi; cases hi
          rw [hi2]
          try dsimp only
          split at h
          · rename_i o a b hf
            try rw [hf]
            exact h
          · rename_i hf
            try rw [hf]
            try dsimp only
            split at h
            · rename_i j ags rest hc
              try rw [hc]
              cases d with
              | zero => cases h
              | succ d' => exact bk_mono (fun _ _ _ _ _ hh => ev_ls hl hh) (fun _ hh => hh) h
            · cases h
theorem Wp_ls {sc : List Int32} {d k pc : Nat} (l2 : AL) {l : AL} {st : List Value} {w : AW} {nc ns : Nat} {Q : AR → Prop} (h : lsub l2 l) (K : Wp sc d k pc l2 st w nc ns Q) : Wp sc d k pc l st w nc ns Q := by
  obtain ⟨n, r, h1, h2⟩ := K
  exact ⟨n, r, ev_ls h h1, h2⟩
end
section
/-! ===== flat memory: the world behind the constructors as a function of cell and place, in whole numbers ===== -/
abbrev ME : Type := Nat → Int → Int
abbrev vi (z : Int) : Value := .int (Int32.ofInt z)
abbrev vl (z : Int) : Value := .long (Int64.ofInt z)
noncomputable def ar (n : Nat) (f : Int → Int) : List Int32 := (List.range n).map (fun (j : Nat) => Int32.ofInt (f (j : Int)))
noncomputable def al (n : Nat) (f : Int → Int) : List Int64 := (List.range n).map (fun (j : Nat) => Int64.ofInt (f (j : Int)))
noncomputable def ud (f : Int → Int) (m x : Int) : Int → Int := fun j => if j = m then x else f j
noncomputable def up (c : ME) (a : Nat) (m x : Int) : ME := fun b => if b = a then ud (c a) m x else c b
/-- so many places from sp on of cell s come to cell a from dp on -/
noncomputable def upc (c : ME) (s : Nat) (sp : Int) (a : Nat) (dp n : Int) : ME := fun b => if b = a then (fun j => if dp ≤ j ∧ j < dp + n then c s (sp + (j - dp)) else c a j) else c b
theorem ud_eq {f : Int → Int} {m x j : Int} (h : j = m) : ud f m x j = x := if_pos h
theorem ud_ne {f : Int → Int} {m x j : Int} (h : ¬ j = m) : ud f m x j = f j := if_neg h
theorem up_c {c : ME} {a b : Nat} {m x j : Int} (h : ¬ b = a) : up c a m x b j = c b j := by unfold up; rw [if_neg h]
theorem up_e {c : ME} {a : Nat} {m x j : Int} (h : j = m) : up c a m x a j = x := by unfold up; rw [if_pos rfl]; exact ud_eq h
theorem up_n {c : ME} {a : Nat} {m x j : Int} (h : ¬ j = m) : up c a m x a j = c a j := by unfold up; rw [if_pos rfl]; exact ud_ne h
theorem up_self {c : ME} {a : Nat} {m x : Int} : up c a m x a = ud (c a) m x := if_pos rfl
theorem up_b {c : ME} {a b : Nat} {m x j : Int} (h : ¬ b = a ∨ ¬ j = m) : up c a m x b j = c b j := by
  by_cases e : b = a
  · subst e; exact up_n (h.resolve_left (fun q => q rfl))
  · exact up_c e
theorem upc_c {c : ME} {s a b : Nat} {sp dp n j : Int} (h : ¬ b = a) : upc c s sp a dp n b j = c b j := by unfold upc; rw [if_neg h]
theorem upc_e {c : ME} {s a : Nat} {sp dp n j : Int} (h : dp ≤ j ∧ j < dp + n) : upc c s sp a dp n a j = c s (sp + (j - dp)) := by unfold upc; rw [if_pos rfl]; exact if_pos h
theorem upc_n {c : ME} {s a : Nat} {sp dp n j : Int} (h : ¬ (dp ≤ j ∧ j < dp + n)) : upc c s sp a dp n a j = c a j := by unfold upc; rw [if_pos rfl]; exact if_neg h
theorem ar_len {n : Nat} {f : Int → Int} : (ar n f).length = n := by unfold ar; rw [List.length_map, List.length_range]
theorem al_len {n : Nat} {f : Int → Int} : (al n f).length = n := by unfold al; rw [List.length_map, List.length_range]
theorem ar_get {n j : Nat} {f : Int → Int} (h : j < n) : (ar n f)[j]? = some (Int32.ofInt (f (j : Int))) := by
  unfold ar
  rw [List.getElem?_map, List.getElem?_range h]
  rfl
theorem al_get {n j : Nat} {f : Int → Int} (h : j < n) : (al n f)[j]? = some (Int64.ofInt (f (j : Int))) := by
  unfold al
  rw [List.getElem?_map, List.getElem?_range h]
  rfl
theorem ar_set {n j : Nat} {f : Int → Int} {x : Int} : (ar n f).set j (Int32.ofInt x) = ar n (ud f (j : Int) x) := by
  refine List.ext_getElem? (fun k => ?_)
  rw [List.getElem?_set, ar_len]
  by_cases hk : k < n
  · rw [ar_get hk, ar_get hk]
    by_cases e : j = k
    · subst e
      rw [if_pos rfl, if_pos hk, ud_eq rfl]
    · rw [if_neg e, ud_ne (by omega)]
  · have h1 : ∀ g : Int → Int, (ar n g)[k]? = none := fun g => List.getElem?_eq_none (by rw [ar_len]; omega)
    rw [h1, h1]
    by_cases e : j = k
    · rw [if_pos e, if_neg (by omega)]
    · rw [if_neg e]
theorem al_set {n j : Nat} {f : Int → Int} {x : Int} : (al n f).set j (Int64.ofInt x) = al n (ud f (j : Int) x) := by
  refine List.ext_getElem? (fun k => ?_)
  rw [List.getElem?_set, al_len]
  by_cases hk : k < n
  · rw [al_get hk, al_get hk]
    by_cases e : j = k
    · subst e
      rw [if_pos rfl, if_pos hk, ud_eq rfl]
    · rw [if_neg e, ud_ne (by omega)]
  · have h1 : ∀ g : Int → Int, (al n g)[k]? = none := fun g => List.getElem?_eq_none (by rw [al_len]; omega)
    rw [h1, h1]
    by_cases e : j = k
    · rw [if_pos e, if_neg (by omega)]
    · rw [if_neg e]
theorem ar_ext {n : Nat} {f g : Int → Int} (h : ∀ j : Int, 0 ≤ j → j < n → f j = g j) : ar n f = ar n g := by
  refine List.ext_getElem? (fun k => ?_)
  by_cases hk : k < n
  · rw [ar_get hk, ar_get hk, h k (by omega) (by omega)]
  · rw [List.getElem?_eq_none (by rw [ar_len]; omega), List.getElem?_eq_none (by rw [ar_len]; omega)]
theorem ar_cpl {n n0 : Nat} {f g : Int → Int} {sp dp k : Nat} (h1 : sp + k ≤ n0) (h2 : dp + k ≤ n) : a_cpl (ar n0 f) (ar n g) sp dp k = ar n (fun j => if (dp : Int) ≤ j ∧ j < (dp : Int) + k then f ((sp : Int) + (j - dp)) else g j) := by
  refine List.ext_getElem? (fun q => ?_)
  unfold a_cpl
  rw [List.getElem?_append, List.length_take, ar_len, Nat.min_eq_left (by omega)]
  by_cases hq : q < dp
  · rw [if_pos hq, List.getElem?_take, if_pos hq, ar_get (by omega), ar_get (by omega), if_neg (by omega)]
  · rw [if_neg hq, List.getElem?_append, List.length_take, List.length_drop, ar_len, Nat.min_eq_left (by omega)]
    by_cases hr : q - dp < k
    · rw [if_pos hr, List.getElem?_take, if_pos hr, List.getElem?_drop, ar_get (by omega), ar_get (by omega), if_pos (by omega)]
      have e : ((sp + (q - dp) : Nat) : Int) = (sp : Int) + ((q : Int) - dp) := by omega
      rw [e]
    · rw [if_neg hr, List.getElem?_drop]
      have e : dp + k + (q - dp - k) = q := by omega
      rw [e]
      by_cases hn : q < n
      · rw [ar_get hn, ar_get hn, if_neg (by omega)]
      · rw [List.getElem?_eq_none (by rw [ar_len]; omega), List.getElem?_eq_none (by rw [ar_len]; omega)]
/-- what a cell is: an array (its type, its length), or an object (its number; its fields: a cell, or none of an int) -/
abbrev CK : Type := (Nat × Nat) ⊕ (Nat × List (Option Nat))
/-- P the plan, Q the spare one, N the plan of the shop that is now, T that of the trial -/
noncomputable def ck (P Q N T : Nat) (a : Nat) : CK := match a with
  | 0 => .inr (7, [some 1, some 3, some 7, some 9, some 10, some 11, some 12, some P, some Q, some 37, some 39, none, none, none])
  | 1 => .inr (5, [some 2, none, none, none, none, none])
  | 2 => .inl (1, 600)
  | 3 => .inr (1, [some 4, some 5, some 6, none, none])
  | 4 => .inl (0, 544)
  | 5 => .inl (0, 1734)
  | 6 => .inl (0, 3)
  | 7 => .inr (3, [some 8, none, none, none, none])
  | 8 => .inl (0, 190)
  | 9 => .inr (6, [none])
  | 10 => .inl (0, 24)
  | 11 => .inl (0, 6)
  | 12 => .inl (0, 4)
  | 13 => .inr (2, [none, none, none, none, none, none, some 14, some 15, some 16, some 17, some 18, some 19, some 20])
  | 14 => .inl (0, 24)
  | 15 => .inl (0, 12)
  | 16 => .inl (0, 4)
  | 17 => .inl (0, 8)
  | 18 => .inl (0, 8)
  | 19 => .inl (0, 4)
  | 20 => .inr (0, [some 21, some 22, some 23, some 24, none, none])
  | 21 => .inl (0, 150)
  | 22 => .inl (0, 150)
  | 23 => .inl (0, 150)
  | 24 => .inl (0, 8)
  | 25 => .inr (2, [none, none, none, none, none, none, some 26, some 27, some 28, some 29, some 30, some 31, some 32])
  | 26 => .inl (0, 24)
  | 27 => .inl (0, 12)
  | 28 => .inl (0, 4)
  | 29 => .inl (0, 8)
  | 30 => .inl (0, 8)
  | 31 => .inl (0, 4)
  | 32 => .inr (0, [some 33, some 34, some 35, some 36, none, none])
  | 33 => .inl (0, 150)
  | 34 => .inl (0, 150)
  | 35 => .inl (0, 150)
  | 36 => .inl (0, 8)
  | 37 => .inr (4, [some 38, some N])
  | 38 => .inl (0, 34)
  | 39 => .inr (4, [some 40, some T])
  | 40 => .inl (0, 34)
  | 41 => .inr (8, [none, some 42, none, none, none, none, none, none, none, some 43, some 44, some 45, some 46, some 47, some 48, some 49, none, none, none, none, none, none, none, none, some 50, some 51, some 52, some 53, some 54, none, none, some 55, some 56, some 57, none, none, none, none, none, none, some 58, some 59, some 60, some 61, some 62, some 63, some 64, none, none, some 65, none, some 66, none])
  | 42 => .inl (0, 2)
  | 43 => .inl (0, 600)
  | 44 => .inl (0, 24)
  | 45 => .inl (0, 12)
  | 46 => .inl (0, 4)
  | 47 => .inl (0, 24)
  | 48 => .inl (0, 12)
  | 49 => .inl (0, 4)
  | 50 => .inl (0, 150)
  | 51 => .inl (0, 150)
  | 52 => .inl (0, 150)
  | 53 => .inl (0, 150)
  | 54 => .inl (0, 150)
  | 55 => .inl (0, 8)
  | 56 => .inl (0, 250)
  | 57 => .inl (0, 250)
  | 58 => .inl (0, 37)
  | 59 => .inl (0, 37)
  | 60 => .inl (0, 592)
  | 61 => .inl (0, 8)
  | 62 => .inl (0, 8)
  | 63 => .inl (0, 4)
  | 64 => .inl (0, 4)
  | 65 => .inl (2, 14)
  | 66 => .inl (0, 1890)
  | 67 => .inl (2, 1)
  | _ => .inl (0, 0)
noncomputable def fe (c : ME) (a : Nat) : Nat → List (Option Nat) → List Value
  | _, [] => []
  | m, none :: r => vi (c a (m : Int)) :: fe c a (m + 1) r
  | m, some t :: r => .ref t :: fe c a (m + 1) r
noncomputable def ce (c : ME) (a : Nat) : CK → AE
  | .inl (t, n) => if t = 2 then .inl (2, .inr (al n (c a))) else .inl (t, .inl (ar n (c a)))
  | .inr (ci, fl) => .inr (ci, fe c a 0 fl)
noncomputable def Wd (P Q N T : Nat) (c : ME) : AW := (List.range 68).map (fun a => ce c a (ck P Q N T a))
theorem fe_none {c : ME} {a : Nat} : ∀ {fl : List (Option Nat)} {m j : Nat}, fl[j]? = some none → (fe c a m fl)[j]? = some (vi (c a ((m + j : Nat) : Int)))
  | [], _, j, h => by rw [List.getElem?_nil] at h; cases h
  | none :: r, m, 0, h => rfl
  | some t :: r, m, 0, h => by cases h
  | none :: r, m, j + 1, h => by
    have := fe_none (c := c) (a := a) (fl := r) (m := m + 1) (j := j) h
    rw [Nat.add_right_comm] at this
    exact this
  | some t :: r, m, j + 1, h => by
    have := fe_none (c := c) (a := a) (fl := r) (m := m + 1) (j := j) h
    rw [Nat.add_right_comm] at this
    exact this
theorem fe_some {c : ME} {a t : Nat} : ∀ {fl : List (Option Nat)} {m j : Nat}, fl[j]? = some (some t) → (fe c a m fl)[j]? = some (.ref t)
  | [], _, j, h => by rw [List.getElem?_nil] at h; cases h
  | none :: r, m, 0, h => by cases h
  | some t9 :: r, m, 0, h => by cases h; rfl
  | none :: r, m, j + 1, h => fe_some (c := c) (a := a) (fl := r) (m := m + 1) (j := j) h
  | some t9 :: r, m, j + 1, h => fe_some (c := c) (a := a) (fl := r) (m := m + 1) (j := j) h
theorem fe_len {c : ME} {a : Nat} : ∀ {fl : List (Option Nat)} {m : Nat}, (fe c a m fl).length = fl.length
  | [], _ => rfl
  | none :: r, m => congrArg (· + 1) (fe_len (c := c) (a := a) (fl := r) (m := m + 1))
  | some t :: r, m => congrArg (· + 1) (fe_len (c := c) (a := a) (fl := r) (m := m + 1))
theorem fe_ext {c c' : ME} {a : Nat} : ∀ {fl : List (Option Nat)} {m : Nat}, (∀ j : Nat, m ≤ j → c a j = c' a j) → fe c a m fl = fe c' a m fl
  | [], _, _ => rfl
  | none :: r, m, h => by
    show vi (c a m) :: fe c a (m + 1) r = vi (c' a m) :: fe c' a (m + 1) r
    rw [h m (Nat.le_refl m), fe_ext (fun j hj => h j (by omega))]
  | some t :: r, m, h => by
    show Value.ref t :: fe c a (m + 1) r = Value.ref t :: fe c' a (m + 1) r
    rw [fe_ext (fun j hj => h j (by omega))]
theorem fe_set {c : ME} {a : Nat} {x : Int} : ∀ {fl : List (Option Nat)} {m j : Nat}, fl[j]? = some none → (fe c a m fl).set j (vi x) = fe (up c a ((m + j : Nat) : Int) x) a m fl
  | [], _, j, h => by rw [List.getElem?_nil] at h; cases h
  | none :: r, m, 0, h => by
    show vi x :: fe c a (m + 1) r = vi (up c a (m : Int) x a m) :: fe (up c a (m : Int) x) a (m + 1) r
    rw [up_e rfl, fe_ext (fun j hj => (up_n (c := c) (a := a) (x := x) (m := (m : Int)) (j := (j : Int)) (by omega)).symm)]
  | some t :: r, m, 0, h => by cases h
  | none :: r, m, j + 1, h => by
    have := fe_set (c := c) (a := a) (x := x) (fl := r) (m := m + 1) (j := j) h
    rw [Nat.add_right_comm] at this
    show vi (c a m) :: (fe c a (m + 1) r).set j (vi x) = vi (up c a _ x a m) :: fe (up c a _ x) a (m + 1) r
    rw [this, up_n (by omega)]
    rfl
  | some t :: r, m, j + 1, h => by
    have := fe_set (c := c) (a := a) (x := x) (fl := r) (m := m + 1) (j := j) h
    rw [Nat.add_right_comm] at this
    show Value.ref t :: (fe c a (m + 1) r).set j (vi x) = Value.ref t :: fe (up c a _ x) a (m + 1) r
    rw [this]
    rfl
theorem ce_ext {c c' : ME} {a : Nat} {q : CK} (h : ∀ j : Int, 0 ≤ j → c a j = c' a j) : ce c a q = ce c' a q := by
  unfold ce
  split
  · rename_i t n
    have e1 : ar n (c a) = ar n (c' a) := ar_ext (fun j hj _ => h j hj)
    have e2 : al n (c a) = al n (c' a) := by
      unfold al
      congr 1
      funext j
      rw [h j (by omega)]
    rw [e1, e2]
  · rw [fe_ext (fun j _ => h j (by omega))]
theorem wd_get {P Q N T : Nat} {c : ME} {a : Nat} (h : a < 68) : (Wd P Q N T c)[a]? = some (ce c a (ck P Q N T a)) := by
  unfold Wd
  rw [List.getElem?_map, List.getElem?_range h]
  rfl
theorem wd_set {P Q N T P' Q' N' T' : Nat} {c c' : ME} {a : Nat} {X : AE} (h : a < 68) (hX : X = ce c' a (ck P' Q' N' T' a)) (ho : ∀ b, ¬ b = a → ce c b (ck P Q N T b) = ce c' b (ck P' Q' N' T' b)) : (Wd P Q N T c).set a X = Wd P' Q' N' T' c' := by
  refine List.ext_getElem? (fun k => ?_)
  have hl : ∀ (P Q N T : Nat) (c : ME), (Wd P Q N T c).length = 68 := fun P Q N T c => by unfold Wd; rw [List.length_map, List.length_range]
  rw [List.getElem?_set, hl]
  by_cases hk : k < 68
  · rw [wd_get hk, wd_get hk]
    by_cases e : a = k
    · subst e
      rw [if_pos rfl, if_pos hk, hX]
    · rw [if_neg e, ho k (fun q => e q.symm)]
  · rw [List.getElem?_eq_none (by rw [hl]; omega), List.getElem?_eq_none (by rw [hl]; omega)]
    by_cases e : a = k
    · rw [if_pos e, if_neg (by omega)]
    · rw [if_neg e]
theorem wd_up {P Q N T : Nat} {c : ME} {a : Nat} {m x : Int} {X : AE} (h : a < 68) (hX : X = ce (up c a m x) a (ck P Q N T a)) : (Wd P Q N T c).set a X = Wd P Q N T (up c a m x) :=
  wd_set h hX (fun b hb => ce_ext (fun j _ => (up_c hb).symm))
theorem wd_len {P Q N T : Nat} {c : ME} : (Wd P Q N T c).length = 68 := by unfold Wd; rw [List.length_map, List.length_range]
/-- the memory behind the constructors -/
noncomputable def c0 : ME := fun a j => match a with
  | 1 => if j = 5 then -1 else 0
  | 13 => if j = 3 then 5 else 0
  | 19 => if 0 ≤ j ∧ j < 4 then -1 else 0
  | 25 => if j = 3 then 5 else 0
  | 31 => if 0 ≤ j ∧ j < 4 then -1 else 0
  | 41 => if j = 8 then -1 else if j = 19 then 5 else if j = 23 then 5 else 0
  | 64 => if 0 ≤ j ∧ j < 4 then -1 else 0
  | _ => 0
set_option maxRecDepth 100000 in
theorem w1_wd : w1 = Wd 13 25 13 13 c0 := by decide +kernel
theorem c_lt {a b : Int} (h : -2147483648 ≤ a ∧ a < b ∧ b ≤ 2147483647) : Int32.ofInt a < Int32.ofInt b := by
  rw [Int32.lt_iff_toInt_lt, Int32.toInt_ofInt_of_le (by omega) (by omega), Int32.toInt_ofInt_of_le (by omega) (by omega)]
  exact h.2.1
theorem c_le {a b : Int} (h : -2147483648 ≤ a ∧ a ≤ b ∧ b ≤ 2147483647) : Int32.ofInt a ≤ Int32.ofInt b := by
  rw [Int32.le_iff_toInt_le, Int32.toInt_ofInt_of_le (by omega) (by omega), Int32.toInt_ofInt_of_le (by omega) (by omega)]
  exact h.2.1
theorem c_nlt {a b : Int} (h : -2147483648 ≤ b ∧ b ≤ a ∧ a ≤ 2147483647) : ¬ Int32.ofInt a < Int32.ofInt b := by
  rw [Int32.lt_iff_toInt_lt, Int32.toInt_ofInt_of_le (by omega) (by omega), Int32.toInt_ofInt_of_le (by omega) (by omega)]
  omega
theorem c_nle {a b : Int} (h : -2147483648 ≤ b ∧ b < a ∧ a ≤ 2147483647) : ¬ Int32.ofInt a ≤ Int32.ofInt b := by
  rw [Int32.le_iff_toInt_le, Int32.toInt_ofInt_of_le (by omega) (by omega), Int32.toInt_ofInt_of_le (by omega) (by omega)]
  omega
theorem c_eq {a b : Int} (h : a = b) : Int32.ofInt a = Int32.ofInt b := congrArg _ h
theorem c_ne {a b : Int} (h : ¬ a = b ∧ (-2147483648 ≤ a ∧ a ≤ 2147483647) ∧ -2147483648 ≤ b ∧ b ≤ 2147483647) : ¬ Int32.ofInt a = Int32.ofInt b := fun q => by
  have e := congrArg Int32.toInt q
  rw [Int32.toInt_ofInt_of_le (by omega) (by omega), Int32.toInt_ofInt_of_le (by omega) (by omega)] at e
  exact h.1 e
theorem c_nn {a : Int} (h : 0 ≤ a ∧ a ≤ 2147483647) : (0 : Int32) ≤ Int32.ofInt a := c_le (a := 0) ⟨by omega, h.1, h.2⟩
theorem c_nat {a : Int} (h : 0 ≤ a ∧ a ≤ 2147483647) : (Int32.ofInt a).toNatClampNeg = a.toNat := Int32.toNatClampNeg_ofInt_of_le (by omega) (by omega)
theorem c_rng (x : Int32) : -2147483648 ≤ x.toInt ∧ x.toInt ≤ 2147483647 := ⟨x.le_toInt, by have := x.toInt_lt; omega⟩
/-- the number that stands for it -/
noncomputable def wr (a : Int) : Int := (Int32.ofInt a).toInt
theorem wr_rng (a : Int) : -2147483648 ≤ wr a ∧ wr a ≤ 2147483647 := c_rng _
theorem wr_of (a : Int) : Int32.ofInt (wr a) = Int32.ofInt a := Int32.ofInt_toInt _
theorem wr_id {a : Int} (h : -2147483648 ≤ a ∧ a ≤ 2147483647) : wr a = a := Int32.toInt_ofInt_of_le (by omega) (by omega)
theorem i8_of {n : Int} (h : -128 ≤ n ∧ n ≤ 127) : (Int8.ofInt n).toInt32 = Int32.ofInt n := by
  refine Int32.toInt_inj.mp ?_
  rw [Int8.toInt_toInt32, Int8.toInt_ofInt_of_le (by omega) (by omega), Int32.toInt_ofInt_of_le (by omega) (by omega)]
theorem i16_of {n : Int} (h : -32768 ≤ n ∧ n ≤ 32767) : (Int16.ofInt n).toInt32 = Int32.ofInt n := by
  refine Int32.toInt_inj.mp ?_
  rw [Int16.toInt_toInt32, Int16.toInt_ofInt_of_le (by omega) (by omega), Int32.toInt_ofInt_of_le (by omega) (by omega)]
/-- a byte of a number -/
noncomputable def sb (a : Int) : Int := (Int8.ofInt a).toInt
theorem sb_rng (a : Int) : -128 ≤ sb a ∧ sb a ≤ 127 := ⟨(Int8.ofInt a).le_toInt, by have := (Int8.ofInt a).toInt_lt; unfold sb; omega⟩
theorem sb_id {a : Int} (h : -128 ≤ a ∧ a ≤ 127) : sb a = a := Int8.toInt_ofInt_of_le (by omega) (by omega)
theorem sb_of (a : Int) : (Int32.ofInt a).toInt8.toInt32 = Int32.ofInt (sb a) := by
  rw [Int32.toInt8_ofInt]
  exact (Int32.ofInt_int8ToInt _).symm
theorem c_div {a b : Int} (h : 0 ≤ a ∧ a ≤ 2147483647 ∧ 0 < b ∧ b ≤ 2147483647) : Int32.ofInt a / Int32.ofInt b = Int32.ofInt (a / b) := by
  rw [← Int.tdiv_eq_ediv_of_nonneg h.1]
  exact (Int32.ofInt_tdiv (show (-2147483648 : Int) ≤ a by omega) (show a ≤ (2147483647 : Int) by omega) (show (-2147483648 : Int) ≤ b by omega) (show b ≤ (2147483647 : Int) by omega)).symm
theorem c_rem {a b : Int} (h : 0 ≤ a ∧ a ≤ 2147483647 ∧ 0 < b ∧ b ≤ 2147483647) : Int32.ofInt a - Int32.ofInt a / Int32.ofInt b * Int32.ofInt b = Int32.ofInt (a % b) := by
  rw [c_div h, ← Int32.ofInt_mul, ← Int32.ofInt_sub]
  congr 1
  have := Int.mul_ediv_add_emod a b
  rw [Int.mul_comm] at this
  omega
theorem l_ne {a b : Int} (h : ¬ a = b ∧ (-9223372036854775808 ≤ a ∧ a ≤ 9223372036854775807) ∧ -9223372036854775808 ≤ b ∧ b ≤ 9223372036854775807) : ¬ Int64.ofInt a = Int64.ofInt b := fun q => by
  have e := congrArg Int64.toInt q
  rw [Int64.toInt_ofInt_of_le (by omega) (by omega), Int64.toInt_ofInt_of_le (by omega) (by omega)] at e
  exact h.1 e
theorem l_div {a b : Int} (h : 0 ≤ a ∧ a ≤ 9223372036854775807 ∧ 0 < b ∧ b ≤ 9223372036854775807) : Int64.ofInt a / Int64.ofInt b = Int64.ofInt (a / b) := by
  rw [← Int.tdiv_eq_ediv_of_nonneg h.1]
  exact (Int64.ofInt_tdiv (show (-9223372036854775808 : Int) ≤ a by omega) (show a ≤ (9223372036854775807 : Int) by omega) (show (-9223372036854775808 : Int) ≤ b by omega) (show b ≤ (9223372036854775807 : Int) by omega)).symm
theorem l_rem {a b : Int} (h : 0 ≤ a ∧ a ≤ 9223372036854775807 ∧ 0 < b ∧ b ≤ 9223372036854775807) : Int64.ofInt a - Int64.ofInt a / Int64.ofInt b * Int64.ofInt b = Int64.ofInt (a % b) := by
  rw [l_div h, ← Int64.ofInt_mul, ← Int64.ofInt_sub]
  congr 1
  have := Int.mul_ediv_add_emod a b
  rw [Int.mul_comm] at this
  omega
theorem l_cmp0 {a b : Int} (h : a = b) : lg_cmp (Int64.ofInt a) (Int64.ofInt b) = Int32.ofInt 0 := by rw [h]; exact lcmp_self _
theorem l_cmp1 {a b : Int} (h : -9223372036854775808 ≤ b ∧ b < a ∧ a ≤ 9223372036854775807) : lg_cmp (Int64.ofInt a) (Int64.ofInt b) = Int32.ofInt 1 := by
  have h1 : Int64.ofInt b < Int64.ofInt a := by
    rw [Int64.lt_iff_toInt_lt, Int64.toInt_ofInt_of_le (by omega) (by omega), Int64.toInt_ofInt_of_le (by omega) (by omega)]
    omega
  have h2 : ¬ Int64.ofInt a < Int64.ofInt b := by
    rw [Int64.lt_iff_toInt_lt, Int64.toInt_ofInt_of_le (by omega) (by omega), Int64.toInt_ofInt_of_le (by omega) (by omega)]
    omega
  have h3 := l_ne (a := a) (b := b) ⟨by omega, ⟨by omega, by omega⟩, by omega, by omega⟩
  unfold lg_cmp
  simp [h1, h2, h3]
theorem l_of_i {a : Int} (h : -2147483648 ≤ a ∧ a ≤ 2147483647) : (Int32.ofInt a).toInt64 = Int64.ofInt a := Int32.toInt64_ofInt (show (-2147483648 : Int) ≤ a by omega) (show a ≤ (2147483647 : Int) by omega)
noncomputable def AEi (c : ME) (a n : Nat) : AE := .inl (0, .inl (ar n (c a)))
section FL
variable {sc : List Int32} {d k pc len nc ns : Nat} {ls : AL} {st r : List Value} {P Q N T : Nat} {c : ME} {Z : AR → Prop}
theorem v_bip {w : AW} {n : Int} (hd : mLk k pc = some (.bipush n, len)) (h : -128 ≤ n ∧ n ≤ 127) (K : Wp sc d k (pc + 2) ls (vi n :: st) w nc ns Z) : Wp sc d k pc ls st w nc ns Z := q_bipush hd (by rw [i8_of h]; exact K)
theorem v_sip {w : AW} {n : Int} (hd : mLk k pc = some (.sipush n, len)) (h : -32768 ≤ n ∧ n ≤ 32767) (K : Wp sc d k (pc + 3) ls (vi n :: st) w nc ns Z) : Wp sc d k pc ls st w nc ns Z := q_sipush hd (by rw [i16_of h]; exact K)
theorem v_ldc {w : AW} {x : Nat} {v : Int32} {n : Int} (hd : mLk k pc = some (.ldc x, len)) (hv : a_lk (kI (mK k)) x = some v) (hn : v = Int32.ofInt n) (K : Wp sc d k (pc + 2) ls (vi n :: st) w nc ns Z) : Wp sc d k pc ls st w nc ns Z := q_ldc_i hd hv (by rw [hn]; exact K)
theorem v_ldcw {w : AW} {x : Nat} {v : Int32} {n : Int} (hd : mLk k pc = some (.ldc_w x, len)) (hv : a_lk (kI (mK k)) x = some v) (hn : v = Int32.ofInt n) (K : Wp sc d k (pc + 3) ls (vi n :: st) w nc ns Z) : Wp sc d k pc ls st w nc ns Z := q_ldc_w_i hd hv (by rw [hn]; exact K)
theorem v_ldc2 {w : AW} {x : Nat} {v : Int64} {n : Int} (hd : mLk k pc = some (.ldc2_w x, len)) (hv : a_lk (kL (mK k)) x = some v) (hn : v = Int64.ofInt n) (K : Wp sc d k (pc + 3) ls (vl n :: st) w nc ns Z) : Wp sc d k pc ls st w nc ns Z := q_ldc2 hd hv (by rw [hn]; exact K)
theorem v_lconst {w : AW} {n : Fin 2} {z : Int} (hd : mLk k pc = some (.lconst n, len)) (hz : Int64.ofNat (n : Nat) = Int64.ofInt z) (K : Wp sc d k (pc + 1) ls (vl z :: st) w nc ns Z) : Wp sc d k pc ls st w nc ns Z := q_lconst hd (by rw [hz]; exact K)
theorem v_iadd {w : AW} {a b v : Int} (hd : mLk k pc = some (.iadd, len)) (hv : a + b = v) (K : Wp sc d k (pc + 1) ls (vi v :: r) w nc ns Z) : Wp sc d k pc ls (vi b :: vi a :: r) w nc ns Z := q_iadd hd (by rw [← Int32.ofInt_add, hv]; exact K)
theorem v_isub {w : AW} {a b v : Int} (hd : mLk k pc = some (.isub, len)) (hv : a - b = v) (K : Wp sc d k (pc + 1) ls (vi v :: r) w nc ns Z) : Wp sc d k pc ls (vi b :: vi a :: r) w nc ns Z := q_isub hd (by rw [← Int32.ofInt_sub, hv]; exact K)
theorem v_imul {w : AW} {a b v : Int} (hd : mLk k pc = some (.imul, len)) (hv : a * b = v) (K : Wp sc d k (pc + 1) ls (vi v :: r) w nc ns Z) : Wp sc d k pc ls (vi b :: vi a :: r) w nc ns Z := q_imul hd (by rw [← Int32.ofInt_mul, hv]; exact K)
theorem v_ladd {w : AW} {a b v : Int} (hd : mLk k pc = some (.ladd, len)) (hv : a + b = v) (K : Wp sc d k (pc + 1) ls (vl v :: r) w nc ns Z) : Wp sc d k pc ls (vl b :: vl a :: r) w nc ns Z := q_ladd hd (by rw [← Int64.ofInt_add, hv]; exact K)
theorem v_lmul {w : AW} {a b v : Int} (hd : mLk k pc = some (.lmul, len)) (hv : a * b = v) (K : Wp sc d k (pc + 1) ls (vl v :: r) w nc ns Z) : Wp sc d k pc ls (vl b :: vl a :: r) w nc ns Z := q_lmul hd (by rw [← Int64.ofInt_mul, hv]; exact K)
theorem v_ineg {w : AW} {a v : Int} (hd : mLk k pc = some (.ineg, len)) (hv : -a = v) (K : Wp sc d k (pc + 1) ls (vi v :: r) w nc ns Z) : Wp sc d k pc ls (vi a :: r) w nc ns Z := q_ineg hd (by rw [← Int32.ofInt_neg, hv]; exact K)
theorem v_iinc {w : AW} {i : Nat} {n a v : Int} (hd : mLk k pc = some (.iinc i n, len)) (hl : a_lk ls i = some (vi a)) (hi : i < mX k) (hv : a + n = v) (K : Wp sc d k (pc + 3) (a_s1 ls i (vi v)) st w nc ns Z) : Wp sc d k pc ls st w nc ns Z := q_iinc hd hl hi (by rw [← Int32.ofInt_add, hv]; exact K)
theorem v_idiv {w : AW} {a b v : Int} (hd : mLk k pc = some (.idiv, len)) (h : 0 ≤ a ∧ a ≤ 2147483647 ∧ 0 < b ∧ b ≤ 2147483647) (hv : a / b = v) (K : Wp sc d k (pc + 1) ls (vi v :: r) w nc ns Z) : Wp sc d k pc ls (vi b :: vi a :: r) w nc ns Z := q_idiv hd (c_ne (b := 0) ⟨by omega, by omega, by omega⟩) (by rw [c_div h, hv]; exact K)
theorem v_irem {w : AW} {a b v : Int} (hd : mLk k pc = some (.irem, len)) (h : 0 ≤ a ∧ a ≤ 2147483647 ∧ 0 < b ∧ b ≤ 2147483647) (hv : a % b = v) (K : Wp sc d k (pc + 1) ls (vi v :: r) w nc ns Z) : Wp sc d k pc ls (vi b :: vi a :: r) w nc ns Z := q_irem hd (c_ne (b := 0) ⟨by omega, by omega, by omega⟩) (by rw [c_rem h, hv]; exact K)
theorem v_ldiv {w : AW} {a b v : Int} (hd : mLk k pc = some (.ldiv, len)) (h : 0 ≤ a ∧ a ≤ 9223372036854775807 ∧ 0 < b ∧ b ≤ 9223372036854775807) (hv : a / b = v) (K : Wp sc d k (pc + 1) ls (vl v :: r) w nc ns Z) : Wp sc d k pc ls (vl b :: vl a :: r) w nc ns Z := q_ldiv hd (l_ne (b := 0) ⟨by omega, by omega, by omega⟩) (by rw [l_div h, hv]; exact K)
theorem v_lrem {w : AW} {a b v : Int} (hd : mLk k pc = some (.lrem, len)) (h : 0 ≤ a ∧ a ≤ 9223372036854775807 ∧ 0 < b ∧ b ≤ 9223372036854775807) (hv : a % b = v) (K : Wp sc d k (pc + 1) ls (vl v :: r) w nc ns Z) : Wp sc d k pc ls (vl b :: vl a :: r) w nc ns Z := q_lrem hd (l_ne (b := 0) ⟨by omega, by omega, by omega⟩) (by rw [l_rem h, hv]; exact K)
theorem v_i2l {w : AW} {a : Int} (hd : mLk k pc = some (.i2l, len)) (h : -2147483648 ≤ a ∧ a ≤ 2147483647) (K : Wp sc d k (pc + 1) ls (vl a :: r) w nc ns Z) : Wp sc d k pc ls (vi a :: r) w nc ns Z := q_i2l hd (by rw [l_of_i h]; exact K)
theorem v_lcmp0 {w : AW} {a b : Int} (hd : mLk k pc = some (.lcmp, len)) (h : a = b) (K : Wp sc d k (pc + 1) ls (vi 0 :: r) w nc ns Z) : Wp sc d k pc ls (vl b :: vl a :: r) w nc ns Z := q_lcmp hd (by rw [l_cmp0 h]; exact K)
theorem v_lcmp1 {w : AW} {a b : Int} (hd : mLk k pc = some (.lcmp, len)) (h : -9223372036854775808 ≤ b ∧ b < a ∧ a ≤ 9223372036854775807) (K : Wp sc d k (pc + 1) ls (vi 1 :: r) w nc ns Z) : Wp sc d k pc ls (vl b :: vl a :: r) w nc ns Z := q_lcmp hd (by rw [l_cmp1 h]; exact K)
theorem v_if_eq_t {w : AW} {off : Int} {t : Nat} {a : Int} (hd : mLk k pc = some (.ifCond .eq off, len)) (ht : (pc : Int) + off = (t : Int)) (h : a = (0 : Int)) (K : Wp sc d k t ls r w nc ns Z) : Wp sc d k pc ls (vi a :: r) w nc ns Z := q_if_eq_t hd ht (c_eq (a := a) (b := 0) h) K
theorem v_ic_eq_t {w : AW} {off : Int} {t : Nat} {a b : Int} (hd : mLk k pc = some (.if_icmp .eq off, len)) (ht : (pc : Int) + off = (t : Int)) (h : a = b) (K : Wp sc d k t ls r w nc ns Z) : Wp sc d k pc ls (vi b :: vi a :: r) w nc ns Z := q_ic_eq_t hd ht (c_eq (a := a) (b := b) h) K
theorem v_if_eq_f {w : AW} {off : Int} {t : Nat} {a : Int} (hd : mLk k pc = some (.ifCond .eq off, len)) (ht : (pc : Int) + off = (t : Int)) (h : ¬ a = (0 : Int) ∧ (-2147483648 ≤ a ∧ a ≤ 2147483647) ∧ -2147483648 ≤ (0 : Int) ∧ (0 : Int) ≤ 2147483647) (K : Wp sc d k (pc + 3) ls r w nc ns Z) : Wp sc d k pc ls (vi a :: r) w nc ns Z := q_if_eq_f hd ht (c_ne (a := a) (b := 0) h) K
theorem v_ic_eq_f {w : AW} {off : Int} {t : Nat} {a b : Int} (hd : mLk k pc = some (.if_icmp .eq off, len)) (ht : (pc : Int) + off = (t : Int)) (h : ¬ a = b ∧ (-2147483648 ≤ a ∧ a ≤ 2147483647) ∧ -2147483648 ≤ b ∧ b ≤ 2147483647) (K : Wp sc d k (pc + 3) ls r w nc ns Z) : Wp sc d k pc ls (vi b :: vi a :: r) w nc ns Z := q_ic_eq_f hd ht (c_ne (a := a) (b := b) h) K
theorem v_if_ne_t {w : AW} {off : Int} {t : Nat} {a : Int} (hd : mLk k pc = some (.ifCond .ne off, len)) (ht : (pc : Int) + off = (t : Int)) (h : ¬ a = (0 : Int) ∧ (-2147483648 ≤ a ∧ a ≤ 2147483647) ∧ -2147483648 ≤ (0 : Int) ∧ (0 : Int) ≤ 2147483647) (K : Wp sc d k t ls r w nc ns Z) : Wp sc d k pc ls (vi a :: r) w nc ns Z := q_if_ne_t hd ht (c_ne (a := a) (b := 0) h) K
theorem v_ic_ne_t {w : AW} {off : Int} {t : Nat} {a b : Int} (hd : mLk k pc = some (.if_icmp .ne off, len)) (ht : (pc : Int) + off = (t : Int)) (h : ¬ a = b ∧ (-2147483648 ≤ a ∧ a ≤ 2147483647) ∧ -2147483648 ≤ b ∧ b ≤ 2147483647) (K : Wp sc d k t ls r w nc ns Z) : Wp sc d k pc ls (vi b :: vi a :: r) w nc ns Z := q_ic_ne_t hd ht (c_ne (a := a) (b := b) h) K
theorem v_if_ne_f {w : AW} {off : Int} {t : Nat} {a : Int} (hd : mLk k pc = some (.ifCond .ne off, len)) (ht : (pc : Int) + off = (t : Int)) (h : a = (0 : Int)) (K : Wp sc d k (pc + 3) ls r w nc ns Z) : Wp sc d k pc ls (vi a :: r) w nc ns Z := q_if_ne_f hd ht (fun q => q (c_eq (a := a) (b := 0) h)) K
theorem v_ic_ne_f {w : AW} {off : Int} {t : Nat} {a b : Int} (hd : mLk k pc = some (.if_icmp .ne off, len)) (ht : (pc : Int) + off = (t : Int)) (h : a = b) (K : Wp sc d k (pc + 3) ls r w nc ns Z) : Wp sc d k pc ls (vi b :: vi a :: r) w nc ns Z := q_ic_ne_f hd ht (fun q => q (c_eq (a := a) (b := b) h)) K
theorem v_if_lt_t {w : AW} {off : Int} {t : Nat} {a : Int} (hd : mLk k pc = some (.ifCond .lt off, len)) (ht : (pc : Int) + off = (t : Int)) (h : -2147483648 ≤ a ∧ a < (0 : Int) ∧ (0 : Int) ≤ 2147483647) (K : Wp sc d k t ls r w nc ns Z) : Wp sc d k pc ls (vi a :: r) w nc ns Z := q_if_lt_t hd ht (c_lt (a := a) (b := 0) h) K
theorem v_ic_lt_t {w : AW} {off : Int} {t : Nat} {a b : Int} (hd : mLk k pc = some (.if_icmp .lt off, len)) (ht : (pc : Int) + off = (t : Int)) (h : -2147483648 ≤ a ∧ a < b ∧ b ≤ 2147483647) (K : Wp sc d k t ls r w nc ns Z) : Wp sc d k pc ls (vi b :: vi a :: r) w nc ns Z := q_ic_lt_t hd ht (c_lt (a := a) (b := b) h) K
theorem v_if_lt_f {w : AW} {off : Int} {t : Nat} {a : Int} (hd : mLk k pc = some (.ifCond .lt off, len)) (ht : (pc : Int) + off = (t : Int)) (h : -2147483648 ≤ (0 : Int) ∧ (0 : Int) ≤ a ∧ a ≤ 2147483647) (K : Wp sc d k (pc + 3) ls r w nc ns Z) : Wp sc d k pc ls (vi a :: r) w nc ns Z := q_if_lt_f hd ht (c_nlt (a := a) (b := 0) h) K
theorem v_ic_lt_f {w : AW} {off : Int} {t : Nat} {a b : Int} (hd : mLk k pc = some (.if_icmp .lt off, len)) (ht : (pc : Int) + off = (t : Int)) (h : -2147483648 ≤ b ∧ b ≤ a ∧ a ≤ 2147483647) (K : Wp sc d k (pc + 3) ls r w nc ns Z) : Wp sc d k pc ls (vi b :: vi a :: r) w nc ns Z := q_ic_lt_f hd ht (c_nlt (a := a) (b := b) h) K
theorem v_if_ge_t {w : AW} {off : Int} {t : Nat} {a : Int} (hd : mLk k pc = some (.ifCond .ge off, len)) (ht : (pc : Int) + off = (t : Int)) (h : -2147483648 ≤ (0 : Int) ∧ (0 : Int) ≤ a ∧ a ≤ 2147483647) (K : Wp sc d k t ls r w nc ns Z) : Wp sc d k pc ls (vi a :: r) w nc ns Z := q_if_ge_t hd ht (c_le (a := 0) (b := a) h) K
theorem v_ic_ge_t {w : AW} {off : Int} {t : Nat} {a b : Int} (hd : mLk k pc = some (.if_icmp .ge off, len)) (ht : (pc : Int) + off = (t : Int)) (h : -2147483648 ≤ b ∧ b ≤ a ∧ a ≤ 2147483647) (K : Wp sc d k t ls r w nc ns Z) : Wp sc d k pc ls (vi b :: vi a :: r) w nc ns Z := q_ic_ge_t hd ht (c_le (a := b) (b := a) h) K
theorem v_if_ge_f {w : AW} {off : Int} {t : Nat} {a : Int} (hd : mLk k pc = some (.ifCond .ge off, len)) (ht : (pc : Int) + off = (t : Int)) (h : -2147483648 ≤ a ∧ a < (0 : Int) ∧ (0 : Int) ≤ 2147483647) (K : Wp sc d k (pc + 3) ls r w nc ns Z) : Wp sc d k pc ls (vi a :: r) w nc ns Z := q_if_ge_f hd ht (c_nle (a := 0) (b := a) h) K
theorem v_ic_ge_f {w : AW} {off : Int} {t : Nat} {a b : Int} (hd : mLk k pc = some (.if_icmp .ge off, len)) (ht : (pc : Int) + off = (t : Int)) (h : -2147483648 ≤ a ∧ a < b ∧ b ≤ 2147483647) (K : Wp sc d k (pc + 3) ls r w nc ns Z) : Wp sc d k pc ls (vi b :: vi a :: r) w nc ns Z := q_ic_ge_f hd ht (c_nle (a := b) (b := a) h) K
theorem v_if_gt_t {w : AW} {off : Int} {t : Nat} {a : Int} (hd : mLk k pc = some (.ifCond .gt off, len)) (ht : (pc : Int) + off = (t : Int)) (h : -2147483648 ≤ (0 : Int) ∧ (0 : Int) < a ∧ a ≤ 2147483647) (K : Wp sc d k t ls r w nc ns Z) : Wp sc d k pc ls (vi a :: r) w nc ns Z := q_if_gt_t hd ht (c_lt (a := 0) (b := a) h) K
theorem v_ic_gt_t {w : AW} {off : Int} {t : Nat} {a b : Int} (hd : mLk k pc = some (.if_icmp .gt off, len)) (ht : (pc : Int) + off = (t : Int)) (h : -2147483648 ≤ b ∧ b < a ∧ a ≤ 2147483647) (K : Wp sc d k t ls r w nc ns Z) : Wp sc d k pc ls (vi b :: vi a :: r) w nc ns Z := q_ic_gt_t hd ht (c_lt (a := b) (b := a) h) K
theorem v_if_gt_f {w : AW} {off : Int} {t : Nat} {a : Int} (hd : mLk k pc = some (.ifCond .gt off, len)) (ht : (pc : Int) + off = (t : Int)) (h : -2147483648 ≤ a ∧ a ≤ (0 : Int) ∧ (0 : Int) ≤ 2147483647) (K : Wp sc d k (pc + 3) ls r w nc ns Z) : Wp sc d k pc ls (vi a :: r) w nc ns Z := q_if_gt_f hd ht (c_nlt (a := 0) (b := a) h) K
theorem v_ic_gt_f {w : AW} {off : Int} {t : Nat} {a b : Int} (hd : mLk k pc = some (.if_icmp .gt off, len)) (ht : (pc : Int) + off = (t : Int)) (h : -2147483648 ≤ a ∧ a ≤ b ∧ b ≤ 2147483647) (K : Wp sc d k (pc + 3) ls r w nc ns Z) : Wp sc d k pc ls (vi b :: vi a :: r) w nc ns Z := q_ic_gt_f hd ht (c_nlt (a := b) (b := a) h) K
theorem v_if_le_t {w : AW} {off : Int} {t : Nat} {a : Int} (hd : mLk k pc = some (.ifCond .le off, len)) (ht : (pc : Int) + off = (t : Int)) (h : -2147483648 ≤ a ∧ a ≤ (0 : Int) ∧ (0 : Int) ≤ 2147483647) (K : Wp sc d k t ls r w nc ns Z) : Wp sc d k pc ls (vi a :: r) w nc ns Z := q_if_le_t hd ht (c_le (a := a) (b := 0) h) K
theorem v_ic_le_t {w : AW} {off : Int} {t : Nat} {a b : Int} (hd : mLk k pc = some (.if_icmp .le off, len)) (ht : (pc : Int) + off = (t : Int)) (h : -2147483648 ≤ a ∧ a ≤ b ∧ b ≤ 2147483647) (K : Wp sc d k t ls r w nc ns Z) : Wp sc d k pc ls (vi b :: vi a :: r) w nc ns Z := q_ic_le_t hd ht (c_le (a := a) (b := b) h) K
theorem v_if_le_f {w : AW} {off : Int} {t : Nat} {a : Int} (hd : mLk k pc = some (.ifCond .le off, len)) (ht : (pc : Int) + off = (t : Int)) (h : -2147483648 ≤ (0 : Int) ∧ (0 : Int) < a ∧ a ≤ 2147483647) (K : Wp sc d k (pc + 3) ls r w nc ns Z) : Wp sc d k pc ls (vi a :: r) w nc ns Z := q_if_le_f hd ht (c_nle (a := a) (b := 0) h) K
theorem v_ic_le_f {w : AW} {off : Int} {t : Nat} {a b : Int} (hd : mLk k pc = some (.if_icmp .le off, len)) (ht : (pc : Int) + off = (t : Int)) (h : -2147483648 ≤ b ∧ b < a ∧ a ≤ 2147483647) (K : Wp sc d k (pc + 3) ls r w nc ns Z) : Wp sc d k pc ls (vi b :: vi a :: r) w nc ns Z := q_ic_le_f hd ht (c_nle (a := a) (b := b) h) K
theorem v_tsw_o {w : AW} {dflt lo hi : Int} {offs : Array Int} {t : Nat} {a : Int} (hd : mLk k pc = some (.tableswitch dflt lo hi offs, len)) (h : (a < lo ∨ hi < a) ∧ -2147483648 ≤ a ∧ a ≤ 2147483647) (ht : (pc : Int) + dflt = (t : Int)) (K : Wp sc d k t ls r w nc ns Z) : Wp sc d k pc ls (vi a :: r) w nc ns Z := q_tsw_o hd (by rw [Int32.toInt_ofInt_of_le (by omega) (by omega)]; exact h.1) ht K
theorem v_tsw_i {w : AW} {dflt lo hi off : Int} {offs : Array Int} {t : Nat} {a : Int} (b : Int) (hd : mLk k pc = some (.tableswitch dflt lo hi offs, len)) (hb : a = b) (h : (lo ≤ b ∧ b ≤ hi) ∧ -2147483648 ≤ b ∧ b ≤ 2147483647) (ho : offs[(b - lo).toNat]? = some off) (ht : (pc : Int) + off = (t : Int)) (K : Wp sc d k t ls r w nc ns Z) : Wp sc d k pc ls (vi a :: r) w nc ns Z := by
  subst hb
  have e : (Int32.ofInt a).toInt = a := Int32.toInt_ofInt_of_le (by omega) (by omega)
  exact q_tsw_i hd (by rw [e]; omega) (by rw [e]; exact ho) ht K
theorem v_lsw {w : AW} {dflt off : Int} {ps : Array (Int × Int)} {t : Nat} {a : Int} (b : Int) (hd : mLk k pc = some (.lookupswitch dflt ps, len)) (hb : a = b) (h : -2147483648 ≤ b ∧ b ≤ 2147483647) (hp : (ps.toList.zip (ps.toList.drop 1)).all (fun (a, next) => a.1 < next.1) = true) (ho : Op.lookupswitch.offset ps.toList dflt b = off) (ht : (pc : Int) + off = (t : Int)) (K : Wp sc d k t ls r w nc ns Z) : Wp sc d k pc ls (vi a :: r) w nc ns Z := by
  subst hb
  have e : (Int32.ofInt a).toInt = a := Int32.toInt_ofInt_of_le (by omega) (by omega)
  exact q_lsw hd hp (by rw [e]; exact ho) ht K
theorem v_gi {x a ci m : Nat} {z v : Int} {fl : List (Option Nat)} (hd : mLk k pc = some (.getfield x, len)) (hk : a_lk (kF (mK k)) x = some (ci, m)) (hc : ck P Q N T a = .inr (ci, fl)) (ha : a < 68) (hm : fl[m]? = some none) (hz : (m : Int) = z) (hv : c a z = v) (K : Wp sc d k (pc + 3) ls (vi v :: r) (Wd P Q N T c) nc ns Z) : Wp sc d k pc ls (.ref a :: r) (Wd P Q N T c) nc ns Z := q_get hd hk (fs := fe c a 0 fl) (by rw [wd_get ha, hc]; rfl) (fe_none hm) (by rw [Nat.zero_add, hz, hv]; exact K)
theorem v_gr {x a ci m t : Nat} {fl : List (Option Nat)} (hd : mLk k pc = some (.getfield x, len)) (hk : a_lk (kF (mK k)) x = some (ci, m)) (hc : ck P Q N T a = .inr (ci, fl)) (ha : a < 68) (hm : fl[m]? = some (some t)) (K : Wp sc d k (pc + 3) ls (.ref t :: r) (Wd P Q N T c) nc ns Z) : Wp sc d k pc ls (.ref a :: r) (Wd P Q N T c) nc ns Z := q_get hd hk (fs := fe c a 0 fl) (by rw [wd_get ha, hc]; rfl) (fe_some hm) K
theorem v_pi {x a ci m : Nat} {z v : Int} {fl : List (Option Nat)} (hd : mLk k pc = some (.putfield x, len)) (hk : a_lk (kF (mK k)) x = some (ci, m)) (hc : ck P Q N T a = .inr (ci, fl)) (ha : a < 68) (hm : fl[m]? = some none) (hz : (m : Int) = z) (hf : YF ci m = .int) (hq : (TF ci m).2.2.2 = false ∨ (mD k = 2 ∧ mK k = ci)) (K : Wp sc d k (pc + 3) ls r (Wd P Q N T (up c a z v)) nc ns Z) : Wp sc d k pc ls (vi v :: .ref a :: r) (Wd P Q N T c) nc ns Z := by
  subst hz
  have hl : m < fl.length := (List.getElem?_eq_some_iff.mp hm).1
  refine q_putv (fs := fe c a 0 fl) (w9 := Wd P Q N T (up c a m v)) hd hk (by rw [wd_get ha, hc]; rfl) (by rw [fe_len]; exact hl) (by rw [hf]; rfl) hq ?_ K
  refine wd_up ha ?_
  rw [hc, fe_set hm, Nat.zero_add]
  rfl
theorem v_ia {a n : Nat} {j v : Int} (hd : mLk k pc = some (.iaload, len)) (hc : ck P Q N T a = .inl (0, n)) (ha : a < 68) (hn : n ≤ 10000) (h : 0 ≤ j ∧ j < n) (hv : c a j = v) (K : Wp sc d k (pc + 1) ls (vi v :: r) (Wd P Q N T c) nc ns Z) : Wp sc d k pc ls (vi j :: .ref a :: r) (Wd P Q N T c) nc ns Z := by
  have hj : ((j.toNat : Nat) : Int) = j := Int.toNat_of_nonneg h.1
  refine q_ialoadv hd (c_nn ⟨h.1, by omega⟩) (by show ¬ a = 999999; omega) (l := ar n (c a)) (by rw [wd_get ha, hc]; rfl) (c_nat ⟨h.1, by omega⟩) (ar_get (by omega)) ?_
  rw [hj, hv]
  exact K
theorem v_ba {a n : Nat} {j v : Int} (hd : mLk k pc = some (.baload, len)) (hc : ck P Q N T a = .inl (1, n)) (ha : a < 68) (hn : n ≤ 10000) (h : 0 ≤ j ∧ j < n) (hv : c a j = v) (K : Wp sc d k (pc + 1) ls (vi v :: r) (Wd P Q N T c) nc ns Z) : Wp sc d k pc ls (vi j :: .ref a :: r) (Wd P Q N T c) nc ns Z := by
  have hj : ((j.toNat : Nat) : Int) = j := Int.toNat_of_nonneg h.1
  refine q_baloadv hd (c_nn ⟨h.1, by omega⟩) (by show ¬ a = 999999; omega) (l := ar n (c a)) (by rw [wd_get ha, hc]; rfl) (c_nat ⟨h.1, by omega⟩) (ar_get (by omega)) ?_
  rw [hj, hv]
  exact K
theorem v_la {a n : Nat} {j v : Int} (hd : mLk k pc = some (.laload, len)) (hc : ck P Q N T a = .inl (2, n)) (ha : a < 68) (hn : n ≤ 10000) (h : 0 ≤ j ∧ j < n) (hv : c a j = v) (K : Wp sc d k (pc + 1) ls (vl v :: r) (Wd P Q N T c) nc ns Z) : Wp sc d k pc ls (vi j :: .ref a :: r) (Wd P Q N T c) nc ns Z := by
  have hj : ((j.toNat : Nat) : Int) = j := Int.toNat_of_nonneg h.1
  refine q_laloadv hd (c_nn ⟨h.1, by omega⟩) (l := al n (c a)) (by rw [wd_get ha, hc]; rfl) (c_nat ⟨h.1, by omega⟩) (al_get (by omega)) ?_
  rw [hj, hv]
  exact K
theorem v_is {a n : Nat} {j v : Int} (hd : mLk k pc = some (.iastore, len)) (hc : ck P Q N T a = .inl (0, n)) (ha : a < 68) (hn : n ≤ 10000) (h : 0 ≤ j ∧ j < n) (K : Wp sc d k (pc + 1) ls r (Wd P Q N T (up c a j v)) nc ns Z) : Wp sc d k pc ls (vi v :: vi j :: .ref a :: r) (Wd P Q N T c) nc ns Z := by
  have hj : ((j.toNat : Nat) : Int) = j := Int.toNat_of_nonneg h.1
  refine q_iastorev hd (c_nn ⟨h.1, by omega⟩) (l := ar n (c a)) (w9 := Wd P Q N T (up c a j v)) (by rw [wd_get ha, hc]; rfl) (c_nat ⟨h.1, by omega⟩) (by rw [ar_len]; omega) ?_ K
  refine wd_up ha ?_
  rw [hc, ar_set, hj, show ce (up c a j v) a (.inl (0, n)) = .inl (0, .inl (ar n (up c a j v a))) from rfl, up_self]
theorem v_bs {a n : Nat} {j v : Int} (hd : mLk k pc = some (.bastore, len)) (hc : ck P Q N T a = .inl (1, n)) (ha : a < 68) (hn : n ≤ 10000) (h : 0 ≤ j ∧ j < n) (K : Wp sc d k (pc + 1) ls r (Wd P Q N T (up c a j (sb v))) nc ns Z) : Wp sc d k pc ls (vi v :: vi j :: .ref a :: r) (Wd P Q N T c) nc ns Z := by
  have hj : ((j.toNat : Nat) : Int) = j := Int.toNat_of_nonneg h.1
  refine q_bastorev hd (c_nn ⟨h.1, by omega⟩) (l := ar n (c a)) (w9 := Wd P Q N T (up c a j (sb v))) (by rw [wd_get ha, hc]; rfl) (c_nat ⟨h.1, by omega⟩) (by rw [ar_len]; omega) ?_ K
  refine wd_up ha ?_
  rw [hc, sb_of, ar_set, hj, show ce (up c a j (sb v)) a (.inl (1, n)) = .inl (1, .inl (ar n (up c a j (sb v) a))) from rfl, up_self]
theorem v_ls {a n : Nat} {j v : Int} (hd : mLk k pc = some (.lastore, len)) (hc : ck P Q N T a = .inl (2, n)) (ha : a < 68) (hn : n ≤ 10000) (h : 0 ≤ j ∧ j < n) (K : Wp sc d k (pc + 1) ls r (Wd P Q N T (up c a j v)) nc ns Z) : Wp sc d k pc ls (vl v :: vi j :: .ref a :: r) (Wd P Q N T c) nc ns Z := by
  have hj : ((j.toNat : Nat) : Int) = j := Int.toNat_of_nonneg h.1
  refine q_lastorev hd (c_nn ⟨h.1, by omega⟩) (l := al n (c a)) (w9 := Wd P Q N T (up c a j v)) (by rw [wd_get ha, hc]; rfl) (c_nat ⟨h.1, by omega⟩) (by rw [al_len]; omega) ?_ K
  refine wd_up ha ?_
  rw [hc, al_set, hj, show ce (up c a j v) a (.inl (2, n)) = .inl (2, .inr (al n (up c a j v a))) from rfl, up_self]
theorem v_al {a n t : Nat} (hd : mLk k pc = some (.arraylength, len)) (hc : ck P Q N T a = .inl (t, n)) (ha : a < 68) (ht : t < 2) (K : Wp sc d k (pc + 1) ls (vi (n : Int) :: r) (Wd P Q N T c) nc ns Z) : Wp sc d k pc ls (.ref a :: r) (Wd P Q N T c) nc ns Z := by
  refine q_alen hd (l := ar n (c a)) (by show ¬ a = 999999; omega) (by rw [wd_get ha, hc]; show some (if t = 2 then _ else _) = _; rw [if_neg (by omega)]) ht (v := Int32.ofInt n) ?_ K
  rw [ar_len]
  exact Int32.ofInt_eq_ofNat.symm
theorem v_script {xs : Nat → Int32} {L j : Nat} {z : Int} (hd : mLk k pc = some (.iaload, len)) (hz : z = (j : Int)) (hj : j < L) (hL : L ≤ 100000) (K : Wp (a_scr L xs) d k (pc + 1) ls (vi (xs j).toInt :: r) (Wd P Q N T c) nc ns Z) : Wp (a_scr L xs) d k pc ls (vi z :: .ref a_SC :: r) (Wd P Q N T c) nc ns Z := by
  subst hz
  rw [show vi (xs j).toInt = .int (xs j) from congrArg Value.int (Int32.ofInt_toInt _)] at K
  refine q_script hd (c_nn ⟨by omega, by omega⟩) ?_ K
  rw [c_nat ⟨by omega, by omega⟩, Int.toNat_natCast]
  unfold a_scr
  rw [List.getElem?_map, List.getElem?_range hj]
  rfl
/-- a call of an object's method -/
theorem v_cv {x j a ci len : Nat} {st rest : List Value} {fl : List (Option Nat)} (hd : mLk k pc = some (.invokevirtual x, len)) (hk : a_lk (kM (mK k)) x = some (0, j)) (hst : st.drop (mV j) = .ref a :: rest) (hc : ck P Q N T a = .inr (ci, fl)) (ha : a < 68) (hj : (ci = mK j ∧ mD j = 0) ∧ (j + 1 < mN ∧ mH j = [])) (hs : a_cat rest ≤ 8) (hx : a_cat (.ref a :: (st.take (mV j)).reverse) ≤ mX j)
    (C : Wp sc d j 0 (lv_args 0 (.ref a :: (st.take (mV j)).reverse)) [] (Wd P Q N T c) 0 0 (Bk sc d k pc j ls rest nc ns Z)) : Wp sc (d + 1) k pc ls st (Wd P Q N T c) nc ns Z := by
  refine q_call hd (j := j) (ags := .ref a :: (st.take (mV j)).reverse) (rest := rest) ?_ rfl ?_ C
  · show a_inv (d + 1) k x pc ls st _ = none
    unfold a_inv
    rw [hk]
    exact rfl
  · show (match a_lk (kM (mK k)) x with | some (0, j) => a_cv 0 j st _ | _ => none) = _
    rw [hk]
    show a_cv 0 j st _ = _
    unfold a_cv
    rw [hst]
    dsimp only
    rw [wd_get ha, hc]
    show (if _ then _ else none) = _
    rw [if_pos ⟨hj.1, hj.2.1, hj.2.2, hs, hx⟩]
theorem v_new {w : AW} {x v : Nat} (hd : mLk k pc = some (.new x, len)) (hk : a_lk (kX (mK k)) x = some v) (hv : v = 100 ∨ v = 101) (h6 : 6 ≤ d) (hs : a_cat st ≤ 8) (ht : a_thr k pc v = true) (hh : mH k = []) (K : Z (.inr v, w, nc + 1, ns + 6)) : Wp sc d k pc ls st w nc ns Z := by
  have hn : ¬ v < 9 := by omega
  refine q_fin hd (i := .new x) (oo := .inr v) (a := 1) (b := 6) ?_ ?_ K
  · show a_new k x pc ls st w = none
    unfold a_new
    rw [hk]
    exact if_neg (fun q => hn q.1)
  · show a_thx d k x pc st = some (.inr v, 1, 6)
    unfold a_thx
    rw [hk]
    exact if_pos ⟨hv, h6, hs, ht, hh⟩
theorem v_zret {w : AW} {a : Int} (hd : mLk k pc = some (.ireturn, len)) (hR : mR k = some .boolean) (h : a = 0 ∨ a = 1) (K : Z (.inl (some (vi a)), w, nc, ns)) : Wp sc d k pc ls [vi a] w nc ns Z := q_zret hd hR (h.elim (fun e => Or.inl (by rw [e]; rfl)) (fun e => Or.inr (by rw [e]; rfl))) K
theorem v_max_l {w : AW} {x j : Nat} {a b : Int} (hd : mLk k pc = some (.invokestatic x, len)) (hk : a_lk (kM (mK k)) x = some (3, j)) (h1 : 1 ≤ d) (hc : a_cat r ≤ 8) (h : -2147483648 ≤ a ∧ a < b ∧ b ≤ 2147483647) (K : Wp sc d k (pc + 3) ls (vi b :: r) w nc ns Z) : Wp sc d k pc ls (vi b :: vi a :: r) w nc ns Z := q_mmax hd hk ⟨h1, hc⟩ (if_pos (c_lt h)) K
theorem v_max_g {w : AW} {x j : Nat} {a b : Int} (hd : mLk k pc = some (.invokestatic x, len)) (hk : a_lk (kM (mK k)) x = some (3, j)) (h1 : 1 ≤ d) (hc : a_cat r ≤ 8) (h : -2147483648 ≤ b ∧ b ≤ a ∧ a ≤ 2147483647) (K : Wp sc d k (pc + 3) ls (vi a :: r) w nc ns Z) : Wp sc d k pc ls (vi b :: vi a :: r) w nc ns Z := q_mmax hd hk ⟨h1, hc⟩ (if_neg (c_nlt h)) K
theorem v_min_l {w : AW} {x j : Nat} {a b : Int} (hd : mLk k pc = some (.invokestatic x, len)) (hk : a_lk (kM (mK k)) x = some (4, j)) (h1 : 1 ≤ d) (hc : a_cat r ≤ 8) (h : -2147483648 ≤ a ∧ a < b ∧ b ≤ 2147483647) (K : Wp sc d k (pc + 3) ls (vi a :: r) w nc ns Z) : Wp sc d k pc ls (vi b :: vi a :: r) w nc ns Z := q_mmin hd hk ⟨h1, hc⟩ (if_neg (c_nlt ⟨h.1, Int.le_of_lt h.2.1, h.2.2⟩)) K
theorem v_min_g {w : AW} {x j : Nat} {a b : Int} (hd : mLk k pc = some (.invokestatic x, len)) (hk : a_lk (kM (mK k)) x = some (4, j)) (h1 : 1 ≤ d) (hc : a_cat r ≤ 8) (h : -2147483648 ≤ b ∧ b ≤ a ∧ a ≤ 2147483647) (K : Wp sc d k (pc + 3) ls (vi b :: r) w nc ns Z) : Wp sc d k pc ls (vi b :: vi a :: r) w nc ns Z := by
  refine q_mmin hd hk ⟨h1, hc⟩ ?_ K
  by_cases e : b = a
  · subst e
    exact ite_self _
  · exact if_pos (c_lt ⟨h.1, by omega, h.2.2⟩)
theorem v_abs_p {w : AW} {x j : Nat} {a v : Int} (hd : mLk k pc = some (.invokestatic x, len)) (hk : a_lk (kM (mK k)) x = some (5, j)) (h1 : 1 ≤ d) (hc : a_cat r ≤ 8) (h : 0 ≤ a ∧ a ≤ 2147483647) (hv : a = v) (K : Wp sc d k (pc + 3) ls (vi v :: r) w nc ns Z) : Wp sc d k pc ls (vi a :: r) w nc ns Z := by
  subst hv
  exact q_mabs hd hk ⟨h1, hc⟩ (if_pos (c_nn h)) K
theorem v_abs_n {w : AW} {x j : Nat} {a v : Int} (hd : mLk k pc = some (.invokestatic x, len)) (hk : a_lk (kM (mK k)) x = some (5, j)) (h1 : 1 ≤ d) (hc : a_cat r ≤ 8) (h : -2147483648 ≤ a ∧ a < 0) (hv : -a = v) (K : Wp sc d k (pc + 3) ls (vi v :: r) w nc ns Z) : Wp sc d k pc ls (vi a :: r) w nc ns Z := by
  subst hv
  refine q_mabs hd hk ⟨h1, hc⟩ (z := Int32.ofInt (-a)) ?_ K
  rw [if_neg (show ¬ (0 : Int32) ≤ Int32.ofInt a from c_nle (a := 0) (b := a) ⟨h.1, h.2, by omega⟩), Int32.ofInt_neg, Int32.zero_sub]
theorem v_cpy {x j a a0 n0 n1 : Nat} {sp dp n : Int} (hd : mLk k pc = some (.invokestatic x, len)) (hk : a_lk (kM (mK k)) x = some (6, j)) (hc : ck P Q N T a = .inl (0, n1)) (ha : a < 68) (hc0 : ck P Q N T a0 = .inl (0, n0)) (ha0 : a0 < 68) (e1 : n1 = n1) (e0 : n0 = n0) (h1 : 1 ≤ d) (hs : a_cat r ≤ 8) (h : (0 ≤ n ∧ 0 ≤ sp ∧ 0 ≤ dp) ∧ (sp + n ≤ n0 ∧ dp + n ≤ n1) ∧ (n0 : Int) ≤ 100000 ∧ (n1 : Int) ≤ 100000)
    (K : Wp sc d k (pc + 3) ls r (Wd P Q N T (upc c a0 sp a dp n)) nc ns Z) : Wp sc d k pc ls (vi n :: vi dp :: .ref a :: vi sp :: .ref a0 :: r) (Wd P Q N T c) nc ns Z := by
  have en := c_nat (a := n) ⟨by omega, by omega⟩
  have es := c_nat (a := sp) ⟨by omega, by omega⟩
  have ed := c_nat (a := dp) ⟨by omega, by omega⟩
  have in_ := Int.toNat_of_nonneg h.1.1
  have is_ := Int.toNat_of_nonneg h.1.2.1
  have id_ := Int.toNat_of_nonneg h.1.2.2
  refine q_ins hd (pc' := pc + 3) (ls' := ls) (st' := r) (w' := Wd P Q N T (upc c a0 sp a dp n)) (a := 0) (b := 0) ?_ K
  show a_ins d k x pc ls _ _ = _
  unfold a_ins
  rw [hk]
  show a_cpy d pc ls _ _ = _
  unfold a_cpy
  dsimp only
  rw [if_pos ⟨⟨h1, hs⟩, c_nn ⟨by omega, by omega⟩, c_nn ⟨by omega, by omega⟩, c_nn ⟨by omega, by omega⟩⟩]
  rw [wd_get ha, wd_get ha0, hc, hc0]
  show (if _ then a_nx _ _ _ ((Wd P Q N T c).set a (.inl (0, .inl (a_cpl (ar n0 (c a0)) (ar n1 (c a)) _ _ _)))) else none) = _
  rw [en, es, ed]
  rw [if_pos ⟨⟨rfl, rfl⟩, by rw [ar_len]; omega, by rw [ar_len]; omega⟩]
  rw [ar_cpl (by omega) (by omega), wd_set (P' := P) (Q' := Q) (N' := N) (T' := T) (c' := upc c a0 sp a dp n) ha ?_ (fun b hb => ce_ext (fun j _ => (upc_c hb).symm))]
  · rfl
  · rw [hc]
    show _ = AEi (upc c a0 sp a dp n) a n1
    unfold AEi upc
    rw [if_pos rfl, in_, is_, id_]
theorem sln_at {w : AW} {a i : Nat} (h6 : 6 ≤ d) (hs : a_cat r ≤ 8) (h1 : a_SB ≤ a) (h2 : a - a_SB = i) (hi : i < sN) : a_sln d pc ls (.ref a :: r) w = some (pc + 3, ls, .int (Int32.ofNat (sB i).length) :: r, w, 0, 0) := by
  unfold a_sln
  dsimp only
  rw [h2, if_pos ⟨⟨h6, hs⟩, h1, hi⟩]
  exact rfl
theorem sB_at {b i : Nat} {m z : Int32} (h2 : b = i) (hz : (sB i)[m.toNatClampNeg]? = some z) : (sB b)[m.toNatClampNeg]? = some z := by
  subst h2
  exact hz
theorem sch_at {w : AW} {a : Nat} {m z : Int32} (hc : (6 ≤ d ∧ a_cat r ≤ 8) ∧ ((a_SB ≤ a ∧ a - a_SB < sN) ∧ 0 ≤ m)) (hz : (sB (a - a_SB))[m.toNatClampNeg]? = some z) (hst : st = .int m :: .ref a :: r) : a_sch d pc ls st w = some (pc + 3, ls, .int z :: r, w, 0, 0) := by
  unfold a_sch
  split
  · rename_i i9 a9 r9
    cases hst
    rw [if_pos hc]
    split
    · rename_i x hx
      cases hx.symm.trans hz
      exact rfl
    · rename_i hx
      cases hx.symm.trans hz
  · rename_i hx
    exact (hx _ _ _ hst).elim
theorem v_sln {w : AW} {x j i : Nat} (n : Nat) (hd : mLk k pc = some (.invokevirtual x, len)) (hk : a_lk (kM (mK k)) x = some (7, j)) (h6 : 6 ≤ d) (hs : a_cat r ≤ 8) (hi : i < sN) (hn : (sB i).length = n) (K : Wp sc d k (pc + 3) ls (vi (n : Int) :: r) w nc ns Z) : Wp sc d k pc ls (.ref (a_SB + i) :: r) w nc ns Z := by
  subst hn
  rw [show vi ((sB i).length : Int) = .int (Int32.ofNat (sB i).length) from congrArg Value.int Int32.ofInt_eq_ofNat] at K
  refine q_ins hd (a := 0) (b := 0) ?_ K
  show a_inv d k x pc ls _ _ = _
  unfold a_inv
  rw [hk]
  exact sln_at h6 hs (Nat.le_add_right _ _) (Nat.add_sub_cancel_left _ _) hi
theorem v_sch {w : AW} {x j i : Nat} {m : Int} (z : Int) (hd : mLk k pc = some (.invokevirtual x, len)) (hk : a_lk (kM (mK k)) x = some (8, j)) (h6 : 6 ≤ d) (hs : a_cat r ≤ 8) (hi : i < sN) (hm : 0 ≤ m ∧ m ≤ 2147483647) (hz : (sB i)[m.toNat]? = some (Int32.ofInt z)) (K : Wp sc d k (pc + 3) ls (vi z :: r) w nc ns Z) : Wp sc d k pc ls (vi m :: .ref (a_SB + i) :: r) w nc ns Z := by
  refine q_ins hd (a := 0) (b := 0) ?_ K
  show a_inv d k x pc ls _ _ = _
  unfold a_inv
  rw [hk]
  have e := Nat.add_sub_cancel_left a_SB i
  exact sch_at ⟨⟨h6, hs⟩, ⟨Nat.le_add_right _ _, Nat.lt_of_le_of_lt (Nat.le_of_eq e) hi⟩, c_nn hm⟩ (sB_at e (by rw [c_nat hm]; exact hz)) rfl
theorem v_lsw_o {w : AW} {dflt : Int} {ps : Array (Int × Int)} {t : Nat} {a : Int} (hd : mLk k pc = some (.lookupswitch dflt ps, len)) (h : -2147483648 ≤ a ∧ a ≤ 2147483647) (hp : (ps.toList.zip (ps.toList.drop 1)).all (fun (a, next) => a.1 < next.1) = true) (ho : Op.lookupswitch.offset ps.toList dflt a = dflt) (ht : (pc : Int) + dflt = (t : Int)) (K : Wp sc d k t ls r w nc ns Z) : Wp sc d k pc ls (vi a :: r) w nc ns Z :=
  q_lsw hd hp (by rw [Int32.toInt_ofInt_of_le (by omega) (by omega)]; exact ho) ht K
end FL
section PL
variable {A P Q N T : Nat}
theorem ck_p0 (h : A = 13 ∨ A = 25) : ck P Q N T A = .inr (2, [none, none, none, none, none, none, some (A + 1), some (A + 2), some (A + 3), some (A + 4), some (A + 5), some (A + 6), some (A + 7)]) := by rcases h with rfl | rfl <;> rfl
theorem ck_p1 (h : A = 13 ∨ A = 25) : ck P Q N T (A + 1) = .inl (0, 24) := by rcases h with rfl | rfl <;> rfl
theorem ck_p2 (h : A = 13 ∨ A = 25) : ck P Q N T (A + 2) = .inl (0, 12) := by rcases h with rfl | rfl <;> rfl
theorem ck_p3 (h : A = 13 ∨ A = 25) : ck P Q N T (A + 3) = .inl (0, 4) := by rcases h with rfl | rfl <;> rfl
theorem ck_p4 (h : A = 13 ∨ A = 25) : ck P Q N T (A + 4) = .inl (0, 8) := by rcases h with rfl | rfl <;> rfl
theorem ck_p5 (h : A = 13 ∨ A = 25) : ck P Q N T (A + 5) = .inl (0, 8) := by rcases h with rfl | rfl <;> rfl
theorem ck_p6 (h : A = 13 ∨ A = 25) : ck P Q N T (A + 6) = .inl (0, 4) := by rcases h with rfl | rfl <;> rfl
theorem ck_p7 (h : A = 13 ∨ A = 25) : ck P Q N T (A + 7) = .inr (0, [some (A + 8), some (A + 9), some (A + 10), some (A + 11), none, none]) := by rcases h with rfl | rfl <;> rfl
theorem ck_p8 (h : A = 13 ∨ A = 25) : ck P Q N T (A + 8) = .inl (0, 150) := by rcases h with rfl | rfl <;> rfl
theorem ck_p9 (h : A = 13 ∨ A = 25) : ck P Q N T (A + 9) = .inl (0, 150) := by rcases h with rfl | rfl <;> rfl
theorem ck_p10 (h : A = 13 ∨ A = 25) : ck P Q N T (A + 10) = .inl (0, 150) := by rcases h with rfl | rfl <;> rfl
theorem ck_p11 (h : A = 13 ∨ A = 25) : ck P Q N T (A + 11) = .inl (0, 8) := by rcases h with rfl | rfl <;> rfl
end PL
theorem zv {Z : AR → Prop} {a b : Int} {w : AW} {n m : Nat} (h : a = b) (K : Z (.inl (some (vi b)), w, n, m)) : Z (.inl (some (vi a)), w, n, m) := h ▸ K
theorem zl {Z : AR → Prop} {a b : Int} {w : AW} {n m : Nat} (h : a = b) (K : Z (.inl (some (vl b)), w, n, m)) : Z (.inl (some (vl a)), w, n, m) := h ▸ K
theorem zw {Z : AR → Prop} {P Q N T : Nat} {c c2 : ME} {v : Option Value ⊕ Nat} {n m : Nat} (h : c = c2) (K : Z (v, Wd P Q N T c2, n, m)) : Z (v, Wd P Q N T c, n, m) := h ▸ K
end
section
/-! ===== fit, on both sides ===== -/
noncomputable def fw (n k : Nat) : Nat → Nat
  | 0 => 1
  | i + 1 => fw n k i * (n - k + (i + 1)) / (i + 1)
/-- so many terms from h on -/
noncomputable def fa (n q : Nat) : Nat → Nat → Int
  | 0, _ => 0
  | m + 1, h => (fw n h h : Int) * (q : Int) ^ h * (16 - (q : Int)) ^ (n - h) + fa n q m (h + 1)
noncomputable def fh : Nat → Int → Int → Int × Int
  | 0, a, b => (a, b)
  | f + 1, a, b => if a % 2 = 0 ∧ b % 2 = 0 then fh f (a / 2) (b / 2) else (a, b)
noncomputable def fcls (n k q half : Nat) : Int :=
  let a := fa n q (n + 1 - k) k
  let r := fh 48 a (if a = 0 then 1 else 16 ^ n)
  if half = 0 then r.1 else r.2
noncomputable def fst_ (q : Nat) (p : Nat) : List Nat → List Nat
  | [] => []
  | x :: r => (x * (16 - q) + p * q) :: fst_ q x r
noncomputable def frl (q : Nat) : Nat → List Nat
  | 0 => 1 :: List.replicate 13 0
  | i + 1 => fst_ q 0 (frl q i)
noncomputable def fsum : List Nat → Nat
  | [] => 0
  | x :: r => x + fsum r
noncomputable def fref (n k q half : Nat) : Int :=
  let u := fsum ((frl q n).drop k)
  let b := 16 ^ n
  (((if half = 0 then u else b) / Nat.gcd u b : Nat) : Int)
noncomputable def fchk : Bool := (List.range 13).all fun n => (List.range 17).all fun q =>
  let l := frl q n
  (List.range 14).all fun k =>
    let u := fsum (l.drop k)
    let b := 16 ^ n
    let g := Nat.gcd u b
    let r := fh 48 (u : Int) (if u = 0 then 1 else (b : Int))
    Nat.ble u 1125899906842624 && (decide (fa n q (n + 1 - k) k = (u : Int)) && (decide (r.1 = ((u / g : Nat) : Int)) && decide (r.2 = ((b / g : Nat) : Int))))
set_option maxRecDepth 100000 in
theorem fchk_ok : fchk = true := by decide +kernel
noncomputable def fwchk : Bool := (List.range 13).all fun n => (List.range (n + 1)).all fun h => (List.range (h + 1)).all fun i => Nat.ble (fw n h i) 100000
theorem fwchk_ok : fwchk = true := by decide +kernel
theorem fw_rng {n h i : Nat} (hn : n ≤ 12) (hh : h ≤ n) (hi : i ≤ h) : fw n h i ≤ 100000 := by
  have h1 := List.all_eq_true.mp fwchk_ok n (List.mem_range.mpr (by omega))
  have h2 := List.all_eq_true.mp h1 h (List.mem_range.mpr (by omega))
  exact Nat.le_of_ble_eq_true (List.all_eq_true.mp h2 i (List.mem_range.mpr (by omega)))
theorem f_all {n k q : Nat} (hn : n ≤ 12) (hk : k ≤ 13) (hq : q ≤ 16) : Nat.ble (fsum ((frl q n).drop k)) 1125899906842624 = true ∧ fa n q (n + 1 - k) k = (fsum ((frl q n).drop k) : Int) ∧ (fh 48 (fsum ((frl q n).drop k) : Int) (if fsum ((frl q n).drop k) = 0 then 1 else ((16 ^ n : Nat) : Int))).1 = ((fsum ((frl q n).drop k) / Nat.gcd (fsum ((frl q n).drop k)) (16 ^ n) : Nat) : Int) ∧ (fh 48 (fsum ((frl q n).drop k) : Int) (if fsum ((frl q n).drop k) = 0 then 1 else ((16 ^ n : Nat) : Int))).2 = ((16 ^ n / Nat.gcd (fsum ((frl q n).drop k)) (16 ^ n) : Nat) : Int) := by
  have h1 := List.all_eq_true.mp fchk_ok n (List.mem_range.mpr (by omega))
  have h2 := List.all_eq_true.mp h1 q (List.mem_range.mpr (by omega))
  have h3 := List.all_eq_true.mp h2 k (List.mem_range.mpr (by omega))
  simp only [Bool.and_eq_true, decide_eq_true_eq] at h3
  exact h3
theorem fa_rng {n k q : Nat} (hn : n ≤ 12) (hk : k ≤ 13) (hq : q ≤ 16) : 0 ≤ fa n q (n + 1 - k) k ∧ fa n q (n + 1 - k) k ≤ 1125899906842624 := by
  obtain ⟨h0, h1, -⟩ := f_all hn hk hq
  have := Nat.le_of_ble_eq_true h0
  rw [h1]
  omega
theorem fs_rng {n k q : Nat} (hn : n ≤ 12) (hk : k ≤ 13) (hq : q ≤ 16) : fsum ((frl q n).drop k) ≤ 1125899906842624 := Nat.le_of_ble_eq_true (f_all hn hk hq).1
theorem fp_rng {n : Nat} (hn : n ≤ 12) : (1 : Int) ≤ 16 ^ n ∧ (16 : Int) ^ n ≤ 281474976710656 := by
  match n, hn with
  | 0, _ => decide
  | 1, _ => decide
  | 2, _ => decide
  | 3, _ => decide
  | 4, _ => decide
  | 5, _ => decide
  | 6, _ => decide
  | 7, _ => decide
  | 8, _ => decide
  | 9, _ => decide
  | 10, _ => decide
  | 11, _ => decide
  | 12, _ => decide
  | n + 13, h => omega
theorem fh_out {f : Nat} {a b : Int} (h : f = 0 ∨ ¬ (a % 2 = 0 ∧ b % 2 = 0)) : fh f a b = (a, b) := by
  cases f with
  | zero => rfl
  | succ f => exact if_neg (h.resolve_left (by omega))
theorem fh_on {f g : Nat} {a b : Int} (hf : f = g + 1) (h : a % 2 = 0 ∧ b % 2 = 0) : fh f a b = fh g (a / 2) (b / 2) := by
  subst hf
  exact if_pos h
theorem fa_on {n q f g h : Nat} (hf : f = g + 1) : fa n q f h = (fw n h h : Int) * (q : Int) ^ h * (16 - (q : Int)) ^ (n - h) + fa n q g (h + 1) := by
  subst hf
  rfl
theorem f_eq {n k q half : Nat} (hn : n ≤ 12) (hk : k ≤ 13) (hq : q ≤ 16) : fcls n k q half = fref n k q half := by
  obtain ⟨-, h1, h2, h3⟩ := f_all hn hk hq
  unfold fcls fref
  rw [h1]
  have e : (if (fsum ((frl q n).drop k) : Int) = 0 then (1 : Int) else 16 ^ n) = (if fsum ((frl q n).drop k) = 0 then 1 else ((16 ^ n : Nat) : Int)) := by
    by_cases h : fsum ((frl q n).drop k) = 0
    · rw [if_pos h, if_pos (by omega)]
    · rw [if_neg h, if_neg (by omega), Int.natCast_pow]
      rfl
  dsimp only
  rw [e]
  by_cases hh : half = 0
  · rw [if_pos hh, if_pos hh, h2]
  · rw [if_neg hh, if_neg hh, h3]
end
section
/-! ===== shifts and masks over whole numbers ===== -/
theorem sh_n : ∀ n : Fin 32, ((Int32.ofInt (n.val : Int) &&& 31).toBitVec.smod 32).toNat = n.val := by decide +kernel
theorem c_shr {a b m : Int} (n : Nat) (h : -2147483648 ≤ a ∧ a ≤ 2147483647) (hb : b = (n : Int)) (hn : n < 32) (hm : ((2 ^ n : Nat) : Int) = m) : Int32.ofInt a >>> (Int32.ofInt b &&& 31) = Int32.ofInt (a / m) := by
  subst hb hm
  refine Int32.toInt_inj.mp ?_
  have e : -2147483648 ≤ a / ((2 ^ n : Nat) : Int) ∧ a / ((2 ^ n : Nat) : Int) ≤ 2147483647 := by
    have h1 : (1 : Int) ≤ ((2 ^ n : Nat) : Int) := Int.ofNat_le.mpr (Nat.one_le_pow _ _ (by decide))
    have h4 := Int.emod_nonneg a (show ((2 ^ n : Nat) : Int) ≠ 0 by omega)
    constructor
    · exact Int.le_trans (Int.le_ediv_of_mul_le (by omega) (by omega)) (Int.le_refl _)
    · by_cases hz : 0 ≤ a
      · exact Int.le_trans (Int.ediv_le_self _ hz) h.2
      · have := Int.ediv_neg_of_neg_of_pos (show a < 0 by omega) (show (0 : Int) < ((2 ^ n : Nat) : Int) by omega)
        omega
  rw [Int32.toInt_ofInt_of_le (by omega) (by omega), ← Int32.toInt_toBitVec, Int32.toBitVec_shiftRight, BitVec.toInt_sshiftRight', sh_n ⟨n, hn⟩, Int32.toInt_toBitVec, Int32.toInt_ofInt_of_le (by omega) (by omega), Int.shiftRight_eq_div_pow]
theorem c_and8 (a : Int) : Int32.ofInt a &&& Int32.ofInt 255 = Int32.ofInt (a % 256) := by
  refine Int32.toBitVec_inj.mp (BitVec.eq_of_toNat_eq ?_)
  rw [Int32.toBitVec_and, BitVec.toNat_and]
  show (BitVec.ofInt 32 a).toNat &&& (BitVec.ofInt 32 255).toNat = (BitVec.ofInt 32 (a % 256)).toNat
  rw [show (BitVec.ofInt 32 255).toNat = 2 ^ 8 - 1 from rfl, BitVec.toNat_ofInt, BitVec.toNat_ofInt, Nat.and_two_pow_sub_one_eq_mod]
  omega
theorem c_and15 (a : Int) : Int32.ofInt a &&& Int32.ofInt 32767 = Int32.ofInt (a % 32768) := by
  refine Int32.toBitVec_inj.mp (BitVec.eq_of_toNat_eq ?_)
  rw [Int32.toBitVec_and, BitVec.toNat_and]
  show (BitVec.ofInt 32 a).toNat &&& (BitVec.ofInt 32 32767).toNat = (BitVec.ofInt 32 (a % 32768)).toNat
  rw [show (BitVec.ofInt 32 32767).toNat = 2 ^ 15 - 1 from rfl, BitVec.toNat_ofInt, BitVec.toNat_ofInt, Nat.and_two_pow_sub_one_eq_mod]
  omega
theorem c_and6 (a : Int) : Int32.ofInt a &&& Int32.ofInt 63 = Int32.ofInt (a % 64) := by
  refine Int32.toBitVec_inj.mp (BitVec.eq_of_toNat_eq ?_)
  rw [Int32.toBitVec_and, BitVec.toNat_and]
  show (BitVec.ofInt 32 a).toNat &&& (BitVec.ofInt 32 63).toNat = (BitVec.ofInt 32 (a % 64)).toNat
  rw [show (BitVec.ofInt 32 63).toNat = 2 ^ 6 - 1 from rfl, BitVec.toNat_ofInt, BitVec.toNat_ofInt, Nat.and_two_pow_sub_one_eq_mod]
  omega
section BT
variable {sc : List Int32} {d k pc len nc ns : Nat} {ls : AL} {st r : List Value} {w : AW} {Z : AR → Prop}
theorem v_ishr {a b m v : Int} (n : Nat) (hd : mLk k pc = some (.ishr, len)) (h : -2147483648 ≤ a ∧ a ≤ 2147483647) (hb : b = (n : Int)) (hn : n < 32) (hm : ((2 ^ n : Nat) : Int) = m) (hv : a / m = v) (K : Wp sc d k (pc + 1) ls (vi v :: r) w nc ns Z) : Wp sc d k pc ls (vi b :: vi a :: r) w nc ns Z := q_ishr hd (by rw [c_shr n h hb hn hm, hv]; exact K)
theorem v_i2b {a : Int} (hd : mLk k pc = some (.i2b, len)) (K : Wp sc d k (pc + 1) ls (vi (sb a) :: r) w nc ns Z) : Wp sc d k pc ls (vi a :: r) w nc ns Z := q_i2b hd (by rw [sb_of]; exact K)
theorem sb_mod (a : Int) : sb a % 256 = a % 256 := by
  unfold sb
  rw [Int8.toInt_ofInt, Int.bmod_def]
  show (if a % 256 < (256 + 1) / 2 then a % 256 else a % 256 - 256) % 256 = a % 256
  split <;> omega
theorem v_and8 {a v : Int} (hd : mLk k pc = some (.iand, len)) (hv : a % 256 = v) (K : Wp sc d k (pc + 1) ls (vi v :: r) w nc ns Z) : Wp sc d k pc ls (vi 255 :: vi a :: r) w nc ns Z := q_iand hd (by rw [c_and8, hv]; exact K)
theorem v_and15 {a v : Int} (hd : mLk k pc = some (.iand, len)) (hv : a % 32768 = v) (K : Wp sc d k (pc + 1) ls (vi v :: r) w nc ns Z) : Wp sc d k pc ls (vi 32767 :: vi a :: r) w nc ns Z := q_iand hd (by rw [c_and15, hv]; exact K)
theorem v_and6 {a v : Int} (hd : mLk k pc = some (.iand, len)) (hv : a % 64 = v) (K : Wp sc d k (pc + 1) ls (vi v :: r) w nc ns Z) : Wp sc d k pc ls (vi 63 :: vi a :: r) w nc ns Z := q_iand hd (by rw [c_and6, hv]; exact K)
end BT
end
section
/-! ===== fit: the runs ===== -/
set_option maxRecDepth 100000 in
set_option maxHeartbeats 4000000 in
theorem m_133_l {sc : List Int32} {d : Nat} {w : AW} {Z : AR → Prop} {b : Int} {e : Nat} (hb : 0 ≤ b ∧ b ≤ 16) (he : e ≤ 13) (K : Z (.inl (some (vl (b ^ e))), w, 0, 0)) : ∀ (n9 : Nat) (i : Nat) (p : Int) (h1 : i ≤ e) (hp : p = b ^ i) (_ : (e : Int) - (i : Int) < (n9 : Int)), Wp sc (d + 0) 133 5 [(0, vi b), (1, vi (e : Int)), (2, vl p), (4, vi (i : Int))] [] w 0 0 Z
  | 0, i, p, h1, hp, hn9 => by exfalso; omega
  | n9 + 1, i, p, h1, hp, hn9 => by
    refine q_iload rfl rfl ?_
    refine q_iload_n rfl rfl ?_
    by_cases h_1 : (i : Int) ≥ (e : Int)
    · refine v_ic_ge_t (t := 22) rfl (by decide) (by omega) ?_
      refine q_lload_n rfl rfl ?_
      refine q_lret rfl rfl ?_
      obtain rfl : i = e := by omega
      exact zl hp K
    · refine v_ic_ge_f (t := 22) rfl (by decide) (by omega) ?_
      refine q_lload_n rfl rfl ?_
      refine q_iload_n rfl rfl ?_
      refine v_i2l rfl (by omega) ?_
      refine v_lmul (v := (p * b)) rfl rfl ?_
      refine q_lstore_n rfl (by decide) ?_
      refine v_iinc (v := (i : Int) + 1) rfl rfl (by decide) (by omega) ?_
      refine q_goto (t := 5) rfl (by decide) ?_
      refine Wp_ls [(0, vi b), (1, vi (e : Int)), (2, vl (p * b)), (4, vi ((i : Int) + 1))] (lsub_cons rfl (lsub_cons rfl (lsub_cons rfl (lsub_cons rfl lsub_nil)))) ?_
      exact m_133_l (b := b) (e := e) hb he K n9 (i + 1) (p * b) (by omega) (by rw [hp]; exact (Int.pow_succ b i).symm) (by omega)

set_option maxRecDepth 100000 in
set_option maxHeartbeats 4000000 in
theorem m_133 {sc : List Int32} {d : Nat} {w : AW} {Z : AR → Prop} {b : Int} {x : Int} (e : Nat) (hb : 0 ≤ b ∧ b ≤ 16) (hx : x = (e : Int)) (he : e ≤ 13) (K : Z (.inl (some (vl (b ^ e))), w, 0, 0)) : Wp sc (d + 0) 133 0 [(0, vi b), (1, vi x)] [] w 0 0 Z := by
  subst hx
  refine v_lconst (z := 1) rfl (by decide) ?_
  refine q_lstore_n rfl (by decide) ?_
  refine q_iconst rfl ?_
  refine q_istore rfl (by decide) ?_
  refine Wp_ls [(0, vi b), (1, vi (e : Int)), (2, vl 1), (4, vi 0)] (lsub_cons rfl (lsub_cons rfl (lsub_cons rfl (lsub_cons rfl lsub_nil)))) ?_
  exact m_133_l (b := b) (e := e) hb he K 14 0 1 (by omega) (Int.pow_zero b).symm (by omega)

theorem fw_s {n k i : Nat} (hk : k ≤ n) : (fw n k i : Int) * ((i : Int) + (n : Int) - (k : Int) + 1) / ((i : Int) + 1) = (fw n k (i + 1) : Int) := by
  show _ = ((fw n k i * (n - k + (i + 1)) / (i + 1) : Nat) : Int)
  rw [Int.natCast_ediv, Int.natCast_mul]
  have e : ((n - k + (i + 1) : Nat) : Int) = (i : Int) + (n : Int) - (k : Int) + 1 := by omega
  rw [e]
  rfl
set_option maxRecDepth 100000 in
set_option maxHeartbeats 4000000 in
theorem m_132_l {sc : List Int32} {d : Nat} {w : AW} {Z : AR → Prop} {n : Nat} {k : Nat} (hk : k ≤ n) (hn : n ≤ 12) (K : Z (.inl (some (vl (fw n k k : Int))), w, 0, 0)) : ∀ (n9 : Nat) (i : Nat) (p : Int) (h1 : i ≤ k) (hp : p = (fw n k i : Int)) (hr : 0 ≤ p ∧ p ≤ 100000) (_ : (k : Int) - (i : Int) < (n9 : Int)), Wp sc (d + 0) 132 5 [(0, vi (n : Int)), (1, vi (k : Int)), (2, vl p), (4, vi ((i : Int) + 1))] [] w 0 0 Z
  | 0, i, p, h1, hp, hr, hn9 => by exfalso; omega
  | n9 + 1, i, p, h1, hp, hr, hn9 => by
    refine q_iload rfl rfl ?_
    refine q_iload_n rfl rfl ?_
    by_cases h_2 : (i : Int) + 1 > (k : Int)
    · refine v_ic_gt_t (t := 31) rfl (by decide) (by omega) ?_
      refine q_lload_n rfl rfl ?_
      refine q_lret rfl rfl ?_
      obtain rfl : i = k := by omega
      exact zl hp K
    · refine v_ic_gt_f (t := 31) rfl (by decide) (by omega) ?_
      refine q_lload_n rfl rfl ?_
      refine q_iload_n rfl rfl ?_
      refine q_iload_n rfl rfl ?_
      refine v_isub (v := (n : Int) - (k : Int)) rfl (by omega) ?_
      refine q_iload rfl rfl ?_
      refine v_iadd (v := (i : Int) + (n : Int) - (k : Int) + 1) rfl (by omega) ?_
      refine v_i2l rfl (by omega) ?_
      have hm : 0 ≤ p * ((i : Int) + (n : Int) - (k : Int) + 1) ∧ p * ((i : Int) + (n : Int) - (k : Int) + 1) ≤ 10000000 := ⟨Int.mul_nonneg hr.1 (by omega), Int.le_trans (Int.mul_le_mul hr.2 (show _ ≤ (100 : Int) by omega) (by omega) (by omega)) (by decide)⟩
      refine v_lmul (v := (p * ((i : Int) + (n : Int) - (k : Int) + 1))) rfl rfl ?_
      refine q_iload rfl rfl ?_
      refine v_i2l rfl (by omega) ?_
      refine v_ldiv (v := ((p * ((i : Int) + (n : Int) - (k : Int) + 1)) / ((i : Int) + 1))) rfl (by omega) rfl ?_
      refine q_lstore_n rfl (by decide) ?_
      refine v_iinc (v := (i : Int) + 2) rfl rfl (by decide) (by omega) ?_
      refine q_goto (t := 5) rfl (by decide) ?_
      refine Wp_ls [(0, vi (n : Int)), (1, vi (k : Int)), (2, vl ((p * ((i : Int) + (n : Int) - (k : Int) + 1)) / ((i : Int) + 1))), (4, vi ((i : Int) + 2))] (lsub_cons rfl (lsub_cons rfl (lsub_cons rfl (lsub_cons rfl lsub_nil)))) ?_
      exact m_132_l (n := n) (k := k) hk hn K n9 (i + 1) ((p * ((i : Int) + (n : Int) - (k : Int) + 1)) / ((i : Int) + 1)) (by omega) (by rw [hp]; exact fw_s hk) (by rw [hp, fw_s hk]; have := fw_rng (i := i + 1) hn hk (by omega); omega) (by omega)

set_option maxRecDepth 100000 in
set_option maxHeartbeats 4000000 in
theorem m_132 {sc : List Int32} {d : Nat} {w : AW} {Z : AR → Prop} {x : Int} {y : Int} (n : Nat) (k : Nat) (hx : x = (n : Int)) (hy : y = (k : Int)) (hk : k ≤ n) (hn : n ≤ 12) (K : Z (.inl (some (vl (fw n k k : Int))), w, 0, 0)) : Wp sc (d + 0) 132 0 [(0, vi x), (1, vi y)] [] w 0 0 Z := by
  subst hx
  subst hy
  refine v_lconst (z := 1) rfl (by decide) ?_
  refine q_lstore_n rfl (by decide) ?_
  refine q_iconst rfl ?_
  refine q_istore rfl (by decide) ?_
  refine Wp_ls [(0, vi (n : Int)), (1, vi (k : Int)), (2, vl 1), (4, vi 1)] (lsub_cons rfl (lsub_cons rfl (lsub_cons rfl (lsub_cons rfl lsub_nil)))) ?_
  exact m_132_l (n := n) (k := k) hk hn K 14 0 1 (by omega) rfl (by omega) (by omega)

set_option maxRecDepth 100000 in
set_option maxHeartbeats 4000000 in
theorem m_134_h {sc : List Int32} {d : Nat} {w : AW} {Z : AR → Prop} {half : Nat} {R : Int × Int} (hh : half ≤ 1) (K : Z (.inl (some (vl (if half = 0 then R.1 else R.2))), w, 0, 0)) : ∀ (n9 : Nat) (i : Nat) (A : Int) (B : Int) (h1 : i ≤ 48) (hA : 0 ≤ A ∧ A ≤ 1125899906842624) (hB : 0 ≤ B ∧ B ≤ 1125899906842624) (hf : fh (48 - i) A B = R) (_ : (48 : Int) - (i : Int) < (n9 : Int)), Wp sc (d + 0) 134 118 [(4, vi (half : Int)), (5, vl A), (7, vl B), (9, vi (i : Int))] [] w 0 0 Z
  | 0, i, A, B, h1, hA, hB, hf, hn9 => by exfalso; omega
  | n9 + 1, i, A, B, h1, hA, hB, hf, hn9 => by
    refine q_iload rfl rfl ?_
    refine v_bip rfl (by decide) ?_
    by_cases h_3 : (i : Int) ≥ 48
    · refine v_ic_ge_t (t := 169) rfl (by decide) (by omega) ?_
      have hR : R = (A, B) := hf.symm.trans (fh_out (by omega))
      refine q_iload rfl rfl ?_
      by_cases h_4 : (half : Int) ≠ 0
      · refine v_if_ne_t (t := 179) rfl (by decide) (by omega) ?_
        refine q_lload rfl rfl ?_
        refine q_lret rfl rfl ?_
        exact zl (by rw [hR, if_neg (by omega)]) K
      · refine v_if_ne_f (t := 179) rfl (by decide) (by omega) ?_
        refine q_lload rfl rfl ?_
        refine q_goto (t := 181) rfl (by decide) ?_
        refine q_lret rfl rfl ?_
        exact zl (by rw [hR, if_pos (by omega)]) K
    · refine v_ic_ge_f (t := 169) rfl (by decide) (by omega) ?_
      refine q_lload rfl rfl ?_
      refine v_ldc2 (n := 2) rfl rfl (by decide +kernel) ?_
      refine v_lrem (v := (A % 2)) rfl (by omega) rfl ?_
      refine v_lconst (z := 0) rfl (by decide) ?_
      by_cases h_5 : (A % 2) = 0
      · refine v_lcmp0 rfl (by omega) ?_
        refine v_if_ne_f (t := 169) rfl (by decide) (by decide) ?_
        refine q_lload rfl rfl ?_
        refine v_ldc2 (n := 2) rfl rfl (by decide +kernel) ?_
        refine v_lrem (v := (B % 2)) rfl (by omega) rfl ?_
        refine v_lconst (z := 0) rfl (by decide) ?_
        by_cases h_6 : (B % 2) = 0
        · refine v_lcmp0 rfl (by omega) ?_
          refine v_if_ne_f (t := 169) rfl (by decide) (by decide) ?_
          refine q_lload rfl rfl ?_
          refine v_ldc2 (n := 2) rfl rfl (by decide +kernel) ?_
          refine v_ldiv (v := (A / 2)) rfl (by omega) rfl ?_
          refine q_lstore rfl (by decide) ?_
          refine q_lload rfl rfl ?_
          refine v_ldc2 (n := 2) rfl rfl (by decide +kernel) ?_
          refine v_ldiv (v := (B / 2)) rfl (by omega) rfl ?_
          refine q_lstore rfl (by decide) ?_
          refine v_iinc (v := (i : Int) + 1) rfl rfl (by decide) (by omega) ?_
          refine q_goto (t := 118) rfl (by decide) ?_
          refine Wp_ls [(4, vi (half : Int)), (5, vl (A / 2)), (7, vl (B / 2)), (9, vi ((i : Int) + 1))] (lsub_cons rfl (lsub_cons rfl (lsub_cons rfl (lsub_cons rfl lsub_nil)))) ?_
          exact m_134_h (half := half) (R := R) hh K n9 (i + 1) (A / 2) (B / 2) (by omega) (by omega) (by omega) ((fh_on (by omega) (by omega)).symm.trans hf) (by omega)
        · refine v_lcmp1 rfl (by omega) ?_
          refine v_if_ne_t (t := 169) rfl (by decide) (by decide) ?_
          have hR : R = (A, B) := hf.symm.trans (fh_out (by omega))
          refine q_iload rfl rfl ?_
          by_cases h_7 : (half : Int) ≠ 0
          · refine v_if_ne_t (t := 179) rfl (by decide) (by omega) ?_
            refine q_lload rfl rfl ?_
            refine q_lret rfl rfl ?_
            exact zl (by rw [hR, if_neg (by omega)]) K
          · refine v_if_ne_f (t := 179) rfl (by decide) (by omega) ?_
            refine q_lload rfl rfl ?_
            refine q_goto (t := 181) rfl (by decide) ?_
            refine q_lret rfl rfl ?_
            exact zl (by rw [hR, if_pos (by omega)]) K
      · refine v_lcmp1 rfl (by omega) ?_
        refine v_if_ne_t (t := 169) rfl (by decide) (by decide) ?_
        have hR : R = (A, B) := hf.symm.trans (fh_out (by omega))
        refine q_iload rfl rfl ?_
        by_cases h_8 : (half : Int) ≠ 0
        · refine v_if_ne_t (t := 179) rfl (by decide) (by omega) ?_
          refine q_lload rfl rfl ?_
          refine q_lret rfl rfl ?_
          exact zl (by rw [hR, if_neg (by omega)]) K
        · refine v_if_ne_f (t := 179) rfl (by decide) (by omega) ?_
          refine q_lload rfl rfl ?_
          refine q_goto (t := 181) rfl (by decide) ?_
          refine q_lret rfl rfl ?_
          exact zl (by rw [hR, if_pos (by omega)]) K

set_option maxRecDepth 100000 in
set_option maxHeartbeats 4000000 in
theorem m_134_s {sc : List Int32} {d : Nat} {w : AW} {Z : AR → Prop} {n : Nat} {k : Nat} {q : Nat} {half : Nat} (hn : n ≤ 12) (hk : k ≤ 13) (hq : q ≤ 16) (hh : half ≤ 1) (K : Z (.inl (some (vl (fcls n k q half))), w, 0, 0)) : ∀ (n9 : Nat) (h : Nat) (acc : Int) (h1 : h ≤ n + 1 ∨ h = k) (h2 : h ≤ 13) (hs : acc + fa n q (n + 1 - h) h = fa n q (n + 1 - k) k) (_ : (14 : Int) - (h : Int) < (n9 : Int)), Wp sc (d + 1) 134 55 [(0, .ref 0), (1, vi (n : Int)), (2, vi (k : Int)), (3, vi (q : Int)), (4, vi (half : Int)), (5, vl acc), (7, vi (h : Int))] [] w 0 0 Z
  | 0, h, acc, h1, h2, hs, hn9 => by exfalso; omega
  | n9 + 1, h, acc, h1, h2, hs, hn9 => by
    refine q_iload rfl rfl ?_
    refine q_iload_n rfl rfl ?_
    by_cases h_9 : (h : Int) > (n : Int)
    · refine v_ic_gt_t (t := 97) rfl (by decide) (by omega) ?_
      have ha : acc = fa n q (n + 1 - k) k := by rw [show n + 1 - h = 0 by omega] at hs; rw [← hs]; exact (Int.add_zero acc).symm
      have hr := fa_rng hn hk hq
      rw [← ha] at hr
      have hp := fp_rng hn
      refine v_bip rfl (by decide) ?_
      refine q_iload_n rfl rfl ?_
      refine q_call rfl rfl rfl rfl (m_133 (b := 16) n (by omega) (by omega) (by omega) ?_)
      refine bk_inl ?_
      refine q_lstore rfl (by decide) ?_
      refine q_lload rfl rfl ?_
      refine v_lconst (z := 0) rfl (by decide) ?_
      by_cases h_10 : acc = 0
      · refine v_lcmp0 rfl (by omega) ?_
        refine v_if_ne_f (t := 115) rfl (by decide) (by decide) ?_
        refine v_lconst (z := 1) rfl (by decide) ?_
        refine q_lstore rfl (by decide) ?_
        refine q_iconst rfl ?_
        refine q_istore rfl (by decide) ?_
        refine Wp_ls [(4, vi (half : Int)), (5, vl acc), (7, vl 1), (9, vi 0)] (lsub_cons rfl (lsub_cons rfl (lsub_cons rfl (lsub_cons rfl lsub_nil)))) ?_
        exact m_134_h (half := half) (R := fh 48 acc 1) hh (show Z (.inl (some (vl (if half = 0 then (fh 48 acc 1).1 else (fh 48 acc 1).2))), w, 0, 0) from (by have K2 := K; unfold fcls at K2; rw [← ha] at K2; dsimp only at K2; rw [if_pos (show acc = 0 by omega)] at K2; exact K2)) 49 0 acc 1 (by omega) (by omega) (by omega) rfl (by omega)
      · refine v_lcmp1 rfl (by omega) ?_
        refine v_if_ne_t (t := 115) rfl (by decide) (by decide) ?_
        refine q_iconst rfl ?_
        refine q_istore rfl (by decide) ?_
        refine Wp_ls [(4, vi (half : Int)), (5, vl acc), (7, vl ((16 : Int) ^ n)), (9, vi 0)] (lsub_cons rfl (lsub_cons rfl (lsub_cons rfl (lsub_cons rfl lsub_nil)))) ?_
        exact m_134_h (half := half) (R := fh 48 acc ((16 : Int) ^ n)) hh (show Z (.inl (some (vl (if half = 0 then (fh 48 acc ((16 : Int) ^ n)).1 else (fh 48 acc ((16 : Int) ^ n)).2))), w, 0, 0) from (by have K2 := K; unfold fcls at K2; rw [← ha] at K2; dsimp only at K2; rw [if_neg (show ¬ acc = 0 by omega)] at K2; exact K2)) 49 0 acc ((16 : Int) ^ n) (by omega) (by omega) (by omega) rfl (by omega)
    · refine v_ic_gt_f (t := 97) rfl (by decide) (by omega) ?_
      refine q_lload rfl rfl ?_
      refine q_iload_n rfl rfl ?_
      refine q_iload rfl rfl ?_
      refine q_call rfl rfl rfl rfl (m_132 n h (by omega) (by omega) (by omega) (by omega) ?_)
      refine bk_inl ?_
      refine q_iload_n rfl rfl ?_
      refine q_iload rfl rfl ?_
      refine q_call rfl rfl rfl rfl (m_133 (b := (q : Int)) h (by omega) (by omega) (by omega) ?_)
      refine bk_inl ?_
      refine v_lmul (v := ((fw n h h : Int) * (((q : Int)) ^ h))) rfl rfl ?_
      refine v_bip rfl (by decide) ?_
      refine q_iload_n rfl rfl ?_
      refine v_isub (v := 16 - (q : Int)) rfl (by omega) ?_
      refine q_iload_n rfl rfl ?_
      refine q_iload rfl rfl ?_
      refine v_isub (v := (n : Int) - (h : Int)) rfl (by omega) ?_
      refine q_call rfl rfl rfl rfl (m_133 (b := (16 - (q : Int))) (n - h) (by omega) (by omega) (by omega) ?_)
      refine bk_inl ?_
      refine v_lmul (v := (((fw n h h : Int) * (((q : Int)) ^ h)) * ((16 - (q : Int)) ^ (n - h)))) rfl rfl ?_
      refine v_ladd (v := (((fw n h h : Int) * (((q : Int)) ^ h)) * ((16 - (q : Int)) ^ (n - h))) + acc) rfl (by omega) ?_
      refine q_lstore rfl (by decide) ?_
      refine v_iinc (v := (h : Int) + 1) rfl rfl (by decide) (by omega) ?_
      refine q_goto (t := 55) rfl (by decide) ?_
      refine Wp_ls [(0, .ref 0), (1, vi (n : Int)), (2, vi (k : Int)), (3, vi (q : Int)), (4, vi (half : Int)), (5, vl ((((fw n h h : Int) * (((q : Int)) ^ h)) * ((16 - (q : Int)) ^ (n - h))) + acc)), (7, vi ((h : Int) + 1))] (lsub_cons rfl (lsub_cons rfl (lsub_cons rfl (lsub_cons rfl (lsub_cons rfl (lsub_cons rfl (lsub_cons rfl lsub_nil))))))) ?_
      exact m_134_s (n := n) (k := k) (q := q) (half := half) hn hk hq hh K n9 (h + 1) ((((fw n h h : Int) * (((q : Int)) ^ h)) * ((16 - (q : Int)) ^ (n - h))) + acc) (by omega) (by omega) (by rw [← hs, fa_on (show n + 1 - h = (n + 1 - (h + 1)) + 1 by omega), Int.add_comm _ acc]; exact Int.add_assoc _ _ _) (by omega)

set_option maxRecDepth 100000 in
set_option maxHeartbeats 4000000 in
theorem m_134 {sc : List Int32} {d : Nat} {P Q N T : Nat} {c : ME} {Z : AR → Prop} {x1 : Int} {x2 : Int} {x3 : Int} {x4 : Int} (n : Nat) (k : Nat) (q : Nat) (half : Nat) (hx1 : x1 = (n : Int)) (hx2 : x2 = (k : Int)) (hx3 : x3 = (q : Int)) (hx4 : x4 = (half : Int)) (hn : n ≤ 12) (hk : k ≤ 13) (hq : q ≤ 16) (hh : half ≤ 1) (K : Z (.inl (some (vl (fcls n k q half))), Wd P Q N T c, 0, 0)) : Wp sc (d + 2) 134 0 [(0, .ref 0), (1, vi x1), (2, vi x2), (3, vi x3), (4, vi x4)] [] (Wd P Q N T c) 0 0 Z := by
  subst hx1 hx2 hx3 hx4
  refine q_aload_n rfl rfl ?_
  refine q_iload_n rfl rfl ?_
  refine q_iconst rfl ?_
  refine v_bip rfl (by decide) ?_
  refine q_call rfl rfl rfl rfl ?_
  refine q_iload_n rfl rfl ?_
  refine q_iload_n rfl rfl ?_
  refine v_ic_lt_f (t := 14) rfl (by decide) (by omega) ?_
  refine q_iload_n rfl rfl ?_
  refine q_iload_n rfl rfl ?_
  refine v_ic_gt_f (t := 14) rfl (by decide) (by omega) ?_
  refine q_iconst rfl ?_
  refine q_goto (t := 15) rfl (by decide) ?_
  refine v_zret rfl rfl (by omega) ?_
  refine bk_inl ?_
  refine v_if_eq_f (t := 45) rfl (by decide) (by decide) ?_
  refine q_iload_n rfl rfl ?_
  refine q_iconst rfl ?_
  refine v_bip rfl (by decide) ?_
  refine q_call rfl rfl rfl rfl ?_
  refine q_iload_n rfl rfl ?_
  refine q_iload_n rfl rfl ?_
  refine v_ic_lt_f (t := 14) rfl (by decide) (by omega) ?_
  refine q_iload_n rfl rfl ?_
  refine q_iload_n rfl rfl ?_
  refine v_ic_gt_f (t := 14) rfl (by decide) (by omega) ?_
  refine q_iconst rfl ?_
  refine q_goto (t := 15) rfl (by decide) ?_
  refine v_zret rfl rfl (by omega) ?_
  refine bk_inl ?_
  refine v_if_eq_f (t := 45) rfl (by decide) (by decide) ?_
  refine q_iload_n rfl rfl ?_
  refine q_iconst rfl ?_
  refine v_bip rfl (by decide) ?_
  refine q_call rfl rfl rfl rfl ?_
  refine q_iload_n rfl rfl ?_
  refine q_iload_n rfl rfl ?_
  refine v_ic_lt_f (t := 14) rfl (by decide) (by omega) ?_
  refine q_iload_n rfl rfl ?_
  refine q_iload_n rfl rfl ?_
  refine v_ic_gt_f (t := 14) rfl (by decide) (by omega) ?_
  refine q_iconst rfl ?_
  refine q_goto (t := 15) rfl (by decide) ?_
  refine v_zret rfl rfl (by omega) ?_
  refine bk_inl ?_
  refine v_if_eq_f (t := 45) rfl (by decide) (by decide) ?_
  refine q_iload rfl rfl ?_
  refine q_iconst rfl ?_
  refine q_iconst rfl ?_
  refine q_call rfl rfl rfl rfl ?_
  refine q_iload_n rfl rfl ?_
  refine q_iload_n rfl rfl ?_
  refine v_ic_lt_f (t := 14) rfl (by decide) (by omega) ?_
  refine q_iload_n rfl rfl ?_
  refine q_iload_n rfl rfl ?_
  refine v_ic_gt_f (t := 14) rfl (by decide) (by omega) ?_
  refine q_iconst rfl ?_
  refine q_goto (t := 15) rfl (by decide) ?_
  refine v_zret rfl rfl (by omega) ?_
  refine bk_inl ?_
  refine v_if_eq_f (t := 45) rfl (by decide) (by decide) ?_
  refine q_iconst rfl ?_
  refine q_goto (t := 46) rfl (by decide) ?_
  refine v_cv rfl rfl rfl rfl (by decide) ⟨⟨rfl, rfl⟩, by decide, rfl⟩ (Nat.le_of_ble_eq_true rfl) (Nat.le_of_ble_eq_true rfl) ?_
  refine q_iload_n rfl rfl ?_
  refine v_if_ne_t (t := 25) rfl (by decide) (by decide) ?_
  refine q_vret rfl rfl ?_
  refine bk_inl ?_
  refine v_lconst (z := 0) rfl (by decide) ?_
  refine q_lstore rfl (by decide) ?_
  refine q_iload_n rfl rfl ?_
  refine q_istore rfl (by decide) ?_
  refine Wp_ls [(0, .ref 0), (1, vi (n : Int)), (2, vi (k : Int)), (3, vi (q : Int)), (4, vi (half : Int)), (5, vl 0), (7, vi (k : Int))] (lsub_cons rfl (lsub_cons rfl (lsub_cons rfl (lsub_cons rfl (lsub_cons rfl (lsub_cons rfl (lsub_cons rfl lsub_nil))))))) ?_
  exact m_134_s (n := n) (k := k) (q := q) (half := half) hn hk hq hh K 15 k 0 (by omega) (by omega) (Int.zero_add _) (by omega)

set_option maxRecDepth 100000 in
set_option maxHeartbeats 4000000 in
theorem m_134_t {sc : List Int32} {d : Nat} {P Q N T : Nat} {c : ME} {Z : AR → Prop} {x1 : Int} {x2 : Int} {x3 : Int} {x4 : Int} (x1r : -2147483648 ≤ x1 ∧ x1 ≤ 2147483647) (x2r : -2147483648 ≤ x2 ∧ x2 ≤ 2147483647) (x3r : -2147483648 ≤ x3 ∧ x3 ≤ 2147483647) (x4r : -2147483648 ≤ x4 ∧ x4 ≤ 2147483647) (hb : x1 < 0 ∨ 12 < x1 ∨ x2 < 0 ∨ 13 < x2 ∨ x3 < 0 ∨ 16 < x3 ∨ x4 < 0 ∨ 1 < x4) (K : Z (.inr 101, Wd P Q N T (up c 0 13 (c 0 13 + 1)), 1, 6)) : Wp sc (d + 8) 134 0 [(0, .ref 0), (1, vi x1), (2, vi x2), (3, vi x3), (4, vi x4)] [] (Wd P Q N T c) 0 0 Z := by
  refine q_aload_n rfl rfl ?_
  refine q_iload_n rfl rfl ?_
  refine q_iconst rfl ?_
  refine v_bip rfl (by decide) ?_
  refine q_call rfl rfl rfl rfl ?_
  refine q_iload_n rfl rfl ?_
  refine q_iload_n rfl rfl ?_
  by_cases h_11 : x1 < 0
  · refine v_ic_lt_t (t := 14) rfl (by decide) (by omega) ?_
    refine q_iconst rfl ?_
    refine v_zret rfl rfl (by omega) ?_
    refine bk_inl ?_
    refine v_if_eq_t (t := 45) rfl (by decide) (by decide) ?_
    refine q_iconst rfl ?_
    refine v_cv rfl rfl rfl rfl (by decide) ⟨⟨rfl, rfl⟩, by decide, rfl⟩ (Nat.le_of_ble_eq_true rfl) (Nat.le_of_ble_eq_true rfl) ?_
    refine q_iload_n rfl rfl ?_
    refine v_if_ne_f (t := 25) rfl (by decide) (by decide) ?_
    refine q_aload_n rfl rfl ?_
    refine q_dup rfl rfl ?_
    refine v_gi (z := 13) (v := c 0 13) rfl rfl rfl (by decide) rfl rfl rfl ?_
    refine q_iconst rfl ?_
    refine v_iadd (v := c 0 13 + 1) rfl (by omega) ?_
    refine v_pi (z := 13) rfl rfl rfl (by decide) rfl rfl rfl (by decide) ?_
    refine v_new rfl rfl (by decide) (by omega) (Nat.le_of_ble_eq_true rfl) (by decide) rfl ?_
    refine bk_out rfl rfl ?_
    exact K
  · refine v_ic_lt_f (t := 14) rfl (by decide) (by omega) ?_
    refine q_iload_n rfl rfl ?_
    refine q_iload_n rfl rfl ?_
    by_cases h_12 : x1 > 12
    · refine v_ic_gt_t (t := 14) rfl (by decide) (by omega) ?_
      refine q_iconst rfl ?_
      refine v_zret rfl rfl (by omega) ?_
      refine bk_inl ?_
      refine v_if_eq_t (t := 45) rfl (by decide) (by decide) ?_
      refine q_iconst rfl ?_
      refine v_cv rfl rfl rfl rfl (by decide) ⟨⟨rfl, rfl⟩, by decide, rfl⟩ (Nat.le_of_ble_eq_true rfl) (Nat.le_of_ble_eq_true rfl) ?_
      refine q_iload_n rfl rfl ?_
      refine v_if_ne_f (t := 25) rfl (by decide) (by decide) ?_
      refine q_aload_n rfl rfl ?_
      refine q_dup rfl rfl ?_
      refine v_gi (z := 13) (v := c 0 13) rfl rfl rfl (by decide) rfl rfl rfl ?_
      refine q_iconst rfl ?_
      refine v_iadd (v := c 0 13 + 1) rfl (by omega) ?_
      refine v_pi (z := 13) rfl rfl rfl (by decide) rfl rfl rfl (by decide) ?_
      refine v_new rfl rfl (by decide) (by omega) (Nat.le_of_ble_eq_true rfl) (by decide) rfl ?_
      refine bk_out rfl rfl ?_
      exact K
    · refine v_ic_gt_f (t := 14) rfl (by decide) (by omega) ?_
      refine q_iconst rfl ?_
      refine q_goto (t := 15) rfl (by decide) ?_
      refine v_zret rfl rfl (by omega) ?_
      refine bk_inl ?_
      refine v_if_eq_f (t := 45) rfl (by decide) (by decide) ?_
      refine q_iload_n rfl rfl ?_
      refine q_iconst rfl ?_
      refine v_bip rfl (by decide) ?_
      refine q_call rfl rfl rfl rfl ?_
      refine q_iload_n rfl rfl ?_
      refine q_iload_n rfl rfl ?_
      by_cases h_13 : x2 < 0
      · refine v_ic_lt_t (t := 14) rfl (by decide) (by omega) ?_
        refine q_iconst rfl ?_
        refine v_zret rfl rfl (by omega) ?_
        refine bk_inl ?_
        refine v_if_eq_t (t := 45) rfl (by decide) (by decide) ?_
        refine q_iconst rfl ?_
        refine v_cv rfl rfl rfl rfl (by decide) ⟨⟨rfl, rfl⟩, by decide, rfl⟩ (Nat.le_of_ble_eq_true rfl) (Nat.le_of_ble_eq_true rfl) ?_
        refine q_iload_n rfl rfl ?_
        refine v_if_ne_f (t := 25) rfl (by decide) (by decide) ?_
        refine q_aload_n rfl rfl ?_
        refine q_dup rfl rfl ?_
        refine v_gi (z := 13) (v := c 0 13) rfl rfl rfl (by decide) rfl rfl rfl ?_
        refine q_iconst rfl ?_
        refine v_iadd (v := c 0 13 + 1) rfl (by omega) ?_
        refine v_pi (z := 13) rfl rfl rfl (by decide) rfl rfl rfl (by decide) ?_
        refine v_new rfl rfl (by decide) (by omega) (Nat.le_of_ble_eq_true rfl) (by decide) rfl ?_
        refine bk_out rfl rfl ?_
        exact K
      · refine v_ic_lt_f (t := 14) rfl (by decide) (by omega) ?_
        refine q_iload_n rfl rfl ?_
        refine q_iload_n rfl rfl ?_
        by_cases h_14 : x2 > 13
        · refine v_ic_gt_t (t := 14) rfl (by decide) (by omega) ?_
          refine q_iconst rfl ?_
          refine v_zret rfl rfl (by omega) ?_
          refine bk_inl ?_
          refine v_if_eq_t (t := 45) rfl (by decide) (by decide) ?_
          refine q_iconst rfl ?_
          refine v_cv rfl rfl rfl rfl (by decide) ⟨⟨rfl, rfl⟩, by decide, rfl⟩ (Nat.le_of_ble_eq_true rfl) (Nat.le_of_ble_eq_true rfl) ?_
          refine q_iload_n rfl rfl ?_
          refine v_if_ne_f (t := 25) rfl (by decide) (by decide) ?_
          refine q_aload_n rfl rfl ?_
          refine q_dup rfl rfl ?_
          refine v_gi (z := 13) (v := c 0 13) rfl rfl rfl (by decide) rfl rfl rfl ?_
          refine q_iconst rfl ?_
          refine v_iadd (v := c 0 13 + 1) rfl (by omega) ?_
          refine v_pi (z := 13) rfl rfl rfl (by decide) rfl rfl rfl (by decide) ?_
          refine v_new rfl rfl (by decide) (by omega) (Nat.le_of_ble_eq_true rfl) (by decide) rfl ?_
          refine bk_out rfl rfl ?_
          exact K
        · refine v_ic_gt_f (t := 14) rfl (by decide) (by omega) ?_
          refine q_iconst rfl ?_
          refine q_goto (t := 15) rfl (by decide) ?_
          refine v_zret rfl rfl (by omega) ?_
          refine bk_inl ?_
          refine v_if_eq_f (t := 45) rfl (by decide) (by decide) ?_
          refine q_iload_n rfl rfl ?_
          refine q_iconst rfl ?_
          refine v_bip rfl (by decide) ?_
          refine q_call rfl rfl rfl rfl ?_
          refine q_iload_n rfl rfl ?_
          refine q_iload_n rfl rfl ?_
          by_cases h_15 : x3 < 0
          · refine v_ic_lt_t (t := 14) rfl (by decide) (by omega) ?_
            refine q_iconst rfl ?_
            refine v_zret rfl rfl (by omega) ?_
            refine bk_inl ?_
            refine v_if_eq_t (t := 45) rfl (by decide) (by decide) ?_
            refine q_iconst rfl ?_
            refine v_cv rfl rfl rfl rfl (by decide) ⟨⟨rfl, rfl⟩, by decide, rfl⟩ (Nat.le_of_ble_eq_true rfl) (Nat.le_of_ble_eq_true rfl) ?_
            refine q_iload_n rfl rfl ?_
            refine v_if_ne_f (t := 25) rfl (by decide) (by decide) ?_
            refine q_aload_n rfl rfl ?_
            refine q_dup rfl rfl ?_
            refine v_gi (z := 13) (v := c 0 13) rfl rfl rfl (by decide) rfl rfl rfl ?_
            refine q_iconst rfl ?_
            refine v_iadd (v := c 0 13 + 1) rfl (by omega) ?_
            refine v_pi (z := 13) rfl rfl rfl (by decide) rfl rfl rfl (by decide) ?_
            refine v_new rfl rfl (by decide) (by omega) (Nat.le_of_ble_eq_true rfl) (by decide) rfl ?_
            refine bk_out rfl rfl ?_
            exact K
          · refine v_ic_lt_f (t := 14) rfl (by decide) (by omega) ?_
            refine q_iload_n rfl rfl ?_
            refine q_iload_n rfl rfl ?_
            by_cases h_16 : x3 > 16
            · refine v_ic_gt_t (t := 14) rfl (by decide) (by omega) ?_
              refine q_iconst rfl ?_
              refine v_zret rfl rfl (by omega) ?_
              refine bk_inl ?_
              refine v_if_eq_t (t := 45) rfl (by decide) (by decide) ?_
              refine q_iconst rfl ?_
              refine v_cv rfl rfl rfl rfl (by decide) ⟨⟨rfl, rfl⟩, by decide, rfl⟩ (Nat.le_of_ble_eq_true rfl) (Nat.le_of_ble_eq_true rfl) ?_
              refine q_iload_n rfl rfl ?_
              refine v_if_ne_f (t := 25) rfl (by decide) (by decide) ?_
              refine q_aload_n rfl rfl ?_
              refine q_dup rfl rfl ?_
              refine v_gi (z := 13) (v := c 0 13) rfl rfl rfl (by decide) rfl rfl rfl ?_
              refine q_iconst rfl ?_
              refine v_iadd (v := c 0 13 + 1) rfl (by omega) ?_
              refine v_pi (z := 13) rfl rfl rfl (by decide) rfl rfl rfl (by decide) ?_
              refine v_new rfl rfl (by decide) (by omega) (Nat.le_of_ble_eq_true rfl) (by decide) rfl ?_
              refine bk_out rfl rfl ?_
              exact K
            · refine v_ic_gt_f (t := 14) rfl (by decide) (by omega) ?_
              refine q_iconst rfl ?_
              refine q_goto (t := 15) rfl (by decide) ?_
              refine v_zret rfl rfl (by omega) ?_
              refine bk_inl ?_
              refine v_if_eq_f (t := 45) rfl (by decide) (by decide) ?_
              refine q_iload rfl rfl ?_
              refine q_iconst rfl ?_
              refine q_iconst rfl ?_
              refine q_call rfl rfl rfl rfl ?_
              refine q_iload_n rfl rfl ?_
              refine q_iload_n rfl rfl ?_
              by_cases h_17 : x4 < 0
              · refine v_ic_lt_t (t := 14) rfl (by decide) (by omega) ?_
                refine q_iconst rfl ?_
                refine v_zret rfl rfl (by omega) ?_
                refine bk_inl ?_
                refine v_if_eq_t (t := 45) rfl (by decide) (by decide) ?_
                refine q_iconst rfl ?_
                refine v_cv rfl rfl rfl rfl (by decide) ⟨⟨rfl, rfl⟩, by decide, rfl⟩ (Nat.le_of_ble_eq_true rfl) (Nat.le_of_ble_eq_true rfl) ?_
                refine q_iload_n rfl rfl ?_
                refine v_if_ne_f (t := 25) rfl (by decide) (by decide) ?_
                refine q_aload_n rfl rfl ?_
                refine q_dup rfl rfl ?_
                refine v_gi (z := 13) (v := c 0 13) rfl rfl rfl (by decide) rfl rfl rfl ?_
                refine q_iconst rfl ?_
                refine v_iadd (v := c 0 13 + 1) rfl (by omega) ?_
                refine v_pi (z := 13) rfl rfl rfl (by decide) rfl rfl rfl (by decide) ?_
                refine v_new rfl rfl (by decide) (by omega) (Nat.le_of_ble_eq_true rfl) (by decide) rfl ?_
                refine bk_out rfl rfl ?_
                exact K
              · refine v_ic_lt_f (t := 14) rfl (by decide) (by omega) ?_
                refine q_iload_n rfl rfl ?_
                refine q_iload_n rfl rfl ?_
                refine v_ic_gt_t (t := 14) rfl (by decide) (by omega) ?_
                refine q_iconst rfl ?_
                refine v_zret rfl rfl (by omega) ?_
                refine bk_inl ?_
                refine v_if_eq_t (t := 45) rfl (by decide) (by decide) ?_
                refine q_iconst rfl ?_
                refine v_cv rfl rfl rfl rfl (by decide) ⟨⟨rfl, rfl⟩, by decide, rfl⟩ (Nat.le_of_ble_eq_true rfl) (Nat.le_of_ble_eq_true rfl) ?_
                refine q_iload_n rfl rfl ?_
                refine v_if_ne_f (t := 25) rfl (by decide) (by decide) ?_
                refine q_aload_n rfl rfl ?_
                refine q_dup rfl rfl ?_
                refine v_gi (z := 13) (v := c 0 13) rfl rfl rfl (by decide) rfl rfl rfl ?_
                refine q_iconst rfl ?_
                refine v_iadd (v := c 0 13 + 1) rfl (by omega) ?_
                refine v_pi (z := 13) rfl rfl rfl (by decide) rfl rfl rfl (by decide) ?_
                refine v_new rfl rfl (by decide) (by omega) (Nat.le_of_ble_eq_true rfl) (by decide) rfl ?_
                refine bk_out rfl rfl ?_
                exact K

set_option maxRecDepth 100000 in
set_option maxHeartbeats 4000000 in
theorem m_234_t {sc : List Int32} {d : Nat} {P Q N T : Nat} {c : ME} {Z : AR → Prop} {x1 : Int} {x2 : Int} {x3 : Int} {x4 : Int} (x1r : -2147483648 ≤ x1 ∧ x1 ≤ 2147483647) (x2r : -2147483648 ≤ x2 ∧ x2 ≤ 2147483647) (x3r : -2147483648 ≤ x3 ∧ x3 ≤ 2147483647) (x4r : -2147483648 ≤ x4 ∧ x4 ≤ 2147483647) (hb : x1 < 0 ∨ 12 < x1 ∨ x2 < 0 ∨ 13 < x2 ∨ x3 < 0 ∨ 16 < x3 ∨ x4 < 0 ∨ 1 < x4) (K : Z (.inl (some (vl 0)), Wd P Q N T (up (up (up c 41 0 0) 41 0 1) 42 1 (c 42 1 + 1)), 0, 0)) : Wp sc (d + 2) 234 0 [(0, .ref 41), (1, vi x1), (2, vi x2), (3, vi x3), (4, vi x4)] [] (Wd P Q N T c) 0 0 Z := by
  refine q_aload_n rfl rfl ?_
  refine q_iconst rfl ?_
  refine v_pi (z := 0) rfl rfl rfl (by decide) rfl rfl rfl (by decide) ?_
  refine q_aload_n rfl rfl ?_
  refine q_iload_n rfl rfl ?_
  refine q_iconst rfl ?_
  refine v_bip rfl (by decide) ?_
  refine q_call rfl rfl rfl rfl ?_
  refine q_iload_n rfl rfl ?_
  refine q_iload_n rfl rfl ?_
  by_cases h_18 : x1 < 0
  · refine v_ic_lt_t (t := 14) rfl (by decide) (by omega) ?_
    refine q_iconst rfl ?_
    refine v_zret rfl rfl (by omega) ?_
    refine bk_inl ?_
    refine v_if_eq_t (t := 50) rfl (by decide) (by decide) ?_
    refine q_iconst rfl ?_
    refine q_iconst rfl ?_
    refine q_iconst rfl ?_
    refine v_cv rfl rfl rfl rfl (by decide) ⟨⟨rfl, rfl⟩, by decide, rfl⟩ (Nat.le_of_ble_eq_true rfl) (Nat.le_of_ble_eq_true rfl) ?_
    refine q_iload_n rfl rfl ?_
    refine v_if_ne_f (t := 26) rfl (by decide) (by decide) ?_
    refine q_aload_n rfl rfl ?_
    refine v_gi (z := 0) (v := 0) rfl rfl rfl (by decide) rfl rfl (up_e rfl) ?_
    refine v_if_ne_f (t := 26) rfl (by decide) (by decide) ?_
    refine q_aload_n rfl rfl ?_
    refine q_iload_n rfl rfl ?_
    refine v_pi (z := 0) rfl rfl rfl (by decide) rfl rfl rfl (by decide) ?_
    refine q_aload_n rfl rfl ?_
    refine v_gr (t := 42) rfl rfl rfl (by decide) rfl ?_
    refine q_iload_n rfl rfl ?_
    refine q_dup2 rfl ⟨rfl, rfl⟩ ?_
    refine v_ia (v := c 42 1) rfl rfl (by decide) (by decide) (by decide) ((up_c (by decide)).trans (up_c (by decide))) ?_
    refine q_iconst rfl ?_
    refine v_iadd (v := c 42 1 + 1) rfl (by omega) ?_
    refine v_is rfl rfl (by decide) (by decide) (by decide) ?_
    refine q_aload_n rfl rfl ?_
    refine v_gi (z := 0) (v := 1) rfl rfl rfl (by decide) rfl rfl ((up_c (by decide)).trans (up_e rfl)) ?_
    refine v_if_ne_t (t := 37) rfl (by decide) (by decide) ?_
    refine q_iconst rfl ?_
    refine v_zret rfl rfl (by omega) ?_
    refine bk_inl ?_
    refine v_if_ne_f (t := 61) rfl (by decide) (by decide) ?_
    refine v_lconst (z := 0) rfl (by decide) ?_
    refine q_lret rfl rfl ?_
    exact K
  · refine v_ic_lt_f (t := 14) rfl (by decide) (by omega) ?_
    refine q_iload_n rfl rfl ?_
    refine q_iload_n rfl rfl ?_
    by_cases h_19 : x1 > 12
    · refine v_ic_gt_t (t := 14) rfl (by decide) (by omega) ?_
      refine q_iconst rfl ?_
      refine v_zret rfl rfl (by omega) ?_
      refine bk_inl ?_
      refine v_if_eq_t (t := 50) rfl (by decide) (by decide) ?_
      refine q_iconst rfl ?_
      refine q_iconst rfl ?_
      refine q_iconst rfl ?_
      refine v_cv rfl rfl rfl rfl (by decide) ⟨⟨rfl, rfl⟩, by decide, rfl⟩ (Nat.le_of_ble_eq_true rfl) (Nat.le_of_ble_eq_true rfl) ?_
      refine q_iload_n rfl rfl ?_
      refine v_if_ne_f (t := 26) rfl (by decide) (by decide) ?_
      refine q_aload_n rfl rfl ?_
      refine v_gi (z := 0) (v := 0) rfl rfl rfl (by decide) rfl rfl (up_e rfl) ?_
      refine v_if_ne_f (t := 26) rfl (by decide) (by decide) ?_
      refine q_aload_n rfl rfl ?_
      refine q_iload_n rfl rfl ?_
      refine v_pi (z := 0) rfl rfl rfl (by decide) rfl rfl rfl (by decide) ?_
      refine q_aload_n rfl rfl ?_
      refine v_gr (t := 42) rfl rfl rfl (by decide) rfl ?_
      refine q_iload_n rfl rfl ?_
      refine q_dup2 rfl ⟨rfl, rfl⟩ ?_
      refine v_ia (v := c 42 1) rfl rfl (by decide) (by decide) (by decide) ((up_c (by decide)).trans (up_c (by decide))) ?_
      refine q_iconst rfl ?_
      refine v_iadd (v := c 42 1 + 1) rfl (by omega) ?_
      refine v_is rfl rfl (by decide) (by decide) (by decide) ?_
      refine q_aload_n rfl rfl ?_
      refine v_gi (z := 0) (v := 1) rfl rfl rfl (by decide) rfl rfl ((up_c (by decide)).trans (up_e rfl)) ?_
      refine v_if_ne_t (t := 37) rfl (by decide) (by decide) ?_
      refine q_iconst rfl ?_
      refine v_zret rfl rfl (by omega) ?_
      refine bk_inl ?_
      refine v_if_ne_f (t := 61) rfl (by decide) (by decide) ?_
      refine v_lconst (z := 0) rfl (by decide) ?_
      refine q_lret rfl rfl ?_
      exact K
    · refine v_ic_gt_f (t := 14) rfl (by decide) (by omega) ?_
      refine q_iconst rfl ?_
      refine q_goto (t := 15) rfl (by decide) ?_
      refine v_zret rfl rfl (by omega) ?_
      refine bk_inl ?_
      refine v_if_eq_f (t := 50) rfl (by decide) (by decide) ?_
      refine q_iload_n rfl rfl ?_
      refine q_iconst rfl ?_
      refine v_bip rfl (by decide) ?_
      refine q_call rfl rfl rfl rfl ?_
      refine q_iload_n rfl rfl ?_
      refine q_iload_n rfl rfl ?_
      by_cases h_20 : x2 < 0
      · refine v_ic_lt_t (t := 14) rfl (by decide) (by omega) ?_
        refine q_iconst rfl ?_
        refine v_zret rfl rfl (by omega) ?_
        refine bk_inl ?_
        refine v_if_eq_t (t := 50) rfl (by decide) (by decide) ?_
        refine q_iconst rfl ?_
        refine q_iconst rfl ?_
        refine q_iconst rfl ?_
        refine v_cv rfl rfl rfl rfl (by decide) ⟨⟨rfl, rfl⟩, by decide, rfl⟩ (Nat.le_of_ble_eq_true rfl) (Nat.le_of_ble_eq_true rfl) ?_
        refine q_iload_n rfl rfl ?_
        refine v_if_ne_f (t := 26) rfl (by decide) (by decide) ?_
        refine q_aload_n rfl rfl ?_
        refine v_gi (z := 0) (v := 0) rfl rfl rfl (by decide) rfl rfl (up_e rfl) ?_
        refine v_if_ne_f (t := 26) rfl (by decide) (by decide) ?_
        refine q_aload_n rfl rfl ?_
        refine q_iload_n rfl rfl ?_
        refine v_pi (z := 0) rfl rfl rfl (by decide) rfl rfl rfl (by decide) ?_
        refine q_aload_n rfl rfl ?_
        refine v_gr (t := 42) rfl rfl rfl (by decide) rfl ?_
        refine q_iload_n rfl rfl ?_
        refine q_dup2 rfl ⟨rfl, rfl⟩ ?_
        refine v_ia (v := c 42 1) rfl rfl (by decide) (by decide) (by decide) ((up_c (by decide)).trans (up_c (by decide))) ?_
        refine q_iconst rfl ?_
        refine v_iadd (v := c 42 1 + 1) rfl (by omega) ?_
        refine v_is rfl rfl (by decide) (by decide) (by decide) ?_
        refine q_aload_n rfl rfl ?_
        refine v_gi (z := 0) (v := 1) rfl rfl rfl (by decide) rfl rfl ((up_c (by decide)).trans (up_e rfl)) ?_
        refine v_if_ne_t (t := 37) rfl (by decide) (by decide) ?_
        refine q_iconst rfl ?_
        refine v_zret rfl rfl (by omega) ?_
        refine bk_inl ?_
        refine v_if_ne_f (t := 61) rfl (by decide) (by decide) ?_
        refine v_lconst (z := 0) rfl (by decide) ?_
        refine q_lret rfl rfl ?_
        exact K
      · refine v_ic_lt_f (t := 14) rfl (by decide) (by omega) ?_
        refine q_iload_n rfl rfl ?_
        refine q_iload_n rfl rfl ?_
        by_cases h_21 : x2 > 13
        · refine v_ic_gt_t (t := 14) rfl (by decide) (by omega) ?_
          refine q_iconst rfl ?_
          refine v_zret rfl rfl (by omega) ?_
          refine bk_inl ?_
          refine v_if_eq_t (t := 50) rfl (by decide) (by decide) ?_
          refine q_iconst rfl ?_
          refine q_iconst rfl ?_
          refine q_iconst rfl ?_
          refine v_cv rfl rfl rfl rfl (by decide) ⟨⟨rfl, rfl⟩, by decide, rfl⟩ (Nat.le_of_ble_eq_true rfl) (Nat.le_of_ble_eq_true rfl) ?_
          refine q_iload_n rfl rfl ?_
          refine v_if_ne_f (t := 26) rfl (by decide) (by decide) ?_
          refine q_aload_n rfl rfl ?_
          refine v_gi (z := 0) (v := 0) rfl rfl rfl (by decide) rfl rfl (up_e rfl) ?_
          refine v_if_ne_f (t := 26) rfl (by decide) (by decide) ?_
          refine q_aload_n rfl rfl ?_
          refine q_iload_n rfl rfl ?_
          refine v_pi (z := 0) rfl rfl rfl (by decide) rfl rfl rfl (by decide) ?_
          refine q_aload_n rfl rfl ?_
          refine v_gr (t := 42) rfl rfl rfl (by decide) rfl ?_
          refine q_iload_n rfl rfl ?_
          refine q_dup2 rfl ⟨rfl, rfl⟩ ?_
          refine v_ia (v := c 42 1) rfl rfl (by decide) (by decide) (by decide) ((up_c (by decide)).trans (up_c (by decide))) ?_
          refine q_iconst rfl ?_
          refine v_iadd (v := c 42 1 + 1) rfl (by omega) ?_
          refine v_is rfl rfl (by decide) (by decide) (by decide) ?_
          refine q_aload_n rfl rfl ?_
          refine v_gi (z := 0) (v := 1) rfl rfl rfl (by decide) rfl rfl ((up_c (by decide)).trans (up_e rfl)) ?_
          refine v_if_ne_t (t := 37) rfl (by decide) (by decide) ?_
          refine q_iconst rfl ?_
          refine v_zret rfl rfl (by omega) ?_
          refine bk_inl ?_
          refine v_if_ne_f (t := 61) rfl (by decide) (by decide) ?_
          refine v_lconst (z := 0) rfl (by decide) ?_
          refine q_lret rfl rfl ?_
          exact K
        · refine v_ic_gt_f (t := 14) rfl (by decide) (by omega) ?_
          refine q_iconst rfl ?_
          refine q_goto (t := 15) rfl (by decide) ?_
          refine v_zret rfl rfl (by omega) ?_
          refine bk_inl ?_
          refine v_if_eq_f (t := 50) rfl (by decide) (by decide) ?_
          refine q_iload_n rfl rfl ?_
          refine q_iconst rfl ?_
          refine v_bip rfl (by decide) ?_
          refine q_call rfl rfl rfl rfl ?_
          refine q_iload_n rfl rfl ?_
          refine q_iload_n rfl rfl ?_
          by_cases h_22 : x3 < 0
          · refine v_ic_lt_t (t := 14) rfl (by decide) (by omega) ?_
            refine q_iconst rfl ?_
            refine v_zret rfl rfl (by omega) ?_
            refine bk_inl ?_
            refine v_if_eq_t (t := 50) rfl (by decide) (by decide) ?_
            refine q_iconst rfl ?_
            refine q_iconst rfl ?_
            refine q_iconst rfl ?_
            refine v_cv rfl rfl rfl rfl (by decide) ⟨⟨rfl, rfl⟩, by decide, rfl⟩ (Nat.le_of_ble_eq_true rfl) (Nat.le_of_ble_eq_true rfl) ?_
            refine q_iload_n rfl rfl ?_
            refine v_if_ne_f (t := 26) rfl (by decide) (by decide) ?_
            refine q_aload_n rfl rfl ?_
            refine v_gi (z := 0) (v := 0) rfl rfl rfl (by decide) rfl rfl (up_e rfl) ?_
            refine v_if_ne_f (t := 26) rfl (by decide) (by decide) ?_
            refine q_aload_n rfl rfl ?_
            refine q_iload_n rfl rfl ?_
            refine v_pi (z := 0) rfl rfl rfl (by decide) rfl rfl rfl (by decide) ?_
            refine q_aload_n rfl rfl ?_
            refine v_gr (t := 42) rfl rfl rfl (by decide) rfl ?_
            refine q_iload_n rfl rfl ?_
            refine q_dup2 rfl ⟨rfl, rfl⟩ ?_
            refine v_ia (v := c 42 1) rfl rfl (by decide) (by decide) (by decide) ((up_c (by decide)).trans (up_c (by decide))) ?_
            refine q_iconst rfl ?_
            refine v_iadd (v := c 42 1 + 1) rfl (by omega) ?_
            refine v_is rfl rfl (by decide) (by decide) (by decide) ?_
            refine q_aload_n rfl rfl ?_
            refine v_gi (z := 0) (v := 1) rfl rfl rfl (by decide) rfl rfl ((up_c (by decide)).trans (up_e rfl)) ?_
            refine v_if_ne_t (t := 37) rfl (by decide) (by decide) ?_
            refine q_iconst rfl ?_
            refine v_zret rfl rfl (by omega) ?_
            refine bk_inl ?_
            refine v_if_ne_f (t := 61) rfl (by decide) (by decide) ?_
            refine v_lconst (z := 0) rfl (by decide) ?_
            refine q_lret rfl rfl ?_
            exact K
          · refine v_ic_lt_f (t := 14) rfl (by decide) (by omega) ?_
            refine q_iload_n rfl rfl ?_
            refine q_iload_n rfl rfl ?_
            by_cases h_23 : x3 > 16
            · refine v_ic_gt_t (t := 14) rfl (by decide) (by omega) ?_
              refine q_iconst rfl ?_
              refine v_zret rfl rfl (by omega) ?_
              refine bk_inl ?_
              refine v_if_eq_t (t := 50) rfl (by decide) (by decide) ?_
              refine q_iconst rfl ?_
              refine q_iconst rfl ?_
              refine q_iconst rfl ?_
              refine v_cv rfl rfl rfl rfl (by decide) ⟨⟨rfl, rfl⟩, by decide, rfl⟩ (Nat.le_of_ble_eq_true rfl) (Nat.le_of_ble_eq_true rfl) ?_
              refine q_iload_n rfl rfl ?_
              refine v_if_ne_f (t := 26) rfl (by decide) (by decide) ?_
              refine q_aload_n rfl rfl ?_
              refine v_gi (z := 0) (v := 0) rfl rfl rfl (by decide) rfl rfl (up_e rfl) ?_
              refine v_if_ne_f (t := 26) rfl (by decide) (by decide) ?_
              refine q_aload_n rfl rfl ?_
              refine q_iload_n rfl rfl ?_
              refine v_pi (z := 0) rfl rfl rfl (by decide) rfl rfl rfl (by decide) ?_
              refine q_aload_n rfl rfl ?_
              refine v_gr (t := 42) rfl rfl rfl (by decide) rfl ?_
              refine q_iload_n rfl rfl ?_
              refine q_dup2 rfl ⟨rfl, rfl⟩ ?_
              refine v_ia (v := c 42 1) rfl rfl (by decide) (by decide) (by decide) ((up_c (by decide)).trans (up_c (by decide))) ?_
              refine q_iconst rfl ?_
              refine v_iadd (v := c 42 1 + 1) rfl (by omega) ?_
              refine v_is rfl rfl (by decide) (by decide) (by decide) ?_
              refine q_aload_n rfl rfl ?_
              refine v_gi (z := 0) (v := 1) rfl rfl rfl (by decide) rfl rfl ((up_c (by decide)).trans (up_e rfl)) ?_
              refine v_if_ne_t (t := 37) rfl (by decide) (by decide) ?_
              refine q_iconst rfl ?_
              refine v_zret rfl rfl (by omega) ?_
              refine bk_inl ?_
              refine v_if_ne_f (t := 61) rfl (by decide) (by decide) ?_
              refine v_lconst (z := 0) rfl (by decide) ?_
              refine q_lret rfl rfl ?_
              exact K
            · refine v_ic_gt_f (t := 14) rfl (by decide) (by omega) ?_
              refine q_iconst rfl ?_
              refine q_goto (t := 15) rfl (by decide) ?_
              refine v_zret rfl rfl (by omega) ?_
              refine bk_inl ?_
              refine v_if_eq_f (t := 50) rfl (by decide) (by decide) ?_
              refine q_iload rfl rfl ?_
              refine q_iconst rfl ?_
              refine q_iconst rfl ?_
              refine q_call rfl rfl rfl rfl ?_
              refine q_iload_n rfl rfl ?_
              refine q_iload_n rfl rfl ?_
              by_cases h_24 : x4 < 0
              · refine v_ic_lt_t (t := 14) rfl (by decide) (by omega) ?_
                refine q_iconst rfl ?_
                refine v_zret rfl rfl (by omega) ?_
                refine bk_inl ?_
                refine v_if_eq_t (t := 50) rfl (by decide) (by decide) ?_
                refine q_iconst rfl ?_
                refine q_iconst rfl ?_
                refine q_iconst rfl ?_
                refine v_cv rfl rfl rfl rfl (by decide) ⟨⟨rfl, rfl⟩, by decide, rfl⟩ (Nat.le_of_ble_eq_true rfl) (Nat.le_of_ble_eq_true rfl) ?_
                refine q_iload_n rfl rfl ?_
                refine v_if_ne_f (t := 26) rfl (by decide) (by decide) ?_
                refine q_aload_n rfl rfl ?_
                refine v_gi (z := 0) (v := 0) rfl rfl rfl (by decide) rfl rfl (up_e rfl) ?_
                refine v_if_ne_f (t := 26) rfl (by decide) (by decide) ?_
                refine q_aload_n rfl rfl ?_
                refine q_iload_n rfl rfl ?_
                refine v_pi (z := 0) rfl rfl rfl (by decide) rfl rfl rfl (by decide) ?_
                refine q_aload_n rfl rfl ?_
                refine v_gr (t := 42) rfl rfl rfl (by decide) rfl ?_
                refine q_iload_n rfl rfl ?_
                refine q_dup2 rfl ⟨rfl, rfl⟩ ?_
                refine v_ia (v := c 42 1) rfl rfl (by decide) (by decide) (by decide) ((up_c (by decide)).trans (up_c (by decide))) ?_
                refine q_iconst rfl ?_
                refine v_iadd (v := c 42 1 + 1) rfl (by omega) ?_
                refine v_is rfl rfl (by decide) (by decide) (by decide) ?_
                refine q_aload_n rfl rfl ?_
                refine v_gi (z := 0) (v := 1) rfl rfl rfl (by decide) rfl rfl ((up_c (by decide)).trans (up_e rfl)) ?_
                refine v_if_ne_t (t := 37) rfl (by decide) (by decide) ?_
                refine q_iconst rfl ?_
                refine v_zret rfl rfl (by omega) ?_
                refine bk_inl ?_
                refine v_if_ne_f (t := 61) rfl (by decide) (by decide) ?_
                refine v_lconst (z := 0) rfl (by decide) ?_
                refine q_lret rfl rfl ?_
                exact K
              · refine v_ic_lt_f (t := 14) rfl (by decide) (by omega) ?_
                refine q_iload_n rfl rfl ?_
                refine q_iload_n rfl rfl ?_
                refine v_ic_gt_t (t := 14) rfl (by decide) (by omega) ?_
                refine q_iconst rfl ?_
                refine v_zret rfl rfl (by omega) ?_
                refine bk_inl ?_
                refine v_if_eq_t (t := 50) rfl (by decide) (by decide) ?_
                refine q_iconst rfl ?_
                refine q_iconst rfl ?_
                refine q_iconst rfl ?_
                refine v_cv rfl rfl rfl rfl (by decide) ⟨⟨rfl, rfl⟩, by decide, rfl⟩ (Nat.le_of_ble_eq_true rfl) (Nat.le_of_ble_eq_true rfl) ?_
                refine q_iload_n rfl rfl ?_
                refine v_if_ne_f (t := 26) rfl (by decide) (by decide) ?_
                refine q_aload_n rfl rfl ?_
                refine v_gi (z := 0) (v := 0) rfl rfl rfl (by decide) rfl rfl (up_e rfl) ?_
                refine v_if_ne_f (t := 26) rfl (by decide) (by decide) ?_
                refine q_aload_n rfl rfl ?_
                refine q_iload_n rfl rfl ?_
                refine v_pi (z := 0) rfl rfl rfl (by decide) rfl rfl rfl (by decide) ?_
                refine q_aload_n rfl rfl ?_
                refine v_gr (t := 42) rfl rfl rfl (by decide) rfl ?_
                refine q_iload_n rfl rfl ?_
                refine q_dup2 rfl ⟨rfl, rfl⟩ ?_
                refine v_ia (v := c 42 1) rfl rfl (by decide) (by decide) (by decide) ((up_c (by decide)).trans (up_c (by decide))) ?_
                refine q_iconst rfl ?_
                refine v_iadd (v := c 42 1 + 1) rfl (by omega) ?_
                refine v_is rfl rfl (by decide) (by decide) (by decide) ?_
                refine q_aload_n rfl rfl ?_
                refine v_gi (z := 0) (v := 1) rfl rfl rfl (by decide) rfl rfl ((up_c (by decide)).trans (up_e rfl)) ?_
                refine v_if_ne_t (t := 37) rfl (by decide) (by decide) ?_
                refine q_iconst rfl ?_
                refine v_zret rfl rfl (by omega) ?_
                refine bk_inl ?_
                refine v_if_ne_f (t := 61) rfl (by decide) (by decide) ?_
                refine v_lconst (z := 0) rfl (by decide) ?_
                refine q_lret rfl rfl ?_
                exact K

theorem fst_len {q : Nat} : ∀ {l : List Nat} {p : Nat}, (fst_ q p l).length = l.length
  | [], _ => rfl
  | _ :: r, _ => congrArg (· + 1) (fst_len (q := q) (l := r))
theorem frl_len {q : Nat} : ∀ i : Nat, (frl q i).length = 14
  | 0 => rfl
  | i + 1 => by show (fst_ q 0 (frl q i)).length = 14; rw [fst_len, frl_len i]
theorem fst_z {q : Nat} : ∀ {l : List Nat} {p : Nat}, 0 < l.length → (fst_ q p l).getD 0 0 = l.getD 0 0 * (16 - q) + p * q
  | [], _, h => absurd h (by decide)
  | x :: r, p, _ => rfl
theorem fst_s {q : Nat} : ∀ {l : List Nat} {p t : Nat}, t + 1 < l.length → (fst_ q p l).getD (t + 1) 0 = l.getD (t + 1) 0 * (16 - q) + l.getD t 0 * q
  | [], _, _, h => absurd h (Nat.not_lt_zero _)
  | x :: r, p, 0, h => fst_z (q := q) (l := r) (p := x) (Nat.lt_of_succ_lt_succ h)
  | x :: r, p, t + 1, h => fst_s (q := q) (l := r) (p := x) (t := t) (Nat.lt_of_succ_lt_succ h)
theorem frl_z {q i : Nat} {y v : Int} (hq : q ≤ 16) (hy : y = ((frl q i).getD 0 0 : Int)) (hv : v = y * (16 - (q : Int)) + 0) : v = ((frl q (i + 1)).getD 0 0 : Int) := by
  show v = ((fst_ q 0 (frl q i)).getD 0 0 : Int)
  rw [fst_z (by rw [frl_len]; decide), Int.natCast_add, Int.natCast_mul, hv, hy]
  have e : ((16 - q : Nat) : Int) = 16 - (q : Int) := by omega
  rw [e, Nat.zero_mul]
  rfl
theorem frl_s {q i : Nat} (t : Nat) {y z v : Int} (hq : q ≤ 16) (ht : t + 1 < 14) (hy : y = ((frl q i).getD (t + 1) 0 : Int)) (hz : z = ((frl q i).getD t 0 : Int)) (hv : v = y * (16 - (q : Int)) + z * (q : Int)) : v = ((frl q (i + 1)).getD (t + 1) 0 : Int) := by
  show v = ((fst_ q 0 (frl q i)).getD (t + 1) 0 : Int)
  rw [fst_s (by rw [frl_len]; exact ht), Int.natCast_add, Int.natCast_mul, Int.natCast_mul, hv, hy, hz]
  have e : ((16 - q : Nat) : Int) = 16 - (q : Int) := by omega
  rw [e]
theorem frl_r {q i : Nat} (t : Nat) {y z v : Int} (hq : q ≤ 16) (ht : t + 1 < 14) (hy : y = ((frl q i).getD (t + 1) 0 : Int)) (hz : z = ((frl q i).getD t 0 : Int)) (hv : v = z * (q : Int) + y * (16 - (q : Int))) : v = ((frl q (i + 1)).getD (t + 1) 0 : Int) := frl_s t hq ht hy hz (hv.trans (Int.add_comm _ _))
theorem fdrop {l : List Nat} {j : Nat} (h : j < l.length) : fsum (l.drop j) = l.getD j 0 + fsum (l.drop (j + 1)) := by
  rw [List.drop_eq_getElem_cons h]
  show l[j] + fsum (l.drop (j + 1)) = _
  rw [List.getD_eq_getElem?_getD, List.getElem?_eq_getElem h]
  rfl
set_option maxRecDepth 100000 in
set_option maxHeartbeats 4000000 in
theorem m_233_l {sc : List Int32} {d : Nat} {w : AW} {Z : AR → Prop} {u : Nat} {b : Nat} {half : Nat} (hb : 1 ≤ b) (hb2 : b ≤ 1125899906842624) (hu : u ≤ 1125899906842624) (hh : half ≤ 1) (K : Z (.inl (some (vl (((if half = 0 then u else b) / Nat.gcd u b : Nat) : Int))), w, 0, 0)) : ∀ (n9 : Nat) (x : Nat) (y : Nat) (X : Int) (Y : Int) (hX : X = (x : Int)) (hY : Y = (y : Int)) (hg : Nat.gcd x y = Nat.gcd u b) (hr : x ≤ 1125899906842624 ∧ y ≤ 1125899906842624) (_ : (y : Int) < (n9 : Int)), Wp sc (d + 0) 233 6 [(0, vl (u : Int)), (2, vl (b : Int)), (4, vi (half : Int)), (5, vl X), (7, vl Y)] [] w 0 0 Z
  | 0, x, y, X, Y, hX, hY, hg, hr, hn9 => by exfalso; omega
  | n9 + 1, x, y, X, Y, hX, hY, hg, hr, hn9 => by
    refine q_lload rfl rfl ?_
    refine v_lconst (z := 0) rfl (by decide) ?_
    by_cases h_25 : Y = 0
    · refine v_lcmp0 rfl (by omega) ?_
      refine v_if_eq_t (t := 31) rfl (by decide) (by decide) ?_
      obtain rfl : y = 0 := by omega
      have hx : x = Nat.gcd u b := by rw [← hg, Nat.gcd_zero_right]
      have hx1 : 0 < x := by rw [hx]; exact Nat.gcd_pos_of_pos_right u hb
      refine q_iload rfl rfl ?_
      by_cases h_26 : (half : Int) ≠ 0
      · refine v_if_ne_t (t := 40) rfl (by decide) (by omega) ?_
        refine q_lload_n rfl rfl ?_
        refine q_lload rfl rfl ?_
        refine v_ldiv (v := ((b : Int) / X)) rfl (by omega) rfl ?_
        refine q_lret rfl rfl ?_
        exact zl (by rw [hX, hx, if_neg (by omega)]; rfl) K
      · refine v_if_ne_f (t := 40) rfl (by decide) (by omega) ?_
        refine q_lload_n rfl rfl ?_
        refine q_goto (t := 41) rfl (by decide) ?_
        refine q_lload rfl rfl ?_
        refine v_ldiv (v := ((u : Int) / X)) rfl (by omega) rfl ?_
        refine q_lret rfl rfl ?_
        exact zl (by rw [hX, hx, if_pos (by omega)]; rfl) K
    · refine v_lcmp1 rfl (by omega) ?_
      refine v_if_eq_f (t := 31) rfl (by decide) (by decide) ?_
      refine q_lload rfl rfl ?_
      refine q_lload rfl rfl ?_
      refine v_lrem (v := (X % Y)) rfl (by omega) rfl ?_
      refine q_lstore rfl (by decide) ?_
      refine q_lload rfl rfl ?_
      refine q_lstore rfl (by decide) ?_
      refine q_lload rfl rfl ?_
      refine q_lstore rfl (by decide) ?_
      refine q_goto (t := 6) rfl (by decide) ?_
      have hlt := Nat.mod_lt x (show y > 0 by omega)
      refine Wp_ls [(0, vl (u : Int)), (2, vl (b : Int)), (4, vi (half : Int)), (5, vl Y), (7, vl (X % Y))] (lsub_cons rfl (lsub_cons rfl (lsub_cons rfl (lsub_cons rfl (lsub_cons rfl lsub_nil))))) ?_
      exact m_233_l (u := u) (b := b) (half := half) hb hb2 hu hh K n9 y (x % y) Y (X % Y) hY (by rw [hX, hY]; rfl) (by rw [← hg, Nat.gcd_comm x y, Nat.gcd_rec y x, Nat.gcd_comm]) (by omega) (by omega)

set_option maxRecDepth 100000 in
set_option maxHeartbeats 4000000 in
theorem m_233 {sc : List Int32} {d : Nat} {w : AW} {Z : AR → Prop} {U : Int} {B : Int} {H : Int} (u : Nat) (b : Nat) (half : Nat) (hU : U = (u : Int)) (hB : B = (b : Int)) (hH : H = (half : Int)) (hb : 1 ≤ b) (hb2 : b ≤ 1125899906842624) (hu : u ≤ 1125899906842624) (hh : half ≤ 1) (K : Z (.inl (some (vl (((if half = 0 then u else b) / Nat.gcd u b : Nat) : Int))), w, 0, 0)) : Wp sc (d + 0) 233 0 [(0, vl U), (2, vl B), (4, vi H)] [] w 0 0 Z := by
  subst hU hB hH
  refine q_lload_n rfl rfl ?_
  refine q_lstore rfl (by decide) ?_
  refine q_lload_n rfl rfl ?_
  refine q_lstore rfl (by decide) ?_
  refine Wp_ls [(0, vl (u : Int)), (2, vl (b : Int)), (4, vi (half : Int)), (5, vl (u : Int)), (7, vl (b : Int))] (lsub_cons rfl (lsub_cons rfl (lsub_cons rfl (lsub_cons rfl (lsub_cons rfl lsub_nil))))) ?_
  exact m_233_l (u := u) (b := b) (half := half) hb hb2 hu hh K 1125899906842625 u b (u : Int) (b : Int) rfl rfl rfl (by omega) (by omega)

set_option maxRecDepth 100000 in
set_option maxHeartbeats 4000000 in
theorem m_234_s {sc : List Int32} {d : Nat} {P Q N T : Nat} {Z : AR → Prop} {n : Nat} {k : Nat} {q : Nat} {half : Nat} {B : Int} {c : ME} {c9 : ME} (hn : n ≤ 12) (hk : k ≤ 13) (hq : q ≤ 16) (hh : half ≤ 1) (hB0 : B = 16 ^ n) (hcr : ∀ t : Nat, t < 14 → c9 65 (t : Int) = ((frl q n).getD t 0 : Int)) (hc9 : ∀ a : Nat, ¬ a = 65 → c9 a = c a) (K : ∀ c2 : ME, (∀ a : Nat, ¬ a = 65 → c2 a = c a) → Z (.inl (some (vl (fref n k q half))), Wd P Q N T c2, 0, 0)) : ∀ (n9 : Nat) (j : Nat) (U : Int) (h1 : j ≤ 14) (hs : U + (fsum ((frl q n).drop j) : Int) = (fsum ((frl q n).drop k) : Int)) (_ : (14 : Int) - (j : Int) < (n9 : Int)), Wp sc (d + 1) 234 183 [(0, .ref 41), (4, vi (half : Int)), (5, vl B), (7, vl U), (9, vi (j : Int))] [] (Wd P Q N T c9) 0 0 Z
  | 0, j, U, h1, hs, hn9 => by exfalso; omega
  | n9 + 1, j, U, h1, hs, hn9 => by
    refine q_iload rfl rfl ?_
    refine v_bip rfl (by decide) ?_
    by_cases h_27 : (j : Int) ≥ 14
    · refine v_ic_ge_t (t := 208) rfl (by decide) (by omega) ?_
      have hU : U = (fsum ((frl q n).drop k) : Int) := by rw [← hs, List.drop_eq_nil_of_le (by rw [frl_len]; omega)]; exact (Int.add_zero U).symm
      have hb1 : 1 ≤ 16 ^ n := Nat.one_le_pow _ _ (by decide)
      have hb2 : 16 ^ n ≤ 1125899906842624 := Nat.le_trans (Nat.pow_le_pow_right (by decide) hn) (by decide)
      have hB : B = ((16 ^ n : Nat) : Int) := by rw [hB0, Int.natCast_pow]; rfl
      refine q_lload rfl rfl ?_
      refine q_lload rfl rfl ?_
      refine q_iload rfl rfl ?_
      refine q_call rfl rfl rfl rfl (m_233 (fsum ((frl q n).drop k)) (16 ^ n) half hU hB rfl hb1 hb2 (fs_rng hn hk hq) hh ?_)
      refine bk_inl ?_
      refine q_lret rfl rfl ?_
      exact K c9 hc9
    · refine v_ic_ge_f (t := 208) rfl (by decide) (by omega) ?_
      refine q_lload rfl rfl ?_
      refine q_aload_n rfl rfl ?_
      refine v_gr (t := 65) rfl rfl rfl (by decide) rfl ?_
      refine q_iload rfl rfl ?_
      refine v_la (v := c9 65 (j : Int)) rfl rfl (by decide) (by decide) (by omega) rfl ?_
      refine v_ladd (v := U + c9 65 (j : Int)) rfl (by omega) ?_
      refine q_lstore rfl (by decide) ?_
      refine v_iinc (v := (j : Int) + 1) rfl rfl (by decide) (by omega) ?_
      refine q_goto (t := 183) rfl (by decide) ?_
      refine Wp_ls [(0, .ref 41), (4, vi (half : Int)), (5, vl B), (7, vl (U + c9 65 (j : Int))), (9, vi ((j : Int) + 1))] (lsub_cons rfl (lsub_cons rfl (lsub_cons rfl (lsub_cons rfl (lsub_cons rfl lsub_nil))))) ?_
      exact m_234_s (n := n) (k := k) (q := q) (half := half) (B := B) (c := c) (c9 := c9) hn hk hq hh hB0 hcr hc9 K n9 (j + 1) (U + c9 65 (j : Int)) (by omega) (by rw [← hs, fdrop (l := frl q n) (j := j) (by rw [frl_len]; omega), Int.natCast_add, hcr j (by omega)]; omega) (by omega)

set_option maxRecDepth 100000 in
set_option maxHeartbeats 4000000 in
theorem m_234_r {sc : List Int32} {d : Nat} {P Q N T : Nat} {Z : AR → Prop} {n : Nat} {k : Nat} {q : Nat} {half : Nat} {c : ME} (hn : n ≤ 12) (hk : k ≤ 13) (hq : q ≤ 16) (hh : half ≤ 1) (K : ∀ c2 : ME, (∀ a : Nat, ¬ a = 65 → c2 a = c a) → Z (.inl (some (vl (fref n k q half))), Wd P Q N T c2, 0, 0)) : ∀ (n9 : Nat) (i : Nat) (B : Int) (c9 : ME) (h1 : i ≤ n) (hB0 : B = 16 ^ i) (hcr : ∀ t : Nat, t < 14 → c9 65 (t : Int) = ((frl q i).getD t 0 : Int)) (hc9 : ∀ a : Nat, ¬ a = 65 → c9 a = c a) (_ : (n : Int) - (i : Int) < (n9 : Int)), Wp sc (d + 1) 234 100 [(0, .ref 41), (1, vi (n : Int)), (2, vi (k : Int)), (3, vi (q : Int)), (4, vi (half : Int)), (5, vl B), (7, vi (i : Int))] [] (Wd P Q N T c9) 0 0 Z
  | 0, i, B, c9, h1, hB0, hcr, hc9, hn9 => by exfalso; omega
  | n9 + 1, i, B, c9, h1, hB0, hcr, hc9, hn9 => by
    refine q_iload rfl rfl ?_
    refine q_iload_n rfl rfl ?_
    by_cases h_28 : (i : Int) ≥ (n : Int)
    · refine v_ic_ge_t (t := 177) rfl (by decide) (by omega) ?_
      refine v_lconst (z := 0) rfl (by decide) ?_
      refine q_lstore rfl (by decide) ?_
      refine q_iload_n rfl rfl ?_
      refine q_istore rfl (by decide) ?_
      refine Wp_ls [(0, .ref 41), (4, vi (half : Int)), (5, vl B), (7, vl 0), (9, vi (k : Int))] (lsub_cons rfl (lsub_cons rfl (lsub_cons rfl (lsub_cons rfl (lsub_cons rfl lsub_nil))))) ?_
      exact m_234_s (n := n) (k := k) (q := q) (half := half) (B := B) (c := c) (c9 := c9) hn hk hq hh (by rw [hB0, show i = n by omega]) (fun t ht => by rw [hcr t ht, show i = n by omega]) hc9 K 15 k 0 (by omega) (Int.zero_add _) (by omega)
    · refine v_ic_ge_f (t := 177) rfl (by decide) (by omega) ?_
      refine v_bip rfl (by decide) ?_
      refine q_istore rfl (by decide) ?_
      refine q_iload rfl rfl ?_
      refine v_if_lt_f (t := 163) rfl (by decide) (by decide) ?_
      refine q_aload_n rfl rfl ?_
      refine v_gr (t := 65) rfl rfl rfl (by decide) rfl ?_
      refine q_iload rfl rfl ?_
      refine q_aload_n rfl rfl ?_
      refine v_gr (t := 65) rfl rfl rfl (by decide) rfl ?_
      refine q_iload rfl rfl ?_
      refine v_la (v := c9 65 13) rfl rfl (by decide) (by decide) (by decide) rfl ?_
      refine v_bip rfl (by decide) ?_
      refine q_iload_n rfl rfl ?_
      refine v_isub (v := 16 - (q : Int)) rfl (by omega) ?_
      refine v_i2l rfl (by omega) ?_
      refine v_lmul (v := ((c9 65 13) * (16 - (q : Int)))) rfl rfl ?_
      refine q_iload rfl rfl ?_
      refine v_if_le_f (t := 154) rfl (by decide) (by decide) ?_
      refine q_aload_n rfl rfl ?_
      refine v_gr (t := 65) rfl rfl rfl (by decide) rfl ?_
      refine q_iload rfl rfl ?_
      refine q_iconst rfl ?_
      refine v_isub (v := 12) rfl (by decide) ?_
      refine v_la (v := c9 65 12) rfl rfl (by decide) (by decide) (by decide) rfl ?_
      refine q_iload_n rfl rfl ?_
      refine v_i2l rfl (by omega) ?_
      refine v_lmul (v := ((c9 65 12) * (q : Int))) rfl rfl ?_
      refine q_goto (t := 155) rfl (by decide) ?_
      refine v_ladd (v := ((c9 65 12) * (q : Int)) + ((c9 65 13) * (16 - (q : Int)))) rfl (by omega) ?_
      refine v_ls rfl rfl (by decide) (by decide) (by decide) ?_
      refine v_iinc (v := 12) rfl rfl (by decide) (by decide) ?_
      refine q_goto (t := 110) rfl (by decide) ?_
      refine q_iload rfl rfl ?_
      refine v_if_lt_f (t := 163) rfl (by decide) (by decide) ?_
      refine q_aload_n rfl rfl ?_
      refine v_gr (t := 65) rfl rfl rfl (by decide) rfl ?_
      refine q_iload rfl rfl ?_
      refine q_aload_n rfl rfl ?_
      refine v_gr (t := 65) rfl rfl rfl (by decide) rfl ?_
      refine q_iload rfl rfl ?_
      refine v_la (v := c9 65 12) rfl rfl (by decide) (by decide) (by decide) (up_n (by decide)) ?_
      refine v_bip rfl (by decide) ?_
      refine q_iload_n rfl rfl ?_
      refine v_isub (v := 16 - (q : Int)) rfl (by omega) ?_
      refine v_i2l rfl (by omega) ?_
      refine v_lmul (v := ((c9 65 12) * (16 - (q : Int)))) rfl rfl ?_
      refine q_iload rfl rfl ?_
      refine v_if_le_f (t := 154) rfl (by decide) (by decide) ?_
      refine q_aload_n rfl rfl ?_
      refine v_gr (t := 65) rfl rfl rfl (by decide) rfl ?_
      refine q_iload rfl rfl ?_
      refine q_iconst rfl ?_
      refine v_isub (v := 11) rfl (by decide) ?_
      refine v_la (v := c9 65 11) rfl rfl (by decide) (by decide) (by decide) (up_n (by decide)) ?_
      refine q_iload_n rfl rfl ?_
      refine v_i2l rfl (by omega) ?_
      refine v_lmul (v := ((c9 65 11) * (q : Int))) rfl rfl ?_
      refine q_goto (t := 155) rfl (by decide) ?_
      refine v_ladd (v := ((c9 65 11) * (q : Int)) + ((c9 65 12) * (16 - (q : Int)))) rfl (by omega) ?_
      refine v_ls rfl rfl (by decide) (by decide) (by decide) ?_
      refine v_iinc (v := 11) rfl rfl (by decide) (by decide) ?_
      refine q_goto (t := 110) rfl (by decide) ?_
      refine q_iload rfl rfl ?_
      refine v_if_lt_f (t := 163) rfl (by decide) (by decide) ?_
      refine q_aload_n rfl rfl ?_
      refine v_gr (t := 65) rfl rfl rfl (by decide) rfl ?_
      refine q_iload rfl rfl ?_
      refine q_aload_n rfl rfl ?_
      refine v_gr (t := 65) rfl rfl rfl (by decide) rfl ?_
      refine q_iload rfl rfl ?_
      refine v_la (v := c9 65 11) rfl rfl (by decide) (by decide) (by decide) ((up_n (by decide)).trans (up_n (by decide))) ?_
      refine v_bip rfl (by decide) ?_
      refine q_iload_n rfl rfl ?_
      refine v_isub (v := 16 - (q : Int)) rfl (by omega) ?_
      refine v_i2l rfl (by omega) ?_
      refine v_lmul (v := ((c9 65 11) * (16 - (q : Int)))) rfl rfl ?_
      refine q_iload rfl rfl ?_
      refine v_if_le_f (t := 154) rfl (by decide) (by decide) ?_
      refine q_aload_n rfl rfl ?_
      refine v_gr (t := 65) rfl rfl rfl (by decide) rfl ?_
      refine q_iload rfl rfl ?_
      refine q_iconst rfl ?_
      refine v_isub (v := 10) rfl (by decide) ?_
      refine v_la (v := c9 65 10) rfl rfl (by decide) (by decide) (by decide) ((up_n (by decide)).trans (up_n (by decide))) ?_
      refine q_iload_n rfl rfl ?_
      refine v_i2l rfl (by omega) ?_
      refine v_lmul (v := ((c9 65 10) * (q : Int))) rfl rfl ?_
      refine q_goto (t := 155) rfl (by decide) ?_
      refine v_ladd (v := ((c9 65 10) * (q : Int)) + ((c9 65 11) * (16 - (q : Int)))) rfl (by omega) ?_
      refine v_ls rfl rfl (by decide) (by decide) (by decide) ?_
      refine v_iinc (v := 10) rfl rfl (by decide) (by decide) ?_
      refine q_goto (t := 110) rfl (by decide) ?_
      refine q_iload rfl rfl ?_
      refine v_if_lt_f (t := 163) rfl (by decide) (by decide) ?_
      refine q_aload_n rfl rfl ?_
      refine v_gr (t := 65) rfl rfl rfl (by decide) rfl ?_
      refine q_iload rfl rfl ?_
      refine q_aload_n rfl rfl ?_
      refine v_gr (t := 65) rfl rfl rfl (by decide) rfl ?_
      refine q_iload rfl rfl ?_
      refine v_la (v := c9 65 10) rfl rfl (by decide) (by decide) (by decide) ((up_n (by decide)).trans ((up_n (by decide)).trans (up_n (by decide)))) ?_
      refine v_bip rfl (by decide) ?_
      refine q_iload_n rfl rfl ?_
      refine v_isub (v := 16 - (q : Int)) rfl (by omega) ?_
      refine v_i2l rfl (by omega) ?_
      refine v_lmul (v := ((c9 65 10) * (16 - (q : Int)))) rfl rfl ?_
      refine q_iload rfl rfl ?_
      refine v_if_le_f (t := 154) rfl (by decide) (by decide) ?_
      refine q_aload_n rfl rfl ?_
      refine v_gr (t := 65) rfl rfl rfl (by decide) rfl ?_
      refine q_iload rfl rfl ?_
      refine q_iconst rfl ?_
      refine v_isub (v := 9) rfl (by decide) ?_
      refine v_la (v := c9 65 9) rfl rfl (by decide) (by decide) (by decide) ((up_n (by decide)).trans ((up_n (by decide)).trans (up_n (by decide)))) ?_
      refine q_iload_n rfl rfl ?_
      refine v_i2l rfl (by omega) ?_
      refine v_lmul (v := ((c9 65 9) * (q : Int))) rfl rfl ?_
      refine q_goto (t := 155) rfl (by decide) ?_
      refine v_ladd (v := ((c9 65 10) * (16 - (q : Int))) + ((c9 65 9) * (q : Int))) rfl (by omega) ?_
      refine v_ls rfl rfl (by decide) (by decide) (by decide) ?_
      refine v_iinc (v := 9) rfl rfl (by decide) (by decide) ?_
      refine Wp_ls [(8, vi 9), (0, .ref 41), (1, vi (n : Int)), (2, vi (k : Int)), (3, vi (q : Int)), (4, vi (half : Int)), (5, vl B), (7, vi (i : Int))] (lsub_cons rfl (lsub_cons rfl (lsub_cons rfl (lsub_cons rfl (lsub_cons rfl (lsub_cons rfl (lsub_cons rfl (lsub_cons rfl lsub_nil)))))))) ?_
      refine q_goto (t := 110) rfl (by decide) ?_
      refine q_iload rfl rfl ?_
      refine v_if_lt_f (t := 163) rfl (by decide) (by decide) ?_
      refine q_aload_n rfl rfl ?_
      refine v_gr (t := 65) rfl rfl rfl (by decide) rfl ?_
      refine q_iload rfl rfl ?_
      refine q_aload_n rfl rfl ?_
      refine v_gr (t := 65) rfl rfl rfl (by decide) rfl ?_
      refine q_iload rfl rfl ?_
      refine v_la (v := c9 65 9) rfl rfl (by decide) (by decide) (by decide) ((up_n (by decide)).trans ((up_n (by decide)).trans ((up_n (by decide)).trans (up_n (by decide))))) ?_
      refine v_bip rfl (by decide) ?_
      refine q_iload_n rfl rfl ?_
      refine v_isub (v := 16 - (q : Int)) rfl (by omega) ?_
      refine v_i2l rfl (by omega) ?_
      refine v_lmul (v := ((c9 65 9) * (16 - (q : Int)))) rfl rfl ?_
      refine q_iload rfl rfl ?_
      refine v_if_le_f (t := 154) rfl (by decide) (by decide) ?_
      refine q_aload_n rfl rfl ?_
      refine v_gr (t := 65) rfl rfl rfl (by decide) rfl ?_
      refine q_iload rfl rfl ?_
      refine q_iconst rfl ?_
      refine v_isub (v := 8) rfl (by decide) ?_
      refine v_la (v := c9 65 8) rfl rfl (by decide) (by decide) (by decide) ((up_n (by decide)).trans ((up_n (by decide)).trans ((up_n (by decide)).trans (up_n (by decide))))) ?_
      refine q_iload_n rfl rfl ?_
      refine v_i2l rfl (by omega) ?_
      refine v_lmul (v := ((c9 65 8) * (q : Int))) rfl rfl ?_
      refine q_goto (t := 155) rfl (by decide) ?_
      refine v_ladd (v := ((c9 65 8) * (q : Int)) + ((c9 65 9) * (16 - (q : Int)))) rfl (by omega) ?_
      refine v_ls rfl rfl (by decide) (by decide) (by decide) ?_
      refine v_iinc (v := 8) rfl rfl (by decide) (by decide) ?_
      refine q_goto (t := 110) rfl (by decide) ?_
      refine q_iload rfl rfl ?_
      refine v_if_lt_f (t := 163) rfl (by decide) (by decide) ?_
      refine q_aload_n rfl rfl ?_
      refine v_gr (t := 65) rfl rfl rfl (by decide) rfl ?_
      refine q_iload rfl rfl ?_
      refine q_aload_n rfl rfl ?_
      refine v_gr (t := 65) rfl rfl rfl (by decide) rfl ?_
      refine q_iload rfl rfl ?_
      refine v_la (v := c9 65 8) rfl rfl (by decide) (by decide) (by decide) ((up_n (by decide)).trans ((up_n (by decide)).trans ((up_n (by decide)).trans ((up_n (by decide)).trans (up_n (by decide)))))) ?_
      refine v_bip rfl (by decide) ?_
      refine q_iload_n rfl rfl ?_
      refine v_isub (v := 16 - (q : Int)) rfl (by omega) ?_
      refine v_i2l rfl (by omega) ?_
      refine v_lmul (v := ((c9 65 8) * (16 - (q : Int)))) rfl rfl ?_
      refine q_iload rfl rfl ?_
      refine v_if_le_f (t := 154) rfl (by decide) (by decide) ?_
      refine q_aload_n rfl rfl ?_
      refine v_gr (t := 65) rfl rfl rfl (by decide) rfl ?_
      refine q_iload rfl rfl ?_
      refine q_iconst rfl ?_
      refine v_isub (v := 7) rfl (by decide) ?_
      refine v_la (v := c9 65 7) rfl rfl (by decide) (by decide) (by decide) ((up_n (by decide)).trans ((up_n (by decide)).trans ((up_n (by decide)).trans ((up_n (by decide)).trans (up_n (by decide)))))) ?_
      refine q_iload_n rfl rfl ?_
      refine v_i2l rfl (by omega) ?_
      refine v_lmul (v := ((c9 65 7) * (q : Int))) rfl rfl ?_
      refine q_goto (t := 155) rfl (by decide) ?_
      refine v_ladd (v := ((c9 65 7) * (q : Int)) + ((c9 65 8) * (16 - (q : Int)))) rfl (by omega) ?_
      refine v_ls rfl rfl (by decide) (by decide) (by decide) ?_
      refine v_iinc (v := 7) rfl rfl (by decide) (by decide) ?_
      refine q_goto (t := 110) rfl (by decide) ?_
      refine q_iload rfl rfl ?_
      refine v_if_lt_f (t := 163) rfl (by decide) (by decide) ?_
      refine q_aload_n rfl rfl ?_
      refine v_gr (t := 65) rfl rfl rfl (by decide) rfl ?_
      refine q_iload rfl rfl ?_
      refine q_aload_n rfl rfl ?_
      refine v_gr (t := 65) rfl rfl rfl (by decide) rfl ?_
      refine q_iload rfl rfl ?_
      refine v_la (v := c9 65 7) rfl rfl (by decide) (by decide) (by decide) ((up_n (by decide)).trans ((up_n (by decide)).trans ((up_n (by decide)).trans ((up_n (by decide)).trans ((up_n (by decide)).trans (up_n (by decide))))))) ?_
      refine v_bip rfl (by decide) ?_
      refine q_iload_n rfl rfl ?_
      refine v_isub (v := 16 - (q : Int)) rfl (by omega) ?_
      refine v_i2l rfl (by omega) ?_
      refine v_lmul (v := ((c9 65 7) * (16 - (q : Int)))) rfl rfl ?_
      refine q_iload rfl rfl ?_
      refine v_if_le_f (t := 154) rfl (by decide) (by decide) ?_
      refine q_aload_n rfl rfl ?_
      refine v_gr (t := 65) rfl rfl rfl (by decide) rfl ?_
      refine q_iload rfl rfl ?_
      refine q_iconst rfl ?_
      refine v_isub (v := 6) rfl (by decide) ?_
      refine v_la (v := c9 65 6) rfl rfl (by decide) (by decide) (by decide) ((up_n (by decide)).trans ((up_n (by decide)).trans ((up_n (by decide)).trans ((up_n (by decide)).trans ((up_n (by decide)).trans (up_n (by decide))))))) ?_
      refine q_iload_n rfl rfl ?_
      refine v_i2l rfl (by omega) ?_
      refine v_lmul (v := ((c9 65 6) * (q : Int))) rfl rfl ?_
      refine q_goto (t := 155) rfl (by decide) ?_
      refine v_ladd (v := ((c9 65 6) * (q : Int)) + ((c9 65 7) * (16 - (q : Int)))) rfl (by omega) ?_
      refine v_ls rfl rfl (by decide) (by decide) (by decide) ?_
      refine v_iinc (v := 6) rfl rfl (by decide) (by decide) ?_
      refine q_goto (t := 110) rfl (by decide) ?_
      refine q_iload rfl rfl ?_
      refine v_if_lt_f (t := 163) rfl (by decide) (by decide) ?_
      refine q_aload_n rfl rfl ?_
      refine v_gr (t := 65) rfl rfl rfl (by decide) rfl ?_
      refine q_iload rfl rfl ?_
      refine q_aload_n rfl rfl ?_
      refine v_gr (t := 65) rfl rfl rfl (by decide) rfl ?_
      refine q_iload rfl rfl ?_
      refine v_la (v := c9 65 6) rfl rfl (by decide) (by decide) (by decide) ((up_n (by decide)).trans ((up_n (by decide)).trans ((up_n (by decide)).trans ((up_n (by decide)).trans ((up_n (by decide)).trans ((up_n (by decide)).trans (up_n (by decide)))))))) ?_
      refine v_bip rfl (by decide) ?_
      refine q_iload_n rfl rfl ?_
      refine v_isub (v := 16 - (q : Int)) rfl (by omega) ?_
      refine v_i2l rfl (by omega) ?_
      refine v_lmul (v := ((c9 65 6) * (16 - (q : Int)))) rfl rfl ?_
      refine q_iload rfl rfl ?_
      refine v_if_le_f (t := 154) rfl (by decide) (by decide) ?_
      refine q_aload_n rfl rfl ?_
      refine v_gr (t := 65) rfl rfl rfl (by decide) rfl ?_
      refine q_iload rfl rfl ?_
      refine q_iconst rfl ?_
      refine v_isub (v := 5) rfl (by decide) ?_
      refine v_la (v := c9 65 5) rfl rfl (by decide) (by decide) (by decide) ((up_n (by decide)).trans ((up_n (by decide)).trans ((up_n (by decide)).trans ((up_n (by decide)).trans ((up_n (by decide)).trans ((up_n (by decide)).trans (up_n (by decide)))))))) ?_
      refine q_iload_n rfl rfl ?_
      refine v_i2l rfl (by omega) ?_
      refine v_lmul (v := ((c9 65 5) * (q : Int))) rfl rfl ?_
      refine q_goto (t := 155) rfl (by decide) ?_
      refine v_ladd (v := ((c9 65 5) * (q : Int)) + ((c9 65 6) * (16 - (q : Int)))) rfl (by omega) ?_
      refine v_ls rfl rfl (by decide) (by decide) (by decide) ?_
      refine v_iinc (v := 5) rfl rfl (by decide) (by decide) ?_
      refine q_goto (t := 110) rfl (by decide) ?_
      refine q_iload rfl rfl ?_
      refine v_if_lt_f (t := 163) rfl (by decide) (by decide) ?_
      refine q_aload_n rfl rfl ?_
      refine v_gr (t := 65) rfl rfl rfl (by decide) rfl ?_
      refine q_iload rfl rfl ?_
      refine q_aload_n rfl rfl ?_
      refine v_gr (t := 65) rfl rfl rfl (by decide) rfl ?_
      refine q_iload rfl rfl ?_
      refine v_la (v := c9 65 5) rfl rfl (by decide) (by decide) (by decide) ((up_n (by decide)).trans ((up_n (by decide)).trans ((up_n (by decide)).trans ((up_n (by decide)).trans ((up_n (by decide)).trans ((up_n (by decide)).trans ((up_n (by decide)).trans (up_n (by decide))))))))) ?_
      refine v_bip rfl (by decide) ?_
      refine q_iload_n rfl rfl ?_
      refine v_isub (v := 16 - (q : Int)) rfl (by omega) ?_
      refine v_i2l rfl (by omega) ?_
      refine v_lmul (v := ((c9 65 5) * (16 - (q : Int)))) rfl rfl ?_
      refine q_iload rfl rfl ?_
      refine v_if_le_f (t := 154) rfl (by decide) (by decide) ?_
      refine q_aload_n rfl rfl ?_
      refine v_gr (t := 65) rfl rfl rfl (by decide) rfl ?_
      refine q_iload rfl rfl ?_
      refine q_iconst rfl ?_
      refine v_isub (v := 4) rfl (by decide) ?_
      refine v_la (v := c9 65 4) rfl rfl (by decide) (by decide) (by decide) ((up_n (by decide)).trans ((up_n (by decide)).trans ((up_n (by decide)).trans ((up_n (by decide)).trans ((up_n (by decide)).trans ((up_n (by decide)).trans ((up_n (by decide)).trans (up_n (by decide))))))))) ?_
      refine q_iload_n rfl rfl ?_
      refine v_i2l rfl (by omega) ?_
      refine v_lmul (v := ((c9 65 4) * (q : Int))) rfl rfl ?_
      refine q_goto (t := 155) rfl (by decide) ?_
      refine v_ladd (v := ((c9 65 4) * (q : Int)) + ((c9 65 5) * (16 - (q : Int)))) rfl (by omega) ?_
      refine v_ls rfl rfl (by decide) (by decide) (by decide) ?_
      refine v_iinc (v := 4) rfl rfl (by decide) (by decide) ?_
      refine Wp_ls [(8, vi 4), (0, .ref 41), (1, vi (n : Int)), (2, vi (k : Int)), (3, vi (q : Int)), (4, vi (half : Int)), (5, vl B), (7, vi (i : Int))] (lsub_cons rfl (lsub_cons rfl (lsub_cons rfl (lsub_cons rfl (lsub_cons rfl (lsub_cons rfl (lsub_cons rfl (lsub_cons rfl lsub_nil)))))))) ?_
      refine q_goto (t := 110) rfl (by decide) ?_
      refine q_iload rfl rfl ?_
      refine v_if_lt_f (t := 163) rfl (by decide) (by decide) ?_
      refine q_aload_n rfl rfl ?_
      refine v_gr (t := 65) rfl rfl rfl (by decide) rfl ?_
      refine q_iload rfl rfl ?_
      refine q_aload_n rfl rfl ?_
      refine v_gr (t := 65) rfl rfl rfl (by decide) rfl ?_
      refine q_iload rfl rfl ?_
      refine v_la (v := c9 65 4) rfl rfl (by decide) (by decide) (by decide) ((up_n (by decide)).trans ((up_n (by decide)).trans ((up_n (by decide)).trans ((up_n (by decide)).trans ((up_n (by decide)).trans ((up_n (by decide)).trans ((up_n (by decide)).trans ((up_n (by decide)).trans (up_n (by decide)))))))))) ?_
      refine v_bip rfl (by decide) ?_
      refine q_iload_n rfl rfl ?_
      refine v_isub (v := 16 - (q : Int)) rfl (by omega) ?_
      refine v_i2l rfl (by omega) ?_
      refine v_lmul (v := ((c9 65 4) * (16 - (q : Int)))) rfl rfl ?_
      refine q_iload rfl rfl ?_
      refine v_if_le_f (t := 154) rfl (by decide) (by decide) ?_
      refine q_aload_n rfl rfl ?_
      refine v_gr (t := 65) rfl rfl rfl (by decide) rfl ?_
      refine q_iload rfl rfl ?_
      refine q_iconst rfl ?_
      refine v_isub (v := 3) rfl (by decide) ?_
      refine v_la (v := c9 65 3) rfl rfl (by decide) (by decide) (by decide) ((up_n (by decide)).trans ((up_n (by decide)).trans ((up_n (by decide)).trans ((up_n (by decide)).trans ((up_n (by decide)).trans ((up_n (by decide)).trans ((up_n (by decide)).trans ((up_n (by decide)).trans (up_n (by decide)))))))))) ?_
      refine q_iload_n rfl rfl ?_
      refine v_i2l rfl (by omega) ?_
      refine v_lmul (v := ((c9 65 3) * (q : Int))) rfl rfl ?_
      refine q_goto (t := 155) rfl (by decide) ?_
      refine v_ladd (v := ((c9 65 3) * (q : Int)) + ((c9 65 4) * (16 - (q : Int)))) rfl (by omega) ?_
      refine v_ls rfl rfl (by decide) (by decide) (by decide) ?_
      refine v_iinc (v := 3) rfl rfl (by decide) (by decide) ?_
      refine q_goto (t := 110) rfl (by decide) ?_
      refine q_iload rfl rfl ?_
      refine v_if_lt_f (t := 163) rfl (by decide) (by decide) ?_
      refine q_aload_n rfl rfl ?_
      refine v_gr (t := 65) rfl rfl rfl (by decide) rfl ?_
      refine q_iload rfl rfl ?_
      refine q_aload_n rfl rfl ?_
      refine v_gr (t := 65) rfl rfl rfl (by decide) rfl ?_
      refine q_iload rfl rfl ?_
      refine v_la (v := c9 65 3) rfl rfl (by decide) (by decide) (by decide) ((up_n (by decide)).trans ((up_n (by decide)).trans ((up_n (by decide)).trans ((up_n (by decide)).trans ((up_n (by decide)).trans ((up_n (by decide)).trans ((up_n (by decide)).trans ((up_n (by decide)).trans ((up_n (by decide)).trans (up_n (by decide))))))))))) ?_
      refine v_bip rfl (by decide) ?_
      refine q_iload_n rfl rfl ?_
      refine v_isub (v := 16 - (q : Int)) rfl (by omega) ?_
      refine v_i2l rfl (by omega) ?_
      refine v_lmul (v := ((c9 65 3) * (16 - (q : Int)))) rfl rfl ?_
      refine q_iload rfl rfl ?_
      refine v_if_le_f (t := 154) rfl (by decide) (by decide) ?_
      refine q_aload_n rfl rfl ?_
      refine v_gr (t := 65) rfl rfl rfl (by decide) rfl ?_
      refine q_iload rfl rfl ?_
      refine q_iconst rfl ?_
      refine v_isub (v := 2) rfl (by decide) ?_
      refine v_la (v := c9 65 2) rfl rfl (by decide) (by decide) (by decide) ((up_n (by decide)).trans ((up_n (by decide)).trans ((up_n (by decide)).trans ((up_n (by decide)).trans ((up_n (by decide)).trans ((up_n (by decide)).trans ((up_n (by decide)).trans ((up_n (by decide)).trans ((up_n (by decide)).trans (up_n (by decide))))))))))) ?_
      refine q_iload_n rfl rfl ?_
      refine v_i2l rfl (by omega) ?_
      refine v_lmul (v := ((c9 65 2) * (q : Int))) rfl rfl ?_
      refine q_goto (t := 155) rfl (by decide) ?_
      refine v_ladd (v := ((c9 65 2) * (q : Int)) + ((c9 65 3) * (16 - (q : Int)))) rfl (by omega) ?_
      refine v_ls rfl rfl (by decide) (by decide) (by decide) ?_
      refine v_iinc (v := 2) rfl rfl (by decide) (by decide) ?_
      refine q_goto (t := 110) rfl (by decide) ?_
      refine q_iload rfl rfl ?_
      refine v_if_lt_f (t := 163) rfl (by decide) (by decide) ?_
      refine q_aload_n rfl rfl ?_
      refine v_gr (t := 65) rfl rfl rfl (by decide) rfl ?_
      refine q_iload rfl rfl ?_
      refine q_aload_n rfl rfl ?_
      refine v_gr (t := 65) rfl rfl rfl (by decide) rfl ?_
      refine q_iload rfl rfl ?_
      refine v_la (v := c9 65 2) rfl rfl (by decide) (by decide) (by decide) ((up_n (by decide)).trans ((up_n (by decide)).trans ((up_n (by decide)).trans ((up_n (by decide)).trans ((up_n (by decide)).trans ((up_n (by decide)).trans ((up_n (by decide)).trans ((up_n (by decide)).trans ((up_n (by decide)).trans ((up_n (by decide)).trans (up_n (by decide)))))))))))) ?_
      refine v_bip rfl (by decide) ?_
      refine q_iload_n rfl rfl ?_
      refine v_isub (v := 16 - (q : Int)) rfl (by omega) ?_
      refine v_i2l rfl (by omega) ?_
      refine v_lmul (v := ((c9 65 2) * (16 - (q : Int)))) rfl rfl ?_
      refine q_iload rfl rfl ?_
      refine v_if_le_f (t := 154) rfl (by decide) (by decide) ?_
      refine q_aload_n rfl rfl ?_
      refine v_gr (t := 65) rfl rfl rfl (by decide) rfl ?_
      refine q_iload rfl rfl ?_
      refine q_iconst rfl ?_
      refine v_isub (v := 1) rfl (by decide) ?_
      refine v_la (v := c9 65 1) rfl rfl (by decide) (by decide) (by decide) ((up_n (by decide)).trans ((up_n (by decide)).trans ((up_n (by decide)).trans ((up_n (by decide)).trans ((up_n (by decide)).trans ((up_n (by decide)).trans ((up_n (by decide)).trans ((up_n (by decide)).trans ((up_n (by decide)).trans ((up_n (by decide)).trans (up_n (by decide)))))))))))) ?_
      refine q_iload_n rfl rfl ?_
      refine v_i2l rfl (by omega) ?_
      refine v_lmul (v := ((c9 65 1) * (q : Int))) rfl rfl ?_
      refine q_goto (t := 155) rfl (by decide) ?_
      refine v_ladd (v := ((c9 65 1) * (q : Int)) + ((c9 65 2) * (16 - (q : Int)))) rfl (by omega) ?_
      refine v_ls rfl rfl (by decide) (by decide) (by decide) ?_
      refine v_iinc (v := 1) rfl rfl (by decide) (by decide) ?_
      refine q_goto (t := 110) rfl (by decide) ?_
      refine q_iload rfl rfl ?_
      refine v_if_lt_f (t := 163) rfl (by decide) (by decide) ?_
      refine q_aload_n rfl rfl ?_
      refine v_gr (t := 65) rfl rfl rfl (by decide) rfl ?_
      refine q_iload rfl rfl ?_
      refine q_aload_n rfl rfl ?_
      refine v_gr (t := 65) rfl rfl rfl (by decide) rfl ?_
      refine q_iload rfl rfl ?_
      refine v_la (v := c9 65 1) rfl rfl (by decide) (by decide) (by decide) ((up_n (by decide)).trans ((up_n (by decide)).trans ((up_n (by decide)).trans ((up_n (by decide)).trans ((up_n (by decide)).trans ((up_n (by decide)).trans ((up_n (by decide)).trans ((up_n (by decide)).trans ((up_n (by decide)).trans ((up_n (by decide)).trans ((up_n (by decide)).trans (up_n (by decide))))))))))))) ?_
      refine v_bip rfl (by decide) ?_
      refine q_iload_n rfl rfl ?_
      refine v_isub (v := 16 - (q : Int)) rfl (by omega) ?_
      refine v_i2l rfl (by omega) ?_
      refine v_lmul (v := ((c9 65 1) * (16 - (q : Int)))) rfl rfl ?_
      refine q_iload rfl rfl ?_
      refine v_if_le_f (t := 154) rfl (by decide) (by decide) ?_
      refine q_aload_n rfl rfl ?_
      refine v_gr (t := 65) rfl rfl rfl (by decide) rfl ?_
      refine q_iload rfl rfl ?_
      refine q_iconst rfl ?_
      refine v_isub (v := 0) rfl (by decide) ?_
      refine v_la (v := c9 65 0) rfl rfl (by decide) (by decide) (by decide) ((up_n (by decide)).trans ((up_n (by decide)).trans ((up_n (by decide)).trans ((up_n (by decide)).trans ((up_n (by decide)).trans ((up_n (by decide)).trans ((up_n (by decide)).trans ((up_n (by decide)).trans ((up_n (by decide)).trans ((up_n (by decide)).trans ((up_n (by decide)).trans (up_n (by decide))))))))))))) ?_
      refine q_iload_n rfl rfl ?_
      refine v_i2l rfl (by omega) ?_
      refine v_lmul (v := ((c9 65 0) * (q : Int))) rfl rfl ?_
      refine q_goto (t := 155) rfl (by decide) ?_
      refine v_ladd (v := ((c9 65 0) * (q : Int)) + ((c9 65 1) * (16 - (q : Int)))) rfl (by omega) ?_
      refine v_ls rfl rfl (by decide) (by decide) (by decide) ?_
      refine v_iinc (v := 0) rfl rfl (by decide) (by decide) ?_
      refine q_goto (t := 110) rfl (by decide) ?_
      refine q_iload rfl rfl ?_
      refine v_if_lt_f (t := 163) rfl (by decide) (by decide) ?_
      refine q_aload_n rfl rfl ?_
      refine v_gr (t := 65) rfl rfl rfl (by decide) rfl ?_
      refine q_iload rfl rfl ?_
      refine q_aload_n rfl rfl ?_
      refine v_gr (t := 65) rfl rfl rfl (by decide) rfl ?_
      refine q_iload rfl rfl ?_
      refine v_la (v := c9 65 0) rfl rfl (by decide) (by decide) (by decide) ((up_n (by decide)).trans ((up_n (by decide)).trans ((up_n (by decide)).trans ((up_n (by decide)).trans ((up_n (by decide)).trans ((up_n (by decide)).trans ((up_n (by decide)).trans ((up_n (by decide)).trans ((up_n (by decide)).trans ((up_n (by decide)).trans ((up_n (by decide)).trans ((up_n (by decide)).trans (up_n (by decide)))))))))))))) ?_
      refine v_bip rfl (by decide) ?_
      refine q_iload_n rfl rfl ?_
      refine v_isub (v := 16 - (q : Int)) rfl (by omega) ?_
      refine v_i2l rfl (by omega) ?_
      refine v_lmul (v := ((c9 65 0) * (16 - (q : Int)))) rfl rfl ?_
      refine q_iload rfl rfl ?_
      refine v_if_le_t (t := 154) rfl (by decide) (by decide) ?_
      refine v_lconst (z := 0) rfl (by decide) ?_
      refine v_ladd (v := ((c9 65 0) * (16 - (q : Int)))) rfl (by omega) ?_
      refine v_ls rfl rfl (by decide) (by decide) (by decide) ?_
      refine v_iinc (v := (-1)) rfl rfl (by decide) (by decide) ?_
      refine Wp_ls [(8, vi (-1)), (0, .ref 41), (1, vi (n : Int)), (2, vi (k : Int)), (3, vi (q : Int)), (4, vi (half : Int)), (5, vl B), (7, vi (i : Int))] (lsub_cons rfl (lsub_cons rfl (lsub_cons rfl (lsub_cons rfl (lsub_cons rfl (lsub_cons rfl (lsub_cons rfl (lsub_cons rfl lsub_nil)))))))) ?_
      refine q_goto (t := 110) rfl (by decide) ?_
      refine q_iload rfl rfl ?_
      refine v_if_lt_t (t := 163) rfl (by decide) (by decide) ?_
      refine q_lload rfl rfl ?_
      refine v_ldc2 (n := 16) rfl rfl (by decide +kernel) ?_
      refine v_lmul (v := 16 * B) rfl (by omega) ?_
      refine q_lstore rfl (by decide) ?_
      refine v_iinc (v := (i : Int) + 1) rfl rfl (by decide) (by omega) ?_
      refine q_goto (t := 100) rfl (by decide) ?_
      refine Wp_ls [(0, .ref 41), (1, vi (n : Int)), (2, vi (k : Int)), (3, vi (q : Int)), (4, vi (half : Int)), (5, vl (16 * B)), (7, vi ((i : Int) + 1))] (lsub_cons rfl (lsub_cons rfl (lsub_cons rfl (lsub_cons rfl (lsub_cons rfl (lsub_cons rfl (lsub_cons rfl lsub_nil))))))) ?_
      exact m_234_r (n := n) (k := k) (q := q) (half := half) (c := c) hn hk hq hh K n9 (i + 1) (16 * B) (up (up (up (up (up (up (up (up (up (up (up (up (up (up c9 65 13 (((c9 65 12) * (q : Int)) + ((c9 65 13) * (16 - (q : Int))))) 65 12 (((c9 65 11) * (q : Int)) + ((c9 65 12) * (16 - (q : Int))))) 65 11 (((c9 65 10) * (q : Int)) + ((c9 65 11) * (16 - (q : Int))))) 65 10 (((c9 65 10) * (16 - (q : Int))) + ((c9 65 9) * (q : Int)))) 65 9 (((c9 65 8) * (q : Int)) + ((c9 65 9) * (16 - (q : Int))))) 65 8 (((c9 65 7) * (q : Int)) + ((c9 65 8) * (16 - (q : Int))))) 65 7 (((c9 65 6) * (q : Int)) + ((c9 65 7) * (16 - (q : Int))))) 65 6 (((c9 65 5) * (q : Int)) + ((c9 65 6) * (16 - (q : Int))))) 65 5 (((c9 65 4) * (q : Int)) + ((c9 65 5) * (16 - (q : Int))))) 65 4 (((c9 65 3) * (q : Int)) + ((c9 65 4) * (16 - (q : Int))))) 65 3 (((c9 65 2) * (q : Int)) + ((c9 65 3) * (16 - (q : Int))))) 65 2 (((c9 65 1) * (q : Int)) + ((c9 65 2) * (16 - (q : Int))))) 65 1 (((c9 65 0) * (q : Int)) + ((c9 65 1) * (16 - (q : Int))))) 65 0 ((c9 65 0) * (16 - (q : Int)))) (by omega) (by rw [hB0, Int.pow_succ]; omega) (fun t ht => by match t, ht with
      | 0, _ => exact Eq.trans (b := ((c9 65 0) * (16 - (q : Int)))) (up_e rfl) (frl_z hq (hcr 0 (by decide)) (Int.add_zero _).symm)
      | 1, _ => exact Eq.trans (b := ((c9 65 0) * (q : Int)) + ((c9 65 1) * (16 - (q : Int)))) ((up_n (by decide)).trans (up_e rfl)) (frl_r 0 hq (by decide) (hcr 1 (by decide)) (hcr 0 (by decide)) rfl)
      | 2, _ => exact Eq.trans (b := ((c9 65 1) * (q : Int)) + ((c9 65 2) * (16 - (q : Int)))) ((up_n (by decide)).trans ((up_n (by decide)).trans (up_e rfl))) (frl_r 1 hq (by decide) (hcr 2 (by decide)) (hcr 1 (by decide)) rfl)
      | 3, _ => exact Eq.trans (b := ((c9 65 2) * (q : Int)) + ((c9 65 3) * (16 - (q : Int)))) ((up_n (by decide)).trans ((up_n (by decide)).trans ((up_n (by decide)).trans (up_e rfl)))) (frl_r 2 hq (by decide) (hcr 3 (by decide)) (hcr 2 (by decide)) rfl)
      | 4, _ => exact Eq.trans (b := ((c9 65 3) * (q : Int)) + ((c9 65 4) * (16 - (q : Int)))) ((up_n (by decide)).trans ((up_n (by decide)).trans ((up_n (by decide)).trans ((up_n (by decide)).trans (up_e rfl))))) (frl_r 3 hq (by decide) (hcr 4 (by decide)) (hcr 3 (by decide)) rfl)
      | 5, _ => exact Eq.trans (b := ((c9 65 4) * (q : Int)) + ((c9 65 5) * (16 - (q : Int)))) ((up_n (by decide)).trans ((up_n (by decide)).trans ((up_n (by decide)).trans ((up_n (by decide)).trans ((up_n (by decide)).trans (up_e rfl)))))) (frl_r 4 hq (by decide) (hcr 5 (by decide)) (hcr 4 (by decide)) rfl)
      | 6, _ => exact Eq.trans (b := ((c9 65 5) * (q : Int)) + ((c9 65 6) * (16 - (q : Int)))) ((up_n (by decide)).trans ((up_n (by decide)).trans ((up_n (by decide)).trans ((up_n (by decide)).trans ((up_n (by decide)).trans ((up_n (by decide)).trans (up_e rfl))))))) (frl_r 5 hq (by decide) (hcr 6 (by decide)) (hcr 5 (by decide)) rfl)
      | 7, _ => exact Eq.trans (b := ((c9 65 6) * (q : Int)) + ((c9 65 7) * (16 - (q : Int)))) ((up_n (by decide)).trans ((up_n (by decide)).trans ((up_n (by decide)).trans ((up_n (by decide)).trans ((up_n (by decide)).trans ((up_n (by decide)).trans ((up_n (by decide)).trans (up_e rfl)))))))) (frl_r 6 hq (by decide) (hcr 7 (by decide)) (hcr 6 (by decide)) rfl)
      | 8, _ => exact Eq.trans (b := ((c9 65 7) * (q : Int)) + ((c9 65 8) * (16 - (q : Int)))) ((up_n (by decide)).trans ((up_n (by decide)).trans ((up_n (by decide)).trans ((up_n (by decide)).trans ((up_n (by decide)).trans ((up_n (by decide)).trans ((up_n (by decide)).trans ((up_n (by decide)).trans (up_e rfl))))))))) (frl_r 7 hq (by decide) (hcr 8 (by decide)) (hcr 7 (by decide)) rfl)
      | 9, _ => exact Eq.trans (b := ((c9 65 8) * (q : Int)) + ((c9 65 9) * (16 - (q : Int)))) ((up_n (by decide)).trans ((up_n (by decide)).trans ((up_n (by decide)).trans ((up_n (by decide)).trans ((up_n (by decide)).trans ((up_n (by decide)).trans ((up_n (by decide)).trans ((up_n (by decide)).trans ((up_n (by decide)).trans (up_e rfl)))))))))) (frl_r 8 hq (by decide) (hcr 9 (by decide)) (hcr 8 (by decide)) rfl)
      | 10, _ => exact Eq.trans (b := ((c9 65 10) * (16 - (q : Int))) + ((c9 65 9) * (q : Int))) ((up_n (by decide)).trans ((up_n (by decide)).trans ((up_n (by decide)).trans ((up_n (by decide)).trans ((up_n (by decide)).trans ((up_n (by decide)).trans ((up_n (by decide)).trans ((up_n (by decide)).trans ((up_n (by decide)).trans ((up_n (by decide)).trans (up_e rfl))))))))))) (frl_s 9 hq (by decide) (hcr 10 (by decide)) (hcr 9 (by decide)) rfl)
      | 11, _ => exact Eq.trans (b := ((c9 65 10) * (q : Int)) + ((c9 65 11) * (16 - (q : Int)))) ((up_n (by decide)).trans ((up_n (by decide)).trans ((up_n (by decide)).trans ((up_n (by decide)).trans ((up_n (by decide)).trans ((up_n (by decide)).trans ((up_n (by decide)).trans ((up_n (by decide)).trans ((up_n (by decide)).trans ((up_n (by decide)).trans ((up_n (by decide)).trans (up_e rfl)))))))))))) (frl_r 10 hq (by decide) (hcr 11 (by decide)) (hcr 10 (by decide)) rfl)
      | 12, _ => exact Eq.trans (b := ((c9 65 11) * (q : Int)) + ((c9 65 12) * (16 - (q : Int)))) ((up_n (by decide)).trans ((up_n (by decide)).trans ((up_n (by decide)).trans ((up_n (by decide)).trans ((up_n (by decide)).trans ((up_n (by decide)).trans ((up_n (by decide)).trans ((up_n (by decide)).trans ((up_n (by decide)).trans ((up_n (by decide)).trans ((up_n (by decide)).trans ((up_n (by decide)).trans (up_e rfl))))))))))))) (frl_r 11 hq (by decide) (hcr 12 (by decide)) (hcr 11 (by decide)) rfl)
      | 13, _ => exact Eq.trans (b := ((c9 65 12) * (q : Int)) + ((c9 65 13) * (16 - (q : Int)))) ((up_n (by decide)).trans ((up_n (by decide)).trans ((up_n (by decide)).trans ((up_n (by decide)).trans ((up_n (by decide)).trans ((up_n (by decide)).trans ((up_n (by decide)).trans ((up_n (by decide)).trans ((up_n (by decide)).trans ((up_n (by decide)).trans ((up_n (by decide)).trans ((up_n (by decide)).trans ((up_n (by decide)).trans (up_e rfl)))))))))))))) (frl_r 12 hq (by decide) (hcr 13 (by decide)) (hcr 12 (by decide)) rfl)
      | t + 14, h => exact absurd h (by omega)) (fun a ha => by rw [← hc9 a ha]; funext j; repeat rw [up_c ha]) (by omega)

set_option maxRecDepth 100000 in
set_option maxHeartbeats 4000000 in
theorem m_234 {sc : List Int32} {d : Nat} {P Q N T : Nat} {c : ME} {Z : AR → Prop} {x1 : Int} {x2 : Int} {x3 : Int} {x4 : Int} (n : Nat) (k : Nat) (q : Nat) (half : Nat) (hx1 : x1 = (n : Int)) (hx2 : x2 = (k : Int)) (hx3 : x3 = (q : Int)) (hx4 : x4 = (half : Int)) (hn : n ≤ 12) (hk : k ≤ 13) (hq : q ≤ 16) (hh : half ≤ 1) (K : ∀ c2 : ME, (∀ a : Nat, ¬ a = 65 → c2 a = up c 41 0 0 a) → Z (.inl (some (vl (fref n k q half))), Wd P Q N T c2, 0, 0)) : Wp sc (d + 2) 234 0 [(0, .ref 41), (1, vi x1), (2, vi x2), (3, vi x3), (4, vi x4)] [] (Wd P Q N T c) 0 0 Z := by
  subst hx1 hx2 hx3 hx4
  refine q_aload_n rfl rfl ?_
  refine q_iconst rfl ?_
  refine v_pi (z := 0) rfl rfl rfl (by decide) rfl rfl rfl (by decide) ?_
  refine q_aload_n rfl rfl ?_
  refine q_iload_n rfl rfl ?_
  refine q_iconst rfl ?_
  refine v_bip rfl (by decide) ?_
  refine q_call rfl rfl rfl rfl ?_
  refine q_iload_n rfl rfl ?_
  refine q_iload_n rfl rfl ?_
  refine v_ic_lt_f (t := 14) rfl (by decide) (by omega) ?_
  refine q_iload_n rfl rfl ?_
  refine q_iload_n rfl rfl ?_
  refine v_ic_gt_f (t := 14) rfl (by decide) (by omega) ?_
  refine q_iconst rfl ?_
  refine q_goto (t := 15) rfl (by decide) ?_
  refine v_zret rfl rfl (by omega) ?_
  refine bk_inl ?_
  refine v_if_eq_f (t := 50) rfl (by decide) (by decide) ?_
  refine q_iload_n rfl rfl ?_
  refine q_iconst rfl ?_
  refine v_bip rfl (by decide) ?_
  refine q_call rfl rfl rfl rfl ?_
  refine q_iload_n rfl rfl ?_
  refine q_iload_n rfl rfl ?_
  refine v_ic_lt_f (t := 14) rfl (by decide) (by omega) ?_
  refine q_iload_n rfl rfl ?_
  refine q_iload_n rfl rfl ?_
  refine v_ic_gt_f (t := 14) rfl (by decide) (by omega) ?_
  refine q_iconst rfl ?_
  refine q_goto (t := 15) rfl (by decide) ?_
  refine v_zret rfl rfl (by omega) ?_
  refine bk_inl ?_
  refine v_if_eq_f (t := 50) rfl (by decide) (by decide) ?_
  refine q_iload_n rfl rfl ?_
  refine q_iconst rfl ?_
  refine v_bip rfl (by decide) ?_
  refine q_call rfl rfl rfl rfl ?_
  refine q_iload_n rfl rfl ?_
  refine q_iload_n rfl rfl ?_
  refine v_ic_lt_f (t := 14) rfl (by decide) (by omega) ?_
  refine q_iload_n rfl rfl ?_
  refine q_iload_n rfl rfl ?_
  refine v_ic_gt_f (t := 14) rfl (by decide) (by omega) ?_
  refine q_iconst rfl ?_
  refine q_goto (t := 15) rfl (by decide) ?_
  refine v_zret rfl rfl (by omega) ?_
  refine bk_inl ?_
  refine v_if_eq_f (t := 50) rfl (by decide) (by decide) ?_
  refine q_iload rfl rfl ?_
  refine q_iconst rfl ?_
  refine q_iconst rfl ?_
  refine q_call rfl rfl rfl rfl ?_
  refine q_iload_n rfl rfl ?_
  refine q_iload_n rfl rfl ?_
  refine v_ic_lt_f (t := 14) rfl (by decide) (by omega) ?_
  refine q_iload_n rfl rfl ?_
  refine q_iload_n rfl rfl ?_
  refine v_ic_gt_f (t := 14) rfl (by decide) (by omega) ?_
  refine q_iconst rfl ?_
  refine q_goto (t := 15) rfl (by decide) ?_
  refine v_zret rfl rfl (by omega) ?_
  refine bk_inl ?_
  refine v_if_eq_f (t := 50) rfl (by decide) (by decide) ?_
  refine q_iconst rfl ?_
  refine q_goto (t := 51) rfl (by decide) ?_
  refine q_iconst rfl ?_
  refine q_iconst rfl ?_
  refine v_cv rfl rfl rfl rfl (by decide) ⟨⟨rfl, rfl⟩, by decide, rfl⟩ (Nat.le_of_ble_eq_true rfl) (Nat.le_of_ble_eq_true rfl) ?_
  refine q_iload_n rfl rfl ?_
  refine v_if_ne_t (t := 26) rfl (by decide) (by decide) ?_
  refine q_aload_n rfl rfl ?_
  refine v_gi (z := 0) (v := 0) rfl rfl rfl (by decide) rfl rfl (up_e rfl) ?_
  refine v_if_ne_f (t := 37) rfl (by decide) (by decide) ?_
  refine q_iconst rfl ?_
  refine q_goto (t := 38) rfl (by decide) ?_
  refine v_zret rfl rfl (by omega) ?_
  refine bk_inl ?_
  refine v_if_ne_t (t := 61) rfl (by decide) (by decide) ?_
  refine q_iconst rfl ?_
  refine q_istore rfl (by decide) ?_
  refine q_iload rfl rfl ?_
  refine v_bip rfl (by decide) ?_
  refine v_ic_ge_f (t := 94) rfl (by decide) (by decide) ?_
  refine q_aload_n rfl rfl ?_
  refine v_gr (t := 65) rfl rfl rfl (by decide) rfl ?_
  refine q_iload rfl rfl ?_
  refine q_iload rfl rfl ?_
  refine v_if_ne_f (t := 86) rfl (by decide) (by decide) ?_
  refine v_lconst (z := 1) rfl (by decide) ?_
  refine q_goto (t := 87) rfl (by decide) ?_
  refine v_ls rfl rfl (by decide) (by decide) (by decide) ?_
  refine v_iinc (v := 1) rfl rfl (by decide) (by decide) ?_
  refine q_goto (t := 64) rfl (by decide) ?_
  refine q_iload rfl rfl ?_
  refine v_bip rfl (by decide) ?_
  refine v_ic_ge_f (t := 94) rfl (by decide) (by decide) ?_
  refine q_aload_n rfl rfl ?_
  refine v_gr (t := 65) rfl rfl rfl (by decide) rfl ?_
  refine q_iload rfl rfl ?_
  refine q_iload rfl rfl ?_
  refine v_if_ne_t (t := 86) rfl (by decide) (by decide) ?_
  refine v_lconst (z := 0) rfl (by decide) ?_
  refine v_ls rfl rfl (by decide) (by decide) (by decide) ?_
  refine v_iinc (v := 2) rfl rfl (by decide) (by decide) ?_
  refine q_goto (t := 64) rfl (by decide) ?_
  refine q_iload rfl rfl ?_
  refine v_bip rfl (by decide) ?_
  refine v_ic_ge_f (t := 94) rfl (by decide) (by decide) ?_
  refine q_aload_n rfl rfl ?_
  refine v_gr (t := 65) rfl rfl rfl (by decide) rfl ?_
  refine q_iload rfl rfl ?_
  refine q_iload rfl rfl ?_
  refine v_if_ne_t (t := 86) rfl (by decide) (by decide) ?_
  refine v_lconst (z := 0) rfl (by decide) ?_
  refine v_ls rfl rfl (by decide) (by decide) (by decide) ?_
  refine v_iinc (v := 3) rfl rfl (by decide) (by decide) ?_
  refine q_goto (t := 64) rfl (by decide) ?_
  refine q_iload rfl rfl ?_
  refine v_bip rfl (by decide) ?_
  refine v_ic_ge_f (t := 94) rfl (by decide) (by decide) ?_
  refine q_aload_n rfl rfl ?_
  refine v_gr (t := 65) rfl rfl rfl (by decide) rfl ?_
  refine q_iload rfl rfl ?_
  refine q_iload rfl rfl ?_
  refine v_if_ne_t (t := 86) rfl (by decide) (by decide) ?_
  refine v_lconst (z := 0) rfl (by decide) ?_
  refine v_ls rfl rfl (by decide) (by decide) (by decide) ?_
  refine v_iinc (v := 4) rfl rfl (by decide) (by decide) ?_
  refine Wp_ls [(5, vi 4), (0, .ref 41), (1, vi (n : Int)), (2, vi (k : Int)), (3, vi (q : Int)), (4, vi (half : Int))] (lsub_cons rfl (lsub_cons rfl (lsub_cons rfl (lsub_cons rfl (lsub_cons rfl (lsub_cons rfl lsub_nil)))))) ?_
  refine q_goto (t := 64) rfl (by decide) ?_
  refine q_iload rfl rfl ?_
  refine v_bip rfl (by decide) ?_
  refine v_ic_ge_f (t := 94) rfl (by decide) (by decide) ?_
  refine q_aload_n rfl rfl ?_
  refine v_gr (t := 65) rfl rfl rfl (by decide) rfl ?_
  refine q_iload rfl rfl ?_
  refine q_iload rfl rfl ?_
  refine v_if_ne_t (t := 86) rfl (by decide) (by decide) ?_
  refine v_lconst (z := 0) rfl (by decide) ?_
  refine v_ls rfl rfl (by decide) (by decide) (by decide) ?_
  refine v_iinc (v := 5) rfl rfl (by decide) (by decide) ?_
  refine q_goto (t := 64) rfl (by decide) ?_
  refine q_iload rfl rfl ?_
  refine v_bip rfl (by decide) ?_
  refine v_ic_ge_f (t := 94) rfl (by decide) (by decide) ?_
  refine q_aload_n rfl rfl ?_
  refine v_gr (t := 65) rfl rfl rfl (by decide) rfl ?_
  refine q_iload rfl rfl ?_
  refine q_iload rfl rfl ?_
  refine v_if_ne_t (t := 86) rfl (by decide) (by decide) ?_
  refine v_lconst (z := 0) rfl (by decide) ?_
  refine v_ls rfl rfl (by decide) (by decide) (by decide) ?_
  refine v_iinc (v := 6) rfl rfl (by decide) (by decide) ?_
  refine q_goto (t := 64) rfl (by decide) ?_
  refine q_iload rfl rfl ?_
  refine v_bip rfl (by decide) ?_
  refine v_ic_ge_f (t := 94) rfl (by decide) (by decide) ?_
  refine q_aload_n rfl rfl ?_
  refine v_gr (t := 65) rfl rfl rfl (by decide) rfl ?_
  refine q_iload rfl rfl ?_
  refine q_iload rfl rfl ?_
  refine v_if_ne_t (t := 86) rfl (by decide) (by decide) ?_
  refine v_lconst (z := 0) rfl (by decide) ?_
  refine v_ls rfl rfl (by decide) (by decide) (by decide) ?_
  refine v_iinc (v := 7) rfl rfl (by decide) (by decide) ?_
  refine q_goto (t := 64) rfl (by decide) ?_
  refine q_iload rfl rfl ?_
  refine v_bip rfl (by decide) ?_
  refine v_ic_ge_f (t := 94) rfl (by decide) (by decide) ?_
  refine q_aload_n rfl rfl ?_
  refine v_gr (t := 65) rfl rfl rfl (by decide) rfl ?_
  refine q_iload rfl rfl ?_
  refine q_iload rfl rfl ?_
  refine v_if_ne_t (t := 86) rfl (by decide) (by decide) ?_
  refine v_lconst (z := 0) rfl (by decide) ?_
  refine v_ls rfl rfl (by decide) (by decide) (by decide) ?_
  refine v_iinc (v := 8) rfl rfl (by decide) (by decide) ?_
  refine q_goto (t := 64) rfl (by decide) ?_
  refine q_iload rfl rfl ?_
  refine v_bip rfl (by decide) ?_
  refine v_ic_ge_f (t := 94) rfl (by decide) (by decide) ?_
  refine q_aload_n rfl rfl ?_
  refine v_gr (t := 65) rfl rfl rfl (by decide) rfl ?_
  refine q_iload rfl rfl ?_
  refine q_iload rfl rfl ?_
  refine v_if_ne_t (t := 86) rfl (by decide) (by decide) ?_
  refine v_lconst (z := 0) rfl (by decide) ?_
  refine v_ls rfl rfl (by decide) (by decide) (by decide) ?_
  refine v_iinc (v := 9) rfl rfl (by decide) (by decide) ?_
  refine Wp_ls [(5, vi 9), (0, .ref 41), (1, vi (n : Int)), (2, vi (k : Int)), (3, vi (q : Int)), (4, vi (half : Int))] (lsub_cons rfl (lsub_cons rfl (lsub_cons rfl (lsub_cons rfl (lsub_cons rfl (lsub_cons rfl lsub_nil)))))) ?_
  refine q_goto (t := 64) rfl (by decide) ?_
  refine q_iload rfl rfl ?_
  refine v_bip rfl (by decide) ?_
  refine v_ic_ge_f (t := 94) rfl (by decide) (by decide) ?_
  refine q_aload_n rfl rfl ?_
  refine v_gr (t := 65) rfl rfl rfl (by decide) rfl ?_
  refine q_iload rfl rfl ?_
  refine q_iload rfl rfl ?_
  refine v_if_ne_t (t := 86) rfl (by decide) (by decide) ?_
  refine v_lconst (z := 0) rfl (by decide) ?_
  refine v_ls rfl rfl (by decide) (by decide) (by decide) ?_
  refine v_iinc (v := 10) rfl rfl (by decide) (by decide) ?_
  refine q_goto (t := 64) rfl (by decide) ?_
  refine q_iload rfl rfl ?_
  refine v_bip rfl (by decide) ?_
  refine v_ic_ge_f (t := 94) rfl (by decide) (by decide) ?_
  refine q_aload_n rfl rfl ?_
  refine v_gr (t := 65) rfl rfl rfl (by decide) rfl ?_
  refine q_iload rfl rfl ?_
  refine q_iload rfl rfl ?_
  refine v_if_ne_t (t := 86) rfl (by decide) (by decide) ?_
  refine v_lconst (z := 0) rfl (by decide) ?_
  refine v_ls rfl rfl (by decide) (by decide) (by decide) ?_
  refine v_iinc (v := 11) rfl rfl (by decide) (by decide) ?_
  refine q_goto (t := 64) rfl (by decide) ?_
  refine q_iload rfl rfl ?_
  refine v_bip rfl (by decide) ?_
  refine v_ic_ge_f (t := 94) rfl (by decide) (by decide) ?_
  refine q_aload_n rfl rfl ?_
  refine v_gr (t := 65) rfl rfl rfl (by decide) rfl ?_
  refine q_iload rfl rfl ?_
  refine q_iload rfl rfl ?_
  refine v_if_ne_t (t := 86) rfl (by decide) (by decide) ?_
  refine v_lconst (z := 0) rfl (by decide) ?_
  refine v_ls rfl rfl (by decide) (by decide) (by decide) ?_
  refine v_iinc (v := 12) rfl rfl (by decide) (by decide) ?_
  refine q_goto (t := 64) rfl (by decide) ?_
  refine q_iload rfl rfl ?_
  refine v_bip rfl (by decide) ?_
  refine v_ic_ge_f (t := 94) rfl (by decide) (by decide) ?_
  refine q_aload_n rfl rfl ?_
  refine v_gr (t := 65) rfl rfl rfl (by decide) rfl ?_
  refine q_iload rfl rfl ?_
  refine q_iload rfl rfl ?_
  refine v_if_ne_t (t := 86) rfl (by decide) (by decide) ?_
  refine v_lconst (z := 0) rfl (by decide) ?_
  refine v_ls rfl rfl (by decide) (by decide) (by decide) ?_
  refine v_iinc (v := 13) rfl rfl (by decide) (by decide) ?_
  refine q_goto (t := 64) rfl (by decide) ?_
  refine q_iload rfl rfl ?_
  refine v_bip rfl (by decide) ?_
  refine v_ic_ge_f (t := 94) rfl (by decide) (by decide) ?_
  refine q_aload_n rfl rfl ?_
  refine v_gr (t := 65) rfl rfl rfl (by decide) rfl ?_
  refine q_iload rfl rfl ?_
  refine q_iload rfl rfl ?_
  refine v_if_ne_t (t := 86) rfl (by decide) (by decide) ?_
  refine v_lconst (z := 0) rfl (by decide) ?_
  refine v_ls rfl rfl (by decide) (by decide) (by decide) ?_
  refine v_iinc (v := 14) rfl rfl (by decide) (by decide) ?_
  refine Wp_ls [(5, vi 14), (0, .ref 41), (1, vi (n : Int)), (2, vi (k : Int)), (3, vi (q : Int)), (4, vi (half : Int))] (lsub_cons rfl (lsub_cons rfl (lsub_cons rfl (lsub_cons rfl (lsub_cons rfl (lsub_cons rfl lsub_nil)))))) ?_
  refine q_goto (t := 64) rfl (by decide) ?_
  refine q_iload rfl rfl ?_
  refine v_bip rfl (by decide) ?_
  refine v_ic_ge_t (t := 94) rfl (by decide) (by decide) ?_
  refine v_lconst (z := 1) rfl (by decide) ?_
  refine q_lstore rfl (by decide) ?_
  refine q_iconst rfl ?_
  refine q_istore rfl (by decide) ?_
  refine Wp_ls [(0, .ref 41), (1, vi (n : Int)), (2, vi (k : Int)), (3, vi (q : Int)), (4, vi (half : Int)), (5, vl 1), (7, vi 0)] (lsub_cons rfl (lsub_cons rfl (lsub_cons rfl (lsub_cons rfl (lsub_cons rfl (lsub_cons rfl (lsub_cons rfl lsub_nil))))))) ?_
  exact m_234_r (n := n) (k := k) (q := q) (half := half) (c := (up c 41 0 0)) hn hk hq hh K 14 0 1 (up (up (up (up (up (up (up (up (up (up (up (up (up (up (up c 41 0 0) 65 0 1) 65 1 0) 65 2 0) 65 3 0) 65 4 0) 65 5 0) 65 6 0) 65 7 0) 65 8 0) 65 9 0) 65 10 0) 65 11 0) 65 12 0) 65 13 0) (by omega) (Int.pow_zero 16).symm (fun t ht => by match t, ht with
      | 0, _ => rfl
      | 1, _ => rfl
      | 2, _ => rfl
      | 3, _ => rfl
      | 4, _ => rfl
      | 5, _ => rfl
      | 6, _ => rfl
      | 7, _ => rfl
      | 8, _ => rfl
      | 9, _ => rfl
      | 10, _ => rfl
      | 11, _ => rfl
      | 12, _ => rfl
      | 13, _ => rfl
      | t + 14, h => exact absurd h (by omega)) (fun a ha => by funext j; repeat rw [up_c ha]) (by omega)
end
