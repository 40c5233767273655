/-! ===== runs of the abstract machine, as rules ===== -/
noncomputable def Wp (sc : List Int32) (d k pc : Nat) (ls : AL) (st : List Value) (w : AW) (nc ns : Nat) (Q : AR → Prop) : Prop := ∃ (n : Nat) (r : AR), ev sc n d k pc ls st w nc ns = some r ∧ Q r
theorem bk_mono {k pc j : Nat} {rest : List Value} {nc ns : Nat} {go go' : List Value → AW → Nat → Nat → Option AR} {x x' : Option AR} {r : AR} (hg : ∀ st w a b r, go st w a b = some r → go' st w a b = some r) (hx : ∀ r, x = some r → x' = some r) (h : a_bk k pc j rest nc ns go x = some r) : a_bk k pc j rest nc ns go' x' = some r := by
  cases x with
  | none => cases h
  | some y =>
    rw [hx y rfl]
    obtain ⟨o, w', a, b⟩ := y
    cases o with
    | inl v => exact hg _ _ _ _ _ h
    | inr v => exact h
theorem ev_mono {sc : List Int32} : ∀ {n d k pc : Nat} {ls : AL} {st : List Value} {w : AW} {nc ns : Nat} {r : AR}, ev sc n d k pc ls st w nc ns = some r → ev sc (n + 1) d k pc ls st w nc ns = some r
  | 0, _, _, _, _, _, _, _, _, _, h => by cases h
  | n + 1, d, k, pc, ls, st, w, nc, ns, r, h => by
    unfold ev at h ⊢
    split at h
    · cases h
    · rename_i i len hd
      try rw [hd]
      try dsimp only
      split at h
      · rename_i pc' ls' st' w' a b hi
        try rw [hi]
        exact ev_mono h
      · rename_i hi
        try rw [hi]
        try dsimp only
        split at h
        · rename_i o a b hf
          try rw [hf]
          exact h
        · rename_i hf
          try rw [hf]
          try dsimp only
          split at h
          · rename_i j ags rest hc
            try rw [hc]
            cases d with
            | zero => cases h
            | succ d' => exact bk_mono (fun _ _ _ _ _ hh => ev_mono hh) (fun _ hh => ev_mono hh) h
          · cases h
theorem ev_le {sc : List Int32} {n d k pc : Nat} {ls : AL} {st : List Value} {w : AW} {nc ns : Nat} {r : AR} (h : ev sc n d k pc ls st w nc ns = some r) : ∀ m : Nat, ev sc (n + m) d k pc ls st w nc ns = some r
  | 0 => h
  | m + 1 => ev_mono (ev_le h m)
theorem ev_to {sc : List Int32} {n n' d k pc : Nat} {ls : AL} {st : List Value} {w : AW} {nc ns : Nat} {r : AR} (h : ev sc n d k pc ls st w nc ns = some r) (hn : n ≤ n') : ev sc n' d k pc ls st w nc ns = some r := by
  obtain ⟨m, rfl⟩ := Nat.exists_eq_add_of_le hn
  exact ev_le h m
section WPR
variable {sc : List Int32} {d k pc len nc ns : Nat} {ls : AL} {st r : List Value} {w : AW} {Q : AR → Prop}
theorem q_ins {i : Instr} {pc' a b : Nat} {ls' : AL} {st' : List Value} {w' : AW} (hd : mLk k pc = some (i, len)) (h : ins sc d k pc ls st w i = some (pc', ls', st', w', a, b)) (K : Wp sc d k pc' ls' st' w' (nc + a) (ns + b) Q) : Wp sc d k pc ls st w nc ns Q := by
  obtain ⟨n, x, h1, h2⟩ := K
  refine ⟨n + 1, x, ?_, h2⟩
  unfold ev
  rw [hd]
  dsimp only
  rw [h]
  exact h1
theorem q_fin {i : Instr} {oo : Option Value ⊕ Nat} {a b : Nat} (hd : mLk k pc = some (i, len)) (hi : ins sc d k pc ls st w i = none) (h : fin d k pc st i = some (oo, a, b)) (K : Q (oo, w, nc + a, ns + b)) : Wp sc d k pc ls st w nc ns Q := by
  refine ⟨1, _, ?_, K⟩
  unfold ev
  rw [hd]
  dsimp only
  rw [hi]
  dsimp only
  rw [h]
theorem q_cal0 {i : Instr} {j : Nat} {ags rest : List Value} {Q0 : AR → Prop} (hd : mLk k pc = some (i, len)) (hi : ins sc (d + 1) k pc ls st w i = none) (hf : fin (d + 1) k pc st i = none) (hc : cal k st w i = some (j, ags, rest)) (C : Wp sc d j 0 (lv_args 0 ags) [] w 0 0 Q0)
    (K : ∀ x : AR, Q0 x → ∃ (n : Nat) (y : AR), a_bk k pc j rest nc ns (fun st' w' a b => ev sc n (d + 1) k (pc + 3) ls st' w' a b) (some x) = some y ∧ Q y) : Wp sc (d + 1) k pc ls st w nc ns Q := by
  obtain ⟨n1, x, h1, h2⟩ := C
  obtain ⟨n2, y, h3, h4⟩ := K x h2
  refine ⟨n1 + n2 + 1, y, ?_, h4⟩
  unfold ev
  rw [hd]
  dsimp only
  rw [hi]
  dsimp only
  rw [hf]
  dsimp only
  rw [hc]
  dsimp only
  refine bk_mono (fun _ _ _ _ _ hh => ev_to hh (by omega)) (fun r hh => ?_) h3
  rw [← hh]
  exact ev_to h1 (by omega)
/-- a call that answers -/
theorem q_cal {i : Instr} {j : Nat} {ags rest : List Value} {Q0 : Option Value → AW → Nat → Nat → Prop} (hd : mLk k pc = some (i, len)) (hi : ins sc (d + 1) k pc ls st w i = none) (hf : fin (d + 1) k pc st i = none) (hc : cal k st w i = some (j, ags, rest)) (C : Wp sc d j 0 (lv_args 0 ags) [] w 0 0 (fun x => ∃ v, x.1 = .inl v ∧ Q0 v x.2.1 x.2.2.1 x.2.2.2))
    (K : ∀ (v : Option Value) (w' : AW) (a b : Nat), Q0 v w' a b → Wp sc (d + 1) k (pc + 3) ls (v.toList ++ rest) w' (nc + a) (ns + b) Q) : Wp sc (d + 1) k pc ls st w nc ns Q := by
  refine q_cal0 hd hi hf hc C ?_
  rintro ⟨o, w', a, b⟩ ⟨v, rfl, hq⟩
  obtain ⟨n, y, h1, h2⟩ := K v w' a b hq
  exact ⟨n, y, h1, h2⟩
/-- a call that throws, and is caught -/
theorem q_thr {i : Instr} {j x : Nat} {z : Int32} {ags rest : List Value} {Q0 : AW → Nat → Nat → Prop} (hd : mLk k pc = some (i, len)) (hi : ins sc (d + 1) k pc ls st w i = none) (hf : fin (d + 1) k pc st i = none) (hc : cal k st w i = some (j, ags, rest)) (hj : mD j = 0) (hh : ∃ y ys, mH k = y :: ys) (hz : a_hnd k pc x = some z)
    (C : Wp sc d j 0 (lv_args 0 ags) [] w 0 0 (fun y => y.1 = .inr x ∧ Q0 y.2.1 y.2.2.1 y.2.2.2)) (K : ∀ (w' : AW) (a b : Nat), Q0 w' a b → Q (.inl (some (.int z)), w', nc + a, ns + b)) : Wp sc (d + 1) k pc ls st w nc ns Q := by
  refine q_cal0 hd hi hf hc C ?_
  rintro ⟨o, w', a, b⟩ ⟨h9, hq⟩
  obtain ⟨y, ys, hy⟩ := hh
  refine ⟨0, _, ?_, K w' a b hq⟩
  cases h9
  show (if mD j = 0 then _ else none) = _
  rw [if_pos hj, hy]
  dsimp only
  rw [hz]
/-- a call that throws, and goes on to the caller -/
theorem q_out {i : Instr} {j x : Nat} {ags rest : List Value} {Q0 : AW → Nat → Nat → Prop} (hd : mLk k pc = some (i, len)) (hi : ins sc (d + 1) k pc ls st w i = none) (hf : fin (d + 1) k pc st i = none) (hc : cal k st w i = some (j, ags, rest)) (hj : mD j = 0) (hh : mH k = [])
    (C : Wp sc d j 0 (lv_args 0 ags) [] w 0 0 (fun y => y.1 = .inr x ∧ Q0 y.2.1 y.2.2.1 y.2.2.2)) (K : ∀ (w' : AW) (a b : Nat), Q0 w' a b → Q (.inr x, w', nc + a, ns + b)) : Wp sc (d + 1) k pc ls st w nc ns Q := by
  refine q_cal0 hd hi hf hc C ?_
  rintro ⟨o, w', a, b⟩ ⟨h9, hq⟩
  refine ⟨0, _, ?_, K w' a b hq⟩
  cases h9
  show (if mD j = 0 then _ else none) = _
  rw [if_pos hj, hh]
theorem Wp.post {Q' : AR → Prop} (h : Wp sc d k pc ls st w nc ns Q) (hQ : ∀ r, Q r → Q' r) : Wp sc d k pc ls st w nc ns Q' := by
  obtain ⟨n, r, h1, h2⟩ := h
  exact ⟨n, r, h1, hQ r h2⟩
theorem q_iconst {n : Int} (hd : mLk k pc = some (.iconst n, len)) (K : Wp sc d k (pc + 1) ls (.int (Int32.ofInt n) :: st) w nc ns Q) : Wp sc d k pc ls st w nc ns Q := q_ins hd rfl K
theorem q_bipush {n : Int} (hd : mLk k pc = some (.bipush n, len)) (K : Wp sc d k (pc + 2) ls (.int (Int8.ofInt n).toInt32 :: st) w nc ns Q) : Wp sc d k pc ls st w nc ns Q := q_ins hd rfl K
theorem q_sipush {n : Int} (hd : mLk k pc = some (.sipush n, len)) (K : Wp sc d k (pc + 3) ls (.int (Int16.ofInt n).toInt32 :: st) w nc ns Q) : Wp sc d k pc ls st w nc ns Q := q_ins hd rfl K
theorem q_lconst {n : Fin 2} (hd : mLk k pc = some (.lconst n, len)) (K : Wp sc d k (pc + 1) ls (.long (Int64.ofNat (n : Nat)) :: st) w nc ns Q) : Wp sc d k pc ls st w nc ns Q := q_ins hd rfl K
theorem q_iload {i : Nat} {x : Int32} (hd : mLk k pc = some (.iload i, len)) (hv : a_lk ls i = some (.int x)) (K : Wp sc d k (pc + 2) ls (.int x :: st) w nc ns Q) : Wp sc d k pc ls st w nc ns Q := q_ins hd (show a_ldI (a_lk ls i) (pc + 2) ls st w = some (pc + 2, ls, .int x :: st, w, 0, 0) by rw [hv]; rfl) K
theorem q_iload_n {i : Fin 4} {x : Int32} (hd : mLk k pc = some (.iload_n i, len)) (hv : a_lk ls (i : Nat) = some (.int x)) (K : Wp sc d k (pc + 1) ls (.int x :: st) w nc ns Q) : Wp sc d k pc ls st w nc ns Q := q_ins hd (show a_ldI (a_lk ls (i : Nat)) (pc + 1) ls st w = some (pc + 1, ls, .int x :: st, w, 0, 0) by rw [hv]; rfl) K
theorem q_istore {i : Nat} {x : Int32} (hd : mLk k pc = some (.istore i, len)) (hi : i < mX k) (K : Wp sc d k (pc + 2) (a_s1 ls i (.int x)) (r) w nc ns Q) : Wp sc d k pc ls (.int x :: r) w nc ns Q := q_ins hd (show a_stI (mX k) i (pc + 2) ls (.int x :: r) w = some (pc + 2, a_s1 ls i (.int x), r, w, 0, 0) from if_pos hi) K
theorem q_istore_n {i : Fin 4} {x : Int32} (hd : mLk k pc = some (.istore_n i, len)) (hi : (i : Nat) < mX k) (K : Wp sc d k (pc + 1) (a_s1 ls (i : Nat) (.int x)) (r) w nc ns Q) : Wp sc d k pc ls (.int x :: r) w nc ns Q := q_ins hd (show a_stI (mX k) (i : Nat) (pc + 1) ls (.int x :: r) w = some (pc + 1, a_s1 ls (i : Nat) (.int x), r, w, 0, 0) from if_pos hi) K
theorem q_lload {i : Nat} {x : Int64} (hd : mLk k pc = some (.lload i, len)) (hv : a_lk ls i = some (.long x)) (K : Wp sc d k (pc + 2) ls (.long x :: st) w nc ns Q) : Wp sc d k pc ls st w nc ns Q := q_ins hd (show a_ldL (a_lk ls i) (pc + 2) ls st w = some (pc + 2, ls, .long x :: st, w, 0, 0) by rw [hv]; rfl) K
theorem q_lload_n {i : Fin 4} {x : Int64} (hd : mLk k pc = some (.lload_n i, len)) (hv : a_lk ls (i : Nat) = some (.long x)) (K : Wp sc d k (pc + 1) ls (.long x :: st) w nc ns Q) : Wp sc d k pc ls st w nc ns Q := q_ins hd (show a_ldL (a_lk ls (i : Nat)) (pc + 1) ls st w = some (pc + 1, ls, .long x :: st, w, 0, 0) by rw [hv]; rfl) K
theorem q_lstore {i : Nat} {x : Int64} (hd : mLk k pc = some (.lstore i, len)) (hi : i + 1 < mX k) (K : Wp sc d k (pc + 2) (a_s2 ls i (.long x)) (r) w nc ns Q) : Wp sc d k pc ls (.long x :: r) w nc ns Q := q_ins hd (show a_stL (mX k) i (pc + 2) ls (.long x :: r) w = some (pc + 2, a_s2 ls i (.long x), r, w, 0, 0) from if_pos hi) K
theorem q_lstore_n {i : Fin 4} {x : Int64} (hd : mLk k pc = some (.lstore_n i, len)) (hi : (i : Nat) + 1 < mX k) (K : Wp sc d k (pc + 1) (a_s2 ls (i : Nat) (.long x)) (r) w nc ns Q) : Wp sc d k pc ls (.long x :: r) w nc ns Q := q_ins hd (show a_stL (mX k) (i : Nat) (pc + 1) ls (.long x :: r) w = some (pc + 1, a_s2 ls (i : Nat) (.long x), r, w, 0, 0) from if_pos hi) K
theorem q_aload {i : Nat} {x : Nat} (hd : mLk k pc = some (.aload i, len)) (hv : a_lk ls i = some (.ref x)) (K : Wp sc d k (pc + 2) ls (.ref x :: st) w nc ns Q) : Wp sc d k pc ls st w nc ns Q := q_ins hd (show a_ldA (a_lk ls i) (pc + 2) ls st w = some (pc + 2, ls, .ref x :: st, w, 0, 0) by rw [hv]; rfl) K
theorem q_aload_n {i : Fin 4} {x : Nat} (hd : mLk k pc = some (.aload_n i, len)) (hv : a_lk ls (i : Nat) = some (.ref x)) (K : Wp sc d k (pc + 1) ls (.ref x :: st) w nc ns Q) : Wp sc d k pc ls st w nc ns Q := q_ins hd (show a_ldA (a_lk ls (i : Nat)) (pc + 1) ls st w = some (pc + 1, ls, .ref x :: st, w, 0, 0) by rw [hv]; rfl) K
theorem q_astore {i : Nat} {x : Nat} (hd : mLk k pc = some (.astore i, len)) (hi : i < mX k) (K : Wp sc d k (pc + 2) (a_s1 ls i (.ref x)) (r) w nc ns Q) : Wp sc d k pc ls (.ref x :: r) w nc ns Q := q_ins hd (show a_stA (mX k) i (pc + 2) ls (.ref x :: r) w = some (pc + 2, a_s1 ls i (.ref x), r, w, 0, 0) from if_pos hi) K
theorem q_astore_n {i : Fin 4} {x : Nat} (hd : mLk k pc = some (.astore_n i, len)) (hi : (i : Nat) < mX k) (K : Wp sc d k (pc + 1) (a_s1 ls (i : Nat) (.ref x)) (r) w nc ns Q) : Wp sc d k pc ls (.ref x :: r) w nc ns Q := q_ins hd (show a_stA (mX k) (i : Nat) (pc + 1) ls (.ref x :: r) w = some (pc + 1, a_s1 ls (i : Nat) (.ref x), r, w, 0, 0) from if_pos hi) K
theorem q_iinc {i : Nat} {c : Int} {x : Int32} (hd : mLk k pc = some (.iinc i c, len)) (hv : a_lk ls i = some (.int x)) (hi : i < mX k) (K : Wp sc d k (pc + 3) (a_s1 ls i (.int (x + Int32.ofInt c))) (st) w nc ns Q) : Wp sc d k pc ls st w nc ns Q := q_ins hd (show a_inc (mX k) i c pc ls st w = some (pc + 3, a_s1 ls i (.int (x + Int32.ofInt c)), st, w, 0, 0) by unfold a_inc; rw [hv]; exact if_pos hi) K
theorem q_iadd {x y : Int32} (hd : mLk k pc = some (.iadd, len)) (K : Wp sc d k (pc + 1) ls (.int (x + y) :: r) w nc ns Q) : Wp sc d k pc ls (.int y :: .int x :: r) w nc ns Q := q_ins hd rfl K
theorem q_isub {x y : Int32} (hd : mLk k pc = some (.isub, len)) (K : Wp sc d k (pc + 1) ls (.int (x - y) :: r) w nc ns Q) : Wp sc d k pc ls (.int y :: .int x :: r) w nc ns Q := q_ins hd rfl K
theorem q_imul {x y : Int32} (hd : mLk k pc = some (.imul, len)) (K : Wp sc d k (pc + 1) ls (.int (x * y) :: r) w nc ns Q) : Wp sc d k pc ls (.int y :: .int x :: r) w nc ns Q := q_ins hd rfl K
theorem q_iand {x y : Int32} (hd : mLk k pc = some (.iand, len)) (K : Wp sc d k (pc + 1) ls (.int (x &&& y) :: r) w nc ns Q) : Wp sc d k pc ls (.int y :: .int x :: r) w nc ns Q := q_ins hd rfl K
theorem q_ior {x y : Int32} (hd : mLk k pc = some (.ior, len)) (K : Wp sc d k (pc + 1) ls (.int (x ||| y) :: r) w nc ns Q) : Wp sc d k pc ls (.int y :: .int x :: r) w nc ns Q := q_ins hd rfl K
theorem q_ixor {x y : Int32} (hd : mLk k pc = some (.ixor, len)) (K : Wp sc d k (pc + 1) ls (.int (x ^^^ y) :: r) w nc ns Q) : Wp sc d k pc ls (.int y :: .int x :: r) w nc ns Q := q_ins hd rfl K
theorem q_ishl {x y : Int32} (hd : mLk k pc = some (.ishl, len)) (K : Wp sc d k (pc + 1) ls (.int (x <<< (y &&& 31)) :: r) w nc ns Q) : Wp sc d k pc ls (.int y :: .int x :: r) w nc ns Q := q_ins hd rfl K
theorem q_ishr {x y : Int32} (hd : mLk k pc = some (.ishr, len)) (K : Wp sc d k (pc + 1) ls (.int (x >>> (y &&& 31)) :: r) w nc ns Q) : Wp sc d k pc ls (.int y :: .int x :: r) w nc ns Q := q_ins hd rfl K
theorem q_iushr {x y : Int32} (hd : mLk k pc = some (.iushr, len)) (K : Wp sc d k (pc + 1) ls (.int ((x.toUInt32 >>> (y.toUInt32 &&& Int32.toUInt32 31)).toInt32) :: r) w nc ns Q) : Wp sc d k pc ls (.int y :: .int x :: r) w nc ns Q := q_ins hd rfl K
theorem q_idiv {x y : Int32} (hd : mLk k pc = some (.idiv, len)) (hy : ¬ y = 0) (K : Wp sc d k (pc + 1) ls (.int (x / y) :: r) w nc ns Q) : Wp sc d k pc ls (.int y :: .int x :: r) w nc ns Q := q_ins hd (show a_i2z (fun x y => x / y) pc ls (.int y :: .int x :: r) w = some (pc + 1, ls, .int (x / y) :: r, w, 0, 0) from if_neg hy) K
theorem q_irem {x y : Int32} (hd : mLk k pc = some (.irem, len)) (hy : ¬ y = 0) (K : Wp sc d k (pc + 1) ls (.int (x - x / y * y) :: r) w nc ns Q) : Wp sc d k pc ls (.int y :: .int x :: r) w nc ns Q := q_ins hd (show a_i2z (fun x y => x - x / y * y) pc ls (.int y :: .int x :: r) w = some (pc + 1, ls, .int (x - x / y * y) :: r, w, 0, 0) from if_neg hy) K
theorem q_ineg {x : Int32} (hd : mLk k pc = some (.ineg, len)) (K : Wp sc d k (pc + 1) ls (.int (-x) :: r) w nc ns Q) : Wp sc d k pc ls (.int x :: r) w nc ns Q := q_ins hd rfl K
theorem q_i2b {x : Int32} (hd : mLk k pc = some (.i2b, len)) (K : Wp sc d k (pc + 1) ls (.int x.toInt8.toInt32 :: r) w nc ns Q) : Wp sc d k pc ls (.int x :: r) w nc ns Q := q_ins hd rfl K
theorem q_i2l {x : Int32} (hd : mLk k pc = some (.i2l, len)) (K : Wp sc d k (pc + 1) ls (.long x.toInt64 :: r) w nc ns Q) : Wp sc d k pc ls (.int x :: r) w nc ns Q := q_ins hd rfl K
theorem q_ladd {x y : Int64} (hd : mLk k pc = some (.ladd, len)) (K : Wp sc d k (pc + 1) ls (.long (x + y) :: r) w nc ns Q) : Wp sc d k pc ls (.long y :: .long x :: r) w nc ns Q := q_ins hd rfl K
theorem q_lmul {x y : Int64} (hd : mLk k pc = some (.lmul, len)) (K : Wp sc d k (pc + 1) ls (.long (x * y) :: r) w nc ns Q) : Wp sc d k pc ls (.long y :: .long x :: r) w nc ns Q := q_ins hd rfl K
theorem q_ldiv {x y : Int64} (hd : mLk k pc = some (.ldiv, len)) (hy : ¬ y = 0) (K : Wp sc d k (pc + 1) ls (.long (x / y) :: r) w nc ns Q) : Wp sc d k pc ls (.long y :: .long x :: r) w nc ns Q := q_ins hd (show a_l2z (fun x y => x / y) pc ls (.long y :: .long x :: r) w = some (pc + 1, ls, .long (x / y) :: r, w, 0, 0) from if_neg hy) K
theorem q_lrem {x y : Int64} (hd : mLk k pc = some (.lrem, len)) (hy : ¬ y = 0) (K : Wp sc d k (pc + 1) ls (.long (x - x / y * y) :: r) w nc ns Q) : Wp sc d k pc ls (.long y :: .long x :: r) w nc ns Q := q_ins hd (show a_l2z (fun x y => x - x / y * y) pc ls (.long y :: .long x :: r) w = some (pc + 1, ls, .long (x - x / y * y) :: r, w, 0, 0) from if_neg hy) K
theorem q_lcmp {x y : Int64} (hd : mLk k pc = some (.lcmp, len)) (K : Wp sc d k (pc + 1) ls (.int (lg_cmp x y) :: r) w nc ns Q) : Wp sc d k pc ls (.long y :: .long x :: r) w nc ns Q := q_ins hd rfl K
theorem q_ldc_i {x : Nat} {v : Int32} (hd : mLk k pc = some (.ldc x, len)) (hv : a_lk (kI (mK k)) x = some v) (K : Wp sc d k (pc + 2) ls (.int v :: st) w nc ns Q) : Wp sc d k pc ls st w nc ns Q := q_ins hd (show a_ldc (mK k) x (pc + 2) ls st w = some (pc + 2, ls, .int v :: st, w, 0, 0) by unfold a_ldc; rw [hv]; rfl) K
theorem q_ldc_s {x i : Nat} (hd : mLk k pc = some (.ldc x, len)) (hv : a_lk (kI (mK k)) x = none) (hs : a_lk (kS (mK k)) x = some i) (hi : i < sN) (K : Wp sc d k (pc + 2) ls (.ref (a_SB + i) :: st) w nc ns Q) : Wp sc d k pc ls st w nc ns Q := q_ins hd (show a_ldc (mK k) x (pc + 2) ls st w = some (pc + 2, ls, .ref (a_SB + i) :: st, w, 0, 0) by unfold a_ldc; rw [hv, hs]; exact if_pos hi) K
theorem q_ldc_w_i {x : Nat} {v : Int32} (hd : mLk k pc = some (.ldc_w x, len)) (hv : a_lk (kI (mK k)) x = some v) (K : Wp sc d k (pc + 3) ls (.int v :: st) w nc ns Q) : Wp sc d k pc ls st w nc ns Q := q_ins hd (show a_ldc (mK k) x (pc + 3) ls st w = some (pc + 3, ls, .int v :: st, w, 0, 0) by unfold a_ldc; rw [hv]; rfl) K
theorem q_ldc_w_s {x i : Nat} (hd : mLk k pc = some (.ldc_w x, len)) (hv : a_lk (kI (mK k)) x = none) (hs : a_lk (kS (mK k)) x = some i) (hi : i < sN) (K : Wp sc d k (pc + 3) ls (.ref (a_SB + i) :: st) w nc ns Q) : Wp sc d k pc ls st w nc ns Q := q_ins hd (show a_ldc (mK k) x (pc + 3) ls st w = some (pc + 3, ls, .ref (a_SB + i) :: st, w, 0, 0) by unfold a_ldc; rw [hv, hs]; exact if_pos hi) K
theorem q_ldc2 {x : Nat} {v : Int64} (hd : mLk k pc = some (.ldc2_w x, len)) (hv : a_lk (kL (mK k)) x = some v) (K : Wp sc d k (pc + 3) ls (.long v :: st) w nc ns Q) : Wp sc d k pc ls st w nc ns Q := q_ins hd (show a_ldc2 (mK k) x (pc + 3) ls st w = some (pc + 3, ls, .long v :: st, w, 0, 0) by unfold a_ldc2; rw [hv]; rfl) K
theorem q_dup {v : Value} (hd : mLk k pc = some (.dup, len)) (hv : v.category = 1) (K : Wp sc d k (pc + 1) ls (v :: v :: r) w nc ns Q) : Wp sc d k pc ls (v :: r) w nc ns Q := q_ins hd (show a_dup pc ls (v :: r) w = some (pc + 1, ls, v :: v :: r, w, 0, 0) from if_pos hv) K
theorem q_pop {v : Value} (hd : mLk k pc = some (.pop, len)) (hv : v.category = 1) (K : Wp sc d k (pc + 1) ls (r) w nc ns Q) : Wp sc d k pc ls (v :: r) w nc ns Q := q_ins hd (show a_pop pc ls (v :: r) w = some (pc + 1, ls, r, w, 0, 0) from if_pos hv) K
theorem q_dup2 {u v : Value} (hd : mLk k pc = some (.dup2, len)) (hv : u.category = 1 ∧ v.category = 1) (K : Wp sc d k (pc + 1) ls (u :: v :: u :: v :: r) w nc ns Q) : Wp sc d k pc ls (u :: v :: r) w nc ns Q := q_ins hd (show a_dup2 pc ls (u :: v :: r) w = some (pc + 1, ls, u :: v :: u :: v :: r, w, 0, 0) from if_pos hv) K
theorem to_of {t pc : Nat} {off : Int} (h : (pc : Int) + off = (t : Int)) : a_to pc off ls st w = some (t, ls, st, w, 0, 0) := by
  unfold a_to
  rw [h, if_pos (Int.natCast_nonneg t), Int.toNat_natCast]
  rfl
theorem jmp_t {t pc : Nat} {off : Int} {c : Prop} [Decidable c] (h : (pc : Int) + off = (t : Int)) (hc : c) : a_jmp c pc off ls st w = some (t, ls, st, w, 0, 0) := by
  unfold a_jmp
  rw [h, if_pos (Int.natCast_nonneg t), if_pos hc, Int.toNat_natCast]
  rfl
theorem jmp_f {t pc : Nat} {off : Int} {c : Prop} [Decidable c] (h : (pc : Int) + off = (t : Int)) (hc : ¬ c) : a_jmp c pc off ls st w = some (pc + 3, ls, st, w, 0, 0) := by
  unfold a_jmp
  rw [h, if_pos (Int.natCast_nonneg t), if_neg hc]
  rfl
theorem q_goto {off : Int} {t : Nat} (hd : mLk k pc = some (.goto off, len)) (ht : (pc : Int) + off = (t : Int)) (K : Wp sc d k (t) ls (st) w nc ns Q) : Wp sc d k pc ls st w nc ns Q := q_ins hd (to_of ht) K
theorem q_if_eq_t {off : Int} {t : Nat} {x : Int32} (hd : mLk k pc = some (.ifCond .eq off, len)) (ht : (pc : Int) + off = (t : Int)) (hc : x = 0) (K : Wp sc d k (t) ls (r) w nc ns Q) : Wp sc d k pc ls (.int x :: r) w nc ns Q := q_ins hd (jmp_t (c := x = 0) ht hc) K
theorem q_if_eq_f {off : Int} {t : Nat} {x : Int32} (hd : mLk k pc = some (.ifCond .eq off, len)) (ht : (pc : Int) + off = (t : Int)) (hc : ¬ (x = 0)) (K : Wp sc d k (pc + 3) ls (r) w nc ns Q) : Wp sc d k pc ls (.int x :: r) w nc ns Q := q_ins hd (jmp_f (c := x = 0) ht hc) K
theorem q_if_ne_t {off : Int} {t : Nat} {x : Int32} (hd : mLk k pc = some (.ifCond .ne off, len)) (ht : (pc : Int) + off = (t : Int)) (hc : ¬ x = 0) (K : Wp sc d k (t) ls (r) w nc ns Q) : Wp sc d k pc ls (.int x :: r) w nc ns Q := q_ins hd (jmp_t (c := ¬ x = 0) ht hc) K
theorem q_if_ne_f {off : Int} {t : Nat} {x : Int32} (hd : mLk k pc = some (.ifCond .ne off, len)) (ht : (pc : Int) + off = (t : Int)) (hc : ¬ (¬ x = 0)) (K : Wp sc d k (pc + 3) ls (r) w nc ns Q) : Wp sc d k pc ls (.int x :: r) w nc ns Q := q_ins hd (jmp_f (c := ¬ x = 0) ht hc) K
theorem q_if_lt_t {off : Int} {t : Nat} {x : Int32} (hd : mLk k pc = some (.ifCond .lt off, len)) (ht : (pc : Int) + off = (t : Int)) (hc : x < 0) (K : Wp sc d k (t) ls (r) w nc ns Q) : Wp sc d k pc ls (.int x :: r) w nc ns Q := q_ins hd (jmp_t (c := x < 0) ht hc) K
theorem q_if_lt_f {off : Int} {t : Nat} {x : Int32} (hd : mLk k pc = some (.ifCond .lt off, len)) (ht : (pc : Int) + off = (t : Int)) (hc : ¬ (x < 0)) (K : Wp sc d k (pc + 3) ls (r) w nc ns Q) : Wp sc d k pc ls (.int x :: r) w nc ns Q := q_ins hd (jmp_f (c := x < 0) ht hc) K
theorem q_if_ge_t {off : Int} {t : Nat} {x : Int32} (hd : mLk k pc = some (.ifCond .ge off, len)) (ht : (pc : Int) + off = (t : Int)) (hc : 0 ≤ x) (K : Wp sc d k (t) ls (r) w nc ns Q) : Wp sc d k pc ls (.int x :: r) w nc ns Q := q_ins hd (jmp_t (c := 0 ≤ x) ht hc) K
theorem q_if_ge_f {off : Int} {t : Nat} {x : Int32} (hd : mLk k pc = some (.ifCond .ge off, len)) (ht : (pc : Int) + off = (t : Int)) (hc : ¬ (0 ≤ x)) (K : Wp sc d k (pc + 3) ls (r) w nc ns Q) : Wp sc d k pc ls (.int x :: r) w nc ns Q := q_ins hd (jmp_f (c := 0 ≤ x) ht hc) K
theorem q_if_gt_t {off : Int} {t : Nat} {x : Int32} (hd : mLk k pc = some (.ifCond .gt off, len)) (ht : (pc : Int) + off = (t : Int)) (hc : 0 < x) (K : Wp sc d k (t) ls (r) w nc ns Q) : Wp sc d k pc ls (.int x :: r) w nc ns Q := q_ins hd (jmp_t (c := 0 < x) ht hc) K
theorem q_if_gt_f {off : Int} {t : Nat} {x : Int32} (hd : mLk k pc = some (.ifCond .gt off, len)) (ht : (pc : Int) + off = (t : Int)) (hc : ¬ (0 < x)) (K : Wp sc d k (pc + 3) ls (r) w nc ns Q) : Wp sc d k pc ls (.int x :: r) w nc ns Q := q_ins hd (jmp_f (c := 0 < x) ht hc) K
theorem q_if_le_t {off : Int} {t : Nat} {x : Int32} (hd : mLk k pc = some (.ifCond .le off, len)) (ht : (pc : Int) + off = (t : Int)) (hc : x ≤ 0) (K : Wp sc d k (t) ls (r) w nc ns Q) : Wp sc d k pc ls (.int x :: r) w nc ns Q := q_ins hd (jmp_t (c := x ≤ 0) ht hc) K
theorem q_if_le_f {off : Int} {t : Nat} {x : Int32} (hd : mLk k pc = some (.ifCond .le off, len)) (ht : (pc : Int) + off = (t : Int)) (hc : ¬ (x ≤ 0)) (K : Wp sc d k (pc + 3) ls (r) w nc ns Q) : Wp sc d k pc ls (.int x :: r) w nc ns Q := q_ins hd (jmp_f (c := x ≤ 0) ht hc) K
theorem q_ic_eq_t {off : Int} {t : Nat} {x y : Int32} (hd : mLk k pc = some (.if_icmp .eq off, len)) (ht : (pc : Int) + off = (t : Int)) (hc : x = y) (K : Wp sc d k (t) ls (r) w nc ns Q) : Wp sc d k pc ls (.int y :: .int x :: r) w nc ns Q := q_ins hd (jmp_t (c := x = y) ht hc) K
theorem q_ic_eq_f {off : Int} {t : Nat} {x y : Int32} (hd : mLk k pc = some (.if_icmp .eq off, len)) (ht : (pc : Int) + off = (t : Int)) (hc : ¬ (x = y)) (K : Wp sc d k (pc + 3) ls (r) w nc ns Q) : Wp sc d k pc ls (.int y :: .int x :: r) w nc ns Q := q_ins hd (jmp_f (c := x = y) ht hc) K
theorem q_ic_ne_t {off : Int} {t : Nat} {x y : Int32} (hd : mLk k pc = some (.if_icmp .ne off, len)) (ht : (pc : Int) + off = (t : Int)) (hc : ¬ x = y) (K : Wp sc d k (t) ls (r) w nc ns Q) : Wp sc d k pc ls (.int y :: .int x :: r) w nc ns Q := q_ins hd (jmp_t (c := ¬ x = y) ht hc) K
theorem q_ic_ne_f {off : Int} {t : Nat} {x y : Int32} (hd : mLk k pc = some (.if_icmp .ne off, len)) (ht : (pc : Int) + off = (t : Int)) (hc : ¬ (¬ x = y)) (K : Wp sc d k (pc + 3) ls (r) w nc ns Q) : Wp sc d k pc ls (.int y :: .int x :: r) w nc ns Q := q_ins hd (jmp_f (c := ¬ x = y) ht hc) K
theorem q_ic_lt_t {off : Int} {t : Nat} {x y : Int32} (hd : mLk k pc = some (.if_icmp .lt off, len)) (ht : (pc : Int) + off = (t : Int)) (hc : x < y) (K : Wp sc d k (t) ls (r) w nc ns Q) : Wp sc d k pc ls (.int y :: .int x :: r) w nc ns Q := q_ins hd (jmp_t (c := x < y) ht hc) K
theorem q_ic_lt_f {off : Int} {t : Nat} {x y : Int32} (hd : mLk k pc = some (.if_icmp .lt off, len)) (ht : (pc : Int) + off = (t : Int)) (hc : ¬ (x < y)) (K : Wp sc d k (pc + 3) ls (r) w nc ns Q) : Wp sc d k pc ls (.int y :: .int x :: r) w nc ns Q := q_ins hd (jmp_f (c := x < y) ht hc) K
theorem q_ic_ge_t {off : Int} {t : Nat} {x y : Int32} (hd : mLk k pc = some (.if_icmp .ge off, len)) (ht : (pc : Int) + off = (t : Int)) (hc : y ≤ x) (K : Wp sc d k (t) ls (r) w nc ns Q) : Wp sc d k pc ls (.int y :: .int x :: r) w nc ns Q := q_ins hd (jmp_t (c := y ≤ x) ht hc) K
theorem q_ic_ge_f {off : Int} {t : Nat} {x y : Int32} (hd : mLk k pc = some (.if_icmp .ge off, len)) (ht : (pc : Int) + off = (t : Int)) (hc : ¬ (y ≤ x)) (K : Wp sc d k (pc + 3) ls (r) w nc ns Q) : Wp sc d k pc ls (.int y :: .int x :: r) w nc ns Q := q_ins hd (jmp_f (c := y ≤ x) ht hc) K
theorem q_ic_gt_t {off : Int} {t : Nat} {x y : Int32} (hd : mLk k pc = some (.if_icmp .gt off, len)) (ht : (pc : Int) + off = (t : Int)) (hc : y < x) (K : Wp sc d k (t) ls (r) w nc ns Q) : Wp sc d k pc ls (.int y :: .int x :: r) w nc ns Q := q_ins hd (jmp_t (c := y < x) ht hc) K
theorem q_ic_gt_f {off : Int} {t : Nat} {x y : Int32} (hd : mLk k pc = some (.if_icmp .gt off, len)) (ht : (pc : Int) + off = (t : Int)) (hc : ¬ (y < x)) (K : Wp sc d k (pc + 3) ls (r) w nc ns Q) : Wp sc d k pc ls (.int y :: .int x :: r) w nc ns Q := q_ins hd (jmp_f (c := y < x) ht hc) K
theorem q_ic_le_t {off : Int} {t : Nat} {x y : Int32} (hd : mLk k pc = some (.if_icmp .le off, len)) (ht : (pc : Int) + off = (t : Int)) (hc : x ≤ y) (K : Wp sc d k (t) ls (r) w nc ns Q) : Wp sc d k pc ls (.int y :: .int x :: r) w nc ns Q := q_ins hd (jmp_t (c := x ≤ y) ht hc) K
theorem q_ic_le_f {off : Int} {t : Nat} {x y : Int32} (hd : mLk k pc = some (.if_icmp .le off, len)) (ht : (pc : Int) + off = (t : Int)) (hc : ¬ (x ≤ y)) (K : Wp sc d k (pc + 3) ls (r) w nc ns Q) : Wp sc d k pc ls (.int y :: .int x :: r) w nc ns Q := q_ins hd (jmp_f (c := x ≤ y) ht hc) K
theorem q_tsw_o {dflt lo hi : Int} {offs : Array Int} {t : Nat} {x : Int32} (hd : mLk k pc = some (.tableswitch dflt lo hi offs, len)) (hx : x.toInt < lo ∨ hi < x.toInt) (ht : (pc : Int) + dflt = (t : Int)) (K : Wp sc d k (t) ls (r) w nc ns Q) : Wp sc d k pc ls (.int x :: r) w nc ns Q := q_ins hd (show a_tsw dflt lo hi offs pc ls (.int x :: r) w = some (t, ls, r, w, 0, 0) by unfold a_tsw; dsimp only; rw [if_pos hx]; exact to_of ht) K
theorem q_tsw_i {dflt lo hi off : Int} {offs : Array Int} {t : Nat} {x : Int32} (hd : mLk k pc = some (.tableswitch dflt lo hi offs, len)) (hx : ¬ (x.toInt < lo ∨ hi < x.toInt)) (ho : offs[(x.toInt - lo).toNat]? = some off) (ht : (pc : Int) + off = (t : Int)) (K : Wp sc d k (t) ls (r) w nc ns Q) : Wp sc d k pc ls (.int x :: r) w nc ns Q := q_ins hd (show a_tsw dflt lo hi offs pc ls (.int x :: r) w = some (t, ls, r, w, 0, 0) by unfold a_tsw; dsimp only; rw [if_neg hx, ho]; exact to_of ht) K
theorem q_lsw {dflt off : Int} {ps : Array (Int × Int)} {t : Nat} {x : Int32} (hd : mLk k pc = some (.lookupswitch dflt ps, len)) (hp : (ps.toList.zip (ps.toList.drop 1)).all (fun (a, next) => a.1 < next.1) = true) (ho : Op.lookupswitch.offset ps.toList dflt x.toInt = off) (ht : (pc : Int) + off = (t : Int)) (K : Wp sc d k (t) ls (r) w nc ns Q) : Wp sc d k pc ls (.int x :: r) w nc ns Q := q_ins hd (show a_lsw dflt ps pc ls (.int x :: r) w = some (t, ls, r, w, 0, 0) by unfold a_lsw; dsimp only; rw [if_pos hp, ho]; exact to_of ht) K
theorem q_get {x a ci f : Nat} {fs : List Value} {v : Value} (hd : mLk k pc = some (.getfield x, len)) (hk : a_lk (kF (mK k)) x = some (ci, f)) (hw : w[a]? = some (.inr (ci, fs))) (hv : fs[f]? = some v) (K : Wp sc d k (pc + 3) ls (v :: r) w nc ns Q) : Wp sc d k pc ls (.ref a :: r) w nc ns Q := q_ins hd (show a_get (mK k) x pc ls (.ref a :: r) w = some (pc + 3, ls, v :: r, w, 0, 0) by unfold a_get; dsimp only; rw [hk]; dsimp only; rw [hw]; dsimp only; rw [if_pos rfl, hv]; rfl) K
theorem q_put {x a ci f : Nat} {fs : List Value} {v : Value} (hd : mLk k pc = some (.putfield x, len)) (hk : a_lk (kF (mK k)) x = some (ci, f)) (hw : w[a]? = some (.inr (ci, fs))) (hc : f < fs.length ∧ (a_fit (YF ci f) v = true ∧ ((TF ci f).2.2.2 = false ∨ (mD k = 2 ∧ mK k = ci)))) (K : Wp sc d k (pc + 3) ls (r) (w.set a (.inr (ci, fs.set f v))) nc ns Q) : Wp sc d k pc ls (v :: .ref a :: r) w nc ns Q := q_ins hd (show a_put k x pc ls (v :: .ref a :: r) w = some (pc + 3, ls, r, w.set a (.inr (ci, fs.set f v)), 0, 0) by unfold a_put; dsimp only; rw [hk]; dsimp only; rw [hw]; dsimp only; rw [if_pos ⟨⟨rfl, hc.1⟩, hc.2⟩]; rfl) K
theorem q_iaload {i x : Int32} {a : Nat} {l : List Int32} (hd : mLk k pc = some (.iaload, len)) (hi : 0 ≤ i) (ha : ¬ a = a_SC) (hw : w[a]? = some (.inl (0, .inl l))) (hx : l[i.toNatClampNeg]? = some x) (K : Wp sc d k (pc + 1) ls (.int x :: r) w nc ns Q) : Wp sc d k pc ls (.int i :: .ref a :: r) w nc ns Q := q_ins hd (show a_ild 0 sc pc ls (.int i :: .ref a :: r) w = some (pc + 1, ls, .int x :: r, w, 0, 0) by unfold a_ild; dsimp only; rw [if_pos hi, if_neg (fun h => ha h.1), hw]; dsimp only; rw [if_pos rfl, hx]; rfl) K
theorem q_baload {i x : Int32} {a : Nat} {l : List Int32} (hd : mLk k pc = some (.baload, len)) (hi : 0 ≤ i) (ha : ¬ a = a_SC) (hw : w[a]? = some (.inl (1, .inl l))) (hx : l[i.toNatClampNeg]? = some x) (K : Wp sc d k (pc + 1) ls (.int x :: r) w nc ns Q) : Wp sc d k pc ls (.int i :: .ref a :: r) w nc ns Q := q_ins hd (show a_ild 1 sc pc ls (.int i :: .ref a :: r) w = some (pc + 1, ls, .int x :: r, w, 0, 0) by unfold a_ild; dsimp only; rw [if_pos hi, if_neg (fun h => ha h.1), hw]; dsimp only; rw [if_pos rfl, hx]; rfl) K
theorem q_script {i x : Int32} (hd : mLk k pc = some (.iaload, len)) (hi : 0 ≤ i) (hx : sc[i.toNatClampNeg]? = some x) (K : Wp sc d k (pc + 1) ls (.int x :: r) w nc ns Q) : Wp sc d k pc ls (.int i :: .ref a_SC :: r) w nc ns Q := q_ins hd (show a_ild 0 sc pc ls (.int i :: .ref a_SC :: r) w = some (pc + 1, ls, .int x :: r, w, 0, 0) by unfold a_ild; dsimp only; rw [if_pos hi, if_pos ⟨rfl, rfl⟩, hx]; rfl) K
theorem q_laload {i : Int32} {x : Int64} {a : Nat} {l : List Int64} (hd : mLk k pc = some (.laload, len)) (hi : 0 ≤ i) (hw : w[a]? = some (.inl (2, .inr l))) (hx : l[i.toNatClampNeg]? = some x) (K : Wp sc d k (pc + 1) ls (.long x :: r) w nc ns Q) : Wp sc d k pc ls (.int i :: .ref a :: r) w nc ns Q := q_ins hd (show a_lld pc ls (.int i :: .ref a :: r) w = some (pc + 1, ls, .long x :: r, w, 0, 0) by unfold a_lld; dsimp only; rw [if_pos hi, hw]; dsimp only; rw [if_pos rfl, hx]; rfl) K
theorem q_iastore {i x : Int32} {a : Nat} {l : List Int32} (hd : mLk k pc = some (.iastore, len)) (hi : 0 ≤ i) (hw : w[a]? = some (.inl (0, .inl l))) (hl : i.toNatClampNeg < l.length) (K : Wp sc d k (pc + 1) ls (r) (w.set a (.inl (0, .inl (l.set i.toNatClampNeg (x))))) nc ns Q) : Wp sc d k pc ls (.int x :: .int i :: .ref a :: r) w nc ns Q := q_ins hd (show a_ist pc ls (.int x :: .int i :: .ref a :: r) w = some (pc + 1, ls, r, w.set a (.inl (0, .inl (l.set i.toNatClampNeg (x)))), 0, 0) by unfold a_ist; dsimp only; rw [if_pos hi, hw]; dsimp only; rw [if_pos ⟨rfl, hl⟩]; rfl) K
theorem q_bastore {i x : Int32} {a : Nat} {l : List Int32} (hd : mLk k pc = some (.bastore, len)) (hi : 0 ≤ i) (hw : w[a]? = some (.inl (1, .inl l))) (hl : i.toNatClampNeg < l.length) (K : Wp sc d k (pc + 1) ls (r) (w.set a (.inl (1, .inl (l.set i.toNatClampNeg (x.toInt8.toInt32))))) nc ns Q) : Wp sc d k pc ls (.int x :: .int i :: .ref a :: r) w nc ns Q := q_ins hd (show a_bst pc ls (.int x :: .int i :: .ref a :: r) w = some (pc + 1, ls, r, w.set a (.inl (1, .inl (l.set i.toNatClampNeg (x.toInt8.toInt32)))), 0, 0) by unfold a_bst; dsimp only; rw [if_pos hi, hw]; dsimp only; rw [if_pos ⟨rfl, hl⟩]; rfl) K
theorem q_lastore {i : Int32} {x : Int64} {a : Nat} {l : List Int64} (hd : mLk k pc = some (.lastore, len)) (hi : 0 ≤ i) (hw : w[a]? = some (.inl (2, .inr l))) (hl : i.toNatClampNeg < l.length) (K : Wp sc d k (pc + 1) ls (r) (w.set a (.inl (2, .inr (l.set i.toNatClampNeg x)))) nc ns Q) : Wp sc d k pc ls (.long x :: .int i :: .ref a :: r) w nc ns Q := q_ins hd (show a_lst pc ls (.long x :: .int i :: .ref a :: r) w = some (pc + 1, ls, r, w.set a (.inl (2, .inr (l.set i.toNatClampNeg x))), 0, 0) by unfold a_lst; dsimp only; rw [if_pos hi, hw]; dsimp only; rw [if_pos ⟨rfl, hl⟩]; rfl) K
theorem q_slen (hd : mLk k pc = some (.arraylength, len)) (K : Wp sc d k (pc + 1) ls (.int (Int32.ofNat sc.length) :: r) w nc ns Q) : Wp sc d k pc ls (.ref a_SC :: r) w nc ns Q := q_ins hd (show a_aln sc pc ls (.ref a_SC :: r) w = some (pc + 1, ls, .int (Int32.ofNat sc.length) :: r, w, 0, 0) by unfold a_aln; dsimp only; rw [if_pos rfl]; rfl) K
end WPR
