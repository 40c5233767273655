/-! ===== behind the law's constructors ===== -/
/-- does the instruction look at the script? -/
noncomputable def scd (st : List Value) (i : Instr) : Bool := match i, st with
  | .iaload, .int _ :: .ref a :: _ => Nat.beq a a_SC
  | .arraylength, .ref a :: _ => Nat.beq a a_SC
  | _, _ => false
theorem nb_ne {a b : Nat} (h : Nat.beq a b = false) : ¬ a = b := fun e => by rw [e, Nat.beq_refl] at h; cases h
theorem scd_ok {sc : List Int32} {d k pc : Nat} {ls : AL} {st : List Value} {w : AW} {i : Instr} (h : scd st i = false) : ins sc d k pc ls st w i = ins [] d k pc ls st w i := by
  cases i with
  | iaload =>
    show a_ild 0 sc pc ls st w = a_ild 0 [] pc ls st w
    unfold a_ild
    split
    · have h1 := nb_ne (show Nat.beq _ a_SC = false from h)
      split
      · rw [if_neg (fun q => h1 q.1), if_neg (fun q => h1 q.1)]
      · rfl
    · rfl
  | baload =>
    show a_ild 1 sc pc ls st w = a_ild 1 [] pc ls st w
    unfold a_ild
    split
    · split
      · rw [if_neg (fun q => nomatch q.2), if_neg (fun q => nomatch q.2)]
      · rfl
    · rfl
  | arraylength =>
    show a_aln sc pc ls st w = a_aln [] pc ls st w
    unfold a_aln
    split
    · have h1 := nb_ne (show Nat.beq _ a_SC = false from h)
      rw [if_neg h1, if_neg h1]
    · rfl
  | ifCond c off => cases c <;> rfl
  | if_icmp c off => cases c <;> rfl
  | _ => rfl
/-- ev, where it never looks at the script -/
noncomputable def ev0 : Nat → Nat → Nat → Nat → AL → List Value → AW → Nat → Nat → Option AR
  | 0, _, _, _, _, _, _, _, _ => none
  | n + 1, d, k, pc, ls, st, w, nc, ns => match mLk k pc with
    | none => none
    | some (i, _) => if scd st i = true then none else match ins [] d k pc ls st w i with
      | some (pc', ls', st', w', a, b) => ev0 n d k pc' ls' st' w' (nc + a) (ns + b)
      | none => match fin d k pc st i with
        | some (o, a, b) => some (o, w, nc + a, ns + b)
        | none => match cal k st w i with
          | some (j, ags, rest) => (match d with
            | 0 => none
            | d' + 1 => a_bk k pc j rest nc ns (fun st' w' a b => ev0 n d k (pc + 3) ls st' w' a b) (ev0 n d' j 0 (lv_args 0 ags) [] w 0 0))
          | none => none
theorem ev0_ev {sc : List Int32} : ∀ {n d k pc : Nat} {ls : AL} {st : List Value} {w : AW} {nc ns : Nat} {r : AR}, ev0 n d k pc ls st w nc ns = some r → ev sc n d k pc ls st w nc ns = some r
  | 0, _, _, _, _, _, _, _, _, _, h => by cases h
  | n + 1, d, k, pc, ls, st, w, nc, ns, r, h => by
    unfold ev0 at h
    unfold ev
    split at h
    · cases h
    · rename_i i len hd
      try rw [hd]
      try dsimp only
      split at h
      · cases h
      · rename_i hs
        rw [scd_ok (Bool.eq_false_iff.mpr hs)]
        split at h
        · rename_i pc' ls' st' w' a b hi
          try rw [hi]
          exact ev0_ev h
        · rename_i hi
          try rw [hi]
          try dsimp only
          split at h
          · rename_i o a b hf
            try rw [hf]
            exact h
          · rename_i hf
            try rw [hf]
            try dsimp only
            split at h
            · rename_i j ags rest hc
              try rw [hc]
              cases d with
              | zero => cases h
              | succ d' => exact bk_mono (fun _ _ _ _ _ hh => ev0_ev hh) (fun _ hh => ev0_ev hh) h
            · cases h
/-- so many instructions of one frame, its calls run through -/
noncomputable def rn0 : Nat → Nat → Nat → Nat → AL → List Value → AW → Nat → Nat → Option AN
  | 0, _, _, pc, ls, st, w, nc, ns => some (pc, ls, st, w, nc, ns)
  | n + 1, d, k, pc, ls, st, w, nc, ns => match mLk k pc with
    | none => none
    | some (i, _) => if scd st i = true then none else match ins [] d k pc ls st w i with
      | some (pc', ls', st', w', a, b) => rn0 n d k pc' ls' st' w' (nc + a) (ns + b)
      | none => match fin d k pc st i with
        | some _ => none
        | none => match cal k st w i with
          | some (j, ags, rest) => (match d with
            | 0 => none
            | d' + 1 => match ev0 1000000 d' j 0 (lv_args 0 ags) [] w 0 0 with
              | some (.inl v, w', a, b) => rn0 n d k (pc + 3) ls (v.toList ++ rest) w' (nc + a) (ns + b)
              | _ => none)
          | none => none
theorem rn0_wp {sc : List Int32} {Q : AR → Prop} : ∀ {n d k pc : Nat} {ls : AL} {st : List Value} {w : AW} {nc ns pc' : Nat} {ls' : AL} {st' : List Value} {w' : AW} {a b : Nat}, rn0 n d k pc ls st w nc ns = some (pc', ls', st', w', a, b) → Wp sc d k pc' ls' st' w' a b Q → Wp sc d k pc ls st w nc ns Q
  | 0, _, _, _, _, _, _, _, _, _, _, _, _, _, _, h, K => by cases h; exact K
  | n + 1, d, k, pc, ls, st, w, nc, ns, _, _, _, _, _, _, h, K => by
    unfold rn0 at h
    split at h
    · cases h
    · rename_i i len hd
      split at h
      · cases h
      · rename_i hs
        have hs' := scd_ok (sc := sc) (d := d) (k := k) (pc := pc) (ls := ls) (w := w) (Bool.eq_false_iff.mpr hs)
        split at h
        · rename_i pc' ls' st' w' a b hi
          exact q_ins hd (hs'.trans hi) (rn0_wp h K)
        · rename_i hi
          split at h
          · cases h
          · rename_i hf
            split at h
            · rename_i j ags rest hc
              cases d with
              | zero => cases h
              | succ d' =>
                dsimp only at h
                split at h
                · rename_i v w' a b he
                  exact q_cal (Q0 := fun v0 w0 a0 b0 => (v0, w0, a0, b0) = (v, w', a, b)) hd (hs'.trans hi) hf hc ⟨_, _, ev0_ev he, v, rfl, rfl⟩ (fun v0 w0 a0 b0 e => by cases e; exact rn0_wp h K)
                · cases h
            · cases h
noncomputable def w1 : AW := [
  .inr (7, [.ref 1, .ref 3, .ref 7, .ref 9, .ref 10, .ref 11, .ref 12, .ref 13, .ref 25, .ref 37, .ref 39, .int 0, .int 0, .int 0]),
  .inr (5, [.ref 2, .int 0, .int 0, .int 0, .int 0, .int (-1)]),
  .inl (1, .inl (List.replicate 600 0)),
  .inr (1, [.ref 4, .ref 5, .ref 6, .int 0, .int 0]),
  .inl (0, .inl (List.replicate 544 0)),
  .inl (0, .inl (List.replicate 1734 0)),
  .inl (0, .inl (List.replicate 3 0)),
  .inr (3, [.ref 8, .int 0, .int 0, .int 0, .int 0]),
  .inl (0, .inl (List.replicate 190 0)),
  .inr (6, [.int 0]),
  .inl (0, .inl (List.replicate 24 0)),
  .inl (0, .inl (List.replicate 6 0)),
  .inl (0, .inl (List.replicate 4 0)),
  .inr (2, [.int 0, .int 0, .int 0, .int 5, .int 0, .int 0, .ref 14, .ref 15, .ref 16, .ref 17, .ref 18, .ref 19, .ref 20]),
  .inl (0, .inl (List.replicate 24 0)),
  .inl (0, .inl (List.replicate 12 0)),
  .inl (0, .inl (List.replicate 4 0)),
  .inl (0, .inl (List.replicate 8 0)),
  .inl (0, .inl (List.replicate 8 0)),
  .inl (0, .inl ([-1, -1, -1, -1])),
  .inr (0, [.ref 21, .ref 22, .ref 23, .ref 24, .int 0, .int 0]),
  .inl (0, .inl (List.replicate 150 0)),
  .inl (0, .inl (List.replicate 150 0)),
  .inl (0, .inl (List.replicate 150 0)),
  .inl (0, .inl (List.replicate 8 0)),
  .inr (2, [.int 0, .int 0, .int 0, .int 5, .int 0, .int 0, .ref 26, .ref 27, .ref 28, .ref 29, .ref 30, .ref 31, .ref 32]),
  .inl (0, .inl (List.replicate 24 0)),
  .inl (0, .inl (List.replicate 12 0)),
  .inl (0, .inl (List.replicate 4 0)),
  .inl (0, .inl (List.replicate 8 0)),
  .inl (0, .inl (List.replicate 8 0)),
  .inl (0, .inl ([-1, -1, -1, -1])),
  .inr (0, [.ref 33, .ref 34, .ref 35, .ref 36, .int 0, .int 0]),
  .inl (0, .inl (List.replicate 150 0)),
  .inl (0, .inl (List.replicate 150 0)),
  .inl (0, .inl (List.replicate 150 0)),
  .inl (0, .inl (List.replicate 8 0)),
  .inr (4, [.ref 38, .ref 13]),
  .inl (0, .inl (List.replicate 34 0)),
  .inr (4, [.ref 40, .ref 13]),
  .inl (0, .inl (List.replicate 34 0)),
  .inr (8, [.int 0, .ref 42, .int 0, .int 0, .int 0, .int 0, .int 0, .int 0, .int (-1), .ref 43, .ref 44, .ref 45, .ref 46, .ref 47, .ref 48, .ref 49, .int 0, .int 0, .int 0, .int 5, .int 0, .int 0, .int 0, .int 5, .ref 50, .ref 51, .ref 52, .ref 53, .ref 54, .int 0, .int 0, .ref 55, .ref 56, .ref 57, .int 0, .int 0, .int 0, .int 0, .int 0, .int 0, .ref 58, .ref 59, .ref 60, .ref 61, .ref 62, .ref 63, .ref 64, .int 0, .int 0, .ref 65, .int 0, .ref 66, .int 0]),
  .inl (0, .inl (List.replicate 2 0)),
  .inl (0, .inl (List.replicate 600 0)),
  .inl (0, .inl (List.replicate 24 0)),
  .inl (0, .inl (List.replicate 12 0)),
  .inl (0, .inl (List.replicate 4 0)),
  .inl (0, .inl (List.replicate 24 0)),
  .inl (0, .inl (List.replicate 12 0)),
  .inl (0, .inl (List.replicate 4 0)),
  .inl (0, .inl (List.replicate 150 0)),
  .inl (0, .inl (List.replicate 150 0)),
  .inl (0, .inl (List.replicate 150 0)),
  .inl (0, .inl (List.replicate 150 0)),
  .inl (0, .inl (List.replicate 150 0)),
  .inl (0, .inl (List.replicate 8 0)),
  .inl (0, .inl (List.replicate 250 0)),
  .inl (0, .inl (List.replicate 250 0)),
  .inl (0, .inl (List.replicate 37 0)),
  .inl (0, .inl (List.replicate 37 0)),
  .inl (0, .inl (List.replicate 592 0)),
  .inl (0, .inl (List.replicate 8 0)),
  .inl (0, .inl (List.replicate 8 0)),
  .inl (0, .inl (List.replicate 4 0)),
  .inl (0, .inl ([-1, -1, -1, -1])),
  .inl (2, .inr (List.replicate 14 0)),
  .inl (0, .inl (List.replicate 1890 0)),
  .inl (2, .inr (List.replicate 1 0))]
noncomputable def l1 : AL := [(4, .int 0), (3, .ref 67), (2, .ref 41), (1, .ref 0), (0, .ref a_SC)]
noncomputable def w1_is (x : Option AN) : Bool := match x with
  | some (pc, ls, st, w, a, b) => (Nat.beq pc 23 && (Nat.beq a 68 && Nat.beq b 8870)) && (decide (ls = l1) && (st.isEmpty && decide (w = w1)))
  | none => false
set_option maxRecDepth 1000000 in
theorem w1_b : w1_is (rn0 13 100 296 0 [(0, .ref a_SC)] [] [] 0 0) = true := by decide +kernel
theorem w1_of {x : Option AN} (h : w1_is x = true) : x = some (23, l1, [], w1, 68, 8870) := by
  unfold w1_is at h
  split at h
  · simp only [Bool.and_eq_true, decide_eq_true_eq, List.isEmpty_iff] at h
    obtain ⟨⟨h1, h2, h3⟩, h4, h5, h6⟩ := h
    rw [Nat.eq_of_beq_eq_true h1, Nat.eq_of_beq_eq_true h2, Nat.eq_of_beq_eq_true h3, h4, h5, h6]
  · cases h
theorem w1_ok : rn0 13 100 296 0 [(0, .ref a_SC)] [] [] 0 0 = some (23, l1, [], w1, 68, 8870) := w1_of w1_b
theorem q_w1 {sc : List Int32} {Q : AR → Prop} (K : Wp sc 100 296 23 l1 [] w1 68 8870 Q) : Wp sc 100 296 0 [(0, .ref a_SC)] [] [] 0 0 Q := rn0_wp w1_ok K
