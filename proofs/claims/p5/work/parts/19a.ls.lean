/-! ===== a run needs of its slots only those that it reads ===== -/
noncomputable def a_lsi : Instr → Bool
  | .iload _ => true | .iload_n _ => true | .lload _ => true | .lload_n _ => true | .aload _ => true | .aload_n _ => true
  | .istore _ => true | .istore_n _ => true | .lstore _ => true | .lstore_n _ => true | .astore _ => true | .astore_n _ => true
  | .iinc _ _ => true
  | _ => false
abbrev a_sl (ls : AL) (q : AN) : AN := (q.1, ls, q.2.2)
theorem sln_pass {d pc : Nat} {st : List Value} {w : AW} (ls : AL) : a_sln d pc ls st w = (a_sln d pc [] st w).map (a_sl ls) := by
  unfold a_sln
  split
  · rename_i a r
    by_cases h : (6 ≤ d ∧ a_cat r ≤ 8) ∧ (a_SB ≤ a ∧ a - a_SB < sN)
    · rw [if_pos h, if_pos h]; exact rfl
    · rw [if_neg h, if_neg h]; exact rfl
  · exact rfl
theorem sch_pass {d pc : Nat} {st : List Value} {w : AW} (ls : AL) : a_sch d pc ls st w = (a_sch d pc [] st w).map (a_sl ls) := by
  unfold a_sch
  split
  · rename_i i a r
    by_cases h : (6 ≤ d ∧ a_cat r ≤ 8) ∧ ((a_SB ≤ a ∧ a - a_SB < sN) ∧ 0 ≤ i)
    · rw [if_pos h, if_pos h]
      generalize (sB (a - a_SB))[i.toNatClampNeg]? = q
      cases q with
      | none => exact rfl
      | some x => exact rfl
    · rw [if_neg h, if_neg h]; exact rfl
  · exact rfl
set_option maxHeartbeats 8000000 in
theorem ins_pass {sc : List Int32} {d k pc : Nat} {st : List Value} {w : AW} {i : Instr} (hi : a_lsi i = false) (ls : AL) : ins sc d k pc ls st w i = (ins sc d k pc [] st w i).map (a_sl ls) := by
  cases i with
  | invokevirtual x =>
    show a_inv d k x pc ls st w = (a_inv d k x pc [] st w).map (a_sl ls)
    unfold a_inv
    split
    · exact sln_pass ls
    · exact sch_pass ls
    · exact rfl
  | ifCond c off => cases c <;> (simp only [ins, a_nx, a_to, a_jmp] ; repeat' (first | rfl | split))
  | if_icmp c off => cases c <;> (simp only [ins, a_nx, a_to, a_jmp] ; repeat' (first | rfl | split))
  | _ => first
    | (cases hi; done)
    | (simp only [ins, a_nx, a_to, a_jmp, a_i1, a_i2, a_i2z, a_l2, a_l2z, a_lcmp, a_i2l, a_ldc, a_ldc2, a_dup, a_pop, a_dup2, a_tsw, a_lsw, a_get, a_put, a_ild, a_lld, a_ist, a_bst, a_lst, a_aln, a_new, a_nwa, a_mth, a_abs, a_cpy, a_obj, a_ins, a_inp]
       repeat' (first | rfl | split))
    | rfl
noncomputable def lsub (l2 l : AL) : Prop := ∀ q ∈ l2, a_lk l q.1 = some q.2
theorem a_lk_cons {α : Type} {q : Nat × α} {r : List (Nat × α)} {i : Nat} : a_lk (q :: r) i = if q.1 = i then some q.2 else a_lk r i := by
  have e0 : a_lk (q :: r) i = (bif Nat.beq q.1 i then some q.2 else a_lk r i) := by
    show @Bool.rec (fun _ => Option α) (a_lk r i) (some q.2) (Nat.beq q.1 i) = _
    cases Nat.beq q.1 i <;> rfl
  rw [e0]
  by_cases h : q.1 = i
  · rw [if_pos h, h, Nat.beq_refl]; rfl
  · rw [if_neg h]
    have : Nat.beq q.1 i = false := by
      cases hb : Nat.beq q.1 i with
      | false => rfl
      | true => exact absurd (Nat.eq_of_beq_eq_true hb) h
    rw [this]
    rfl
theorem a_lk_fil {p : Nat × Value → Bool} {i : Nat} {v : Value} : ∀ {l : AL}, a_lk l i = some v → p (i, v) = true → a_lk (l.filter p) i = some v
  | [], h, _ => by cases h
  | q :: r, h, hp => by
    rw [a_lk_cons] at h
    by_cases e : q.1 = i
    · rw [if_pos e] at h
      obtain ⟨a, b⟩ := q
      cases h
      cases e
      rw [List.filter_cons_of_pos hp, a_lk_cons, if_pos rfl]
    · rw [if_neg e] at h
      have := a_lk_fil h hp
      by_cases hq : p q = true
      · rw [List.filter_cons_of_pos hq, a_lk_cons, if_neg e, this]
      · rw [List.filter_cons_of_neg hq, this]
theorem lsub_nil {l : AL} : lsub [] l := fun _ h => nomatch h
theorem lsub_cons {l r : AL} {i : Nat} {v : Value} (h : a_lk l i = some v) (h2 : lsub r l) : lsub ((i, v) :: r) l := fun q hq => by
  cases hq with
  | head => exact h
  | tail _ h3 => exact h2 q h3
theorem lsub_lk {l2 l : AL} {i : Nat} {v : Value} (h : lsub l2 l) (e : a_lk l2 i = some v) : a_lk l i = some v := h (i, v) (a_lk_mem e)
theorem lsub_s1 {l2 l : AL} {i : Nat} {v : Value} (h : lsub l2 l) : lsub (a_s1 l2 i v) (a_s1 l i v) := fun q hq => by
  unfold a_s1 at hq ⊢
  rw [a_lk_cons]
  cases hq with
  | head => exact if_pos rfl
  | tail _ h3 =>
    obtain ⟨h4, h5⟩ := List.mem_filter.mp h3
    have h6 : ¬ i = q.1 := fun e => by
      rw [e] at h5
      simp at h5
    dsimp only
    rw [if_neg h6]
    exact a_lk_fil (h q h4) h5
theorem lsub_s2 {l2 l : AL} {i : Nat} {v : Value} (h : lsub l2 l) : lsub (a_s2 l2 i v) (a_s2 l i v) := fun q hq => by
  unfold a_s2 at hq ⊢
  rw [a_lk_cons]
  cases hq with
  | head => exact if_pos rfl
  | tail _ h3 =>
    obtain ⟨h4, h5⟩ := List.mem_filter.mp h3
    have h6 : ¬ i = q.1 := fun e => by
      rw [e] at h5
      simp at h5
    dsimp only
    rw [if_neg h6]
    exact a_lk_fil (h q h4) h5
section LSM
variable {pc pc2 a b : Nat} {l2 l l3 : AL} {st st2 : List Value} {w w2 : AW}
theorem ldI_ls {i p : Nat} (h : lsub l2 l) (e : a_ldI (a_lk l2 i) p l2 st w = some (pc2, l3, st2, w2, a, b)) : ∃ l4, a_ldI (a_lk l i) p l st w = some (pc2, l4, st2, w2, a, b) ∧ lsub l3 l4 := by
  unfold a_ldI at e ⊢
  split at e
  · rename_i x hx
    rw [lsub_lk h hx]
    cases e
    exact ⟨l, rfl, h⟩
  · cases e
theorem ldL_ls {i p : Nat} (h : lsub l2 l) (e : a_ldL (a_lk l2 i) p l2 st w = some (pc2, l3, st2, w2, a, b)) : ∃ l4, a_ldL (a_lk l i) p l st w = some (pc2, l4, st2, w2, a, b) ∧ lsub l3 l4 := by
  unfold a_ldL at e ⊢
  split at e
  · rename_i x hx
    rw [lsub_lk h hx]
    cases e
    exact ⟨l, rfl, h⟩
  · cases e
theorem ldA_ls {i p : Nat} (h : lsub l2 l) (e : a_ldA (a_lk l2 i) p l2 st w = some (pc2, l3, st2, w2, a, b)) : ∃ l4, a_ldA (a_lk l i) p l st w = some (pc2, l4, st2, w2, a, b) ∧ lsub l3 l4 := by
  unfold a_ldA at e ⊢
  split at e
  · rename_i x hx
    rw [lsub_lk h hx]
    cases e
    exact ⟨l, rfl, h⟩
  · cases e
theorem stI_ls {n i p : Nat} (h : lsub l2 l) (e : a_stI n i p l2 st w = some (pc2, l3, st2, w2, a, b)) : ∃ l4, a_stI n i p l st w = some (pc2, l4, st2, w2, a, b) ∧ lsub l3 l4 := by
  unfold a_stI at e ⊢
  split at e
  · split at e
    · rename_i hi
      cases e
      exact ⟨_, if_pos hi, lsub_s1 h⟩
    · cases e
  · cases e
theorem stL_ls {n i p : Nat} (h : lsub l2 l) (e : a_stL n i p l2 st w = some (pc2, l3, st2, w2, a, b)) : ∃ l4, a_stL n i p l st w = some (pc2, l4, st2, w2, a, b) ∧ lsub l3 l4 := by
  unfold a_stL at e ⊢
  split at e
  · split at e
    · rename_i hi
      cases e
      exact ⟨_, if_pos hi, lsub_s2 h⟩
    · cases e
  · cases e
theorem stA_ls {n i p : Nat} (h : lsub l2 l) (e : a_stA n i p l2 st w = some (pc2, l3, st2, w2, a, b)) : ∃ l4, a_stA n i p l st w = some (pc2, l4, st2, w2, a, b) ∧ lsub l3 l4 := by
  unfold a_stA at e ⊢
  split at e
  · split at e
    · rename_i hi
      cases e
      exact ⟨_, if_pos hi, lsub_s1 h⟩
    · cases e
  · cases e
theorem inc_ls {n i p : Nat} {z : Int} (h : lsub l2 l) (e : a_inc n i z p l2 st w = some (pc2, l3, st2, w2, a, b)) : ∃ l4, a_inc n i z p l st w = some (pc2, l4, st2, w2, a, b) ∧ lsub l3 l4 := by
  unfold a_inc at e ⊢
  split at e
  · rename_i x hx
    rw [lsub_lk h hx]
    dsimp only
    split at e
    · rename_i hi
      cases e
      exact ⟨_, if_pos hi, lsub_s1 h⟩
    · cases e
  · cases e
theorem ins_ls {sc : List Int32} {d k : Nat} {i : Instr} (h : lsub l2 l) (e : ins sc d k pc l2 st w i = some (pc2, l3, st2, w2, a, b)) : ∃ l4, ins sc d k pc l st w i = some (pc2, l4, st2, w2, a, b) ∧ lsub l3 l4 := by
  cases hb : a_lsi i with
  | false =>
    rw [ins_pass hb l2] at e
    rw [ins_pass hb l]
    cases hq : ins sc d k pc [] st w i with
    | none => rw [hq] at e; cases e
    | some q =>
      rw [hq] at e
      obtain ⟨q1, q2, q3, q4, q5, q6⟩ := q
      cases e
      exact ⟨l, rfl, h⟩
  | true =>
    cases i with
    | iload n => exact ldI_ls h e
    | iload_n n => exact ldI_ls h e
    | lload n => exact ldL_ls h e
    | lload_n n => exact ldL_ls h e
    | aload n => exact ldA_ls h e
    | aload_n n => exact ldA_ls h e
    | istore n => exact stI_ls h e
    | istore_n n => exact stI_ls h e
    | lstore n => exact stL_ls h e
    | lstore_n n => exact stL_ls h e
    | astore n => exact stA_ls h e
    | astore_n n => exact stA_ls h e
    | iinc n z => exact inc_ls h e
    | _ => cases hb
end LSM
theorem lsi_fc {d k pc : Nat} {st : List Value} {w : AW} {i : Instr} (h : a_lsi i = true) : fin d k pc st i = none ∧ cal k st w i = none := by
  cases i <;> first
    | exact ⟨rfl, rfl⟩
    | cases h
theorem ev_ls {sc : List Int32} : ∀ {n d k pc : Nat} {l2 l : AL} {st : List Value} {w : AW} {nc ns : Nat} {r : AR}, lsub l2 l → ev sc n d k pc l2 st w nc ns = some r → ev sc n d k pc l st w nc ns = some r
  | 0, _, _, _, _, _, _, _, _, _, _, _, h => by cases h
  | n + 1, d, k, pc, l2, l, st, w, nc, ns, r, hl, h => by
    unfold ev at h ⊢
    split at h
    · cases h
    · rename_i i len hd
      try rw [hd]
      try dsimp only
      split at h
      · rename_i pc' ls' st' w' a b hi
        obtain ⟨l4, h1, h2⟩ := ins_ls hl hi
        rw [h1]
        exact ev_ls h2 h
      · rename_i hi
        cases hb : a_lsi i with
        | true =>
          obtain ⟨h1, h2⟩ := lsi_fc (d := d) (k := k) (pc := pc) (st := st) (w := w) hb
          rw [h1] at h
          dsimp only at h
          rw [h2] at h
          cases h
        | false =>
          have hi2 : ins sc d k pc l st w i = none := by
            rw [ins_pass hb l2] at hi
            rw [ins_pass hb l]
            cases hq : ins sc d k pc [] st w i with
            | none => rfl
            | some q => rw [hq] at hi; cases hi
          rw [hi2]
          try dsimp only
          split at h
          · rename_i o a b hf
            try rw [hf]
            exact h
          · rename_i hf
            try rw [hf]
            try dsimp only
            split at h
            · rename_i j ags rest hc
              try rw [hc]
              cases d with
              | zero => cases h
              | succ d' => exact bk_mono (fun _ _ _ _ _ hh => ev_ls hl hh) (fun _ hh => hh) h
            · cases h
theorem Wp_ls {sc : List Int32} {d k pc : Nat} (l2 : AL) {l : AL} {st : List Value} {w : AW} {nc ns : Nat} {Q : AR → Prop} (h : lsub l2 l) (K : Wp sc d k pc l2 st w nc ns Q) : Wp sc d k pc l st w nc ns Q := by
  obtain ⟨n, r, h1, h2⟩ := K
  exact ⟨n, r, ev_ls h h1, h2⟩
