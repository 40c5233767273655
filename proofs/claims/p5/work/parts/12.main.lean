/-! ===== the abstract machine's runs are runs of the real one ===== -/
section AMN
variable {p : Program} {l : Launch} {e : Env} {R : Room} {s : State} {m : MethodId} {args : Array Value} {below : List Frame} {meth : Method} {c : Code} {H : Heap} {locs : List Loc} {Q : State → Prop}
variable {adK adV : Nat → Nat} {b : Nat} {sc : List Int32} {D : va_G} {cA : Nat → ClassId} {A : Nat → Prop} {θ : Nat → Nat} {w : AW} {ls : AL} {st : List Value} {sl : Array Slot} {d k pc len nc ns : Nat} {N : AN}
set_option maxHeartbeats 4000000 in
theorem ins_len {i : Instr} (h : ins sc d k pc ls st w i = some N) : w.length ≤ N.2.2.2.1.length := by
  have nx : ∀ {pc : Nat} {ls : AL} {st : List Value}, a_nx pc ls st w = some N → w.length ≤ N.2.2.2.1.length := fun h => by rw [nx_inl h]; exact Nat.le_refl _
  have to_ : ∀ {pc : Nat} {off : Int} {ls : AL} {st : List Value}, a_to pc off ls st w = some N → w.length ≤ N.2.2.2.1.length := fun h => by
    obtain ⟨t, -, rfl⟩ := to_inl h; exact Nat.le_refl _
  have jm : ∀ {q : Prop} [Decidable q] {pc : Nat} {off : Int} {ls : AL} {st : List Value}, a_jmp q pc off ls st w = some N → w.length ≤ N.2.2.2.1.length := fun h => by
    obtain ⟨t, -, ⟨-, rfl⟩ | ⟨-, rfl⟩⟩ := jmp_inl h <;> exact Nat.le_refl _
  cases i with
  | iconst n => exact nx h
  | bipush n => exact nx h
  | sipush n => exact nx h
  | lconst n => exact nx h
  | ldc x => rcases ldc_inl (show a_ldc (mK k) x (pc + 2) ls st w = some N from h) with ⟨_, _, rfl⟩ | ⟨_, _, _, rfl⟩ <;> exact Nat.le_refl _
  | ldc_w x => rcases ldc_inl (show a_ldc (mK k) x (pc + 3) ls st w = some N from h) with ⟨_, _, rfl⟩ | ⟨_, _, _, rfl⟩ <;> exact Nat.le_refl _
  | ldc2_w x => obtain ⟨_, _, rfl⟩ := ldc2_inl (show a_ldc2 (mK k) x (pc + 3) ls st w = some N from h); exact Nat.le_refl _
  | iload i => obtain ⟨_, _, rfl⟩ := ldI_inl (show a_ldI (a_lk ls i) (pc + 2) ls st w = some N from h); exact Nat.le_refl _
  | iload_n i => obtain ⟨_, _, rfl⟩ := ldI_inl (show a_ldI (a_lk ls i) (pc + 1) ls st w = some N from h); exact Nat.le_refl _
  | lload i => obtain ⟨_, _, rfl⟩ := ldL_inl (show a_ldL (a_lk ls i) (pc + 2) ls st w = some N from h); exact Nat.le_refl _
  | lload_n i => obtain ⟨_, _, rfl⟩ := ldL_inl (show a_ldL (a_lk ls i) (pc + 1) ls st w = some N from h); exact Nat.le_refl _
  | aload i => obtain ⟨_, _, rfl⟩ := ldA_inl (show a_ldA (a_lk ls i) (pc + 2) ls st w = some N from h); exact Nat.le_refl _
  | aload_n i => obtain ⟨_, _, rfl⟩ := ldA_inl (show a_ldA (a_lk ls i) (pc + 1) ls st w = some N from h); exact Nat.le_refl _
  | istore i => obtain ⟨_, _, _, _, rfl⟩ := stI_inl (show a_stI (mX k) i (pc + 2) ls st w = some N from h); exact Nat.le_refl _
  | istore_n i => obtain ⟨_, _, _, _, rfl⟩ := stI_inl (show a_stI (mX k) i (pc + 1) ls st w = some N from h); exact Nat.le_refl _
  | lstore i => obtain ⟨_, _, _, _, rfl⟩ := stL_inl (show a_stL (mX k) i (pc + 2) ls st w = some N from h); exact Nat.le_refl _
  | lstore_n i => obtain ⟨_, _, _, _, rfl⟩ := stL_inl (show a_stL (mX k) i (pc + 1) ls st w = some N from h); exact Nat.le_refl _
  | astore i => obtain ⟨_, _, _, _, rfl⟩ := stA_inl (show a_stA (mX k) i (pc + 2) ls st w = some N from h); exact Nat.le_refl _
  | astore_n i => obtain ⟨_, _, _, _, rfl⟩ := stA_inl (show a_stA (mX k) i (pc + 1) ls st w = some N from h); exact Nat.le_refl _
  | iinc i z => obtain ⟨_, _, _, rfl⟩ := inc_inl (show a_inc (mX k) i z pc ls st w = some N from h); exact Nat.le_refl _
  | iadd => obtain ⟨_, _, _, _, rfl⟩ := i2_inl (show a_i2 _ pc ls st w = some N from h); exact Nat.le_refl _
  | isub => obtain ⟨_, _, _, _, rfl⟩ := i2_inl (show a_i2 _ pc ls st w = some N from h); exact Nat.le_refl _
  | imul => obtain ⟨_, _, _, _, rfl⟩ := i2_inl (show a_i2 _ pc ls st w = some N from h); exact Nat.le_refl _
  | iand => obtain ⟨_, _, _, _, rfl⟩ := i2_inl (show a_i2 _ pc ls st w = some N from h); exact Nat.le_refl _
  | ior => obtain ⟨_, _, _, _, rfl⟩ := i2_inl (show a_i2 _ pc ls st w = some N from h); exact Nat.le_refl _
  | ixor => obtain ⟨_, _, _, _, rfl⟩ := i2_inl (show a_i2 _ pc ls st w = some N from h); exact Nat.le_refl _
  | ishl => obtain ⟨_, _, _, _, rfl⟩ := i2_inl (show a_i2 _ pc ls st w = some N from h); exact Nat.le_refl _
  | ishr => obtain ⟨_, _, _, _, rfl⟩ := i2_inl (show a_i2 _ pc ls st w = some N from h); exact Nat.le_refl _
  | iushr => obtain ⟨_, _, _, _, rfl⟩ := i2_inl (show a_i2 _ pc ls st w = some N from h); exact Nat.le_refl _
  | idiv => obtain ⟨_, _, _, _, _, rfl⟩ := i2z_inl (show a_i2z _ pc ls st w = some N from h); exact Nat.le_refl _
  | irem => obtain ⟨_, _, _, _, _, rfl⟩ := i2z_inl (show a_i2z _ pc ls st w = some N from h); exact Nat.le_refl _
  | ineg => obtain ⟨_, _, _, rfl⟩ := i1_inl (show a_i1 _ pc ls st w = some N from h); exact Nat.le_refl _
  | i2b => obtain ⟨_, _, _, rfl⟩ := i1_inl (show a_i1 _ pc ls st w = some N from h); exact Nat.le_refl _
  | i2l => obtain ⟨_, _, _, rfl⟩ := i2l_inl (show a_i2l pc ls st w = some N from h); exact Nat.le_refl _
  | ladd => obtain ⟨_, _, _, _, rfl⟩ := l2_inl (show a_l2 _ pc ls st w = some N from h); exact Nat.le_refl _
  | lmul => obtain ⟨_, _, _, _, rfl⟩ := l2_inl (show a_l2 _ pc ls st w = some N from h); exact Nat.le_refl _
  | ldiv => obtain ⟨_, _, _, _, _, rfl⟩ := l2z_inl (show a_l2z _ pc ls st w = some N from h); exact Nat.le_refl _
  | lrem => obtain ⟨_, _, _, _, _, rfl⟩ := l2z_inl (show a_l2z _ pc ls st w = some N from h); exact Nat.le_refl _
  | lcmp => obtain ⟨_, _, _, _, rfl⟩ := lcmp_inl (show a_lcmp pc ls st w = some N from h); exact Nat.le_refl _
  | dup => obtain ⟨_, _, _, _, rfl⟩ := dup_inl (show a_dup pc ls st w = some N from h); exact Nat.le_refl _
  | pop => obtain ⟨_, _, _, _, rfl⟩ := pop_inl (show a_pop pc ls st w = some N from h); exact Nat.le_refl _
  | dup2 => obtain ⟨_, _, _, _, _, rfl⟩ := dup2_inl (show a_dup2 pc ls st w = some N from h); exact Nat.le_refl _
  | goto off => exact to_ h
  | ifCond q off => cases q <;> (obtain ⟨_, _, rfl, h1⟩ := m1_inl (f := fun x r => _) h; exact jm h1)
  | if_icmp q off => cases q <;> (obtain ⟨_, _, _, rfl, h1⟩ := m2_inl (f := fun x y r => _) h; exact jm h1)
  | tableswitch dflt lo hi offs => obtain ⟨_, _, rfl, ⟨_, h1⟩ | ⟨_, _, _, h1⟩⟩ := tsw_inl (show a_tsw dflt lo hi offs pc ls st w = some N from h) <;> exact to_ h1
  | lookupswitch dflt ps => obtain ⟨_, _, rfl, _, h1⟩ := lsw_inl (show a_lsw dflt ps pc ls st w = some N from h); exact to_ h1
  | getfield x => obtain ⟨_, _, _, _, _, _, _, _, _, _, rfl⟩ := get_inl (show a_get (mK k) x pc ls st w = some N from h); exact Nat.le_refl _
  | putfield x => obtain ⟨_, _, _, _, _, _, _, _, _, _, _, _, rfl⟩ := put_inl (show a_put k x pc ls st w = some N from h); simp
  | iaload => obtain ⟨_, _, _, _, _, _, rfl, _⟩ := ild_inl (show a_ild 0 sc pc ls st w = some N from h); exact Nat.le_refl _
  | baload => obtain ⟨_, _, _, _, _, _, rfl, _⟩ := ild_inl (show a_ild 1 sc pc ls st w = some N from h); exact Nat.le_refl _
  | laload => obtain ⟨_, _, _, _, _, _, _, rfl, _⟩ := lld_inl (show a_lld pc ls st w = some N from h); exact Nat.le_refl _
  | iastore => obtain ⟨_, _, _, _, _, _, _, _, _, rfl⟩ := ist_inl (show a_ist pc ls st w = some N from h); simp
  | bastore => obtain ⟨_, _, _, _, _, _, _, _, _, rfl⟩ := bst_inl (show a_bst pc ls st w = some N from h); simp
  | lastore => obtain ⟨_, _, _, _, _, _, _, _, _, rfl⟩ := lst_inl (show a_lst pc ls st w = some N from h); simp
  | arraylength => obtain ⟨_, _, _, ⟨_, rfl⟩ | ⟨_, _, _, _, rfl⟩ | ⟨_, _, rfl⟩⟩ := aln_inl (show a_aln sc pc ls st w = some N from h) <;> exact Nat.le_refl _
  | new x => obtain ⟨_, _, _, _, rfl⟩ := new_inl (show a_new k x pc ls st w = some N from h); simp
  | newarray ty => obtain ⟨_, _, _, _, _, _, ⟨_, rfl⟩ | ⟨_, rfl⟩ | ⟨_, rfl⟩⟩ := nwa_inl (show a_nwa ty pc ls st w = some N from h) <;> simp
  | invokevirtual x =>
    have h1 : a_inv d k x pc ls st w = some N := h
    unfold a_inv at h1
    split at h1
    · obtain ⟨_, _, _, _, _, rfl⟩ := sln_inl h1; exact Nat.le_refl _
    · obtain ⟨_, _, _, _, _, _, _, _, _, rfl⟩ := sch_inl h1; exact Nat.le_refl _
    · cases h1
  | invokestatic x =>
    have h1 : a_ins d k x pc ls st w = some N := h
    unfold a_ins at h1
    split at h1
    · obtain ⟨_, _, _, _, _, rfl⟩ := mth_inl h1; exact Nat.le_refl _
    · obtain ⟨_, _, _, _, _, rfl⟩ := mth_inl h1; exact Nat.le_refl _
    · obtain ⟨_, _, _, _, rfl⟩ := abs_inl h1; exact Nat.le_refl _
    · obtain ⟨_, _, _, _, _, _, _, _, _, _, _, _, _, _, _, rfl⟩ := cpy_inl h1; simp
    · cases h1
  | invokespecial x =>
    have h1 : a_inp d k x pc ls st w = some N := h
    unfold a_inp at h1
    split at h1
    · obtain ⟨_, _, _, _, rfl⟩ := obj_inl h1; exact Nat.le_refl _
    · cases h1
  | _ => cases h
theorem s_all {i : Instr} (hX : a_X adK adV b sc D cA A p l R s m args meth c d k) (hI : a_I D cA adK b A s H locs θ w) (hF : a_F θ w (mX k) sl ls st) (hd : mLk k pc = some (i, len)) (h0 : ins sc d k pc ls st w i = some N) (hr : nc + N.2.2.2.2.1 ≤ R.cells ∧ ns + N.2.2.2.2.2 ≤ R.slots) (K : a_Go adK b D cA A p l e R s m args below meth c Q k θ w nc ns N) : W p l e R s m args below meth c H locs nc ns Q (F0 m pc sl (st.map (a_V θ))) := by
  cases i with
  | iconst n => exact s_iconst hX hI hF hd h0 hr K
  | bipush n => exact s_bipush hX hI hF hd h0 hr K
  | sipush n => exact s_sipush hX hI hF hd h0 hr K
  | lconst n => exact s_lconst hX hI hF hd h0 hr K
  | ldc x => exact s_ldc hX hI hF hd h0 hr K
  | ldc_w x => exact s_ldcw hX hI hF hd h0 hr K
  | ldc2_w x => exact s_ldc2 hX hI hF hd h0 hr K
  | iload i => exact s_iload hX hI hF hd h0 hr K
  | iload_n i => exact s_iloadn hX hI hF hd h0 hr K
  | lload i => exact s_lload hX hI hF hd h0 hr K
  | lload_n i => exact s_lloadn hX hI hF hd h0 hr K
  | aload i => exact s_aload hX hI hF hd h0 hr K
  | aload_n i => exact s_aloadn hX hI hF hd h0 hr K
  | istore i => exact s_istore hX hI hF hd h0 hr K
  | istore_n i => exact s_istoren hX hI hF hd h0 hr K
  | lstore i => exact s_lstore hX hI hF hd h0 hr K
  | lstore_n i => exact s_lstoren hX hI hF hd h0 hr K
  | astore i => exact s_astore hX hI hF hd h0 hr K
  | astore_n i => exact s_astoren hX hI hF hd h0 hr K
  | iinc i z => exact s_iinc hX hI hF hd h0 hr K
  | iadd => exact s_iadd hX hI hF hd h0 hr K
  | isub => exact s_isub hX hI hF hd h0 hr K
  | imul => exact s_imul hX hI hF hd h0 hr K
  | iand => exact s_iand hX hI hF hd h0 hr K
  | ior => exact s_ior hX hI hF hd h0 hr K
  | ixor => exact s_ixor hX hI hF hd h0 hr K
  | ishl => exact s_ishl hX hI hF hd h0 hr K
  | ishr => exact s_ishr hX hI hF hd h0 hr K
  | iushr => exact s_iushr hX hI hF hd h0 hr K
  | idiv => exact s_idiv hX hI hF hd h0 hr K
  | irem => exact s_irem hX hI hF hd h0 hr K
  | ineg => exact s_ineg hX hI hF hd h0 hr K
  | i2b => exact s_i2b hX hI hF hd h0 hr K
  | i2l => exact s_i2l hX hI hF hd h0 hr K
  | ladd => exact s_ladd hX hI hF hd h0 hr K
  | lmul => exact s_lmul hX hI hF hd h0 hr K
  | ldiv => exact s_ldiv hX hI hF hd h0 hr K
  | lrem => exact s_lrem hX hI hF hd h0 hr K
  | lcmp => exact s_lcmp hX hI hF hd h0 hr K
  | dup => exact s_dup hX hI hF hd h0 hr K
  | pop => exact s_pop hX hI hF hd h0 hr K
  | dup2 => exact s_dup2 hX hI hF hd h0 hr K
  | goto off => exact s_goto hX hI hF hd h0 hr K
  | ifCond q off =>
    cases q with
    | eq => exact s_if_eq hX hI hF hd h0 hr K
    | ne => exact s_if_ne hX hI hF hd h0 hr K
    | lt => exact s_if_lt hX hI hF hd h0 hr K
    | ge => exact s_if_ge hX hI hF hd h0 hr K
    | gt => exact s_if_gt hX hI hF hd h0 hr K
    | le => exact s_if_le hX hI hF hd h0 hr K
  | if_icmp q off =>
    cases q with
    | eq => exact s_ic_eq hX hI hF hd h0 hr K
    | ne => exact s_ic_ne hX hI hF hd h0 hr K
    | lt => exact s_ic_lt hX hI hF hd h0 hr K
    | ge => exact s_ic_ge hX hI hF hd h0 hr K
    | gt => exact s_ic_gt hX hI hF hd h0 hr K
    | le => exact s_ic_le hX hI hF hd h0 hr K
  | tableswitch dflt lo hi offs => exact s_tsw hX hI hF hd h0 hr K
  | lookupswitch dflt ps => exact s_lsw hX hI hF hd h0 hr K
  | getfield x => exact s_getfield hX hI hF hd h0 hr K
  | putfield x => exact s_putfield hX hI hF hd h0 hr K
  | iaload => exact s_iaload hX hI hF hd h0 hr K
  | baload => exact s_baload hX hI hF hd h0 hr K
  | laload => exact s_laload hX hI hF hd h0 hr K
  | iastore => exact s_iastore hX hI hF hd h0 hr K
  | bastore => exact s_bastore hX hI hF hd h0 hr K
  | lastore => exact s_lastore hX hI hF hd h0 hr K
  | arraylength => exact s_arraylength hX hI hF hd h0 hr K
  | new x => exact s_new hX hI hF hd h0 hr K
  | newarray ty => exact s_newarray hX hI hF hd h0 hr K
  | invokevirtual x => exact s_ivirt hX hI hF hd h0 hr K
  | invokestatic x => exact s_istat hX hI hF hd h0 hr K
  | invokespecial x => exact s_ispec hX hI hF hd h0 hr K
  | _ => cases h0
end AMN
